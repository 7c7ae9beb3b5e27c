/-! ===== texts: a scan from left to right ===== -/
def bOf (c : Int32) : Int32 := if c = 117 then 2 else if c = 100 then 3 else if c = 113 then 4 else 0
abbrev SS : Type := Nat × Nat × Bool
def stp (s : SS) (c : Int32) : Option SS :=
  if c = 39 then (if s.2.2 = true then some (s.1, s.2.1, false) else none)
  else if c = 47 then (if s.2.1 = 0 ∨ s.1 = 9 then none else some (s.1 + 1, 0, false))
  else if bOf c = 0 ∨ s.2.1 = 12 then none else some (s.1, s.2.1 + 1, true)
def scn (p : Nat → Int32) : Nat → Option SS
  | 0 => some (0, 0, false)
  | i + 1 => match scn p i with
    | none => none
    | some s => stp s (p i)
def cF (p : Nat → Int32) : Nat → (Nat → Int32)
  | 0 => fun _ => 0
  | i + 1 => match scn p i with
    | none => cF p i
    | some s => if p i = 39 then upd (cF p i) (12 * s.1 + s.2.1 - 1) (cF p i (12 * s.1 + s.2.1 - 1) + 10) else if p i = 47 then cF p i else upd (cF p i) (12 * s.1 + s.2.1) (bOf (p i))
def cM (p : Nat → Int32) : Nat → (Nat → Nat)
  | 0 => fun _ => 0
  | i + 1 => match scn p i with
    | none => cM p i
    | some s => if p i = 39 then cM p i else if p i = 47 then (fun l => if l = s.1 + 1 then 0 else cM p i l) else (fun l => if l = s.1 then s.2.1 + 1 else cM p i l)
theorem scn_s {p : Nat → Int32} {i : Nat} {s : SS} (h : scn p i = some s) : scn p (i + 1) = stp s (p i) := by rw [scn, h]
theorem cF_s {p : Nat → Int32} {i : Nat} {s : SS} (h : scn p i = some s) : cF p (i + 1) = if p i = 39 then upd (cF p i) (12 * s.1 + s.2.1 - 1) (cF p i (12 * s.1 + s.2.1 - 1) + 10) else if p i = 47 then cF p i else upd (cF p i) (12 * s.1 + s.2.1) (bOf (p i)) := by rw [cF, h]
theorem cM_s {p : Nat → Int32} {i : Nat} {s : SS} (h : scn p i = some s) : cM p (i + 1) = if p i = 39 then cM p i else if p i = 47 then (fun l => if l = s.1 + 1 then 0 else cM p i l) else (fun l => if l = s.1 then s.2.1 + 1 else cM p i l) := by rw [cM, h]
theorem bOf_in {c : Int32} (h : ¬ bOf c = 0) : bOf c = 2 ∨ bOf c = 3 ∨ bOf c = 4 := by
  unfold bOf at *
  split
  · exact Or.inl rfl
  · split
    · exact Or.inr (Or.inl rfl)
    · split
      · exact Or.inr (Or.inr rfl)
      · rename_i h1 h2 h3
        rw [if_neg h1, if_neg h2, if_neg h3] at h
        exact absurd rfl h
theorem bOf_not {c : Int32} (h : ¬ bOf c = 0) : ¬ c = 39 ∧ ¬ c = 47 := by
  refine ⟨fun e => h ?_, fun e => h ?_⟩ <;> rw [e] <;> decide
/-- what the scan keeps -/
def ScI (p : Nat → Int32) (i : Nat) (s : SS) : Prop := s.1 ≤ 9 ∧ s.2.1 ≤ 12 ∧ cM p i s.1 = s.2.1 ∧ (∀ l, l < s.1 → 1 ≤ cM p i l ∧ cM p i l ≤ 12) ∧ (∀ l f, l ≤ s.1 → f < cM p i l → footOK (cF p i (12 * l + f))) ∧ (s.2.2 = true → 1 ≤ s.2.1 ∧ (cF p i (12 * s.1 + s.2.1 - 1) = 2 ∨ cF p i (12 * s.1 + s.2.1 - 1) = 3 ∨ cF p i (12 * s.1 + s.2.1 - 1) = 4))
theorem scn_I (p : Nat → Int32) : ∀ (i : Nat) (s : SS), scn p i = some s → ScI p i s
  | 0, s, h => by
    rw [scn] at h
    cases h
    exact ⟨Nat.zero_le _, Nat.zero_le _, rfl, fun l hl => by simp at hl, fun l f _ hf => by simp [cM] at hf, fun hh => by simp at hh⟩
  | i + 1, s, h => by
    cases h0 : scn p i with
    | none => rw [scn, h0] at h; cases h
    | some t =>
      obtain ⟨i1, i2, i3, i4, i5, i6⟩ := scn_I p i t h0
      rw [scn_s h0] at h
      unfold ScI
      rw [cF_s h0, cM_s h0]
      unfold stp at h
      by_cases c1 : p i = 39
      · rw [if_pos c1] at h ⊢
        rw [if_pos c1]
        by_cases c2 : t.2.2 = true
        · rw [if_pos c2] at h
          cases h
          obtain ⟨j1, j2⟩ := i6 c2
          refine ⟨i1, i2, i3, i4, fun l f hl hf => ?_, fun hh => by simp at hh⟩
          by_cases e : 12 * l + f = 12 * t.1 + t.2.1 - 1
          · rw [e, upd_s]
            unfold footOK
            rcases j2 with j | j | j <;> rw [j] <;> decide
          · rw [upd_n _ _ _ e]
            exact i5 l f hl hf
        · rw [if_neg c2] at h; cases h
      · rw [if_neg c1] at h ⊢
        rw [if_neg c1]
        by_cases c3 : p i = 47
        · rw [if_pos c3] at h ⊢
          rw [if_pos c3]
          by_cases c4 : t.2.1 = 0 ∨ t.1 = 9
          · rw [if_pos c4] at h; cases h
          · rw [if_neg c4] at h
            cases h
            refine ⟨by dsimp only; omega, Nat.zero_le _, by simp, fun l hl => ?_, fun l f hl hf => ?_, fun hh => by simp at hh⟩
            · dsimp only at hl ⊢
              rw [if_neg (by omega)]
              by_cases e : l = t.1
              · subst e; omega
              · exact i4 l (by omega)
            · dsimp only at hl hf
              by_cases e : l = t.1 + 1
              · rw [if_pos e] at hf; omega
              · rw [if_neg e] at hf
                exact i5 l f (by omega) hf
        · rw [if_neg c3] at h ⊢
          rw [if_neg c3]
          by_cases c4 : bOf (p i) = 0 ∨ t.2.1 = 12
          · rw [if_pos c4] at h; cases h
          · rw [if_neg c4] at h
            cases h
            have hb := bOf_in (fun q => c4 (Or.inl q))
            have hf2 : footOK (bOf (p i)) := by unfold footOK; rcases hb with q | q | q <;> rw [q] <;> decide
            refine ⟨i1, by dsimp only; omega, by simp, fun l hl => ?_, fun l f hl hf => ?_, fun _ => ⟨by dsimp only; omega, ?_⟩⟩
            · dsimp only at hl ⊢
              rw [if_neg (by omega)]
              exact i4 l hl
            · dsimp only at hl hf
              by_cases e : 12 * l + f = 12 * t.1 + t.2.1
              · rw [e, upd_s]; exact hf2
              · rw [upd_n _ _ _ e]
                by_cases e2 : l = t.1
                · rw [if_pos e2] at hf
                  exact i5 l f hl (by subst e2; omega)
                · rw [if_neg e2] at hf
                  exact i5 l f hl hf
            · dsimp only
              rw [show 12 * t.1 + (t.2.1 + 1) - 1 = 12 * t.1 + t.2.1 from by omega, upd_s]
              exact hb
/-- the fault at i -/
def FA (p : Nat → Int32) (n i : Nat) : Prop := (i < n ∧ ∃ s, scn p i = some s ∧ stp s (p i) = none) ∨ (i = n ∧ ∃ s : SS, scn p n = some s ∧ s.2.1 = 0)
/-- no fault -/
def FN (p : Nat → Int32) (n : Nat) : Prop := ∃ s : SS, scn p n = some s ∧ ¬ s.2.1 = 0
theorem scn_mono {p : Nat → Int32} {i : Nat} (h : scn p i = none) : ∀ j, i ≤ j → scn p j = none := by
  intro j hj
  induction j with
  | zero =>
    have : i = 0 := by omega
    subst this; exact h
  | succ j ih =>
    by_cases e : i = j + 1
    · subst e; exact h
    · rw [scn, ih (by omega)]
theorem FA_none {p : Nat → Int32} {n i : Nat} (h : FA p n i) (hi : i < n) : scn p (i + 1) = none := by
  rcases h with ⟨-, s, h1, h2⟩ | ⟨h1, -⟩
  · rw [scn_s h1, h2]
  · omega
theorem FA_some {p : Nat → Int32} {n i : Nat} (h : FA p n i) : ∃ s, scn p i = some s := by
  rcases h with ⟨-, s, h1, -⟩ | ⟨h1, s, h2, -⟩
  · exact ⟨s, h1⟩
  · subst h1; exact ⟨s, h2⟩
theorem FA_le {p : Nat → Int32} {n i : Nat} (h : FA p n i) : i ≤ n := by
  rcases h with ⟨h1, -⟩ | ⟨h1, -⟩ <;> omega
theorem FA_uniq {p : Nat → Int32} {n i j : Nat} (h : FA p n i) (h2 : FA p n j) : i = j := by
  rcases Nat.lt_trichotomy i j with q | q | q
  · have := scn_mono (FA_none h (by have := FA_le h2; omega)) j (by omega)
    obtain ⟨s, hs⟩ := FA_some h2
    rw [this] at hs; cases hs
  · exact q
  · have := scn_mono (FA_none h2 (by have := FA_le h; omega)) i (by omega)
    obtain ⟨s, hs⟩ := FA_some h
    rw [this] at hs; cases hs
theorem FA_FN {p : Nat → Int32} {n i : Nat} (h : FA p n i) : ¬ FN p n := by
  rintro ⟨s, h1, h2⟩
  rcases h with ⟨hi, t, h3, h4⟩ | ⟨-, t, h3, h4⟩
  · have := scn_mono (show scn p (i + 1) = none by rw [scn_s h3, h4]) n (by omega)
    rw [this] at h1; cases h1
  · rw [h3] at h1; cases h1; exact h2 h4
/-- what is told agrees with the scan -/
def Agr (p : Nat → Int32) (i L : Nat) (tf tm : Nat → Int32) : Prop := ∀ l, l < L → (tm l).toInt = cM p i l ∧ ∀ f, f < cM p i l → tf (12 * l + f) = cF p i (12 * l + f)
/-- at the head of a line's feet -/
def Syn (p : Nat → Int32) (n sp L : Nat) (tf tm : Nat → Int32) : Prop := ∃ s : SS, scn p sp = some s ∧ s.1 = L ∧ (s.2.2 = true → ¬ (sp < n ∧ p sp = 39)) ∧ (tm L).toInt = s.2.1 ∧ Agr p sp (L + 1) tf tm
abbrev footS (p : Nat → Int32) (n sp : Nat) : Prop := sp < n ∧ ¬ bOf (p sp) = 0
abbrev mkS (p : Nat → Int32) (n sp : Nat) : Prop := sp + 1 < n ∧ p (sp + 1) = 39
theorem notFoot {p : Nat → Int32} {n sp : Nat} (h1 : ¬ (sp < n ∧ p sp = 117)) (h2 : ¬ (sp < n ∧ p sp = 100)) (h3 : ¬ (sp < n ∧ p sp = 113)) : ¬ footS p n sp := by
  rintro ⟨g1, g2⟩
  apply g2
  unfold bOf
  rw [if_neg (fun q => h1 ⟨g1, q⟩), if_neg (fun q => h2 ⟨g1, q⟩), if_neg (fun q => h3 ⟨g1, q⟩)]
/-- at a line's start -/
def SynL (p : Nat → Int32) (sp L : Nat) (tf tm : Nat → Int32) : Prop := (∃ s : SS, scn p sp = some s ∧ s = (L, 0, false)) ∧ Agr p sp L tf tm
theorem Syn_0 {p : Nat → Int32} {n sp L : Nat} {tf tm : Nat → Int32} (h : SynL p sp L tf tm) : Syn p n sp L tf (upd tm L 0) := by
  obtain ⟨⟨s, h1, h2⟩, h3⟩ := h
  subst h2
  have hI := scn_I p sp _ h1
  have h4 : cM p sp L = 0 := hI.2.2.1
  refine ⟨_, h1, rfl, fun q => by simp at q, by rw [upd_s]; rfl, fun l hl => ?_⟩
  by_cases e : l = L
  · subst e
    rw [upd_s, h4]
    exact ⟨by decide, fun f hf => by omega⟩
  · rw [upd_n _ _ _ e]
    exact h3 l (by omega)
theorem Syn_F {p : Nat → Int32} {n sp L : Nat} {tf tm : Nat → Int32} (h : Syn p n sp L tf tm) : 0 ≤ (tm L).toInt ∧ (tm L).toInt ≤ 12 := by
  obtain ⟨s, h1, h2, h3, h4, h5⟩ := h
  have hI := scn_I p sp _ h1
  have := hI.2.1
  omega
theorem Agr_foot {p : Nat → Int32} {sp L F : Nat} {mk : Bool} {tf tm : Nat → Int32} (h1 : scn p sp = some (L, F, mk)) (h5 : Agr p sp (L + 1) tf tm) (ht : (tm L).toInt = F) (hb : ¬ bOf (p sp) = 0) (hF : ¬ F = 12) : scn p (sp + 1) = some (L, F + 1, true) ∧ cF p (sp + 1) = upd (cF p sp) (12 * L + F) (bOf (p sp)) ∧ Agr p (sp + 1) (L + 1) (upd tf (12 * L + F) (bOf (p sp))) (upd tm L (tm L + 1)) := by
  obtain ⟨n1, n2⟩ := bOf_not hb
  have hI := scn_I p sp _ h1
  obtain ⟨i1, i2, i3, i4, -, -⟩ := hI
  dsimp only at i1 i2 i3 i4
  have e1 : scn p (sp + 1) = some (L, F + 1, true) := by
    rw [scn_s h1, stp, if_neg n1, if_neg n2, if_neg (fun q => q.elim hb hF)]
  have e2 : cF p (sp + 1) = upd (cF p sp) (12 * L + F) (bOf (p sp)) := by rw [cF_s h1, if_neg n1, if_neg n2]
  have e3 : cM p (sp + 1) = fun l => if l = L then F + 1 else cM p sp l := by rw [cM_s h1, if_neg n1, if_neg n2]
  refine ⟨e1, e2, fun l hl => ?_⟩
  rw [e2, e3]
  dsimp only
  by_cases e : l = L
  · subst e
    rw [upd_s, if_pos rfl, xi_add (b := 1) ht (by decide) (by omega) (by omega)]
    refine ⟨by omega, fun f hf => ?_⟩
    by_cases q : f = F
    · subst q; rw [upd_s, upd_s]
    · rw [upd_n _ _ _ (by omega), upd_n _ _ _ (by omega)]
      exact (h5 l (by omega)).2 f (by omega)
  · rw [upd_n _ _ _ e, if_neg e]
    have hc := i4 l (by omega)
    refine ⟨(h5 l (by omega)).1, fun f hf => ?_⟩
    rw [upd_n _ _ _ (by omega), upd_n _ _ _ (by omega)]
    exact (h5 l (by omega)).2 f hf
theorem Syn_s {p : Nat → Int32} {n L : Nat} {sp sp1 : Int32} {tf tm tf1 tm1 : Nat → Int32} (h0 : 0 ≤ sp.toInt) (h : Syn p n sp.toInt.toNat L tf tm) (h12 : (tm L).toInt < 12)
    (b : footS p n sp.toInt.toNat ∧ ((mkS p n sp.toInt.toNat ∧ sp1.toInt = sp.toInt + 2 ∧ tf1 = upd tf (12 * L + (tm L).toInt.toNat) (bOf (p sp.toInt.toNat) + 10)) ∨ (¬ mkS p n sp.toInt.toNat ∧ sp1.toInt = sp.toInt + 1 ∧ tf1 = upd tf (12 * L + (tm L).toInt.toNat) (bOf (p sp.toInt.toNat)))) ∧ tm1 = upd tm L (tm L + 1)) : Syn p n sp1.toInt.toNat L tf1 tm1 := by
  obtain ⟨s, h1, h2, h3, h4, h5⟩ := h
  obtain ⟨L', F, mk⟩ := s
  dsimp only at h2 h3 h4
  subst h2
  obtain ⟨⟨b0, b1⟩, b2, b3⟩ := b
  obtain ⟨g1, g2, g3⟩ := Agr_foot h1 h5 h4 b1 (by omega)
  have hF : (tm L').toInt.toNat = F := by omega
  rw [hF] at b2
  have ht : (tm1 L').toInt = F + 1 := by rw [b3, upd_s, xi_add (b := 1) h4 (by decide) (by omega) (by omega)]
  rcases b2 with ⟨m1, m2, m3⟩ | ⟨m1, m2, m3⟩
  · have e : sp1.toInt.toNat = sp.toInt.toNat + 1 + 1 := by omega
    rw [e]
    refine ⟨(L', F + 1, false), ?_, rfl, fun q => by simp at q, by rw [ht]; rfl, fun l hl => ?_⟩
    · rw [scn_s g1, stp, if_pos m1.2]; rfl
    · have e2 : cF p (sp.toInt.toNat + 1 + 1) = upd (cF p (sp.toInt.toNat + 1)) (12 * L' + F) (cF p (sp.toInt.toNat + 1) (12 * L' + F) + 10) := by
        rw [cF_s g1, if_pos m1.2]; rfl
      have e3 : cM p (sp.toInt.toNat + 1 + 1) = cM p (sp.toInt.toNat + 1) := by rw [cM_s g1, if_pos m1.2]
      obtain ⟨q1, q2⟩ := g3 l hl
      rw [e2, e3, b3, m3]
      refine ⟨q1, fun f hf => ?_⟩
      have q3 := q2 f hf
      by_cases e4 : 12 * l + f = 12 * L' + F
      · rw [e4, upd_s, upd_s, g2, upd_s]
      · rw [upd_n _ _ _ e4, upd_n _ _ _ e4]
        rw [upd_n _ _ _ e4] at q3
        exact q3
  · have e : sp1.toInt.toNat = sp.toInt.toNat + 1 := by omega
    rw [e]
    refine ⟨(L', F + 1, true), g1, rfl, fun _ => m1, by rw [ht]; rfl, ?_⟩
    rw [b3, m3]
    exact g3
theorem SynL_0 (p : Nat → Int32) (tf tm : Nat → Int32) : SynL p 0 0 tf tm := ⟨⟨_, rfl, rfl⟩, fun l hl => by omega⟩
theorem SynL_next {p : Nat → Int32} {n G : Nat} {sp sp1 : Int32} {tf tm : Nat → Int32} (h0 : 0 ≤ sp.toInt) (h : Syn p n sp.toInt.toNat G tf tm) (hG : G + 1 ≤ 9 ∧ 0 < (tm G).toInt) (_b : sp.toInt < n) (hc : p sp.toInt.toNat = 47) (hs : sp1.toInt = sp.toInt + 1) : SynL p sp1.toInt.toNat (G + 1) tf tm := by
  obtain ⟨s, h1, h2, h3, h4, h5⟩ := h
  obtain ⟨L, F, mk⟩ := s
  dsimp only at h2 h3 h4
  subst h2
  have e : sp1.toInt.toNat = sp.toInt.toNat + 1 := by omega
  have n39 : ¬ p sp.toInt.toNat = 39 := by rw [hc]; decide
  have e1 : scn p (sp.toInt.toNat + 1) = some (L + 1, 0, false) := by
    rw [scn_s h1, stp, if_neg n39, if_pos hc]
    dsimp only
    rw [if_neg (by omega)]
  have e2 : cF p (sp.toInt.toNat + 1) = cF p sp.toInt.toNat := by rw [cF_s h1, if_neg n39, if_pos hc]
  have e3 : cM p (sp.toInt.toNat + 1) = fun l => if l = L + 1 then 0 else cM p sp.toInt.toNat l := by rw [cM_s h1, if_neg n39, if_pos hc]
  rw [e]
  refine ⟨⟨_, e1, rfl⟩, fun l hl => ?_⟩
  rw [e2, e3]
  dsimp only
  rw [if_neg (by omega)]
  exact h5 l hl
/-- the whole text is told -/
def PadT (p : Nat → Int32) (n : Nat) (gl : Int32) (tf tm : Nat → Int32) : Prop := ∃ s : SS, scn p n = some s ∧ ¬ s.2.1 = 0 ∧ gl.toInt = s.1 + 1 ∧ Agr p n (s.1 + 1) tf tm
theorem Syn_end {p : Nat → Int32} {n G sp : Nat} {gl : Int32} {tf tm : Nat → Int32} (h : Syn p n sp G tf tm) (hp : 0 < (tm G).toInt) (he : sp = n) (hg : gl.toInt = G + 1) : FN p n ∧ PadT p sp gl tf tm := by
  subst he
  obtain ⟨s, h1, h2, h3, h4, h5⟩ := h
  have h6 : ¬ s.2.1 = 0 := by omega
  exact ⟨⟨s, h1, h6⟩, s, h1, h6, by omega, by rw [h2]; exact h5⟩
theorem Syn_fault0 {p : Nat → Int32} {n G sp : Nat} {tf tm : Nat → Int32} (h : Syn p n sp G tf tm) (hz : (tm G).toInt = 0) (hle : sp ≤ n) (hf : ¬ footS p n sp) : FA p n sp := by
  obtain ⟨s, h1, h2, h3, h4, h5⟩ := h
  have h6 : s.2.1 = 0 := by omega
  by_cases q : sp < n
  · refine Or.inl ⟨q, s, h1, ?_⟩
    have hb : bOf (p sp) = 0 := Decidable.byContradiction (fun hh => hf ⟨q, hh⟩)
    have hI := scn_I p sp s h1
    unfold stp
    split
    · split
      · next hm => have := (hI.2.2.2.2.2 hm).1; omega
      · rfl
    · split
      · rw [if_pos (Or.inl h6)]
      · rw [if_pos (Or.inl hb)]
  · have : sp = n := by omega
    subst this
    exact Or.inr ⟨rfl, s, h1, h6⟩
theorem Syn_fault1 {p : Nat → Int32} {n G sp : Nat} {tf tm : Nat → Int32} (h : Syn p n sp G tf tm) (hs : (tm G).toInt = 12 ∨ ¬ footS p n sp) (hlt : sp < n) (hl : G = 9 ∨ ¬ (sp < n ∧ p sp = 47)) : FA p n sp := by
  obtain ⟨s, h1, h2, h3, h4, h5⟩ := h
  refine Or.inl ⟨hlt, s, h1, ?_⟩
  unfold stp
  split
  · next h39 =>
    split
    · next hm => exact absurd ⟨hlt, h39⟩ (h3 hm)
    · rfl
  · split
    · next h47 =>
      have h9 : s.1 = 9 := hl.elim (fun q => by omega) (fun q => absurd ⟨hlt, h47⟩ q)
      rw [if_pos (Or.inr h9)]
    · rw [if_pos]
      rcases hs with q | q
      · exact Or.inr (by omega)
      · exact Or.inl (Decidable.byContradiction (fun hh => q ⟨hlt, hh⟩))
