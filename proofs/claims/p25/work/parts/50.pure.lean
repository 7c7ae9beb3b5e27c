/-! ===== what holds between the calls of the law ===== -/
def BD (bd : Int) (z : Nat → Int32) : Prop := (0 ≤ (z 174).toInt ∧ (z 174).toInt ≤ bd) ∧ (0 ≤ (z 186).toInt ∧ (z 186).toInt ≤ bd) ∧ InvP z
def Mud (c : Nat → Nat → Int32) : Prop := (∀ j : Nat, j < 120 → c 3 j = 0 ∨ c 3 j = 1) ∧ ∀ j : Nat, j < 12 → c 6 j = 0 ∨ c 6 j = 1
def StOK (bd : Int) (c : Nat → Nat → Int32) (z : Nat → Int32) : Prop := RS c z ∧ InvZ z ∧ BD bd z ∧ ∀ k : Nat, k < 15 → c 8 k = z (mI k)
def RH (bd : Int) (cs : Nat → Nat → Nat → Int32) (old sz : Int32) (past : Nat → Int32) : Prop := ∀ i : Nat, (i : Int) < sz.toInt → StOK bd (cs ((old.toInt.toNat + i) % 6)) (fun j => past (190 * i + j))
def RL2 (bd : Int) (sc : Nat → Nat → Nat → Int32) (sv slots : Nat → Int32) : Prop := ∀ i : Nat, i < 2 → ¬ sv i = 0 → StOK bd (sc i) (fun j => slots (190 * i + j))
def LI (bd : Int) (c : Nat → Nat → Int32) (cs sc : Nat → Nat → Nat → Int32) (sv : Nat → Int32) (ln old sz : Int32) (z past slots : Nat → Int32) : Prop := RS c z ∧ InvZ z ∧ BD bd z ∧ ((0 ≤ old.toInt ∧ old.toInt ≤ 5) ∧ (0 ≤ sz.toInt ∧ sz.toInt ≤ 6) ∧ 0 ≤ ln.toInt ∧ ln.toInt ≤ 60) ∧ (∀ i : Nat, i < 6 → Mud (cs i)) ∧ (∀ i : Nat, i < 2 → Mud (sc i)) ∧ RH bd cs old sz past ∧ RL2 bd sc sv slots
theorem BD_mono {a b : Int} {z : Nat → Int32} (h : a ≤ b) (i : BD a z) : BD b z := by
  obtain ⟨⟨h1, h2⟩, ⟨h3, h4⟩, h5⟩ := i
  exact ⟨⟨h1, by omega⟩, ⟨h3, by omega⟩, h5⟩
theorem StOK_mono {a b : Int} {c : Nat → Nat → Int32} {z : Nat → Int32} (h : a ≤ b) (i : StOK a c z) : StOK b c z := ⟨i.1, i.2.1, BD_mono h i.2.2.1, i.2.2.2⟩
theorem LI_mono {a b : Int} {c : Nat → Nat → Int32} {cs sc : Nat → Nat → Nat → Int32} {sv : Nat → Int32} {ln old sz : Int32} {z past slots : Nat → Int32} (h : a ≤ b) (i : LI a c cs sc sv ln old sz z past slots) : LI b c cs sc sv ln old sz z past slots :=
  ⟨i.1, i.2.1, BD_mono h i.2.2.1, i.2.2.2.1, i.2.2.2.2.1, i.2.2.2.2.2.1, fun k hk => StOK_mono h (i.2.2.2.2.2.2.1 k hk), fun k hk h2 => StOK_mono h (i.2.2.2.2.2.2.2 k hk h2)⟩
theorem InvZ_c {z w : Nat → Int32} (h : ∀ k, k < 190 → w k = z k) (i : InvZ z) : InvZ w := by
  have lo : ∀ k, k < 174 → w k = z k := fun k hk => h k (by omega)
  obtain ⟨i1, i2, i3, i4, i5, i6⟩ := i
  refine ⟨SetOK_c lo i1, SongOK_c lo i2, RoadOK_c lo i3, SPos_c lo (h _ (by omega)) (h _ (by omega)) (h _ (by omega)) i2 i4, RPos_c lo (h _ (by omega)) (h _ (by omega)) (h _ (by omega)) i3 i5, ?_⟩
  unfold LOK at *
  rw [h 182 (by omega)]
  exact i6
theorem RS_c {c : Nat → Nat → Int32} {z w : Nat → Int32} (h : ∀ k, k < 174 → w k = z k) (i : InvZ z) (r : RS c z) : RS c w := ⟨RSet_c h r.1, RSong_c h i.2.1 r.2.1, RRoad_c h i.2.2.1 r.2.2.1, r.2.2.2⟩
theorem mI_lt (k : Nat) : mI k < 190 := by
  unfold mI
  split <;> omega
theorem StOK_c {bd : Int} {c : Nat → Nat → Int32} {z w : Nat → Int32} (h : ∀ k, k < 190 → w k = z k) (i : StOK bd c z) : StOK bd c w := by
  obtain ⟨i1, i2, i3, i4⟩ := i
  refine ⟨RS_c (fun k hk => h k (by omega)) i2 i1, InvZ_c h i2, ?_, fun k hk => by rw [h _ (mI_lt k)]; exact i4 k hk⟩
  unfold BD at *
  rw [h 174 (by omega), h 186 (by omega)]
  exact ⟨i3.1, i3.2.1, InvP_c h i2 i3.2.2⟩
theorem StOK_now {bd : Int} {c : Nat → Nat → Int32} {z : Nat → Int32} (r : RS c z) (i : InvZ z) (b : BD bd z) : StOK bd (cZm c z) z := ⟨r, i, b, fun _ _ => rfl⟩
theorem cpy_in {f g : Nat → Int32} {a b j : Nat} (h : j < 190) : va_cpy f g a b 190 (b + j) = f (a + j) := by
  unfold va_cpy
  rw [if_pos (by omega), Nat.add_sub_cancel_left]
theorem cpy_in0 {f g : Nat → Int32} {a j : Nat} (h : j < 190) : va_cpy f g a 0 190 j = f (a + j) := by
  have := cpy_in (f := f) (g := g) (a := a) (b := 0) h
  rw [Nat.zero_add] at this
  exact this
theorem cpy_out {f g : Nat → Int32} {a b k : Nat} (h : k < b ∨ b + 190 ≤ k) : va_cpy f g a b 190 k = g k := by
  unfold va_cpy
  rw [if_neg (by omega)]
theorem szR_rec (sz : Int32) : szR sz = recS sz := by
  unfold szR recS
  by_cases h : sz.toInt = 6
  · rw [if_pos h, if_pos (show sz = 6 from xi_ext h)]
  · rw [if_neg h, if_neg (fun q => h (by rw [q]; rfl))]
theorem RH_rec {bd : Int} {c : Nat → Nat → Int32} {z past : Nat → Int32} {old sz : Int32} {cs : Nat → Nat → Nat → Int32} (ho : 0 ≤ old.toInt ∧ old.toInt ≤ 5) (hs : 0 ≤ sz.toInt ∧ sz.toInt ≤ 6) (hz : StOK bd (cZm c z) z) (h : RH bd cs old sz past) : RH bd (recC cs (cZm c z) (jR old sz)) (oldR old sz) (szR sz) (recP z past sz) := by
  intro i hi
  by_cases q : sz.toInt = 6
  · have e6 : sz = 6 := xi_ext q
    have hj : jR old sz = old.toInt.toNat := by unfold jR; rw [if_pos q]
    have ho1 : (oldR old sz).toInt.toNat = (old.toInt.toNat + 1) % 6 := by
      unfold oldR
      rw [if_pos q]
      by_cases o5 : old.toInt = 5
      · rw [if_pos o5, show (0 : Int32).toInt = 0 from by decide]; omega
      · rw [if_neg o5, xi_add (b := 1) rfl (by decide) (by omega) (by omega)]; omega
    have hsz : (szR sz).toInt = 6 := by unfold szR; rw [if_pos q]; decide
    have hrec : recP z past sz = va_cpy z (shiftP past 950) 0 950 190 := by unfold recP; rw [if_pos e6]
    rw [hsz] at hi
    rw [hj, ho1, hrec]
    by_cases e : i = 5
    · subst e
      have hidx : ((old.toInt.toNat + 1) % 6 + 5) % 6 = old.toInt.toNat := by omega
      rw [hidx]
      have hc : recC cs (cZm c z) old.toInt.toNat old.toInt.toNat = cZm c z := by simp [recC]
      rw [hc]
      refine StOK_c (fun k hk => ?_) hz
      have := cpy_in (f := z) (g := shiftP past 950) (a := 0) (b := 950) hk
      rw [Nat.zero_add] at this
      exact this
    · have hi5 : i < 5 := by omega
      have hidx : ((old.toInt.toNat + 1) % 6 + i) % 6 = (old.toInt.toNat + (i + 1)) % 6 := by omega
      rw [hidx]
      have hne : ¬ (old.toInt.toNat + (i + 1)) % 6 = old.toInt.toNat := by omega
      have hc : recC cs (cZm c z) old.toInt.toNat ((old.toInt.toNat + (i + 1)) % 6) = cs ((old.toInt.toNat + (i + 1)) % 6) := by unfold recC; rw [if_neg hne]
      rw [hc]
      refine StOK_c (fun k hk => ?_) (h (i + 1) (by omega))
      show va_cpy z (shiftP past 950) 0 950 190 (190 * i + k) = past (190 * (i + 1) + k)
      rw [cpy_out (by omega)]
      unfold shiftP
      rw [if_pos (by omega), show 190 * i + k + 190 = 190 * (i + 1) + k from by omega]
  · have e6 : ¬ sz = 6 := fun e => q (by rw [e]; rfl)
    have hj : jR old sz = (old.toInt.toNat + sz.toInt.toNat) % 6 := by unfold jR; rw [if_neg q]
    have ho1 : oldR old sz = old := by unfold oldR; rw [if_neg q]
    have hsz : (szR sz).toInt = sz.toInt + 1 := by unfold szR; rw [if_neg q]; exact xi_add rfl (by decide) (by omega) (by omega)
    have hrec : recP z past sz = va_cpy z past 0 (190 * sz.toInt.toNat) 190 := by unfold recP; rw [if_neg e6]
    rw [hsz] at hi
    rw [hj, ho1, hrec]
    by_cases e : i = sz.toInt.toNat
    · subst e
      have hc : recC cs (cZm c z) ((old.toInt.toNat + sz.toInt.toNat) % 6) ((old.toInt.toNat + sz.toInt.toNat) % 6) = cZm c z := by simp [recC]
      rw [hc]
      refine StOK_c (fun k hk => ?_) hz
      have := cpy_in (f := z) (g := past) (a := 0) (b := 190 * sz.toInt.toNat) hk
      rw [Nat.zero_add] at this
      exact this
    · have hne : ¬ (old.toInt.toNat + i) % 6 = (old.toInt.toNat + sz.toInt.toNat) % 6 := by omega
      have hc : recC cs (cZm c z) ((old.toInt.toNat + sz.toInt.toNat) % 6) ((old.toInt.toNat + i) % 6) = cs ((old.toInt.toNat + i) % 6) := by unfold recC; rw [if_neg hne]
      rw [hc]
      refine StOK_c (fun k hk => ?_) (h i (by omega))
      show va_cpy z past 0 (190 * sz.toInt.toNat) 190 (190 * i + k) = past (190 * i + k)
      exact cpy_out (by omega)
theorem oldR_in {old sz : Int32} (ho : 0 ≤ old.toInt ∧ old.toInt ≤ 5) : 0 ≤ (oldR old sz).toInt ∧ (oldR old sz).toInt ≤ 5 := by
  unfold oldR
  split
  · split
    · exact ⟨by decide, by decide⟩
    · rw [xi_add (b := 1) rfl (by decide) (by omega) (by omega)]; omega
  · exact ho
theorem szR_in {sz : Int32} (hs : 0 ≤ sz.toInt ∧ sz.toInt ≤ 6) : 0 ≤ (szR sz).toInt ∧ (szR sz).toInt ≤ 6 := by
  unfold szR
  split
  · exact ⟨by decide, by decide⟩
  · rw [xi_add (b := 1) rfl (by decide) (by omega) (by omega)]; omega
theorem Mud_rec {cs : Nat → Nat → Nat → Int32} {c : Nat → Nat → Int32} {n j : Nat} (h : ∀ i : Nat, i < n → Mud (cs i)) (hc : Mud c) : ∀ i : Nat, i < n → Mud (recC cs c j i) := by
  intro i hi
  unfold recC
  split
  · exact hc
  · exact h i hi
theorem RS_mud {c : Nat → Nat → Int32} {z : Nat → Int32} (h : RS c z) : Mud c := h.2.2.2
theorem LI_chg {bd : Int} {c : Nat → Nat → Int32} {cs sc : Nat → Nat → Nat → Int32} {sv : Nat → Int32} {ln old sz : Int32} {z past slots z1 zq : Nat → Int32} {cq : Nat → Nat → Int32} {old1 sz1 : Int32} {cs1 : Nat → Nat → Nat → Int32} (h : LI bd c cs sc sv ln old sz z past slots) (hc : Chg c z old sz cs z1 cq zq old1 sz1 cs1) (hi : InvZ z1) {b2 : Int} (hb : bd ≤ b2) (hbd : BD b2 z1) : LI b2 cq cs1 sc sv ln old1 sz1 z1 (recP z past sz) slots ∧ zq = z1 ∧ sz1 = recS sz := by
  obtain ⟨rfl, k2, rfl, rfl, rfl⟩ := hc
  obtain ⟨h1, h2, h3, ⟨h4, h5, h6⟩, h7, h8, h9, h10⟩ := LI_mono hb h
  exact ⟨⟨k2, hi, hbd, ⟨oldR_in h4, szR_in h5, h6⟩, Mud_rec h7 (RS_mud h1), h8, RH_rec h4 h5 (StOK_now h1 h2 h3) h9, h10⟩, rfl, szR_rec sz⟩
theorem LI_same {bd : Int} {c : Nat → Nat → Int32} {cs sc : Nat → Nat → Nat → Int32} {sv : Nat → Int32} {ln old sz : Int32} {z past slots zq : Nat → Int32} {cq : Nat → Nat → Int32} {old1 sz1 : Int32} {cs1 : Nat → Nat → Nat → Int32} (h : LI bd c cs sc sv ln old sz z past slots) (hc : Same c z old sz cs cq zq old1 sz1 cs1) {b2 : Int} (hb : bd ≤ b2) : LI b2 cq cs1 sc sv ln old1 sz1 z past slots ∧ zq = z ∧ sz1 = sz := by
  obtain ⟨rfl, rfl, rfl, rfl, rfl⟩ := hc
  exact ⟨LI_mono hb h, rfl, rfl⟩
theorem BD_beg {bd : Int} {z w : Nat → Int32} (h : BD bd z) (b : begP0 w) (h1 : w 181 = w 4) (h4 : 5 ≤ (w 4).toInt ∧ (w 4).toInt ≤ 60) : BD bd w := by
  obtain ⟨⟨k1, k2⟩, ⟨k3, k4⟩, k5⟩ := h
  unfold BD
  rw [b 174 (by omega) (by omega) (by omega), b 186 (by omega) (by omega) (by omega), show (0 : Int32).toInt = 0 from by decide]
  exact ⟨⟨by omega, by omega⟩, ⟨by omega, by omega⟩, InvP_beg b h1 h4⟩
theorem BD_begin {bd : Int} {z w : Nat → Int32} (h : BD bd z) (h4 : 5 ≤ (w 4).toInt ∧ (w 4).toInt ≤ 60) : BD bd (beginZ w) := by
  have e4 : beginZ w 4 = w 4 := beginZ_lo w (by omega)
  exact BD_beg h (begP_b w) (by rw [begin_181, e4]) (by rw [e4]; exact h4)
theorem set_inv {z : Nat → Int32} (i : InvZ z) {p v : Int32} (h : setV p v) : InvZ (beginZ (upd z p.toInt.toNat v)) := by
  have hp : 0 ≤ p.toInt ∧ p.toInt < 6 := by unfold setV at h; omega
  have hz : ∀ j, 6 ≤ j → j < 174 → upd z p.toInt.toNat v j = z j := fun j h1 h2 => upd_n _ _ _ (by omega)
  have hs : SetOK (upd z p.toInt.toNat v) := by
    have is := i.1
    unfold SetOK at *
    have e : ∀ k : Nat, k < 6 → (upd z p.toInt.toNat v k).toInt = if k = p.toInt.toNat then v.toInt else (z k).toInt := fun k _ => by unfold upd; split <;> rfl
    rw [e 0 (by omega), e 1 (by omega), e 2 (by omega), e 3 (by omega), e 5 (by omega)]
    unfold setV at h
    rcases h with h | h | h | h | h | h
    · rw [show p.toInt.toNat = 0 from by omega]; simp only [if_true, show ¬ (1 = 0) from by omega, show ¬ (2 = 0) from by omega, show ¬ (3 = 0) from by omega, show ¬ (5 = 0) from by omega, if_false]; omega
    · rw [show p.toInt.toNat = 1 from by omega]; simp only [if_true, show ¬ (0 = 1) from by omega, show ¬ (2 = 1) from by omega, show ¬ (3 = 1) from by omega, show ¬ (5 = 1) from by omega, if_false]; omega
    · rw [show p.toInt.toNat = 2 from by omega]; simp only [if_true, show ¬ (0 = 2) from by omega, show ¬ (1 = 2) from by omega, show ¬ (3 = 2) from by omega, show ¬ (5 = 2) from by omega, if_false]; omega
    · rw [show p.toInt.toNat = 3 from by omega]; simp only [if_true, show ¬ (0 = 3) from by omega, show ¬ (1 = 3) from by omega, show ¬ (2 = 3) from by omega, show ¬ (5 = 3) from by omega, if_false]; omega
    · rw [show p.toInt.toNat = 4 from by omega]; simp only [show ¬ (0 = 4) from by omega, show ¬ (1 = 4) from by omega, show ¬ (2 = 4) from by omega, show ¬ (3 = 4) from by omega, show ¬ (5 = 4) from by omega, if_false]; omega
    · rw [show p.toInt.toNat = 5 from by omega]; simp only [if_true, show ¬ (0 = 5) from by omega, show ¬ (1 = 5) from by omega, show ¬ (2 = 5) from by omega, show ¬ (3 = 5) from by omega, if_false]; omega
  exact begin_inv hs (SongOK_x hz i.2.1) (RoadOK_x hz i.2.2.1)
theorem SetOK_y {z w : Nat → Int32} (h : ∀ k, k < 6 → w k = z k) (i : SetOK z) : SetOK w := by
  unfold SetOK at *
  rw [h 0 (by omega), h 1 (by omega), h 2 (by omega), h 3 (by omega), h 5 (by omega)]
  exact i
theorem SongOK_y {z w : Nat → Int32} (h : ∀ k, k < 138 → k ≠ 7 → w k = z k) (i : SongOK z) : SongOK w := by
  obtain ⟨i1, i2⟩ := i
  unfold SongOK
  rw [h 6 (by omega) (by omega)]
  refine ⟨i1, fun l hl => ?_⟩
  rw [h (8 + l) (by omega) (by omega)]
  obtain ⟨j1, j2⟩ := i2 l hl
  refine ⟨j1, fun f hf => ?_⟩
  rw [h _ (by omega) (by omega)]
  exact j2 f hf
theorem pave_inv {z : Nat → Int32} (i : InvZ z) {p1 p2 p3 : Int32} (h : paveC z p1 p2) (hp3 : p3 = 0 ∨ p3 = 1) : InvZ (paveZ z p1 p2 p3) := by
  obtain ⟨⟨v1, v2⟩, v3⟩ := h
  have h70 := i.2.2.1.1
  have h12 : ¬ (z 7).toInt = 12 := fun q => v3 (xi_ext q)
  have t7 : (z 7 + 1).toInt = (z 7).toInt + 1 := xi_add rfl (by decide) (by omega) (by omega)
  unfold paveZ
  have low : ∀ k, k < 138 → k ≠ 7 → upd (upd (upd (upd z (3 * (z 7).toInt.toNat + 138) p1) (3 * (z 7).toInt.toNat + 139) p2) (3 * (z 7).toInt.toNat + 140) p3) 7 (z 7 + 1) k = z k := fun k hk h2 => by
    rw [upd_n _ _ _ h2, upd_n _ _ _ (by omega), upd_n _ _ _ (by omega), upd_n _ _ _ (by omega)]
  refine begin_inv (SetOK_y (fun k hk => low k (by omega) (by omega)) i.1) (SongOK_y low i.2.1) ?_
  unfold RoadOK
  rw [upd_s, t7]
  refine ⟨by omega, fun s hs => ?_⟩
  have off : ∀ w : Nat, w < 3 → ofZ (upd (upd (upd (upd z (3 * (z 7).toInt.toNat + 138) p1) (3 * (z 7).toInt.toNat + 139) p2) (3 * (z 7).toInt.toNat + 140) p3) 7 (z 7 + 1)) s w = upd (upd (upd z (3 * (z 7).toInt.toNat + 138) p1) (3 * (z 7).toInt.toNat + 139) p2) (3 * (z 7).toInt.toNat + 140) p3 (3 * s + (138 + w)) := fun w hw => by
    unfold ofZ
    rw [upd_n _ _ _ (by omega)]
  rw [off 0 (by omega), off 1 (by omega), off 2 (by omega)]
  by_cases e : s = (z 7).toInt.toNat
  · subst e
    have e0 : upd (upd (upd z (3 * (z 7).toInt.toNat + 138) p1) (3 * (z 7).toInt.toNat + 139) p2) (3 * (z 7).toInt.toNat + 140) p3 (3 * (z 7).toInt.toNat + (138 + 0)) = p1 := by
      rw [upd_n _ _ _ (by omega), upd_n _ _ _ (by omega)]; exact upd_s _ _ _
    have e1 : upd (upd (upd z (3 * (z 7).toInt.toNat + 138) p1) (3 * (z 7).toInt.toNat + 139) p2) (3 * (z 7).toInt.toNat + 140) p3 (3 * (z 7).toInt.toNat + (138 + 1)) = p2 := by
      rw [upd_n _ _ _ (by omega)]; exact upd_s _ _ _
    have e2 : upd (upd (upd z (3 * (z 7).toInt.toNat + 138) p1) (3 * (z 7).toInt.toNat + 139) p2) (3 * (z 7).toInt.toNat + 140) p3 (3 * (z 7).toInt.toNat + (138 + 2)) = p3 := upd_s _ _ _
    rw [e0, e1, e2]
    exact ⟨v1, v2, hp3⟩
  · have q := i.2.2.1.2 s (by omega)
    unfold ofZ at q
    rw [upd_n _ _ _ (by omega), upd_n _ _ _ (by omega), upd_n _ _ _ (by omega), upd_n _ _ _ (by omega), upd_n _ _ _ (by omega), upd_n _ _ _ (by omega), upd_n _ _ _ (by omega), upd_n _ _ _ (by omega), upd_n _ _ _ (by omega)]
    exact q
theorem tear_inv {z : Nat → Int32} (i : InvZ z) {p : Int32} (hp : tearC z p) : InvZ (tearZ z p) := by
  have h70 := i.2.2.1.1
  have hp1 := hp.1
  have hp2 := hp.2
  have t7 : (z 7 - 1).toInt = (z 7).toInt - 1 := xi_sub rfl (by decide) (by omega) (by omega)
  unfold tearZ
  have low : ∀ k, k < 138 → k ≠ 7 → shiftR (upd z 7 (z 7 - 1)) (3 * p.toInt.toNat + 138) (3 * ((z 7).toInt.toNat - 1) + 138) k = z k := fun k hk h2 => by
    unfold shiftR
    rw [if_neg (by omega), upd_n _ _ _ h2]
  refine begin_inv (SetOK_y (fun k hk => low k (by omega) (by omega)) i.1) (SongOK_y low i.2.1) ?_
  have e7 : shiftR (upd z 7 (z 7 - 1)) (3 * p.toInt.toNat + 138) (3 * ((z 7).toInt.toNat - 1) + 138) 7 = z 7 - 1 := by unfold shiftR; rw [if_neg (by omega), upd_s]
  unfold RoadOK
  rw [e7, t7]
  refine ⟨by omega, fun s hs => ?_⟩
  have off : ∀ w : Nat, w < 3 → ofZ (shiftR (upd z 7 (z 7 - 1)) (3 * p.toInt.toNat + 138) (3 * ((z 7).toInt.toNat - 1) + 138)) s w = if p.toInt.toNat ≤ s then ofZ z (s + 1) w else ofZ z s w := fun w hw => by
    unfold ofZ shiftR
    by_cases e : p.toInt.toNat ≤ s
    · rw [if_pos e, if_pos (by omega), upd_n _ _ _ (by omega), show 3 * s + (138 + w) + 3 = 3 * (s + 1) + (138 + w) from by omega]
    · rw [if_neg e, if_neg (by omega), upd_n _ _ _ (by omega)]
  rw [off 0 (by omega), off 1 (by omega), off 2 (by omega)]
  by_cases e : p.toInt.toNat ≤ s
  · rw [if_pos e, if_pos e, if_pos e]
    exact i.2.2.1.2 (s + 1) (by omega)
  · rw [if_neg e, if_neg e, if_neg e]
    exact i.2.2.1.2 s (by omega)
theorem Read_inv {p : Nat → Int32} {n : Nat} {z z1 : Nat → Int32} (i : InvZ z) (h : ReadZ p n z z1) : InvZ z1 := by
  obtain ⟨s, h1, h2, h3, h4, h5⟩ := h
  obtain ⟨i1, i2, i3, i4, i5, i6⟩ := scn_I p n s h1
  have lo : ∀ k, k < 6 → z1 k = z k := fun k hk => by rw [h5 k (by omega) (by omega), beginZ_lo z (by omega)]
  have hb : beginZ z1 = z1 := by
    funext k
    unfold beginZ
    by_cases e : k = 181
    · subst e
      rw [if_pos rfl, lo 4 (by omega), h5 181 (by omega) (by omega)]
      unfold beginZ
      rw [if_pos rfl]
    · rw [if_neg e]
      by_cases f : 174 ≤ k ∧ k < 190
      · rw [if_pos f, h5 k (by omega) (by omega), begin_0 f e]
      · rw [if_neg f]
  rw [← hb]
  refine begin_inv (SetOK_y lo i.1) ?_ ?_
  · unfold SongOK
    rw [h3]
    refine ⟨by omega, fun l hl => ?_⟩
    have hl2 : l ≤ s.1 := by omega
    obtain ⟨j1, j2⟩ := h4 l hl2
    have hm : 1 ≤ cM p n l ∧ cM p n l ≤ 12 := by
      by_cases e : l = s.1
      · subst e; rw [i3]; omega
      · exact i4 l (by omega)
    rw [j1]
    refine ⟨by omega, fun f hf => ?_⟩
    rw [j2 f (by omega)]
    exact i5 l f hl2 (by omega)
  · have hr : ∀ k, 138 ≤ k → k < 174 → z1 k = z k := fun k h6 h7 => by rw [h5 k (by omega) (by omega), beginZ_lo z h7]
    have h7 : z1 7 = z 7 := by rw [h5 7 (by omega) (by omega), beginZ_lo z (by omega)]
    obtain ⟨r1, r2⟩ := i.2.2.1
    unfold RoadOK
    rw [h7]
    refine ⟨r1, fun s hs => ?_⟩
    have q := r2 s hs
    unfold ofZ at *
    rw [hr _ (by omega) (by omega), hr _ (by omega) (by omega), hr _ (by omega) (by omega)]
    exact q
theorem Read_RS {p : Nat → Int32} {n : Nat} {z z1 : Nat → Int32} {c cq : Nat → Nat → Int32} (i : InvZ z) (r : RS c z) (h : ReadZ p n z z1) (hw : WrI p n (cq 7 0) (cq 1) (cq 2) (cq 3)) (e0 : cq 0 = c 0) (e4 : cq 4 = c 4) (e5 : cq 5 = c 5) (e6 : cq 6 = c 6) (e7 : cq 7 1 = c 7 1) : RS cq z1 := by
  have h5 := h.choose_spec.2.2.2.2
  refine ⟨fun k hk => ?_, WrI_song hw h, ?_, hw.choose_spec.2.2.2, ?_⟩
  · rw [e0, h5 k (by omega) (by omega), beginZ_lo z (by omega)]
    exact r.1 k hk
  · rw [e4, e5, e6, e7]
    have h7 : z1 7 = z 7 := by rw [h5 7 (by omega) (by omega), beginZ_lo z (by omega)]
    have hq := i.2.2.1.1
    refine ⟨by rw [h7]; exact r.2.2.1.1, fun s hs => ?_⟩
    rw [h7] at hs
    have q := r.2.2.1.2 s hs
    unfold ofZ at *
    rw [h5 _ (by omega) (by omega), h5 _ (by omega) (by omega), h5 _ (by omega) (by omega), beginZ_lo z (by omega), beginZ_lo z (by omega), beginZ_lo z (by omega)]
    exact q
  · rw [e6]
    exact r.2.2.2.2
theorem walk_186 : ∀ (n : Nat) (z : Nat → Int32), 0 ≤ (z 186).toInt → (z 186).toInt + n ≤ 2000000 → 0 ≤ (walkZ n z 186).toInt ∧ (walkZ n z 186).toInt ≤ (z 186).toInt + n
  | 0, z, h, _ => by
    show 0 ≤ (z 186).toInt ∧ _
    exact ⟨h, by show (z 186).toInt ≤ _; omega⟩
  | n + 1, z, h, h2 => by
    rw [walkZ]
    split
    · have q := song_iff (z := z) ⟨h, by omega⟩
      have := walk_186 n (beatZ z) (by omega) (by omega)
      omega
    · omega
theorem BD_walk {bd : Int} {z : Nat → Int32} {n : Nat} (h : BD bd z) (hi : InvZ z) (hc : canZ z) (hn : n ≤ 500) (hb : bd ≤ 100000) : BD (bd + 500) (walkZ n z) := by
  obtain ⟨⟨k1, k2⟩, ⟨k3, k4⟩, k5⟩ := h
  have h1 := walk_174b n z _ rfl k1 (by omega)
  have h2 := walkN_le n z
  have h3 := walk_186 n z k3 (by omega)
  exact ⟨⟨by omega, by omega⟩, ⟨by omega, by omega⟩, (walk_P n z hi k5 hc k1 (by omega) k3 (by omega)).1⟩
/-! one answer alone -/
theorem marchA_u {z : Nat → Int32} {p r1 r2 : Int32} (h1 : marchA z p r1) (h2 : marchA z p r2) : r1 = r2 := by
  unfold marchA at h1 h2
  split at h1
  · rename_i c
    rw [if_pos c] at h2
    split at h1
    · rename_i d
      rw [if_pos d] at h2
      exact xi_ext (by rw [h1, h2])
    · rename_i d
      rw [if_neg d] at h2
      rw [h1, h2]
  · rename_i c
    rw [if_neg c] at h2
    rw [h1, h2]
theorem lbA_u {z : Nat → Int32} {r1 r2 : Int32} (h1 : (canZ z ∧ lbA z r1) ∨ (¬ canZ z ∧ r1 = -5)) (h2 : (canZ z ∧ lbA z r2) ∨ (¬ canZ z ∧ r2 = -5)) : r1 = r2 := by
  rcases h1 with ⟨c1, h1⟩ | ⟨c1, h1⟩ <;> rcases h2 with ⟨c2, h2⟩ | ⟨c2, h2⟩
  · rcases h1 with ⟨a1, a2⟩ | ⟨a1, a2, a3⟩ <;> rcases h2 with ⟨b1, b2⟩ | ⟨b1, b2, b3⟩
    · rw [a1, b1]
    · exact absurd b2 (a2 r2 b1.1 b1.2)
    · exact absurd a2 (b2 r1 a1.1 a1.2)
    · refine xi_ext ?_
      have q1 : ¬ r1.toInt < r2.toInt := fun q => b3 r1 a1.1 q a2
      have q2 : ¬ r2.toInt < r1.toInt := fun q => a3 r2 b1.1 q b2
      omega
  · exact absurd c1 c2
  · exact absurd c2 c1
  · rw [h1, h2]
theorem bpA_u {z : Nat → Int32} {r1 r2 : Int32} (h1 : (canZ z ∧ bpA z r1) ∨ (¬ canZ z ∧ r1 = -5)) (h2 : (canZ z ∧ bpA z r2) ∨ (¬ canZ z ∧ r2 = -5)) : r1 = r2 := by
  rcases h1 with ⟨c1, h1⟩ | ⟨c1, h1⟩ <;> rcases h2 with ⟨c2, h2⟩ | ⟨c2, h2⟩
  · rcases h1 with ⟨a1, a2⟩ | ⟨a1, a2, a3⟩ <;> rcases h2 with ⟨b1, b2⟩ | ⟨b1, b2, b3⟩
    · rw [a1, b1]
    · exact absurd b2 (a2 r2 b1.1 b1.2)
    · exact absurd a2 (b2 r1 a1.1 a1.2)
    · refine xi_ext ?_
      have p1 := a3 r2 b1.1 b1.2 b2
      have p2 := b3 r1 a1.1 a1.2 a2
      have q1 : ¬ r1.toInt < r2.toInt := fun q => by have := p2.2 q; have := p1.1; omega
      have q2 : ¬ r2.toInt < r1.toInt := fun q => by have := p1.2 q; have := p2.1; omega
      omega
  · exact absurd c1 c2
  · exact absurd c2 c1
  · rw [h1, h2]
theorem leastK_u {b n r1 r2 : Int} (h1 : leastK b n r1) (h2 : leastK b n r2) : r1 = r2 := by
  obtain ⟨a1, a2, a3⟩ := h1
  obtain ⟨b1, b2, b3⟩ := h2
  have q1 : ¬ r1 < r2 := fun q => b3 r1 a1.1 q a2
  have q2 : ¬ r2 < r1 := fun q => a3 r2 b1.1 q b2
  omega
theorem meetA_u {z : Nat → Int32} {p w r1 r2 : Int32} (h1 : meetA z p w r1) (h2 : meetA z p w r2) : r1 = r2 := by
  unfold meetA at h1 h2
  by_cases c : strC z p
  · rw [if_pos c] at h1 h2
    by_cases d : 0 ≤ w.toInt ∧ w.toInt ≤ 1
    · rw [if_pos d] at h1 h2
      by_cases e : z 6 = 0
      · rw [if_pos e] at h1 h2
        rw [h1, h2]
      · rw [if_neg e] at h1 h2
        exact xi_ext (leastK_u h1 h2)
    · rw [if_neg d] at h1 h2
      rw [h1, h2]
  · rw [if_neg c] at h1 h2
    rw [h1, h2]
theorem strA_u {z : Nat → Int32} {p w r1 r2 : Int32} (h1 : strA z p w r1) (h2 : strA z p w r2) : r1 = r2 := by
  unfold strA at h1 h2
  by_cases c : strC z p
  · rw [if_pos c] at h1 h2
    by_cases d0 : w.toInt = 0
    · rw [if_pos d0] at h1 h2
      rw [h1, h2]
    · rw [if_neg d0] at h1 h2
      by_cases d1 : w.toInt = 1
      · rw [if_pos d1] at h1 h2
        rw [h1, h2]
      · rw [if_neg d1] at h1 h2
        by_cases d2 : w.toInt = 2
        · rw [if_pos d2] at h1 h2
          rw [h1, h2]
        · rw [if_neg d2] at h1 h2
          by_cases d3 : w.toInt = 3
          · rw [if_pos d3] at h1 h2
            exact xi_ext (by rw [h1, h2])
          · rw [if_neg d3] at h1 h2
            rw [h1, h2]
  · rw [if_neg c] at h1 h2
    rw [h1, h2]
theorem fault_u {p : Nat → Int32} {ln r1 r2 : Int32} (h1 : (FN p ln.toInt.toNat ∧ r1 = -6) ∨ (FA p ln.toInt.toNat r1.toInt.toNat ∧ 0 ≤ r1.toInt ∧ r1.toInt ≤ ln.toInt)) (h2 : (FN p ln.toInt.toNat ∧ r2 = -6) ∨ (FA p ln.toInt.toNat r2.toInt.toNat ∧ 0 ≤ r2.toInt ∧ r2.toInt ≤ ln.toInt)) : r1 = r2 := by
  rcases h1 with ⟨a1, a2⟩ | ⟨a1, a2, a3⟩ <;> rcases h2 with ⟨b1, b2⟩ | ⟨b1, b2, b3⟩
  · rw [a2, b2]
  · exact absurd a1 (FA_FN b1)
  · exact absurd b1 (FA_FN a1)
  · have := FA_uniq a1 b1
    exact xi_ext (by omega)
theorem putA_u {x : Int64} {ty : Int32} {p : Nat → Int32} {r1 r2 t1 t2 : Int32} {p1 p2 : Nat → Int32} (ht : 0 ≤ ty.toInt ∧ ty.toInt ≤ 60) (h1 : putA x ty p r1 t1 p1) (h2 : putA x ty p r2 t2 p2) : r1 = r2 ∧ t1 = t2 ∧ p1 = p2 ∧ 0 ≤ t1.toInt ∧ t1.toInt ≤ 60 := by
  unfold putA at h1 h2
  cases hc : chF 8 x 0 with
  | none =>
    rw [hc] at h1 h2
    obtain ⟨a1, a2, a3⟩ := h1
    obtain ⟨b1, b2, b3⟩ := h2
    exact ⟨by rw [a1, b1], by rw [a2, b2], by rw [a3, b3], by rw [a2]; exact ht.1, by rw [a2]; exact ht.2⟩
  | some n =>
    rw [hc] at h1 h2
    dsimp only at h1 h2
    by_cases c : n = 0
    · rw [if_pos c] at h1 h2
      obtain ⟨a1, a2, a3⟩ := h1
      obtain ⟨b1, b2, b3⟩ := h2
      exact ⟨by rw [a1, b1], by rw [a2, b2], by rw [a3, b3], by rw [a2]; exact ht.1, by rw [a2]; exact ht.2⟩
    · rw [if_neg c] at h1 h2
      by_cases d : 60 < ty.toInt + n
      · rw [if_pos d] at h1 h2
        obtain ⟨a1, a2, a3⟩ := h1
        obtain ⟨b1, b2, b3⟩ := h2
        exact ⟨by rw [a1, b1], by rw [a2, b2], by rw [a3, b3], by rw [a2]; exact ht.1, by rw [a2]; exact ht.2⟩
      · rw [if_neg d] at h1 h2
        obtain ⟨a1, a2, a3⟩ := h1
        obtain ⟨b1, b2, b3⟩ := h2
        have e : t1 = t2 := xi_ext (by rw [a2, b2])
        exact ⟨by rw [a1, b1, e], e, by rw [a3, b3], by omega, by omega⟩
