/-! ===== a change of the law, and what is seen behind it ===== -/
theorem ct_lo (z : Nat → Int32) (ty gs : Int32) {k : Int32} (h : 0 ≤ k.toInt ∧ k.toInt ≤ 6) : cntR z ty gs k = z k.toInt.toNat := by unfold cntR; rw [if_pos h]
theorem beginZ_hi (w : Nat → Int32) {k : Nat} (h : 190 ≤ k) : beginZ w k = w k := by unfold beginZ; rw [if_neg (by omega), if_neg (by omega)]
theorem set_4 {z : Nat → Int32} {p v : Int32} (h4 : 5 ≤ (z 4).toInt ∧ (z 4).toInt ≤ 60) (hp : setV p v) : 5 ≤ (upd z p.toInt.toNat v 4).toInt ∧ (upd z p.toInt.toNat v 4).toInt ≤ 60 := by
  unfold setV at hp
  by_cases e : p.toInt = 4
  · rw [show p.toInt.toNat = 4 from by omega, upd_s]; omega
  · rw [upd_n _ _ _ (by omega)]; exact h4
section ACT
variable {bd : Int} {c : Nat → Nat → Int32} {cs sc : Nat → Nat → Nat → Int32} {sv : Nat → Int32} {ln old sz : Int32} {z past slots : Nat → Int32} {cq : Nat → Nat → Int32} {zq : Nat → Int32} {old1 sz1 : Int32} {cs1 : Nat → Nat → Nat → Int32}
theorem act_set {p v : Int32} (h : LI bd c cs sc sv ln old sz z past slots) (hp : setV p v) (hc : Chg c z old sz cs (beginZ (upd z p.toInt.toNat v)) cq zq old1 sz1 cs1) : LI (bd + 500) cq cs1 sc sv ln old1 sz1 (beginZ (upd z p.toInt.toNat v)) (recP z past sz) slots ∧ zq = beginZ (upd z p.toInt.toNat v) ∧ sz1 = recS sz :=
  LI_chg h hc (set_inv h.2.1 hp) (by omega) (BD_mono (by omega) (BD_begin h.2.2.1 (set_4 h.2.2.1.2.2.1 hp)))
theorem pave_4 (z : Nat → Int32) (p1 p2 p3 : Int32) : upd (upd (upd (upd z (3 * (z 7).toInt.toNat + 138) p1) (3 * (z 7).toInt.toNat + 139) p2) (3 * (z 7).toInt.toNat + 140) p3) 7 (z 7 + 1) 4 = z 4 := by
  rw [upd_n _ _ _ (by omega), upd_n _ _ _ (by omega), upd_n _ _ _ (by omega), upd_n _ _ _ (by omega)]
theorem act_pave {p1 p2 p3 : Int32} (h : LI bd c cs sc sv ln old sz z past slots) (hp : paveC z p1 p2) (hp3 : p3 = 0 ∨ p3 = 1) (hc : Chg c z old sz cs (paveZ z p1 p2 p3) cq zq old1 sz1 cs1) : LI (bd + 500) cq cs1 sc sv ln old1 sz1 (paveZ z p1 p2 p3) (recP z past sz) slots ∧ zq = paveZ z p1 p2 p3 ∧ sz1 = recS sz :=
  LI_chg h hc (pave_inv h.2.1 hp hp3) (by omega) (BD_mono (by omega) (BD_begin h.2.2.1 (by rw [pave_4]; exact h.2.2.1.2.2.1)))
theorem tear_4 (z : Nat → Int32) (p : Int32) : shiftR (upd z 7 (z 7 - 1)) (3 * p.toInt.toNat + 138) (3 * ((z 7).toInt.toNat - 1) + 138) 4 = z 4 := by
  unfold shiftR
  rw [if_neg (by omega), upd_n _ _ _ (by omega)]
theorem act_tear {p : Int32} (h : LI bd c cs sc sv ln old sz z past slots) (hp : tearC z p) (hc : Chg c z old sz cs (tearZ z p) cq zq old1 sz1 cs1) : LI (bd + 500) cq cs1 sc sv ln old1 sz1 (tearZ z p) (recP z past sz) slots ∧ zq = tearZ z p ∧ sz1 = recS sz :=
  LI_chg h hc (tear_inv h.2.1 hp) (by omega) (BD_mono (by omega) (BD_begin h.2.2.1 (by rw [tear_4]; exact h.2.2.1.2.2.1)))
theorem act_begin (h : LI bd c cs sc sv ln old sz z past slots) (hc : Chg c z old sz cs (beginZ z) cq zq old1 sz1 cs1) : LI (bd + 500) cq cs1 sc sv ln old1 sz1 (beginZ z) (recP z past sz) slots ∧ zq = beginZ z ∧ sz1 = recS sz :=
  LI_chg h hc (begin_inv h.2.1.1 h.2.1.2.1 h.2.1.2.2.1) (by omega) (BD_mono (by omega) (BD_begin h.2.2.1 h.2.2.1.2.2.1))
theorem act_march {p : Int32} (h : LI bd c cs sc sv ln old sz z past slots) (hb : bd ≤ 100000) (hp : marchC z p) (hc : Chg c z old sz cs (walkZ p.toInt.toNat z) cq zq old1 sz1 cs1) : LI (bd + 500) cq cs1 sc sv ln old1 sz1 (walkZ p.toInt.toNat z) (recP z past sz) slots ∧ zq = walkZ p.toInt.toNat z ∧ sz1 = recS sz :=
  LI_chg h hc (walk_inv _ h.2.1 hp.2.1) (by omega) (BD_walk h.2.2.1 h.2.1 hp.2.1 (by have := hp.1; omega) hb)
end ACT
theorem set_at {z : Nat → Int32} {p v : Int32} (h : 0 ≤ p.toInt ∧ p.toInt ≤ 5) : beginZ (upd z p.toInt.toNat v) p.toInt.toNat = v := by rw [beginZ_lo _ (by omega), upd_s]
theorem set_hi {z : Nat → Int32} {p v : Int32} (h : 0 ≤ p.toInt ∧ p.toInt ≤ 5) {k : Nat} (hk : 190 ≤ k) : beginZ (upd z p.toInt.toNat v) k = z k := by rw [beginZ_hi _ hk, upd_n _ _ _ (by omega)]
theorem pave_hi {z : Nat → Int32} {p1 p2 p3 : Int32} (h : (z 7).toInt ≤ 12) {k : Nat} (hk : 190 ≤ k) : paveZ z p1 p2 p3 k = z k := by
  unfold paveZ
  rw [beginZ_hi _ hk, upd_n _ _ _ (by omega), upd_n _ _ _ (by omega), upd_n _ _ _ (by omega), upd_n _ _ _ (by omega)]
theorem pave_7 (z : Nat → Int32) (p1 p2 p3 : Int32) : paveZ z p1 p2 p3 7 = z 7 + 1 := by
  unfold paveZ
  rw [beginZ_lo _ (by omega), upd_s]
theorem pave_at {z : Nat → Int32} {p1 p2 p3 : Int32} (h : (z 7).toInt < 12) : ofZ (paveZ z p1 p2 p3) (z 7).toInt.toNat 0 = p1 ∧ ofZ (paveZ z p1 p2 p3) (z 7).toInt.toNat 1 = p2 ∧ ofZ (paveZ z p1 p2 p3) (z 7).toInt.toNat 2 = p3 := by
  unfold ofZ paveZ
  refine ⟨?_, ?_, ?_⟩
  · rw [beginZ_lo _ (by omega), upd_n _ _ _ (by omega), upd_n _ _ _ (by omega), upd_n _ _ _ (by omega)]; exact upd_s _ _ _
  · rw [beginZ_lo _ (by omega), upd_n _ _ _ (by omega), upd_n _ _ _ (by omega)]; exact upd_s _ _ _
  · rw [beginZ_lo _ (by omega), upd_n _ _ _ (by omega)]; exact upd_s _ _ _
theorem tear_hi {z : Nat → Int32} {p : Int32} (h : (z 7).toInt ≤ 12) {k : Nat} (hk : 190 ≤ k) : tearZ z p k = z k := by
  unfold tearZ
  rw [beginZ_hi _ hk]
  unfold shiftR
  rw [if_neg (by omega), upd_n _ _ _ (by omega)]
theorem tear_7 (z : Nat → Int32) (p : Int32) : tearZ z p 7 = z 7 - 1 := by
  unfold tearZ
  rw [beginZ_lo _ (by omega)]
  unfold shiftR
  rw [if_neg (by omega), upd_s]
theorem tear_of {z : Nat → Int32} {p : Int32} (h7 : (z 7).toInt ≤ 12) {s : Nat} (hs : (s : Int) + 1 < (z 7).toInt) : ofZ (tearZ z p) s 0 = if p.toInt.toNat ≤ s then ofZ z (s + 1) 0 else ofZ z s 0 := by
  unfold ofZ tearZ
  rw [beginZ_lo _ (by omega)]
  unfold shiftR
  by_cases e : p.toInt.toNat ≤ s
  · rw [if_pos e, if_pos (by omega), upd_n _ _ _ (by omega), show 3 * s + (138 + 0) + 3 = 3 * (s + 1) + (138 + 0) from by omega]
  · rw [if_neg e, if_neg (by omega), upd_n _ _ _ (by omega)]
theorem tear_sum {z : Nat → Int32} (i : InvZ z) {p : Int32} (hp : tearC z p) : (sumR (tearZ z p) (tearZ z p 7).toInt.toNat).toInt = (sumR z (z 7).toInt.toNat).toInt - (ofZ z p.toInt.toNat 0).toInt := by
  have h7 := i.2.2.1.1
  have ir := i.2.2.1
  have it := (tear_inv i hp).2.2.1
  have hp1 := hp.1
  have hp2 := hp.2
  have t7 : (z 7 - 1).toInt = (z 7).toInt - 1 := xi_sub rfl (by decide) (by omega) (by omega)
  have key : ∀ n : Nat, (n : Int) + 1 ≤ (z 7).toInt → (sumR (tearZ z p) n).toInt = if n ≤ p.toInt.toNat then (sumR z n).toInt else (sumR z (n + 1)).toInt - (ofZ z p.toInt.toNat 0).toInt := by
    intro n
    induction n with
    | zero => intro _; rw [if_pos (Nat.zero_le _)]; rfl
    | succ n ih =>
      intro hn
      have k1 := sumR_s it n (by rw [tear_7, t7]; omega)
      have k2 := ih (by omega)
      have k3 := tear_of (p := p) h7.2 (s := n) (by omega)
      have k4 := sumR_s ir n (by omega)
      have k5 := sumR_s ir (n + 1) (by omega)
      by_cases e : p.toInt.toNat ≤ n
      · rw [if_pos e] at k3
        rw [k1, k3, if_neg (by omega), k2]
        by_cases f : n ≤ p.toInt.toNat
        · have g : p.toInt.toNat = n := by omega
          rw [if_pos f, g]
          omega
        · rw [if_neg f]
          omega
      · rw [if_neg e] at k3
        rw [k1, k3, k2, if_pos (by omega), if_pos (by omega)]
        omega
  have hm := key (z 7 - 1).toInt.toNat (by omega)
  rw [tear_7, hm]
  by_cases e : (z 7 - 1).toInt.toNat ≤ p.toInt.toNat
  · have g : p.toInt.toNat = (z 7 - 1).toInt.toNat := by omega
    rw [if_pos e, g]
    have k4 := sumR_s ir (z 7 - 1).toInt.toNat (by omega)
    rw [show (z 7).toInt.toNat = (z 7 - 1).toInt.toNat + 1 from by omega]
    omega
  · rw [if_neg e, show (z 7 - 1).toInt.toNat + 1 = (z 7).toInt.toNat from by omega]
theorem walk_hi (n : Nat) (z : Nat → Int32) {k : Nat} (hk : 190 ≤ k) : walkZ n z k = z k := walkZ_o n z (Or.inr hk)
/-- the beats that a march tells -/
theorem march_told {z : Nat → Int32} {p r t : Int32} (i : InvZ z) (hc : canZ z) (hp : 1 ≤ p.toInt ∧ p.toInt ≤ 500) (hr : r.toInt = (walkN p.toInt.toNat z : Int)) (hu : (t.toInt = -6 ∧ walkZ 5000 z 188 = 0) ∨ (walkZ 5000 z 188 = 1 ∧ t.toInt = (walkN 5000 z : Int))) :
    ((walkZ p.toInt.toNat z 188).toInt = 1 ∧ r.toInt = t.toInt ∧ 0 ≤ t.toInt ∧ t.toInt ≤ p.toInt) ∨ ((walkZ p.toInt.toNat z 188).toInt = 0 ∧ r.toInt = p.toInt ∧ (t.toInt = -6 ∨ p.toInt < t.toInt)) := by
  have hm := march_until (p := p.toInt.toNat) i hc (by omega)
  have hle := walkN_le p.toInt.toNat z
  have o1 : (1 : Int32).toInt = 1 := by decide
  have z0 : (0 : Int32).toInt = 0 := by decide
  rcases hm with ⟨w5, ⟨wp, np⟩ | ⟨wp, np, lt⟩⟩ | ⟨w5, wp, np⟩
  · rcases hu with ⟨-, u⟩ | ⟨-, u⟩
    · rw [w5] at u; exact absurd u (by decide)
    · exact Or.inl ⟨by rw [wp]; exact o1, by omega, by omega, by omega⟩
  · rcases hu with ⟨-, u⟩ | ⟨-, u⟩
    · rw [w5] at u; exact absurd u (by decide)
    · exact Or.inr ⟨by rw [wp]; exact z0, by omega, Or.inr (by omega)⟩
  · rcases hu with ⟨u, -⟩ | ⟨u, -⟩
    · exact Or.inr ⟨by rw [wp]; exact z0, by omega, Or.inl u⟩
    · rw [w5] at u; exact absurd u (by decide)
/-! ===== the law's own loop ===== -/
theorem recS_t {sz : Int32} (h : 0 ≤ sz.toInt ∧ sz.toInt ≤ 6) : (sz.toInt < 6 ∧ (recS sz).toInt = sz.toInt + 1) ∨ (sz.toInt = 6 ∧ (recS sz).toInt = 6) := by
  unfold recS
  by_cases e : sz = 6
  · rw [if_pos e, e]; exact Or.inr ⟨by decide, by decide⟩
  · rw [if_neg e, xi_add (b := 1) rfl (by decide) (by omega) (by omega)]
    have : ¬ sz.toInt = 6 := fun q => e (xi_ext q)
    exact Or.inl ⟨by omega, rfl⟩
theorem undoR_t {sz : Int32} (h : 1 ≤ sz.toInt ∧ sz.toInt ≤ 6) : (undoR sz).toInt = sz.toInt - 1 ∧ (undoS sz).toInt = sz.toInt - 1 := by
  have hne : ¬ sz = 0 := fun e => by rw [e, show (0 : Int32).toInt = 0 from by decide] at h; omega
  unfold undoR undoS
  rw [if_neg hne, if_neg hne]
  exact ⟨xi_sub rfl (by decide) (by omega) (by omega), xi_sub rfl (by decide) (by omega) (by omega)⟩
/-- undo brings back what was recorded last -/
theorem undo_rec {sz : Int32} (h : 0 ≤ sz.toInt ∧ sz.toInt ≤ 6) {z z1 past : Nat → Int32} (hz : ∀ k, 190 ≤ k → z k = 0) (hz1 : ∀ k, 190 ≤ k → z1 k = 0) : undoZ (recS sz) (recP z past sz) z1 = z := by
  have hr := recS_t h
  have hne : ¬ recS sz = 0 := fun e => by rw [e, show (0 : Int32).toInt = 0 from by decide] at hr; omega
  funext k
  unfold undoZ
  rw [if_neg hne]
  by_cases q : k < 190
  · rw [cpy_in0 q]
    have t1 : (recS sz - 1).toInt = (recS sz).toInt - 1 := xi_sub rfl (by decide) (by omega) (by omega)
    unfold recP
    by_cases e : sz = 6
    · have e6 : sz.toInt = 6 := by rw [e]; decide
      rw [if_pos e, show 190 * (recS sz - 1).toInt.toNat = 950 from by omega, cpy_in q, Nat.zero_add]
    · have e6 : ¬ sz.toInt = 6 := fun q => e (xi_ext q)
      rw [if_neg e, show 190 * (recS sz - 1).toInt.toNat = 190 * sz.toInt.toNat from by omega, cpy_in q, Nat.zero_add]
  · rw [cpy_out (by omega), hz k (by omega), hz1 k (by omega)]
theorem law_act {bd : Int} {cq : Nat → Nat → Int32} {cs1 sc : Nat → Nat → Nat → Int32} {sv : Nat → Int32} {old1 sz1 sz r : Int32} {z1 z past slots : Nat → Int32} (h : (r = 1 ∧ LI (bd + 500) cq cs1 sc sv (0 : Int32) old1 sz1 z1 (recP z past sz) slots ∧ sz1 = recS sz) ∨ (r = 0 ∧ LI bd cq cs1 sc sv (0 : Int32) old1 sz1 z1 past slots ∧ z1 = z ∧ sz1 = sz)) :
    ∃ q : Nat → Int32, LI (bd + 500) cq cs1 sc sv (0 : Int32) old1 sz1 z1 q slots ∧ ((r.toInt = 1 ∧ sz1 = recS sz ∧ q = recP z past sz) ∨ (r.toInt = 0 ∧ z1 = z ∧ sz1 = sz)) := by
  rcases h with ⟨rfl, h1, h2⟩ | ⟨rfl, h1, h2, h3⟩
  · exact ⟨_, h1, Or.inl ⟨by decide, h2, rfl⟩⟩
  · exact ⟨_, LI_mono (by omega) h1, Or.inr ⟨by decide, h2, h3⟩⟩
theorem save_0 {z slots : Nat → Int32} {j : Nat} : va_cpy z slots 0 (190 * (0 : Int32).toInt.toNat) 190 (190 + j) = slots (190 + j) := cpy_out (Or.inr (by rw [show (0 : Int32).toInt.toNat = 0 from by decide]; omega))
theorem back_0 {z z1 slots : Nat → Int32} (hz : ∀ k, 190 ≤ k → z k = 0) (hz1 : ∀ k, 190 ≤ k → z1 k = 0) : va_cpy (va_cpy z1 slots 0 (190 * (0 : Int32).toInt.toNat) 190) z (190 * (0 : Int32).toInt.toNat) 0 190 = z1 := by
  funext k
  by_cases q : k < 190
  · rw [cpy_in0 q, cpy_in q, Nat.zero_add]
  · rw [cpy_out (by omega), hz k (by omega), hz1 k (by omega)]
theorem andM (x : Int32) : 0 ≤ (x &&& 2147483647).toInt := by
  have h : (x &&& 2147483647).toBitVec = x.toBitVec &&& 2147483647#32 := rfl
  have h2 : (x &&& 2147483647).toBitVec.toNat ≤ 2147483647 := by rw [h, BitVec.toNat_and]; exact Nat.and_le_right
  have h3 : (x &&& 2147483647).toInt = (x &&& 2147483647).toBitVec.toInt := rfl
  rw [h3, BitVec.toInt_eq_toNat_of_lt (by omega)]
  omega
