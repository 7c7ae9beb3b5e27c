/-! ===== changes: the object, cut for a call ===== -/
theorem xw_rec (X1 N M Hh S2 hs T0 T1 : va_W) : ((X1 ++ (N ++ (M ++ (Hh ++ S2)))) ++ (hs ++ (T0 ++ T1))).Perm ((Hh ++ (hs ++ N)) ++ (X1 ++ (M ++ (S2 ++ (T0 ++ T1))))) := by
  simp only [List.append_assoc]
  exact ((List.Perm.append_left _ (List.Perm.append_left _ (xg_sw _ _ _))).trans ((List.Perm.append_left _ (xg_sw _ _ _)).trans ((xg_sw _ _ _).trans ((List.Perm.append_left _ (List.Perm.append_left _ (List.Perm.append_left _ (List.Perm.append_left _ (xg_sw _ _ _))))).trans ((List.Perm.append_left _ (List.Perm.append_left _ (List.Perm.append_left _ (xg_sw _ _ _)))).trans ((List.Perm.append_left _ (List.Perm.append_left _ (xg_sw _ _ _))).trans ((List.Perm.append_left _ (xg_sw _ _ _)).trans (List.Perm.append_left _ (List.Perm.append_left _ (xg_sw _ _ _))))))))))

theorem xw_sv0 (X1 N M Hh S2 hs T0 T1 : va_W) : ((X1 ++ (N ++ (M ++ (Hh ++ S2)))) ++ (hs ++ (T0 ++ T1))).Perm ((T0 ++ N) ++ (X1 ++ (M ++ (Hh ++ (S2 ++ (hs ++ T1)))))) := by
  simp only [List.append_assoc]
  exact ((List.Perm.append_left _ (List.Perm.append_left _ (List.Perm.append_left _ (List.Perm.append_left _ (List.Perm.append_left _ (xg_sw _ _ _)))))).trans ((List.Perm.append_left _ (List.Perm.append_left _ (List.Perm.append_left _ (List.Perm.append_left _ (xg_sw _ _ _))))).trans ((List.Perm.append_left _ (List.Perm.append_left _ (List.Perm.append_left _ (xg_sw _ _ _)))).trans ((List.Perm.append_left _ (List.Perm.append_left _ (xg_sw _ _ _))).trans ((List.Perm.append_left _ (xg_sw _ _ _)).trans ((xg_sw _ _ _).trans (List.Perm.append_left _ (xg_sw _ _ _))))))))

theorem xw_sv1 (X1 N M Hh S2 hs T0 T1 : va_W) : ((X1 ++ (N ++ (M ++ (Hh ++ S2)))) ++ (hs ++ (T0 ++ T1))).Perm ((T1 ++ N) ++ (X1 ++ (M ++ (Hh ++ (S2 ++ (hs ++ T0)))))) := by
  simp only [List.append_assoc]
  exact ((List.Perm.append_left _ (List.Perm.append_left _ (List.Perm.append_left _ (List.Perm.append_left _ (List.Perm.append_left _ (List.Perm.append_left _ (List.perm_append_comm))))))).trans ((List.Perm.append_left _ (List.Perm.append_left _ (List.Perm.append_left _ (List.Perm.append_left _ (List.Perm.append_left _ (xg_sw _ _ _)))))).trans ((List.Perm.append_left _ (List.Perm.append_left _ (List.Perm.append_left _ (List.Perm.append_left _ (xg_sw _ _ _))))).trans ((List.Perm.append_left _ (List.Perm.append_left _ (List.Perm.append_left _ (xg_sw _ _ _)))).trans ((List.Perm.append_left _ (List.Perm.append_left _ (xg_sw _ _ _))).trans ((List.Perm.append_left _ (xg_sw _ _ _)).trans ((xg_sw _ _ _).trans (List.Perm.append_left _ (xg_sw _ _ _)))))))))

theorem xw_re0 (X1 N M Hh S2 hs T0 T1 : va_W) : ((X1 ++ (N ++ (M ++ (Hh ++ S2)))) ++ (hs ++ (T0 ++ T1))).Perm ((N ++ T0) ++ (X1 ++ (M ++ (Hh ++ (S2 ++ (hs ++ T1)))))) := by
  simp only [List.append_assoc]
  exact ((xg_sw _ _ _).trans ((List.Perm.append_left _ (List.Perm.append_left _ (List.Perm.append_left _ (List.Perm.append_left _ (List.Perm.append_left _ (xg_sw _ _ _)))))).trans ((List.Perm.append_left _ (List.Perm.append_left _ (List.Perm.append_left _ (List.Perm.append_left _ (xg_sw _ _ _))))).trans ((List.Perm.append_left _ (List.Perm.append_left _ (List.Perm.append_left _ (xg_sw _ _ _)))).trans ((List.Perm.append_left _ (List.Perm.append_left _ (xg_sw _ _ _))).trans (List.Perm.append_left _ (xg_sw _ _ _)))))))

theorem xw_re1 (X1 N M Hh S2 hs T0 T1 : va_W) : ((X1 ++ (N ++ (M ++ (Hh ++ S2)))) ++ (hs ++ (T0 ++ T1))).Perm ((N ++ T1) ++ (X1 ++ (M ++ (Hh ++ (S2 ++ (hs ++ T0)))))) := by
  simp only [List.append_assoc]
  exact ((xg_sw _ _ _).trans ((List.Perm.append_left _ (List.Perm.append_left _ (List.Perm.append_left _ (List.Perm.append_left _ (List.Perm.append_left _ (List.Perm.append_left _ (List.perm_append_comm))))))).trans ((List.Perm.append_left _ (List.Perm.append_left _ (List.Perm.append_left _ (List.Perm.append_left _ (List.Perm.append_left _ (xg_sw _ _ _)))))).trans ((List.Perm.append_left _ (List.Perm.append_left _ (List.Perm.append_left _ (List.Perm.append_left _ (xg_sw _ _ _))))).trans ((List.Perm.append_left _ (List.Perm.append_left _ (List.Perm.append_left _ (xg_sw _ _ _)))).trans ((List.Perm.append_left _ (List.Perm.append_left _ (xg_sw _ _ _))).trans (List.Perm.append_left _ (xg_sw _ _ _))))))))

/-- contents out of their parts -/
def mkC (f0 f1 f2 f3 f4 f5 f6 : Nat → Int32) (n0 n1 : Int32) : Nat → Nat → Int32
  | 0 => f0
  | 1 => f1
  | 2 => f2
  | 3 => f3
  | 4 => f4
  | 5 => f5
  | 6 => f6
  | 7 => fun k => match k with
    | 0 => n0
    | _ => n1
  | _ => fun _ => 0
/-- a change was made: the state z1 beside the contents cq; the history has recorded -/
def Chg (cn : Nat → Nat → Int32) (z : Nat → Int32) (old sz : Int32) (cs : Nat → Nat → Nat → Int32) (z1 : Nat → Int32) (cq : Nat → Nat → Int32) (zq : Nat → Int32) (old1 sz1 : Int32) (cs1 : Nat → Nat → Nat → Int32) : Prop := zq = z1 ∧ RS cq z1 ∧ old1 = oldR old sz ∧ sz1 = szR sz ∧ cs1 = recC cs (cZm cn z) (jR old sz)
def Same (cn : Nat → Nat → Int32) (z : Nat → Int32) (old sz : Int32) (cs : Nat → Nat → Nat → Int32) (cq : Nat → Nat → Int32) (zq : Nat → Int32) (old1 sz1 : Int32) (cs1 : Nat → Nat → Nat → Int32) : Prop := cq = cn ∧ zq = z ∧ old1 = old ∧ sz1 = sz ∧ cs1 = cs
theorem Same_r (cn : Nat → Nat → Int32) (z : Nat → Int32) (old sz : Int32) (cs : Nat → Nat → Nat → Int32) : Same cn z old sz cs cn z old sz cs := ⟨rfl, rfl, rfl, rfl, rfl⟩
theorem RS_begin {cn : Nat → Nat → Int32} {z : Nat → Int32} (h : RS cn z) (i : InvZ z) : RS cn (beginZ z) := by
  have lo : ∀ k, k < 174 → beginZ z k = z k := fun k hk => beginZ_lo z hk
  exact ⟨RSet_c lo h.1, RSong_c lo i.2.1 h.2.1, RRoad_c lo i.2.2.1 h.2.2.1, h.2.2.2⟩
theorem RS_walk {cn : Nat → Nat → Int32} {z : Nat → Int32} (h : RS cn z) (i : InvZ z) (n : Nat) : RS cn (walkZ n z) := by
  have lo : ∀ k, k < 174 → walkZ n z k = z k := fun k hk => walkZ_o n z (Or.inl hk)
  exact ⟨RSet_c lo h.1, RSong_c lo i.2.1 h.2.1, RRoad_c lo i.2.2.1 h.2.2.1, h.2.2.2⟩
theorem RS_set {cn : Nat → Nat → Int32} {z : Nat → Int32} (h : RS cn z) (i : InvZ z) (q : Nat) (hq : q < 6) (v : Int32) : RS (mkC (upd (cn 0) q v) (cn 1) (cn 2) (cn 3) (cn 4) (cn 5) (cn 6) (cn 7 0) (cn 7 1)) (beginZ (upd z q v)) := by
  have hz := pz_lo z q hq v
  refine ⟨fun k hk => ?_, RSong_x hz i.2.1 h.2.1, RRoad_x hz i.2.2.1 h.2.2.1, h.2.2.2⟩
  show upd (cn 0) q v k = beginZ (upd z q v) k
  rw [beginZ_lo _ (by omega)]
  unfold upd
  split
  · rfl
  · exact h.1 k hk
theorem RS_pave {cn : Nat → Nat → Int32} {z : Nat → Int32} (h : RS cn z) (i : InvZ z) (p1 p2 p3 : Int32) (h7 : (z 7).toInt < 12) (hp3 : p3 = 0 ∨ p3 = 1) : RS (mkC (cn 0) (cn 1) (cn 2) (cn 3) (upd (cn 4) (z 7).toInt.toNat p1) (upd (cn 5) (z 7).toInt.toNat p2) (upd (cn 6) (z 7).toInt.toNat p3) (cn 7 0) (z 7 + 1)) (paveZ z p1 p2 p3) := by
  have h70 := i.2.2.1.1
  have t7 : (z 7 + 1).toInt = (z 7).toInt + 1 := xi_add rfl (by decide) (by omega) (by omega)
  have low : ∀ k, k < 138 → k ≠ 7 → paveZ z p1 p2 p3 k = z k := fun k hk h2 => by
    unfold paveZ
    rw [beginZ_lo _ (by omega), upd_n _ _ _ h2, upd_n _ _ _ (by omega), upd_n _ _ _ (by omega), upd_n _ _ _ (by omega)]
  have e7 : paveZ z p1 p2 p3 7 = z 7 + 1 := by unfold paveZ; rw [beginZ_lo _ (by omega), upd_s]
  refine ⟨fun k hk => by rw [low k (by omega) (by omega)]; exact h.1 k hk, ?_, ⟨e7.symm, fun s hs => ?_⟩, h.2.2.2.1, fun j hj => ?_⟩
  · obtain ⟨i1, i2⟩ := h.2.1
    have g1 := i.2.1.1
    refine ⟨by rw [low 6 (by omega) (by omega)]; exact i1, ?_⟩
    intro l hl
    rw [low 6 (by omega) (by omega)] at hl
    have g2 := (i.2.1.2 l hl).1
    rw [low (8 + l) (by omega) (by omega)]
    refine ⟨(i2 l hl).1, fun f hf => ?_⟩
    have u := (i2 l hl).2 f hf
    unfold btZ mkZ at *
    rw [low (12 * l + f + 18) (by omega) (by omega)]
    exact u
  · rw [e7, t7] at hs
    have hs12 : s < 12 := by omega
    have off : ∀ w : Nat, w < 3 → paveZ z p1 p2 p3 (3 * s + (138 + w)) = upd (upd (upd z (3 * (z 7).toInt.toNat + 138) p1) (3 * (z 7).toInt.toNat + 139) p2) (3 * (z 7).toInt.toNat + 140) p3 (3 * s + (138 + w)) := fun w hw => by
      unfold paveZ
      rw [beginZ_lo _ (by omega), upd_n _ _ _ (by omega)]
    show upd (cn 4) _ p1 s = _ ∧ upd (cn 5) _ p2 s = _ ∧ upd (cn 6) _ p3 s = _
    unfold ofZ
    rw [off 0 (by omega), off 1 (by omega), off 2 (by omega)]
    by_cases e : s = (z 7).toInt.toNat
    · subst e
      rw [upd_s, upd_s, upd_s]
      refine ⟨?_, ?_, ?_⟩
      · rw [upd_n _ _ _ (by omega), upd_n _ _ _ (by omega)]; exact (upd_s _ _ _).symm
      · rw [upd_n _ _ _ (by omega)]; exact (upd_s _ _ _).symm
      · exact (upd_s _ _ _).symm
    · have q := h.2.2.1.2 s (by omega)
      rw [upd_n _ _ _ e, upd_n _ _ _ e, upd_n _ _ _ e]
      unfold ofZ at q
      refine ⟨?_, ?_, ?_⟩
      · rw [upd_n _ _ _ (by omega), upd_n _ _ _ (by omega), upd_n _ _ _ (by omega)]; exact q.1
      · rw [upd_n _ _ _ (by omega), upd_n _ _ _ (by omega), upd_n _ _ _ (by omega)]; exact q.2.1
      · rw [upd_n _ _ _ (by omega), upd_n _ _ _ (by omega), upd_n _ _ _ (by omega)]; exact q.2.2
  · show upd (cn 6) _ p3 j = 0 ∨ upd (cn 6) _ p3 j = 1
    unfold upd
    split
    · exact hp3
    · exact h.2.2.2.2 j hj
theorem RS_tear {cn : Nat → Nat → Int32} {z : Nat → Int32} (h : RS cn z) (i : InvZ z) (p : Int32) (hp : tearC z p) : RS (mkC (cn 0) (cn 1) (cn 2) (cn 3) (outU (cn 4) p.toInt.toNat 11) (outU (cn 5) p.toInt.toNat 11) (outU (cn 6) p.toInt.toNat 11) (cn 7 0) (z 7 - 1)) (tearZ z p) := by
  have h70 := i.2.2.1.1
  have hp1 := hp.1
  have hp2 := hp.2
  have t7 : (z 7 - 1).toInt = (z 7).toInt - 1 := xi_sub rfl (by decide) (by omega) (by omega)
  have low : ∀ k, k < 138 → k ≠ 7 → tearZ z p k = z k := fun k hk h2 => by
    unfold tearZ shiftR
    rw [beginZ_lo _ (by omega), if_neg (by omega), upd_n _ _ _ h2]
  have e7 : tearZ z p 7 = z 7 - 1 := by unfold tearZ shiftR; rw [beginZ_lo _ (by omega), if_neg (by omega), upd_s]
  refine ⟨fun k hk => by rw [low k (by omega) (by omega)]; exact h.1 k hk, ?_, ⟨e7.symm, fun s hs => ?_⟩, h.2.2.2.1, fun j hj => ?_⟩
  · obtain ⟨i1, i2⟩ := h.2.1
    have g1 := i.2.1.1
    refine ⟨by rw [low 6 (by omega) (by omega)]; exact i1, ?_⟩
    intro l hl
    rw [low 6 (by omega) (by omega)] at hl
    have g2 := (i.2.1.2 l hl).1
    rw [low (8 + l) (by omega) (by omega)]
    refine ⟨(i2 l hl).1, fun f hf => ?_⟩
    have u := (i2 l hl).2 f hf
    unfold btZ mkZ at *
    rw [low (12 * l + f + 18) (by omega) (by omega)]
    exact u
  · rw [e7, t7] at hs
    show outU (cn 4) _ 11 s = _ ∧ outU (cn 5) _ 11 s = _ ∧ outU (cn 6) _ 11 s = _
    have off : ∀ w : Nat, w < 3 → ofZ (tearZ z p) s w = if p.toInt.toNat ≤ s then ofZ z (s + 1) w else ofZ z s w := fun w hw => by
      unfold ofZ tearZ shiftR
      rw [beginZ_lo _ (by omega)]
      by_cases e : p.toInt.toNat ≤ s
      · rw [if_pos e, if_pos (by omega), upd_n _ _ _ (by omega), show 3 * s + (138 + w) + 3 = 3 * (s + 1) + (138 + w) from by omega]
      · rw [if_neg e, if_neg (by omega), upd_n _ _ _ (by omega)]
    rw [off 0 (by omega), off 1 (by omega), off 2 (by omega)]
    unfold outU
    by_cases e : p.toInt.toNat ≤ s
    · rw [if_pos e, if_pos e, if_pos e, if_pos (by omega), if_pos (by omega), if_pos (by omega)]
      exact h.2.2.1.2 (s + 1) (by omega)
    · rw [if_neg e, if_neg e, if_neg e, if_neg (by omega), if_neg (by omega), if_neg (by omega)]
      exact h.2.2.1.2 s (by omega)
  · show outU (cn 6) _ 11 j = 0 ∨ outU (cn 6) _ 11 j = 1
    unfold outU
    split
    · exact h.2.2.2.2 (j + 1) (by omega)
    · exact h.2.2.2.2 j hj
theorem walk_174b : ∀ (b : Nat) (z : Nat → Int32) (c : Int), (z 174).toInt = c → 0 ≤ c → c + b ≤ 2000000 → (walkZ b z 174).toInt = c + walkN b z
  | 0, z, c, h, _, _ => by simp [walkZ, walkN, h]
  | b + 1, z, c, h, h0, hb => by
    rw [walkZ, walkN]
    split
    · have h1 : (beatZ z 174).toInt = c + 1 := by rw [beat_174]; exact xi_add h (by decide) (by omega) (by omega)
      rw [walk_174b b (beatZ z) (c + 1) h1 (by omega) (by omega)]
      omega
    · simp [h]
