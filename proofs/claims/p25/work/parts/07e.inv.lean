theorem beat_inv {z : Nat → Int32} (i : InvZ z) (hc : canZ z) (hw : z 188 = 0) : InvZ (beatZ z) := by
  obtain ⟨is, ig, ir, ip, iq, il⟩ := i
  have lo : ∀ k, k < 174 → beatZ z k = z k := fun k hk => beatZ_lo z hk
  refine ⟨SetOK_c lo is, SongOK_c lo ig, RoadOK_c lo ir, ?_⟩
  by_cases r : restZ z
  · have e : beatZ z = restsZ z := by rw [beatZ, if_pos r]
    rw [e] at lo ⊢
    refine ⟨SPos_c lo (restsZ_o z (by omega) (by omega) (by omega) (by omega) (by omega)) (restsZ_o z (by omega) (by omega) (by omega) (by omega) (by omega)) (restsZ_o z (by omega) (by omega) (by omega) (by omega) (by omega)) ig ip, RPos_c lo (restsZ_o z (by omega) (by omega) (by omega) (by omega) (by omega)) (restsZ_o z (by omega) (by omega) (by omega) (by omega) (by omega)) (restsZ_o z (by omega) (by omega) (by omega) (by omega) (by omega)) ir iq, ?_⟩
    have h1 : restsZ z 182 = preZ z 182 - 1 := by rw [restsZ]; rfl
    have h2 : (preZ z 182).toInt ≤ 9 := by
      unfold preZ
      rw [upd_n _ _ _ (by omega)]
      split
      · rw [upd_s]; exact is.2.2.1.2
      · rw [upd_n _ _ _ (by omega)]; exact il.2
    have r' : 0 < (preZ z 182).toInt := r
    unfold LOK
    rw [h1, xi_sub (b := 1) rfl (by decide) (by omega) (by omega)]
    omega
  · have e : beatZ z = goOnZ (stepZ (singZ z)) := by rw [beatZ, if_neg r]
    have r' : ¬ 0 < (preZ z 182).toInt := r
    have hg : ¬ gaspZ z := by
      intro g
      have : preZ z 182 = z 2 := by rw [preZ, if_pos g]; rfl
      rw [this] at r'
      have := is.2.2.1
      omega
    have p2 : preZ z 182 = z 182 := by rw [preZ, if_neg hg]; rfl
    have z2 : z 182 = 0 := xi_ext (by have z0 : (0 : Int32).toInt = 0 := by decide
                                      rw [p2] at r'; unfold LOK at il; rw [z0]; omega)
    have s2 : singZ z 182 = 0 := by
      show upd _ _ _ _ = _
      rw [upd_n _ _ _ (by omega), upd_n _ _ _ (by omega), upd_n _ _ _ (by omega), p2, z2]
    have lw : ∀ k, k < 174 → singZ z k = z k := fun k hk => singZ_o z (by omega) (by omega) (by omega) (by omega) (by omega) (by omega)
    have w6 : SPos (singZ z) := SPos_c lw (singZ_o z (by omega) (by omega) (by omega) (by omega) (by omega) (by omega)) (singZ_o z (by omega) (by omega) (by omega) (by omega) (by omega) (by omega)) (singZ_o z (by omega) (by omega) (by omega) (by omega) (by omega) (by omega)) ig ip
    have h188 : singZ z 188 = z 188 := singZ_o z (by omega) (by omega) (by omega) (by omega) (by omega) (by omega)
    have w7 : RPos (singZ z) := RPos_c lw (singZ_o z (by omega) (by omega) (by omega) (by omega) (by omega) (by omega)) (singZ_o z (by omega) (by omega) (by omega) (by omega) (by omega) (by omega)) h188 ir iq
    have wr := RoadOK_c lw ir
    have ww := step_inv wr w7 (by rw [lw 7 (by omega)]; exact hc.2) (by rw [h188]; exact hw)
    have lv : ∀ k, k < 174 → stepZ (singZ z) k = singZ z k := fun k hk => stepZ_o _ (by omega) (by omega) (by omega) (by omega) (by omega) (by omega)
    have v6 : SPos (stepZ (singZ z)) := SPos_c lv (stepZ_o _ (by omega) (by omega) (by omega) (by omega) (by omega) (by omega)) (stepZ_o _ (by omega) (by omega) (by omega) (by omega) (by omega) (by omega)) (stepZ_o _ (by omega) (by omega) (by omega) (by omega) (by omega) (by omega)) (SongOK_c lw ig) w6
    have lu : ∀ k, k < 174 → goOnZ (stepZ (singZ z)) k = stepZ (singZ z) k := fun k hk => goOnZ_o _ (by omega) (by omega) (by omega) (by omega) (by omega)
    have gi := goOn_inv (SetOK_c lv (SetOK_c lw is)) (SongOK_c lv (SongOK_c lw ig)) v6 (by rw [lv 6 (by omega), lw 6 (by omega)]; exact hc.1) (by rw [stepZ_o _ (by omega) (by omega) (by omega) (by omega) (by omega) (by omega)]; exact s2)
    rw [e]
    exact ⟨gi.1, RPos_c lu (goOnZ_o _ (by omega) (by omega) (by omega) (by omega) (by omega)) (goOnZ_o _ (by omega) (by omega) (by omega) (by omega) (by omega)) (goOnZ_o _ (by omega) (by omega) (by omega) (by omega) (by omega)) (RoadOK_c lv wr) ww, gi.2⟩
