set_option maxHeartbeats 4000000 in
theorem c_L_cell (l : Launch) (b L : Nat) (k : Int32) (xs : Nat → Int32) (hk : 0 ≤ k.toInt ∧ k.toInt ≤ 60) (hL : L ≤ 260) (sz : Nat) : Met l yL_cell (Cond.code yL_cell cL_cell 2 (some .int) :: wsL_law) ({ frames := 0, cells := 0, slots := 0, locals := 0 } : Room) (va_Pc [.ref b, .int k] (xPreX b L xs sz)) (va_Qi (fun (r : Int32) (_ : Unit) => 0 ≤ r.toInt) (fun _ _ => True) (fun q => sz ≤ q)) 0 0 (fun q => sz ≤ q) := by
  refine Met.ofW (cc := cL_cell) (maxL := 2) (ret := some .int) (by decide) rfl ?_
  intro p e s m args below meth c s₁ B hml hv
  obtain ⟨rfl, hsz, hX, hbl⟩ := hv
  have hx := B.exec
  have hb := B.bytes
  have hr := B.returns
  have hts := atoms_spec (ws := Cond.code yL_cell cL_cell 2 (some .int) :: wsL_law) B.pre
  have hown : s.vm.findClass RL = some m.cls := findClass_of_methodNamed B.named
  have hlocks := B.notSynchronized
  subst hsz
  have hS : va_S (fun q => s.heap.size ≤ q) s.heap s.heap [] := va_S.rf
  have hbA : ¬ (fun q => s.heap.size ≤ q) b := Nat.not_le.mpr hbl
  have hLi : (nI L).toInt = L := nI_toInt (by omega)
  have K : ∀ (Q : State → Prop) (ls : Array Slot), lv_has ls 2 [(0, .ref b), (1, .int k)] → Q = MQ below (va_Qi (fun (r : Int32) (_ : Unit) => 0 ≤ r.toInt) (fun _ _ => True) (fun q => s.heap.size ≤ q)) ([.ref b, .int k] : List Value).toArray s 0 0 (fun q => s.heap.size ≤ q) → W p l e ({ frames := 0, cells := 0, slots := 0, locals := 0 } : Room) s m ([.ref b, .int k] : List Value).toArray below meth c s.heap [] 0 0 Q (F0 m 0 ls []) := by
    intro Q ls hl hQ
    refine lv_iload_n hx hb dL_cell_0 rfl (lv_at hl 1 rfl) ?_
    refine lv_aload_n hx hb dL_cell_1 rfl (lv_at hl 0 rfl) ?_
    refine va_slen hx hb hX hbl hbA hS dL_cell_2 ?_
    refine xk_top (z := nI L) rfl ?_
    refine lv_icmp_ge (tgt := 12) hx hb dL_cell_3 (by decide) (fun c3 => ?_) (fun c3 => ?_)
    · have t3 : (nI L).toInt ≤ k.toInt := xi_le rfl rfl c3
      refine lv_ldc (v := 511384498) hx hb hown (hts _ (List.mem_cons_of_mem _ mw_2_113)) dL_cell_12 ?_
      refine lv_iload_n hx hb dL_cell_14 rfl (lv_at hl 1 rfl) ?_
      refine lv_sipush (v := 491) hx hb dL_cell_15 (by decide) ?_
      refine lv_iadd hx hb dL_cell_18 ?_
      refine lv_topi (fun x18 e18 => ?_)
      refine lv_imul hx hb dL_cell_19 ?_
      refine lv_topi (fun x19 e19 => ?_)
      refine lv_ldc (v := 89017) hx hb hown (hts _ (List.mem_cons_of_mem _ mw_2_114)) dL_cell_20 ?_
      refine lv_iadd hx hb dL_cell_22 ?_
      refine lv_topi (fun x22 e22 => ?_)
      refine lv_ldc (v := 2147483647) hx hb hown (hts _ (List.mem_cons_of_mem _ mw_2_115)) dL_cell_23 ?_
      refine lv_iand hx hb dL_cell_25 ?_
      refine lv_topi (fun x25 e25 => ?_)
      rw [hQ]
      exact W.iret hx hb hr (fun t ht _ => ⟨⟨x25, (), rfl, by rw [e25]; exact andM _, trivial⟩, hS.F ht⟩) hS.2.2 dL_cell_26 hlocks
    · have t3 : k.toInt < (nI L).toInt := xi_nle rfl rfl c3
      refine lv_aload_n hx hb dL_cell_6 rfl (lv_at hl 0 rfl) ?_
      refine lv_iload_n hx hb dL_cell_7 rfl (lv_at hl 1 rfl) ?_
      refine va_sld hx hb hX hbl hbA hS (xi_in (by omega) (by omega)) dL_cell_8 ?_
      refine lv_topi (fun x8 e8 => ?_)
      refine lv_goto (tgt := 23) hx hb dL_cell_9 (by decide) ?_
      refine lv_ldc (v := 2147483647) hx hb hown (hts _ (List.mem_cons_of_mem _ mw_2_115)) dL_cell_23 ?_
      refine lv_iand hx hb dL_cell_25 ?_
      refine lv_topi (fun x25 e25 => ?_)
      rw [hQ]
      exact W.iret hx hb hr (fun t ht _ => ⟨⟨x25, (), rfl, by rw [e25]; exact andM _, trivial⟩, hS.F ht⟩) hS.2.2 dL_cell_26 hlocks
  rw [lg_entry_eq]
  exact K _ _ (lv_entry _ (Nat.le_of_ble_eq_true rfl)) rfl
theorem xPreX_blind {b L sz : Nat} {xs : Nat → Int32} {As : List Value} : FrameBlind (va_Pc As (xPreX b L xs sz)) := by
  intro a U g mk h
  obtain ⟨h0, h1, h2, h3⟩ := h
  exact ⟨h0, h1, va_X.moved (u := U) (U := U.calling g mk a) (Vm.Alike.refl U.vm) h2, h3⟩
section XCE
variable {p : Program} {l : Launch} {e : Env} {R : Room} {s : State} {m : MethodId} {args : Array Value} {below : List Frame} {meth : Method} {c : Code} {H : Heap} {locs : List Loc} {cells slots : Nat} {Q : State → Prop}
variable {cc : ByteArray} {pc nL idx : Nat} {ls : Array Slot} {rest : List Value} {D : va_G} {wc : va_W} {A : Nat → Prop} {c0 : Cond} {own : String}
theorem xo_cell (hx : p.tables.exec = Jvm.exec) (hb : c.code = cc) (hml : c.maxLocals = nL) (hown : s.vm.findClass own = some m.cls) (hts : ∀ w ∈ c0 :: wsL_law, w.before args s = true) (hP : va_P D vwCl wc H) (hD : va_D A wc) (hS : va_S A s.heap H locs) (hA : ∀ q, s.heap.size ≤ q → A q)
    {b L : Nat} {k : Int32} {xs : Nat → Int32} (hX : va_X b L xs s s.heap) (hbl : b < s.heap.size) (hbA : ¬ A b) (hL : L ≤ 260) (hk : 0 ≤ k.toInt ∧ k.toInt ≤ 60) (hlink : Cond.methodLink own idx yL_cell ∈ wsL_law) (hR : 0 + 1 ≤ R.frames ∧ 8 + (2 + 11) + 0 ≤ R.locals) (hsz : ls.size = nL) (hrest : (rest.map fun v => v.category).sum ≤ 8) (hdg : decode cc pc = .ok (.invokestatic idx, 3)) (hcs : cells ≤ R.cells ∧ slots ≤ R.slots)
    (kk : ∀ (r : Int32) (H1 : Heap) (locs1 : List Loc), 0 ≤ r.toInt → va_P D vwCl wc H1 → va_D A wc → va_S A s.heap H1 locs1 → W p l e R s m args below meth c H1 locs1 cells slots Q (F0 m (pc + 3) ls (.int r :: rest))) : W p l e R s m args below meth c H locs cells slots Q (F0 m pc ls (.int k :: .ref b :: rest)) := by
  refine va_calli (A0 := A) (A1 := fun q => H.size ≤ q) (va_runS (As := [.ref b, .int k]) ⟨hx, hb, hml, hown, hts⟩ (c_L_cell l b L k xs hk hL H.size) ⟨xk_cb hts mb_L_cell hlink hR ⟨rfl, rfl⟩, hts _ (List.mem_cons_of_mem _ mw_2_111)⟩ ⟨xPreX_blind, fun U hU hW => ⟨rfl, by rw [hU], ?_, Nat.lt_of_lt_of_le hbl hS.1⟩⟩ rfl rfl hsz rfl (lv_room hrest) hdg hcs) hS (fun q h1 h2 => absurd h1 (Nat.not_lt.mpr h2)) (fun q h => hA q (Nat.le_trans hS.1 h)) (fun r u t H1 locs1 ht hvm hp hb2 hz hk2 hS1 => ?_)
  · rw [hU]
    exact va_X.moved hW.alike (hX.kept (hS.2.1 b hbl hbA))
  · exact kk r H1 locs1 hp (hP.kept (fun j q hj => hk2 q.1 ((hP j q hj).lt) (Nat.not_le.mpr ((hP j q hj).lt)))) hD hS1
end XCE
