def R_law : String := "MarchMetresLaw"
def lw_P (b : Addr) (xs : List Int32) (args : Array Value) (s : State) : Prop := args = #[.ref b] ∧ s.IntsAt b xs ∧ xs.length ≤ 2048 ∧ (Jvm.Cond.and given_1 narrow_1).before args s = true
def lw_Q (_ : Array Value) (s : State) (o : Outcome) (t : State) : Prop := o = .returned (some (.int 1)) ∧ Framed s o t [] 600000 7302250
def lw_Z (below : List Frame) (a : Array Value) (s : State) : State → Prop := fun t => ∃ o, t.status = .running ∧ Ended t below o ∧ lw_Q a s o t
theorem lw_ret {p : Program} {l : Launch} {e : Env} {s : State} {m : MethodId} {below : List Frame} {meth : Method} {c : Code} {b : Nat} (hx : p.tables.exec = Jvm.exec) (hb : c.code = code) (hr : meth.sig.returnType = ret) (hlocks : meth.locks = false) {pc : Nat} {H : Heap} {ls : Array Slot} (hdg : decode code pc = .ok (.ireturn, 1)) : W p l e room_1 s m #[Value.ref b] below meth c H [] 600000 7302250 (lw_Z below #[Value.ref b] s) (F0 m pc ls [.int 1]) := by
  intro T hT X
  obtain ⟨fs, hret, hrun, hended, hW, hframe⟩ := X.leave (v := some (.int 1)) (hlocks := hlocks) (fun h => by rw [hr] at h; cases h)
  have hmeth' : T.vm.method? m = some meth := X.method'
  refine ⟨T.setFrames fs, ?_, .returned (some (.int 1)), hrun, hended, rfl, ⟨_, rfl⟩, hW, hframe⟩
  jvm_step X.here [X.here.top, hx, hb, hdg, hmeth', hr, ret, narrow_b1]
  (try refine ⟨rfl, ?_⟩); (try refine ⟨rfl, ?_⟩)
  first | (intro acts; rw [hret _ acts rfl rfl rfl]) | rw [hret _ _ rfl rfl rfl]
  exact Steps.refl _
def lw_At (p : Program) (s : State) (m : MethodId) (meth : Method) (c : Code) (b L : Nat) (xs : Nat → Int32) : Prop :=
  p.tables.exec = Jvm.exec ∧ c.code = code ∧ meth.sig.returnType = ret ∧ c.maxLocals = 4 ∧ s.vm.findClass R_law = some m.cls ∧ (∀ w ∈ lw_tbl, w.before #[Value.ref b] s = true) ∧ va_X b L xs s s.heap ∧ b < s.heap.size ∧ meth.locks = false ∧ (Jvm.Cond.and given_1 narrow_1).before #[Value.ref b] s = true

theorem ls_arr {s : State} {args : Array Value} {ty : FieldType} (h : (Cond.arrayClass ty).before args s = true) : ∃ cA : ClassId, ArrOfT s cA ty ∧ s.vm.findClass ("[" ++ ty.toString) = some cA := by
  obtain ⟨cA, kA, comp, h1, h2, h3⟩ := Cond.arrayClass_spec h
  exact ⟨cA, fun n z => ⟨fun k h => by (cases h), kA, h2, comp, h3⟩, h1⟩
theorem ls_sta {s : State} {args : Array Value} {C : String} (h : (Cond.arrayOver (.object C)).before args s = true) : ∃ cA : ClassId, ArrOfT s cA (.object C) ∧ va_RA s cA (.object C) := by
  obtain ⟨comp, cA, kA, f4, -, f2, f3, f1⟩ := Cond.arrayOver_spec h
  exact ⟨cA, fun N z => ⟨(fun k h => by cases h), kA, f2, comp, f3⟩, kA, comp, f2, f3, f4, f1⟩
theorem ls_K {s : State} {b : Addr} (hts : ∀ w ∈ lw_tbl, w.before #[Value.ref b] s = true) : ∃ (D : va_G) (cI cZ cS : ClassId), va_K D vwCl (xTy cI cZ cS) s := by
  have ht2 : ∀ w ∈ wsL_law, w.before #[Value.ref b] s = true := fun w h => hts w (wsL_law_in w h)
  obtain ⟨cI, a1, a2⟩ := ls_arr (ty := .int) (ht2 _ mw_1_37)
  obtain ⟨cZ, b1, b2⟩ := ls_arr (ty := .boolean) (ht2 _ mw_1_59)
  obtain ⟨cS, d1, d2⟩ := ls_sta (C := "MarchMetres$State") (hts _ (by decide +kernel))
  obtain ⟨c0, i0, k0⟩ := u_known (C := RX0) (T := TX0) (N := 3) (n := 3) ht2 inlX0 (ht2 _ mw_1_166)
  obtain ⟨c1, i1, k1⟩ := u_known (C := RX1) (T := TX1) (N := 15) (n := 15) ht2 inlX1 (ht2 _ mw_1_82)
  obtain ⟨c2, i2, k2⟩ := u_known (C := RX2) (T := TX2) (N := 2) (n := 2) ht2 inlX2 (ht2 _ mw_1_185)
  obtain ⟨c3, i3, k3⟩ := u_known (C := RX3) (T := TX3) (N := 4) (n := 4) ht2 inlX3 (ht2 _ mw_1_61)
  obtain ⟨c4, i4, k4⟩ := u_known (C := RX4) (T := TX4) (N := 1) (n := 1) ht2 inlX4 (ht2 _ mw_1_26)
  obtain ⟨c5, i5, k5⟩ := u_known (C := RX5) (T := TX5) (N := 4) (n := 4) ht2 inlX5 (ht2 _ mw_1_39)
  obtain ⟨c6, i6, k6⟩ := u_known (C := RX6) (T := TX6) (N := 4) (n := 4) ht2 inlX6 (ht2 _ mw_1_20)
  obtain ⟨c7, i7, k7⟩ := u_known (C := RX7) (T := TX7) (N := 7) (n := 7) ht2 inlX7 (ht2 _ mw_1_12)
  obtain ⟨c8, i8, k8⟩ := u_known (C := RX8) (T := TX8) (N := 14) (n := 14) ht2 inlX8 (ht2 _ mw_3_80)
  refine ⟨(fun k => match k with | 0 => c0 | 1 => c1 | 2 => c2 | 3 => c3 | 4 => c4 | 5 => c5 | 6 => c6 | 7 => c7 | _ => c8, fun k => match k with | 0 => i0 | 1 => i1 | 2 => i2 | 3 => i3 | 4 => i4 | 5 => i5 | 6 => i6 | 7 => i7 | _ => i8), cI, cZ, cS, ?_, ?_⟩
  · intro k q hq
    match k, hq with
    | 0, hq => cases hq; exact k0
    | 1, hq => cases hq; exact k1
    | 2, hq => cases hq; exact k2
    | 3, hq => cases hq; exact k3
    | 4, hq => cases hq; exact k4
    | 5, hq => cases hq; exact k5
    | 6, hq => cases hq; exact k6
    | 7, hq => cases hq; exact k7
    | 8, hq => cases hq; exact k8
    | k + 9, hq => simp [vwCl] at hq
  · intro k q hq
    match k, hq with
    | 0, hq => cases hq; exact ⟨a1, a2⟩
    | 1, hq => cases hq; exact ⟨b1, b2⟩
    | 2, hq => cases hq; exact ⟨d1, d2⟩
    | k + 3, hq => simp [xTy] at hq
set_option maxRecDepth 100000 in
theorem ls_nf : ∀ q ∈ xk_nf, Cond.fieldLinkNest q.1 q.2.1 q.2.2.1 q.2.2.2.1 q.2.2.2.2.1 q.2.2.2.2.2 ∈ lw_tbl := by decide +kernel
set_option maxRecDepth 100000 in
theorem ls_nm : ∀ q ∈ xk_nm, Cond.methodLinkNest q.1 q.2.1 q.2.2.1 q.2.2.2 ∈ lw_tbl := by decide +kernel
theorem ls_N {s : State} {b : Addr} (hts : ∀ w ∈ lw_tbl, w.before #[Value.ref b] s = true) : xN s :=
  ⟨fun q hq => va_Nw.of rfl (hts _ (ls_nf q hq)), fun q hq => va_Nw.of rfl (hts _ (ls_nm q hq)), va_AO.of (hts (.arrayOver (.object "MarchMetres$State")) (by decide +kernel)), va_Nw.of rfl (hts (.constant "MarchMetres" 238 1000000) (by decide +kernel))⟩
theorem ls_FIRST_VALUES {s : State} {b : Addr} (hts : ∀ w ∈ lw_tbl, w.before #[Value.ref b] s = true) (hgv : (Jvm.Cond.and given_1 narrow_1).before #[Value.ref b] s = true) : xZ1 "FIRST_VALUES" xvF (fun q => s.heap.size ≤ q) s s.heap := by
  have hf := flat_of_before _ hgv
  have hA : ∀ a : Nat, a < s.heap.size → ¬ (fun q => s.heap.size ≤ q) a := fun a h => Nat.not_le.mpr h
  obtain ⟨t, ht, hT⟩ := va_Tof (args := #[Value.ref b]) (s := s) (tm := (.static "MarchMetres" "FIRST_VALUES" "[I")) (ty := .int) (N := 6) (f := xvF) (A := fun q => s.heap.size ≤ q) (by decide) (hf (.arrayOf (.static "MarchMetres" "FIRST_VALUES" "[I") .int) (by decide +kernel)) (va_eqt (hf (.eq (.length (.static "MarchMetres" "FIRST_VALUES" "[I")) (.int 6)) (by decide +kernel))) (fun j hj => by
    rcases (show j = 0 ∨ j = 1 ∨ j = 2 ∨ j = 3 ∨ j = 4 ∨ j = 5 by omega) with rfl | rfl | rfl | rfl | rfl | rfl
    · exact va_eqt (hf (.eq (.elem (.static "MarchMetres" "FIRST_VALUES" "[I") (.int 0)) (.int 4)) (by decide +kernel))
    · exact va_eqt (hf (.eq (.elem (.static "MarchMetres" "FIRST_VALUES" "[I") (.int 1)) (.int 1)) (by decide +kernel))
    · exact va_eqt (hf (.eq (.elem (.static "MarchMetres" "FIRST_VALUES" "[I") (.int 2)) (.int 3)) (by decide +kernel))
    · exact va_eqt (hf (.eq (.elem (.static "MarchMetres" "FIRST_VALUES" "[I") (.int 3)) (.int 4)) (by decide +kernel))
    · exact va_eqt (hf (.eq (.elem (.static "MarchMetres" "FIRST_VALUES" "[I") (.int 4)) (.int 30)) (by decide +kernel))
    · exact va_eqt (hf (.eq (.elem (.static "MarchMetres" "FIRST_VALUES" "[I") (.int 5)) (.int 4)) (by decide +kernel))) hA
  exact ⟨t, va_Zref (hts (.laysStatic "MarchMetres" "FIRST_VALUES" "[I") (by decide +kernel)) (hts (.initialized "MarchMetres") (by decide +kernel)) ht hA, hT⟩
theorem ls_LEAST_VALUES {s : State} {b : Addr} (hts : ∀ w ∈ lw_tbl, w.before #[Value.ref b] s = true) (hgv : (Jvm.Cond.and given_1 narrow_1).before #[Value.ref b] s = true) : xZ1 "LEAST_VALUES" xvL (fun q => s.heap.size ≤ q) s s.heap := by
  have hf := flat_of_before _ hgv
  have hA : ∀ a : Nat, a < s.heap.size → ¬ (fun q => s.heap.size ≤ q) a := fun a h => Nat.not_le.mpr h
  obtain ⟨t, ht, hT⟩ := va_Tof (args := #[Value.ref b]) (s := s) (tm := (.static "MarchMetres" "LEAST_VALUES" "[I")) (ty := .int) (N := 6) (f := xvL) (A := fun q => s.heap.size ≤ q) (by decide) (hf (.arrayOf (.static "MarchMetres" "LEAST_VALUES" "[I") .int) (by decide +kernel)) (va_eqt (hf (.eq (.length (.static "MarchMetres" "LEAST_VALUES" "[I")) (.int 6)) (by decide +kernel))) (fun j hj => by
    rcases (show j = 0 ∨ j = 1 ∨ j = 2 ∨ j = 3 ∨ j = 4 ∨ j = 5 by omega) with rfl | rfl | rfl | rfl | rfl | rfl
    · exact va_eqt (hf (.eq (.elem (.static "MarchMetres" "LEAST_VALUES" "[I") (.int 0)) (.int 1)) (by decide +kernel))
    · exact va_eqt (hf (.eq (.elem (.static "MarchMetres" "LEAST_VALUES" "[I") (.int 1)) (.int 0)) (by decide +kernel))
    · exact va_eqt (hf (.eq (.elem (.static "MarchMetres" "LEAST_VALUES" "[I") (.int 2)) (.int 1)) (by decide +kernel))
    · exact va_eqt (hf (.eq (.elem (.static "MarchMetres" "LEAST_VALUES" "[I") (.int 3)) (.int 1)) (by decide +kernel))
    · exact va_eqt (hf (.eq (.elem (.static "MarchMetres" "LEAST_VALUES" "[I") (.int 4)) (.int 5)) (by decide +kernel))
    · exact va_eqt (hf (.eq (.elem (.static "MarchMetres" "LEAST_VALUES" "[I") (.int 5)) (.int 2)) (by decide +kernel))) hA
  exact ⟨t, va_Zref (hts (.laysStatic "MarchMetres" "LEAST_VALUES" "[I") (by decide +kernel)) (hts (.initialized "MarchMetres") (by decide +kernel)) ht hA, hT⟩
theorem ls_MOST_VALUES {s : State} {b : Addr} (hts : ∀ w ∈ lw_tbl, w.before #[Value.ref b] s = true) (hgv : (Jvm.Cond.and given_1 narrow_1).before #[Value.ref b] s = true) : xZ1 "MOST_VALUES" xvM (fun q => s.heap.size ≤ q) s s.heap := by
  have hf := flat_of_before _ hgv
  have hA : ∀ a : Nat, a < s.heap.size → ¬ (fun q => s.heap.size ≤ q) a := fun a h => Nat.not_le.mpr h
  obtain ⟨t, ht, hT⟩ := va_Tof (args := #[Value.ref b]) (s := s) (tm := (.static "MarchMetres" "MOST_VALUES" "[I")) (ty := .int) (N := 6) (f := xvM) (A := fun q => s.heap.size ≤ q) (by decide) (hf (.arrayOf (.static "MarchMetres" "MOST_VALUES" "[I") .int) (by decide +kernel)) (va_eqt (hf (.eq (.length (.static "MarchMetres" "MOST_VALUES" "[I")) (.int 6)) (by decide +kernel))) (fun j hj => by
    rcases (show j = 0 ∨ j = 1 ∨ j = 2 ∨ j = 3 ∨ j = 4 ∨ j = 5 by omega) with rfl | rfl | rfl | rfl | rfl | rfl
    · exact va_eqt (hf (.eq (.elem (.static "MarchMetres" "MOST_VALUES" "[I") (.int 0)) (.int 9)) (by decide +kernel))
    · exact va_eqt (hf (.eq (.elem (.static "MarchMetres" "MOST_VALUES" "[I") (.int 1)) (.int 9)) (by decide +kernel))
    · exact va_eqt (hf (.eq (.elem (.static "MarchMetres" "MOST_VALUES" "[I") (.int 2)) (.int 9)) (by decide +kernel))
    · exact va_eqt (hf (.eq (.elem (.static "MarchMetres" "MOST_VALUES" "[I") (.int 3)) (.int 20)) (by decide +kernel))
    · exact va_eqt (hf (.eq (.elem (.static "MarchMetres" "MOST_VALUES" "[I") (.int 4)) (.int 60)) (by decide +kernel))
    · exact va_eqt (hf (.eq (.elem (.static "MarchMetres" "MOST_VALUES" "[I") (.int 5)) (.int 9)) (by decide +kernel))) hA
  exact ⟨t, va_Zref (hts (.laysStatic "MarchMetres" "MOST_VALUES" "[I") (by decide +kernel)) (hts (.initialized "MarchMetres") (by decide +kernel)) ht hA, hT⟩
theorem step_set {bd : Int} {c : Nat → Nat → Int32} {cs sc : Nat → Nat → Nat → Int32} {sv : Nat → Int32} {ln old sz : Int32} {z past slots : Nat → Int32} {cq : Nat → Nat → Int32} {zq : Nat → Int32} {old1 sz1 : Int32} {cs1 : Nat → Nat → Nat → Int32} {r1 r2 : Int32} {p1 p2 : Int32} (h : LI bd c cs sc sv ln old sz z past slots) (hx : (setV p1 p2 ∧ r1 = z p1.toInt.toNat ∧ Chg c z old sz cs (beginZ (upd z p1.toInt.toNat p2)) cq zq old1 sz1 cs1) ∨ (¬ setV p1 p2 ∧ r1 = -2 ∧ Same c z old sz cs cq zq old1 sz1 cs1)) (hm : r2 = if setV p1 p2 then z p1.toInt.toNat else -2) : r1 = r2 ∧ LI (bd + 500) cq cs1 sc sv ln old1 sz1 (if setV p1 p2 then beginZ (upd z p1.toInt.toNat p2) else z) (if setV p1 p2 then recP z past sz else past) slots ∧ zq = (if setV p1 p2 then beginZ (upd z p1.toInt.toNat p2) else z) ∧ sz1 = (if setV p1 p2 then recS sz else sz) := by
  rcases hx with ⟨c1, e, k⟩ | ⟨c1, e, k⟩
  · refine ⟨by rw [hm, if_pos c1, e], ?_⟩
    rw [if_pos c1, if_pos c1, if_pos c1]
    exact LI_chg h k (set_inv h.2.1 c1) (by omega) (BD_mono (by omega) (BD_begin h.2.2.1))
  · refine ⟨by rw [hm, if_neg c1, e], ?_⟩
    rw [if_neg c1, if_neg c1, if_neg c1]
    exact LI_same h k (by omega)
theorem step_pave {bd : Int} {c : Nat → Nat → Int32} {cs sc : Nat → Nat → Nat → Int32} {sv : Nat → Int32} {ln old sz : Int32} {z past slots : Nat → Int32} {cq : Nat → Nat → Int32} {zq : Nat → Int32} {old1 sz1 : Int32} {cs1 : Nat → Nat → Nat → Int32} {r1 r2 : Int32} {p1 p2 p3 : Int32} (h : LI bd c cs sc sv ln old sz z past slots) (hp3 : p3 = 0 ∨ p3 = 1) (hx : r1 = paveR z p1 p2 ∧ ((paveC z p1 p2 ∧ Chg c z old sz cs (paveZ z p1 p2 p3) cq zq old1 sz1 cs1) ∨ (¬ paveC z p1 p2 ∧ Same c z old sz cs cq zq old1 sz1 cs1))) (hm : r2 = paveR z p1 p2) : r1 = r2 ∧ LI (bd + 500) cq cs1 sc sv ln old1 sz1 (if paveC z p1 p2 then paveZ z p1 p2 p3 else z) (if paveC z p1 p2 then recP z past sz else past) slots ∧ zq = (if paveC z p1 p2 then paveZ z p1 p2 p3 else z) ∧ sz1 = (if paveC z p1 p2 then recS sz else sz) := by
  refine ⟨by rw [hx.1, hm], ?_⟩
  rcases hx.2 with ⟨c1, k⟩ | ⟨c1, k⟩
  · rw [if_pos c1, if_pos c1, if_pos c1]
    exact LI_chg h k (pave_inv h.2.1 c1 hp3) (by omega) (BD_mono (by omega) (BD_begin h.2.2.1))
  · rw [if_neg c1, if_neg c1, if_neg c1]
    exact LI_same h k (by omega)
theorem step_tear {bd : Int} {c : Nat → Nat → Int32} {cs sc : Nat → Nat → Nat → Int32} {sv : Nat → Int32} {ln old sz : Int32} {z past slots : Nat → Int32} {cq : Nat → Nat → Int32} {zq : Nat → Int32} {old1 sz1 : Int32} {cs1 : Nat → Nat → Nat → Int32} {r1 r2 : Int32} {p1 : Int32} (h : LI bd c cs sc sv ln old sz z past slots) (hx : (tearC z p1 ∧ r1 = ofZ z p1.toInt.toNat 0 ∧ Chg c z old sz cs (tearZ z p1) cq zq old1 sz1 cs1) ∨ (¬ tearC z p1 ∧ r1 = -1 ∧ Same c z old sz cs cq zq old1 sz1 cs1)) (hm : r2 = if tearC z p1 then ofZ z p1.toInt.toNat 0 else -1) : r1 = r2 ∧ LI (bd + 500) cq cs1 sc sv ln old1 sz1 (if tearC z p1 then tearZ z p1 else z) (if tearC z p1 then recP z past sz else past) slots ∧ zq = (if tearC z p1 then tearZ z p1 else z) ∧ sz1 = (if tearC z p1 then recS sz else sz) := by
  rcases hx with ⟨c1, e, k⟩ | ⟨c1, e, k⟩
  · refine ⟨by rw [hm, if_pos c1, e], ?_⟩
    rw [if_pos c1, if_pos c1, if_pos c1]
    exact LI_chg h k (tear_inv h.2.1 c1) (by omega) (BD_mono (by omega) (BD_begin h.2.2.1))
  · refine ⟨by rw [hm, if_neg c1, e], ?_⟩
    rw [if_neg c1, if_neg c1, if_neg c1]
    exact LI_same h k (by omega)
theorem step_begin {bd : Int} {c : Nat → Nat → Int32} {cs sc : Nat → Nat → Nat → Int32} {sv : Nat → Int32} {ln old sz : Int32} {z past slots : Nat → Int32} {cq : Nat → Nat → Int32} {zq : Nat → Int32} {old1 sz1 : Int32} {cs1 : Nat → Nat → Nat → Int32} {r1 r2 : Int32} (h : LI bd c cs sc sv ln old sz z past slots) (hx : r1 = z 174 ∧ Chg c z old sz cs (beginZ z) cq zq old1 sz1 cs1) (hm : r2 = z 174) : r1 = r2 ∧ LI (bd + 500) cq cs1 sc sv ln old1 sz1 (beginZ z) (recP z past sz) slots ∧ zq = beginZ z ∧ sz1 = recS sz :=
  ⟨by rw [hx.1, hm], LI_chg h hx.2 (begin_inv h.2.1.1 h.2.1.2.1 h.2.1.2.2.1) (by omega) (BD_mono (by omega) (BD_begin h.2.2.1))⟩
theorem step_march {bd : Int} {c : Nat → Nat → Int32} {cs sc : Nat → Nat → Nat → Int32} {sv : Nat → Int32} {ln old sz : Int32} {z past slots : Nat → Int32} {cq : Nat → Nat → Int32} {zq : Nat → Int32} {old1 sz1 : Int32} {cs1 : Nat → Nat → Nat → Int32} {r1 r2 : Int32} {p1 : Int32} (h : LI bd c cs sc sv ln old sz z past slots) (hbd : bd ≤ 1000000) (hx : marchA z p1 r1 ∧ ((marchC z p1 ∧ Chg c z old sz cs (walkZ p1.toInt.toNat z) cq zq old1 sz1 cs1) ∨ (¬ marchC z p1 ∧ Same c z old sz cs cq zq old1 sz1 cs1))) (hm : marchA z p1 r2) : r1 = r2 ∧ LI (bd + 500) cq cs1 sc sv ln old1 sz1 (if marchC z p1 then walkZ p1.toInt.toNat z else z) (if marchC z p1 then recP z past sz else past) slots ∧ zq = (if marchC z p1 then walkZ p1.toInt.toNat z else z) ∧ sz1 = (if marchC z p1 then recS sz else sz) := by
  refine ⟨marchA_u hx.1 hm, ?_⟩
  rcases hx.2 with ⟨c1, k⟩ | ⟨c1, k⟩
  · rw [if_pos c1, if_pos c1, if_pos c1]
    exact LI_chg h k (walk_inv _ h.2.1 c1.2.1) (by omega) (BD_walk h.2.2.1 (by have := c1.1; omega) hbd)
  · rw [if_neg c1, if_neg c1, if_neg c1]
    exact LI_same h k (by omega)
theorem LI_0 : LI 0 cS0 (fun _ => cS0) (fun _ => cS0) z0 0 0 0 zI z0 z0 := by
  have m0 : Mud cS0 := ⟨fun _ _ => Or.inl rfl, fun _ _ => Or.inl rfl⟩
  refine ⟨zI_RS, zI_inv, ⟨⟨by decide, by decide⟩, by decide, by decide⟩, ⟨⟨by decide, by decide⟩, ⟨by decide, by decide⟩, by decide, by decide⟩, fun _ _ => m0, fun _ _ => m0, fun i hi => ?_, fun i _ h => absurd rfl h⟩
  rw [show (0 : Int32).toInt = 0 from by decide] at hi
  omega
