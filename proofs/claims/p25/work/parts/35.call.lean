/-! ===== calls that change nothing, or one cell ===== -/
theorem xSet_out : ∀ (is : List Nat) (ws w1 : va_W) (q : Nat) (x e : Nat × va_E), q ∉ is → xSet (ws.set q e) is w1 = (xSet (ws.set q x) is w1).set q e
  | [], ws, w1, q, x, e, _ => by
    rw [xSet, xSet, List.set_set]
  | i :: is, ws, [], q, x, e, _ => by
    show ws.set q e = (ws.set q x).set q e
    rw [List.set_set]
  | i :: is, ws, y :: w1, q, x, e, h => by
    have h1 : ¬ q = i := fun z => h (by rw [z]; exact List.mem_cons_self)
    have h2 : q ∉ is := fun z => h (List.mem_cons_of_mem _ z)
    show xSet ((ws.set q e).set i y) is w1 = (xSet ((ws.set q x).set i y) is w1).set q e
    rw [List.set_comm _ _ (fun z => h1 z), List.set_comm (l := ws) _ _ (fun z => h1 z)]
    exact xSet_out is (ws.set i y) w1 q x e h2
theorem xSet_set : ∀ (is : List Nat) (ws w1 : va_W) (j i : Nat) (e : Nat × va_E), is.Nodup → is.length = w1.length → is[j]? = some i → xSet ws is (w1.set j e) = (xSet ws is w1).set i e
  | [], ws, w1, j, i, e, _, _, h => by simp at h
  | q :: is, ws, [], j, i, e, _, hl, _ => by simp at hl
  | q :: is, ws, x :: w1, 0, i, e, hn, hl, h => by
    have hq : q = i := by simpa using h
    subst hq
    have hn1 := (List.nodup_cons.mp hn).1
    show xSet (ws.set q e) is w1 = (xSet (ws.set q x) is w1).set q e
    exact xSet_out is ws w1 q x e hn1
  | q :: is, ws, x :: w1, j + 1, i, e, hn, hl, h => by
    show xSet (ws.set q x) is (w1.set j e) = (xSet (ws.set q x) is w1).set i e
    exact xSet_set is (ws.set q x) w1 j i e (List.nodup_cons.mp hn).2 (by simpa using hl) (by simpa using h)

theorem xSet_0 : ∀ (is : List Nat) (ws wc : va_W), is.map (fun i => ws[i]?) = wc.map some → xSet ws is wc = ws
  | [], ws, wc, _ => by rw [xSet]
  | i :: is, ws, [], h => by simp at h
  | i :: is, ws, x :: wc, h => by
    have h1 : ws[i]? = some x := by
      have := congrArg List.head? h
      simpa using this
    have h2 : is.map (fun i => ws[i]?) = wc.map some := by
      have := congrArg List.tail h
      simpa using this
    show xSet (ws.set i x) is wc = ws
    have h3 : ws.set i x = ws := by
      apply List.ext_getElem?
      intro k
      by_cases e : k = i
      · subst e
        rw [List.getElem?_set_self (List.getElem?_eq_some_iff.mp h1).1, h1]
      · rw [List.getElem?_set_ne (Ne.symm e)]
    rw [h3]
    exact xSet_0 is ws wc h2
theorem nd_of : ∀ l : List Nat, va_nd l = true → l.Nodup
  | [], _ => List.nodup_nil
  | a :: l, h => by
    rw [va_nd, Bool.and_eq_true] at h
    exact List.nodup_cons.mpr ⟨of_decide_eq_true h.1, nd_of l h.2⟩
theorem xSet_1 {is : List Nat} {ws wc : va_W} (hn : va_nd is = true) (hC : is.map (fun i => ws[i]?) = wc.map some) {j i : Nat} {e : Nat × va_E} (hj : is[j]? = some i) : xSet ws is (wc.set j e) = ws.set i e := by
  rw [xSet_set is ws wc j i e (nd_of is hn) (by simpa using congrArg List.length hC) hj, xSet_0 is ws wc hC]
section XC
variable {p : Program} {l : Launch} {e : Env} {R : Room} {s : State} {m : MethodId} {args : Array Value} {below : List Frame} {meth : Method} {c : Code} {H : Heap} {locs : List Loc} {cells slots : Nat} {Q : State → Prop}
variable {cc : ByteArray} {pc nL : Nat} {ls : Array Slot} {rest st0 : List Value} {D : va_G} {tys : List (ClassId × FieldType)} {ws wc : va_W} {A : Nat → Prop} {c0 : Cond} {own : String}
variable {y : MethodName} {bytes : ByteArray} {maxL idx n : Nat} {ret : Option FieldType} {rm : Room} {As : List Value} {S : Type}
theorem xk_Vi0 (hx : p.tables.exec = Jvm.exec) (hb : c.code = cc) (hml : c.maxLocals = nL) (hown : s.vm.findClass own = some m.cls) (hts : ∀ w ∈ c0 :: wsL_law, w.before args s = true) (hK : va_K D vwCl tys s) (hN : xN s) (hZ : xZ A s) (hP : va_P D vwCl ws H) (hD : va_D A ws) (hS : va_S A s.heap H locs) (hA : ∀ q, s.heap.size ≤ q → A q)
    {b : Addr} {C : String} {T : u_T} {N : Nat} {post : Int32 → S → Prop} {w1 : S → va_W} (hB : xMB y bytes maxL ret C n) (hlink : Cond.methodLink own idx y ∈ wsL_law) (hinst : Cond.instanceMethod y ∈ wsL_law) (hsel : Cond.selects C y y ∈ wsL_law) (hM : xMi l y bytes maxL ret rm D tys (.ref b :: As) wc post w1) (is : List Nat) (q0 ci : Nat) {fs : List Value} (he : ws[q0]? = some (b, .inr (ci, fs))) (hc : vwCl[ci]? = some (C, T, N))
    (hnd : va_nd is = true) (hC : is.map (fun i => ws[i]?) = wc.map some) (ha : ∀ u, (w1 u).map Prod.fst = wc.map Prod.fst) (hR : rm.frames + 1 ≤ R.frames ∧ 8 + (maxL + 11) + rm.locals ≤ R.locals) (hrm : rm.cells = 0 ∧ rm.slots = 0) (hn : As.length = n) (hsz : ls.size = nL) (hst : st0 = As.reverse ++ .ref b :: rest) (hrest : (rest.map fun v => v.category).sum ≤ 8) (hdg : decode cc pc = .ok (.invokevirtual idx, 3)) (hcs : cells ≤ R.cells ∧ slots ≤ R.slots)
    (hw1 : ∀ u, w1 u = wc) (kk : ∀ (r : Int32) (u : S) (H1 : Heap) (locs1 : List Loc), post r u → va_P D vwCl ws H1 → va_D A ws → va_S A s.heap H1 locs1 → W p l e R s m args below meth c H1 locs1 cells slots Q (F0 m (pc + 3) ls (.int r :: rest))) : W p l e R s m args below meth c H locs cells slots Q (F0 m pc ls st0) :=
  xk_Vi hx hb hml hown hts hK hN hZ hP hD hS hA hB hlink hinst hsel hM is q0 ci he hc hnd hC ha hR hrm hn hsz hst hrest hdg hcs (fun r u H1 locs1 hp hP1 hD1 hS1 => kk r u H1 locs1 hp (xk_P hP1 (by rw [hw1 u]; exact xSet_0 is ws wc hC)) (xk_D hD1 (by rw [hw1 u]; exact xSet_0 is ws wc hC)) hS1)
theorem xk_Vi1 (hx : p.tables.exec = Jvm.exec) (hb : c.code = cc) (hml : c.maxLocals = nL) (hown : s.vm.findClass own = some m.cls) (hts : ∀ w ∈ c0 :: wsL_law, w.before args s = true) (hK : va_K D vwCl tys s) (hN : xN s) (hZ : xZ A s) (hP : va_P D vwCl ws H) (hD : va_D A ws) (hS : va_S A s.heap H locs) (hA : ∀ q, s.heap.size ≤ q → A q)
    {b : Addr} {C : String} {T : u_T} {N : Nat} {post : Int32 → S → Prop} {w1 : S → va_W} (hB : xMB y bytes maxL ret C n) (hlink : Cond.methodLink own idx y ∈ wsL_law) (hinst : Cond.instanceMethod y ∈ wsL_law) (hsel : Cond.selects C y y ∈ wsL_law) (hM : xMi l y bytes maxL ret rm D tys (.ref b :: As) wc post w1) (is : List Nat) (q0 ci : Nat) {fs : List Value} (he : ws[q0]? = some (b, .inr (ci, fs))) (hc : vwCl[ci]? = some (C, T, N))
    (hnd : va_nd is = true) (hC : is.map (fun i => ws[i]?) = wc.map some) (ha : ∀ u, (w1 u).map Prod.fst = wc.map Prod.fst) (hR : rm.frames + 1 ≤ R.frames ∧ 8 + (maxL + 11) + rm.locals ≤ R.locals) (hrm : rm.cells = 0 ∧ rm.slots = 0) (hn : As.length = n) (hsz : ls.size = nL) (hst : st0 = As.reverse ++ .ref b :: rest) (hrest : (rest.map fun v => v.category).sum ≤ 8) (hdg : decode cc pc = .ok (.invokevirtual idx, 3)) (hcs : cells ≤ R.cells ∧ slots ≤ R.slots)
    {j1 i1 : Nat} {e1 : S → Nat × va_E} (hj1 : is[j1]? = some i1) (hw1 : ∀ u, w1 u = wc.set j1 (e1 u)) (kk : ∀ (r : Int32) (u : S) (H1 : Heap) (locs1 : List Loc), post r u → va_P D vwCl (ws.set i1 (e1 u)) H1 → va_D A (ws.set i1 (e1 u)) → va_S A s.heap H1 locs1 → W p l e R s m args below meth c H1 locs1 cells slots Q (F0 m (pc + 3) ls (.int r :: rest))) : W p l e R s m args below meth c H locs cells slots Q (F0 m pc ls st0) :=
  xk_Vi hx hb hml hown hts hK hN hZ hP hD hS hA hB hlink hinst hsel hM is q0 ci he hc hnd hC ha hR hrm hn hsz hst hrest hdg hcs (fun r u H1 locs1 hp hP1 hD1 hS1 => kk r u H1 locs1 hp (xk_P hP1 (by rw [hw1 u]; exact xSet_1 hnd hC hj1)) (xk_D hD1 (by rw [hw1 u]; exact xSet_1 hnd hC hj1)) hS1)
theorem xk_Vv0 (hx : p.tables.exec = Jvm.exec) (hb : c.code = cc) (hml : c.maxLocals = nL) (hown : s.vm.findClass own = some m.cls) (hts : ∀ w ∈ c0 :: wsL_law, w.before args s = true) (hK : va_K D vwCl tys s) (hN : xN s) (hZ : xZ A s) (hP : va_P D vwCl ws H) (hD : va_D A ws) (hS : va_S A s.heap H locs) (hA : ∀ q, s.heap.size ≤ q → A q)
    {b : Addr} {C : String} {T : u_T} {N : Nat} {post : S → Prop} {w1 : S → va_W} (hB : xMB y bytes maxL ret C n) (hlink : Cond.methodLink own idx y ∈ wsL_law) (hinst : Cond.instanceMethod y ∈ wsL_law) (hsel : Cond.selects C y y ∈ wsL_law) (hM : xMv l y bytes maxL ret rm D tys (.ref b :: As) wc post w1) (is : List Nat) (q0 ci : Nat) {fs : List Value} (he : ws[q0]? = some (b, .inr (ci, fs))) (hc : vwCl[ci]? = some (C, T, N))
    (hnd : va_nd is = true) (hC : is.map (fun i => ws[i]?) = wc.map some) (ha : ∀ u, (w1 u).map Prod.fst = wc.map Prod.fst) (hR : rm.frames + 1 ≤ R.frames ∧ 8 + (maxL + 11) + rm.locals ≤ R.locals) (hrm : rm.cells = 0 ∧ rm.slots = 0) (hn : As.length = n) (hsz : ls.size = nL) (hst : st0 = As.reverse ++ .ref b :: rest) (hrest : (rest.map fun v => v.category).sum ≤ 8) (hdg : decode cc pc = .ok (.invokevirtual idx, 3)) (hcs : cells ≤ R.cells ∧ slots ≤ R.slots)
    (hw1 : ∀ u, w1 u = wc) (kk : ∀ (u : S) (H1 : Heap) (locs1 : List Loc), post u → va_P D vwCl ws H1 → va_D A ws → va_S A s.heap H1 locs1 → W p l e R s m args below meth c H1 locs1 cells slots Q (F0 m (pc + 3) ls rest)) : W p l e R s m args below meth c H locs cells slots Q (F0 m pc ls st0) :=
  xk_Vv hx hb hml hown hts hK hN hZ hP hD hS hA hB hlink hinst hsel hM is q0 ci he hc hnd hC ha hR hrm hn hsz hst hrest hdg hcs (fun u H1 locs1 hp hP1 hD1 hS1 => kk u H1 locs1 hp (xk_P hP1 (by rw [hw1 u]; exact xSet_0 is ws wc hC)) (xk_D hD1 (by rw [hw1 u]; exact xSet_0 is ws wc hC)) hS1)
theorem xk_Vv1 (hx : p.tables.exec = Jvm.exec) (hb : c.code = cc) (hml : c.maxLocals = nL) (hown : s.vm.findClass own = some m.cls) (hts : ∀ w ∈ c0 :: wsL_law, w.before args s = true) (hK : va_K D vwCl tys s) (hN : xN s) (hZ : xZ A s) (hP : va_P D vwCl ws H) (hD : va_D A ws) (hS : va_S A s.heap H locs) (hA : ∀ q, s.heap.size ≤ q → A q)
    {b : Addr} {C : String} {T : u_T} {N : Nat} {post : S → Prop} {w1 : S → va_W} (hB : xMB y bytes maxL ret C n) (hlink : Cond.methodLink own idx y ∈ wsL_law) (hinst : Cond.instanceMethod y ∈ wsL_law) (hsel : Cond.selects C y y ∈ wsL_law) (hM : xMv l y bytes maxL ret rm D tys (.ref b :: As) wc post w1) (is : List Nat) (q0 ci : Nat) {fs : List Value} (he : ws[q0]? = some (b, .inr (ci, fs))) (hc : vwCl[ci]? = some (C, T, N))
    (hnd : va_nd is = true) (hC : is.map (fun i => ws[i]?) = wc.map some) (ha : ∀ u, (w1 u).map Prod.fst = wc.map Prod.fst) (hR : rm.frames + 1 ≤ R.frames ∧ 8 + (maxL + 11) + rm.locals ≤ R.locals) (hrm : rm.cells = 0 ∧ rm.slots = 0) (hn : As.length = n) (hsz : ls.size = nL) (hst : st0 = As.reverse ++ .ref b :: rest) (hrest : (rest.map fun v => v.category).sum ≤ 8) (hdg : decode cc pc = .ok (.invokevirtual idx, 3)) (hcs : cells ≤ R.cells ∧ slots ≤ R.slots)
    {j1 i1 : Nat} {e1 : S → Nat × va_E} (hj1 : is[j1]? = some i1) (hw1 : ∀ u, w1 u = wc.set j1 (e1 u)) (kk : ∀ (u : S) (H1 : Heap) (locs1 : List Loc), post u → va_P D vwCl (ws.set i1 (e1 u)) H1 → va_D A (ws.set i1 (e1 u)) → va_S A s.heap H1 locs1 → W p l e R s m args below meth c H1 locs1 cells slots Q (F0 m (pc + 3) ls rest)) : W p l e R s m args below meth c H locs cells slots Q (F0 m pc ls st0) :=
  xk_Vv hx hb hml hown hts hK hN hZ hP hD hS hA hB hlink hinst hsel hM is q0 ci he hc hnd hC ha hR hrm hn hsz hst hrest hdg hcs (fun u H1 locs1 hp hP1 hD1 hS1 => kk u H1 locs1 hp (xk_P hP1 (by rw [hw1 u]; exact xSet_1 hnd hC hj1)) (xk_D hD1 (by rw [hw1 u]; exact xSet_1 hnd hC hj1)) hS1)
theorem xk_Si0 (hx : p.tables.exec = Jvm.exec) (hb : c.code = cc) (hml : c.maxLocals = nL) (hown : s.vm.findClass own = some m.cls) (hts : ∀ w ∈ c0 :: wsL_law, w.before args s = true) (hK : va_K D vwCl tys s) (hN : xN s) (hZ : xZ A s) (hP : va_P D vwCl ws H) (hD : va_D A ws) (hS : va_S A s.heap H locs) (hA : ∀ q, s.heap.size ≤ q → A q)
    {C : String} {post : Int32 → S → Prop} {w1 : S → va_W} (hB : xMB y bytes maxL ret C n) (hlink : Cond.methodLink own idx y ∈ wsL_law) (hstat : Cond.static y ∈ wsL_law) (hM : xMi l y bytes maxL ret rm D tys As wc post w1) (is : List Nat)
    (hnd : va_nd is = true) (hC : is.map (fun i => ws[i]?) = wc.map some) (ha : ∀ u, (w1 u).map Prod.fst = wc.map Prod.fst) (hR : rm.frames + 1 ≤ R.frames ∧ 8 + (maxL + 11) + rm.locals ≤ R.locals) (hrm : rm.cells = 0 ∧ rm.slots = 0) (hn : As.length = n) (hsz : ls.size = nL) (hst : st0 = As.reverse ++ rest) (hrest : (rest.map fun v => v.category).sum ≤ 8) (hdg : decode cc pc = .ok (.invokestatic idx, 3)) (hcs : cells ≤ R.cells ∧ slots ≤ R.slots)
    (hw1 : ∀ u, w1 u = wc) (kk : ∀ (r : Int32) (u : S) (H1 : Heap) (locs1 : List Loc), post r u → va_P D vwCl ws H1 → va_D A ws → va_S A s.heap H1 locs1 → W p l e R s m args below meth c H1 locs1 cells slots Q (F0 m (pc + 3) ls (.int r :: rest))) : W p l e R s m args below meth c H locs cells slots Q (F0 m pc ls st0) :=
  xk_Si hx hb hml hown hts hK hN hZ hP hD hS hA hB hlink hstat hM is hnd hC ha hR hrm hn hsz hst hrest hdg hcs (fun r u H1 locs1 hp hP1 hD1 hS1 => kk r u H1 locs1 hp (xk_P hP1 (by rw [hw1 u]; exact xSet_0 is ws wc hC)) (xk_D hD1 (by rw [hw1 u]; exact xSet_0 is ws wc hC)) hS1)
theorem xk_Si1 (hx : p.tables.exec = Jvm.exec) (hb : c.code = cc) (hml : c.maxLocals = nL) (hown : s.vm.findClass own = some m.cls) (hts : ∀ w ∈ c0 :: wsL_law, w.before args s = true) (hK : va_K D vwCl tys s) (hN : xN s) (hZ : xZ A s) (hP : va_P D vwCl ws H) (hD : va_D A ws) (hS : va_S A s.heap H locs) (hA : ∀ q, s.heap.size ≤ q → A q)
    {C : String} {post : Int32 → S → Prop} {w1 : S → va_W} (hB : xMB y bytes maxL ret C n) (hlink : Cond.methodLink own idx y ∈ wsL_law) (hstat : Cond.static y ∈ wsL_law) (hM : xMi l y bytes maxL ret rm D tys As wc post w1) (is : List Nat)
    (hnd : va_nd is = true) (hC : is.map (fun i => ws[i]?) = wc.map some) (ha : ∀ u, (w1 u).map Prod.fst = wc.map Prod.fst) (hR : rm.frames + 1 ≤ R.frames ∧ 8 + (maxL + 11) + rm.locals ≤ R.locals) (hrm : rm.cells = 0 ∧ rm.slots = 0) (hn : As.length = n) (hsz : ls.size = nL) (hst : st0 = As.reverse ++ rest) (hrest : (rest.map fun v => v.category).sum ≤ 8) (hdg : decode cc pc = .ok (.invokestatic idx, 3)) (hcs : cells ≤ R.cells ∧ slots ≤ R.slots)
    {j1 i1 : Nat} {e1 : S → Nat × va_E} (hj1 : is[j1]? = some i1) (hw1 : ∀ u, w1 u = wc.set j1 (e1 u)) (kk : ∀ (r : Int32) (u : S) (H1 : Heap) (locs1 : List Loc), post r u → va_P D vwCl (ws.set i1 (e1 u)) H1 → va_D A (ws.set i1 (e1 u)) → va_S A s.heap H1 locs1 → W p l e R s m args below meth c H1 locs1 cells slots Q (F0 m (pc + 3) ls (.int r :: rest))) : W p l e R s m args below meth c H locs cells slots Q (F0 m pc ls st0) :=
  xk_Si hx hb hml hown hts hK hN hZ hP hD hS hA hB hlink hstat hM is hnd hC ha hR hrm hn hsz hst hrest hdg hcs (fun r u H1 locs1 hp hP1 hD1 hS1 => kk r u H1 locs1 hp (xk_P hP1 (by rw [hw1 u]; exact xSet_1 hnd hC hj1)) (xk_D hD1 (by rw [hw1 u]; exact xSet_1 hnd hC hj1)) hS1)
theorem xk_Sv0 (hx : p.tables.exec = Jvm.exec) (hb : c.code = cc) (hml : c.maxLocals = nL) (hown : s.vm.findClass own = some m.cls) (hts : ∀ w ∈ c0 :: wsL_law, w.before args s = true) (hK : va_K D vwCl tys s) (hN : xN s) (hZ : xZ A s) (hP : va_P D vwCl ws H) (hD : va_D A ws) (hS : va_S A s.heap H locs) (hA : ∀ q, s.heap.size ≤ q → A q)
    {C : String} {post : S → Prop} {w1 : S → va_W} (hB : xMB y bytes maxL ret C n) (hlink : Cond.methodLink own idx y ∈ wsL_law) (hstat : Cond.static y ∈ wsL_law) (hM : xMv l y bytes maxL ret rm D tys As wc post w1) (is : List Nat)
    (hnd : va_nd is = true) (hC : is.map (fun i => ws[i]?) = wc.map some) (ha : ∀ u, (w1 u).map Prod.fst = wc.map Prod.fst) (hR : rm.frames + 1 ≤ R.frames ∧ 8 + (maxL + 11) + rm.locals ≤ R.locals) (hrm : rm.cells = 0 ∧ rm.slots = 0) (hn : As.length = n) (hsz : ls.size = nL) (hst : st0 = As.reverse ++ rest) (hrest : (rest.map fun v => v.category).sum ≤ 8) (hdg : decode cc pc = .ok (.invokestatic idx, 3)) (hcs : cells ≤ R.cells ∧ slots ≤ R.slots)
    (hw1 : ∀ u, w1 u = wc) (kk : ∀ (u : S) (H1 : Heap) (locs1 : List Loc), post u → va_P D vwCl ws H1 → va_D A ws → va_S A s.heap H1 locs1 → W p l e R s m args below meth c H1 locs1 cells slots Q (F0 m (pc + 3) ls rest)) : W p l e R s m args below meth c H locs cells slots Q (F0 m pc ls st0) :=
  xk_Sv hx hb hml hown hts hK hN hZ hP hD hS hA hB hlink hstat hM is hnd hC ha hR hrm hn hsz hst hrest hdg hcs (fun u H1 locs1 hp hP1 hD1 hS1 => kk u H1 locs1 hp (xk_P hP1 (by rw [hw1 u]; exact xSet_0 is ws wc hC)) (xk_D hD1 (by rw [hw1 u]; exact xSet_0 is ws wc hC)) hS1)
theorem xk_Sv1 (hx : p.tables.exec = Jvm.exec) (hb : c.code = cc) (hml : c.maxLocals = nL) (hown : s.vm.findClass own = some m.cls) (hts : ∀ w ∈ c0 :: wsL_law, w.before args s = true) (hK : va_K D vwCl tys s) (hN : xN s) (hZ : xZ A s) (hP : va_P D vwCl ws H) (hD : va_D A ws) (hS : va_S A s.heap H locs) (hA : ∀ q, s.heap.size ≤ q → A q)
    {C : String} {post : S → Prop} {w1 : S → va_W} (hB : xMB y bytes maxL ret C n) (hlink : Cond.methodLink own idx y ∈ wsL_law) (hstat : Cond.static y ∈ wsL_law) (hM : xMv l y bytes maxL ret rm D tys As wc post w1) (is : List Nat)
    (hnd : va_nd is = true) (hC : is.map (fun i => ws[i]?) = wc.map some) (ha : ∀ u, (w1 u).map Prod.fst = wc.map Prod.fst) (hR : rm.frames + 1 ≤ R.frames ∧ 8 + (maxL + 11) + rm.locals ≤ R.locals) (hrm : rm.cells = 0 ∧ rm.slots = 0) (hn : As.length = n) (hsz : ls.size = nL) (hst : st0 = As.reverse ++ rest) (hrest : (rest.map fun v => v.category).sum ≤ 8) (hdg : decode cc pc = .ok (.invokestatic idx, 3)) (hcs : cells ≤ R.cells ∧ slots ≤ R.slots)
    {j1 i1 : Nat} {e1 : S → Nat × va_E} (hj1 : is[j1]? = some i1) (hw1 : ∀ u, w1 u = wc.set j1 (e1 u)) (kk : ∀ (u : S) (H1 : Heap) (locs1 : List Loc), post u → va_P D vwCl (ws.set i1 (e1 u)) H1 → va_D A (ws.set i1 (e1 u)) → va_S A s.heap H1 locs1 → W p l e R s m args below meth c H1 locs1 cells slots Q (F0 m (pc + 3) ls rest)) : W p l e R s m args below meth c H locs cells slots Q (F0 m pc ls st0) :=
  xk_Sv hx hb hml hown hts hK hN hZ hP hD hS hA hB hlink hstat hM is hnd hC ha hR hrm hn hsz hst hrest hdg hcs (fun u H1 locs1 hp hP1 hD1 hS1 => kk u H1 locs1 hp (xk_P hP1 (by rw [hw1 u]; exact xSet_1 hnd hC hj1)) (xk_D hD1 (by rw [hw1 u]; exact xSet_1 hnd hC hj1)) hS1)
end XC
