/-! ===== contracts that answer a long; calls whose cells are the whole world ===== -/
theorem xo_C (wc : va_W) : (List.range wc.length).map (fun i => wc[i]?) = wc.map some := by
  have h := xg_range wc []
  rw [List.append_nil] at h
  exact h
theorem xo_set {wc w1 : va_W} (h : w1.map Prod.fst = wc.map Prod.fst) : xSet wc (List.range wc.length) w1 = w1 := by
  have h2 := xg_set (r := []) h
  rw [List.append_nil, List.append_nil] at h2
  exact h2
def xMl (l : Launch) (y : MethodName) (cc : ByteArray) (maxL : Nat) (ret : Option FieldType) (rm : Room) (D : va_G) (tys : List (ClassId × FieldType)) (As : List Value) (wc : va_W) {S : Type} (post : Int64 → S → Prop) (w1 : S → va_W) : Prop := ∀ sz : Nat, Met l y (Cond.code y cc maxL ret :: wsL_law) rm (va_Pc As (xPre D tys wc sz)) (va_Ql post (fun u t => va_P D vwCl (w1 u) t.heap) (va_A wc sz)) 0 0 (va_A wc sz)
theorem xk_bodyl {l : Launch} {y : MethodName} {cc : ByteArray} {maxL : Nat} {ret : Option FieldType} {rm : Room} {D : va_G} {tys : List (ClassId × FieldType)} {As : List Value} {wc : va_W} {S : Type} {post : Int64 → S → Prop} {w1 : S → va_W} (hy : plainName y.cls = true) (hl : (lg_sl As).length ≤ maxL) (body : xBody l y cc maxL ret rm D tys As wc (fun A => va_Ql post (fun u t => va_P D vwCl (w1 u) t.heap) A)) : xMl l y cc maxL ret rm D tys As wc post w1 := fun sz => xk_body (Qc := fun A => va_Ql post (fun u t => va_P D vwCl (w1 u) t.heap) A) hy hl body sz
section XO
variable {p : Program} {l : Launch} {e : Env} {R : Room} {s : State} {m : MethodId} {args : Array Value} {below : List Frame} {meth : Method} {c : Code} {H : Heap} {locs : List Loc} {cells slots : Nat} {Q : State → Prop}
variable {cc : ByteArray} {pc nL : Nat} {ls : Array Slot} {rest st0 : List Value} {D : va_G} {tys : List (ClassId × FieldType)} {ws wc : va_W} {A : Nat → Prop} {c0 : Cond} {own : String}
variable {y : MethodName} {bytes : ByteArray} {maxL idx n : Nat} {ret : Option FieldType} {rm : Room} {As : List Value} {S : Type}
theorem xk_retl {post : Int64 → S → Prop} {w1 : S → va_W} {v : Int64} (u : S) (hx : p.tables.exec = Jvm.exec) (hb : c.code = cc) (hr : meth.sig.returnType = some .long) (hlocks : meth.locks = false) (hP : va_P D vwCl (w1 u) H) (hp : post v u) (hS : va_S A s.heap H locs) (hdg : decode cc pc = .ok (.lreturn, 1)) (hQ : Q = MQ below (va_Ql post (fun u t => va_P D vwCl (w1 u) t.heap) A) args s 0 0 A) : W p l e R s m args below meth c H locs 0 0 Q (F0 m pc ls [.long v]) := by
  rw [hQ]
  exact
  W.lret hx hb hr (fun t ht _ => ⟨⟨v, u, rfl, hp, (show va_P D vwCl (w1 u) t.heap by rw [ht]; exact hP)⟩, hS.F ht⟩) hS.2.2 hdg hlocks
/-- a virtual call that answers an int; a static one; a static one that answers a long -/
theorem xo_Vi (hx : p.tables.exec = Jvm.exec) (hb : c.code = cc) (hml : c.maxLocals = nL) (hown : s.vm.findClass own = some m.cls) (hts : ∀ w ∈ c0 :: wsL_law, w.before args s = true) (hK : va_K D vwCl tys s) (hN : xN s) (hZ : xZ A s) (hP : va_P D vwCl wc H) (hD : va_D A wc) (hS : va_S A s.heap H locs) (hA : ∀ q, s.heap.size ≤ q → A q)
    {b : Addr} {C : String} {T : u_T} {N : Nat} {post : Int32 → S → Prop} {w1 : S → va_W} (hB : xMB y bytes maxL ret C n) (hlink : Cond.methodLink own idx y ∈ wsL_law) (hinst : Cond.instanceMethod y ∈ wsL_law) (hsel : Cond.selects C y y ∈ wsL_law) (hM : xMi l y bytes maxL ret rm D tys (.ref b :: As) wc post w1) (q0 ci : Nat) {fs : List Value} (he : wc[q0]? = some (b, .inr (ci, fs))) (hc : vwCl[ci]? = some (C, T, N))
    (ha : ∀ u, (w1 u).map Prod.fst = wc.map Prod.fst) (hR : rm.frames + 1 ≤ R.frames ∧ 8 + (maxL + 11) + rm.locals ≤ R.locals) (hrm : rm.cells = 0 ∧ rm.slots = 0) (hn : As.length = n) (hsz : ls.size = nL) (hst : st0 = As.reverse ++ .ref b :: rest) (hrest : (rest.map fun v => v.category).sum ≤ 8) (hdg : decode cc pc = .ok (.invokevirtual idx, 3)) (hcs : cells ≤ R.cells ∧ slots ≤ R.slots)
    (kk : ∀ (r : Int32) (u : S) (H1 : Heap) (locs1 : List Loc), post r u → va_P D vwCl (w1 u) H1 → va_D A (w1 u) → va_S A s.heap H1 locs1 → W p l e R s m args below meth c H1 locs1 cells slots Q (F0 m (pc + 3) ls (.int r :: rest))) : W p l e R s m args below meth c H locs cells slots Q (F0 m pc ls st0) :=
  xk_Vi hx hb hml hown hts hK hN hZ hP hD hS hA hB hlink hinst hsel hM (List.range wc.length) q0 ci he hc (xg_ndr _) (xo_C wc) ha hR hrm hn hsz hst hrest hdg hcs (fun r u H1 locs1 h1 h2 h3 h4 => kk r u H1 locs1 h1 (xk_P h2 (xo_set (ha u))) (xk_D h3 (xo_set (ha u))) h4)
theorem xo_Si (hx : p.tables.exec = Jvm.exec) (hb : c.code = cc) (hml : c.maxLocals = nL) (hown : s.vm.findClass own = some m.cls) (hts : ∀ w ∈ c0 :: wsL_law, w.before args s = true) (hK : va_K D vwCl tys s) (hN : xN s) (hZ : xZ A s) (hP : va_P D vwCl wc H) (hD : va_D A wc) (hS : va_S A s.heap H locs) (hA : ∀ q, s.heap.size ≤ q → A q)
    {C : String} {post : Int32 → S → Prop} {w1 : S → va_W} (hB : xMB y bytes maxL ret C n) (hlink : Cond.methodLink own idx y ∈ wsL_law) (hstat : Cond.static y ∈ wsL_law) (hM : xMi l y bytes maxL ret rm D tys As wc post w1)
    (ha : ∀ u, (w1 u).map Prod.fst = wc.map Prod.fst) (hR : rm.frames + 1 ≤ R.frames ∧ 8 + (maxL + 11) + rm.locals ≤ R.locals) (hrm : rm.cells = 0 ∧ rm.slots = 0) (hn : As.length = n) (hsz : ls.size = nL) (hst : st0 = As.reverse ++ rest) (hrest : (rest.map fun v => v.category).sum ≤ 8) (hdg : decode cc pc = .ok (.invokestatic idx, 3)) (hcs : cells ≤ R.cells ∧ slots ≤ R.slots)
    (kk : ∀ (r : Int32) (u : S) (H1 : Heap) (locs1 : List Loc), post r u → va_P D vwCl (w1 u) H1 → va_D A (w1 u) → va_S A s.heap H1 locs1 → W p l e R s m args below meth c H1 locs1 cells slots Q (F0 m (pc + 3) ls (.int r :: rest))) : W p l e R s m args below meth c H locs cells slots Q (F0 m pc ls st0) :=
  xk_Si hx hb hml hown hts hK hN hZ hP hD hS hA hB hlink hstat hM (List.range wc.length) (xg_ndr _) (xo_C wc) ha hR hrm hn hsz hst hrest hdg hcs (fun r u H1 locs1 h1 h2 h3 h4 => kk r u H1 locs1 h1 (xk_P h2 (xo_set (ha u))) (xk_D h3 (xo_set (ha u))) h4)
theorem xk_cl {post : Int64 → S → Prop} {w1 : S → va_W} {a : Array Value} (hr : va_Run p l e R s m args below meth c H locs cells slots 0 0 (F0 m pc ls st0) rest (va_Ql post (fun u t => va_P D vwCl (w1 u) t.heap) (va_A wc H.size) a) (va_A wc H.size)) (hP : va_P D vwCl ws H) (hD : va_D A ws) (hS : va_S A s.heap H locs) (hA : ∀ q, s.heap.size ≤ q → A q) (is : List Nat) (hC : is.map (fun i => ws[i]?) = wc.map some) (ha : ∀ u, (w1 u).map Prod.fst = wc.map Prod.fst)
    (kk : ∀ (r : Int64) (u : S) (H1 : Heap) (locs1 : List Loc), post r u → va_P D vwCl (xSet ws is (w1 u)) H1 → va_D A (xSet ws is (w1 u)) → va_S A s.heap H1 locs1 → W p l e R s m args below meth c H1 locs1 cells slots Q (F0 m (pc + 3) ls (.long r :: rest))) : W p l e R s m args below meth c H locs cells slots Q (F0 m pc ls st0) := by
  have hF := va_free (wc := wc) hD hS hA is hC
  refine va_calll hr hS (fun q _ h => hF q h) hF (fun r u t H1 locs1 ht hvm hp hb hz hk hS1 => ?_)
  have hP1 : va_P D vwCl (w1 u) H1 := by rw [← ht]; exact hb
  obtain ⟨g1, g2⟩ := xk_join hP hD hC (ha u) hk hP1
  exact kk r u H1 locs1 hp g1 g2 hS1
theorem xo_Sl (hx : p.tables.exec = Jvm.exec) (hb : c.code = cc) (hml : c.maxLocals = nL) (hown : s.vm.findClass own = some m.cls) (hts : ∀ w ∈ c0 :: wsL_law, w.before args s = true) (hK : va_K D vwCl tys s) (hN : xN s) (hZ : xZ A s) (hP : va_P D vwCl wc H) (hD : va_D A wc) (hS : va_S A s.heap H locs) (hA : ∀ q, s.heap.size ≤ q → A q)
    {C : String} {post : Int64 → S → Prop} {w1 : S → va_W} (hB : xMB y bytes maxL ret C n) (hlink : Cond.methodLink own idx y ∈ wsL_law) (hstat : Cond.static y ∈ wsL_law) (hM : xMl l y bytes maxL ret rm D tys As wc post w1)
    (ha : ∀ u, (w1 u).map Prod.fst = wc.map Prod.fst) (hR : rm.frames + 1 ≤ R.frames ∧ 8 + (maxL + 11) + rm.locals ≤ R.locals) (hrm : rm.cells = 0 ∧ rm.slots = 0) (hn : As.length = n) (hsz : ls.size = nL) (hst : st0 = As.reverse ++ rest) (hrest : (rest.map fun v => v.category).sum ≤ 8) (hdg : decode cc pc = .ok (.invokestatic idx, 3)) (hcs : cells ≤ R.cells ∧ slots ≤ R.slots)
    (kk : ∀ (r : Int64) (u : S) (H1 : Heap) (locs1 : List Loc), post r u → va_P D vwCl (w1 u) H1 → va_D A (w1 u) → va_S A s.heap H1 locs1 → W p l e R s m args below meth c H1 locs1 cells slots Q (F0 m (pc + 3) ls (.long r :: rest))) : W p l e R s m args below meth c H locs cells slots Q (F0 m pc ls st0) :=
  xk_cl (va_runS ⟨hx, hb, hml, hown, hts⟩ (hM H.size) ⟨xk_cb hts hB hlink hR hrm, hts _ (List.mem_cons_of_mem _ hstat)⟩ ⟨xPre_blind, xPre_of hK hN hZ hP hD hS hA (List.range wc.length) (xg_ndr _) (xo_C wc)⟩ rfl hn hsz hst (lv_room hrest) hdg hcs) hP hD hS hA (List.range wc.length) (xo_C wc) ha (fun r u H1 locs1 h1 h2 h3 h4 => kk r u H1 locs1 h1 (xk_P h2 (xo_set (ha u))) (xk_D h3 (xo_set (ha u))) h4)
end XO
/-! the script's cell: it is read alone -/
def xPreX (b L : Nat) (xs : Nat → Int32) (sz : Nat) (U : State) : Prop := U.heap.size = sz ∧ va_X b L xs U U.heap ∧ b < sz
