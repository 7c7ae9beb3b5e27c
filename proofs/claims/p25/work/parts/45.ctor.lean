/-! ===== constructors: a small kit ===== -/
def z0 : Nat → Int32 := fun _ => 0
def tabF (j : Nat) : Int32 := match xvF j with | .int v => v | _ => 0
def q0F : Nat → Option Nat := fun _ => none
/-- contents of a new State -/
def cS0 : Nat → Nat → Int32 := mkC tabF z0 z0 z0 z0 z0 z0 0 0
/-- a new cell's address first, then those that its constructor makes -/
def adr (q : Nat) (u : Nat → Nat) : Nat → Nat
  | 0 => q
  | k + 1 => u k
def mk11 (a0 a1 a2 a3 a4 a5 a6 a7 a8 a9 a10 : Nat) : Nat → Nat
  | 0 => a0
  | 1 => a1
  | 2 => a2
  | 3 => a3
  | 4 => a4
  | 5 => a5
  | 6 => a6
  | 7 => a7
  | 8 => a8
  | 9 => a9
  | _ => a10
def hk6 (a0 a1 a2 a3 a4 a5 : Nat → Nat) : Nat → Nat → Nat
  | 0 => a0
  | 1 => a1
  | 2 => a2
  | 3 => a3
  | 4 => a4
  | _ => a5
theorem xk_cI {D : va_G} {cl : List vw_C} {cI cZ cS cA : ClassId} {s : State} (h : va_K D cl (xTy cI cZ cS ++ [(cA, .int)]) s) : cA = cI := by
  have h1 : s.vm.findClass ("[" ++ FieldType.int.toString) = some cI := (h.2 0 _ rfl).2
  have h2 : s.vm.findClass ("[" ++ FieldType.int.toString) = some cA := (h.2 3 _ rfl).2
  rw [h1] at h2
  exact (Option.some.inj h2).symm
theorem xk_cZ {D : va_G} {cl : List vw_C} {cI cZ cS cA : ClassId} {s : State} (h : va_K D cl (xTy cI cZ cS ++ [(cA, .boolean)]) s) : cA = cZ := by
  have h1 : s.vm.findClass ("[" ++ FieldType.boolean.toString) = some cZ := (h.2 1 _ rfl).2
  have h2 : s.vm.findClass ("[" ++ FieldType.boolean.toString) = some cA := (h.2 3 _ rfl).2
  rw [h1] at h2
  exact (Option.some.inj h2).symm
theorem xk_cS {D : va_G} {cl : List vw_C} {cI cZ cS cA : ClassId} {s : State} (h : va_K D cl (xTy cI cZ cS ++ [(cA, .object "MarchMetres$State")]) s) : cA = cS := by
  obtain ⟨k1, c1, -, -, -, h1⟩ : va_RA s cS (.object "MarchMetres$State") := (h.2 2 _ rfl).2
  obtain ⟨k2, c2, -, -, -, h2⟩ : va_RA s cA (.object "MarchMetres$State") := (h.2 3 _ rfl).2
  rw [h1] at h2
  exact (Option.some.inj h2).symm
theorem xg_range2 (r wc : va_W) : (List.range' r.length wc.length).map (fun i => (r ++ wc)[i]?) = wc.map some := by
  apply List.ext_getElem
  · simp
  · intro i h1 h2
    have h3 : i < wc.length := by simpa using h1
    simp only [List.getElem_map, List.getElem_range', Nat.one_mul]
    rw [List.getElem?_append_right (by omega), show r.length + i - r.length = i from by omega, List.getElem?_eq_getElem h3]
theorem xc_join {A0 : Nat → Prop} {D : va_G} {cl : List vw_C} {r wc w1 : va_W} {H H1 : Heap} (hP : va_P D cl (r ++ wc) H) (hD : va_D A0 (r ++ wc)) (hk : ∀ q : Nat, q < H.size → ¬ va_A wc H.size q → H1[q]? = H[q]?) (hF : ∀ q, va_A wc H.size q → A0 q) (hP1 : va_P D cl w1 H1) (hD1 : va_D (va_A wc H.size) w1) : va_P D cl (r ++ w1) H1 ∧ va_D A0 (r ++ w1) :=
  va_join hP hD (List.range' r.length wc.length) (List.range r.length) (xg_range2 r wc) (xg_range r wc) (xg_ndr _) (fun i hi hj => by
    have h1 := List.mem_range.mp hi
    have h2 := (List.mem_range'_1.mp hj).1
    omega) hk hF hP1 hD1
/-- a constructor's contract: mc cells of ms slots are new -/
def xMc (l : Launch) (y : MethodName) (cc : ByteArray) (maxL : Nat) (ret : Option FieldType) (rm : Room) (D : va_G) (tys : List (ClassId × FieldType)) (As : List Value) (wc : va_W) {S : Type} (post : S → Prop) (w1 : S → va_W) (mc ms : Nat) : Prop := ∀ sz : Nat, Met l y (Cond.code y cc maxL ret :: wsL_law) rm (va_Pc As (xPre D tys wc sz)) (va_Qv post (fun u t => va_P D vwCl (w1 u) t.heap ∧ va_D (va_A wc sz) (w1 u)) (va_A wc sz)) mc ms (va_A wc sz)
abbrev xBodyc (l : Launch) (y : MethodName) (cc : ByteArray) (maxL : Nat) (ret : Option FieldType) (rm : Room) (D : va_G) (tys : List (ClassId × FieldType)) (As : List Value) (wc : va_W) (Qc : (Nat → Prop) → Array Value → State → Outcome → State → Prop) (mc ms : Nat) : Prop :=
  ∀ (p : Program) (e : Env) (s : State) (m : MethodId) (below : List Frame) (meth : Method) (c : Code) (A : Nat → Prop) (ls : Array Slot) (args : Array Value) (Q : State → Prop), p.tables.exec = Jvm.exec → c.code = cc → meth.sig.returnType = ret → (∀ w ∈ Cond.code y cc maxL ret :: wsL_law, w.before args s = true) → s.vm.findClass y.cls = some m.cls → meth.locks = false → c.maxLocals = maxL → meth.name = y.name → va_K D vwCl tys s → va_P D vwCl wc s.heap → va_D A wc → va_S A s.heap s.heap [] → (∀ q, s.heap.size ≤ q → A q) → xN s → xZ A s → lv_has ls maxL (lv_args 0 As) → Q = MQ below (Qc A) args s mc ms A → W p l e rm s m args below meth c s.heap [] 0 0 Q (F0 m 0 ls [])
theorem xk_bodyc {l : Launch} {y : MethodName} {cc : ByteArray} {maxL : Nat} {ret : Option FieldType} {rm : Room} {D : va_G} {tys : List (ClassId × FieldType)} {As : List Value} {wc : va_W} {S : Type} {post : S → Prop} {w1 : S → va_W} {mc ms : Nat} (hy : plainName y.cls = true) (hl : (lg_sl As).length ≤ maxL) (body : xBodyc l y cc maxL ret rm D tys As wc (fun A => va_Qv post (fun u t => va_P D vwCl (w1 u) t.heap ∧ va_D A (w1 u)) A) mc ms) : xMc l y cc maxL ret rm D tys As wc post w1 mc ms := by
  intro sz
  refine Met.ofW (cc := cc) (maxL := maxL) (ret := ret) hy rfl ?_
  intro p e s m args below meth c s₁ B hml hv
  obtain ⟨rfl, hsz, hP, hK, hD0, hN, hZ⟩ := hv
  have hx := B.exec
  have hb := B.bytes
  have hr := B.returns
  have hts := atoms_spec (ws := Cond.code y cc maxL ret :: wsL_law) B.pre
  have hown : s.vm.findClass y.cls = some m.cls := findClass_of_methodNamed B.named
  have hlocks := B.notSynchronized
  have hin : meth.name = y.name := (name_of_methodNamed B.named B.method).1
  subst hsz
  have hD := hD0.self (sz := s.heap.size)
  generalize hAe : va_A wc s.heap.size = A at hD hZ ⊢
  have hA : ∀ q : Nat, s.heap.size ≤ q → A q := fun q h => by rw [← hAe]; exact Or.inr h
  have hS : va_S A s.heap s.heap [] := va_S.rf
  rw [lg_entry_eq]
  exact body p e s m below meth c A _ _ _ hx hb hr hts hown hlocks hml hin hK hP hD hS hA hN hZ (lv_entry As hl) rfl
section XD
variable {p : Program} {l : Launch} {e : Env} {R : Room} {s : State} {m : MethodId} {args : Array Value} {below : List Frame} {meth : Method} {c : Code} {H : Heap} {locs : List Loc} {cells slots : Nat} {Q : State → Prop}
variable {cc : ByteArray} {pc nL : Nat} {ls : Array Slot} {rest st0 : List Value} {D : va_G} {tys : List (ClassId × FieldType)} {r wc : va_W} {A : Nat → Prop} {c0 : Cond} {own : String}
variable {y : MethodName} {bytes : ByteArray} {maxL idx n : Nat} {ret : Option FieldType} {rm : Room} {As : List Value} {S : Type}
/-- a constructor is called: the new cell stands behind the others -/
theorem xk_Ic (hx : p.tables.exec = Jvm.exec) (hb : c.code = cc) (hml : c.maxLocals = nL) (hown : s.vm.findClass own = some m.cls) (hts : ∀ w ∈ c0 :: wsL_law, w.before args s = true) (hK : va_K D vwCl tys s) (hN : xN s) (hZ : xZ A s) (hP : va_P D vwCl (r ++ wc) H) (hD : va_D A (r ++ wc)) (hS : va_S A s.heap H locs) (hA : ∀ q, s.heap.size ≤ q → A q)
    {b : Addr} {C : String} {post : S → Prop} {w1 : S → va_W} {mc ms : Nat} (hB : xMB y bytes maxL none C n) (hin : y.name = "<init>") (hlink : Cond.methodLink own idx y ∈ wsL_law) (hinst : Cond.instanceMethod y ∈ wsL_law) (hM : xMc l y bytes maxL none rm D tys (.ref b :: As) wc post w1 mc ms)
    (hR : rm.frames + 1 ≤ R.frames ∧ 8 + (maxL + 11) + rm.locals ≤ R.locals) (hrm : rm.cells = mc ∧ rm.slots = ms) (hn : As.length = n) (hsz : ls.size = nL) (hst : st0 = As.reverse ++ .ref b :: rest) (hrest : (rest.map fun v => v.category).sum ≤ 8) (hdg : decode cc pc = .ok (.invokespecial idx, 3)) (hcs : cells + mc ≤ R.cells ∧ slots + ms ≤ R.slots)
    (kk : ∀ (u : S) (H1 : Heap) (locs1 : List Loc), post u → va_P D vwCl (r ++ w1 u) H1 → va_D A (r ++ w1 u) → va_S A s.heap H1 locs1 → W p l e R s m args below meth c H1 locs1 (cells + mc) (slots + ms) Q (F0 m (pc + 3) ls rest)) : W p l e R s m args below meth c H locs cells slots Q (F0 m pc ls st0) := by
  have hC := xg_range2 r wc
  have hnd : va_nd (List.range' r.length wc.length) = true := xg_nd _ List.nodup_range'
  have hF := va_free (wc := wc) hD hS hA _ hC
  have hcb : CallB R s args own idx y bytes maxL none (Cond.code y bytes maxL none :: wsL_law) rm mc ms n :=
    callB_of n hts (xk_G hB.1) rfl hrm.1 hrm.2 (hts _ (List.mem_cons_of_mem _ hB.2.1)) (hts _ (List.mem_cons_of_mem _ hlink)) hB.2.2.2 hR
  refine va_callv (va_runI ⟨hx, hb, hml, hown, hts⟩ (hM H.size) ⟨hcb, hin, hts _ (List.mem_cons_of_mem _ hinst)⟩ ⟨xPre_blind, xPre_of hK hN hZ hP hD hS hA _ hnd hC⟩ rfl hn hsz hst (lv_room hrest) hdg hcs) hS (fun q _ h => hF q h) hF (fun u t H1 locs1 ht hvm hp hb hz hk hS1 => ?_)
  obtain ⟨hP1, hD1⟩ := hb
  rw [ht] at hP1
  obtain ⟨g1, g2⟩ := xc_join hP hD hk hF hP1 hD1
  exact kk u H1 locs1 hp g1 g2 hS1
/-- the same, a nest mate's private one -/
theorem xk_IcN (hx : p.tables.exec = Jvm.exec) (hb : c.code = cc) (hml : c.maxLocals = nL) (hown : s.vm.findClass own = some m.cls) (hts : ∀ w ∈ c0 :: wsL_law, w.before args s = true) (hK : va_K D vwCl tys s) (hN : xN s) (hZ : xZ A s) (hP : va_P D vwCl (r ++ wc) H) (hD : va_D A (r ++ wc)) (hS : va_S A s.heap H locs) (hA : ∀ q, s.heap.size ≤ q → A q)
    {b : Addr} {C : String} {post : S → Prop} {w1 : S → va_W} {mc ms : Nat} (hB : xMB y bytes maxL none C n) (hin : y.name = "<init>") {host : String} (hlink : va_Nw (.methodLinkNest own idx y host) s) (hinst : Cond.instanceMethod y ∈ wsL_law) (hM : xMc l y bytes maxL none rm D tys (.ref b :: As) wc post w1 mc ms)
    (hR : rm.frames + 1 ≤ R.frames ∧ 8 + (maxL + 11) + rm.locals ≤ R.locals) (hrm : rm.cells = mc ∧ rm.slots = ms) (hn : As.length = n) (hsz : ls.size = nL) (hst : st0 = As.reverse ++ .ref b :: rest) (hrest : (rest.map fun v => v.category).sum ≤ 8) (hdg : decode cc pc = .ok (.invokespecial idx, 3)) (hcs : cells + mc ≤ R.cells ∧ slots + ms ≤ R.slots)
    (kk : ∀ (u : S) (H1 : Heap) (locs1 : List Loc), post u → va_P D vwCl (r ++ w1 u) H1 → va_D A (r ++ w1 u) → va_S A s.heap H1 locs1 → W p l e R s m args below meth c H1 locs1 (cells + mc) (slots + ms) Q (F0 m (pc + 3) ls rest)) : W p l e R s m args below meth c H locs cells slots Q (F0 m pc ls st0) := by
  have hC := xg_range2 r wc
  have hnd : va_nd (List.range' r.length wc.length) = true := xg_nd _ List.nodup_range'
  have hF := va_free (wc := wc) hD hS hA _ hC
  have hcb : va_CN R s args own idx y host bytes maxL none (Cond.code y bytes maxL none :: wsL_law) rm mc ms n :=
    va_cnB n hts (xk_G hB.1) rfl hrm.1 hrm.2 hlink (hts _ (List.mem_cons_of_mem _ hB.2.1)) hB.2.2.2 hR
  refine va_callv (va_runIN ⟨hx, hb, hml, hown, hts⟩ (hM H.size) ⟨hcb, hin, hts _ (List.mem_cons_of_mem _ hinst)⟩ ⟨xPre_blind, xPre_of hK hN hZ hP hD hS hA _ hnd hC⟩ rfl hn hsz hst (lv_room hrest) hdg hcs) hS (fun q _ h => hF q h) hF (fun u t H1 locs1 ht hvm hp hb hz hk hS1 => ?_)
  obtain ⟨hP1, hD1⟩ := hb
  rw [ht] at hP1
  obtain ⟨g1, g2⟩ := xc_join hP hD hk hF hP1 hD1
  exact kk u H1 locs1 hp g1 g2 hS1
theorem xk_retc {post : S → Prop} {w1 : S → va_W} {mc ms : Nat} (u : S) (hx : p.tables.exec = Jvm.exec) (hb : c.code = cc) (hr : meth.sig.returnType = none) (hlocks : meth.locks = false) (hP : va_P D vwCl (w1 u) H) (hD : va_D A (w1 u)) (hp : post u) (hS : va_S A s.heap H locs) (hdg : decode cc pc = .ok (.return_, 1)) (hQ : Q = MQ below (va_Qv post (fun u t => va_P D vwCl (w1 u) t.heap ∧ va_D A (w1 u)) A) args s mc ms A) (h1 : cells ≤ mc) (h2 : slots ≤ ms) : W p l e R s m args below meth c H locs cells slots Q (F0 m pc ls []) := by
  refine W.widen h1 h2 ?_
  rw [hQ]
  exact
  W.vret hx hb hr (fun t ht _ => ⟨⟨u, rfl, hp, (show va_P D vwCl (w1 u) t.heap by rw [ht]; exact hP), hD⟩, hS.F ht⟩) hS.2.2 hdg hlocks
end XD
/-- an array of references, told by another function that is the same within its length -/
theorem xk_arrq {D : va_G} {cl : List vw_C} {ws : va_W} {H : Heap} (hP : va_P D cl ws H) (k : Nat) {a N : Nat} {cA : ClassId} {f : Nat → Option Nat} (g : Nat → Option Nat) (hk : ws[k]? = some (a, .inl (cA, N, .inr (.inr (.inr (.inr f)))))) (h : ∀ j, j < N → f j = g j) : va_P D cl (ws.set k (a, .inl (cA, N, .inr (.inr (.inr (.inr g)))))) H := by
  intro i q hi
  by_cases e : i = k
  · subst e
    rw [List.getElem?_set_self (List.getElem?_eq_some_iff.mp hk).1] at hi
    cases hi
    have h1 : H[a]? = some (vp_cell cA (N, .inr (.inr (.inr (.inr f))))) := hP i _ hk
    have h2 : vp_cell cA (N, .inr (.inr (.inr (.inr f)))) = vp_cell cA (N, .inr (.inr (.inr (.inr g)))) := by
      rw [vp_cell_q, vp_cell_q]
      unfold arrV
      congr 1
      apply Array.ext
      · simp
      · intro i h1 h2
        simp only [Array.getElem_ofFn]
        rw [h i (by simpa using h1)]
    show H[a]? = some (vp_cell cA (N, .inr (.inr (.inr (.inr g)))))
    rw [h1, h2]
  · rw [List.getElem?_set_ne (Ne.symm e)] at hi
    exact hP i q hi
/-- the model's first state -/
def zI : Nat → Int32 := beginZ (upd (upd (upd (upd (upd (upd z0 0 4) 1 1) 2 3) 3 4) 4 30) 5 4)
theorem zI_inv : InvZ zI := by
  refine begin_inv ?_ ?_ ?_
  · exact ⟨⟨by decide, by decide⟩, ⟨by decide, by decide⟩, ⟨by decide, by decide⟩, ⟨by decide, by decide⟩, ⟨by decide, by decide⟩⟩
  · exact ⟨⟨by decide, by decide⟩, fun l hl => absurd hl (by rw [show (upd (upd (upd (upd (upd (upd z0 0 4) 1 1) 2 3) 3 4) 4 30) 5 4 6).toInt = 0 from by decide]; omega)⟩
  · exact ⟨⟨by decide, by decide⟩, fun l hl => absurd hl (by rw [show (upd (upd (upd (upd (upd (upd z0 0 4) 1 1) 2 3) 3 4) 4 30) 5 4 7).toInt = 0 from by decide]; omega)⟩
theorem zI_RS : RS cS0 zI := by
  have e6 : zI 6 = 0 := by decide
  have e7 : zI 7 = 0 := by decide
  refine ⟨fun k hk => ?_, ⟨by rw [e6]; rfl, fun l hl => ?_⟩, ⟨by rw [e7]; rfl, fun l hl => ?_⟩, fun j _ => Or.inl rfl, fun j _ => Or.inl rfl⟩
  · have h : k = 0 ∨ k = 1 ∨ k = 2 ∨ k = 3 ∨ k = 4 ∨ k = 5 := by omega
    rcases h with h | h | h | h | h | h <;> subst h <;> decide
  · rw [e6, show (0 : Int32).toInt = 0 from by decide] at hl; omega
  · rw [e7, show (0 : Int32).toInt = 0 from by decide] at hl; omega
