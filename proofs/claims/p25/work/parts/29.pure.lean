/-! ===== the history ===== -/
def stA (ha : Nat → Nat → Nat) (j : Nat) : Option Nat := some (ha j 0)
def jR (old sz : Int32) : Nat := if sz.toInt = 6 then old.toInt.toNat else (old.toInt.toNat + sz.toInt.toNat) % 6
def oldR (old sz : Int32) : Int32 := if sz.toInt = 6 then (if old.toInt = 5 then 0 else old + 1) else old
def szR (sz : Int32) : Int32 := if sz.toInt = 6 then 6 else sz + 1
def recC (cs : Nat → Nat → Nat → Int32) (c : Nat → Nat → Int32) (j : Nat) : Nat → Nat → Nat → Int32 := fun i => if i = j then c else cs i
theorem xor6 {x : Int32} (h : 0 ≤ x.toInt ∧ x.toInt ≤ 12) : 0 ≤ (x ^^^ 6).toInt := by
  have h2 : x.toInt = 0 ∨ x.toInt = 1 ∨ x.toInt = 2 ∨ x.toInt = 3 ∨ x.toInt = 4 ∨ x.toInt = 5 ∨ x.toInt = 6 ∨ x.toInt = 7 ∨ x.toInt = 8 ∨ x.toInt = 9 ∨ x.toInt = 10 ∨ x.toInt = 11 ∨ x.toInt = 12 := by omega
  rcases h2 with h2 | h2 | h2 | h2 | h2 | h2 | h2 | h2 | h2 | h2 | h2 | h2 | h2
  · rw [show x = 0 from xi_ext h2]; decide
  · rw [show x = 1 from xi_ext h2]; decide
  · rw [show x = 2 from xi_ext h2]; decide
  · rw [show x = 3 from xi_ext h2]; decide
  · rw [show x = 4 from xi_ext h2]; decide
  · rw [show x = 5 from xi_ext h2]; decide
  · rw [show x = 6 from xi_ext h2]; decide
  · rw [show x = 7 from xi_ext h2]; decide
  · rw [show x = 8 from xi_ext h2]; decide
  · rw [show x = 9 from xi_ext h2]; decide
  · rw [show x = 10 from xi_ext h2]; decide
  · rw [show x = 11 from xi_ext h2]; decide
  · rw [show x = 12 from xi_ext h2]; decide
theorem xk_ofWF {l : Launch} {y : MethodName} {ws ws' : List Cond} {rm : Room} {Pc : Array Value → State → Prop} {Qc : Array Value → State → Outcome → State → Prop} {mc ms : Nat} {free : Addr → Prop} {cc : ByteArray} {maxL : Nat} {ret : Option FieldType}
    (hy : plainFor y = true) (hw : ws = Cond.code y cc maxL ret :: ws')
    (body : ∀ p e s m args below meth c s₁, BodyLoose p l y (headSpec ws rm) cc maxL ret e s m args below meth c s₁ → c.maxLocals = maxL → Pc args s →
      W p l e (headSpec ws rm).room s m args below meth c s.heap [] 0 0 (MQ below Qc args s mc ms free) (entryFrame m args maxL)) : Met l y ws rm Pc Qc mc ms free := by
  refine MetFree.of_bodySF (code := cc) (maxLocals := maxL) (ret := ret) hy ?_ ?_
  · intro args s m h hn
    obtain ⟨meth, c, h1, h2, h3, h4, h5, h6, -, -⟩ := Cond.code_spec hn (atoms_spec (ws := ws) h _ (by rw [hw]; exact List.mem_cons_self))
    exact ⟨meth, c, h1, h2, h3, h4, h5, h6⟩
  · intro p e s m args below meth c s₁ B hml hP _
    obtain ⟨t, a1, o, b1, b2, b3⟩ := body p e s m args below meth c s₁ B hml hP s₁ (by rw [B.state]; rfl) (Stand.of_body B)
    exact ⟨t, o, a1, b1, b2, b3.1, b3.2⟩
theorem xk_bodyF {l : Launch} {y : MethodName} {cc : ByteArray} {maxL : Nat} {ret : Option FieldType} {rm : Room} {D : va_G} {tys : List (ClassId × FieldType)} {As : List Value} {wc : va_W} {Qc : (Nat → Prop) → Array Value → State → Outcome → State → Prop} (hy : plainFor y = true) (hl : (lg_sl As).length ≤ maxL) (body : xBody l y cc maxL ret rm D tys As wc Qc) (sz : Nat) : Met l y (Cond.code y cc maxL ret :: wsL_law) rm (va_Pc As (xPre D tys wc sz)) (Qc (va_A wc sz)) 0 0 (va_A wc sz) := by
  refine xk_ofWF (cc := cc) (maxL := maxL) (ret := ret) hy rfl ?_
  intro p e s m args below meth c s₁ B hml hv
  obtain ⟨rfl, hsz, hP, hK, hD0, hN, hZ⟩ := hv
  have hx := B.exec
  have hb := B.bytes
  have hr := B.returns
  have hts := atoms_spec (ws := Cond.code y cc maxL ret :: wsL_law) B.pre
  have hown : s.vm.findClass y.cls = some m.cls := findClass_of_methodNamed B.named
  have hlocks := B.notSynchronized
  have hin : meth.name = y.name := (name_of_methodNamed B.named B.method).1
  subst hsz
  have hD := hD0.self (sz := s.heap.size)
  generalize hAe : va_A wc s.heap.size = A at hD hZ ⊢
  have hA : ∀ q : Nat, s.heap.size ≤ q → A q := fun q h => by rw [← hAe]; exact Or.inr h
  have hS : va_S A s.heap s.heap [] := va_S.rf
  rw [lg_entry_eq]
  exact body p e s m below meth c A _ _ _ hx hb hr hts hown hlocks hml hin hK hP hD hS hA hN hZ (lv_entry As hl) rfl
theorem xk_bodyiF {l : Launch} {y : MethodName} {cc : ByteArray} {maxL : Nat} {ret : Option FieldType} {rm : Room} {D : va_G} {tys : List (ClassId × FieldType)} {As : List Value} {wc : va_W} {S : Type} {post : Int32 → S → Prop} {w1 : S → va_W} (hy : plainFor y = true) (hl : (lg_sl As).length ≤ maxL) (body : xBody l y cc maxL ret rm D tys As wc (fun A => va_Qi post (fun u t => va_P D vwCl (w1 u) t.heap) A)) : xMi l y cc maxL ret rm D tys As wc post w1 := fun sz => xk_bodyF (Qc := fun A => va_Qi post (fun u t => va_P D vwCl (w1 u) t.heap) A) hy hl body sz
theorem oldR_e {old r : Int32} (ho : 0 ≤ old.toInt ∧ old.toInt ≤ 5) (hr : r.toInt = (old.toInt + 1) % 6) : (if old.toInt = 5 then (0 : Int32) else old + 1) = r := by
  have z0 : (0 : Int32).toInt = 0 := by decide
  by_cases h : old.toInt = 5
  · rw [if_pos h]
    exact xi_ext (by rw [hr, z0, h]; rfl)
  · rw [if_neg h]
    exact xi_ext (by rw [hr, xi_add (b := 1) rfl (by decide) (by omega) (by omega)]; omega)
