/-! ===== a small kit over the kit: all methods share one list of words; a contract speaks of cells at fixed places ===== -/
theorem xk_good : wsL_law.all goodWord = true := by decide +kernel
theorem xk_G {c0 : Cond} {y : MethodName} {cc : ByteArray} {n : Nat} {ret : Option FieldType} (h : Cond.code y cc n ret ∈ wsL_law) : GoodIn (c0 :: wsL_law) (Cond.code y cc n ret :: wsL_law) := by
  intro w hw
  have hm : w ∈ wsL_law := by
    rcases List.mem_cons.mp hw with e | hw
    · rw [e]; exact h
    · exact hw
  exact ⟨List.mem_cons_of_mem _ hm, good_of_word (List.all_eq_true.mp xk_good _ hm)⟩
def xk_nf : List (String × Nat × String × String × String × String) := [("MarchMetres$Settings", 15, "MarchMetres", "FIRST_VALUES", "[I", "MarchMetres"), ("MarchMetres", 89, "MarchMetres$Song", "lines", "I", "MarchMetres"), ("MarchMetres$March", 115, "MarchMetres$Song", "lines", "I", "MarchMetres"), ("MarchMetres$March", 57, "MarchMetres$Road", "stretches", "I", "MarchMetres"), ("MarchMetres", 99, "MarchMetres$Road", "stretches", "I", "MarchMetres"), ("MarchMetres", 122, "MarchMetres$March", "beats", "I", "MarchMetres"), ("MarchMetres", 168, "MarchMetres$March", "ticks", "I", "MarchMetres"), ("MarchMetres", 171, "MarchMetres$March", "line", "I", "MarchMetres"), ("MarchMetres", 174, "MarchMetres$March", "foot", "I", "MarchMetres"), ("MarchMetres", 177, "MarchMetres$March", "beat", "I", "MarchMetres"), ("MarchMetres", 180, "MarchMetres$March", "stretch", "I", "MarchMetres"), ("MarchMetres", 183, "MarchMetres$March", "steps", "I", "MarchMetres"), ("MarchMetres", 186, "MarchMetres$March", "breath", "I", "MarchMetres"), ("MarchMetres", 189, "MarchMetres$March", "pauseLeft", "I", "MarchMetres"), ("MarchMetres", 192, "MarchMetres$March", "allSteps", "I", "MarchMetres"), ("MarchMetres", 195, "MarchMetres$March", "skipped", "I", "MarchMetres"), ("MarchMetres", 198, "MarchMetres$March", "gasps", "I", "MarchMetres"), ("MarchMetres", 201, "MarchMetres$March", "songs", "I", "MarchMetres"), ("MarchMetres", 204, "MarchMetres$March", "sung", "I", "MarchMetres"), ("MarchMetres", 63, "MarchMetres$State", "settings", "LMarchMetres$Settings;", "MarchMetres"), ("MarchMetres", 78, "MarchMetres$State", "song", "LMarchMetres$Song;", "MarchMetres"), ("MarchMetres", 95, "MarchMetres$State", "road", "LMarchMetres$Road;", "MarchMetres"), ("MarchMetres", 119, "MarchMetres$State", "march", "LMarchMetres$March;", "MarchMetres"), ("MarchMetres", 218, "MarchMetres$History", "size", "I", "MarchMetres"), ("MarchMetres", 215, "MarchMetres$Pad", "length", "I", "MarchMetres"), ("MarchMetres$Settings", 22, "MarchMetres", "LEAST_VALUES", "[I", "MarchMetres"), ("MarchMetres$Settings", 25, "MarchMetres", "MOST_VALUES", "[I", "MarchMetres")]
def xk_nm : List (String × Nat × MethodName × String) := [("MarchMetres", 11, ⟨"MarchMetres$State", "<init>", "()V"⟩, "MarchMetres"), ("MarchMetres$State", 20, ⟨"MarchMetres$Song", "<init>", "()V"⟩, "MarchMetres"), ("MarchMetres$State", 27, ⟨"MarchMetres$Road", "<init>", "()V"⟩, "MarchMetres"), ("MarchMetres$State", 34, ⟨"MarchMetres$March", "<init>", "()V"⟩, "MarchMetres"), ("MarchMetres$History", 17, ⟨"MarchMetres$State", "<init>", "()V"⟩, "MarchMetres"), ("MarchMetres", 33, ⟨"MarchMetres$Pad", "<init>", "()V"⟩, "MarchMetres"), ("MarchMetres", 40, ⟨"MarchMetres$March", "<init>", "()V"⟩, "MarchMetres")]
def xN (U : State) : Prop := (∀ q ∈ xk_nf, va_Nw (.fieldLinkNest q.1 q.2.1 q.2.2.1 q.2.2.2.1 q.2.2.2.2.1 q.2.2.2.2.2) U) ∧ (∀ q ∈ xk_nm, va_Nw (.methodLinkNest q.1 q.2.1 q.2.2.1 q.2.2.2) U) ∧ va_AO "MarchMetres$State" U ∧ va_Nw (.constant "MarchMetres" 238 1000000) U
theorem xN_warm {s U : State} (hW : s.WarmedH U.vm) (h : xN s) : xN U := ⟨fun q hq => va_Nw.warmF hW (h.1 q hq), fun q hq => va_Nw.warmM hW (h.2.1 q hq), va_AO.moved hW.alike h.2.2.1, (word_at hW (Or.inl (by first | rfl | decide)) h.2.2.2 : (Cond.constant "MarchMetres" 238 1000000).before #[] U = true)⟩
theorem xN_same {s U : State} (e : s.vm = U.vm) (h : xN s) : xN U := ⟨fun q hq => va_Nw.same rfl e (h.1 q hq), fun q hq => va_Nw.same rfl e (h.2.1 q hq), va_AO.moved (by rw [e]; exact Vm.Alike.refl _) h.2.2.1, va_Nw.same rfl e h.2.2.2⟩
theorem xnf_0 {s : State} {args : Array Value} (h : xN s) : (Cond.fieldLinkNest "MarchMetres$Settings" 15 "MarchMetres" "FIRST_VALUES" "[I" "MarchMetres").before args s = true := va_Nw.use rfl (h.1 ("MarchMetres$Settings", 15, "MarchMetres", "FIRST_VALUES", "[I", "MarchMetres") (List.mem_of_getElem? (i := 0) rfl))
theorem xnf_1 {s : State} {args : Array Value} (h : xN s) : (Cond.fieldLinkNest "MarchMetres" 89 "MarchMetres$Song" "lines" "I" "MarchMetres").before args s = true := va_Nw.use rfl (h.1 ("MarchMetres", 89, "MarchMetres$Song", "lines", "I", "MarchMetres") (List.mem_of_getElem? (i := 1) rfl))
theorem xnf_2 {s : State} {args : Array Value} (h : xN s) : (Cond.fieldLinkNest "MarchMetres$March" 115 "MarchMetres$Song" "lines" "I" "MarchMetres").before args s = true := va_Nw.use rfl (h.1 ("MarchMetres$March", 115, "MarchMetres$Song", "lines", "I", "MarchMetres") (List.mem_of_getElem? (i := 2) rfl))
theorem xnf_3 {s : State} {args : Array Value} (h : xN s) : (Cond.fieldLinkNest "MarchMetres$March" 57 "MarchMetres$Road" "stretches" "I" "MarchMetres").before args s = true := va_Nw.use rfl (h.1 ("MarchMetres$March", 57, "MarchMetres$Road", "stretches", "I", "MarchMetres") (List.mem_of_getElem? (i := 3) rfl))
theorem xnf_4 {s : State} {args : Array Value} (h : xN s) : (Cond.fieldLinkNest "MarchMetres" 99 "MarchMetres$Road" "stretches" "I" "MarchMetres").before args s = true := va_Nw.use rfl (h.1 ("MarchMetres", 99, "MarchMetres$Road", "stretches", "I", "MarchMetres") (List.mem_of_getElem? (i := 4) rfl))
theorem xnf_5 {s : State} {args : Array Value} (h : xN s) : (Cond.fieldLinkNest "MarchMetres" 122 "MarchMetres$March" "beats" "I" "MarchMetres").before args s = true := va_Nw.use rfl (h.1 ("MarchMetres", 122, "MarchMetres$March", "beats", "I", "MarchMetres") (List.mem_of_getElem? (i := 5) rfl))
theorem xnf_6 {s : State} {args : Array Value} (h : xN s) : (Cond.fieldLinkNest "MarchMetres" 168 "MarchMetres$March" "ticks" "I" "MarchMetres").before args s = true := va_Nw.use rfl (h.1 ("MarchMetres", 168, "MarchMetres$March", "ticks", "I", "MarchMetres") (List.mem_of_getElem? (i := 6) rfl))
theorem xnf_7 {s : State} {args : Array Value} (h : xN s) : (Cond.fieldLinkNest "MarchMetres" 171 "MarchMetres$March" "line" "I" "MarchMetres").before args s = true := va_Nw.use rfl (h.1 ("MarchMetres", 171, "MarchMetres$March", "line", "I", "MarchMetres") (List.mem_of_getElem? (i := 7) rfl))
theorem xnf_8 {s : State} {args : Array Value} (h : xN s) : (Cond.fieldLinkNest "MarchMetres" 174 "MarchMetres$March" "foot" "I" "MarchMetres").before args s = true := va_Nw.use rfl (h.1 ("MarchMetres", 174, "MarchMetres$March", "foot", "I", "MarchMetres") (List.mem_of_getElem? (i := 8) rfl))
theorem xnf_9 {s : State} {args : Array Value} (h : xN s) : (Cond.fieldLinkNest "MarchMetres" 177 "MarchMetres$March" "beat" "I" "MarchMetres").before args s = true := va_Nw.use rfl (h.1 ("MarchMetres", 177, "MarchMetres$March", "beat", "I", "MarchMetres") (List.mem_of_getElem? (i := 9) rfl))
theorem xnf_10 {s : State} {args : Array Value} (h : xN s) : (Cond.fieldLinkNest "MarchMetres" 180 "MarchMetres$March" "stretch" "I" "MarchMetres").before args s = true := va_Nw.use rfl (h.1 ("MarchMetres", 180, "MarchMetres$March", "stretch", "I", "MarchMetres") (List.mem_of_getElem? (i := 10) rfl))
theorem xnf_11 {s : State} {args : Array Value} (h : xN s) : (Cond.fieldLinkNest "MarchMetres" 183 "MarchMetres$March" "steps" "I" "MarchMetres").before args s = true := va_Nw.use rfl (h.1 ("MarchMetres", 183, "MarchMetres$March", "steps", "I", "MarchMetres") (List.mem_of_getElem? (i := 11) rfl))
theorem xnf_12 {s : State} {args : Array Value} (h : xN s) : (Cond.fieldLinkNest "MarchMetres" 186 "MarchMetres$March" "breath" "I" "MarchMetres").before args s = true := va_Nw.use rfl (h.1 ("MarchMetres", 186, "MarchMetres$March", "breath", "I", "MarchMetres") (List.mem_of_getElem? (i := 12) rfl))
theorem xnf_13 {s : State} {args : Array Value} (h : xN s) : (Cond.fieldLinkNest "MarchMetres" 189 "MarchMetres$March" "pauseLeft" "I" "MarchMetres").before args s = true := va_Nw.use rfl (h.1 ("MarchMetres", 189, "MarchMetres$March", "pauseLeft", "I", "MarchMetres") (List.mem_of_getElem? (i := 13) rfl))
theorem xnf_14 {s : State} {args : Array Value} (h : xN s) : (Cond.fieldLinkNest "MarchMetres" 192 "MarchMetres$March" "allSteps" "I" "MarchMetres").before args s = true := va_Nw.use rfl (h.1 ("MarchMetres", 192, "MarchMetres$March", "allSteps", "I", "MarchMetres") (List.mem_of_getElem? (i := 14) rfl))
theorem xnf_15 {s : State} {args : Array Value} (h : xN s) : (Cond.fieldLinkNest "MarchMetres" 195 "MarchMetres$March" "skipped" "I" "MarchMetres").before args s = true := va_Nw.use rfl (h.1 ("MarchMetres", 195, "MarchMetres$March", "skipped", "I", "MarchMetres") (List.mem_of_getElem? (i := 15) rfl))
theorem xnf_16 {s : State} {args : Array Value} (h : xN s) : (Cond.fieldLinkNest "MarchMetres" 198 "MarchMetres$March" "gasps" "I" "MarchMetres").before args s = true := va_Nw.use rfl (h.1 ("MarchMetres", 198, "MarchMetres$March", "gasps", "I", "MarchMetres") (List.mem_of_getElem? (i := 16) rfl))
theorem xnf_17 {s : State} {args : Array Value} (h : xN s) : (Cond.fieldLinkNest "MarchMetres" 201 "MarchMetres$March" "songs" "I" "MarchMetres").before args s = true := va_Nw.use rfl (h.1 ("MarchMetres", 201, "MarchMetres$March", "songs", "I", "MarchMetres") (List.mem_of_getElem? (i := 17) rfl))
theorem xnf_18 {s : State} {args : Array Value} (h : xN s) : (Cond.fieldLinkNest "MarchMetres" 204 "MarchMetres$March" "sung" "I" "MarchMetres").before args s = true := va_Nw.use rfl (h.1 ("MarchMetres", 204, "MarchMetres$March", "sung", "I", "MarchMetres") (List.mem_of_getElem? (i := 18) rfl))
theorem xnf_19 {s : State} {args : Array Value} (h : xN s) : (Cond.fieldLinkNest "MarchMetres" 63 "MarchMetres$State" "settings" "LMarchMetres$Settings;" "MarchMetres").before args s = true := va_Nw.use rfl (h.1 ("MarchMetres", 63, "MarchMetres$State", "settings", "LMarchMetres$Settings;", "MarchMetres") (List.mem_of_getElem? (i := 19) rfl))
theorem xnf_20 {s : State} {args : Array Value} (h : xN s) : (Cond.fieldLinkNest "MarchMetres" 78 "MarchMetres$State" "song" "LMarchMetres$Song;" "MarchMetres").before args s = true := va_Nw.use rfl (h.1 ("MarchMetres", 78, "MarchMetres$State", "song", "LMarchMetres$Song;", "MarchMetres") (List.mem_of_getElem? (i := 20) rfl))
theorem xnf_21 {s : State} {args : Array Value} (h : xN s) : (Cond.fieldLinkNest "MarchMetres" 95 "MarchMetres$State" "road" "LMarchMetres$Road;" "MarchMetres").before args s = true := va_Nw.use rfl (h.1 ("MarchMetres", 95, "MarchMetres$State", "road", "LMarchMetres$Road;", "MarchMetres") (List.mem_of_getElem? (i := 21) rfl))
theorem xnf_22 {s : State} {args : Array Value} (h : xN s) : (Cond.fieldLinkNest "MarchMetres" 119 "MarchMetres$State" "march" "LMarchMetres$March;" "MarchMetres").before args s = true := va_Nw.use rfl (h.1 ("MarchMetres", 119, "MarchMetres$State", "march", "LMarchMetres$March;", "MarchMetres") (List.mem_of_getElem? (i := 22) rfl))
theorem xnf_23 {s : State} {args : Array Value} (h : xN s) : (Cond.fieldLinkNest "MarchMetres" 218 "MarchMetres$History" "size" "I" "MarchMetres").before args s = true := va_Nw.use rfl (h.1 ("MarchMetres", 218, "MarchMetres$History", "size", "I", "MarchMetres") (List.mem_of_getElem? (i := 23) rfl))
theorem xnf_24 {s : State} {args : Array Value} (h : xN s) : (Cond.fieldLinkNest "MarchMetres" 215 "MarchMetres$Pad" "length" "I" "MarchMetres").before args s = true := va_Nw.use rfl (h.1 ("MarchMetres", 215, "MarchMetres$Pad", "length", "I", "MarchMetres") (List.mem_of_getElem? (i := 24) rfl))
theorem xnf_25 {s : State} {args : Array Value} (h : xN s) : (Cond.fieldLinkNest "MarchMetres$Settings" 22 "MarchMetres" "LEAST_VALUES" "[I" "MarchMetres").before args s = true := va_Nw.use rfl (h.1 ("MarchMetres$Settings", 22, "MarchMetres", "LEAST_VALUES", "[I", "MarchMetres") (List.mem_of_getElem? (i := 25) rfl))
theorem xnf_26 {s : State} {args : Array Value} (h : xN s) : (Cond.fieldLinkNest "MarchMetres$Settings" 25 "MarchMetres" "MOST_VALUES" "[I" "MarchMetres").before args s = true := va_Nw.use rfl (h.1 ("MarchMetres$Settings", 25, "MarchMetres", "MOST_VALUES", "[I", "MarchMetres") (List.mem_of_getElem? (i := 26) rfl))
theorem xnm_0 {s : State} (h : xN s) : va_Nw (.methodLinkNest "MarchMetres" 11 ⟨"MarchMetres$State", "<init>", "()V"⟩ "MarchMetres") s := h.2.1 ("MarchMetres", 11, ⟨"MarchMetres$State", "<init>", "()V"⟩, "MarchMetres") (List.mem_of_getElem? (i := 0) rfl)
theorem xnm_1 {s : State} (h : xN s) : va_Nw (.methodLinkNest "MarchMetres$State" 20 ⟨"MarchMetres$Song", "<init>", "()V"⟩ "MarchMetres") s := h.2.1 ("MarchMetres$State", 20, ⟨"MarchMetres$Song", "<init>", "()V"⟩, "MarchMetres") (List.mem_of_getElem? (i := 1) rfl)
theorem xnm_2 {s : State} (h : xN s) : va_Nw (.methodLinkNest "MarchMetres$State" 27 ⟨"MarchMetres$Road", "<init>", "()V"⟩ "MarchMetres") s := h.2.1 ("MarchMetres$State", 27, ⟨"MarchMetres$Road", "<init>", "()V"⟩, "MarchMetres") (List.mem_of_getElem? (i := 2) rfl)
theorem xnm_3 {s : State} (h : xN s) : va_Nw (.methodLinkNest "MarchMetres$State" 34 ⟨"MarchMetres$March", "<init>", "()V"⟩ "MarchMetres") s := h.2.1 ("MarchMetres$State", 34, ⟨"MarchMetres$March", "<init>", "()V"⟩, "MarchMetres") (List.mem_of_getElem? (i := 3) rfl)
theorem xnm_4 {s : State} (h : xN s) : va_Nw (.methodLinkNest "MarchMetres$History" 17 ⟨"MarchMetres$State", "<init>", "()V"⟩ "MarchMetres") s := h.2.1 ("MarchMetres$History", 17, ⟨"MarchMetres$State", "<init>", "()V"⟩, "MarchMetres") (List.mem_of_getElem? (i := 4) rfl)
theorem xnm_5 {s : State} (h : xN s) : va_Nw (.methodLinkNest "MarchMetres" 33 ⟨"MarchMetres$Pad", "<init>", "()V"⟩ "MarchMetres") s := h.2.1 ("MarchMetres", 33, ⟨"MarchMetres$Pad", "<init>", "()V"⟩, "MarchMetres") (List.mem_of_getElem? (i := 5) rfl)
theorem xnm_6 {s : State} (h : xN s) : va_Nw (.methodLinkNest "MarchMetres" 40 ⟨"MarchMetres$March", "<init>", "()V"⟩ "MarchMetres") s := h.2.1 ("MarchMetres", 40, ⟨"MarchMetres$March", "<init>", "()V"⟩, "MarchMetres") (List.mem_of_getElem? (i := 6) rfl)
def xvF : Nat → Value := fun j => .int (match j with | 0 => 4 | 1 => 1 | 2 => 3 | 3 => 4 | 4 => 30 | _ => 4)
def xvL : Nat → Value := fun j => .int (match j with | 0 => 1 | 1 => 0 | 2 => 1 | 3 => 1 | 4 => 5 | _ => 2)
def xvM : Nat → Value := fun j => .int (match j with | 0 => 9 | 1 => 9 | 2 => 9 | 3 => 20 | 4 => 60 | _ => 9)
def xZ1 (n : String) (f : Nat → Value) (A : Nat → Prop) (U : State) (H : Heap) : Prop := ∃ t : Nat, va_Z "MarchMetres" n "[I" (.ref t) A U H ∧ va_T .int t 6 f A U H
theorem xZ1_pass {n : String} {f : Nat → Value} {A B : Nat → Prop} {s U : State} {H : Heap} {locs : List Loc} (h : xZ1 n f A s s.heap) (hS : va_S A s.heap H locs) (hF : ∀ q, B q → A q) (hvm : s.vm.Alike U.vm) (hU : U.heap = H) : xZ1 n f B U U.heap := by
  obtain ⟨t, h1, h2⟩ := h
  subst hU
  exact ⟨t, ((h1.kept hS.2.1).narrow hF).moved hvm, ((h2.kept hS.2.1).narrow hF).moved hvm⟩
theorem xZ1_same {n : String} {f : Nat → Value} {A : Nat → Prop} {s U : State} (h : xZ1 n f A s s.heap) (hvm : s.vm.Alike U.vm) (hU : U.heap = s.heap) : xZ1 n f A U U.heap := by
  obtain ⟨t, h1, h2⟩ := h
  rw [hU]
  exact ⟨t, h1.moved hvm, h2.moved hvm⟩
/-- the three tables of the class -/
def xZ (A : Nat → Prop) (U : State) : Prop := xZ1 "FIRST_VALUES" xvF A U U.heap ∧ xZ1 "LEAST_VALUES" xvL A U U.heap ∧ xZ1 "MOST_VALUES" xvM A U U.heap
theorem xZ_pass {A B : Nat → Prop} {s U : State} {H : Heap} {locs : List Loc} (h : xZ A s) (hS : va_S A s.heap H locs) (hF : ∀ q, B q → A q) (hvm : s.vm.Alike U.vm) (hU : U.heap = H) : xZ B U := ⟨xZ1_pass h.1 hS hF hvm hU, xZ1_pass h.2.1 hS hF hvm hU, xZ1_pass h.2.2 hS hF hvm hU⟩
theorem xZ_same {A : Nat → Prop} {s U : State} (h : xZ A s) (hvm : s.vm.Alike U.vm) (hU : U.heap = s.heap) : xZ A U := ⟨xZ1_same h.1 hvm hU, xZ1_same h.2.1 hvm hU, xZ1_same h.2.2 hvm hU⟩
/-- what holds as a method begins -/
def xPre (D : va_G) (tys : List (ClassId × FieldType)) (wc : va_W) (sz : Nat) (U : State) : Prop := U.heap.size = sz ∧ va_P D vwCl wc U.heap ∧ va_K D vwCl tys U ∧ va_D (fun _ => True) wc ∧ xN U ∧ xZ (va_A wc sz) U
theorem xPre_blind {D : va_G} {tys : List (ClassId × FieldType)} {wc : va_W} {sz : Nat} {As : List Value} : FrameBlind (va_Pc As (xPre D tys wc sz)) := by
  intro a U g mk h
  obtain ⟨h0, h1, h2, h3, h4, h5, h6⟩ := h
  exact ⟨h0, h1, h2, va_K.moved (u := U) (U := U.calling g mk a) (Vm.Alike.refl U.vm) h3, h4, xN_same (s := U) (U := U.calling g mk a) rfl h5, xZ_same (s := U) (U := U.calling g mk a) h6 (Vm.Alike.refl U.vm) rfl⟩
theorem xPre_of {D : va_G} {tys : List (ClassId × FieldType)} {ws wc : va_W} {A : Nat → Prop} {s : State} {H : Heap} {locs : List Loc} {As : List Value} (hK : va_K D vwCl tys s) (hN : xN s) (hZ : xZ A s) (hP : va_P D vwCl ws H) (hD : va_D A ws) (hS : va_S A s.heap H locs) (hA : ∀ q, s.heap.size ≤ q → A q) (is : List Nat) (hn : va_nd is = true) (hC : is.map (fun i => ws[i]?) = wc.map some) : ∀ U : State, U.heap = H → s.WarmedH U.vm → va_Pc As (xPre D tys wc H.size) As.toArray U := by
  intro U hU hW
  refine ⟨rfl, by rw [hU], ?_, va_K.moved hW.alike hK, (hD.sub is hn hC).weaken (fun _ _ _ _ => trivial), xN_warm hW hN, xZ_pass hZ hS (va_free hD hS hA is hC) hW.alike hU⟩
  rw [hU]
  intro k q hk
  obtain ⟨i, -, hi⟩ := va_in_of is hC hk
  exact hP i q hi
/-- the cells at the places is are put anew -/
def xSet : va_W → List Nat → va_W → va_W
  | ws, [], _ => ws
  | ws, _ :: _, [] => ws
  | ws, i :: is, e :: es => xSet (ws.set i e) is es
theorem xSet_get : ∀ (is : List Nat) (w1 ws : va_W) (k : Nat) (q : Nat × va_E), is.length = w1.length → (∀ i ∈ is, i < ws.length) → (xSet ws is w1)[k]? = some q → (∃ j : Nat, is[j]? = some k ∧ w1[j]? = some q) ∨ (k ∉ is ∧ ws[k]? = some q)
  | [], w1, ws, k, q, _, _, h => Or.inr ⟨List.not_mem_nil, by simpa [xSet] using h⟩
  | i :: is, [], ws, k, q, hl, _, h => by simp at hl
  | i :: is, e :: es, ws, k, q, hl, hi, h => by
    have hl' : is.length = es.length := by simpa using hl
    have h' : (xSet (ws.set i e) is es)[k]? = some q := h
    rcases xSet_get is es (ws.set i e) k q hl' (fun j hj => by rw [List.length_set]; exact hi j (List.mem_cons_of_mem _ hj)) h' with ⟨j, h1, h2⟩ | ⟨h1, h2⟩
    · exact Or.inl ⟨j + 1, by simpa using h1, by simpa using h2⟩
    · by_cases hk : k = i
      · subst hk
        rw [List.getElem?_set_self (hi k List.mem_cons_self)] at h2
        exact Or.inl ⟨0, rfl, by simpa using h2⟩
      · rw [List.getElem?_set_ne (Ne.symm hk)] at h2
        exact Or.inr ⟨fun z => (List.mem_cons.mp z).elim hk h1, h2⟩
theorem xk_places {ws wc : va_W} {is : List Nat} (hC : is.map (fun i => ws[i]?) = wc.map some) : is.length = wc.length ∧ (∀ i ∈ is, i < ws.length) ∧ ∀ (j k : Nat), is[j]? = some k → ∃ q, wc[j]? = some q ∧ ws[k]? = some q := by
  have hl : is.length = wc.length := by simpa using congrArg List.length hC
  have key : ∀ (j k : Nat), is[j]? = some k → ∃ q, wc[j]? = some q ∧ ws[k]? = some q := by
    intro j k h
    have h1 : (is.map (fun i => ws[i]?))[j]? = some (ws[k]?) := by rw [List.getElem?_map, h]; rfl
    rw [hC, List.getElem?_map] at h1
    cases hq : wc[j]? with
    | none => rw [hq] at h1; cases h1
    | some q => rw [hq] at h1; exact ⟨q, rfl, (Option.some.inj h1).symm⟩
  refine ⟨hl, fun i hi => ?_, key⟩
  obtain ⟨j, hj⟩ := List.getElem?_of_mem hi
  obtain ⟨q, -, h2⟩ := key j i hj
  exact (List.getElem?_eq_some_iff.mp h2).1
theorem xk_same {w1 wc : va_W} (ha : w1.map Prod.fst = wc.map Prod.fst) {j : Nat} {q : Nat × va_E} (h : w1[j]? = some q) : ∃ q0, wc[j]? = some q0 ∧ q0.1 = q.1 := by
  have h1 : (w1.map Prod.fst)[j]? = some q.1 := by rw [List.getElem?_map, h]; rfl
  rw [ha, List.getElem?_map] at h1
  cases hq : wc[j]? with
  | none => rw [hq] at h1; cases h1
  | some q0 => rw [hq] at h1; exact ⟨q0, rfl, Option.some.inj h1⟩
theorem xSet_D {A : Nat → Prop} {ws wc w1 : va_W} {is : List Nat} (hD : va_D A ws) (hC : is.map (fun i => ws[i]?) = wc.map some) (ha : w1.map Prod.fst = wc.map Prod.fst) : va_D A (xSet ws is w1) := by
  obtain ⟨hl, hi, hj⟩ := xk_places hC
  have hl1 : is.length = w1.length := by rw [hl]; simpa using (congrArg List.length ha).symm
  have key : ∀ (k : Nat) (q : Nat × va_E), (xSet ws is w1)[k]? = some q → ∃ q0, ws[k]? = some q0 ∧ q0.1 = q.1 := by
    intro k q h
    rcases xSet_get is w1 ws k q hl1 hi h with ⟨j, h1, h2⟩ | ⟨h1, h2⟩
    · obtain ⟨q0, g1, g2⟩ := xk_same ha h2
      obtain ⟨q1, g3, g4⟩ := hj j k h1
      rw [g1] at g3; cases g3
      exact ⟨q0, g4, g2⟩
    · exact ⟨q, h2, rfl⟩
  refine ⟨fun i j x y hx hy hxy => ?_, fun k q hk => ?_⟩
  · obtain ⟨x0, h1, h2⟩ := key i x hx
    obtain ⟨y0, h3, h4⟩ := key j y hy
    exact hD.1 i j x0 y0 h1 h3 (h2.trans (hxy.trans h4.symm))
  · obtain ⟨q0, h1, h2⟩ := key k q hk
    rw [← h2]
    exact hD.2 k q0 h1
theorem xk_join {A0 : Nat → Prop} {D : va_G} {cl : List vw_C} {ws wc w1 : va_W} {H H1 : Heap} (hP : va_P D cl ws H) (hD : va_D A0 ws) {is : List Nat} (hC : is.map (fun i => ws[i]?) = wc.map some) (ha : w1.map Prod.fst = wc.map Prod.fst) (hk : ∀ q : Nat, q < H.size → ¬ va_A wc H.size q → H1[q]? = H[q]?) (hP1 : va_P D cl w1 H1) : va_P D cl (xSet ws is w1) H1 ∧ va_D A0 (xSet ws is w1) := by
  refine ⟨fun k q h => ?_, xSet_D hD hC ha⟩
  obtain ⟨hl, hi, hj⟩ := xk_places hC
  have hl1 : is.length = w1.length := by rw [hl]; simpa using (congrArg List.length ha).symm
  rcases xSet_get is w1 ws k q hl1 hi h with ⟨j, h1, h2⟩ | ⟨h1, h2⟩
  · exact hP1 j q h2
  · have hlt := (hP k q h2).lt
    refine (hP k q h2).kept (hk q.1 hlt (fun z => ?_))
    rcases z with ⟨j, e, hz⟩ | hz
    · obtain ⟨i, g1, g2⟩ := va_in_of is hC hz
      have := hD.1 k i q (q.1, e) h2 g2 rfl
      subst this
      exact h1 (List.mem_of_getElem? g1)
    · omega
/-- a contract that answers an int (or a boolean); one that answers nothing -/
def xMi (l : Launch) (y : MethodName) (cc : ByteArray) (maxL : Nat) (ret : Option FieldType) (rm : Room) (D : va_G) (tys : List (ClassId × FieldType)) (As : List Value) (wc : va_W) {S : Type} (post : Int32 → S → Prop) (w1 : S → va_W) : Prop := ∀ sz : Nat, Met l y (Cond.code y cc maxL ret :: wsL_law) rm (va_Pc As (xPre D tys wc sz)) (va_Qi post (fun u t => va_P D vwCl (w1 u) t.heap) (va_A wc sz)) 0 0 (va_A wc sz)
def xMv (l : Launch) (y : MethodName) (cc : ByteArray) (maxL : Nat) (ret : Option FieldType) (rm : Room) (D : va_G) (tys : List (ClassId × FieldType)) (As : List Value) (wc : va_W) {S : Type} (post : S → Prop) (w1 : S → va_W) : Prop := ∀ sz : Nat, Met l y (Cond.code y cc maxL ret :: wsL_law) rm (va_Pc As (xPre D tys wc sz)) (va_Qv post (fun u t => va_P D vwCl (w1 u) t.heap) (va_A wc sz)) 0 0 (va_A wc sz)
def xMr (l : Launch) (y : MethodName) (cc : ByteArray) (maxL : Nat) (ret : Option FieldType) (rm : Room) (D : va_G) (tys : List (ClassId × FieldType)) (As : List Value) (wc : va_W) {S : Type} (post : S → Prop) (adr : S → Nat) (w1 : S → va_W) : Prop := ∀ sz : Nat, Met l y (Cond.code y cc maxL ret :: wsL_law) rm (va_Pc As (xPre D tys wc sz)) (va_Qr post (fun u a t => a = adr u ∧ va_P D vwCl (w1 u) t.heap) (va_A wc sz)) 0 0 (va_A wc sz)
/-- the goal of a method's body, at its entry -/
abbrev xBody (l : Launch) (y : MethodName) (cc : ByteArray) (maxL : Nat) (ret : Option FieldType) (rm : Room) (D : va_G) (tys : List (ClassId × FieldType)) (As : List Value) (wc : va_W) (Qc : (Nat → Prop) → Array Value → State → Outcome → State → Prop) : Prop :=
  ∀ (p : Program) (e : Env) (s : State) (m : MethodId) (below : List Frame) (meth : Method) (c : Code) (A : Nat → Prop) (ls : Array Slot) (args : Array Value) (Q : State → Prop), p.tables.exec = Jvm.exec → c.code = cc → meth.sig.returnType = ret → (∀ w ∈ Cond.code y cc maxL ret :: wsL_law, w.before args s = true) → s.vm.findClass y.cls = some m.cls → meth.locks = false → c.maxLocals = maxL → meth.name = y.name → va_K D vwCl tys s → va_P D vwCl wc s.heap → va_D A wc → va_S A s.heap s.heap [] → (∀ q, s.heap.size ≤ q → A q) → xN s → xZ A s → lv_has ls maxL (lv_args 0 As) → Q = MQ below (Qc A) args s 0 0 A → W p l e rm s m args below meth c s.heap [] 0 0 Q (F0 m 0 ls [])
theorem xk_body {l : Launch} {y : MethodName} {cc : ByteArray} {maxL : Nat} {ret : Option FieldType} {rm : Room} {D : va_G} {tys : List (ClassId × FieldType)} {As : List Value} {wc : va_W} {Qc : (Nat → Prop) → Array Value → State → Outcome → State → Prop} (hy : plainName y.cls = true) (hl : (lg_sl As).length ≤ maxL) (body : xBody l y cc maxL ret rm D tys As wc Qc) (sz : Nat) : Met l y (Cond.code y cc maxL ret :: wsL_law) rm (va_Pc As (xPre D tys wc sz)) (Qc (va_A wc sz)) 0 0 (va_A wc sz) := by
  refine Met.ofW (cc := cc) (maxL := maxL) (ret := ret) hy rfl ?_
  intro p e s m args below meth c s₁ B hml hv
  obtain ⟨rfl, hsz, hP, hK, hD0, hN, hZ⟩ := hv
  have hx := B.exec
  have hb := B.bytes
  have hr := B.returns
  have hts := atoms_spec (ws := Cond.code y cc maxL ret :: wsL_law) B.pre
  have hown : s.vm.findClass y.cls = some m.cls := findClass_of_methodNamed B.named
  have hlocks := B.notSynchronized
  have hin : meth.name = y.name := (name_of_methodNamed B.named B.method).1
  subst hsz
  have hD := hD0.self (sz := s.heap.size)
  generalize hAe : va_A wc s.heap.size = A at hD hZ ⊢
  have hA : ∀ q : Nat, s.heap.size ≤ q → A q := fun q h => by rw [← hAe]; exact Or.inr h
  have hS : va_S A s.heap s.heap [] := va_S.rf
  rw [lg_entry_eq]
  exact body p e s m below meth c A _ _ _ hx hb hr hts hown hlocks hml hin hK hP hD hS hA hN hZ (lv_entry As hl) rfl
theorem xk_bodyi {l : Launch} {y : MethodName} {cc : ByteArray} {maxL : Nat} {ret : Option FieldType} {rm : Room} {D : va_G} {tys : List (ClassId × FieldType)} {As : List Value} {wc : va_W} {S : Type} {post : Int32 → S → Prop} {w1 : S → va_W} (hy : plainName y.cls = true) (hl : (lg_sl As).length ≤ maxL) (body : xBody l y cc maxL ret rm D tys As wc (fun A => va_Qi post (fun u t => va_P D vwCl (w1 u) t.heap) A)) : xMi l y cc maxL ret rm D tys As wc post w1 := fun sz => xk_body (Qc := fun A => va_Qi post (fun u t => va_P D vwCl (w1 u) t.heap) A) hy hl body sz
theorem xk_bodyv {l : Launch} {y : MethodName} {cc : ByteArray} {maxL : Nat} {ret : Option FieldType} {rm : Room} {D : va_G} {tys : List (ClassId × FieldType)} {As : List Value} {wc : va_W} {S : Type} {post : S → Prop} {w1 : S → va_W} (hy : plainName y.cls = true) (hl : (lg_sl As).length ≤ maxL) (body : xBody l y cc maxL ret rm D tys As wc (fun A => va_Qv post (fun u t => va_P D vwCl (w1 u) t.heap) A)) : xMv l y cc maxL ret rm D tys As wc post w1 := fun sz => xk_body (Qc := fun A => va_Qv post (fun u t => va_P D vwCl (w1 u) t.heap) A) hy hl body sz
theorem xk_bodyr {l : Launch} {y : MethodName} {cc : ByteArray} {maxL : Nat} {ret : Option FieldType} {rm : Room} {D : va_G} {tys : List (ClassId × FieldType)} {As : List Value} {wc : va_W} {S : Type} {post : S → Prop} {adr : S → Nat} {w1 : S → va_W} (hy : plainName y.cls = true) (hl : (lg_sl As).length ≤ maxL) (body : xBody l y cc maxL ret rm D tys As wc (fun A => va_Qr post (fun u a t => a = adr u ∧ va_P D vwCl (w1 u) t.heap) A)) : xMr l y cc maxL ret rm D tys As wc post adr w1 := fun sz => xk_body (Qc := fun A => va_Qr post (fun u a t => a = adr u ∧ va_P D vwCl (w1 u) t.heap) A) hy hl body sz
/-- a method's words of the tables -/
def xMB (y : MethodName) (cc : ByteArray) (maxL : Nat) (ret : Option FieldType) (C : String) (n : Nat) : Prop := Cond.code y cc maxL ret ∈ wsL_law ∧ Cond.initialized y.cls ∈ wsL_law ∧ y.cls = C ∧ y.cls ≠ "java/lang/invoke/MethodHandle" ∧ y.cls ≠ "java/lang/invoke/VarHandle" ∧ (parseMethodDescriptor y.desc).map (fun d => d.parameters.length) = some n
section XC
variable {p : Program} {l : Launch} {e : Env} {R : Room} {s : State} {m : MethodId} {args : Array Value} {below : List Frame} {meth : Method} {c : Code} {H : Heap} {locs : List Loc} {cells slots : Nat} {Q : State → Prop}
variable {cc : ByteArray} {pc nL : Nat} {ls : Array Slot} {rest st0 : List Value} {D : va_G} {tys : List (ClassId × FieldType)} {ws wc : va_W} {A : Nat → Prop} {c0 : Cond} {own : String}
variable {y : MethodName} {bytes : ByteArray} {maxL idx n : Nat} {ret : Option FieldType} {rm : Room} {As : List Value} {S : Type}
theorem xk_top {x z : Int32} (h : x = z) (k : W p l e R s m args below meth c H locs cells slots Q (F0 m pc ls (.int z :: rest))) : W p l e R s m args below meth c H locs cells slots Q (F0 m pc ls (.int x :: rest)) := by rw [h]; exact k
theorem xk_topl {x z : Int64} (h : x = z) (k : W p l e R s m args below meth c H locs cells slots Q (F0 m pc ls (.long z :: rest))) : W p l e R s m args below meth c H locs cells slots Q (F0 m pc ls (.long x :: rest)) := by rw [h]; exact k
theorem xk_stk {st st' : List Value} (h : st = st') (k : W p l e R s m args below meth c H locs cells slots Q (F0 m pc ls st')) : W p l e R s m args below meth c H locs cells slots Q (F0 m pc ls st) := by rw [h]; exact k
theorem xk_ci {post : Int32 → S → Prop} {w1 : S → va_W} {a : Array Value} (hr : va_Run p l e R s m args below meth c H locs cells slots 0 0 (F0 m pc ls st0) rest (va_Qi post (fun u t => va_P D vwCl (w1 u) t.heap) (va_A wc H.size) a) (va_A wc H.size)) (hP : va_P D vwCl ws H) (hD : va_D A ws) (hS : va_S A s.heap H locs) (hA : ∀ q, s.heap.size ≤ q → A q) (is : List Nat) (hC : is.map (fun i => ws[i]?) = wc.map some) (ha : ∀ u, (w1 u).map Prod.fst = wc.map Prod.fst)
    (kk : ∀ (r : Int32) (u : S) (H1 : Heap) (locs1 : List Loc), post r u → va_P D vwCl (xSet ws is (w1 u)) H1 → va_D A (xSet ws is (w1 u)) → va_S A s.heap H1 locs1 → W p l e R s m args below meth c H1 locs1 cells slots Q (F0 m (pc + 3) ls (.int r :: rest))) : W p l e R s m args below meth c H locs cells slots Q (F0 m pc ls st0) := by
  have hF := va_free (wc := wc) hD hS hA is hC
  refine va_calli hr hS (fun q _ h => hF q h) hF (fun r u t H1 locs1 ht hvm hp hb hz hk hS1 => ?_)
  have hP1 : va_P D vwCl (w1 u) H1 := by rw [← ht]; exact hb
  obtain ⟨g1, g2⟩ := xk_join hP hD hC (ha u) hk hP1
  exact kk r u H1 locs1 hp g1 g2 hS1
theorem xk_cv {post : S → Prop} {w1 : S → va_W} {a : Array Value} (hr : va_Run p l e R s m args below meth c H locs cells slots 0 0 (F0 m pc ls st0) rest (va_Qv post (fun u t => va_P D vwCl (w1 u) t.heap) (va_A wc H.size) a) (va_A wc H.size)) (hP : va_P D vwCl ws H) (hD : va_D A ws) (hS : va_S A s.heap H locs) (hA : ∀ q, s.heap.size ≤ q → A q) (is : List Nat) (hC : is.map (fun i => ws[i]?) = wc.map some) (ha : ∀ u, (w1 u).map Prod.fst = wc.map Prod.fst)
    (kk : ∀ (u : S) (H1 : Heap) (locs1 : List Loc), post u → va_P D vwCl (xSet ws is (w1 u)) H1 → va_D A (xSet ws is (w1 u)) → va_S A s.heap H1 locs1 → W p l e R s m args below meth c H1 locs1 cells slots Q (F0 m (pc + 3) ls rest)) : W p l e R s m args below meth c H locs cells slots Q (F0 m pc ls st0) := by
  have hF := va_free (wc := wc) hD hS hA is hC
  refine va_callv hr hS (fun q _ h => hF q h) hF (fun u t H1 locs1 ht hvm hp hb hz hk hS1 => ?_)
  have hP1 : va_P D vwCl (w1 u) H1 := by rw [← ht]; exact hb
  obtain ⟨g1, g2⟩ := xk_join hP hD hC (ha u) hk hP1
  exact kk u H1 locs1 hp g1 g2 hS1
theorem xk_cb (hts : ∀ w ∈ c0 :: wsL_law, w.before args s = true) {C : String} (hB : xMB y bytes maxL ret C n) (hlink : Cond.methodLink own idx y ∈ wsL_law) (hR : rm.frames + 1 ≤ R.frames ∧ 8 + (maxL + 11) + rm.locals ≤ R.locals) (hrm : rm.cells = 0 ∧ rm.slots = 0) : CallB R s args own idx y bytes maxL ret (Cond.code y bytes maxL ret :: wsL_law) rm 0 0 n :=
  callB_of n hts (xk_G hB.1) rfl hrm.1 hrm.2 (hts _ (List.mem_cons_of_mem _ hB.2.1)) (hts _ (List.mem_cons_of_mem _ hlink)) hB.2.2.2 hR
/-- a virtual call that answers an int -/
theorem xk_Vi (hx : p.tables.exec = Jvm.exec) (hb : c.code = cc) (hml : c.maxLocals = nL) (hown : s.vm.findClass own = some m.cls) (hts : ∀ w ∈ c0 :: wsL_law, w.before args s = true) (hK : va_K D vwCl tys s) (hN : xN s) (hZ : xZ A s) (hP : va_P D vwCl ws H) (hD : va_D A ws) (hS : va_S A s.heap H locs) (hA : ∀ q, s.heap.size ≤ q → A q)
    {b : Addr} {C : String} {T : u_T} {N : Nat} {post : Int32 → S → Prop} {w1 : S → va_W} (hB : xMB y bytes maxL ret C n) (hlink : Cond.methodLink own idx y ∈ wsL_law) (hinst : Cond.instanceMethod y ∈ wsL_law) (hsel : Cond.selects C y y ∈ wsL_law) (hM : xMi l y bytes maxL ret rm D tys (.ref b :: As) wc post w1) (is : List Nat) (q0 ci : Nat) {fs : List Value} (he : ws[q0]? = some (b, .inr (ci, fs))) (hc : vwCl[ci]? = some (C, T, N))
    (hnd : va_nd is = true) (hC : is.map (fun i => ws[i]?) = wc.map some) (ha : ∀ u, (w1 u).map Prod.fst = wc.map Prod.fst) (hR : rm.frames + 1 ≤ R.frames ∧ 8 + (maxL + 11) + rm.locals ≤ R.locals) (hrm : rm.cells = 0 ∧ rm.slots = 0) (hn : As.length = n) (hsz : ls.size = nL) (hst : st0 = As.reverse ++ .ref b :: rest) (hrest : (rest.map fun v => v.category).sum ≤ 8) (hdg : decode cc pc = .ok (.invokevirtual idx, 3)) (hcs : cells ≤ R.cells ∧ slots ≤ R.slots)
    (kk : ∀ (r : Int32) (u : S) (H1 : Heap) (locs1 : List Loc), post r u → va_P D vwCl (xSet ws is (w1 u)) H1 → va_D A (xSet ws is (w1 u)) → va_S A s.heap H1 locs1 → W p l e R s m args below meth c H1 locs1 cells slots Q (F0 m (pc + 3) ls (.int r :: rest))) : W p l e R s m args below meth c H locs cells slots Q (F0 m pc ls st0) := by
  have hcw : CallW R s args own C idx y bytes maxL ret (Cond.code y bytes maxL ret :: wsL_law) rm 0 0 n := ⟨xk_cb hts hB hlink hR hrm, hts _ (List.mem_cons_of_mem _ hinst), hts _ (List.mem_cons_of_mem _ hsel)⟩
  exact xk_ci (va_runV ⟨hx, hb, hml, hown, hts⟩ (hM H.size) hcw ⟨xPre_blind, va_recv hK hP hc he, xPre_of hK hN hZ hP hD hS hA is hnd hC⟩ rfl hn hsz hst (lv_room hrest) hdg hcs) hP hD hS hA is hC ha kk
theorem xk_Vv (hx : p.tables.exec = Jvm.exec) (hb : c.code = cc) (hml : c.maxLocals = nL) (hown : s.vm.findClass own = some m.cls) (hts : ∀ w ∈ c0 :: wsL_law, w.before args s = true) (hK : va_K D vwCl tys s) (hN : xN s) (hZ : xZ A s) (hP : va_P D vwCl ws H) (hD : va_D A ws) (hS : va_S A s.heap H locs) (hA : ∀ q, s.heap.size ≤ q → A q)
    {b : Addr} {C : String} {T : u_T} {N : Nat} {post : S → Prop} {w1 : S → va_W} (hB : xMB y bytes maxL ret C n) (hlink : Cond.methodLink own idx y ∈ wsL_law) (hinst : Cond.instanceMethod y ∈ wsL_law) (hsel : Cond.selects C y y ∈ wsL_law) (hM : xMv l y bytes maxL ret rm D tys (.ref b :: As) wc post w1) (is : List Nat) (q0 ci : Nat) {fs : List Value} (he : ws[q0]? = some (b, .inr (ci, fs))) (hc : vwCl[ci]? = some (C, T, N))
    (hnd : va_nd is = true) (hC : is.map (fun i => ws[i]?) = wc.map some) (ha : ∀ u, (w1 u).map Prod.fst = wc.map Prod.fst) (hR : rm.frames + 1 ≤ R.frames ∧ 8 + (maxL + 11) + rm.locals ≤ R.locals) (hrm : rm.cells = 0 ∧ rm.slots = 0) (hn : As.length = n) (hsz : ls.size = nL) (hst : st0 = As.reverse ++ .ref b :: rest) (hrest : (rest.map fun v => v.category).sum ≤ 8) (hdg : decode cc pc = .ok (.invokevirtual idx, 3)) (hcs : cells ≤ R.cells ∧ slots ≤ R.slots)
    (kk : ∀ (u : S) (H1 : Heap) (locs1 : List Loc), post u → va_P D vwCl (xSet ws is (w1 u)) H1 → va_D A (xSet ws is (w1 u)) → va_S A s.heap H1 locs1 → W p l e R s m args below meth c H1 locs1 cells slots Q (F0 m (pc + 3) ls rest)) : W p l e R s m args below meth c H locs cells slots Q (F0 m pc ls st0) := by
  have hcw : CallW R s args own C idx y bytes maxL ret (Cond.code y bytes maxL ret :: wsL_law) rm 0 0 n := ⟨xk_cb hts hB hlink hR hrm, hts _ (List.mem_cons_of_mem _ hinst), hts _ (List.mem_cons_of_mem _ hsel)⟩
  exact xk_cv (va_runV ⟨hx, hb, hml, hown, hts⟩ (hM H.size) hcw ⟨xPre_blind, va_recv hK hP hc he, xPre_of hK hN hZ hP hD hS hA is hnd hC⟩ rfl hn hsz hst (lv_room hrest) hdg hcs) hP hD hS hA is hC ha kk
/-- a static call that answers an int -/
theorem xk_Si (hx : p.tables.exec = Jvm.exec) (hb : c.code = cc) (hml : c.maxLocals = nL) (hown : s.vm.findClass own = some m.cls) (hts : ∀ w ∈ c0 :: wsL_law, w.before args s = true) (hK : va_K D vwCl tys s) (hN : xN s) (hZ : xZ A s) (hP : va_P D vwCl ws H) (hD : va_D A ws) (hS : va_S A s.heap H locs) (hA : ∀ q, s.heap.size ≤ q → A q)
    {C : String} {post : Int32 → S → Prop} {w1 : S → va_W} (hB : xMB y bytes maxL ret C n) (hlink : Cond.methodLink own idx y ∈ wsL_law) (hstat : Cond.static y ∈ wsL_law) (hM : xMi l y bytes maxL ret rm D tys As wc post w1) (is : List Nat)
    (hnd : va_nd is = true) (hC : is.map (fun i => ws[i]?) = wc.map some) (ha : ∀ u, (w1 u).map Prod.fst = wc.map Prod.fst) (hR : rm.frames + 1 ≤ R.frames ∧ 8 + (maxL + 11) + rm.locals ≤ R.locals) (hrm : rm.cells = 0 ∧ rm.slots = 0) (hn : As.length = n) (hsz : ls.size = nL) (hst : st0 = As.reverse ++ rest) (hrest : (rest.map fun v => v.category).sum ≤ 8) (hdg : decode cc pc = .ok (.invokestatic idx, 3)) (hcs : cells ≤ R.cells ∧ slots ≤ R.slots)
    (kk : ∀ (r : Int32) (u : S) (H1 : Heap) (locs1 : List Loc), post r u → va_P D vwCl (xSet ws is (w1 u)) H1 → va_D A (xSet ws is (w1 u)) → va_S A s.heap H1 locs1 → W p l e R s m args below meth c H1 locs1 cells slots Q (F0 m (pc + 3) ls (.int r :: rest))) : W p l e R s m args below meth c H locs cells slots Q (F0 m pc ls st0) :=
  xk_ci (va_runS ⟨hx, hb, hml, hown, hts⟩ (hM H.size) ⟨xk_cb hts hB hlink hR hrm, hts _ (List.mem_cons_of_mem _ hstat)⟩ ⟨xPre_blind, xPre_of hK hN hZ hP hD hS hA is hnd hC⟩ rfl hn hsz hst (lv_room hrest) hdg hcs) hP hD hS hA is hC ha kk
theorem xk_Sv (hx : p.tables.exec = Jvm.exec) (hb : c.code = cc) (hml : c.maxLocals = nL) (hown : s.vm.findClass own = some m.cls) (hts : ∀ w ∈ c0 :: wsL_law, w.before args s = true) (hK : va_K D vwCl tys s) (hN : xN s) (hZ : xZ A s) (hP : va_P D vwCl ws H) (hD : va_D A ws) (hS : va_S A s.heap H locs) (hA : ∀ q, s.heap.size ≤ q → A q)
    {C : String} {post : S → Prop} {w1 : S → va_W} (hB : xMB y bytes maxL ret C n) (hlink : Cond.methodLink own idx y ∈ wsL_law) (hstat : Cond.static y ∈ wsL_law) (hM : xMv l y bytes maxL ret rm D tys As wc post w1) (is : List Nat)
    (hnd : va_nd is = true) (hC : is.map (fun i => ws[i]?) = wc.map some) (ha : ∀ u, (w1 u).map Prod.fst = wc.map Prod.fst) (hR : rm.frames + 1 ≤ R.frames ∧ 8 + (maxL + 11) + rm.locals ≤ R.locals) (hrm : rm.cells = 0 ∧ rm.slots = 0) (hn : As.length = n) (hsz : ls.size = nL) (hst : st0 = As.reverse ++ rest) (hrest : (rest.map fun v => v.category).sum ≤ 8) (hdg : decode cc pc = .ok (.invokestatic idx, 3)) (hcs : cells ≤ R.cells ∧ slots ≤ R.slots)
    (kk : ∀ (u : S) (H1 : Heap) (locs1 : List Loc), post u → va_P D vwCl (xSet ws is (w1 u)) H1 → va_D A (xSet ws is (w1 u)) → va_S A s.heap H1 locs1 → W p l e R s m args below meth c H1 locs1 cells slots Q (F0 m (pc + 3) ls rest)) : W p l e R s m args below meth c H locs cells slots Q (F0 m pc ls st0) :=
  xk_cv (va_runS ⟨hx, hb, hml, hown, hts⟩ (hM H.size) ⟨xk_cb hts hB hlink hR hrm, hts _ (List.mem_cons_of_mem _ hstat)⟩ ⟨xPre_blind, xPre_of hK hN hZ hP hD hS hA is hnd hC⟩ rfl hn hsz hst (lv_room hrest) hdg hcs) hP hD hS hA is hC ha kk
/-- the ends -/
theorem xk_reti {post : Int32 → S → Prop} {w1 : S → va_W} {v : Int32} (u : S) (hx : p.tables.exec = Jvm.exec) (hb : c.code = cc) (hr : meth.sig.returnType = some .int) (hlocks : meth.locks = false) (hP : va_P D vwCl (w1 u) H) (hp : post v u) (hS : va_S A s.heap H locs) (hdg : decode cc pc = .ok (.ireturn, 1)) (hQ : Q = MQ below (va_Qi post (fun u t => va_P D vwCl (w1 u) t.heap) A) args s 0 0 A) : W p l e R s m args below meth c H locs 0 0 Q (F0 m pc ls [.int v]) := by
  rw [hQ]
  exact
  W.iret hx hb hr (fun t ht _ => ⟨⟨v, u, rfl, hp, (show va_P D vwCl (w1 u) t.heap by rw [ht]; exact hP)⟩, hS.F ht⟩) hS.2.2 hdg hlocks
theorem xk_retz {post : Int32 → S → Prop} {w1 : S → va_W} {v : Int32} (u : S) (hx : p.tables.exec = Jvm.exec) (hb : c.code = cc) (hr : meth.sig.returnType = some .boolean) (hlocks : meth.locks = false) (hn : v = 0 ∨ v = 1) (hP : va_P D vwCl (w1 u) H) (hp : post v u) (hS : va_S A s.heap H locs) (hdg : decode cc pc = .ok (.ireturn, 1)) (hQ : Q = MQ below (va_Qi post (fun u t => va_P D vwCl (w1 u) t.heap) A) args s 0 0 A) : W p l e R s m args below meth c H locs 0 0 Q (F0 m pc ls [.int v]) := by
  rw [hQ]
  exact
  W.zret hx hb hr (by rcases hn with rfl | rfl <;> rfl) (fun t ht _ => ⟨⟨v, u, rfl, hp, (show va_P D vwCl (w1 u) t.heap by rw [ht]; exact hP)⟩, hS.F ht⟩) hS.2.2 hdg hlocks
theorem xk_retv {post : S → Prop} {w1 : S → va_W} (u : S) (hx : p.tables.exec = Jvm.exec) (hb : c.code = cc) (hr : meth.sig.returnType = none) (hlocks : meth.locks = false) (hP : va_P D vwCl (w1 u) H) (hp : post u) (hS : va_S A s.heap H locs) (hdg : decode cc pc = .ok (.return_, 1)) (hQ : Q = MQ below (va_Qv post (fun u t => va_P D vwCl (w1 u) t.heap) A) args s 0 0 A) : W p l e R s m args below meth c H locs 0 0 Q (F0 m pc ls []) := by
  rw [hQ]
  exact
  W.vret hx hb hr (fun t ht _ => ⟨⟨u, rfl, hp, (show va_P D vwCl (w1 u) t.heap by rw [ht]; exact hP)⟩, hS.F ht⟩) hS.2.2 hdg hlocks
/-- a contract that answers a reference: its address out of u -/
theorem xk_cr {post : S → Prop} {adr : S → Nat} {w1 : S → va_W} {a : Array Value} (hr : va_Run p l e R s m args below meth c H locs cells slots 0 0 (F0 m pc ls st0) rest (va_Qr post (fun u a t => a = adr u ∧ va_P D vwCl (w1 u) t.heap) (va_A wc H.size) a) (va_A wc H.size)) (hP : va_P D vwCl ws H) (hD : va_D A ws) (hS : va_S A s.heap H locs) (hA : ∀ q, s.heap.size ≤ q → A q) (is : List Nat) (hC : is.map (fun i => ws[i]?) = wc.map some) (ha : ∀ u, (w1 u).map Prod.fst = wc.map Prod.fst)
    (kk : ∀ (u : S) (H1 : Heap) (locs1 : List Loc), post u → va_P D vwCl (xSet ws is (w1 u)) H1 → va_D A (xSet ws is (w1 u)) → va_S A s.heap H1 locs1 → W p l e R s m args below meth c H1 locs1 cells slots Q (F0 m (pc + 3) ls (.ref (adr u) :: rest))) : W p l e R s m args below meth c H locs cells slots Q (F0 m pc ls st0) := by
  have hF := va_free (wc := wc) hD hS hA is hC
  refine va_callr hr hS (fun q _ h => hF q h) hF (fun u ra t H1 locs1 ht hvm hp hb hz hk hS1 => ?_)
  obtain ⟨rfl, hb⟩ := hb
  have hP1 : va_P D vwCl (w1 u) H1 := by rw [← ht]; exact hb
  obtain ⟨g1, g2⟩ := xk_join hP hD hC (ha u) hk hP1
  exact kk u H1 locs1 hp g1 g2 hS1
theorem xk_Vr (hx : p.tables.exec = Jvm.exec) (hb : c.code = cc) (hml : c.maxLocals = nL) (hown : s.vm.findClass own = some m.cls) (hts : ∀ w ∈ c0 :: wsL_law, w.before args s = true) (hK : va_K D vwCl tys s) (hN : xN s) (hZ : xZ A s) (hP : va_P D vwCl ws H) (hD : va_D A ws) (hS : va_S A s.heap H locs) (hA : ∀ q, s.heap.size ≤ q → A q)
    {b : Addr} {C : String} {T : u_T} {N : Nat} {post : S → Prop} {adr : S → Nat} {w1 : S → va_W} (hB : xMB y bytes maxL ret C n) (hlink : Cond.methodLink own idx y ∈ wsL_law) (hinst : Cond.instanceMethod y ∈ wsL_law) (hsel : Cond.selects C y y ∈ wsL_law) (hM : xMr l y bytes maxL ret rm D tys (.ref b :: As) wc post adr w1) (is : List Nat) (q0 ci : Nat) {fs : List Value} (he : ws[q0]? = some (b, .inr (ci, fs))) (hc : vwCl[ci]? = some (C, T, N))
    (hnd : va_nd is = true) (hC : is.map (fun i => ws[i]?) = wc.map some) (ha : ∀ u, (w1 u).map Prod.fst = wc.map Prod.fst) (hR : rm.frames + 1 ≤ R.frames ∧ 8 + (maxL + 11) + rm.locals ≤ R.locals) (hrm : rm.cells = 0 ∧ rm.slots = 0) (hn : As.length = n) (hsz : ls.size = nL) (hst : st0 = As.reverse ++ .ref b :: rest) (hrest : (rest.map fun v => v.category).sum ≤ 8) (hdg : decode cc pc = .ok (.invokevirtual idx, 3)) (hcs : cells ≤ R.cells ∧ slots ≤ R.slots)
    (kk : ∀ (u : S) (H1 : Heap) (locs1 : List Loc), post u → va_P D vwCl (xSet ws is (w1 u)) H1 → va_D A (xSet ws is (w1 u)) → va_S A s.heap H1 locs1 → W p l e R s m args below meth c H1 locs1 cells slots Q (F0 m (pc + 3) ls (.ref (adr u) :: rest))) : W p l e R s m args below meth c H locs cells slots Q (F0 m pc ls st0) := by
  have hcw : CallW R s args own C idx y bytes maxL ret (Cond.code y bytes maxL ret :: wsL_law) rm 0 0 n := ⟨xk_cb hts hB hlink hR hrm, hts _ (List.mem_cons_of_mem _ hinst), hts _ (List.mem_cons_of_mem _ hsel)⟩
  exact xk_cr (va_runV ⟨hx, hb, hml, hown, hts⟩ (hM H.size) hcw ⟨xPre_blind, va_recv hK hP hc he, xPre_of hK hN hZ hP hD hS hA is hnd hC⟩ rfl hn hsz hst (lv_room hrest) hdg hcs) hP hD hS hA is hC ha kk
theorem xk_retr {post : S → Prop} {adr : S → Nat} {w1 : S → va_W} {a : Nat} {nm : String} (u : S) (hx : p.tables.exec = Jvm.exec) (hb : c.code = cc) (hr : meth.sig.returnType = some (.object nm)) (hlocks : meth.locks = false) (hP : va_P D vwCl (w1 u) H) (hp : post u) (ha : a = adr u) (hS : va_S A s.heap H locs) (hdg : decode cc pc = .ok (.areturn, 1)) (hQ : Q = MQ below (va_Qr post (fun u a t => a = adr u ∧ va_P D vwCl (w1 u) t.heap) A) args s 0 0 A) : W p l e R s m args below meth c H locs 0 0 Q (F0 m pc ls [.ref a]) := by
  rw [hQ]
  exact
  W.aret hx hb hr (Or.inl ⟨nm, rfl⟩) (Or.inr ⟨a, rfl⟩) (fun t ht _ => ⟨⟨u, a, rfl, hp, ha, (show va_P D vwCl (w1 u) t.heap by rw [ht]; exact hP)⟩, hS.F ht⟩) hS.2.2 hdg hlocks
end XC
theorem xk_P {D : va_G} {cl : List vw_C} {ws ws' : va_W} {H : Heap} (h : va_P D cl ws H) (e : ws = ws') : va_P D cl ws' H := e ▸ h
theorem xk_D {A : Nat → Prop} {ws ws' : va_W} (h : va_D A ws) (e : ws = ws') : va_D A ws' := e ▸ h
/-- an array's contents, told by another function that is the same within its length -/
theorem xk_arr {D : va_G} {cl : List vw_C} {ws : va_W} {H : Heap} (hP : va_P D cl ws H) (k : Nat) {a N : Nat} {cA : ClassId} {f : Nat → Int32} (g : Nat → Int32) (hk : ws[k]? = some (a, .inl (cA, N, .inl f))) (h : ∀ j, j < N → f j = g j) : va_P D cl (ws.set k (a, .inl (cA, N, .inl g))) H := by
  intro i q hi
  by_cases e : i = k
  · subst e
    rw [List.getElem?_set_self (List.getElem?_eq_some_iff.mp hk).1] at hi
    cases hi
    have h1 : H[a]? = some (vp_cell cA (N, .inl f)) := hP i _ hk
    have h2 : (vp_cell cA (N, .inl f)) = vp_cell cA (N, .inl g) := by
      show arrCell cA N f = arrCell cA N g
      unfold arrCell arrSlots
      congr 1
      apply Array.ext
      · simp
      · intro i h1 h2
        simp only [Array.getElem_ofFn]
        rw [h i (by simpa using h1)]
    show H[a]? = some (vp_cell cA (N, .inl g))
    rw [h1, h2]
  · rw [List.getElem?_set_ne (Ne.symm e)] at hi
    exact hP i q hi
theorem xk_arrD {A : Nat → Prop} {ws : va_W} (hD : va_D A ws) {k a : Nat} {e e' : va_E} (hk : ws[k]? = some (a, e)) : va_D A (ws.set k (a, e')) := hD.set hk
/-! numbers: an int's value as an integer -/
theorem xi_add {x y : Int32} {a b : Int} (hx : x.toInt = a) (hy : y.toInt = b) (h1 : -2147483648 ≤ a + b) (h2 : a + b ≤ 2147483647) : (x + y).toInt = a + b := by
  rw [Int32.toInt_add, hx, hy]; exact Int.bmod_eq_of_le (by omega) (by omega)
theorem xi_sub {x y : Int32} {a b : Int} (hx : x.toInt = a) (hy : y.toInt = b) (h1 : -2147483648 ≤ a - b) (h2 : a - b ≤ 2147483647) : (x - y).toInt = a - b := by
  rw [Int32.toInt_sub, hx, hy]; exact Int.bmod_eq_of_le (by omega) (by omega)
theorem xi_mul {x y : Int32} {a b : Int} (hx : x.toInt = a) (hy : y.toInt = b) (h1 : -2147483648 ≤ a * b) (h2 : a * b ≤ 2147483647) : (x * y).toInt = a * b := by
  rw [Int32.toInt_mul, hx, hy]; exact Int.bmod_eq_of_le (by omega) (by omega)
theorem xi_lt {x y : Int32} {a b : Int} (hx : x.toInt = a) (hy : y.toInt = b) (h : x < y) : a < b := by rw [← hx, ← hy]; exact Int32.lt_iff_toInt_lt.mp h
theorem xi_le {x y : Int32} {a b : Int} (hx : x.toInt = a) (hy : y.toInt = b) (h : x ≤ y) : a ≤ b := by rw [← hx, ← hy]; exact Int32.le_iff_toInt_le.mp h
theorem xi_nlt {x y : Int32} {a b : Int} (hx : x.toInt = a) (hy : y.toInt = b) (h : ¬ x < y) : b ≤ a := by
  have := mt Int32.lt_iff_toInt_lt.mpr h
  omega
theorem xi_nle {x y : Int32} {a b : Int} (hx : x.toInt = a) (hy : y.toInt = b) (h : ¬ x ≤ y) : b < a := by
  have := mt Int32.le_iff_toInt_le.mpr h
  omega
theorem xi_eq {x y : Int32} {a b : Int} (hx : x.toInt = a) (hy : y.toInt = b) (h : x = y) : a = b := by rw [← hx, ← hy, h]
theorem xi_ne {x y : Int32} {a b : Int} (hx : x.toInt = a) (hy : y.toInt = b) (h : ¬ x = y) : ¬ a = b := fun z => h (Int32.toInt_inj.mp (by rw [hx, hy, z]))
theorem xi_lti {x y : Int32} {a b : Int} (hx : x.toInt = a) (hy : y.toInt = b) : x < y ↔ a < b := by rw [Int32.lt_iff_toInt_lt, hx, hy]
theorem xi_lei {x y : Int32} {a b : Int} (hx : x.toInt = a) (hy : y.toInt = b) : x ≤ y ↔ a ≤ b := by rw [Int32.le_iff_toInt_le, hx, hy]
theorem xi_eqi {x y : Int32} {a b : Int} (hx : x.toInt = a) (hy : y.toInt = b) : x = y ↔ a = b := by rw [← Int32.toInt_inj, hx, hy]
theorem xi_cl (x : Int32) : x.toNatClampNeg = x.toInt.toNat := rfl
theorem xi_in {x : Int32} {n : Nat} (h0 : 0 ≤ x.toInt) (h1 : x.toInt < n) : vp_in x n := vp_in_iff.mpr ⟨h0, h1⟩
theorem xi_div {x y : Int32} {a b : Int} (hx : x.toInt = a) (hy : y.toInt = b) (h0 : 0 ≤ a) (h1 : 0 < b) : (x / y).toInt = a / b := by
  rw [Int32.toInt_div, hx, hy, Int.tdiv_eq_ediv_of_nonneg h0]
  have h2 := x.toInt_lt
  have h3 : a / b ≤ a := Int.ediv_le_self b h0
  have h4 : 0 ≤ a / b := Int.ediv_nonneg h0 (by omega)
  exact Int.bmod_eq_of_le (by omega) (by omega)
theorem xi_rem {x y : Int32} {a b : Int} (hx : x.toInt = a) (hy : y.toInt = b) (h0 : 0 ≤ a) (h1 : 0 < b) : (x - x / y * y).toInt = a % b := by
  rw [rem_toInt, hx, hy, Int.tmod_eq_emod_of_nonneg h0]
theorem xi_ext {x y : Int32} (h : x.toInt = y.toInt) : x = y := Int32.toInt_inj.mp h
theorem xi_z {x : Int32} (h : ¬ x = 0) (h2 : x = 0 ∨ x = 1) : x = 1 := h2.resolve_left h
theorem i_ne0 {x : Int32} (h : ¬ x.toInt = 0) : ¬ x = 0 := fun e => h (by rw [e]; rfl)
theorem xk_rd {α : Type} {f : Nat → α} {i : Int32} {k : Nat} (h : i.toInt.toNat = k) : f i.toNatClampNeg = f k := by rw [← h]; rfl
theorem xk_ix {i : Int32} {k : Nat} (h : i.toInt.toNat = k) : i.toNatClampNeg = k := h
abbrev xTy (cI cZ cS : ClassId) : List (ClassId × FieldType) := [(cI, .int), (cZ, .boolean), (cS, .object "MarchMetres$State")]
theorem xi_lo (x : Int32) : -2147483648 ≤ x.toInt := x.le_toInt
theorem xi_hi (x : Int32) : x.toInt ≤ 2147483647 := by have := x.toInt_lt; omega
theorem xin0 {c0 : Cond} : ∀ w ∈ wsX00, w ∈ c0 :: wsL_law := fun w h => List.mem_cons_of_mem _ (inlX0 w h)
theorem xin1 {c0 : Cond} : ∀ w ∈ wsX10, w ∈ c0 :: wsL_law := fun w h => List.mem_cons_of_mem _ (inlX1 w h)
theorem xin2 {c0 : Cond} : ∀ w ∈ wsX20, w ∈ c0 :: wsL_law := fun w h => List.mem_cons_of_mem _ (inlX2 w h)
theorem xin3 {c0 : Cond} : ∀ w ∈ wsX30, w ∈ c0 :: wsL_law := fun w h => List.mem_cons_of_mem _ (inlX3 w h)
theorem xin4 {c0 : Cond} : ∀ w ∈ wsX40, w ∈ c0 :: wsL_law := fun w h => List.mem_cons_of_mem _ (inlX4 w h)
theorem xin5 {c0 : Cond} : ∀ w ∈ wsX50, w ∈ c0 :: wsL_law := fun w h => List.mem_cons_of_mem _ (inlX5 w h)
theorem xin6 {c0 : Cond} : ∀ w ∈ wsX60, w ∈ c0 :: wsL_law := fun w h => List.mem_cons_of_mem _ (inlX6 w h)
theorem xin7 {c0 : Cond} : ∀ w ∈ wsX70, w ∈ c0 :: wsL_law := fun w h => List.mem_cons_of_mem _ (inlX7 w h)
theorem xin8 {c0 : Cond} : ∀ w ∈ wsX80, w ∈ c0 :: wsL_law := fun w h => List.mem_cons_of_mem _ (inlX8 w h)
theorem mb_J9_floorMod_7cf53 : xMB yJ9_floorMod_7cf53 cJ9_floorMod_7cf53 3 (some .int) RJ9 2 := ⟨mw_2_20, mw_1_10, rfl, by decide +kernel, by decide +kernel, by decide +kernel⟩
theorem mb_X0_init : xMB yX0_init cX0_init 2 none RX0 0 := ⟨mw_1_169, mw_1_7, rfl, by decide +kernel, by decide +kernel, by decide +kernel⟩
theorem mb_X0_placeOf : xMB yX0_placeOf cX0_placeOf 2 (some .int) RX0 1 := ⟨mw_2_17, mw_1_7, rfl, by decide +kernel, by decide +kernel, by decide +kernel⟩
theorem mb_X0_record : xMB yX0_record cX0_record 3 none RX0 1 := ⟨mw_2_13, mw_1_7, rfl, by decide +kernel, by decide +kernel, by decide +kernel⟩
theorem mb_X0_stateAt : xMB yX0_stateAt cX0_stateAt 3 (some (.object "MarchMetres$State")) RX0 1 := ⟨mw_2_24, mw_1_7, rfl, by decide +kernel, by decide +kernel, by decide +kernel⟩
theorem mb_X0_takeBackInto : xMB yX0_takeBackInto cX0_takeBackInto 3 none RX0 1 := ⟨mw_3_66, mw_1_7, rfl, by decide +kernel, by decide +kernel, by decide +kernel⟩
theorem mb_X1_copyFrom : xMB yX1_copyFrom cX1_copyFrom 2 none RX1 1 := ⟨mw_2_44, mw_1_6, rfl, by decide +kernel, by decide +kernel, by decide +kernel⟩
theorem mb_X1_goOn : xMB yX1_goOn cX1_goOn 6 none RX1 3 := ⟨mw_2_146, mw_1_6, rfl, by decide +kernel, by decide +kernel, by decide +kernel⟩
theorem mb_X1_goUntilWalked : xMB yX1_goUntilWalked cX1_goUntilWalked 6 none RX1 4 := ⟨mw_2_141, mw_1_6, rfl, by decide +kernel, by decide +kernel, by decide +kernel⟩
theorem mb_X1_init : xMB yX1_init cX1_init 1 none RX1 0 := ⟨mw_1_85, mw_1_6, rfl, by decide +kernel, by decide +kernel, by decide +kernel⟩
theorem mb_X1_isAtEndOf : xMB yX1_isAtEndOf cX1_isAtEndOf 2 (some .boolean) RX1 1 := ⟨mw_2_137, mw_1_6, rfl, by decide +kernel, by decide +kernel, by decide +kernel⟩
theorem mb_X1_singOn : xMB yX1_singOn cX1_singOn 3 none RX1 2 := ⟨mw_2_170, mw_1_6, rfl, by decide +kernel, by decide +kernel, by decide +kernel⟩
theorem mb_X1_startAnew : xMB yX1_startAnew cX1_startAnew 2 none RX1 1 := ⟨mw_1_216, mw_1_6, rfl, by decide +kernel, by decide +kernel, by decide +kernel⟩
theorem mb_X1_stepOn : xMB yX1_stepOn cX1_stepOn 3 none RX1 2 := ⟨mw_2_161, mw_1_6, rfl, by decide +kernel, by decide +kernel, by decide +kernel⟩
theorem mb_X2_append : xMB yX2_append cX2_append 2 none RX2 1 := ⟨mw_3_50, mw_1_8, rfl, by decide +kernel, by decide +kernel, by decide +kernel⟩
theorem mb_X2_beatsMeantBy : xMB yX2_beatsMeantBy cX2_beatsMeantBy 1 (some .int) RX2 1 := ⟨mw_2_60, mw_1_8, rfl, by decide +kernel, by decide +kernel, by decide +kernel⟩
theorem mb_X2_charactersIn : xMB yX2_charactersIn cX2_charactersIn 6 (some .int) RX2 1 := ⟨mw_3_41, mw_1_8, rfl, by decide +kernel, by decide +kernel, by decide +kernel⟩
theorem mb_X2_codeIn : xMB yX2_codeIn cX2_codeIn 3 (some .int) RX2 2 := ⟨mw_3_44, mw_1_8, rfl, by decide +kernel, by decide +kernel, by decide +kernel⟩
theorem mb_X2_empty : xMB yX2_empty cX2_empty 1 none RX2 0 := ⟨mw_2_96, mw_1_8, rfl, by decide +kernel, by decide +kernel, by decide +kernel⟩
theorem mb_X2_faultIndex : xMB yX2_faultIndex cX2_faultIndex 6 (some .int) RX2 0 := ⟨mw_2_57, mw_1_8, rfl, by decide +kernel, by decide +kernel, by decide +kernel⟩
theorem mb_X2_init : xMB yX2_init cX2_init 1 none RX2 0 := ⟨mw_1_188, mw_1_8, rfl, by decide +kernel, by decide +kernel, by decide +kernel⟩
theorem mb_X2_writeInto : xMB yX2_writeInto cX2_writeInto 4 none RX2 1 := ⟨mw_2_64, mw_1_8, rfl, by decide +kernel, by decide +kernel, by decide +kernel⟩
theorem mb_X3_add : xMB yX3_add cX3_add 4 none RX3 3 := ⟨mw_2_104, mw_1_5, rfl, by decide +kernel, by decide +kernel, by decide +kernel⟩
theorem mb_X3_allSteps : xMB yX3_allSteps cX3_allSteps 3 (some .int) RX3 0 := ⟨mw_2_236, mw_1_5, rfl, by decide +kernel, by decide +kernel, by decide +kernel⟩
theorem mb_X3_beatsToSing : xMB yX3_beatsToSing cX3_beatsToSing 4 (some .int) RX3 2 := ⟨mw_2_212, mw_1_5, rfl, by decide +kernel, by decide +kernel, by decide +kernel⟩
theorem mb_X3_copyFrom : xMB yX3_copyFrom cX3_copyFrom 3 none RX3 1 := ⟨mw_2_40, mw_1_5, rfl, by decide +kernel, by decide +kernel, by decide +kernel⟩
theorem mb_X3_has : xMB yX3_has cX3_has 2 (some .boolean) RX3 1 := ⟨mw_2_112, mw_1_5, rfl, by decide +kernel, by decide +kernel, by decide +kernel⟩
theorem mb_X3_init : xMB yX3_init cX3_init 1 none RX3 0 := ⟨mw_1_64, mw_1_5, rfl, by decide +kernel, by decide +kernel, by decide +kernel⟩
theorem mb_X3_isMuddy : xMB yX3_isMuddy cX3_isMuddy 2 (some .boolean) RX3 1 := ⟨mw_2_165, mw_1_5, rfl, by decide +kernel, by decide +kernel, by decide +kernel⟩
theorem mb_X3_remove : xMB yX3_remove cX3_remove 3 none RX3 1 := ⟨mw_2_121, mw_1_5, rfl, by decide +kernel, by decide +kernel, by decide +kernel⟩
theorem mb_X3_slopeOf : xMB yX3_slopeOf cX3_slopeOf 2 (some .int) RX3 1 := ⟨mw_2_150, mw_1_5, rfl, by decide +kernel, by decide +kernel, by decide +kernel⟩
theorem mb_X3_stepsOf : xMB yX3_stepsOf cX3_stepsOf 2 (some .int) RX3 1 := ⟨mw_2_116, mw_1_5, rfl, by decide +kernel, by decide +kernel, by decide +kernel⟩
theorem mb_X4_allows : xMB yX4_allows cX4_allows 2 (some .boolean) RX4 2 := ⟨mw_2_5, mw_1_3, rfl, by decide +kernel, by decide +kernel, by decide +kernel⟩
theorem mb_X4_change : xMB yX4_change cX4_change 3 none RX4 2 := ⟨mw_2_49, mw_1_3, rfl, by decide +kernel, by decide +kernel, by decide +kernel⟩
theorem mb_X4_copyFrom : xMB yX4_copyFrom cX4_copyFrom 3 none RX4 1 := ⟨mw_2_32, mw_1_3, rfl, by decide +kernel, by decide +kernel, by decide +kernel⟩
theorem mb_X4_has : xMB yX4_has cX4_has 1 (some .boolean) RX4 1 := ⟨mw_1_212, mw_1_3, rfl, by decide +kernel, by decide +kernel, by decide +kernel⟩
theorem mb_X4_init : xMB yX4_init cX4_init 2 none RX4 0 := ⟨mw_1_29, mw_1_3, rfl, by decide +kernel, by decide +kernel, by decide +kernel⟩
theorem mb_X4_valueOf : xMB yX4_valueOf cX4_valueOf 2 (some .int) RX4 1 := ⟨mw_1_209, mw_1_3, rfl, by decide +kernel, by decide +kernel, by decide +kernel⟩
theorem mb_X5_addFoot : xMB yX5_addFoot cX5_addFoot 4 none RX5 1 := ⟨mw_2_92, mw_1_4, rfl, by decide +kernel, by decide +kernel, by decide +kernel⟩
theorem mb_X5_addLine : xMB yX5_addLine cX5_addLine 1 none RX5 0 := ⟨mw_2_72, mw_1_4, rfl, by decide +kernel, by decide +kernel, by decide +kernel⟩
theorem mb_X5_allBeats : xMB yX5_allBeats cX5_allBeats 3 (some .int) RX5 0 := ⟨mw_2_226, mw_1_4, rfl, by decide +kernel, by decide +kernel, by decide +kernel⟩
theorem mb_X5_allMarks : xMB yX5_allMarks cX5_allMarks 3 (some .int) RX5 0 := ⟨mw_2_231, mw_1_4, rfl, by decide +kernel, by decide +kernel, by decide +kernel⟩
theorem mb_X5_beatsOf : xMB yX5_beatsOf cX5_beatsOf 3 (some .int) RX5 2 := ⟨mw_2_174, mw_1_4, rfl, by decide +kernel, by decide +kernel, by decide +kernel⟩
theorem mb_X5_beatsOfLine : xMB yX5_beatsOfLine cX5_beatsOfLine 4 (some .int) RX5 1 := ⟨mw_2_188, mw_1_4, rfl, by decide +kernel, by decide +kernel, by decide +kernel⟩
theorem mb_X5_clear : xMB yX5_clear cX5_clear 1 none RX5 0 := ⟨mw_2_68, mw_1_4, rfl, by decide +kernel, by decide +kernel, by decide +kernel⟩
theorem mb_X5_copyFrom : xMB yX5_copyFrom cX5_copyFrom 3 none RX5 1 := ⟨mw_2_36, mw_1_4, rfl, by decide +kernel, by decide +kernel, by decide +kernel⟩
theorem mb_X5_feetOf : xMB yX5_feetOf cX5_feetOf 2 (some .int) RX5 1 := ⟨mw_2_80, mw_1_4, rfl, by decide +kernel, by decide +kernel, by decide +kernel⟩
theorem mb_X5_hasFoot : xMB yX5_hasFoot cX5_hasFoot 3 (some .boolean) RX5 2 := ⟨mw_2_88, mw_1_4, rfl, by decide +kernel, by decide +kernel, by decide +kernel⟩
theorem mb_X5_hasLine : xMB yX5_hasLine cX5_hasLine 2 (some .boolean) RX5 1 := ⟨mw_2_84, mw_1_4, rfl, by decide +kernel, by decide +kernel, by decide +kernel⟩
theorem mb_X5_init : xMB yX5_init cX5_init 1 none RX5 0 := ⟨mw_1_42, mw_1_4, rfl, by decide +kernel, by decide +kernel, by decide +kernel⟩
theorem mb_X5_isMarked : xMB yX5_isMarked cX5_isMarked 3 (some .boolean) RX5 2 := ⟨mw_2_178, mw_1_4, rfl, by decide +kernel, by decide +kernel, by decide +kernel⟩
theorem mb_X5_markLastFoot : xMB yX5_markLastFoot cX5_markLastFoot 3 none RX5 0 := ⟨mw_2_76, mw_1_4, rfl, by decide +kernel, by decide +kernel, by decide +kernel⟩
theorem mb_X5_marksOfLine : xMB yX5_marksOfLine cX5_marksOfLine 4 (some .int) RX5 1 := ⟨mw_2_193, mw_1_4, rfl, by decide +kernel, by decide +kernel, by decide +kernel⟩
theorem mb_X6_copyFrom : xMB yX6_copyFrom cX6_copyFrom 2 none RX6 1 := ⟨mw_2_28, mw_1_2, rfl, by decide +kernel, by decide +kernel, by decide +kernel⟩
theorem mb_X6_init : xMB yX6_init cX6_init 1 none RX6 0 := ⟨mw_1_23, mw_1_2, rfl, by decide +kernel, by decide +kernel, by decide +kernel⟩
theorem mb_X6_startMarch : xMB yX6_startMarch cX6_startMarch 1 none RX6 0 := ⟨mw_1_205, mw_1_2, rfl, by decide +kernel, by decide +kernel, by decide +kernel⟩
theorem mb_X7_begin : xMB yX7_begin cX7_begin 2 (some .int) RX7 0 := ⟨mw_2_125, mw_1_1, rfl, by decide +kernel, by decide +kernel, by decide +kernel⟩
theorem mb_X7_bestPause : xMB yX7_bestPause cX7_bestPause 4 (some .int) RX7 0 := ⟨mw_3_34, mw_1_1, rfl, by decide +kernel, by decide +kernel, by decide +kernel⟩
theorem mb_X7_count : xMB yX7_count cX7_count 2 (some .int) RX7 1 := ⟨mw_2_222, mw_1_1, rfl, by decide +kernel, by decide +kernel, by decide +kernel⟩
theorem mb_X7_fault : xMB yX7_fault cX7_fault 1 (some .int) RX7 0 := ⟨mw_3_58, mw_1_1, rfl, by decide +kernel, by decide +kernel, by decide +kernel⟩
theorem mb_X7_foot : xMB yX7_foot cX7_foot 4 (some .int) RX7 3 := ⟨mw_2_199, mw_1_1, rfl, by decide +kernel, by decide +kernel, by decide +kernel⟩
theorem mb_X7_greatestShared : xMB yX7_greatestShared cX7_greatestShared 6 (some .int) RX7 2 := ⟨mw_3_19, mw_1_1, rfl, by decide +kernel, by decide +kernel, by decide +kernel⟩
theorem mb_X7_init : xMB yX7_init cX7_init 2 none RX7 0 := ⟨mw_1_15, mw_1_1, rfl, by decide +kernel, by decide +kernel, by decide +kernel⟩
theorem mb_X7_isReady : xMB yX7_isReady cX7_isReady 1 (some .boolean) RX7 0 := ⟨mw_2_133, mw_1_1, rfl, by decide +kernel, by decide +kernel, by decide +kernel⟩
theorem mb_X7_isSlot : xMB yX7_isSlot cX7_isSlot 1 (some .boolean) RX7 1 := ⟨mw_3_73, mw_1_1, rfl, by decide +kernel, by decide +kernel, by decide +kernel⟩
theorem mb_X7_leastBreath : xMB yX7_leastBreath cX7_leastBreath 3 (some .int) RX7 0 := ⟨mw_3_23, mw_1_1, rfl, by decide +kernel, by decide +kernel, by decide +kernel⟩
theorem mb_X7_line : xMB yX7_line cX7_line 5 (some .int) RX7 2 := ⟨mw_2_183, mw_1_1, rfl, by decide +kernel, by decide +kernel, by decide +kernel⟩
theorem mb_X7_march : xMB yX7_march cX7_march 3 (some .int) RX7 1 := ⟨mw_2_129, mw_1_1, rfl, by decide +kernel, by decide +kernel, by decide +kernel⟩
theorem mb_X7_meets : xMB yX7_meets cX7_meets 5 (some .int) RX7 2 := ⟨mw_3_10, mw_1_1, rfl, by decide +kernel, by decide +kernel, by decide +kernel⟩
theorem mb_X7_pave : xMB yX7_pave cX7_pave 4 (some .int) RX7 3 := ⟨mw_2_100, mw_1_1, rfl, by decide +kernel, by decide +kernel, by decide +kernel⟩
theorem mb_X7_put : xMB yX7_put cX7_put 5 (some .int) RX7 1 := ⟨mw_3_38, mw_1_1, rfl, by decide +kernel, by decide +kernel, by decide +kernel⟩
theorem mb_X7_read : xMB yX7_read cX7_read 1 (some .int) RX7 0 := ⟨mw_2_53, mw_1_1, rfl, by decide +kernel, by decide +kernel, by decide +kernel⟩
theorem mb_X7_restore : xMB yX7_restore cX7_restore 3 (some .int) RX7 1 := ⟨mw_3_78, mw_1_1, rfl, by decide +kernel, by decide +kernel, by decide +kernel⟩
theorem mb_X7_save : xMB yX7_save cX7_save 3 (some .int) RX7 1 := ⟨mw_3_70, mw_1_1, rfl, by decide +kernel, by decide +kernel, by decide +kernel⟩
theorem mb_X7_set : xMB yX7_set cX7_set 4 (some .int) RX7 2 := ⟨mw_2_2, mw_1_1, rfl, by decide +kernel, by decide +kernel, by decide +kernel⟩
theorem mb_X7_songsAtOnce : xMB yX7_songsAtOnce cX7_songsAtOnce 3 (some .int) RX7 2 := ⟨mw_3_16, mw_1_1, rfl, by decide +kernel, by decide +kernel, by decide +kernel⟩
theorem mb_X7_songsByCounting : xMB yX7_songsByCounting cX7_songsByCounting 3 (some .int) RX7 2 := ⟨mw_3_13, mw_1_1, rfl, by decide +kernel, by decide +kernel, by decide +kernel⟩
theorem mb_X7_stretch : xMB yX7_stretch cX7_stretch 3 (some .int) RX7 2 := ⟨mw_2_206, mw_1_1, rfl, by decide +kernel, by decide +kernel, by decide +kernel⟩
theorem mb_X7_tear : xMB yX7_tear cX7_tear 3 (some .int) RX7 1 := ⟨mw_2_108, mw_1_1, rfl, by decide +kernel, by decide +kernel, by decide +kernel⟩
theorem mb_X7_together : xMB yX7_together cX7_together 4 (some .int) RX7 0 := ⟨mw_3_5, mw_1_1, rfl, by decide +kernel, by decide +kernel, by decide +kernel⟩
theorem mb_X7_undo : xMB yX7_undo cX7_undo 1 (some .int) RX7 0 := ⟨mw_3_62, mw_1_1, rfl, by decide +kernel, by decide +kernel, by decide +kernel⟩
theorem mb_X7_untilWalked : xMB yX7_untilWalked cX7_untilWalked 2 (some .int) RX7 1 := ⟨mw_3_0, mw_1_1, rfl, by decide +kernel, by decide +kernel, by decide +kernel⟩
theorem mb_X7_walk : xMB yX7_walk cX7_walk 2 (some .int) RX7 1 := ⟨mw_2_218, mw_1_1, rfl, by decide +kernel, by decide +kernel, by decide +kernel⟩
theorem mb_X7_wipe : xMB yX7_wipe cX7_wipe 2 (some .int) RX7 0 := ⟨mw_3_54, mw_1_1, rfl, by decide +kernel, by decide +kernel, by decide +kernel⟩
theorem mb_X8_beat : xMB yX8_beat cX8_beat 2 none RX8 0 := ⟨mw_3_169, mw_1_9, rfl, by decide +kernel, by decide +kernel, by decide +kernel⟩
theorem mb_X8_beatsOf : xMB yX8_beatsOf cX8_beatsOf 3 (some .int) RX8 2 := ⟨mw_3_189, mw_1_9, rfl, by decide +kernel, by decide +kernel, by decide +kernel⟩
theorem mb_X8_begin : xMB yX8_begin cX8_begin 2 (some .int) RX8 0 := ⟨mw_3_197, mw_1_9, rfl, by decide +kernel, by decide +kernel, by decide +kernel⟩
theorem mb_X8_beginNow : xMB yX8_beginNow cX8_beginNow 2 none RX8 0 := ⟨mw_3_88, mw_1_9, rfl, by decide +kernel, by decide +kernel, by decide +kernel⟩
theorem mb_X8_bestPause : xMB yX8_bestPause cX8_bestPause 5 (some .int) RX8 0 := ⟨mw_4_81, mw_1_9, rfl, by decide +kernel, by decide +kernel, by decide +kernel⟩
theorem mb_X8_canMarch : xMB yX8_canMarch cX8_canMarch 1 (some .boolean) RX8 0 := ⟨mw_3_161, mw_1_9, rfl, by decide +kernel, by decide +kernel, by decide +kernel⟩
theorem mb_X8_climb : xMB yX8_climb cX8_climb 2 (some .int) RX8 0 := ⟨mw_3_173, mw_1_9, rfl, by decide +kernel, by decide +kernel, by decide +kernel⟩
theorem mb_X8_copyState : xMB yX8_copyState cX8_copyState 5 none RX8 4 := ⟨mw_3_138, mw_1_9, rfl, by decide +kernel, by decide +kernel, by decide +kernel⟩
theorem mb_X8_count : xMB yX8_count cX8_count 2 (some .int) RX8 1 := ⟨mw_4_45, mw_1_9, rfl, by decide +kernel, by decide +kernel, by decide +kernel⟩
theorem mb_X8_fault : xMB yX8_fault cX8_fault 1 (some .int) RX8 0 := ⟨mw_3_229, mw_1_9, rfl, by decide +kernel, by decide +kernel, by decide +kernel⟩
theorem mb_X8_foot : xMB yX8_foot cX8_foot 4 (some .int) RX8 3 := ⟨mw_4_29, mw_1_9, rfl, by decide +kernel, by decide +kernel, by decide +kernel⟩
theorem mb_X8_goOn : xMB yX8_goOn cX8_goOn 3 none RX8 0 := ⟨mw_3_185, mw_1_9, rfl, by decide +kernel, by decide +kernel, by decide +kernel⟩
theorem mb_X8_hasMark : xMB yX8_hasMark cX8_hasMark 3 (some .boolean) RX8 2 := ⟨mw_3_193, mw_1_9, rfl, by decide +kernel, by decide +kernel, by decide +kernel⟩
theorem mb_X8_in : xMB yX8_in cX8_in 3 (some .boolean) RX8 3 := ⟨mw_3_145, mw_1_9, rfl, by decide +kernel, by decide +kernel, by decide +kernel⟩
theorem mb_X8_init : xMB yX8_init cX8_init 1 none RX8 0 := ⟨mw_3_83, mw_1_9, rfl, by decide +kernel, by decide +kernel, by decide +kernel⟩
theorem mb_X8_isLine : xMB yX8_isLine cX8_isLine 2 (some .boolean) RX8 1 := ⟨mw_4_17, mw_1_9, rfl, by decide +kernel, by decide +kernel, by decide +kernel⟩
theorem mb_X8_isStretch : xMB yX8_isStretch cX8_isStretch 2 (some .boolean) RX8 1 := ⟨mw_3_216, mw_1_9, rfl, by decide +kernel, by decide +kernel, by decide +kernel⟩
theorem mb_X8_isValue : xMB yX8_isValue cX8_isValue 2 (some .boolean) RX8 2 := ⟨mw_3_204, mw_1_9, rfl, by decide +kernel, by decide +kernel, by decide +kernel⟩
theorem mb_X8_isWalkedAnew : xMB yX8_isWalkedAnew cX8_isWalkedAnew 1 (some .boolean) RX8 0 := ⟨mw_4_77, mw_1_9, rfl, by decide +kernel, by decide +kernel, by decide +kernel⟩
theorem mb_X8_leastBreath : xMB yX8_leastBreath cX8_leastBreath 3 (some .int) RX8 0 := ⟨mw_4_73, mw_1_9, rfl, by decide +kernel, by decide +kernel, by decide +kernel⟩
theorem mb_X8_line : xMB yX8_line cX8_line 3 (some .int) RX8 2 := ⟨mw_4_13, mw_1_9, rfl, by decide +kernel, by decide +kernel, by decide +kernel⟩
theorem mb_X8_march : xMB yX8_march cX8_march 2 (some .int) RX8 1 := ⟨mw_3_157, mw_1_9, rfl, by decide +kernel, by decide +kernel, by decide +kernel⟩
theorem mb_X8_marchNow : xMB yX8_marchNow cX8_marchNow 3 (some .int) RX8 1 := ⟨mw_3_165, mw_1_9, rfl, by decide +kernel, by decide +kernel, by decide +kernel⟩
theorem mb_X8_marksIn : xMB yX8_marksIn cX8_marksIn 4 (some .int) RX8 1 := ⟨mw_4_25, mw_1_9, rfl, by decide +kernel, by decide +kernel, by decide +kernel⟩
theorem mb_X8_marksInSong : xMB yX8_marksInSong cX8_marksInSong 3 (some .int) RX8 0 := ⟨mw_4_53, mw_1_9, rfl, by decide +kernel, by decide +kernel, by decide +kernel⟩
theorem mb_X8_meets : xMB yX8_meets cX8_meets 4 (some .int) RX8 2 := ⟨mw_4_69, mw_1_9, rfl, by decide +kernel, by decide +kernel, by decide +kernel⟩
theorem mb_X8_ofStretch : xMB yX8_ofStretch cX8_ofStretch 3 (some .int) RX8 2 := ⟨mw_3_177, mw_1_9, rfl, by decide +kernel, by decide +kernel, by decide +kernel⟩
theorem mb_X8_pave : xMB yX8_pave cX8_pave 5 (some .int) RX8 3 := ⟨mw_3_208, mw_1_9, rfl, by decide +kernel, by decide +kernel, by decide +kernel⟩
theorem mb_X8_put : xMB yX8_put cX8_put 7 (some .int) RX8 1 := ⟨mw_3_220, mw_1_9, rfl, by decide +kernel, by decide +kernel, by decide +kernel⟩
theorem mb_X8_read : xMB yX8_read cX8_read 3 (some .int) RX8 0 := ⟨mw_4_9, mw_1_9, rfl, by decide +kernel, by decide +kernel, by decide +kernel⟩
theorem mb_X8_readFoot : xMB yX8_readFoot cX8_readFoot 3 (some .boolean) RX8 0 := ⟨mw_4_1, mw_1_9, rfl, by decide +kernel, by decide +kernel, by decide +kernel⟩
theorem mb_X8_readLine : xMB yX8_readLine cX8_readLine 2 (some .boolean) RX8 0 := ⟨mw_3_237, mw_1_9, rfl, by decide +kernel, by decide +kernel, by decide +kernel⟩
theorem mb_X8_readPad : xMB yX8_readPad cX8_readPad 2 (some .boolean) RX8 0 := ⟨mw_3_233, mw_1_9, rfl, by decide +kernel, by decide +kernel, by decide +kernel⟩
theorem mb_X8_record : xMB yX8_record cX8_record 2 none RX8 0 := ⟨mw_3_153, mw_1_9, rfl, by decide +kernel, by decide +kernel, by decide +kernel⟩
theorem mb_X8_restore : xMB yX8_restore cX8_restore 2 (some .int) RX8 1 := ⟨mw_3_149, mw_1_9, rfl, by decide +kernel, by decide +kernel, by decide +kernel⟩
theorem mb_X8_save : xMB yX8_save cX8_save 2 (some .int) RX8 1 := ⟨mw_3_142, mw_1_9, rfl, by decide +kernel, by decide +kernel, by decide +kernel⟩
theorem mb_X8_set : xMB yX8_set cX8_set 4 (some .int) RX8 2 := ⟨mw_3_201, mw_1_9, rfl, by decide +kernel, by decide +kernel, by decide +kernel⟩
theorem mb_X8_step : xMB yX8_step cX8_step 1 none RX8 0 := ⟨mw_3_181, mw_1_9, rfl, by decide +kernel, by decide +kernel, by decide +kernel⟩
theorem mb_X8_stepsOfRoad : xMB yX8_stepsOfRoad cX8_stepsOfRoad 3 (some .int) RX8 0 := ⟨mw_4_57, mw_1_9, rfl, by decide +kernel, by decide +kernel, by decide +kernel⟩
theorem mb_X8_stretch : xMB yX8_stretch cX8_stretch 3 (some .int) RX8 2 := ⟨mw_4_33, mw_1_9, rfl, by decide +kernel, by decide +kernel, by decide +kernel⟩
theorem mb_X8_sungFor : xMB yX8_sungFor cX8_sungFor 5 (some .int) RX8 2 := ⟨mw_4_37, mw_1_9, rfl, by decide +kernel, by decide +kernel, by decide +kernel⟩
theorem mb_X8_sungIn : xMB yX8_sungIn cX8_sungIn 4 (some .int) RX8 1 := ⟨mw_4_21, mw_1_9, rfl, by decide +kernel, by decide +kernel, by decide +kernel⟩
theorem mb_X8_sungInSong : xMB yX8_sungInSong cX8_sungInSong 3 (some .int) RX8 0 := ⟨mw_4_49, mw_1_9, rfl, by decide +kernel, by decide +kernel, by decide +kernel⟩
theorem mb_X8_takes : xMB yX8_takes cX8_takes 3 (some .boolean) RX8 1 := ⟨mw_4_5, mw_1_9, rfl, by decide +kernel, by decide +kernel, by decide +kernel⟩
theorem mb_X8_tear : xMB yX8_tear cX8_tear 4 (some .int) RX8 1 := ⟨mw_3_212, mw_1_9, rfl, by decide +kernel, by decide +kernel, by decide +kernel⟩
theorem mb_X8_together : xMB yX8_together cX8_together 3 (some .int) RX8 0 := ⟨mw_4_65, mw_1_9, rfl, by decide +kernel, by decide +kernel, by decide +kernel⟩
theorem mb_X8_undo : xMB yX8_undo cX8_undo 1 (some .int) RX8 0 := ⟨mw_3_135, mw_1_9, rfl, by decide +kernel, by decide +kernel, by decide +kernel⟩
theorem mb_X8_untilWalked : xMB yX8_untilWalked cX8_untilWalked 4 (some .int) RX8 1 := ⟨mw_4_61, mw_1_9, rfl, by decide +kernel, by decide +kernel, by decide +kernel⟩
theorem mb_X8_walk : xMB yX8_walk cX8_walk 2 (some .int) RX8 1 := ⟨mw_4_41, mw_1_9, rfl, by decide +kernel, by decide +kernel, by decide +kernel⟩
theorem mb_X8_wipe : xMB yX8_wipe cX8_wipe 2 (some .int) RX8 0 := ⟨mw_3_225, mw_1_9, rfl, by decide +kernel, by decide +kernel, by decide +kernel⟩
