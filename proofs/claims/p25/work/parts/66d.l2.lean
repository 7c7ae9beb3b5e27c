set_option maxHeartbeats 4000000 in
set_option maxRecDepth 100000 in
theorem lb_157 {p : Program} {e : Env} {s : State} {m : MethodId} {below : List Frame} {meth : Method} {c : Code} (l : Launch) {args : Array Value} {A : Nat → Prop} {Q : State → Prop} {D : va_G} {cI cZ cS : ClassId} (x0 : Nat) (xs : Nat) (xv : Nat) (ho0 : Nat) (ho1 : Nat) (pd0 : Nat) (pd1 : Nat) (m0 : Nat) (ts0 : Nat) (ts1 : Nat) (a : Nat → Nat) (ha : Nat → Nat → Nat) (sa : Nat → Nat → Nat) (cn : Nat → Nat → Int32) (cs : Nat → Nat → Nat → Int32) (sc : Nat → Nat → Nat → Int32) (tm : Nat → Int32) (tv : Nat → Int32) (pd : Nat → Int32) (sv : Nat → Int32) (old : Int32) (sz : Int32) (z : Nat → Int32) (past : Nat → Int32) (slots : Nat → Int32) (bd : Int) (p1 : Int32) (no : Int32) (b : Int32) (hLI : LI bd cn cs sc sv (0 : Int32) old sz z past slots) (hbd : bd ≤ 100000) (hp1 : 0 ≤ p1.toInt) (hno : no.toInt < 0 ∨ 12 ≤ no.toInt) (hb47 : (b.toInt = 1 ∧ canZ z) ∨ (b.toInt = 0 ∧ ¬ canZ z)) (hx : p.tables.exec = Jvm.exec) (hb : c.code = cL_refusesAny) (hr : meth.sig.returnType = (some .boolean)) (hts : ∀ w ∈ Cond.code yL_refusesAny cL_refusesAny 5 (some .boolean) :: wsL_law, w.before args s = true) (hown : s.vm.findClass yL_refusesAny.cls = some m.cls) (hlocks : meth.locks = false) (hml : c.maxLocals = 5) (hK : va_K D vwCl (xTy cI cZ cS) s) (hA : ∀ q : Nat, s.heap.size ≤ q → A q) (hN : xN s) (hZ : xZ A s) (hQ : Q = MQ below (va_Qi (fun (r : Int32) (u : (Nat → Int32)) => r = (1 : Int32)) (fun u t => va_P D vwCl ((fun (u : (Nat → Int32)) => (xwW cI cZ cS x0 xs xv ho0 ho1 pd0 pd1 m0 ts0 ts1 a ha sa cn cs sc u tv pd sv (0 : Int32) old sz z)) u) t.heap) A) args s 0 0 A) (H : Heap) (locs : List Loc) (hP : va_P D vwCl (xwW cI cZ cS x0 xs xv ho0 ho1 pd0 pd1 m0 ts0 ts1 a ha sa cn cs sc tm tv pd sv (0 : Int32) old sz z) H) (hD : va_D A (xwW cI cZ cS x0 xs xv ho0 ho1 pd0 pd1 m0 ts0 ts1 a ha sa cn cs sc tm tv pd sv (0 : Int32) old sz z)) (hS : va_S A s.heap H locs) (ls : Array Slot) (hl : lv_has ls 5 [(0, .ref x0), (1, .int p1), (2, .int no), (3, .int b)]) : W p l e ({ frames := 7, cells := 0, slots := 0, locals := 159 } : Room) s m args below meth c H locs 0 0 Q (F0 m 157 ls []) := by
  obtain ⟨hRS, hI, hBD, ⟨hold, hszz, hlnn⟩, hmcs, hmsc, hRH, hRL⟩ := id hLI
  obtain ⟨⟨hb74, hb74u⟩, ⟨hb86, hb86u⟩, hIP⟩ := id hBD
  have hs0 : (1 ≤ (z 0).toInt ∧ (z 0).toInt ≤ 9) ∧ (0 ≤ (z 1).toInt ∧ (z 1).toInt ≤ 9) ∧ (1 ≤ (z 2).toInt ∧ (z 2).toInt ≤ 9) ∧ (1 ≤ (z 3).toInt ∧ (z 3).toInt ≤ 20) ∧ (2 ≤ (z 5).toInt ∧ (z 5).toInt ≤ 9) := hI.1
  have hg6 : 0 ≤ (z 6).toInt ∧ (z 6).toInt ≤ 10 := hI.2.1.1
  have hr7 : 0 ≤ (z 7).toInt ∧ (z 7).toInt ≤ 12 := hI.2.2.1.1
  have z0 : (0 : Int32).toInt = 0 := by decide
  refine lv_aload_n hx hb dL_refusesAny_157 rfl (lv_at hl 0 rfl) ?_
  refine lv_iconst (v := 4) hx hb dL_refusesAny_158 (by decide) ?_
  have J171 : ∀ (v162 : Int32) (hv162 : v162 = 4 ∨ v162 = 61) (H : Heap) (locs : List Loc), va_P D vwCl (xwW cI cZ cS x0 xs xv ho0 ho1 pd0 pd1 m0 ts0 ts1 a ha sa cn cs sc tm tv pd sv (0 : Int32) old sz z) H → va_D A (xwW cI cZ cS x0 xs xv ho0 ho1 pd0 pd1 m0 ts0 ts1 a ha sa cn cs sc tm tv pd sv (0 : Int32) old sz z) → va_S A s.heap H locs → ∀ ls : Array Slot, lv_has ls 5 [(0, .ref x0), (1, .int p1), (2, .int no), (3, .int b)] → W p l e ({ frames := 7, cells := 0, slots := 0, locals := 159 } : Room) s m args below meth c H locs 0 0 Q (F0 m 171 ls [.int v162, .int 4, .ref x0]) := by
    intro v162 hv162 H locs hP hD hS ls hl
    refine xo_Vi (As := [.int 4, .int v162]) (rest := []) hx hb hml hown hts hK hN hZ hP hD hS hA mb_X7_set mw_3_8 mw_3_9 mw_3_10 (k_X7_set l D cI cZ cS x0 xs xv ho0 ho1 pd0 pd1 m0 ts0 ts1 a ha sa cn cs sc tm tv pd sv (0 : Int32) old sz z (4 : Int32) v162 hRS hI hold hszz) 0 7 rfl rfl (fun _ => xwW_f) (by decide) (by decide) rfl hl.1 rfl (Nat.le_of_ble_eq_true rfl) dL_refusesAny_171 ⟨Nat.zero_le _, Nat.zero_le _⟩ (fun r171 u171 H locs hw hP hD hS => ?_)
    obtain ⟨cq_171, zq_171, old1_171, sz1_171, cs1_171⟩ := u171
    have p171 : (setV (4 : Int32) v162 ∧ r171 = z 4 ∧ Chg cn z old sz cs (beginZ (upd z 4 v162)) cq_171 zq_171 old1_171 sz1_171 cs1_171) ∨ (¬ setV (4 : Int32) v162 ∧ r171 = -2 ∧ Same cn z old sz cs cq_171 zq_171 old1_171 sz1_171 cs1_171) := hw
    have hP : va_P D vwCl (xwW cI cZ cS x0 xs xv ho0 ho1 pd0 pd1 m0 ts0 ts1 a ha sa cq_171 cs1_171 sc tm tv pd sv (0 : Int32) old1_171 sz1_171 zq_171) H := hP
    have hD : va_D A (xwW cI cZ cS x0 xs xv ho0 ho1 pd0 pd1 m0 ts0 ts1 a ha sa cq_171 cs1_171 sc tm tv pd sv (0 : Int32) old1_171 sz1_171 zq_171) := hD
    have w171 : r171 = -2 ∧ cq_171 = cn ∧ zq_171 = z ∧ old1_171 = old ∧ sz1_171 = sz ∧ cs1_171 = cs := by
      rcases p171 with ⟨c9, -⟩ | ⟨-, h9⟩
      · exact absurd c9 (by rcases hv162 with h9 | h9 <;> rw [h9] <;> decide)
      · exact h9
    obtain ⟨w171, w171_0, w171_1, w171_2, w171_3, w171_4⟩ := w171
    rw [w171_0, w171_1, w171_2, w171_3, w171_4] at hP hD
    have hP : va_P D vwCl (xwW cI cZ cS x0 xs xv ho0 ho1 pd0 pd1 m0 ts0 ts1 a ha sa cn cs sc tm tv pd sv (0 : Int32) old sz z) H := hP
    have hD : va_D A (xwW cI cZ cS x0 xs xv ho0 ho1 pd0 pd1 m0 ts0 ts1 a ha sa cn cs sc tm tv pd sv (0 : Int32) old sz z) := hD
    refine xk_top (z := (-2)) (by exact w171) ?_
    refine lv_bipush (v := (-2)) hx hb dL_refusesAny_174 (by decide) ?_
    refine lv_icmp_ne (tgt := 342) hx hb dL_refusesAny_176 (by decide) (fun c176 => absurd (by decide) c176) (fun _ => ?_)
    refine lv_aload_n hx hb dL_refusesAny_179 rfl (lv_at hl 0 rfl) ?_
    refine lv_iconst (v := 5) hx hb dL_refusesAny_180 (by decide) ?_
    have J193 : ∀ (v184 : Int32) (hv184 : v184 = 1 ∨ v184 = 10) (H : Heap) (locs : List Loc), va_P D vwCl (xwW cI cZ cS x0 xs xv ho0 ho1 pd0 pd1 m0 ts0 ts1 a ha sa cn cs sc tm tv pd sv (0 : Int32) old sz z) H → va_D A (xwW cI cZ cS x0 xs xv ho0 ho1 pd0 pd1 m0 ts0 ts1 a ha sa cn cs sc tm tv pd sv (0 : Int32) old sz z) → va_S A s.heap H locs → ∀ ls : Array Slot, lv_has ls 5 [(0, .ref x0), (1, .int p1), (2, .int no), (3, .int b)] → W p l e ({ frames := 7, cells := 0, slots := 0, locals := 159 } : Room) s m args below meth c H locs 0 0 Q (F0 m 193 ls [.int v184, .int 5, .ref x0]) := by
      intro v184 hv184 H locs hP hD hS ls hl
      refine xo_Vi (As := [.int 5, .int v184]) (rest := []) hx hb hml hown hts hK hN hZ hP hD hS hA mb_X7_set mw_3_8 mw_3_9 mw_3_10 (k_X7_set l D cI cZ cS x0 xs xv ho0 ho1 pd0 pd1 m0 ts0 ts1 a ha sa cn cs sc tm tv pd sv (0 : Int32) old sz z (5 : Int32) v184 hRS hI hold hszz) 0 7 rfl rfl (fun _ => xwW_f) (by decide) (by decide) rfl hl.1 rfl (Nat.le_of_ble_eq_true rfl) dL_refusesAny_193 ⟨Nat.zero_le _, Nat.zero_le _⟩ (fun r193 u193 H locs hw hP hD hS => ?_)
      obtain ⟨cq_193, zq_193, old1_193, sz1_193, cs1_193⟩ := u193
      have p193 : (setV (5 : Int32) v184 ∧ r193 = z 5 ∧ Chg cn z old sz cs (beginZ (upd z 5 v184)) cq_193 zq_193 old1_193 sz1_193 cs1_193) ∨ (¬ setV (5 : Int32) v184 ∧ r193 = -2 ∧ Same cn z old sz cs cq_193 zq_193 old1_193 sz1_193 cs1_193) := hw
      have hP : va_P D vwCl (xwW cI cZ cS x0 xs xv ho0 ho1 pd0 pd1 m0 ts0 ts1 a ha sa cq_193 cs1_193 sc tm tv pd sv (0 : Int32) old1_193 sz1_193 zq_193) H := hP
      have hD : va_D A (xwW cI cZ cS x0 xs xv ho0 ho1 pd0 pd1 m0 ts0 ts1 a ha sa cq_193 cs1_193 sc tm tv pd sv (0 : Int32) old1_193 sz1_193 zq_193) := hD
      have w193 : r193 = -2 ∧ cq_193 = cn ∧ zq_193 = z ∧ old1_193 = old ∧ sz1_193 = sz ∧ cs1_193 = cs := by
        rcases p193 with ⟨c9, -⟩ | ⟨-, h9⟩
        · exact absurd c9 (by rcases hv184 with h9 | h9 <;> rw [h9] <;> decide)
        · exact h9
      obtain ⟨w193, w193_0, w193_1, w193_2, w193_3, w193_4⟩ := w193
      rw [w193_0, w193_1, w193_2, w193_3, w193_4] at hP hD
      have hP : va_P D vwCl (xwW cI cZ cS x0 xs xv ho0 ho1 pd0 pd1 m0 ts0 ts1 a ha sa cn cs sc tm tv pd sv (0 : Int32) old sz z) H := hP
      have hD : va_D A (xwW cI cZ cS x0 xs xv ho0 ho1 pd0 pd1 m0 ts0 ts1 a ha sa cn cs sc tm tv pd sv (0 : Int32) old sz z) := hD
      refine xk_top (z := (-2)) (by exact w193) ?_
      refine lv_bipush (v := (-2)) hx hb dL_refusesAny_196 (by decide) ?_
      refine lv_icmp_ne (tgt := 342) hx hb dL_refusesAny_198 (by decide) (fun c198 => absurd (by decide) c198) (fun _ => ?_)
      refine lv_aload_n hx hb dL_refusesAny_201 rfl (lv_at hl 0 rfl) ?_
      have J214 : ∀ (v205 : Int32) (hv205 : v205 = 0 ∨ v205 = 100) (H : Heap) (locs : List Loc), va_P D vwCl (xwW cI cZ cS x0 xs xv ho0 ho1 pd0 pd1 m0 ts0 ts1 a ha sa cn cs sc tm tv pd sv (0 : Int32) old sz z) H → va_D A (xwW cI cZ cS x0 xs xv ho0 ho1 pd0 pd1 m0 ts0 ts1 a ha sa cn cs sc tm tv pd sv (0 : Int32) old sz z) → va_S A s.heap H locs → ∀ ls : Array Slot, lv_has ls 5 [(0, .ref x0), (1, .int p1), (2, .int no), (3, .int b)] → W p l e ({ frames := 7, cells := 0, slots := 0, locals := 159 } : Room) s m args below meth c H locs 0 0 Q (F0 m 214 ls [.int v205, .ref x0]) := by
        intro v205 hv205 H locs hP hD hS ls hl
        refine lv_iconst (v := 0) hx hb dL_refusesAny_214 (by decide) ?_
        refine lv_iconst (v := 1) hx hb dL_refusesAny_215 (by decide) ?_
        refine xo_Vi (As := [.int v205, .int 0, .int 1]) (rest := []) hx hb hml hown hts hK hN hZ hP hD hS hA mb_X7_pave mw_3_17 mw_3_18 mw_3_19 (k_X7_pave l D cI cZ cS x0 xs xv ho0 ho1 pd0 pd1 m0 ts0 ts1 a ha sa cn cs sc tm tv pd sv (0 : Int32) old sz z v205 (0 : Int32) (1 : Int32) hRS hI hold hszz (Or.inr rfl)) 0 7 rfl rfl (fun _ => xwW_f) (by decide) (by decide) rfl hl.1 rfl (Nat.le_of_ble_eq_true rfl) dL_refusesAny_216 ⟨Nat.zero_le _, Nat.zero_le _⟩ (fun r216 u216 H locs hw hP hD hS => ?_)
        obtain ⟨cq_216, zq_216, old1_216, sz1_216, cs1_216⟩ := u216
        have p216 : r216 = paveR z v205 (0 : Int32) ∧ ((paveC z v205 (0 : Int32) ∧ Chg cn z old sz cs (paveZ z v205 (0 : Int32) (1 : Int32)) cq_216 zq_216 old1_216 sz1_216 cs1_216) ∨ (¬ paveC z v205 (0 : Int32) ∧ Same cn z old sz cs cq_216 zq_216 old1_216 sz1_216 cs1_216)) := hw
        have hP : va_P D vwCl (xwW cI cZ cS x0 xs xv ho0 ho1 pd0 pd1 m0 ts0 ts1 a ha sa cq_216 cs1_216 sc tm tv pd sv (0 : Int32) old1_216 sz1_216 zq_216) H := hP
        have hD : va_D A (xwW cI cZ cS x0 xs xv ho0 ho1 pd0 pd1 m0 ts0 ts1 a ha sa cq_216 cs1_216 sc tm tv pd sv (0 : Int32) old1_216 sz1_216 zq_216) := hD
        have w216 : r216 = -2 ∧ cq_216 = cn ∧ zq_216 = z ∧ old1_216 = old ∧ sz1_216 = sz ∧ cs1_216 = cs := by
          refine ⟨p216.1.trans (pv_bad z (by rcases hv205 with h9 | h9 <;> rw [h9] <;> decide)), ?_⟩
          rcases p216.2 with ⟨c9, -⟩ | ⟨-, h9⟩
          · exact absurd c9 (fun c8 => absurd c8.1 (by rcases hv205 with h9 | h9 <;> rw [h9] <;> decide))
          · exact h9
        obtain ⟨w216, w216_0, w216_1, w216_2, w216_3, w216_4⟩ := w216
        rw [w216_0, w216_1, w216_2, w216_3, w216_4] at hP hD
        have hP : va_P D vwCl (xwW cI cZ cS x0 xs xv ho0 ho1 pd0 pd1 m0 ts0 ts1 a ha sa cn cs sc tm tv pd sv (0 : Int32) old sz z) H := hP
        have hD : va_D A (xwW cI cZ cS x0 xs xv ho0 ho1 pd0 pd1 m0 ts0 ts1 a ha sa cn cs sc tm tv pd sv (0 : Int32) old sz z) := hD
        refine xk_top (z := (-2)) (by exact w216) ?_
        refine lv_bipush (v := (-2)) hx hb dL_refusesAny_219 (by decide) ?_
        refine lv_icmp_ne (tgt := 342) hx hb dL_refusesAny_221 (by decide) (fun c221 => absurd (by decide) c221) (fun _ => ?_)
        refine lv_aload_n hx hb dL_refusesAny_224 rfl (lv_at hl 0 rfl) ?_
        refine lv_iconst (v := 5) hx hb dL_refusesAny_225 (by decide) ?_
        have J238 : ∀ (v229 : Int32) (hv229 : v229 = (-4) ∨ v229 = 4) (H : Heap) (locs : List Loc), va_P D vwCl (xwW cI cZ cS x0 xs xv ho0 ho1 pd0 pd1 m0 ts0 ts1 a ha sa cn cs sc tm tv pd sv (0 : Int32) old sz z) H → va_D A (xwW cI cZ cS x0 xs xv ho0 ho1 pd0 pd1 m0 ts0 ts1 a ha sa cn cs sc tm tv pd sv (0 : Int32) old sz z) → va_S A s.heap H locs → ∀ ls : Array Slot, lv_has ls 5 [(0, .ref x0), (1, .int p1), (2, .int no), (3, .int b)] → W p l e ({ frames := 7, cells := 0, slots := 0, locals := 159 } : Room) s m args below meth c H locs 0 0 Q (F0 m 238 ls [.int v229, .int 5, .ref x0]) := by
          intro v229 hv229 H locs hP hD hS ls hl
          refine lv_iconst (v := 0) hx hb dL_refusesAny_238 (by decide) ?_
          refine xo_Vi (As := [.int 5, .int v229, .int 0]) (rest := []) hx hb hml hown hts hK hN hZ hP hD hS hA mb_X7_pave mw_3_17 mw_3_18 mw_3_19 (k_X7_pave l D cI cZ cS x0 xs xv ho0 ho1 pd0 pd1 m0 ts0 ts1 a ha sa cn cs sc tm tv pd sv (0 : Int32) old sz z (5 : Int32) v229 (0 : Int32) hRS hI hold hszz (Or.inl rfl)) 0 7 rfl rfl (fun _ => xwW_f) (by decide) (by decide) rfl hl.1 rfl (Nat.le_of_ble_eq_true rfl) dL_refusesAny_239 ⟨Nat.zero_le _, Nat.zero_le _⟩ (fun r239 u239 H locs hw hP hD hS => ?_)
          obtain ⟨cq_239, zq_239, old1_239, sz1_239, cs1_239⟩ := u239
          have p239 : r239 = paveR z (5 : Int32) v229 ∧ ((paveC z (5 : Int32) v229 ∧ Chg cn z old sz cs (paveZ z (5 : Int32) v229 (0 : Int32)) cq_239 zq_239 old1_239 sz1_239 cs1_239) ∨ (¬ paveC z (5 : Int32) v229 ∧ Same cn z old sz cs cq_239 zq_239 old1_239 sz1_239 cs1_239)) := hw
          have hP : va_P D vwCl (xwW cI cZ cS x0 xs xv ho0 ho1 pd0 pd1 m0 ts0 ts1 a ha sa cq_239 cs1_239 sc tm tv pd sv (0 : Int32) old1_239 sz1_239 zq_239) H := hP
          have hD : va_D A (xwW cI cZ cS x0 xs xv ho0 ho1 pd0 pd1 m0 ts0 ts1 a ha sa cq_239 cs1_239 sc tm tv pd sv (0 : Int32) old1_239 sz1_239 zq_239) := hD
          have w239 : r239 = -2 ∧ cq_239 = cn ∧ zq_239 = z ∧ old1_239 = old ∧ sz1_239 = sz ∧ cs1_239 = cs := by
            refine ⟨p239.1.trans (pv_bad z (by rcases hv229 with h9 | h9 <;> rw [h9] <;> decide)), ?_⟩
            rcases p239.2 with ⟨c9, -⟩ | ⟨-, h9⟩
            · exact absurd c9 (fun c8 => absurd c8.1 (by rcases hv229 with h9 | h9 <;> rw [h9] <;> decide))
            · exact h9
          obtain ⟨w239, w239_0, w239_1, w239_2, w239_3, w239_4⟩ := w239
          rw [w239_0, w239_1, w239_2, w239_3, w239_4] at hP hD
          have hP : va_P D vwCl (xwW cI cZ cS x0 xs xv ho0 ho1 pd0 pd1 m0 ts0 ts1 a ha sa cn cs sc tm tv pd sv (0 : Int32) old sz z) H := hP
          have hD : va_D A (xwW cI cZ cS x0 xs xv ho0 ho1 pd0 pd1 m0 ts0 ts1 a ha sa cn cs sc tm tv pd sv (0 : Int32) old sz z) := hD
          refine xk_top (z := (-2)) (by exact w239) ?_
          refine lv_bipush (v := (-2)) hx hb dL_refusesAny_242 (by decide) ?_
          refine lv_icmp_ne (tgt := 342) hx hb dL_refusesAny_244 (by decide) (fun c244 => absurd (by decide) c244) (fun _ => ?_)
          exact lb_247 l x0 xs xv ho0 ho1 pd0 pd1 m0 ts0 ts1 a ha sa cn cs sc tm tv pd sv old sz z past slots bd p1 no b hLI (by first | assumption | omega) (by first | assumption | omega) (by first | assumption | omega) (by assumption) hx hb hr hts hown hlocks hml hK hA hN hZ hQ _ _ hP hD hS ls (lv_sub hl [0, 1, 2, 3] rfl)
        refine lv_iload_n hx hb dL_refusesAny_226 rfl (lv_at hl 1 rfl) ?_
        refine lv_iconst (v := 2) hx hb dL_refusesAny_227 (by decide) ?_
        refine lv_irem hx hb dL_refusesAny_228 (by decide) ?_
        refine lv_topi (fun x228 e228 => ?_)
        have t228 : x228.toInt = p1.toInt % 2 := by rw [e228]; exact xi_rem rfl (by decide) (by omega) (by omega)
        refine lv_if_ne (tgt := 237) hx hb dL_refusesAny_229 (by decide) (fun c229 => ?_) (fun c229 => ?_)
        · have t229 : ¬ x228.toInt = 0 := xi_ne rfl (by decide) c229
          have d229 : ¬ x228 = 0 := c229
          refine lv_iconst (v := 4) hx hb dL_refusesAny_237 (by decide) ?_
          exact J238 (4 : Int32) (by first | exact Or.inl rfl | exact Or.inr rfl) _ _ hP hD hS ls (lv_sub hl [0, 1, 2, 3] rfl)
        · have t229 : x228.toInt = 0 := xi_eq rfl (by decide) c229
          have d229 : x228 = 0 := c229
          refine lv_bipush (v := (-4)) hx hb dL_refusesAny_232 (by decide) ?_
          refine lv_goto (tgt := 238) hx hb dL_refusesAny_234 (by decide) ?_
          exact J238 (-4 : Int32) (by first | exact Or.inl rfl | exact Or.inr rfl) _ _ hP hD hS ls (lv_sub hl [0, 1, 2, 3] rfl)
      refine lv_iload_n hx hb dL_refusesAny_202 rfl (lv_at hl 1 rfl) ?_
      refine lv_iconst (v := 2) hx hb dL_refusesAny_203 (by decide) ?_
      refine lv_irem hx hb dL_refusesAny_204 (by decide) ?_
      refine lv_topi (fun x204 e204 => ?_)
      have t204 : x204.toInt = p1.toInt % 2 := by rw [e204]; exact xi_rem rfl (by decide) (by omega) (by omega)
      refine lv_if_ne (tgt := 212) hx hb dL_refusesAny_205 (by decide) (fun c205 => ?_) (fun c205 => ?_)
      · have t205 : ¬ x204.toInt = 0 := xi_ne rfl (by decide) c205
        have d205 : ¬ x204 = 0 := c205
        refine lv_bipush (v := 100) hx hb dL_refusesAny_212 (by decide) ?_
        exact J214 (100 : Int32) (by first | exact Or.inl rfl | exact Or.inr rfl) _ _ hP hD hS ls (lv_sub hl [0, 1, 2, 3] rfl)
      · have t205 : x204.toInt = 0 := xi_eq rfl (by decide) c205
        have d205 : x204 = 0 := c205
        refine lv_iconst (v := 0) hx hb dL_refusesAny_208 (by decide) ?_
        refine lv_goto (tgt := 214) hx hb dL_refusesAny_209 (by decide) ?_
        exact J214 (0 : Int32) (by first | exact Or.inl rfl | exact Or.inr rfl) _ _ hP hD hS ls (lv_sub hl [0, 1, 2, 3] rfl)
    refine lv_iload_n hx hb dL_refusesAny_181 rfl (lv_at hl 1 rfl) ?_
    refine lv_iconst (v := 2) hx hb dL_refusesAny_182 (by decide) ?_
    refine lv_irem hx hb dL_refusesAny_183 (by decide) ?_
    refine lv_topi (fun x183 e183 => ?_)
    have t183 : x183.toInt = p1.toInt % 2 := by rw [e183]; exact xi_rem rfl (by decide) (by omega) (by omega)
    refine lv_if_ne (tgt := 191) hx hb dL_refusesAny_184 (by decide) (fun c184 => ?_) (fun c184 => ?_)
    · have t184 : ¬ x183.toInt = 0 := xi_ne rfl (by decide) c184
      have d184 : ¬ x183 = 0 := c184
      refine lv_bipush (v := 10) hx hb dL_refusesAny_191 (by decide) ?_
      exact J193 (10 : Int32) (by first | exact Or.inl rfl | exact Or.inr rfl) _ _ hP hD hS ls (lv_sub hl [0, 1, 2, 3] rfl)
    · have t184 : x183.toInt = 0 := xi_eq rfl (by decide) c184
      have d184 : x183 = 0 := c184
      refine lv_iconst (v := 1) hx hb dL_refusesAny_187 (by decide) ?_
      refine lv_goto (tgt := 193) hx hb dL_refusesAny_188 (by decide) ?_
      exact J193 (1 : Int32) (by first | exact Or.inl rfl | exact Or.inr rfl) _ _ hP hD hS ls (lv_sub hl [0, 1, 2, 3] rfl)
  refine lv_iload_n hx hb dL_refusesAny_159 rfl (lv_at hl 1 rfl) ?_
  refine lv_iconst (v := 2) hx hb dL_refusesAny_160 (by decide) ?_
  refine lv_irem hx hb dL_refusesAny_161 (by decide) ?_
  refine lv_topi (fun x161 e161 => ?_)
  have t161 : x161.toInt = p1.toInt % 2 := by rw [e161]; exact xi_rem rfl (by decide) (by omega) (by omega)
  refine lv_if_ne (tgt := 169) hx hb dL_refusesAny_162 (by decide) (fun c162 => ?_) (fun c162 => ?_)
  · have t162 : ¬ x161.toInt = 0 := xi_ne rfl (by decide) c162
    have d162 : ¬ x161 = 0 := c162
    refine lv_bipush (v := 61) hx hb dL_refusesAny_169 (by decide) ?_
    exact J171 (61 : Int32) (by first | exact Or.inl rfl | exact Or.inr rfl) _ _ hP hD hS ls (lv_sub hl [0, 1, 2, 3] rfl)
  · have t162 : x161.toInt = 0 := xi_eq rfl (by decide) c162
    have d162 : x161 = 0 := c162
    refine lv_iconst (v := 4) hx hb dL_refusesAny_165 (by decide) ?_
    refine lv_goto (tgt := 171) hx hb dL_refusesAny_166 (by decide) ?_
    exact J171 (4 : Int32) (by first | exact Or.inl rfl | exact Or.inr rfl) _ _ hP hD hS ls (lv_sub hl [0, 1, 2, 3] rfl)

set_option maxHeartbeats 4000000 in
set_option maxRecDepth 100000 in
theorem lb_47 {p : Program} {e : Env} {s : State} {m : MethodId} {below : List Frame} {meth : Method} {c : Code} (l : Launch) {args : Array Value} {A : Nat → Prop} {Q : State → Prop} {D : va_G} {cI cZ cS : ClassId} (x0 : Nat) (xs : Nat) (xv : Nat) (ho0 : Nat) (ho1 : Nat) (pd0 : Nat) (pd1 : Nat) (m0 : Nat) (ts0 : Nat) (ts1 : Nat) (a : Nat → Nat) (ha : Nat → Nat → Nat) (sa : Nat → Nat → Nat) (cn : Nat → Nat → Int32) (cs : Nat → Nat → Nat → Int32) (sc : Nat → Nat → Nat → Int32) (tm : Nat → Int32) (tv : Nat → Int32) (pd : Nat → Int32) (sv : Nat → Int32) (old : Int32) (sz : Int32) (z : Nat → Int32) (past : Nat → Int32) (slots : Nat → Int32) (bd : Int) (p1 : Int32) (no : Int32) (b : Int32) (hLI : LI bd cn cs sc sv (0 : Int32) old sz z past slots) (hbd : bd ≤ 100000) (hp1 : 0 ≤ p1.toInt) (hno : no.toInt < 0 ∨ 12 ≤ no.toInt) (hb47 : (b.toInt = 1 ∧ canZ z) ∨ (b.toInt = 0 ∧ ¬ canZ z)) (hx : p.tables.exec = Jvm.exec) (hb : c.code = cL_refusesAny) (hr : meth.sig.returnType = (some .boolean)) (hts : ∀ w ∈ Cond.code yL_refusesAny cL_refusesAny 5 (some .boolean) :: wsL_law, w.before args s = true) (hown : s.vm.findClass yL_refusesAny.cls = some m.cls) (hlocks : meth.locks = false) (hml : c.maxLocals = 5) (hK : va_K D vwCl (xTy cI cZ cS) s) (hA : ∀ q : Nat, s.heap.size ≤ q → A q) (hN : xN s) (hZ : xZ A s) (hQ : Q = MQ below (va_Qi (fun (r : Int32) (u : (Nat → Int32)) => r = (1 : Int32)) (fun u t => va_P D vwCl ((fun (u : (Nat → Int32)) => (xwW cI cZ cS x0 xs xv ho0 ho1 pd0 pd1 m0 ts0 ts1 a ha sa cn cs sc u tv pd sv (0 : Int32) old sz z)) u) t.heap) A) args s 0 0 A) (H : Heap) (locs : List Loc) (hP : va_P D vwCl (xwW cI cZ cS x0 xs xv ho0 ho1 pd0 pd1 m0 ts0 ts1 a ha sa cn cs sc tm tv pd sv (0 : Int32) old sz z) H) (hD : va_D A (xwW cI cZ cS x0 xs xv ho0 ho1 pd0 pd1 m0 ts0 ts1 a ha sa cn cs sc tm tv pd sv (0 : Int32) old sz z)) (hS : va_S A s.heap H locs) (ls : Array Slot) (hl : lv_has ls 5 [(0, .ref x0), (1, .int p1), (2, .int no), (3, .int b)]) : W p l e ({ frames := 7, cells := 0, slots := 0, locals := 159 } : Room) s m args below meth c H locs 0 0 Q (F0 m 47 ls []) := by
  obtain ⟨hRS, hI, hBD, ⟨hold, hszz, hlnn⟩, hmcs, hmsc, hRH, hRL⟩ := id hLI
  obtain ⟨⟨hb74, hb74u⟩, ⟨hb86, hb86u⟩, hIP⟩ := id hBD
  have hs0 : (1 ≤ (z 0).toInt ∧ (z 0).toInt ≤ 9) ∧ (0 ≤ (z 1).toInt ∧ (z 1).toInt ≤ 9) ∧ (1 ≤ (z 2).toInt ∧ (z 2).toInt ≤ 9) ∧ (1 ≤ (z 3).toInt ∧ (z 3).toInt ≤ 20) ∧ (2 ≤ (z 5).toInt ∧ (z 5).toInt ≤ 9) := hI.1
  have hg6 : 0 ≤ (z 6).toInt ∧ (z 6).toInt ≤ 10 := hI.2.1.1
  have hr7 : 0 ≤ (z 7).toInt ∧ (z 7).toInt ≤ 12 := hI.2.2.1.1
  have z0 : (0 : Int32).toInt = 0 := by decide
  refine lv_aload_n hx hb dL_refusesAny_47 rfl (lv_at hl 0 rfl) ?_
  have J60 : ∀ (v51 : Int32) (hv51 : v51 = (-1) ∨ v51 = 6) (H : Heap) (locs : List Loc), va_P D vwCl (xwW cI cZ cS x0 xs xv ho0 ho1 pd0 pd1 m0 ts0 ts1 a ha sa cn cs sc tm tv pd sv (0 : Int32) old sz z) H → va_D A (xwW cI cZ cS x0 xs xv ho0 ho1 pd0 pd1 m0 ts0 ts1 a ha sa cn cs sc tm tv pd sv (0 : Int32) old sz z) → va_S A s.heap H locs → ∀ ls : Array Slot, lv_has ls 5 [(0, .ref x0), (1, .int p1), (2, .int no), (3, .int b)] → W p l e ({ frames := 7, cells := 0, slots := 0, locals := 159 } : Room) s m args below meth c H locs 0 0 Q (F0 m 60 ls [.int v51, .ref x0]) := by
    intro v51 hv51 H locs hP hD hS ls hl
    refine lv_iconst (v := 5) hx hb dL_refusesAny_60 (by decide) ?_
    refine xo_Vi (As := [.int v51, .int 5]) (rest := []) hx hb hml hown hts hK hN hZ hP hD hS hA mb_X7_set mw_3_8 mw_3_9 mw_3_10 (k_X7_set l D cI cZ cS x0 xs xv ho0 ho1 pd0 pd1 m0 ts0 ts1 a ha sa cn cs sc tm tv pd sv (0 : Int32) old sz z v51 (5 : Int32) hRS hI hold hszz) 0 7 rfl rfl (fun _ => xwW_f) (by decide) (by decide) rfl hl.1 rfl (Nat.le_of_ble_eq_true rfl) dL_refusesAny_61 ⟨Nat.zero_le _, Nat.zero_le _⟩ (fun r61 u61 H locs hw hP hD hS => ?_)
    obtain ⟨cq_61, zq_61, old1_61, sz1_61, cs1_61⟩ := u61
    have p61 : (setV v51 (5 : Int32) ∧ r61 = z v51.toInt.toNat ∧ Chg cn z old sz cs (beginZ (upd z v51.toInt.toNat (5 : Int32))) cq_61 zq_61 old1_61 sz1_61 cs1_61) ∨ (¬ setV v51 (5 : Int32) ∧ r61 = -2 ∧ Same cn z old sz cs cq_61 zq_61 old1_61 sz1_61 cs1_61) := hw
    have hP : va_P D vwCl (xwW cI cZ cS x0 xs xv ho0 ho1 pd0 pd1 m0 ts0 ts1 a ha sa cq_61 cs1_61 sc tm tv pd sv (0 : Int32) old1_61 sz1_61 zq_61) H := hP
    have hD : va_D A (xwW cI cZ cS x0 xs xv ho0 ho1 pd0 pd1 m0 ts0 ts1 a ha sa cq_61 cs1_61 sc tm tv pd sv (0 : Int32) old1_61 sz1_61 zq_61) := hD
    have w61 : r61 = -2 ∧ cq_61 = cn ∧ zq_61 = z ∧ old1_61 = old ∧ sz1_61 = sz ∧ cs1_61 = cs := by
      rcases p61 with ⟨c9, -⟩ | ⟨-, h9⟩
      · exact absurd c9 (by rcases hv51 with h9 | h9 <;> rw [h9] <;> decide)
      · exact h9
    obtain ⟨w61, w61_0, w61_1, w61_2, w61_3, w61_4⟩ := w61
    rw [w61_0, w61_1, w61_2, w61_3, w61_4] at hP hD
    have hP : va_P D vwCl (xwW cI cZ cS x0 xs xv ho0 ho1 pd0 pd1 m0 ts0 ts1 a ha sa cn cs sc tm tv pd sv (0 : Int32) old sz z) H := hP
    have hD : va_D A (xwW cI cZ cS x0 xs xv ho0 ho1 pd0 pd1 m0 ts0 ts1 a ha sa cn cs sc tm tv pd sv (0 : Int32) old sz z) := hD
    refine xk_top (z := (-2)) (by exact w61) ?_
    refine lv_bipush (v := (-2)) hx hb dL_refusesAny_64 (by decide) ?_
    refine lv_icmp_ne (tgt := 342) hx hb dL_refusesAny_66 (by decide) (fun c66 => absurd (by decide) c66) (fun _ => ?_)
    refine lv_aload_n hx hb dL_refusesAny_69 rfl (lv_at hl 0 rfl) ?_
    refine lv_iconst (v := 0) hx hb dL_refusesAny_70 (by decide) ?_
    have J83 : ∀ (v74 : Int32) (hv74 : v74 = 0 ∨ v74 = 10) (H : Heap) (locs : List Loc), va_P D vwCl (xwW cI cZ cS x0 xs xv ho0 ho1 pd0 pd1 m0 ts0 ts1 a ha sa cn cs sc tm tv pd sv (0 : Int32) old sz z) H → va_D A (xwW cI cZ cS x0 xs xv ho0 ho1 pd0 pd1 m0 ts0 ts1 a ha sa cn cs sc tm tv pd sv (0 : Int32) old sz z) → va_S A s.heap H locs → ∀ ls : Array Slot, lv_has ls 5 [(0, .ref x0), (1, .int p1), (2, .int no), (3, .int b)] → W p l e ({ frames := 7, cells := 0, slots := 0, locals := 159 } : Room) s m args below meth c H locs 0 0 Q (F0 m 83 ls [.int v74, .int 0, .ref x0]) := by
      intro v74 hv74 H locs hP hD hS ls hl
      refine xo_Vi (As := [.int 0, .int v74]) (rest := []) hx hb hml hown hts hK hN hZ hP hD hS hA mb_X7_set mw_3_8 mw_3_9 mw_3_10 (k_X7_set l D cI cZ cS x0 xs xv ho0 ho1 pd0 pd1 m0 ts0 ts1 a ha sa cn cs sc tm tv pd sv (0 : Int32) old sz z (0 : Int32) v74 hRS hI hold hszz) 0 7 rfl rfl (fun _ => xwW_f) (by decide) (by decide) rfl hl.1 rfl (Nat.le_of_ble_eq_true rfl) dL_refusesAny_83 ⟨Nat.zero_le _, Nat.zero_le _⟩ (fun r83 u83 H locs hw hP hD hS => ?_)
      obtain ⟨cq_83, zq_83, old1_83, sz1_83, cs1_83⟩ := u83
      have p83 : (setV (0 : Int32) v74 ∧ r83 = z 0 ∧ Chg cn z old sz cs (beginZ (upd z 0 v74)) cq_83 zq_83 old1_83 sz1_83 cs1_83) ∨ (¬ setV (0 : Int32) v74 ∧ r83 = -2 ∧ Same cn z old sz cs cq_83 zq_83 old1_83 sz1_83 cs1_83) := hw
      have hP : va_P D vwCl (xwW cI cZ cS x0 xs xv ho0 ho1 pd0 pd1 m0 ts0 ts1 a ha sa cq_83 cs1_83 sc tm tv pd sv (0 : Int32) old1_83 sz1_83 zq_83) H := hP
      have hD : va_D A (xwW cI cZ cS x0 xs xv ho0 ho1 pd0 pd1 m0 ts0 ts1 a ha sa cq_83 cs1_83 sc tm tv pd sv (0 : Int32) old1_83 sz1_83 zq_83) := hD
      have w83 : r83 = -2 ∧ cq_83 = cn ∧ zq_83 = z ∧ old1_83 = old ∧ sz1_83 = sz ∧ cs1_83 = cs := by
        rcases p83 with ⟨c9, -⟩ | ⟨-, h9⟩
        · exact absurd c9 (by rcases hv74 with h9 | h9 <;> rw [h9] <;> decide)
        · exact h9
      obtain ⟨w83, w83_0, w83_1, w83_2, w83_3, w83_4⟩ := w83
      rw [w83_0, w83_1, w83_2, w83_3, w83_4] at hP hD
      have hP : va_P D vwCl (xwW cI cZ cS x0 xs xv ho0 ho1 pd0 pd1 m0 ts0 ts1 a ha sa cn cs sc tm tv pd sv (0 : Int32) old sz z) H := hP
      have hD : va_D A (xwW cI cZ cS x0 xs xv ho0 ho1 pd0 pd1 m0 ts0 ts1 a ha sa cn cs sc tm tv pd sv (0 : Int32) old sz z) := hD
      refine xk_top (z := (-2)) (by exact w83) ?_
      refine lv_bipush (v := (-2)) hx hb dL_refusesAny_86 (by decide) ?_
      refine lv_icmp_ne (tgt := 342) hx hb dL_refusesAny_88 (by decide) (fun c88 => absurd (by decide) c88) (fun _ => ?_)
      refine lv_aload_n hx hb dL_refusesAny_91 rfl (lv_at hl 0 rfl) ?_
      refine lv_iconst (v := 1) hx hb dL_refusesAny_92 (by decide) ?_
      have J105 : ∀ (v96 : Int32) (hv96 : v96 = (-1) ∨ v96 = 10) (H : Heap) (locs : List Loc), va_P D vwCl (xwW cI cZ cS x0 xs xv ho0 ho1 pd0 pd1 m0 ts0 ts1 a ha sa cn cs sc tm tv pd sv (0 : Int32) old sz z) H → va_D A (xwW cI cZ cS x0 xs xv ho0 ho1 pd0 pd1 m0 ts0 ts1 a ha sa cn cs sc tm tv pd sv (0 : Int32) old sz z) → va_S A s.heap H locs → ∀ ls : Array Slot, lv_has ls 5 [(0, .ref x0), (1, .int p1), (2, .int no), (3, .int b)] → W p l e ({ frames := 7, cells := 0, slots := 0, locals := 159 } : Room) s m args below meth c H locs 0 0 Q (F0 m 105 ls [.int v96, .int 1, .ref x0]) := by
        intro v96 hv96 H locs hP hD hS ls hl
        refine xo_Vi (As := [.int 1, .int v96]) (rest := []) hx hb hml hown hts hK hN hZ hP hD hS hA mb_X7_set mw_3_8 mw_3_9 mw_3_10 (k_X7_set l D cI cZ cS x0 xs xv ho0 ho1 pd0 pd1 m0 ts0 ts1 a ha sa cn cs sc tm tv pd sv (0 : Int32) old sz z (1 : Int32) v96 hRS hI hold hszz) 0 7 rfl rfl (fun _ => xwW_f) (by decide) (by decide) rfl hl.1 rfl (Nat.le_of_ble_eq_true rfl) dL_refusesAny_105 ⟨Nat.zero_le _, Nat.zero_le _⟩ (fun r105 u105 H locs hw hP hD hS => ?_)
        obtain ⟨cq_105, zq_105, old1_105, sz1_105, cs1_105⟩ := u105
        have p105 : (setV (1 : Int32) v96 ∧ r105 = z 1 ∧ Chg cn z old sz cs (beginZ (upd z 1 v96)) cq_105 zq_105 old1_105 sz1_105 cs1_105) ∨ (¬ setV (1 : Int32) v96 ∧ r105 = -2 ∧ Same cn z old sz cs cq_105 zq_105 old1_105 sz1_105 cs1_105) := hw
        have hP : va_P D vwCl (xwW cI cZ cS x0 xs xv ho0 ho1 pd0 pd1 m0 ts0 ts1 a ha sa cq_105 cs1_105 sc tm tv pd sv (0 : Int32) old1_105 sz1_105 zq_105) H := hP
        have hD : va_D A (xwW cI cZ cS x0 xs xv ho0 ho1 pd0 pd1 m0 ts0 ts1 a ha sa cq_105 cs1_105 sc tm tv pd sv (0 : Int32) old1_105 sz1_105 zq_105) := hD
        have w105 : r105 = -2 ∧ cq_105 = cn ∧ zq_105 = z ∧ old1_105 = old ∧ sz1_105 = sz ∧ cs1_105 = cs := by
          rcases p105 with ⟨c9, -⟩ | ⟨-, h9⟩
          · exact absurd c9 (by rcases hv96 with h9 | h9 <;> rw [h9] <;> decide)
          · exact h9
        obtain ⟨w105, w105_0, w105_1, w105_2, w105_3, w105_4⟩ := w105
        rw [w105_0, w105_1, w105_2, w105_3, w105_4] at hP hD
        have hP : va_P D vwCl (xwW cI cZ cS x0 xs xv ho0 ho1 pd0 pd1 m0 ts0 ts1 a ha sa cn cs sc tm tv pd sv (0 : Int32) old sz z) H := hP
        have hD : va_D A (xwW cI cZ cS x0 xs xv ho0 ho1 pd0 pd1 m0 ts0 ts1 a ha sa cn cs sc tm tv pd sv (0 : Int32) old sz z) := hD
        refine xk_top (z := (-2)) (by exact w105) ?_
        refine lv_bipush (v := (-2)) hx hb dL_refusesAny_108 (by decide) ?_
        refine lv_icmp_ne (tgt := 342) hx hb dL_refusesAny_110 (by decide) (fun c110 => absurd (by decide) c110) (fun _ => ?_)
        refine lv_aload_n hx hb dL_refusesAny_113 rfl (lv_at hl 0 rfl) ?_
        refine lv_iconst (v := 2) hx hb dL_refusesAny_114 (by decide) ?_
        have J127 : ∀ (v118 : Int32) (hv118 : v118 = 0 ∨ v118 = 10) (H : Heap) (locs : List Loc), va_P D vwCl (xwW cI cZ cS x0 xs xv ho0 ho1 pd0 pd1 m0 ts0 ts1 a ha sa cn cs sc tm tv pd sv (0 : Int32) old sz z) H → va_D A (xwW cI cZ cS x0 xs xv ho0 ho1 pd0 pd1 m0 ts0 ts1 a ha sa cn cs sc tm tv pd sv (0 : Int32) old sz z) → va_S A s.heap H locs → ∀ ls : Array Slot, lv_has ls 5 [(0, .ref x0), (1, .int p1), (2, .int no), (3, .int b)] → W p l e ({ frames := 7, cells := 0, slots := 0, locals := 159 } : Room) s m args below meth c H locs 0 0 Q (F0 m 127 ls [.int v118, .int 2, .ref x0]) := by
          intro v118 hv118 H locs hP hD hS ls hl
          refine xo_Vi (As := [.int 2, .int v118]) (rest := []) hx hb hml hown hts hK hN hZ hP hD hS hA mb_X7_set mw_3_8 mw_3_9 mw_3_10 (k_X7_set l D cI cZ cS x0 xs xv ho0 ho1 pd0 pd1 m0 ts0 ts1 a ha sa cn cs sc tm tv pd sv (0 : Int32) old sz z (2 : Int32) v118 hRS hI hold hszz) 0 7 rfl rfl (fun _ => xwW_f) (by decide) (by decide) rfl hl.1 rfl (Nat.le_of_ble_eq_true rfl) dL_refusesAny_127 ⟨Nat.zero_le _, Nat.zero_le _⟩ (fun r127 u127 H locs hw hP hD hS => ?_)
          obtain ⟨cq_127, zq_127, old1_127, sz1_127, cs1_127⟩ := u127
          have p127 : (setV (2 : Int32) v118 ∧ r127 = z 2 ∧ Chg cn z old sz cs (beginZ (upd z 2 v118)) cq_127 zq_127 old1_127 sz1_127 cs1_127) ∨ (¬ setV (2 : Int32) v118 ∧ r127 = -2 ∧ Same cn z old sz cs cq_127 zq_127 old1_127 sz1_127 cs1_127) := hw
          have hP : va_P D vwCl (xwW cI cZ cS x0 xs xv ho0 ho1 pd0 pd1 m0 ts0 ts1 a ha sa cq_127 cs1_127 sc tm tv pd sv (0 : Int32) old1_127 sz1_127 zq_127) H := hP
          have hD : va_D A (xwW cI cZ cS x0 xs xv ho0 ho1 pd0 pd1 m0 ts0 ts1 a ha sa cq_127 cs1_127 sc tm tv pd sv (0 : Int32) old1_127 sz1_127 zq_127) := hD
          have w127 : r127 = -2 ∧ cq_127 = cn ∧ zq_127 = z ∧ old1_127 = old ∧ sz1_127 = sz ∧ cs1_127 = cs := by
            rcases p127 with ⟨c9, -⟩ | ⟨-, h9⟩
            · exact absurd c9 (by rcases hv118 with h9 | h9 <;> rw [h9] <;> decide)
            · exact h9
          obtain ⟨w127, w127_0, w127_1, w127_2, w127_3, w127_4⟩ := w127
          rw [w127_0, w127_1, w127_2, w127_3, w127_4] at hP hD
          have hP : va_P D vwCl (xwW cI cZ cS x0 xs xv ho0 ho1 pd0 pd1 m0 ts0 ts1 a ha sa cn cs sc tm tv pd sv (0 : Int32) old sz z) H := hP
          have hD : va_D A (xwW cI cZ cS x0 xs xv ho0 ho1 pd0 pd1 m0 ts0 ts1 a ha sa cn cs sc tm tv pd sv (0 : Int32) old sz z) := hD
          refine xk_top (z := (-2)) (by exact w127) ?_
          refine lv_bipush (v := (-2)) hx hb dL_refusesAny_130 (by decide) ?_
          refine lv_icmp_ne (tgt := 342) hx hb dL_refusesAny_132 (by decide) (fun c132 => absurd (by decide) c132) (fun _ => ?_)
          refine lv_aload_n hx hb dL_refusesAny_135 rfl (lv_at hl 0 rfl) ?_
          refine lv_iconst (v := 3) hx hb dL_refusesAny_136 (by decide) ?_
          have J149 : ∀ (v140 : Int32) (hv140 : v140 = 0 ∨ v140 = 21) (H : Heap) (locs : List Loc), va_P D vwCl (xwW cI cZ cS x0 xs xv ho0 ho1 pd0 pd1 m0 ts0 ts1 a ha sa cn cs sc tm tv pd sv (0 : Int32) old sz z) H → va_D A (xwW cI cZ cS x0 xs xv ho0 ho1 pd0 pd1 m0 ts0 ts1 a ha sa cn cs sc tm tv pd sv (0 : Int32) old sz z) → va_S A s.heap H locs → ∀ ls : Array Slot, lv_has ls 5 [(0, .ref x0), (1, .int p1), (2, .int no), (3, .int b)] → W p l e ({ frames := 7, cells := 0, slots := 0, locals := 159 } : Room) s m args below meth c H locs 0 0 Q (F0 m 149 ls [.int v140, .int 3, .ref x0]) := by
            intro v140 hv140 H locs hP hD hS ls hl
            refine xo_Vi (As := [.int 3, .int v140]) (rest := []) hx hb hml hown hts hK hN hZ hP hD hS hA mb_X7_set mw_3_8 mw_3_9 mw_3_10 (k_X7_set l D cI cZ cS x0 xs xv ho0 ho1 pd0 pd1 m0 ts0 ts1 a ha sa cn cs sc tm tv pd sv (0 : Int32) old sz z (3 : Int32) v140 hRS hI hold hszz) 0 7 rfl rfl (fun _ => xwW_f) (by decide) (by decide) rfl hl.1 rfl (Nat.le_of_ble_eq_true rfl) dL_refusesAny_149 ⟨Nat.zero_le _, Nat.zero_le _⟩ (fun r149 u149 H locs hw hP hD hS => ?_)
            obtain ⟨cq_149, zq_149, old1_149, sz1_149, cs1_149⟩ := u149
            have p149 : (setV (3 : Int32) v140 ∧ r149 = z 3 ∧ Chg cn z old sz cs (beginZ (upd z 3 v140)) cq_149 zq_149 old1_149 sz1_149 cs1_149) ∨ (¬ setV (3 : Int32) v140 ∧ r149 = -2 ∧ Same cn z old sz cs cq_149 zq_149 old1_149 sz1_149 cs1_149) := hw
            have hP : va_P D vwCl (xwW cI cZ cS x0 xs xv ho0 ho1 pd0 pd1 m0 ts0 ts1 a ha sa cq_149 cs1_149 sc tm tv pd sv (0 : Int32) old1_149 sz1_149 zq_149) H := hP
            have hD : va_D A (xwW cI cZ cS x0 xs xv ho0 ho1 pd0 pd1 m0 ts0 ts1 a ha sa cq_149 cs1_149 sc tm tv pd sv (0 : Int32) old1_149 sz1_149 zq_149) := hD
            have w149 : r149 = -2 ∧ cq_149 = cn ∧ zq_149 = z ∧ old1_149 = old ∧ sz1_149 = sz ∧ cs1_149 = cs := by
              rcases p149 with ⟨c9, -⟩ | ⟨-, h9⟩
              · exact absurd c9 (by rcases hv140 with h9 | h9 <;> rw [h9] <;> decide)
              · exact h9
            obtain ⟨w149, w149_0, w149_1, w149_2, w149_3, w149_4⟩ := w149
            rw [w149_0, w149_1, w149_2, w149_3, w149_4] at hP hD
            have hP : va_P D vwCl (xwW cI cZ cS x0 xs xv ho0 ho1 pd0 pd1 m0 ts0 ts1 a ha sa cn cs sc tm tv pd sv (0 : Int32) old sz z) H := hP
            have hD : va_D A (xwW cI cZ cS x0 xs xv ho0 ho1 pd0 pd1 m0 ts0 ts1 a ha sa cn cs sc tm tv pd sv (0 : Int32) old sz z) := hD
            refine xk_top (z := (-2)) (by exact w149) ?_
            refine lv_bipush (v := (-2)) hx hb dL_refusesAny_152 (by decide) ?_
            refine lv_icmp_ne (tgt := 342) hx hb dL_refusesAny_154 (by decide) (fun c154 => absurd (by decide) c154) (fun _ => ?_)
            exact lb_157 l x0 xs xv ho0 ho1 pd0 pd1 m0 ts0 ts1 a ha sa cn cs sc tm tv pd sv old sz z past slots bd p1 no b hLI (by first | assumption | omega) (by first | assumption | omega) (by first | assumption | omega) (by assumption) hx hb hr hts hown hlocks hml hK hA hN hZ hQ _ _ hP hD hS ls (lv_sub hl [0, 1, 2, 3] rfl)
          refine lv_iload_n hx hb dL_refusesAny_137 rfl (lv_at hl 1 rfl) ?_
          refine lv_iconst (v := 2) hx hb dL_refusesAny_138 (by decide) ?_
          refine lv_irem hx hb dL_refusesAny_139 (by decide) ?_
          refine lv_topi (fun x139 e139 => ?_)
          have t139 : x139.toInt = p1.toInt % 2 := by rw [e139]; exact xi_rem rfl (by decide) (by omega) (by omega)
          refine lv_if_ne (tgt := 147) hx hb dL_refusesAny_140 (by decide) (fun c140 => ?_) (fun c140 => ?_)
          · have t140 : ¬ x139.toInt = 0 := xi_ne rfl (by decide) c140
            have d140 : ¬ x139 = 0 := c140
            refine lv_bipush (v := 21) hx hb dL_refusesAny_147 (by decide) ?_
            exact J149 (21 : Int32) (by first | exact Or.inl rfl | exact Or.inr rfl) _ _ hP hD hS ls (lv_sub hl [0, 1, 2, 3] rfl)
          · have t140 : x139.toInt = 0 := xi_eq rfl (by decide) c140
            have d140 : x139 = 0 := c140
            refine lv_iconst (v := 0) hx hb dL_refusesAny_143 (by decide) ?_
            refine lv_goto (tgt := 149) hx hb dL_refusesAny_144 (by decide) ?_
            exact J149 (0 : Int32) (by first | exact Or.inl rfl | exact Or.inr rfl) _ _ hP hD hS ls (lv_sub hl [0, 1, 2, 3] rfl)
        refine lv_iload_n hx hb dL_refusesAny_115 rfl (lv_at hl 1 rfl) ?_
        refine lv_iconst (v := 2) hx hb dL_refusesAny_116 (by decide) ?_
        refine lv_irem hx hb dL_refusesAny_117 (by decide) ?_
        refine lv_topi (fun x117 e117 => ?_)
        have t117 : x117.toInt = p1.toInt % 2 := by rw [e117]; exact xi_rem rfl (by decide) (by omega) (by omega)
        refine lv_if_ne (tgt := 125) hx hb dL_refusesAny_118 (by decide) (fun c118 => ?_) (fun c118 => ?_)
        · have t118 : ¬ x117.toInt = 0 := xi_ne rfl (by decide) c118
          have d118 : ¬ x117 = 0 := c118
          refine lv_bipush (v := 10) hx hb dL_refusesAny_125 (by decide) ?_
          exact J127 (10 : Int32) (by first | exact Or.inl rfl | exact Or.inr rfl) _ _ hP hD hS ls (lv_sub hl [0, 1, 2, 3] rfl)
        · have t118 : x117.toInt = 0 := xi_eq rfl (by decide) c118
          have d118 : x117 = 0 := c118
          refine lv_iconst (v := 0) hx hb dL_refusesAny_121 (by decide) ?_
          refine lv_goto (tgt := 127) hx hb dL_refusesAny_122 (by decide) ?_
          exact J127 (0 : Int32) (by first | exact Or.inl rfl | exact Or.inr rfl) _ _ hP hD hS ls (lv_sub hl [0, 1, 2, 3] rfl)
      refine lv_iload_n hx hb dL_refusesAny_93 rfl (lv_at hl 1 rfl) ?_
      refine lv_iconst (v := 2) hx hb dL_refusesAny_94 (by decide) ?_
      refine lv_irem hx hb dL_refusesAny_95 (by decide) ?_
      refine lv_topi (fun x95 e95 => ?_)
      have t95 : x95.toInt = p1.toInt % 2 := by rw [e95]; exact xi_rem rfl (by decide) (by omega) (by omega)
      refine lv_if_ne (tgt := 103) hx hb dL_refusesAny_96 (by decide) (fun c96 => ?_) (fun c96 => ?_)
      · have t96 : ¬ x95.toInt = 0 := xi_ne rfl (by decide) c96
        have d96 : ¬ x95 = 0 := c96
        refine lv_bipush (v := 10) hx hb dL_refusesAny_103 (by decide) ?_
        exact J105 (10 : Int32) (by first | exact Or.inl rfl | exact Or.inr rfl) _ _ hP hD hS ls (lv_sub hl [0, 1, 2, 3] rfl)
      · have t96 : x95.toInt = 0 := xi_eq rfl (by decide) c96
        have d96 : x95 = 0 := c96
        refine lv_iconst (v := (-1)) hx hb dL_refusesAny_99 (by decide) ?_
        refine lv_goto (tgt := 105) hx hb dL_refusesAny_100 (by decide) ?_
        exact J105 (-1 : Int32) (by first | exact Or.inl rfl | exact Or.inr rfl) _ _ hP hD hS ls (lv_sub hl [0, 1, 2, 3] rfl)
    refine lv_iload_n hx hb dL_refusesAny_71 rfl (lv_at hl 1 rfl) ?_
    refine lv_iconst (v := 2) hx hb dL_refusesAny_72 (by decide) ?_
    refine lv_irem hx hb dL_refusesAny_73 (by decide) ?_
    refine lv_topi (fun x73 e73 => ?_)
    have t73 : x73.toInt = p1.toInt % 2 := by rw [e73]; exact xi_rem rfl (by decide) (by omega) (by omega)
    refine lv_if_ne (tgt := 81) hx hb dL_refusesAny_74 (by decide) (fun c74 => ?_) (fun c74 => ?_)
    · have t74 : ¬ x73.toInt = 0 := xi_ne rfl (by decide) c74
      have d74 : ¬ x73 = 0 := c74
      refine lv_bipush (v := 10) hx hb dL_refusesAny_81 (by decide) ?_
      exact J83 (10 : Int32) (by first | exact Or.inl rfl | exact Or.inr rfl) _ _ hP hD hS ls (lv_sub hl [0, 1, 2, 3] rfl)
    · have t74 : x73.toInt = 0 := xi_eq rfl (by decide) c74
      have d74 : x73 = 0 := c74
      refine lv_iconst (v := 0) hx hb dL_refusesAny_77 (by decide) ?_
      refine lv_goto (tgt := 83) hx hb dL_refusesAny_78 (by decide) ?_
      exact J83 (0 : Int32) (by first | exact Or.inl rfl | exact Or.inr rfl) _ _ hP hD hS ls (lv_sub hl [0, 1, 2, 3] rfl)
  refine lv_iload_n hx hb dL_refusesAny_48 rfl (lv_at hl 1 rfl) ?_
  refine lv_iconst (v := 2) hx hb dL_refusesAny_49 (by decide) ?_
  refine lv_irem hx hb dL_refusesAny_50 (by decide) ?_
  refine lv_topi (fun x50 e50 => ?_)
  have t50 : x50.toInt = p1.toInt % 2 := by rw [e50]; exact xi_rem rfl (by decide) (by omega) (by omega)
  refine lv_if_ne (tgt := 58) hx hb dL_refusesAny_51 (by decide) (fun c51 => ?_) (fun c51 => ?_)
  · have t51 : ¬ x50.toInt = 0 := xi_ne rfl (by decide) c51
    have d51 : ¬ x50 = 0 := c51
    refine lv_bipush (v := 6) hx hb dL_refusesAny_58 (by decide) ?_
    exact J60 (6 : Int32) (by first | exact Or.inl rfl | exact Or.inr rfl) _ _ hP hD hS ls (lv_sub hl [0, 1, 2, 3] rfl)
  · have t51 : x50.toInt = 0 := xi_eq rfl (by decide) c51
    have d51 : x50 = 0 := c51
    refine lv_iconst (v := (-1)) hx hb dL_refusesAny_54 (by decide) ?_
    refine lv_goto (tgt := 60) hx hb dL_refusesAny_55 (by decide) ?_
    exact J60 (-1 : Int32) (by first | exact Or.inl rfl | exact Or.inr rfl) _ _ hP hD hS ls (lv_sub hl [0, 1, 2, 3] rfl)
