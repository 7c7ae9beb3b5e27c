set_option maxHeartbeats 4000000 in
set_option maxRecDepth 100000 in
theorem la_text {p : Program} {e : Env} {s : State} {m : MethodId} {below : List Frame} {meth : Method} {c : Code} (l : Launch) {args : Array Value} {A : Nat → Prop} {Q : State → Prop} {D : va_G} {cI cZ cS : ClassId} (x0 : Nat) (xs : Nat) (xv : Nat) (ho0 : Nat) (ho1 : Nat) (pd0 : Nat) (pd1 : Nat) (m0 : Nat) (ts0 : Nat) (ts1 : Nat) (a : Nat → Nat) (ha : Nat → Nat → Nat) (sa : Nat → Nat → Nat) (cn : Nat → Nat → Int32) (cs : Nat → Nat → Nat → Int32) (sc : Nat → Nat → Nat → Int32) (tm : Nat → Int32) (tv : Nat → Int32) (pd : Nat → Int32) (sv : Nat → Int32) (old : Int32) (sz : Int32) (z : Nat → Int32) (past : Nat → Int32) (slots : Nat → Int32) (bd : Int) (p1 p2 ho y : Int32) (hLI : LI bd cn cs sc sv (0 : Int32) old sz z past slots) (hbd : bd ≤ 99000) (hx : p.tables.exec = Jvm.exec) (hb : c.code = cL_act) (hr : meth.sig.returnType = (some .int)) (hts : ∀ w ∈ Cond.code yL_act cL_act 10 (some .int) :: wsL_law, w.before args s = true) (hown : s.vm.findClass yL_act.cls = some m.cls) (hlocks : meth.locks = false) (hml : c.maxLocals = 10) (hK : va_K D vwCl (xTy cI cZ cS) s) (hA : ∀ q : Nat, s.heap.size ≤ q → A q) (hN : xN s) (hZ : xZ A s) (hQ : Q = MQ below (va_Qi (fun (r : Int32) (u : (Nat → Nat → Int32) × (Nat → Nat → Nat → Int32) × (Nat → Int32) × (Nat → Int32) × (Int32) × (Int32) × (Nat → Int32)) => ((r = 1 ∧ LI (bd + 500) u.1 u.2.1 sc sv (0 : Int32) u.2.2.2.2.1 u.2.2.2.2.2.1 u.2.2.2.2.2.2 (recP z past sz) slots ∧ u.2.2.2.2.2.1 = recS sz) ∨ (r = 0 ∧ LI bd u.1 u.2.1 sc sv (0 : Int32) u.2.2.2.2.1 u.2.2.2.2.2.1 u.2.2.2.2.2.2 past slots ∧ u.2.2.2.2.2.2 = z ∧ u.2.2.2.2.2.1 = sz)) ∧ (∀ k : Nat, 190 ≤ k → u.2.2.2.2.2.2 k = z k)) (fun u t => va_P D vwCl ((fun (u : (Nat → Nat → Int32) × (Nat → Nat → Nat → Int32) × (Nat → Int32) × (Nat → Int32) × (Int32) × (Int32) × (Nat → Int32)) => (xwW cI cZ cS x0 xs xv ho0 ho1 pd0 pd1 m0 ts0 ts1 a ha sa u.1 u.2.1 sc u.2.2.1 tv u.2.2.2.1 sv (0 : Int32) u.2.2.2.2.1 u.2.2.2.2.2.1 u.2.2.2.2.2.2)) u) t.heap) A) args s 0 0 A) (hy : 0 ≤ y.toInt) (H : Heap) (locs : List Loc) (hP : va_P D vwCl (xwW cI cZ cS x0 xs xv ho0 ho1 pd0 pd1 m0 ts0 ts1 a ha sa cn cs sc tm tv pd sv (0 : Int32) old sz z) H) (hD : va_D A (xwW cI cZ cS x0 xs xv ho0 ho1 pd0 pd1 m0 ts0 ts1 a ha sa cn cs sc tm tv pd sv (0 : Int32) old sz z)) (hS : va_S A s.heap H locs) (ls : Array Slot) (hl : lv_has ls 10 [(4, .int y), (3, .int ho), (0, .ref x0), (1, .int p1), (2, .int p2)]) : W p l e ({ frames := 7, cells := 0, slots := 0, locals := 159 } : Room) s m args below meth c H locs 0 0 Q (F0 m 23 ls []) := by
  obtain ⟨hRS, hI, hBD, ⟨hold, hszz, hlnn⟩, hmcs, hmsc, hRH, hRL⟩ := id hLI
  obtain ⟨⟨hb74, hb74u⟩, ⟨hb86, hb86u⟩, hIP⟩ := id hBD
  have hs0 : (1 ≤ (z 0).toInt ∧ (z 0).toInt ≤ 9) ∧ (0 ≤ (z 1).toInt ∧ (z 1).toInt ≤ 9) ∧ (1 ≤ (z 2).toInt ∧ (z 2).toInt ≤ 9) ∧ (1 ≤ (z 3).toInt ∧ (z 3).toInt ≤ 20) ∧ (2 ≤ (z 5).toInt ∧ (z 5).toInt ≤ 9) := hI.1
  have hg6 : 0 ≤ (z 6).toInt ∧ (z 6).toInt ≤ 10 := hI.2.1.1
  have hr7 : 0 ≤ (z 7).toInt ∧ (z 7).toInt ≤ 12 := hI.2.2.1.1
  have z0 : (0 : Int32).toInt = 0 := by decide
  refine lv_lconst (v := 0) hx hb dL_act_23 (by decide) ?_
  refine lv_lstore (lv' := [(5, .long 0), (4, .int y), (3, .int ho), (0, .ref x0), (1, .int p1), (2, .int p2)]) hx hb dL_act_24 hl (by decide) rfl (fun ls hl => ?_)
  refine lv_iconst (v := 1) hx hb dL_act_26 (by decide) ?_
  refine lv_iload hx hb dL_act_27 (lv_at hl 1 rfl) ?_
  refine lv_iconst (v := 4) hx hb dL_act_29 (by decide) ?_
  refine lv_irem hx hb dL_act_30 (by decide) ?_
  refine lv_topi (fun x30 e30 => ?_)
  have t30 : x30.toInt = y.toInt % 4 := by rw [e30]; exact xi_rem rfl (by decide) (by omega) (by omega)
  refine lv_iadd hx hb dL_act_31 ?_
  refine lv_topi (fun x31 e31 => ?_)
  have t31 : x31.toInt = 1 + x30.toInt := by rw [e31]; exact xi_add (by decide) rfl (by omega) (by omega)
  refine lv_istore (lv' := [(7, .int x31), (5, .long 0), (4, .int y), (3, .int ho), (0, .ref x0), (1, .int p1), (2, .int p2)]) hx hb dL_act_32 hl (by decide) rfl (fun ls hl => ?_)
  refine lv_iconst (v := 0) hx hb dL_act_34 (by decide) ?_
  refine lv_istore (lv' := [(8, .int 0), (7, .int x31), (5, .long 0), (4, .int y), (3, .int ho), (0, .ref x0), (1, .int p1), (2, .int p2)]) hx hb dL_act_35 hl (by decide) rfl (fun ls hl => ?_)
  have L37 : ∀ (n : Nat) (t0 : Int64) (k : Int32) (lt : List Nat) (hk : 0 ≤ k.toInt ∧ k.toInt ≤ x31.toInt) (ht0 : t0 = enT lt) (hlt : (lt.length : Int) = k.toInt) (hok : okT lt) (hn37 : (x31.toInt - k.toInt).toNat < n) (H : Heap) (locs : List Loc), va_P D vwCl (xwW cI cZ cS x0 xs xv ho0 ho1 pd0 pd1 m0 ts0 ts1 a ha sa cn cs sc tm tv pd sv (0 : Int32) old sz z) H → va_D A (xwW cI cZ cS x0 xs xv ho0 ho1 pd0 pd1 m0 ts0 ts1 a ha sa cn cs sc tm tv pd sv (0 : Int32) old sz z) → va_S A s.heap H locs → ∀ ls : Array Slot, lv_has ls 10 [(8, .int k), (7, .int x31), (5, .long t0), (4, .int y), (3, .int ho), (0, .ref x0), (1, .int p1), (2, .int p2)] → W p l e ({ frames := 7, cells := 0, slots := 0, locals := 159 } : Room) s m args below meth c H locs 0 0 Q (F0 m 37 ls []) := by
    intro n
    induction n with
    | zero =>
      intro t0 k lt hk ht0 hlt hok hn37
      exact absurd hn37 (Nat.not_lt_zero _)
    | succ n ih37 =>
      intro t0 k lt hk ht0 hlt hok hn37 H locs hP hD hS ls hl
      refine lv_iload hx hb dL_act_37 (lv_at hl 0 rfl) ?_
      refine lv_iload hx hb dL_act_39 (lv_at hl 1 rfl) ?_
      refine lv_icmp_ge (tgt := 130) hx hb dL_act_41 (by decide) (fun c41 => ?_) (fun c41 => ?_)
      · have t41 : x31.toInt ≤ k.toInt := xi_le rfl rfl c41
        have hle1 : 1 ≤ lt.length ∧ lt.length ≤ 4 := by omega
        have hchk := chk_all hok hle1.1 hle1.2
        have J148 : ∀ (g : Int32) (hg : g.toInt = 0 ∨ g.toInt = 1) (H : Heap) (locs : List Loc), va_P D vwCl (xwW cI cZ cS x0 xs xv ho0 ho1 pd0 pd1 m0 ts0 ts1 a ha sa cn cs sc tm tv pd sv (0 : Int32) old sz z) H → va_D A (xwW cI cZ cS x0 xs xv ho0 ho1 pd0 pd1 m0 ts0 ts1 a ha sa cn cs sc tm tv pd sv (0 : Int32) old sz z) → va_S A s.heap H locs → ∀ ls : Array Slot, lv_has ls 10 [(8, .int g), (7, .int x31), (5, .long t0), (4, .int y), (3, .int ho), (0, .ref x0), (1, .int p1), (2, .int p2)] → W p l e ({ frames := 7, cells := 0, slots := 0, locals := 159 } : Room) s m args below meth c H locs 0 0 Q (F0 m 148 ls []) := by
          intro g hg H locs hP hD hS ls hl
          refine lv_aload_n hx hb dL_act_148 rfl (lv_at hl 5 rfl) ?_
          refine lv_lload hx hb dL_act_149 (lv_at hl 2 rfl) ?_
          refine xo_Vi (As := [.long t0]) (rest := []) hx hb hml hown hts hK hN hZ hP hD hS hA mb_X7_put mw_3_89 mw_3_90 mw_3_91 (k_X7_put l D cI cZ cS x0 xs xv ho0 ho1 pd0 pd1 m0 ts0 ts1 a ha sa cn cs sc tm tv pd sv (0 : Int32) old sz z t0 hRS hI hlnn) 0 7 rfl rfl (fun _ => xwW_f) (by decide) (by decide) rfl hl.1 rfl (Nat.le_of_ble_eq_true rfl) dL_act_151 ⟨Nat.zero_le _, Nat.zero_le _⟩ (fun r151 u151 H locs hw hP hD hS => ?_)
          obtain ⟨ln1_151, pd1q_151⟩ := u151
          have p151 : putA t0 (0 : Int32) pd r151 ln1_151 pd1q_151 := hw
          have hP : va_P D vwCl (xwW cI cZ cS x0 xs xv ho0 ho1 pd0 pd1 m0 ts0 ts1 a ha sa cn cs sc tm tv pd1q_151 sv ln1_151 old sz z) H := hP
          have hD : va_D A (xwW cI cZ cS x0 xs xv ho0 ho1 pd0 pd1 m0 ts0 ts1 a ha sa cn cs sc tm tv pd1q_151 sv ln1_151 old sz z) := hD
          rw [ht0] at p151
          obtain ⟨a151, b151, n151, q151, hFN, hscT, hcmT⟩ := put_1 hchk (by omega) p151
          have hlnC : 0 ≤ ln1_151.toInt ∧ ln1_151.toInt ≤ 60 := by omega
          have hLI1 := LI_ln hLI hlnC
          refine lv_if_le (tgt := 185) hx hb dL_act_154 (by decide) (fun c154 => ?_) (fun c154 => ?_)
          · have t154 : r151.toInt ≤ 0 := xi_le rfl (by decide) c154
            omega
          · have t154 : 0 < r151.toInt := xi_nle rfl (by decide) c154
            refine lv_aload_n hx hb dL_act_157 rfl (lv_at hl 5 rfl) ?_
            refine xo_Vi (As := []) (rest := []) hx hb hml hown hts hK hN hZ hP hD hS hA mb_X7_fault mw_3_77 mw_3_78 mw_3_79 (k_X7_fault l D cI cZ cS x0 xs xv ho0 ho1 pd0 pd1 m0 ts0 ts1 a ha sa cn cs sc tm tv pd1q_151 sv ln1_151 old sz z hRS hI hlnC) 0 7 rfl rfl (fun _ => xwW_f) (by decide) (by decide) rfl hl.1 rfl (Nat.le_of_ble_eq_true rfl) dL_act_158 ⟨Nat.zero_le _, Nat.zero_le _⟩ (fun r158 u158 H locs hw hP hD hS => ?_)
            have p158 : (FN pd1q_151 ln1_151.toInt.toNat ∧ r158 = -6) ∨ (FA pd1q_151 ln1_151.toInt.toNat r158.toInt.toNat ∧ 0 ≤ r158.toInt ∧ r158.toInt ≤ ln1_151.toInt) := hw
            have hP : va_P D vwCl (xwW cI cZ cS x0 xs xv ho0 ho1 pd0 pd1 m0 ts0 ts1 a ha sa cn cs sc tm tv pd1q_151 sv ln1_151 old sz z) H := hP
            have hD : va_D A (xwW cI cZ cS x0 xs xv ho0 ho1 pd0 pd1 m0 ts0 ts1 a ha sa cn cs sc tm tv pd1q_151 sv ln1_151 old sz z) := hD
            refine xk_top (z := (-6)) (by exact p158.elim (fun h9 => h9.2) (fun h9 => absurd hFN (FA_FN h9.1))) ?_
            refine lv_bipush (v := (-6)) hx hb dL_act_161 (by decide) ?_
            refine lv_icmp_ne (tgt := 185) hx hb dL_act_163 (by decide) (fun c163 => absurd (by decide) c163) (fun _ => ?_)
            refine lv_iload hx hb dL_act_166 (lv_at hl 0 rfl) ?_
            refine lv_if_eq (tgt := 181) hx hb dL_act_168 (by decide) (fun c168 => ?_) (fun c168 => ?_)
            · have t168 : g.toInt = 0 := xi_eq rfl (by decide) c168
              have d168 : g = 0 := c168
              refine lv_iconst (v := 1) hx hb dL_act_181 (by decide) ?_
              refine lv_goto (tgt := 186) hx hb dL_act_182 (by decide) ?_
              refine lv_istore (lv' := [(9, .int 1), (8, .int g), (7, .int x31), (5, .long t0), (4, .int y), (3, .int ho), (0, .ref x0), (1, .int p1), (2, .int p2)]) hx hb dL_act_186 hl (by decide) rfl (fun ls hl => ?_)
              refine lv_iload hx hb dL_act_188 (lv_at hl 0 rfl) ?_
              refine lv_if_eq (tgt := 251) hx hb dL_act_190 (by decide) (fun c190 => absurd c190 (by decide)) (fun _ => ?_)
              refine lv_aload_n hx hb dL_act_193 rfl (lv_at hl 6 rfl) ?_
              refine xo_Vi (As := []) (rest := []) hx hb hml hown hts hK hN hZ hP hD hS hA mb_X7_read mw_3_45 mw_3_46 mw_3_47 (k_X7_read l D cI cZ cS x0 xs xv ho0 ho1 pd0 pd1 m0 ts0 ts1 a ha sa cn cs sc tm tv pd1q_151 sv ln1_151 old sz z hRS hI hold hszz hlnC) 0 7 rfl rfl (fun _ => xwW_f) (by decide) (by decide) rfl hl.1 rfl (Nat.le_of_ble_eq_true rfl) dL_act_194 ⟨Nat.zero_le _, Nat.zero_le _⟩ (fun r194 u194 H locs hw hP hD hS => ?_)
              obtain ⟨cq_194, zq_194, old1_194, sz1_194, cs1_194, ln1_194⟩ := u194
              have p194 : (FN pd1q_151 ln1_151.toInt.toNat ∧ r194 = cq_194 7 0 ∧ ln1_194 = 0 ∧ zq_194 = beginZ z ∧ WrI pd1q_151 ln1_151.toInt.toNat (cq_194 7 0) (cq_194 1) (cq_194 2) (cq_194 3) ∧ cq_194 0 = cn 0 ∧ cq_194 4 = cn 4 ∧ cq_194 5 = cn 5 ∧ cq_194 6 = cn 6 ∧ cq_194 7 1 = cn 7 1 ∧ old1_194 = oldR old sz ∧ sz1_194 = szR sz ∧ cs1_194 = recC cs (cZm cn z) (jR old sz)) ∨ (¬ FN pd1q_151 ln1_151.toInt.toNat ∧ r194 = -3 ∧ ln1_194 = ln1_151 ∧ Same cn z old sz cs cq_194 zq_194 old1_194 sz1_194 cs1_194) := hw
              have hP : va_P D vwCl (xwW cI cZ cS x0 xs xv ho0 ho1 pd0 pd1 m0 ts0 ts1 a ha sa cq_194 cs1_194 sc tm tv pd1q_151 sv ln1_194 old1_194 sz1_194 zq_194) H := hP
              have hD : va_D A (xwW cI cZ cS x0 xs xv ho0 ho1 pd0 pd1 m0 ts0 ts1 a ha sa cq_194 cs1_194 sc tm tv pd1q_151 sv ln1_194 old1_194 sz1_194 zq_194) := hD
              obtain ⟨z1, hRZ, hz6, hLI3, hzq, hsz1, hl0⟩ := LI_readP hLI1 hFN p194
              rw [xwW_z (zq := zq_194) (z := z1) hzq, hsz1, hl0] at hP hD
              rw [hsz1] at hLI3
              have hLI2 := LI_mono (show bd ≤ bd + 500 by omega) hLI3
              obtain ⟨hRS2, hI2, -, ⟨hold2, hsz2, -⟩, -⟩ := id hLI2
              obtain ⟨hbg1, h811, hhi⟩ := Read_beg hRZ
              have htl : ∀ k : Nat, 190 ≤ k → z1 k = z k := hhi
              obtain ⟨hr6, hr8⟩ := read_is hRZ hscT hcmT
              have hr194 : r194.toInt = (z1 6).toInt := by rw [hz6]
              have hP : va_P D vwCl (xwW cI cZ cS x0 xs xv ho0 ho1 pd0 pd1 m0 ts0 ts1 a ha sa cq_194 cs1_194 sc tm tv pd1q_151 sv (0 : Int32) old1_194 (recS sz) z1) H := hP
              have hD : va_D A (xwW cI cZ cS x0 xs xv ho0 ho1 pd0 pd1 m0 ts0 ts1 a ha sa cq_194 cs1_194 sc tm tv pd1q_151 sv (0 : Int32) old1_194 (recS sz) z1) := hD
              refine lv_iload hx hb dL_act_197 (lv_at hl 1 rfl) ?_
              refine lv_if_eq (tgt := 206) hx hb dL_act_199 (by decide) (fun c199 => ?_) (fun c199 => ?_)
              · have t199 : g.toInt = 0 := xi_eq rfl (by decide) c199
                have d199 : g = 0 := c199
                refine lv_iconst (v := 1) hx hb dL_act_206 (by decide) ?_
                refine lv_icmp_ne (tgt := 251) hx hb dL_act_207 (by decide) (fun c207 => ?_) (fun c207 => ?_)
                · have t207 : ¬ r194.toInt = 1 := xi_ne rfl (by decide) c207
                  have d207 : ¬ r194 = 1 := c207
                  omega
                · have t207 : r194.toInt = 1 := xi_eq rfl (by decide) c207
                  have d207 : r194 = 1 := c207
                  refine lv_aload_n hx hb dL_act_210 rfl (lv_at hl 6 rfl) ?_
                  refine lv_bipush (v := 6) hx hb dL_act_211 (by decide) ?_
                  refine xo_Vi (As := [.int 6]) (rest := []) hx hb hml hown hts hK hN hZ hP hD hS hA mb_X7_count mw_2_6 mw_2_7 mw_2_8 (k_X7_count l D cI cZ cS x0 xs xv ho0 ho1 pd0 pd1 m0 ts0 ts1 a ha sa cq_194 cs1_194 sc tm tv pd1q_151 sv (0 : Int32) old1_194 (recS sz) z1 (6 : Int32) hRS2 hI2) 0 7 rfl rfl (fun _ => xwW_f) (by decide) (by decide) rfl hl.1 rfl (Nat.le_of_ble_eq_true rfl) dL_act_213 ⟨Nat.zero_le _, Nat.zero_le _⟩ (fun r213 u213 H locs hw hP hD hS => ?_)
                  have p213 : r213 = cntR z1 (0 : Int32) (recS sz) (6 : Int32) := hw
                  have hP : va_P D vwCl (xwW cI cZ cS x0 xs xv ho0 ho1 pd0 pd1 m0 ts0 ts1 a ha sa cq_194 cs1_194 sc tm tv pd1q_151 sv (0 : Int32) old1_194 (recS sz) z1) H := hP
                  have hD : va_D A (xwW cI cZ cS x0 xs xv ho0 ho1 pd0 pd1 m0 ts0 ts1 a ha sa cq_194 cs1_194 sc tm tv pd1q_151 sv (0 : Int32) old1_194 (recS sz) z1) := hD
                  refine xk_top (z := (z1 6)) (by exact p213.trans (ct_6 _ _ _)) ?_
                  refine lv_iload hx hb dL_act_216 (lv_at hl 1 rfl) ?_
                  refine lv_if_eq (tgt := 225) hx hb dL_act_218 (by decide) (fun c218 => ?_) (fun c218 => ?_)
                  · have t218 : g.toInt = 0 := xi_eq rfl (by decide) c218
                    have d218 : g = 0 := c218
                    refine lv_iconst (v := 1) hx hb dL_act_225 (by decide) ?_
                    refine lv_icmp_ne (tgt := 251) hx hb dL_act_226 (by decide) (fun c226 => ?_) (fun c226 => ?_)
                    · have t226 : ¬ (z1 6).toInt = 1 := xi_ne rfl (by decide) c226
                      have d226 : ¬ (z1 6) = 1 := c226
                      omega
                    · have t226 : (z1 6).toInt = 1 := xi_eq rfl (by decide) c226
                      have d226 : (z1 6) = 1 := c226
                      refine lv_aload_n hx hb dL_act_229 rfl (lv_at hl 6 rfl) ?_
                      refine lv_iconst (v := 0) hx hb dL_act_230 (by decide) ?_
                      refine lv_iconst (v := 0) hx hb dL_act_231 (by decide) ?_
                      refine xo_Vi (As := [.int 0, .int 0]) (rest := []) hx hb hml hown hts hK hN hZ hP hD hS hA mb_X7_line mw_2_150 mw_2_151 mw_2_152 (k_X7_line l D cI cZ cS x0 xs xv ho0 ho1 pd0 pd1 m0 ts0 ts1 a ha sa cq_194 cs1_194 sc tm tv pd1q_151 sv (0 : Int32) old1_194 (recS sz) z1 (0 : Int32) (0 : Int32) hRS2 hI2) 0 7 rfl rfl (fun _ => xwW_f) (by decide) (by decide) rfl hl.1 rfl (Nat.le_of_ble_eq_true rfl) dL_act_232 ⟨Nat.zero_le _, Nat.zero_le _⟩ (fun r232 u232 H locs hw hP hD hS => ?_)
                      have p232 : r232 = lineR z1 (0 : Int32) (0 : Int32) := hw
                      have hP : va_P D vwCl (xwW cI cZ cS x0 xs xv ho0 ho1 pd0 pd1 m0 ts0 ts1 a ha sa cq_194 cs1_194 sc tm tv pd1q_151 sv (0 : Int32) old1_194 (recS sz) z1) H := hP
                      have hD : va_D A (xwW cI cZ cS x0 xs xv ho0 ho1 pd0 pd1 m0 ts0 ts1 a ha sa cq_194 cs1_194 sc tm tv pd1q_151 sv (0 : Int32) old1_194 (recS sz) z1) := hD
                      refine xk_top (z := (z1 8)) (by exact p232.trans (ln_0 (line0 (by omega)))) ?_
                      refine lv_iload hx hb dL_act_235 (lv_at hl 2 rfl) ?_
                      refine lv_icmp_ne (tgt := 251) hx hb dL_act_237 (by decide) (fun c237 => ?_) (fun c237 => ?_)
                      · have t237 : ¬ (z1 8).toInt = x31.toInt := xi_ne rfl rfl c237
                        have d237 : ¬ (z1 8) = x31 := c237
                        omega
                      · have t237 : (z1 8).toInt = x31.toInt := xi_eq rfl rfl c237
                        have d237 : (z1 8) = x31 := c237
                        refine lv_aload_n hx hb dL_act_240 rfl (lv_at hl 6 rfl) ?_
                        refine xo_Si (As := [.ref x0]) (rest := []) hx hb hml hown hts hK hN hZ hP hD hS hA mb_L_isBegun mw_3_81 mw_3_82 (c_L_isBegun l D cI cZ cS x0 xs xv ho0 ho1 pd0 pd1 m0 ts0 ts1 a ha sa cq_194 cs1_194 sc tm tv pd1q_151 sv (0 : Int32) old1_194 (recS sz) z1 (recP z past sz) slots (bd + 500) hLI2 (by first | omega | assumption) hbg1 h811) (fun _ => xwW_f) (by decide) (by decide) rfl hl.1 rfl (Nat.le_of_ble_eq_true rfl) dL_act_241 ⟨Nat.zero_le _, Nat.zero_le _⟩ (fun r241 u241 H locs hw hP hD hS => ?_)
                        have p241 : r241 = (1 : Int32) := hw
                        have hP : va_P D vwCl (xwW cI cZ cS x0 xs xv ho0 ho1 pd0 pd1 m0 ts0 ts1 a ha sa cq_194 cs1_194 sc tm tv pd1q_151 sv (0 : Int32) old1_194 (recS sz) z1) H := hP
                        have hD : va_D A (xwW cI cZ cS x0 xs xv ho0 ho1 pd0 pd1 m0 ts0 ts1 a ha sa cq_194 cs1_194 sc tm tv pd1q_151 sv (0 : Int32) old1_194 (recS sz) z1) := hD
                        refine xk_top (z := 1) (by exact p241) ?_
                        refine lv_if_eq (tgt := 251) hx hb dL_act_244 (by decide) (fun c244 => absurd c244 (by decide)) (fun _ => ?_)
                        refine lv_iconst (v := 1) hx hb dL_act_247 (by decide) ?_
                        refine lv_goto (tgt := 253) hx hb dL_act_248 (by decide) ?_
                        exact xk_reti (cq_194, cs1_194, tm, pd1q_151, old1_194, (recS sz), z1) hx hb hr hlocks (xk_P hP (by rfl)) (by (try dsimp only); exact ⟨Or.inl ⟨rfl, hLI2, rfl⟩, htl⟩) hS dL_act_253 hQ
                  · have t218 : ¬ g.toInt = 0 := xi_ne rfl (by decide) c218
                    have d218 : ¬ g = 0 := c218
                    omega
              · have t199 : ¬ g.toInt = 0 := xi_ne rfl (by decide) c199
                have d199 : ¬ g = 0 := c199
                omega
            · have t168 : ¬ g.toInt = 0 := xi_ne rfl (by decide) c168
              have d168 : ¬ g = 0 := c168
              refine lv_aload_n hx hb dL_act_171 rfl (lv_at hl 5 rfl) ?_
              refine lv_ldc2 (v := 12149) hx hb hown (hts _ (List.mem_cons_of_mem _ mw_3_105)) dL_act_172 ?_
              refine xo_Vi (As := [.long 12149]) (rest := []) hx hb hml hown hts hK hN hZ hP hD hS hA mb_X7_put mw_3_89 mw_3_90 mw_3_91 (k_X7_put l D cI cZ cS x0 xs xv ho0 ho1 pd0 pd1 m0 ts0 ts1 a ha sa cn cs sc tm tv pd1q_151 sv ln1_151 old sz z (12149 : Int64) hRS hI hlnC) 0 7 rfl rfl (fun _ => xwW_f) (by decide) (by decide) rfl hl.1 rfl (Nat.le_of_ble_eq_true rfl) dL_act_175 ⟨Nat.zero_le _, Nat.zero_le _⟩ (fun r175 u175 H locs hw hP hD hS => ?_)
              obtain ⟨ln1_175, pd1q_175⟩ := u175
              have p175 : putA (12149 : Int64) ln1_151 pd1q_151 r175 ln1_175 pd1q_175 := hw
              have hP : va_P D vwCl (xwW cI cZ cS x0 xs xv ho0 ho1 pd0 pd1 m0 ts0 ts1 a ha sa cn cs sc tm tv pd1q_175 sv ln1_175 old sz z) H := hP
              have hD : va_D A (xwW cI cZ cS x0 xs xv ho0 ho1 pd0 pd1 m0 ts0 ts1 a ha sa cn cs sc tm tv pd1q_175 sv ln1_175 old sz z) := hD
              obtain ⟨a175, b175, hFN, hscT, hcmT⟩ := put_2 hchk b151 q151 p175
              have hlnC : 0 ≤ ln1_175.toInt ∧ ln1_175.toInt ≤ 60 := by omega
              have hLI1 := LI_ln hLI hlnC
              refine lv_if_le (tgt := 185) hx hb dL_act_178 (by decide) (fun c178 => ?_) (fun c178 => ?_)
              · have t178 : r175.toInt ≤ 0 := xi_le rfl (by decide) c178
                omega
              · have t178 : 0 < r175.toInt := xi_nle rfl (by decide) c178
                refine lv_iconst (v := 1) hx hb dL_act_181 (by decide) ?_
                refine lv_goto (tgt := 186) hx hb dL_act_182 (by decide) ?_
                refine lv_istore (lv' := [(9, .int 1), (8, .int g), (7, .int x31), (5, .long t0), (4, .int y), (3, .int ho), (0, .ref x0), (1, .int p1), (2, .int p2)]) hx hb dL_act_186 hl (by decide) rfl (fun ls hl => ?_)
                refine lv_iload hx hb dL_act_188 (lv_at hl 0 rfl) ?_
                refine lv_if_eq (tgt := 251) hx hb dL_act_190 (by decide) (fun c190 => absurd c190 (by decide)) (fun _ => ?_)
                refine lv_aload_n hx hb dL_act_193 rfl (lv_at hl 6 rfl) ?_
                refine xo_Vi (As := []) (rest := []) hx hb hml hown hts hK hN hZ hP hD hS hA mb_X7_read mw_3_45 mw_3_46 mw_3_47 (k_X7_read l D cI cZ cS x0 xs xv ho0 ho1 pd0 pd1 m0 ts0 ts1 a ha sa cn cs sc tm tv pd1q_175 sv ln1_175 old sz z hRS hI hold hszz hlnC) 0 7 rfl rfl (fun _ => xwW_f) (by decide) (by decide) rfl hl.1 rfl (Nat.le_of_ble_eq_true rfl) dL_act_194 ⟨Nat.zero_le _, Nat.zero_le _⟩ (fun r194 u194 H locs hw hP hD hS => ?_)
                obtain ⟨cq_194, zq_194, old1_194, sz1_194, cs1_194, ln1_194⟩ := u194
                have p194 : (FN pd1q_175 ln1_175.toInt.toNat ∧ r194 = cq_194 7 0 ∧ ln1_194 = 0 ∧ zq_194 = beginZ z ∧ WrI pd1q_175 ln1_175.toInt.toNat (cq_194 7 0) (cq_194 1) (cq_194 2) (cq_194 3) ∧ cq_194 0 = cn 0 ∧ cq_194 4 = cn 4 ∧ cq_194 5 = cn 5 ∧ cq_194 6 = cn 6 ∧ cq_194 7 1 = cn 7 1 ∧ old1_194 = oldR old sz ∧ sz1_194 = szR sz ∧ cs1_194 = recC cs (cZm cn z) (jR old sz)) ∨ (¬ FN pd1q_175 ln1_175.toInt.toNat ∧ r194 = -3 ∧ ln1_194 = ln1_175 ∧ Same cn z old sz cs cq_194 zq_194 old1_194 sz1_194 cs1_194) := hw
                have hP : va_P D vwCl (xwW cI cZ cS x0 xs xv ho0 ho1 pd0 pd1 m0 ts0 ts1 a ha sa cq_194 cs1_194 sc tm tv pd1q_175 sv ln1_194 old1_194 sz1_194 zq_194) H := hP
                have hD : va_D A (xwW cI cZ cS x0 xs xv ho0 ho1 pd0 pd1 m0 ts0 ts1 a ha sa cq_194 cs1_194 sc tm tv pd1q_175 sv ln1_194 old1_194 sz1_194 zq_194) := hD
                obtain ⟨z1, hRZ, hz6, hLI3, hzq, hsz1, hl0⟩ := LI_readP hLI1 hFN p194
                rw [xwW_z (zq := zq_194) (z := z1) hzq, hsz1, hl0] at hP hD
                rw [hsz1] at hLI3
                have hLI2 := LI_mono (show bd ≤ bd + 500 by omega) hLI3
                obtain ⟨hRS2, hI2, -, ⟨hold2, hsz2, -⟩, -⟩ := id hLI2
                obtain ⟨hbg1, h811, hhi⟩ := Read_beg hRZ
                have htl : ∀ k : Nat, 190 ≤ k → z1 k = z k := hhi
                obtain ⟨hr6, hr8⟩ := read_is hRZ hscT hcmT
                have hr194 : r194.toInt = (z1 6).toInt := by rw [hz6]
                have hP : va_P D vwCl (xwW cI cZ cS x0 xs xv ho0 ho1 pd0 pd1 m0 ts0 ts1 a ha sa cq_194 cs1_194 sc tm tv pd1q_175 sv (0 : Int32) old1_194 (recS sz) z1) H := hP
                have hD : va_D A (xwW cI cZ cS x0 xs xv ho0 ho1 pd0 pd1 m0 ts0 ts1 a ha sa cq_194 cs1_194 sc tm tv pd1q_175 sv (0 : Int32) old1_194 (recS sz) z1) := hD
                refine lv_iload hx hb dL_act_197 (lv_at hl 1 rfl) ?_
                refine lv_if_eq (tgt := 206) hx hb dL_act_199 (by decide) (fun c199 => ?_) (fun c199 => ?_)
                · have t199 : g.toInt = 0 := xi_eq rfl (by decide) c199
                  have d199 : g = 0 := c199
                  omega
                · have t199 : ¬ g.toInt = 0 := xi_ne rfl (by decide) c199
                  have d199 : ¬ g = 0 := c199
                  refine lv_iconst (v := 2) hx hb dL_act_202 (by decide) ?_
                  refine lv_goto (tgt := 207) hx hb dL_act_203 (by decide) ?_
                  refine lv_icmp_ne (tgt := 251) hx hb dL_act_207 (by decide) (fun c207 => ?_) (fun c207 => ?_)
                  · have t207 : ¬ r194.toInt = 2 := xi_ne rfl (by decide) c207
                    have d207 : ¬ r194 = 2 := c207
                    omega
                  · have t207 : r194.toInt = 2 := xi_eq rfl (by decide) c207
                    have d207 : r194 = 2 := c207
                    refine lv_aload_n hx hb dL_act_210 rfl (lv_at hl 6 rfl) ?_
                    refine lv_bipush (v := 6) hx hb dL_act_211 (by decide) ?_
                    refine xo_Vi (As := [.int 6]) (rest := []) hx hb hml hown hts hK hN hZ hP hD hS hA mb_X7_count mw_2_6 mw_2_7 mw_2_8 (k_X7_count l D cI cZ cS x0 xs xv ho0 ho1 pd0 pd1 m0 ts0 ts1 a ha sa cq_194 cs1_194 sc tm tv pd1q_175 sv (0 : Int32) old1_194 (recS sz) z1 (6 : Int32) hRS2 hI2) 0 7 rfl rfl (fun _ => xwW_f) (by decide) (by decide) rfl hl.1 rfl (Nat.le_of_ble_eq_true rfl) dL_act_213 ⟨Nat.zero_le _, Nat.zero_le _⟩ (fun r213 u213 H locs hw hP hD hS => ?_)
                    have p213 : r213 = cntR z1 (0 : Int32) (recS sz) (6 : Int32) := hw
                    have hP : va_P D vwCl (xwW cI cZ cS x0 xs xv ho0 ho1 pd0 pd1 m0 ts0 ts1 a ha sa cq_194 cs1_194 sc tm tv pd1q_175 sv (0 : Int32) old1_194 (recS sz) z1) H := hP
                    have hD : va_D A (xwW cI cZ cS x0 xs xv ho0 ho1 pd0 pd1 m0 ts0 ts1 a ha sa cq_194 cs1_194 sc tm tv pd1q_175 sv (0 : Int32) old1_194 (recS sz) z1) := hD
                    refine xk_top (z := (z1 6)) (by exact p213.trans (ct_6 _ _ _)) ?_
                    refine lv_iload hx hb dL_act_216 (lv_at hl 1 rfl) ?_
                    refine lv_if_eq (tgt := 225) hx hb dL_act_218 (by decide) (fun c218 => ?_) (fun c218 => ?_)
                    · have t218 : g.toInt = 0 := xi_eq rfl (by decide) c218
                      have d218 : g = 0 := c218
                      omega
                    · have t218 : ¬ g.toInt = 0 := xi_ne rfl (by decide) c218
                      have d218 : ¬ g = 0 := c218
                      refine lv_iconst (v := 2) hx hb dL_act_221 (by decide) ?_
                      refine lv_goto (tgt := 226) hx hb dL_act_222 (by decide) ?_
                      refine lv_icmp_ne (tgt := 251) hx hb dL_act_226 (by decide) (fun c226 => ?_) (fun c226 => ?_)
                      · have t226 : ¬ (z1 6).toInt = 2 := xi_ne rfl (by decide) c226
                        have d226 : ¬ (z1 6) = 2 := c226
                        omega
                      · have t226 : (z1 6).toInt = 2 := xi_eq rfl (by decide) c226
                        have d226 : (z1 6) = 2 := c226
                        refine lv_aload_n hx hb dL_act_229 rfl (lv_at hl 6 rfl) ?_
                        refine lv_iconst (v := 0) hx hb dL_act_230 (by decide) ?_
                        refine lv_iconst (v := 0) hx hb dL_act_231 (by decide) ?_
                        refine xo_Vi (As := [.int 0, .int 0]) (rest := []) hx hb hml hown hts hK hN hZ hP hD hS hA mb_X7_line mw_2_150 mw_2_151 mw_2_152 (k_X7_line l D cI cZ cS x0 xs xv ho0 ho1 pd0 pd1 m0 ts0 ts1 a ha sa cq_194 cs1_194 sc tm tv pd1q_175 sv (0 : Int32) old1_194 (recS sz) z1 (0 : Int32) (0 : Int32) hRS2 hI2) 0 7 rfl rfl (fun _ => xwW_f) (by decide) (by decide) rfl hl.1 rfl (Nat.le_of_ble_eq_true rfl) dL_act_232 ⟨Nat.zero_le _, Nat.zero_le _⟩ (fun r232 u232 H locs hw hP hD hS => ?_)
                        have p232 : r232 = lineR z1 (0 : Int32) (0 : Int32) := hw
                        have hP : va_P D vwCl (xwW cI cZ cS x0 xs xv ho0 ho1 pd0 pd1 m0 ts0 ts1 a ha sa cq_194 cs1_194 sc tm tv pd1q_175 sv (0 : Int32) old1_194 (recS sz) z1) H := hP
                        have hD : va_D A (xwW cI cZ cS x0 xs xv ho0 ho1 pd0 pd1 m0 ts0 ts1 a ha sa cq_194 cs1_194 sc tm tv pd1q_175 sv (0 : Int32) old1_194 (recS sz) z1) := hD
                        refine xk_top (z := (z1 8)) (by exact p232.trans (ln_0 (line0 (by omega)))) ?_
                        refine lv_iload hx hb dL_act_235 (lv_at hl 2 rfl) ?_
                        refine lv_icmp_ne (tgt := 251) hx hb dL_act_237 (by decide) (fun c237 => ?_) (fun c237 => ?_)
                        · have t237 : ¬ (z1 8).toInt = x31.toInt := xi_ne rfl rfl c237
                          have d237 : ¬ (z1 8) = x31 := c237
                          omega
                        · have t237 : (z1 8).toInt = x31.toInt := xi_eq rfl rfl c237
                          have d237 : (z1 8) = x31 := c237
                          refine lv_aload_n hx hb dL_act_240 rfl (lv_at hl 6 rfl) ?_
                          refine xo_Si (As := [.ref x0]) (rest := []) hx hb hml hown hts hK hN hZ hP hD hS hA mb_L_isBegun mw_3_81 mw_3_82 (c_L_isBegun l D cI cZ cS x0 xs xv ho0 ho1 pd0 pd1 m0 ts0 ts1 a ha sa cq_194 cs1_194 sc tm tv pd1q_175 sv (0 : Int32) old1_194 (recS sz) z1 (recP z past sz) slots (bd + 500) hLI2 (by first | omega | assumption) hbg1 h811) (fun _ => xwW_f) (by decide) (by decide) rfl hl.1 rfl (Nat.le_of_ble_eq_true rfl) dL_act_241 ⟨Nat.zero_le _, Nat.zero_le _⟩ (fun r241 u241 H locs hw hP hD hS => ?_)
                          have p241 : r241 = (1 : Int32) := hw
                          have hP : va_P D vwCl (xwW cI cZ cS x0 xs xv ho0 ho1 pd0 pd1 m0 ts0 ts1 a ha sa cq_194 cs1_194 sc tm tv pd1q_175 sv (0 : Int32) old1_194 (recS sz) z1) H := hP
                          have hD : va_D A (xwW cI cZ cS x0 xs xv ho0 ho1 pd0 pd1 m0 ts0 ts1 a ha sa cq_194 cs1_194 sc tm tv pd1q_175 sv (0 : Int32) old1_194 (recS sz) z1) := hD
                          refine xk_top (z := 1) (by exact p241) ?_
                          refine lv_if_eq (tgt := 251) hx hb dL_act_244 (by decide) (fun c244 => absurd c244 (by decide)) (fun _ => ?_)
                          refine lv_iconst (v := 1) hx hb dL_act_247 (by decide) ?_
                          refine lv_goto (tgt := 253) hx hb dL_act_248 (by decide) ?_
                          exact xk_reti (cq_194, cs1_194, tm, pd1q_175, old1_194, (recS sz), z1) hx hb hr hlocks (xk_P hP (by rfl)) (by (try dsimp only); exact ⟨Or.inl ⟨rfl, hLI2, rfl⟩, htl⟩) hS dL_act_253 hQ
        refine lv_iload hx hb dL_act_130 (lv_at hl 3 rfl) ?_
        refine lv_sipush (v := 4096) hx hb dL_act_132 (by decide) ?_
        refine lv_idiv hx hb dL_act_135 (by decide) ?_
        refine lv_topi (fun x135 e135 => ?_)
        have t135 : x135.toInt = y.toInt / 4096 := by rw [e135]; exact xi_div rfl (by decide) (by omega) (by omega)
        refine lv_iconst (v := 2) hx hb dL_act_136 (by decide) ?_
        refine lv_irem hx hb dL_act_137 (by decide) ?_
        refine lv_topi (fun x137 e137 => ?_)
        have t137 : x137.toInt = x135.toInt % 2 := by rw [e137]; exact xi_rem rfl (by decide) (by omega) (by omega)
        refine lv_if_ne (tgt := 145) hx hb dL_act_138 (by decide) (fun c138 => ?_) (fun c138 => ?_)
        · have t138 : ¬ x137.toInt = 0 := xi_ne rfl (by decide) c138
          have d138 : ¬ x137 = 0 := c138
          refine lv_iconst (v := 0) hx hb dL_act_145 (by decide) ?_
          refine lv_istore (lv' := [(8, .int 0), (7, .int x31), (5, .long t0), (4, .int y), (3, .int ho), (0, .ref x0), (1, .int p1), (2, .int p2)]) hx hb dL_act_146 hl (by decide) rfl (fun ls hl => ?_)
          exact J148 (0 : Int32) (by first | exact Or.inl (by decide) | exact Or.inr (by decide)) _ _ hP hD hS ls (lv_sub hl [0, 1, 2, 3, 4, 5, 6, 7] rfl)
        · have t138 : x137.toInt = 0 := xi_eq rfl (by decide) c138
          have d138 : x137 = 0 := c138
          refine lv_iconst (v := 1) hx hb dL_act_141 (by decide) ?_
          refine lv_goto (tgt := 146) hx hb dL_act_142 (by decide) ?_
          refine lv_istore (lv' := [(8, .int 1), (7, .int x31), (5, .long t0), (4, .int y), (3, .int ho), (0, .ref x0), (1, .int p1), (2, .int p2)]) hx hb dL_act_146 hl (by decide) rfl (fun ls hl => ?_)
          exact J148 (1 : Int32) (by first | exact Or.inl (by decide) | exact Or.inr (by decide)) _ _ hP hD hS ls (lv_sub hl [0, 1, 2, 3, 4, 5, 6, 7] rfl)
      · have t41 : k.toInt < x31.toInt := xi_nle rfl rfl c41
        refine lv_iload hx hb dL_act_44 (lv_at hl 3 rfl) ?_
        refine lv_iconst (v := 4) hx hb dL_act_46 (by decide) ?_
        refine lv_idiv hx hb dL_act_47 (by decide) ?_
        refine lv_topi (fun x47 e47 => ?_)
        have t47 : x47.toInt = y.toInt / 4 := by rw [e47]; exact xi_div rfl (by decide) (by omega) (by omega)
        refine lv_iconst (v := 3) hx hb dL_act_48 (by decide) ?_
        refine lv_iload hx hb dL_act_49 (lv_at hl 0 rfl) ?_
        refine lv_imul hx hb dL_act_51 ?_
        refine lv_topi (fun x51 e51 => ?_)
        have t51 : x51.toInt = 3 * k.toInt := by rw [e51]; exact xi_mul (by decide) rfl (by omega) (by omega)
        refine lv_ishr hx hb dL_act_52 ?_
        refine lv_topi (fun x52 e52 => ?_)
        refine lv_bipush (v := 7) hx hb dL_act_53 (by decide) ?_
        refine lv_iand hx hb dL_act_55 ?_
        refine lv_topi (fun x55 e55 => ?_)
        have hand : 0 ≤ x55.toInt ∧ x55.toInt ≤ 7 := by rw [e55]; exact and7 _
        refine lv_istore (lv' := [(9, .int x55), (8, .int k), (7, .int x31), (5, .long t0), (4, .int y), (3, .int ho), (0, .ref x0), (1, .int p1), (2, .int p2)]) hx hb dL_act_56 hl (by decide) rfl (fun ls hl => ?_)
        refine lv_lload hx hb dL_act_58 (lv_at hl 3 rfl) ?_
        refine lv_ldc2 (v := 256) hx hb hown (hts _ (List.mem_cons_of_mem _ mw_3_87)) dL_act_60 ?_
        refine lv_lmul hx hb dL_act_63 ?_
        refine lv_topl (fun y63 e63 => ?_)
        have J91 : ∀ (ch : Int32) (hch : ch = 117 ∨ ch = 100 ∨ ch = 113) (H : Heap) (locs : List Loc), va_P D vwCl (xwW cI cZ cS x0 xs xv ho0 ho1 pd0 pd1 m0 ts0 ts1 a ha sa cn cs sc tm tv pd sv (0 : Int32) old sz z) H → va_D A (xwW cI cZ cS x0 xs xv ho0 ho1 pd0 pd1 m0 ts0 ts1 a ha sa cn cs sc tm tv pd sv (0 : Int32) old sz z) → va_S A s.heap H locs → ∀ ls : Array Slot, lv_has ls 10 [(9, .int x55), (8, .int k), (7, .int x31), (5, .long t0), (4, .int y), (3, .int ho), (0, .ref x0), (1, .int p1), (2, .int p2)] → W p l e ({ frames := 7, cells := 0, slots := 0, locals := 159 } : Room) s m args below meth c H locs 0 0 Q (F0 m 91 ls [.int ch, .long y63]) := by
          intro ch hch H locs hP hD hS ls hl
          refine lv_i2l hx hb dL_act_91 rfl ?_
          refine lv_topl (fun y91 e91 => ?_)
          refine lv_ladd hx hb dL_act_92 ?_
          refine lv_topl (fun y92 e92 => ?_)
          refine lv_lstore (lv' := [(5, .long y92), (9, .int x55), (8, .int k), (7, .int x31), (4, .int y), (3, .int ho), (0, .ref x0), (1, .int p1), (2, .int p2)]) hx hb dL_act_93 hl (by decide) rfl (fun ls hl => ?_)
          have J122 : ∀ (h2 : Int64) (hh2 : h2 = y92 ∨ (lt.length < 3 ∧ h2 = y92 * 256 + 39)) (H : Heap) (locs : List Loc), va_P D vwCl (xwW cI cZ cS x0 xs xv ho0 ho1 pd0 pd1 m0 ts0 ts1 a ha sa cn cs sc tm tv pd sv (0 : Int32) old sz z) H → va_D A (xwW cI cZ cS x0 xs xv ho0 ho1 pd0 pd1 m0 ts0 ts1 a ha sa cn cs sc tm tv pd sv (0 : Int32) old sz z) → va_S A s.heap H locs → ∀ ls : Array Slot, lv_has ls 10 [(5, .long y92), (9, .int x55), (8, .int k), (7, .int x31), (4, .int y), (3, .int ho), (0, .ref x0), (1, .int p1), (2, .int p2)] → W p l e ({ frames := 7, cells := 0, slots := 0, locals := 159 } : Room) s m args below meth c H locs 0 0 Q (F0 m 122 ls [.long h2]) := by
            intro h2 hh2 H locs hP hD hS ls hl
            have e92b : y92 = t0 * 256 + ch.toInt64 := by rw [e92, e91, e63]
            refine lv_lstore (lv' := [(5, .long h2), (9, .int x55), (8, .int k), (7, .int x31), (4, .int y), (3, .int ho), (0, .ref x0), (1, .int p1), (2, .int p2)]) hx hb dL_act_122 hl (by decide) rfl (fun ls hl => ?_)
            obtain ⟨cc, hcc, hcc2⟩ := tok_ex (k := lt.length) hch e92b hh2
            obtain ⟨x124, e124⟩ : ∃ y : Int32, y = k + 1 := ⟨_, rfl⟩
            have t124 : x124.toInt = k.toInt + 1 := by rw [e124]; exact xi_add rfl (by decide) (by omega) (by omega)
            refine lv_iinc (v := x124) (lv' := [(8, .int x124), (5, .long h2), (9, .int x55), (7, .int x31), (4, .int y), (3, .int ho), (0, .ref x0), (1, .int p1), (2, .int p2)]) hx hb dL_act_124 hl (k := 2) rfl (by rw [e124]; rfl) (by decide) rfl (fun ls hl => ?_)
            refine lv_goto (tgt := 37) hx hb dL_act_127 (by decide) ?_
            exact ih37  h2 x124 (lt ++ [cc]) (by omega) (by rw [enT_s, hcc, ht0]) (by rw [List.length_append]; show ((lt.length + 1 : Nat) : Int) = x124.toInt; omega) (by exact okT_s hok hcc2) (by omega) _ _ hP hD hS ls (lv_sub hl [0, 3, 1, 4, 5, 6, 7, 8] rfl)
          refine lv_iload hx hb dL_act_95 (lv_at hl 1 rfl) ?_
          refine lv_iconst (v := 5) hx hb dL_act_97 (by decide) ?_
          refine lv_icmp_le (tgt := 120) hx hb dL_act_98 (by decide) (fun c98 => ?_) (fun c98 => ?_)
          · have t98 : x55.toInt ≤ 5 := xi_le rfl (by decide) c98
            refine lv_lload hx hb dL_act_120 (lv_at hl 0 rfl) ?_
            exact J122 y92 (by exact Or.inl rfl) _ _ hP hD hS ls (lv_sub hl [0, 1, 2, 3, 4, 5, 6, 7, 8] rfl)
          · have t98 : 5 < x55.toInt := xi_nle rfl (by decide) c98
            refine lv_iload hx hb dL_act_101 (lv_at hl 2 rfl) ?_
            refine lv_iconst (v := 3) hx hb dL_act_103 (by decide) ?_
            refine lv_icmp_ge (tgt := 120) hx hb dL_act_104 (by decide) (fun c104 => ?_) (fun c104 => ?_)
            · have t104 : 3 ≤ k.toInt := xi_le (by decide) rfl c104
              refine lv_lload hx hb dL_act_120 (lv_at hl 0 rfl) ?_
              exact J122 y92 (by exact Or.inl rfl) _ _ hP hD hS ls (lv_sub hl [0, 1, 2, 3, 4, 5, 6, 7, 8] rfl)
            · have t104 : k.toInt < 3 := xi_nle (by decide) rfl c104
              refine lv_lload hx hb dL_act_107 (lv_at hl 0 rfl) ?_
              refine lv_ldc2 (v := 256) hx hb hown (hts _ (List.mem_cons_of_mem _ mw_3_87)) dL_act_109 ?_
              refine lv_lmul hx hb dL_act_112 ?_
              refine lv_topl (fun y112 e112 => ?_)
              refine lv_ldc2 (v := 39) hx hb hown (hts _ (List.mem_cons_of_mem _ mw_3_88)) dL_act_113 ?_
              refine lv_ladd hx hb dL_act_116 ?_
              refine lv_topl (fun y116 e116 => ?_)
              refine lv_goto (tgt := 122) hx hb dL_act_117 (by decide) ?_
              exact J122 y116 (by exact Or.inr ⟨by omega, by rw [e116, e112]⟩) _ _ hP hD hS ls (lv_sub hl [0, 1, 2, 3, 4, 5, 6, 7, 8] rfl)
        refine lv_iload hx hb dL_act_64 (lv_at hl 0 rfl) ?_
        refine lv_iconst (v := 3) hx hb dL_act_66 (by decide) ?_
        refine lv_irem hx hb dL_act_67 (by decide) ?_
        refine lv_topi (fun x67 e67 => ?_)
        have t67 : x67.toInt = x55.toInt % 3 := by rw [e67]; exact xi_rem rfl (by decide) (by omega) (by omega)
        refine lv_if_ne (tgt := 76) hx hb dL_act_68 (by decide) (fun c68 => ?_) (fun c68 => ?_)
        · have t68 : ¬ x67.toInt = 0 := xi_ne rfl (by decide) c68
          have d68 : ¬ x67 = 0 := c68
          refine lv_iload hx hb dL_act_76 (lv_at hl 0 rfl) ?_
          refine lv_iconst (v := 3) hx hb dL_act_78 (by decide) ?_
          refine lv_irem hx hb dL_act_79 (by decide) ?_
          refine lv_topi (fun x79 e79 => ?_)
          have t79 : x79.toInt = x55.toInt % 3 := by rw [e79]; exact xi_rem rfl (by decide) (by omega) (by omega)
          refine lv_iconst (v := 1) hx hb dL_act_80 (by decide) ?_
          refine lv_icmp_ne (tgt := 89) hx hb dL_act_81 (by decide) (fun c81 => ?_) (fun c81 => ?_)
          · have t81 : ¬ x79.toInt = 1 := xi_ne rfl (by decide) c81
            have d81 : ¬ x79 = 1 := c81
            refine lv_bipush (v := 113) hx hb dL_act_89 (by decide) ?_
            exact J91 (113 : Int32) (by first | exact Or.inl rfl | exact Or.inr (Or.inl rfl) | exact Or.inr (Or.inr rfl)) _ _ hP hD hS ls (lv_sub hl [0, 1, 2, 3, 4, 5, 6, 7, 8] rfl)
          · have t81 : x79.toInt = 1 := xi_eq rfl (by decide) c81
            have d81 : x79 = 1 := c81
            refine lv_bipush (v := 100) hx hb dL_act_84 (by decide) ?_
            refine lv_goto (tgt := 91) hx hb dL_act_86 (by decide) ?_
            exact J91 (100 : Int32) (by first | exact Or.inl rfl | exact Or.inr (Or.inl rfl) | exact Or.inr (Or.inr rfl)) _ _ hP hD hS ls (lv_sub hl [0, 1, 2, 3, 4, 5, 6, 7, 8] rfl)
        · have t68 : x67.toInt = 0 := xi_eq rfl (by decide) c68
          have d68 : x67 = 0 := c68
          refine lv_bipush (v := 117) hx hb dL_act_71 (by decide) ?_
          refine lv_goto (tgt := 91) hx hb dL_act_73 (by decide) ?_
          exact J91 (117 : Int32) (by first | exact Or.inl rfl | exact Or.inr (Or.inl rfl) | exact Or.inr (Or.inr rfl)) _ _ hP hD hS ls (lv_sub hl [0, 1, 2, 3, 4, 5, 6, 7, 8] rfl)
  exact L37 5 (0 : Int64) (0 : Int32) ([]) (by omega) (by rfl) (by show ((0 : Nat) : Int) = (0 : Int32).toInt; omega) (by exact okT_0) (by omega) _ _ hP hD hS ls (lv_sub hl [0, 1, 2, 3, 4, 5, 6, 7] rfl)
