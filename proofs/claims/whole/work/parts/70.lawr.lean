/-! THE CLAIM OUT OF ONE WALK OF THE LAW'S BODY. Your part is whole_start (and what it stands on); all else here is the same for every law, but numbers. -/
def R_law : String := "RuleReaderLaw"
def lw_P (b : Addr) (xs : List Int32) (args : Array Value) (s : State) : Prop := args = #[.ref b] ∧ s.IntsAt b xs ∧ xs.length ≤ 1536 ∧ (Jvm.Cond.and given_1 narrow_1).before args s = true
def lw_Q (_ : Array Value) (s : State) (o : Outcome) (t : State) : Prop := o = .returned (some (.int 1)) ∧ Framed s o t [] 601024 7293034
def lw_Z (below : List Frame) (a : Array Value) (s : State) : State → Prop := fun t => ∃ o, t.status = .running ∧ Ended t below o ∧ lw_Q a s o t
/-- the law's own end, with 1 on the stack, nothing written that was there before, its room as the claim has it -/
theorem lw_ret {p : Program} {l : Launch} {e : Env} {s : State} {m : MethodId} {below : List Frame} {meth : Method} {c : Code} {b : Nat} (hx : p.tables.exec = Jvm.exec) (hb : c.code = code) (hr : meth.sig.returnType = ret) (hlocks : meth.locks = false) {pc : Nat} {H : Heap} {ls : Array Slot} (hdg : decode code pc = .ok (.ireturn, 1)) : W p l e room_1 s m #[Value.ref b] below meth c H [] 601024 7293034 (lw_Z below #[Value.ref b] s) (F0 m pc ls [.int 1]) := by
  intro T hT X
  obtain ⟨fs, hret, hrun, hended, hW, hframe⟩ := X.leave (v := some (.int 1)) (hlocks := hlocks) (fun h => by rw [hr] at h; cases h)
  have hmeth' : T.vm.method? m = some meth := X.method'
  refine ⟨T.setFrames fs, ?_, .returned (some (.int 1)), hrun, hended, rfl, ⟨_, rfl⟩, hW, hframe⟩
  jvm_step X.here [X.here.top, hx, hb, hdg, hmeth', hr, ret, narrow_b1]
  (try refine ⟨rfl, ?_⟩); (try refine ⟨rfl, ?_⟩)
  first | (intro acts; rw [hret _ acts rfl rfl rfl]) | rw [hret _ _ rfl rfl rfl]
  exact Steps.refl _
/-- what holds at the law's entry: the machine, the code, the tables' words (any of lw_tbl by 'hts w (by decide +kernel)'), the script of L ints xs at the cell b, what the Statement gives of the start (any of its parts by flat_of_before) -/
def lw_At (p : Program) (s : State) (m : MethodId) (meth : Method) (c : Code) (b L : Nat) (xs : Nat → Int32) : Prop :=
  p.tables.exec = Jvm.exec ∧ c.code = code ∧ meth.sig.returnType = ret ∧ c.maxLocals = 7 ∧ s.vm.findClass R_law = some m.cls ∧ (∀ w ∈ lw_tbl, w.before #[Value.ref b] s = true) ∧ va_X b L xs s s.heap ∧ b < s.heap.size ∧ meth.locks = false ∧ (Jvm.Cond.and given_1 narrow_1).before #[Value.ref b] s = true
abbrev b_Law_law : ByteArray := code
section JLR
variable {x : X0} {g : GG} {A : Nat → Prop} {Q : State → Prop} {own : String} {cc : ByteArray} {nL pc cl sl : Nat} {ws : va_W} {lv : List (Nat × Value)} {st : List Value}
theorem r_lcmpE (C : CX x g A own cc nL) {v : Int64} (hd : decode cc pc = .ok (.lcmp, 1)) (k : J x g A Q nL ws lv (pc + 1) (.int (nI 0) :: st) cl sl) : J x g A Q nL ws lv pc (.long v :: .long v :: st) cl sl := fun H locs ls a b c d T hT X => by
  obtain ⟨t, a1, b1⟩ := k H locs ls a b c d T hT X
  exact ⟨t, X.lcmpEq C.1 (by rw [C.2.1]; exact hd) t a1, b1⟩
theorem r_newl (C : CX x g A own cc nL) {cA : ClassId} {atype : ArrayType} {ty : FieldType} {n : Nat} (t0 : Nat) (hd : decode cc pc = .ok (.newarray atype, 2)) (hty : newarray.typeOf atype = ty) (h1 : Cond.arrayClass (newarray.typeOf atype) ∈ GW) (ht : (TY g)[t0]? = some (cA, ty)) (hz : ∀ cB : ClassId, vp_cell cB (n, .inr (.inl (fun _ => 0))) = arrV cB n (fun _ => defaultValue ty)) (hn : n < 2 ^ 31) (hb : n * componentBytes ty ≤ 536870912) (hcl : cl + 1 ≤ (xR x).cells) (hsl : sl + n ≤ (xR x).slots) (k : ∀ q : Nat, J x g A Q nL (ws ++ [(q, .inl (cA, n, .inr (.inl (fun _ => 0))))]) lv (pc + 2) (.ref q :: st) (cl + 1) (sl + n)) : J x g A Q nL ws lv pc (.int (nI n) :: st) cl sl := fun H locs ls a b c d => va_newa C.1 C.2.1 (C.2.2.2.2.1 _ h1) hty C.2.2.2.2.2.1 a b c C.2.2.2.2.2.2.2.2.1 hz (nI_pos hn) (nI_clamp hn) hb hcl hsl hd (fun q cB H1 k1 a1 b1 c1 => by
  obtain rfl := ty_last k1 ht
  exact k q H1 locs ls a1 b1 c1 d)
theorem preW_blind (av : List Value) (ws : va_W) (sz : Nat) : FrameBlind (va_Pc av (fun U => Pre g ws sz U ∧ NC U)) := by
  intro a U gf mk q
  obtain ⟨q0, q1, qn⟩ := q
  exact ⟨q0, (pre_blind av ws sz a U gf mk ⟨q0, q1⟩).2, NC.moved (s := U) (U := U.calling gf mk a) (Vm.Alike.refl U.vm) qn⟩
theorem gw_inW {y : MethodName} {b : ByteArray} {n : Nat} {ret : Option FieldType} {hh : List (Nat × Nat × Nat × Nat)} (h : Cond.codeWith y b n ret hh ∈ GW) : GoodIn GW (.codeWith y b n ret hh :: GW) := by
  intro w hw
  rcases List.mem_cons.mp hw with rfl | hw
  · exact ⟨h, gw_good _ h⟩
  · exact ⟨hw, gw_good _ hw⟩
variable {y : MethodName} {b' : ByteArray} {n' k' index : Nat} {ret' : Option FieldType} {hh : List (Nat × Nat × Nat × Nat)} {rm' : Room} {As rest : List Value} {wc wr : va_W} {Post : Option Value → va_W → Prop}
/-- a static call of a method that catches -/
theorem j_callSW (C : CX x g A own cc nL) (hN : NC (xs x)) (hc : CnW g (xl x) y b' n' ret' hh rm' As wc Post) (sp : Sp ws wc wr) (hd : decode cc pc = .ok (.invokestatic index, 3)) (hl : Cond.methodLink own index y ∈ GW) (hm : Cond.codeWith y b' n' ret' hh ∈ GW) (hi : Cond.initialized y.cls ∈ GW) (hy : y.cls ≠ "java/lang/invoke/MethodHandle" ∧ y.cls ≠ "java/lang/invoke/VarHandle" ∧ (parseMethodDescriptor y.desc).map (fun d => d.parameters.length) = some k') (hv : Cond.static y ∈ GW) (hf : Fit x rm' n' cl sl) (hn : As.length = k') (hW : (rest.map fun v => v.category).sum ≤ 8) (hst : st = As.reverse ++ rest)
    (k : ∀ (r : Option Value) (ws1 : va_W), Post r ws1 → J x g A Q nL (wr ++ ws1) lv (pc + 3) (r.toList ++ rest) (cl + rm'.cells) (sl + rm'.slots)) : J x g A Q nL ws lv pc st cl sl := fun H locs ls a b c d => by
  subst hst
  have hpre := pre_at C sp a b c As
  have hG := C.2.2.2.2.1
  have hK : Back (xl x) (xR x) x.1 (xe x) (xb x) (xs x) (xa x) y 3 8 (PreOf (xR x) rm'.cells rm'.slots (va_Pc As (fun U => Pre g wc H.size U ∧ NC U))) (PostOf (QX g wc H.size Post) rm'.cells rm'.slots (va_A wc H.size)) := va_backW (hh := hh) (bytes := b') (maxL := n') (ret := ret') (hc H.size) (preW_blind _ _ _) rfl rfl hf.1.1 hf.1.2 (fun w hw a' U hU => word_at hU (gw_inW hm w hw).2 (hG _ (gw_inW hm w hw).1)) List.mem_cons_self (fun a' U hU => word_at hU (gw_good _ hi) (hG _ hi))
  refine j_tail (av := As.toArray) C sp a b c d ?_ k
  intro T hT X
  obtain ⟨mk, methM, cM, hnamed, hmethM, -, -, -, -, -, -, hsigM⟩ := Cond.codeWith_spec (hG _ hm)
  have hstatic : methM.isStatic = true := Cond.static_spec hnamed hmethM (hG _ hv)
  obtain ⟨kP, hkP, -⟩ := className_of_methodNamed hnamed
  have hinitP : kP.init = .initialized := Cond.initialized_spec (findClass_of_methodNamed hnamed) hkP (hG _ hi)
  have hlen : As.length = methM.sig.parameters.length := by
    have := hy.2.2
    rw [hsigM] at this
    rw [hn]
    exact (Option.some.inj this).symm
  obtain ⟨vm₁, X₁, hstep₁⟩ := X.invokestatic C.1 C.2.2.2.1 (hG _ hl) hnamed hmethM hstatic hkP hinitP ⟨hy.1, hy.2.1⟩ (g := F0 (xm x) pc ls (As.reverse ++ rest)) rfl (argsL := As) (rest := rest) hlen rfl (by rw [C.2.1]; exact hd)
  obtain ⟨v, ⟨U', l2, c2, s2⟩, X', ⟨g', mk', t, L, e1, e2, hq, h1, hL, h2, h3⟩, hsteps⟩ := hK (xm x) (xh x) (xc x) ⟨T.setVm vm₁, locs, cl, sl⟩ (F0 (xm x) pc ls rest) (.invokestatic index) mk As.toArray X₁ rfl (by rw [C.2.2.1]; exact d.1) (by rw [C.2.1]; exact hd) (by simpa using hW) (X₁.named hnamed) ⟨hf.2.1, hf.2.2, (hpre (T.setVm vm₁) hT X₁.warmed).1, (hpre (T.setVm vm₁) hT X₁.warmed).2, NC.moved X₁.warmed.alike hN⟩
  dsimp only [Pt.U, Pt.locs, Pt.cells, Pt.slots] at X' e1 e2 h1 h2 h3 hsteps
  subst h1; subst h2; subst h3
  exact ⟨v, (T.setVm vm₁).calling g' mk' As.toArray, t, U', L, hT, X', hL, e1, e2, hq, fun target h => hstep₁ _ fun acts => by rw [doInvoke_state]; exact hsteps.trans h⟩
end JLR
theorem and15 (z : Int32) : ∃ c, c < 16 ∧ z &&& nI 15 = nI c := by
  refine ⟨(z.toBitVec &&& 15#32).toNat, ?_, ?_⟩
  · rw [BitVec.toNat_and]
    exact Nat.lt_of_le_of_lt Nat.and_le_right (by decide)
  · apply Int32.toBitVec_inj.mp
    rw [Int32.toBitVec_and]
    show z.toBitVec &&& 15#32 = BitVec.ofNat 32 (z.toBitVec &&& 15#32).toNat
    rw [BitVec.ofNat_toNat, BitVec.setWidth_eq]
theorem hasK_f {n : Nat} {z : Int32} (h : hasK n (inN z) = false) {m : Nat} (e : m = n) : ¬ hasK m (inN z) = true := by rw [e, h]; decide
theorem grid_n {z : Int32} (h1 : 1 ≤ z) (h2 : z ≤ 16) : ∃ c : Nat, z = nI c ∧ 0 < c ∧ c ≤ 16 := by
  have h0 : ¬ z < 0 := fun q => absurd (Int32.lt_of_le_of_lt h1 q) (by decide)
  obtain ⟨c, hc, rfl⟩ := nI_of h0
  have a1 : 1 ≤ c := (nI_leI (by decide) hc).mp h1
  have a2 : c ≤ 16 := (nI_leI hc (by decide)).mp h2
  exact ⟨c, rfl, a1, a2⟩
theorem row_y {y : Int32} (h : ¬ (y < 0 ∨ ¬ y ≤ 5)) : ∃ c : Nat, y = nI c ∧ c ≤ 5 := by
  obtain ⟨c, hc, rfl⟩ := nI_of fun q => h (Or.inl q)
  have a2 : c ≤ 5 := (nI_leI hc (by decide)).mp (Decidable.of_not_not fun q => h (Or.inr q))
  exact ⟨c, rfl, a2⟩
theorem row_c {iu : Bool} {rw_ j y : Nat} {z : Int32} (h : (iu && hasK rw_ (inN z)) = true) (e : z = nI j) (hy : y ≤ 5) : iu = true ∧ hasK rw_ (inN (nI j)) = true ∧ ¬ nI y < 0 ∧ nI y ≤ nI 5 := by
  rw [Bool.and_eq_true] at h
  exact ⟨h.1, e ▸ h.2, nI_pos (by omega), (nI_leI (by omega) (by decide)).mpr hy⟩
theorem row_n1 {iu : Bool} {rw_ : Nat} {z : Int32} (h : (iu && hasK rw_ (inN z)) = false) (h1 : iu = true) (h2 : hasK rw_ (inN z) = true) : False := by
  rw [h1, h2] at h
  cases h
theorem row_n2 {y : Int32} (h : y < 0 ∨ ¬ y ≤ 5) (h1 : ¬ y < 0) (h2 : y ≤ nI 5) : False := h.elim h1 fun q => q h2
section JLS
variable {x : X0} {g : GG} {A : Nat → Prop} {Q : State → Prop} {own : String} {cc : ByteArray} {nL pc cl sl : Nat} {ws : va_W} {lv : List (Nat × Value)} {st : List Value} {sc L : Nat} {X : Nat → Int32}
theorem r_slen (C : CX x g A own cc nL) (hX : va_X sc L X (xs x) (xs x).heap) (hbl : sc < (xs x).heap.size) (hbA : ¬ A sc) (hd : decode cc pc = .ok (.arraylength, 1)) (k : J x g A Q nL ws lv (pc + 1) (.int (nI L) :: st) cl sl) : J x g A Q nL ws lv pc (.ref sc :: st) cl sl := fun H locs ls a b c d => va_slen C.1 C.2.1 hX hbl hbA c hd (k H locs ls a b c d)
theorem r_sld (C : CX x g A own cc nL) (hX : va_X sc L X (xs x) (xs x).heap) (hbl : sc < (xs x).heap.size) (hbA : ¬ A sc) {i : Nat} (hi : i < L) (hL : L < 2 ^ 31) (hd : decode cc pc = .ok (.iaload, 1)) (k : J x g A Q nL ws lv (pc + 1) (.int (X i) :: st) cl sl) : J x g A Q nL ws lv pc (.int (nI i) :: .ref sc :: st) cl sl := fun H locs ls a b c d => va_sld C.1 C.2.1 hX hbl hbA c (vp_in_nI hi hL) hd (by rw [nI_clamp (by omega)]; exact k H locs ls a b c d)
end JLS
theorem law_in {i L : Nat} (hL : L ≤ 1536) (hi : i ≤ 1536) (h : ¬ nI L - nI 3 < nI i) : i + 3 ≤ L := by
  by_cases q : 3 ≤ L
  · rw [pk_sub q] at h
    have h2 := Int32.not_lt.mp h
    have := (nI_leI (by omega) (by omega)).mp h2
    omega
  · refine absurd ?_ h
    have h0 : (0 : Int32) ≤ nI i := Int32.not_lt.mp (nI_pos (by omega))
    rcases (show L = 0 ∨ L = 1 ∨ L = 2 by omega) with rfl | rfl | rfl <;> exact Int32.lt_of_lt_of_le (by decide) h0
/-- what the law's end rests on -/
def EL (x : X0) (A : Nat → Prop) (Q : State → Prop) (sc : Nat) : Prop := (xh x).sig.returnType = ret ∧ xa x = #[Value.ref sc] ∧ xR x = room_1 ∧ Q = lw_Z (xb x) #[Value.ref sc] (xs x) ∧ ∀ q, A q → (xs x).heap.size ≤ q
theorem r_lret {x : X0} {g : GG} {A : Nat → Prop} {Q : State → Prop} {pc cl sl sc : Nat} {ws : va_W} {lv : List (Nat × Value)} (C : CX x g A R_Law code 7) (E : EL x A Q sc) (hd : decode code pc = .ok (.ireturn, 1)) (h1 : cl ≤ 601024) (h2 : sl ≤ 7293034) : J x g A Q 7 ws lv pc [.int (nI 1)] cl sl := fun H locs ls a b c d => by
  obtain ⟨p, l, e, R, s, m, args, below, meth, cd⟩ := x
  obtain ⟨e1, e2, e3, e4, e5⟩ := E
  change args = _ at e2
  change R = _ at e3
  subst e2 e3 e4
  refine va_forget (fun q hq => e5 _ (c.2.2 q hq)) ?_
  refine W.widen h1 h2 ?_
  exact lw_ret C.1 C.2.1 e1 C.2.2.2.2.2.2.2.2.2 hd
theorem d_Law_law_0 : decode b_Law_law 0 = .ok (.new 8, 3) := by decide +kernel
theorem d_Law_law_3 : decode b_Law_law 3 = .ok (.dup, 1) := by decide +kernel
theorem d_Law_law_4 : decode b_Law_law 4 = .ok (.invokespecial 31, 3) := by decide +kernel
theorem d_Law_law_7 : decode b_Law_law 7 = .ok (.astore_n 1, 1) := by decide +kernel
theorem d_Law_law_8 : decode b_Law_law 8 = .ok (.new 32, 3) := by decide +kernel
theorem d_Law_law_11 : decode b_Law_law 11 = .ok (.dup, 1) := by decide +kernel
theorem d_Law_law_12 : decode b_Law_law 12 = .ok (.invokespecial 34, 3) := by decide +kernel
theorem d_Law_law_15 : decode b_Law_law 15 = .ok (.astore_n 2, 1) := by decide +kernel
theorem d_Law_law_16 : decode b_Law_law 16 = .ok (.iconst 1, 1) := by decide +kernel
theorem d_Law_law_17 : decode b_Law_law 17 = .ok (.newarray .long, 2) := by decide +kernel
theorem d_Law_law_19 : decode b_Law_law 19 = .ok (.astore_n 3, 1) := by decide +kernel
theorem d_Law_law_20 : decode b_Law_law 20 = .ok (.iconst 0, 1) := by decide +kernel
theorem d_Law_law_21 : decode b_Law_law 21 = .ok (.istore 4, 2) := by decide +kernel
theorem d_Law_law_23 : decode b_Law_law 23 = .ok (.iload 4, 2) := by decide +kernel
theorem d_Law_law_25 : decode b_Law_law 25 = .ok (.aload_n 0, 1) := by decide +kernel
theorem d_Law_law_26 : decode b_Law_law 26 = .ok (.arraylength, 1) := by decide +kernel
theorem d_Law_law_27 : decode b_Law_law 27 = .ok (.iconst 3, 1) := by decide +kernel
theorem d_Law_law_28 : decode b_Law_law 28 = .ok (.isub, 1) := by decide +kernel
theorem d_Law_law_29 : decode b_Law_law 29 = .ok (.if_icmp .gt 470, 3) := by decide +kernel
theorem d_Law_law_32 : decode b_Law_law 32 = .ok (.aload_n 0, 1) := by decide +kernel
theorem d_Law_law_33 : decode b_Law_law 33 = .ok (.iload 4, 2) := by decide +kernel
theorem d_Law_law_35 : decode b_Law_law 35 = .ok (.iaload, 1) := by decide +kernel
theorem d_Law_law_36 : decode b_Law_law 36 = .ok (.bipush 15, 2) := by decide +kernel
theorem d_Law_law_38 : decode b_Law_law 38 = .ok (.iand, 1) := by decide +kernel
theorem d_Law_law_39 : decode b_Law_law 39 = .ok (.tableswitch 454 0 10 #[57, 82, 95, 163, 231, 299, 324, 349, 405, 430, 443], 57) := by decide +kernel
theorem d_Law_law_96 : decode b_Law_law 96 = .ok (.aload_n 1, 1) := by decide +kernel
theorem d_Law_law_97 : decode b_Law_law 97 = .ok (.aload_n 0, 1) := by decide +kernel
theorem d_Law_law_98 : decode b_Law_law 98 = .ok (.iload 4, 2) := by decide +kernel
theorem d_Law_law_100 : decode b_Law_law 100 = .ok (.iconst 1, 1) := by decide +kernel
theorem d_Law_law_101 : decode b_Law_law 101 = .ok (.iadd, 1) := by decide +kernel
theorem d_Law_law_102 : decode b_Law_law 102 = .ok (.iaload, 1) := by decide +kernel
theorem d_Law_law_103 : decode b_Law_law 103 = .ok (.invokevirtual 35, 3) := by decide +kernel
theorem d_Law_law_106 : decode b_Law_law 106 = .ok (.aload_n 2, 1) := by decide +kernel
theorem d_Law_law_107 : decode b_Law_law 107 = .ok (.aload_n 0, 1) := by decide +kernel
theorem d_Law_law_108 : decode b_Law_law 108 = .ok (.iload 4, 2) := by decide +kernel
theorem d_Law_law_110 : decode b_Law_law 110 = .ok (.iconst 1, 1) := by decide +kernel
theorem d_Law_law_111 : decode b_Law_law 111 = .ok (.iadd, 1) := by decide +kernel
theorem d_Law_law_112 : decode b_Law_law 112 = .ok (.iaload, 1) := by decide +kernel
theorem d_Law_law_113 : decode b_Law_law 113 = .ok (.invokevirtual 39, 3) := by decide +kernel
theorem d_Law_law_116 : decode b_Law_law 116 = .ok (.if_icmp .eq 377, 3) := by decide +kernel
theorem d_Law_law_119 : decode b_Law_law 119 = .ok (.iconst 0, 1) := by decide +kernel
theorem d_Law_law_120 : decode b_Law_law 120 = .ok (.ireturn, 1) := by decide +kernel
theorem d_Law_law_121 : decode b_Law_law 121 = .ok (.aload_n 1, 1) := by decide +kernel
theorem d_Law_law_122 : decode b_Law_law 122 = .ok (.invokevirtual 40, 3) := by decide +kernel
theorem d_Law_law_125 : decode b_Law_law 125 = .ok (.aload_n 2, 1) := by decide +kernel
theorem d_Law_law_126 : decode b_Law_law 126 = .ok (.invokevirtual 44, 3) := by decide +kernel
theorem d_Law_law_129 : decode b_Law_law 129 = .ok (.if_icmp .eq 364, 3) := by decide +kernel
theorem d_Law_law_132 : decode b_Law_law 132 = .ok (.iconst 0, 1) := by decide +kernel
theorem d_Law_law_133 : decode b_Law_law 133 = .ok (.ireturn, 1) := by decide +kernel
theorem d_Law_law_134 : decode b_Law_law 134 = .ok (.aload_n 1, 1) := by decide +kernel
theorem d_Law_law_135 : decode b_Law_law 135 = .ok (.aload_n 0, 1) := by decide +kernel
theorem d_Law_law_136 : decode b_Law_law 136 = .ok (.iload 4, 2) := by decide +kernel
theorem d_Law_law_138 : decode b_Law_law 138 = .ok (.iconst 1, 1) := by decide +kernel
theorem d_Law_law_139 : decode b_Law_law 139 = .ok (.iadd, 1) := by decide +kernel
theorem d_Law_law_140 : decode b_Law_law 140 = .ok (.iaload, 1) := by decide +kernel
theorem d_Law_law_141 : decode b_Law_law 141 = .ok (.aload_n 0, 1) := by decide +kernel
theorem d_Law_law_142 : decode b_Law_law 142 = .ok (.iload 4, 2) := by decide +kernel
theorem d_Law_law_144 : decode b_Law_law 144 = .ok (.iconst 2, 1) := by decide +kernel
theorem d_Law_law_145 : decode b_Law_law 145 = .ok (.iadd, 1) := by decide +kernel
theorem d_Law_law_146 : decode b_Law_law 146 = .ok (.iaload, 1) := by decide +kernel
theorem d_Law_law_147 : decode b_Law_law 147 = .ok (.aload_n 3, 1) := by decide +kernel
theorem d_Law_law_148 : decode b_Law_law 148 = .ok (.invokestatic 45, 3) := by decide +kernel
theorem d_Law_law_151 : decode b_Law_law 151 = .ok (.istore 5, 2) := by decide +kernel
theorem d_Law_law_153 : decode b_Law_law 153 = .ok (.aload_n 2, 1) := by decide +kernel
theorem d_Law_law_154 : decode b_Law_law 154 = .ok (.aload_n 0, 1) := by decide +kernel
theorem d_Law_law_155 : decode b_Law_law 155 = .ok (.iload 4, 2) := by decide +kernel
theorem d_Law_law_157 : decode b_Law_law 157 = .ok (.iconst 1, 1) := by decide +kernel
theorem d_Law_law_158 : decode b_Law_law 158 = .ok (.iadd, 1) := by decide +kernel
theorem d_Law_law_159 : decode b_Law_law 159 = .ok (.iaload, 1) := by decide +kernel
theorem d_Law_law_160 : decode b_Law_law 160 = .ok (.aload_n 0, 1) := by decide +kernel
theorem d_Law_law_161 : decode b_Law_law 161 = .ok (.iload 4, 2) := by decide +kernel
theorem d_Law_law_163 : decode b_Law_law 163 = .ok (.iconst 2, 1) := by decide +kernel
theorem d_Law_law_164 : decode b_Law_law 164 = .ok (.iadd, 1) := by decide +kernel
theorem d_Law_law_165 : decode b_Law_law 165 = .ok (.iaload, 1) := by decide +kernel
theorem d_Law_law_166 : decode b_Law_law 166 = .ok (.invokevirtual 50, 3) := by decide +kernel
theorem d_Law_law_169 : decode b_Law_law 169 = .ok (.istore 6, 2) := by decide +kernel
theorem d_Law_law_171 : decode b_Law_law 171 = .ok (.aload_n 2, 1) := by decide +kernel
theorem d_Law_law_172 : decode b_Law_law 172 = .ok (.invokevirtual 51, 3) := by decide +kernel
theorem d_Law_law_175 : decode b_Law_law 175 = .ok (.iload 5, 2) := by decide +kernel
theorem d_Law_law_177 : decode b_Law_law 177 = .ok (.if_icmp .eq 5, 3) := by decide +kernel
theorem d_Law_law_180 : decode b_Law_law 180 = .ok (.iconst 0, 1) := by decide +kernel
theorem d_Law_law_181 : decode b_Law_law 181 = .ok (.ireturn, 1) := by decide +kernel
theorem d_Law_law_182 : decode b_Law_law 182 = .ok (.iload 5, 2) := by decide +kernel
theorem d_Law_law_184 : decode b_Law_law 184 = .ok (.ifCond .ne 15, 3) := by decide +kernel
theorem d_Law_law_187 : decode b_Law_law 187 = .ok (.aload_n 3, 1) := by decide +kernel
theorem d_Law_law_188 : decode b_Law_law 188 = .ok (.iconst 0, 1) := by decide +kernel
theorem d_Law_law_189 : decode b_Law_law 189 = .ok (.laload, 1) := by decide +kernel
theorem d_Law_law_190 : decode b_Law_law 190 = .ok (.iload 6, 2) := by decide +kernel
theorem d_Law_law_192 : decode b_Law_law 192 = .ok (.i2l, 1) := by decide +kernel
theorem d_Law_law_193 : decode b_Law_law 193 = .ok (.lcmp, 1) := by decide +kernel
theorem d_Law_law_194 : decode b_Law_law 194 = .ok (.ifCond .eq 5, 3) := by decide +kernel
theorem d_Law_law_197 : decode b_Law_law 197 = .ok (.iconst 0, 1) := by decide +kernel
theorem d_Law_law_198 : decode b_Law_law 198 = .ok (.ireturn, 1) := by decide +kernel
theorem d_Law_law_199 : decode b_Law_law 199 = .ok (.goto 294, 3) := by decide +kernel
theorem d_Law_law_202 : decode b_Law_law 202 = .ok (.aload_n 1, 1) := by decide +kernel
theorem d_Law_law_203 : decode b_Law_law 203 = .ok (.aload_n 0, 1) := by decide +kernel
theorem d_Law_law_204 : decode b_Law_law 204 = .ok (.iload 4, 2) := by decide +kernel
theorem d_Law_law_206 : decode b_Law_law 206 = .ok (.iconst 1, 1) := by decide +kernel
theorem d_Law_law_207 : decode b_Law_law 207 = .ok (.iadd, 1) := by decide +kernel
theorem d_Law_law_208 : decode b_Law_law 208 = .ok (.iaload, 1) := by decide +kernel
theorem d_Law_law_209 : decode b_Law_law 209 = .ok (.aload_n 0, 1) := by decide +kernel
theorem d_Law_law_210 : decode b_Law_law 210 = .ok (.iload 4, 2) := by decide +kernel
theorem d_Law_law_212 : decode b_Law_law 212 = .ok (.iconst 2, 1) := by decide +kernel
theorem d_Law_law_213 : decode b_Law_law 213 = .ok (.iadd, 1) := by decide +kernel
theorem d_Law_law_214 : decode b_Law_law 214 = .ok (.iaload, 1) := by decide +kernel
theorem d_Law_law_215 : decode b_Law_law 215 = .ok (.aload_n 3, 1) := by decide +kernel
theorem d_Law_law_216 : decode b_Law_law 216 = .ok (.invokestatic 54, 3) := by decide +kernel
theorem d_Law_law_219 : decode b_Law_law 219 = .ok (.istore 5, 2) := by decide +kernel
theorem d_Law_law_221 : decode b_Law_law 221 = .ok (.aload_n 2, 1) := by decide +kernel
theorem d_Law_law_222 : decode b_Law_law 222 = .ok (.aload_n 0, 1) := by decide +kernel
theorem d_Law_law_223 : decode b_Law_law 223 = .ok (.iload 4, 2) := by decide +kernel
theorem d_Law_law_225 : decode b_Law_law 225 = .ok (.iconst 1, 1) := by decide +kernel
theorem d_Law_law_226 : decode b_Law_law 226 = .ok (.iadd, 1) := by decide +kernel
theorem d_Law_law_227 : decode b_Law_law 227 = .ok (.iaload, 1) := by decide +kernel
theorem d_Law_law_228 : decode b_Law_law 228 = .ok (.aload_n 0, 1) := by decide +kernel
theorem d_Law_law_229 : decode b_Law_law 229 = .ok (.iload 4, 2) := by decide +kernel
theorem d_Law_law_231 : decode b_Law_law 231 = .ok (.iconst 2, 1) := by decide +kernel
theorem d_Law_law_232 : decode b_Law_law 232 = .ok (.iadd, 1) := by decide +kernel
theorem d_Law_law_233 : decode b_Law_law 233 = .ok (.iaload, 1) := by decide +kernel
theorem d_Law_law_234 : decode b_Law_law 234 = .ok (.invokevirtual 56, 3) := by decide +kernel
theorem d_Law_law_237 : decode b_Law_law 237 = .ok (.istore 6, 2) := by decide +kernel
theorem d_Law_law_239 : decode b_Law_law 239 = .ok (.aload_n 2, 1) := by decide +kernel
theorem d_Law_law_240 : decode b_Law_law 240 = .ok (.invokevirtual 51, 3) := by decide +kernel
theorem d_Law_law_243 : decode b_Law_law 243 = .ok (.iload 5, 2) := by decide +kernel
theorem d_Law_law_245 : decode b_Law_law 245 = .ok (.if_icmp .eq 5, 3) := by decide +kernel
theorem d_Law_law_248 : decode b_Law_law 248 = .ok (.iconst 0, 1) := by decide +kernel
theorem d_Law_law_249 : decode b_Law_law 249 = .ok (.ireturn, 1) := by decide +kernel
theorem d_Law_law_250 : decode b_Law_law 250 = .ok (.iload 5, 2) := by decide +kernel
theorem d_Law_law_252 : decode b_Law_law 252 = .ok (.ifCond .ne 15, 3) := by decide +kernel
theorem d_Law_law_255 : decode b_Law_law 255 = .ok (.aload_n 3, 1) := by decide +kernel
theorem d_Law_law_256 : decode b_Law_law 256 = .ok (.iconst 0, 1) := by decide +kernel
theorem d_Law_law_257 : decode b_Law_law 257 = .ok (.laload, 1) := by decide +kernel
theorem d_Law_law_258 : decode b_Law_law 258 = .ok (.iload 6, 2) := by decide +kernel
theorem d_Law_law_260 : decode b_Law_law 260 = .ok (.i2l, 1) := by decide +kernel
theorem d_Law_law_261 : decode b_Law_law 261 = .ok (.lcmp, 1) := by decide +kernel
theorem d_Law_law_262 : decode b_Law_law 262 = .ok (.ifCond .eq 5, 3) := by decide +kernel
theorem d_Law_law_265 : decode b_Law_law 265 = .ok (.iconst 0, 1) := by decide +kernel
theorem d_Law_law_266 : decode b_Law_law 266 = .ok (.ireturn, 1) := by decide +kernel
theorem d_Law_law_267 : decode b_Law_law 267 = .ok (.goto 226, 3) := by decide +kernel
theorem d_Law_law_270 : decode b_Law_law 270 = .ok (.aload_n 1, 1) := by decide +kernel
theorem d_Law_law_271 : decode b_Law_law 271 = .ok (.aload_n 0, 1) := by decide +kernel
theorem d_Law_law_272 : decode b_Law_law 272 = .ok (.iload 4, 2) := by decide +kernel
theorem d_Law_law_274 : decode b_Law_law 274 = .ok (.iconst 1, 1) := by decide +kernel
theorem d_Law_law_275 : decode b_Law_law 275 = .ok (.iadd, 1) := by decide +kernel
theorem d_Law_law_276 : decode b_Law_law 276 = .ok (.iaload, 1) := by decide +kernel
theorem d_Law_law_277 : decode b_Law_law 277 = .ok (.aload_n 0, 1) := by decide +kernel
theorem d_Law_law_278 : decode b_Law_law 278 = .ok (.iload 4, 2) := by decide +kernel
theorem d_Law_law_280 : decode b_Law_law 280 = .ok (.iconst 2, 1) := by decide +kernel
theorem d_Law_law_281 : decode b_Law_law 281 = .ok (.iadd, 1) := by decide +kernel
theorem d_Law_law_282 : decode b_Law_law 282 = .ok (.iaload, 1) := by decide +kernel
theorem d_Law_law_283 : decode b_Law_law 283 = .ok (.aload_n 3, 1) := by decide +kernel
theorem d_Law_law_284 : decode b_Law_law 284 = .ok (.invokestatic 57, 3) := by decide +kernel
theorem d_Law_law_287 : decode b_Law_law 287 = .ok (.istore 5, 2) := by decide +kernel
theorem d_Law_law_289 : decode b_Law_law 289 = .ok (.aload_n 2, 1) := by decide +kernel
theorem d_Law_law_290 : decode b_Law_law 290 = .ok (.aload_n 0, 1) := by decide +kernel
theorem d_Law_law_291 : decode b_Law_law 291 = .ok (.iload 4, 2) := by decide +kernel
theorem d_Law_law_293 : decode b_Law_law 293 = .ok (.iconst 1, 1) := by decide +kernel
theorem d_Law_law_294 : decode b_Law_law 294 = .ok (.iadd, 1) := by decide +kernel
theorem d_Law_law_295 : decode b_Law_law 295 = .ok (.iaload, 1) := by decide +kernel
theorem d_Law_law_296 : decode b_Law_law 296 = .ok (.aload_n 0, 1) := by decide +kernel
theorem d_Law_law_297 : decode b_Law_law 297 = .ok (.iload 4, 2) := by decide +kernel
theorem d_Law_law_299 : decode b_Law_law 299 = .ok (.iconst 2, 1) := by decide +kernel
theorem d_Law_law_300 : decode b_Law_law 300 = .ok (.iadd, 1) := by decide +kernel
theorem d_Law_law_301 : decode b_Law_law 301 = .ok (.iaload, 1) := by decide +kernel
theorem d_Law_law_302 : decode b_Law_law 302 = .ok (.invokevirtual 59, 3) := by decide +kernel
theorem d_Law_law_305 : decode b_Law_law 305 = .ok (.istore 6, 2) := by decide +kernel
theorem d_Law_law_307 : decode b_Law_law 307 = .ok (.aload_n 2, 1) := by decide +kernel
theorem d_Law_law_308 : decode b_Law_law 308 = .ok (.invokevirtual 51, 3) := by decide +kernel
theorem d_Law_law_311 : decode b_Law_law 311 = .ok (.iload 5, 2) := by decide +kernel
theorem d_Law_law_313 : decode b_Law_law 313 = .ok (.if_icmp .eq 5, 3) := by decide +kernel
theorem d_Law_law_316 : decode b_Law_law 316 = .ok (.iconst 0, 1) := by decide +kernel
theorem d_Law_law_317 : decode b_Law_law 317 = .ok (.ireturn, 1) := by decide +kernel
theorem d_Law_law_318 : decode b_Law_law 318 = .ok (.iload 5, 2) := by decide +kernel
theorem d_Law_law_320 : decode b_Law_law 320 = .ok (.ifCond .ne 15, 3) := by decide +kernel
theorem d_Law_law_323 : decode b_Law_law 323 = .ok (.aload_n 3, 1) := by decide +kernel
theorem d_Law_law_324 : decode b_Law_law 324 = .ok (.iconst 0, 1) := by decide +kernel
theorem d_Law_law_325 : decode b_Law_law 325 = .ok (.laload, 1) := by decide +kernel
theorem d_Law_law_326 : decode b_Law_law 326 = .ok (.iload 6, 2) := by decide +kernel
theorem d_Law_law_328 : decode b_Law_law 328 = .ok (.i2l, 1) := by decide +kernel
theorem d_Law_law_329 : decode b_Law_law 329 = .ok (.lcmp, 1) := by decide +kernel
theorem d_Law_law_330 : decode b_Law_law 330 = .ok (.ifCond .eq 5, 3) := by decide +kernel
theorem d_Law_law_333 : decode b_Law_law 333 = .ok (.iconst 0, 1) := by decide +kernel
theorem d_Law_law_334 : decode b_Law_law 334 = .ok (.ireturn, 1) := by decide +kernel
theorem d_Law_law_335 : decode b_Law_law 335 = .ok (.goto 158, 3) := by decide +kernel
theorem d_Law_law_338 : decode b_Law_law 338 = .ok (.aload_n 1, 1) := by decide +kernel
theorem d_Law_law_339 : decode b_Law_law 339 = .ok (.aload_n 0, 1) := by decide +kernel
theorem d_Law_law_340 : decode b_Law_law 340 = .ok (.iload 4, 2) := by decide +kernel
theorem d_Law_law_342 : decode b_Law_law 342 = .ok (.iconst 1, 1) := by decide +kernel
theorem d_Law_law_343 : decode b_Law_law 343 = .ok (.iadd, 1) := by decide +kernel
theorem d_Law_law_344 : decode b_Law_law 344 = .ok (.iaload, 1) := by decide +kernel
theorem d_Law_law_345 : decode b_Law_law 345 = .ok (.invokevirtual 60, 3) := by decide +kernel
theorem d_Law_law_348 : decode b_Law_law 348 = .ok (.aload_n 2, 1) := by decide +kernel
theorem d_Law_law_349 : decode b_Law_law 349 = .ok (.aload_n 0, 1) := by decide +kernel
theorem d_Law_law_350 : decode b_Law_law 350 = .ok (.iload 4, 2) := by decide +kernel
theorem d_Law_law_352 : decode b_Law_law 352 = .ok (.iconst 1, 1) := by decide +kernel
theorem d_Law_law_353 : decode b_Law_law 353 = .ok (.iadd, 1) := by decide +kernel
theorem d_Law_law_354 : decode b_Law_law 354 = .ok (.iaload, 1) := by decide +kernel
theorem d_Law_law_355 : decode b_Law_law 355 = .ok (.invokevirtual 63, 3) := by decide +kernel
theorem d_Law_law_358 : decode b_Law_law 358 = .ok (.if_icmp .eq 135, 3) := by decide +kernel
theorem d_Law_law_361 : decode b_Law_law 361 = .ok (.iconst 0, 1) := by decide +kernel
theorem d_Law_law_362 : decode b_Law_law 362 = .ok (.ireturn, 1) := by decide +kernel
theorem d_Law_law_363 : decode b_Law_law 363 = .ok (.aload_n 1, 1) := by decide +kernel
theorem d_Law_law_364 : decode b_Law_law 364 = .ok (.aload_n 0, 1) := by decide +kernel
theorem d_Law_law_365 : decode b_Law_law 365 = .ok (.iload 4, 2) := by decide +kernel
theorem d_Law_law_367 : decode b_Law_law 367 = .ok (.iconst 1, 1) := by decide +kernel
theorem d_Law_law_368 : decode b_Law_law 368 = .ok (.iadd, 1) := by decide +kernel
theorem d_Law_law_369 : decode b_Law_law 369 = .ok (.iaload, 1) := by decide +kernel
theorem d_Law_law_370 : decode b_Law_law 370 = .ok (.invokevirtual 64, 3) := by decide +kernel
theorem d_Law_law_373 : decode b_Law_law 373 = .ok (.aload_n 2, 1) := by decide +kernel
theorem d_Law_law_374 : decode b_Law_law 374 = .ok (.aload_n 0, 1) := by decide +kernel
theorem d_Law_law_375 : decode b_Law_law 375 = .ok (.iload 4, 2) := by decide +kernel
theorem d_Law_law_377 : decode b_Law_law 377 = .ok (.iconst 1, 1) := by decide +kernel
theorem d_Law_law_378 : decode b_Law_law 378 = .ok (.iadd, 1) := by decide +kernel
theorem d_Law_law_379 : decode b_Law_law 379 = .ok (.iaload, 1) := by decide +kernel
theorem d_Law_law_380 : decode b_Law_law 380 = .ok (.invokevirtual 67, 3) := by decide +kernel
theorem d_Law_law_383 : decode b_Law_law 383 = .ok (.if_icmp .eq 110, 3) := by decide +kernel
theorem d_Law_law_386 : decode b_Law_law 386 = .ok (.iconst 0, 1) := by decide +kernel
theorem d_Law_law_387 : decode b_Law_law 387 = .ok (.ireturn, 1) := by decide +kernel
theorem d_Law_law_388 : decode b_Law_law 388 = .ok (.aload_n 1, 1) := by decide +kernel
theorem d_Law_law_389 : decode b_Law_law 389 = .ok (.aload_n 0, 1) := by decide +kernel
theorem d_Law_law_390 : decode b_Law_law 390 = .ok (.iload 4, 2) := by decide +kernel
theorem d_Law_law_392 : decode b_Law_law 392 = .ok (.iconst 1, 1) := by decide +kernel
theorem d_Law_law_393 : decode b_Law_law 393 = .ok (.iadd, 1) := by decide +kernel
theorem d_Law_law_394 : decode b_Law_law 394 = .ok (.iaload, 1) := by decide +kernel
theorem d_Law_law_395 : decode b_Law_law 395 = .ok (.aload_n 3, 1) := by decide +kernel
theorem d_Law_law_396 : decode b_Law_law 396 = .ok (.invokestatic 68, 3) := by decide +kernel
theorem d_Law_law_399 : decode b_Law_law 399 = .ok (.istore 5, 2) := by decide +kernel
theorem d_Law_law_401 : decode b_Law_law 401 = .ok (.aload_n 2, 1) := by decide +kernel
theorem d_Law_law_402 : decode b_Law_law 402 = .ok (.aload_n 0, 1) := by decide +kernel
theorem d_Law_law_403 : decode b_Law_law 403 = .ok (.iload 4, 2) := by decide +kernel
theorem d_Law_law_405 : decode b_Law_law 405 = .ok (.iconst 1, 1) := by decide +kernel
theorem d_Law_law_406 : decode b_Law_law 406 = .ok (.iadd, 1) := by decide +kernel
theorem d_Law_law_407 : decode b_Law_law 407 = .ok (.iaload, 1) := by decide +kernel
theorem d_Law_law_408 : decode b_Law_law 408 = .ok (.invokevirtual 71, 3) := by decide +kernel
theorem d_Law_law_411 : decode b_Law_law 411 = .ok (.istore 6, 2) := by decide +kernel
theorem d_Law_law_413 : decode b_Law_law 413 = .ok (.aload_n 2, 1) := by decide +kernel
theorem d_Law_law_414 : decode b_Law_law 414 = .ok (.invokevirtual 51, 3) := by decide +kernel
theorem d_Law_law_417 : decode b_Law_law 417 = .ok (.iload 5, 2) := by decide +kernel
theorem d_Law_law_419 : decode b_Law_law 419 = .ok (.if_icmp .eq 5, 3) := by decide +kernel
theorem d_Law_law_422 : decode b_Law_law 422 = .ok (.iconst 0, 1) := by decide +kernel
theorem d_Law_law_423 : decode b_Law_law 423 = .ok (.ireturn, 1) := by decide +kernel
theorem d_Law_law_424 : decode b_Law_law 424 = .ok (.iload 5, 2) := by decide +kernel
theorem d_Law_law_426 : decode b_Law_law 426 = .ok (.ifCond .ne 15, 3) := by decide +kernel
theorem d_Law_law_429 : decode b_Law_law 429 = .ok (.aload_n 3, 1) := by decide +kernel
theorem d_Law_law_430 : decode b_Law_law 430 = .ok (.iconst 0, 1) := by decide +kernel
theorem d_Law_law_431 : decode b_Law_law 431 = .ok (.laload, 1) := by decide +kernel
theorem d_Law_law_432 : decode b_Law_law 432 = .ok (.iload 6, 2) := by decide +kernel
theorem d_Law_law_434 : decode b_Law_law 434 = .ok (.i2l, 1) := by decide +kernel
theorem d_Law_law_435 : decode b_Law_law 435 = .ok (.lcmp, 1) := by decide +kernel
theorem d_Law_law_436 : decode b_Law_law 436 = .ok (.ifCond .eq 5, 3) := by decide +kernel
theorem d_Law_law_439 : decode b_Law_law 439 = .ok (.iconst 0, 1) := by decide +kernel
theorem d_Law_law_440 : decode b_Law_law 440 = .ok (.ireturn, 1) := by decide +kernel
theorem d_Law_law_441 : decode b_Law_law 441 = .ok (.goto 52, 3) := by decide +kernel
theorem d_Law_law_444 : decode b_Law_law 444 = .ok (.aload_n 1, 1) := by decide +kernel
theorem d_Law_law_445 : decode b_Law_law 445 = .ok (.aload_n 0, 1) := by decide +kernel
theorem d_Law_law_446 : decode b_Law_law 446 = .ok (.iload 4, 2) := by decide +kernel
theorem d_Law_law_448 : decode b_Law_law 448 = .ok (.iconst 1, 1) := by decide +kernel
theorem d_Law_law_449 : decode b_Law_law 449 = .ok (.iadd, 1) := by decide +kernel
theorem d_Law_law_450 : decode b_Law_law 450 = .ok (.iaload, 1) := by decide +kernel
theorem d_Law_law_451 : decode b_Law_law 451 = .ok (.invokevirtual 72, 3) := by decide +kernel
theorem d_Law_law_454 : decode b_Law_law 454 = .ok (.aload_n 2, 1) := by decide +kernel
theorem d_Law_law_455 : decode b_Law_law 455 = .ok (.aload_n 0, 1) := by decide +kernel
theorem d_Law_law_456 : decode b_Law_law 456 = .ok (.iload 4, 2) := by decide +kernel
theorem d_Law_law_458 : decode b_Law_law 458 = .ok (.iconst 1, 1) := by decide +kernel
theorem d_Law_law_459 : decode b_Law_law 459 = .ok (.iadd, 1) := by decide +kernel
theorem d_Law_law_460 : decode b_Law_law 460 = .ok (.iaload, 1) := by decide +kernel
theorem d_Law_law_461 : decode b_Law_law 461 = .ok (.invokevirtual 75, 3) := by decide +kernel
theorem d_Law_law_464 : decode b_Law_law 464 = .ok (.if_icmp .eq 29, 3) := by decide +kernel
theorem d_Law_law_467 : decode b_Law_law 467 = .ok (.iconst 0, 1) := by decide +kernel
theorem d_Law_law_468 : decode b_Law_law 468 = .ok (.ireturn, 1) := by decide +kernel
theorem d_Law_law_469 : decode b_Law_law 469 = .ok (.aload_n 1, 1) := by decide +kernel
theorem d_Law_law_470 : decode b_Law_law 470 = .ok (.invokevirtual 76, 3) := by decide +kernel
theorem d_Law_law_473 : decode b_Law_law 473 = .ok (.aload_n 2, 1) := by decide +kernel
theorem d_Law_law_474 : decode b_Law_law 474 = .ok (.invokevirtual 79, 3) := by decide +kernel
theorem d_Law_law_477 : decode b_Law_law 477 = .ok (.if_icmp .eq 16, 3) := by decide +kernel
theorem d_Law_law_480 : decode b_Law_law 480 = .ok (.iconst 0, 1) := by decide +kernel
theorem d_Law_law_481 : decode b_Law_law 481 = .ok (.ireturn, 1) := by decide +kernel
theorem d_Law_law_482 : decode b_Law_law 482 = .ok (.aload_n 1, 1) := by decide +kernel
theorem d_Law_law_483 : decode b_Law_law 483 = .ok (.invokevirtual 80, 3) := by decide +kernel
theorem d_Law_law_486 : decode b_Law_law 486 = .ok (.aload_n 2, 1) := by decide +kernel
theorem d_Law_law_487 : decode b_Law_law 487 = .ok (.invokevirtual 83, 3) := by decide +kernel
theorem d_Law_law_490 : decode b_Law_law 490 = .ok (.goto 3, 3) := by decide +kernel
theorem d_Law_law_493 : decode b_Law_law 493 = .ok (.iinc 4 3, 3) := by decide +kernel
theorem d_Law_law_496 : decode b_Law_law 496 = .ok (.goto (-473), 3) := by decide +kernel
theorem d_Law_law_499 : decode b_Law_law 499 = .ok (.iconst 1, 1) := by decide +kernel
theorem d_Law_law_500 : decode b_Law_law 500 = .ok (.ireturn, 1) := by decide +kernel
