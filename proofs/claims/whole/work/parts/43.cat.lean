/-- exceptions that are none of another class -/
def xNo : List (String × String) := [(E_IAE, E_ISE), (E_UOE, E_ISE), (E_UOE, E_IAE)]
def NC (U : State) : Prop := ∀ q ∈ xNo, ∃ c1 c2 : ClassId, U.vm.findClass q.1 = some c1 ∧ U.vm.findClass q.2 = some c2 ∧ U.vm.assignable c1 c2 = false
theorem NC.moved {s U : State} (hm : s.vm.Alike U.vm) (h : NC s) : NC U := fun q hq => by
  obtain ⟨c1, c2, h1, h2, h3⟩ := h q hq
  exact ⟨c1, c2, by rw [hm.findClass]; exact h1, by rw [hm.findClass]; exact h2, by rw [hm.assignable]; exact h3⟩
/-- the contract of a method that catches -/
def CnW (g : GG) (l : Launch) (y : MethodName) (b : ByteArray) (n : Nat) (ret : Option FieldType) (hh : List (Nat × Nat × Nat × Nat)) (rm : Room) (av : List Value) (ws : va_W) (Post : Option Value → va_W → Prop) : Prop :=
  ∀ sz, Met l y (.codeWith y b n ret hh :: GW) rm (va_Pc av (fun U => Pre g ws sz U ∧ NC U)) (QX g ws sz Post) rm.cells rm.slots (va_A ws sz)
theorem CnW.of {g : GG} {l : Launch} {y : MethodName} {b : ByteArray} {n : Nat} {ret : Option FieldType} {hh : List (Nat × Nat × Nat × Nat)} {rm : Room} {av : List Value} {ws : va_W} {Post : Option Value → va_W → Prop} (own : String) (lv0 : List (Nat × Value)) (hy : plainName y.cls = true) (ho : y.cls = own) (hav : (lg_sl av).length ≤ n) (hlv : lv_args 0 av = lv0)
    (body : ∀ (x : X0) (A : Nat → Prop) (Q : State → Prop), xR x = rm → xl x = l → NC (xs x) → (xc x).exceptionTable.toList.map (fun h => (h.startPc, h.endPc, h.handlerPc, h.catchType)) = hh → CX x g A own b n → RX x g A Q ret Post rm.cells rm.slots → J x g A Q n ws lv0 0 [] 0 0) : CnW g l y b n ret hh rm av ws Post := by
  intro sz
  refine va_MetW (cc := b) (maxL := n) (ret := ret) (hh := hh) hy rfl ?_
  intro p e s m args below meth c s₁ B hml hv
  obtain ⟨rfl, ⟨hsz, hP, hK, hD0, hN, hC⟩, hX⟩ := hv
  have hts := atoms_spec (ws := .codeWith y b n ret hh :: GW) B.pre
  have hown : s.vm.findClass own = some m.cls := ho ▸ findClass_of_methodNamed B.named
  obtain ⟨m9, meth9, c9, q1, q2, q3, q4, q5, q6, q7, q8, q9⟩ := Cond.codeWith_spec (hts _ List.mem_cons_self)
  cases B.named.symm.trans q1
  cases B.method.symm.trans q2
  cases (Stand.of_body B).code.symm.trans q3
  have hD := hD0.self (sz := sz)
  have hA : ∀ q : Nat, s.heap.size ≤ q → va_A ws sz q := fun q h => Or.inr (by rw [← hsz]; exact h)
  have hl := lv_entry av (n := n) hav
  rw [lg_entry_eq]
  rw [hlv] at hl
  exact body (p, l, e, (headSpec (.codeWith y b n ret hh :: GW) rm).room, s, m, av.toArray, below, meth, c) (va_A ws sz) (MQ below (QX g ws sz Post) av.toArray s rm.cells rm.slots (va_A ws sz)) rfl rfl hX q6
    ⟨B.exec, B.bytes, hml, hown, fun w h => hts w (List.mem_cons_of_mem _ h), hK, hN, hC, hA, B.notSynchronized⟩ ⟨B.returns, ws, sz, rfl, rfl⟩ s.heap [] _ hP hD va_S.rf hl
section JX
variable {x : X0} {g : GG} {A : Nat → Prop} {Q : State → Prop} {own : String} {cc : ByteArray} {nL pc cl sl : Nat} {ws : va_W} {lv : List (Nat × Value)} {st : List Value} {E : String} {PostX : va_W → Prop} {y : MethodName} {b' : ByteArray} {n' k' index h0 : Nat} {ret' : Option FieldType} {rm' : Room} {As rest : List Value} {wc wr : va_W}
theorem back_thr {ws0 : List Cond} {rm : Room} {Pc : Array Value → State → Prop} {Qc : Array Value → State → Outcome → State → Prop} {mc ms : Nat} {free : Addr → Prop} {bytes : ByteArray} {maxL : Nat} {ret : Option FieldType} {p : Program} {l : Launch} {e : Env} {R : Room} {s : State} {sargs : Array Value} {below : List Frame}
    (hM : MT l y ws0 rm Pc Qc mc ms free) (hbl : FrameBlind Pc) (hrc : rm.cells = mc) (hrs : rm.slots = ms) (hfr : rm.frames + 1 ≤ R.frames) (hlo : 8 + (maxL + 11) + rm.locals ≤ R.locals)
    (hws : ∀ w ∈ ws0, ∀ a' U, s.WarmedH U.vm → w.before a' U = true) (hcode : Cond.code y bytes maxL ret ∈ ws0) (hini : ∀ a' U, s.WarmedH U.vm → (Cond.initialized y.cls).before a' U = true) :
    BackT l R p e below s sargs y 3 8 (PreOf R mc ms Pc) (fun A a q B => ∃ (g : JFrame) (mk : MethodId) (t : State) (L : List Loc), B.U.heap = t.heap ∧ Qc a (A.U.calling g mk a) (.threw q) t ∧ B.locs = A.locs ++ L ∧ (∀ z ∈ L, free z.base) ∧ B.cells = A.cells + mc ∧ B.slots = A.slots + ms) := by
  refine BackT.of_free (S := headSpec ws0 rm) (P := Pc) (K := fun _ _ _ _ _ => True) (bytes := bytes) (maxL := maxL) (ret := ret) (E := fun _ _ _ _ L k n => k = mc ∧ n = ms ∧ ∀ q ∈ L, free q.base) hM hfr hlo ?_ ?_ (fun _ _ _ _ _ _ _ _ _ => trivial) ?_ ?_
  · intro m meth c A a X hp
    exact ⟨atoms_intro fun w hw => hws w hw _ _ X.warmed, hws _ hcode _ _ X.warmed, hini _ _ X.warmed, by rw [show (headSpec ws0 rm).room.cells = mc from hrc]; exact hp.1, by rw [show (headSpec ws0 rm).room.slots = ms from hrs]; exact hp.2.1⟩
  · intro m meth c A a g mk X hp
    exact hbl _ _ _ _ hp.2.2
  · intro a st o t ⟨hq, L, hF, hL⟩
    exact ⟨L, mc, ms, hF, rfl, rfl, hL⟩
  · intro m meth c A a g mk v t L k n X hp hq hF ⟨e1, e2, hL⟩
    subst e1; subst e2
    exact ⟨g, mk, t, L, rfl, hq.1, rfl, hL, rfl, rfl⟩
/-- a call that throws, and its catching -/
theorem j_callT (C : CX x g A own cc nL) (hc : CT g (xl x) y b' n' ret' rm' (.ref h0 :: As) wc E PostX) (sp : Sp ws wc wr) (hd : decode cc pc = .ok (.invokevirtual index, 3)) (hl : Cond.methodLink own index y ∈ GW) (hm : MW y b' n' ret' k') (hv : VW y) {ci q0 : Nat} {fs : List Value} {T : u_T} {N : Nat} (hq : wc[q0]? = some (h0, .inr (ci, fs))) (hci : CL[ci]? = some (y.cls, T, N)) (hf : Fit x rm' n' cl sl) (hn : As.length = k') (hW : (rest.map fun v => v.category).sum ≤ 8) (hst : st = As.reverse ++ .ref h0 :: rest)
    {pre suf : List ExceptionTableEntry} {z : ExceptionTableEntry} (hsplit : (xc x).exceptionTable.toList = pre ++ z :: suf) (hpass : ∀ q ∈ pre, q.catchType ≠ 0 ∧ ∃ nm, Cond.classLink own q.catchType nm ∈ GW ∧ (E, nm) ∈ xNo) (hz : covers z pc = true) (hz0 : z.catchType ≠ 0) (hzl : Cond.classLink own z.catchType E ∈ GW) (hN : NC (xs x)) (hcast : Cond.castable E E ∈ NW)
    (k : ∀ (q : Nat) (ws1 : va_W), PostX ws1 → J x g A Q nL (wr ++ ws1) lv z.handlerPc [.ref q] (cl + rm'.cells) (sl + rm'.slots)) : J x g A Q nL ws lv pc st cl sl := fun H locs ls a b c d => by
  subst hst
  intro T hT X
  have hpre := pre_at C sp a b c (.ref h0 :: As)
  obtain ⟨isC, isR, h1, h2, h3, h4, h5⟩ := id sp
  obtain ⟨cellB, hcB, hoB, hclB⟩ : ∃ cell : Cell, H[h0]? = some cell ∧ cell.vm.isStatics = false ∧ (xs x).vm.findClass y.cls = some cell.cls := by
    have e1 : (isC.map (fun i => ws[i]?))[q0]? = some (some (h0, .inr (ci, fs))) := by rw [h1, List.getElem?_map, hq]; rfl
    rw [List.getElem?_map] at e1
    cases hi : isC[q0]? with
    | none => rw [hi] at e1; cases e1
    | some i => rw [hi] at e1; exact va_recv C.2.2.2.2.2.1 a (ci := ci) (q0 := i) hci (Option.some.inj e1)
  have hG := C.2.2.2.2.1
  have hK := back_thr (p := x.1) (e := xe x) (R := xR x) (s := xs x) (sargs := xa x) (below := xb x) (bytes := b') (maxL := n') (ret := ret') (hc H.size) (pre_blind _ _ _) rfl rfl hf.1.1 hf.1.2 (fun w hw a' U hU => word_at hU (gw_in hm.1 w hw).2 (hG _ (gw_in hm.1 w hw).1)) List.mem_cons_self (fun a' U hU => word_at hU (gw_good _ hm.2.1) (hG _ hm.2.1))
  obtain ⟨mk, methM, hnamed, hmethM, hstM, habM⟩ := Cond.instanceMethod_spec (hG _ hv.1)
  obtain ⟨methM', cM, hmethM', -, -, -, -, -, -, hsigM⟩ := Cond.code_spec hnamed (hG _ hm.1)
  cases hmethM.symm.trans hmethM'
  obtain ⟨c2, r2, m2, q1, q2, q3, q4, kP, hkP, hkPi⟩ := Cond.selects_spec (hG _ hv.2)
  have hy : y.cls ≠ "java/lang/invoke/MethodHandle" ∧ y.cls ≠ "java/lang/invoke/VarHandle" := ⟨hm.2.2.1, hm.2.2.2.1⟩
  cases hclB.symm.trans q1
  cases (State.methodFound?_of_named hnamed hy).symm.trans q2
  cases hnamed.symm.trans q3
  have hselP : selectMethod (xe x).platform (xs x).vm cellB.cls mk = .method mk := by rw [Launch.admits_selectMethod X.admits]; exact q4
  have hlen : As.length = methM.sig.parameters.length := by
    have := hm.2.2.2.2
    rw [hsigM] at this
    rw [hn]
    exact (Option.some.inj this).symm
  obtain ⟨vm₁, X₁, hstep₁⟩ := X.invokevirtual C.1 C.2.2.2.1 (hG _ hl) hnamed hmethM hstM hkP hkPi hy (a := h0) (cell := cellB) (by rw [hT]; exact hcB)
    (fun z h => by rw [h] at hoB; cases hoB) hselP hmethM habM hkP hkPi (g := F0 (xm x) pc ls (As.reverse ++ .ref h0 :: rest)) rfl (argsL := As) (rest := rest) hlen rfl (by rw [C.2.1]; exact hd)
  obtain ⟨q, ⟨U', l2, c2', s2⟩, X', ⟨g', mk', t, L, e1, hqc, e2, hL, e3, e4⟩, hsteps⟩ := hK (xm x) (xh x) (xc x) ⟨T.setVm vm₁, locs, cl, sl⟩ (F0 (xm x) pc ls rest) (.invokevirtual index) mk (Value.ref h0 :: As).toArray X₁ rfl (by rw [C.2.2.1]; exact d.1) (by rw [C.2.1]; exact hd) (by simpa using hW) (X₁.named hnamed) ⟨hf.2.1, hf.2.2, hpre (T.setVm vm₁) hT X₁.warmed⟩
  dsimp only [Pt.U, Pt.locs, Pt.cells, Pt.slots] at X' e1 e2 e3 e4 hsteps
  subst e2; subst e3; subst e4
  obtain ⟨⟨q', ce, ws1, hoc, hp, hP1, hD1, hce, hcv, hcl⟩, hzz, hkk⟩ := hqc
  cases hoc
  have hcl' : (xs x).vm.findClass E = some ce.cls := by
    have h6 : (T.setVm vm₁).vm.findClass E = some ce.cls := hcl
    rw [X₁.warmed.alike.findClass] at h6
    exact h6
  have hself : (xs x).vm.assignable ce.cls ce.cls = true := by
    obtain ⟨c3, c4, hc3, hc4, hasg⟩ := Cond.castable_spec (cx_nw C hcast)
    cases Option.some.inj (hc3.symm.trans hcl')
    cases Option.some.inj (hc4.symm.trans hcl')
    exact hasg
  obtain ⟨hend, hk0⟩ := X'.catches_of_link C.2.2.2.1 hz0 (hG _ hzl) hcl' hself
  have hpl : (xe x).platform.magicAccessors = ({} : Platform).magicAccessors := by rw [X.admits.platform]
  obtain ⟨vm', XV, hst2⟩ := X'.thenCaughtThrough q (g := F0 (xm x) pc ls rest) rfl (s₀ := T.setTop (F0 (xm x) pc ls (As.reverse ++ .ref h0 :: rest))) (hstep₁ _ fun acts => by rw [doInvoke_state]; exact hsteps) (cell := ce) (by rw [e1]; exact hce) (by rw [hcv]; rfl) hk0 pre z suf hsplit (fun q9 hq9 => by
    obtain ⟨g0, nm, g1, g2⟩ := hpass q9 hq9
    obtain ⟨c', hc', hlk⟩ := Cond.classLink_spec C.2.2.2.1 (hG _ g1) (xe x).platform hpl
    obtain ⟨c1, c22, k1, k2, k3⟩ := hN _ g2
    cases Option.some.inj (k1.symm.trans hcl')
    cases Option.some.inj (k2.symm.trans hc')
    exact Or.inr ⟨g0, _, hlk, k3⟩) hz hend
  rw [show ((T.setVm vm₁).calling g' mk' (Value.ref h0 :: As).toArray).heap = H from hT] at hzz hkk
  have hF := va_free b c C.2.2.2.2.2.2.2.2.1 isC h1
  obtain ⟨hP', hD'⟩ := va_join a b isC isR h1 h2 h4 h5 hkk hF hP1 hD1
  obtain ⟨t2, a1, b1⟩ := k q ws1 hp t.heap (locs ++ L) ls hP' hD' ⟨Nat.le_trans c.1 hzz, fun q g1 g2 => by rw [hkk q (Nat.lt_of_lt_of_le g1 c.1) (fun z => g2 (hF q z))]; exact c.2.1 q g1 g2, fun q hq => by
      rcases List.mem_append.mp hq with h | h
      · exact c.2.2 q h
      · exact hF _ (hL q h)⟩ d (U'.setVm vm') e1 XV
  exact ⟨t2, hst2.trans a1, b1⟩
end JX
