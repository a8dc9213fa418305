section THROW
variable {p : Program} {l : Launch} {e : Env} {R : Room} {s : State} {m : MethodId} {args : Array Value} {below : List Frame} {meth : Method} {c : Code} {T : State} {locs : List Loc} {cells slots : Nat}
abbrev anew (s T : State) (m : MethodId) (args : Array Value) (below : List Frame) : State := (T.setVm s.vm).setFrames (.invoking m args :: below)
/-- where a walk stands is a beginning too -/
theorem stand_anew (X : Stand p l e R s m args below meth c T locs cells slots) {R' : Room} (h1 : R'.frames ≤ R.frames) (h2 : R'.locals ≤ R.locals) (h3 : cells + R'.cells ≤ R.cells) (h4 : slots + R'.slots ≤ R.slots) : Stand p l e R' (anew s T m args below) m args below meth c T [] 0 0 := by
  have ht : (T.setVm s.vm).topJava?.isSome := X.here.top
  have hF : (anew s T m args below).frames = .invoking m args :: below := State.frames_setFrames _ (State.cur_lt_of_top ht)
  obtain ⟨g₀, hg⟩ := Option.isSome_iff_exists.mp ht
  obtain ⟨r, hr⟩ := State.topJava?_eq_some.mp hg
  obtain ⟨th, hth, -⟩ := State.frames_cons hr
  have hlim : e.platform.stackLimits (anew s T m args below).me = e.platform.stackLimits s.me := by rw [State.stackLimits_setFrames]; exact X.limits
  have hby : (anew s T m args below).me.stackBytes = s.me.stackBytes := by rw [State.stackBytes_setFrames]; exact X.bytes
  have hsm : (anew s T m args below).sameButNew (T.setVm s.vm) [] 0 0 := by
    have hth2 : ∃ y, (anew s T m args below).threads[(anew s T m args below).cur]? = some y := by
      obtain ⟨y, hy, -⟩ := State.frames_cons hF
      exact ⟨y, hy⟩
    obtain ⟨y, hy⟩ := hth2
    have a := (State.sameButNew.refl (anew s T m args below) hy).setFrames (T.setVm s.vm).frames (State.cur_lt_of_frames hF)
    rw [State.setFrames_setFrames, State.setFrames_self hth] at a
    exact a
  refine ⟨X.admits, X.cas, X.clock, hF, ?_, X.hears, X.method, X.code, X.here, X.tail, X.warmed, ?_, ?_, hsm⟩
  · have h := X.room
    have hu : (anew s T m args below).localsInUse = s.localsInUse := by
      rw [State.localsInUse_invoking hF (meth := meth) (c := c) X.method X.code, State.localsInUse_invoking X.frames X.method X.code]
    have q1 := X.heapSize
    have q2 := X.used
    simp only [State.hasRoom, Bool.and_eq_true, decide_eq_true_eq] at h ⊢
    obtain ⟨⟨⟨⟨a1, a2, a3, a4, a5, a6⟩, a7⟩, a8⟩, a9⟩ := h
    rw [X.frames, List.length_cons] at a2 a3
    rw [hF, hu, hlim, hby, List.length_cons]
    refine ⟨⟨⟨⟨by omega, by omega, by omega, by omega, by omega, a6⟩, ?_⟩, ?_⟩, X.book⟩
    · show T.heap.size + R'.cells ≤ e.platform.maxCells
      omega
    · show T.slotsUsed + R'.slots ≤ e.platform.maxSlots
      omega
  · exact X.limits.trans hlim.symm
  · exact X.bytes.trans hby.symm
/-- nothing of what was is changed -/
theorem same_cells {s t : State} {k n : Nat} (h : s.sameButNew t [] k n) {q : Nat} (hq : q < s.heap.size) : t.heap[q]? = s.heap[q]? := by
  have hc : s.heap[q]? = some s.heap[q] := Array.getElem?_eq_getElem hq
  obtain ⟨c', h1, h2, h3, h4⟩ := h.2.2.2.2.2 q _ hc
  rw [h1, hc]
  have e : c'.slots = s.heap[q].slots := by
    apply Array.ext_getElem?
    intro i
    exact h4 i (by simp)
  rw [h2, e]
theorem decl_of {args : Array Value} {s : State} {y : MethodName} {b : ByteArray} {n : Nat} {ret : Option FieldType} (hi : (Cond.instanceMethod y).before args s = true) (hc : (Cond.code y b n ret).before args s = true) : (Cond.declares y).before args s = true := by
  obtain ⟨r0, r, h1, h2, h3, h4⟩ := va_Decl.of hi hc
  simp [Cond.before, Cond.holds, Cond.value, h1, h2, h3, h4]
end THROW
def nm2 : List String := ["java/lang/RuntimeException", "java/lang/Exception"]
/-- how a method ends that throws an E -/
def QT (g : GG) (ws : va_W) (sz : Nat) (E : String) (Post : va_W → Prop) : Array Value → State → Outcome → State → Prop := fun _ st oc t => (∃ (q : Nat) (ce : Cell) (ws' : va_W), oc = .threw q ∧ Post ws' ∧ va_P g.1 CL ws' t.heap ∧ va_D (va_A ws sz) ws' ∧ t.heap[q]? = some ce ∧ ce.vm = .none ∧ st.vm.findClass E = some ce.cls) ∧ va_F (va_A ws sz) st t
def MT (l : Launch) (y : MethodName) (ws : List Cond) (rm : Room) (Pc : Array Value → State → Prop) (Qc : Array Value → State → Outcome → State → Prop) (mc ms : Nat) (free : Addr → Prop) : Prop :=
  MetFree l y (headSpec ws rm) Pc (fun _ _ _ _ _ => True) (fun a st o t => Qc a st o t ∧ ∃ L, FrameEndT st o t L mc ms ∧ ∀ q ∈ L, free q.base)
/-- THE CONTRACT of a call that throws -/
def CT (g : GG) (l : Launch) (y : MethodName) (b : ByteArray) (n : Nat) (ret : Option FieldType) (rm : Room) (av : List Value) (ws : va_W) (E : String) (Post : va_W → Prop) : Prop :=
  ∀ sz, MT l y (WSy y b n ret) rm (va_Pc av (Pre g ws sz)) (QT g ws sz E Post) rm.cells rm.slots (va_A ws sz)
def MQT (below : List Frame) (Qc : Array Value → State → Outcome → State → Prop) (a : Array Value) (s : State) (mc ms : Nat) (free : Addr → Prop) : State → Prop := fun t =>
  ∃ o, t.status = .running ∧ Ended t below o ∧ Qc a s o t ∧ ∃ L, FrameEndT s o t L mc ms ∧ ∀ q ∈ L, free q.base
def RT (x : X0) (g : GG) (A : Nat → Prop) (Q : State → Prop) (E : String) (Post : va_W → Prop) (mc ms : Nat) : Prop :=
  (xc x).exceptionTable.isEmpty = true ∧ ∃ (ws : va_W) (sz : Nat), A = va_A ws sz ∧ Q = MQT (xb x) (QT g ws sz E Post) (xa x) (xs x) mc ms (va_A ws sz)
theorem CT.of {g : GG} {l : Launch} {y : MethodName} {b : ByteArray} {n : Nat} {ret : Option FieldType} {rm : Room} {av : List Value} {ws : va_W} {E : String} {Post : va_W → Prop} (own : String) (lv0 : List (Nat × Value)) (hy : plainName y.cls = true) (ho : y.cls = own) (hav : (lg_sl av).length ≤ n) (hlv : lv_args 0 av = lv0)
    (body : ∀ (x : X0) (A : Nat → Prop) (Q : State → Prop), xR x = rm → xl x = l → CX x g A own b n → RT x g A Q E Post rm.cells rm.slots → J x g A Q n ws lv0 0 [] 0 0) : CT g l y b n ret rm av ws E Post := by
  intro sz
  refine MetFree.of_bodyS (code := b) (maxLocals := n) (ret := ret) hy ?_ ?_
  · intro args s m h hn
    obtain ⟨meth, c, h1, h2, h3, h4, h5, h6, -, -⟩ := Cond.code_spec hn (atoms_spec (ws := WSy y b n ret) h _ List.mem_cons_self)
    exact ⟨meth, c, h1, h2, h3, h4, h5, h6⟩
  · intro p e s m args below meth c s₁ B hml hv _
    obtain ⟨rfl, hsz, hP, hK, hD0, hN, hC⟩ := hv
    have hts := atoms_spec (ws := WSy y b n ret) B.pre
    have hown : s.vm.findClass own = some m.cls := ho ▸ findClass_of_methodNamed B.named
    have hD := hD0.self (sz := sz)
    have hA : ∀ q : Nat, s.heap.size ≤ q → va_A ws sz q := fun q h => Or.inr (by rw [← hsz]; exact h)
    have hl := lv_entry av (n := n) hav
    rw [hlv] at hl
    have hw := body (p, l, e, (headSpec (WSy y b n ret) rm).room, s, m, av.toArray, below, meth, c) (va_A ws sz) (MQT below (QT g ws sz E Post) av.toArray s rm.cells rm.slots (va_A ws sz)) rfl rfl
      ⟨B.exec, B.bytes, hml, hown, fun w h => hts w (List.mem_cons_of_mem _ h), hK, hN, hC, hA, B.notSynchronized⟩ ⟨B.noHandlers (hts _ List.mem_cons_self), ws, sz, rfl, rfl⟩ s.heap [] _ hP hD va_S.rf hl
    have hh0 : s₁.heap = s.heap := by rw [B.state]; rfl
    obtain ⟨t, a1, o, b1, b2, b3, b4⟩ := hw s₁ hh0 (Stand.of_body B)
    rw [lg_entry_eq]
    exact ⟨t, o, a1, b1, b2, b3, b4⟩
theorem at_lt {D : va_G} {cl : List vw_C} {q : Nat × va_E} {H : Heap} (h : va_at D cl q H) : q.1 < H.size := by
  obtain ⟨q1, q2⟩ := q
  cases q2 with
  | inl z => exact (Array.getElem?_eq_some_iff.mp (show H[q1]? = some _ from h)).1
  | inr z =>
    obtain ⟨r, -, cell, h2, -⟩ := h
    exact (Array.getElem?_eq_some_iff.mp h2).1
section JT
variable {x : X0} {g : GG} {A : Nat → Prop} {Q : State → Prop} {cc : ByteArray} {nL pc cl sl mc ms : Nat} {ws : va_W} {lv : List (Nat × Value)} {st : List Value} {E : String} {Post : va_W → Prop}
/-- what an exception's class is made of -/
def XOK (ic : Nat) (E : String) : Prop := ∀ (args : Array Value) (s : State), (∀ w ∈ GW, w.before args s = true) → (∀ w ∈ NW, va_Nw w s) → (∃ A, stL "java/lang/Throwable" "UNASSIGNED_STACK" "[Ljava/lang/StackTraceElement;" A s s.heap ∧ stL "java/lang/Throwable" "SUPPRESSED_SENTINEL" "Ljava/util/List;" A s s.heap) → ∀ w ∈ Bundle.ownAtoms "RuleReader" ic E nm2, w.before args s = true
theorem r_throw (C : CX x g A R_RR cc nL) (D : RT x g A Q E Post mc ms) (hfl : (xl x).flags = pinnedFlags ++ [noTraceFlag]) {tx : String} {ik is ic : Nat} (hE : Bundle.fit E = true)
    (hk : Cond.classLink R_RR ik E ∈ GW) (hini : Cond.initialized E ∈ GW) (hins : Cond.instantiable E 6 ∈ GW) (hs : (is, tx) ∈ xTx) (hx : XOK ic E)
    (d0 : decode cc pc = .ok (.new ik, 3)) (d3 : decode cc (pc + 3) = .ok (.dup, 1)) (d4 : decode cc (pc + 4) = .ok (.ldc is, 2)) (d6 : decode cc (pc + 6) = .ok (.invokespecial ic, 3)) (d9 : decode cc (pc + 9) = .ok (.athrow, 1))
    (hf : 6 ≤ (xR x).frames) (hlo : 100 ≤ (xR x).locals) (hc1 : cl + 1 ≤ (xR x).cells) (hs1 : sl + 6 ≤ (xR x).slots) (hc2 : cl + 1 ≤ mc) (hs2 : sl + 6 ≤ ms) (hcat : (st.map fun v => v.category).sum ≤ 2)
    (hp : Post ws) : J x g A Q nL ws lv pc st cl sl := fun H locs ls a b c d => by
  intro T hT X
  obtain ⟨hno, ws0, sz, rfl, rfl⟩ := D
  have XB := stand_anew X (R' := { frames := 6, locals := 100, cells := 1, slots := 6 }) hf hlo hc1 hs1
  have hsm0 : (xs x).sameButNew (anew (xs x) T (xm x) (xa x) (xb x)) locs cl sl := X.same.setFrames _ X.cur
  generalize hs0 : anew (xs x) T (xm x) (xa x) (xb x) = s0 at XB hsm0
  have hv0 : s0.vm = (xs x).vm := by rw [← hs0]; rfl
  have hh0 : s0.heap = H := by rw [← hs0]; exact hT
  have hW0 : (xs x).WarmedH s0.vm := by rw [hv0]; exact State.WarmedH.refl _
  have hG0 : ∀ w ∈ GW, w.before (xa x) s0 = true := fun w hw => word_at hW0 (gw_good w hw) (C.2.2.2.2.1 w hw)
  have hN0 : ∀ w ∈ NW, va_Nw w s0 := fun w hw => nw_same w hw hv0.symm (C.2.2.2.2.2.2.1 w hw)
  have hK0 : KC g (va_A ws0 sz) s0 s0.heap := by
    have := (C.2.2.2.2.2.2.2.1.same hv0).kept (H1 := H) (fun q h1 h2 => c.2.1 q h1 h2)
    rw [hh0]; exact this
  have hO : s0.vm.findClass R_RR = some (xm x).cls := by rw [hv0]; exact C.2.2.2.1
  obtain ⟨sa, hsa1, hsa2⟩ := hK0.2.2.2.2.2.2.2.2.2.1 (is, tx) hs
  obtain ⟨vm1, cC, kC, f1, f2, f3, f4, X1, st1⟩ := XB.newCold C.1 (own := R_RR) (C := E) (index := ik) (n := 6) hO (hG0 _ hk) (hG0 _ hins) (hG0 _ hini) (g := F0 (xm x) pc ls st) rfl (by rw [C.2.1]; exact d0) (by decide) (by decide)
  have hth : T.heap.size = H.size := by rw [hT]
  have k6 : W x.1 (xl x) (xe x) { frames := 6, locals := 100, cells := 1, slots := 6 } s0 (xm x) (xa x) (xb x) (xh x) (xc x) (H.push (freshCell cC kC)) [] 1 6 (MQT (xb x) (QT g ws0 sz E Post) (xa x) (xs x) mc ms (va_A ws0 sz)) (F0 (xm x) (pc + 6) ls (.ref sa :: .ref H.size :: .ref H.size :: st)) := by
    intro T1 hT1 Y1
    obtain ⟨U, hsteps, hrun, hend, hW, hsame, ce, hce, hoc⟩ := Y1.ctorThrowS C.1 (Launch.traces_off hfl X.admits) (own := R_RR) (cls := E) (names := nm2) (ic := ic) hO hE (by decide) (hx (xa x) s0 hG0 hN0 ⟨_, hK0.2.2.2.2.2.2.2.2.2.2.1, hK0.2.2.2.2.2.2.2.2.2.2.2⟩)
      (fun _ h => by cases h) (a := H.size) f1 f2 (by rw [hT1]; simp) (by rw [hh0]; exact Nat.le_refl _) (msg := .ref sa) rfl
      (g := F0 (xm x) (pc + 6) ls (.ref sa :: .ref H.size :: .ref H.size :: st)) rfl (by rw [C.2.2.1]; exact d.1) rfl rfl (rest := st) rfl (by rw [C.2.1]; exact d6) (by rw [C.2.1]; exact d9)
      (by
        have h0 : (xc x).exceptionTable.toList = [] := by simpa using hno
        rw [h0]
        intro z hz
        cases hz) (by decide) (by
        have h1 : (Value.ref H.size).category = 1 := rfl
        simp only [List.map_cons, List.sum_cons, h1, nm2, List.length_cons, List.length_nil]
        omega) C.2.2.2.2.2.2.2.2.2
    have hus : ∀ q, q < H.size → U.heap[q]? = H[q]? := fun q hq => by
      have := same_cells hsame (q := q) (by rw [hh0]; exact hq)
      rw [hh0] at this
      exact this
    have hsz2 : H.size ≤ U.heap.size := by rw [← hh0]; exact hsame.2.1
    have hsm : (xs x).sameButNew ({ U with vm := (xs x).vm } : State) locs mc ms := by
      have h1 := hsm0.trans hsame
      rw [List.append_nil, hv0] at h1
      exact h1.mono hc2 hs2
    refine ⟨U, hsteps, .threw H.size, hrun, hend, ⟨⟨H.size, ce, ws, rfl, hp, a.kept fun k q hk => hus _ (at_lt (a k q hk)), b, hce, hoc.vm, ?_⟩, Nat.le_trans c.1 hsz2, fun q h1 h2 => ?_⟩, locs, ⟨⟨_, rfl⟩, State.WarmedH.trans hW0 hW, hsm⟩, c.2.2⟩
    · have := hoc.cls
      rw [hv0] at this
      exact this
    · rw [hus q (Nat.lt_of_lt_of_le h1 c.1)]
      exact c.2.1 q h1 h2
  have k4 : W x.1 (xl x) (xe x) { frames := 6, locals := 100, cells := 1, slots := 6 } s0 (xm x) (xa x) (xb x) (xh x) (xc x) (H.push (freshCell cC kC)) [] 1 6 (MQT (xb x) (QT g ws0 sz E Post) (xa x) (xs x) mc ms (va_A ws0 sz)) (F0 (xm x) (pc + 4) ls (.ref H.size :: .ref H.size :: st)) := by
    intro T1 hT1 Y1
    obtain ⟨t, a1, b1⟩ := k6 T1 hT1 Y1
    exact ⟨t, Y1.ldcString C.1 (own := R_RR) (text := tx) (index := is) (a := sa) hO (by simpa [Cond.before, Cond.holds, Cond.value] using hsa1) (by simpa [Term.eval] using hsa2) (g := F0 (xm x) (pc + 4) ls (.ref H.size :: .ref H.size :: st)) rfl (by rw [C.2.1]; exact d4) t a1, b1⟩
  obtain ⟨t, a1, b1⟩ := (lv_dup C.1 C.2.1 d3 rfl k4) _ (by rw [← hT]; rfl) X1
  exact ⟨t, st1 t (by rw [hth]; exact a1), b1⟩
end JT
set_option maxRecDepth 100000 in
theorem xok_of {ic : Nat} {E : String} (ps : List Nat) (h1 : (Bundle.ownAtoms "RuleReader" ic E nm2).filter goodWord = ps.filterMap (fun i => lw_tbl[i]?))
    (h2 : (Bundle.ownAtoms "RuleReader" ic E nm2).filter (fun w => !goodWord w) = [.laysStatic "java/lang/Throwable" "UNASSIGNED_STACK" "[Ljava/lang/StackTraceElement;", .laysStatic "java/lang/Throwable" "SUPPRESSED_SENTINEL" "Ljava/util/List;", .declares (Bundle.initS "java/lang/RuntimeException"), .declares (Bundle.initS "java/lang/Exception"), .declares (Bundle.initS "java/lang/Throwable"), .castable E E, .isRef (.static "java/lang/Throwable" "UNASSIGNED_STACK" "[Ljava/lang/StackTraceElement;"), .isRef (.static "java/lang/Throwable" "SUPPRESSED_SENTINEL" "Ljava/util/List;")])
    (h3 : Cond.castable E E ∈ NW) : XOK ic E := by
  intro args s hG hN ⟨A, hL1, hL2⟩ w hw
  by_cases hg : goodWord w = true
  · have hw2 : w ∈ (Bundle.ownAtoms "RuleReader" ic E nm2).filter goodWord := List.mem_filter.mpr ⟨hw, hg⟩
    rw [h1] at hw2
    obtain ⟨i, -, hi⟩ := List.mem_filterMap.mp hw2
    exact hG w (gw hi hg)
  · have hw2 : w ∈ (Bundle.ownAtoms "RuleReader" ic E nm2).filter (fun w => !goodWord w) := List.mem_filter.mpr ⟨hw, by simpa using hg⟩
    rw [h2] at hw2
    simp only [List.mem_cons, List.not_mem_nil, or_false] at hw2
    rcases hw2 with rfl | rfl | rfl | rfl | rfl | rfl | rfl | rfl
    · exact hL1.lays
    · exact hL2.lays
    · exact decl_of (hG (.instanceMethod (Bundle.initS "java/lang/RuntimeException")) (gw (i := 669) rfl rfl)) (hG (.code (Bundle.initS "java/lang/RuntimeException") Bundle.six 2 none) (gw (i := 670) rfl rfl))
    · exact decl_of (hG (.instanceMethod (Bundle.initS "java/lang/Exception")) (gw (i := 672) rfl rfl)) (hG (.code (Bundle.initS "java/lang/Exception") Bundle.six 2 none) (gw (i := 673) rfl rfl))
    · exact decl_of (hG (.instanceMethod (Bundle.initS "java/lang/Throwable")) (gw (i := 675) rfl rfl)) (hG (.code (Bundle.initS "java/lang/Throwable") Jvm.LibCode.Throwable.InitS.code 2 none) (gw (i := 676) rfl rfl))
    · have := hN _ h3
      simpa [va_Nw, Cond.before, Cond.holds, Cond.value] using this
    · exact hL1.ref
    · exact hL2.ref
def E_ISE : String := "java/lang/IllegalStateException"
set_option maxRecDepth 100000 in
theorem xk_ISE : Cond.classLink R_RR 72 E_ISE ∈ GW := gw (i := 622) rfl rfl
set_option maxRecDepth 100000 in
theorem xi_ISE : Cond.initialized E_ISE ∈ GW := gw (i := 93) rfl rfl
set_option maxRecDepth 100000 in
theorem xn_ISE : Cond.instantiable E_ISE 6 ∈ GW := gw (i := 623) rfl rfl
set_option maxRecDepth 100000 in
theorem xo_ISE : XOK 76 E_ISE := xok_of [90, 644, 653, 658, 661, 663, 645, 646, 104, 105, 647, 652, 659, 679, 634, 680, 636, 681, 638, 648, 650, 640, 675, 676, 678, 640, 666, 667, 668, 669, 669, 670, 671, 672, 672, 673, 674, 675, 665, 623, 631, 632, 633, 635, 637, 639, 643, 642, 641] rfl rfl (nw (i := 624) rfl rfl)
theorem xf_ISE : Bundle.fit E_ISE = true := by decide +kernel
def E_IAE : String := "java/lang/IllegalArgumentException"
set_option maxRecDepth 100000 in
theorem xk_IAE : Cond.classLink R_RR 79 E_IAE ∈ GW := gw (i := 691) rfl rfl
set_option maxRecDepth 100000 in
theorem xi_IAE : Cond.initialized E_IAE ∈ GW := gw (i := 94) rfl rfl
set_option maxRecDepth 100000 in
theorem xn_IAE : Cond.instantiable E_IAE 6 ∈ GW := gw (i := 692) rfl rfl
set_option maxRecDepth 100000 in
theorem xo_IAE : XOK 83 E_IAE := xok_of [90, 644, 653, 658, 661, 663, 645, 646, 104, 105, 647, 652, 659, 679, 634, 680, 636, 681, 638, 648, 650, 640, 675, 676, 678, 640, 702, 703, 704, 669, 669, 670, 671, 672, 672, 673, 674, 675, 701, 692, 694, 655, 695, 696, 697, 698, 643, 642, 699] rfl rfl (nw (i := 693) rfl rfl)
theorem xf_IAE : Bundle.fit E_IAE = true := by decide +kernel
def E_UOE : String := "java/lang/UnsupportedOperationException"
set_option maxRecDepth 100000 in
theorem xk_UOE : Cond.classLink R_RR 88 E_UOE ∈ GW := gw (i := 819) rfl rfl
set_option maxRecDepth 100000 in
theorem xi_UOE : Cond.initialized E_UOE ∈ GW := gw (i := 96) rfl rfl
set_option maxRecDepth 100000 in
theorem xn_UOE : Cond.instantiable E_UOE 6 ∈ GW := gw (i := 820) rfl rfl
set_option maxRecDepth 100000 in
theorem xo_UOE : XOK 92 E_UOE := xok_of [90, 644, 653, 658, 661, 663, 645, 646, 104, 105, 647, 652, 659, 679, 634, 680, 636, 681, 638, 648, 650, 640, 675, 676, 678, 640, 830, 831, 832, 669, 669, 670, 671, 672, 672, 673, 674, 675, 829, 820, 822, 657, 823, 824, 825, 826, 643, 642, 827] rfl rfl (nw (i := 821) rfl rfl)
theorem xf_UOE : Bundle.fit E_UOE = true := by decide +kernel
def E_IOE : String := "java/lang/IndexOutOfBoundsException"
set_option maxRecDepth 100000 in
theorem xk_IOE : Cond.classLink R_RR 104 E_IOE ∈ GW := gw (i := 852) rfl rfl
set_option maxRecDepth 100000 in
theorem xi_IOE : Cond.initialized E_IOE ∈ GW := gw (i := 97) rfl rfl
set_option maxRecDepth 100000 in
theorem xn_IOE : Cond.instantiable E_IOE 6 ∈ GW := gw (i := 853) rfl rfl
set_option maxRecDepth 100000 in
theorem xo_IOE : XOK 108 E_IOE := xok_of [90, 644, 653, 658, 661, 663, 645, 646, 104, 105, 647, 652, 659, 679, 634, 680, 636, 681, 638, 648, 650, 640, 675, 676, 678, 640, 863, 864, 865, 669, 669, 670, 671, 672, 672, 673, 674, 675, 862, 853, 855, 656, 856, 857, 858, 859, 643, 642, 860] rfl rfl (nw (i := 854) rfl rfl)
theorem xf_IOE : Bundle.fit E_IOE = true := by decide +kernel
