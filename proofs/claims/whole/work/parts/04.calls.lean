/-! contracts: what a method finds, what it leaves; calls through contracts -/
def Pre (g : GG) (ws : va_W) (sz : Nat) (U : State) : Prop := U.heap.size = sz ∧ va_P g.1 CL ws U.heap ∧ va_K g.1 CL (TY g) U ∧ va_D (fun _ => True) ws ∧ (∀ w ∈ NW, va_Nw w U) ∧ KC g (va_A ws sz) U U.heap
abbrev WSy (y : MethodName) (b : ByteArray) (n : Nat) (ret : Option FieldType) : List Cond := .code y b n ret :: GW
def QX (g : GG) (ws : va_W) (sz : Nat) (Post : Option Value → va_W → Prop) : Array Value → State → Outcome → State → Prop := fun _ st oc t => (∃ (r : Option Value) (ws' : va_W), oc = .returned r ∧ Post r ws' ∧ va_P g.1 CL ws' t.heap ∧ va_D (va_A ws sz) ws') ∧ va_F (va_A ws sz) st t
/-- THE CONTRACT: called with av in a heap that holds ws, the method returns; its answer and its world are as Post says -/
def Cn (g : GG) (l : Launch) (y : MethodName) (b : ByteArray) (n : Nat) (ret : Option FieldType) (rm : Room) (av : List Value) (ws : va_W) (Post : Option Value → va_W → Prop) : Prop :=
  ∀ sz, Met l y (WSy y b n ret) rm (va_Pc av (Pre g ws sz)) (QX g ws sz Post) rm.cells rm.slots (va_A ws sz)
/-- what a walk's end rests on -/
def RX (x : X0) (g : GG) (A : Nat → Prop) (Q : State → Prop) (ret : Option FieldType) (Post : Option Value → va_W → Prop) (mc ms : Nat) : Prop :=
  (xh x).sig.returnType = ret ∧ ∃ (ws : va_W) (sz : Nat), A = va_A ws sz ∧ Q = MQ (xb x) (QX g ws sz Post) (xa x) (xs x) mc ms (va_A ws sz)
def Pv (P : va_W → Prop) : Option Value → va_W → Prop := fun r ws => r = none ∧ P ws
def Pi' (P : Int32 → va_W → Prop) : Option Value → va_W → Prop := fun r ws => ∃ v : Int32, r = some (.int v) ∧ P v ws
def Pq (P : Option Nat → va_W → Prop) : Option Value → va_W → Prop := fun r ws => ∃ v : Option Nat, r = some (va_rf v) ∧ P v ws
theorem Cn.of {g : GG} {l : Launch} {y : MethodName} {b : ByteArray} {n : Nat} {ret : Option FieldType} {rm : Room} {av : List Value} {ws : va_W} {Post : Option Value → va_W → Prop} (own : String) (lv0 : List (Nat × Value)) (hy : plainName y.cls = true) (ho : y.cls = own) (hav : (lg_sl av).length ≤ n) (hlv : lv_args 0 av = lv0)
    (body : ∀ (x : X0) (A : Nat → Prop) (Q : State → Prop), xR x = rm → xl x = l → (xh x).name = y.name → CX x g A own b n → RX x g A Q ret Post rm.cells rm.slots → J x g A Q n ws lv0 0 [] 0 0) : Cn g l y b n ret rm av ws Post := by
  intro sz
  refine Met.ofW (cc := b) (maxL := n) (ret := ret) hy rfl ?_
  intro p e s m args below meth c s₁ B hml hv
  obtain ⟨rfl, hsz, hP, hK, hD0, hN, hC⟩ := hv
  have hts := atoms_spec (ws := WSy y b n ret) B.pre
  have hown : s.vm.findClass own = some m.cls := ho ▸ findClass_of_methodNamed B.named
  have hD := hD0.self (sz := sz)
  have hA : ∀ q : Nat, s.heap.size ≤ q → va_A ws sz q := fun q h => Or.inr (by rw [← hsz]; exact h)
  have hl := lv_entry av (n := n) hav
  rw [lg_entry_eq]
  rw [hlv] at hl
  exact body (p, l, e, (headSpec (WSy y b n ret) rm).room, s, m, av.toArray, below, meth, c) (va_A ws sz) (MQ below (QX g ws sz Post) av.toArray s rm.cells rm.slots (va_A ws sz)) rfl rfl (name_of_methodNamed B.named B.method).1
    ⟨B.exec, B.bytes, hml, hown, fun w h => hts w (List.mem_cons_of_mem _ h), hK, hN, hC, hA, B.notSynchronized⟩ ⟨B.returns, ws, sz, rfl, rfl⟩ s.heap [] _ hP hD va_S.rf hl
section JC
variable {x : X0} {g : GG} {A : Nat → Prop} {Q : State → Prop} {own : String} {cc : ByteArray} {nL pc cl sl mc ms : Nat} {ws : va_W} {lv lv' : List (Nat × Value)} {st : List Value} {Post : Option Value → va_W → Prop}
theorem r_iret (C : CX x g A own cc nL) (E : RX x g A Q (some .int) Post mc ms) {v : Int32} (hd : decode cc pc = .ok (.ireturn, 1)) (h1 : cl ≤ mc) (h2 : sl ≤ ms) (hp : Post (some (.int v)) ws) : J x g A Q nL ws lv pc [.int v] cl sl := fun H locs ls a b c d => by
  obtain ⟨hr, ws0, sz, rfl, rfl⟩ := E
  exact W.widen h1 h2 (W.iret C.1 C.2.1 hr (fun t ht hW => ⟨⟨_, ws, rfl, hp, by rw [ht]; exact a, b⟩, c.F ht⟩) c.2.2 hd C.2.2.2.2.2.2.2.2.2)
theorem r_zret (C : CX x g A own cc nL) {ty : FieldType} (E : RX x g A Q (some ty) Post mc ms) {v : Int32} (hd : decode cc pc = .ok (.ireturn, 1)) (hn : narrow ty (.int v) = .int v) (h1 : cl ≤ mc) (h2 : sl ≤ ms) (hp : Post (some (.int v)) ws) : J x g A Q nL ws lv pc [.int v] cl sl := fun H locs ls a b c d => by
  obtain ⟨hr, ws0, sz, rfl, rfl⟩ := E
  exact W.widen h1 h2 (W.zret C.1 C.2.1 hr hn (fun t ht hW => ⟨⟨_, ws, rfl, hp, by rw [ht]; exact a, b⟩, c.F ht⟩) c.2.2 hd C.2.2.2.2.2.2.2.2.2)
theorem bI_nar (b : Bool) : narrow .boolean (.int (bI b)) = .int (bI b) := by cases b <;> rfl
theorem r_bret (C : CX x g A own cc nL) (E : RX x g A Q (some .boolean) Post mc ms) {b : Bool} (hd : decode cc pc = .ok (.ireturn, 1)) (h1 : cl ≤ mc) (h2 : sl ≤ ms) (hp : Post (some (.int (bI b))) ws) : J x g A Q nL ws lv pc [.int (bI b)] cl sl := r_zret C E hd (bI_nar b) h1 h2 hp
theorem r_vret (C : CX x g A own cc nL) (E : RX x g A Q none Post mc ms) (hd : decode cc pc = .ok (.return_, 1)) (h1 : cl ≤ mc) (h2 : sl ≤ ms) (hp : Post none ws) : J x g A Q nL ws lv pc [] cl sl := fun H locs ls a b c d => by
  obtain ⟨hr, ws0, sz, rfl, rfl⟩ := E
  exact W.widen h1 h2 (W.vret C.1 C.2.1 hr (fun t ht hW => ⟨⟨_, ws, rfl, hp, by rw [ht]; exact a, b⟩, c.F ht⟩) c.2.2 hd C.2.2.2.2.2.2.2.2.2)
theorem r_aret (C : CX x g A own cc nL) {nm : String} (E : RX x g A Q (some (.object nm)) Post mc ms) {r : Option Nat} (hd : decode cc pc = .ok (.areturn, 1)) (h1 : cl ≤ mc) (h2 : sl ≤ ms) (hp : Post (some (va_rf r)) ws) : J x g A Q nL ws lv pc [va_rf r] cl sl := fun H locs ls a b c d => by
  obtain ⟨hr, ws0, sz, rfl, rfl⟩ := E
  exact W.widen h1 h2 (W.aret C.1 C.2.1 hr (Or.inl ⟨_, rfl⟩) (va_rf_or r) (fun t ht hW => ⟨⟨_, ws, rfl, hp, by rw [ht]; exact a, b⟩, c.F ht⟩) c.2.2 hd C.2.2.2.2.2.2.2.2.2)
/-- a world, and two parts of it -/
def Sp (ws wc wr : va_W) : Prop := ∃ isC isR : List Nat, isC.map (fun i => ws[i]?) = wc.map some ∧ isR.map (fun i => ws[i]?) = wr.map some ∧ va_nd isC = true ∧ va_nd isR = true ∧ ∀ i ∈ isR, i ∉ isC
theorem Sp.of {ws wc wr : va_W} (isC isR : List Nat) (h1 : isC.map (fun i => ws[i]?) = wc.map some) (h2 : isR.map (fun i => ws[i]?) = wr.map some) (h3 : va_nd isC = true) (h4 : va_nd isR = true) (h5 : ∀ i ∈ isR, i ∉ isC) : Sp ws wc wr := ⟨isC, isR, h1, h2, h3, h4, h5⟩
theorem sp_in {ws w : va_W} {is : List Nat} (h : is.map (fun i => ws[i]?) = w.map some) : ∀ i ∈ is, i < ws.length := by
  intro i hi
  have h1 : ws[i]? ∈ w.map some := by rw [← h]; exact List.mem_map_of_mem hi
  obtain ⟨q, -, h2⟩ := List.mem_map.mp h1
  exact (List.getElem?_eq_some_iff.mp h2.symm).1
theorem sp_app {X w pl : va_W} {is : List Nat} (h : is.map (fun i => X[i]?) = w.map some) : is.map (fun i => (X ++ pl)[i]?) = w.map some := by
  rw [← h]
  refine List.map_congr_left fun i hi => ?_
  exact List.getElem?_append_left (sp_in h i hi)
theorem sp_tail (X pl : va_W) : ((List.range pl.length).map (· + X.length)).map (fun i => (X ++ pl)[i]?) = pl.map some := by
  rw [List.map_map]
  apply List.ext_getElem?
  intro k
  simp only [List.getElem?_map, Function.comp]
  by_cases hk : k < pl.length
  · rw [List.getElem?_range hk, List.getElem?_eq_getElem hk]
    simp [List.getElem?_append_right, hk]
  · rw [List.getElem?_eq_none (by simpa using hk), List.getElem?_eq_none (by simpa using hk)]
    rfl
theorem nd_of {l : List Nat} (h : l.Nodup) : va_nd l = true := by
  induction l with
  | nil => rfl
  | cons a t ih =>
    obtain ⟨h1, h2⟩ := List.nodup_cons.mp h
    simp [va_nd, ih h2, h1]
theorem nd_to {l : List Nat} (h : va_nd l = true) : l.Nodup := by
  induction l with
  | nil => exact List.nodup_nil
  | cons a t ih =>
    simp [va_nd] at h
    exact List.nodup_cons.mpr ⟨by simpa using h.1, ih h.2⟩
theorem nd_tail (X pl : va_W) : ((List.range pl.length).map (· + X.length)).Nodup := List.Pairwise.map _ (fun a b (h : a ≠ b) => by show a + X.length ≠ b + X.length; omega) List.nodup_range
/-- the callee has the tail too -/
theorem Sp.pool {X cx wr : va_W} (h : Sp X cx wr) (pl : va_W) : Sp (X ++ pl) (cx ++ pl) wr := by
  obtain ⟨isC, isR, h1, h2, h3, h4, h5⟩ := h
  refine ⟨isC ++ (List.range pl.length).map (· + X.length), isR, ?_, sp_app h2, ?_, h4, ?_⟩
  · rw [List.map_append, List.map_append, sp_app h1, sp_tail]
  · refine nd_of (List.nodup_append.mpr ⟨nd_to h3, nd_tail X pl, ?_⟩)
    intro i hi j hj e
    subst e
    have := sp_in h1 i hi
    simp at hj
    omega
  · intro i hi hc
    rcases List.mem_append.mp hc with hc | hc
    · exact h5 i hi hc
    · have := sp_in h2 i hi
      simp at hc
      omega
/-- the callee hasn't the tail -/
theorem Sp.keep {X cx wr : va_W} (h : Sp X cx wr) (pl : va_W) : Sp (X ++ pl) cx (wr ++ pl) := by
  obtain ⟨isC, isR, h1, h2, h3, h4, h5⟩ := h
  refine ⟨isC, isR ++ (List.range pl.length).map (· + X.length), sp_app h1, ?_, h3, ?_, ?_⟩
  · rw [List.map_append, List.map_append, sp_app h2, sp_tail]
  · refine nd_of (List.nodup_append.mpr ⟨nd_to h4, nd_tail X pl, ?_⟩)
    intro i hi j hj e
    subst e
    have := sp_in h2 i hi
    simp at hj
    omega
  · intro i hi hc
    rcases List.mem_append.mp hi with hi | hi
    · exact h5 i hi hc
    · have := sp_in h1 i hc
      simp at hi
      omega
theorem r_swap {a1 b1 c1 : va_W} (k : J x g A Q nL ((a1 ++ c1) ++ b1) lv pc st cl sl) : J x g A Q nL ((a1 ++ b1) ++ c1) lv pc st cl sl := fun H locs ls a b c d => k H locs ls a.swap b.swap c d
/-- some of the cells, in another order -/
theorem r_ord {ws' : va_W} (is : List Nat) (hs : is.map (fun i => ws[i]?) = ws'.map some) (hn : va_nd is = true) (k : J x g A Q nL ws' lv pc st cl sl) : J x g A Q nL ws lv pc st cl sl := fun H locs ls a b c d => by
  refine k H locs ls (a.sub is ?_) (b.sub is hn hs) c d
  clear a b c d k hn
  induction is generalizing ws' with
  | nil => cases ws' with
    | nil => rfl
    | cons q t => simp at hs
  | cons i t ih => cases ws' with
    | nil => simp at hs
    | cons q t' =>
      simp only [List.map_cons, List.cons.injEq] at hs
      rw [List.filterMap_cons, hs.1, ih hs.2]
theorem r_ordP {X X' pl : va_W} (is : List Nat) (hs : is.map (fun i => X[i]?) = X'.map some) (hn : va_nd is = true) (k : J x g A Q nL (X' ++ pl) lv pc st cl sl) : J x g A Q nL (X ++ pl) lv pc st cl sl := fun H locs ls a b c d => k H locs ls (a.part is hs) (b.part is hn hs) c d
theorem r_eqW {ws' : va_W} (h : ws = ws') (k : J x g A Q nL ws' lv pc st cl sl) : J x g A Q nL ws lv pc st cl sl := h ▸ k
theorem r_eqL (h : lv = lv') (k : J x g A Q nL ws lv' pc st cl sl) : J x g A Q nL ws lv pc st cl sl := h ▸ k
theorem r_eqS {st' : List Value} (h : st = st') (k : J x g A Q nL ws lv pc st' cl sl) : J x g A Q nL ws lv pc st cl sl := h ▸ k
theorem pre_blind (av : List Value) (ws : va_W) (sz : Nat) : FrameBlind (va_Pc av (Pre g ws sz)) := by
  intro a U gf mk q
  obtain ⟨q0, q1, qP, qK, qD, qN, qC⟩ := q
  exact ⟨q0, q1, qP, va_K.moved (u := U) (U := U.calling gf mk a) (Vm.Alike.refl U.vm) qK, qD, fun w h => nw_same w h (u := U) (U := U.calling gf mk a) rfl (qN w h), KC.same (u := U) (U := U.calling gf mk a) rfl qC⟩
theorem pre_at (C : CX x g A own cc nL) {wc wr : va_W} (sp : Sp ws wc wr) {H : Heap} {locs : List Loc} (a : va_P g.1 CL ws H) (b : va_D A ws) (c : va_S A (xs x).heap H locs) (av : List Value) : ∀ U : State, U.heap = H → (xs x).WarmedH U.vm → va_Pc av (Pre g wc H.size) av.toArray U := by
  obtain ⟨isC, isR, h1, h2, h3, h4, h5⟩ := sp
  intro U hU hW
  refine ⟨rfl, by rw [hU], ?_, va_K.moved hW.alike C.2.2.2.2.2.1, (b.sub isC h3 h1).weaken (fun _ _ _ _ => trivial), fun w h => nw_warm w h hW (C.2.2.2.2.2.2.1 w h), ?_⟩
  · rw [hU]
    intro k q hk
    have e1 : (isC.map (fun i => ws[i]?))[k]? = some (some q) := by rw [h1, List.getElem?_map, hk]; rfl
    rw [List.getElem?_map] at e1
    cases hi : isC[k]? with
    | none => rw [hi] at e1; cases e1
    | some i => rw [hi] at e1; exact a i q (Option.some.inj e1)
  · rw [hU]
    exact ((C.2.2.2.2.2.2.2.1.kept c.2.1).narrow (fun q h => va_free b c C.2.2.2.2.2.2.2.2.1 isC h1 q h)).warm hW
theorem j_tail (C : CX x g A own cc nL) {wc wr : va_W} (sp : Sp ws wc wr) {H : Heap} {locs : List Loc} {ls : Array Slot} {st0 rest : List Value} {av : Array Value} (a : va_P g.1 CL ws H) (b : va_D A ws) (c : va_S A (xs x).heap H locs) (d : lv_has ls nL lv)
    (hr : va_Run x.1 (xl x) (xe x) (xR x) (xs x) (xm x) (xa x) (xb x) (xh x) (xc x) H locs cl sl mc ms (F0 (xm x) pc ls st0) rest (QX g wc H.size Post av) (va_A wc H.size))
    (k : ∀ (r : Option Value) (ws1 : va_W), Post r ws1 → J x g A Q nL (wr ++ ws1) lv (pc + 3) (r.toList ++ rest) (cl + mc) (sl + ms)) : W x.1 (xl x) (xe x) (xR x) (xs x) (xm x) (xa x) (xb x) (xh x) (xc x) H locs cl sl Q (F0 (xm x) pc ls st0) := by
  obtain ⟨isC, isR, h1, h2, h3, h4, h5⟩ := sp
  intro T hT X
  obtain ⟨v, st₀, t, T', L, h0, X', hL, e1, e2, ⟨⟨r, ws1, hv, hp, hP1, hD1⟩, hz, hk⟩, stp⟩ := hr T hT X
  cases hv
  rw [h0] at hz hk
  have hF := va_free b c C.2.2.2.2.2.2.2.2.1 isC h1
  obtain ⟨hP', hD'⟩ := va_join a b isC isR h1 h2 h4 h5 hk hF hP1 hD1
  obtain ⟨t2, a1, b1⟩ := k v ws1 hp t.heap (locs ++ L) ls hP' hD' ⟨Nat.le_trans c.1 hz, fun q g1 g2 => by rw [hk q (Nat.lt_of_lt_of_le g1 c.1) (fun z => g2 (hF q z))]; exact c.2.1 q g1 g2, fun q hq => by
      rcases List.mem_append.mp hq with h | h
      · exact c.2.2 q h
      · exact hF _ (hL q h)⟩ d T' e1 X'
  exact ⟨t2, stp t2 a1, b1⟩
/-- the words of a call: own's place index links y -/
def LK (own : String) (index : Nat) (y : MethodName) : Prop := Cond.methodLink own index y ∈ GW ∨ ∃ host, Cond.methodLinkNest own index y host ∈ NW
def MW (y : MethodName) (b : ByteArray) (n : Nat) (ret : Option FieldType) (k : Nat) : Prop := Cond.code y b n ret ∈ GW ∧ Cond.initialized y.cls ∈ GW ∧ (y.cls ≠ "java/lang/invoke/MethodHandle" ∧ y.cls ≠ "java/lang/invoke/VarHandle" ∧ (parseMethodDescriptor y.desc).map (fun d => d.parameters.length) = some k)
def VW (y : MethodName) : Prop := Cond.instanceMethod y ∈ GW ∧ Cond.selects y.cls y y ∈ GW
def Fit (x : X0) (rm : Room) (n cl sl : Nat) : Prop := (rm.frames + 1 ≤ (xR x).frames ∧ 8 + (n + 11) + rm.locals ≤ (xR x).locals) ∧ cl + rm.cells ≤ (xR x).cells ∧ sl + rm.slots ≤ (xR x).slots
theorem gw_in {y : MethodName} {b : ByteArray} {n : Nat} {ret : Option FieldType} (h : Cond.code y b n ret ∈ GW) : GoodIn GW (WSy y b n ret) := by
  intro w hw
  rcases List.mem_cons.mp hw with rfl | hw
  · exact ⟨h, gw_good _ h⟩
  · exact ⟨hw, gw_good _ hw⟩
variable {y : MethodName} {b' : ByteArray} {n' k' index h0 : Nat} {ret' : Option FieldType} {rm' : Room} {As rest : List Value} {wc wr : va_W} {Cx : String}
theorem j_callV (C : CX x g A own cc nL) (hc : Cn g (xl x) y b' n' ret' rm' (.ref h0 :: As) wc Post) (sp : Sp ws wc wr) (hd : decode cc pc = .ok (.invokevirtual index, 3)) (hl : LK own index y) (hm : MW y b' n' ret' k') (hv : VW y) {ci q0 : Nat} {fs : List Value} {T : u_T} {N : Nat} (hq : wc[q0]? = some (h0, .inr (ci, fs))) (hci : CL[ci]? = some (y.cls, T, N)) (hf : Fit x rm' n' cl sl) (hn : As.length = k') (hW : (rest.map fun v => v.category).sum ≤ 8) (hst : st = As.reverse ++ .ref h0 :: rest)
    (k : ∀ (r : Option Value) (ws1 : va_W), Post r ws1 → J x g A Q nL (wr ++ ws1) lv (pc + 3) (r.toList ++ rest) (cl + rm'.cells) (sl + rm'.slots)) : J x g A Q nL ws lv pc st cl sl := fun H locs ls a b c d => by
  subst hst
  have hpre := pre_at C sp a b c (.ref h0 :: As)
  have hrecv : ∃ cell : Cell, H[h0]? = some cell ∧ cell.vm.isStatics = false ∧ (xs x).vm.findClass y.cls = some cell.cls := by
    obtain ⟨isC, isR, h1, -⟩ := id sp
    have e1 : (isC.map (fun i => ws[i]?))[q0]? = some (some (h0, .inr (ci, fs))) := by rw [h1, List.getElem?_map, hq]; rfl
    rw [List.getElem?_map] at e1
    cases hi : isC[q0]? with
    | none => rw [hi] at e1; cases e1
    | some i => rw [hi] at e1; exact va_recv C.2.2.2.2.2.1 a (ci := ci) (q0 := i) hci (Option.some.inj e1)
  have hfx : CallFix x.1 (xm x) (xc x) cc nL (xs x) (xa x) GW own := ⟨C.1, C.2.1, C.2.2.1, C.2.2.2.1, C.2.2.2.2.1⟩
  rcases hl with hl | ⟨host, hl⟩
  · exact j_tail C sp a b c d (va_runV (C := y.cls) (n := k') hfx (hc H.size) ⟨callB_of k' C.2.2.2.2.1 (gw_in hm.1) rfl rfl rfl (C.2.2.2.2.1 _ hm.2.1) (C.2.2.2.2.1 _ hl) hm.2.2 hf.1, C.2.2.2.2.1 _ hv.1, C.2.2.2.2.1 _ hv.2⟩ ⟨pre_blind _ _ _, hrecv, hpre⟩ rfl hn d.1 rfl (by simpa using hW) hd hf.2) k
  · exact j_tail C sp a b c d (va_runVN (C := y.cls) (n := k') hfx (hc H.size) ⟨va_cnB k' C.2.2.2.2.1 (gw_in hm.1) rfl rfl rfl (cx_nw C hl) (C.2.2.2.2.1 _ hm.2.1) hm.2.2 hf.1, C.2.2.2.2.1 _ hv.1, C.2.2.2.2.1 _ hv.2⟩ ⟨pre_blind _ _ _, hrecv, hpre⟩ rfl hn d.1 rfl (by simpa using hW) hd hf.2) k
/-- a call on an object that isn't in the world: a constant -/
theorem j_callC (C : CX x g A own cc nL) (hc : Cn g (xl x) y b' n' ret' rm' (.ref h0 :: As) wc Post) (sp : Sp ws wc wr) (hd : decode cc pc = .ok (.invokevirtual index, 3)) (hl : LK own index y) (hm : MW y b' n' ret' k') (hv : Cond.instanceMethod y ∈ GW ∧ Cond.selects Cx y y ∈ GW) (hrecv : va_O Cx h0 A (xs x) (xs x).heap) (hf : Fit x rm' n' cl sl) (hn : As.length = k') (hW : (rest.map fun v => v.category).sum ≤ 8) (hst : st = As.reverse ++ .ref h0 :: rest)
    (k : ∀ (r : Option Value) (ws1 : va_W), Post r ws1 → J x g A Q nL (wr ++ ws1) lv (pc + 3) (r.toList ++ rest) (cl + rm'.cells) (sl + rm'.slots)) : J x g A Q nL ws lv pc st cl sl := fun H locs ls a b c d => by
  subst hst
  have hpre := pre_at C sp a b c (.ref h0 :: As)
  have hrecv : ∃ cell : Cell, H[h0]? = some cell ∧ cell.vm.isStatics = false ∧ (xs x).vm.findClass Cx = some cell.cls := by
    obtain ⟨cell, q1, q2, q3, q4⟩ := hrecv
    exact ⟨cell, by rw [c.2.1 h0 (Array.getElem?_eq_some_iff.mp q1).1 q4]; exact q1, q2, q3⟩
  have hfx : CallFix x.1 (xm x) (xc x) cc nL (xs x) (xa x) GW own := ⟨C.1, C.2.1, C.2.2.1, C.2.2.2.1, C.2.2.2.2.1⟩
  rcases hl with hl | ⟨host, hl⟩
  · exact j_tail C sp a b c d (va_runV (C := Cx) (n := k') hfx (hc H.size) ⟨callB_of k' C.2.2.2.2.1 (gw_in hm.1) rfl rfl rfl (C.2.2.2.2.1 _ hm.2.1) (C.2.2.2.2.1 _ hl) hm.2.2 hf.1, C.2.2.2.2.1 _ hv.1, C.2.2.2.2.1 _ hv.2⟩ ⟨pre_blind _ _ _, hrecv, hpre⟩ rfl hn d.1 rfl (by simpa using hW) hd hf.2) k
  · exact j_tail C sp a b c d (va_runVN (C := Cx) (n := k') hfx (hc H.size) ⟨va_cnB k' C.2.2.2.2.1 (gw_in hm.1) rfl rfl rfl (cx_nw C hl) (C.2.2.2.2.1 _ hm.2.1) hm.2.2 hf.1, C.2.2.2.2.1 _ hv.1, C.2.2.2.2.1 _ hv.2⟩ ⟨pre_blind _ _ _, hrecv, hpre⟩ rfl hn d.1 rfl (by simpa using hW) hd hf.2) k
theorem j_callS (C : CX x g A own cc nL) (hc : Cn g (xl x) y b' n' ret' rm' As wc Post) (sp : Sp ws wc wr) (hd : decode cc pc = .ok (.invokestatic index, 3)) (hl : LK own index y) (hm : MW y b' n' ret' k') (hv : Cond.static y ∈ GW) (hf : Fit x rm' n' cl sl) (hn : As.length = k') (hW : (rest.map fun v => v.category).sum ≤ 8) (hst : st = As.reverse ++ rest)
    (k : ∀ (r : Option Value) (ws1 : va_W), Post r ws1 → J x g A Q nL (wr ++ ws1) lv (pc + 3) (r.toList ++ rest) (cl + rm'.cells) (sl + rm'.slots)) : J x g A Q nL ws lv pc st cl sl := fun H locs ls a b c d => by
  subst hst
  have hpre := pre_at C sp a b c As
  have hfx : CallFix x.1 (xm x) (xc x) cc nL (xs x) (xa x) GW own := ⟨C.1, C.2.1, C.2.2.1, C.2.2.2.1, C.2.2.2.2.1⟩
  rcases hl with hl | ⟨host, hl⟩
  · exact j_tail C sp a b c d (va_runS (n := k') hfx (hc H.size) ⟨callB_of k' C.2.2.2.2.1 (gw_in hm.1) rfl rfl rfl (C.2.2.2.2.1 _ hm.2.1) (C.2.2.2.2.1 _ hl) hm.2.2 hf.1, C.2.2.2.2.1 _ hv⟩ ⟨pre_blind _ _ _, hpre⟩ rfl hn d.1 rfl (by simpa using hW) hd hf.2) k
  · exact j_tail C sp a b c d (va_runSN (n := k') hfx (hc H.size) ⟨va_cnB k' C.2.2.2.2.1 (gw_in hm.1) rfl rfl rfl (cx_nw C hl) (C.2.2.2.2.1 _ hm.2.1) hm.2.2 hf.1, C.2.2.2.2.1 _ hv, trivial⟩ ⟨pre_blind _ _ _, hpre⟩ rfl hn d.1 rfl (by simpa using hW) hd hf.2) k
theorem j_callI (C : CX x g A own cc nL) (hc : Cn g (xl x) y b' n' none rm' (.ref h0 :: As) wc Post) (sp : Sp ws wc wr) (hd : decode cc pc = .ok (.invokespecial index, 3)) (hl : LK own index y) (hm : MW y b' n' none k') (hy : y.name = "<init>") (hv : Cond.instanceMethod y ∈ GW) (hf : Fit x rm' n' cl sl) (hn : As.length = k') (hW : (rest.map fun v => v.category).sum ≤ 8) (hst : st = As.reverse ++ .ref h0 :: rest)
    (k : ∀ (r : Option Value) (ws1 : va_W), Post r ws1 → J x g A Q nL (wr ++ ws1) lv (pc + 3) (r.toList ++ rest) (cl + rm'.cells) (sl + rm'.slots)) : J x g A Q nL ws lv pc st cl sl := fun H locs ls a b c d => by
  subst hst
  have hpre := pre_at C sp a b c (.ref h0 :: As)
  have hfx : CallFix x.1 (xm x) (xc x) cc nL (xs x) (xa x) GW own := ⟨C.1, C.2.1, C.2.2.1, C.2.2.2.1, C.2.2.2.2.1⟩
  rcases hl with hl | ⟨host, hl⟩
  · exact j_tail C sp a b c d (va_runI (n := k') hfx (hc H.size) ⟨callB_of k' C.2.2.2.2.1 (gw_in hm.1) rfl rfl rfl (C.2.2.2.2.1 _ hm.2.1) (C.2.2.2.2.1 _ hl) hm.2.2 hf.1, hy, C.2.2.2.2.1 _ hv⟩ ⟨pre_blind _ _ _, hpre⟩ rfl hn d.1 rfl (by simpa using hW) hd hf.2) k
  · exact j_tail C sp a b c d (va_runIN (n := k') hfx (hc H.size) ⟨va_cnB k' C.2.2.2.2.1 (gw_in hm.1) rfl rfl rfl (cx_nw C hl) (C.2.2.2.2.1 _ hm.2.1) hm.2.2 hf.1, hy, C.2.2.2.2.1 _ hv⟩ ⟨pre_blind _ _ _, hpre⟩ rfl hn d.1 rfl (by simpa using hW) hd hf.2) k
theorem r_objInit (C : CX x g A own cc nL) {a0 : Nat} (hd : decode cc pc = .ok (.invokespecial index, 3)) (h1 : Cond.methodLink own index objectInit ∈ GW) (h2 : Cond.instanceMethod objectInit ∈ GW) (h3 : Cond.code objectInit ⟨#[0xb1]⟩ 1 none ∈ GW) (hf : 1 ≤ (xR x).frames) (hlo : (st.map fun v => v.category).sum + 12 ≤ (xR x).locals) (k : J x g A Q nL ws lv (pc + 3) st cl sl) : J x g A Q nL ws lv pc (.ref a0 :: st) cl sl := fun H locs ls a b c d =>
  W.objInit C.1 C.2.1 C.2.2.2.1 (C.2.2.2.2.1 _ h1) (C.2.2.2.2.1 _ h2) (C.2.2.2.2.1 _ h3) rfl (by rw [C.2.2.1]; exact d.1) rfl hd hf (by simpa using hlo) (k H locs ls a b c d)
end JC
