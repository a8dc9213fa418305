/-! small rows -/
abbrev rmk (f c s lo : Nat) : Room := { frames := f, cells := c, slots := s, locals := lo }
def oI (r : Option Nat) : Int32 := match r with
  | none => -1
  | some v => nI v
theorem rf_cat (r : Option Nat) : (va_rf r).category = 1 := by cases r <;> rfl
theorem rf_nar (nm : String) (r : Option Nat) : narrow (.object nm) (va_rf r) = va_rf r := by cases r <;> rfl
theorem rf_fit (nm : String) (r : Option Nat) : fits (.object nm) (va_rf r) = true := by cases r <;> rfl
theorem bI_fit (b : Bool) : fits .boolean (.int (bI b)) = true := by cases b <;> rfl
theorem bI_nar2 (b : Bool) : vp_nar .boolean (bI b) = bI b := by cases b <;> rfl
theorem nI_inc (k : Nat) (n : Nat) : nI n + Int32.ofInt (k : Int) = nI (n + k) := by
  rw [← nI_add]
  rfl
theorem nI_dec {n : Nat} (h : 0 < n) : nI n + Int32.ofInt (-1) = nI (n - 1) := by
  obtain ⟨k, rfl⟩ : ∃ k, n = k + 1 := ⟨n - 1, by omega⟩
  exact pk_m1 k
theorem nar_c {n : Nat} (h : n < 65536) : vp_nar .char (nI n) = nI n := by
  have := (pk_charN h).1
  unfold vp_nar
  rw [this]
theorem cat8 {l : List Value} (h : l.length ≤ 4) : (l.map fun v => v.category).sum ≤ 8 := by
  have h2 : ∀ m : List Value, (m.map fun v => v.category).sum ≤ 2 * m.length := by
    intro m
    induction m with
    | nil => exact Nat.le_refl _
    | cons v t ih =>
      have : v.category ≤ 2 := by rcases lv_cat v with e | e <;> omega
      simp only [List.map_cons, List.sum_cons, List.length_cons]
      omega
  have := h2 l
  omega
section JM
variable {x : X0} {g : GG} {A : Nat → Prop} {Q : State → Prop} {own : String} {cc : ByteArray} {nL pc cl sl : Nat} {ws : va_W} {lv lv' : List (Nat × Value)} {st : List Value}
theorem r_norm {ws' : va_W} {st' : List Value} {n1 n2 : Nat} (hw : ws = ws') (hs : st = st') (h1 : cl = n1) (h2 : sl = n2) (k : J x g A Q nL ws' lv pc st' n1 n2) : J x g A Q nL ws lv pc st cl sl := by
  subst hw hs h1 h2; exact k
theorem r_norm2 {ws' : va_W} {st' : List Value} (hw : ws = ws') (hs : st = st') (hl : lv = lv') (k : J x g A Q nL ws' lv' pc st' cl sl) : J x g A Q nL ws lv pc st cl sl := by
  subst hw hs hl; exact k
theorem r_after {ws' : va_W} {st' : List Value} {n1 n2 : Nat} (is : List Nat) (hs : is.map (fun i => ws[i]?) = ws'.map some) (hn : va_nd is = true) (ht : st = st') (h1 : cl = n1) (h2 : sl = n2) (k : J x g A Q nL ws' lv pc st' n1 n2) : J x g A Q nL ws lv pc st cl sl := by
  subst ht h1 h2
  exact r_ord is hs hn k
theorem r_afterP {X X' pl : va_W} {st' : List Value} {n1 n2 : Nat} (is : List Nat) (hX : ws = X ++ pl) (hs : is.map (fun i => X[i]?) = X'.map some) (hn : va_nd is = true) (ht : st = st') (h1 : cl = n1) (h2 : sl = n2) (k : J x g A Q nL (X' ++ pl) lv pc st' n1 n2) : J x g A Q nL ws lv pc st cl sl := by
  subst hX ht h1 h2
  exact r_ordP is hs hn k
theorem r_top {v v' : Int32} (h : v = v') (k : J x g A Q nL ws lv pc (.int v' :: st) cl sl) : J x g A Q nL ws lv pc (.int v :: st) cl sl := h ▸ k
theorem oI_none {r : Option Nat} (hr : ∀ v, r = some v → v < 2 ^ 31) : oI r = -1 ↔ r = none := by
  cases r with
  | none => simp [oI]
  | some v =>
    simp only [oI, reduceCtorEq, iff_false]
    intro h
    have := nI_pos (hr v rfl)
    rw [h] at this
    exact this (by decide)
theorem r_ocmp_eq (C : CX x g A own cc nL) {r : Option Nat} {off : Int} (tgt : Nat) (hd : decode cc pc = .ok (.if_icmp .eq off, 3)) (ht : (pc : Int) + off = (tgt : Int)) (hr : ∀ v, r = some v → v < 2 ^ 31) (kt : r = none → J x g A Q nL ws lv tgt st cl sl) (kf : (∃ v, r = some v) → J x g A Q nL ws lv (pc + 3) st cl sl) : J x g A Q nL ws lv pc (.int (-1) :: .int (oI r) :: st) cl sl :=
  r_icmp_eq C tgt hd ht (fun z => kt ((oI_none hr).mp z)) (fun z => kf (by
    cases r with
    | none => exact absurd rfl z
    | some v => exact ⟨v, rfl⟩))
theorem r_ocmp_ne (C : CX x g A own cc nL) {r : Option Nat} {off : Int} (tgt : Nat) (hd : decode cc pc = .ok (.if_icmp .ne off, 3)) (ht : (pc : Int) + off = (tgt : Int)) (hr : ∀ v, r = some v → v < 2 ^ 31) (kt : (∃ v, r = some v) → J x g A Q nL ws lv tgt st cl sl) (kf : r = none → J x g A Q nL ws lv (pc + 3) st cl sl) : J x g A Q nL ws lv pc (.int (-1) :: .int (oI r) :: st) cl sl :=
  r_icmp_ne C tgt hd ht (fun z => kt (by
    cases r with
    | none => exact absurd rfl z
    | some v => exact ⟨v, rfl⟩)) (fun z => kf ((oI_none hr).mp z))
theorem fit_of {rm rm' : Room} {n : Nat} (hR : xR x = rm) (h1 : rm'.frames + 1 ≤ rm.frames) (h2 : 8 + (n + 11) + rm'.locals ≤ rm.locals) (h3 : cl + rm'.cells ≤ rm.cells) (h4 : sl + rm'.slots ≤ rm.slots) : Fit x rm' n cl sl := by
  unfold Fit
  rw [hR]
  exact ⟨⟨h1, h2⟩, h3, h4⟩
def MA (nm : MethodName) (code : ByteArray) : Prop := Cond.static nm ∈ GW ∧ Cond.initialized "java/lang/Math" ∈ GW ∧ Cond.code nm code 2 (some .int) ∈ GW
theorem r_nmax (C : CX x g A own cc nL) {index n1 n2 : Nat} (hd : decode cc pc = .ok (.invokestatic index, 3)) (h1 : Cond.methodLink own index Lib.Math.max.name ∈ GW) (h2 : MA Lib.Math.max.name Lib.Math.max.code) (hf : 1 ≤ (xR x).frames) (hlo : (st.map fun v => v.category).sum + 13 ≤ (xR x).locals) (hcl : cl ≤ (xR x).cells) (hsl : sl ≤ (xR x).slots) (b1 : n1 < 2 ^ 31) (b2 : n2 < 2 ^ 31) (k : J x g A Q nL ws lv (pc + 3) (.int (nI (max n1 n2)) :: st) cl sl) : J x g A Q nL ws lv pc (.int (nI n2) :: .int (nI n1) :: st) cl sl := fun H locs ls a b c d =>
  va_mmax C.1 C.2.1 (by rw [C.2.2.1]; exact d.1.symm) C.2.2.2.1 (C.2.2.2.2.1 _ h1) (C.2.2.2.2.1 _ h2.1) (C.2.2.2.2.1 _ h2.2.1) (C.2.2.2.2.1 _ h2.2.2) hf hlo hcl hsl hd (by
    have e : (if nI n1 < nI n2 then nI n2 else nI n1) = nI (max n1 n2) := by
      by_cases h : n1 < n2
      · rw [if_pos ((nI_ltI b1 b2).mpr h), Nat.max_eq_right (Nat.le_of_lt h)]
      · rw [if_neg (fun z => h ((nI_ltI b1 b2).mp z)), Nat.max_eq_left (Nat.le_of_not_lt h)]
    rw [e]
    exact k H locs ls a b c d)
theorem r_nmin (C : CX x g A own cc nL) {index n1 n2 : Nat} (hd : decode cc pc = .ok (.invokestatic index, 3)) (h1 : Cond.methodLink own index Lib.Math.min.name ∈ GW) (h2 : MA Lib.Math.min.name Lib.Math.min.code) (hf : 1 ≤ (xR x).frames) (hlo : (st.map fun v => v.category).sum + 13 ≤ (xR x).locals) (hcl : cl ≤ (xR x).cells) (hsl : sl ≤ (xR x).slots) (b1 : n1 < 2 ^ 31) (b2 : n2 < 2 ^ 31) (k : J x g A Q nL ws lv (pc + 3) (.int (nI (min n1 n2)) :: st) cl sl) : J x g A Q nL ws lv pc (.int (nI n2) :: .int (nI n1) :: st) cl sl := fun H locs ls a b c d =>
  va_mmin C.1 C.2.1 (by rw [C.2.2.1]; exact d.1.symm) C.2.2.2.1 (C.2.2.2.2.1 _ h1) (C.2.2.2.2.1 _ h2.1) (C.2.2.2.2.1 _ h2.2.1) (C.2.2.2.2.1 _ h2.2.2) hf hlo hcl hsl hd (by
    have e : (if nI n2 < nI n1 then nI n2 else nI n1) = nI (min n1 n2) := by
      by_cases h : n2 < n1
      · rw [if_pos ((nI_ltI b2 b1).mpr h), Nat.min_eq_right (Nat.le_of_lt h)]
      · rw [if_neg (fun z => h ((nI_ltI b2 b1).mp z)), Nat.min_eq_left (Nat.le_of_not_lt h)]
    rw [e]
    exact k H locs ls a b c d)
/-- a field of an object that lies somewhere in the world -/
theorem r_getM (C : CX x g A own cc nL) {ci index a0 : Nat} {fs : List Value} {Cn : String} {T : u_T} {N : Nat} {ty : Nat → FieldType} {v : Value} (k0 : Nat) (hd : decode cc pc = .ok (.getfield index, 3)) (hc : CI ci Cn T N ty) (hf : FI own index Cn T k0) (hs : (T k0).1 = Cn) (hk : k0 < N) (he : (a0, .inr (ci, fs)) ∈ ws) (hv : fs[k0]? = some v) (k : J x g A Q nL ws lv (pc + 3) (v :: st) cl sl) : J x g A Q nL ws lv pc (.ref a0 :: st) cl sl := by
  obtain ⟨q0, hq⟩ := List.getElem?_of_mem he
  exact r_get C q0 k0 hd hc hf hs hk hq hv k
/-- a link to a field, plain or of a nest mate -/
def FO (own : String) (index : Nat) (o n d : String) : Prop := Cond.fieldLink own index o n d ∈ GW ∨ ∃ host, Cond.fieldLinkNest own index o n d host ∈ NW
theorem r_gets (C : CX x g A own cc nL) {Cn n d : String} {v : Value} {index : Nat} (hd : decode cc pc = .ok (.getstatic index, 3)) (hZ : va_Z Cn n d v A (xs x) (xs x).heap) (hl : Cond.fieldLink own index Cn n d ∈ GW) (k : J x g A Q nL ws lv (pc + 3) (v :: st) cl sl) : J x g A Q nL ws lv pc st cl sl := fun H locs ls a b c d => va_gets C.1 C.2.1 hZ c C.2.2.2.1 (C.2.2.2.2.1 _ hl) (fun _ h => h) hd (k H locs ls a b c d)
theorem r_getO (C : CX x g A own cc nL) {o n d : String} {v : Value} {q index : Nat} (hd : decode cc pc = .ok (.getfield index, 3)) (hE : va_OF o n d v q A (xs x) (xs x).heap) (hl : FO own index o n d) (k : J x g A Q nL ws lv (pc + 3) (v :: st) cl sl) : J x g A Q nL ws lv pc (.ref q :: st) cl sl := fun H locs ls a b c d => by
  rcases hl with hl | ⟨host, hl⟩
  · exact vk_getf C.1 C.2.1 hE c C.2.2.2.1 (C.2.2.2.2.1 _ hl) (fun _ h => h) hd (k H locs ls a b c d)
  · obtain ⟨cf, kk, i, f, cell, hi, hst, hc, hkn, hsl, hA⟩ := hE
    have hq : H[q]? = some cell := by rw [c.2.1 q (Array.getElem?_eq_some_iff.mp hc).1 hA]; exact hc
    exact va_Wgetf C.1 C.2.1 C.2.2.2.1 (va_Nw.use rfl (cx_nw C hl)) hi hst hq hkn hsl rfl rfl hd (k H locs ls a b c d)
theorem r_tq (C : CX x g A own cc nL) {Cn : String} {t N i : Nat} {f : Nat → Value} (hd : decode cc pc = .ok (.aaload, 1)) (hT : va_T (.object Cn) t N f A (xs x) (xs x).heap) (hi : i < N) (hN : N < 2 ^ 31) (k : J x g A Q nL ws lv (pc + 1) (f i :: st) cl sl) : J x g A Q nL ws lv pc (.int (nI i) :: .ref t :: st) cl sl := fun H locs ls a b c d => vb_tq C.1 C.2.1 hT c (vp_in_nI hi hN) (by rw [nI_clamp (by omega)]) hd (k H locs ls a b c d)
theorem r_ti (C : CX x g A own cc nL) {t N i : Nat} {f : Nat → Value} (hd : decode cc pc = .ok (.iaload, 1)) (hT : va_T .int t N f A (xs x) (xs x).heap) (hi : i < N) (hN : N < 2 ^ 31) (k : J x g A Q nL ws lv (pc + 1) (f i :: st) cl sl) : J x g A Q nL ws lv pc (.int (nI i) :: .ref t :: st) cl sl := fun H locs ls a b c d => va_ti C.1 C.2.1 hT c (vp_in_nI hi hN) (by rw [nI_clamp (by omega)]) hd (k H locs ls a b c d)
theorem r_tb (C : CX x g A own cc nL) {t N i : Nat} {f : Nat → Value} (hd : decode cc pc = .ok (.baload, 1)) (hT : va_T .byte t N f A (xs x) (xs x).heap) (hi : i < N) (hN : N < 2 ^ 31) (k : J x g A Q nL ws lv (pc + 1) (f i :: st) cl sl) : J x g A Q nL ws lv pc (.int (nI i) :: .ref t :: st) cl sl := fun H locs ls a b c d => va_tb C.1 C.2.1 hT c (vp_in_nI hi hN) (by rw [nI_clamp (by omega)]) hd (k H locs ls a b c d)
theorem r_tlen (C : CX x g A own cc nL) {ty : FieldType} {t N : Nat} {f : Nat → Value} (hd : decode cc pc = .ok (.arraylength, 1)) (hT : va_T ty t N f A (xs x) (xs x).heap) (k : J x g A Q nL ws lv (pc + 1) (.int (nI N) :: st) cl sl) : J x g A Q nL ws lv pc (.ref t :: st) cl sl := fun H locs ls a b c d => va_tlen C.1 C.2.1 hT c rfl hd (k H locs ls a b c d)
theorem r_iand (C : CX x g A own cc nL) {y z : Int32} (hd : decode cc pc = .ok (.iand, 1)) (k : J x g A Q nL ws lv (pc + 1) (.int (y &&& z) :: st) cl sl) : J x g A Q nL ws lv pc (.int z :: .int y :: st) cl sl := fun H locs ls a b c d => lv_iand C.1 C.2.1 hd (k H locs ls a b c d)
theorem r_ishr (C : CX x g A own cc nL) {y z v : Int32} (hd : decode cc pc = .ok (.ishr, 1)) (hv : y >>> (z &&& 31) = v) (k : J x g A Q nL ws lv (pc + 1) (.int v :: st) cl sl) : J x g A Q nL ws lv pc (.int z :: .int y :: st) cl sl := fun H locs ls a b c d => by subst hv; exact lv_ishr C.1 C.2.1 hd (k H locs ls a b c d)
end JM
/-! arrays of naturals, of booleans -/
def aI (T : Nat → Nat) : Nat → Int32 := fun j => nI (T j)
def zI (B : Nat → Bool) : Nat → Int32 := fun j => bI (B j)
def up {α : Type} (T : Nat → α) (k : Nat) (v : α) : Nat → α := fun j => if j = k then v else T j
theorem up_self {α : Type} (T : Nat → α) (k : Nat) (v : α) : up T k v k = v := if_pos rfl
theorem up_ne {α : Type} (T : Nat → α) {k j : Nat} (v : α) (h : j ≠ k) : up T k v j = T j := if_neg h
theorem upd_aI (T : Nat → Nat) (k v : Nat) : upd (aI T) k (nI v) = aI (up T k v) := by
  funext j
  by_cases h : j = k
  · subst h; rw [pk_us]; simp [aI, up]
  · rw [pk_un h]; simp [aI, up, h]
theorem upd_zI (B : Nat → Bool) (k : Nat) (v : Bool) : upd (zI B) k (bI v) = zI (up B k v) := by
  funext j
  by_cases h : j = k
  · subst h; rw [pk_us]; simp [zI, up]
  · rw [pk_un h]; simp [zI, up, h]
section JA
variable {x : X0} {g : GG} {A : Nat → Prop} {Q : State → Prop} {own : String} {cc : ByteArray} {nL pc cl sl : Nat} {ws ws' : va_W} {lv : List (Nat × Value)} {st : List Value} {a0 n i v : Nat} {cA : ClassId} {T : Nat → Nat} {B : Nat → Bool}
theorem r_nald (C : CX x g A own cc nL) (q0 t0 : Nat) (hd : decode cc pc = .ok (.iaload, 1)) (he : ws[q0]? = some (a0, .inl (cA, n, .inl (aI T)))) (ht : (TY g)[t0]? = some (cA, .int)) (hi : i < n) (hn : n < 2 ^ 31) (k : J x g A Q nL ws lv (pc + 1) (.int (nI (T i)) :: st) cl sl) : J x g A Q nL ws lv pc (.int (nI i) :: .ref a0 :: st) cl sl := r_iald C q0 t0 hd he ht hi hn k
theorem r_ncald (C : CX x g A own cc nL) (q0 t0 : Nat) (hd : decode cc pc = .ok (.caload, 1)) (he : ws[q0]? = some (a0, .inl (cA, n, .inl (aI T)))) (ht : (TY g)[t0]? = some (cA, .char)) (hi : i < n) (hn : n < 2 ^ 31) (k : J x g A Q nL ws lv (pc + 1) (.int (nI (T i)) :: st) cl sl) : J x g A Q nL ws lv pc (.int (nI i) :: .ref a0 :: st) cl sl := r_cald C q0 t0 hd he ht hi hn k
theorem r_bald2 (C : CX x g A own cc nL) (q0 t0 : Nat) (hd : decode cc pc = .ok (.baload, 1)) (he : ws[q0]? = some (a0, .inl (cA, n, .inl (zI B)))) (ht : (TY g)[t0]? = some (cA, .boolean)) (hi : i < n) (hn : n < 2 ^ 31) (k : J x g A Q nL ws lv (pc + 1) (.int (bI (B i)) :: st) cl sl) : J x g A Q nL ws lv pc (.int (nI i) :: .ref a0 :: st) cl sl := r_zald C q0 t0 hd he ht hi hn k
theorem r_nast (C : CX x g A own cc nL) (q0 t0 : Nat) (hd : decode cc pc = .ok (.iastore, 1)) (he : ws[q0]? = some (a0, .inl (cA, n, .inl (aI T)))) (ht : (TY g)[t0]? = some (cA, .int)) (hi : i < n) (hn : n < 2 ^ 31) (hw : ws.set q0 (a0, .inl (cA, n, .inl (aI (up T i v)))) = ws') (k : J x g A Q nL ws' lv (pc + 1) st cl sl) : J x g A Q nL ws lv pc (.int (nI v) :: .int (nI i) :: .ref a0 :: st) cl sl := r_iast C q0 t0 hd he ht hi hn (by rw [upd_aI]; exact hw) k
theorem r_ncast (C : CX x g A own cc nL) (q0 t0 : Nat) (hd : decode cc pc = .ok (.castore, 1)) (he : ws[q0]? = some (a0, .inl (cA, n, .inl (aI T)))) (ht : (TY g)[t0]? = some (cA, .char)) (hi : i < n) (hn : n < 2 ^ 31) (hv : v < 65536) (hw : ws.set q0 (a0, .inl (cA, n, .inl (aI (up T i v)))) = ws') (k : J x g A Q nL ws' lv (pc + 1) st cl sl) : J x g A Q nL ws lv pc (.int (nI v) :: .int (nI i) :: .ref a0 :: st) cl sl := r_cast C q0 t0 hd he ht hi hn (nar_c hv) (by rw [upd_aI]; exact hw) k
theorem r_bast2 (C : CX x g A own cc nL) {w : Bool} (q0 t0 : Nat) (hd : decode cc pc = .ok (.bastore, 1)) (he : ws[q0]? = some (a0, .inl (cA, n, .inl (zI B)))) (ht : (TY g)[t0]? = some (cA, .boolean)) (hi : i < n) (hn : n < 2 ^ 31) (hw : ws.set q0 (a0, .inl (cA, n, .inl (zI (up B i w)))) = ws') (k : J x g A Q nL ws' lv (pc + 1) st cl sl) : J x g A Q nL ws lv pc (.int (bI w) :: .int (nI i) :: .ref a0 :: st) cl sl := r_zast C q0 t0 hd he ht hi hn (bI_nar2 w) (by rw [upd_zI]; exact hw) k
theorem r_newn (C : CX x g A own cc nL) {atype : ArrayType} {ty : FieldType} (t0 : Nat) (hd : decode cc pc = .ok (.newarray atype, 2)) (hty : newarray.typeOf atype = ty) (h1 : Cond.arrayClass (newarray.typeOf atype) ∈ GW) (ht : (TY g)[t0]? = some (cA, ty)) (hz : ∀ cB : ClassId, vp_cell cB (n, .inl (fun _ => 0)) = arrV cB n (fun _ => defaultValue ty)) (hn : n < 2 ^ 31) (hb : n * componentBytes ty ≤ 536870912) (hcl : cl + 1 ≤ (xR x).cells) (hsl : sl + n ≤ (xR x).slots) (k : ∀ q : Nat, J x g A Q nL (ws ++ [(q, .inl (cA, n, .inl (aI (fun _ => 0))))]) lv (pc + 2) (.ref q :: st) (cl + 1) (sl + n)) : J x g A Q nL ws lv pc (.int (nI n) :: st) cl sl :=
  r_newa C t0 hd hty h1 ht hz hn hb hcl hsl (fun q => by
    have e : aI (fun _ => 0) = fun _ => 0 := by funext j; exact nI_0
    rw [← e]
    exact k q)
theorem r_newz (C : CX x g A own cc nL) {atype : ArrayType} {ty : FieldType} (t0 : Nat) (hd : decode cc pc = .ok (.newarray atype, 2)) (hty : newarray.typeOf atype = ty) (h1 : Cond.arrayClass (newarray.typeOf atype) ∈ GW) (ht : (TY g)[t0]? = some (cA, ty)) (hz : ∀ cB : ClassId, vp_cell cB (n, .inl (fun _ => 0)) = arrV cB n (fun _ => defaultValue ty)) (hn : n < 2 ^ 31) (hb : n * componentBytes ty ≤ 536870912) (hcl : cl + 1 ≤ (xR x).cells) (hsl : sl + n ≤ (xR x).slots) (k : ∀ q : Nat, J x g A Q nL (ws ++ [(q, .inl (cA, n, .inl (zI (fun _ => false))))]) lv (pc + 2) (.ref q :: st) (cl + 1) (sl + n)) : J x g A Q nL ws lv pc (.int (nI n) :: st) cl sl :=
  r_newa C t0 hd hty h1 ht hz hn hb hcl hsl (fun q => by
    have e : zI (fun _ => false) = fun _ => 0 := by funext j; rfl
    rw [← e]
    exact k q)
end JA
def oA (F : Nat → Option Nat) : Nat → Int32 := fun j => oI (F j)
theorem upd_oA (F : Nat → Option Nat) (k : Nat) (v : Option Nat) : upd (oA F) k (oI v) = oA (up F k v) := by
  funext j
  by_cases e : j = k
  · subst e; simp [upd, oA, up]
  · simp [upd, oA, up, e]
section JOA
variable {x : X0} {g : GG} {A : Nat → Prop} {Q : State → Prop} {own : String} {cc : ByteArray} {nL pc cl sl a0 n i : Nat} {cA : ClassId} {F : Nat → Option Nat} {v : Option Nat} {ws ws' : va_W} {lv : List (Nat × Value)} {st : List Value}
theorem r_oald (C : CX x g A own cc nL) (q0 t0 : Nat) (hd : decode cc pc = .ok (.iaload, 1)) (he : ws[q0]? = some (a0, .inl (cA, n, .inl (oA F)))) (ht : (TY g)[t0]? = some (cA, .int)) (hi : i < n) (hn : n < 2 ^ 31) (k : J x g A Q nL ws lv (pc + 1) (.int (oI (F i)) :: st) cl sl) : J x g A Q nL ws lv pc (.int (nI i) :: .ref a0 :: st) cl sl := r_iald C q0 t0 hd he ht hi hn k
theorem r_oast (C : CX x g A own cc nL) (q0 t0 : Nat) (hd : decode cc pc = .ok (.iastore, 1)) (he : ws[q0]? = some (a0, .inl (cA, n, .inl (oA F)))) (ht : (TY g)[t0]? = some (cA, .int)) (hi : i < n) (hn : n < 2 ^ 31) (hw : ws.set q0 (a0, .inl (cA, n, .inl (oA (up F i v)))) = ws') (k : J x g A Q nL ws' lv (pc + 1) st cl sl) : J x g A Q nL ws lv pc (.int (oI v) :: .int (nI i) :: .ref a0 :: st) cl sl := r_iast C q0 t0 hd he ht hi hn (by rw [upd_oA]; exact hw) k
/-- a word, or none, comes into a row of words -/
theorem r_aastW (C : CX x g A own cc nL) {wd : Option Nat} (q0 t0 : Nat) (hd : decode cc pc = .ok (.aastore, 1)) (he : ws[q0]? = some (a0, .inl (cA, n, .inr (.inr (.inr (.inr F)))))) (ht : (TY g)[t0]? = some (cA, .object "RuleReader$Word")) (hwd : ∀ w, wd = some w → w < 23) (hi : i < n) (hn : n < 2 ^ 31) (hw : ws.set q0 (a0, .inl (cA, n, .inr (.inr (.inr (.inr (va_up F i (wR g wd))))))) = ws') (k : J x g A Q nL ws' lv (pc + 1) st cl sl) : J x g A Q nL ws lv pc (va_rf (wR g wd) :: .int (nI i) :: .ref a0 :: st) cl sl := fun H locs ls a b c d => by
  subst hw
  cases wd with
  | none =>
    refine va_astqN (C := "RuleReader$Word") C.1 C.2.1 C.2.2.2.2.2.1 a b c q0 t0 he ht (vp_in_nI hi hn) hd (fun H1 l1 a1 b1 c1 => ?_)
    rw [nI_clamp (by omega)] at a1 b1
    exact k H1 l1 ls a1 b1 c1 d
  | some w =>
    have hrecv : ∃ cell : Cell, H[g.2.2.1 w]? = some cell ∧ cell.vm.isStatics = false ∧ (xs x).vm.findClass "RuleReader$Word" = some cell.cls := by
      obtain ⟨cell, q1, q2, q3, q4⟩ := (C.2.2.2.2.2.2.2.1.1.1 w (hwd w rfl)).2.1
      exact ⟨cell, by rw [c.2.1 _ (Array.getElem?_eq_some_iff.mp q1).1 q4]; exact q1, q2, q3⟩
    refine vb_astq (E := "RuleReader$Word") (C := "RuleReader$Word") C.1 C.2.1 C.2.2.2.2.2.1 a b c q0 t0 he ht hrecv vb_asgS (vp_in_nI hi hn) hd (fun H1 l1 a1 b1 c1 => ?_)
    rw [nI_clamp (by omega)] at a1 b1
    exact k H1 l1 ls a1 b1 c1 d
end JOA
