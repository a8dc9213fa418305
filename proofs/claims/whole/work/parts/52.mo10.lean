/-- what is open, the outermost first: a group, or a layer -/
abbrev Stk : Type := List (Option LayerV)
def hasGS (stk : Stk) : Bool := stk.any Option.isNone
def closeS : Stk → Stk := fun stk => (stk.reverse.dropWhile Option.isSome).reverse
/-- the layers that are open, the innermost first -/
def layS (stk : Stk) : List LayerV := (stk.filterMap id).reverse
/-- the reference's state: rules, depth, what is open, the next token and what is printed, whether a statement is wanted, whether the group may end -/
abbrev MSt : Type := List RuleV × Nat × Stk × TO × Bool × Bool
/-- the token tk begins a statement -/
def begM (T : Nat → Nat) (k : Nat) (tk : Tok) (rules : List RuleV) (dp : Nat) (stk : Stk) (x : TO) : Option (Nat ⊕ (Bool × List RuleV × Nat × Stk × TO)) :=
  if (isWd tk.1 tk.2.2.2.2 0 || isWd tk.1 tk.2.2.2.2 1 || isSg T tk.1 tk.2.1 123) = true ∧ stk.length = 40 then some (.inl tk.2.1)
  else if isWd tk.1 tk.2.2.2.2 0 = true then (match pEach T k 1 x with
    | (some l, y) => some (.inr (true, rules, max dp (stk.length + 1), stk ++ [some l], y))
    | (none, y) => some (.inl y.1.2.1))
  else if isWd tk.1 tk.2.2.2.2 1 = true then (match pEach T k 2 x with
    | (some l, y) => some (.inr (true, rules, max dp (stk.length + 1), stk ++ [some l], y))
    | (none, y) => some (.inl y.1.2.1))
  else if isSg T tk.1 tk.2.1 123 = true then some (.inr (true, rules, max dp (stk.length + 1), stk ++ [none], x))
  else if isRo tk.1 tk.2.2.2.2 3 = true then (match pNums T k (tk.2.2.2.2.getD 0 - 16) x with
    | (true, c, n, w, y) => if rules.length < 400 then some (.inr (false, rules ++ [(tk.2.2.2.2.getD 0 - 16, tk.2.1, layS stk, c, n, w)], dp, closeS stk, y)) else none
    | (false, _, _, _, y) => some (.inl y.1.2.1))
  else some (.inl tk.2.1)
def mstep (T : Nat → Nat) (k : Nat) (s : MSt) : Option (Nat ⊕ (Bool × MSt)) :=
  if s.2.2.2.1.1.1 = 4 then some (.inl s.2.2.2.1.1.2.1)
  else if isSg T s.2.2.2.1.1.1 s.2.2.2.1.1.2.1 125 = true ∧ hasGS s.2.2.1 = true ∧ (s.2.2.2.2.2 = true ∨ s.2.2.2.2.1 = false) then some (.inr (false, (s.1, s.2.1, closeS s.2.2.1.dropLast, tTake T k s.2.2.2.1, false, false)))
  else if s.2.2.2.1.1.1 = 0 ∧ hasGS s.2.2.1 = false ∧ (s.2.2.2.2.2 = true ∨ s.2.2.2.2.1 = false) then some (.inr (true, s))
  else if s.2.2.2.2.1 = false then (if isSg T s.2.2.2.1.1.1 s.2.2.2.1.1.2.1 59 = true then some (.inr (false, (s.1, s.2.1, s.2.2.1, tTake T k s.2.2.2.1, true, false))) else some (.inl s.2.2.2.1.1.2.1))
  else match begM T k s.2.2.2.1.1 s.1 s.2.1 s.2.2.1 (tTake T k s.2.2.2.1) with
    | none => none
    | some (.inl v) => some (.inl v)
    | some (.inr y) => some (.inr (false, (y.2.1, y.2.2.1, y.2.2.2.1, y.2.2.2.2, y.1, isSg T s.2.2.2.1.1.1 s.2.2.2.1.1.2.1 123)))
/-- the reference's run: the first wrong place, or the rules, the depth and what is printed -/
def mrun (T : Nat → Nat) (k : Nat) : Nat → MSt → Option (Nat ⊕ (List RuleV × Nat × List Nat))
  | 0, _ => none
  | f + 1, s => match mstep T k s with
    | none => none
    | some (.inl v) => some (.inl v)
    | some (.inr (true, s2)) => some (.inr (s2.1, s2.2.1, s2.2.2.2.1.2))
    | some (.inr (false, s2)) => mrun T k f s2
/-- the arrays hold what is open -/
def StkA (OW OF OS : Nat → Nat) (op : Nat) (stk : Stk) : Prop := stk.length = op ∧ ∀ (j : Nat) (y : Option LayerV), stk[j]? = some y → match y with
  | none => OW j = 0
  | some l => OW j = l.1 - 1 ∧ LyOK l ∧ OF j = l.2.1.getD 0 ∧ OS j = l.2.2.getD 0
/-- the arrays hold the rules -/
def RulA (rules : List RuleV) (nr : Nat) (KI LI AR WH FI SE : Nat → Nat) (CO NU CN : Nat → Option Nat) : Prop := rules.length = nr ∧ ∀ (i : Nat) (r : RuleV), rules[i]? = some r → KI i = r.1 ∧ LI i = r.2.1 ∧ CO i = r.2.2.2.1 ∧ NU i = r.2.2.2.2.1 ∧ CN i = r.2.2.2.2.2 ∧ AR i = r.2.2.1.length ∧ r.2.2.1.length ≤ 40 ∧ (∀ l ∈ r.2.2.1, LyOK l) ∧ ∀ (j : Nat) (l : LayerV), r.2.2.1.reverse[j]? = some l → WH (40 * i + j) = l.1 - 1 ∧ FI (40 * i + j) = l.2.1.getD 0 ∧ SE (40 * i + j) = l.2.2.getD 0
section STK
variable {OW OF OS : Nat → Nat} {op : Nat} {stk : Stk}
theorem stk_at {j : Nat} (h : StkA OW OF OS op stk) (hj : j < op) : ∃ y, stk[j]? = some y := ⟨_, List.getElem?_eq_getElem (by rw [h.1]; exact hj)⟩
theorem stk_0 : StkA OW OF OS 0 [] := ⟨rfl, fun j y h => by cases h⟩
theorem stk_pre {s t : Stk} (h : StkA OW OF OS op (s ++ t)) : StkA OW OF OS s.length s := ⟨rfl, fun j y q => h.2 j y (by
  have := (List.getElem?_eq_some_iff.mp q).1
  rw [List.getElem?_append_left this]
  exact q)⟩
theorem stk_push {y : Option LayerV} {a b c : Nat} (h : StkA OW OF OS op stk) (hy : match y with | none => a = 0 | some l => a = l.1 - 1 ∧ LyOK l ∧ b = l.2.1.getD 0 ∧ c = l.2.2.getD 0) : StkA (up OW op a) (up OF op b) (up OS op c) (op + 1) (stk ++ [y]) := by
  refine ⟨by rw [List.length_append, h.1]; rfl, fun j z q => ?_⟩
  by_cases e : j = op
  · subst e
    rw [← h.1] at q
    simp at q
    subst q
    rw [up_self, up_self, up_self]
    exact hy
  · have hl : j < stk.length := by
      have := (List.getElem?_eq_some_iff.mp q).1
      have h1 := h.1
      simp at this
      omega
    rw [List.getElem?_append_left hl] at q
    rw [up_ne _ _ e, up_ne _ _ e, up_ne _ _ e]
    exact h.2 j z q
theorem closeS_some {s : Stk} {l : LayerV} : closeS (s ++ [some l]) = closeS s := by simp [closeS]
theorem closeS_none {s : Stk} : closeS (s ++ [none]) = s ++ [none] := by simp [closeS]
theorem ly_ne {l : LayerV} (h : LyOK l) : l.1 - 1 ≠ 0 := by have := h.1; omega
theorem stk_close : ∀ (m : Nat) (stk : Stk), stk.length = m → StkA OW OF OS m stk → closeN OW m = (closeS stk).length ∧ ∃ t, stk = closeS stk ++ t := by
  intro m
  induction m with
  | zero =>
    intro stk e h
    have : stk = [] := List.eq_nil_of_length_eq_zero e
    subst this
    exact ⟨rfl, [], rfl⟩
  | succ m ih =>
    intro stk e h
    obtain ⟨s, y, rfl⟩ : ∃ s y, stk = s ++ [y] := ⟨stk.dropLast, stk.getLast (by intro q; rw [q] at e; cases e), (List.dropLast_concat_getLast _).symm⟩
    have hs : s.length = m := by simp at e; exact e
    have hy := h.2 m y (by rw [List.getElem?_append_right (by omega), hs]; simp)
    cases y with
    | none =>
      have hy' : OW m = 0 := hy
      rw [closeS_none, closeN, if_pos hy']
      exact ⟨e.symm, [], by simp⟩
    | some l =>
      have hy' : OW m = l.1 - 1 ∧ LyOK l ∧ OF m = l.2.1.getD 0 ∧ OS m = l.2.2.getD 0 := hy
      have hp := stk_pre h
      rw [hs] at hp
      obtain ⟨a, t, b⟩ := ih s hs hp
      rw [closeS_some, closeN, if_neg (by rw [hy'.1]; exact ly_ne hy'.2.1)]
      exact ⟨a, t ++ [some l], by rw [← List.append_assoc, ← b]⟩
theorem stkA_close (h : StkA OW OF OS op stk) : StkA OW OF OS (closeN OW op) (closeS stk) := by
  obtain ⟨a, t, b⟩ := stk_close op stk h.1 h
  rw [a]
  rw [b] at h
  exact stk_pre h
theorem closeS_le : (closeS stk).length ≤ stk.length := by
  unfold closeS
  rw [List.length_reverse, ← List.length_reverse (as := stk)]
  exact (List.dropWhile_sublist _).length_le
theorem stkA_pop (h : StkA OW OF OS op stk) (h0 : 0 < op) : StkA OW OF OS (op - 1) stk.dropLast := by
  have hne : stk ≠ [] := fun q => by have := h.1; rw [q] at this; simp at this; omega
  have e := List.dropLast_concat_getLast hne
  rw [← e] at h
  have := stk_pre h
  rw [List.length_dropLast] at this
  have h1 := h.1
  rw [e] at h1
  rw [h1] at this
  exact this
theorem stkA_has (h : StkA OW OF OS op stk) : hasG OW op = hasGS stk := by
  rw [Bool.eq_iff_iff]
  simp only [hasG, hasGS, decide_eq_true_eq, List.any_eq_true]
  constructor
  · rintro ⟨j, h1, h2⟩
    obtain ⟨y, hy⟩ := stk_at h h1
    refine ⟨y, List.mem_of_getElem? hy, ?_⟩
    have := h.2 j y hy
    cases y with
    | none => rfl
    | some l =>
      have t : OW j = l.1 - 1 ∧ LyOK l ∧ OF j = l.2.1.getD 0 ∧ OS j = l.2.2.getD 0 := this
      exact absurd (t.1.symm.trans h2) (ly_ne t.2.1)
  · rintro ⟨y, h1, h2⟩
    obtain ⟨j, hj⟩ := List.getElem?_of_mem h1
    have hl := (List.getElem?_eq_some_iff.mp hj).1
    refine ⟨j, by rw [← h.1]; exact hl, ?_⟩
    cases y with
    | none => exact h.2 j none hj
    | some l => cases h2
theorem layM_stk : ∀ (m : Nat) (stk : Stk), stk.length = m → StkA OW OF OS m stk → layM OW OF OS m = (stk.filterMap id).map fun l => (l.1 - 1, l.2.1.getD 0, l.2.2.getD 0) := by
  intro m
  induction m with
  | zero =>
    intro stk e h
    have : stk = [] := List.eq_nil_of_length_eq_zero e
    subst this
    rfl
  | succ m ih =>
    intro stk e h
    obtain ⟨s, y, rfl⟩ : ∃ s y, stk = s ++ [y] := ⟨stk.dropLast, stk.getLast (by intro q; rw [q] at e; cases e), (List.dropLast_concat_getLast _).symm⟩
    have hs : s.length = m := by simp at e; exact e
    have hy := h.2 m y (by rw [List.getElem?_append_right (by omega), hs]; simp)
    have hp := stk_pre h
    rw [hs] at hp
    have i1 := ih s hs hp
    cases y with
    | none =>
      have hy' : OW m = 0 := hy
      rw [layM_n hy', i1]
      simp
    | some l =>
      have hy' : OW m = l.1 - 1 ∧ LyOK l ∧ OF m = l.2.1.getD 0 ∧ OS m = l.2.2.getD 0 := hy
      rw [layM_y (by rw [hy'.1]; exact ly_ne hy'.2.1), i1, hy'.1, hy'.2.2.1, hy'.2.2.2]
      simp
theorem layS_ok (h : StkA OW OF OS op stk) : ∀ l ∈ layS stk, LyOK l := by
  intro l hl
  unfold layS at hl
  rw [List.mem_reverse, List.mem_filterMap] at hl
  obtain ⟨y, h1, h2⟩ := hl
  obtain ⟨j, hj⟩ := List.getElem?_of_mem h1
  have h2' : y = some l := h2
  subst h2'
  exact (h.2 j _ hj).2.1
theorem rulA_push {rules : List RuleV} {nr ki bg : Nat} {KI LI AR WH FI SE AR2 WH2 FI2 SE2 : Nat → Nat} {CO NU CN : Nat → Option Nat} {c n w : Option Nat} (h : RulA rules nr KI LI AR WH FI SE CO NU CN) (hs : StkA OW OF OS op stk) (ho : op ≤ 40) (h1 : AR2 nr = (layM OW OF OS op).length) (h2 : ∀ i, i ≠ nr → AR2 i = AR i) (h3 : LayM (layM OW OF OS op) (40 * nr) WH FI SE WH2 FI2 SE2) : RulA (rules ++ [(ki, bg, layS stk, c, n, w)]) (nr + 1) (up KI nr ki) (up LI nr bg) AR2 WH2 FI2 SE2 (up CO nr c) (up NU nr n) (up CN nr w) := by
  have hL := layM_stk op stk hs.1 hs
  refine ⟨by rw [List.length_append, h.1]; rfl, fun i r q => ?_⟩
  by_cases e : i = nr
  · subst e
    rw [← h.1] at q
    simp at q
    subst q
    rw [up_self, up_self, up_self, up_self, up_self, h1]
    have hlen : (layM OW OF OS op).length = (layS stk).length := by rw [hL]; simp [layS]
    refine ⟨rfl, rfl, rfl, rfl, rfl, hlen, ?_, layS_ok hs, fun j l hj => ?_⟩
    · show (layS stk).length ≤ 40
      rw [← hlen]
      have := layM_le (OW := OW) (OF := OF) (OS := OS) op
      omega
    · have hj' : (stk.filterMap id)[j]? = some l := by simpa [layS] using hj
      refine h3.1 j (l.1 - 1, l.2.1.getD 0, l.2.2.getD 0) ?_
      rw [hL, List.getElem?_map, hj']
      rfl
  · have hl : i < rules.length := by
      have := (List.getElem?_eq_some_iff.mp q).1
      have hh := h.1
      simp at this
      omega
    rw [List.getElem?_append_left hl] at q
    obtain ⟨a1, a2, a3, a4, a5, a6, a7, a8, a9⟩ := h.2 i r q
    rw [up_ne _ _ e, up_ne _ _ e, up_ne _ _ e, up_ne _ _ e, up_ne _ _ e, h2 i e]
    refine ⟨a1, a2, a3, a4, a5, a6, a7, a8, fun j l hj => ?_⟩
    have hjl : j < r.2.2.1.length := by
      have := (List.getElem?_eq_some_iff.mp hj).1
      simpa using this
    have hlt : 40 * i + j < 40 * nr := by
      have := h.1
      omega
    obtain ⟨b1, b2, b3⟩ := h3.2 (40 * i + j) hlt
    rw [b1, b2, b3]
    exact a9 j l hj
end STK
section TST
variable {T : Nat → Nat} {k so e tn t2 : Nat} {wr2 : Option Nat} {tk : Tok}
theorem tst_w {u hi lo : Nat} (hu : u < 23) (h1 : hi = wHi u) (h2 : lo = wLo u) (hk : tk.2.1 ≤ k) (hn : NextR T k so e none tk t2 wr2) (h : t2 = tk.1) : isWm T t2 tk.2.1 tk.2.2.1 hi lo = isWd tk.1 tk.2.2.2.2 u := by
  by_cases q : t2 = 1
  · rw [← h, q, (hn.2.2.2.2.2.2.2.2.2.2.2 q).2]
    rw [Bool.eq_iff_iff, isWm_w hu (nx_let hk hn q) h1 h2]
    simp [isWd]
  · rw [isWm_n q, ← h]
    simp [isWd, q]
theorem tst_kind (hk : tk.2.1 ≤ k) (hn : NextR T k so e none tk t2 wr2) (h : t2 = tk.1) : kindM T t2 tk.2.1 tk.2.2.1 = if isRo tk.1 tk.2.2.2.2 3 = true then some (tk.2.2.2.2.getD 0 - 16) else none := by
  by_cases q : t2 = 1
  · rw [← h, q, kindM_w (nx_let hk hn q), ← (hn.2.2.2.2.2.2.2.2.2.2.2 q).2]
    cases tk.2.2.2.2 with
    | none => rfl
    | some w => simp [isRo]
  · rw [kindM_n q, ← h, if_neg]
    cases tk.2.2.2.2 <;> simp [isRo, q]
end TST
/-- what a step of begM leaves -/
def BegA (r : Nat ⊕ (Bool × List RuleV × Nat × Stk × TO)) (wr2 : Option Nat) (x2 : TO) (wa : Bool) (nr2 op2 dp2 : Nat) (OW2 OF2 OS2 KI2 LI2 AR2 WH2 FI2 SE2 : Nat → Nat) (CO2 NU2 CN2 : Nat → Option Nat) : Prop := match r with
  | .inl z => wr2 = some z
  | .inr y => wr2 = none ∧ wa = y.1 ∧ x2 = y.2.2.2.2 ∧ StkA OW2 OF2 OS2 op2 y.2.2.2.1 ∧ RulA y.2.1 nr2 KI2 LI2 AR2 WH2 FI2 SE2 CO2 NU2 CN2 ∧ dp2 = y.2.2.1 ∧ op2 ≤ 40 ∧ dp2 ≤ 40
section BEG
variable {T : Nat → Nat} {k so e bg nr op dp nr2 op2 dp2 : Nat} {v wd wr2 : Option Nat} {x x2 : TO} {wa : Bool} {OW OF OS KI LI AR WH FI SE OW2 OF2 OS2 KI2 LI2 AR2 WH2 FI2 SE2 : Nat → Nat} {CO NU CN CO2 NU2 CN2 : Nat → Option Nat} {rules : List RuleV} {stk : Stk}
theorem each_A {ro : Nat} {r : Nat ⊕ (Bool × List RuleV × Nat × Stk × TO)} (hro : ro = 1 ∨ ro = 2) (hs : StkA OW OF OS op stk) (hr : RulA rules nr KI LI AR WH FI SE CO NU CN) (ho : op < 40) (hdp : dp ≤ 40) (h : EachR T k ro x wr2 x2 op dp OW OF OS op2 dp2 OW2 OF2 OS2) (hm : (match pEach T k ro x with | (some l, y) => some (Sum.inr (true, rules, max dp (stk.length + 1), stk ++ [some l], y)) | (none, y) => some (Sum.inl y.1.2.1)) = some r) : BegA r wr2 x2 true nr op2 dp2 OW2 OF2 OS2 KI LI AR WH FI SE CO NU CN := by
  rcases h with ⟨l, h1, h2, rfl, rfl, rfl, rfl, rfl⟩ | ⟨v, h1, ⟨y, h2, h3⟩, -⟩
  · rw [h1] at hm
    cases hm
    have hl := pEach_ok hro h1
    exact ⟨h2, rfl, rfl, stk_push hs ⟨rfl, hl, rfl, rfl⟩, hr, by rw [hs.1], by omega, by omega⟩
  · rw [h2] at hm
    cases hm
    rw [h1, h3]
    rfl
theorem beg_A (hE : eachB T so bg e = isWd so wd 0) (hW : whereB T so bg e = isWd so wd 1) (hK : kindM T so bg e = if isRo so wd 3 = true then some (wd.getD 0 - 16) else none) (hs : StkA OW OF OS op stk) (hr : RulA rules nr KI LI AR WH FI SE CO NU CN) (ho : op ≤ 40) (hdp : dp ≤ 40) (hb : BegC T k so e bg x wr2 x2 wa nr op dp OW OF OS KI LI AR WH FI SE CO NU CN nr2 op2 dp2 OW2 OF2 OS2 KI2 LI2 AR2 WH2 FI2 SE2 CO2 NU2 CN2) {r : Nat ⊕ (Bool × List RuleV × Nat × Stk × TO)} (hm : begM T k (so, bg, e, v, wd) rules dp stk x = some r) : BegA r wr2 x2 wa nr2 op2 dp2 OW2 OF2 OS2 KI2 LI2 AR2 WH2 FI2 SE2 CO2 NU2 CN2 := by
  have hD : deepB T so bg e = (isWd so wd 0 || isWd so wd 1 || isSg T so bg 123) := by rw [← hE, ← hW]; rfl
  unfold begM at hm
  simp only [] at hm
  rw [← hD, ← hE, ← hW, hs.1] at hm
  rcases hb with ⟨h1, h2, h3⟩ | ⟨hn, h⟩
  · rw [if_pos ⟨h1, h2⟩] at hm
    cases hm
    exact h3
  · rw [if_neg hn] at hm
    rcases h with ⟨h, rfl, rfl, rfl, rfl, rfl, rfl, rfl, rfl, rfl, rfl, rfl⟩ | ⟨c1, c2, c3, rfl, h⟩
    · rcases h with ⟨c1, h⟩ | ⟨c1, c2, h⟩ | ⟨c1, c2, c3, rfl, rfl, rfl, rfl, rfl, rfl, rfl⟩
      · rw [if_pos c1, ← hs.1] at hm
        exact each_A (Or.inl rfl) hs hr (by have := hn; rw [deep_1 c1] at this; simp at this; omega) hdp h hm
      · rw [if_neg (by rw [c1]; decide), if_pos c2, ← hs.1] at hm
        exact each_A (Or.inr rfl) hs hr (by have := hn; rw [deep_2 c1 c2] at this; simp at this; omega) hdp h hm
      · rw [if_neg (by rw [c1]; decide), if_neg (by rw [c2]; decide), if_pos c3] at hm
        cases hm
        have h40 : op < 40 := by have := hn; rw [deep_3 c1 c2 c3] at this; simp at this; omega
        exact ⟨rfl, rfl, rfl, stk_push hs rfl, hr, rfl, by omega, by omega⟩
    · rw [if_neg (by rw [c1]; decide), if_neg (by rw [c2]; decide), if_neg (by rw [c3]; decide)] at hm
      rcases h with ⟨k1, k2⟩ | ⟨ki, k1, rfl, rfl, rfl, rfl, h⟩
      · have hnr : ¬ isRo so wd 3 = true := fun q => by rw [hK, if_pos q] at k1; cases k1
        rw [if_neg hnr] at hm
        cases hm
        exact k2
      · have hyr : isRo so wd 3 = true := Classical.byContradiction fun q => by rw [hK, if_neg q] at k1; cases k1
        rw [hK, if_pos hyr] at k1
        have hki : wd.getD 0 - 16 = ki := Option.some.inj k1
        rw [if_pos hyr, hki] at hm
        rcases h with ⟨cm, nu, wt, p1, p2, rfl, rfl, rfl, rfl, rfl, rfl, rfl, p3, p4, p5⟩ | ⟨z, p1, ⟨c', n', w', y, p2, p3⟩, -⟩
        · rw [p1] at hm
          simp only [] at hm
          by_cases q : rules.length < 400
          · rw [if_pos q] at hm
            cases hm
            exact ⟨p2, rfl, rfl, stkA_close hs, rulA_push hr hs ho p3 p4 p5, rfl, by rw [(stk_close op stk hs.1 hs).1]; exact Nat.le_trans closeS_le (by rw [hs.1]; exact ho), hdp⟩
          · rw [if_neg q] at hm; cases hm
        · rw [p2] at hm
          cases hm
          rw [p1, p3]
          rfl
end BEG
abbrev MR : Type := Nat ⊕ (List RuleV × Nat × List Nat)
section MST
variable {T : Nat → Nat} {k f dp : Nat} {rules : List RuleV} {stk : Stk} {x : TO} {wa ma : Bool} {R : MR} {tk : Tok}
theorem mr_0 {s : MSt} {fu : Nat} (h : mrun T k fu s = some R) : ∃ f, fu = f + 1 := by
  cases fu with
  | zero => cases h
  | succ f => exact ⟨f, rfl⟩
theorem ms_4 (hx : x.1 = tk) (h : mrun T k (f + 1) (rules, dp, stk, x, wa, ma) = some R) (h4 : tk.1 = 4) : R = .inl tk.2.1 := by
  subst hx
  rw [mrun, mstep, if_pos h4] at h
  exact (Option.some.inj h).symm
theorem ms_end (hx : x.1 = tk) (h : mrun T k (f + 1) (rules, dp, stk, x, wa, ma) = some R) (h4 : tk.1 ≠ 4) (h1 : isSg T tk.1 tk.2.1 125 = true) (h2 : hasGS stk = true) (h3 : ma = true ∨ wa = false) : mrun T k f (rules, dp, closeS stk.dropLast, tTake T k x, false, false) = some R := by
  subst hx
  rw [mrun, mstep, if_neg h4, if_pos ⟨h1, h2, h3⟩] at h
  exact h
theorem ms_over (hx : x.1 = tk) (h : mrun T k (f + 1) (rules, dp, stk, x, wa, ma) = some R) (h1 : tk.1 = 0) (h2 : hasGS stk = false) (h3 : ma = true ∨ wa = false) : R = .inr (rules, dp, x.2) := by
  subst hx
  rw [mrun, mstep, if_neg (by rw [h1]; decide), if_neg (fun q => by rw [h2] at q; cases q.2.1), if_pos ⟨h1, h2, h3⟩] at h
  exact (Option.some.inj h).symm
theorem ms_semi (hx : x.1 = tk) (h : mrun T k (f + 1) (rules, dp, stk, x, wa, ma) = some R) (h4 : tk.1 ≠ 4) (hn : ¬ (isSg T tk.1 tk.2.1 125 = true ∧ hasGS stk = true ∧ (ma = true ∨ wa = false))) (hv : ¬ (tk.1 = 0 ∧ hasGS stk = false ∧ (ma = true ∨ wa = false))) (hw : wa = false) : (isSg T tk.1 tk.2.1 59 = true → mrun T k f (rules, dp, stk, tTake T k x, true, false) = some R) ∧ (isSg T tk.1 tk.2.1 59 = false → R = .inl tk.2.1) := by
  subst hx
  rw [mrun, mstep, if_neg h4, if_neg hn, if_neg hv, if_pos hw] at h
  refine ⟨fun q => ?_, fun q => ?_⟩
  · rw [if_pos q] at h; exact h
  · rw [if_neg (by simp only []; rw [q]; decide)] at h
    exact (Option.some.inj h).symm
theorem ms_beg (hx : x.1 = tk) (h : mrun T k (f + 1) (rules, dp, stk, x, wa, ma) = some R) (h4 : tk.1 ≠ 4) (hn : ¬ (isSg T tk.1 tk.2.1 125 = true ∧ hasGS stk = true ∧ (ma = true ∨ wa = false))) (hv : ¬ (tk.1 = 0 ∧ hasGS stk = false ∧ (ma = true ∨ wa = false))) (hw : wa = true) : ∃ r, begM T k tk rules dp stk (tTake T k x) = some r ∧ match r with | .inl v => R = .inl v | .inr y => mrun T k f (y.2.1, y.2.2.1, y.2.2.2.1, y.2.2.2.2, y.1, isSg T tk.1 tk.2.1 123) = some R := by
  subst hx
  rw [mrun, mstep, if_neg h4, if_neg hn, if_neg hv, if_neg (by simp only []; rw [hw]; decide)] at h
  simp only [] at h
  cases q : begM T k x.1 rules dp stk (tTake T k x) with
  | none => rw [q] at h; cases h
  | some r =>
    rw [q] at h
    refine ⟨r, rfl, ?_⟩
    cases r with
    | inl v => exact (Option.some.inj h).symm
    | inr y => exact h
theorem begM_0 {y : TO} (h : tk.1 = 0) : begM T k tk rules dp stk y = some (.inl tk.2.1) := by
  have a : ∀ u, isWd tk.1 tk.2.2.2.2 u = false := fun u => by rw [h]; simp [isWd]
  have b : isSg T tk.1 tk.2.1 123 = false := by rw [h]; simp [isSg]
  have c : isRo tk.1 tk.2.2.2.2 3 = false := by rw [h]; cases tk.2.2.2.2 <;> simp [isRo]
  unfold begM
  rw [a, a, b, c]
  simp
end MST
/-- the reference's loop -/
def LInv (T : Nat → Nat) (k : Nat) (R : MR) (wr : Option Nat) (ov wa ma : Bool) (rules : List RuleV) (stk : Stk) (x : TO) (op nr dp fu : Nat) (OW OF OS KI LI AR WH FI SE : Nat → Nat) (CO NU CN : Nat → Option Nat) : Prop :=
  (wr = none ∧ StkA OW OF OS op stk ∧ RulA rules nr KI LI AR WH FI SE CO NU CN ∧ op ≤ 40 ∧ dp ≤ 40 ∧ rules.length ≤ 400 ∧ ((ov = false ∧ mrun T k fu (rules, dp, stk, x, wa, ma) = some R) ∨ (ov = true ∧ R = .inr (rules, dp, x.2)))) ∨ ∃ v, wr = some v ∧ R = .inl v
/-- behind the loop -/
def EInv (R : MR) (wr : Option Nat) (rules : List RuleV) (out : List Nat) (nr dp : Nat) (KI LI AR WH FI SE : Nat → Nat) (CO NU CN : Nat → Option Nat) : Prop :=
  (wr = none ∧ RulA rules nr KI LI AR WH FI SE CO NU CN ∧ dp ≤ 40 ∧ R = .inr (rules, dp, out)) ∨ ∃ v, wr = some v ∧ R = .inl v
/-- what read leaves -/
def ReadM (T : Nat → Nat) (k : Nat) (R : MR) (rv : Int32) (ir : Bool) (nr tn dp : Nat) (KI LI AR WH FI SE BE EN BY : Nat → Nat) (CO NU CN : Nat → Option Nat) : Prop :=
  (∃ v, R = .inl v ∧ v < 2 ^ 31 ∧ rv = (-1) - nI v ∧ ir = false ∧ nr = 0 ∧ tn = 0 ∧ dp = 0) ∨ (∃ rules out, R = .inr (rules, dp, out) ∧ rv = nI rules.length ∧ ir = true ∧ RulA rules nr KI LI AR WH FI SE CO NU CN ∧ dp ≤ 40 ∧ out = outM T BE EN tn ∧ (∀ j, j < k → BY j = T j) ∧ ∀ j, j < tn → BE j < EN j ∧ EN j ≤ k)
section LIN
variable {T : Nat → Nat} {k f dp op nr fu so e tn tn2 : Nat} {rules : List RuleV} {stk : Stk} {x : TO} {wa ma ov : Bool} {R : MR} {tk : Tok} {wr : Option Nat} {BE EN BE2 EN2 OW OF OS KI LI AR WH FI SE OW2 OF2 OS2 KI2 LI2 AR2 WH2 FI2 SE2 : Nat → Nat} {CO NU CN CO2 NU2 CN2 : Nat → Option Nat}
theorem li_go (h : LInv T k R none false wa ma rules stk x op nr dp fu OW OF OS KI LI AR WH FI SE CO NU CN) : StkA OW OF OS op stk ∧ RulA rules nr KI LI AR WH FI SE CO NU CN ∧ op ≤ 40 ∧ dp ≤ 40 ∧ rules.length ≤ 400 ∧ mrun T k fu (rules, dp, stk, x, wa, ma) = some R := by
  rcases h with ⟨-, a, b, c, d, e, ⟨-, g⟩ | ⟨g, -⟩⟩ | ⟨v, g, -⟩
  · exact ⟨a, b, c, d, e, g⟩
  · cases g
  · cases g
theorem ri_0 : RI T k 3 0 0 (-1) none BE EN := ⟨by decide, Nat.zero_le _, fun q => by omega, fun q => by omega, fun q => by omega, Nat.le_refl _, fun z h => (by cases h), fun j h => absurd h (Nat.not_lt_zero _)⟩
theorem rul_0 : RulA [] 0 KI LI AR WH FI SE CO NU CN := ⟨rfl, fun i r h => by cases h⟩
theorem has_pos (h : hasG OW op = true) : 0 < op := by
  simp only [hasG, decide_eq_true_eq] at h
  obtain ⟨j, h1, -⟩ := h
  omega
theorem nx_n4 {t2 : Nat} (hn : NextR T k so e none tk t2 none) : tk.1 ≠ 4 ∧ t2 = tk.1 := by
  rcases nx_4 hn with ⟨q1, q2⟩ | ⟨q1, q2, q3⟩
  · cases q2
  · exact ⟨q1, q3⟩
theorem note_0 (h : NoteR tk tk.1 none tn BE EN tn2 BE2 EN2) (h0 : tk.1 = 0) : outM T BE2 EN2 tn2 = outM T BE EN tn := by
  rcases h with ⟨a, -⟩ | ⟨-, rfl, rfl, rfl⟩
  · exact absurd h0 a
  · rfl
theorem li_end (hX : x.1 = tk) (hx : x = xOf T k so e BE EN tn := by rfl) (hn : NextR T k so e none tk tk.1 none) (hno : NoteR tk tk.1 none tn BE EN tn2 BE2 EN2) (hmr : mrun T k (f + 1) (rules, dp, stk, x, wa, ma) = some R) (h4 : tk.1 ≠ 4) (hS : StkA OW OF OS op stk) (hRu : RulA rules nr KI LI AR WH FI SE CO NU CN) (ho : op ≤ 40) (hd : dp ≤ 40) (h4c : rules.length ≤ 400) (h0p : 0 < op) (c1 : isSg T tk.1 tk.2.1 125 = true) (c2 : hasG OW op = true) (c3 : ma = true ∨ wa = false) : LInv T k R none false false false rules (closeS stk.dropLast) (xOf T k tk.1 tk.2.2.1 BE2 EN2 tn2) (closeN OW (op - 1)) nr dp f OW OF OS KI LI AR WH FI SE CO NU CN := by
  have hp := stkA_pop hS h0p
  refine Or.inl ⟨rfl, stkA_close hp, hRu, ?_, hd, h4c, Or.inl ⟨rfl, ?_⟩⟩
  · rw [(stk_close _ _ hp.1 hp).1]
    exact Nat.le_trans closeS_le (by rw [hp.1]; omega)
  · rw [(next_x hn hno rfl (isSg_ne c1)).2, ← hx]
    exact ms_end hX hmr h4 c1 (by rw [← stkA_has hS]; exact c2) c3
theorem li_over (hX : (xOf T k so e BE EN tn).1 = tk) (hno : NoteR tk tk.1 none tn BE EN tn2 BE2 EN2) (hmr : mrun T k (f + 1) (rules, dp, stk, xOf T k so e BE EN tn, wa, ma) = some R) (hS : StkA OW OF OS op stk) (hRu : RulA rules nr KI LI AR WH FI SE CO NU CN) (ho : op ≤ 40) (hd : dp ≤ 40) (h4c : rules.length ≤ 400) (c1 : tk.1 = 0) (c2 : hasG OW op = false) (c3 : ma = true ∨ wa = false) {y : TO} (hy : y.2 = outM T BE2 EN2 tn2 := by rfl) : LInv T k R none true wa ma rules stk y op nr dp f OW OF OS KI LI AR WH FI SE CO NU CN := by
  refine Or.inl ⟨rfl, hS, hRu, ho, hd, h4c, Or.inr ⟨rfl, ?_⟩⟩
  rw [ms_over hX hmr c1 (by rw [← stkA_has hS]; exact c2) c3, hy, note_0 hno c1]
theorem begM_len {r : Nat ⊕ (Bool × List RuleV × Nat × Stk × TO)} (h : begM T k tk rules dp stk x = some r) (hl : rules.length ≤ 400) : match r with | .inl _ => True | .inr y => y.2.1.length ≤ 400 := by
  unfold begM at h
  split at h
  · cases h; trivial
  · split at h
    · split at h <;> cases h <;> first | trivial | exact hl
    · split at h
      · split at h <;> cases h <;> first | trivial | exact hl
      · split at h
        · cases h; exact hl
        · split at h
          · split at h
            · split at h
              · cases h
                show (rules ++ [_]).length ≤ 400
                rw [List.length_append]
                show rules.length + 1 ≤ 400
                omega
              · cases h
            · cases h; trivial
          · cases h; trivial
theorem li_beg {x1 x2 : TO} {wr2 : Option Nat} {wb : Bool} {nr2 op2 dp2 : Nat} (hX : x.1 = tk) (hmr : mrun T k (f + 1) (rules, dp, stk, x, true, ma) = some R) (h4 : tk.1 ≠ 4) (hne : ¬ (isSg T tk.1 tk.2.1 125 = true ∧ hasGS stk = true ∧ (ma = true ∨ true = false))) (hnv : ¬ (tk.1 = 0 ∧ hasGS stk = false ∧ (ma = true ∨ true = false))) (hx1 : tk.1 ≠ 0 → x1 = tTake T k x) (hb0 : tk.2.1 ≤ k) (hn : NextR T k so e none tk tk.1 none) (hS : StkA OW OF OS op stk) (hRu : RulA rules nr KI LI AR WH FI SE CO NU CN) (ho : op ≤ 40) (hd : dp ≤ 40) (h4c : rules.length ≤ 400) (hbc : BegC T k tk.1 tk.2.2.1 tk.2.1 x1 wr2 x2 wb nr op dp OW OF OS KI LI AR WH FI SE CO NU CN nr2 op2 dp2 OW2 OF2 OS2 KI2 LI2 AR2 WH2 FI2 SE2 CO2 NU2 CN2) : ∃ rul9 stk9, LInv T k R wr2 false wb (isSg T tk.1 tk.2.1 123) rul9 stk9 x2 op2 nr2 dp2 f OW2 OF2 OS2 KI2 LI2 AR2 WH2 FI2 SE2 CO2 NU2 CN2 := by
  obtain ⟨r, h1, h2⟩ := ms_beg hX hmr h4 hne hnv rfl
  have h1' : begM T k tk rules dp stk x1 = some r := by
    by_cases z : tk.1 = 0
    · rw [begM_0 z] at h1 ⊢; exact h1
    · rw [hx1 z]; exact h1
  have hA := beg_A (v := tk.2.2.2.1) (wd := tk.2.2.2.2) (tst_w (u := 0) (by decide) (by decide) (by decide) hb0 hn rfl) (tst_w (u := 1) (by decide) (by decide) (by decide) hb0 hn rfl) (tst_kind hb0 hn rfl) hS hRu ho hd hbc h1'
  have hl := begM_len h1 h4c
  cases r with
  | inl v => exact ⟨rules, stk, Or.inr ⟨v, hA, h2⟩⟩
  | inr y =>
    obtain ⟨a1, rfl, rfl, a4, a5, rfl, a7, a8⟩ := hA
    exact ⟨y.2.1, y.2.2.2.1, Or.inl ⟨a1, a4, a5, a7, a8, hl, Or.inl ⟨rfl, h2⟩⟩⟩
theorem ei_4 {t2 : Nat} {wr2 : Option Nat} {out : List Nat} (hX : x.1 = tk) (hn : NextR T k so e none tk t2 wr2) (hmr : mrun T k (f + 1) (rules, dp, stk, x, wa, ma) = some R) (h : ¬ oI wr2 < 0) : EInv R wr2 rules out nr dp KI LI AR WH FI SE CO NU CN := by
  rcases nx_4 hn with ⟨q1, q2⟩ | ⟨q1, q2, q3⟩
  · exact Or.inr ⟨_, q2, ms_4 hX hmr q1⟩
  · rw [q2] at h
    exact absurd (by decide) h
theorem ei_ov {out : List Nat} (hL : LInv T k R wr ov wa ma rules stk x op nr dp fu OW OF OS KI LI AR WH FI SE CO NU CN) (hw : wr = none) (h : ov = true) (hx : x.2 = out := by rfl) : EInv R wr rules out nr dp KI LI AR WH FI SE CO NU CN := by
  rcases hL with ⟨-, a, b, c, d, e, ⟨g, -⟩ | ⟨-, g⟩⟩ | ⟨v, g, -⟩
  · rw [h] at g; cases g
  · exact Or.inl ⟨hw, b, d, by rw [← hx]; exact g⟩
  · rw [hw] at g; cases g
theorem ei_bad {out : List Nat} (hL : LInv T k R wr ov wa ma rules stk x op nr dp fu OW OF OS KI LI AR WH FI SE CO NU CN) (h : 0 ≤ oI wr) : EInv R wr rules out nr dp KI LI AR WH FI SE CO NU CN := by
  rcases hL with ⟨a, -⟩ | g
  · rw [a] at h
    exact absurd h (by decide)
  · exact Or.inr g
theorem rd_bad {out : List Nat} {BY : Nat → Nat} (hw : ∀ z, wr = some z → z < 2 ^ 31) (hE : EInv R wr rules out nr dp KI LI AR WH FI SE CO NU CN) (h : 0 ≤ oI wr) : ReadM T k R ((-1) - oI wr) false 0 0 0 KI LI AR WH FI SE BE EN BY CO NU CN := by
  rcases hE with ⟨a, -⟩ | ⟨v, a, b⟩
  · rw [a] at h
    exact absurd h (by decide)
  · exact Or.inl ⟨v, b, hw v a, by rw [a]; rfl, rfl, rfl, rfl, rfl⟩
theorem rd_ok {out : List Nat} {BY : Nat → Nat} {qe : Int32} (hE : EInv R wr rules out nr dp KI LI AR WH FI SE CO NU CN) (hw : wr = none) (ho : out = outM T BE EN tn) (hB : ∀ j, j < k → BY j = T j) (hri : RI T k so e tn qe wr BE EN) : ReadM T k R (nI nr) true nr tn dp KI LI AR WH FI SE BE EN BY CO NU CN := by
  rcases hE with ⟨a, b, c, d⟩ | ⟨v, a, b⟩
  · exact Or.inr ⟨rules, out, d, by rw [b.1], rfl, b, c, ho, hB, fun j hj => ⟨(hri.2.2.2.2.2.2.2 j hj).1, Nat.le_trans (hri.2.2.2.2.2.2.2 j hj).2 hri.2.1⟩⟩
  · rw [hw] at a; cases a
theorem lt_up {BY : Nat → Nat} {c : Nat} (h : ∀ j, j < c → BY j = T j) : ∀ j, j < c + 1 → up BY c (T c) j = T j := fun j hj => by
  by_cases q : j = c
  · rw [q, up_self]
  · rw [up_ne _ _ q]; exact h j (by omega)
end LIN

