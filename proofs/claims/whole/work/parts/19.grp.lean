abbrev PSt : Type := List RuleV × Nat × TO
def BP (r : Bool × PSt × Nat) : Bool × PSt := (r.1, r.2.1)
def pTk (T : Nat → Nat) (k : Nat) (s : PSt) : PSt := (s.1, s.2.1, tTake T k s.2.2)
def sgn (T : Nat → Nat) (c : Nat) (s : PSt) : Bool := isSg T s.2.2.1.1 s.2.2.1.2.1 c
def rol (ro : Nat) (s : PSt) : Bool := isRo s.2.2.1.1 s.2.2.1.2.2.2.2 ro
theorem isSg_ne {T : Nat → Nat} {so sta c : Nat} (h : isSg T so sta c = true) : so ≠ 0 := by
  rintro rfl
  simp [isSg] at h
theorem pTk_of {T : Nat → Nat} {k dp : Nat} {rules : List RuleV} {x y : TO} (h : y = tTake T k x) : ((rules, dp, y) : PSt) = pTk T k (rules, dp, x) := by rw [h]; rfl
/-- statements with ; between, at most n of them -/
def pLoop (f : PSt → Bool × PSt × Nat) (T : Nat → Nat) (k : Nat) : Nat → PSt → Bool × PSt × Nat
  | 0, s => (false, s, 0)
  | m + 1, s => if (f s).1 = true then (if sgn T 59 (f s).2.1 = true then ((pLoop f T k m (pTk T k (f s).2.1)).1, (pLoop f T k m (pTk T k (f s).2.1)).2.1, (f s).2.2 + (pLoop f T k m (pTk T k (f s).2.1)).2.2) else (true, (f s).2.1, (f s).2.2)) else (false, (f s).2.1, (f s).2.2)
def pG (f : PSt → Bool × PSt × Nat) (T : Nat → Nat) (k : Nat) (s : PSt) : Bool × PSt × Nat := if s.2.2.1.1 = 0 ∨ sgn T 125 s = true then (true, s, 0) else pLoop f T k 2000 s
def pBr (f : PSt → Bool × PSt × Nat) (T : Nat → Nat) (k : Nat) (s : PSt) : Bool × PSt × Nat :=
  if (pG f T k (pTk T k s)).1 = true ∧ sgn T 125 (pG f T k (pTk T k s)).2.1 = true then (true, pTk T k (pG f T k (pTk T k s)).2.1, (pG f T k (pTk T k s)).2.2) else (false, (pG f T k (pTk T k s)).2.1, (pG f T k (pTk T k s)).2.2)
/-- each or where: its layer, its statement -/
def pLy (f : List LayerV → PSt → Bool × PSt × Nat) (T : Nat → Nat) (k : Nat) (ls : List LayerV) (s : PSt) : Bool × PSt × Nat :=
  if rol (if isWd s.2.2.1.1 s.2.2.1.2.2.2.2 0 = true then 1 else 2) (pTk T k s) = true then match pLay T k ((pTk T k s).2.2.1.2.2.2.2.getD 0) (pTk T k s).2.2 with
    | (none, y) => (false, (s.1, s.2.1, y), 1)
    | (some l, y) => ((f (l :: ls) (s.1, s.2.1, y)).1, (f (l :: ls) (s.1, s.2.1, y)).2.1, (f (l :: ls) (s.1, s.2.1, y)).2.2 + 1)
  else (false, pTk T k s, 0)
def pRl (T : Nat → Nat) (k : Nat) (ls : List LayerV) (s : PSt) : Bool × PSt × Nat := ((pRule T k (s.2.2.1.2.2.2.2.getD 0) ls s.1 s.2.2).1, ((pRule T k (s.2.2.1.2.2.2.2.getD 0) ls s.1 s.2.2).2.1, s.2.1, (pRule T k (s.2.2.1.2.2.2.2.getD 0) ls s.1 s.2.2).2.2), 1)
/-- a statement that may go d deeper -/
def pS (T : Nat → Nat) (k : Nat) : Nat → List LayerV → PSt → Bool × PSt × Nat
  | 0, ls, s => if rol 3 s = true then pRl T k ls s else (false, s, 0)
  | d + 1, ls, s => if rol 3 s = true then pRl T k ls s else if sgn T 123 s = true then pBr (pS T k d ls) T k (s.1, max s.2.1 (40 - d), s.2.2) else if rol 0 s = true then pLy (pS T k d) T k ls (s.1, max s.2.1 (40 - d), s.2.2) else (false, s, 0)
section PG
variable {f : PSt → Bool × PSt × Nat} {T : Nat → Nat} {k m : Nat} {s s1 s2 s3 : PSt}
theorem BP_1 {b : Bool} {r : Bool × PSt × Nat} (h : (b, s) = BP r) : r.1 = b ∧ r.2.1 = s := by
  unfold BP at h
  cases h
  exact ⟨rfl, rfl⟩
theorem pBr_c : (pBr f T k s).2.2 = (pG f T k (pTk T k s)).2.2 := by
  unfold pBr
  split <;> rfl
theorem pBr_n1 (h : s1 = pTk T k s) (h1 : (false, s2) = BP (pG f T k s1)) : (false, s2) = BP (pBr f T k s) := by
  obtain ⟨e1, e2⟩ := BP_1 h1
  rw [h] at e1 e2
  simp [pBr, BP, e1, e2]
theorem pBr_n2 (h : s1 = pTk T k s) (h1 : (true, s2) = BP (pG f T k s1)) (h2 : sgn T 125 s2 = false) : (false, s2) = BP (pBr f T k s) := by
  obtain ⟨e1, e2⟩ := BP_1 h1
  rw [h] at e1 e2
  simp [pBr, BP, e1, e2, h2]
theorem pBr_y (h : s1 = pTk T k s) (h1 : (true, s2) = BP (pG f T k s1)) (h2 : sgn T 125 s2 = true) (h3 : s3 = pTk T k s2) : (true, s3) = BP (pBr f T k s) := by
  obtain ⟨e1, e2⟩ := BP_1 h1
  rw [h] at e1 e2
  simp [pBr, BP, e1, e2, h2, h3]
theorem pG_0 (h : s.2.2.1.1 = 0) : (true, s) = BP (pG f T k s) := by simp [pG, BP, h]
theorem pG_1 (h : sgn T 125 s = true) : (true, s) = BP (pG f T k s) := by simp [pG, BP, h]
theorem pG_go (h : s.2.2.1.1 ≠ 0) (h1 : sgn T 125 s = false) : pG f T k s = pLoop f T k 2000 s := by simp [pG, h, h1]
theorem pLoop_c1 : (f s).2.2 ≤ (pLoop f T k (m + 1) s).2.2 := by
  rw [pLoop]
  split
  · split
    · exact Nat.le_add_right _ _
    · exact Nat.le_refl _
  · exact Nat.le_refl _
theorem pLoop_n (h : (false, s2) = BP (f s)) : BP (pLoop f T k (m + 1) s) = (false, s2) := by
  obtain ⟨e1, e2⟩ := BP_1 h
  simp [pLoop, BP, e1, e2]
theorem pLoop_e (h : (true, s2) = BP (f s)) (h2 : sgn T 59 s2 = false) : BP (pLoop f T k (m + 1) s) = (true, s2) := by
  obtain ⟨e1, e2⟩ := BP_1 h
  simp [pLoop, BP, e1, e2, h2]
theorem pLoop_go (h : (true, s2) = BP (f s)) (h2 : sgn T 59 s2 = true) : BP (pLoop f T k (m + 1) s) = BP (pLoop f T k m (pTk T k s2)) := by
  obtain ⟨e1, e2⟩ := BP_1 h
  simp [pLoop, BP, e1, e2, h2]
theorem pLoop_gc (h : (true, s2) = BP (f s)) (h2 : sgn T 59 s2 = true) : (pLoop f T k (m + 1) s).2.2 = (f s).2.2 + (pLoop f T k m (pTk T k s2)).2.2 := by
  obtain ⟨e1, e2⟩ := BP_1 h
  simp [pLoop, e1, e2, h2]
theorem isRo_word {so ro : Nat} {wd : Option Nat} (h : isRo so wd ro = true) : ∃ w, wd = some w ∧ so = 1 ∧ roleN w = ro := by
  cases wd with
  | none => cases h
  | some w =>
    simp [isRo] at h
    exact ⟨w, rfl, h.1, h.2⟩
theorem isRo_ne {so ro : Nat} {wd : Option Nat} (h : isRo so wd ro = true) : so ≠ 0 := by
  obtain ⟨w, -, h1, -⟩ := isRo_word h
  omega
theorem roleN_3 {w : Nat} (h : roleN w = 3) : 16 ≤ w := by
  unfold roleN at h
  split at h
  · cases h
  · split at h
    · cases h
    · split at h
      · cases h
      · omega
theorem layRes_some {g : GG} {PP : va_W} {a : Nat} {ls : List LayerV} {lay : Option LayerV} (h : LayRes g PP (some a) ls lay) : ∃ l, lay = some l ∧ ChainAt g PP (some a) (l :: ls) := by
  cases lay with
  | none => cases h
  | some l =>
    obtain ⟨b, e, h1⟩ := h
    cases e
    exact ⟨l, rfl, h1⟩
theorem layRes_none {g : GG} {PP : va_W} {ls : List LayerV} {lay : Option LayerV} (h : LayRes g PP none ls lay) : lay = none := by
  cases lay with
  | none => rfl
  | some l =>
    obtain ⟨b, e, -⟩ := h
    cases e
variable {fl : List LayerV → PSt → Bool × PSt × Nat} {ls : List LayerV} {ro d w : Nat} {l : LayerV} {y : TO} {b : Bool}
theorem pLy_no (h0 : (if isWd s.2.2.1.1 s.2.2.1.2.2.2.2 0 = true then 1 else 2) = ro) (h : s1 = pTk T k s) (h1 : rol ro s1 = false) : (false, s1) = BP (pLy fl T k ls s) := by
  subst h0 h
  simp [pLy, BP, h1]
theorem pLy_n (h0 : (if isWd s.2.2.1.1 s.2.2.1.2.2.2.2 0 = true then 1 else 2) = ro) (h : s1 = pTk T k s) (h1 : rol ro s1 = true) (hw : s1.2.2.1.2.2.2.2 = some w) (h2 : (none, y) = pLay T k w s1.2.2) : (false, (s.1, s.2.1, y)) = BP (pLy fl T k ls s) := by
  subst h0 h
  simp [pLy, BP, h1, hw, ← h2]
theorem pLy_y (h0 : (if isWd s.2.2.1.1 s.2.2.1.2.2.2.2 0 = true then 1 else 2) = ro) (h : s1 = pTk T k s) (h1 : rol ro s1 = true) (hw : s1.2.2.1.2.2.2.2 = some w) (h2 : (some l, y) = pLay T k w s1.2.2) (h3 : (b, s3) = BP (fl (l :: ls) (s.1, s.2.1, y))) : (b, s3) = BP (pLy fl T k ls s) := by
  subst h0 h
  obtain ⟨e1, e2⟩ := BP_1 h3
  simp [pLy, BP, h1, hw, ← h2, e1, e2]
theorem pLy_yc (h0 : (if isWd s.2.2.1.1 s.2.2.1.2.2.2.2 0 = true then 1 else 2) = ro) (h : s1 = pTk T k s) (h1 : rol ro s1 = true) (hw : s1.2.2.1.2.2.2.2 = some w) (h2 : (some l, y) = pLay T k w s1.2.2) : (pLy fl T k ls s).2.2 = (fl (l :: ls) (s.1, s.2.1, y)).2.2 + 1 := by
  subst h0 h
  simp [pLy, h1, hw, ← h2]
theorem pLy_c1 (h0 : (if isWd s.2.2.1.1 s.2.2.1.2.2.2.2 0 = true then 1 else 2) = ro) (h : s1 = pTk T k s) (h1 : rol ro s1 = true) : 1 ≤ (pLy fl T k ls s).2.2 := by
  subst h0 h
  rw [pLy, if_pos h1]
  split
  · exact Nat.le_refl _
  · exact Nat.le_add_left _ _
theorem pS_rl (h : rol 3 s = true) : pS T k d ls s = pRl T k ls s := by cases d <;> simp [pS, h]
theorem pS_rc (h : rol 3 s = true) : (pS T k d ls s).2.2 = 1 := by rw [pS_rl h]; rfl
theorem pS_ru {rules2 : List RuleV} (h : rol 3 s = true) (h1 : (b, rules2, y) = pRule T k (s.2.2.1.2.2.2.2.getD 0) ls s.1 s.2.2) : (b, (rules2, s.2.1, y)) = BP (pS T k d ls s) := by
  rw [pS_rl h]
  simp [pRl, BP, ← h1]
theorem pS_br (h : rol 3 s = false) (h1 : sgn T 123 s = true) : pS T k (d + 1) ls s = pBr (pS T k d ls) T k (s.1, max s.2.1 (40 - d), s.2.2) := by simp [pS, h, h1]
theorem pS_ly (h : rol 3 s = false) (h1 : sgn T 123 s = false) (h2 : rol 0 s = true) : pS T k (d + 1) ls s = pLy (pS T k d) T k ls (s.1, max s.2.1 (40 - d), s.2.2) := by simp [pS, h, h1, h2]
theorem pS_0 (h : rol 3 s = false) : (false, s) = BP (pS T k 0 ls s) := by simp [pS, BP, h]
theorem pS_0' (hd : d = 0) (h : rol 3 s = false) : (false, s) = BP (pS T k d ls s) := by subst hd; exact pS_0 h
theorem pS_no (h : rol 3 s = false) (h1 : sgn T 123 s = false) (h2 : rol 0 s = false) : (false, s) = BP (pS T k d ls s) := by cases d <;> simp [pS, BP, h, h1, h2]
end PG

set_option maxRecDepth 100000 in
theorem lk_Parser_31 : LK R_Parser 31 y_Parser_takeGroup := Or.inl (gw (i := 405) rfl rfl)
set_option maxRecDepth 100000 in
theorem lk_Parser_58 : LK R_Parser 58 y_Parser_takeStatement := Or.inl (gw (i := 413) rfl rfl)
set_option maxRecDepth 100000 in
theorem mw_Parser_takeGroup : MW y_Parser_takeGroup b_Parser_takeGroup 4 (some .boolean) 2 := ⟨(gw (i := 408) rfl rfl), (gw (i := 76) rfl rfl), by decide +kernel⟩
set_option maxRecDepth 100000 in
theorem mw_Parser_takeStatement : MW y_Parser_takeStatement b_Parser_takeStatement 4 (some .boolean) 2 := ⟨(gw (i := 416) rfl rfl), (gw (i := 76) rfl rfl), by decide +kernel⟩
set_option maxRecDepth 100000 in
theorem vw_Parser_takeGroup : VW y_Parser_takeGroup := ⟨(gw (i := 407) rfl rfl), (gw (i := 4) rfl rfl)⟩
set_option maxRecDepth 100000 in
theorem vw_Parser_takeStatement : VW y_Parser_takeStatement := ⟨(gw (i := 415) rfl rfl), (gw (i := 5) rfl rfl)⟩
theorem d_Parser_takeBraced_0 : decode b_Parser_takeBraced 0 = .ok (.aload_n 0, 1) := by decide +kernel
theorem d_Parser_takeBraced_1 : decode b_Parser_takeBraced 1 = .ok (.invokevirtual 61, 3) := by decide +kernel
theorem d_Parser_takeBraced_4 : decode b_Parser_takeBraced 4 = .ok (.aload_n 0, 1) := by decide +kernel
theorem d_Parser_takeBraced_5 : decode b_Parser_takeBraced 5 = .ok (.iload_n 1, 1) := by decide +kernel
theorem d_Parser_takeBraced_6 : decode b_Parser_takeBraced 6 = .ok (.aload_n 2, 1) := by decide +kernel
theorem d_Parser_takeBraced_7 : decode b_Parser_takeBraced 7 = .ok (.invokevirtual 31, 3) := by decide +kernel
theorem d_Parser_takeBraced_10 : decode b_Parser_takeBraced 10 = .ok (.ifCond .eq 15, 3) := by decide +kernel
theorem d_Parser_takeBraced_13 : decode b_Parser_takeBraced 13 = .ok (.aload_n 0, 1) := by decide +kernel
theorem d_Parser_takeBraced_14 : decode b_Parser_takeBraced 14 = .ok (.getfield 24, 3) := by decide +kernel
theorem d_Parser_takeBraced_17 : decode b_Parser_takeBraced 17 = .ok (.bipush 125, 2) := by decide +kernel
theorem d_Parser_takeBraced_19 : decode b_Parser_takeBraced 19 = .ok (.invokevirtual 54, 3) := by decide +kernel
theorem d_Parser_takeBraced_22 : decode b_Parser_takeBraced 22 = .ok (.ifCond .ne 5, 3) := by decide +kernel
theorem d_Parser_takeBraced_25 : decode b_Parser_takeBraced 25 = .ok (.iconst 0, 1) := by decide +kernel
theorem d_Parser_takeBraced_26 : decode b_Parser_takeBraced 26 = .ok (.ireturn, 1) := by decide +kernel
theorem d_Parser_takeBraced_27 : decode b_Parser_takeBraced 27 = .ok (.aload_n 0, 1) := by decide +kernel
theorem d_Parser_takeBraced_28 : decode b_Parser_takeBraced 28 = .ok (.invokevirtual 61, 3) := by decide +kernel
theorem d_Parser_takeBraced_31 : decode b_Parser_takeBraced 31 = .ok (.iconst 1, 1) := by decide +kernel
theorem d_Parser_takeBraced_32 : decode b_Parser_takeBraced 32 = .ok (.ireturn, 1) := by decide +kernel
theorem d_Parser_takeGroup_0 : decode b_Parser_takeGroup 0 = .ok (.aload_n 0, 1) := by decide +kernel
theorem d_Parser_takeGroup_1 : decode b_Parser_takeGroup 1 = .ok (.getfield 24, 3) := by decide +kernel
theorem d_Parser_takeGroup_4 : decode b_Parser_takeGroup 4 = .ok (.getfield 35, 3) := by decide +kernel
theorem d_Parser_takeGroup_7 : decode b_Parser_takeGroup 7 = .ok (.ifCond .eq 15, 3) := by decide +kernel
theorem d_Parser_takeGroup_10 : decode b_Parser_takeGroup 10 = .ok (.aload_n 0, 1) := by decide +kernel
theorem d_Parser_takeGroup_11 : decode b_Parser_takeGroup 11 = .ok (.getfield 24, 3) := by decide +kernel
theorem d_Parser_takeGroup_14 : decode b_Parser_takeGroup 14 = .ok (.bipush 125, 2) := by decide +kernel
theorem d_Parser_takeGroup_16 : decode b_Parser_takeGroup 16 = .ok (.invokevirtual 54, 3) := by decide +kernel
theorem d_Parser_takeGroup_19 : decode b_Parser_takeGroup 19 = .ok (.ifCond .eq 5, 3) := by decide +kernel
theorem d_Parser_takeGroup_22 : decode b_Parser_takeGroup 22 = .ok (.iconst 1, 1) := by decide +kernel
theorem d_Parser_takeGroup_23 : decode b_Parser_takeGroup 23 = .ok (.ireturn, 1) := by decide +kernel
theorem d_Parser_takeGroup_24 : decode b_Parser_takeGroup 24 = .ok (.iconst 0, 1) := by decide +kernel
theorem d_Parser_takeGroup_25 : decode b_Parser_takeGroup 25 = .ok (.istore_n 3, 1) := by decide +kernel
theorem d_Parser_takeGroup_26 : decode b_Parser_takeGroup 26 = .ok (.iload_n 3, 1) := by decide +kernel
theorem d_Parser_takeGroup_27 : decode b_Parser_takeGroup 27 = .ok (.sipush 2000, 3) := by decide +kernel
theorem d_Parser_takeGroup_30 : decode b_Parser_takeGroup 30 = .ok (.if_icmp .ge 38, 3) := by decide +kernel
theorem d_Parser_takeGroup_33 : decode b_Parser_takeGroup 33 = .ok (.aload_n 0, 1) := by decide +kernel
theorem d_Parser_takeGroup_34 : decode b_Parser_takeGroup 34 = .ok (.iload_n 1, 1) := by decide +kernel
theorem d_Parser_takeGroup_35 : decode b_Parser_takeGroup 35 = .ok (.aload_n 2, 1) := by decide +kernel
theorem d_Parser_takeGroup_36 : decode b_Parser_takeGroup 36 = .ok (.invokevirtual 58, 3) := by decide +kernel
theorem d_Parser_takeGroup_39 : decode b_Parser_takeGroup 39 = .ok (.ifCond .ne 5, 3) := by decide +kernel
theorem d_Parser_takeGroup_42 : decode b_Parser_takeGroup 42 = .ok (.iconst 0, 1) := by decide +kernel
theorem d_Parser_takeGroup_43 : decode b_Parser_takeGroup 43 = .ok (.ireturn, 1) := by decide +kernel
theorem d_Parser_takeGroup_44 : decode b_Parser_takeGroup 44 = .ok (.aload_n 0, 1) := by decide +kernel
theorem d_Parser_takeGroup_45 : decode b_Parser_takeGroup 45 = .ok (.getfield 24, 3) := by decide +kernel
theorem d_Parser_takeGroup_48 : decode b_Parser_takeGroup 48 = .ok (.bipush 59, 2) := by decide +kernel
theorem d_Parser_takeGroup_50 : decode b_Parser_takeGroup 50 = .ok (.invokevirtual 54, 3) := by decide +kernel
theorem d_Parser_takeGroup_53 : decode b_Parser_takeGroup 53 = .ok (.ifCond .ne 5, 3) := by decide +kernel
theorem d_Parser_takeGroup_56 : decode b_Parser_takeGroup 56 = .ok (.iconst 1, 1) := by decide +kernel
theorem d_Parser_takeGroup_57 : decode b_Parser_takeGroup 57 = .ok (.ireturn, 1) := by decide +kernel
theorem d_Parser_takeGroup_58 : decode b_Parser_takeGroup 58 = .ok (.aload_n 0, 1) := by decide +kernel
theorem d_Parser_takeGroup_59 : decode b_Parser_takeGroup 59 = .ok (.invokevirtual 61, 3) := by decide +kernel
theorem d_Parser_takeGroup_62 : decode b_Parser_takeGroup 62 = .ok (.iinc 3 1, 3) := by decide +kernel
theorem d_Parser_takeGroup_65 : decode b_Parser_takeGroup 65 = .ok (.goto (-39), 3) := by decide +kernel
theorem d_Parser_takeGroup_68 : decode b_Parser_takeGroup 68 = .ok (.iconst 0, 1) := by decide +kernel
theorem d_Parser_takeGroup_69 : decode b_Parser_takeGroup 69 = .ok (.ireturn, 1) := by decide +kernel
set_option maxHeartbeats 4000000 in
set_option maxRecDepth 100000 in
theorem o_Parser_takeBraced (g : GG) (l : Launch) {p : Nat} {a : Nat} {t : Nat} {tb : Nat} {bk : Nat} {ra : Nat} {pa : Nat} {k : Nat} {so : Nat} {sta : Nat} {en : Nat} {dp : Nat} {dep : Nat} {d : Nat} {T : Nat → Nat} {PA : Nat → Nat} {v : Option Nat} {wd : Option Nat} {ar : Option Nat} {pr : Bool} {out : List Nat} {ls : List LayerV} {PP : va_W} {RA : Nat → Option Nat} {rules : List RuleV} (hG : ∀ {p : Nat} {a : Nat} {t : Nat} {tb : Nat} {bk : Nat} {ra : Nat} {pa : Nat} {k : Nat} {so : Nat} {sta : Nat} {en : Nat} {dp : Nat} {dep : Nat} {T : Nat → Nat} {PA : Nat → Nat} {v : Option Nat} {wd : Option Nat} {ar : Option Nat} {pr : Bool} {out : List Nat} {ls : List LayerV} {PP : va_W} {RA : Nat → Option Nat} {rules : List RuleV} (hk : k ≤ 2000) (hT : ∀ j, T j < 256) (hO : TokOK k (so, sta, en, v, wd)) (hcap : out.length ≤ 2 * sta) (ho : OutAt PA out) (hch : ChainAt g PP ar ls) (hRA : RulesAt g PP RA rules) (h400 : rules.length ≤ 400) (hdd : dep + d = 40) (hdp : dp ≤ 40), Cn g l y_Parser_takeGroup b_Parser_takeGroup 4 (some .boolean) (rmk (30 + 3 * d + 1) ((pG (pS T k d ls) T k (rules, dp, (so, sta, en, v, wd), out)).2.2) (6 * (pG (pS T k d ls) T k (rules, dp, (so, sta, en, v, wd), out)).2.2) (700 + 80 * d + 24)) [.ref p, .int (nI dep), va_rf ar] ([(p, .inr (6, [.ref t, .ref bk, .ref a])), (a, .inr (2, [.ref t, .int (nI so), .int (nI sta), .int (nI en), .int (oI v), va_rf (wR g wd)])), (t, .inr (1, [.ref tb, .int (nI k)])), (tb, .inl (g.2.1 1, 2000, .inl (aI T))), (bk, .inr (5, [.ref ra, .ref pa, .int (bI pr), .int (nI rules.length), .int (nI out.length), .int (nI dp)])), (pa, .inl (g.2.1 1, 4000, .inl (aI PA))), (ra, .inl (g.2.1 3, 400, .inr (.inr (.inr (.inr RA)))))] ++ PP) (fun (r0 : Option Value) (w0 : va_W) => ∃ ok : Bool, ∃ rules2 : List RuleV, ∃ dp2 : Nat, ∃ RA2 : Nat → Option Nat, ∃ PP2 : va_W, ∃ tk : Tok, ∃ ou : List Nat, ∃ PB : Nat → Nat, r0 = some (.int (bI ok)) ∧ w0 = [(p, .inr (6, [.ref t, .ref bk, .ref a])), (a, .inr (2, [.ref t, .int (nI tk.1), .int (nI tk.2.1), .int (nI tk.2.2.1), .int (oI tk.2.2.2.1), va_rf (wR g tk.2.2.2.2)])), (t, .inr (1, [.ref tb, .int (nI k)])), (tb, .inl (g.2.1 1, 2000, .inl (aI T))), (bk, .inr (5, [.ref ra, .ref pa, .int (bI pr), .int (nI rules2.length), .int (nI ou.length), .int (nI dp2)])), (pa, .inl (g.2.1 1, 4000, .inl (aI PB))), (ra, .inl (g.2.1 3, 400, .inr (.inr (.inr (.inr RA2)))))] ++ PP2 ∧ ((ok, (rules2, dp2, tk, ou)) = BP (pG (pS T k d ls) T k (rules, dp, (so, sta, en, v, wd), out))) ∧ (RulesAt g PP2 RA2 rules2) ∧ (∀ q ∈ PP, q ∈ PP2) ∧ (TokOK k tk) ∧ (ou.length ≤ 2 * tk.2.1) ∧ (OutAt PB ou) ∧ (rules2.length ≤ 400) ∧ (dp2 ≤ 40))) (hk : k ≤ 2000) (hT : ∀ j, T j < 256) (hO : TokOK k (so, sta, en, v, wd)) (hcap : out.length ≤ 2 * sta) (ho : OutAt PA out) (hch : ChainAt g PP ar ls) (hRA : RulesAt g PP RA rules) (h400 : rules.length ≤ 400) (hdd : dep + d = 40) (hdp : dp ≤ 40) (h0 : so ≠ 0) : Cn g l y_Parser_takeBraced b_Parser_takeBraced 3 (some .boolean) (rmk (30 + 3 * d + 2) ((pBr (pS T k d ls) T k (rules, dp, (so, sta, en, v, wd), out)).2.2) (6 * (pBr (pS T k d ls) T k (rules, dp, (so, sta, en, v, wd), out)).2.2) (700 + 80 * d + 47)) [.ref p, .int (nI dep), va_rf ar] ([(p, .inr (6, [.ref t, .ref bk, .ref a])), (a, .inr (2, [.ref t, .int (nI so), .int (nI sta), .int (nI en), .int (oI v), va_rf (wR g wd)])), (t, .inr (1, [.ref tb, .int (nI k)])), (tb, .inl (g.2.1 1, 2000, .inl (aI T))), (bk, .inr (5, [.ref ra, .ref pa, .int (bI pr), .int (nI rules.length), .int (nI out.length), .int (nI dp)])), (pa, .inl (g.2.1 1, 4000, .inl (aI PA))), (ra, .inl (g.2.1 3, 400, .inr (.inr (.inr (.inr RA)))))] ++ PP) (fun (r0 : Option Value) (w0 : va_W) => ∃ ok : Bool, ∃ rules2 : List RuleV, ∃ dp2 : Nat, ∃ RA2 : Nat → Option Nat, ∃ PP2 : va_W, ∃ tk : Tok, ∃ ou : List Nat, ∃ PB : Nat → Nat, r0 = some (.int (bI ok)) ∧ w0 = [(p, .inr (6, [.ref t, .ref bk, .ref a])), (a, .inr (2, [.ref t, .int (nI tk.1), .int (nI tk.2.1), .int (nI tk.2.2.1), .int (oI tk.2.2.2.1), va_rf (wR g tk.2.2.2.2)])), (t, .inr (1, [.ref tb, .int (nI k)])), (tb, .inl (g.2.1 1, 2000, .inl (aI T))), (bk, .inr (5, [.ref ra, .ref pa, .int (bI pr), .int (nI rules2.length), .int (nI ou.length), .int (nI dp2)])), (pa, .inl (g.2.1 1, 4000, .inl (aI PB))), (ra, .inl (g.2.1 3, 400, .inr (.inr (.inr (.inr RA2)))))] ++ PP2 ∧ ((ok, (rules2, dp2, tk, ou)) = BP (pBr (pS T k d ls) T k (rules, dp, (so, sta, en, v, wd), out))) ∧ (RulesAt g PP2 RA2 rules2) ∧ (∀ q ∈ PP, q ∈ PP2) ∧ (TokOK k tk) ∧ (ou.length ≤ 2 * tk.2.1) ∧ (OutAt PB ou) ∧ (rules2.length ≤ 400) ∧ (dp2 ≤ 40)) := by
  refine Cn.of R_Parser [(0, .ref p), (1, .int (nI dep)), (2, va_rf ar)] (by decide) rfl (by generalize ar = z0; cases z0 <;> exact Nat.le_of_ble_eq_true rfl) (by generalize ar = z0; cases z0 <;> rfl) ?_
  intro x A Q hR hXl hin C E
  subst hXl
  refine r_aload_n C 0 d_Parser_takeBraced_0 rfl rfl ?_
  refine j_callV C (c_Parser_take g (xl x) (p := p) (a := a) (t := t) (tb := tb) (bk := bk) (ra := ra) (pa := pa) (k := k) (so := so) (sta := sta) (en := en) (rc := rules.length) (dp := dp) (T := T) (PA := PA) (v := v) (wd := wd) (pr := pr) (out := out) (by first | assumption | rfl | omega) (by first | assumption | rfl | omega) (by first | assumption | rfl | omega) (by first | assumption | rfl | omega) (by first | assumption | rfl | omega) (by first | assumption | rfl | omega)) (Sp.keep (Sp.of (wr := [(ra, .inl (g.2.1 3, 400, .inr (.inr (.inr (.inr RA)))))]) [0, 1, 2, 3, 4, 5] [6] rfl rfl rfl rfl (by decide)) PP) d_Parser_takeBraced_1 lk_Parser_61 mw_Parser_take vw_Parser_take (q0 := 0) rfl rfl (fit_of hR (by first | decide | (simp only [rmk]; omega)) (by first | decide | (simp only [rmk]; omega)) (by first | decide | (simp only [rmk]; omega)) (by first | decide | (simp only [rmk]; omega))) rfl (cat8 (Nat.le_of_ble_eq_true rfl)) (As := []) (rest := []) rfl (fun r_1 w_1 hp_1 => ?_)
  obtain ⟨tk_1, ou_1, PB_1, rfl, rfl, hx_1, hO2_1, hc2_1, ho2_1⟩ := hp_1
  refine r_swap ?_
  refine r_afterP (X := [(ra, .inl (g.2.1 3, 400, .inr (.inr (.inr (.inr RA))))), (p, .inr (6, [.ref t, .ref bk, .ref a])), (a, .inr (2, [.ref t, .int (nI tk_1.1), .int (nI tk_1.2.1), .int (nI tk_1.2.2.1), .int (oI tk_1.2.2.2.1), va_rf (wR g tk_1.2.2.2.2)])), (t, .inr (1, [.ref tb, .int (nI k)])), (tb, .inl (g.2.1 1, 2000, .inl (aI T))), (bk, .inr (5, [.ref ra, .ref pa, .int (bI pr), .int (nI rules.length), .int (nI ou_1.length), .int (nI dp)])), (pa, .inl (g.2.1 1, 4000, .inl (aI PB_1)))]) (X' := [(p, .inr (6, [.ref t, .ref bk, .ref a])), (a, .inr (2, [.ref t, .int (nI tk_1.1), .int (nI tk_1.2.1), .int (nI tk_1.2.2.1), .int (oI tk_1.2.2.2.1), va_rf (wR g tk_1.2.2.2.2)])), (t, .inr (1, [.ref tb, .int (nI k)])), (tb, .inl (g.2.1 1, 2000, .inl (aI T))), (bk, .inr (5, [.ref ra, .ref pa, .int (bI pr), .int (nI rules.length), .int (nI ou_1.length), .int (nI dp)])), (pa, .inl (g.2.1 1, 4000, .inl (aI PB_1))), (ra, .inl (g.2.1 3, 400, .inr (.inr (.inr (.inr RA)))))]) (pl := PP) (st' := []) (n1 := 0) (n2 := 0) [1, 2, 3, 4, 5, 6, 0] rfl rfl rfl rfl rfl rfl ?_
  have hcb : (pBr (pS T k d ls) T k (rules, dp, (so, sta, en, v, wd), out)).2.2 = (pG (pS T k d ls) T k (rules, dp, (tk_1.1, tk_1.2.1, tk_1.2.2.1, tk_1.2.2.2.1, tk_1.2.2.2.2), ou_1)).2.2 := by rw [pBr_c, ← pTk_of hx_1]
  refine r_aload_n C 0 d_Parser_takeBraced_4 rfl rfl ?_
  refine r_iload_n C 1 d_Parser_takeBraced_5 rfl rfl ?_
  refine r_aload_nQ C 2 d_Parser_takeBraced_6 rfl rfl ?_
  refine j_callV C (hG (p := p) (a := a) (t := t) (tb := tb) (bk := bk) (ra := ra) (pa := pa) (k := k) (so := tk_1.1) (sta := tk_1.2.1) (en := tk_1.2.2.1) (dp := dp) (dep := dep) (T := T) (PA := PB_1) (v := tk_1.2.2.2.1) (wd := tk_1.2.2.2.2) (ar := ar) (pr := pr) (out := ou_1) (ls := ls) (PP := PP) (RA := RA) (rules := rules) (by first | assumption | rfl | omega) (by first | assumption | rfl | omega) (by first | assumption | rfl | omega) (by first | assumption | rfl | omega) (by first | assumption | rfl | omega) (hch) (by first | assumption | rfl | omega) (by first | assumption | rfl | omega) (by first | assumption | rfl | omega) (by first | assumption | rfl | omega)) (Sp.pool (Sp.of (wr := []) [0, 1, 2, 3, 4, 5, 6] [] rfl rfl rfl rfl (by decide)) PP) d_Parser_takeBraced_7 lk_Parser_31 mw_Parser_takeGroup vw_Parser_takeGroup (q0 := 0) rfl rfl (fit_of hR (by first | decide | (simp only [rmk]; omega)) (by first | decide | (simp only [rmk]; omega)) (by first | decide | (simp only [rmk]; omega)) (by first | decide | (simp only [rmk]; omega))) rfl (cat8 (Nat.le_of_ble_eq_true rfl)) (As := [.int (nI dep), va_rf ar]) (rest := []) rfl (fun r_7 w_7 hp_7 => ?_)
  obtain ⟨ok_7, rules2_7, dp2_7, RA2_7, PP2_7, tk_7, ou_7, PB_7, rfl, rfl, hx_7, hR2_7, hs_7, hO2_7, hc2_7, ho2_7, h42_7, hd2_7⟩ := hp_7
  refine r_afterP (X := [(p, .inr (6, [.ref t, .ref bk, .ref a])), (a, .inr (2, [.ref t, .int (nI tk_7.1), .int (nI tk_7.2.1), .int (nI tk_7.2.2.1), .int (oI tk_7.2.2.2.1), va_rf (wR g tk_7.2.2.2.2)])), (t, .inr (1, [.ref tb, .int (nI k)])), (tb, .inl (g.2.1 1, 2000, .inl (aI T))), (bk, .inr (5, [.ref ra, .ref pa, .int (bI pr), .int (nI rules2_7.length), .int (nI ou_7.length), .int (nI dp2_7)])), (pa, .inl (g.2.1 1, 4000, .inl (aI PB_7))), (ra, .inl (g.2.1 3, 400, .inr (.inr (.inr (.inr RA2_7)))))]) (X' := [(p, .inr (6, [.ref t, .ref bk, .ref a])), (a, .inr (2, [.ref t, .int (nI tk_7.1), .int (nI tk_7.2.1), .int (nI tk_7.2.2.1), .int (oI tk_7.2.2.2.1), va_rf (wR g tk_7.2.2.2.2)])), (t, .inr (1, [.ref tb, .int (nI k)])), (tb, .inl (g.2.1 1, 2000, .inl (aI T))), (bk, .inr (5, [.ref ra, .ref pa, .int (bI pr), .int (nI rules2_7.length), .int (nI ou_7.length), .int (nI dp2_7)])), (pa, .inl (g.2.1 1, 4000, .inl (aI PB_7))), (ra, .inl (g.2.1 3, 400, .inr (.inr (.inr (.inr RA2_7)))))]) (pl := PP2_7) (st' := [.int (bI ok_7)]) (n1 := 0 + ((pG (pS T k d ls) T k (rules, dp, (tk_1.1, tk_1.2.1, tk_1.2.2.1, tk_1.2.2.2.1, tk_1.2.2.2.2), ou_1)).2.2)) (n2 := 0 + (6 * (pG (pS T k d ls) T k (rules, dp, (tk_1.1, tk_1.2.1, tk_1.2.2.1, tk_1.2.2.2.1, tk_1.2.2.2.2), ou_1)).2.2)) [0, 1, 2, 3, 4, 5, 6] rfl rfl rfl rfl rfl rfl ?_
  refine r_bif_eq C 25 d_Parser_takeBraced_10 (by decide) (fun c_10 => ?_) (fun c_10 => ?_)
  · skip
    refine r_iconst C (nI 0) d_Parser_takeBraced_25 (by decide) ?_
    refine r_eqS (st' := [.int (bI false)]) rfl ?_
    refine r_bret C E d_Parser_takeBraced_26 (by first | decide | omega | (simp only [rmk]; omega)) (by first | decide | omega | (simp only [rmk]; omega)) ?_
    subst c_10
    exact ⟨false, _, _, _, _, _, _, _, rfl, rfl, pBr_n1 (pTk_of hx_1) hx_7, hR2_7, hs_7, hO2_7, hc2_7, ho2_7, h42_7, hd2_7⟩
  · skip
    refine r_aload_n C 0 d_Parser_takeBraced_13 rfl rfl ?_
    refine r_get C 0 2 d_Parser_takeBraced_14 ci_Parser fi_Parser_24 rfl (by decide) rfl rfl ?_
    refine r_bipush C (nI 125) d_Parser_takeBraced_17 (by decide) ?_
    refine j_callV C (c_Tokens_isTheSign g (xl x) (a := a) (t := t) (tb := tb) (k := k) (so := tk_7.1) (sta := tk_7.2.1) (en := tk_7.2.2.1) (T := T) (v := tk_7.2.2.2.1) (wd := tk_7.2.2.2.2) (c := 125) (by first | assumption | rfl | omega) (by first | assumption | rfl | omega) (hO2_7.so) (hO2_7.sign) (by first | assumption | rfl | omega) (hO2_7.sta hk)) (Sp.keep (Sp.of (wr := [(p, .inr (6, [.ref t, .ref bk, .ref a])), (bk, .inr (5, [.ref ra, .ref pa, .int (bI pr), .int (nI rules2_7.length), .int (nI ou_7.length), .int (nI dp2_7)])), (pa, .inl (g.2.1 1, 4000, .inl (aI PB_7))), (ra, .inl (g.2.1 3, 400, .inr (.inr (.inr (.inr RA2_7)))))]) [1, 2, 3] [0, 4, 5, 6] rfl rfl rfl rfl (by decide)) PP2_7) d_Parser_takeBraced_19 lk_Parser_54 mw_Tokens_isTheSign vw_Tokens_isTheSign (q0 := 0) rfl rfl (fit_of hR (by first | decide | (simp only [rmk]; omega)) (by first | decide | (simp only [rmk]; omega)) (by first | decide | (simp only [rmk]; omega)) (by first | decide | (simp only [rmk]; omega))) rfl (cat8 (Nat.le_of_ble_eq_true rfl)) (As := [.int (nI 125)]) (rest := []) rfl (fun r_19 w_19 hp_19 => ?_)
    obtain ⟨rfl, rfl⟩ := hp_19
    refine r_swap ?_
    refine r_afterP (X := [(p, .inr (6, [.ref t, .ref bk, .ref a])), (bk, .inr (5, [.ref ra, .ref pa, .int (bI pr), .int (nI rules2_7.length), .int (nI ou_7.length), .int (nI dp2_7)])), (pa, .inl (g.2.1 1, 4000, .inl (aI PB_7))), (ra, .inl (g.2.1 3, 400, .inr (.inr (.inr (.inr RA2_7))))), (a, .inr (2, [.ref t, .int (nI tk_7.1), .int (nI tk_7.2.1), .int (nI tk_7.2.2.1), .int (oI tk_7.2.2.2.1), va_rf (wR g tk_7.2.2.2.2)])), (t, .inr (1, [.ref tb, .int (nI k)])), (tb, .inl (g.2.1 1, 2000, .inl (aI T)))]) (X' := [(p, .inr (6, [.ref t, .ref bk, .ref a])), (a, .inr (2, [.ref t, .int (nI tk_7.1), .int (nI tk_7.2.1), .int (nI tk_7.2.2.1), .int (oI tk_7.2.2.2.1), va_rf (wR g tk_7.2.2.2.2)])), (t, .inr (1, [.ref tb, .int (nI k)])), (tb, .inl (g.2.1 1, 2000, .inl (aI T))), (bk, .inr (5, [.ref ra, .ref pa, .int (bI pr), .int (nI rules2_7.length), .int (nI ou_7.length), .int (nI dp2_7)])), (pa, .inl (g.2.1 1, 4000, .inl (aI PB_7))), (ra, .inl (g.2.1 3, 400, .inr (.inr (.inr (.inr RA2_7)))))]) (pl := PP2_7) (st' := [.int (bI (isSg T tk_7.1 tk_7.2.1 125))]) (n1 := 0 + ((pG (pS T k d ls) T k (rules, dp, (tk_1.1, tk_1.2.1, tk_1.2.2.1, tk_1.2.2.2.1, tk_1.2.2.2.2), ou_1)).2.2)) (n2 := 0 + (6 * (pG (pS T k d ls) T k (rules, dp, (tk_1.1, tk_1.2.1, tk_1.2.2.1, tk_1.2.2.2.1, tk_1.2.2.2.2), ou_1)).2.2)) [0, 4, 5, 6, 1, 2, 3] rfl rfl rfl rfl rfl rfl ?_
    refine r_bif_ne C 27 d_Parser_takeBraced_22 (by decide) (fun c_22 => ?_) (fun c_22 => ?_)
    · skip
      refine r_aload_n C 0 d_Parser_takeBraced_27 rfl rfl ?_
      refine j_callV C (c_Parser_take g (xl x) (p := p) (a := a) (t := t) (tb := tb) (bk := bk) (ra := ra) (pa := pa) (k := k) (so := tk_7.1) (sta := tk_7.2.1) (en := tk_7.2.2.1) (rc := rules2_7.length) (dp := dp2_7) (T := T) (PA := PB_7) (v := tk_7.2.2.2.1) (wd := tk_7.2.2.2.2) (pr := pr) (out := ou_7) (by first | assumption | rfl | omega) (by first | assumption | rfl | omega) (by first | assumption | rfl | omega) (by first | assumption | rfl | omega) (by first | assumption | rfl | omega) (isSg_ne c_22)) (Sp.keep (Sp.of (wr := [(ra, .inl (g.2.1 3, 400, .inr (.inr (.inr (.inr RA2_7)))))]) [0, 1, 2, 3, 4, 5] [6] rfl rfl rfl rfl (by decide)) PP2_7) d_Parser_takeBraced_28 lk_Parser_61 mw_Parser_take vw_Parser_take (q0 := 0) rfl rfl (fit_of hR (by first | decide | (simp only [rmk]; omega)) (by first | decide | (simp only [rmk]; omega)) (by first | decide | (simp only [rmk]; omega)) (by first | decide | (simp only [rmk]; omega))) rfl (cat8 (Nat.le_of_ble_eq_true rfl)) (As := []) (rest := []) rfl (fun r_28 w_28 hp_28 => ?_)
      obtain ⟨tk_28, ou_28, PB_28, rfl, rfl, hx_28, hO2_28, hc2_28, ho2_28⟩ := hp_28
      refine r_swap ?_
      refine r_afterP (X := [(ra, .inl (g.2.1 3, 400, .inr (.inr (.inr (.inr RA2_7))))), (p, .inr (6, [.ref t, .ref bk, .ref a])), (a, .inr (2, [.ref t, .int (nI tk_28.1), .int (nI tk_28.2.1), .int (nI tk_28.2.2.1), .int (oI tk_28.2.2.2.1), va_rf (wR g tk_28.2.2.2.2)])), (t, .inr (1, [.ref tb, .int (nI k)])), (tb, .inl (g.2.1 1, 2000, .inl (aI T))), (bk, .inr (5, [.ref ra, .ref pa, .int (bI pr), .int (nI rules2_7.length), .int (nI ou_28.length), .int (nI dp2_7)])), (pa, .inl (g.2.1 1, 4000, .inl (aI PB_28)))]) (X' := [(p, .inr (6, [.ref t, .ref bk, .ref a])), (a, .inr (2, [.ref t, .int (nI tk_28.1), .int (nI tk_28.2.1), .int (nI tk_28.2.2.1), .int (oI tk_28.2.2.2.1), va_rf (wR g tk_28.2.2.2.2)])), (t, .inr (1, [.ref tb, .int (nI k)])), (tb, .inl (g.2.1 1, 2000, .inl (aI T))), (bk, .inr (5, [.ref ra, .ref pa, .int (bI pr), .int (nI rules2_7.length), .int (nI ou_28.length), .int (nI dp2_7)])), (pa, .inl (g.2.1 1, 4000, .inl (aI PB_28))), (ra, .inl (g.2.1 3, 400, .inr (.inr (.inr (.inr RA2_7)))))]) (pl := PP2_7) (st' := []) (n1 := 0 + ((pG (pS T k d ls) T k (rules, dp, (tk_1.1, tk_1.2.1, tk_1.2.2.1, tk_1.2.2.2.1, tk_1.2.2.2.2), ou_1)).2.2)) (n2 := 0 + (6 * (pG (pS T k d ls) T k (rules, dp, (tk_1.1, tk_1.2.1, tk_1.2.2.1, tk_1.2.2.2.1, tk_1.2.2.2.2), ou_1)).2.2)) [1, 2, 3, 4, 5, 6, 0] rfl rfl rfl rfl rfl rfl ?_
      refine r_iconst C (nI 1) d_Parser_takeBraced_31 (by decide) ?_
      refine r_eqS (st' := [.int (bI true)]) rfl ?_
      refine r_bret C E d_Parser_takeBraced_32 (by first | decide | omega | (simp only [rmk]; omega)) (by first | decide | omega | (simp only [rmk]; omega)) ?_
      subst c_10
      exact ⟨true, _, _, _, _, _, _, _, rfl, rfl, pBr_y (pTk_of hx_1) hx_7 c_22 (pTk_of hx_28), hR2_7, hs_7, hO2_28, hc2_28, ho2_28, h42_7, hd2_7⟩
    · skip
      refine r_iconst C (nI 0) d_Parser_takeBraced_25 (by decide) ?_
      refine r_eqS (st' := [.int (bI false)]) rfl ?_
      refine r_bret C E d_Parser_takeBraced_26 (by first | decide | omega | (simp only [rmk]; omega)) (by first | decide | omega | (simp only [rmk]; omega)) ?_
      subst c_10
      exact ⟨false, _, _, _, _, _, _, _, rfl, rfl, pBr_n2 (pTk_of hx_1) hx_7 c_22, hR2_7, hs_7, hO2_7, hc2_7, ho2_7, h42_7, hd2_7⟩

set_option maxHeartbeats 4000000 in
set_option maxRecDepth 100000 in
theorem lp_Parser_takeGroup_26 (g : GG) {p : Nat} {a : Nat} {t : Nat} {tb : Nat} {bk : Nat} {ra : Nat} {pa : Nat} {k : Nat} {so : Nat} {sta : Nat} {en : Nat} {dp : Nat} {dep : Nat} {d : Nat} {T : Nat → Nat} {PA : Nat → Nat} {v : Option Nat} {wd : Option Nat} {ar : Option Nat} {pr : Bool} {out : List Nat} {ls : List LayerV} {PP : va_W} {RA : Nat → Option Nat} {rules : List RuleV} (hk : k ≤ 2000) (hT : ∀ j, T j < 256) (hO : TokOK k (so, sta, en, v, wd)) (hcap : out.length ≤ 2 * sta) (ho : OutAt PA out) (hch : ChainAt g PP ar ls) (hRA : RulesAt g PP RA rules) (h400 : rules.length ≤ 400) (hdd : dep + d = 40) (hdp : dp ≤ 40) {x : X0} {A : Nat → Prop} {Q : State → Prop} (hS : ∀ {p : Nat} {a : Nat} {t : Nat} {tb : Nat} {bk : Nat} {ra : Nat} {pa : Nat} {k : Nat} {so : Nat} {sta : Nat} {en : Nat} {dp : Nat} {dep : Nat} {T : Nat → Nat} {PA : Nat → Nat} {v : Option Nat} {wd : Option Nat} {ar : Option Nat} {pr : Bool} {out : List Nat} {ls : List LayerV} {PP : va_W} {RA : Nat → Option Nat} {rules : List RuleV} (hk : k ≤ 2000) (hT : ∀ j, T j < 256) (hO : TokOK k (so, sta, en, v, wd)) (hcap : out.length ≤ 2 * sta) (ho : OutAt PA out) (hch : ChainAt g PP ar ls) (hRA : RulesAt g PP RA rules) (h400 : rules.length ≤ 400) (hdd : dep + d = 40) (hdp : dp ≤ 40), Cn g (xl x) y_Parser_takeStatement b_Parser_takeStatement 4 (some .boolean) (rmk (30 + 3 * d) ((pS T k d ls (rules, dp, (so, sta, en, v, wd), out)).2.2) (6 * (pS T k d ls (rules, dp, (so, sta, en, v, wd), out)).2.2) (700 + 80 * d)) [.ref p, .int (nI dep), va_rf ar] ([(p, .inr (6, [.ref t, .ref bk, .ref a])), (a, .inr (2, [.ref t, .int (nI so), .int (nI sta), .int (nI en), .int (oI v), va_rf (wR g wd)])), (t, .inr (1, [.ref tb, .int (nI k)])), (tb, .inl (g.2.1 1, 2000, .inl (aI T))), (bk, .inr (5, [.ref ra, .ref pa, .int (bI pr), .int (nI rules.length), .int (nI out.length), .int (nI dp)])), (pa, .inl (g.2.1 1, 4000, .inl (aI PA))), (ra, .inl (g.2.1 3, 400, .inr (.inr (.inr (.inr RA)))))] ++ PP) (fun (r0 : Option Value) (w0 : va_W) => ∃ ok : Bool, ∃ rules2 : List RuleV, ∃ dp2 : Nat, ∃ RA2 : Nat → Option Nat, ∃ PP2 : va_W, ∃ tk : Tok, ∃ ou : List Nat, ∃ PB : Nat → Nat, r0 = some (.int (bI ok)) ∧ w0 = [(p, .inr (6, [.ref t, .ref bk, .ref a])), (a, .inr (2, [.ref t, .int (nI tk.1), .int (nI tk.2.1), .int (nI tk.2.2.1), .int (oI tk.2.2.2.1), va_rf (wR g tk.2.2.2.2)])), (t, .inr (1, [.ref tb, .int (nI k)])), (tb, .inl (g.2.1 1, 2000, .inl (aI T))), (bk, .inr (5, [.ref ra, .ref pa, .int (bI pr), .int (nI rules2.length), .int (nI ou.length), .int (nI dp2)])), (pa, .inl (g.2.1 1, 4000, .inl (aI PB))), (ra, .inl (g.2.1 3, 400, .inr (.inr (.inr (.inr RA2)))))] ++ PP2 ∧ ((ok, (rules2, dp2, tk, ou)) = BP (pS T k d ls (rules, dp, (so, sta, en, v, wd), out))) ∧ (RulesAt g PP2 RA2 rules2) ∧ (∀ q ∈ PP, q ∈ PP2) ∧ (TokOK k tk) ∧ (ou.length ≤ 2 * tk.2.1) ∧ (OutAt PB ou) ∧ (rules2.length ≤ 400) ∧ (dp2 ≤ 40))) (C : CX x g A R_Parser b_Parser_takeGroup 4) (E : RX x g A Q (some .boolean) (fun (r0 : Option Value) (w0 : va_W) => ∃ ok : Bool, ∃ rules2 : List RuleV, ∃ dp2 : Nat, ∃ RA2 : Nat → Option Nat, ∃ PP2 : va_W, ∃ tk : Tok, ∃ ou : List Nat, ∃ PB : Nat → Nat, r0 = some (.int (bI ok)) ∧ w0 = [(p, .inr (6, [.ref t, .ref bk, .ref a])), (a, .inr (2, [.ref t, .int (nI tk.1), .int (nI tk.2.1), .int (nI tk.2.2.1), .int (oI tk.2.2.2.1), va_rf (wR g tk.2.2.2.2)])), (t, .inr (1, [.ref tb, .int (nI k)])), (tb, .inl (g.2.1 1, 2000, .inl (aI T))), (bk, .inr (5, [.ref ra, .ref pa, .int (bI pr), .int (nI rules2.length), .int (nI ou.length), .int (nI dp2)])), (pa, .inl (g.2.1 1, 4000, .inl (aI PB))), (ra, .inl (g.2.1 3, 400, .inr (.inr (.inr (.inr RA2)))))] ++ PP2 ∧ ((ok, (rules2, dp2, tk, ou)) = BP (pG (pS T k d ls) T k (rules, dp, (so, sta, en, v, wd), out))) ∧ (RulesAt g PP2 RA2 rules2) ∧ (∀ q ∈ PP, q ∈ PP2) ∧ (TokOK k tk) ∧ (ou.length ≤ 2 * tk.2.1) ∧ (OutAt PB ou) ∧ (rules2.length ≤ 400) ∧ (dp2 ≤ 40)) (rmk (30 + 3 * d + 1) ((pG (pS T k d ls) T k (rules, dp, (so, sta, en, v, wd), out)).2.2) (6 * (pG (pS T k d ls) T k (rules, dp, (so, sta, en, v, wd), out)).2.2) (700 + 80 * d + 24)).cells (rmk (30 + 3 * d + 1) ((pG (pS T k d ls) T k (rules, dp, (so, sta, en, v, wd), out)).2.2) (6 * (pG (pS T k d ls) T k (rules, dp, (so, sta, en, v, wd), out)).2.2) (700 + 80 * d + 24)).slots) (hR : xR x = (rmk (30 + 3 * d + 1) ((pG (pS T k d ls) T k (rules, dp, (so, sta, en, v, wd), out)).2.2) (6 * (pG (pS T k d ls) T k (rules, dp, (so, sta, en, v, wd), out)).2.2) (700 + 80 * d + 24))) : ∀ (fuel : Nat) (i : Nat) (tkc : Tok) (rl : List RuleV) (dpc : Nat) (ouc : List Nat) (RC : Nat → Option Nat) (PC : Nat → Nat) (PQ : va_W) (clc : Nat) (hi : i ≤ 2000) (hinv : BP (pLoop (pS T k d ls) T k (2000 - i) (rl, dpc, tkc, ouc)) = BP (pG (pS T k d ls) T k (rules, dp, (so, sta, en, v, wd), out))) (hcl : clc + (pLoop (pS T k d ls) T k (2000 - i) (rl, dpc, tkc, ouc)).2.2 = (pG (pS T k d ls) T k (rules, dp, (so, sta, en, v, wd), out)).2.2) (hOc : TokOK k tkc) (hcc : ouc.length ≤ 2 * tkc.2.1) (hoc : OutAt PC ouc) (hRc : RulesAt g PQ RC rl) (hsc : ∀ q ∈ PP, q ∈ PQ) (h4c : rl.length ≤ 400) (hdc : dpc ≤ 40), 2000 - i < fuel → J x g A Q 4 ([(p, .inr (6, [.ref t, .ref bk, .ref a])), (a, .inr (2, [.ref t, .int (nI tkc.1), .int (nI tkc.2.1), .int (nI tkc.2.2.1), .int (oI tkc.2.2.2.1), va_rf (wR g tkc.2.2.2.2)])), (t, .inr (1, [.ref tb, .int (nI k)])), (tb, .inl (g.2.1 1, 2000, .inl (aI T))), (bk, .inr (5, [.ref ra, .ref pa, .int (bI pr), .int (nI rl.length), .int (nI ouc.length), .int (nI dpc)])), (pa, .inl (g.2.1 1, 4000, .inl (aI PC))), (ra, .inl (g.2.1 3, 400, .inr (.inr (.inr (.inr RC)))))] ++ PQ) [(0, .ref p), (1, .int (nI dep)), (2, va_rf ar), (3, .int (nI i))] 26 [] clc (6 * clc) := by
  intro fuel
  induction fuel with
  | zero =>
    intro i tkc rl dpc ouc RC PC PQ clc hi hinv hcl hOc hcc hoc hRc hsc h4c hdc hm
    exact absurd hm (Nat.not_lt_zero _)
  | succ fuel ih =>
    intro i tkc rl dpc ouc RC PC PQ clc hi hinv hcl hOc hcc hoc hRc hsc h4c hdc hm
    refine r_iload_n C 3 d_Parser_takeGroup_26 rfl rfl ?_
    refine r_sipush C (nI 2000) d_Parser_takeGroup_27 (by decide) ?_
    refine r_ncmp_ge C 68 d_Parser_takeGroup_30 (by decide) (by omega) (by omega) (fun c_30 => ?_) (fun c_30 => ?_)
    · skip
      refine r_iconst C (nI 0) d_Parser_takeGroup_68 (by decide) ?_
      refine r_eqS (st' := [.int (bI false)]) rfl ?_
      refine r_bret C E d_Parser_takeGroup_69 (by first | decide | omega | (simp only [rmk]; omega)) (by first | decide | omega | (simp only [rmk]; omega)) ?_
      exact ⟨false, rl, dpc, RC, PQ, tkc, ouc, PC, rfl, rfl, by rw [← hinv, show 2000 - i = 0 by omega]; rfl, hRc, hsc, hOc, hcc, hoc, h4c, hdc⟩
    · skip
      obtain ⟨m, hm1⟩ : ∃ m, 2000 - i = m + 1 := ⟨1999 - i, by omega⟩
      rw [hm1] at hinv hcl
      have hc1 : (pS T k d ls (rl, dpc, (tkc.1, tkc.2.1, tkc.2.2.1, tkc.2.2.2.1, tkc.2.2.2.2), ouc)).2.2 ≤ (pLoop (pS T k d ls) T k (m + 1) (rl, dpc, tkc, ouc)).2.2 := pLoop_c1
      refine r_aload_n C 0 d_Parser_takeGroup_33 rfl rfl ?_
      refine r_iload_n C 1 d_Parser_takeGroup_34 rfl rfl ?_
      refine r_aload_nQ C 2 d_Parser_takeGroup_35 rfl rfl ?_
      refine j_callV C (hS (p := p) (a := a) (t := t) (tb := tb) (bk := bk) (ra := ra) (pa := pa) (k := k) (so := tkc.1) (sta := tkc.2.1) (en := tkc.2.2.1) (dp := dpc) (dep := dep) (T := T) (PA := PC) (v := tkc.2.2.2.1) (wd := tkc.2.2.2.2) (ar := ar) (pr := pr) (out := ouc) (ls := ls) (PP := PQ) (RA := RC) (rules := rl) (by first | assumption | rfl | omega) (by first | assumption | rfl | omega) (by first | assumption | rfl | omega) (by first | assumption | rfl | omega) (by first | assumption | rfl | omega) (hch.mono hsc) (by first | assumption | rfl | omega) (by first | assumption | rfl | omega) (by first | assumption | rfl | omega) (by first | assumption | rfl | omega)) (Sp.pool (Sp.of (wr := []) [0, 1, 2, 3, 4, 5, 6] [] rfl rfl rfl rfl (by decide)) PQ) d_Parser_takeGroup_36 lk_Parser_58 mw_Parser_takeStatement vw_Parser_takeStatement (q0 := 0) rfl rfl (fit_of hR (by first | decide | (simp only [rmk]; omega)) (by first | decide | (simp only [rmk]; omega)) (by first | decide | (simp only [rmk]; omega)) (by first | decide | (simp only [rmk]; omega))) rfl (cat8 (Nat.le_of_ble_eq_true rfl)) (As := [.int (nI dep), va_rf ar]) (rest := []) rfl (fun r_36 w_36 hp_36 => ?_)
      obtain ⟨ok_36, rules2_36, dp2_36, RA2_36, PP2_36, tk_36, ou_36, PB_36, rfl, rfl, hx_36, hR2_36, hs_36, hO2_36, hc2_36, ho2_36, h42_36, hd2_36⟩ := hp_36
      refine r_afterP (X := [(p, .inr (6, [.ref t, .ref bk, .ref a])), (a, .inr (2, [.ref t, .int (nI tk_36.1), .int (nI tk_36.2.1), .int (nI tk_36.2.2.1), .int (oI tk_36.2.2.2.1), va_rf (wR g tk_36.2.2.2.2)])), (t, .inr (1, [.ref tb, .int (nI k)])), (tb, .inl (g.2.1 1, 2000, .inl (aI T))), (bk, .inr (5, [.ref ra, .ref pa, .int (bI pr), .int (nI rules2_36.length), .int (nI ou_36.length), .int (nI dp2_36)])), (pa, .inl (g.2.1 1, 4000, .inl (aI PB_36))), (ra, .inl (g.2.1 3, 400, .inr (.inr (.inr (.inr RA2_36)))))]) (X' := [(p, .inr (6, [.ref t, .ref bk, .ref a])), (a, .inr (2, [.ref t, .int (nI tk_36.1), .int (nI tk_36.2.1), .int (nI tk_36.2.2.1), .int (oI tk_36.2.2.2.1), va_rf (wR g tk_36.2.2.2.2)])), (t, .inr (1, [.ref tb, .int (nI k)])), (tb, .inl (g.2.1 1, 2000, .inl (aI T))), (bk, .inr (5, [.ref ra, .ref pa, .int (bI pr), .int (nI rules2_36.length), .int (nI ou_36.length), .int (nI dp2_36)])), (pa, .inl (g.2.1 1, 4000, .inl (aI PB_36))), (ra, .inl (g.2.1 3, 400, .inr (.inr (.inr (.inr RA2_36)))))]) (pl := PP2_36) (st' := [.int (bI ok_36)]) (n1 := clc + ((pS T k d ls (rl, dpc, (tkc.1, tkc.2.1, tkc.2.2.1, tkc.2.2.2.1, tkc.2.2.2.2), ouc)).2.2)) (n2 := 6 * clc + (6 * (pS T k d ls (rl, dpc, (tkc.1, tkc.2.1, tkc.2.2.1, tkc.2.2.2.1, tkc.2.2.2.2), ouc)).2.2)) [0, 1, 2, 3, 4, 5, 6] rfl rfl rfl rfl rfl rfl ?_
      refine r_bif_ne C 44 d_Parser_takeGroup_39 (by decide) (fun c_39 => ?_) (fun c_39 => ?_)
      · skip
        subst c_39
        refine r_aload_n C 0 d_Parser_takeGroup_44 rfl rfl ?_
        refine r_get C 0 2 d_Parser_takeGroup_45 ci_Parser fi_Parser_24 rfl (by decide) rfl rfl ?_
        refine r_bipush C (nI 59) d_Parser_takeGroup_48 (by decide) ?_
        refine j_callV C (c_Tokens_isTheSign g (xl x) (a := a) (t := t) (tb := tb) (k := k) (so := tk_36.1) (sta := tk_36.2.1) (en := tk_36.2.2.1) (T := T) (v := tk_36.2.2.2.1) (wd := tk_36.2.2.2.2) (c := 59) (by first | assumption | rfl | omega) (by first | assumption | rfl | omega) (hO2_36.so) (hO2_36.sign) (by first | assumption | rfl | omega) (hO2_36.sta hk)) (Sp.keep (Sp.of (wr := [(p, .inr (6, [.ref t, .ref bk, .ref a])), (bk, .inr (5, [.ref ra, .ref pa, .int (bI pr), .int (nI rules2_36.length), .int (nI ou_36.length), .int (nI dp2_36)])), (pa, .inl (g.2.1 1, 4000, .inl (aI PB_36))), (ra, .inl (g.2.1 3, 400, .inr (.inr (.inr (.inr RA2_36)))))]) [1, 2, 3] [0, 4, 5, 6] rfl rfl rfl rfl (by decide)) PP2_36) d_Parser_takeGroup_50 lk_Parser_54 mw_Tokens_isTheSign vw_Tokens_isTheSign (q0 := 0) rfl rfl (fit_of hR (by first | decide | (simp only [rmk]; omega)) (by first | decide | (simp only [rmk]; omega)) (by first | decide | (simp only [rmk]; omega)) (by first | decide | (simp only [rmk]; omega))) rfl (cat8 (Nat.le_of_ble_eq_true rfl)) (As := [.int (nI 59)]) (rest := []) rfl (fun r_50 w_50 hp_50 => ?_)
        obtain ⟨rfl, rfl⟩ := hp_50
        refine r_swap ?_
        refine r_afterP (X := [(p, .inr (6, [.ref t, .ref bk, .ref a])), (bk, .inr (5, [.ref ra, .ref pa, .int (bI pr), .int (nI rules2_36.length), .int (nI ou_36.length), .int (nI dp2_36)])), (pa, .inl (g.2.1 1, 4000, .inl (aI PB_36))), (ra, .inl (g.2.1 3, 400, .inr (.inr (.inr (.inr RA2_36))))), (a, .inr (2, [.ref t, .int (nI tk_36.1), .int (nI tk_36.2.1), .int (nI tk_36.2.2.1), .int (oI tk_36.2.2.2.1), va_rf (wR g tk_36.2.2.2.2)])), (t, .inr (1, [.ref tb, .int (nI k)])), (tb, .inl (g.2.1 1, 2000, .inl (aI T)))]) (X' := [(p, .inr (6, [.ref t, .ref bk, .ref a])), (a, .inr (2, [.ref t, .int (nI tk_36.1), .int (nI tk_36.2.1), .int (nI tk_36.2.2.1), .int (oI tk_36.2.2.2.1), va_rf (wR g tk_36.2.2.2.2)])), (t, .inr (1, [.ref tb, .int (nI k)])), (tb, .inl (g.2.1 1, 2000, .inl (aI T))), (bk, .inr (5, [.ref ra, .ref pa, .int (bI pr), .int (nI rules2_36.length), .int (nI ou_36.length), .int (nI dp2_36)])), (pa, .inl (g.2.1 1, 4000, .inl (aI PB_36))), (ra, .inl (g.2.1 3, 400, .inr (.inr (.inr (.inr RA2_36)))))]) (pl := PP2_36) (st' := [.int (bI (isSg T tk_36.1 tk_36.2.1 59))]) (n1 := clc + ((pS T k d ls (rl, dpc, (tkc.1, tkc.2.1, tkc.2.2.1, tkc.2.2.2.1, tkc.2.2.2.2), ouc)).2.2)) (n2 := 6 * clc + (6 * (pS T k d ls (rl, dpc, (tkc.1, tkc.2.1, tkc.2.2.1, tkc.2.2.2.1, tkc.2.2.2.2), ouc)).2.2)) [0, 4, 5, 6, 1, 2, 3] rfl rfl rfl rfl rfl rfl ?_
        refine r_bif_ne C 58 d_Parser_takeGroup_53 (by decide) (fun c_53 => ?_) (fun c_53 => ?_)
        · skip
          refine r_aload_n C 0 d_Parser_takeGroup_58 rfl rfl ?_
          refine j_callV C (c_Parser_take g (xl x) (p := p) (a := a) (t := t) (tb := tb) (bk := bk) (ra := ra) (pa := pa) (k := k) (so := tk_36.1) (sta := tk_36.2.1) (en := tk_36.2.2.1) (rc := rules2_36.length) (dp := dp2_36) (T := T) (PA := PB_36) (v := tk_36.2.2.2.1) (wd := tk_36.2.2.2.2) (pr := pr) (out := ou_36) (by first | assumption | rfl | omega) (by first | assumption | rfl | omega) (by first | assumption | rfl | omega) (by first | assumption | rfl | omega) (by first | assumption | rfl | omega) (isSg_ne c_53)) (Sp.keep (Sp.of (wr := [(ra, .inl (g.2.1 3, 400, .inr (.inr (.inr (.inr RA2_36)))))]) [0, 1, 2, 3, 4, 5] [6] rfl rfl rfl rfl (by decide)) PP2_36) d_Parser_takeGroup_59 lk_Parser_61 mw_Parser_take vw_Parser_take (q0 := 0) rfl rfl (fit_of hR (by first | decide | (simp only [rmk]; omega)) (by first | decide | (simp only [rmk]; omega)) (by first | decide | (simp only [rmk]; omega)) (by first | decide | (simp only [rmk]; omega))) rfl (cat8 (Nat.le_of_ble_eq_true rfl)) (As := []) (rest := []) rfl (fun r_59 w_59 hp_59 => ?_)
          obtain ⟨tk_59, ou_59, PB_59, rfl, rfl, hx_59, hO2_59, hc2_59, ho2_59⟩ := hp_59
          refine r_swap ?_
          refine r_afterP (X := [(ra, .inl (g.2.1 3, 400, .inr (.inr (.inr (.inr RA2_36))))), (p, .inr (6, [.ref t, .ref bk, .ref a])), (a, .inr (2, [.ref t, .int (nI tk_59.1), .int (nI tk_59.2.1), .int (nI tk_59.2.2.1), .int (oI tk_59.2.2.2.1), va_rf (wR g tk_59.2.2.2.2)])), (t, .inr (1, [.ref tb, .int (nI k)])), (tb, .inl (g.2.1 1, 2000, .inl (aI T))), (bk, .inr (5, [.ref ra, .ref pa, .int (bI pr), .int (nI rules2_36.length), .int (nI ou_59.length), .int (nI dp2_36)])), (pa, .inl (g.2.1 1, 4000, .inl (aI PB_59)))]) (X' := [(p, .inr (6, [.ref t, .ref bk, .ref a])), (a, .inr (2, [.ref t, .int (nI tk_59.1), .int (nI tk_59.2.1), .int (nI tk_59.2.2.1), .int (oI tk_59.2.2.2.1), va_rf (wR g tk_59.2.2.2.2)])), (t, .inr (1, [.ref tb, .int (nI k)])), (tb, .inl (g.2.1 1, 2000, .inl (aI T))), (bk, .inr (5, [.ref ra, .ref pa, .int (bI pr), .int (nI rules2_36.length), .int (nI ou_59.length), .int (nI dp2_36)])), (pa, .inl (g.2.1 1, 4000, .inl (aI PB_59))), (ra, .inl (g.2.1 3, 400, .inr (.inr (.inr (.inr RA2_36)))))]) (pl := PP2_36) (st' := []) (n1 := clc + ((pS T k d ls (rl, dpc, (tkc.1, tkc.2.1, tkc.2.2.1, tkc.2.2.2.1, tkc.2.2.2.2), ouc)).2.2)) (n2 := 6 * clc + (6 * (pS T k d ls (rl, dpc, (tkc.1, tkc.2.1, tkc.2.2.1, tkc.2.2.2.1, tkc.2.2.2.2), ouc)).2.2)) [1, 2, 3, 4, 5, 6, 0] rfl rfl rfl rfl rfl rfl ?_
          refine r_iinc C 3 (nI (i + 1)) (lv' := [(3, .int (nI (i + 1))), (0, .ref p), (1, .int (nI dep)), (2, va_rf ar)]) d_Parser_takeGroup_62 rfl (nI_inc 1 _) (by decide) (by generalize ar = zq; cases zq <;> rfl) ?_
          refine r_goto C 26 d_Parser_takeGroup_65 (by decide) ?_
          refine r_lv (lv' := [(0, .ref p), (1, .int (nI dep)), (2, va_rf ar), (3, .int (nI (i + 1)))]) [1, 2, 3, 0] rfl ?_
          refine r_widen (n1 := (clc + ((pS T k d ls (rl, dpc, (tkc.1, tkc.2.1, tkc.2.2.1, tkc.2.2.2.1, tkc.2.2.2.2), ouc)).2.2))) (n2 := 6 * (clc + ((pS T k d ls (rl, dpc, (tkc.1, tkc.2.1, tkc.2.2.1, tkc.2.2.2.1, tkc.2.2.2.2), ouc)).2.2))) (by omega) (by omega) ?_
          exact ih (i + 1) tk_59 rules2_36 dp2_36 ou_59 RA2_36 PB_59 PP2_36 (clc + ((pS T k d ls (rl, dpc, (tkc.1, tkc.2.1, tkc.2.2.1, tkc.2.2.2.1, tkc.2.2.2.2), ouc)).2.2)) (by first | assumption | rfl | omega) (by rw [← hinv, show 2000 - (i + 1) = m by omega, pLoop_go hx_36 c_53, ← pTk_of hx_59]) (by rw [← hcl, show 2000 - (i + 1) = m by omega, pLoop_gc hx_36 c_53, ← pTk_of hx_59]; omega) (by first | assumption | rfl | omega) (by first | assumption | rfl | omega) (by first | assumption | rfl | omega) (by first | assumption | rfl | omega) (fun q h => hs_36 q (hsc q h)) (by first | assumption | rfl | omega) (by first | assumption | rfl | omega) (by omega)
        · skip
          refine r_iconst C (nI 1) d_Parser_takeGroup_56 (by decide) ?_
          refine r_eqS (st' := [.int (bI true)]) rfl ?_
          refine r_bret C E d_Parser_takeGroup_57 (by first | decide | omega | (simp only [rmk]; omega)) (by first | decide | omega | (simp only [rmk]; omega)) ?_
          exact ⟨true, _, _, _, _, _, _, _, rfl, rfl, by rw [← hinv]; exact (pLoop_e hx_36 c_53).symm, hR2_36, fun q h => hs_36 q (hsc q h), hO2_36, hc2_36, ho2_36, h42_36, hd2_36⟩
      · skip
        refine r_iconst C (nI 0) d_Parser_takeGroup_42 (by decide) ?_
        refine r_eqS (st' := [.int (bI false)]) rfl ?_
        refine r_bret C E d_Parser_takeGroup_43 (by first | decide | omega | (simp only [rmk]; omega)) (by first | decide | omega | (simp only [rmk]; omega)) ?_
        subst c_39
        exact ⟨false, _, _, _, _, _, _, _, rfl, rfl, by rw [← hinv]; exact (pLoop_n hx_36).symm, hR2_36, fun q h => hs_36 q (hsc q h), hO2_36, hc2_36, ho2_36, h42_36, hd2_36⟩
set_option maxHeartbeats 4000000 in
set_option maxRecDepth 100000 in
theorem o_Parser_takeGroup (g : GG) (l : Launch) {p : Nat} {a : Nat} {t : Nat} {tb : Nat} {bk : Nat} {ra : Nat} {pa : Nat} {k : Nat} {so : Nat} {sta : Nat} {en : Nat} {dp : Nat} {dep : Nat} {d : Nat} {T : Nat → Nat} {PA : Nat → Nat} {v : Option Nat} {wd : Option Nat} {ar : Option Nat} {pr : Bool} {out : List Nat} {ls : List LayerV} {PP : va_W} {RA : Nat → Option Nat} {rules : List RuleV} (hS : ∀ {p : Nat} {a : Nat} {t : Nat} {tb : Nat} {bk : Nat} {ra : Nat} {pa : Nat} {k : Nat} {so : Nat} {sta : Nat} {en : Nat} {dp : Nat} {dep : Nat} {T : Nat → Nat} {PA : Nat → Nat} {v : Option Nat} {wd : Option Nat} {ar : Option Nat} {pr : Bool} {out : List Nat} {ls : List LayerV} {PP : va_W} {RA : Nat → Option Nat} {rules : List RuleV} (hk : k ≤ 2000) (hT : ∀ j, T j < 256) (hO : TokOK k (so, sta, en, v, wd)) (hcap : out.length ≤ 2 * sta) (ho : OutAt PA out) (hch : ChainAt g PP ar ls) (hRA : RulesAt g PP RA rules) (h400 : rules.length ≤ 400) (hdd : dep + d = 40) (hdp : dp ≤ 40), Cn g l y_Parser_takeStatement b_Parser_takeStatement 4 (some .boolean) (rmk (30 + 3 * d) ((pS T k d ls (rules, dp, (so, sta, en, v, wd), out)).2.2) (6 * (pS T k d ls (rules, dp, (so, sta, en, v, wd), out)).2.2) (700 + 80 * d)) [.ref p, .int (nI dep), va_rf ar] ([(p, .inr (6, [.ref t, .ref bk, .ref a])), (a, .inr (2, [.ref t, .int (nI so), .int (nI sta), .int (nI en), .int (oI v), va_rf (wR g wd)])), (t, .inr (1, [.ref tb, .int (nI k)])), (tb, .inl (g.2.1 1, 2000, .inl (aI T))), (bk, .inr (5, [.ref ra, .ref pa, .int (bI pr), .int (nI rules.length), .int (nI out.length), .int (nI dp)])), (pa, .inl (g.2.1 1, 4000, .inl (aI PA))), (ra, .inl (g.2.1 3, 400, .inr (.inr (.inr (.inr RA)))))] ++ PP) (fun (r0 : Option Value) (w0 : va_W) => ∃ ok : Bool, ∃ rules2 : List RuleV, ∃ dp2 : Nat, ∃ RA2 : Nat → Option Nat, ∃ PP2 : va_W, ∃ tk : Tok, ∃ ou : List Nat, ∃ PB : Nat → Nat, r0 = some (.int (bI ok)) ∧ w0 = [(p, .inr (6, [.ref t, .ref bk, .ref a])), (a, .inr (2, [.ref t, .int (nI tk.1), .int (nI tk.2.1), .int (nI tk.2.2.1), .int (oI tk.2.2.2.1), va_rf (wR g tk.2.2.2.2)])), (t, .inr (1, [.ref tb, .int (nI k)])), (tb, .inl (g.2.1 1, 2000, .inl (aI T))), (bk, .inr (5, [.ref ra, .ref pa, .int (bI pr), .int (nI rules2.length), .int (nI ou.length), .int (nI dp2)])), (pa, .inl (g.2.1 1, 4000, .inl (aI PB))), (ra, .inl (g.2.1 3, 400, .inr (.inr (.inr (.inr RA2)))))] ++ PP2 ∧ ((ok, (rules2, dp2, tk, ou)) = BP (pS T k d ls (rules, dp, (so, sta, en, v, wd), out))) ∧ (RulesAt g PP2 RA2 rules2) ∧ (∀ q ∈ PP, q ∈ PP2) ∧ (TokOK k tk) ∧ (ou.length ≤ 2 * tk.2.1) ∧ (OutAt PB ou) ∧ (rules2.length ≤ 400) ∧ (dp2 ≤ 40))) (hk : k ≤ 2000) (hT : ∀ j, T j < 256) (hO : TokOK k (so, sta, en, v, wd)) (hcap : out.length ≤ 2 * sta) (ho : OutAt PA out) (hch : ChainAt g PP ar ls) (hRA : RulesAt g PP RA rules) (h400 : rules.length ≤ 400) (hdd : dep + d = 40) (hdp : dp ≤ 40) : Cn g l y_Parser_takeGroup b_Parser_takeGroup 4 (some .boolean) (rmk (30 + 3 * d + 1) ((pG (pS T k d ls) T k (rules, dp, (so, sta, en, v, wd), out)).2.2) (6 * (pG (pS T k d ls) T k (rules, dp, (so, sta, en, v, wd), out)).2.2) (700 + 80 * d + 24)) [.ref p, .int (nI dep), va_rf ar] ([(p, .inr (6, [.ref t, .ref bk, .ref a])), (a, .inr (2, [.ref t, .int (nI so), .int (nI sta), .int (nI en), .int (oI v), va_rf (wR g wd)])), (t, .inr (1, [.ref tb, .int (nI k)])), (tb, .inl (g.2.1 1, 2000, .inl (aI T))), (bk, .inr (5, [.ref ra, .ref pa, .int (bI pr), .int (nI rules.length), .int (nI out.length), .int (nI dp)])), (pa, .inl (g.2.1 1, 4000, .inl (aI PA))), (ra, .inl (g.2.1 3, 400, .inr (.inr (.inr (.inr RA)))))] ++ PP) (fun (r0 : Option Value) (w0 : va_W) => ∃ ok : Bool, ∃ rules2 : List RuleV, ∃ dp2 : Nat, ∃ RA2 : Nat → Option Nat, ∃ PP2 : va_W, ∃ tk : Tok, ∃ ou : List Nat, ∃ PB : Nat → Nat, r0 = some (.int (bI ok)) ∧ w0 = [(p, .inr (6, [.ref t, .ref bk, .ref a])), (a, .inr (2, [.ref t, .int (nI tk.1), .int (nI tk.2.1), .int (nI tk.2.2.1), .int (oI tk.2.2.2.1), va_rf (wR g tk.2.2.2.2)])), (t, .inr (1, [.ref tb, .int (nI k)])), (tb, .inl (g.2.1 1, 2000, .inl (aI T))), (bk, .inr (5, [.ref ra, .ref pa, .int (bI pr), .int (nI rules2.length), .int (nI ou.length), .int (nI dp2)])), (pa, .inl (g.2.1 1, 4000, .inl (aI PB))), (ra, .inl (g.2.1 3, 400, .inr (.inr (.inr (.inr RA2)))))] ++ PP2 ∧ ((ok, (rules2, dp2, tk, ou)) = BP (pG (pS T k d ls) T k (rules, dp, (so, sta, en, v, wd), out))) ∧ (RulesAt g PP2 RA2 rules2) ∧ (∀ q ∈ PP, q ∈ PP2) ∧ (TokOK k tk) ∧ (ou.length ≤ 2 * tk.2.1) ∧ (OutAt PB ou) ∧ (rules2.length ≤ 400) ∧ (dp2 ≤ 40)) := by
  refine Cn.of R_Parser [(0, .ref p), (1, .int (nI dep)), (2, va_rf ar)] (by decide) rfl (by generalize ar = z0; cases z0 <;> exact Nat.le_of_ble_eq_true rfl) (by generalize ar = z0; cases z0 <;> rfl) ?_
  intro x A Q hR hXl hin C E
  subst hXl
  have bso := hO.so
  refine r_aload_n C 0 d_Parser_takeGroup_0 rfl rfl ?_
  refine r_get C 0 2 d_Parser_takeGroup_1 ci_Parser fi_Parser_24 rfl (by decide) rfl rfl ?_
  refine r_get C 1 1 d_Parser_takeGroup_4 ci_Tokens fi_Parser_35 rfl (by decide) rfl rfl ?_
  refine r_nif_eq C 22 d_Parser_takeGroup_7 (by decide) (by omega) (fun c_7 => ?_) (fun c_7 => ?_)
  · skip
    refine r_iconst C (nI 1) d_Parser_takeGroup_22 (by decide) ?_
    refine r_eqS (st' := [.int (bI true)]) rfl ?_
    refine r_bret C E d_Parser_takeGroup_23 (by first | decide | omega | (simp only [rmk]; omega)) (by first | decide | omega | (simp only [rmk]; omega)) ?_
    exact ⟨true, _, _, _, _, (so, sta, en, v, wd), _, _, rfl, rfl, by first | exact pG_0 c_7 | exact pG_1 c_19, hRA, fun _ h => h, hO, hcap, ho, h400, hdp⟩
  · skip
    refine r_aload_n C 0 d_Parser_takeGroup_10 rfl rfl ?_
    refine r_get C 0 2 d_Parser_takeGroup_11 ci_Parser fi_Parser_24 rfl (by decide) rfl rfl ?_
    refine r_bipush C (nI 125) d_Parser_takeGroup_14 (by decide) ?_
    refine j_callV C (c_Tokens_isTheSign g (xl x) (a := a) (t := t) (tb := tb) (k := k) (so := so) (sta := sta) (en := en) (T := T) (v := v) (wd := wd) (c := 125) (by first | assumption | rfl | omega) (by first | assumption | rfl | omega) (hO.so) (hO.sign) (by first | assumption | rfl | omega) (hO.sta hk)) (Sp.keep (Sp.of (wr := [(p, .inr (6, [.ref t, .ref bk, .ref a])), (bk, .inr (5, [.ref ra, .ref pa, .int (bI pr), .int (nI rules.length), .int (nI out.length), .int (nI dp)])), (pa, .inl (g.2.1 1, 4000, .inl (aI PA))), (ra, .inl (g.2.1 3, 400, .inr (.inr (.inr (.inr RA)))))]) [1, 2, 3] [0, 4, 5, 6] rfl rfl rfl rfl (by decide)) PP) d_Parser_takeGroup_16 lk_Parser_54 mw_Tokens_isTheSign vw_Tokens_isTheSign (q0 := 0) rfl rfl (fit_of hR (by first | decide | (simp only [rmk]; omega)) (by first | decide | (simp only [rmk]; omega)) (by first | decide | (simp only [rmk]; omega)) (by first | decide | (simp only [rmk]; omega))) rfl (cat8 (Nat.le_of_ble_eq_true rfl)) (As := [.int (nI 125)]) (rest := []) rfl (fun r_16 w_16 hp_16 => ?_)
    obtain ⟨rfl, rfl⟩ := hp_16
    refine r_swap ?_
    refine r_afterP (X := [(p, .inr (6, [.ref t, .ref bk, .ref a])), (bk, .inr (5, [.ref ra, .ref pa, .int (bI pr), .int (nI rules.length), .int (nI out.length), .int (nI dp)])), (pa, .inl (g.2.1 1, 4000, .inl (aI PA))), (ra, .inl (g.2.1 3, 400, .inr (.inr (.inr (.inr RA))))), (a, .inr (2, [.ref t, .int (nI so), .int (nI sta), .int (nI en), .int (oI v), va_rf (wR g wd)])), (t, .inr (1, [.ref tb, .int (nI k)])), (tb, .inl (g.2.1 1, 2000, .inl (aI T)))]) (X' := [(p, .inr (6, [.ref t, .ref bk, .ref a])), (a, .inr (2, [.ref t, .int (nI so), .int (nI sta), .int (nI en), .int (oI v), va_rf (wR g wd)])), (t, .inr (1, [.ref tb, .int (nI k)])), (tb, .inl (g.2.1 1, 2000, .inl (aI T))), (bk, .inr (5, [.ref ra, .ref pa, .int (bI pr), .int (nI rules.length), .int (nI out.length), .int (nI dp)])), (pa, .inl (g.2.1 1, 4000, .inl (aI PA))), (ra, .inl (g.2.1 3, 400, .inr (.inr (.inr (.inr RA)))))]) (pl := PP) (st' := [.int (bI (isSg T so sta 125))]) (n1 := 0) (n2 := 0) [0, 4, 5, 6, 1, 2, 3] rfl rfl rfl rfl rfl rfl ?_
    refine r_bif_eq C 24 d_Parser_takeGroup_19 (by decide) (fun c_19 => ?_) (fun c_19 => ?_)
    · skip
      refine r_iconst C (nI 0) d_Parser_takeGroup_24 (by decide) ?_
      refine r_istore_n C (lv' := [(3, .int (nI 0)), (0, .ref p), (1, .int (nI dep)), (2, va_rf ar)]) d_Parser_takeGroup_25 rfl (by decide) (by generalize ar = zq; cases zq <;> rfl) ?_
      refine r_lv (lv' := [(0, .ref p), (1, .int (nI dep)), (2, va_rf ar), (3, .int (nI 0))]) [1, 2, 3, 0] rfl ?_
      refine r_eqW (ws' := [(p, .inr (6, [.ref t, .ref bk, .ref a])), (a, .inr (2, [.ref t, .int (nI ((so, sta, en, v, wd).1)), .int (nI ((so, sta, en, v, wd).2.1)), .int (nI ((so, sta, en, v, wd).2.2.1)), .int (oI ((so, sta, en, v, wd).2.2.2.1)), va_rf (wR g (so, sta, en, v, wd).2.2.2.2)])), (t, .inr (1, [.ref tb, .int (nI k)])), (tb, .inl (g.2.1 1, 2000, .inl (aI T))), (bk, .inr (5, [.ref ra, .ref pa, .int (bI pr), .int (nI rules.length), .int (nI out.length), .int (nI dp)])), (pa, .inl (g.2.1 1, 4000, .inl (aI PA))), (ra, .inl (g.2.1 3, 400, .inr (.inr (.inr (.inr RA)))))] ++ PP) (by first | rfl | simp) ?_
      refine r_widen (n1 := 0) (n2 := 6 * 0) (by omega) (by omega) ?_
      exact lp_Parser_takeGroup_26 g (p := p) (a := a) (t := t) (tb := tb) (bk := bk) (ra := ra) (pa := pa) (k := k) (so := so) (sta := sta) (en := en) (dp := dp) (dep := dep) (d := d) (T := T) (PA := PA) (v := v) (wd := wd) (ar := ar) (pr := pr) (out := out) (ls := ls) (PP := PP) (RA := RA) (rules := rules) hk hT hO hcap ho hch hRA h400 hdd hdp hS C E hR _ 0 (so, sta, en, v, wd) rules dp out RA PA PP 0 (by first | assumption | rfl | omega) (by rw [pG_go (s := (rules, dp, (so, sta, en, v, wd), out)) c_7 c_19]) (by rw [pG_go (s := (rules, dp, (so, sta, en, v, wd), out)) c_7 c_19]; simp) (by first | assumption | rfl | omega) (by first | assumption | rfl | omega) (by first | assumption | rfl | omega) (by first | assumption | rfl | omega) (fun _ h => h) (by first | assumption | rfl | omega) (by first | assumption | rfl | omega) (Nat.lt_succ_self _)
    · skip
      refine r_iconst C (nI 1) d_Parser_takeGroup_22 (by decide) ?_
      refine r_eqS (st' := [.int (bI true)]) rfl ?_
      refine r_bret C E d_Parser_takeGroup_23 (by first | decide | omega | (simp only [rmk]; omega)) (by first | decide | omega | (simp only [rmk]; omega)) ?_
      exact ⟨true, _, _, _, _, (so, sta, en, v, wd), _, _, rfl, rfl, by first | exact pG_0 c_7 | exact pG_1 c_19, hRA, fun _ h => h, hO, hcap, ho, h400, hdp⟩
