abbrev PSt : Type := List RuleV × Nat × TO
def BP (r : Bool × PSt × Nat) : Bool × PSt := (r.1, r.2.1)
def pTk (T : Nat → Nat) (k : Nat) (s : PSt) : PSt := (s.1, s.2.1, tTake T k s.2.2)
def sgn (T : Nat → Nat) (c : Nat) (s : PSt) : Bool := isSg T s.2.2.1.1 s.2.2.1.2.1 c
def rol (ro : Nat) (s : PSt) : Bool := isRo s.2.2.1.1 s.2.2.1.2.2.2.2 ro
theorem isSg_ne {T : Nat → Nat} {so sta c : Nat} (h : isSg T so sta c = true) : so ≠ 0 := by
  rintro rfl
  simp [isSg] at h
theorem isSg_lv {T : Nat → Nat} {so sta c : Nat} (h : isSg T so sta c = true) : so ≠ 0 ∧ so ≠ 4 := by
  simp [isSg] at h
  omega
theorem pTk_of {T : Nat → Nat} {k dp : Nat} {rules : List RuleV} {x y : TO} (h : y = tTake T k x) : ((rules, dp, y) : PSt) = pTk T k (rules, dp, x) := by rw [h]; rfl
/-- statements with ; between, at most n of them -/
def pLoop (f : PSt → Bool × PSt × Nat) (T : Nat → Nat) (k : Nat) : Nat → PSt → Bool × PSt × Nat
  | 0, s => (false, s, 0)
  | m + 1, s => if (f s).1 = true then (if sgn T 59 (f s).2.1 = true then ((pLoop f T k m (pTk T k (f s).2.1)).1, (pLoop f T k m (pTk T k (f s).2.1)).2.1, (f s).2.2 + (pLoop f T k m (pTk T k (f s).2.1)).2.2) else (true, (f s).2.1, (f s).2.2)) else (false, (f s).2.1, (f s).2.2)
def pG (f : PSt → Bool × PSt × Nat) (T : Nat → Nat) (k : Nat) (s : PSt) : Bool × PSt × Nat := if s.2.2.1.1 = 0 ∨ sgn T 125 s = true then (true, s, 0) else pLoop f T k 2000 s
def pBr (f : PSt → Bool × PSt × Nat) (T : Nat → Nat) (k : Nat) (s : PSt) : Bool × PSt × Nat :=
  if (pG f T k (pTk T k s)).1 = true ∧ sgn T 125 (pG f T k (pTk T k s)).2.1 = true then (true, pTk T k (pG f T k (pTk T k s)).2.1, (pG f T k (pTk T k s)).2.2) else (false, (pG f T k (pTk T k s)).2.1, (pG f T k (pTk T k s)).2.2)
/-- each or where: its layer, its statement -/
def pLy (f : List LayerV → PSt → Bool × PSt × Nat) (T : Nat → Nat) (k : Nat) (ls : List LayerV) (s : PSt) : Bool × PSt × Nat :=
  if rol (if isWd s.2.2.1.1 s.2.2.1.2.2.2.2 0 = true then 1 else 2) (pTk T k s) = true then match pLay T k ((pTk T k s).2.2.1.2.2.2.2.getD 0) (pTk T k s).2.2 with
    | (none, y) => (false, (s.1, s.2.1, y), 1)
    | (some l, y) => ((f (l :: ls) (s.1, s.2.1, y)).1, (f (l :: ls) (s.1, s.2.1, y)).2.1, (f (l :: ls) (s.1, s.2.1, y)).2.2 + 1)
  else (false, pTk T k s, 0)
def pRl (T : Nat → Nat) (k : Nat) (ls : List LayerV) (s : PSt) : Bool × PSt × Nat := ((pRule T k (s.2.2.1.2.2.2.2.getD 0) ls s.1 s.2.2).1, ((pRule T k (s.2.2.1.2.2.2.2.getD 0) ls s.1 s.2.2).2.1, s.2.1, (pRule T k (s.2.2.1.2.2.2.2.getD 0) ls s.1 s.2.2).2.2), 1)
/-- a statement that may go d deeper -/
def pS (T : Nat → Nat) (k : Nat) : Nat → List LayerV → PSt → Bool × PSt × Nat
  | 0, ls, s => if rol 3 s = true then pRl T k ls s else (false, s, 0)
  | d + 1, ls, s => if rol 3 s = true then pRl T k ls s else if sgn T 123 s = true then pBr (pS T k d ls) T k (s.1, max s.2.1 (40 - d), s.2.2) else if rol 0 s = true then pLy (pS T k d) T k ls (s.1, max s.2.1 (40 - d), s.2.2) else (false, s, 0)
section PG
variable {f : PSt → Bool × PSt × Nat} {T : Nat → Nat} {k m : Nat} {s s1 s2 s3 : PSt}
theorem BP_1 {b : Bool} {r : Bool × PSt × Nat} (h : (b, s) = BP r) : r.1 = b ∧ r.2.1 = s := by
  unfold BP at h
  cases h
  exact ⟨rfl, rfl⟩
theorem pBr_c : (pBr f T k s).2.2 = (pG f T k (pTk T k s)).2.2 := by
  unfold pBr
  split <;> rfl
theorem pBr_n1 (h : s1 = pTk T k s) (h1 : (false, s2) = BP (pG f T k s1)) : (false, s2) = BP (pBr f T k s) := by
  obtain ⟨e1, e2⟩ := BP_1 h1
  rw [h] at e1 e2
  simp [pBr, BP, e1, e2]
theorem pBr_n2 (h : s1 = pTk T k s) (h1 : (true, s2) = BP (pG f T k s1)) (h2 : sgn T 125 s2 = false) : (false, s2) = BP (pBr f T k s) := by
  obtain ⟨e1, e2⟩ := BP_1 h1
  rw [h] at e1 e2
  simp [pBr, BP, e1, e2, h2]
theorem pBr_y (h : s1 = pTk T k s) (h1 : (true, s2) = BP (pG f T k s1)) (h2 : sgn T 125 s2 = true) (h3 : s3 = pTk T k s2) : (true, s3) = BP (pBr f T k s) := by
  obtain ⟨e1, e2⟩ := BP_1 h1
  rw [h] at e1 e2
  simp [pBr, BP, e1, e2, h2, h3]
theorem pG_0 (h : s.2.2.1.1 = 0) : (true, s) = BP (pG f T k s) := by simp [pG, BP, h]
theorem pG_1 (h : sgn T 125 s = true) : (true, s) = BP (pG f T k s) := by simp [pG, BP, h]
theorem pG_go (h : s.2.2.1.1 ≠ 0) (h1 : sgn T 125 s = false) : pG f T k s = pLoop f T k 2000 s := by simp [pG, h, h1]
theorem pLoop_c1 : (f s).2.2 ≤ (pLoop f T k (m + 1) s).2.2 := by
  rw [pLoop]
  split
  · split
    · exact Nat.le_add_right _ _
    · exact Nat.le_refl _
  · exact Nat.le_refl _
theorem pLoop_n (h : (false, s2) = BP (f s)) : BP (pLoop f T k (m + 1) s) = (false, s2) := by
  obtain ⟨e1, e2⟩ := BP_1 h
  simp [pLoop, BP, e1, e2]
theorem pLoop_e (h : (true, s2) = BP (f s)) (h2 : sgn T 59 s2 = false) : BP (pLoop f T k (m + 1) s) = (true, s2) := by
  obtain ⟨e1, e2⟩ := BP_1 h
  simp [pLoop, BP, e1, e2, h2]
theorem pLoop_go (h : (true, s2) = BP (f s)) (h2 : sgn T 59 s2 = true) : BP (pLoop f T k (m + 1) s) = BP (pLoop f T k m (pTk T k s2)) := by
  obtain ⟨e1, e2⟩ := BP_1 h
  simp [pLoop, BP, e1, e2, h2]
theorem pLoop_gc (h : (true, s2) = BP (f s)) (h2 : sgn T 59 s2 = true) : (pLoop f T k (m + 1) s).2.2 = (f s).2.2 + (pLoop f T k m (pTk T k s2)).2.2 := by
  obtain ⟨e1, e2⟩ := BP_1 h
  simp [pLoop, e1, e2, h2]
theorem isRo_word {so ro : Nat} {wd : Option Nat} (h : isRo so wd ro = true) : ∃ w, wd = some w ∧ so = 1 ∧ roleN w = ro := by
  cases wd with
  | none => cases h
  | some w =>
    simp [isRo] at h
    exact ⟨w, rfl, h.1, h.2⟩
theorem isRo_ne {so ro : Nat} {wd : Option Nat} (h : isRo so wd ro = true) : so ≠ 0 := by
  obtain ⟨w, -, h1, -⟩ := isRo_word h
  omega
theorem isRo_lv {so ro : Nat} {wd : Option Nat} (h : isRo so wd ro = true) : so ≠ 0 ∧ so ≠ 4 := by
  obtain ⟨w, -, h1, -⟩ := isRo_word h
  omega
theorem roleN_3 {w : Nat} (h : roleN w = 3) : 16 ≤ w := by
  unfold roleN at h
  split at h
  · cases h
  · split at h
    · cases h
    · split at h
      · cases h
      · omega
theorem layRes_some {g : GG} {PP : va_W} {a : Nat} {ls : List LayerV} {lay : Option LayerV} (h : LayRes g PP (some a) ls lay) : ∃ l, lay = some l ∧ ChainAt g PP (some a) (l :: ls) := by
  cases lay with
  | none => cases h
  | some l =>
    obtain ⟨b, e, h1⟩ := h
    cases e
    exact ⟨l, rfl, h1⟩
theorem layRes_none {g : GG} {PP : va_W} {ls : List LayerV} {lay : Option LayerV} (h : LayRes g PP none ls lay) : lay = none := by
  cases lay with
  | none => rfl
  | some l =>
    obtain ⟨b, e, -⟩ := h
    cases e
variable {fl : List LayerV → PSt → Bool × PSt × Nat} {ls : List LayerV} {ro d w : Nat} {l : LayerV} {y : TO} {b : Bool}
theorem pLy_no (h0 : (if isWd s.2.2.1.1 s.2.2.1.2.2.2.2 0 = true then 1 else 2) = ro) (h : s1 = pTk T k s) (h1 : rol ro s1 = false) : (false, s1) = BP (pLy fl T k ls s) := by
  subst h0 h
  simp [pLy, BP, h1]
theorem pLy_n (h0 : (if isWd s.2.2.1.1 s.2.2.1.2.2.2.2 0 = true then 1 else 2) = ro) (h : s1 = pTk T k s) (h1 : rol ro s1 = true) (hw : s1.2.2.1.2.2.2.2 = some w) (h2 : (none, y) = pLay T k w s1.2.2) : (false, (s.1, s.2.1, y)) = BP (pLy fl T k ls s) := by
  subst h0 h
  simp [pLy, BP, h1, hw, ← h2]
theorem pLy_y (h0 : (if isWd s.2.2.1.1 s.2.2.1.2.2.2.2 0 = true then 1 else 2) = ro) (h : s1 = pTk T k s) (h1 : rol ro s1 = true) (hw : s1.2.2.1.2.2.2.2 = some w) (h2 : (some l, y) = pLay T k w s1.2.2) (h3 : (b, s3) = BP (fl (l :: ls) (s.1, s.2.1, y))) : (b, s3) = BP (pLy fl T k ls s) := by
  subst h0 h
  obtain ⟨e1, e2⟩ := BP_1 h3
  simp [pLy, BP, h1, hw, ← h2, e1, e2]
theorem pLy_yc (h0 : (if isWd s.2.2.1.1 s.2.2.1.2.2.2.2 0 = true then 1 else 2) = ro) (h : s1 = pTk T k s) (h1 : rol ro s1 = true) (hw : s1.2.2.1.2.2.2.2 = some w) (h2 : (some l, y) = pLay T k w s1.2.2) : (pLy fl T k ls s).2.2 = (fl (l :: ls) (s.1, s.2.1, y)).2.2 + 1 := by
  subst h0 h
  simp [pLy, h1, hw, ← h2]
theorem pLy_c1 (h0 : (if isWd s.2.2.1.1 s.2.2.1.2.2.2.2 0 = true then 1 else 2) = ro) (h : s1 = pTk T k s) (h1 : rol ro s1 = true) : 1 ≤ (pLy fl T k ls s).2.2 := by
  subst h0 h
  rw [pLy, if_pos h1]
  split
  · exact Nat.le_refl _
  · exact Nat.le_add_left _ _
theorem pS_rl (h : rol 3 s = true) : pS T k d ls s = pRl T k ls s := by cases d <;> simp [pS, h]
theorem pS_rc (h : rol 3 s = true) : (pS T k d ls s).2.2 = 1 := by rw [pS_rl h]; rfl
theorem pS_ru {rules2 : List RuleV} (h : rol 3 s = true) (h1 : (b, rules2, y) = pRule T k (s.2.2.1.2.2.2.2.getD 0) ls s.1 s.2.2) : (b, (rules2, s.2.1, y)) = BP (pS T k d ls s) := by
  rw [pS_rl h]
  simp [pRl, BP, ← h1]
theorem pS_br (h : rol 3 s = false) (h1 : sgn T 123 s = true) : pS T k (d + 1) ls s = pBr (pS T k d ls) T k (s.1, max s.2.1 (40 - d), s.2.2) := by simp [pS, h, h1]
theorem pS_ly (h : rol 3 s = false) (h1 : sgn T 123 s = false) (h2 : rol 0 s = true) : pS T k (d + 1) ls s = pLy (pS T k d) T k ls (s.1, max s.2.1 (40 - d), s.2.2) := by simp [pS, h, h1, h2]
theorem pS_0 (h : rol 3 s = false) : (false, s) = BP (pS T k 0 ls s) := by simp [pS, BP, h]
theorem pS_0' (hd : d = 0) (h : rol 3 s = false) : (false, s) = BP (pS T k d ls s) := by subst hd; exact pS_0 h
theorem pS_no (h : rol 3 s = false) (h1 : sgn T 123 s = false) (h2 : rol 0 s = false) : (false, s) = BP (pS T k d ls s) := by cases d <;> simp [pS, BP, h, h1, h2]
end PG

set_option maxRecDepth 100000 in
theorem lk_Parser_27 : LK R_Parser 27 y_Parser_takeGroup := Or.inl (gw (i := 432) rfl rfl)
set_option maxRecDepth 100000 in
theorem lk_Parser_46 : LK R_Parser 46 y_Parser_takeStatement := Or.inl (gw (i := 440) rfl rfl)
set_option maxRecDepth 100000 in
theorem mw_Parser_takeGroup : MW y_Parser_takeGroup b_Parser_takeGroup 4 (some .boolean) 2 := ⟨(gw (i := 435) rfl rfl), (gw (i := 76) rfl rfl), by decide +kernel⟩
set_option maxRecDepth 100000 in
theorem mw_Parser_takeStatement : MW y_Parser_takeStatement b_Parser_takeStatement 4 (some .boolean) 2 := ⟨(gw (i := 443) rfl rfl), (gw (i := 76) rfl rfl), by decide +kernel⟩
set_option maxRecDepth 100000 in
theorem vw_Parser_takeGroup : VW y_Parser_takeGroup := ⟨(gw (i := 434) rfl rfl), (gw (i := 6) rfl rfl)⟩
set_option maxRecDepth 100000 in
theorem vw_Parser_takeStatement : VW y_Parser_takeStatement := ⟨(gw (i := 442) rfl rfl), (gw (i := 7) rfl rfl)⟩
theorem d_Parser_takeBraced_0 : decode b_Parser_takeBraced 0 = .ok (.aload_n 0, 1) := by decide +kernel
theorem d_Parser_takeBraced_1 : decode b_Parser_takeBraced 1 = .ok (.getfield 20, 3) := by decide +kernel
theorem d_Parser_takeBraced_4 : decode b_Parser_takeBraced 4 = .ok (.invokevirtual 49, 3) := by decide +kernel
theorem d_Parser_takeBraced_7 : decode b_Parser_takeBraced 7 = .ok (.aload_n 0, 1) := by decide +kernel
theorem d_Parser_takeBraced_8 : decode b_Parser_takeBraced 8 = .ok (.iload_n 1, 1) := by decide +kernel
theorem d_Parser_takeBraced_9 : decode b_Parser_takeBraced 9 = .ok (.aload_n 2, 1) := by decide +kernel
theorem d_Parser_takeBraced_10 : decode b_Parser_takeBraced 10 = .ok (.invokevirtual 27, 3) := by decide +kernel
theorem d_Parser_takeBraced_13 : decode b_Parser_takeBraced 13 = .ok (.ifCond .eq 15, 3) := by decide +kernel
theorem d_Parser_takeBraced_16 : decode b_Parser_takeBraced 16 = .ok (.aload_n 0, 1) := by decide +kernel
theorem d_Parser_takeBraced_17 : decode b_Parser_takeBraced 17 = .ok (.getfield 20, 3) := by decide +kernel
theorem d_Parser_takeBraced_20 : decode b_Parser_takeBraced 20 = .ok (.bipush 125, 2) := by decide +kernel
theorem d_Parser_takeBraced_22 : decode b_Parser_takeBraced 22 = .ok (.invokevirtual 42, 3) := by decide +kernel
theorem d_Parser_takeBraced_25 : decode b_Parser_takeBraced 25 = .ok (.ifCond .ne 5, 3) := by decide +kernel
theorem d_Parser_takeBraced_28 : decode b_Parser_takeBraced 28 = .ok (.iconst 0, 1) := by decide +kernel
theorem d_Parser_takeBraced_29 : decode b_Parser_takeBraced 29 = .ok (.ireturn, 1) := by decide +kernel
theorem d_Parser_takeBraced_30 : decode b_Parser_takeBraced 30 = .ok (.aload_n 0, 1) := by decide +kernel
theorem d_Parser_takeBraced_31 : decode b_Parser_takeBraced 31 = .ok (.getfield 20, 3) := by decide +kernel
theorem d_Parser_takeBraced_34 : decode b_Parser_takeBraced 34 = .ok (.invokevirtual 49, 3) := by decide +kernel
theorem d_Parser_takeBraced_37 : decode b_Parser_takeBraced 37 = .ok (.iconst 1, 1) := by decide +kernel
theorem d_Parser_takeBraced_38 : decode b_Parser_takeBraced 38 = .ok (.ireturn, 1) := by decide +kernel
theorem d_Parser_takeGroup_0 : decode b_Parser_takeGroup 0 = .ok (.aload_n 0, 1) := by decide +kernel
theorem d_Parser_takeGroup_1 : decode b_Parser_takeGroup 1 = .ok (.getfield 20, 3) := by decide +kernel
theorem d_Parser_takeGroup_4 : decode b_Parser_takeGroup 4 = .ok (.getfield 31, 3) := by decide +kernel
theorem d_Parser_takeGroup_7 : decode b_Parser_takeGroup 7 = .ok (.ifCond .eq 15, 3) := by decide +kernel
theorem d_Parser_takeGroup_10 : decode b_Parser_takeGroup 10 = .ok (.aload_n 0, 1) := by decide +kernel
theorem d_Parser_takeGroup_11 : decode b_Parser_takeGroup 11 = .ok (.getfield 20, 3) := by decide +kernel
theorem d_Parser_takeGroup_14 : decode b_Parser_takeGroup 14 = .ok (.bipush 125, 2) := by decide +kernel
theorem d_Parser_takeGroup_16 : decode b_Parser_takeGroup 16 = .ok (.invokevirtual 42, 3) := by decide +kernel
theorem d_Parser_takeGroup_19 : decode b_Parser_takeGroup 19 = .ok (.ifCond .eq 5, 3) := by decide +kernel
theorem d_Parser_takeGroup_22 : decode b_Parser_takeGroup 22 = .ok (.iconst 1, 1) := by decide +kernel
theorem d_Parser_takeGroup_23 : decode b_Parser_takeGroup 23 = .ok (.ireturn, 1) := by decide +kernel
theorem d_Parser_takeGroup_24 : decode b_Parser_takeGroup 24 = .ok (.iconst 0, 1) := by decide +kernel
theorem d_Parser_takeGroup_25 : decode b_Parser_takeGroup 25 = .ok (.istore_n 3, 1) := by decide +kernel
theorem d_Parser_takeGroup_26 : decode b_Parser_takeGroup 26 = .ok (.iload_n 3, 1) := by decide +kernel
theorem d_Parser_takeGroup_27 : decode b_Parser_takeGroup 27 = .ok (.sipush 2000, 3) := by decide +kernel
theorem d_Parser_takeGroup_30 : decode b_Parser_takeGroup 30 = .ok (.if_icmp .ge 41, 3) := by decide +kernel
theorem d_Parser_takeGroup_33 : decode b_Parser_takeGroup 33 = .ok (.aload_n 0, 1) := by decide +kernel
theorem d_Parser_takeGroup_34 : decode b_Parser_takeGroup 34 = .ok (.iload_n 1, 1) := by decide +kernel
theorem d_Parser_takeGroup_35 : decode b_Parser_takeGroup 35 = .ok (.aload_n 2, 1) := by decide +kernel
theorem d_Parser_takeGroup_36 : decode b_Parser_takeGroup 36 = .ok (.invokevirtual 46, 3) := by decide +kernel
theorem d_Parser_takeGroup_39 : decode b_Parser_takeGroup 39 = .ok (.ifCond .ne 5, 3) := by decide +kernel
theorem d_Parser_takeGroup_42 : decode b_Parser_takeGroup 42 = .ok (.iconst 0, 1) := by decide +kernel
theorem d_Parser_takeGroup_43 : decode b_Parser_takeGroup 43 = .ok (.ireturn, 1) := by decide +kernel
theorem d_Parser_takeGroup_44 : decode b_Parser_takeGroup 44 = .ok (.aload_n 0, 1) := by decide +kernel
theorem d_Parser_takeGroup_45 : decode b_Parser_takeGroup 45 = .ok (.getfield 20, 3) := by decide +kernel
theorem d_Parser_takeGroup_48 : decode b_Parser_takeGroup 48 = .ok (.bipush 59, 2) := by decide +kernel
theorem d_Parser_takeGroup_50 : decode b_Parser_takeGroup 50 = .ok (.invokevirtual 42, 3) := by decide +kernel
theorem d_Parser_takeGroup_53 : decode b_Parser_takeGroup 53 = .ok (.ifCond .ne 5, 3) := by decide +kernel
theorem d_Parser_takeGroup_56 : decode b_Parser_takeGroup 56 = .ok (.iconst 1, 1) := by decide +kernel
theorem d_Parser_takeGroup_57 : decode b_Parser_takeGroup 57 = .ok (.ireturn, 1) := by decide +kernel
theorem d_Parser_takeGroup_58 : decode b_Parser_takeGroup 58 = .ok (.aload_n 0, 1) := by decide +kernel
theorem d_Parser_takeGroup_59 : decode b_Parser_takeGroup 59 = .ok (.getfield 20, 3) := by decide +kernel
theorem d_Parser_takeGroup_62 : decode b_Parser_takeGroup 62 = .ok (.invokevirtual 49, 3) := by decide +kernel
theorem d_Parser_takeGroup_65 : decode b_Parser_takeGroup 65 = .ok (.iinc 3 1, 3) := by decide +kernel
theorem d_Parser_takeGroup_68 : decode b_Parser_takeGroup 68 = .ok (.goto (-42), 3) := by decide +kernel
theorem d_Parser_takeGroup_71 : decode b_Parser_takeGroup 71 = .ok (.iconst 0, 1) := by decide +kernel
theorem d_Parser_takeGroup_72 : decode b_Parser_takeGroup 72 = .ok (.ireturn, 1) := by decide +kernel
set_option maxHeartbeats 4000000 in
set_option maxRecDepth 100000 in
theorem o_Parser_takeBraced (g : GG) (l : Launch) {p : Nat} {bk : Nat} {ra : Nat} {pa : Nat} {k : Nat} {so : Nat} {sta : Nat} {en : Nat} {ee : Nat} {dp : Nat} {dep : Nat} {d : Nat} {a : Nat} {t : Nat} {zs : Nat} {zb : Nat} {ze : Nat} {zv : Nat} {zw : Nat} {cnt : Nat} {nx : Nat} {T : Nat → Nat} {ZS : Nat → Nat} {ZB : Nat → Nat} {ZE : Nat → Nat} {ZV : Nat → Option Nat} {ZW : Nat → Option Nat} {v : Option Nat} {wd : Option Nat} {ar : Option Nat} {pr : Bool} {out : List Nat} {ls : List LayerV} {PP : va_W} {RA : Nat → Option Nat} {rules : List RuleV} (hG : ∀ {p : Nat} {bk : Nat} {ra : Nat} {pa : Nat} {k : Nat} {so : Nat} {sta : Nat} {en : Nat} {ee : Nat} {dp : Nat} {dep : Nat} {a : Nat} {t : Nat} {zs : Nat} {zb : Nat} {ze : Nat} {zv : Nat} {zw : Nat} {cnt : Nat} {nx : Nat} {T : Nat → Nat} {ZS : Nat → Nat} {ZB : Nat → Nat} {ZE : Nat → Nat} {ZV : Nat → Option Nat} {ZW : Nat → Option Nat} {v : Option Nat} {wd : Option Nat} {ar : Option Nat} {pr : Bool} {out : List Nat} {ls : List LayerV} {PP : va_W} {RA : Nat → Option Nat} {rules : List RuleV} (hk : k ≤ 2000) (hT : ∀ j, T j < 256) (hO : TokOK k (so, sta, en, v, wd)) (hA : CutA g T k cnt ZS ZB ZE ZV ZW) (hcap : nth T k nx = ((so, sta, en, v, wd), out)) (ho : nx < cnt) (hch : ChainAt g PP ar ls) (hRA : RulesAt g PP RA rules) (h400 : rules.length ≤ 400) (hdd : dep + d = 40) (hdp : dp ≤ 40), Cn g l y_Parser_takeGroup b_Parser_takeGroup 4 (some .boolean) (rmk (30 + 3 * d + 1) ((pG (pS T k d ls) T k (rules, dp, (so, sta, en, v, wd), out)).2.2) (6 * (pG (pS T k d ls) T k (rules, dp, (so, sta, en, v, wd), out)).2.2) (700 + 80 * d + 24)) [.ref p, .int (nI dep), va_rf ar] ([(p, .inr (6, [.ref bk, .ref a])), (a, .inr (2, [.ref t, .ref zs, .ref zb, .ref ze, .ref zv, .ref zw, .int (nI cnt), .int (nI nx), .int (nI so), .int (nI sta), .int (nI ee), .int (oI v), va_rf (wR g wd)])), (zs, .inl (g.2.1 0, 2001, .inl (aI ZS))), (zb, .inl (g.2.1 0, 2001, .inl (aI ZB))), (ze, .inl (g.2.1 0, 2001, .inl (aI ZE))), (zv, .inl (g.2.1 0, 2001, .inl (oA ZV))), (zw, .inl (g.2.1 6, 2001, .inr (.inr (.inr (.inr ZW))))), (bk, .inr (5, [.ref ra, .ref pa, .int (bI pr), .int (nI rules.length), .int (nI 0), .int (nI dp)])), (ra, .inl (g.2.1 3, 400, .inr (.inr (.inr (.inr RA)))))] ++ PP) (fun (r0 : Option Value) (w0 : va_W) => ∃ ok : Bool, ∃ rules2 : List RuleV, ∃ dp2 : Nat, ∃ RA2 : Nat → Option Nat, ∃ PP2 : va_W, ∃ tk : Tok, ∃ ou : List Nat, ∃ nx2 : Nat, r0 = some (.int (bI ok)) ∧ w0 = [(p, .inr (6, [.ref bk, .ref a])), (a, .inr (2, [.ref t, .ref zs, .ref zb, .ref ze, .ref zv, .ref zw, .int (nI cnt), .int (nI nx2), .int (nI tk.1), .int (nI tk.2.1), .int (nI ee), .int (oI tk.2.2.2.1), va_rf (wR g tk.2.2.2.2)])), (zs, .inl (g.2.1 0, 2001, .inl (aI ZS))), (zb, .inl (g.2.1 0, 2001, .inl (aI ZB))), (ze, .inl (g.2.1 0, 2001, .inl (aI ZE))), (zv, .inl (g.2.1 0, 2001, .inl (oA ZV))), (zw, .inl (g.2.1 6, 2001, .inr (.inr (.inr (.inr ZW))))), (bk, .inr (5, [.ref ra, .ref pa, .int (bI pr), .int (nI rules2.length), .int (nI 0), .int (nI dp2)])), (ra, .inl (g.2.1 3, 400, .inr (.inr (.inr (.inr RA2)))))] ++ PP2 ∧ ((ok, (rules2, dp2, tk, ou)) = BP (pG (pS T k d ls) T k (rules, dp, (so, sta, en, v, wd), out))) ∧ (RulesAt g PP2 RA2 rules2) ∧ (∀ q ∈ PP, q ∈ PP2) ∧ (TokOK k tk) ∧ (nth T k nx2 = (tk, ou)) ∧ (nx2 < cnt) ∧ (rules2.length ≤ 400) ∧ (dp2 ≤ 40))) (hk : k ≤ 2000) (hT : ∀ j, T j < 256) (hO : TokOK k (so, sta, en, v, wd)) (hA : CutA g T k cnt ZS ZB ZE ZV ZW) (hcap : nth T k nx = ((so, sta, en, v, wd), out)) (ho : nx < cnt) (hch : ChainAt g PP ar ls) (hRA : RulesAt g PP RA rules) (h400 : rules.length ≤ 400) (hdd : dep + d = 40) (hdp : dp ≤ 40) (h0 : so ≠ 0 ∧ so ≠ 4) : Cn g l y_Parser_takeBraced b_Parser_takeBraced 3 (some .boolean) (rmk (30 + 3 * d + 2) ((pBr (pS T k d ls) T k (rules, dp, (so, sta, en, v, wd), out)).2.2) (6 * (pBr (pS T k d ls) T k (rules, dp, (so, sta, en, v, wd), out)).2.2) (700 + 80 * d + 47)) [.ref p, .int (nI dep), va_rf ar] ([(p, .inr (6, [.ref bk, .ref a])), (a, .inr (2, [.ref t, .ref zs, .ref zb, .ref ze, .ref zv, .ref zw, .int (nI cnt), .int (nI nx), .int (nI so), .int (nI sta), .int (nI ee), .int (oI v), va_rf (wR g wd)])), (zs, .inl (g.2.1 0, 2001, .inl (aI ZS))), (zb, .inl (g.2.1 0, 2001, .inl (aI ZB))), (ze, .inl (g.2.1 0, 2001, .inl (aI ZE))), (zv, .inl (g.2.1 0, 2001, .inl (oA ZV))), (zw, .inl (g.2.1 6, 2001, .inr (.inr (.inr (.inr ZW))))), (bk, .inr (5, [.ref ra, .ref pa, .int (bI pr), .int (nI rules.length), .int (nI 0), .int (nI dp)])), (ra, .inl (g.2.1 3, 400, .inr (.inr (.inr (.inr RA)))))] ++ PP) (fun (r0 : Option Value) (w0 : va_W) => ∃ ok : Bool, ∃ rules2 : List RuleV, ∃ dp2 : Nat, ∃ RA2 : Nat → Option Nat, ∃ PP2 : va_W, ∃ tk : Tok, ∃ ou : List Nat, ∃ nx2 : Nat, r0 = some (.int (bI ok)) ∧ w0 = [(p, .inr (6, [.ref bk, .ref a])), (a, .inr (2, [.ref t, .ref zs, .ref zb, .ref ze, .ref zv, .ref zw, .int (nI cnt), .int (nI nx2), .int (nI tk.1), .int (nI tk.2.1), .int (nI ee), .int (oI tk.2.2.2.1), va_rf (wR g tk.2.2.2.2)])), (zs, .inl (g.2.1 0, 2001, .inl (aI ZS))), (zb, .inl (g.2.1 0, 2001, .inl (aI ZB))), (ze, .inl (g.2.1 0, 2001, .inl (aI ZE))), (zv, .inl (g.2.1 0, 2001, .inl (oA ZV))), (zw, .inl (g.2.1 6, 2001, .inr (.inr (.inr (.inr ZW))))), (bk, .inr (5, [.ref ra, .ref pa, .int (bI pr), .int (nI rules2.length), .int (nI 0), .int (nI dp2)])), (ra, .inl (g.2.1 3, 400, .inr (.inr (.inr (.inr RA2)))))] ++ PP2 ∧ ((ok, (rules2, dp2, tk, ou)) = BP (pBr (pS T k d ls) T k (rules, dp, (so, sta, en, v, wd), out))) ∧ (RulesAt g PP2 RA2 rules2) ∧ (∀ q ∈ PP, q ∈ PP2) ∧ (TokOK k tk) ∧ (nth T k nx2 = (tk, ou)) ∧ (nx2 < cnt) ∧ (rules2.length ≤ 400) ∧ (dp2 ≤ 40)) := by
  refine Cn.of R_Parser [(0, .ref p), (1, .int (nI dep)), (2, va_rf ar)] (by decide) rfl (by generalize ar = z0; cases z0 <;> exact Nat.le_of_ble_eq_true rfl) (by generalize ar = z0; cases z0 <;> rfl) ?_
  intro x A Q hR hXl hin C E
  subst hXl
  refine r_aload_n C 0 d_Parser_takeBraced_0 rfl rfl ?_
  refine r_get C 0 1 d_Parser_takeBraced_1 ci_Parser fi_Parser_20 rfl (by decide) rfl rfl ?_
  refine j_callV C (c_Tokens_advance g (xl x) (k := k) (so := so) (sta := sta) (en := en) (ee := ee) (a := a) (t := t) (zs := zs) (zb := zb) (ze := ze) (zv := zv) (zw := zw) (cnt := cnt) (nx := nx) (T := T) (ZS := ZS) (ZB := ZB) (ZE := ZE) (ZV := ZV) (ZW := ZW) (v := v) (wd := wd) (out := out) (by first | assumption | rfl | omega) (by first | assumption | rfl | omega) (by first | assumption | rfl | omega) (by first | assumption | rfl | omega) (by first | assumption | rfl | omega)) (Sp.keep (Sp.of (wr := [(p, .inr (6, [.ref bk, .ref a])), (bk, .inr (5, [.ref ra, .ref pa, .int (bI pr), .int (nI rules.length), .int (nI 0), .int (nI dp)])), (ra, .inl (g.2.1 3, 400, .inr (.inr (.inr (.inr RA)))))]) [1, 2, 3, 4, 5, 6] [0, 7, 8] rfl rfl rfl rfl (by decide)) PP) d_Parser_takeBraced_4 lk_Parser_49 mw_Tokens_advance vw_Tokens_advance (q0 := 0) rfl rfl (fit_of hR (by first | decide | (simp only [rmk]; omega)) (by first | decide | (simp only [rmk]; omega)) (by first | decide | (simp only [rmk]; omega)) (by first | decide | (simp only [rmk]; omega))) rfl (cat8 (Nat.le_of_ble_eq_true rfl)) (As := []) (rest := []) rfl (fun r_4 w_4 hp_4 => ?_)
  obtain ⟨tk_4, ou_4, nx2_4, rfl, rfl, hx_4, hO2_4, hc2_4, ho2_4⟩ := hp_4
  refine r_swap ?_
  refine r_afterP (X := [(p, .inr (6, [.ref bk, .ref a])), (bk, .inr (5, [.ref ra, .ref pa, .int (bI pr), .int (nI rules.length), .int (nI 0), .int (nI dp)])), (ra, .inl (g.2.1 3, 400, .inr (.inr (.inr (.inr RA))))), (a, .inr (2, [.ref t, .ref zs, .ref zb, .ref ze, .ref zv, .ref zw, .int (nI cnt), .int (nI nx2_4), .int (nI tk_4.1), .int (nI tk_4.2.1), .int (nI ee), .int (oI tk_4.2.2.2.1), va_rf (wR g tk_4.2.2.2.2)])), (zs, .inl (g.2.1 0, 2001, .inl (aI ZS))), (zb, .inl (g.2.1 0, 2001, .inl (aI ZB))), (ze, .inl (g.2.1 0, 2001, .inl (aI ZE))), (zv, .inl (g.2.1 0, 2001, .inl (oA ZV))), (zw, .inl (g.2.1 6, 2001, .inr (.inr (.inr (.inr ZW)))))]) (X' := [(p, .inr (6, [.ref bk, .ref a])), (a, .inr (2, [.ref t, .ref zs, .ref zb, .ref ze, .ref zv, .ref zw, .int (nI cnt), .int (nI nx2_4), .int (nI tk_4.1), .int (nI tk_4.2.1), .int (nI ee), .int (oI tk_4.2.2.2.1), va_rf (wR g tk_4.2.2.2.2)])), (zs, .inl (g.2.1 0, 2001, .inl (aI ZS))), (zb, .inl (g.2.1 0, 2001, .inl (aI ZB))), (ze, .inl (g.2.1 0, 2001, .inl (aI ZE))), (zv, .inl (g.2.1 0, 2001, .inl (oA ZV))), (zw, .inl (g.2.1 6, 2001, .inr (.inr (.inr (.inr ZW))))), (bk, .inr (5, [.ref ra, .ref pa, .int (bI pr), .int (nI rules.length), .int (nI 0), .int (nI dp)])), (ra, .inl (g.2.1 3, 400, .inr (.inr (.inr (.inr RA)))))]) (pl := PP) (st' := []) (n1 := 0) (n2 := 0) [0, 3, 4, 5, 6, 7, 8, 1, 2] rfl rfl rfl rfl rfl rfl ?_
  have hcb : (pBr (pS T k d ls) T k (rules, dp, (so, sta, en, v, wd), out)).2.2 = (pG (pS T k d ls) T k (rules, dp, (tk_4.1, tk_4.2.1, tk_4.2.2.1, tk_4.2.2.2.1, tk_4.2.2.2.2), ou_4)).2.2 := by rw [pBr_c, ← pTk_of hx_4]
  refine r_aload_n C 0 d_Parser_takeBraced_7 rfl rfl ?_
  refine r_iload_n C 1 d_Parser_takeBraced_8 rfl rfl ?_
  refine r_aload_nQ C 2 d_Parser_takeBraced_9 rfl rfl ?_
  refine j_callV C (hG (p := p) (bk := bk) (ra := ra) (pa := pa) (k := k) (so := tk_4.1) (sta := tk_4.2.1) (en := tk_4.2.2.1) (ee := ee) (dp := dp) (dep := dep) (a := a) (t := t) (zs := zs) (zb := zb) (ze := ze) (zv := zv) (zw := zw) (cnt := cnt) (nx := nx2_4) (T := T) (ZS := ZS) (ZB := ZB) (ZE := ZE) (ZV := ZV) (ZW := ZW) (v := tk_4.2.2.2.1) (wd := tk_4.2.2.2.2) (ar := ar) (pr := pr) (out := ou_4) (ls := ls) (PP := PP) (RA := RA) (rules := rules) (by first | assumption | rfl | omega) (by first | assumption | rfl | omega) (by first | assumption | rfl | omega) (by first | assumption | rfl | omega) (by first | assumption | rfl | omega) (by first | assumption | rfl | omega) (hch) (by first | assumption | rfl | omega) (by first | assumption | rfl | omega) (by first | assumption | rfl | omega) (by first | assumption | rfl | omega)) (Sp.pool (Sp.of (wr := []) [0, 1, 2, 3, 4, 5, 6, 7, 8] [] rfl rfl rfl rfl (by decide)) PP) d_Parser_takeBraced_10 lk_Parser_27 mw_Parser_takeGroup vw_Parser_takeGroup (q0 := 0) rfl rfl (fit_of hR (by first | decide | (simp only [rmk]; omega)) (by first | decide | (simp only [rmk]; omega)) (by first | decide | (simp only [rmk]; omega)) (by first | decide | (simp only [rmk]; omega))) rfl (cat8 (Nat.le_of_ble_eq_true rfl)) (As := [.int (nI dep), va_rf ar]) (rest := []) rfl (fun r_10 w_10 hp_10 => ?_)
  obtain ⟨ok_10, rules2_10, dp2_10, RA2_10, PP2_10, tk_10, ou_10, nx2_10, rfl, rfl, hx_10, hR2_10, hs_10, hO2_10, hc2_10, ho2_10, h42_10, hd2_10⟩ := hp_10
  refine r_afterP (X := [(p, .inr (6, [.ref bk, .ref a])), (a, .inr (2, [.ref t, .ref zs, .ref zb, .ref ze, .ref zv, .ref zw, .int (nI cnt), .int (nI nx2_10), .int (nI tk_10.1), .int (nI tk_10.2.1), .int (nI ee), .int (oI tk_10.2.2.2.1), va_rf (wR g tk_10.2.2.2.2)])), (zs, .inl (g.2.1 0, 2001, .inl (aI ZS))), (zb, .inl (g.2.1 0, 2001, .inl (aI ZB))), (ze, .inl (g.2.1 0, 2001, .inl (aI ZE))), (zv, .inl (g.2.1 0, 2001, .inl (oA ZV))), (zw, .inl (g.2.1 6, 2001, .inr (.inr (.inr (.inr ZW))))), (bk, .inr (5, [.ref ra, .ref pa, .int (bI pr), .int (nI rules2_10.length), .int (nI 0), .int (nI dp2_10)])), (ra, .inl (g.2.1 3, 400, .inr (.inr (.inr (.inr RA2_10)))))]) (X' := [(p, .inr (6, [.ref bk, .ref a])), (a, .inr (2, [.ref t, .ref zs, .ref zb, .ref ze, .ref zv, .ref zw, .int (nI cnt), .int (nI nx2_10), .int (nI tk_10.1), .int (nI tk_10.2.1), .int (nI ee), .int (oI tk_10.2.2.2.1), va_rf (wR g tk_10.2.2.2.2)])), (zs, .inl (g.2.1 0, 2001, .inl (aI ZS))), (zb, .inl (g.2.1 0, 2001, .inl (aI ZB))), (ze, .inl (g.2.1 0, 2001, .inl (aI ZE))), (zv, .inl (g.2.1 0, 2001, .inl (oA ZV))), (zw, .inl (g.2.1 6, 2001, .inr (.inr (.inr (.inr ZW))))), (bk, .inr (5, [.ref ra, .ref pa, .int (bI pr), .int (nI rules2_10.length), .int (nI 0), .int (nI dp2_10)])), (ra, .inl (g.2.1 3, 400, .inr (.inr (.inr (.inr RA2_10)))))]) (pl := PP2_10) (st' := [.int (bI ok_10)]) (n1 := 0 + ((pG (pS T k d ls) T k (rules, dp, (tk_4.1, tk_4.2.1, tk_4.2.2.1, tk_4.2.2.2.1, tk_4.2.2.2.2), ou_4)).2.2)) (n2 := 0 + (6 * (pG (pS T k d ls) T k (rules, dp, (tk_4.1, tk_4.2.1, tk_4.2.2.1, tk_4.2.2.2.1, tk_4.2.2.2.2), ou_4)).2.2)) [0, 1, 2, 3, 4, 5, 6, 7, 8] rfl rfl rfl rfl rfl rfl ?_
  refine r_bif_eq C 28 d_Parser_takeBraced_13 (by decide) (fun c_13 => ?_) (fun c_13 => ?_)
  · skip
    refine r_iconst C (nI 0) d_Parser_takeBraced_28 (by decide) ?_
    refine r_eqS (st' := [.int (bI false)]) rfl ?_
    refine r_bret C E d_Parser_takeBraced_29 (by first | decide | omega | (simp only [rmk]; omega)) (by first | decide | omega | (simp only [rmk]; omega)) ?_
    subst c_13
    exact ⟨false, _, _, _, _, _, _, _, rfl, rfl, pBr_n1 (pTk_of hx_4) hx_10, hR2_10, hs_10, hO2_10, hc2_10, ho2_10, h42_10, hd2_10⟩
  · skip
    refine r_aload_n C 0 d_Parser_takeBraced_16 rfl rfl ?_
    refine r_get C 0 1 d_Parser_takeBraced_17 ci_Parser fi_Parser_20 rfl (by decide) rfl rfl ?_
    refine r_bipush C (nI 125) d_Parser_takeBraced_20 (by decide) ?_
    refine j_callV C (c_Tokens_isTheSign g (xl x) (a := a) (t := t) (zs := zs) (zb := zb) (ze := ze) (zv := zv) (zw := zw) (cnt := cnt) (nx := nx2_10) (so := tk_10.1) (sta := tk_10.2.1) (en := ee) (c := 125) (T := T) (v := tk_10.2.2.2.1) (wd := tk_10.2.2.2.2) (by first | assumption | rfl | omega) (hO2_10.so) (sg_of hc2_10) (by first | assumption | rfl | omega)) (Sp.keep (Sp.of (wr := [(p, .inr (6, [.ref bk, .ref a])), (zs, .inl (g.2.1 0, 2001, .inl (aI ZS))), (zb, .inl (g.2.1 0, 2001, .inl (aI ZB))), (ze, .inl (g.2.1 0, 2001, .inl (aI ZE))), (zv, .inl (g.2.1 0, 2001, .inl (oA ZV))), (zw, .inl (g.2.1 6, 2001, .inr (.inr (.inr (.inr ZW))))), (bk, .inr (5, [.ref ra, .ref pa, .int (bI pr), .int (nI rules2_10.length), .int (nI 0), .int (nI dp2_10)])), (ra, .inl (g.2.1 3, 400, .inr (.inr (.inr (.inr RA2_10)))))]) [1] [0, 2, 3, 4, 5, 6, 7, 8] rfl rfl rfl rfl (by decide)) PP2_10) d_Parser_takeBraced_22 lk_Parser_42 mw_Tokens_isTheSign vw_Tokens_isTheSign (q0 := 0) rfl rfl (fit_of hR (by first | decide | (simp only [rmk]; omega)) (by first | decide | (simp only [rmk]; omega)) (by first | decide | (simp only [rmk]; omega)) (by first | decide | (simp only [rmk]; omega))) rfl (cat8 (Nat.le_of_ble_eq_true rfl)) (As := [.int (nI 125)]) (rest := []) rfl (fun r_22 w_22 hp_22 => ?_)
    obtain ⟨rfl, rfl⟩ := hp_22
    refine r_swap ?_
    refine r_afterP (X := [(p, .inr (6, [.ref bk, .ref a])), (zs, .inl (g.2.1 0, 2001, .inl (aI ZS))), (zb, .inl (g.2.1 0, 2001, .inl (aI ZB))), (ze, .inl (g.2.1 0, 2001, .inl (aI ZE))), (zv, .inl (g.2.1 0, 2001, .inl (oA ZV))), (zw, .inl (g.2.1 6, 2001, .inr (.inr (.inr (.inr ZW))))), (bk, .inr (5, [.ref ra, .ref pa, .int (bI pr), .int (nI rules2_10.length), .int (nI 0), .int (nI dp2_10)])), (ra, .inl (g.2.1 3, 400, .inr (.inr (.inr (.inr RA2_10))))), (a, .inr (2, [.ref t, .ref zs, .ref zb, .ref ze, .ref zv, .ref zw, .int (nI cnt), .int (nI nx2_10), .int (nI tk_10.1), .int (nI tk_10.2.1), .int (nI ee), .int (oI tk_10.2.2.2.1), va_rf (wR g tk_10.2.2.2.2)]))]) (X' := [(p, .inr (6, [.ref bk, .ref a])), (a, .inr (2, [.ref t, .ref zs, .ref zb, .ref ze, .ref zv, .ref zw, .int (nI cnt), .int (nI nx2_10), .int (nI tk_10.1), .int (nI tk_10.2.1), .int (nI ee), .int (oI tk_10.2.2.2.1), va_rf (wR g tk_10.2.2.2.2)])), (zs, .inl (g.2.1 0, 2001, .inl (aI ZS))), (zb, .inl (g.2.1 0, 2001, .inl (aI ZB))), (ze, .inl (g.2.1 0, 2001, .inl (aI ZE))), (zv, .inl (g.2.1 0, 2001, .inl (oA ZV))), (zw, .inl (g.2.1 6, 2001, .inr (.inr (.inr (.inr ZW))))), (bk, .inr (5, [.ref ra, .ref pa, .int (bI pr), .int (nI rules2_10.length), .int (nI 0), .int (nI dp2_10)])), (ra, .inl (g.2.1 3, 400, .inr (.inr (.inr (.inr RA2_10)))))]) (pl := PP2_10) (st' := [.int (bI (isSg T tk_10.1 tk_10.2.1 125))]) (n1 := 0 + ((pG (pS T k d ls) T k (rules, dp, (tk_4.1, tk_4.2.1, tk_4.2.2.1, tk_4.2.2.2.1, tk_4.2.2.2.2), ou_4)).2.2)) (n2 := 0 + (6 * (pG (pS T k d ls) T k (rules, dp, (tk_4.1, tk_4.2.1, tk_4.2.2.1, tk_4.2.2.2.1, tk_4.2.2.2.2), ou_4)).2.2)) [0, 8, 1, 2, 3, 4, 5, 6, 7] rfl rfl rfl rfl rfl rfl ?_
    refine r_bif_ne C 30 d_Parser_takeBraced_25 (by decide) (fun c_25 => ?_) (fun c_25 => ?_)
    · skip
      refine r_aload_n C 0 d_Parser_takeBraced_30 rfl rfl ?_
      refine r_get C 0 1 d_Parser_takeBraced_31 ci_Parser fi_Parser_20 rfl (by decide) rfl rfl ?_
      refine j_callV C (c_Tokens_advance g (xl x) (k := k) (so := tk_10.1) (sta := tk_10.2.1) (en := tk_10.2.2.1) (ee := ee) (a := a) (t := t) (zs := zs) (zb := zb) (ze := ze) (zv := zv) (zw := zw) (cnt := cnt) (nx := nx2_10) (T := T) (ZS := ZS) (ZB := ZB) (ZE := ZE) (ZV := ZV) (ZW := ZW) (v := tk_10.2.2.2.1) (wd := tk_10.2.2.2.2) (out := ou_10) (by first | assumption | rfl | omega) (by first | assumption | rfl | omega) (by first | assumption | rfl | omega) (by first | assumption | rfl | omega) (isSg_lv c_25)) (Sp.keep (Sp.of (wr := [(p, .inr (6, [.ref bk, .ref a])), (bk, .inr (5, [.ref ra, .ref pa, .int (bI pr), .int (nI rules2_10.length), .int (nI 0), .int (nI dp2_10)])), (ra, .inl (g.2.1 3, 400, .inr (.inr (.inr (.inr RA2_10)))))]) [1, 2, 3, 4, 5, 6] [0, 7, 8] rfl rfl rfl rfl (by decide)) PP2_10) d_Parser_takeBraced_34 lk_Parser_49 mw_Tokens_advance vw_Tokens_advance (q0 := 0) rfl rfl (fit_of hR (by first | decide | (simp only [rmk]; omega)) (by first | decide | (simp only [rmk]; omega)) (by first | decide | (simp only [rmk]; omega)) (by first | decide | (simp only [rmk]; omega))) rfl (cat8 (Nat.le_of_ble_eq_true rfl)) (As := []) (rest := []) rfl (fun r_34 w_34 hp_34 => ?_)
      obtain ⟨tk_34, ou_34, nx2_34, rfl, rfl, hx_34, hO2_34, hc2_34, ho2_34⟩ := hp_34
      refine r_swap ?_
      refine r_afterP (X := [(p, .inr (6, [.ref bk, .ref a])), (bk, .inr (5, [.ref ra, .ref pa, .int (bI pr), .int (nI rules2_10.length), .int (nI 0), .int (nI dp2_10)])), (ra, .inl (g.2.1 3, 400, .inr (.inr (.inr (.inr RA2_10))))), (a, .inr (2, [.ref t, .ref zs, .ref zb, .ref ze, .ref zv, .ref zw, .int (nI cnt), .int (nI nx2_34), .int (nI tk_34.1), .int (nI tk_34.2.1), .int (nI ee), .int (oI tk_34.2.2.2.1), va_rf (wR g tk_34.2.2.2.2)])), (zs, .inl (g.2.1 0, 2001, .inl (aI ZS))), (zb, .inl (g.2.1 0, 2001, .inl (aI ZB))), (ze, .inl (g.2.1 0, 2001, .inl (aI ZE))), (zv, .inl (g.2.1 0, 2001, .inl (oA ZV))), (zw, .inl (g.2.1 6, 2001, .inr (.inr (.inr (.inr ZW)))))]) (X' := [(p, .inr (6, [.ref bk, .ref a])), (a, .inr (2, [.ref t, .ref zs, .ref zb, .ref ze, .ref zv, .ref zw, .int (nI cnt), .int (nI nx2_34), .int (nI tk_34.1), .int (nI tk_34.2.1), .int (nI ee), .int (oI tk_34.2.2.2.1), va_rf (wR g tk_34.2.2.2.2)])), (zs, .inl (g.2.1 0, 2001, .inl (aI ZS))), (zb, .inl (g.2.1 0, 2001, .inl (aI ZB))), (ze, .inl (g.2.1 0, 2001, .inl (aI ZE))), (zv, .inl (g.2.1 0, 2001, .inl (oA ZV))), (zw, .inl (g.2.1 6, 2001, .inr (.inr (.inr (.inr ZW))))), (bk, .inr (5, [.ref ra, .ref pa, .int (bI pr), .int (nI rules2_10.length), .int (nI 0), .int (nI dp2_10)])), (ra, .inl (g.2.1 3, 400, .inr (.inr (.inr (.inr RA2_10)))))]) (pl := PP2_10) (st' := []) (n1 := 0 + ((pG (pS T k d ls) T k (rules, dp, (tk_4.1, tk_4.2.1, tk_4.2.2.1, tk_4.2.2.2.1, tk_4.2.2.2.2), ou_4)).2.2)) (n2 := 0 + (6 * (pG (pS T k d ls) T k (rules, dp, (tk_4.1, tk_4.2.1, tk_4.2.2.1, tk_4.2.2.2.1, tk_4.2.2.2.2), ou_4)).2.2)) [0, 3, 4, 5, 6, 7, 8, 1, 2] rfl rfl rfl rfl rfl rfl ?_
      refine r_iconst C (nI 1) d_Parser_takeBraced_37 (by decide) ?_
      refine r_eqS (st' := [.int (bI true)]) rfl ?_
      refine r_bret C E d_Parser_takeBraced_38 (by first | decide | omega | (simp only [rmk]; omega)) (by first | decide | omega | (simp only [rmk]; omega)) ?_
      subst c_13
      exact ⟨true, _, _, _, _, _, _, _, rfl, rfl, pBr_y (pTk_of hx_4) hx_10 c_25 (pTk_of hx_34), hR2_10, hs_10, hO2_34, hc2_34, ho2_34, h42_10, hd2_10⟩
    · skip
      refine r_iconst C (nI 0) d_Parser_takeBraced_28 (by decide) ?_
      refine r_eqS (st' := [.int (bI false)]) rfl ?_
      refine r_bret C E d_Parser_takeBraced_29 (by first | decide | omega | (simp only [rmk]; omega)) (by first | decide | omega | (simp only [rmk]; omega)) ?_
      subst c_13
      exact ⟨false, _, _, _, _, _, _, _, rfl, rfl, pBr_n2 (pTk_of hx_4) hx_10 c_25, hR2_10, hs_10, hO2_10, hc2_10, ho2_10, h42_10, hd2_10⟩

set_option maxHeartbeats 4000000 in
set_option maxRecDepth 100000 in
theorem lp_Parser_takeGroup_26 (g : GG) {p : Nat} {bk : Nat} {ra : Nat} {pa : Nat} {k : Nat} {so : Nat} {sta : Nat} {en : Nat} {ee : Nat} {dp : Nat} {dep : Nat} {d : Nat} {a : Nat} {t : Nat} {zs : Nat} {zb : Nat} {ze : Nat} {zv : Nat} {zw : Nat} {cnt : Nat} {nx : Nat} {T : Nat → Nat} {ZS : Nat → Nat} {ZB : Nat → Nat} {ZE : Nat → Nat} {ZV : Nat → Option Nat} {ZW : Nat → Option Nat} {v : Option Nat} {wd : Option Nat} {ar : Option Nat} {pr : Bool} {out : List Nat} {ls : List LayerV} {PP : va_W} {RA : Nat → Option Nat} {rules : List RuleV} (hk : k ≤ 2000) (hT : ∀ j, T j < 256) (hO : TokOK k (so, sta, en, v, wd)) (hA : CutA g T k cnt ZS ZB ZE ZV ZW) (hcap : nth T k nx = ((so, sta, en, v, wd), out)) (ho : nx < cnt) (hch : ChainAt g PP ar ls) (hRA : RulesAt g PP RA rules) (h400 : rules.length ≤ 400) (hdd : dep + d = 40) (hdp : dp ≤ 40) {x : X0} {A : Nat → Prop} {Q : State → Prop} (hS : ∀ {p : Nat} {bk : Nat} {ra : Nat} {pa : Nat} {k : Nat} {so : Nat} {sta : Nat} {en : Nat} {ee : Nat} {dp : Nat} {dep : Nat} {a : Nat} {t : Nat} {zs : Nat} {zb : Nat} {ze : Nat} {zv : Nat} {zw : Nat} {cnt : Nat} {nx : Nat} {T : Nat → Nat} {ZS : Nat → Nat} {ZB : Nat → Nat} {ZE : Nat → Nat} {ZV : Nat → Option Nat} {ZW : Nat → Option Nat} {v : Option Nat} {wd : Option Nat} {ar : Option Nat} {pr : Bool} {out : List Nat} {ls : List LayerV} {PP : va_W} {RA : Nat → Option Nat} {rules : List RuleV} (hk : k ≤ 2000) (hT : ∀ j, T j < 256) (hO : TokOK k (so, sta, en, v, wd)) (hA : CutA g T k cnt ZS ZB ZE ZV ZW) (hcap : nth T k nx = ((so, sta, en, v, wd), out)) (ho : nx < cnt) (hch : ChainAt g PP ar ls) (hRA : RulesAt g PP RA rules) (h400 : rules.length ≤ 400) (hdd : dep + d = 40) (hdp : dp ≤ 40), Cn g (xl x) y_Parser_takeStatement b_Parser_takeStatement 4 (some .boolean) (rmk (30 + 3 * d) ((pS T k d ls (rules, dp, (so, sta, en, v, wd), out)).2.2) (6 * (pS T k d ls (rules, dp, (so, sta, en, v, wd), out)).2.2) (700 + 80 * d)) [.ref p, .int (nI dep), va_rf ar] ([(p, .inr (6, [.ref bk, .ref a])), (a, .inr (2, [.ref t, .ref zs, .ref zb, .ref ze, .ref zv, .ref zw, .int (nI cnt), .int (nI nx), .int (nI so), .int (nI sta), .int (nI ee), .int (oI v), va_rf (wR g wd)])), (zs, .inl (g.2.1 0, 2001, .inl (aI ZS))), (zb, .inl (g.2.1 0, 2001, .inl (aI ZB))), (ze, .inl (g.2.1 0, 2001, .inl (aI ZE))), (zv, .inl (g.2.1 0, 2001, .inl (oA ZV))), (zw, .inl (g.2.1 6, 2001, .inr (.inr (.inr (.inr ZW))))), (bk, .inr (5, [.ref ra, .ref pa, .int (bI pr), .int (nI rules.length), .int (nI 0), .int (nI dp)])), (ra, .inl (g.2.1 3, 400, .inr (.inr (.inr (.inr RA)))))] ++ PP) (fun (r0 : Option Value) (w0 : va_W) => ∃ ok : Bool, ∃ rules2 : List RuleV, ∃ dp2 : Nat, ∃ RA2 : Nat → Option Nat, ∃ PP2 : va_W, ∃ tk : Tok, ∃ ou : List Nat, ∃ nx2 : Nat, r0 = some (.int (bI ok)) ∧ w0 = [(p, .inr (6, [.ref bk, .ref a])), (a, .inr (2, [.ref t, .ref zs, .ref zb, .ref ze, .ref zv, .ref zw, .int (nI cnt), .int (nI nx2), .int (nI tk.1), .int (nI tk.2.1), .int (nI ee), .int (oI tk.2.2.2.1), va_rf (wR g tk.2.2.2.2)])), (zs, .inl (g.2.1 0, 2001, .inl (aI ZS))), (zb, .inl (g.2.1 0, 2001, .inl (aI ZB))), (ze, .inl (g.2.1 0, 2001, .inl (aI ZE))), (zv, .inl (g.2.1 0, 2001, .inl (oA ZV))), (zw, .inl (g.2.1 6, 2001, .inr (.inr (.inr (.inr ZW))))), (bk, .inr (5, [.ref ra, .ref pa, .int (bI pr), .int (nI rules2.length), .int (nI 0), .int (nI dp2)])), (ra, .inl (g.2.1 3, 400, .inr (.inr (.inr (.inr RA2)))))] ++ PP2 ∧ ((ok, (rules2, dp2, tk, ou)) = BP (pS T k d ls (rules, dp, (so, sta, en, v, wd), out))) ∧ (RulesAt g PP2 RA2 rules2) ∧ (∀ q ∈ PP, q ∈ PP2) ∧ (TokOK k tk) ∧ (nth T k nx2 = (tk, ou)) ∧ (nx2 < cnt) ∧ (rules2.length ≤ 400) ∧ (dp2 ≤ 40))) (C : CX x g A R_Parser b_Parser_takeGroup 4) (E : RX x g A Q (some .boolean) (fun (r0 : Option Value) (w0 : va_W) => ∃ ok : Bool, ∃ rules2 : List RuleV, ∃ dp2 : Nat, ∃ RA2 : Nat → Option Nat, ∃ PP2 : va_W, ∃ tk : Tok, ∃ ou : List Nat, ∃ nx2 : Nat, r0 = some (.int (bI ok)) ∧ w0 = [(p, .inr (6, [.ref bk, .ref a])), (a, .inr (2, [.ref t, .ref zs, .ref zb, .ref ze, .ref zv, .ref zw, .int (nI cnt), .int (nI nx2), .int (nI tk.1), .int (nI tk.2.1), .int (nI ee), .int (oI tk.2.2.2.1), va_rf (wR g tk.2.2.2.2)])), (zs, .inl (g.2.1 0, 2001, .inl (aI ZS))), (zb, .inl (g.2.1 0, 2001, .inl (aI ZB))), (ze, .inl (g.2.1 0, 2001, .inl (aI ZE))), (zv, .inl (g.2.1 0, 2001, .inl (oA ZV))), (zw, .inl (g.2.1 6, 2001, .inr (.inr (.inr (.inr ZW))))), (bk, .inr (5, [.ref ra, .ref pa, .int (bI pr), .int (nI rules2.length), .int (nI 0), .int (nI dp2)])), (ra, .inl (g.2.1 3, 400, .inr (.inr (.inr (.inr RA2)))))] ++ PP2 ∧ ((ok, (rules2, dp2, tk, ou)) = BP (pG (pS T k d ls) T k (rules, dp, (so, sta, en, v, wd), out))) ∧ (RulesAt g PP2 RA2 rules2) ∧ (∀ q ∈ PP, q ∈ PP2) ∧ (TokOK k tk) ∧ (nth T k nx2 = (tk, ou)) ∧ (nx2 < cnt) ∧ (rules2.length ≤ 400) ∧ (dp2 ≤ 40)) (rmk (30 + 3 * d + 1) ((pG (pS T k d ls) T k (rules, dp, (so, sta, en, v, wd), out)).2.2) (6 * (pG (pS T k d ls) T k (rules, dp, (so, sta, en, v, wd), out)).2.2) (700 + 80 * d + 24)).cells (rmk (30 + 3 * d + 1) ((pG (pS T k d ls) T k (rules, dp, (so, sta, en, v, wd), out)).2.2) (6 * (pG (pS T k d ls) T k (rules, dp, (so, sta, en, v, wd), out)).2.2) (700 + 80 * d + 24)).slots) (hR : xR x = (rmk (30 + 3 * d + 1) ((pG (pS T k d ls) T k (rules, dp, (so, sta, en, v, wd), out)).2.2) (6 * (pG (pS T k d ls) T k (rules, dp, (so, sta, en, v, wd), out)).2.2) (700 + 80 * d + 24))) : ∀ (fuel : Nat) (i : Nat) (tkc : Tok) (rl : List RuleV) (dpc : Nat) (ouc : List Nat) (RC : Nat → Option Nat) (nxc : Nat) (PQ : va_W) (clc : Nat) (hi : i ≤ 2000) (hinv : BP (pLoop (pS T k d ls) T k (2000 - i) (rl, dpc, tkc, ouc)) = BP (pG (pS T k d ls) T k (rules, dp, (so, sta, en, v, wd), out))) (hcl : clc + (pLoop (pS T k d ls) T k (2000 - i) (rl, dpc, tkc, ouc)).2.2 = (pG (pS T k d ls) T k (rules, dp, (so, sta, en, v, wd), out)).2.2) (hOc : TokOK k tkc) (hcc : nth T k nxc = (tkc, ouc)) (hoc : nxc < cnt) (hRc : RulesAt g PQ RC rl) (hsc : ∀ q ∈ PP, q ∈ PQ) (h4c : rl.length ≤ 400) (hdc : dpc ≤ 40), 2000 - i < fuel → J x g A Q 4 ([(p, .inr (6, [.ref bk, .ref a])), (a, .inr (2, [.ref t, .ref zs, .ref zb, .ref ze, .ref zv, .ref zw, .int (nI cnt), .int (nI nxc), .int (nI tkc.1), .int (nI tkc.2.1), .int (nI ee), .int (oI tkc.2.2.2.1), va_rf (wR g tkc.2.2.2.2)])), (zs, .inl (g.2.1 0, 2001, .inl (aI ZS))), (zb, .inl (g.2.1 0, 2001, .inl (aI ZB))), (ze, .inl (g.2.1 0, 2001, .inl (aI ZE))), (zv, .inl (g.2.1 0, 2001, .inl (oA ZV))), (zw, .inl (g.2.1 6, 2001, .inr (.inr (.inr (.inr ZW))))), (bk, .inr (5, [.ref ra, .ref pa, .int (bI pr), .int (nI rl.length), .int (nI 0), .int (nI dpc)])), (ra, .inl (g.2.1 3, 400, .inr (.inr (.inr (.inr RC)))))] ++ PQ) [(0, .ref p), (1, .int (nI dep)), (2, va_rf ar), (3, .int (nI i))] 26 [] clc (6 * clc) := by
  intro fuel
  induction fuel with
  | zero =>
    intro i tkc rl dpc ouc RC nxc PQ clc hi hinv hcl hOc hcc hoc hRc hsc h4c hdc hm
    exact absurd hm (Nat.not_lt_zero _)
  | succ fuel ih =>
    intro i tkc rl dpc ouc RC nxc PQ clc hi hinv hcl hOc hcc hoc hRc hsc h4c hdc hm
    refine r_iload_n C 3 d_Parser_takeGroup_26 rfl rfl ?_
    refine r_sipush C (nI 2000) d_Parser_takeGroup_27 (by decide) ?_
    refine r_ncmp_ge C 71 d_Parser_takeGroup_30 (by decide) (by omega) (by omega) (fun c_30 => ?_) (fun c_30 => ?_)
    · skip
      refine r_iconst C (nI 0) d_Parser_takeGroup_71 (by decide) ?_
      refine r_eqS (st' := [.int (bI false)]) rfl ?_
      refine r_bret C E d_Parser_takeGroup_72 (by first | decide | omega | (simp only [rmk]; omega)) (by first | decide | omega | (simp only [rmk]; omega)) ?_
      exact ⟨false, rl, dpc, RC, PQ, tkc, ouc, nxc, rfl, rfl, by rw [← hinv, show 2000 - i = 0 by omega]; rfl, hRc, hsc, hOc, hcc, hoc, h4c, hdc⟩
    · skip
      obtain ⟨m, hm1⟩ : ∃ m, 2000 - i = m + 1 := ⟨1999 - i, by omega⟩
      rw [hm1] at hinv hcl
      have hc1 : (pS T k d ls (rl, dpc, (tkc.1, tkc.2.1, tkc.2.2.1, tkc.2.2.2.1, tkc.2.2.2.2), ouc)).2.2 ≤ (pLoop (pS T k d ls) T k (m + 1) (rl, dpc, tkc, ouc)).2.2 := pLoop_c1
      refine r_aload_n C 0 d_Parser_takeGroup_33 rfl rfl ?_
      refine r_iload_n C 1 d_Parser_takeGroup_34 rfl rfl ?_
      refine r_aload_nQ C 2 d_Parser_takeGroup_35 rfl rfl ?_
      refine j_callV C (hS (p := p) (bk := bk) (ra := ra) (pa := pa) (k := k) (so := tkc.1) (sta := tkc.2.1) (en := tkc.2.2.1) (ee := ee) (dp := dpc) (dep := dep) (a := a) (t := t) (zs := zs) (zb := zb) (ze := ze) (zv := zv) (zw := zw) (cnt := cnt) (nx := nxc) (T := T) (ZS := ZS) (ZB := ZB) (ZE := ZE) (ZV := ZV) (ZW := ZW) (v := tkc.2.2.2.1) (wd := tkc.2.2.2.2) (ar := ar) (pr := pr) (out := ouc) (ls := ls) (PP := PQ) (RA := RC) (rules := rl) (by first | assumption | rfl | omega) (by first | assumption | rfl | omega) (by first | assumption | rfl | omega) (by first | assumption | rfl | omega) (by first | assumption | rfl | omega) (by first | assumption | rfl | omega) (hch.mono hsc) (by first | assumption | rfl | omega) (by first | assumption | rfl | omega) (by first | assumption | rfl | omega) (by first | assumption | rfl | omega)) (Sp.pool (Sp.of (wr := []) [0, 1, 2, 3, 4, 5, 6, 7, 8] [] rfl rfl rfl rfl (by decide)) PQ) d_Parser_takeGroup_36 lk_Parser_46 mw_Parser_takeStatement vw_Parser_takeStatement (q0 := 0) rfl rfl (fit_of hR (by first | decide | (simp only [rmk]; omega)) (by first | decide | (simp only [rmk]; omega)) (by first | decide | (simp only [rmk]; omega)) (by first | decide | (simp only [rmk]; omega))) rfl (cat8 (Nat.le_of_ble_eq_true rfl)) (As := [.int (nI dep), va_rf ar]) (rest := []) rfl (fun r_36 w_36 hp_36 => ?_)
      obtain ⟨ok_36, rules2_36, dp2_36, RA2_36, PP2_36, tk_36, ou_36, nx2_36, rfl, rfl, hx_36, hR2_36, hs_36, hO2_36, hc2_36, ho2_36, h42_36, hd2_36⟩ := hp_36
      refine r_afterP (X := [(p, .inr (6, [.ref bk, .ref a])), (a, .inr (2, [.ref t, .ref zs, .ref zb, .ref ze, .ref zv, .ref zw, .int (nI cnt), .int (nI nx2_36), .int (nI tk_36.1), .int (nI tk_36.2.1), .int (nI ee), .int (oI tk_36.2.2.2.1), va_rf (wR g tk_36.2.2.2.2)])), (zs, .inl (g.2.1 0, 2001, .inl (aI ZS))), (zb, .inl (g.2.1 0, 2001, .inl (aI ZB))), (ze, .inl (g.2.1 0, 2001, .inl (aI ZE))), (zv, .inl (g.2.1 0, 2001, .inl (oA ZV))), (zw, .inl (g.2.1 6, 2001, .inr (.inr (.inr (.inr ZW))))), (bk, .inr (5, [.ref ra, .ref pa, .int (bI pr), .int (nI rules2_36.length), .int (nI 0), .int (nI dp2_36)])), (ra, .inl (g.2.1 3, 400, .inr (.inr (.inr (.inr RA2_36)))))]) (X' := [(p, .inr (6, [.ref bk, .ref a])), (a, .inr (2, [.ref t, .ref zs, .ref zb, .ref ze, .ref zv, .ref zw, .int (nI cnt), .int (nI nx2_36), .int (nI tk_36.1), .int (nI tk_36.2.1), .int (nI ee), .int (oI tk_36.2.2.2.1), va_rf (wR g tk_36.2.2.2.2)])), (zs, .inl (g.2.1 0, 2001, .inl (aI ZS))), (zb, .inl (g.2.1 0, 2001, .inl (aI ZB))), (ze, .inl (g.2.1 0, 2001, .inl (aI ZE))), (zv, .inl (g.2.1 0, 2001, .inl (oA ZV))), (zw, .inl (g.2.1 6, 2001, .inr (.inr (.inr (.inr ZW))))), (bk, .inr (5, [.ref ra, .ref pa, .int (bI pr), .int (nI rules2_36.length), .int (nI 0), .int (nI dp2_36)])), (ra, .inl (g.2.1 3, 400, .inr (.inr (.inr (.inr RA2_36)))))]) (pl := PP2_36) (st' := [.int (bI ok_36)]) (n1 := clc + ((pS T k d ls (rl, dpc, (tkc.1, tkc.2.1, tkc.2.2.1, tkc.2.2.2.1, tkc.2.2.2.2), ouc)).2.2)) (n2 := 6 * clc + (6 * (pS T k d ls (rl, dpc, (tkc.1, tkc.2.1, tkc.2.2.1, tkc.2.2.2.1, tkc.2.2.2.2), ouc)).2.2)) [0, 1, 2, 3, 4, 5, 6, 7, 8] rfl rfl rfl rfl rfl rfl ?_
      refine r_bif_ne C 44 d_Parser_takeGroup_39 (by decide) (fun c_39 => ?_) (fun c_39 => ?_)
      · skip
        subst c_39
        refine r_aload_n C 0 d_Parser_takeGroup_44 rfl rfl ?_
        refine r_get C 0 1 d_Parser_takeGroup_45 ci_Parser fi_Parser_20 rfl (by decide) rfl rfl ?_
        refine r_bipush C (nI 59) d_Parser_takeGroup_48 (by decide) ?_
        refine j_callV C (c_Tokens_isTheSign g (xl x) (a := a) (t := t) (zs := zs) (zb := zb) (ze := ze) (zv := zv) (zw := zw) (cnt := cnt) (nx := nx2_36) (so := tk_36.1) (sta := tk_36.2.1) (en := ee) (c := 59) (T := T) (v := tk_36.2.2.2.1) (wd := tk_36.2.2.2.2) (by first | assumption | rfl | omega) (hO2_36.so) (sg_of hc2_36) (by first | assumption | rfl | omega)) (Sp.keep (Sp.of (wr := [(p, .inr (6, [.ref bk, .ref a])), (zs, .inl (g.2.1 0, 2001, .inl (aI ZS))), (zb, .inl (g.2.1 0, 2001, .inl (aI ZB))), (ze, .inl (g.2.1 0, 2001, .inl (aI ZE))), (zv, .inl (g.2.1 0, 2001, .inl (oA ZV))), (zw, .inl (g.2.1 6, 2001, .inr (.inr (.inr (.inr ZW))))), (bk, .inr (5, [.ref ra, .ref pa, .int (bI pr), .int (nI rules2_36.length), .int (nI 0), .int (nI dp2_36)])), (ra, .inl (g.2.1 3, 400, .inr (.inr (.inr (.inr RA2_36)))))]) [1] [0, 2, 3, 4, 5, 6, 7, 8] rfl rfl rfl rfl (by decide)) PP2_36) d_Parser_takeGroup_50 lk_Parser_42 mw_Tokens_isTheSign vw_Tokens_isTheSign (q0 := 0) rfl rfl (fit_of hR (by first | decide | (simp only [rmk]; omega)) (by first | decide | (simp only [rmk]; omega)) (by first | decide | (simp only [rmk]; omega)) (by first | decide | (simp only [rmk]; omega))) rfl (cat8 (Nat.le_of_ble_eq_true rfl)) (As := [.int (nI 59)]) (rest := []) rfl (fun r_50 w_50 hp_50 => ?_)
        obtain ⟨rfl, rfl⟩ := hp_50
        refine r_swap ?_
        refine r_afterP (X := [(p, .inr (6, [.ref bk, .ref a])), (zs, .inl (g.2.1 0, 2001, .inl (aI ZS))), (zb, .inl (g.2.1 0, 2001, .inl (aI ZB))), (ze, .inl (g.2.1 0, 2001, .inl (aI ZE))), (zv, .inl (g.2.1 0, 2001, .inl (oA ZV))), (zw, .inl (g.2.1 6, 2001, .inr (.inr (.inr (.inr ZW))))), (bk, .inr (5, [.ref ra, .ref pa, .int (bI pr), .int (nI rules2_36.length), .int (nI 0), .int (nI dp2_36)])), (ra, .inl (g.2.1 3, 400, .inr (.inr (.inr (.inr RA2_36))))), (a, .inr (2, [.ref t, .ref zs, .ref zb, .ref ze, .ref zv, .ref zw, .int (nI cnt), .int (nI nx2_36), .int (nI tk_36.1), .int (nI tk_36.2.1), .int (nI ee), .int (oI tk_36.2.2.2.1), va_rf (wR g tk_36.2.2.2.2)]))]) (X' := [(p, .inr (6, [.ref bk, .ref a])), (a, .inr (2, [.ref t, .ref zs, .ref zb, .ref ze, .ref zv, .ref zw, .int (nI cnt), .int (nI nx2_36), .int (nI tk_36.1), .int (nI tk_36.2.1), .int (nI ee), .int (oI tk_36.2.2.2.1), va_rf (wR g tk_36.2.2.2.2)])), (zs, .inl (g.2.1 0, 2001, .inl (aI ZS))), (zb, .inl (g.2.1 0, 2001, .inl (aI ZB))), (ze, .inl (g.2.1 0, 2001, .inl (aI ZE))), (zv, .inl (g.2.1 0, 2001, .inl (oA ZV))), (zw, .inl (g.2.1 6, 2001, .inr (.inr (.inr (.inr ZW))))), (bk, .inr (5, [.ref ra, .ref pa, .int (bI pr), .int (nI rules2_36.length), .int (nI 0), .int (nI dp2_36)])), (ra, .inl (g.2.1 3, 400, .inr (.inr (.inr (.inr RA2_36)))))]) (pl := PP2_36) (st' := [.int (bI (isSg T tk_36.1 tk_36.2.1 59))]) (n1 := clc + ((pS T k d ls (rl, dpc, (tkc.1, tkc.2.1, tkc.2.2.1, tkc.2.2.2.1, tkc.2.2.2.2), ouc)).2.2)) (n2 := 6 * clc + (6 * (pS T k d ls (rl, dpc, (tkc.1, tkc.2.1, tkc.2.2.1, tkc.2.2.2.1, tkc.2.2.2.2), ouc)).2.2)) [0, 8, 1, 2, 3, 4, 5, 6, 7] rfl rfl rfl rfl rfl rfl ?_
        refine r_bif_ne C 58 d_Parser_takeGroup_53 (by decide) (fun c_53 => ?_) (fun c_53 => ?_)
        · skip
          refine r_aload_n C 0 d_Parser_takeGroup_58 rfl rfl ?_
          refine r_get C 0 1 d_Parser_takeGroup_59 ci_Parser fi_Parser_20 rfl (by decide) rfl rfl ?_
          refine j_callV C (c_Tokens_advance g (xl x) (k := k) (so := tk_36.1) (sta := tk_36.2.1) (en := tk_36.2.2.1) (ee := ee) (a := a) (t := t) (zs := zs) (zb := zb) (ze := ze) (zv := zv) (zw := zw) (cnt := cnt) (nx := nx2_36) (T := T) (ZS := ZS) (ZB := ZB) (ZE := ZE) (ZV := ZV) (ZW := ZW) (v := tk_36.2.2.2.1) (wd := tk_36.2.2.2.2) (out := ou_36) (by first | assumption | rfl | omega) (by first | assumption | rfl | omega) (by first | assumption | rfl | omega) (by first | assumption | rfl | omega) (isSg_lv c_53)) (Sp.keep (Sp.of (wr := [(p, .inr (6, [.ref bk, .ref a])), (bk, .inr (5, [.ref ra, .ref pa, .int (bI pr), .int (nI rules2_36.length), .int (nI 0), .int (nI dp2_36)])), (ra, .inl (g.2.1 3, 400, .inr (.inr (.inr (.inr RA2_36)))))]) [1, 2, 3, 4, 5, 6] [0, 7, 8] rfl rfl rfl rfl (by decide)) PP2_36) d_Parser_takeGroup_62 lk_Parser_49 mw_Tokens_advance vw_Tokens_advance (q0 := 0) rfl rfl (fit_of hR (by first | decide | (simp only [rmk]; omega)) (by first | decide | (simp only [rmk]; omega)) (by first | decide | (simp only [rmk]; omega)) (by first | decide | (simp only [rmk]; omega))) rfl (cat8 (Nat.le_of_ble_eq_true rfl)) (As := []) (rest := []) rfl (fun r_62 w_62 hp_62 => ?_)
          obtain ⟨tk_62, ou_62, nx2_62, rfl, rfl, hx_62, hO2_62, hc2_62, ho2_62⟩ := hp_62
          refine r_swap ?_
          refine r_afterP (X := [(p, .inr (6, [.ref bk, .ref a])), (bk, .inr (5, [.ref ra, .ref pa, .int (bI pr), .int (nI rules2_36.length), .int (nI 0), .int (nI dp2_36)])), (ra, .inl (g.2.1 3, 400, .inr (.inr (.inr (.inr RA2_36))))), (a, .inr (2, [.ref t, .ref zs, .ref zb, .ref ze, .ref zv, .ref zw, .int (nI cnt), .int (nI nx2_62), .int (nI tk_62.1), .int (nI tk_62.2.1), .int (nI ee), .int (oI tk_62.2.2.2.1), va_rf (wR g tk_62.2.2.2.2)])), (zs, .inl (g.2.1 0, 2001, .inl (aI ZS))), (zb, .inl (g.2.1 0, 2001, .inl (aI ZB))), (ze, .inl (g.2.1 0, 2001, .inl (aI ZE))), (zv, .inl (g.2.1 0, 2001, .inl (oA ZV))), (zw, .inl (g.2.1 6, 2001, .inr (.inr (.inr (.inr ZW)))))]) (X' := [(p, .inr (6, [.ref bk, .ref a])), (a, .inr (2, [.ref t, .ref zs, .ref zb, .ref ze, .ref zv, .ref zw, .int (nI cnt), .int (nI nx2_62), .int (nI tk_62.1), .int (nI tk_62.2.1), .int (nI ee), .int (oI tk_62.2.2.2.1), va_rf (wR g tk_62.2.2.2.2)])), (zs, .inl (g.2.1 0, 2001, .inl (aI ZS))), (zb, .inl (g.2.1 0, 2001, .inl (aI ZB))), (ze, .inl (g.2.1 0, 2001, .inl (aI ZE))), (zv, .inl (g.2.1 0, 2001, .inl (oA ZV))), (zw, .inl (g.2.1 6, 2001, .inr (.inr (.inr (.inr ZW))))), (bk, .inr (5, [.ref ra, .ref pa, .int (bI pr), .int (nI rules2_36.length), .int (nI 0), .int (nI dp2_36)])), (ra, .inl (g.2.1 3, 400, .inr (.inr (.inr (.inr RA2_36)))))]) (pl := PP2_36) (st' := []) (n1 := clc + ((pS T k d ls (rl, dpc, (tkc.1, tkc.2.1, tkc.2.2.1, tkc.2.2.2.1, tkc.2.2.2.2), ouc)).2.2)) (n2 := 6 * clc + (6 * (pS T k d ls (rl, dpc, (tkc.1, tkc.2.1, tkc.2.2.1, tkc.2.2.2.1, tkc.2.2.2.2), ouc)).2.2)) [0, 3, 4, 5, 6, 7, 8, 1, 2] rfl rfl rfl rfl rfl rfl ?_
          refine r_iinc C 3 (nI (i + 1)) (lv' := [(3, .int (nI (i + 1))), (0, .ref p), (1, .int (nI dep)), (2, va_rf ar)]) d_Parser_takeGroup_65 rfl (nI_inc 1 _) (by decide) (by generalize ar = zq; cases zq <;> rfl) ?_
          refine r_goto C 26 d_Parser_takeGroup_68 (by decide) ?_
          refine r_lv (lv' := [(0, .ref p), (1, .int (nI dep)), (2, va_rf ar), (3, .int (nI (i + 1)))]) [1, 2, 3, 0] rfl ?_
          refine r_widen (n1 := (clc + ((pS T k d ls (rl, dpc, (tkc.1, tkc.2.1, tkc.2.2.1, tkc.2.2.2.1, tkc.2.2.2.2), ouc)).2.2))) (n2 := 6 * (clc + ((pS T k d ls (rl, dpc, (tkc.1, tkc.2.1, tkc.2.2.1, tkc.2.2.2.1, tkc.2.2.2.2), ouc)).2.2))) (by omega) (by omega) ?_
          exact ih (i + 1) tk_62 rules2_36 dp2_36 ou_62 RA2_36 nx2_62 PP2_36 (clc + ((pS T k d ls (rl, dpc, (tkc.1, tkc.2.1, tkc.2.2.1, tkc.2.2.2.1, tkc.2.2.2.2), ouc)).2.2)) (by first | assumption | rfl | omega) (by rw [← hinv, show 2000 - (i + 1) = m by omega, pLoop_go hx_36 c_53, ← pTk_of hx_62]) (by rw [← hcl, show 2000 - (i + 1) = m by omega, pLoop_gc hx_36 c_53, ← pTk_of hx_62]; omega) (by first | assumption | rfl | omega) (by first | assumption | rfl | omega) (by first | assumption | rfl | omega) (by first | assumption | rfl | omega) (fun q h => hs_36 q (hsc q h)) (by first | assumption | rfl | omega) (by first | assumption | rfl | omega) (by omega)
        · skip
          refine r_iconst C (nI 1) d_Parser_takeGroup_56 (by decide) ?_
          refine r_eqS (st' := [.int (bI true)]) rfl ?_
          refine r_bret C E d_Parser_takeGroup_57 (by first | decide | omega | (simp only [rmk]; omega)) (by first | decide | omega | (simp only [rmk]; omega)) ?_
          exact ⟨true, _, _, _, _, _, _, _, rfl, rfl, by rw [← hinv]; exact (pLoop_e hx_36 c_53).symm, hR2_36, fun q h => hs_36 q (hsc q h), hO2_36, hc2_36, ho2_36, h42_36, hd2_36⟩
      · skip
        refine r_iconst C (nI 0) d_Parser_takeGroup_42 (by decide) ?_
        refine r_eqS (st' := [.int (bI false)]) rfl ?_
        refine r_bret C E d_Parser_takeGroup_43 (by first | decide | omega | (simp only [rmk]; omega)) (by first | decide | omega | (simp only [rmk]; omega)) ?_
        subst c_39
        exact ⟨false, _, _, _, _, _, _, _, rfl, rfl, by rw [← hinv]; exact (pLoop_n hx_36).symm, hR2_36, fun q h => hs_36 q (hsc q h), hO2_36, hc2_36, ho2_36, h42_36, hd2_36⟩
set_option maxHeartbeats 4000000 in
set_option maxRecDepth 100000 in
theorem o_Parser_takeGroup (g : GG) (l : Launch) {p : Nat} {bk : Nat} {ra : Nat} {pa : Nat} {k : Nat} {so : Nat} {sta : Nat} {en : Nat} {ee : Nat} {dp : Nat} {dep : Nat} {d : Nat} {a : Nat} {t : Nat} {zs : Nat} {zb : Nat} {ze : Nat} {zv : Nat} {zw : Nat} {cnt : Nat} {nx : Nat} {T : Nat → Nat} {ZS : Nat → Nat} {ZB : Nat → Nat} {ZE : Nat → Nat} {ZV : Nat → Option Nat} {ZW : Nat → Option Nat} {v : Option Nat} {wd : Option Nat} {ar : Option Nat} {pr : Bool} {out : List Nat} {ls : List LayerV} {PP : va_W} {RA : Nat → Option Nat} {rules : List RuleV} (hS : ∀ {p : Nat} {bk : Nat} {ra : Nat} {pa : Nat} {k : Nat} {so : Nat} {sta : Nat} {en : Nat} {ee : Nat} {dp : Nat} {dep : Nat} {a : Nat} {t : Nat} {zs : Nat} {zb : Nat} {ze : Nat} {zv : Nat} {zw : Nat} {cnt : Nat} {nx : Nat} {T : Nat → Nat} {ZS : Nat → Nat} {ZB : Nat → Nat} {ZE : Nat → Nat} {ZV : Nat → Option Nat} {ZW : Nat → Option Nat} {v : Option Nat} {wd : Option Nat} {ar : Option Nat} {pr : Bool} {out : List Nat} {ls : List LayerV} {PP : va_W} {RA : Nat → Option Nat} {rules : List RuleV} (hk : k ≤ 2000) (hT : ∀ j, T j < 256) (hO : TokOK k (so, sta, en, v, wd)) (hA : CutA g T k cnt ZS ZB ZE ZV ZW) (hcap : nth T k nx = ((so, sta, en, v, wd), out)) (ho : nx < cnt) (hch : ChainAt g PP ar ls) (hRA : RulesAt g PP RA rules) (h400 : rules.length ≤ 400) (hdd : dep + d = 40) (hdp : dp ≤ 40), Cn g l y_Parser_takeStatement b_Parser_takeStatement 4 (some .boolean) (rmk (30 + 3 * d) ((pS T k d ls (rules, dp, (so, sta, en, v, wd), out)).2.2) (6 * (pS T k d ls (rules, dp, (so, sta, en, v, wd), out)).2.2) (700 + 80 * d)) [.ref p, .int (nI dep), va_rf ar] ([(p, .inr (6, [.ref bk, .ref a])), (a, .inr (2, [.ref t, .ref zs, .ref zb, .ref ze, .ref zv, .ref zw, .int (nI cnt), .int (nI nx), .int (nI so), .int (nI sta), .int (nI ee), .int (oI v), va_rf (wR g wd)])), (zs, .inl (g.2.1 0, 2001, .inl (aI ZS))), (zb, .inl (g.2.1 0, 2001, .inl (aI ZB))), (ze, .inl (g.2.1 0, 2001, .inl (aI ZE))), (zv, .inl (g.2.1 0, 2001, .inl (oA ZV))), (zw, .inl (g.2.1 6, 2001, .inr (.inr (.inr (.inr ZW))))), (bk, .inr (5, [.ref ra, .ref pa, .int (bI pr), .int (nI rules.length), .int (nI 0), .int (nI dp)])), (ra, .inl (g.2.1 3, 400, .inr (.inr (.inr (.inr RA)))))] ++ PP) (fun (r0 : Option Value) (w0 : va_W) => ∃ ok : Bool, ∃ rules2 : List RuleV, ∃ dp2 : Nat, ∃ RA2 : Nat → Option Nat, ∃ PP2 : va_W, ∃ tk : Tok, ∃ ou : List Nat, ∃ nx2 : Nat, r0 = some (.int (bI ok)) ∧ w0 = [(p, .inr (6, [.ref bk, .ref a])), (a, .inr (2, [.ref t, .ref zs, .ref zb, .ref ze, .ref zv, .ref zw, .int (nI cnt), .int (nI nx2), .int (nI tk.1), .int (nI tk.2.1), .int (nI ee), .int (oI tk.2.2.2.1), va_rf (wR g tk.2.2.2.2)])), (zs, .inl (g.2.1 0, 2001, .inl (aI ZS))), (zb, .inl (g.2.1 0, 2001, .inl (aI ZB))), (ze, .inl (g.2.1 0, 2001, .inl (aI ZE))), (zv, .inl (g.2.1 0, 2001, .inl (oA ZV))), (zw, .inl (g.2.1 6, 2001, .inr (.inr (.inr (.inr ZW))))), (bk, .inr (5, [.ref ra, .ref pa, .int (bI pr), .int (nI rules2.length), .int (nI 0), .int (nI dp2)])), (ra, .inl (g.2.1 3, 400, .inr (.inr (.inr (.inr RA2)))))] ++ PP2 ∧ ((ok, (rules2, dp2, tk, ou)) = BP (pS T k d ls (rules, dp, (so, sta, en, v, wd), out))) ∧ (RulesAt g PP2 RA2 rules2) ∧ (∀ q ∈ PP, q ∈ PP2) ∧ (TokOK k tk) ∧ (nth T k nx2 = (tk, ou)) ∧ (nx2 < cnt) ∧ (rules2.length ≤ 400) ∧ (dp2 ≤ 40))) (hk : k ≤ 2000) (hT : ∀ j, T j < 256) (hO : TokOK k (so, sta, en, v, wd)) (hA : CutA g T k cnt ZS ZB ZE ZV ZW) (hcap : nth T k nx = ((so, sta, en, v, wd), out)) (ho : nx < cnt) (hch : ChainAt g PP ar ls) (hRA : RulesAt g PP RA rules) (h400 : rules.length ≤ 400) (hdd : dep + d = 40) (hdp : dp ≤ 40) : Cn g l y_Parser_takeGroup b_Parser_takeGroup 4 (some .boolean) (rmk (30 + 3 * d + 1) ((pG (pS T k d ls) T k (rules, dp, (so, sta, en, v, wd), out)).2.2) (6 * (pG (pS T k d ls) T k (rules, dp, (so, sta, en, v, wd), out)).2.2) (700 + 80 * d + 24)) [.ref p, .int (nI dep), va_rf ar] ([(p, .inr (6, [.ref bk, .ref a])), (a, .inr (2, [.ref t, .ref zs, .ref zb, .ref ze, .ref zv, .ref zw, .int (nI cnt), .int (nI nx), .int (nI so), .int (nI sta), .int (nI ee), .int (oI v), va_rf (wR g wd)])), (zs, .inl (g.2.1 0, 2001, .inl (aI ZS))), (zb, .inl (g.2.1 0, 2001, .inl (aI ZB))), (ze, .inl (g.2.1 0, 2001, .inl (aI ZE))), (zv, .inl (g.2.1 0, 2001, .inl (oA ZV))), (zw, .inl (g.2.1 6, 2001, .inr (.inr (.inr (.inr ZW))))), (bk, .inr (5, [.ref ra, .ref pa, .int (bI pr), .int (nI rules.length), .int (nI 0), .int (nI dp)])), (ra, .inl (g.2.1 3, 400, .inr (.inr (.inr (.inr RA)))))] ++ PP) (fun (r0 : Option Value) (w0 : va_W) => ∃ ok : Bool, ∃ rules2 : List RuleV, ∃ dp2 : Nat, ∃ RA2 : Nat → Option Nat, ∃ PP2 : va_W, ∃ tk : Tok, ∃ ou : List Nat, ∃ nx2 : Nat, r0 = some (.int (bI ok)) ∧ w0 = [(p, .inr (6, [.ref bk, .ref a])), (a, .inr (2, [.ref t, .ref zs, .ref zb, .ref ze, .ref zv, .ref zw, .int (nI cnt), .int (nI nx2), .int (nI tk.1), .int (nI tk.2.1), .int (nI ee), .int (oI tk.2.2.2.1), va_rf (wR g tk.2.2.2.2)])), (zs, .inl (g.2.1 0, 2001, .inl (aI ZS))), (zb, .inl (g.2.1 0, 2001, .inl (aI ZB))), (ze, .inl (g.2.1 0, 2001, .inl (aI ZE))), (zv, .inl (g.2.1 0, 2001, .inl (oA ZV))), (zw, .inl (g.2.1 6, 2001, .inr (.inr (.inr (.inr ZW))))), (bk, .inr (5, [.ref ra, .ref pa, .int (bI pr), .int (nI rules2.length), .int (nI 0), .int (nI dp2)])), (ra, .inl (g.2.1 3, 400, .inr (.inr (.inr (.inr RA2)))))] ++ PP2 ∧ ((ok, (rules2, dp2, tk, ou)) = BP (pG (pS T k d ls) T k (rules, dp, (so, sta, en, v, wd), out))) ∧ (RulesAt g PP2 RA2 rules2) ∧ (∀ q ∈ PP, q ∈ PP2) ∧ (TokOK k tk) ∧ (nth T k nx2 = (tk, ou)) ∧ (nx2 < cnt) ∧ (rules2.length ≤ 400) ∧ (dp2 ≤ 40)) := by
  refine Cn.of R_Parser [(0, .ref p), (1, .int (nI dep)), (2, va_rf ar)] (by decide) rfl (by generalize ar = z0; cases z0 <;> exact Nat.le_of_ble_eq_true rfl) (by generalize ar = z0; cases z0 <;> rfl) ?_
  intro x A Q hR hXl hin C E
  subst hXl
  have bso := hO.so
  refine r_aload_n C 0 d_Parser_takeGroup_0 rfl rfl ?_
  refine r_get C 0 1 d_Parser_takeGroup_1 ci_Parser fi_Parser_20 rfl (by decide) rfl rfl ?_
  refine r_get C 1 8 d_Parser_takeGroup_4 ci_Tokens fi_Parser_31 rfl (by decide) rfl rfl ?_
  refine r_nif_eq C 22 d_Parser_takeGroup_7 (by decide) (by omega) (fun c_7 => ?_) (fun c_7 => ?_)
  · skip
    refine r_iconst C (nI 1) d_Parser_takeGroup_22 (by decide) ?_
    refine r_eqS (st' := [.int (bI true)]) rfl ?_
    refine r_bret C E d_Parser_takeGroup_23 (by first | decide | omega | (simp only [rmk]; omega)) (by first | decide | omega | (simp only [rmk]; omega)) ?_
    exact ⟨true, _, _, _, _, (so, sta, en, v, wd), _, _, rfl, rfl, by first | exact pG_0 c_7 | exact pG_1 c_19, hRA, fun _ h => h, hO, hcap, ho, h400, hdp⟩
  · skip
    refine r_aload_n C 0 d_Parser_takeGroup_10 rfl rfl ?_
    refine r_get C 0 1 d_Parser_takeGroup_11 ci_Parser fi_Parser_20 rfl (by decide) rfl rfl ?_
    refine r_bipush C (nI 125) d_Parser_takeGroup_14 (by decide) ?_
    refine j_callV C (c_Tokens_isTheSign g (xl x) (a := a) (t := t) (zs := zs) (zb := zb) (ze := ze) (zv := zv) (zw := zw) (cnt := cnt) (nx := nx) (so := so) (sta := sta) (en := ee) (c := 125) (T := T) (v := v) (wd := wd) (by first | assumption | rfl | omega) (hO.so) (sg_of hcap) (by first | assumption | rfl | omega)) (Sp.keep (Sp.of (wr := [(p, .inr (6, [.ref bk, .ref a])), (zs, .inl (g.2.1 0, 2001, .inl (aI ZS))), (zb, .inl (g.2.1 0, 2001, .inl (aI ZB))), (ze, .inl (g.2.1 0, 2001, .inl (aI ZE))), (zv, .inl (g.2.1 0, 2001, .inl (oA ZV))), (zw, .inl (g.2.1 6, 2001, .inr (.inr (.inr (.inr ZW))))), (bk, .inr (5, [.ref ra, .ref pa, .int (bI pr), .int (nI rules.length), .int (nI 0), .int (nI dp)])), (ra, .inl (g.2.1 3, 400, .inr (.inr (.inr (.inr RA)))))]) [1] [0, 2, 3, 4, 5, 6, 7, 8] rfl rfl rfl rfl (by decide)) PP) d_Parser_takeGroup_16 lk_Parser_42 mw_Tokens_isTheSign vw_Tokens_isTheSign (q0 := 0) rfl rfl (fit_of hR (by first | decide | (simp only [rmk]; omega)) (by first | decide | (simp only [rmk]; omega)) (by first | decide | (simp only [rmk]; omega)) (by first | decide | (simp only [rmk]; omega))) rfl (cat8 (Nat.le_of_ble_eq_true rfl)) (As := [.int (nI 125)]) (rest := []) rfl (fun r_16 w_16 hp_16 => ?_)
    obtain ⟨rfl, rfl⟩ := hp_16
    refine r_swap ?_
    refine r_afterP (X := [(p, .inr (6, [.ref bk, .ref a])), (zs, .inl (g.2.1 0, 2001, .inl (aI ZS))), (zb, .inl (g.2.1 0, 2001, .inl (aI ZB))), (ze, .inl (g.2.1 0, 2001, .inl (aI ZE))), (zv, .inl (g.2.1 0, 2001, .inl (oA ZV))), (zw, .inl (g.2.1 6, 2001, .inr (.inr (.inr (.inr ZW))))), (bk, .inr (5, [.ref ra, .ref pa, .int (bI pr), .int (nI rules.length), .int (nI 0), .int (nI dp)])), (ra, .inl (g.2.1 3, 400, .inr (.inr (.inr (.inr RA))))), (a, .inr (2, [.ref t, .ref zs, .ref zb, .ref ze, .ref zv, .ref zw, .int (nI cnt), .int (nI nx), .int (nI so), .int (nI sta), .int (nI ee), .int (oI v), va_rf (wR g wd)]))]) (X' := [(p, .inr (6, [.ref bk, .ref a])), (a, .inr (2, [.ref t, .ref zs, .ref zb, .ref ze, .ref zv, .ref zw, .int (nI cnt), .int (nI nx), .int (nI so), .int (nI sta), .int (nI ee), .int (oI v), va_rf (wR g wd)])), (zs, .inl (g.2.1 0, 2001, .inl (aI ZS))), (zb, .inl (g.2.1 0, 2001, .inl (aI ZB))), (ze, .inl (g.2.1 0, 2001, .inl (aI ZE))), (zv, .inl (g.2.1 0, 2001, .inl (oA ZV))), (zw, .inl (g.2.1 6, 2001, .inr (.inr (.inr (.inr ZW))))), (bk, .inr (5, [.ref ra, .ref pa, .int (bI pr), .int (nI rules.length), .int (nI 0), .int (nI dp)])), (ra, .inl (g.2.1 3, 400, .inr (.inr (.inr (.inr RA)))))]) (pl := PP) (st' := [.int (bI (isSg T so sta 125))]) (n1 := 0) (n2 := 0) [0, 8, 1, 2, 3, 4, 5, 6, 7] rfl rfl rfl rfl rfl rfl ?_
    refine r_bif_eq C 24 d_Parser_takeGroup_19 (by decide) (fun c_19 => ?_) (fun c_19 => ?_)
    · skip
      refine r_iconst C (nI 0) d_Parser_takeGroup_24 (by decide) ?_
      refine r_istore_n C (lv' := [(3, .int (nI 0)), (0, .ref p), (1, .int (nI dep)), (2, va_rf ar)]) d_Parser_takeGroup_25 rfl (by decide) (by generalize ar = zq; cases zq <;> rfl) ?_
      refine r_lv (lv' := [(0, .ref p), (1, .int (nI dep)), (2, va_rf ar), (3, .int (nI 0))]) [1, 2, 3, 0] rfl ?_
      refine r_eqW (ws' := [(p, .inr (6, [.ref bk, .ref a])), (a, .inr (2, [.ref t, .ref zs, .ref zb, .ref ze, .ref zv, .ref zw, .int (nI cnt), .int (nI nx), .int (nI ((so, sta, en, v, wd).1)), .int (nI ((so, sta, en, v, wd).2.1)), .int (nI ee), .int (oI ((so, sta, en, v, wd).2.2.2.1)), va_rf (wR g (so, sta, en, v, wd).2.2.2.2)])), (zs, .inl (g.2.1 0, 2001, .inl (aI ZS))), (zb, .inl (g.2.1 0, 2001, .inl (aI ZB))), (ze, .inl (g.2.1 0, 2001, .inl (aI ZE))), (zv, .inl (g.2.1 0, 2001, .inl (oA ZV))), (zw, .inl (g.2.1 6, 2001, .inr (.inr (.inr (.inr ZW))))), (bk, .inr (5, [.ref ra, .ref pa, .int (bI pr), .int (nI rules.length), .int (nI 0), .int (nI dp)])), (ra, .inl (g.2.1 3, 400, .inr (.inr (.inr (.inr RA)))))] ++ PP) (by first | rfl | simp) ?_
      refine r_widen (n1 := 0) (n2 := 6 * 0) (by omega) (by omega) ?_
      exact lp_Parser_takeGroup_26 g (p := p) (bk := bk) (ra := ra) (pa := pa) (k := k) (so := so) (sta := sta) (en := en) (ee := ee) (dp := dp) (dep := dep) (d := d) (a := a) (t := t) (zs := zs) (zb := zb) (ze := ze) (zv := zv) (zw := zw) (cnt := cnt) (nx := nx) (T := T) (ZS := ZS) (ZB := ZB) (ZE := ZE) (ZV := ZV) (ZW := ZW) (v := v) (wd := wd) (ar := ar) (pr := pr) (out := out) (ls := ls) (PP := PP) (RA := RA) (rules := rules) hk hT hO hA hcap ho hch hRA h400 hdd hdp hS C E hR _ 0 (so, sta, en, v, wd) rules dp out RA nx PP 0 (by first | assumption | rfl | omega) (by rw [pG_go (s := (rules, dp, (so, sta, en, v, wd), out)) c_7 c_19]) (by rw [pG_go (s := (rules, dp, (so, sta, en, v, wd), out)) c_7 c_19]; simp) (by first | assumption | rfl | omega) (by first | assumption | rfl | omega) (by first | assumption | rfl | omega) (by first | assumption | rfl | omega) (fun _ h => h) (by first | assumption | rfl | omega) (by first | assumption | rfl | omega) (Nat.lt_succ_self _)
    · skip
      refine r_iconst C (nI 1) d_Parser_takeGroup_22 (by decide) ?_
      refine r_eqS (st' := [.int (bI true)]) rfl ?_
      refine r_bret C E d_Parser_takeGroup_23 (by first | decide | omega | (simp only [rmk]; omega)) (by first | decide | omega | (simp only [rmk]; omega)) ?_
      exact ⟨true, _, _, _, _, (so, sta, en, v, wd), _, _, rfl, rfl, by first | exact pG_0 c_7 | exact pG_1 c_19, hRA, fun _ h => h, hO, hcap, ho, h400, hdp⟩
