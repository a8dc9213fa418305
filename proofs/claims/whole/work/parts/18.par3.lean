theorem wE {g : GG} (hj : ∀ i j, i < wNm.length → j < wNm.length → g.2.2.1 i = g.2.2.1 j → i = j) {a b : Nat} (ha : a < 23) (hb : b < 23) (h : some (g.2.2.1 a) = some (g.2.2.1 b)) : a = b := hj a b ha hb (Option.some.inj h)
theorem chain_lev {g : GG} {PP : va_W} {ar : Option Nat} {ls : List LayerV} (h : ChainAt g PP ar ls) : ∀ a, ar = some a → ∃ v0 v1 v2 v3 : Value, (a, .inr (3, [v0, v1, v2, v3, .int (nI ls.length)])) ∈ PP := by
  intro a e
  cases ls with
  | nil => rw [show ar = none from h] at e; cases e
  | cons l t =>
    obtain ⟨b, ou, h1, h2, -⟩ := h
    rw [h1] at e
    cases e
    exact ⟨_, _, _, _, h2⟩
theorem chain_nil {g : GG} {PP : va_W} {ar : Option Nat} {ls : List LayerV} (h : ChainAt g PP ar ls) : ar = none → ls.length = 0 := by
  intro e
  cases ls with
  | nil => rfl
  | cons l t =>
    obtain ⟨b, ou, h1, -⟩ := h
    rw [h1] at e
    cases e
theorem ChainAt.mono {g : GG} {PP P2 : va_W} (hs : ∀ q ∈ PP, q ∈ P2) : ∀ {ls : List LayerV} {ar : Option Nat}, ChainAt g PP ar ls → ChainAt g P2 ar ls := by
  intro ls
  induction ls with
  | nil => intro ar h; exact h
  | cons l t ih =>
    intro ar h
    obtain ⟨b, ou, h1, h2, h3, h4⟩ := h
    exact ⟨b, ou, h1, hs _ h2, h3, ih h4⟩
theorem RulesAt.mono {g : GG} {PP P2 : va_W} {RA : Nat → Option Nat} {rules : List RuleV} (h : RulesAt g PP RA rules) (hs : ∀ q ∈ PP, q ∈ P2) : RulesAt g P2 RA rules := by
  intro i r hr
  obtain ⟨a, h1, ar, h2, h3⟩ := h i r hr
  exact ⟨a, h1, ar, hs _ h2, h3.mono hs⟩
/-- a new layer about the old ones -/
theorem chain_new {g : GG} {PP : va_W} {ar : Option Nat} {ls : List LayerV} {q w : Nat} {f s : Option Nat} (h : ChainAt g PP ar ls) (hw : w < 23) (hm : (q, .inr (3, [.ref (g.2.2.1 w), .int (oI f), .int (oI s), va_rf ar, .int (nI (ls.length + 1))])) ∈ (q, .inr (3, [.ref (g.2.2.1 w), .int (oI f), .int (oI s), va_rf ar, .int (nI (ls.length + 1))])) :: PP) : ChainAt g ((q, .inr (3, [.ref (g.2.2.1 w), .int (oI f), .int (oI s), va_rf ar, .int (nI (ls.length + 1))])) :: PP) (some q) ((w, f, s) :: ls) :=
  ⟨q, ar, rfl, hm, hw, h.mono (fun _ hq => List.mem_cons_of_mem _ hq)⟩
def LayRes (g : GG) (PP : va_W) (nl : Option Nat) (ls : List LayerV) (lay : Option LayerV) : Prop := match lay with
  | none => nl = none
  | some l => ∃ a, nl = some a ∧ ChainAt g PP (some a) (l :: ls)
/-- a shape or filter with its numbers -/
def pLay (T : Nat → Nat) (k w : Nat) (x : TO) : Option LayerV × TO :=
  if w = 4 then match pNum T k 1 16 (tTake T k x) with
    | (none, y) => (none, y)
    | (some a, y) => match pNum T k 1 16 y with
      | (none, z) => (none, z)
      | (some b, z) => (some (4, some a, some b), z)
  else if w = 7 then match pNum T k 1 256 (tTake T k x) with
    | (none, y) => (none, y)
    | (some a, y) => (some (7, some a, none), y)
  else (some (w, none, none), tTake T k x)
theorem pLay_4n {T : Nat → Nat} {k : Nat} {x y z : TO} (h : y = tTake T k x) (h1 : (none, z) = pNum T k 1 16 y) : pLay T k 4 x = (none, z) := by simp [pLay, ← h, ← h1]
theorem pLay_4m {T : Nat → Nat} {k a : Nat} {x y z z2 : TO} (h : y = tTake T k x) (h1 : (some a, z) = pNum T k 1 16 y) (h2 : (none, z2) = pNum T k 1 16 z) : pLay T k 4 x = (none, z2) := by simp [pLay, ← h, ← h1, ← h2]
theorem pLay_4 {T : Nat → Nat} {k a b : Nat} {x y z z2 : TO} (h : y = tTake T k x) (h1 : (some a, z) = pNum T k 1 16 y) (h2 : (some b, z2) = pNum T k 1 16 z) : pLay T k 4 x = (some (4, some a, some b), z2) := by simp [pLay, ← h, ← h1, ← h2]
theorem pLay_7n {T : Nat → Nat} {k : Nat} {x y z : TO} (h : y = tTake T k x) (h1 : (none, z) = pNum T k 1 256 y) : pLay T k 7 x = (none, z) := by simp [pLay, ← h, ← h1]
theorem pLay_7 {T : Nat → Nat} {k a : Nat} {x y z : TO} (h : y = tTake T k x) (h1 : (some a, z) = pNum T k 1 256 y) : pLay T k 7 x = (some (7, some a, none), z) := by simp [pLay, ← h, ← h1]
theorem pLay_d {T : Nat → Nat} {k w : Nat} {x y : TO} (h4 : w ≠ 4) (h7 : w ≠ 7) (h : y = tTake T k x) : pLay T k w x = (some (w, none, none), y) := by simp [pLay, h4, h7, ← h]
theorem wCode_eq {w : Nat} (h : 16 ≤ w) (hw : w < 23) : wCode.getD w 0 = nI (w - 16) := by
  have : ∀ w, w < 23 → 16 ≤ w → wCode.getD w 0 = nI (w - 16) := by decide +kernel
  exact this w hw h
/-- a rule whose word is w -/
def pRule (T : Nat → Nat) (k w : Nat) (ls : List LayerV) (rules : List RuleV) (x : TO) : Bool × List RuleV × TO :=
  if (pNums T k (w - 16) (tTake T k x)).1 = true ∧ rules.length < 400 then (true, rules ++ [(w - 16, x.1.2.1, ls, (pNums T k (w - 16) (tTake T k x)).2.1, (pNums T k (w - 16) (tTake T k x)).2.2.1, (pNums T k (w - 16) (tTake T k x)).2.2.2.1)], (pNums T k (w - 16) (tTake T k x)).2.2.2.2)
  else (false, rules, (pNums T k (w - 16) (tTake T k x)).2.2.2.2)
theorem pRule_n {T : Nat → Nat} {k w : Nat} {ls : List LayerV} {rules : List RuleV} {x y z : TO} {c nu co : Option Nat} (h : y = tTake T k x) (h1 : (false, c, nu, co, z) = pNums T k (w - 16) y) : pRule T k w ls rules x = (false, rules, z) := by simp [pRule, ← h, ← h1]
theorem pRule_f {T : Nat → Nat} {k w : Nat} {ls : List LayerV} {rules : List RuleV} {x y z : TO} {c nu co : Option Nat} (h : y = tTake T k x) (h1 : (true, c, nu, co, z) = pNums T k (w - 16) y) (hl : 400 ≤ rules.length) : pRule T k w ls rules x = (false, rules, z) := by simp [pRule, ← h, ← h1, Nat.not_lt.mpr hl]
theorem pRule_y {T : Nat → Nat} {k w : Nat} {ls : List LayerV} {rules : List RuleV} {x y z : TO} {c nu co : Option Nat} (h : y = tTake T k x) (h1 : (true, c, nu, co, z) = pNums T k (w - 16) y) (hl : rules.length < 400) : pRule T k w ls rules x = (true, rules ++ [(w - 16, x.1.2.1, ls, c, nu, co)], z) := by simp [pRule, ← h, ← h1, hl]
theorem pRule_n' {T : Nat → Nat} {k w ki : Nat} {ls : List LayerV} {rules : List RuleV} {x y z : TO} {c nu co : Option Nat} (hk : w - 16 = ki) (h : y = tTake T k x) (h1 : pNums T k ki y = (false, c, nu, co, z)) : pRule T k w ls rules x = (false, rules, z) := by subst hk; exact pRule_n h h1.symm
theorem pRule_f' {T : Nat → Nat} {k w ki : Nat} {ls : List LayerV} {rules : List RuleV} {x y z : TO} {c nu co : Option Nat} (hk : w - 16 = ki) (h : y = tTake T k x) (h1 : pNums T k ki y = (true, c, nu, co, z)) (hl : 400 ≤ rules.length) : pRule T k w ls rules x = (false, rules, z) := by subst hk; exact pRule_f h h1.symm hl
theorem pRule_y' {T : Nat → Nat} {k w ki : Nat} {ls : List LayerV} {rules : List RuleV} {x y z : TO} {c nu co : Option Nat} (hk : w - 16 = ki) (h : y = tTake T k x) (h1 : pNums T k ki y = (true, c, nu, co, z)) (hl : rules.length < 400) : pRule T k w ls rules x = (true, rules ++ [(ki, x.1.2.1, ls, c, nu, co)], z) := by subst hk; exact pRule_y h h1.symm hl
theorem rules_push {g : GG} {PP P2 : va_W} {RA : Nat → Option Nat} {rules : List RuleV} {q ki st : Nat} {ar c nu co : Option Nat} {ls : List LayerV} (h : RulesAt g PP RA rules) (hch : ChainAt g PP ar ls) (hm : (q, .inr (4, [.int (nI ki), .int (nI st), va_rf ar, .int (oI c), .int (oI nu), .int (oI co)])) ∈ P2) (hs : ∀ z ∈ PP, z ∈ P2) : RulesAt g P2 (va_up RA rules.length (some q)) (rules ++ [(ki, st, ls, c, nu, co)]) := by
  intro i r hr
  by_cases e : i = rules.length
  · subst e
    simp at hr
    subst hr
    exact ⟨q, va_up_self _ _ _, ar, hm, hch.mono hs⟩
  · have hl : i < rules.length := by
      have := (List.getElem?_eq_some_iff.mp hr).1
      simp at this
      omega
    rw [List.getElem?_append_left hl] at hr
    obtain ⟨a, h1, h2⟩ := (h.mono hs) i r hr
    exact ⟨a, by rw [va_up_ne _ _ e]; exact h1, h2⟩

set_option maxRecDepth 100000 in
theorem cl_Parser_103 : Cond.classLink R_Parser 103 R_Layer ∈ GW := (gw (i := 532) rfl rfl)
set_option maxRecDepth 100000 in
theorem cl_Parser_108 : Cond.classLink R_Parser 108 R_Rule ∈ GW := (gw (i := 452) rfl rfl)
set_option maxRecDepth 100000 in
theorem fi_Parser_116 : FI R_Parser 116 R_Rule F_Rule 0 := Or.inr ⟨"RuleReader", (nw (i := 461) rfl rfl)⟩
set_option maxRecDepth 100000 in
theorem fi_Parser_124 : FI R_Parser 124 R_Rule F_Rule 5 := Or.inr ⟨"RuleReader", (nw (i := 475) rfl rfl)⟩
set_option maxRecDepth 100000 in
theorem fi_Parser_39 : FI R_Parser 39 R_Tokens F_Tokens 9 := Or.inr ⟨"RuleReader", (nw (i := 178) rfl rfl)⟩
set_option maxRecDepth 100000 in
theorem fi_Parser_9 : FI R_Parser 9 R_Parser F_Parser 0 := Or.inl (gw (i := 213) rfl rfl)
set_option maxRecDepth 100000 in
theorem fi_Parser_91 : FI R_Parser 91 R_Tokens F_Tokens 12 := Or.inr ⟨"RuleReader", (nw (i := 184) rfl rfl)⟩
set_option maxRecDepth 100000 in
theorem fo_Parser_110 : FO R_Parser 110 "RuleReader$Word" "code" "I" := Or.inr ⟨"RuleReader", (nw (i := 1240) rfl rfl)⟩
set_option maxRecDepth 100000 in
theorem fs_Parser_94 : Cond.fieldLink R_Parser 94 "RuleReader$Word" "BLOCK" "LRuleReader$Word;" ∈ GW := (gw (i := 528) rfl rfl)
set_option maxRecDepth 100000 in
theorem fs_Parser_97 : Cond.fieldLink R_Parser 97 "RuleReader$Word" "WINDOW" "LRuleReader$Word;" ∈ GW := (gw (i := 530) rfl rfl)
set_option maxRecDepth 100000 in
theorem im_Layer_init : Cond.instanceMethod y_Layer_init ∈ GW := (gw (i := 535) rfl rfl)
set_option maxRecDepth 100000 in
theorem im_Rule_init : Cond.instanceMethod y_Rule_init ∈ GW := (gw (i := 455) rfl rfl)
set_option maxRecDepth 100000 in
theorem in_Layer : Cond.instantiable R_Layer 5 ∈ GW := (gw (i := 533) rfl rfl)
set_option maxRecDepth 100000 in
theorem in_Rule : Cond.instantiable R_Rule 6 ∈ GW := (gw (i := 453) rfl rfl)
set_option maxRecDepth 100000 in
theorem iz_Layer : Cond.initialized R_Layer ∈ GW := (gw (i := 89) rfl rfl)
set_option maxRecDepth 100000 in
theorem iz_Rule : Cond.initialized R_Rule ∈ GW := (gw (i := 87) rfl rfl)
set_option maxRecDepth 100000 in
theorem lk_Parser_105 : LK R_Parser 105 y_Layer_init := Or.inl (gw (i := 534) rfl rfl)
set_option maxRecDepth 100000 in
theorem lk_Parser_113 : LK R_Parser 113 y_Rule_init := Or.inl (gw (i := 454) rfl rfl)
set_option maxRecDepth 100000 in
theorem lk_Parser_119 : LK R_Parser 119 y_Parser_takeComparison := Or.inl (gw (i := 490) rfl rfl)
set_option maxRecDepth 100000 in
theorem lk_Parser_130 : LK R_Parser 130 y_Book_add := Or.inl (gw (i := 503) rfl rfl)
set_option maxRecDepth 100000 in
theorem mw_Book_add : MW y_Book_add b_Book_add 2 (some .boolean) 1 := ⟨(gw (i := 506) rfl rfl), (gw (i := 75) rfl rfl), by decide +kernel⟩
set_option maxRecDepth 100000 in
theorem mw_Layer_init : MW y_Layer_init b_Layer_init 5 none 4 := ⟨(gw (i := 536) rfl rfl), (gw (i := 89) rfl rfl), by decide +kernel⟩
set_option maxRecDepth 100000 in
theorem mw_Parser_takeComparison : MW y_Parser_takeComparison b_Parser_takeComparison 2 (some .boolean) 1 := ⟨(gw (i := 493) rfl rfl), (gw (i := 76) rfl rfl), by decide +kernel⟩
set_option maxRecDepth 100000 in
theorem mw_Rule_init : MW y_Rule_init b_Rule_init 4 none 3 := ⟨(gw (i := 456) rfl rfl), (gw (i := 87) rfl rfl), by decide +kernel⟩
set_option maxRecDepth 100000 in
theorem vw_Book_add : VW y_Book_add := ⟨(gw (i := 504) rfl rfl), (gw (i := 505) rfl rfl)⟩
set_option maxRecDepth 100000 in
theorem vw_Parser_takeComparison : VW y_Parser_takeComparison := ⟨(gw (i := 492) rfl rfl), (gw (i := 9) rfl rfl)⟩
theorem d_Parser_takeLayer_0 : decode b_Parser_takeLayer 0 = .ok (.aload_n 0, 1) := by decide +kernel
theorem d_Parser_takeLayer_1 : decode b_Parser_takeLayer 1 = .ok (.getfield 20, 3) := by decide +kernel
theorem d_Parser_takeLayer_4 : decode b_Parser_takeLayer 4 = .ok (.getfield 91, 3) := by decide +kernel
theorem d_Parser_takeLayer_7 : decode b_Parser_takeLayer 7 = .ok (.astore_n 2, 1) := by decide +kernel
theorem d_Parser_takeLayer_8 : decode b_Parser_takeLayer 8 = .ok (.aload_n 0, 1) := by decide +kernel
theorem d_Parser_takeLayer_9 : decode b_Parser_takeLayer 9 = .ok (.getfield 20, 3) := by decide +kernel
theorem d_Parser_takeLayer_12 : decode b_Parser_takeLayer 12 = .ok (.invokevirtual 49, 3) := by decide +kernel
theorem d_Parser_takeLayer_15 : decode b_Parser_takeLayer 15 = .ok (.iconst (-1), 1) := by decide +kernel
theorem d_Parser_takeLayer_16 : decode b_Parser_takeLayer 16 = .ok (.istore_n 3, 1) := by decide +kernel
theorem d_Parser_takeLayer_17 : decode b_Parser_takeLayer 17 = .ok (.iconst (-1), 1) := by decide +kernel
theorem d_Parser_takeLayer_18 : decode b_Parser_takeLayer 18 = .ok (.istore 4, 2) := by decide +kernel
theorem d_Parser_takeLayer_20 : decode b_Parser_takeLayer 20 = .ok (.aload_n 2, 1) := by decide +kernel
theorem d_Parser_takeLayer_21 : decode b_Parser_takeLayer 21 = .ok (.getstatic 94, 3) := by decide +kernel
theorem d_Parser_takeLayer_24 : decode b_Parser_takeLayer 24 = .ok (.if_acmp .eq 10, 3) := by decide +kernel
theorem d_Parser_takeLayer_27 : decode b_Parser_takeLayer 27 = .ok (.aload_n 2, 1) := by decide +kernel
theorem d_Parser_takeLayer_28 : decode b_Parser_takeLayer 28 = .ok (.getstatic 97, 3) := by decide +kernel
theorem d_Parser_takeLayer_31 : decode b_Parser_takeLayer 31 = .ok (.if_acmp .ne 31, 3) := by decide +kernel
theorem d_Parser_takeLayer_34 : decode b_Parser_takeLayer 34 = .ok (.aload_n 0, 1) := by decide +kernel
theorem d_Parser_takeLayer_35 : decode b_Parser_takeLayer 35 = .ok (.iconst 1, 1) := by decide +kernel
theorem d_Parser_takeLayer_36 : decode b_Parser_takeLayer 36 = .ok (.aload_n 2, 1) := by decide +kernel
theorem d_Parser_takeLayer_37 : decode b_Parser_takeLayer 37 = .ok (.getstatic 94, 3) := by decide +kernel
theorem d_Parser_takeLayer_40 : decode b_Parser_takeLayer 40 = .ok (.if_acmp .ne 8, 3) := by decide +kernel
theorem d_Parser_takeLayer_43 : decode b_Parser_takeLayer 43 = .ok (.bipush 16, 2) := by decide +kernel
theorem d_Parser_takeLayer_45 : decode b_Parser_takeLayer 45 = .ok (.goto 6, 3) := by decide +kernel
theorem d_Parser_takeLayer_48 : decode b_Parser_takeLayer 48 = .ok (.sipush 256, 3) := by decide +kernel
theorem d_Parser_takeLayer_51 : decode b_Parser_takeLayer 51 = .ok (.invokevirtual 100, 3) := by decide +kernel
theorem d_Parser_takeLayer_54 : decode b_Parser_takeLayer 54 = .ok (.istore_n 3, 1) := by decide +kernel
theorem d_Parser_takeLayer_55 : decode b_Parser_takeLayer 55 = .ok (.iload_n 3, 1) := by decide +kernel
theorem d_Parser_takeLayer_56 : decode b_Parser_takeLayer 56 = .ok (.iconst (-1), 1) := by decide +kernel
theorem d_Parser_takeLayer_57 : decode b_Parser_takeLayer 57 = .ok (.if_icmp .ne 5, 3) := by decide +kernel
theorem d_Parser_takeLayer_60 : decode b_Parser_takeLayer 60 = .ok (.aconst_null, 1) := by decide +kernel
theorem d_Parser_takeLayer_61 : decode b_Parser_takeLayer 61 = .ok (.areturn, 1) := by decide +kernel
theorem d_Parser_takeLayer_62 : decode b_Parser_takeLayer 62 = .ok (.aload_n 2, 1) := by decide +kernel
theorem d_Parser_takeLayer_63 : decode b_Parser_takeLayer 63 = .ok (.getstatic 94, 3) := by decide +kernel
theorem d_Parser_takeLayer_66 : decode b_Parser_takeLayer 66 = .ok (.if_acmp .ne 20, 3) := by decide +kernel
theorem d_Parser_takeLayer_69 : decode b_Parser_takeLayer 69 = .ok (.aload_n 0, 1) := by decide +kernel
theorem d_Parser_takeLayer_70 : decode b_Parser_takeLayer 70 = .ok (.iconst 1, 1) := by decide +kernel
theorem d_Parser_takeLayer_71 : decode b_Parser_takeLayer 71 = .ok (.bipush 16, 2) := by decide +kernel
theorem d_Parser_takeLayer_73 : decode b_Parser_takeLayer 73 = .ok (.invokevirtual 100, 3) := by decide +kernel
theorem d_Parser_takeLayer_76 : decode b_Parser_takeLayer 76 = .ok (.istore 4, 2) := by decide +kernel
theorem d_Parser_takeLayer_78 : decode b_Parser_takeLayer 78 = .ok (.iload 4, 2) := by decide +kernel
theorem d_Parser_takeLayer_80 : decode b_Parser_takeLayer 80 = .ok (.iconst (-1), 1) := by decide +kernel
theorem d_Parser_takeLayer_81 : decode b_Parser_takeLayer 81 = .ok (.if_icmp .ne 5, 3) := by decide +kernel
theorem d_Parser_takeLayer_84 : decode b_Parser_takeLayer 84 = .ok (.aconst_null, 1) := by decide +kernel
theorem d_Parser_takeLayer_85 : decode b_Parser_takeLayer 85 = .ok (.areturn, 1) := by decide +kernel
theorem d_Parser_takeLayer_86 : decode b_Parser_takeLayer 86 = .ok (.new 103, 3) := by decide +kernel
theorem d_Parser_takeLayer_89 : decode b_Parser_takeLayer 89 = .ok (.dup, 1) := by decide +kernel
theorem d_Parser_takeLayer_90 : decode b_Parser_takeLayer 90 = .ok (.aload_n 2, 1) := by decide +kernel
theorem d_Parser_takeLayer_91 : decode b_Parser_takeLayer 91 = .ok (.iload_n 3, 1) := by decide +kernel
theorem d_Parser_takeLayer_92 : decode b_Parser_takeLayer 92 = .ok (.iload 4, 2) := by decide +kernel
theorem d_Parser_takeLayer_94 : decode b_Parser_takeLayer 94 = .ok (.aload_n 1, 1) := by decide +kernel
theorem d_Parser_takeLayer_95 : decode b_Parser_takeLayer 95 = .ok (.invokespecial 105, 3) := by decide +kernel
theorem d_Parser_takeLayer_98 : decode b_Parser_takeLayer 98 = .ok (.areturn, 1) := by decide +kernel
theorem d_Parser_takeRule_0 : decode b_Parser_takeRule 0 = .ok (.aload_n 0, 1) := by decide +kernel
theorem d_Parser_takeRule_1 : decode b_Parser_takeRule 1 = .ok (.getfield 20, 3) := by decide +kernel
theorem d_Parser_takeRule_4 : decode b_Parser_takeRule 4 = .ok (.getfield 91, 3) := by decide +kernel
theorem d_Parser_takeRule_7 : decode b_Parser_takeRule 7 = .ok (.astore_n 2, 1) := by decide +kernel
theorem d_Parser_takeRule_8 : decode b_Parser_takeRule 8 = .ok (.aload_n 2, 1) := by decide +kernel
theorem d_Parser_takeRule_9 : decode b_Parser_takeRule 9 = .ok (.ifnonnull 5, 3) := by decide +kernel
theorem d_Parser_takeRule_12 : decode b_Parser_takeRule 12 = .ok (.iconst 0, 1) := by decide +kernel
theorem d_Parser_takeRule_13 : decode b_Parser_takeRule 13 = .ok (.ireturn, 1) := by decide +kernel
theorem d_Parser_takeRule_14 : decode b_Parser_takeRule 14 = .ok (.new 108, 3) := by decide +kernel
theorem d_Parser_takeRule_17 : decode b_Parser_takeRule 17 = .ok (.dup, 1) := by decide +kernel
theorem d_Parser_takeRule_18 : decode b_Parser_takeRule 18 = .ok (.aload_n 2, 1) := by decide +kernel
theorem d_Parser_takeRule_19 : decode b_Parser_takeRule 19 = .ok (.getfield 110, 3) := by decide +kernel
theorem d_Parser_takeRule_22 : decode b_Parser_takeRule 22 = .ok (.aload_n 0, 1) := by decide +kernel
theorem d_Parser_takeRule_23 : decode b_Parser_takeRule 23 = .ok (.getfield 20, 3) := by decide +kernel
theorem d_Parser_takeRule_26 : decode b_Parser_takeRule 26 = .ok (.getfield 39, 3) := by decide +kernel
theorem d_Parser_takeRule_29 : decode b_Parser_takeRule 29 = .ok (.aload_n 1, 1) := by decide +kernel
theorem d_Parser_takeRule_30 : decode b_Parser_takeRule 30 = .ok (.invokespecial 113, 3) := by decide +kernel
theorem d_Parser_takeRule_33 : decode b_Parser_takeRule 33 = .ok (.astore_n 3, 1) := by decide +kernel
theorem d_Parser_takeRule_34 : decode b_Parser_takeRule 34 = .ok (.aload_n 0, 1) := by decide +kernel
theorem d_Parser_takeRule_35 : decode b_Parser_takeRule 35 = .ok (.getfield 20, 3) := by decide +kernel
theorem d_Parser_takeRule_38 : decode b_Parser_takeRule 38 = .ok (.invokevirtual 49, 3) := by decide +kernel
theorem d_Parser_takeRule_41 : decode b_Parser_takeRule 41 = .ok (.iconst 1, 1) := by decide +kernel
theorem d_Parser_takeRule_42 : decode b_Parser_takeRule 42 = .ok (.istore 4, 2) := by decide +kernel
theorem d_Parser_takeRule_44 : decode b_Parser_takeRule 44 = .ok (.aload_n 3, 1) := by decide +kernel
theorem d_Parser_takeRule_45 : decode b_Parser_takeRule 45 = .ok (.getfield 116, 3) := by decide +kernel
theorem d_Parser_takeRule_48 : decode b_Parser_takeRule 48 = .ok (.tableswitch 104 4 6 #[28, 38, 75], 28) := by decide +kernel
theorem d_Parser_takeRule_76 : decode b_Parser_takeRule 76 = .ok (.aload_n 0, 1) := by decide +kernel
theorem d_Parser_takeRule_77 : decode b_Parser_takeRule 77 = .ok (.aload_n 3, 1) := by decide +kernel
theorem d_Parser_takeRule_78 : decode b_Parser_takeRule 78 = .ok (.invokevirtual 119, 3) := by decide +kernel
theorem d_Parser_takeRule_81 : decode b_Parser_takeRule 81 = .ok (.istore 4, 2) := by decide +kernel
theorem d_Parser_takeRule_83 : decode b_Parser_takeRule 83 = .ok (.goto 69, 3) := by decide +kernel
theorem d_Parser_takeRule_86 : decode b_Parser_takeRule 86 = .ok (.aload_n 3, 1) := by decide +kernel
theorem d_Parser_takeRule_87 : decode b_Parser_takeRule 87 = .ok (.aload_n 0, 1) := by decide +kernel
theorem d_Parser_takeRule_88 : decode b_Parser_takeRule 88 = .ok (.iconst 0, 1) := by decide +kernel
theorem d_Parser_takeRule_89 : decode b_Parser_takeRule 89 = .ok (.ldc 123, 2) := by decide +kernel
theorem d_Parser_takeRule_91 : decode b_Parser_takeRule 91 = .ok (.invokevirtual 100, 3) := by decide +kernel
theorem d_Parser_takeRule_94 : decode b_Parser_takeRule 94 = .ok (.putfield 124, 3) := by decide +kernel
theorem d_Parser_takeRule_97 : decode b_Parser_takeRule 97 = .ok (.aload_n 3, 1) := by decide +kernel
theorem d_Parser_takeRule_98 : decode b_Parser_takeRule 98 = .ok (.getfield 124, 3) := by decide +kernel
theorem d_Parser_takeRule_101 : decode b_Parser_takeRule 101 = .ok (.iconst (-1), 1) := by decide +kernel
theorem d_Parser_takeRule_102 : decode b_Parser_takeRule 102 = .ok (.if_icmp .eq 15, 3) := by decide +kernel
theorem d_Parser_takeRule_105 : decode b_Parser_takeRule 105 = .ok (.aload_n 0, 1) := by decide +kernel
theorem d_Parser_takeRule_106 : decode b_Parser_takeRule 106 = .ok (.aload_n 3, 1) := by decide +kernel
theorem d_Parser_takeRule_107 : decode b_Parser_takeRule 107 = .ok (.invokevirtual 119, 3) := by decide +kernel
theorem d_Parser_takeRule_110 : decode b_Parser_takeRule 110 = .ok (.ifCond .eq 7, 3) := by decide +kernel
theorem d_Parser_takeRule_113 : decode b_Parser_takeRule 113 = .ok (.iconst 1, 1) := by decide +kernel
theorem d_Parser_takeRule_114 : decode b_Parser_takeRule 114 = .ok (.goto 4, 3) := by decide +kernel
theorem d_Parser_takeRule_117 : decode b_Parser_takeRule 117 = .ok (.iconst 0, 1) := by decide +kernel
theorem d_Parser_takeRule_118 : decode b_Parser_takeRule 118 = .ok (.istore 4, 2) := by decide +kernel
theorem d_Parser_takeRule_120 : decode b_Parser_takeRule 120 = .ok (.goto 32, 3) := by decide +kernel
theorem d_Parser_takeRule_123 : decode b_Parser_takeRule 123 = .ok (.aload_n 3, 1) := by decide +kernel
theorem d_Parser_takeRule_124 : decode b_Parser_takeRule 124 = .ok (.aload_n 0, 1) := by decide +kernel
theorem d_Parser_takeRule_125 : decode b_Parser_takeRule 125 = .ok (.iconst 0, 1) := by decide +kernel
theorem d_Parser_takeRule_126 : decode b_Parser_takeRule 126 = .ok (.bipush 9, 2) := by decide +kernel
theorem d_Parser_takeRule_128 : decode b_Parser_takeRule 128 = .ok (.invokevirtual 100, 3) := by decide +kernel
theorem d_Parser_takeRule_131 : decode b_Parser_takeRule 131 = .ok (.putfield 127, 3) := by decide +kernel
theorem d_Parser_takeRule_134 : decode b_Parser_takeRule 134 = .ok (.aload_n 3, 1) := by decide +kernel
theorem d_Parser_takeRule_135 : decode b_Parser_takeRule 135 = .ok (.getfield 127, 3) := by decide +kernel
theorem d_Parser_takeRule_138 : decode b_Parser_takeRule 138 = .ok (.iconst (-1), 1) := by decide +kernel
theorem d_Parser_takeRule_139 : decode b_Parser_takeRule 139 = .ok (.if_icmp .eq 7, 3) := by decide +kernel
theorem d_Parser_takeRule_142 : decode b_Parser_takeRule 142 = .ok (.iconst 1, 1) := by decide +kernel
theorem d_Parser_takeRule_143 : decode b_Parser_takeRule 143 = .ok (.goto 4, 3) := by decide +kernel
theorem d_Parser_takeRule_146 : decode b_Parser_takeRule 146 = .ok (.iconst 0, 1) := by decide +kernel
theorem d_Parser_takeRule_147 : decode b_Parser_takeRule 147 = .ok (.istore 4, 2) := by decide +kernel
theorem d_Parser_takeRule_149 : decode b_Parser_takeRule 149 = .ok (.goto 3, 3) := by decide +kernel
theorem d_Parser_takeRule_152 : decode b_Parser_takeRule 152 = .ok (.iload 4, 2) := by decide +kernel
theorem d_Parser_takeRule_154 : decode b_Parser_takeRule 154 = .ok (.ifCond .eq 18, 3) := by decide +kernel
theorem d_Parser_takeRule_157 : decode b_Parser_takeRule 157 = .ok (.aload_n 0, 1) := by decide +kernel
theorem d_Parser_takeRule_158 : decode b_Parser_takeRule 158 = .ok (.getfield 9, 3) := by decide +kernel
theorem d_Parser_takeRule_161 : decode b_Parser_takeRule 161 = .ok (.aload_n 3, 1) := by decide +kernel
theorem d_Parser_takeRule_162 : decode b_Parser_takeRule 162 = .ok (.invokevirtual 130, 3) := by decide +kernel
theorem d_Parser_takeRule_165 : decode b_Parser_takeRule 165 = .ok (.ifCond .eq 7, 3) := by decide +kernel
theorem d_Parser_takeRule_168 : decode b_Parser_takeRule 168 = .ok (.iconst 1, 1) := by decide +kernel
theorem d_Parser_takeRule_169 : decode b_Parser_takeRule 169 = .ok (.goto 4, 3) := by decide +kernel
theorem d_Parser_takeRule_172 : decode b_Parser_takeRule 172 = .ok (.iconst 0, 1) := by decide +kernel
theorem d_Parser_takeRule_173 : decode b_Parser_takeRule 173 = .ok (.ireturn, 1) := by decide +kernel
set_option maxHeartbeats 4000000 in
set_option maxRecDepth 100000 in
theorem c_Parser_takeLayer (g : GG) (l : Launch) {p : Nat} {bk : Nat} {ra : Nat} {pa : Nat} {k : Nat} {so : Nat} {sta : Nat} {en : Nat} {ee : Nat} {rc : Nat} {dp : Nat} {w : Nat} {a : Nat} {t : Nat} {zs : Nat} {zb : Nat} {ze : Nat} {zv : Nat} {zw : Nat} {cnt : Nat} {nx : Nat} {T : Nat → Nat} {ZS : Nat → Nat} {ZB : Nat → Nat} {ZE : Nat → Nat} {ZV : Nat → Option Nat} {ZW : Nat → Option Nat} {v : Option Nat} {ar : Option Nat} {pr : Bool} {out : List Nat} {ls : List LayerV} {PP : va_W}  (hk : k ≤ 2000) (hT : ∀ j, T j < 256) (hO : TokOK k (so, sta, en, v, some w)) (hA : CutA g T k cnt ZS ZB ZE ZV ZW) (hcap : nth T k nx = ((so, sta, en, v, some w), out)) (ho : nx < cnt) (h1 : so = 1) (hw : w < 23) (hch : ChainAt g PP ar ls) : Cn g l y_Parser_takeLayer b_Parser_takeLayer 5 (some (.object "RuleReader$Layer")) (rmk 2 1 5 44) [.ref p, va_rf ar] ([(p, .inr (6, [.ref bk, .ref a])), (a, .inr (2, [.ref t, .ref zs, .ref zb, .ref ze, .ref zv, .ref zw, .int (nI cnt), .int (nI nx), .int (nI so), .int (nI sta), .int (nI ee), .int (oI v), .ref (g.2.2.1 w)])), (zs, .inl (g.2.1 0, 2001, .inl (aI ZS))), (zb, .inl (g.2.1 0, 2001, .inl (aI ZB))), (ze, .inl (g.2.1 0, 2001, .inl (aI ZE))), (zv, .inl (g.2.1 0, 2001, .inl (oA ZV))), (zw, .inl (g.2.1 6, 2001, .inr (.inr (.inr (.inr ZW))))), (bk, .inr (5, [.ref ra, .ref pa, .int (bI pr), .int (nI rc), .int (nI 0), .int (nI dp)]))] ++ PP) (fun (r0 : Option Value) (w0 : va_W) => ∃ lay : Option LayerV, ∃ nl : Option Nat, ∃ PP2 : va_W, ∃ tk : Tok, ∃ ou : List Nat, ∃ nx2 : Nat, r0 = some (va_rf nl) ∧ w0 = [(p, .inr (6, [.ref bk, .ref a])), (a, .inr (2, [.ref t, .ref zs, .ref zb, .ref ze, .ref zv, .ref zw, .int (nI cnt), .int (nI nx2), .int (nI tk.1), .int (nI tk.2.1), .int (nI ee), .int (oI tk.2.2.2.1), va_rf (wR g tk.2.2.2.2)])), (zs, .inl (g.2.1 0, 2001, .inl (aI ZS))), (zb, .inl (g.2.1 0, 2001, .inl (aI ZB))), (ze, .inl (g.2.1 0, 2001, .inl (aI ZE))), (zv, .inl (g.2.1 0, 2001, .inl (oA ZV))), (zw, .inl (g.2.1 6, 2001, .inr (.inr (.inr (.inr ZW))))), (bk, .inr (5, [.ref ra, .ref pa, .int (bI pr), .int (nI rc), .int (nI 0), .int (nI dp)]))] ++ PP2 ∧ ((lay, tk, ou) = pLay T k w ((so, sta, en, v, some w), out)) ∧ (LayRes g PP2 nl ls lay) ∧ (∀ q ∈ PP, q ∈ PP2) ∧ (TokOK k tk) ∧ (nth T k nx2 = (tk, ou)) ∧ (nx2 < cnt)) := by
  refine Cn.of R_Parser [(0, .ref p), (1, va_rf ar)] (by decide) rfl (by generalize ar = z0; cases z0 <;> exact Nat.le_of_ble_eq_true rfl) (by generalize ar = z0; cases z0 <;> rfl) ?_
  intro x A Q hR hXl hin C E
  subst hXl
  refine r_aload_n C 0 d_Parser_takeLayer_0 rfl rfl ?_
  refine r_get C 0 1 d_Parser_takeLayer_1 ci_Parser fi_Parser_20 rfl (by decide) rfl rfl ?_
  refine r_get C 1 12 d_Parser_takeLayer_4 ci_Tokens fi_Parser_91 rfl (by decide) rfl rfl ?_
  refine r_astore_n C (lv' := [(2, .ref (g.2.2.1 w)), (0, .ref p), (1, va_rf ar)]) d_Parser_takeLayer_7 rfl (by decide) (by generalize ar = zq; cases zq <;> rfl) ?_
  refine r_aload_n C 1 d_Parser_takeLayer_8 rfl rfl ?_
  refine r_get C 0 1 d_Parser_takeLayer_9 ci_Parser fi_Parser_20 rfl (by decide) rfl rfl ?_
  refine j_callV C (c_Tokens_advance g (xl x) (k := k) (so := so) (sta := sta) (en := en) (ee := ee) (a := a) (t := t) (zs := zs) (zb := zb) (ze := ze) (zv := zv) (zw := zw) (cnt := cnt) (nx := nx) (T := T) (ZS := ZS) (ZB := ZB) (ZE := ZE) (ZV := ZV) (ZW := ZW) (v := v) (wd := some w) (out := out) (by first | assumption | rfl | omega) (by first | assumption | rfl | omega) (by first | assumption | rfl | omega) (by first | assumption | rfl | omega) (by omega)) (Sp.keep (Sp.of (wr := [(p, .inr (6, [.ref bk, .ref a])), (bk, .inr (5, [.ref ra, .ref pa, .int (bI pr), .int (nI rc), .int (nI 0), .int (nI dp)]))]) [1, 2, 3, 4, 5, 6] [0, 7] rfl rfl rfl rfl (by decide)) PP) d_Parser_takeLayer_12 lk_Parser_49 mw_Tokens_advance vw_Tokens_advance (q0 := 0) rfl rfl (fit_of hR (by first | decide | (simp only [rmk]; omega)) (by first | decide | (simp only [rmk]; omega)) (by first | decide | (simp only [rmk]; omega)) (by first | decide | (simp only [rmk]; omega))) rfl (cat8 (Nat.le_of_ble_eq_true rfl)) (As := []) (rest := []) rfl (fun r_12 w_12 hp_12 => ?_)
  obtain ⟨tk_12, ou_12, nx2_12, rfl, rfl, hx_12, hO2_12, hc2_12, ho2_12⟩ := hp_12
  refine r_swap ?_
  refine r_afterP (X := [(p, .inr (6, [.ref bk, .ref a])), (bk, .inr (5, [.ref ra, .ref pa, .int (bI pr), .int (nI rc), .int (nI 0), .int (nI dp)])), (a, .inr (2, [.ref t, .ref zs, .ref zb, .ref ze, .ref zv, .ref zw, .int (nI cnt), .int (nI nx2_12), .int (nI tk_12.1), .int (nI tk_12.2.1), .int (nI ee), .int (oI tk_12.2.2.2.1), va_rf (wR g tk_12.2.2.2.2)])), (zs, .inl (g.2.1 0, 2001, .inl (aI ZS))), (zb, .inl (g.2.1 0, 2001, .inl (aI ZB))), (ze, .inl (g.2.1 0, 2001, .inl (aI ZE))), (zv, .inl (g.2.1 0, 2001, .inl (oA ZV))), (zw, .inl (g.2.1 6, 2001, .inr (.inr (.inr (.inr ZW)))))]) (X' := [(p, .inr (6, [.ref bk, .ref a])), (a, .inr (2, [.ref t, .ref zs, .ref zb, .ref ze, .ref zv, .ref zw, .int (nI cnt), .int (nI nx2_12), .int (nI tk_12.1), .int (nI tk_12.2.1), .int (nI ee), .int (oI tk_12.2.2.2.1), va_rf (wR g tk_12.2.2.2.2)])), (zs, .inl (g.2.1 0, 2001, .inl (aI ZS))), (zb, .inl (g.2.1 0, 2001, .inl (aI ZB))), (ze, .inl (g.2.1 0, 2001, .inl (aI ZE))), (zv, .inl (g.2.1 0, 2001, .inl (oA ZV))), (zw, .inl (g.2.1 6, 2001, .inr (.inr (.inr (.inr ZW))))), (bk, .inr (5, [.ref ra, .ref pa, .int (bI pr), .int (nI rc), .int (nI 0), .int (nI dp)]))]) (pl := PP) (st' := []) (n1 := 0) (n2 := 0) [0, 2, 3, 4, 5, 6, 7, 1] rfl rfl rfl rfl rfl rfl ?_
  refine r_iconst C ((-1)) d_Parser_takeLayer_15 (by decide) ?_
  refine r_istore_n C (lv' := [(3, .int (-1)), (2, .ref (g.2.2.1 w)), (0, .ref p), (1, va_rf ar)]) d_Parser_takeLayer_16 rfl (by decide) rfl ?_
  refine r_iconst C ((-1)) d_Parser_takeLayer_17 (by decide) ?_
  refine r_istore C (lv' := [(4, .int (-1)), (3, .int (-1)), (2, .ref (g.2.2.1 w)), (0, .ref p), (1, va_rf ar)]) d_Parser_takeLayer_18 (by decide) rfl ?_
  rcases (show w = 4 ∨ w = 7 ∨ (w ≠ 4 ∧ w ≠ 7) by omega) with rfl | rfl | hno
  · skip
    refine r_aload_n C 2 d_Parser_takeLayer_20 rfl rfl ?_
    refine r_gets C d_Parser_takeLayer_21 ((C.2.2.2.2.2.2.2.1.1.1 4 (by decide)).1) fs_Parser_94 ?_
    refine r_acmp_eq C (r1 := some (g.2.2.1 4)) (r2 := some (g.2.2.1 4)) 34 d_Parser_takeLayer_24 (by decide) (fun c_24 => ?_) (fun c_24 => ?_)
    · skip
      refine r_aload_n C 3 d_Parser_takeLayer_34 rfl rfl ?_
      refine r_iconst C (nI 1) d_Parser_takeLayer_35 (by decide) ?_
      refine r_aload_n C 2 d_Parser_takeLayer_36 rfl rfl ?_
      refine r_gets C d_Parser_takeLayer_37 ((C.2.2.2.2.2.2.2.1.1.1 4 (by decide)).1) fs_Parser_94 ?_
      refine r_acmp_ne C (r1 := some (g.2.2.1 4)) (r2 := some (g.2.2.1 4)) 48 d_Parser_takeLayer_40 (by decide) (fun c_40 => ?_) (fun c_40 => ?_)
      · exact absurd rfl c_40
      · skip
        refine r_bipush C (nI 16) d_Parser_takeLayer_43 (by decide) ?_
        refine r_goto C 51 d_Parser_takeLayer_45 (by decide) ?_
        refine j_callV C (c_Parser_takeNumber g (xl x) (p := p) (bk := bk) (ra := ra) (pa := pa) (k := k) (so := tk_12.1) (sta := tk_12.2.1) (en := tk_12.2.2.1) (ee := ee) (rc := rc) (dp := dp) (a := a) (t := t) (zs := zs) (zb := zb) (ze := ze) (zv := zv) (zw := zw) (cnt := cnt) (nx := nx2_12) (T := T) (ZS := ZS) (ZB := ZB) (ZE := ZE) (ZV := ZV) (ZW := ZW) (v := tk_12.2.2.2.1) (wd := tk_12.2.2.2.2) (pr := pr) (out := ou_12) (lo := 1) (hi := 16) (by first | assumption | rfl | omega) (by first | assumption | rfl | omega) (by first | assumption | rfl | omega) (by first | assumption | rfl | omega) (by first | assumption | rfl | omega) (by first | assumption | rfl | omega) (by first | assumption | rfl | omega) (by first | assumption | rfl | omega)) (Sp.keep (Sp.of (wr := []) [0, 1, 2, 3, 4, 5, 6, 7] [] rfl rfl rfl rfl (by decide)) PP) d_Parser_takeLayer_51 lk_Parser_100 mw_Parser_takeNumber vw_Parser_takeNumber (q0 := 0) rfl rfl (fit_of hR (by first | decide | (simp only [rmk]; omega)) (by first | decide | (simp only [rmk]; omega)) (by first | decide | (simp only [rmk]; omega)) (by first | decide | (simp only [rmk]; omega))) rfl (cat8 (Nat.le_of_ble_eq_true rfl)) (As := [.int (nI 1), .int (nI 16)]) (rest := []) rfl (fun r_51 w_51 hp_51 => ?_)
        obtain ⟨nr_51, tk_51, ou_51, nx2_51, rfl, rfl, hx_51, hb_51, hO2_51, hc2_51, ho2_51⟩ := hp_51
        refine r_swap ?_
        refine r_afterP (X := [(p, .inr (6, [.ref bk, .ref a])), (a, .inr (2, [.ref t, .ref zs, .ref zb, .ref ze, .ref zv, .ref zw, .int (nI cnt), .int (nI nx2_51), .int (nI tk_51.1), .int (nI tk_51.2.1), .int (nI ee), .int (oI tk_51.2.2.2.1), va_rf (wR g tk_51.2.2.2.2)])), (zs, .inl (g.2.1 0, 2001, .inl (aI ZS))), (zb, .inl (g.2.1 0, 2001, .inl (aI ZB))), (ze, .inl (g.2.1 0, 2001, .inl (aI ZE))), (zv, .inl (g.2.1 0, 2001, .inl (oA ZV))), (zw, .inl (g.2.1 6, 2001, .inr (.inr (.inr (.inr ZW))))), (bk, .inr (5, [.ref ra, .ref pa, .int (bI pr), .int (nI rc), .int (nI 0), .int (nI dp)]))]) (X' := [(p, .inr (6, [.ref bk, .ref a])), (a, .inr (2, [.ref t, .ref zs, .ref zb, .ref ze, .ref zv, .ref zw, .int (nI cnt), .int (nI nx2_51), .int (nI tk_51.1), .int (nI tk_51.2.1), .int (nI ee), .int (oI tk_51.2.2.2.1), va_rf (wR g tk_51.2.2.2.2)])), (zs, .inl (g.2.1 0, 2001, .inl (aI ZS))), (zb, .inl (g.2.1 0, 2001, .inl (aI ZB))), (ze, .inl (g.2.1 0, 2001, .inl (aI ZE))), (zv, .inl (g.2.1 0, 2001, .inl (oA ZV))), (zw, .inl (g.2.1 6, 2001, .inr (.inr (.inr (.inr ZW))))), (bk, .inr (5, [.ref ra, .ref pa, .int (bI pr), .int (nI rc), .int (nI 0), .int (nI dp)]))]) (pl := PP) (st' := [.int (oI nr_51)]) (n1 := 0) (n2 := 0) [0, 1, 2, 3, 4, 5, 6, 7] rfl rfl rfl rfl rfl rfl ?_
        refine r_istore_n C (lv' := [(3, .int (oI nr_51)), (4, .int (-1)), (2, .ref (g.2.2.1 4)), (0, .ref p), (1, va_rf ar)]) d_Parser_takeLayer_54 rfl (by decide) rfl ?_
        refine r_iload_n C 0 d_Parser_takeLayer_55 rfl rfl ?_
        refine r_iconst C ((-1)) d_Parser_takeLayer_56 (by decide) ?_
        refine r_ocmp_ne C 62 d_Parser_takeLayer_57 (by decide) (by assumption) (fun c_57 => ?_) (fun c_57 => ?_)
        · obtain ⟨v_57, rfl⟩ := c_57
          refine r_norm2 (ws' := [(p, .inr (6, [.ref bk, .ref a])), (a, .inr (2, [.ref t, .ref zs, .ref zb, .ref ze, .ref zv, .ref zw, .int (nI cnt), .int (nI nx2_51), .int (nI tk_51.1), .int (nI tk_51.2.1), .int (nI ee), .int (oI tk_51.2.2.2.1), va_rf (wR g tk_51.2.2.2.2)])), (zs, .inl (g.2.1 0, 2001, .inl (aI ZS))), (zb, .inl (g.2.1 0, 2001, .inl (aI ZB))), (ze, .inl (g.2.1 0, 2001, .inl (aI ZE))), (zv, .inl (g.2.1 0, 2001, .inl (oA ZV))), (zw, .inl (g.2.1 6, 2001, .inr (.inr (.inr (.inr ZW))))), (bk, .inr (5, [.ref ra, .ref pa, .int (bI pr), .int (nI rc), .int (nI 0), .int (nI dp)]))] ++ PP) (st' := []) (lv' := [(3, .int (nI v_57)), (4, .int (-1)), (2, .ref (g.2.2.1 4)), (0, .ref p), (1, va_rf ar)]) rfl rfl rfl ?_
          refine r_aload_n C 2 d_Parser_takeLayer_62 rfl rfl ?_
          refine r_gets C d_Parser_takeLayer_63 ((C.2.2.2.2.2.2.2.1.1.1 4 (by decide)).1) fs_Parser_94 ?_
          refine r_acmp_ne C (r1 := some (g.2.2.1 4)) (r2 := some (g.2.2.1 4)) 86 d_Parser_takeLayer_66 (by decide) (fun c_66 => ?_) (fun c_66 => ?_)
          · exact absurd rfl c_66
          · skip
            refine r_aload_n C 3 d_Parser_takeLayer_69 rfl rfl ?_
            refine r_iconst C (nI 1) d_Parser_takeLayer_70 (by decide) ?_
            refine r_bipush C (nI 16) d_Parser_takeLayer_71 (by decide) ?_
            refine j_callV C (c_Parser_takeNumber g (xl x) (p := p) (bk := bk) (ra := ra) (pa := pa) (k := k) (so := tk_51.1) (sta := tk_51.2.1) (en := tk_51.2.2.1) (ee := ee) (rc := rc) (dp := dp) (a := a) (t := t) (zs := zs) (zb := zb) (ze := ze) (zv := zv) (zw := zw) (cnt := cnt) (nx := nx2_51) (T := T) (ZS := ZS) (ZB := ZB) (ZE := ZE) (ZV := ZV) (ZW := ZW) (v := tk_51.2.2.2.1) (wd := tk_51.2.2.2.2) (pr := pr) (out := ou_51) (lo := 1) (hi := 16) (by first | assumption | rfl | omega) (by first | assumption | rfl | omega) (by first | assumption | rfl | omega) (by first | assumption | rfl | omega) (by first | assumption | rfl | omega) (by first | assumption | rfl | omega) (by first | assumption | rfl | omega) (by first | assumption | rfl | omega)) (Sp.keep (Sp.of (wr := []) [0, 1, 2, 3, 4, 5, 6, 7] [] rfl rfl rfl rfl (by decide)) PP) d_Parser_takeLayer_73 lk_Parser_100 mw_Parser_takeNumber vw_Parser_takeNumber (q0 := 0) rfl rfl (fit_of hR (by first | decide | (simp only [rmk]; omega)) (by first | decide | (simp only [rmk]; omega)) (by first | decide | (simp only [rmk]; omega)) (by first | decide | (simp only [rmk]; omega))) rfl (cat8 (Nat.le_of_ble_eq_true rfl)) (As := [.int (nI 1), .int (nI 16)]) (rest := []) rfl (fun r_73 w_73 hp_73 => ?_)
            obtain ⟨nr_73, tk_73, ou_73, nx2_73, rfl, rfl, hx_73, hb_73, hO2_73, hc2_73, ho2_73⟩ := hp_73
            refine r_swap ?_
            refine r_afterP (X := [(p, .inr (6, [.ref bk, .ref a])), (a, .inr (2, [.ref t, .ref zs, .ref zb, .ref ze, .ref zv, .ref zw, .int (nI cnt), .int (nI nx2_73), .int (nI tk_73.1), .int (nI tk_73.2.1), .int (nI ee), .int (oI tk_73.2.2.2.1), va_rf (wR g tk_73.2.2.2.2)])), (zs, .inl (g.2.1 0, 2001, .inl (aI ZS))), (zb, .inl (g.2.1 0, 2001, .inl (aI ZB))), (ze, .inl (g.2.1 0, 2001, .inl (aI ZE))), (zv, .inl (g.2.1 0, 2001, .inl (oA ZV))), (zw, .inl (g.2.1 6, 2001, .inr (.inr (.inr (.inr ZW))))), (bk, .inr (5, [.ref ra, .ref pa, .int (bI pr), .int (nI rc), .int (nI 0), .int (nI dp)]))]) (X' := [(p, .inr (6, [.ref bk, .ref a])), (a, .inr (2, [.ref t, .ref zs, .ref zb, .ref ze, .ref zv, .ref zw, .int (nI cnt), .int (nI nx2_73), .int (nI tk_73.1), .int (nI tk_73.2.1), .int (nI ee), .int (oI tk_73.2.2.2.1), va_rf (wR g tk_73.2.2.2.2)])), (zs, .inl (g.2.1 0, 2001, .inl (aI ZS))), (zb, .inl (g.2.1 0, 2001, .inl (aI ZB))), (ze, .inl (g.2.1 0, 2001, .inl (aI ZE))), (zv, .inl (g.2.1 0, 2001, .inl (oA ZV))), (zw, .inl (g.2.1 6, 2001, .inr (.inr (.inr (.inr ZW))))), (bk, .inr (5, [.ref ra, .ref pa, .int (bI pr), .int (nI rc), .int (nI 0), .int (nI dp)]))]) (pl := PP) (st' := [.int (oI nr_73)]) (n1 := 0) (n2 := 0) [0, 1, 2, 3, 4, 5, 6, 7] rfl rfl rfl rfl rfl rfl ?_
            refine r_istore C (lv' := [(4, .int (oI nr_73)), (3, .int (nI v_57)), (2, .ref (g.2.2.1 4)), (0, .ref p), (1, va_rf ar)]) d_Parser_takeLayer_76 (by decide) rfl ?_
            refine r_iload C 0 d_Parser_takeLayer_78 rfl ?_
            refine r_iconst C ((-1)) d_Parser_takeLayer_80 (by decide) ?_
            refine r_ocmp_ne C 86 d_Parser_takeLayer_81 (by decide) (by assumption) (fun c_81 => ?_) (fun c_81 => ?_)
            · obtain ⟨v_81, rfl⟩ := c_81
              refine r_norm2 (ws' := [(p, .inr (6, [.ref bk, .ref a])), (a, .inr (2, [.ref t, .ref zs, .ref zb, .ref ze, .ref zv, .ref zw, .int (nI cnt), .int (nI nx2_73), .int (nI tk_73.1), .int (nI tk_73.2.1), .int (nI ee), .int (oI tk_73.2.2.2.1), va_rf (wR g tk_73.2.2.2.2)])), (zs, .inl (g.2.1 0, 2001, .inl (aI ZS))), (zb, .inl (g.2.1 0, 2001, .inl (aI ZB))), (ze, .inl (g.2.1 0, 2001, .inl (aI ZE))), (zv, .inl (g.2.1 0, 2001, .inl (oA ZV))), (zw, .inl (g.2.1 6, 2001, .inr (.inr (.inr (.inr ZW))))), (bk, .inr (5, [.ref ra, .ref pa, .int (bI pr), .int (nI rc), .int (nI 0), .int (nI dp)]))] ++ PP) (st' := []) (lv' := [(4, .int (nI v_81)), (3, .int (nI v_57)), (2, .ref (g.2.2.1 4)), (0, .ref p), (1, va_rf ar)]) rfl rfl rfl ?_
              refine r_new C d_Parser_takeLayer_86 ci_Layer cl_Parser_103 in_Layer iz_Layer (fs := [.null, .int (nI 0), .int (nI 0), .null, .int (nI 0)]) (by intro j hj; rcases (show j = 0 ∨ j = 1 ∨ j = 2 ∨ j = 3 ∨ j = 4 by omega) with rfl | rfl | rfl | rfl | rfl <;> rfl) (by rw [hR]; decide) (by rw [hR]; decide) (fun q_86 => ?_)
              refine r_swap ?_
              refine r_norm (ws' := [(p, .inr (6, [.ref bk, .ref a])), (a, .inr (2, [.ref t, .ref zs, .ref zb, .ref ze, .ref zv, .ref zw, .int (nI cnt), .int (nI nx2_73), .int (nI tk_73.1), .int (nI tk_73.2.1), .int (nI ee), .int (oI tk_73.2.2.2.1), va_rf (wR g tk_73.2.2.2.2)])), (zs, .inl (g.2.1 0, 2001, .inl (aI ZS))), (zb, .inl (g.2.1 0, 2001, .inl (aI ZB))), (ze, .inl (g.2.1 0, 2001, .inl (aI ZE))), (zv, .inl (g.2.1 0, 2001, .inl (oA ZV))), (zw, .inl (g.2.1 6, 2001, .inr (.inr (.inr (.inr ZW))))), (bk, .inr (5, [.ref ra, .ref pa, .int (bI pr), .int (nI rc), .int (nI 0), .int (nI dp)])), (q_86, .inr (3, [.null, .int (nI 0), .int (nI 0), .null, .int (nI 0)]))] ++ PP) (st' := [.ref q_86]) (n1 := 0 + 1) (n2 := 0 + 5) rfl rfl rfl rfl ?_
              refine r_dup C d_Parser_takeLayer_89 rfl ?_
              refine r_aload_n C 2 d_Parser_takeLayer_90 rfl rfl ?_
              refine r_iload_n C 1 d_Parser_takeLayer_91 rfl rfl ?_
              refine r_iload C 0 d_Parser_takeLayer_92 rfl ?_
              refine r_aload_nQ C 4 d_Parser_takeLayer_94 rfl rfl ?_
              refine j_callI C (c_Layer_init g (xl x) (y := q_86) (u := 4) (lev := ls.length) (f := some v_57) (s := some v_81) (ou := ar) (PP := PP) (chain_lev hch) (chain_nil hch)) (Sp.pool (Sp.of (wr := [(p, .inr (6, [.ref bk, .ref a])), (a, .inr (2, [.ref t, .ref zs, .ref zb, .ref ze, .ref zv, .ref zw, .int (nI cnt), .int (nI nx2_73), .int (nI tk_73.1), .int (nI tk_73.2.1), .int (nI ee), .int (oI tk_73.2.2.2.1), va_rf (wR g tk_73.2.2.2.2)])), (zs, .inl (g.2.1 0, 2001, .inl (aI ZS))), (zb, .inl (g.2.1 0, 2001, .inl (aI ZB))), (ze, .inl (g.2.1 0, 2001, .inl (aI ZE))), (zv, .inl (g.2.1 0, 2001, .inl (oA ZV))), (zw, .inl (g.2.1 6, 2001, .inr (.inr (.inr (.inr ZW))))), (bk, .inr (5, [.ref ra, .ref pa, .int (bI pr), .int (nI rc), .int (nI 0), .int (nI dp)]))]) [8] [0, 1, 2, 3, 4, 5, 6, 7] rfl rfl rfl rfl (by decide)) PP) d_Parser_takeLayer_95 lk_Parser_105 mw_Layer_init rfl im_Layer_init (fit_of hR (by first | decide | (simp only [rmk]; omega)) (by first | decide | (simp only [rmk]; omega)) (by first | decide | (simp only [rmk]; omega)) (by first | decide | (simp only [rmk]; omega))) rfl (cat8 (Nat.le_of_ble_eq_true rfl)) (As := [.ref (g.2.2.1 4), .int (nI v_57), .int (nI v_81), va_rf ar]) (rest := [.ref q_86]) rfl (fun r_95 w_95 hp_95 => ?_)
              obtain ⟨rfl, rfl⟩ := hp_95
              refine r_afterP (X := [(p, .inr (6, [.ref bk, .ref a])), (a, .inr (2, [.ref t, .ref zs, .ref zb, .ref ze, .ref zv, .ref zw, .int (nI cnt), .int (nI nx2_73), .int (nI tk_73.1), .int (nI tk_73.2.1), .int (nI ee), .int (oI tk_73.2.2.2.1), va_rf (wR g tk_73.2.2.2.2)])), (zs, .inl (g.2.1 0, 2001, .inl (aI ZS))), (zb, .inl (g.2.1 0, 2001, .inl (aI ZB))), (ze, .inl (g.2.1 0, 2001, .inl (aI ZE))), (zv, .inl (g.2.1 0, 2001, .inl (oA ZV))), (zw, .inl (g.2.1 6, 2001, .inr (.inr (.inr (.inr ZW))))), (bk, .inr (5, [.ref ra, .ref pa, .int (bI pr), .int (nI rc), .int (nI 0), .int (nI dp)])), (q_86, .inr (3, [.ref (g.2.2.1 4), .int (oI (some v_57)), .int (oI (some v_81)), va_rf ar, .int (nI (ls.length + 1))]))]) (X' := [(p, .inr (6, [.ref bk, .ref a])), (a, .inr (2, [.ref t, .ref zs, .ref zb, .ref ze, .ref zv, .ref zw, .int (nI cnt), .int (nI nx2_73), .int (nI tk_73.1), .int (nI tk_73.2.1), .int (nI ee), .int (oI tk_73.2.2.2.1), va_rf (wR g tk_73.2.2.2.2)])), (zs, .inl (g.2.1 0, 2001, .inl (aI ZS))), (zb, .inl (g.2.1 0, 2001, .inl (aI ZB))), (ze, .inl (g.2.1 0, 2001, .inl (aI ZE))), (zv, .inl (g.2.1 0, 2001, .inl (oA ZV))), (zw, .inl (g.2.1 6, 2001, .inr (.inr (.inr (.inr ZW))))), (bk, .inr (5, [.ref ra, .ref pa, .int (bI pr), .int (nI rc), .int (nI 0), .int (nI dp)])), (q_86, .inr (3, [.ref (g.2.2.1 4), .int (oI (some v_57)), .int (oI (some v_81)), va_rf ar, .int (nI (ls.length + 1))]))]) (pl := PP) (st' := [.ref q_86]) (n1 := 0 + 1) (n2 := 0 + 5) [0, 1, 2, 3, 4, 5, 6, 7, 8] rfl rfl rfl rfl rfl rfl ?_
              refine r_eqS (st' := [va_rf (some q_86)]) rfl (r_aret C E d_Parser_takeLayer_98 (by first | decide | omega | (simp only [rmk]; omega)) (by first | decide | omega | (simp only [rmk]; omega)) ?_)
              exact ⟨some (4, some v_57, some v_81), some q_86, _, _, _, _, rfl, rfl, (pLay_4 hx_12 hx_51 hx_73).symm, ⟨q_86, rfl, chain_new hch (by decide) (List.mem_cons_self)⟩, fun q hq => List.mem_cons_of_mem _ hq, hO2_73, hc2_73, ho2_73⟩
            · subst c_81
              refine r_norm2 (ws' := [(p, .inr (6, [.ref bk, .ref a])), (a, .inr (2, [.ref t, .ref zs, .ref zb, .ref ze, .ref zv, .ref zw, .int (nI cnt), .int (nI nx2_73), .int (nI tk_73.1), .int (nI tk_73.2.1), .int (nI ee), .int (oI tk_73.2.2.2.1), va_rf (wR g tk_73.2.2.2.2)])), (zs, .inl (g.2.1 0, 2001, .inl (aI ZS))), (zb, .inl (g.2.1 0, 2001, .inl (aI ZB))), (ze, .inl (g.2.1 0, 2001, .inl (aI ZE))), (zv, .inl (g.2.1 0, 2001, .inl (oA ZV))), (zw, .inl (g.2.1 6, 2001, .inr (.inr (.inr (.inr ZW))))), (bk, .inr (5, [.ref ra, .ref pa, .int (bI pr), .int (nI rc), .int (nI 0), .int (nI dp)]))] ++ PP) (st' := []) (lv' := [(4, .int (-1)), (3, .int (nI v_57)), (2, .ref (g.2.2.1 4)), (0, .ref p), (1, va_rf ar)]) rfl rfl rfl ?_
              refine r_null C d_Parser_takeLayer_84 ?_
              refine r_eqS (st' := [va_rf (none)]) rfl (r_aret C E d_Parser_takeLayer_85 (by first | decide | omega | (simp only [rmk]; omega)) (by first | decide | omega | (simp only [rmk]; omega)) ?_)
              exact ⟨none, none, PP, _, _, _, rfl, rfl, (pLay_4m hx_12 hx_51 hx_73).symm, rfl, fun _ h => h, hO2_73, hc2_73, ho2_73⟩
        · subst c_57
          refine r_norm2 (ws' := [(p, .inr (6, [.ref bk, .ref a])), (a, .inr (2, [.ref t, .ref zs, .ref zb, .ref ze, .ref zv, .ref zw, .int (nI cnt), .int (nI nx2_51), .int (nI tk_51.1), .int (nI tk_51.2.1), .int (nI ee), .int (oI tk_51.2.2.2.1), va_rf (wR g tk_51.2.2.2.2)])), (zs, .inl (g.2.1 0, 2001, .inl (aI ZS))), (zb, .inl (g.2.1 0, 2001, .inl (aI ZB))), (ze, .inl (g.2.1 0, 2001, .inl (aI ZE))), (zv, .inl (g.2.1 0, 2001, .inl (oA ZV))), (zw, .inl (g.2.1 6, 2001, .inr (.inr (.inr (.inr ZW))))), (bk, .inr (5, [.ref ra, .ref pa, .int (bI pr), .int (nI rc), .int (nI 0), .int (nI dp)]))] ++ PP) (st' := []) (lv' := [(3, .int (-1)), (4, .int (-1)), (2, .ref (g.2.2.1 4)), (0, .ref p), (1, va_rf ar)]) rfl rfl rfl ?_
          refine r_null C d_Parser_takeLayer_60 ?_
          refine r_eqS (st' := [va_rf (none)]) rfl (r_aret C E d_Parser_takeLayer_61 (by first | decide | omega | (simp only [rmk]; omega)) (by first | decide | omega | (simp only [rmk]; omega)) ?_)
          exact ⟨none, none, PP, _, _, _, rfl, rfl, (pLay_4n hx_12 hx_51).symm, rfl, fun _ h => h, hO2_51, hc2_51, ho2_51⟩
    · exact absurd rfl c_24
  · skip
    refine r_aload_n C 2 d_Parser_takeLayer_20 rfl rfl ?_
    refine r_gets C d_Parser_takeLayer_21 ((C.2.2.2.2.2.2.2.1.1.1 4 (by decide)).1) fs_Parser_94 ?_
    refine r_acmp_eq C (r1 := some (g.2.2.1 7)) (r2 := some (g.2.2.1 4)) 34 d_Parser_takeLayer_24 (by decide) (fun c_24 => ?_) (fun c_24 => ?_)
    · exact absurd (wE C.2.2.2.2.2.2.2.1.1.2 (by decide) (by decide) c_24) (by decide)
    · skip
      refine r_aload_n C 2 d_Parser_takeLayer_27 rfl rfl ?_
      refine r_gets C d_Parser_takeLayer_28 ((C.2.2.2.2.2.2.2.1.1.1 7 (by decide)).1) fs_Parser_97 ?_
      refine r_acmp_ne C (r1 := some (g.2.2.1 7)) (r2 := some (g.2.2.1 7)) 62 d_Parser_takeLayer_31 (by decide) (fun c_31 => ?_) (fun c_31 => ?_)
      · exact absurd rfl c_31
      · skip
        refine r_aload_n C 3 d_Parser_takeLayer_34 rfl rfl ?_
        refine r_iconst C (nI 1) d_Parser_takeLayer_35 (by decide) ?_
        refine r_aload_n C 2 d_Parser_takeLayer_36 rfl rfl ?_
        refine r_gets C d_Parser_takeLayer_37 ((C.2.2.2.2.2.2.2.1.1.1 4 (by decide)).1) fs_Parser_94 ?_
        refine r_acmp_ne C (r1 := some (g.2.2.1 7)) (r2 := some (g.2.2.1 4)) 48 d_Parser_takeLayer_40 (by decide) (fun c_40 => ?_) (fun c_40 => ?_)
        · skip
          refine r_sipush C (nI 256) d_Parser_takeLayer_48 (by decide) ?_
          refine j_callV C (c_Parser_takeNumber g (xl x) (p := p) (bk := bk) (ra := ra) (pa := pa) (k := k) (so := tk_12.1) (sta := tk_12.2.1) (en := tk_12.2.2.1) (ee := ee) (rc := rc) (dp := dp) (a := a) (t := t) (zs := zs) (zb := zb) (ze := ze) (zv := zv) (zw := zw) (cnt := cnt) (nx := nx2_12) (T := T) (ZS := ZS) (ZB := ZB) (ZE := ZE) (ZV := ZV) (ZW := ZW) (v := tk_12.2.2.2.1) (wd := tk_12.2.2.2.2) (pr := pr) (out := ou_12) (lo := 1) (hi := 256) (by first | assumption | rfl | omega) (by first | assumption | rfl | omega) (by first | assumption | rfl | omega) (by first | assumption | rfl | omega) (by first | assumption | rfl | omega) (by first | assumption | rfl | omega) (by first | assumption | rfl | omega) (by first | assumption | rfl | omega)) (Sp.keep (Sp.of (wr := []) [0, 1, 2, 3, 4, 5, 6, 7] [] rfl rfl rfl rfl (by decide)) PP) d_Parser_takeLayer_51 lk_Parser_100 mw_Parser_takeNumber vw_Parser_takeNumber (q0 := 0) rfl rfl (fit_of hR (by first | decide | (simp only [rmk]; omega)) (by first | decide | (simp only [rmk]; omega)) (by first | decide | (simp only [rmk]; omega)) (by first | decide | (simp only [rmk]; omega))) rfl (cat8 (Nat.le_of_ble_eq_true rfl)) (As := [.int (nI 1), .int (nI 256)]) (rest := []) rfl (fun r_51 w_51 hp_51 => ?_)
          obtain ⟨nr_51, tk_51, ou_51, nx2_51, rfl, rfl, hx_51, hb_51, hO2_51, hc2_51, ho2_51⟩ := hp_51
          refine r_swap ?_
          refine r_afterP (X := [(p, .inr (6, [.ref bk, .ref a])), (a, .inr (2, [.ref t, .ref zs, .ref zb, .ref ze, .ref zv, .ref zw, .int (nI cnt), .int (nI nx2_51), .int (nI tk_51.1), .int (nI tk_51.2.1), .int (nI ee), .int (oI tk_51.2.2.2.1), va_rf (wR g tk_51.2.2.2.2)])), (zs, .inl (g.2.1 0, 2001, .inl (aI ZS))), (zb, .inl (g.2.1 0, 2001, .inl (aI ZB))), (ze, .inl (g.2.1 0, 2001, .inl (aI ZE))), (zv, .inl (g.2.1 0, 2001, .inl (oA ZV))), (zw, .inl (g.2.1 6, 2001, .inr (.inr (.inr (.inr ZW))))), (bk, .inr (5, [.ref ra, .ref pa, .int (bI pr), .int (nI rc), .int (nI 0), .int (nI dp)]))]) (X' := [(p, .inr (6, [.ref bk, .ref a])), (a, .inr (2, [.ref t, .ref zs, .ref zb, .ref ze, .ref zv, .ref zw, .int (nI cnt), .int (nI nx2_51), .int (nI tk_51.1), .int (nI tk_51.2.1), .int (nI ee), .int (oI tk_51.2.2.2.1), va_rf (wR g tk_51.2.2.2.2)])), (zs, .inl (g.2.1 0, 2001, .inl (aI ZS))), (zb, .inl (g.2.1 0, 2001, .inl (aI ZB))), (ze, .inl (g.2.1 0, 2001, .inl (aI ZE))), (zv, .inl (g.2.1 0, 2001, .inl (oA ZV))), (zw, .inl (g.2.1 6, 2001, .inr (.inr (.inr (.inr ZW))))), (bk, .inr (5, [.ref ra, .ref pa, .int (bI pr), .int (nI rc), .int (nI 0), .int (nI dp)]))]) (pl := PP) (st' := [.int (oI nr_51)]) (n1 := 0) (n2 := 0) [0, 1, 2, 3, 4, 5, 6, 7] rfl rfl rfl rfl rfl rfl ?_
          refine r_istore_n C (lv' := [(3, .int (oI nr_51)), (4, .int (-1)), (2, .ref (g.2.2.1 7)), (0, .ref p), (1, va_rf ar)]) d_Parser_takeLayer_54 rfl (by decide) rfl ?_
          refine r_iload_n C 0 d_Parser_takeLayer_55 rfl rfl ?_
          refine r_iconst C ((-1)) d_Parser_takeLayer_56 (by decide) ?_
          refine r_ocmp_ne C 62 d_Parser_takeLayer_57 (by decide) (by assumption) (fun c_57 => ?_) (fun c_57 => ?_)
          · obtain ⟨v_57, rfl⟩ := c_57
            refine r_norm2 (ws' := [(p, .inr (6, [.ref bk, .ref a])), (a, .inr (2, [.ref t, .ref zs, .ref zb, .ref ze, .ref zv, .ref zw, .int (nI cnt), .int (nI nx2_51), .int (nI tk_51.1), .int (nI tk_51.2.1), .int (nI ee), .int (oI tk_51.2.2.2.1), va_rf (wR g tk_51.2.2.2.2)])), (zs, .inl (g.2.1 0, 2001, .inl (aI ZS))), (zb, .inl (g.2.1 0, 2001, .inl (aI ZB))), (ze, .inl (g.2.1 0, 2001, .inl (aI ZE))), (zv, .inl (g.2.1 0, 2001, .inl (oA ZV))), (zw, .inl (g.2.1 6, 2001, .inr (.inr (.inr (.inr ZW))))), (bk, .inr (5, [.ref ra, .ref pa, .int (bI pr), .int (nI rc), .int (nI 0), .int (nI dp)]))] ++ PP) (st' := []) (lv' := [(3, .int (nI v_57)), (4, .int (-1)), (2, .ref (g.2.2.1 7)), (0, .ref p), (1, va_rf ar)]) rfl rfl rfl ?_
            refine r_aload_n C 2 d_Parser_takeLayer_62 rfl rfl ?_
            refine r_gets C d_Parser_takeLayer_63 ((C.2.2.2.2.2.2.2.1.1.1 4 (by decide)).1) fs_Parser_94 ?_
            refine r_acmp_ne C (r1 := some (g.2.2.1 7)) (r2 := some (g.2.2.1 4)) 86 d_Parser_takeLayer_66 (by decide) (fun c_66 => ?_) (fun c_66 => ?_)
            · skip
              refine r_new C d_Parser_takeLayer_86 ci_Layer cl_Parser_103 in_Layer iz_Layer (fs := [.null, .int (nI 0), .int (nI 0), .null, .int (nI 0)]) (by intro j hj; rcases (show j = 0 ∨ j = 1 ∨ j = 2 ∨ j = 3 ∨ j = 4 by omega) with rfl | rfl | rfl | rfl | rfl <;> rfl) (by rw [hR]; decide) (by rw [hR]; decide) (fun q_86 => ?_)
              refine r_swap ?_
              refine r_norm (ws' := [(p, .inr (6, [.ref bk, .ref a])), (a, .inr (2, [.ref t, .ref zs, .ref zb, .ref ze, .ref zv, .ref zw, .int (nI cnt), .int (nI nx2_51), .int (nI tk_51.1), .int (nI tk_51.2.1), .int (nI ee), .int (oI tk_51.2.2.2.1), va_rf (wR g tk_51.2.2.2.2)])), (zs, .inl (g.2.1 0, 2001, .inl (aI ZS))), (zb, .inl (g.2.1 0, 2001, .inl (aI ZB))), (ze, .inl (g.2.1 0, 2001, .inl (aI ZE))), (zv, .inl (g.2.1 0, 2001, .inl (oA ZV))), (zw, .inl (g.2.1 6, 2001, .inr (.inr (.inr (.inr ZW))))), (bk, .inr (5, [.ref ra, .ref pa, .int (bI pr), .int (nI rc), .int (nI 0), .int (nI dp)])), (q_86, .inr (3, [.null, .int (nI 0), .int (nI 0), .null, .int (nI 0)]))] ++ PP) (st' := [.ref q_86]) (n1 := 0 + 1) (n2 := 0 + 5) rfl rfl rfl rfl ?_
              refine r_dup C d_Parser_takeLayer_89 rfl ?_
              refine r_aload_n C 2 d_Parser_takeLayer_90 rfl rfl ?_
              refine r_iload_n C 0 d_Parser_takeLayer_91 rfl rfl ?_
              refine r_iload C 1 d_Parser_takeLayer_92 rfl ?_
              refine r_aload_nQ C 4 d_Parser_takeLayer_94 rfl rfl ?_
              refine j_callI C (c_Layer_init g (xl x) (y := q_86) (u := 7) (lev := ls.length) (f := some v_57) (s := none) (ou := ar) (PP := PP) (chain_lev hch) (chain_nil hch)) (Sp.pool (Sp.of (wr := [(p, .inr (6, [.ref bk, .ref a])), (a, .inr (2, [.ref t, .ref zs, .ref zb, .ref ze, .ref zv, .ref zw, .int (nI cnt), .int (nI nx2_51), .int (nI tk_51.1), .int (nI tk_51.2.1), .int (nI ee), .int (oI tk_51.2.2.2.1), va_rf (wR g tk_51.2.2.2.2)])), (zs, .inl (g.2.1 0, 2001, .inl (aI ZS))), (zb, .inl (g.2.1 0, 2001, .inl (aI ZB))), (ze, .inl (g.2.1 0, 2001, .inl (aI ZE))), (zv, .inl (g.2.1 0, 2001, .inl (oA ZV))), (zw, .inl (g.2.1 6, 2001, .inr (.inr (.inr (.inr ZW))))), (bk, .inr (5, [.ref ra, .ref pa, .int (bI pr), .int (nI rc), .int (nI 0), .int (nI dp)]))]) [8] [0, 1, 2, 3, 4, 5, 6, 7] rfl rfl rfl rfl (by decide)) PP) d_Parser_takeLayer_95 lk_Parser_105 mw_Layer_init rfl im_Layer_init (fit_of hR (by first | decide | (simp only [rmk]; omega)) (by first | decide | (simp only [rmk]; omega)) (by first | decide | (simp only [rmk]; omega)) (by first | decide | (simp only [rmk]; omega))) rfl (cat8 (Nat.le_of_ble_eq_true rfl)) (As := [.ref (g.2.2.1 7), .int (nI v_57), .int (-1), va_rf ar]) (rest := [.ref q_86]) rfl (fun r_95 w_95 hp_95 => ?_)
              obtain ⟨rfl, rfl⟩ := hp_95
              refine r_afterP (X := [(p, .inr (6, [.ref bk, .ref a])), (a, .inr (2, [.ref t, .ref zs, .ref zb, .ref ze, .ref zv, .ref zw, .int (nI cnt), .int (nI nx2_51), .int (nI tk_51.1), .int (nI tk_51.2.1), .int (nI ee), .int (oI tk_51.2.2.2.1), va_rf (wR g tk_51.2.2.2.2)])), (zs, .inl (g.2.1 0, 2001, .inl (aI ZS))), (zb, .inl (g.2.1 0, 2001, .inl (aI ZB))), (ze, .inl (g.2.1 0, 2001, .inl (aI ZE))), (zv, .inl (g.2.1 0, 2001, .inl (oA ZV))), (zw, .inl (g.2.1 6, 2001, .inr (.inr (.inr (.inr ZW))))), (bk, .inr (5, [.ref ra, .ref pa, .int (bI pr), .int (nI rc), .int (nI 0), .int (nI dp)])), (q_86, .inr (3, [.ref (g.2.2.1 7), .int (oI (some v_57)), .int (oI none), va_rf ar, .int (nI (ls.length + 1))]))]) (X' := [(p, .inr (6, [.ref bk, .ref a])), (a, .inr (2, [.ref t, .ref zs, .ref zb, .ref ze, .ref zv, .ref zw, .int (nI cnt), .int (nI nx2_51), .int (nI tk_51.1), .int (nI tk_51.2.1), .int (nI ee), .int (oI tk_51.2.2.2.1), va_rf (wR g tk_51.2.2.2.2)])), (zs, .inl (g.2.1 0, 2001, .inl (aI ZS))), (zb, .inl (g.2.1 0, 2001, .inl (aI ZB))), (ze, .inl (g.2.1 0, 2001, .inl (aI ZE))), (zv, .inl (g.2.1 0, 2001, .inl (oA ZV))), (zw, .inl (g.2.1 6, 2001, .inr (.inr (.inr (.inr ZW))))), (bk, .inr (5, [.ref ra, .ref pa, .int (bI pr), .int (nI rc), .int (nI 0), .int (nI dp)])), (q_86, .inr (3, [.ref (g.2.2.1 7), .int (oI (some v_57)), .int (oI none), va_rf ar, .int (nI (ls.length + 1))]))]) (pl := PP) (st' := [.ref q_86]) (n1 := 0 + 1) (n2 := 0 + 5) [0, 1, 2, 3, 4, 5, 6, 7, 8] rfl rfl rfl rfl rfl rfl ?_
              refine r_eqS (st' := [va_rf (some q_86)]) rfl (r_aret C E d_Parser_takeLayer_98 (by first | decide | omega | (simp only [rmk]; omega)) (by first | decide | omega | (simp only [rmk]; omega)) ?_)
              exact ⟨some (7, some v_57, none), some q_86, _, _, _, _, rfl, rfl, (pLay_7 hx_12 hx_51).symm, ⟨q_86, rfl, chain_new hch (by decide) (List.mem_cons_self)⟩, fun q hq => List.mem_cons_of_mem _ hq, hO2_51, hc2_51, ho2_51⟩
            · exact absurd (wE C.2.2.2.2.2.2.2.1.1.2 (by decide) (by decide) c_66) (by decide)
          · subst c_57
            refine r_norm2 (ws' := [(p, .inr (6, [.ref bk, .ref a])), (a, .inr (2, [.ref t, .ref zs, .ref zb, .ref ze, .ref zv, .ref zw, .int (nI cnt), .int (nI nx2_51), .int (nI tk_51.1), .int (nI tk_51.2.1), .int (nI ee), .int (oI tk_51.2.2.2.1), va_rf (wR g tk_51.2.2.2.2)])), (zs, .inl (g.2.1 0, 2001, .inl (aI ZS))), (zb, .inl (g.2.1 0, 2001, .inl (aI ZB))), (ze, .inl (g.2.1 0, 2001, .inl (aI ZE))), (zv, .inl (g.2.1 0, 2001, .inl (oA ZV))), (zw, .inl (g.2.1 6, 2001, .inr (.inr (.inr (.inr ZW))))), (bk, .inr (5, [.ref ra, .ref pa, .int (bI pr), .int (nI rc), .int (nI 0), .int (nI dp)]))] ++ PP) (st' := []) (lv' := [(3, .int (-1)), (4, .int (-1)), (2, .ref (g.2.2.1 7)), (0, .ref p), (1, va_rf ar)]) rfl rfl rfl ?_
            refine r_null C d_Parser_takeLayer_60 ?_
            refine r_eqS (st' := [va_rf (none)]) rfl (r_aret C E d_Parser_takeLayer_61 (by first | decide | omega | (simp only [rmk]; omega)) (by first | decide | omega | (simp only [rmk]; omega)) ?_)
            exact ⟨none, none, PP, _, _, _, rfl, rfl, (pLay_7n hx_12 hx_51).symm, rfl, fun _ h => h, hO2_51, hc2_51, ho2_51⟩
        · exact absurd (wE C.2.2.2.2.2.2.2.1.1.2 (by decide) (by decide) c_40) (by decide)
  · skip
    refine r_aload_n C 2 d_Parser_takeLayer_20 rfl rfl ?_
    refine r_gets C d_Parser_takeLayer_21 ((C.2.2.2.2.2.2.2.1.1.1 4 (by decide)).1) fs_Parser_94 ?_
    refine r_acmp_eq C (r1 := some (g.2.2.1 w)) (r2 := some (g.2.2.1 4)) 34 d_Parser_takeLayer_24 (by decide) (fun c_24 => ?_) (fun c_24 => ?_)
    · exact absurd (wE C.2.2.2.2.2.2.2.1.1.2 hw (by decide) c_24) hno.1
    · skip
      refine r_aload_n C 2 d_Parser_takeLayer_27 rfl rfl ?_
      refine r_gets C d_Parser_takeLayer_28 ((C.2.2.2.2.2.2.2.1.1.1 7 (by decide)).1) fs_Parser_97 ?_
      refine r_acmp_ne C (r1 := some (g.2.2.1 w)) (r2 := some (g.2.2.1 7)) 62 d_Parser_takeLayer_31 (by decide) (fun c_31 => ?_) (fun c_31 => ?_)
      · skip
        refine r_aload_n C 2 d_Parser_takeLayer_62 rfl rfl ?_
        refine r_gets C d_Parser_takeLayer_63 ((C.2.2.2.2.2.2.2.1.1.1 4 (by decide)).1) fs_Parser_94 ?_
        refine r_acmp_ne C (r1 := some (g.2.2.1 w)) (r2 := some (g.2.2.1 4)) 86 d_Parser_takeLayer_66 (by decide) (fun c_66 => ?_) (fun c_66 => ?_)
        · skip
          refine r_new C d_Parser_takeLayer_86 ci_Layer cl_Parser_103 in_Layer iz_Layer (fs := [.null, .int (nI 0), .int (nI 0), .null, .int (nI 0)]) (by intro j hj; rcases (show j = 0 ∨ j = 1 ∨ j = 2 ∨ j = 3 ∨ j = 4 by omega) with rfl | rfl | rfl | rfl | rfl <;> rfl) (by rw [hR]; decide) (by rw [hR]; decide) (fun q_86 => ?_)
          refine r_swap ?_
          refine r_norm (ws' := [(p, .inr (6, [.ref bk, .ref a])), (a, .inr (2, [.ref t, .ref zs, .ref zb, .ref ze, .ref zv, .ref zw, .int (nI cnt), .int (nI nx2_12), .int (nI tk_12.1), .int (nI tk_12.2.1), .int (nI ee), .int (oI tk_12.2.2.2.1), va_rf (wR g tk_12.2.2.2.2)])), (zs, .inl (g.2.1 0, 2001, .inl (aI ZS))), (zb, .inl (g.2.1 0, 2001, .inl (aI ZB))), (ze, .inl (g.2.1 0, 2001, .inl (aI ZE))), (zv, .inl (g.2.1 0, 2001, .inl (oA ZV))), (zw, .inl (g.2.1 6, 2001, .inr (.inr (.inr (.inr ZW))))), (bk, .inr (5, [.ref ra, .ref pa, .int (bI pr), .int (nI rc), .int (nI 0), .int (nI dp)])), (q_86, .inr (3, [.null, .int (nI 0), .int (nI 0), .null, .int (nI 0)]))] ++ PP) (st' := [.ref q_86]) (n1 := 0 + 1) (n2 := 0 + 5) rfl rfl rfl rfl ?_
          refine r_dup C d_Parser_takeLayer_89 rfl ?_
          refine r_aload_n C 2 d_Parser_takeLayer_90 rfl rfl ?_
          refine r_iload_n C 1 d_Parser_takeLayer_91 rfl rfl ?_
          refine r_iload C 0 d_Parser_takeLayer_92 rfl ?_
          refine r_aload_nQ C 4 d_Parser_takeLayer_94 rfl rfl ?_
          refine j_callI C (c_Layer_init g (xl x) (y := q_86) (u := w) (lev := ls.length) (f := none) (s := none) (ou := ar) (PP := PP) (chain_lev hch) (chain_nil hch)) (Sp.pool (Sp.of (wr := [(p, .inr (6, [.ref bk, .ref a])), (a, .inr (2, [.ref t, .ref zs, .ref zb, .ref ze, .ref zv, .ref zw, .int (nI cnt), .int (nI nx2_12), .int (nI tk_12.1), .int (nI tk_12.2.1), .int (nI ee), .int (oI tk_12.2.2.2.1), va_rf (wR g tk_12.2.2.2.2)])), (zs, .inl (g.2.1 0, 2001, .inl (aI ZS))), (zb, .inl (g.2.1 0, 2001, .inl (aI ZB))), (ze, .inl (g.2.1 0, 2001, .inl (aI ZE))), (zv, .inl (g.2.1 0, 2001, .inl (oA ZV))), (zw, .inl (g.2.1 6, 2001, .inr (.inr (.inr (.inr ZW))))), (bk, .inr (5, [.ref ra, .ref pa, .int (bI pr), .int (nI rc), .int (nI 0), .int (nI dp)]))]) [8] [0, 1, 2, 3, 4, 5, 6, 7] rfl rfl rfl rfl (by decide)) PP) d_Parser_takeLayer_95 lk_Parser_105 mw_Layer_init rfl im_Layer_init (fit_of hR (by first | decide | (simp only [rmk]; omega)) (by first | decide | (simp only [rmk]; omega)) (by first | decide | (simp only [rmk]; omega)) (by first | decide | (simp only [rmk]; omega))) rfl (cat8 (Nat.le_of_ble_eq_true rfl)) (As := [.ref (g.2.2.1 w), .int (-1), .int (-1), va_rf ar]) (rest := [.ref q_86]) rfl (fun r_95 w_95 hp_95 => ?_)
          obtain ⟨rfl, rfl⟩ := hp_95
          refine r_afterP (X := [(p, .inr (6, [.ref bk, .ref a])), (a, .inr (2, [.ref t, .ref zs, .ref zb, .ref ze, .ref zv, .ref zw, .int (nI cnt), .int (nI nx2_12), .int (nI tk_12.1), .int (nI tk_12.2.1), .int (nI ee), .int (oI tk_12.2.2.2.1), va_rf (wR g tk_12.2.2.2.2)])), (zs, .inl (g.2.1 0, 2001, .inl (aI ZS))), (zb, .inl (g.2.1 0, 2001, .inl (aI ZB))), (ze, .inl (g.2.1 0, 2001, .inl (aI ZE))), (zv, .inl (g.2.1 0, 2001, .inl (oA ZV))), (zw, .inl (g.2.1 6, 2001, .inr (.inr (.inr (.inr ZW))))), (bk, .inr (5, [.ref ra, .ref pa, .int (bI pr), .int (nI rc), .int (nI 0), .int (nI dp)])), (q_86, .inr (3, [.ref (g.2.2.1 w), .int (oI none), .int (oI none), va_rf ar, .int (nI (ls.length + 1))]))]) (X' := [(p, .inr (6, [.ref bk, .ref a])), (a, .inr (2, [.ref t, .ref zs, .ref zb, .ref ze, .ref zv, .ref zw, .int (nI cnt), .int (nI nx2_12), .int (nI tk_12.1), .int (nI tk_12.2.1), .int (nI ee), .int (oI tk_12.2.2.2.1), va_rf (wR g tk_12.2.2.2.2)])), (zs, .inl (g.2.1 0, 2001, .inl (aI ZS))), (zb, .inl (g.2.1 0, 2001, .inl (aI ZB))), (ze, .inl (g.2.1 0, 2001, .inl (aI ZE))), (zv, .inl (g.2.1 0, 2001, .inl (oA ZV))), (zw, .inl (g.2.1 6, 2001, .inr (.inr (.inr (.inr ZW))))), (bk, .inr (5, [.ref ra, .ref pa, .int (bI pr), .int (nI rc), .int (nI 0), .int (nI dp)])), (q_86, .inr (3, [.ref (g.2.2.1 w), .int (oI none), .int (oI none), va_rf ar, .int (nI (ls.length + 1))]))]) (pl := PP) (st' := [.ref q_86]) (n1 := 0 + 1) (n2 := 0 + 5) [0, 1, 2, 3, 4, 5, 6, 7, 8] rfl rfl rfl rfl rfl rfl ?_
          refine r_eqS (st' := [va_rf (some q_86)]) rfl (r_aret C E d_Parser_takeLayer_98 (by first | decide | omega | (simp only [rmk]; omega)) (by first | decide | omega | (simp only [rmk]; omega)) ?_)
          exact ⟨some (w, none, none), some q_86, _, _, _, _, rfl, rfl, (pLay_d hno.1 hno.2 hx_12).symm, ⟨q_86, rfl, chain_new hch hw (List.mem_cons_self)⟩, fun q hq => List.mem_cons_of_mem _ hq, hO2_12, hc2_12, ho2_12⟩
        · exact absurd (wE C.2.2.2.2.2.2.2.1.1.2 hw (by decide) c_66) hno.1
      · exact absurd (wE C.2.2.2.2.2.2.2.1.1.2 hw (by decide) c_31) hno.2

set_option maxHeartbeats 4000000 in
set_option maxRecDepth 100000 in
theorem c_Parser_takeRule (g : GG) (l : Launch) {p : Nat} {bk : Nat} {ra : Nat} {pa : Nat} {k : Nat} {so : Nat} {sta : Nat} {en : Nat} {ee : Nat} {dp : Nat} {w : Nat} {a : Nat} {t : Nat} {zs : Nat} {zb : Nat} {ze : Nat} {zv : Nat} {zw : Nat} {cnt : Nat} {nx : Nat} {T : Nat → Nat} {ZS : Nat → Nat} {ZB : Nat → Nat} {ZE : Nat → Nat} {ZV : Nat → Option Nat} {ZW : Nat → Option Nat} {v : Option Nat} {ar : Option Nat} {pr : Bool} {out : List Nat} {ls : List LayerV} {PP : va_W} {RA : Nat → Option Nat} {rules : List RuleV}  (hk : k ≤ 2000) (hT : ∀ j, T j < 256) (hO : TokOK k (so, sta, en, v, some w)) (hA : CutA g T k cnt ZS ZB ZE ZV ZW) (hcap : nth T k nx = ((so, sta, en, v, some w), out)) (ho : nx < cnt) (h1 : so = 1) (hw : w < 23) (hch : ChainAt g PP ar ls) (h16 : 16 ≤ w) (hRA : RulesAt g PP RA rules) (h400 : rules.length ≤ 400) : Cn g l y_Parser_takeRule b_Parser_takeRule 5 (some .boolean) (rmk 3 1 6 65) [.ref p, va_rf ar] ([(p, .inr (6, [.ref bk, .ref a])), (a, .inr (2, [.ref t, .ref zs, .ref zb, .ref ze, .ref zv, .ref zw, .int (nI cnt), .int (nI nx), .int (nI so), .int (nI sta), .int (nI ee), .int (oI v), .ref (g.2.2.1 w)])), (zs, .inl (g.2.1 0, 2001, .inl (aI ZS))), (zb, .inl (g.2.1 0, 2001, .inl (aI ZB))), (ze, .inl (g.2.1 0, 2001, .inl (aI ZE))), (zv, .inl (g.2.1 0, 2001, .inl (oA ZV))), (zw, .inl (g.2.1 6, 2001, .inr (.inr (.inr (.inr ZW))))), (bk, .inr (5, [.ref ra, .ref pa, .int (bI pr), .int (nI rules.length), .int (nI 0), .int (nI dp)])), (ra, .inl (g.2.1 3, 400, .inr (.inr (.inr (.inr RA)))))] ++ PP) (fun (r0 : Option Value) (w0 : va_W) => ∃ ok : Bool, ∃ rules2 : List RuleV, ∃ RA2 : Nat → Option Nat, ∃ PP2 : va_W, ∃ tk : Tok, ∃ ou : List Nat, ∃ nx2 : Nat, r0 = some (.int (bI ok)) ∧ w0 = [(p, .inr (6, [.ref bk, .ref a])), (a, .inr (2, [.ref t, .ref zs, .ref zb, .ref ze, .ref zv, .ref zw, .int (nI cnt), .int (nI nx2), .int (nI tk.1), .int (nI tk.2.1), .int (nI ee), .int (oI tk.2.2.2.1), va_rf (wR g tk.2.2.2.2)])), (zs, .inl (g.2.1 0, 2001, .inl (aI ZS))), (zb, .inl (g.2.1 0, 2001, .inl (aI ZB))), (ze, .inl (g.2.1 0, 2001, .inl (aI ZE))), (zv, .inl (g.2.1 0, 2001, .inl (oA ZV))), (zw, .inl (g.2.1 6, 2001, .inr (.inr (.inr (.inr ZW))))), (bk, .inr (5, [.ref ra, .ref pa, .int (bI pr), .int (nI rules2.length), .int (nI 0), .int (nI dp)])), (ra, .inl (g.2.1 3, 400, .inr (.inr (.inr (.inr RA2)))))] ++ PP2 ∧ ((ok, rules2, tk, ou) = pRule T k w ls rules ((so, sta, en, v, some w), out)) ∧ (RulesAt g PP2 RA2 rules2) ∧ (∀ q ∈ PP, q ∈ PP2) ∧ (TokOK k tk) ∧ (nth T k nx2 = (tk, ou)) ∧ (nx2 < cnt) ∧ (rules2.length ≤ 400)) := by
  refine Cn.of R_Parser [(0, .ref p), (1, va_rf ar)] (by decide) rfl (by generalize ar = z0; cases z0 <;> exact Nat.le_of_ble_eq_true rfl) (by generalize ar = z0; cases z0 <;> rfl) ?_
  intro x A Q hR hXl hin C E
  subst hXl
  refine r_aload_n C 0 d_Parser_takeRule_0 rfl rfl ?_
  refine r_get C 0 1 d_Parser_takeRule_1 ci_Parser fi_Parser_20 rfl (by decide) rfl rfl ?_
  refine r_get C 1 12 d_Parser_takeRule_4 ci_Tokens fi_Parser_91 rfl (by decide) rfl rfl ?_
  refine r_astore_n C (lv' := [(2, .ref (g.2.2.1 w)), (0, .ref p), (1, va_rf ar)]) d_Parser_takeRule_7 rfl (by decide) (by generalize ar = zq; cases zq <;> rfl) ?_
  refine r_aload_n C 0 d_Parser_takeRule_8 rfl rfl ?_
  refine r_ifnonnull C 14 d_Parser_takeRule_9 (by decide) ?_
  refine r_new C d_Parser_takeRule_14 ci_Rule cl_Parser_108 in_Rule iz_Rule (fs := [.int (nI 0), .int (nI 0), .null, .int (nI 0), .int (nI 0), .int (nI 0)]) (by intro j hj; rcases (show j = 0 ∨ j = 1 ∨ j = 2 ∨ j = 3 ∨ j = 4 ∨ j = 5 by omega) with rfl | rfl | rfl | rfl | rfl | rfl <;> rfl) (by rw [hR]; decide) (by rw [hR]; decide) (fun q_14 => ?_)
  refine r_swap ?_
  refine r_norm (ws' := [(p, .inr (6, [.ref bk, .ref a])), (a, .inr (2, [.ref t, .ref zs, .ref zb, .ref ze, .ref zv, .ref zw, .int (nI cnt), .int (nI nx), .int (nI so), .int (nI sta), .int (nI ee), .int (oI v), .ref (g.2.2.1 w)])), (zs, .inl (g.2.1 0, 2001, .inl (aI ZS))), (zb, .inl (g.2.1 0, 2001, .inl (aI ZB))), (ze, .inl (g.2.1 0, 2001, .inl (aI ZE))), (zv, .inl (g.2.1 0, 2001, .inl (oA ZV))), (zw, .inl (g.2.1 6, 2001, .inr (.inr (.inr (.inr ZW))))), (bk, .inr (5, [.ref ra, .ref pa, .int (bI pr), .int (nI rules.length), .int (nI 0), .int (nI dp)])), (ra, .inl (g.2.1 3, 400, .inr (.inr (.inr (.inr RA))))), (q_14, .inr (4, [.int (nI 0), .int (nI 0), .null, .int (nI 0), .int (nI 0), .int (nI 0)]))] ++ PP) (st' := [.ref q_14]) (n1 := 0 + 1) (n2 := 0 + 6) rfl rfl rfl rfl ?_
  refine r_dup C d_Parser_takeRule_17 rfl ?_
  refine r_aload_n C 0 d_Parser_takeRule_18 rfl rfl ?_
  refine r_getO C d_Parser_takeRule_19 ((C.2.2.2.2.2.2.2.1.1.1 w (show w < wNm.length from hw)).2.2 ("RuleReader$Word", "code", "I", wCode) (by simp [wF])) fo_Parser_110 ?_
  refine r_top (v' := nI (w - 16)) (wCode_eq h16 hw) ?_
  refine r_aload_n C 1 d_Parser_takeRule_22 rfl rfl ?_
  refine r_get C 0 1 d_Parser_takeRule_23 ci_Parser fi_Parser_20 rfl (by decide) rfl rfl ?_
  refine r_get C 1 9 d_Parser_takeRule_26 ci_Tokens fi_Parser_39 rfl (by decide) rfl rfl ?_
  refine r_aload_nQ C 2 d_Parser_takeRule_29 rfl rfl ?_
  refine j_callI C (c_Rule_init g (xl x) (y := q_14) (ki := w - 16) (st := sta) (ar := ar) ) (Sp.keep (Sp.of (wr := [(p, .inr (6, [.ref bk, .ref a])), (a, .inr (2, [.ref t, .ref zs, .ref zb, .ref ze, .ref zv, .ref zw, .int (nI cnt), .int (nI nx), .int (nI so), .int (nI sta), .int (nI ee), .int (oI v), .ref (g.2.2.1 w)])), (zs, .inl (g.2.1 0, 2001, .inl (aI ZS))), (zb, .inl (g.2.1 0, 2001, .inl (aI ZB))), (ze, .inl (g.2.1 0, 2001, .inl (aI ZE))), (zv, .inl (g.2.1 0, 2001, .inl (oA ZV))), (zw, .inl (g.2.1 6, 2001, .inr (.inr (.inr (.inr ZW))))), (bk, .inr (5, [.ref ra, .ref pa, .int (bI pr), .int (nI rules.length), .int (nI 0), .int (nI dp)])), (ra, .inl (g.2.1 3, 400, .inr (.inr (.inr (.inr RA)))))]) [9] [0, 1, 2, 3, 4, 5, 6, 7, 8] rfl rfl rfl rfl (by decide)) PP) d_Parser_takeRule_30 lk_Parser_113 mw_Rule_init rfl im_Rule_init (fit_of hR (by first | decide | (simp only [rmk]; omega)) (by first | decide | (simp only [rmk]; omega)) (by first | decide | (simp only [rmk]; omega)) (by first | decide | (simp only [rmk]; omega))) rfl (cat8 (Nat.le_of_ble_eq_true rfl)) (As := [.int (nI (w - 16)), .int (nI sta), va_rf ar]) (rest := [.ref q_14]) rfl (fun r_30 w_30 hp_30 => ?_)
  obtain ⟨rfl, rfl⟩ := hp_30
  refine r_swap ?_
  refine r_afterP (X := [(p, .inr (6, [.ref bk, .ref a])), (a, .inr (2, [.ref t, .ref zs, .ref zb, .ref ze, .ref zv, .ref zw, .int (nI cnt), .int (nI nx), .int (nI so), .int (nI sta), .int (nI ee), .int (oI v), .ref (g.2.2.1 w)])), (zs, .inl (g.2.1 0, 2001, .inl (aI ZS))), (zb, .inl (g.2.1 0, 2001, .inl (aI ZB))), (ze, .inl (g.2.1 0, 2001, .inl (aI ZE))), (zv, .inl (g.2.1 0, 2001, .inl (oA ZV))), (zw, .inl (g.2.1 6, 2001, .inr (.inr (.inr (.inr ZW))))), (bk, .inr (5, [.ref ra, .ref pa, .int (bI pr), .int (nI rules.length), .int (nI 0), .int (nI dp)])), (ra, .inl (g.2.1 3, 400, .inr (.inr (.inr (.inr RA))))), (q_14, .inr (4, [.int (nI (w - 16)), .int (nI sta), va_rf ar, .int (oI none), .int (oI none), .int (oI none)]))]) (X' := [(p, .inr (6, [.ref bk, .ref a])), (a, .inr (2, [.ref t, .ref zs, .ref zb, .ref ze, .ref zv, .ref zw, .int (nI cnt), .int (nI nx), .int (nI so), .int (nI sta), .int (nI ee), .int (oI v), .ref (g.2.2.1 w)])), (zs, .inl (g.2.1 0, 2001, .inl (aI ZS))), (zb, .inl (g.2.1 0, 2001, .inl (aI ZB))), (ze, .inl (g.2.1 0, 2001, .inl (aI ZE))), (zv, .inl (g.2.1 0, 2001, .inl (oA ZV))), (zw, .inl (g.2.1 6, 2001, .inr (.inr (.inr (.inr ZW))))), (bk, .inr (5, [.ref ra, .ref pa, .int (bI pr), .int (nI rules.length), .int (nI 0), .int (nI dp)])), (ra, .inl (g.2.1 3, 400, .inr (.inr (.inr (.inr RA))))), (q_14, .inr (4, [.int (nI (w - 16)), .int (nI sta), va_rf ar, .int (oI none), .int (oI none), .int (oI none)]))]) (pl := PP) (st' := [.ref q_14]) (n1 := 0 + 1) (n2 := 0 + 6) [0, 1, 2, 3, 4, 5, 6, 7, 8, 9] rfl rfl rfl rfl rfl rfl ?_
  refine r_astore_n C (lv' := [(3, .ref q_14), (2, .ref (g.2.2.1 w)), (0, .ref p), (1, va_rf ar)]) d_Parser_takeRule_33 rfl (by decide) rfl ?_
  refine r_aload_n C 2 d_Parser_takeRule_34 rfl rfl ?_
  refine r_get C 0 1 d_Parser_takeRule_35 ci_Parser fi_Parser_20 rfl (by decide) rfl rfl ?_
  refine j_callV C (c_Tokens_advance g (xl x) (k := k) (so := so) (sta := sta) (en := en) (ee := ee) (a := a) (t := t) (zs := zs) (zb := zb) (ze := ze) (zv := zv) (zw := zw) (cnt := cnt) (nx := nx) (T := T) (ZS := ZS) (ZB := ZB) (ZE := ZE) (ZV := ZV) (ZW := ZW) (v := v) (wd := some w) (out := out) (by first | assumption | rfl | omega) (by first | assumption | rfl | omega) (by first | assumption | rfl | omega) (by first | assumption | rfl | omega) (by omega)) (Sp.keep (Sp.of (wr := [(p, .inr (6, [.ref bk, .ref a])), (bk, .inr (5, [.ref ra, .ref pa, .int (bI pr), .int (nI rules.length), .int (nI 0), .int (nI dp)])), (ra, .inl (g.2.1 3, 400, .inr (.inr (.inr (.inr RA))))), (q_14, .inr (4, [.int (nI (w - 16)), .int (nI sta), va_rf ar, .int (oI none), .int (oI none), .int (oI none)]))]) [1, 2, 3, 4, 5, 6] [0, 7, 8, 9] rfl rfl rfl rfl (by decide)) PP) d_Parser_takeRule_38 lk_Parser_49 mw_Tokens_advance vw_Tokens_advance (q0 := 0) rfl rfl (fit_of hR (by first | decide | (simp only [rmk]; omega)) (by first | decide | (simp only [rmk]; omega)) (by first | decide | (simp only [rmk]; omega)) (by first | decide | (simp only [rmk]; omega))) rfl (cat8 (Nat.le_of_ble_eq_true rfl)) (As := []) (rest := []) rfl (fun r_38 w_38 hp_38 => ?_)
  obtain ⟨tk_38, ou_38, nx2_38, rfl, rfl, hx_38, hO2_38, hc2_38, ho2_38⟩ := hp_38
  refine r_swap ?_
  refine r_afterP (X := [(p, .inr (6, [.ref bk, .ref a])), (bk, .inr (5, [.ref ra, .ref pa, .int (bI pr), .int (nI rules.length), .int (nI 0), .int (nI dp)])), (ra, .inl (g.2.1 3, 400, .inr (.inr (.inr (.inr RA))))), (q_14, .inr (4, [.int (nI (w - 16)), .int (nI sta), va_rf ar, .int (oI none), .int (oI none), .int (oI none)])), (a, .inr (2, [.ref t, .ref zs, .ref zb, .ref ze, .ref zv, .ref zw, .int (nI cnt), .int (nI nx2_38), .int (nI tk_38.1), .int (nI tk_38.2.1), .int (nI ee), .int (oI tk_38.2.2.2.1), va_rf (wR g tk_38.2.2.2.2)])), (zs, .inl (g.2.1 0, 2001, .inl (aI ZS))), (zb, .inl (g.2.1 0, 2001, .inl (aI ZB))), (ze, .inl (g.2.1 0, 2001, .inl (aI ZE))), (zv, .inl (g.2.1 0, 2001, .inl (oA ZV))), (zw, .inl (g.2.1 6, 2001, .inr (.inr (.inr (.inr ZW)))))]) (X' := [(p, .inr (6, [.ref bk, .ref a])), (a, .inr (2, [.ref t, .ref zs, .ref zb, .ref ze, .ref zv, .ref zw, .int (nI cnt), .int (nI nx2_38), .int (nI tk_38.1), .int (nI tk_38.2.1), .int (nI ee), .int (oI tk_38.2.2.2.1), va_rf (wR g tk_38.2.2.2.2)])), (zs, .inl (g.2.1 0, 2001, .inl (aI ZS))), (zb, .inl (g.2.1 0, 2001, .inl (aI ZB))), (ze, .inl (g.2.1 0, 2001, .inl (aI ZE))), (zv, .inl (g.2.1 0, 2001, .inl (oA ZV))), (zw, .inl (g.2.1 6, 2001, .inr (.inr (.inr (.inr ZW))))), (bk, .inr (5, [.ref ra, .ref pa, .int (bI pr), .int (nI rules.length), .int (nI 0), .int (nI dp)])), (ra, .inl (g.2.1 3, 400, .inr (.inr (.inr (.inr RA))))), (q_14, .inr (4, [.int (nI (w - 16)), .int (nI sta), va_rf ar, .int (oI none), .int (oI none), .int (oI none)]))]) (pl := PP) (st' := []) (n1 := 0 + 1) (n2 := 0 + 6) [0, 4, 5, 6, 7, 8, 9, 1, 2, 3] rfl rfl rfl rfl rfl rfl ?_
  refine r_iconst C (nI 1) d_Parser_takeRule_41 (by decide) ?_
  refine r_istore C (lv' := [(4, .int (nI 1)), (3, .ref q_14), (2, .ref (g.2.2.1 w)), (0, .ref p), (1, va_rf ar)]) d_Parser_takeRule_42 (by decide) rfl ?_
  refine r_aload_n C 1 d_Parser_takeRule_44 rfl rfl ?_
  refine r_get C 9 0 d_Parser_takeRule_45 ci_Rule fi_Parser_116 rfl (by decide) rfl rfl ?_
  generalize hkw : w - 16 = ki
  rcases (show ki = 4 ∨ ki = 5 ∨ ki = 6 ∨ (ki ≠ 4 ∧ ki ≠ 5 ∧ ki ≠ 6) by omega) with rfl | rfl | rfl | hno_48
  · skip
    refine r_tableIn C 76 d_Parser_takeRule_48 (by decide) (by decide) rfl (by decide) ?_
    refine r_aload_n C 3 d_Parser_takeRule_76 rfl rfl ?_
    refine r_aload_n C 1 d_Parser_takeRule_77 rfl rfl ?_
    refine j_callV C (c_Parser_takeComparison g (xl x) (p := p) (bk := bk) (ra := ra) (pa := pa) (k := k) (so := tk_38.1) (sta := tk_38.2.1) (en := tk_38.2.2.1) (ee := ee) (rc := rules.length) (dp := dp) (a := a) (t := t) (zs := zs) (zb := zb) (ze := ze) (zv := zv) (zw := zw) (cnt := cnt) (nx := nx2_38) (T := T) (ZS := ZS) (ZB := ZB) (ZE := ZE) (ZV := ZV) (ZW := ZW) (v := tk_38.2.2.2.1) (wd := tk_38.2.2.2.2) (pr := pr) (out := ou_38) (y := q_14) (ki := 4) (st := sta) (ar := ar) (c := none) (nu := none) (co := none) (by first | assumption | rfl | omega) (by first | assumption | rfl | omega) (by first | assumption | rfl | omega) (by first | assumption | rfl | omega) (by first | assumption | rfl | omega) (by first | assumption | rfl | omega)) (Sp.keep (Sp.of (wr := [(ra, .inl (g.2.1 3, 400, .inr (.inr (.inr (.inr RA)))))]) [0, 1, 2, 3, 4, 5, 6, 7, 9] [8] rfl rfl rfl rfl (by decide)) PP) d_Parser_takeRule_78 lk_Parser_119 mw_Parser_takeComparison vw_Parser_takeComparison (q0 := 0) rfl rfl (fit_of hR (by first | decide | (simp only [rmk]; omega)) (by first | decide | (simp only [rmk]; omega)) (by first | decide | (simp only [rmk]; omega)) (by first | decide | (simp only [rmk]; omega))) rfl (cat8 (Nat.le_of_ble_eq_true rfl)) (As := [.ref q_14]) (rest := []) rfl (fun r_78 w_78 hp_78 => ?_)
    obtain ⟨ok_78, c2_78, nu2_78, tk_78, ou_78, nx2_78, rfl, rfl, hx_78, hO2_78, hc2_78, ho2_78⟩ := hp_78
    refine r_swap ?_
    refine r_afterP (X := [(ra, .inl (g.2.1 3, 400, .inr (.inr (.inr (.inr RA))))), (p, .inr (6, [.ref bk, .ref a])), (a, .inr (2, [.ref t, .ref zs, .ref zb, .ref ze, .ref zv, .ref zw, .int (nI cnt), .int (nI nx2_78), .int (nI tk_78.1), .int (nI tk_78.2.1), .int (nI ee), .int (oI tk_78.2.2.2.1), va_rf (wR g tk_78.2.2.2.2)])), (zs, .inl (g.2.1 0, 2001, .inl (aI ZS))), (zb, .inl (g.2.1 0, 2001, .inl (aI ZB))), (ze, .inl (g.2.1 0, 2001, .inl (aI ZE))), (zv, .inl (g.2.1 0, 2001, .inl (oA ZV))), (zw, .inl (g.2.1 6, 2001, .inr (.inr (.inr (.inr ZW))))), (bk, .inr (5, [.ref ra, .ref pa, .int (bI pr), .int (nI rules.length), .int (nI 0), .int (nI dp)])), (q_14, .inr (4, [.int (nI 4), .int (nI sta), va_rf ar, .int (oI c2_78), .int (oI nu2_78), .int (oI none)]))]) (X' := [(p, .inr (6, [.ref bk, .ref a])), (a, .inr (2, [.ref t, .ref zs, .ref zb, .ref ze, .ref zv, .ref zw, .int (nI cnt), .int (nI nx2_78), .int (nI tk_78.1), .int (nI tk_78.2.1), .int (nI ee), .int (oI tk_78.2.2.2.1), va_rf (wR g tk_78.2.2.2.2)])), (zs, .inl (g.2.1 0, 2001, .inl (aI ZS))), (zb, .inl (g.2.1 0, 2001, .inl (aI ZB))), (ze, .inl (g.2.1 0, 2001, .inl (aI ZE))), (zv, .inl (g.2.1 0, 2001, .inl (oA ZV))), (zw, .inl (g.2.1 6, 2001, .inr (.inr (.inr (.inr ZW))))), (bk, .inr (5, [.ref ra, .ref pa, .int (bI pr), .int (nI rules.length), .int (nI 0), .int (nI dp)])), (ra, .inl (g.2.1 3, 400, .inr (.inr (.inr (.inr RA))))), (q_14, .inr (4, [.int (nI 4), .int (nI sta), va_rf ar, .int (oI c2_78), .int (oI nu2_78), .int (oI none)]))]) (pl := PP) (st' := [.int (bI ok_78)]) (n1 := 0 + 1) (n2 := 0 + 6) [1, 2, 3, 4, 5, 6, 7, 8, 0, 9] rfl rfl rfl rfl rfl rfl ?_
    refine r_istore C (lv' := [(4, .int (bI ok_78)), (3, .ref q_14), (2, .ref (g.2.2.1 w)), (0, .ref p), (1, va_rf ar)]) d_Parser_takeRule_81 (by decide) rfl ?_
    refine r_goto C 152 d_Parser_takeRule_83 (by decide) ?_
    refine r_iload C 0 d_Parser_takeRule_152 rfl ?_
    refine r_bif_eq C 172 d_Parser_takeRule_154 (by decide) (fun c_154 => ?_) (fun c_154 => ?_)
    · skip
      refine r_iconst C (nI 0) d_Parser_takeRule_172 (by decide) ?_
      refine r_eqS (st' := [.int (bI false)]) rfl ?_
      refine r_bret C E d_Parser_takeRule_173 (by first | decide | omega | (simp only [rmk]; omega)) (by first | decide | omega | (simp only [rmk]; omega)) ?_
      exact ⟨false, rules, _, _, tk_78, ou_78, _, rfl, rfl, (pRule_n' hkw hx_38 (by have h := pNums_4 hx_78; rw [c_154] at h; exact h)).symm, hRA.mono (fun q hq => List.mem_cons_of_mem _ hq), fun q hq => List.mem_cons_of_mem _ hq, hO2_78, hc2_78, ho2_78, h400⟩
    · skip
      refine r_aload_n C 3 d_Parser_takeRule_157 rfl rfl ?_
      refine r_get C 0 0 d_Parser_takeRule_158 ci_Parser fi_Parser_9 rfl (by decide) rfl rfl ?_
      refine r_aload_n C 1 d_Parser_takeRule_161 rfl rfl ?_
      refine j_callV C (c_Book_add g (xl x) (bk := bk) (ra := ra) (pa := pa) (rc := rules.length) (pn := 0) (dp := dp) (pr := pr) (y := q_14) (ki := 4) (st := sta) (ar := ar) (c := c2_78) (nu := nu2_78) (co := none) (RA := RA) (by first | assumption | rfl | omega)) (Sp.keep (Sp.of (wr := [(p, .inr (6, [.ref bk, .ref a])), (a, .inr (2, [.ref t, .ref zs, .ref zb, .ref ze, .ref zv, .ref zw, .int (nI cnt), .int (nI nx2_78), .int (nI tk_78.1), .int (nI tk_78.2.1), .int (nI ee), .int (oI tk_78.2.2.2.1), va_rf (wR g tk_78.2.2.2.2)])), (zs, .inl (g.2.1 0, 2001, .inl (aI ZS))), (zb, .inl (g.2.1 0, 2001, .inl (aI ZB))), (ze, .inl (g.2.1 0, 2001, .inl (aI ZE))), (zv, .inl (g.2.1 0, 2001, .inl (oA ZV))), (zw, .inl (g.2.1 6, 2001, .inr (.inr (.inr (.inr ZW)))))]) [7, 8, 9] [0, 1, 2, 3, 4, 5, 6] rfl rfl rfl rfl (by decide)) PP) d_Parser_takeRule_162 lk_Parser_130 mw_Book_add vw_Book_add (q0 := 0) rfl rfl (fit_of hR (by first | decide | (simp only [rmk]; omega)) (by first | decide | (simp only [rmk]; omega)) (by first | decide | (simp only [rmk]; omega)) (by first | decide | (simp only [rmk]; omega))) rfl (cat8 (Nat.le_of_ble_eq_true rfl)) (As := [.ref q_14]) (rest := []) rfl (fun r_162 w_162 hp_162 => ?_)
      obtain ⟨ok_162, rc2_162, RA2_162, rfl, rfl, had_162⟩ := hp_162
      refine r_swap ?_
      refine r_afterP (X := [(p, .inr (6, [.ref bk, .ref a])), (a, .inr (2, [.ref t, .ref zs, .ref zb, .ref ze, .ref zv, .ref zw, .int (nI cnt), .int (nI nx2_78), .int (nI tk_78.1), .int (nI tk_78.2.1), .int (nI ee), .int (oI tk_78.2.2.2.1), va_rf (wR g tk_78.2.2.2.2)])), (zs, .inl (g.2.1 0, 2001, .inl (aI ZS))), (zb, .inl (g.2.1 0, 2001, .inl (aI ZB))), (ze, .inl (g.2.1 0, 2001, .inl (aI ZE))), (zv, .inl (g.2.1 0, 2001, .inl (oA ZV))), (zw, .inl (g.2.1 6, 2001, .inr (.inr (.inr (.inr ZW))))), (bk, .inr (5, [.ref ra, .ref pa, .int (bI pr), .int (nI rc2_162), .int (nI 0), .int (nI dp)])), (ra, .inl (g.2.1 3, 400, .inr (.inr (.inr (.inr RA2_162))))), (q_14, .inr (4, [.int (nI 4), .int (nI sta), va_rf ar, .int (oI c2_78), .int (oI nu2_78), .int (oI none)]))]) (X' := [(p, .inr (6, [.ref bk, .ref a])), (a, .inr (2, [.ref t, .ref zs, .ref zb, .ref ze, .ref zv, .ref zw, .int (nI cnt), .int (nI nx2_78), .int (nI tk_78.1), .int (nI tk_78.2.1), .int (nI ee), .int (oI tk_78.2.2.2.1), va_rf (wR g tk_78.2.2.2.2)])), (zs, .inl (g.2.1 0, 2001, .inl (aI ZS))), (zb, .inl (g.2.1 0, 2001, .inl (aI ZB))), (ze, .inl (g.2.1 0, 2001, .inl (aI ZE))), (zv, .inl (g.2.1 0, 2001, .inl (oA ZV))), (zw, .inl (g.2.1 6, 2001, .inr (.inr (.inr (.inr ZW))))), (bk, .inr (5, [.ref ra, .ref pa, .int (bI pr), .int (nI rc2_162), .int (nI 0), .int (nI dp)])), (ra, .inl (g.2.1 3, 400, .inr (.inr (.inr (.inr RA2_162))))), (q_14, .inr (4, [.int (nI 4), .int (nI sta), va_rf ar, .int (oI c2_78), .int (oI nu2_78), .int (oI none)]))]) (pl := PP) (st' := [.int (bI ok_162)]) (n1 := 0 + 1) (n2 := 0 + 6) [0, 1, 2, 3, 4, 5, 6, 7, 8, 9] rfl rfl rfl rfl rfl rfl ?_
      refine r_bif_eq C 172 d_Parser_takeRule_165 (by decide) (fun c_165 => ?_) (fun c_165 => ?_)
      · skip
        refine r_iconst C (nI 0) d_Parser_takeRule_172 (by decide) ?_
        refine r_eqS (st' := [.int (bI false)]) rfl ?_
        refine r_bret C E d_Parser_takeRule_173 (by first | decide | omega | (simp only [rmk]; omega)) (by first | decide | omega | (simp only [rmk]; omega)) ?_
        rcases had_162 with ⟨e1, e2⟩ | ⟨e1, e2, rfl, rfl⟩
        · rw [c_165] at e1; cases e1
        · exact ⟨false, rules, _, _, tk_78, ou_78, _, rfl, rfl, (pRule_f' hkw hx_38 (by have h := pNums_4 hx_78; rw [c_154] at h; exact h) e2).symm, hRA.mono (fun q hq => List.mem_cons_of_mem _ hq), fun q hq => List.mem_cons_of_mem _ hq, hO2_78, hc2_78, ho2_78, h400⟩
      · skip
        refine r_iconst C (nI 1) d_Parser_takeRule_168 (by decide) ?_
        refine r_goto C 173 d_Parser_takeRule_169 (by decide) ?_
        refine r_eqS (st' := [.int (bI true)]) rfl ?_
        refine r_bret C E d_Parser_takeRule_173 (by first | decide | omega | (simp only [rmk]; omega)) (by first | decide | omega | (simp only [rmk]; omega)) ?_
        rcases had_162 with ⟨e1, e2, rfl, rfl⟩ | ⟨e1, e2⟩
        · exact ⟨true, rules ++ [(4, sta, ls, c2_78, nu2_78, none)], _, _, tk_78, ou_78, _, rfl, by rw [List.length_append]; rfl, (pRule_y' hkw hx_38 (by have h := pNums_4 hx_78; rw [c_154] at h; exact h) e2).symm, rules_push hRA hch List.mem_cons_self (fun q hq => List.mem_cons_of_mem _ hq), fun q hq => List.mem_cons_of_mem _ hq, hO2_78, hc2_78, ho2_78, by rw [List.length_append]; exact e2⟩
        · rw [c_165] at e1; cases e1
  · skip
    refine r_tableIn C 86 d_Parser_takeRule_48 (by decide) (by decide) rfl (by decide) ?_
    refine r_aload_n C 1 d_Parser_takeRule_86 rfl rfl ?_
    refine r_aload_n C 3 d_Parser_takeRule_87 rfl rfl ?_
    refine r_iconst C (nI 0) d_Parser_takeRule_88 (by decide) ?_
    refine r_ldc C (nI 999999) d_Parser_takeRule_89 k_Parser_123 ?_
    refine j_callV C (c_Parser_takeNumber g (xl x) (p := p) (bk := bk) (ra := ra) (pa := pa) (k := k) (so := tk_38.1) (sta := tk_38.2.1) (en := tk_38.2.2.1) (ee := ee) (rc := rules.length) (dp := dp) (a := a) (t := t) (zs := zs) (zb := zb) (ze := ze) (zv := zv) (zw := zw) (cnt := cnt) (nx := nx2_38) (T := T) (ZS := ZS) (ZB := ZB) (ZE := ZE) (ZV := ZV) (ZW := ZW) (v := tk_38.2.2.2.1) (wd := tk_38.2.2.2.2) (pr := pr) (out := ou_38) (lo := 0) (hi := 999999) (by first | assumption | rfl | omega) (by first | assumption | rfl | omega) (by first | assumption | rfl | omega) (by first | assumption | rfl | omega) (by first | assumption | rfl | omega) (by first | assumption | rfl | omega) (by first | assumption | rfl | omega) (by first | assumption | rfl | omega)) (Sp.keep (Sp.of (wr := [(ra, .inl (g.2.1 3, 400, .inr (.inr (.inr (.inr RA))))), (q_14, .inr (4, [.int (nI 5), .int (nI sta), va_rf ar, .int (oI none), .int (oI none), .int (oI none)]))]) [0, 1, 2, 3, 4, 5, 6, 7] [8, 9] rfl rfl rfl rfl (by decide)) PP) d_Parser_takeRule_91 lk_Parser_100 mw_Parser_takeNumber vw_Parser_takeNumber (q0 := 0) rfl rfl (fit_of hR (by first | decide | (simp only [rmk]; omega)) (by first | decide | (simp only [rmk]; omega)) (by first | decide | (simp only [rmk]; omega)) (by first | decide | (simp only [rmk]; omega))) rfl (cat8 (Nat.le_of_ble_eq_true rfl)) (As := [.int (nI 0), .int (nI 999999)]) (rest := [.ref q_14]) rfl (fun r_91 w_91 hp_91 => ?_)
    obtain ⟨nr_91, tk_91, ou_91, nx2_91, rfl, rfl, hx_91, hb_91, hO2_91, hc2_91, ho2_91⟩ := hp_91
    refine r_swap ?_
    refine r_afterP (X := [(ra, .inl (g.2.1 3, 400, .inr (.inr (.inr (.inr RA))))), (q_14, .inr (4, [.int (nI 5), .int (nI sta), va_rf ar, .int (oI none), .int (oI none), .int (oI none)])), (p, .inr (6, [.ref bk, .ref a])), (a, .inr (2, [.ref t, .ref zs, .ref zb, .ref ze, .ref zv, .ref zw, .int (nI cnt), .int (nI nx2_91), .int (nI tk_91.1), .int (nI tk_91.2.1), .int (nI ee), .int (oI tk_91.2.2.2.1), va_rf (wR g tk_91.2.2.2.2)])), (zs, .inl (g.2.1 0, 2001, .inl (aI ZS))), (zb, .inl (g.2.1 0, 2001, .inl (aI ZB))), (ze, .inl (g.2.1 0, 2001, .inl (aI ZE))), (zv, .inl (g.2.1 0, 2001, .inl (oA ZV))), (zw, .inl (g.2.1 6, 2001, .inr (.inr (.inr (.inr ZW))))), (bk, .inr (5, [.ref ra, .ref pa, .int (bI pr), .int (nI rules.length), .int (nI 0), .int (nI dp)]))]) (X' := [(p, .inr (6, [.ref bk, .ref a])), (a, .inr (2, [.ref t, .ref zs, .ref zb, .ref ze, .ref zv, .ref zw, .int (nI cnt), .int (nI nx2_91), .int (nI tk_91.1), .int (nI tk_91.2.1), .int (nI ee), .int (oI tk_91.2.2.2.1), va_rf (wR g tk_91.2.2.2.2)])), (zs, .inl (g.2.1 0, 2001, .inl (aI ZS))), (zb, .inl (g.2.1 0, 2001, .inl (aI ZB))), (ze, .inl (g.2.1 0, 2001, .inl (aI ZE))), (zv, .inl (g.2.1 0, 2001, .inl (oA ZV))), (zw, .inl (g.2.1 6, 2001, .inr (.inr (.inr (.inr ZW))))), (bk, .inr (5, [.ref ra, .ref pa, .int (bI pr), .int (nI rules.length), .int (nI 0), .int (nI dp)])), (ra, .inl (g.2.1 3, 400, .inr (.inr (.inr (.inr RA))))), (q_14, .inr (4, [.int (nI 5), .int (nI sta), va_rf ar, .int (oI none), .int (oI none), .int (oI none)]))]) (pl := PP) (st' := [.int (oI nr_91), .ref q_14]) (n1 := 0 + 1) (n2 := 0 + 6) [2, 3, 4, 5, 6, 7, 8, 9, 0, 1] rfl rfl rfl rfl rfl rfl ?_
    refine r_put C (ws' := [(p, .inr (6, [.ref bk, .ref a])), (a, .inr (2, [.ref t, .ref zs, .ref zb, .ref ze, .ref zv, .ref zw, .int (nI cnt), .int (nI nx2_91), .int (nI tk_91.1), .int (nI tk_91.2.1), .int (nI ee), .int (oI tk_91.2.2.2.1), va_rf (wR g tk_91.2.2.2.2)])), (zs, .inl (g.2.1 0, 2001, .inl (aI ZS))), (zb, .inl (g.2.1 0, 2001, .inl (aI ZB))), (ze, .inl (g.2.1 0, 2001, .inl (aI ZE))), (zv, .inl (g.2.1 0, 2001, .inl (oA ZV))), (zw, .inl (g.2.1 6, 2001, .inr (.inr (.inr (.inr ZW))))), (bk, .inr (5, [.ref ra, .ref pa, .int (bI pr), .int (nI rules.length), .int (nI 0), .int (nI dp)])), (ra, .inl (g.2.1 3, 400, .inr (.inr (.inr (.inr RA))))), (q_14, .inr (4, [.int (nI 5), .int (nI sta), va_rf ar, .int (oI none), .int (oI none), .int (oI nr_91)]))] ++ PP) 9 5 d_Parser_takeRule_94 ci_Rule fi_Parser_124 rfl (by decide) rfl rfl (rfl) (rfl) (by simp) rfl ?_
    refine r_aload_n C 1 d_Parser_takeRule_97 rfl rfl ?_
    refine r_get C 9 5 d_Parser_takeRule_98 ci_Rule fi_Parser_124 rfl (by decide) rfl rfl ?_
    refine r_iconst C ((-1)) d_Parser_takeRule_101 (by decide) ?_
    refine r_ocmp_eq C 117 d_Parser_takeRule_102 (by decide) (by assumption) (fun c_102 => ?_) (fun c_102 => ?_)
    · subst c_102
      refine r_norm2 (ws' := [(p, .inr (6, [.ref bk, .ref a])), (a, .inr (2, [.ref t, .ref zs, .ref zb, .ref ze, .ref zv, .ref zw, .int (nI cnt), .int (nI nx2_91), .int (nI tk_91.1), .int (nI tk_91.2.1), .int (nI ee), .int (oI tk_91.2.2.2.1), va_rf (wR g tk_91.2.2.2.2)])), (zs, .inl (g.2.1 0, 2001, .inl (aI ZS))), (zb, .inl (g.2.1 0, 2001, .inl (aI ZB))), (ze, .inl (g.2.1 0, 2001, .inl (aI ZE))), (zv, .inl (g.2.1 0, 2001, .inl (oA ZV))), (zw, .inl (g.2.1 6, 2001, .inr (.inr (.inr (.inr ZW))))), (bk, .inr (5, [.ref ra, .ref pa, .int (bI pr), .int (nI rules.length), .int (nI 0), .int (nI dp)])), (ra, .inl (g.2.1 3, 400, .inr (.inr (.inr (.inr RA))))), (q_14, .inr (4, [.int (nI 5), .int (nI sta), va_rf ar, .int (-1), .int (-1), .int (-1)]))] ++ PP) (st' := []) (lv' := [(4, .int (nI 1)), (3, .ref q_14), (2, .ref (g.2.2.1 w)), (0, .ref p), (1, va_rf ar)]) rfl rfl rfl ?_
      refine r_iconst C (nI 0) d_Parser_takeRule_117 (by decide) ?_
      refine r_istore C (lv' := [(4, .int (nI 0)), (3, .ref q_14), (2, .ref (g.2.2.1 w)), (0, .ref p), (1, va_rf ar)]) d_Parser_takeRule_118 (by decide) rfl ?_
      refine r_goto C 152 d_Parser_takeRule_120 (by decide) ?_
      refine r_iload C 0 d_Parser_takeRule_152 rfl ?_
      refine r_nif_eq C 172 d_Parser_takeRule_154 (by decide) (by omega) (fun c_154 => ?_) (fun c_154 => ?_)
      rotate_left
      · exact absurd c_154 (by decide)
      refine r_iconst C (nI 0) d_Parser_takeRule_172 (by decide) ?_
      refine r_eqS (st' := [.int (bI false)]) rfl ?_
      refine r_bret C E d_Parser_takeRule_173 (by first | decide | omega | (simp only [rmk]; omega)) (by first | decide | omega | (simp only [rmk]; omega)) ?_
      exact ⟨false, rules, _, _, tk_91, ou_91, _, rfl, rfl, (pRule_n' hkw hx_38 (pNums_5n hx_91)).symm, hRA.mono (fun q hq => List.mem_cons_of_mem _ hq), fun q hq => List.mem_cons_of_mem _ hq, hO2_91, hc2_91, ho2_91, h400⟩
    · obtain ⟨v_102, rfl⟩ := c_102
      refine r_norm2 (ws' := [(p, .inr (6, [.ref bk, .ref a])), (a, .inr (2, [.ref t, .ref zs, .ref zb, .ref ze, .ref zv, .ref zw, .int (nI cnt), .int (nI nx2_91), .int (nI tk_91.1), .int (nI tk_91.2.1), .int (nI ee), .int (oI tk_91.2.2.2.1), va_rf (wR g tk_91.2.2.2.2)])), (zs, .inl (g.2.1 0, 2001, .inl (aI ZS))), (zb, .inl (g.2.1 0, 2001, .inl (aI ZB))), (ze, .inl (g.2.1 0, 2001, .inl (aI ZE))), (zv, .inl (g.2.1 0, 2001, .inl (oA ZV))), (zw, .inl (g.2.1 6, 2001, .inr (.inr (.inr (.inr ZW))))), (bk, .inr (5, [.ref ra, .ref pa, .int (bI pr), .int (nI rules.length), .int (nI 0), .int (nI dp)])), (ra, .inl (g.2.1 3, 400, .inr (.inr (.inr (.inr RA))))), (q_14, .inr (4, [.int (nI 5), .int (nI sta), va_rf ar, .int (oI none), .int (oI none), .int (nI v_102)]))] ++ PP) (st' := []) (lv' := [(4, .int (nI 1)), (3, .ref q_14), (2, .ref (g.2.2.1 w)), (0, .ref p), (1, va_rf ar)]) rfl rfl rfl ?_
      refine r_aload_n C 3 d_Parser_takeRule_105 rfl rfl ?_
      refine r_aload_n C 1 d_Parser_takeRule_106 rfl rfl ?_
      refine j_callV C (c_Parser_takeComparison g (xl x) (p := p) (bk := bk) (ra := ra) (pa := pa) (k := k) (so := tk_91.1) (sta := tk_91.2.1) (en := tk_91.2.2.1) (ee := ee) (rc := rules.length) (dp := dp) (a := a) (t := t) (zs := zs) (zb := zb) (ze := ze) (zv := zv) (zw := zw) (cnt := cnt) (nx := nx2_91) (T := T) (ZS := ZS) (ZB := ZB) (ZE := ZE) (ZV := ZV) (ZW := ZW) (v := tk_91.2.2.2.1) (wd := tk_91.2.2.2.2) (pr := pr) (out := ou_91) (y := q_14) (ki := 5) (st := sta) (ar := ar) (c := none) (nu := none) (co := some v_102) (by first | assumption | rfl | omega) (by first | assumption | rfl | omega) (by first | assumption | rfl | omega) (by first | assumption | rfl | omega) (by first | assumption | rfl | omega) (by first | assumption | rfl | omega)) (Sp.keep (Sp.of (wr := [(ra, .inl (g.2.1 3, 400, .inr (.inr (.inr (.inr RA)))))]) [0, 1, 2, 3, 4, 5, 6, 7, 9] [8] rfl rfl rfl rfl (by decide)) PP) d_Parser_takeRule_107 lk_Parser_119 mw_Parser_takeComparison vw_Parser_takeComparison (q0 := 0) rfl rfl (fit_of hR (by first | decide | (simp only [rmk]; omega)) (by first | decide | (simp only [rmk]; omega)) (by first | decide | (simp only [rmk]; omega)) (by first | decide | (simp only [rmk]; omega))) rfl (cat8 (Nat.le_of_ble_eq_true rfl)) (As := [.ref q_14]) (rest := []) rfl (fun r_107 w_107 hp_107 => ?_)
      obtain ⟨ok_107, c2_107, nu2_107, tk_107, ou_107, nx2_107, rfl, rfl, hx_107, hO2_107, hc2_107, ho2_107⟩ := hp_107
      refine r_swap ?_
      refine r_afterP (X := [(ra, .inl (g.2.1 3, 400, .inr (.inr (.inr (.inr RA))))), (p, .inr (6, [.ref bk, .ref a])), (a, .inr (2, [.ref t, .ref zs, .ref zb, .ref ze, .ref zv, .ref zw, .int (nI cnt), .int (nI nx2_107), .int (nI tk_107.1), .int (nI tk_107.2.1), .int (nI ee), .int (oI tk_107.2.2.2.1), va_rf (wR g tk_107.2.2.2.2)])), (zs, .inl (g.2.1 0, 2001, .inl (aI ZS))), (zb, .inl (g.2.1 0, 2001, .inl (aI ZB))), (ze, .inl (g.2.1 0, 2001, .inl (aI ZE))), (zv, .inl (g.2.1 0, 2001, .inl (oA ZV))), (zw, .inl (g.2.1 6, 2001, .inr (.inr (.inr (.inr ZW))))), (bk, .inr (5, [.ref ra, .ref pa, .int (bI pr), .int (nI rules.length), .int (nI 0), .int (nI dp)])), (q_14, .inr (4, [.int (nI 5), .int (nI sta), va_rf ar, .int (oI c2_107), .int (oI nu2_107), .int (oI (some v_102))]))]) (X' := [(p, .inr (6, [.ref bk, .ref a])), (a, .inr (2, [.ref t, .ref zs, .ref zb, .ref ze, .ref zv, .ref zw, .int (nI cnt), .int (nI nx2_107), .int (nI tk_107.1), .int (nI tk_107.2.1), .int (nI ee), .int (oI tk_107.2.2.2.1), va_rf (wR g tk_107.2.2.2.2)])), (zs, .inl (g.2.1 0, 2001, .inl (aI ZS))), (zb, .inl (g.2.1 0, 2001, .inl (aI ZB))), (ze, .inl (g.2.1 0, 2001, .inl (aI ZE))), (zv, .inl (g.2.1 0, 2001, .inl (oA ZV))), (zw, .inl (g.2.1 6, 2001, .inr (.inr (.inr (.inr ZW))))), (bk, .inr (5, [.ref ra, .ref pa, .int (bI pr), .int (nI rules.length), .int (nI 0), .int (nI dp)])), (ra, .inl (g.2.1 3, 400, .inr (.inr (.inr (.inr RA))))), (q_14, .inr (4, [.int (nI 5), .int (nI sta), va_rf ar, .int (oI c2_107), .int (oI nu2_107), .int (oI (some v_102))]))]) (pl := PP) (st' := [.int (bI ok_107)]) (n1 := 0 + 1) (n2 := 0 + 6) [1, 2, 3, 4, 5, 6, 7, 8, 0, 9] rfl rfl rfl rfl rfl rfl ?_
      refine r_bif_eq C 117 d_Parser_takeRule_110 (by decide) (fun c_110 => ?_) (fun c_110 => ?_)
      · skip
        refine r_iconst C (nI 0) d_Parser_takeRule_117 (by decide) ?_
        refine r_istore C (lv' := [(4, .int (nI 0)), (3, .ref q_14), (2, .ref (g.2.2.1 w)), (0, .ref p), (1, va_rf ar)]) d_Parser_takeRule_118 (by decide) rfl ?_
        refine r_goto C 152 d_Parser_takeRule_120 (by decide) ?_
        refine r_iload C 0 d_Parser_takeRule_152 rfl ?_
        refine r_nif_eq C 172 d_Parser_takeRule_154 (by decide) (by omega) (fun c_154 => ?_) (fun c_154 => ?_)
        rotate_left
        · exact absurd c_154 (by decide)
        refine r_iconst C (nI 0) d_Parser_takeRule_172 (by decide) ?_
        refine r_eqS (st' := [.int (bI false)]) rfl ?_
        refine r_bret C E d_Parser_takeRule_173 (by first | decide | omega | (simp only [rmk]; omega)) (by first | decide | omega | (simp only [rmk]; omega)) ?_
        exact ⟨false, rules, _, _, tk_107, ou_107, _, rfl, rfl, (pRule_n' hkw hx_38 (by have h := pNums_5 hx_91 hx_107; rw [c_110] at h; exact h)).symm, hRA.mono (fun q hq => List.mem_cons_of_mem _ hq), fun q hq => List.mem_cons_of_mem _ hq, hO2_107, hc2_107, ho2_107, h400⟩
      · skip
        refine r_iconst C (nI 1) d_Parser_takeRule_113 (by decide) ?_
        refine r_goto C 118 d_Parser_takeRule_114 (by decide) ?_
        refine r_istore C (lv' := [(4, .int (nI 1)), (3, .ref q_14), (2, .ref (g.2.2.1 w)), (0, .ref p), (1, va_rf ar)]) d_Parser_takeRule_118 (by decide) rfl ?_
        refine r_goto C 152 d_Parser_takeRule_120 (by decide) ?_
        refine r_iload C 0 d_Parser_takeRule_152 rfl ?_
        refine r_nif_eq C 172 d_Parser_takeRule_154 (by decide) (by omega) (fun c_154 => ?_) (fun c_154 => ?_)
        · exact absurd c_154 (by decide)
        refine r_aload_n C 3 d_Parser_takeRule_157 rfl rfl ?_
        refine r_get C 0 0 d_Parser_takeRule_158 ci_Parser fi_Parser_9 rfl (by decide) rfl rfl ?_
        refine r_aload_n C 1 d_Parser_takeRule_161 rfl rfl ?_
        refine j_callV C (c_Book_add g (xl x) (bk := bk) (ra := ra) (pa := pa) (rc := rules.length) (pn := 0) (dp := dp) (pr := pr) (y := q_14) (ki := 5) (st := sta) (ar := ar) (c := c2_107) (nu := nu2_107) (co := (some v_102)) (RA := RA) (by first | assumption | rfl | omega)) (Sp.keep (Sp.of (wr := [(p, .inr (6, [.ref bk, .ref a])), (a, .inr (2, [.ref t, .ref zs, .ref zb, .ref ze, .ref zv, .ref zw, .int (nI cnt), .int (nI nx2_107), .int (nI tk_107.1), .int (nI tk_107.2.1), .int (nI ee), .int (oI tk_107.2.2.2.1), va_rf (wR g tk_107.2.2.2.2)])), (zs, .inl (g.2.1 0, 2001, .inl (aI ZS))), (zb, .inl (g.2.1 0, 2001, .inl (aI ZB))), (ze, .inl (g.2.1 0, 2001, .inl (aI ZE))), (zv, .inl (g.2.1 0, 2001, .inl (oA ZV))), (zw, .inl (g.2.1 6, 2001, .inr (.inr (.inr (.inr ZW)))))]) [7, 8, 9] [0, 1, 2, 3, 4, 5, 6] rfl rfl rfl rfl (by decide)) PP) d_Parser_takeRule_162 lk_Parser_130 mw_Book_add vw_Book_add (q0 := 0) rfl rfl (fit_of hR (by first | decide | (simp only [rmk]; omega)) (by first | decide | (simp only [rmk]; omega)) (by first | decide | (simp only [rmk]; omega)) (by first | decide | (simp only [rmk]; omega))) rfl (cat8 (Nat.le_of_ble_eq_true rfl)) (As := [.ref q_14]) (rest := []) rfl (fun r_162 w_162 hp_162 => ?_)
        obtain ⟨ok_162, rc2_162, RA2_162, rfl, rfl, had_162⟩ := hp_162
        refine r_swap ?_
        refine r_afterP (X := [(p, .inr (6, [.ref bk, .ref a])), (a, .inr (2, [.ref t, .ref zs, .ref zb, .ref ze, .ref zv, .ref zw, .int (nI cnt), .int (nI nx2_107), .int (nI tk_107.1), .int (nI tk_107.2.1), .int (nI ee), .int (oI tk_107.2.2.2.1), va_rf (wR g tk_107.2.2.2.2)])), (zs, .inl (g.2.1 0, 2001, .inl (aI ZS))), (zb, .inl (g.2.1 0, 2001, .inl (aI ZB))), (ze, .inl (g.2.1 0, 2001, .inl (aI ZE))), (zv, .inl (g.2.1 0, 2001, .inl (oA ZV))), (zw, .inl (g.2.1 6, 2001, .inr (.inr (.inr (.inr ZW))))), (bk, .inr (5, [.ref ra, .ref pa, .int (bI pr), .int (nI rc2_162), .int (nI 0), .int (nI dp)])), (ra, .inl (g.2.1 3, 400, .inr (.inr (.inr (.inr RA2_162))))), (q_14, .inr (4, [.int (nI 5), .int (nI sta), va_rf ar, .int (oI c2_107), .int (oI nu2_107), .int (oI (some v_102))]))]) (X' := [(p, .inr (6, [.ref bk, .ref a])), (a, .inr (2, [.ref t, .ref zs, .ref zb, .ref ze, .ref zv, .ref zw, .int (nI cnt), .int (nI nx2_107), .int (nI tk_107.1), .int (nI tk_107.2.1), .int (nI ee), .int (oI tk_107.2.2.2.1), va_rf (wR g tk_107.2.2.2.2)])), (zs, .inl (g.2.1 0, 2001, .inl (aI ZS))), (zb, .inl (g.2.1 0, 2001, .inl (aI ZB))), (ze, .inl (g.2.1 0, 2001, .inl (aI ZE))), (zv, .inl (g.2.1 0, 2001, .inl (oA ZV))), (zw, .inl (g.2.1 6, 2001, .inr (.inr (.inr (.inr ZW))))), (bk, .inr (5, [.ref ra, .ref pa, .int (bI pr), .int (nI rc2_162), .int (nI 0), .int (nI dp)])), (ra, .inl (g.2.1 3, 400, .inr (.inr (.inr (.inr RA2_162))))), (q_14, .inr (4, [.int (nI 5), .int (nI sta), va_rf ar, .int (oI c2_107), .int (oI nu2_107), .int (oI (some v_102))]))]) (pl := PP) (st' := [.int (bI ok_162)]) (n1 := 0 + 1) (n2 := 0 + 6) [0, 1, 2, 3, 4, 5, 6, 7, 8, 9] rfl rfl rfl rfl rfl rfl ?_
        refine r_bif_eq C 172 d_Parser_takeRule_165 (by decide) (fun c_165 => ?_) (fun c_165 => ?_)
        · skip
          refine r_iconst C (nI 0) d_Parser_takeRule_172 (by decide) ?_
          refine r_eqS (st' := [.int (bI false)]) rfl ?_
          refine r_bret C E d_Parser_takeRule_173 (by first | decide | omega | (simp only [rmk]; omega)) (by first | decide | omega | (simp only [rmk]; omega)) ?_
          rcases had_162 with ⟨e1, e2⟩ | ⟨e1, e2, rfl, rfl⟩
          · rw [c_165] at e1; cases e1
          · exact ⟨false, rules, _, _, tk_107, ou_107, _, rfl, rfl, (pRule_f' hkw hx_38 (by have h := pNums_5 hx_91 hx_107; rw [c_110] at h; exact h) e2).symm, hRA.mono (fun q hq => List.mem_cons_of_mem _ hq), fun q hq => List.mem_cons_of_mem _ hq, hO2_107, hc2_107, ho2_107, h400⟩
        · skip
          refine r_iconst C (nI 1) d_Parser_takeRule_168 (by decide) ?_
          refine r_goto C 173 d_Parser_takeRule_169 (by decide) ?_
          refine r_eqS (st' := [.int (bI true)]) rfl ?_
          refine r_bret C E d_Parser_takeRule_173 (by first | decide | omega | (simp only [rmk]; omega)) (by first | decide | omega | (simp only [rmk]; omega)) ?_
          rcases had_162 with ⟨e1, e2, rfl, rfl⟩ | ⟨e1, e2⟩
          · exact ⟨true, rules ++ [(5, sta, ls, c2_107, nu2_107, (some v_102))], _, _, tk_107, ou_107, _, rfl, by rw [List.length_append]; rfl, (pRule_y' hkw hx_38 (by have h := pNums_5 hx_91 hx_107; rw [c_110] at h; exact h) e2).symm, rules_push hRA hch List.mem_cons_self (fun q hq => List.mem_cons_of_mem _ hq), fun q hq => List.mem_cons_of_mem _ hq, hO2_107, hc2_107, ho2_107, by rw [List.length_append]; exact e2⟩
          · rw [c_165] at e1; cases e1
  · skip
    refine r_tableIn C 123 d_Parser_takeRule_48 (by decide) (by decide) rfl (by decide) ?_
    refine r_aload_n C 1 d_Parser_takeRule_123 rfl rfl ?_
    refine r_aload_n C 3 d_Parser_takeRule_124 rfl rfl ?_
    refine r_iconst C (nI 0) d_Parser_takeRule_125 (by decide) ?_
    refine r_bipush C (nI 9) d_Parser_takeRule_126 (by decide) ?_
    refine j_callV C (c_Parser_takeNumber g (xl x) (p := p) (bk := bk) (ra := ra) (pa := pa) (k := k) (so := tk_38.1) (sta := tk_38.2.1) (en := tk_38.2.2.1) (ee := ee) (rc := rules.length) (dp := dp) (a := a) (t := t) (zs := zs) (zb := zb) (ze := ze) (zv := zv) (zw := zw) (cnt := cnt) (nx := nx2_38) (T := T) (ZS := ZS) (ZB := ZB) (ZE := ZE) (ZV := ZV) (ZW := ZW) (v := tk_38.2.2.2.1) (wd := tk_38.2.2.2.2) (pr := pr) (out := ou_38) (lo := 0) (hi := 9) (by first | assumption | rfl | omega) (by first | assumption | rfl | omega) (by first | assumption | rfl | omega) (by first | assumption | rfl | omega) (by first | assumption | rfl | omega) (by first | assumption | rfl | omega) (by first | assumption | rfl | omega) (by first | assumption | rfl | omega)) (Sp.keep (Sp.of (wr := [(ra, .inl (g.2.1 3, 400, .inr (.inr (.inr (.inr RA))))), (q_14, .inr (4, [.int (nI 6), .int (nI sta), va_rf ar, .int (oI none), .int (oI none), .int (oI none)]))]) [0, 1, 2, 3, 4, 5, 6, 7] [8, 9] rfl rfl rfl rfl (by decide)) PP) d_Parser_takeRule_128 lk_Parser_100 mw_Parser_takeNumber vw_Parser_takeNumber (q0 := 0) rfl rfl (fit_of hR (by first | decide | (simp only [rmk]; omega)) (by first | decide | (simp only [rmk]; omega)) (by first | decide | (simp only [rmk]; omega)) (by first | decide | (simp only [rmk]; omega))) rfl (cat8 (Nat.le_of_ble_eq_true rfl)) (As := [.int (nI 0), .int (nI 9)]) (rest := [.ref q_14]) rfl (fun r_128 w_128 hp_128 => ?_)
    obtain ⟨nr_128, tk_128, ou_128, nx2_128, rfl, rfl, hx_128, hb_128, hO2_128, hc2_128, ho2_128⟩ := hp_128
    refine r_swap ?_
    refine r_afterP (X := [(ra, .inl (g.2.1 3, 400, .inr (.inr (.inr (.inr RA))))), (q_14, .inr (4, [.int (nI 6), .int (nI sta), va_rf ar, .int (oI none), .int (oI none), .int (oI none)])), (p, .inr (6, [.ref bk, .ref a])), (a, .inr (2, [.ref t, .ref zs, .ref zb, .ref ze, .ref zv, .ref zw, .int (nI cnt), .int (nI nx2_128), .int (nI tk_128.1), .int (nI tk_128.2.1), .int (nI ee), .int (oI tk_128.2.2.2.1), va_rf (wR g tk_128.2.2.2.2)])), (zs, .inl (g.2.1 0, 2001, .inl (aI ZS))), (zb, .inl (g.2.1 0, 2001, .inl (aI ZB))), (ze, .inl (g.2.1 0, 2001, .inl (aI ZE))), (zv, .inl (g.2.1 0, 2001, .inl (oA ZV))), (zw, .inl (g.2.1 6, 2001, .inr (.inr (.inr (.inr ZW))))), (bk, .inr (5, [.ref ra, .ref pa, .int (bI pr), .int (nI rules.length), .int (nI 0), .int (nI dp)]))]) (X' := [(p, .inr (6, [.ref bk, .ref a])), (a, .inr (2, [.ref t, .ref zs, .ref zb, .ref ze, .ref zv, .ref zw, .int (nI cnt), .int (nI nx2_128), .int (nI tk_128.1), .int (nI tk_128.2.1), .int (nI ee), .int (oI tk_128.2.2.2.1), va_rf (wR g tk_128.2.2.2.2)])), (zs, .inl (g.2.1 0, 2001, .inl (aI ZS))), (zb, .inl (g.2.1 0, 2001, .inl (aI ZB))), (ze, .inl (g.2.1 0, 2001, .inl (aI ZE))), (zv, .inl (g.2.1 0, 2001, .inl (oA ZV))), (zw, .inl (g.2.1 6, 2001, .inr (.inr (.inr (.inr ZW))))), (bk, .inr (5, [.ref ra, .ref pa, .int (bI pr), .int (nI rules.length), .int (nI 0), .int (nI dp)])), (ra, .inl (g.2.1 3, 400, .inr (.inr (.inr (.inr RA))))), (q_14, .inr (4, [.int (nI 6), .int (nI sta), va_rf ar, .int (oI none), .int (oI none), .int (oI none)]))]) (pl := PP) (st' := [.int (oI nr_128), .ref q_14]) (n1 := 0 + 1) (n2 := 0 + 6) [2, 3, 4, 5, 6, 7, 8, 9, 0, 1] rfl rfl rfl rfl rfl rfl ?_
    refine r_put C (ws' := [(p, .inr (6, [.ref bk, .ref a])), (a, .inr (2, [.ref t, .ref zs, .ref zb, .ref ze, .ref zv, .ref zw, .int (nI cnt), .int (nI nx2_128), .int (nI tk_128.1), .int (nI tk_128.2.1), .int (nI ee), .int (oI tk_128.2.2.2.1), va_rf (wR g tk_128.2.2.2.2)])), (zs, .inl (g.2.1 0, 2001, .inl (aI ZS))), (zb, .inl (g.2.1 0, 2001, .inl (aI ZB))), (ze, .inl (g.2.1 0, 2001, .inl (aI ZE))), (zv, .inl (g.2.1 0, 2001, .inl (oA ZV))), (zw, .inl (g.2.1 6, 2001, .inr (.inr (.inr (.inr ZW))))), (bk, .inr (5, [.ref ra, .ref pa, .int (bI pr), .int (nI rules.length), .int (nI 0), .int (nI dp)])), (ra, .inl (g.2.1 3, 400, .inr (.inr (.inr (.inr RA))))), (q_14, .inr (4, [.int (nI 6), .int (nI sta), va_rf ar, .int (oI none), .int (oI nr_128), .int (oI none)]))] ++ PP) 9 4 d_Parser_takeRule_131 ci_Rule fi_Parser_127 rfl (by decide) rfl rfl (rfl) (rfl) (by simp) rfl ?_
    refine r_aload_n C 1 d_Parser_takeRule_134 rfl rfl ?_
    refine r_get C 9 4 d_Parser_takeRule_135 ci_Rule fi_Parser_127 rfl (by decide) rfl rfl ?_
    refine r_iconst C ((-1)) d_Parser_takeRule_138 (by decide) ?_
    refine r_ocmp_eq C 146 d_Parser_takeRule_139 (by decide) (by assumption) (fun c_139 => ?_) (fun c_139 => ?_)
    · subst c_139
      refine r_norm2 (ws' := [(p, .inr (6, [.ref bk, .ref a])), (a, .inr (2, [.ref t, .ref zs, .ref zb, .ref ze, .ref zv, .ref zw, .int (nI cnt), .int (nI nx2_128), .int (nI tk_128.1), .int (nI tk_128.2.1), .int (nI ee), .int (oI tk_128.2.2.2.1), va_rf (wR g tk_128.2.2.2.2)])), (zs, .inl (g.2.1 0, 2001, .inl (aI ZS))), (zb, .inl (g.2.1 0, 2001, .inl (aI ZB))), (ze, .inl (g.2.1 0, 2001, .inl (aI ZE))), (zv, .inl (g.2.1 0, 2001, .inl (oA ZV))), (zw, .inl (g.2.1 6, 2001, .inr (.inr (.inr (.inr ZW))))), (bk, .inr (5, [.ref ra, .ref pa, .int (bI pr), .int (nI rules.length), .int (nI 0), .int (nI dp)])), (ra, .inl (g.2.1 3, 400, .inr (.inr (.inr (.inr RA))))), (q_14, .inr (4, [.int (nI 6), .int (nI sta), va_rf ar, .int (-1), .int (-1), .int (-1)]))] ++ PP) (st' := []) (lv' := [(4, .int (nI 1)), (3, .ref q_14), (2, .ref (g.2.2.1 w)), (0, .ref p), (1, va_rf ar)]) rfl rfl rfl ?_
      refine r_iconst C (nI 0) d_Parser_takeRule_146 (by decide) ?_
      refine r_istore C (lv' := [(4, .int (nI 0)), (3, .ref q_14), (2, .ref (g.2.2.1 w)), (0, .ref p), (1, va_rf ar)]) d_Parser_takeRule_147 (by decide) rfl ?_
      refine r_goto C 152 d_Parser_takeRule_149 (by decide) ?_
      refine r_iload C 0 d_Parser_takeRule_152 rfl ?_
      refine r_nif_eq C 172 d_Parser_takeRule_154 (by decide) (by omega) (fun c_154 => ?_) (fun c_154 => ?_)
      rotate_left
      · exact absurd c_154 (by decide)
      refine r_iconst C (nI 0) d_Parser_takeRule_172 (by decide) ?_
      refine r_eqS (st' := [.int (bI false)]) rfl ?_
      refine r_bret C E d_Parser_takeRule_173 (by first | decide | omega | (simp only [rmk]; omega)) (by first | decide | omega | (simp only [rmk]; omega)) ?_
      exact ⟨false, rules, _, _, tk_128, ou_128, _, rfl, rfl, (pRule_n' hkw hx_38 (pNums_6 hx_128)).symm, hRA.mono (fun q hq => List.mem_cons_of_mem _ hq), fun q hq => List.mem_cons_of_mem _ hq, hO2_128, hc2_128, ho2_128, h400⟩
    · obtain ⟨v_139, rfl⟩ := c_139
      refine r_norm2 (ws' := [(p, .inr (6, [.ref bk, .ref a])), (a, .inr (2, [.ref t, .ref zs, .ref zb, .ref ze, .ref zv, .ref zw, .int (nI cnt), .int (nI nx2_128), .int (nI tk_128.1), .int (nI tk_128.2.1), .int (nI ee), .int (oI tk_128.2.2.2.1), va_rf (wR g tk_128.2.2.2.2)])), (zs, .inl (g.2.1 0, 2001, .inl (aI ZS))), (zb, .inl (g.2.1 0, 2001, .inl (aI ZB))), (ze, .inl (g.2.1 0, 2001, .inl (aI ZE))), (zv, .inl (g.2.1 0, 2001, .inl (oA ZV))), (zw, .inl (g.2.1 6, 2001, .inr (.inr (.inr (.inr ZW))))), (bk, .inr (5, [.ref ra, .ref pa, .int (bI pr), .int (nI rules.length), .int (nI 0), .int (nI dp)])), (ra, .inl (g.2.1 3, 400, .inr (.inr (.inr (.inr RA))))), (q_14, .inr (4, [.int (nI 6), .int (nI sta), va_rf ar, .int (oI none), .int (nI v_139), .int (oI none)]))] ++ PP) (st' := []) (lv' := [(4, .int (nI 1)), (3, .ref q_14), (2, .ref (g.2.2.1 w)), (0, .ref p), (1, va_rf ar)]) rfl rfl rfl ?_
      refine r_iconst C (nI 1) d_Parser_takeRule_142 (by decide) ?_
      refine r_goto C 147 d_Parser_takeRule_143 (by decide) ?_
      refine r_istore C (lv' := [(4, .int (nI 1)), (3, .ref q_14), (2, .ref (g.2.2.1 w)), (0, .ref p), (1, va_rf ar)]) d_Parser_takeRule_147 (by decide) rfl ?_
      refine r_goto C 152 d_Parser_takeRule_149 (by decide) ?_
      refine r_iload C 0 d_Parser_takeRule_152 rfl ?_
      refine r_nif_eq C 172 d_Parser_takeRule_154 (by decide) (by omega) (fun c_154 => ?_) (fun c_154 => ?_)
      · exact absurd c_154 (by decide)
      refine r_aload_n C 3 d_Parser_takeRule_157 rfl rfl ?_
      refine r_get C 0 0 d_Parser_takeRule_158 ci_Parser fi_Parser_9 rfl (by decide) rfl rfl ?_
      refine r_aload_n C 1 d_Parser_takeRule_161 rfl rfl ?_
      refine j_callV C (c_Book_add g (xl x) (bk := bk) (ra := ra) (pa := pa) (rc := rules.length) (pn := 0) (dp := dp) (pr := pr) (y := q_14) (ki := 6) (st := sta) (ar := ar) (c := none) (nu := some v_139) (co := none) (RA := RA) (by first | assumption | rfl | omega)) (Sp.keep (Sp.of (wr := [(p, .inr (6, [.ref bk, .ref a])), (a, .inr (2, [.ref t, .ref zs, .ref zb, .ref ze, .ref zv, .ref zw, .int (nI cnt), .int (nI nx2_128), .int (nI tk_128.1), .int (nI tk_128.2.1), .int (nI ee), .int (oI tk_128.2.2.2.1), va_rf (wR g tk_128.2.2.2.2)])), (zs, .inl (g.2.1 0, 2001, .inl (aI ZS))), (zb, .inl (g.2.1 0, 2001, .inl (aI ZB))), (ze, .inl (g.2.1 0, 2001, .inl (aI ZE))), (zv, .inl (g.2.1 0, 2001, .inl (oA ZV))), (zw, .inl (g.2.1 6, 2001, .inr (.inr (.inr (.inr ZW)))))]) [7, 8, 9] [0, 1, 2, 3, 4, 5, 6] rfl rfl rfl rfl (by decide)) PP) d_Parser_takeRule_162 lk_Parser_130 mw_Book_add vw_Book_add (q0 := 0) rfl rfl (fit_of hR (by first | decide | (simp only [rmk]; omega)) (by first | decide | (simp only [rmk]; omega)) (by first | decide | (simp only [rmk]; omega)) (by first | decide | (simp only [rmk]; omega))) rfl (cat8 (Nat.le_of_ble_eq_true rfl)) (As := [.ref q_14]) (rest := []) rfl (fun r_162 w_162 hp_162 => ?_)
      obtain ⟨ok_162, rc2_162, RA2_162, rfl, rfl, had_162⟩ := hp_162
      refine r_swap ?_
      refine r_afterP (X := [(p, .inr (6, [.ref bk, .ref a])), (a, .inr (2, [.ref t, .ref zs, .ref zb, .ref ze, .ref zv, .ref zw, .int (nI cnt), .int (nI nx2_128), .int (nI tk_128.1), .int (nI tk_128.2.1), .int (nI ee), .int (oI tk_128.2.2.2.1), va_rf (wR g tk_128.2.2.2.2)])), (zs, .inl (g.2.1 0, 2001, .inl (aI ZS))), (zb, .inl (g.2.1 0, 2001, .inl (aI ZB))), (ze, .inl (g.2.1 0, 2001, .inl (aI ZE))), (zv, .inl (g.2.1 0, 2001, .inl (oA ZV))), (zw, .inl (g.2.1 6, 2001, .inr (.inr (.inr (.inr ZW))))), (bk, .inr (5, [.ref ra, .ref pa, .int (bI pr), .int (nI rc2_162), .int (nI 0), .int (nI dp)])), (ra, .inl (g.2.1 3, 400, .inr (.inr (.inr (.inr RA2_162))))), (q_14, .inr (4, [.int (nI 6), .int (nI sta), va_rf ar, .int (oI none), .int (oI (some v_139)), .int (oI none)]))]) (X' := [(p, .inr (6, [.ref bk, .ref a])), (a, .inr (2, [.ref t, .ref zs, .ref zb, .ref ze, .ref zv, .ref zw, .int (nI cnt), .int (nI nx2_128), .int (nI tk_128.1), .int (nI tk_128.2.1), .int (nI ee), .int (oI tk_128.2.2.2.1), va_rf (wR g tk_128.2.2.2.2)])), (zs, .inl (g.2.1 0, 2001, .inl (aI ZS))), (zb, .inl (g.2.1 0, 2001, .inl (aI ZB))), (ze, .inl (g.2.1 0, 2001, .inl (aI ZE))), (zv, .inl (g.2.1 0, 2001, .inl (oA ZV))), (zw, .inl (g.2.1 6, 2001, .inr (.inr (.inr (.inr ZW))))), (bk, .inr (5, [.ref ra, .ref pa, .int (bI pr), .int (nI rc2_162), .int (nI 0), .int (nI dp)])), (ra, .inl (g.2.1 3, 400, .inr (.inr (.inr (.inr RA2_162))))), (q_14, .inr (4, [.int (nI 6), .int (nI sta), va_rf ar, .int (oI none), .int (oI (some v_139)), .int (oI none)]))]) (pl := PP) (st' := [.int (bI ok_162)]) (n1 := 0 + 1) (n2 := 0 + 6) [0, 1, 2, 3, 4, 5, 6, 7, 8, 9] rfl rfl rfl rfl rfl rfl ?_
      refine r_bif_eq C 172 d_Parser_takeRule_165 (by decide) (fun c_165 => ?_) (fun c_165 => ?_)
      · skip
        refine r_iconst C (nI 0) d_Parser_takeRule_172 (by decide) ?_
        refine r_eqS (st' := [.int (bI false)]) rfl ?_
        refine r_bret C E d_Parser_takeRule_173 (by first | decide | omega | (simp only [rmk]; omega)) (by first | decide | omega | (simp only [rmk]; omega)) ?_
        rcases had_162 with ⟨e1, e2⟩ | ⟨e1, e2, rfl, rfl⟩
        · rw [c_165] at e1; cases e1
        · exact ⟨false, rules, _, _, tk_128, ou_128, _, rfl, rfl, (pRule_f' hkw hx_38 (pNums_6 hx_128) e2).symm, hRA.mono (fun q hq => List.mem_cons_of_mem _ hq), fun q hq => List.mem_cons_of_mem _ hq, hO2_128, hc2_128, ho2_128, h400⟩
      · skip
        refine r_iconst C (nI 1) d_Parser_takeRule_168 (by decide) ?_
        refine r_goto C 173 d_Parser_takeRule_169 (by decide) ?_
        refine r_eqS (st' := [.int (bI true)]) rfl ?_
        refine r_bret C E d_Parser_takeRule_173 (by first | decide | omega | (simp only [rmk]; omega)) (by first | decide | omega | (simp only [rmk]; omega)) ?_
        rcases had_162 with ⟨e1, e2, rfl, rfl⟩ | ⟨e1, e2⟩
        · exact ⟨true, rules ++ [(6, sta, ls, none, (some v_139), none)], _, _, tk_128, ou_128, _, rfl, by rw [List.length_append]; rfl, (pRule_y' hkw hx_38 (pNums_6 hx_128) e2).symm, rules_push hRA hch List.mem_cons_self (fun q hq => List.mem_cons_of_mem _ hq), fun q hq => List.mem_cons_of_mem _ hq, hO2_128, hc2_128, ho2_128, by rw [List.length_append]; exact e2⟩
        · rw [c_165] at e1; cases e1
  · skip
    refine r_tableOut C 152 d_Parser_takeRule_48 (by rw [nI_toInt (by omega)]; omega) (by decide) ?_
    refine r_iload C 0 d_Parser_takeRule_152 rfl ?_
    refine r_nif_eq C 172 d_Parser_takeRule_154 (by decide) (by omega) (fun c_154 => ?_) (fun c_154 => ?_)
    · exact absurd c_154 (by decide)
    refine r_aload_n C 3 d_Parser_takeRule_157 rfl rfl ?_
    refine r_get C 0 0 d_Parser_takeRule_158 ci_Parser fi_Parser_9 rfl (by decide) rfl rfl ?_
    refine r_aload_n C 1 d_Parser_takeRule_161 rfl rfl ?_
    refine j_callV C (c_Book_add g (xl x) (bk := bk) (ra := ra) (pa := pa) (rc := rules.length) (pn := 0) (dp := dp) (pr := pr) (y := q_14) (ki := ki) (st := sta) (ar := ar) (c := none) (nu := none) (co := none) (RA := RA) (by first | assumption | rfl | omega)) (Sp.keep (Sp.of (wr := [(p, .inr (6, [.ref bk, .ref a])), (a, .inr (2, [.ref t, .ref zs, .ref zb, .ref ze, .ref zv, .ref zw, .int (nI cnt), .int (nI nx2_38), .int (nI tk_38.1), .int (nI tk_38.2.1), .int (nI ee), .int (oI tk_38.2.2.2.1), va_rf (wR g tk_38.2.2.2.2)])), (zs, .inl (g.2.1 0, 2001, .inl (aI ZS))), (zb, .inl (g.2.1 0, 2001, .inl (aI ZB))), (ze, .inl (g.2.1 0, 2001, .inl (aI ZE))), (zv, .inl (g.2.1 0, 2001, .inl (oA ZV))), (zw, .inl (g.2.1 6, 2001, .inr (.inr (.inr (.inr ZW)))))]) [7, 8, 9] [0, 1, 2, 3, 4, 5, 6] rfl rfl rfl rfl (by decide)) PP) d_Parser_takeRule_162 lk_Parser_130 mw_Book_add vw_Book_add (q0 := 0) rfl rfl (fit_of hR (by first | decide | (simp only [rmk]; omega)) (by first | decide | (simp only [rmk]; omega)) (by first | decide | (simp only [rmk]; omega)) (by first | decide | (simp only [rmk]; omega))) rfl (cat8 (Nat.le_of_ble_eq_true rfl)) (As := [.ref q_14]) (rest := []) rfl (fun r_162 w_162 hp_162 => ?_)
    obtain ⟨ok_162, rc2_162, RA2_162, rfl, rfl, had_162⟩ := hp_162
    refine r_swap ?_
    refine r_afterP (X := [(p, .inr (6, [.ref bk, .ref a])), (a, .inr (2, [.ref t, .ref zs, .ref zb, .ref ze, .ref zv, .ref zw, .int (nI cnt), .int (nI nx2_38), .int (nI tk_38.1), .int (nI tk_38.2.1), .int (nI ee), .int (oI tk_38.2.2.2.1), va_rf (wR g tk_38.2.2.2.2)])), (zs, .inl (g.2.1 0, 2001, .inl (aI ZS))), (zb, .inl (g.2.1 0, 2001, .inl (aI ZB))), (ze, .inl (g.2.1 0, 2001, .inl (aI ZE))), (zv, .inl (g.2.1 0, 2001, .inl (oA ZV))), (zw, .inl (g.2.1 6, 2001, .inr (.inr (.inr (.inr ZW))))), (bk, .inr (5, [.ref ra, .ref pa, .int (bI pr), .int (nI rc2_162), .int (nI 0), .int (nI dp)])), (ra, .inl (g.2.1 3, 400, .inr (.inr (.inr (.inr RA2_162))))), (q_14, .inr (4, [.int (nI ki), .int (nI sta), va_rf ar, .int (oI none), .int (oI none), .int (oI none)]))]) (X' := [(p, .inr (6, [.ref bk, .ref a])), (a, .inr (2, [.ref t, .ref zs, .ref zb, .ref ze, .ref zv, .ref zw, .int (nI cnt), .int (nI nx2_38), .int (nI tk_38.1), .int (nI tk_38.2.1), .int (nI ee), .int (oI tk_38.2.2.2.1), va_rf (wR g tk_38.2.2.2.2)])), (zs, .inl (g.2.1 0, 2001, .inl (aI ZS))), (zb, .inl (g.2.1 0, 2001, .inl (aI ZB))), (ze, .inl (g.2.1 0, 2001, .inl (aI ZE))), (zv, .inl (g.2.1 0, 2001, .inl (oA ZV))), (zw, .inl (g.2.1 6, 2001, .inr (.inr (.inr (.inr ZW))))), (bk, .inr (5, [.ref ra, .ref pa, .int (bI pr), .int (nI rc2_162), .int (nI 0), .int (nI dp)])), (ra, .inl (g.2.1 3, 400, .inr (.inr (.inr (.inr RA2_162))))), (q_14, .inr (4, [.int (nI ki), .int (nI sta), va_rf ar, .int (oI none), .int (oI none), .int (oI none)]))]) (pl := PP) (st' := [.int (bI ok_162)]) (n1 := 0 + 1) (n2 := 0 + 6) [0, 1, 2, 3, 4, 5, 6, 7, 8, 9] rfl rfl rfl rfl rfl rfl ?_
    refine r_bif_eq C 172 d_Parser_takeRule_165 (by decide) (fun c_165 => ?_) (fun c_165 => ?_)
    · skip
      refine r_iconst C (nI 0) d_Parser_takeRule_172 (by decide) ?_
      refine r_eqS (st' := [.int (bI false)]) rfl ?_
      refine r_bret C E d_Parser_takeRule_173 (by first | decide | omega | (simp only [rmk]; omega)) (by first | decide | omega | (simp only [rmk]; omega)) ?_
      rcases had_162 with ⟨e1, e2⟩ | ⟨e1, e2, rfl, rfl⟩
      · rw [c_165] at e1; cases e1
      · exact ⟨false, rules, _, _, tk_38, ou_38, _, rfl, rfl, (pRule_f' hkw hx_38 (pNums_d hno_48) e2).symm, hRA.mono (fun q hq => List.mem_cons_of_mem _ hq), fun q hq => List.mem_cons_of_mem _ hq, hO2_38, hc2_38, ho2_38, h400⟩
    · skip
      refine r_iconst C (nI 1) d_Parser_takeRule_168 (by decide) ?_
      refine r_goto C 173 d_Parser_takeRule_169 (by decide) ?_
      refine r_eqS (st' := [.int (bI true)]) rfl ?_
      refine r_bret C E d_Parser_takeRule_173 (by first | decide | omega | (simp only [rmk]; omega)) (by first | decide | omega | (simp only [rmk]; omega)) ?_
      rcases had_162 with ⟨e1, e2, rfl, rfl⟩ | ⟨e1, e2⟩
      · exact ⟨true, rules ++ [(ki, sta, ls, none, none, none)], _, _, tk_38, ou_38, _, rfl, by rw [List.length_append]; rfl, (pRule_y' hkw hx_38 (pNums_d hno_48) e2).symm, rules_push hRA hch List.mem_cons_self (fun q hq => List.mem_cons_of_mem _ hq), fun q hq => List.mem_cons_of_mem _ hq, hO2_38, hc2_38, ho2_38, by rw [List.length_append]; exact e2⟩
      · rw [c_165] at e1; cases e1
