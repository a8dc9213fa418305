theorem wE {g : GG} (hj : ∀ i j, i < wNm.length → j < wNm.length → g.2.2.1 i = g.2.2.1 j → i = j) {a b : Nat} (ha : a < 23) (hb : b < 23) (h : some (g.2.2.1 a) = some (g.2.2.1 b)) : a = b := hj a b ha hb (Option.some.inj h)
theorem chain_lev {g : GG} {PP : va_W} {ar : Option Nat} {ls : List LayerV} (h : ChainAt g PP ar ls) : ∀ a, ar = some a → ∃ v0 v1 v2 v3 : Value, (a, .inr (3, [v0, v1, v2, v3, .int (nI ls.length)])) ∈ PP := by
  intro a e
  cases ls with
  | nil => rw [show ar = none from h] at e; cases e
  | cons l t =>
    obtain ⟨b, ou, h1, h2, -⟩ := h
    rw [h1] at e
    cases e
    exact ⟨_, _, _, _, h2⟩
theorem chain_nil {g : GG} {PP : va_W} {ar : Option Nat} {ls : List LayerV} (h : ChainAt g PP ar ls) : ar = none → ls.length = 0 := by
  intro e
  cases ls with
  | nil => rfl
  | cons l t =>
    obtain ⟨b, ou, h1, -⟩ := h
    rw [h1] at e
    cases e
theorem ChainAt.mono {g : GG} {PP P2 : va_W} (hs : ∀ q ∈ PP, q ∈ P2) : ∀ {ls : List LayerV} {ar : Option Nat}, ChainAt g PP ar ls → ChainAt g P2 ar ls := by
  intro ls
  induction ls with
  | nil => intro ar h; exact h
  | cons l t ih =>
    intro ar h
    obtain ⟨b, ou, h1, h2, h3, h4⟩ := h
    exact ⟨b, ou, h1, hs _ h2, h3, ih h4⟩
theorem RulesAt.mono {g : GG} {PP P2 : va_W} {RA : Nat → Option Nat} {rules : List RuleV} (h : RulesAt g PP RA rules) (hs : ∀ q ∈ PP, q ∈ P2) : RulesAt g P2 RA rules := by
  intro i r hr
  obtain ⟨a, h1, ar, h2, h3⟩ := h i r hr
  exact ⟨a, h1, ar, hs _ h2, h3.mono hs⟩
/-- a new layer about the old ones -/
theorem chain_new {g : GG} {PP : va_W} {ar : Option Nat} {ls : List LayerV} {q w : Nat} {f s : Option Nat} (h : ChainAt g PP ar ls) (hw : w < 23) (hm : (q, .inr (3, [.ref (g.2.2.1 w), .int (oI f), .int (oI s), va_rf ar, .int (nI (ls.length + 1))])) ∈ (q, .inr (3, [.ref (g.2.2.1 w), .int (oI f), .int (oI s), va_rf ar, .int (nI (ls.length + 1))])) :: PP) : ChainAt g ((q, .inr (3, [.ref (g.2.2.1 w), .int (oI f), .int (oI s), va_rf ar, .int (nI (ls.length + 1))])) :: PP) (some q) ((w, f, s) :: ls) :=
  ⟨q, ar, rfl, hm, hw, h.mono (fun _ hq => List.mem_cons_of_mem _ hq)⟩
def LayRes (g : GG) (PP : va_W) (nl : Option Nat) (ls : List LayerV) (lay : Option LayerV) : Prop := match lay with
  | none => nl = none
  | some l => ∃ a, nl = some a ∧ ChainAt g PP (some a) (l :: ls)
/-- a shape or filter with its numbers -/
def pLay (T : Nat → Nat) (k w : Nat) (x : TO) : Option LayerV × TO :=
  if w = 4 then match pNum T k 1 16 (tTake T k x) with
    | (none, y) => (none, y)
    | (some a, y) => match pNum T k 1 16 y with
      | (none, z) => (none, z)
      | (some b, z) => (some (4, some a, some b), z)
  else if w = 7 then match pNum T k 1 256 (tTake T k x) with
    | (none, y) => (none, y)
    | (some a, y) => (some (7, some a, none), y)
  else (some (w, none, none), tTake T k x)
theorem pLay_4n {T : Nat → Nat} {k : Nat} {x y z : TO} (h : y = tTake T k x) (h1 : (none, z) = pNum T k 1 16 y) : pLay T k 4 x = (none, z) := by simp [pLay, ← h, ← h1]
theorem pLay_4m {T : Nat → Nat} {k a : Nat} {x y z z2 : TO} (h : y = tTake T k x) (h1 : (some a, z) = pNum T k 1 16 y) (h2 : (none, z2) = pNum T k 1 16 z) : pLay T k 4 x = (none, z2) := by simp [pLay, ← h, ← h1, ← h2]
theorem pLay_4 {T : Nat → Nat} {k a b : Nat} {x y z z2 : TO} (h : y = tTake T k x) (h1 : (some a, z) = pNum T k 1 16 y) (h2 : (some b, z2) = pNum T k 1 16 z) : pLay T k 4 x = (some (4, some a, some b), z2) := by simp [pLay, ← h, ← h1, ← h2]
theorem pLay_7n {T : Nat → Nat} {k : Nat} {x y z : TO} (h : y = tTake T k x) (h1 : (none, z) = pNum T k 1 256 y) : pLay T k 7 x = (none, z) := by simp [pLay, ← h, ← h1]
theorem pLay_7 {T : Nat → Nat} {k a : Nat} {x y z : TO} (h : y = tTake T k x) (h1 : (some a, z) = pNum T k 1 256 y) : pLay T k 7 x = (some (7, some a, none), z) := by simp [pLay, ← h, ← h1]
theorem pLay_d {T : Nat → Nat} {k w : Nat} {x y : TO} (h4 : w ≠ 4) (h7 : w ≠ 7) (h : y = tTake T k x) : pLay T k w x = (some (w, none, none), y) := by simp [pLay, h4, h7, ← h]
theorem wCode_eq {w : Nat} (h : 16 ≤ w) (hw : w < 23) : wCode.getD w 0 = nI (w - 16) := by
  have : ∀ w, w < 23 → 16 ≤ w → wCode.getD w 0 = nI (w - 16) := by decide +kernel
  exact this w hw h
/-- a rule whose word is w -/
def pRule (T : Nat → Nat) (k w : Nat) (ls : List LayerV) (rules : List RuleV) (x : TO) : Bool × List RuleV × TO :=
  if (pNums T k (w - 16) (tTake T k x)).1 = true ∧ rules.length < 400 then (true, rules ++ [(w - 16, x.1.2.1, ls, (pNums T k (w - 16) (tTake T k x)).2.1, (pNums T k (w - 16) (tTake T k x)).2.2.1, (pNums T k (w - 16) (tTake T k x)).2.2.2.1)], (pNums T k (w - 16) (tTake T k x)).2.2.2.2)
  else (false, rules, (pNums T k (w - 16) (tTake T k x)).2.2.2.2)
theorem pRule_n {T : Nat → Nat} {k w : Nat} {ls : List LayerV} {rules : List RuleV} {x y z : TO} {c nu co : Option Nat} (h : y = tTake T k x) (h1 : (false, c, nu, co, z) = pNums T k (w - 16) y) : pRule T k w ls rules x = (false, rules, z) := by simp [pRule, ← h, ← h1]
theorem pRule_f {T : Nat → Nat} {k w : Nat} {ls : List LayerV} {rules : List RuleV} {x y z : TO} {c nu co : Option Nat} (h : y = tTake T k x) (h1 : (true, c, nu, co, z) = pNums T k (w - 16) y) (hl : 400 ≤ rules.length) : pRule T k w ls rules x = (false, rules, z) := by simp [pRule, ← h, ← h1, Nat.not_lt.mpr hl]
theorem pRule_y {T : Nat → Nat} {k w : Nat} {ls : List LayerV} {rules : List RuleV} {x y z : TO} {c nu co : Option Nat} (h : y = tTake T k x) (h1 : (true, c, nu, co, z) = pNums T k (w - 16) y) (hl : rules.length < 400) : pRule T k w ls rules x = (true, rules ++ [(w - 16, x.1.2.1, ls, c, nu, co)], z) := by simp [pRule, ← h, ← h1, hl]
theorem rules_push {g : GG} {PP P2 : va_W} {RA : Nat → Option Nat} {rules : List RuleV} {q ki st : Nat} {ar c nu co : Option Nat} {ls : List LayerV} (h : RulesAt g PP RA rules) (hch : ChainAt g PP ar ls) (hm : (q, .inr (4, [.int (nI ki), .int (nI st), va_rf ar, .int (oI c), .int (oI nu), .int (oI co)])) ∈ P2) (hs : ∀ z ∈ PP, z ∈ P2) : RulesAt g P2 (va_up RA rules.length (some q)) (rules ++ [(ki, st, ls, c, nu, co)]) := by
  intro i r hr
  by_cases e : i = rules.length
  · subst e
    simp at hr
    subst hr
    exact ⟨q, va_up_self _ _ _, ar, hm, hch.mono hs⟩
  · have hl : i < rules.length := by
      have := (List.getElem?_eq_some_iff.mp hr).1
      simp at this
      omega
    rw [List.getElem?_append_left hl] at hr
    obtain ⟨a, h1, h2⟩ := (h.mono hs) i r hr
    exact ⟨a, by rw [va_up_ne _ _ e]; exact h1, h2⟩

set_option maxRecDepth 100000 in
theorem cl_Parser_113 : Cond.classLink R_Parser 113 R_Layer ∈ GW := (gw (i := 522) rfl rfl)
set_option maxRecDepth 100000 in
theorem cl_Parser_118 : Cond.classLink R_Parser 118 R_Rule ∈ GW := (gw (i := 425) rfl rfl)
set_option maxRecDepth 100000 in
theorem fi_Parser_101 : FI R_Parser 101 R_Tokens F_Tokens 5 := Or.inr ⟨"RuleReader", (nw (i := 176) rfl rfl)⟩
set_option maxRecDepth 100000 in
theorem fo_Parser_120 : FO R_Parser 120 "RuleReader$Word" "code" "I" := Or.inr ⟨"RuleReader", (nw (i := 1217) rfl rfl)⟩
set_option maxRecDepth 100000 in
theorem fs_Parser_104 : Cond.fieldLink R_Parser 104 "RuleReader$Word" "BLOCK" "LRuleReader$Word;" ∈ GW := (gw (i := 518) rfl rfl)
set_option maxRecDepth 100000 in
theorem fs_Parser_107 : Cond.fieldLink R_Parser 107 "RuleReader$Word" "WINDOW" "LRuleReader$Word;" ∈ GW := (gw (i := 520) rfl rfl)
set_option maxRecDepth 100000 in
theorem im_Layer_init : Cond.instanceMethod y_Layer_init ∈ GW := (gw (i := 525) rfl rfl)
set_option maxRecDepth 100000 in
theorem im_Rule_init : Cond.instanceMethod y_Rule_init ∈ GW := (gw (i := 428) rfl rfl)
set_option maxRecDepth 100000 in
theorem in_Layer : Cond.instantiable R_Layer 5 ∈ GW := (gw (i := 523) rfl rfl)
set_option maxRecDepth 100000 in
theorem in_Rule : Cond.instantiable R_Rule 6 ∈ GW := (gw (i := 426) rfl rfl)
set_option maxRecDepth 100000 in
theorem iz_Layer : Cond.initialized R_Layer ∈ GW := (gw (i := 89) rfl rfl)
set_option maxRecDepth 100000 in
theorem iz_Rule : Cond.initialized R_Rule ∈ GW := (gw (i := 87) rfl rfl)
set_option maxRecDepth 100000 in
theorem lk_Parser_115 : LK R_Parser 115 y_Layer_init := Or.inl (gw (i := 524) rfl rfl)
set_option maxRecDepth 100000 in
theorem lk_Parser_123 : LK R_Parser 123 y_Rule_init := Or.inl (gw (i := 427) rfl rfl)
set_option maxRecDepth 100000 in
theorem lk_Parser_126 : LK R_Parser 126 y_Parser_takeNumbers := Or.inl (gw (i := 476) rfl rfl)
set_option maxRecDepth 100000 in
theorem lk_Parser_130 : LK R_Parser 130 y_Book_add := Or.inl (gw (i := 493) rfl rfl)
set_option maxRecDepth 100000 in
theorem mw_Book_add : MW y_Book_add b_Book_add 2 (some .boolean) 1 := ⟨(gw (i := 496) rfl rfl), (gw (i := 75) rfl rfl), by decide +kernel⟩
set_option maxRecDepth 100000 in
theorem mw_Layer_init : MW y_Layer_init b_Layer_init 5 none 4 := ⟨(gw (i := 526) rfl rfl), (gw (i := 89) rfl rfl), by decide +kernel⟩
set_option maxRecDepth 100000 in
theorem mw_Parser_takeNumbers : MW y_Parser_takeNumbers b_Parser_takeNumbers 2 (some .boolean) 1 := ⟨(gw (i := 479) rfl rfl), (gw (i := 76) rfl rfl), by decide +kernel⟩
set_option maxRecDepth 100000 in
theorem mw_Rule_init : MW y_Rule_init b_Rule_init 4 none 3 := ⟨(gw (i := 429) rfl rfl), (gw (i := 87) rfl rfl), by decide +kernel⟩
set_option maxRecDepth 100000 in
theorem vw_Book_add : VW y_Book_add := ⟨(gw (i := 494) rfl rfl), (gw (i := 495) rfl rfl)⟩
set_option maxRecDepth 100000 in
theorem vw_Parser_takeNumbers : VW y_Parser_takeNumbers := ⟨(gw (i := 478) rfl rfl), (gw (i := 9) rfl rfl)⟩
theorem d_Parser_takeLayer_0 : decode b_Parser_takeLayer 0 = .ok (.aload_n 0, 1) := by decide +kernel
theorem d_Parser_takeLayer_1 : decode b_Parser_takeLayer 1 = .ok (.getfield 24, 3) := by decide +kernel
theorem d_Parser_takeLayer_4 : decode b_Parser_takeLayer 4 = .ok (.getfield 101, 3) := by decide +kernel
theorem d_Parser_takeLayer_7 : decode b_Parser_takeLayer 7 = .ok (.astore_n 2, 1) := by decide +kernel
theorem d_Parser_takeLayer_8 : decode b_Parser_takeLayer 8 = .ok (.aload_n 0, 1) := by decide +kernel
theorem d_Parser_takeLayer_9 : decode b_Parser_takeLayer 9 = .ok (.invokevirtual 61, 3) := by decide +kernel
theorem d_Parser_takeLayer_12 : decode b_Parser_takeLayer 12 = .ok (.iconst (-1), 1) := by decide +kernel
theorem d_Parser_takeLayer_13 : decode b_Parser_takeLayer 13 = .ok (.istore_n 3, 1) := by decide +kernel
theorem d_Parser_takeLayer_14 : decode b_Parser_takeLayer 14 = .ok (.iconst (-1), 1) := by decide +kernel
theorem d_Parser_takeLayer_15 : decode b_Parser_takeLayer 15 = .ok (.istore 4, 2) := by decide +kernel
theorem d_Parser_takeLayer_17 : decode b_Parser_takeLayer 17 = .ok (.aload_n 2, 1) := by decide +kernel
theorem d_Parser_takeLayer_18 : decode b_Parser_takeLayer 18 = .ok (.getstatic 104, 3) := by decide +kernel
theorem d_Parser_takeLayer_21 : decode b_Parser_takeLayer 21 = .ok (.if_acmp .eq 10, 3) := by decide +kernel
theorem d_Parser_takeLayer_24 : decode b_Parser_takeLayer 24 = .ok (.aload_n 2, 1) := by decide +kernel
theorem d_Parser_takeLayer_25 : decode b_Parser_takeLayer 25 = .ok (.getstatic 107, 3) := by decide +kernel
theorem d_Parser_takeLayer_28 : decode b_Parser_takeLayer 28 = .ok (.if_acmp .ne 31, 3) := by decide +kernel
theorem d_Parser_takeLayer_31 : decode b_Parser_takeLayer 31 = .ok (.aload_n 0, 1) := by decide +kernel
theorem d_Parser_takeLayer_32 : decode b_Parser_takeLayer 32 = .ok (.iconst 1, 1) := by decide +kernel
theorem d_Parser_takeLayer_33 : decode b_Parser_takeLayer 33 = .ok (.aload_n 2, 1) := by decide +kernel
theorem d_Parser_takeLayer_34 : decode b_Parser_takeLayer 34 = .ok (.getstatic 104, 3) := by decide +kernel
theorem d_Parser_takeLayer_37 : decode b_Parser_takeLayer 37 = .ok (.if_acmp .ne 8, 3) := by decide +kernel
theorem d_Parser_takeLayer_40 : decode b_Parser_takeLayer 40 = .ok (.bipush 16, 2) := by decide +kernel
theorem d_Parser_takeLayer_42 : decode b_Parser_takeLayer 42 = .ok (.goto 6, 3) := by decide +kernel
theorem d_Parser_takeLayer_45 : decode b_Parser_takeLayer 45 = .ok (.sipush 256, 3) := by decide +kernel
theorem d_Parser_takeLayer_48 : decode b_Parser_takeLayer 48 = .ok (.invokevirtual 110, 3) := by decide +kernel
theorem d_Parser_takeLayer_51 : decode b_Parser_takeLayer 51 = .ok (.istore_n 3, 1) := by decide +kernel
theorem d_Parser_takeLayer_52 : decode b_Parser_takeLayer 52 = .ok (.iload_n 3, 1) := by decide +kernel
theorem d_Parser_takeLayer_53 : decode b_Parser_takeLayer 53 = .ok (.iconst (-1), 1) := by decide +kernel
theorem d_Parser_takeLayer_54 : decode b_Parser_takeLayer 54 = .ok (.if_icmp .ne 5, 3) := by decide +kernel
theorem d_Parser_takeLayer_57 : decode b_Parser_takeLayer 57 = .ok (.aconst_null, 1) := by decide +kernel
theorem d_Parser_takeLayer_58 : decode b_Parser_takeLayer 58 = .ok (.areturn, 1) := by decide +kernel
theorem d_Parser_takeLayer_59 : decode b_Parser_takeLayer 59 = .ok (.aload_n 2, 1) := by decide +kernel
theorem d_Parser_takeLayer_60 : decode b_Parser_takeLayer 60 = .ok (.getstatic 104, 3) := by decide +kernel
theorem d_Parser_takeLayer_63 : decode b_Parser_takeLayer 63 = .ok (.if_acmp .ne 20, 3) := by decide +kernel
theorem d_Parser_takeLayer_66 : decode b_Parser_takeLayer 66 = .ok (.aload_n 0, 1) := by decide +kernel
theorem d_Parser_takeLayer_67 : decode b_Parser_takeLayer 67 = .ok (.iconst 1, 1) := by decide +kernel
theorem d_Parser_takeLayer_68 : decode b_Parser_takeLayer 68 = .ok (.bipush 16, 2) := by decide +kernel
theorem d_Parser_takeLayer_70 : decode b_Parser_takeLayer 70 = .ok (.invokevirtual 110, 3) := by decide +kernel
theorem d_Parser_takeLayer_73 : decode b_Parser_takeLayer 73 = .ok (.istore 4, 2) := by decide +kernel
theorem d_Parser_takeLayer_75 : decode b_Parser_takeLayer 75 = .ok (.iload 4, 2) := by decide +kernel
theorem d_Parser_takeLayer_77 : decode b_Parser_takeLayer 77 = .ok (.iconst (-1), 1) := by decide +kernel
theorem d_Parser_takeLayer_78 : decode b_Parser_takeLayer 78 = .ok (.if_icmp .ne 5, 3) := by decide +kernel
theorem d_Parser_takeLayer_81 : decode b_Parser_takeLayer 81 = .ok (.aconst_null, 1) := by decide +kernel
theorem d_Parser_takeLayer_82 : decode b_Parser_takeLayer 82 = .ok (.areturn, 1) := by decide +kernel
theorem d_Parser_takeLayer_83 : decode b_Parser_takeLayer 83 = .ok (.new 113, 3) := by decide +kernel
theorem d_Parser_takeLayer_86 : decode b_Parser_takeLayer 86 = .ok (.dup, 1) := by decide +kernel
theorem d_Parser_takeLayer_87 : decode b_Parser_takeLayer 87 = .ok (.aload_n 2, 1) := by decide +kernel
theorem d_Parser_takeLayer_88 : decode b_Parser_takeLayer 88 = .ok (.iload_n 3, 1) := by decide +kernel
theorem d_Parser_takeLayer_89 : decode b_Parser_takeLayer 89 = .ok (.iload 4, 2) := by decide +kernel
theorem d_Parser_takeLayer_91 : decode b_Parser_takeLayer 91 = .ok (.aload_n 1, 1) := by decide +kernel
theorem d_Parser_takeLayer_92 : decode b_Parser_takeLayer 92 = .ok (.invokespecial 115, 3) := by decide +kernel
theorem d_Parser_takeLayer_95 : decode b_Parser_takeLayer 95 = .ok (.areturn, 1) := by decide +kernel
theorem d_Parser_takeRule_0 : decode b_Parser_takeRule 0 = .ok (.aload_n 0, 1) := by decide +kernel
theorem d_Parser_takeRule_1 : decode b_Parser_takeRule 1 = .ok (.getfield 24, 3) := by decide +kernel
theorem d_Parser_takeRule_4 : decode b_Parser_takeRule 4 = .ok (.getfield 101, 3) := by decide +kernel
theorem d_Parser_takeRule_7 : decode b_Parser_takeRule 7 = .ok (.astore_n 2, 1) := by decide +kernel
theorem d_Parser_takeRule_8 : decode b_Parser_takeRule 8 = .ok (.aload_n 2, 1) := by decide +kernel
theorem d_Parser_takeRule_9 : decode b_Parser_takeRule 9 = .ok (.ifnonnull 5, 3) := by decide +kernel
theorem d_Parser_takeRule_12 : decode b_Parser_takeRule 12 = .ok (.iconst 0, 1) := by decide +kernel
theorem d_Parser_takeRule_13 : decode b_Parser_takeRule 13 = .ok (.ireturn, 1) := by decide +kernel
theorem d_Parser_takeRule_14 : decode b_Parser_takeRule 14 = .ok (.new 118, 3) := by decide +kernel
theorem d_Parser_takeRule_17 : decode b_Parser_takeRule 17 = .ok (.dup, 1) := by decide +kernel
theorem d_Parser_takeRule_18 : decode b_Parser_takeRule 18 = .ok (.aload_n 2, 1) := by decide +kernel
theorem d_Parser_takeRule_19 : decode b_Parser_takeRule 19 = .ok (.getfield 120, 3) := by decide +kernel
theorem d_Parser_takeRule_22 : decode b_Parser_takeRule 22 = .ok (.aload_n 0, 1) := by decide +kernel
theorem d_Parser_takeRule_23 : decode b_Parser_takeRule 23 = .ok (.getfield 24, 3) := by decide +kernel
theorem d_Parser_takeRule_26 : decode b_Parser_takeRule 26 = .ok (.getfield 39, 3) := by decide +kernel
theorem d_Parser_takeRule_29 : decode b_Parser_takeRule 29 = .ok (.aload_n 1, 1) := by decide +kernel
theorem d_Parser_takeRule_30 : decode b_Parser_takeRule 30 = .ok (.invokespecial 123, 3) := by decide +kernel
theorem d_Parser_takeRule_33 : decode b_Parser_takeRule 33 = .ok (.astore_n 3, 1) := by decide +kernel
theorem d_Parser_takeRule_34 : decode b_Parser_takeRule 34 = .ok (.aload_n 0, 1) := by decide +kernel
theorem d_Parser_takeRule_35 : decode b_Parser_takeRule 35 = .ok (.invokevirtual 61, 3) := by decide +kernel
theorem d_Parser_takeRule_38 : decode b_Parser_takeRule 38 = .ok (.aload_n 0, 1) := by decide +kernel
theorem d_Parser_takeRule_39 : decode b_Parser_takeRule 39 = .ok (.aload_n 3, 1) := by decide +kernel
theorem d_Parser_takeRule_40 : decode b_Parser_takeRule 40 = .ok (.invokevirtual 126, 3) := by decide +kernel
theorem d_Parser_takeRule_43 : decode b_Parser_takeRule 43 = .ok (.ifCond .eq 18, 3) := by decide +kernel
theorem d_Parser_takeRule_46 : decode b_Parser_takeRule 46 = .ok (.aload_n 0, 1) := by decide +kernel
theorem d_Parser_takeRule_47 : decode b_Parser_takeRule 47 = .ok (.getfield 15, 3) := by decide +kernel
theorem d_Parser_takeRule_50 : decode b_Parser_takeRule 50 = .ok (.aload_n 3, 1) := by decide +kernel
theorem d_Parser_takeRule_51 : decode b_Parser_takeRule 51 = .ok (.invokevirtual 130, 3) := by decide +kernel
theorem d_Parser_takeRule_54 : decode b_Parser_takeRule 54 = .ok (.ifCond .eq 7, 3) := by decide +kernel
theorem d_Parser_takeRule_57 : decode b_Parser_takeRule 57 = .ok (.iconst 1, 1) := by decide +kernel
theorem d_Parser_takeRule_58 : decode b_Parser_takeRule 58 = .ok (.goto 4, 3) := by decide +kernel
theorem d_Parser_takeRule_61 : decode b_Parser_takeRule 61 = .ok (.iconst 0, 1) := by decide +kernel
theorem d_Parser_takeRule_62 : decode b_Parser_takeRule 62 = .ok (.ireturn, 1) := by decide +kernel
set_option maxHeartbeats 4000000 in
set_option maxRecDepth 100000 in
theorem c_Parser_takeLayer (g : GG) (l : Launch) {p : Nat} {a : Nat} {t : Nat} {tb : Nat} {bk : Nat} {ra : Nat} {pa : Nat} {k : Nat} {so : Nat} {sta : Nat} {en : Nat} {rc : Nat} {dp : Nat} {w : Nat} {T : Nat → Nat} {PA : Nat → Nat} {v : Option Nat} {ar : Option Nat} {pr : Bool} {out : List Nat} {ls : List LayerV} {PP : va_W}  (hk : k ≤ 2000) (hT : ∀ j, T j < 256) (hO : TokOK k (so, sta, en, v, some w)) (hcap : out.length ≤ 2 * sta) (ho : OutAt PA out) (h1 : so = 1) (hw : w < 23) (hch : ChainAt g PP ar ls) : Cn g l y_Parser_takeLayer b_Parser_takeLayer 5 (some (.object "RuleReader$Layer")) (rmk 10 1 5 218) [.ref p, va_rf ar] ([(p, .inr (6, [.ref t, .ref bk, .ref a])), (a, .inr (2, [.ref t, .int (nI so), .int (nI sta), .int (nI en), .int (oI v), .ref (g.2.2.1 w)])), (t, .inr (1, [.ref tb, .int (nI k)])), (tb, .inl (g.2.1 1, 2000, .inl (aI T))), (bk, .inr (5, [.ref ra, .ref pa, .int (bI pr), .int (nI rc), .int (nI out.length), .int (nI dp)])), (pa, .inl (g.2.1 1, 4000, .inl (aI PA)))] ++ PP) (fun (r0 : Option Value) (w0 : va_W) => ∃ lay : Option LayerV, ∃ nl : Option Nat, ∃ PP2 : va_W, ∃ tk : Tok, ∃ ou : List Nat, ∃ PB : Nat → Nat, r0 = some (va_rf nl) ∧ w0 = [(p, .inr (6, [.ref t, .ref bk, .ref a])), (a, .inr (2, [.ref t, .int (nI tk.1), .int (nI tk.2.1), .int (nI tk.2.2.1), .int (oI tk.2.2.2.1), va_rf (wR g tk.2.2.2.2)])), (t, .inr (1, [.ref tb, .int (nI k)])), (tb, .inl (g.2.1 1, 2000, .inl (aI T))), (bk, .inr (5, [.ref ra, .ref pa, .int (bI pr), .int (nI rc), .int (nI ou.length), .int (nI dp)])), (pa, .inl (g.2.1 1, 4000, .inl (aI PB)))] ++ PP2 ∧ ((lay, tk, ou) = pLay T k w ((so, sta, en, v, some w), out)) ∧ (LayRes g PP2 nl ls lay) ∧ (∀ q ∈ PP, q ∈ PP2) ∧ (TokOK k tk) ∧ (ou.length ≤ 2 * tk.2.1) ∧ (OutAt PB ou)) := by
  refine Cn.of R_Parser [(0, .ref p), (1, va_rf ar)] (by decide) rfl (by generalize ar = z0; cases z0 <;> exact Nat.le_of_ble_eq_true rfl) (by generalize ar = z0; cases z0 <;> rfl) ?_
  intro x A Q hR hXl hin C E
  subst hXl
  refine r_aload_n C 0 d_Parser_takeLayer_0 rfl rfl ?_
  refine r_get C 0 2 d_Parser_takeLayer_1 ci_Parser fi_Parser_24 rfl (by decide) rfl rfl ?_
  refine r_get C 1 5 d_Parser_takeLayer_4 ci_Tokens fi_Parser_101 rfl (by decide) rfl rfl ?_
  refine r_astore_n C (lv' := [(2, .ref (g.2.2.1 w)), (0, .ref p), (1, va_rf ar)]) d_Parser_takeLayer_7 rfl (by decide) (by generalize ar = zq; cases zq <;> rfl) ?_
  refine r_aload_n C 1 d_Parser_takeLayer_8 rfl rfl ?_
  refine j_callV C (c_Parser_take g (xl x) (p := p) (a := a) (t := t) (tb := tb) (bk := bk) (ra := ra) (pa := pa) (k := k) (so := so) (sta := sta) (en := en) (rc := rc) (dp := dp) (T := T) (PA := PA) (v := v) (wd := some w) (pr := pr) (out := out) (by first | assumption | rfl | omega) (by first | assumption | rfl | omega) (by first | assumption | rfl | omega) (by first | assumption | rfl | omega) (by first | assumption | rfl | omega) (by omega)) (Sp.keep (Sp.of (wr := []) [0, 1, 2, 3, 4, 5] [] rfl rfl rfl rfl (by decide)) PP) d_Parser_takeLayer_9 lk_Parser_61 mw_Parser_take vw_Parser_take (q0 := 0) rfl rfl (fit_of hR (by first | decide | (simp only [rmk]; omega)) (by first | decide | (simp only [rmk]; omega)) (by first | decide | (simp only [rmk]; omega)) (by first | decide | (simp only [rmk]; omega))) rfl (cat8 (Nat.le_of_ble_eq_true rfl)) (As := []) (rest := []) rfl (fun r_9 w_9 hp_9 => ?_)
  obtain ⟨tk_9, ou_9, PB_9, rfl, rfl, hx_9, hO2_9, hc2_9, ho2_9⟩ := hp_9
  refine r_swap ?_
  refine r_afterP (X := [(p, .inr (6, [.ref t, .ref bk, .ref a])), (a, .inr (2, [.ref t, .int (nI tk_9.1), .int (nI tk_9.2.1), .int (nI tk_9.2.2.1), .int (oI tk_9.2.2.2.1), va_rf (wR g tk_9.2.2.2.2)])), (t, .inr (1, [.ref tb, .int (nI k)])), (tb, .inl (g.2.1 1, 2000, .inl (aI T))), (bk, .inr (5, [.ref ra, .ref pa, .int (bI pr), .int (nI rc), .int (nI ou_9.length), .int (nI dp)])), (pa, .inl (g.2.1 1, 4000, .inl (aI PB_9)))]) (X' := [(p, .inr (6, [.ref t, .ref bk, .ref a])), (a, .inr (2, [.ref t, .int (nI tk_9.1), .int (nI tk_9.2.1), .int (nI tk_9.2.2.1), .int (oI tk_9.2.2.2.1), va_rf (wR g tk_9.2.2.2.2)])), (t, .inr (1, [.ref tb, .int (nI k)])), (tb, .inl (g.2.1 1, 2000, .inl (aI T))), (bk, .inr (5, [.ref ra, .ref pa, .int (bI pr), .int (nI rc), .int (nI ou_9.length), .int (nI dp)])), (pa, .inl (g.2.1 1, 4000, .inl (aI PB_9)))]) (pl := PP) (st' := []) (n1 := 0) (n2 := 0) [0, 1, 2, 3, 4, 5] rfl rfl rfl rfl rfl rfl ?_
  refine r_iconst C ((-1)) d_Parser_takeLayer_12 (by decide) ?_
  refine r_istore_n C (lv' := [(3, .int (-1)), (2, .ref (g.2.2.1 w)), (0, .ref p), (1, va_rf ar)]) d_Parser_takeLayer_13 rfl (by decide) rfl ?_
  refine r_iconst C ((-1)) d_Parser_takeLayer_14 (by decide) ?_
  refine r_istore C (lv' := [(4, .int (-1)), (3, .int (-1)), (2, .ref (g.2.2.1 w)), (0, .ref p), (1, va_rf ar)]) d_Parser_takeLayer_15 (by decide) rfl ?_
  rcases (show w = 4 ∨ w = 7 ∨ (w ≠ 4 ∧ w ≠ 7) by omega) with rfl | rfl | hno
  · skip
    refine r_aload_n C 2 d_Parser_takeLayer_17 rfl rfl ?_
    refine r_gets C d_Parser_takeLayer_18 ((C.2.2.2.2.2.2.2.1.1.1 4 (by decide)).1) fs_Parser_104 ?_
    refine r_acmp_eq C (r1 := some (g.2.2.1 4)) (r2 := some (g.2.2.1 4)) 31 d_Parser_takeLayer_21 (by decide) (fun c_21 => ?_) (fun c_21 => ?_)
    · skip
      refine r_aload_n C 3 d_Parser_takeLayer_31 rfl rfl ?_
      refine r_iconst C (nI 1) d_Parser_takeLayer_32 (by decide) ?_
      refine r_aload_n C 2 d_Parser_takeLayer_33 rfl rfl ?_
      refine r_gets C d_Parser_takeLayer_34 ((C.2.2.2.2.2.2.2.1.1.1 4 (by decide)).1) fs_Parser_104 ?_
      refine r_acmp_ne C (r1 := some (g.2.2.1 4)) (r2 := some (g.2.2.1 4)) 45 d_Parser_takeLayer_37 (by decide) (fun c_37 => ?_) (fun c_37 => ?_)
      · exact absurd rfl c_37
      · skip
        refine r_bipush C (nI 16) d_Parser_takeLayer_40 (by decide) ?_
        refine r_goto C 48 d_Parser_takeLayer_42 (by decide) ?_
        refine j_callV C (c_Parser_takeNumber g (xl x) (p := p) (a := a) (t := t) (tb := tb) (bk := bk) (ra := ra) (pa := pa) (k := k) (so := tk_9.1) (sta := tk_9.2.1) (en := tk_9.2.2.1) (rc := rc) (dp := dp) (T := T) (PA := PB_9) (v := tk_9.2.2.2.1) (wd := tk_9.2.2.2.2) (pr := pr) (out := ou_9) (lo := 1) (hi := 16) (by first | assumption | rfl | omega) (by first | assumption | rfl | omega) (by first | assumption | rfl | omega) (by first | assumption | rfl | omega) (by first | assumption | rfl | omega) (by first | assumption | rfl | omega) (by first | assumption | rfl | omega)) (Sp.keep (Sp.of (wr := []) [0, 1, 2, 3, 4, 5] [] rfl rfl rfl rfl (by decide)) PP) d_Parser_takeLayer_48 lk_Parser_110 mw_Parser_takeNumber vw_Parser_takeNumber (q0 := 0) rfl rfl (fit_of hR (by first | decide | (simp only [rmk]; omega)) (by first | decide | (simp only [rmk]; omega)) (by first | decide | (simp only [rmk]; omega)) (by first | decide | (simp only [rmk]; omega))) rfl (cat8 (Nat.le_of_ble_eq_true rfl)) (As := [.int (nI 1), .int (nI 16)]) (rest := []) rfl (fun r_48 w_48 hp_48 => ?_)
        obtain ⟨nr_48, tk_48, ou_48, PB_48, rfl, rfl, hx_48, hb_48, hO2_48, hc2_48, ho2_48⟩ := hp_48
        refine r_swap ?_
        refine r_afterP (X := [(p, .inr (6, [.ref t, .ref bk, .ref a])), (a, .inr (2, [.ref t, .int (nI tk_48.1), .int (nI tk_48.2.1), .int (nI tk_48.2.2.1), .int (oI tk_48.2.2.2.1), va_rf (wR g tk_48.2.2.2.2)])), (t, .inr (1, [.ref tb, .int (nI k)])), (tb, .inl (g.2.1 1, 2000, .inl (aI T))), (bk, .inr (5, [.ref ra, .ref pa, .int (bI pr), .int (nI rc), .int (nI ou_48.length), .int (nI dp)])), (pa, .inl (g.2.1 1, 4000, .inl (aI PB_48)))]) (X' := [(p, .inr (6, [.ref t, .ref bk, .ref a])), (a, .inr (2, [.ref t, .int (nI tk_48.1), .int (nI tk_48.2.1), .int (nI tk_48.2.2.1), .int (oI tk_48.2.2.2.1), va_rf (wR g tk_48.2.2.2.2)])), (t, .inr (1, [.ref tb, .int (nI k)])), (tb, .inl (g.2.1 1, 2000, .inl (aI T))), (bk, .inr (5, [.ref ra, .ref pa, .int (bI pr), .int (nI rc), .int (nI ou_48.length), .int (nI dp)])), (pa, .inl (g.2.1 1, 4000, .inl (aI PB_48)))]) (pl := PP) (st' := [.int (oI nr_48)]) (n1 := 0) (n2 := 0) [0, 1, 2, 3, 4, 5] rfl rfl rfl rfl rfl rfl ?_
        refine r_istore_n C (lv' := [(3, .int (oI nr_48)), (4, .int (-1)), (2, .ref (g.2.2.1 4)), (0, .ref p), (1, va_rf ar)]) d_Parser_takeLayer_51 rfl (by decide) rfl ?_
        refine r_iload_n C 0 d_Parser_takeLayer_52 rfl rfl ?_
        refine r_iconst C ((-1)) d_Parser_takeLayer_53 (by decide) ?_
        refine r_ocmp_ne C 59 d_Parser_takeLayer_54 (by decide) (by assumption) (fun c_54 => ?_) (fun c_54 => ?_)
        · obtain ⟨v_54, rfl⟩ := c_54
          refine r_norm2 (ws' := [(p, .inr (6, [.ref t, .ref bk, .ref a])), (a, .inr (2, [.ref t, .int (nI tk_48.1), .int (nI tk_48.2.1), .int (nI tk_48.2.2.1), .int (oI tk_48.2.2.2.1), va_rf (wR g tk_48.2.2.2.2)])), (t, .inr (1, [.ref tb, .int (nI k)])), (tb, .inl (g.2.1 1, 2000, .inl (aI T))), (bk, .inr (5, [.ref ra, .ref pa, .int (bI pr), .int (nI rc), .int (nI ou_48.length), .int (nI dp)])), (pa, .inl (g.2.1 1, 4000, .inl (aI PB_48)))] ++ PP) (st' := []) (lv' := [(3, .int (nI v_54)), (4, .int (-1)), (2, .ref (g.2.2.1 4)), (0, .ref p), (1, va_rf ar)]) rfl rfl rfl ?_
          refine r_aload_n C 2 d_Parser_takeLayer_59 rfl rfl ?_
          refine r_gets C d_Parser_takeLayer_60 ((C.2.2.2.2.2.2.2.1.1.1 4 (by decide)).1) fs_Parser_104 ?_
          refine r_acmp_ne C (r1 := some (g.2.2.1 4)) (r2 := some (g.2.2.1 4)) 83 d_Parser_takeLayer_63 (by decide) (fun c_63 => ?_) (fun c_63 => ?_)
          · exact absurd rfl c_63
          · skip
            refine r_aload_n C 3 d_Parser_takeLayer_66 rfl rfl ?_
            refine r_iconst C (nI 1) d_Parser_takeLayer_67 (by decide) ?_
            refine r_bipush C (nI 16) d_Parser_takeLayer_68 (by decide) ?_
            refine j_callV C (c_Parser_takeNumber g (xl x) (p := p) (a := a) (t := t) (tb := tb) (bk := bk) (ra := ra) (pa := pa) (k := k) (so := tk_48.1) (sta := tk_48.2.1) (en := tk_48.2.2.1) (rc := rc) (dp := dp) (T := T) (PA := PB_48) (v := tk_48.2.2.2.1) (wd := tk_48.2.2.2.2) (pr := pr) (out := ou_48) (lo := 1) (hi := 16) (by first | assumption | rfl | omega) (by first | assumption | rfl | omega) (by first | assumption | rfl | omega) (by first | assumption | rfl | omega) (by first | assumption | rfl | omega) (by first | assumption | rfl | omega) (by first | assumption | rfl | omega)) (Sp.keep (Sp.of (wr := []) [0, 1, 2, 3, 4, 5] [] rfl rfl rfl rfl (by decide)) PP) d_Parser_takeLayer_70 lk_Parser_110 mw_Parser_takeNumber vw_Parser_takeNumber (q0 := 0) rfl rfl (fit_of hR (by first | decide | (simp only [rmk]; omega)) (by first | decide | (simp only [rmk]; omega)) (by first | decide | (simp only [rmk]; omega)) (by first | decide | (simp only [rmk]; omega))) rfl (cat8 (Nat.le_of_ble_eq_true rfl)) (As := [.int (nI 1), .int (nI 16)]) (rest := []) rfl (fun r_70 w_70 hp_70 => ?_)
            obtain ⟨nr_70, tk_70, ou_70, PB_70, rfl, rfl, hx_70, hb_70, hO2_70, hc2_70, ho2_70⟩ := hp_70
            refine r_swap ?_
            refine r_afterP (X := [(p, .inr (6, [.ref t, .ref bk, .ref a])), (a, .inr (2, [.ref t, .int (nI tk_70.1), .int (nI tk_70.2.1), .int (nI tk_70.2.2.1), .int (oI tk_70.2.2.2.1), va_rf (wR g tk_70.2.2.2.2)])), (t, .inr (1, [.ref tb, .int (nI k)])), (tb, .inl (g.2.1 1, 2000, .inl (aI T))), (bk, .inr (5, [.ref ra, .ref pa, .int (bI pr), .int (nI rc), .int (nI ou_70.length), .int (nI dp)])), (pa, .inl (g.2.1 1, 4000, .inl (aI PB_70)))]) (X' := [(p, .inr (6, [.ref t, .ref bk, .ref a])), (a, .inr (2, [.ref t, .int (nI tk_70.1), .int (nI tk_70.2.1), .int (nI tk_70.2.2.1), .int (oI tk_70.2.2.2.1), va_rf (wR g tk_70.2.2.2.2)])), (t, .inr (1, [.ref tb, .int (nI k)])), (tb, .inl (g.2.1 1, 2000, .inl (aI T))), (bk, .inr (5, [.ref ra, .ref pa, .int (bI pr), .int (nI rc), .int (nI ou_70.length), .int (nI dp)])), (pa, .inl (g.2.1 1, 4000, .inl (aI PB_70)))]) (pl := PP) (st' := [.int (oI nr_70)]) (n1 := 0) (n2 := 0) [0, 1, 2, 3, 4, 5] rfl rfl rfl rfl rfl rfl ?_
            refine r_istore C (lv' := [(4, .int (oI nr_70)), (3, .int (nI v_54)), (2, .ref (g.2.2.1 4)), (0, .ref p), (1, va_rf ar)]) d_Parser_takeLayer_73 (by decide) rfl ?_
            refine r_iload C 0 d_Parser_takeLayer_75 rfl ?_
            refine r_iconst C ((-1)) d_Parser_takeLayer_77 (by decide) ?_
            refine r_ocmp_ne C 83 d_Parser_takeLayer_78 (by decide) (by assumption) (fun c_78 => ?_) (fun c_78 => ?_)
            · obtain ⟨v_78, rfl⟩ := c_78
              refine r_norm2 (ws' := [(p, .inr (6, [.ref t, .ref bk, .ref a])), (a, .inr (2, [.ref t, .int (nI tk_70.1), .int (nI tk_70.2.1), .int (nI tk_70.2.2.1), .int (oI tk_70.2.2.2.1), va_rf (wR g tk_70.2.2.2.2)])), (t, .inr (1, [.ref tb, .int (nI k)])), (tb, .inl (g.2.1 1, 2000, .inl (aI T))), (bk, .inr (5, [.ref ra, .ref pa, .int (bI pr), .int (nI rc), .int (nI ou_70.length), .int (nI dp)])), (pa, .inl (g.2.1 1, 4000, .inl (aI PB_70)))] ++ PP) (st' := []) (lv' := [(4, .int (nI v_78)), (3, .int (nI v_54)), (2, .ref (g.2.2.1 4)), (0, .ref p), (1, va_rf ar)]) rfl rfl rfl ?_
              refine r_new C d_Parser_takeLayer_83 ci_Layer cl_Parser_113 in_Layer iz_Layer (fs := [.null, .int (nI 0), .int (nI 0), .null, .int (nI 0)]) (by intro j hj; rcases (show j = 0 ∨ j = 1 ∨ j = 2 ∨ j = 3 ∨ j = 4 by omega) with rfl | rfl | rfl | rfl | rfl <;> rfl) (by rw [hR]; decide) (by rw [hR]; decide) (fun q_83 => ?_)
              refine r_swap ?_
              refine r_norm (ws' := [(p, .inr (6, [.ref t, .ref bk, .ref a])), (a, .inr (2, [.ref t, .int (nI tk_70.1), .int (nI tk_70.2.1), .int (nI tk_70.2.2.1), .int (oI tk_70.2.2.2.1), va_rf (wR g tk_70.2.2.2.2)])), (t, .inr (1, [.ref tb, .int (nI k)])), (tb, .inl (g.2.1 1, 2000, .inl (aI T))), (bk, .inr (5, [.ref ra, .ref pa, .int (bI pr), .int (nI rc), .int (nI ou_70.length), .int (nI dp)])), (pa, .inl (g.2.1 1, 4000, .inl (aI PB_70))), (q_83, .inr (3, [.null, .int (nI 0), .int (nI 0), .null, .int (nI 0)]))] ++ PP) (st' := [.ref q_83]) (n1 := 0 + 1) (n2 := 0 + 5) rfl rfl rfl rfl ?_
              refine r_dup C d_Parser_takeLayer_86 rfl ?_
              refine r_aload_n C 2 d_Parser_takeLayer_87 rfl rfl ?_
              refine r_iload_n C 1 d_Parser_takeLayer_88 rfl rfl ?_
              refine r_iload C 0 d_Parser_takeLayer_89 rfl ?_
              refine r_aload_nQ C 4 d_Parser_takeLayer_91 rfl rfl ?_
              refine j_callI C (c_Layer_init g (xl x) (y := q_83) (u := 4) (lev := ls.length) (f := some v_54) (s := some v_78) (ou := ar) (PP := PP) (chain_lev hch) (chain_nil hch)) (Sp.pool (Sp.of (wr := [(p, .inr (6, [.ref t, .ref bk, .ref a])), (a, .inr (2, [.ref t, .int (nI tk_70.1), .int (nI tk_70.2.1), .int (nI tk_70.2.2.1), .int (oI tk_70.2.2.2.1), va_rf (wR g tk_70.2.2.2.2)])), (t, .inr (1, [.ref tb, .int (nI k)])), (tb, .inl (g.2.1 1, 2000, .inl (aI T))), (bk, .inr (5, [.ref ra, .ref pa, .int (bI pr), .int (nI rc), .int (nI ou_70.length), .int (nI dp)])), (pa, .inl (g.2.1 1, 4000, .inl (aI PB_70)))]) [6] [0, 1, 2, 3, 4, 5] rfl rfl rfl rfl (by decide)) PP) d_Parser_takeLayer_92 lk_Parser_115 mw_Layer_init rfl im_Layer_init (fit_of hR (by first | decide | (simp only [rmk]; omega)) (by first | decide | (simp only [rmk]; omega)) (by first | decide | (simp only [rmk]; omega)) (by first | decide | (simp only [rmk]; omega))) rfl (cat8 (Nat.le_of_ble_eq_true rfl)) (As := [.ref (g.2.2.1 4), .int (nI v_54), .int (nI v_78), va_rf ar]) (rest := [.ref q_83]) rfl (fun r_92 w_92 hp_92 => ?_)
              obtain ⟨rfl, rfl⟩ := hp_92
              refine r_afterP (X := [(p, .inr (6, [.ref t, .ref bk, .ref a])), (a, .inr (2, [.ref t, .int (nI tk_70.1), .int (nI tk_70.2.1), .int (nI tk_70.2.2.1), .int (oI tk_70.2.2.2.1), va_rf (wR g tk_70.2.2.2.2)])), (t, .inr (1, [.ref tb, .int (nI k)])), (tb, .inl (g.2.1 1, 2000, .inl (aI T))), (bk, .inr (5, [.ref ra, .ref pa, .int (bI pr), .int (nI rc), .int (nI ou_70.length), .int (nI dp)])), (pa, .inl (g.2.1 1, 4000, .inl (aI PB_70))), (q_83, .inr (3, [.ref (g.2.2.1 4), .int (oI (some v_54)), .int (oI (some v_78)), va_rf ar, .int (nI (ls.length + 1))]))]) (X' := [(p, .inr (6, [.ref t, .ref bk, .ref a])), (a, .inr (2, [.ref t, .int (nI tk_70.1), .int (nI tk_70.2.1), .int (nI tk_70.2.2.1), .int (oI tk_70.2.2.2.1), va_rf (wR g tk_70.2.2.2.2)])), (t, .inr (1, [.ref tb, .int (nI k)])), (tb, .inl (g.2.1 1, 2000, .inl (aI T))), (bk, .inr (5, [.ref ra, .ref pa, .int (bI pr), .int (nI rc), .int (nI ou_70.length), .int (nI dp)])), (pa, .inl (g.2.1 1, 4000, .inl (aI PB_70))), (q_83, .inr (3, [.ref (g.2.2.1 4), .int (oI (some v_54)), .int (oI (some v_78)), va_rf ar, .int (nI (ls.length + 1))]))]) (pl := PP) (st' := [.ref q_83]) (n1 := 0 + 1) (n2 := 0 + 5) [0, 1, 2, 3, 4, 5, 6] rfl rfl rfl rfl rfl rfl ?_
              refine r_eqS (st' := [va_rf (some q_83)]) rfl (r_aret C E d_Parser_takeLayer_95 (by first | decide | omega | (simp only [rmk]; omega)) (by first | decide | omega | (simp only [rmk]; omega)) ?_)
              exact ⟨some (4, some v_54, some v_78), some q_83, _, _, _, _, rfl, rfl, (pLay_4 hx_9 hx_48 hx_70).symm, ⟨q_83, rfl, chain_new hch (by decide) (List.mem_cons_self)⟩, fun q hq => List.mem_cons_of_mem _ hq, hO2_70, hc2_70, ho2_70⟩
            · subst c_78
              refine r_norm2 (ws' := [(p, .inr (6, [.ref t, .ref bk, .ref a])), (a, .inr (2, [.ref t, .int (nI tk_70.1), .int (nI tk_70.2.1), .int (nI tk_70.2.2.1), .int (oI tk_70.2.2.2.1), va_rf (wR g tk_70.2.2.2.2)])), (t, .inr (1, [.ref tb, .int (nI k)])), (tb, .inl (g.2.1 1, 2000, .inl (aI T))), (bk, .inr (5, [.ref ra, .ref pa, .int (bI pr), .int (nI rc), .int (nI ou_70.length), .int (nI dp)])), (pa, .inl (g.2.1 1, 4000, .inl (aI PB_70)))] ++ PP) (st' := []) (lv' := [(4, .int (-1)), (3, .int (nI v_54)), (2, .ref (g.2.2.1 4)), (0, .ref p), (1, va_rf ar)]) rfl rfl rfl ?_
              refine r_null C d_Parser_takeLayer_81 ?_
              refine r_eqS (st' := [va_rf (none)]) rfl (r_aret C E d_Parser_takeLayer_82 (by first | decide | omega | (simp only [rmk]; omega)) (by first | decide | omega | (simp only [rmk]; omega)) ?_)
              exact ⟨none, none, PP, _, _, _, rfl, rfl, (pLay_4m hx_9 hx_48 hx_70).symm, rfl, fun _ h => h, hO2_70, hc2_70, ho2_70⟩
        · subst c_54
          refine r_norm2 (ws' := [(p, .inr (6, [.ref t, .ref bk, .ref a])), (a, .inr (2, [.ref t, .int (nI tk_48.1), .int (nI tk_48.2.1), .int (nI tk_48.2.2.1), .int (oI tk_48.2.2.2.1), va_rf (wR g tk_48.2.2.2.2)])), (t, .inr (1, [.ref tb, .int (nI k)])), (tb, .inl (g.2.1 1, 2000, .inl (aI T))), (bk, .inr (5, [.ref ra, .ref pa, .int (bI pr), .int (nI rc), .int (nI ou_48.length), .int (nI dp)])), (pa, .inl (g.2.1 1, 4000, .inl (aI PB_48)))] ++ PP) (st' := []) (lv' := [(3, .int (-1)), (4, .int (-1)), (2, .ref (g.2.2.1 4)), (0, .ref p), (1, va_rf ar)]) rfl rfl rfl ?_
          refine r_null C d_Parser_takeLayer_57 ?_
          refine r_eqS (st' := [va_rf (none)]) rfl (r_aret C E d_Parser_takeLayer_58 (by first | decide | omega | (simp only [rmk]; omega)) (by first | decide | omega | (simp only [rmk]; omega)) ?_)
          exact ⟨none, none, PP, _, _, _, rfl, rfl, (pLay_4n hx_9 hx_48).symm, rfl, fun _ h => h, hO2_48, hc2_48, ho2_48⟩
    · exact absurd rfl c_21
  · skip
    refine r_aload_n C 2 d_Parser_takeLayer_17 rfl rfl ?_
    refine r_gets C d_Parser_takeLayer_18 ((C.2.2.2.2.2.2.2.1.1.1 4 (by decide)).1) fs_Parser_104 ?_
    refine r_acmp_eq C (r1 := some (g.2.2.1 7)) (r2 := some (g.2.2.1 4)) 31 d_Parser_takeLayer_21 (by decide) (fun c_21 => ?_) (fun c_21 => ?_)
    · exact absurd (wE C.2.2.2.2.2.2.2.1.1.2 (by decide) (by decide) c_21) (by decide)
    · skip
      refine r_aload_n C 2 d_Parser_takeLayer_24 rfl rfl ?_
      refine r_gets C d_Parser_takeLayer_25 ((C.2.2.2.2.2.2.2.1.1.1 7 (by decide)).1) fs_Parser_107 ?_
      refine r_acmp_ne C (r1 := some (g.2.2.1 7)) (r2 := some (g.2.2.1 7)) 59 d_Parser_takeLayer_28 (by decide) (fun c_28 => ?_) (fun c_28 => ?_)
      · exact absurd rfl c_28
      · skip
        refine r_aload_n C 3 d_Parser_takeLayer_31 rfl rfl ?_
        refine r_iconst C (nI 1) d_Parser_takeLayer_32 (by decide) ?_
        refine r_aload_n C 2 d_Parser_takeLayer_33 rfl rfl ?_
        refine r_gets C d_Parser_takeLayer_34 ((C.2.2.2.2.2.2.2.1.1.1 4 (by decide)).1) fs_Parser_104 ?_
        refine r_acmp_ne C (r1 := some (g.2.2.1 7)) (r2 := some (g.2.2.1 4)) 45 d_Parser_takeLayer_37 (by decide) (fun c_37 => ?_) (fun c_37 => ?_)
        · skip
          refine r_sipush C (nI 256) d_Parser_takeLayer_45 (by decide) ?_
          refine j_callV C (c_Parser_takeNumber g (xl x) (p := p) (a := a) (t := t) (tb := tb) (bk := bk) (ra := ra) (pa := pa) (k := k) (so := tk_9.1) (sta := tk_9.2.1) (en := tk_9.2.2.1) (rc := rc) (dp := dp) (T := T) (PA := PB_9) (v := tk_9.2.2.2.1) (wd := tk_9.2.2.2.2) (pr := pr) (out := ou_9) (lo := 1) (hi := 256) (by first | assumption | rfl | omega) (by first | assumption | rfl | omega) (by first | assumption | rfl | omega) (by first | assumption | rfl | omega) (by first | assumption | rfl | omega) (by first | assumption | rfl | omega) (by first | assumption | rfl | omega)) (Sp.keep (Sp.of (wr := []) [0, 1, 2, 3, 4, 5] [] rfl rfl rfl rfl (by decide)) PP) d_Parser_takeLayer_48 lk_Parser_110 mw_Parser_takeNumber vw_Parser_takeNumber (q0 := 0) rfl rfl (fit_of hR (by first | decide | (simp only [rmk]; omega)) (by first | decide | (simp only [rmk]; omega)) (by first | decide | (simp only [rmk]; omega)) (by first | decide | (simp only [rmk]; omega))) rfl (cat8 (Nat.le_of_ble_eq_true rfl)) (As := [.int (nI 1), .int (nI 256)]) (rest := []) rfl (fun r_48 w_48 hp_48 => ?_)
          obtain ⟨nr_48, tk_48, ou_48, PB_48, rfl, rfl, hx_48, hb_48, hO2_48, hc2_48, ho2_48⟩ := hp_48
          refine r_swap ?_
          refine r_afterP (X := [(p, .inr (6, [.ref t, .ref bk, .ref a])), (a, .inr (2, [.ref t, .int (nI tk_48.1), .int (nI tk_48.2.1), .int (nI tk_48.2.2.1), .int (oI tk_48.2.2.2.1), va_rf (wR g tk_48.2.2.2.2)])), (t, .inr (1, [.ref tb, .int (nI k)])), (tb, .inl (g.2.1 1, 2000, .inl (aI T))), (bk, .inr (5, [.ref ra, .ref pa, .int (bI pr), .int (nI rc), .int (nI ou_48.length), .int (nI dp)])), (pa, .inl (g.2.1 1, 4000, .inl (aI PB_48)))]) (X' := [(p, .inr (6, [.ref t, .ref bk, .ref a])), (a, .inr (2, [.ref t, .int (nI tk_48.1), .int (nI tk_48.2.1), .int (nI tk_48.2.2.1), .int (oI tk_48.2.2.2.1), va_rf (wR g tk_48.2.2.2.2)])), (t, .inr (1, [.ref tb, .int (nI k)])), (tb, .inl (g.2.1 1, 2000, .inl (aI T))), (bk, .inr (5, [.ref ra, .ref pa, .int (bI pr), .int (nI rc), .int (nI ou_48.length), .int (nI dp)])), (pa, .inl (g.2.1 1, 4000, .inl (aI PB_48)))]) (pl := PP) (st' := [.int (oI nr_48)]) (n1 := 0) (n2 := 0) [0, 1, 2, 3, 4, 5] rfl rfl rfl rfl rfl rfl ?_
          refine r_istore_n C (lv' := [(3, .int (oI nr_48)), (4, .int (-1)), (2, .ref (g.2.2.1 7)), (0, .ref p), (1, va_rf ar)]) d_Parser_takeLayer_51 rfl (by decide) rfl ?_
          refine r_iload_n C 0 d_Parser_takeLayer_52 rfl rfl ?_
          refine r_iconst C ((-1)) d_Parser_takeLayer_53 (by decide) ?_
          refine r_ocmp_ne C 59 d_Parser_takeLayer_54 (by decide) (by assumption) (fun c_54 => ?_) (fun c_54 => ?_)
          · obtain ⟨v_54, rfl⟩ := c_54
            refine r_norm2 (ws' := [(p, .inr (6, [.ref t, .ref bk, .ref a])), (a, .inr (2, [.ref t, .int (nI tk_48.1), .int (nI tk_48.2.1), .int (nI tk_48.2.2.1), .int (oI tk_48.2.2.2.1), va_rf (wR g tk_48.2.2.2.2)])), (t, .inr (1, [.ref tb, .int (nI k)])), (tb, .inl (g.2.1 1, 2000, .inl (aI T))), (bk, .inr (5, [.ref ra, .ref pa, .int (bI pr), .int (nI rc), .int (nI ou_48.length), .int (nI dp)])), (pa, .inl (g.2.1 1, 4000, .inl (aI PB_48)))] ++ PP) (st' := []) (lv' := [(3, .int (nI v_54)), (4, .int (-1)), (2, .ref (g.2.2.1 7)), (0, .ref p), (1, va_rf ar)]) rfl rfl rfl ?_
            refine r_aload_n C 2 d_Parser_takeLayer_59 rfl rfl ?_
            refine r_gets C d_Parser_takeLayer_60 ((C.2.2.2.2.2.2.2.1.1.1 4 (by decide)).1) fs_Parser_104 ?_
            refine r_acmp_ne C (r1 := some (g.2.2.1 7)) (r2 := some (g.2.2.1 4)) 83 d_Parser_takeLayer_63 (by decide) (fun c_63 => ?_) (fun c_63 => ?_)
            · skip
              refine r_new C d_Parser_takeLayer_83 ci_Layer cl_Parser_113 in_Layer iz_Layer (fs := [.null, .int (nI 0), .int (nI 0), .null, .int (nI 0)]) (by intro j hj; rcases (show j = 0 ∨ j = 1 ∨ j = 2 ∨ j = 3 ∨ j = 4 by omega) with rfl | rfl | rfl | rfl | rfl <;> rfl) (by rw [hR]; decide) (by rw [hR]; decide) (fun q_83 => ?_)
              refine r_swap ?_
              refine r_norm (ws' := [(p, .inr (6, [.ref t, .ref bk, .ref a])), (a, .inr (2, [.ref t, .int (nI tk_48.1), .int (nI tk_48.2.1), .int (nI tk_48.2.2.1), .int (oI tk_48.2.2.2.1), va_rf (wR g tk_48.2.2.2.2)])), (t, .inr (1, [.ref tb, .int (nI k)])), (tb, .inl (g.2.1 1, 2000, .inl (aI T))), (bk, .inr (5, [.ref ra, .ref pa, .int (bI pr), .int (nI rc), .int (nI ou_48.length), .int (nI dp)])), (pa, .inl (g.2.1 1, 4000, .inl (aI PB_48))), (q_83, .inr (3, [.null, .int (nI 0), .int (nI 0), .null, .int (nI 0)]))] ++ PP) (st' := [.ref q_83]) (n1 := 0 + 1) (n2 := 0 + 5) rfl rfl rfl rfl ?_
              refine r_dup C d_Parser_takeLayer_86 rfl ?_
              refine r_aload_n C 2 d_Parser_takeLayer_87 rfl rfl ?_
              refine r_iload_n C 0 d_Parser_takeLayer_88 rfl rfl ?_
              refine r_iload C 1 d_Parser_takeLayer_89 rfl ?_
              refine r_aload_nQ C 4 d_Parser_takeLayer_91 rfl rfl ?_
              refine j_callI C (c_Layer_init g (xl x) (y := q_83) (u := 7) (lev := ls.length) (f := some v_54) (s := none) (ou := ar) (PP := PP) (chain_lev hch) (chain_nil hch)) (Sp.pool (Sp.of (wr := [(p, .inr (6, [.ref t, .ref bk, .ref a])), (a, .inr (2, [.ref t, .int (nI tk_48.1), .int (nI tk_48.2.1), .int (nI tk_48.2.2.1), .int (oI tk_48.2.2.2.1), va_rf (wR g tk_48.2.2.2.2)])), (t, .inr (1, [.ref tb, .int (nI k)])), (tb, .inl (g.2.1 1, 2000, .inl (aI T))), (bk, .inr (5, [.ref ra, .ref pa, .int (bI pr), .int (nI rc), .int (nI ou_48.length), .int (nI dp)])), (pa, .inl (g.2.1 1, 4000, .inl (aI PB_48)))]) [6] [0, 1, 2, 3, 4, 5] rfl rfl rfl rfl (by decide)) PP) d_Parser_takeLayer_92 lk_Parser_115 mw_Layer_init rfl im_Layer_init (fit_of hR (by first | decide | (simp only [rmk]; omega)) (by first | decide | (simp only [rmk]; omega)) (by first | decide | (simp only [rmk]; omega)) (by first | decide | (simp only [rmk]; omega))) rfl (cat8 (Nat.le_of_ble_eq_true rfl)) (As := [.ref (g.2.2.1 7), .int (nI v_54), .int (-1), va_rf ar]) (rest := [.ref q_83]) rfl (fun r_92 w_92 hp_92 => ?_)
              obtain ⟨rfl, rfl⟩ := hp_92
              refine r_afterP (X := [(p, .inr (6, [.ref t, .ref bk, .ref a])), (a, .inr (2, [.ref t, .int (nI tk_48.1), .int (nI tk_48.2.1), .int (nI tk_48.2.2.1), .int (oI tk_48.2.2.2.1), va_rf (wR g tk_48.2.2.2.2)])), (t, .inr (1, [.ref tb, .int (nI k)])), (tb, .inl (g.2.1 1, 2000, .inl (aI T))), (bk, .inr (5, [.ref ra, .ref pa, .int (bI pr), .int (nI rc), .int (nI ou_48.length), .int (nI dp)])), (pa, .inl (g.2.1 1, 4000, .inl (aI PB_48))), (q_83, .inr (3, [.ref (g.2.2.1 7), .int (oI (some v_54)), .int (oI none), va_rf ar, .int (nI (ls.length + 1))]))]) (X' := [(p, .inr (6, [.ref t, .ref bk, .ref a])), (a, .inr (2, [.ref t, .int (nI tk_48.1), .int (nI tk_48.2.1), .int (nI tk_48.2.2.1), .int (oI tk_48.2.2.2.1), va_rf (wR g tk_48.2.2.2.2)])), (t, .inr (1, [.ref tb, .int (nI k)])), (tb, .inl (g.2.1 1, 2000, .inl (aI T))), (bk, .inr (5, [.ref ra, .ref pa, .int (bI pr), .int (nI rc), .int (nI ou_48.length), .int (nI dp)])), (pa, .inl (g.2.1 1, 4000, .inl (aI PB_48))), (q_83, .inr (3, [.ref (g.2.2.1 7), .int (oI (some v_54)), .int (oI none), va_rf ar, .int (nI (ls.length + 1))]))]) (pl := PP) (st' := [.ref q_83]) (n1 := 0 + 1) (n2 := 0 + 5) [0, 1, 2, 3, 4, 5, 6] rfl rfl rfl rfl rfl rfl ?_
              refine r_eqS (st' := [va_rf (some q_83)]) rfl (r_aret C E d_Parser_takeLayer_95 (by first | decide | omega | (simp only [rmk]; omega)) (by first | decide | omega | (simp only [rmk]; omega)) ?_)
              exact ⟨some (7, some v_54, none), some q_83, _, _, _, _, rfl, rfl, (pLay_7 hx_9 hx_48).symm, ⟨q_83, rfl, chain_new hch (by decide) (List.mem_cons_self)⟩, fun q hq => List.mem_cons_of_mem _ hq, hO2_48, hc2_48, ho2_48⟩
            · exact absurd (wE C.2.2.2.2.2.2.2.1.1.2 (by decide) (by decide) c_63) (by decide)
          · subst c_54
            refine r_norm2 (ws' := [(p, .inr (6, [.ref t, .ref bk, .ref a])), (a, .inr (2, [.ref t, .int (nI tk_48.1), .int (nI tk_48.2.1), .int (nI tk_48.2.2.1), .int (oI tk_48.2.2.2.1), va_rf (wR g tk_48.2.2.2.2)])), (t, .inr (1, [.ref tb, .int (nI k)])), (tb, .inl (g.2.1 1, 2000, .inl (aI T))), (bk, .inr (5, [.ref ra, .ref pa, .int (bI pr), .int (nI rc), .int (nI ou_48.length), .int (nI dp)])), (pa, .inl (g.2.1 1, 4000, .inl (aI PB_48)))] ++ PP) (st' := []) (lv' := [(3, .int (-1)), (4, .int (-1)), (2, .ref (g.2.2.1 7)), (0, .ref p), (1, va_rf ar)]) rfl rfl rfl ?_
            refine r_null C d_Parser_takeLayer_57 ?_
            refine r_eqS (st' := [va_rf (none)]) rfl (r_aret C E d_Parser_takeLayer_58 (by first | decide | omega | (simp only [rmk]; omega)) (by first | decide | omega | (simp only [rmk]; omega)) ?_)
            exact ⟨none, none, PP, _, _, _, rfl, rfl, (pLay_7n hx_9 hx_48).symm, rfl, fun _ h => h, hO2_48, hc2_48, ho2_48⟩
        · exact absurd (wE C.2.2.2.2.2.2.2.1.1.2 (by decide) (by decide) c_37) (by decide)
  · skip
    refine r_aload_n C 2 d_Parser_takeLayer_17 rfl rfl ?_
    refine r_gets C d_Parser_takeLayer_18 ((C.2.2.2.2.2.2.2.1.1.1 4 (by decide)).1) fs_Parser_104 ?_
    refine r_acmp_eq C (r1 := some (g.2.2.1 w)) (r2 := some (g.2.2.1 4)) 31 d_Parser_takeLayer_21 (by decide) (fun c_21 => ?_) (fun c_21 => ?_)
    · exact absurd (wE C.2.2.2.2.2.2.2.1.1.2 hw (by decide) c_21) hno.1
    · skip
      refine r_aload_n C 2 d_Parser_takeLayer_24 rfl rfl ?_
      refine r_gets C d_Parser_takeLayer_25 ((C.2.2.2.2.2.2.2.1.1.1 7 (by decide)).1) fs_Parser_107 ?_
      refine r_acmp_ne C (r1 := some (g.2.2.1 w)) (r2 := some (g.2.2.1 7)) 59 d_Parser_takeLayer_28 (by decide) (fun c_28 => ?_) (fun c_28 => ?_)
      · skip
        refine r_aload_n C 2 d_Parser_takeLayer_59 rfl rfl ?_
        refine r_gets C d_Parser_takeLayer_60 ((C.2.2.2.2.2.2.2.1.1.1 4 (by decide)).1) fs_Parser_104 ?_
        refine r_acmp_ne C (r1 := some (g.2.2.1 w)) (r2 := some (g.2.2.1 4)) 83 d_Parser_takeLayer_63 (by decide) (fun c_63 => ?_) (fun c_63 => ?_)
        · skip
          refine r_new C d_Parser_takeLayer_83 ci_Layer cl_Parser_113 in_Layer iz_Layer (fs := [.null, .int (nI 0), .int (nI 0), .null, .int (nI 0)]) (by intro j hj; rcases (show j = 0 ∨ j = 1 ∨ j = 2 ∨ j = 3 ∨ j = 4 by omega) with rfl | rfl | rfl | rfl | rfl <;> rfl) (by rw [hR]; decide) (by rw [hR]; decide) (fun q_83 => ?_)
          refine r_swap ?_
          refine r_norm (ws' := [(p, .inr (6, [.ref t, .ref bk, .ref a])), (a, .inr (2, [.ref t, .int (nI tk_9.1), .int (nI tk_9.2.1), .int (nI tk_9.2.2.1), .int (oI tk_9.2.2.2.1), va_rf (wR g tk_9.2.2.2.2)])), (t, .inr (1, [.ref tb, .int (nI k)])), (tb, .inl (g.2.1 1, 2000, .inl (aI T))), (bk, .inr (5, [.ref ra, .ref pa, .int (bI pr), .int (nI rc), .int (nI ou_9.length), .int (nI dp)])), (pa, .inl (g.2.1 1, 4000, .inl (aI PB_9))), (q_83, .inr (3, [.null, .int (nI 0), .int (nI 0), .null, .int (nI 0)]))] ++ PP) (st' := [.ref q_83]) (n1 := 0 + 1) (n2 := 0 + 5) rfl rfl rfl rfl ?_
          refine r_dup C d_Parser_takeLayer_86 rfl ?_
          refine r_aload_n C 2 d_Parser_takeLayer_87 rfl rfl ?_
          refine r_iload_n C 1 d_Parser_takeLayer_88 rfl rfl ?_
          refine r_iload C 0 d_Parser_takeLayer_89 rfl ?_
          refine r_aload_nQ C 4 d_Parser_takeLayer_91 rfl rfl ?_
          refine j_callI C (c_Layer_init g (xl x) (y := q_83) (u := w) (lev := ls.length) (f := none) (s := none) (ou := ar) (PP := PP) (chain_lev hch) (chain_nil hch)) (Sp.pool (Sp.of (wr := [(p, .inr (6, [.ref t, .ref bk, .ref a])), (a, .inr (2, [.ref t, .int (nI tk_9.1), .int (nI tk_9.2.1), .int (nI tk_9.2.2.1), .int (oI tk_9.2.2.2.1), va_rf (wR g tk_9.2.2.2.2)])), (t, .inr (1, [.ref tb, .int (nI k)])), (tb, .inl (g.2.1 1, 2000, .inl (aI T))), (bk, .inr (5, [.ref ra, .ref pa, .int (bI pr), .int (nI rc), .int (nI ou_9.length), .int (nI dp)])), (pa, .inl (g.2.1 1, 4000, .inl (aI PB_9)))]) [6] [0, 1, 2, 3, 4, 5] rfl rfl rfl rfl (by decide)) PP) d_Parser_takeLayer_92 lk_Parser_115 mw_Layer_init rfl im_Layer_init (fit_of hR (by first | decide | (simp only [rmk]; omega)) (by first | decide | (simp only [rmk]; omega)) (by first | decide | (simp only [rmk]; omega)) (by first | decide | (simp only [rmk]; omega))) rfl (cat8 (Nat.le_of_ble_eq_true rfl)) (As := [.ref (g.2.2.1 w), .int (-1), .int (-1), va_rf ar]) (rest := [.ref q_83]) rfl (fun r_92 w_92 hp_92 => ?_)
          obtain ⟨rfl, rfl⟩ := hp_92
          refine r_afterP (X := [(p, .inr (6, [.ref t, .ref bk, .ref a])), (a, .inr (2, [.ref t, .int (nI tk_9.1), .int (nI tk_9.2.1), .int (nI tk_9.2.2.1), .int (oI tk_9.2.2.2.1), va_rf (wR g tk_9.2.2.2.2)])), (t, .inr (1, [.ref tb, .int (nI k)])), (tb, .inl (g.2.1 1, 2000, .inl (aI T))), (bk, .inr (5, [.ref ra, .ref pa, .int (bI pr), .int (nI rc), .int (nI ou_9.length), .int (nI dp)])), (pa, .inl (g.2.1 1, 4000, .inl (aI PB_9))), (q_83, .inr (3, [.ref (g.2.2.1 w), .int (oI none), .int (oI none), va_rf ar, .int (nI (ls.length + 1))]))]) (X' := [(p, .inr (6, [.ref t, .ref bk, .ref a])), (a, .inr (2, [.ref t, .int (nI tk_9.1), .int (nI tk_9.2.1), .int (nI tk_9.2.2.1), .int (oI tk_9.2.2.2.1), va_rf (wR g tk_9.2.2.2.2)])), (t, .inr (1, [.ref tb, .int (nI k)])), (tb, .inl (g.2.1 1, 2000, .inl (aI T))), (bk, .inr (5, [.ref ra, .ref pa, .int (bI pr), .int (nI rc), .int (nI ou_9.length), .int (nI dp)])), (pa, .inl (g.2.1 1, 4000, .inl (aI PB_9))), (q_83, .inr (3, [.ref (g.2.2.1 w), .int (oI none), .int (oI none), va_rf ar, .int (nI (ls.length + 1))]))]) (pl := PP) (st' := [.ref q_83]) (n1 := 0 + 1) (n2 := 0 + 5) [0, 1, 2, 3, 4, 5, 6] rfl rfl rfl rfl rfl rfl ?_
          refine r_eqS (st' := [va_rf (some q_83)]) rfl (r_aret C E d_Parser_takeLayer_95 (by first | decide | omega | (simp only [rmk]; omega)) (by first | decide | omega | (simp only [rmk]; omega)) ?_)
          exact ⟨some (w, none, none), some q_83, _, _, _, _, rfl, rfl, (pLay_d hno.1 hno.2 hx_9).symm, ⟨q_83, rfl, chain_new hch hw (List.mem_cons_self)⟩, fun q hq => List.mem_cons_of_mem _ hq, hO2_9, hc2_9, ho2_9⟩
        · exact absurd (wE C.2.2.2.2.2.2.2.1.1.2 hw (by decide) c_63) hno.1
      · exact absurd (wE C.2.2.2.2.2.2.2.1.1.2 hw (by decide) c_28) hno.2

set_option maxHeartbeats 4000000 in
set_option maxRecDepth 100000 in
theorem c_Parser_takeRule (g : GG) (l : Launch) {p : Nat} {a : Nat} {t : Nat} {tb : Nat} {bk : Nat} {ra : Nat} {pa : Nat} {k : Nat} {so : Nat} {sta : Nat} {en : Nat} {dp : Nat} {w : Nat} {T : Nat → Nat} {PA : Nat → Nat} {v : Option Nat} {ar : Option Nat} {pr : Bool} {out : List Nat} {ls : List LayerV} {PP : va_W} {RA : Nat → Option Nat} {rules : List RuleV}  (hk : k ≤ 2000) (hT : ∀ j, T j < 256) (hO : TokOK k (so, sta, en, v, some w)) (hcap : out.length ≤ 2 * sta) (ho : OutAt PA out) (h1 : so = 1) (hw : w < 23) (hch : ChainAt g PP ar ls) (h16 : 16 ≤ w) (hRA : RulesAt g PP RA rules) (h400 : rules.length ≤ 400) : Cn g l y_Parser_takeRule b_Parser_takeRule 4 (some .boolean) (rmk 12 1 6 260) [.ref p, va_rf ar] ([(p, .inr (6, [.ref t, .ref bk, .ref a])), (a, .inr (2, [.ref t, .int (nI so), .int (nI sta), .int (nI en), .int (oI v), .ref (g.2.2.1 w)])), (t, .inr (1, [.ref tb, .int (nI k)])), (tb, .inl (g.2.1 1, 2000, .inl (aI T))), (bk, .inr (5, [.ref ra, .ref pa, .int (bI pr), .int (nI rules.length), .int (nI out.length), .int (nI dp)])), (pa, .inl (g.2.1 1, 4000, .inl (aI PA))), (ra, .inl (g.2.1 3, 400, .inr (.inr (.inr (.inr RA)))))] ++ PP) (fun (r0 : Option Value) (w0 : va_W) => ∃ ok : Bool, ∃ rules2 : List RuleV, ∃ RA2 : Nat → Option Nat, ∃ PP2 : va_W, ∃ tk : Tok, ∃ ou : List Nat, ∃ PB : Nat → Nat, r0 = some (.int (bI ok)) ∧ w0 = [(p, .inr (6, [.ref t, .ref bk, .ref a])), (a, .inr (2, [.ref t, .int (nI tk.1), .int (nI tk.2.1), .int (nI tk.2.2.1), .int (oI tk.2.2.2.1), va_rf (wR g tk.2.2.2.2)])), (t, .inr (1, [.ref tb, .int (nI k)])), (tb, .inl (g.2.1 1, 2000, .inl (aI T))), (bk, .inr (5, [.ref ra, .ref pa, .int (bI pr), .int (nI rules2.length), .int (nI ou.length), .int (nI dp)])), (pa, .inl (g.2.1 1, 4000, .inl (aI PB))), (ra, .inl (g.2.1 3, 400, .inr (.inr (.inr (.inr RA2)))))] ++ PP2 ∧ ((ok, rules2, tk, ou) = pRule T k w ls rules ((so, sta, en, v, some w), out)) ∧ (RulesAt g PP2 RA2 rules2) ∧ (∀ q ∈ PP, q ∈ PP2) ∧ (TokOK k tk) ∧ (ou.length ≤ 2 * tk.2.1) ∧ (OutAt PB ou) ∧ (rules2.length ≤ 400)) := by
  refine Cn.of R_Parser [(0, .ref p), (1, va_rf ar)] (by decide) rfl (by generalize ar = z0; cases z0 <;> exact Nat.le_of_ble_eq_true rfl) (by generalize ar = z0; cases z0 <;> rfl) ?_
  intro x A Q hR hXl hin C E
  subst hXl
  refine r_aload_n C 0 d_Parser_takeRule_0 rfl rfl ?_
  refine r_get C 0 2 d_Parser_takeRule_1 ci_Parser fi_Parser_24 rfl (by decide) rfl rfl ?_
  refine r_get C 1 5 d_Parser_takeRule_4 ci_Tokens fi_Parser_101 rfl (by decide) rfl rfl ?_
  refine r_astore_n C (lv' := [(2, .ref (g.2.2.1 w)), (0, .ref p), (1, va_rf ar)]) d_Parser_takeRule_7 rfl (by decide) (by generalize ar = zq; cases zq <;> rfl) ?_
  refine r_aload_n C 0 d_Parser_takeRule_8 rfl rfl ?_
  refine r_ifnonnull C 14 d_Parser_takeRule_9 (by decide) ?_
  refine r_new C d_Parser_takeRule_14 ci_Rule cl_Parser_118 in_Rule iz_Rule (fs := [.int (nI 0), .int (nI 0), .null, .int (nI 0), .int (nI 0), .int (nI 0)]) (by intro j hj; rcases (show j = 0 ∨ j = 1 ∨ j = 2 ∨ j = 3 ∨ j = 4 ∨ j = 5 by omega) with rfl | rfl | rfl | rfl | rfl | rfl <;> rfl) (by rw [hR]; decide) (by rw [hR]; decide) (fun q_14 => ?_)
  refine r_swap ?_
  refine r_norm (ws' := [(p, .inr (6, [.ref t, .ref bk, .ref a])), (a, .inr (2, [.ref t, .int (nI so), .int (nI sta), .int (nI en), .int (oI v), .ref (g.2.2.1 w)])), (t, .inr (1, [.ref tb, .int (nI k)])), (tb, .inl (g.2.1 1, 2000, .inl (aI T))), (bk, .inr (5, [.ref ra, .ref pa, .int (bI pr), .int (nI rules.length), .int (nI out.length), .int (nI dp)])), (pa, .inl (g.2.1 1, 4000, .inl (aI PA))), (ra, .inl (g.2.1 3, 400, .inr (.inr (.inr (.inr RA))))), (q_14, .inr (4, [.int (nI 0), .int (nI 0), .null, .int (nI 0), .int (nI 0), .int (nI 0)]))] ++ PP) (st' := [.ref q_14]) (n1 := 0 + 1) (n2 := 0 + 6) rfl rfl rfl rfl ?_
  refine r_dup C d_Parser_takeRule_17 rfl ?_
  refine r_aload_n C 0 d_Parser_takeRule_18 rfl rfl ?_
  refine r_getO C d_Parser_takeRule_19 ((C.2.2.2.2.2.2.2.1.1.1 w (show w < wNm.length from hw)).2.2 ("RuleReader$Word", "code", "I", wCode) (by simp [wF])) fo_Parser_120 ?_
  refine r_top (v' := nI (w - 16)) (wCode_eq h16 hw) ?_
  refine r_aload_n C 1 d_Parser_takeRule_22 rfl rfl ?_
  refine r_get C 0 2 d_Parser_takeRule_23 ci_Parser fi_Parser_24 rfl (by decide) rfl rfl ?_
  refine r_get C 1 2 d_Parser_takeRule_26 ci_Tokens fi_Parser_39 rfl (by decide) rfl rfl ?_
  refine r_aload_nQ C 2 d_Parser_takeRule_29 rfl rfl ?_
  refine j_callI C (c_Rule_init g (xl x) (y := q_14) (ki := w - 16) (st := sta) (ar := ar) ) (Sp.keep (Sp.of (wr := [(p, .inr (6, [.ref t, .ref bk, .ref a])), (a, .inr (2, [.ref t, .int (nI so), .int (nI sta), .int (nI en), .int (oI v), .ref (g.2.2.1 w)])), (t, .inr (1, [.ref tb, .int (nI k)])), (tb, .inl (g.2.1 1, 2000, .inl (aI T))), (bk, .inr (5, [.ref ra, .ref pa, .int (bI pr), .int (nI rules.length), .int (nI out.length), .int (nI dp)])), (pa, .inl (g.2.1 1, 4000, .inl (aI PA))), (ra, .inl (g.2.1 3, 400, .inr (.inr (.inr (.inr RA)))))]) [7] [0, 1, 2, 3, 4, 5, 6] rfl rfl rfl rfl (by decide)) PP) d_Parser_takeRule_30 lk_Parser_123 mw_Rule_init rfl im_Rule_init (fit_of hR (by first | decide | (simp only [rmk]; omega)) (by first | decide | (simp only [rmk]; omega)) (by first | decide | (simp only [rmk]; omega)) (by first | decide | (simp only [rmk]; omega))) rfl (cat8 (Nat.le_of_ble_eq_true rfl)) (As := [.int (nI (w - 16)), .int (nI sta), va_rf ar]) (rest := [.ref q_14]) rfl (fun r_30 w_30 hp_30 => ?_)
  obtain ⟨rfl, rfl⟩ := hp_30
  refine r_swap ?_
  refine r_afterP (X := [(p, .inr (6, [.ref t, .ref bk, .ref a])), (a, .inr (2, [.ref t, .int (nI so), .int (nI sta), .int (nI en), .int (oI v), .ref (g.2.2.1 w)])), (t, .inr (1, [.ref tb, .int (nI k)])), (tb, .inl (g.2.1 1, 2000, .inl (aI T))), (bk, .inr (5, [.ref ra, .ref pa, .int (bI pr), .int (nI rules.length), .int (nI out.length), .int (nI dp)])), (pa, .inl (g.2.1 1, 4000, .inl (aI PA))), (ra, .inl (g.2.1 3, 400, .inr (.inr (.inr (.inr RA))))), (q_14, .inr (4, [.int (nI (w - 16)), .int (nI sta), va_rf ar, .int (oI none), .int (oI none), .int (oI none)]))]) (X' := [(p, .inr (6, [.ref t, .ref bk, .ref a])), (a, .inr (2, [.ref t, .int (nI so), .int (nI sta), .int (nI en), .int (oI v), .ref (g.2.2.1 w)])), (t, .inr (1, [.ref tb, .int (nI k)])), (tb, .inl (g.2.1 1, 2000, .inl (aI T))), (bk, .inr (5, [.ref ra, .ref pa, .int (bI pr), .int (nI rules.length), .int (nI out.length), .int (nI dp)])), (pa, .inl (g.2.1 1, 4000, .inl (aI PA))), (ra, .inl (g.2.1 3, 400, .inr (.inr (.inr (.inr RA))))), (q_14, .inr (4, [.int (nI (w - 16)), .int (nI sta), va_rf ar, .int (oI none), .int (oI none), .int (oI none)]))]) (pl := PP) (st' := [.ref q_14]) (n1 := 0 + 1) (n2 := 0 + 6) [0, 1, 2, 3, 4, 5, 6, 7] rfl rfl rfl rfl rfl rfl ?_
  refine r_astore_n C (lv' := [(3, .ref q_14), (2, .ref (g.2.2.1 w)), (0, .ref p), (1, va_rf ar)]) d_Parser_takeRule_33 rfl (by decide) rfl ?_
  refine r_aload_n C 2 d_Parser_takeRule_34 rfl rfl ?_
  refine j_callV C (c_Parser_take g (xl x) (p := p) (a := a) (t := t) (tb := tb) (bk := bk) (ra := ra) (pa := pa) (k := k) (so := so) (sta := sta) (en := en) (rc := rules.length) (dp := dp) (T := T) (PA := PA) (v := v) (wd := some w) (pr := pr) (out := out) (by first | assumption | rfl | omega) (by first | assumption | rfl | omega) (by first | assumption | rfl | omega) (by first | assumption | rfl | omega) (by first | assumption | rfl | omega) (by omega)) (Sp.keep (Sp.of (wr := [(ra, .inl (g.2.1 3, 400, .inr (.inr (.inr (.inr RA))))), (q_14, .inr (4, [.int (nI (w - 16)), .int (nI sta), va_rf ar, .int (oI none), .int (oI none), .int (oI none)]))]) [0, 1, 2, 3, 4, 5] [6, 7] rfl rfl rfl rfl (by decide)) PP) d_Parser_takeRule_35 lk_Parser_61 mw_Parser_take vw_Parser_take (q0 := 0) rfl rfl (fit_of hR (by first | decide | (simp only [rmk]; omega)) (by first | decide | (simp only [rmk]; omega)) (by first | decide | (simp only [rmk]; omega)) (by first | decide | (simp only [rmk]; omega))) rfl (cat8 (Nat.le_of_ble_eq_true rfl)) (As := []) (rest := []) rfl (fun r_35 w_35 hp_35 => ?_)
  obtain ⟨tk_35, ou_35, PB_35, rfl, rfl, hx_35, hO2_35, hc2_35, ho2_35⟩ := hp_35
  refine r_swap ?_
  refine r_afterP (X := [(ra, .inl (g.2.1 3, 400, .inr (.inr (.inr (.inr RA))))), (q_14, .inr (4, [.int (nI (w - 16)), .int (nI sta), va_rf ar, .int (oI none), .int (oI none), .int (oI none)])), (p, .inr (6, [.ref t, .ref bk, .ref a])), (a, .inr (2, [.ref t, .int (nI tk_35.1), .int (nI tk_35.2.1), .int (nI tk_35.2.2.1), .int (oI tk_35.2.2.2.1), va_rf (wR g tk_35.2.2.2.2)])), (t, .inr (1, [.ref tb, .int (nI k)])), (tb, .inl (g.2.1 1, 2000, .inl (aI T))), (bk, .inr (5, [.ref ra, .ref pa, .int (bI pr), .int (nI rules.length), .int (nI ou_35.length), .int (nI dp)])), (pa, .inl (g.2.1 1, 4000, .inl (aI PB_35)))]) (X' := [(p, .inr (6, [.ref t, .ref bk, .ref a])), (a, .inr (2, [.ref t, .int (nI tk_35.1), .int (nI tk_35.2.1), .int (nI tk_35.2.2.1), .int (oI tk_35.2.2.2.1), va_rf (wR g tk_35.2.2.2.2)])), (t, .inr (1, [.ref tb, .int (nI k)])), (tb, .inl (g.2.1 1, 2000, .inl (aI T))), (bk, .inr (5, [.ref ra, .ref pa, .int (bI pr), .int (nI rules.length), .int (nI ou_35.length), .int (nI dp)])), (pa, .inl (g.2.1 1, 4000, .inl (aI PB_35))), (ra, .inl (g.2.1 3, 400, .inr (.inr (.inr (.inr RA))))), (q_14, .inr (4, [.int (nI (w - 16)), .int (nI sta), va_rf ar, .int (oI none), .int (oI none), .int (oI none)]))]) (pl := PP) (st' := []) (n1 := 0 + 1) (n2 := 0 + 6) [2, 3, 4, 5, 6, 7, 0, 1] rfl rfl rfl rfl rfl rfl ?_
  refine r_aload_n C 2 d_Parser_takeRule_38 rfl rfl ?_
  refine r_aload_n C 0 d_Parser_takeRule_39 rfl rfl ?_
  refine j_callV C (c_Parser_takeNumbers g (xl x) (p := p) (a := a) (t := t) (tb := tb) (bk := bk) (ra := ra) (pa := pa) (k := k) (so := tk_35.1) (sta := tk_35.2.1) (en := tk_35.2.2.1) (rc := rules.length) (dp := dp) (T := T) (PA := PB_35) (v := tk_35.2.2.2.1) (wd := tk_35.2.2.2.2) (pr := pr) (out := ou_35) (y := q_14) (ki := (w - 16)) (st := sta) (ar := ar) (by first | assumption | rfl | omega) (by first | assumption | rfl | omega) (by first | assumption | rfl | omega) (by first | assumption | rfl | omega) (by first | assumption | rfl | omega) (by omega)) (Sp.keep (Sp.of (wr := [(ra, .inl (g.2.1 3, 400, .inr (.inr (.inr (.inr RA)))))]) [0, 1, 2, 3, 4, 5, 7] [6] rfl rfl rfl rfl (by decide)) PP) d_Parser_takeRule_40 lk_Parser_126 mw_Parser_takeNumbers vw_Parser_takeNumbers (q0 := 0) rfl rfl (fit_of hR (by first | decide | (simp only [rmk]; omega)) (by first | decide | (simp only [rmk]; omega)) (by first | decide | (simp only [rmk]; omega)) (by first | decide | (simp only [rmk]; omega))) rfl (cat8 (Nat.le_of_ble_eq_true rfl)) (As := [.ref q_14]) (rest := []) rfl (fun r_40 w_40 hp_40 => ?_)
  obtain ⟨ok_40, c2_40, nu2_40, co2_40, tk_40, ou_40, PB_40, rfl, rfl, hx_40, hO2_40, hc2_40, ho2_40⟩ := hp_40
  refine r_swap ?_
  refine r_afterP (X := [(ra, .inl (g.2.1 3, 400, .inr (.inr (.inr (.inr RA))))), (p, .inr (6, [.ref t, .ref bk, .ref a])), (a, .inr (2, [.ref t, .int (nI tk_40.1), .int (nI tk_40.2.1), .int (nI tk_40.2.2.1), .int (oI tk_40.2.2.2.1), va_rf (wR g tk_40.2.2.2.2)])), (t, .inr (1, [.ref tb, .int (nI k)])), (tb, .inl (g.2.1 1, 2000, .inl (aI T))), (bk, .inr (5, [.ref ra, .ref pa, .int (bI pr), .int (nI rules.length), .int (nI ou_40.length), .int (nI dp)])), (pa, .inl (g.2.1 1, 4000, .inl (aI PB_40))), (q_14, .inr (4, [.int (nI (w - 16)), .int (nI sta), va_rf ar, .int (oI c2_40), .int (oI nu2_40), .int (oI co2_40)]))]) (X' := [(p, .inr (6, [.ref t, .ref bk, .ref a])), (a, .inr (2, [.ref t, .int (nI tk_40.1), .int (nI tk_40.2.1), .int (nI tk_40.2.2.1), .int (oI tk_40.2.2.2.1), va_rf (wR g tk_40.2.2.2.2)])), (t, .inr (1, [.ref tb, .int (nI k)])), (tb, .inl (g.2.1 1, 2000, .inl (aI T))), (bk, .inr (5, [.ref ra, .ref pa, .int (bI pr), .int (nI rules.length), .int (nI ou_40.length), .int (nI dp)])), (pa, .inl (g.2.1 1, 4000, .inl (aI PB_40))), (ra, .inl (g.2.1 3, 400, .inr (.inr (.inr (.inr RA))))), (q_14, .inr (4, [.int (nI (w - 16)), .int (nI sta), va_rf ar, .int (oI c2_40), .int (oI nu2_40), .int (oI co2_40)]))]) (pl := PP) (st' := [.int (bI ok_40)]) (n1 := 0 + 1) (n2 := 0 + 6) [1, 2, 3, 4, 5, 6, 0, 7] rfl rfl rfl rfl rfl rfl ?_
  refine r_bif_eq C 61 d_Parser_takeRule_43 (by decide) (fun c_43 => ?_) (fun c_43 => ?_)
  · skip
    refine r_iconst C (nI 0) d_Parser_takeRule_61 (by decide) ?_
    refine r_eqS (st' := [.int (bI false)]) rfl ?_
    refine r_bret C E d_Parser_takeRule_62 (by first | decide | omega | (simp only [rmk]; omega)) (by first | decide | omega | (simp only [rmk]; omega)) ?_
    subst c_43
    exact ⟨false, rules, _, _, _, _, _, rfl, rfl, (pRule_n hx_35 hx_40).symm, hRA.mono (fun q hq => List.mem_cons_of_mem _ hq), fun q hq => List.mem_cons_of_mem _ hq, hO2_40, hc2_40, ho2_40, h400⟩
  · skip
    subst c_43
    refine r_aload_n C 2 d_Parser_takeRule_46 rfl rfl ?_
    refine r_get C 0 1 d_Parser_takeRule_47 ci_Parser fi_Parser_15 rfl (by decide) rfl rfl ?_
    refine r_aload_n C 0 d_Parser_takeRule_50 rfl rfl ?_
    refine j_callV C (c_Book_add g (xl x) (bk := bk) (ra := ra) (pa := pa) (rc := rules.length) (pn := ou_40.length) (dp := dp) (pr := pr) (y := q_14) (ki := (w - 16)) (st := sta) (ar := ar) (c := c2_40) (nu := nu2_40) (co := co2_40) (RA := RA) (by first | assumption | rfl | omega)) (Sp.keep (Sp.of (wr := [(p, .inr (6, [.ref t, .ref bk, .ref a])), (a, .inr (2, [.ref t, .int (nI tk_40.1), .int (nI tk_40.2.1), .int (nI tk_40.2.2.1), .int (oI tk_40.2.2.2.1), va_rf (wR g tk_40.2.2.2.2)])), (t, .inr (1, [.ref tb, .int (nI k)])), (tb, .inl (g.2.1 1, 2000, .inl (aI T))), (pa, .inl (g.2.1 1, 4000, .inl (aI PB_40)))]) [4, 6, 7] [0, 1, 2, 3, 5] rfl rfl rfl rfl (by decide)) PP) d_Parser_takeRule_51 lk_Parser_130 mw_Book_add vw_Book_add (q0 := 0) rfl rfl (fit_of hR (by first | decide | (simp only [rmk]; omega)) (by first | decide | (simp only [rmk]; omega)) (by first | decide | (simp only [rmk]; omega)) (by first | decide | (simp only [rmk]; omega))) rfl (cat8 (Nat.le_of_ble_eq_true rfl)) (As := [.ref q_14]) (rest := []) rfl (fun r_51 w_51 hp_51 => ?_)
    obtain ⟨ok_51, rc2_51, RA2_51, rfl, rfl, had_51⟩ := hp_51
    refine r_swap ?_
    refine r_afterP (X := [(p, .inr (6, [.ref t, .ref bk, .ref a])), (a, .inr (2, [.ref t, .int (nI tk_40.1), .int (nI tk_40.2.1), .int (nI tk_40.2.2.1), .int (oI tk_40.2.2.2.1), va_rf (wR g tk_40.2.2.2.2)])), (t, .inr (1, [.ref tb, .int (nI k)])), (tb, .inl (g.2.1 1, 2000, .inl (aI T))), (pa, .inl (g.2.1 1, 4000, .inl (aI PB_40))), (bk, .inr (5, [.ref ra, .ref pa, .int (bI pr), .int (nI rc2_51), .int (nI ou_40.length), .int (nI dp)])), (ra, .inl (g.2.1 3, 400, .inr (.inr (.inr (.inr RA2_51))))), (q_14, .inr (4, [.int (nI (w - 16)), .int (nI sta), va_rf ar, .int (oI c2_40), .int (oI nu2_40), .int (oI co2_40)]))]) (X' := [(p, .inr (6, [.ref t, .ref bk, .ref a])), (a, .inr (2, [.ref t, .int (nI tk_40.1), .int (nI tk_40.2.1), .int (nI tk_40.2.2.1), .int (oI tk_40.2.2.2.1), va_rf (wR g tk_40.2.2.2.2)])), (t, .inr (1, [.ref tb, .int (nI k)])), (tb, .inl (g.2.1 1, 2000, .inl (aI T))), (bk, .inr (5, [.ref ra, .ref pa, .int (bI pr), .int (nI rc2_51), .int (nI ou_40.length), .int (nI dp)])), (pa, .inl (g.2.1 1, 4000, .inl (aI PB_40))), (ra, .inl (g.2.1 3, 400, .inr (.inr (.inr (.inr RA2_51))))), (q_14, .inr (4, [.int (nI (w - 16)), .int (nI sta), va_rf ar, .int (oI c2_40), .int (oI nu2_40), .int (oI co2_40)]))]) (pl := PP) (st' := [.int (bI ok_51)]) (n1 := 0 + 1) (n2 := 0 + 6) [0, 1, 2, 3, 5, 4, 6, 7] rfl rfl rfl rfl rfl rfl ?_
    refine r_bif_eq C 61 d_Parser_takeRule_54 (by decide) (fun c_54 => ?_) (fun c_54 => ?_)
    · skip
      refine r_iconst C (nI 0) d_Parser_takeRule_61 (by decide) ?_
      refine r_eqS (st' := [.int (bI false)]) rfl ?_
      refine r_bret C E d_Parser_takeRule_62 (by first | decide | omega | (simp only [rmk]; omega)) (by first | decide | omega | (simp only [rmk]; omega)) ?_
      rcases had_51 with ⟨e1, e2⟩ | ⟨e1, e2, rfl, rfl⟩
      · rw [c_54] at e1; cases e1
      · exact ⟨false, rules, _, _, _, _, _, rfl, rfl, (pRule_f hx_35 hx_40 e2).symm, hRA.mono (fun q hq => List.mem_cons_of_mem _ hq), fun q hq => List.mem_cons_of_mem _ hq, hO2_40, hc2_40, ho2_40, h400⟩
    · skip
      refine r_iconst C (nI 1) d_Parser_takeRule_57 (by decide) ?_
      refine r_goto C 62 d_Parser_takeRule_58 (by decide) ?_
      refine r_eqS (st' := [.int (bI true)]) rfl ?_
      refine r_bret C E d_Parser_takeRule_62 (by first | decide | omega | (simp only [rmk]; omega)) (by first | decide | omega | (simp only [rmk]; omega)) ?_
      rcases had_51 with ⟨e1, e2, rfl, rfl⟩ | ⟨e1, e2⟩
      · exact ⟨true, rules ++ [(w - 16, sta, ls, c2_40, nu2_40, co2_40)], _, _, _, _, _, rfl, by rw [List.length_append]; rfl, (pRule_y hx_35 hx_40 e2).symm, rules_push hRA hch List.mem_cons_self (fun q hq => List.mem_cons_of_mem _ hq), fun q hq => List.mem_cons_of_mem _ hq, hO2_40, hc2_40, ho2_40, by rw [List.length_append]; exact e2⟩
      · rw [c_54] at e1; cases e1
