
set_option maxRecDepth 100000 in
theorem fi_Parser_72 : FI R_Parser 72 R_Book F_Book 5 := Or.inr ⟨"RuleReader", (nw (i := 139) rfl rfl)⟩
set_option maxRecDepth 100000 in
theorem fs_Parser_87 : Cond.fieldLink R_Parser 87 "RuleReader$Word" "EACH" "LRuleReader$Word;" ∈ GW := (gw (i := 508) rfl rfl)
set_option maxRecDepth 100000 in
theorem lk_Parser_64 : LK R_Parser 64 y_Tokens_isWordOf := Or.inl (gw (i := 417) rfl rfl)
set_option maxRecDepth 100000 in
theorem lk_Parser_68 : LK R_Parser 68 y_Parser_takeRule := Or.inl (gw (i := 421) rfl rfl)
set_option maxRecDepth 100000 in
theorem lk_Parser_81 : LK R_Parser 81 y_Parser_takeBraced := Or.inl (gw (i := 500) rfl rfl)
set_option maxRecDepth 100000 in
theorem lk_Parser_84 : LK R_Parser 84 y_Parser_takeLayered := Or.inl (gw (i := 504) rfl rfl)
set_option maxRecDepth 100000 in
theorem lk_Parser_93 : LK R_Parser 93 y_Tokens_isTheWord := Or.inl (gw (i := 510) rfl rfl)
set_option maxRecDepth 100000 in
theorem lk_Parser_97 : LK R_Parser 97 y_Parser_takeLayer := Or.inl (gw (i := 514) rfl rfl)
set_option maxRecDepth 100000 in
theorem ma_max : MA Lib.Math.max.name Lib.Math.max.code := ⟨(gw (i := 498) rfl rfl), (gw (i := 88) rfl rfl), (gw (i := 499) rfl rfl)⟩
set_option maxRecDepth 100000 in
theorem ml_Parser_75 : Cond.methodLink R_Parser 75 Lib.Math.max.name ∈ GW := (gw (i := 497) rfl rfl)
set_option maxRecDepth 100000 in
theorem mw_Parser_takeBraced : MW y_Parser_takeBraced b_Parser_takeBraced 3 (some .boolean) 2 := ⟨(gw (i := 503) rfl rfl), (gw (i := 76) rfl rfl), by decide +kernel⟩
set_option maxRecDepth 100000 in
theorem mw_Parser_takeLayer : MW y_Parser_takeLayer b_Parser_takeLayer 5 (some (.object "RuleReader$Layer")) 1 := ⟨(gw (i := 517) rfl rfl), (gw (i := 76) rfl rfl), by decide +kernel⟩
set_option maxRecDepth 100000 in
theorem mw_Parser_takeLayered : MW y_Parser_takeLayered b_Parser_takeLayered 5 (some .boolean) 2 := ⟨(gw (i := 507) rfl rfl), (gw (i := 76) rfl rfl), by decide +kernel⟩
set_option maxRecDepth 100000 in
theorem mw_Parser_takeRule : MW y_Parser_takeRule b_Parser_takeRule 4 (some .boolean) 1 := ⟨(gw (i := 424) rfl rfl), (gw (i := 76) rfl rfl), by decide +kernel⟩
set_option maxRecDepth 100000 in
theorem mw_Tokens_isTheWord : MW y_Tokens_isTheWord b_Tokens_isTheWord 2 (some .boolean) 1 := ⟨(gw (i := 513) rfl rfl), (gw (i := 77) rfl rfl), by decide +kernel⟩
set_option maxRecDepth 100000 in
theorem mw_Tokens_isWordOf : MW y_Tokens_isWordOf b_Tokens_isWordOf 2 (some .boolean) 1 := ⟨(gw (i := 420) rfl rfl), (gw (i := 77) rfl rfl), by decide +kernel⟩
set_option maxRecDepth 100000 in
theorem vw_Parser_takeBraced : VW y_Parser_takeBraced := ⟨(gw (i := 502) rfl rfl), (gw (i := 13) rfl rfl)⟩
set_option maxRecDepth 100000 in
theorem vw_Parser_takeLayer : VW y_Parser_takeLayer := ⟨(gw (i := 516) rfl rfl), (gw (i := 15) rfl rfl)⟩
set_option maxRecDepth 100000 in
theorem vw_Parser_takeLayered : VW y_Parser_takeLayered := ⟨(gw (i := 506) rfl rfl), (gw (i := 14) rfl rfl)⟩
set_option maxRecDepth 100000 in
theorem vw_Parser_takeRule : VW y_Parser_takeRule := ⟨(gw (i := 423) rfl rfl), (gw (i := 6) rfl rfl)⟩
set_option maxRecDepth 100000 in
theorem vw_Tokens_isTheWord : VW y_Tokens_isTheWord := ⟨(gw (i := 511) rfl rfl), (gw (i := 512) rfl rfl)⟩
set_option maxRecDepth 100000 in
theorem vw_Tokens_isWordOf : VW y_Tokens_isWordOf := ⟨(gw (i := 418) rfl rfl), (gw (i := 419) rfl rfl)⟩
theorem d_Parser_takeLayered_0 : decode b_Parser_takeLayered 0 = .ok (.aload_n 0, 1) := by decide +kernel
theorem d_Parser_takeLayered_1 : decode b_Parser_takeLayered 1 = .ok (.getfield 24, 3) := by decide +kernel
theorem d_Parser_takeLayered_4 : decode b_Parser_takeLayered 4 = .ok (.getstatic 87, 3) := by decide +kernel
theorem d_Parser_takeLayered_7 : decode b_Parser_takeLayered 7 = .ok (.invokevirtual 93, 3) := by decide +kernel
theorem d_Parser_takeLayered_10 : decode b_Parser_takeLayered 10 = .ok (.ifCond .eq 7, 3) := by decide +kernel
theorem d_Parser_takeLayered_13 : decode b_Parser_takeLayered 13 = .ok (.iconst 1, 1) := by decide +kernel
theorem d_Parser_takeLayered_14 : decode b_Parser_takeLayered 14 = .ok (.goto 4, 3) := by decide +kernel
theorem d_Parser_takeLayered_17 : decode b_Parser_takeLayered 17 = .ok (.iconst 2, 1) := by decide +kernel
theorem d_Parser_takeLayered_18 : decode b_Parser_takeLayered 18 = .ok (.istore_n 3, 1) := by decide +kernel
theorem d_Parser_takeLayered_19 : decode b_Parser_takeLayered 19 = .ok (.aload_n 0, 1) := by decide +kernel
theorem d_Parser_takeLayered_20 : decode b_Parser_takeLayered 20 = .ok (.invokevirtual 61, 3) := by decide +kernel
theorem d_Parser_takeLayered_23 : decode b_Parser_takeLayered 23 = .ok (.aload_n 0, 1) := by decide +kernel
theorem d_Parser_takeLayered_24 : decode b_Parser_takeLayered 24 = .ok (.getfield 24, 3) := by decide +kernel
theorem d_Parser_takeLayered_27 : decode b_Parser_takeLayered 27 = .ok (.iload_n 3, 1) := by decide +kernel
theorem d_Parser_takeLayered_28 : decode b_Parser_takeLayered 28 = .ok (.invokevirtual 64, 3) := by decide +kernel
theorem d_Parser_takeLayered_31 : decode b_Parser_takeLayered 31 = .ok (.ifCond .eq 11, 3) := by decide +kernel
theorem d_Parser_takeLayered_34 : decode b_Parser_takeLayered 34 = .ok (.aload_n 0, 1) := by decide +kernel
theorem d_Parser_takeLayered_35 : decode b_Parser_takeLayered 35 = .ok (.aload_n 2, 1) := by decide +kernel
theorem d_Parser_takeLayered_36 : decode b_Parser_takeLayered 36 = .ok (.invokevirtual 97, 3) := by decide +kernel
theorem d_Parser_takeLayered_39 : decode b_Parser_takeLayered 39 = .ok (.goto 4, 3) := by decide +kernel
theorem d_Parser_takeLayered_42 : decode b_Parser_takeLayered 42 = .ok (.aconst_null, 1) := by decide +kernel
theorem d_Parser_takeLayered_43 : decode b_Parser_takeLayered 43 = .ok (.astore 4, 2) := by decide +kernel
theorem d_Parser_takeLayered_45 : decode b_Parser_takeLayered 45 = .ok (.aload 4, 2) := by decide +kernel
theorem d_Parser_takeLayered_47 : decode b_Parser_takeLayered 47 = .ok (.ifnull 17, 3) := by decide +kernel
theorem d_Parser_takeLayered_50 : decode b_Parser_takeLayered 50 = .ok (.aload_n 0, 1) := by decide +kernel
theorem d_Parser_takeLayered_51 : decode b_Parser_takeLayered 51 = .ok (.iload_n 1, 1) := by decide +kernel
theorem d_Parser_takeLayered_52 : decode b_Parser_takeLayered 52 = .ok (.aload 4, 2) := by decide +kernel
theorem d_Parser_takeLayered_54 : decode b_Parser_takeLayered 54 = .ok (.invokevirtual 58, 3) := by decide +kernel
theorem d_Parser_takeLayered_57 : decode b_Parser_takeLayered 57 = .ok (.ifCond .eq 7, 3) := by decide +kernel
theorem d_Parser_takeLayered_60 : decode b_Parser_takeLayered 60 = .ok (.iconst 1, 1) := by decide +kernel
theorem d_Parser_takeLayered_61 : decode b_Parser_takeLayered 61 = .ok (.goto 4, 3) := by decide +kernel
theorem d_Parser_takeLayered_64 : decode b_Parser_takeLayered 64 = .ok (.iconst 0, 1) := by decide +kernel
theorem d_Parser_takeLayered_65 : decode b_Parser_takeLayered 65 = .ok (.ireturn, 1) := by decide +kernel
theorem d_Parser_takeStatement_0 : decode b_Parser_takeStatement 0 = .ok (.aload_n 0, 1) := by decide +kernel
theorem d_Parser_takeStatement_1 : decode b_Parser_takeStatement 1 = .ok (.getfield 24, 3) := by decide +kernel
theorem d_Parser_takeStatement_4 : decode b_Parser_takeStatement 4 = .ok (.iconst 3, 1) := by decide +kernel
theorem d_Parser_takeStatement_5 : decode b_Parser_takeStatement 5 = .ok (.invokevirtual 64, 3) := by decide +kernel
theorem d_Parser_takeStatement_8 : decode b_Parser_takeStatement 8 = .ok (.ifCond .eq 9, 3) := by decide +kernel
theorem d_Parser_takeStatement_11 : decode b_Parser_takeStatement 11 = .ok (.aload_n 0, 1) := by decide +kernel
theorem d_Parser_takeStatement_12 : decode b_Parser_takeStatement 12 = .ok (.aload_n 2, 1) := by decide +kernel
theorem d_Parser_takeStatement_13 : decode b_Parser_takeStatement 13 = .ok (.invokevirtual 68, 3) := by decide +kernel
theorem d_Parser_takeStatement_16 : decode b_Parser_takeStatement 16 = .ok (.ireturn, 1) := by decide +kernel
theorem d_Parser_takeStatement_17 : decode b_Parser_takeStatement 17 = .ok (.aload_n 0, 1) := by decide +kernel
theorem d_Parser_takeStatement_18 : decode b_Parser_takeStatement 18 = .ok (.getfield 24, 3) := by decide +kernel
theorem d_Parser_takeStatement_21 : decode b_Parser_takeStatement 21 = .ok (.bipush 123, 2) := by decide +kernel
theorem d_Parser_takeStatement_23 : decode b_Parser_takeStatement 23 = .ok (.invokevirtual 54, 3) := by decide +kernel
theorem d_Parser_takeStatement_26 : decode b_Parser_takeStatement 26 = .ok (.istore_n 3, 1) := by decide +kernel
theorem d_Parser_takeStatement_27 : decode b_Parser_takeStatement 27 = .ok (.iload_n 3, 1) := by decide +kernel
theorem d_Parser_takeStatement_28 : decode b_Parser_takeStatement 28 = .ok (.ifCond .ne 14, 3) := by decide +kernel
theorem d_Parser_takeStatement_31 : decode b_Parser_takeStatement 31 = .ok (.aload_n 0, 1) := by decide +kernel
theorem d_Parser_takeStatement_32 : decode b_Parser_takeStatement 32 = .ok (.getfield 24, 3) := by decide +kernel
theorem d_Parser_takeStatement_35 : decode b_Parser_takeStatement 35 = .ok (.iconst 0, 1) := by decide +kernel
theorem d_Parser_takeStatement_36 : decode b_Parser_takeStatement 36 = .ok (.invokevirtual 64, 3) := by decide +kernel
theorem d_Parser_takeStatement_39 : decode b_Parser_takeStatement 39 = .ok (.ifCond .eq 9, 3) := by decide +kernel
theorem d_Parser_takeStatement_42 : decode b_Parser_takeStatement 42 = .ok (.iload_n 1, 1) := by decide +kernel
theorem d_Parser_takeStatement_43 : decode b_Parser_takeStatement 43 = .ok (.bipush 40, 2) := by decide +kernel
theorem d_Parser_takeStatement_45 : decode b_Parser_takeStatement 45 = .ok (.if_icmp .lt 5, 3) := by decide +kernel
theorem d_Parser_takeStatement_48 : decode b_Parser_takeStatement 48 = .ok (.iconst 0, 1) := by decide +kernel
theorem d_Parser_takeStatement_49 : decode b_Parser_takeStatement 49 = .ok (.ireturn, 1) := by decide +kernel
theorem d_Parser_takeStatement_50 : decode b_Parser_takeStatement 50 = .ok (.aload_n 0, 1) := by decide +kernel
theorem d_Parser_takeStatement_51 : decode b_Parser_takeStatement 51 = .ok (.getfield 15, 3) := by decide +kernel
theorem d_Parser_takeStatement_54 : decode b_Parser_takeStatement 54 = .ok (.aload_n 0, 1) := by decide +kernel
theorem d_Parser_takeStatement_55 : decode b_Parser_takeStatement 55 = .ok (.getfield 15, 3) := by decide +kernel
theorem d_Parser_takeStatement_58 : decode b_Parser_takeStatement 58 = .ok (.getfield 72, 3) := by decide +kernel
theorem d_Parser_takeStatement_61 : decode b_Parser_takeStatement 61 = .ok (.iload_n 1, 1) := by decide +kernel
theorem d_Parser_takeStatement_62 : decode b_Parser_takeStatement 62 = .ok (.iconst 1, 1) := by decide +kernel
theorem d_Parser_takeStatement_63 : decode b_Parser_takeStatement 63 = .ok (.iadd, 1) := by decide +kernel
theorem d_Parser_takeStatement_64 : decode b_Parser_takeStatement 64 = .ok (.invokestatic 75, 3) := by decide +kernel
theorem d_Parser_takeStatement_67 : decode b_Parser_takeStatement 67 = .ok (.putfield 72, 3) := by decide +kernel
theorem d_Parser_takeStatement_70 : decode b_Parser_takeStatement 70 = .ok (.iload_n 3, 1) := by decide +kernel
theorem d_Parser_takeStatement_71 : decode b_Parser_takeStatement 71 = .ok (.ifCond .eq 14, 3) := by decide +kernel
theorem d_Parser_takeStatement_74 : decode b_Parser_takeStatement 74 = .ok (.aload_n 0, 1) := by decide +kernel
theorem d_Parser_takeStatement_75 : decode b_Parser_takeStatement 75 = .ok (.iload_n 1, 1) := by decide +kernel
theorem d_Parser_takeStatement_76 : decode b_Parser_takeStatement 76 = .ok (.iconst 1, 1) := by decide +kernel
theorem d_Parser_takeStatement_77 : decode b_Parser_takeStatement 77 = .ok (.iadd, 1) := by decide +kernel
theorem d_Parser_takeStatement_78 : decode b_Parser_takeStatement 78 = .ok (.aload_n 2, 1) := by decide +kernel
theorem d_Parser_takeStatement_79 : decode b_Parser_takeStatement 79 = .ok (.invokevirtual 81, 3) := by decide +kernel
theorem d_Parser_takeStatement_82 : decode b_Parser_takeStatement 82 = .ok (.goto 11, 3) := by decide +kernel
theorem d_Parser_takeStatement_85 : decode b_Parser_takeStatement 85 = .ok (.aload_n 0, 1) := by decide +kernel
theorem d_Parser_takeStatement_86 : decode b_Parser_takeStatement 86 = .ok (.iload_n 1, 1) := by decide +kernel
theorem d_Parser_takeStatement_87 : decode b_Parser_takeStatement 87 = .ok (.iconst 1, 1) := by decide +kernel
theorem d_Parser_takeStatement_88 : decode b_Parser_takeStatement 88 = .ok (.iadd, 1) := by decide +kernel
theorem d_Parser_takeStatement_89 : decode b_Parser_takeStatement 89 = .ok (.aload_n 2, 1) := by decide +kernel
theorem d_Parser_takeStatement_90 : decode b_Parser_takeStatement 90 = .ok (.invokevirtual 84, 3) := by decide +kernel
theorem d_Parser_takeStatement_93 : decode b_Parser_takeStatement 93 = .ok (.ireturn, 1) := by decide +kernel
set_option maxHeartbeats 4000000 in
set_option maxRecDepth 100000 in
theorem o_Parser_takeLayered (g : GG) (l : Launch) {p : Nat} {a : Nat} {t : Nat} {tb : Nat} {bk : Nat} {ra : Nat} {pa : Nat} {k : Nat} {so : Nat} {sta : Nat} {en : Nat} {dp : Nat} {dep : Nat} {d : Nat} {T : Nat → Nat} {PA : Nat → Nat} {v : Option Nat} {wd : Option Nat} {ar : Option Nat} {pr : Bool} {out : List Nat} {ls : List LayerV} {PP : va_W} {RA : Nat → Option Nat} {rules : List RuleV} (hS : ∀ {p : Nat} {a : Nat} {t : Nat} {tb : Nat} {bk : Nat} {ra : Nat} {pa : Nat} {k : Nat} {so : Nat} {sta : Nat} {en : Nat} {dp : Nat} {dep : Nat} {T : Nat → Nat} {PA : Nat → Nat} {v : Option Nat} {wd : Option Nat} {ar : Option Nat} {pr : Bool} {out : List Nat} {ls : List LayerV} {PP : va_W} {RA : Nat → Option Nat} {rules : List RuleV} (hk : k ≤ 2000) (hT : ∀ j, T j < 256) (hO : TokOK k (so, sta, en, v, wd)) (hcap : out.length ≤ 2 * sta) (ho : OutAt PA out) (hch : ChainAt g PP ar ls) (hRA : RulesAt g PP RA rules) (h400 : rules.length ≤ 400) (hdd : dep + d = 40) (hdp : dp ≤ 40), Cn g l y_Parser_takeStatement b_Parser_takeStatement 4 (some .boolean) (rmk (30 + 3 * d) ((pS T k d ls (rules, dp, (so, sta, en, v, wd), out)).2.2) (6 * (pS T k d ls (rules, dp, (so, sta, en, v, wd), out)).2.2) (700 + 80 * d)) [.ref p, .int (nI dep), va_rf ar] ([(p, .inr (6, [.ref t, .ref bk, .ref a])), (a, .inr (2, [.ref t, .int (nI so), .int (nI sta), .int (nI en), .int (oI v), va_rf (wR g wd)])), (t, .inr (1, [.ref tb, .int (nI k)])), (tb, .inl (g.2.1 1, 2000, .inl (aI T))), (bk, .inr (5, [.ref ra, .ref pa, .int (bI pr), .int (nI rules.length), .int (nI out.length), .int (nI dp)])), (pa, .inl (g.2.1 1, 4000, .inl (aI PA))), (ra, .inl (g.2.1 3, 400, .inr (.inr (.inr (.inr RA)))))] ++ PP) (fun (r0 : Option Value) (w0 : va_W) => ∃ ok : Bool, ∃ rules2 : List RuleV, ∃ dp2 : Nat, ∃ RA2 : Nat → Option Nat, ∃ PP2 : va_W, ∃ tk : Tok, ∃ ou : List Nat, ∃ PB : Nat → Nat, r0 = some (.int (bI ok)) ∧ w0 = [(p, .inr (6, [.ref t, .ref bk, .ref a])), (a, .inr (2, [.ref t, .int (nI tk.1), .int (nI tk.2.1), .int (nI tk.2.2.1), .int (oI tk.2.2.2.1), va_rf (wR g tk.2.2.2.2)])), (t, .inr (1, [.ref tb, .int (nI k)])), (tb, .inl (g.2.1 1, 2000, .inl (aI T))), (bk, .inr (5, [.ref ra, .ref pa, .int (bI pr), .int (nI rules2.length), .int (nI ou.length), .int (nI dp2)])), (pa, .inl (g.2.1 1, 4000, .inl (aI PB))), (ra, .inl (g.2.1 3, 400, .inr (.inr (.inr (.inr RA2)))))] ++ PP2 ∧ ((ok, (rules2, dp2, tk, ou)) = BP (pS T k d ls (rules, dp, (so, sta, en, v, wd), out))) ∧ (RulesAt g PP2 RA2 rules2) ∧ (∀ q ∈ PP, q ∈ PP2) ∧ (TokOK k tk) ∧ (ou.length ≤ 2 * tk.2.1) ∧ (OutAt PB ou) ∧ (rules2.length ≤ 400) ∧ (dp2 ≤ 40))) (hk : k ≤ 2000) (hT : ∀ j, T j < 256) (hO : TokOK k (so, sta, en, v, wd)) (hcap : out.length ≤ 2 * sta) (ho : OutAt PA out) (hch : ChainAt g PP ar ls) (hRA : RulesAt g PP RA rules) (h400 : rules.length ≤ 400) (hdd : dep + d = 40) (hdp : dp ≤ 40) (h0 : so ≠ 0) : Cn g l y_Parser_takeLayered b_Parser_takeLayered 5 (some .boolean) (rmk (30 + 3 * d + 2) ((pLy (pS T k d) T k ls (rules, dp, (so, sta, en, v, wd), out)).2.2) (6 * (pLy (pS T k d) T k ls (rules, dp, (so, sta, en, v, wd), out)).2.2) (700 + 80 * d + 47)) [.ref p, .int (nI dep), va_rf ar] ([(p, .inr (6, [.ref t, .ref bk, .ref a])), (a, .inr (2, [.ref t, .int (nI so), .int (nI sta), .int (nI en), .int (oI v), va_rf (wR g wd)])), (t, .inr (1, [.ref tb, .int (nI k)])), (tb, .inl (g.2.1 1, 2000, .inl (aI T))), (bk, .inr (5, [.ref ra, .ref pa, .int (bI pr), .int (nI rules.length), .int (nI out.length), .int (nI dp)])), (pa, .inl (g.2.1 1, 4000, .inl (aI PA))), (ra, .inl (g.2.1 3, 400, .inr (.inr (.inr (.inr RA)))))] ++ PP) (fun (r0 : Option Value) (w0 : va_W) => ∃ ok : Bool, ∃ rules2 : List RuleV, ∃ dp2 : Nat, ∃ RA2 : Nat → Option Nat, ∃ PP2 : va_W, ∃ tk : Tok, ∃ ou : List Nat, ∃ PB : Nat → Nat, r0 = some (.int (bI ok)) ∧ w0 = [(p, .inr (6, [.ref t, .ref bk, .ref a])), (a, .inr (2, [.ref t, .int (nI tk.1), .int (nI tk.2.1), .int (nI tk.2.2.1), .int (oI tk.2.2.2.1), va_rf (wR g tk.2.2.2.2)])), (t, .inr (1, [.ref tb, .int (nI k)])), (tb, .inl (g.2.1 1, 2000, .inl (aI T))), (bk, .inr (5, [.ref ra, .ref pa, .int (bI pr), .int (nI rules2.length), .int (nI ou.length), .int (nI dp2)])), (pa, .inl (g.2.1 1, 4000, .inl (aI PB))), (ra, .inl (g.2.1 3, 400, .inr (.inr (.inr (.inr RA2)))))] ++ PP2 ∧ ((ok, (rules2, dp2, tk, ou)) = BP (pLy (pS T k d) T k ls (rules, dp, (so, sta, en, v, wd), out))) ∧ (RulesAt g PP2 RA2 rules2) ∧ (∀ q ∈ PP, q ∈ PP2) ∧ (TokOK k tk) ∧ (ou.length ≤ 2 * tk.2.1) ∧ (OutAt PB ou) ∧ (rules2.length ≤ 400) ∧ (dp2 ≤ 40)) := by
  refine Cn.of R_Parser [(0, .ref p), (1, .int (nI dep)), (2, va_rf ar)] (by decide) rfl (by generalize ar = z0; cases z0 <;> exact Nat.le_of_ble_eq_true rfl) (by generalize ar = z0; cases z0 <;> rfl) ?_
  intro x A Q hR hXl hin C E
  subst hXl
  refine r_aload_n C 0 d_Parser_takeLayered_0 rfl rfl ?_
  refine r_get C 0 2 d_Parser_takeLayered_1 ci_Parser fi_Parser_24 rfl (by decide) rfl rfl ?_
  refine r_gets C d_Parser_takeLayered_4 ((C.2.2.2.2.2.2.2.1.1.1 0 (by decide)).1) fs_Parser_87 ?_
  refine j_callV C (c_Tokens_isTheWord g (xl x) (a := a) (t := t) (so := so) (sta := sta) (en := en) (u := 0) (v := v) (wd := wd) (hO.so) ((by decide)) (hO.word)) (Sp.keep (Sp.of (wr := [(p, .inr (6, [.ref t, .ref bk, .ref a])), (t, .inr (1, [.ref tb, .int (nI k)])), (tb, .inl (g.2.1 1, 2000, .inl (aI T))), (bk, .inr (5, [.ref ra, .ref pa, .int (bI pr), .int (nI rules.length), .int (nI out.length), .int (nI dp)])), (pa, .inl (g.2.1 1, 4000, .inl (aI PA))), (ra, .inl (g.2.1 3, 400, .inr (.inr (.inr (.inr RA)))))]) [1] [0, 2, 3, 4, 5, 6] rfl rfl rfl rfl (by decide)) PP) d_Parser_takeLayered_7 lk_Parser_93 mw_Tokens_isTheWord vw_Tokens_isTheWord (q0 := 0) rfl rfl (fit_of hR (by first | decide | (simp only [rmk]; omega)) (by first | decide | (simp only [rmk]; omega)) (by first | decide | (simp only [rmk]; omega)) (by first | decide | (simp only [rmk]; omega))) rfl (cat8 (Nat.le_of_ble_eq_true rfl)) (As := [.ref (g.2.2.1 0)]) (rest := []) rfl (fun r_7 w_7 hp_7 => ?_)
  obtain ⟨rfl, rfl⟩ := hp_7
  refine r_swap ?_
  refine r_afterP (X := [(p, .inr (6, [.ref t, .ref bk, .ref a])), (t, .inr (1, [.ref tb, .int (nI k)])), (tb, .inl (g.2.1 1, 2000, .inl (aI T))), (bk, .inr (5, [.ref ra, .ref pa, .int (bI pr), .int (nI rules.length), .int (nI out.length), .int (nI dp)])), (pa, .inl (g.2.1 1, 4000, .inl (aI PA))), (ra, .inl (g.2.1 3, 400, .inr (.inr (.inr (.inr RA))))), (a, .inr (2, [.ref t, .int (nI so), .int (nI sta), .int (nI en), .int (oI v), va_rf (wR g wd)]))]) (X' := [(p, .inr (6, [.ref t, .ref bk, .ref a])), (a, .inr (2, [.ref t, .int (nI so), .int (nI sta), .int (nI en), .int (oI v), va_rf (wR g wd)])), (t, .inr (1, [.ref tb, .int (nI k)])), (tb, .inl (g.2.1 1, 2000, .inl (aI T))), (bk, .inr (5, [.ref ra, .ref pa, .int (bI pr), .int (nI rules.length), .int (nI out.length), .int (nI dp)])), (pa, .inl (g.2.1 1, 4000, .inl (aI PA))), (ra, .inl (g.2.1 3, 400, .inr (.inr (.inr (.inr RA)))))]) (pl := PP) (st' := [.int (bI (isWd so wd 0))]) (n1 := 0) (n2 := 0) [0, 6, 1, 2, 3, 4, 5] rfl rfl rfl rfl rfl rfl ?_
  refine r_bif_eq C 17 d_Parser_takeLayered_10 (by decide) (fun c_10 => ?_) (fun c_10 => ?_)
  · skip
    refine r_iconst C (nI 2) d_Parser_takeLayered_17 (by decide) ?_
    refine r_istore_n C (lv' := [(3, .int (nI 2)), (0, .ref p), (1, .int (nI dep)), (2, va_rf ar)]) d_Parser_takeLayered_18 rfl (by decide) (by generalize ar = zq; cases zq <;> rfl) ?_
    refine r_aload_n C 1 d_Parser_takeLayered_19 rfl rfl ?_
    refine j_callV C (c_Parser_take g (xl x) (p := p) (a := a) (t := t) (tb := tb) (bk := bk) (ra := ra) (pa := pa) (k := k) (so := so) (sta := sta) (en := en) (rc := rules.length) (dp := dp) (T := T) (PA := PA) (v := v) (wd := wd) (pr := pr) (out := out) (by first | assumption | rfl | omega) (by first | assumption | rfl | omega) (by first | assumption | rfl | omega) (by first | assumption | rfl | omega) (by first | assumption | rfl | omega) (h0)) (Sp.keep (Sp.of (wr := [(ra, .inl (g.2.1 3, 400, .inr (.inr (.inr (.inr RA)))))]) [0, 1, 2, 3, 4, 5] [6] rfl rfl rfl rfl (by decide)) PP) d_Parser_takeLayered_20 lk_Parser_61 mw_Parser_take vw_Parser_take (q0 := 0) rfl rfl (fit_of hR (by first | decide | (simp only [rmk]; omega)) (by first | decide | (simp only [rmk]; omega)) (by first | decide | (simp only [rmk]; omega)) (by first | decide | (simp only [rmk]; omega))) rfl (cat8 (Nat.le_of_ble_eq_true rfl)) (As := []) (rest := []) rfl (fun r_20 w_20 hp_20 => ?_)
    obtain ⟨tk_20, ou_20, PB_20, rfl, rfl, hx_20, hO2_20, hc2_20, ho2_20⟩ := hp_20
    refine r_swap ?_
    refine r_afterP (X := [(ra, .inl (g.2.1 3, 400, .inr (.inr (.inr (.inr RA))))), (p, .inr (6, [.ref t, .ref bk, .ref a])), (a, .inr (2, [.ref t, .int (nI tk_20.1), .int (nI tk_20.2.1), .int (nI tk_20.2.2.1), .int (oI tk_20.2.2.2.1), va_rf (wR g tk_20.2.2.2.2)])), (t, .inr (1, [.ref tb, .int (nI k)])), (tb, .inl (g.2.1 1, 2000, .inl (aI T))), (bk, .inr (5, [.ref ra, .ref pa, .int (bI pr), .int (nI rules.length), .int (nI ou_20.length), .int (nI dp)])), (pa, .inl (g.2.1 1, 4000, .inl (aI PB_20)))]) (X' := [(p, .inr (6, [.ref t, .ref bk, .ref a])), (a, .inr (2, [.ref t, .int (nI tk_20.1), .int (nI tk_20.2.1), .int (nI tk_20.2.2.1), .int (oI tk_20.2.2.2.1), va_rf (wR g tk_20.2.2.2.2)])), (t, .inr (1, [.ref tb, .int (nI k)])), (tb, .inl (g.2.1 1, 2000, .inl (aI T))), (bk, .inr (5, [.ref ra, .ref pa, .int (bI pr), .int (nI rules.length), .int (nI ou_20.length), .int (nI dp)])), (pa, .inl (g.2.1 1, 4000, .inl (aI PB_20))), (ra, .inl (g.2.1 3, 400, .inr (.inr (.inr (.inr RA)))))]) (pl := PP) (st' := []) (n1 := 0) (n2 := 0) [1, 2, 3, 4, 5, 6, 0] rfl rfl rfl rfl rfl rfl ?_
    refine r_aload_n C 1 d_Parser_takeLayered_23 rfl rfl ?_
    refine r_get C 0 2 d_Parser_takeLayered_24 ci_Parser fi_Parser_24 rfl (by decide) rfl rfl ?_
    refine r_iload_n C 0 d_Parser_takeLayered_27 rfl rfl ?_
    refine j_callV C (c_Tokens_isWordOf g (xl x) (a := a) (t := t) (so := tk_20.1) (sta := tk_20.2.1) (en := tk_20.2.2.1) (ro := 2) (v := tk_20.2.2.2.1) (wd := tk_20.2.2.2.2) (hO2_20.so) (by first | assumption | rfl | omega) (hO2_20.2.2.2.2.2.2)) (Sp.keep (Sp.of (wr := [(p, .inr (6, [.ref t, .ref bk, .ref a])), (t, .inr (1, [.ref tb, .int (nI k)])), (tb, .inl (g.2.1 1, 2000, .inl (aI T))), (bk, .inr (5, [.ref ra, .ref pa, .int (bI pr), .int (nI rules.length), .int (nI ou_20.length), .int (nI dp)])), (pa, .inl (g.2.1 1, 4000, .inl (aI PB_20))), (ra, .inl (g.2.1 3, 400, .inr (.inr (.inr (.inr RA)))))]) [1] [0, 2, 3, 4, 5, 6] rfl rfl rfl rfl (by decide)) PP) d_Parser_takeLayered_28 lk_Parser_64 mw_Tokens_isWordOf vw_Tokens_isWordOf (q0 := 0) rfl rfl (fit_of hR (by first | decide | (simp only [rmk]; omega)) (by first | decide | (simp only [rmk]; omega)) (by first | decide | (simp only [rmk]; omega)) (by first | decide | (simp only [rmk]; omega))) rfl (cat8 (Nat.le_of_ble_eq_true rfl)) (As := [.int (nI 2)]) (rest := []) rfl (fun r_28 w_28 hp_28 => ?_)
    obtain ⟨rfl, rfl⟩ := hp_28
    refine r_swap ?_
    refine r_afterP (X := [(p, .inr (6, [.ref t, .ref bk, .ref a])), (t, .inr (1, [.ref tb, .int (nI k)])), (tb, .inl (g.2.1 1, 2000, .inl (aI T))), (bk, .inr (5, [.ref ra, .ref pa, .int (bI pr), .int (nI rules.length), .int (nI ou_20.length), .int (nI dp)])), (pa, .inl (g.2.1 1, 4000, .inl (aI PB_20))), (ra, .inl (g.2.1 3, 400, .inr (.inr (.inr (.inr RA))))), (a, .inr (2, [.ref t, .int (nI tk_20.1), .int (nI tk_20.2.1), .int (nI tk_20.2.2.1), .int (oI tk_20.2.2.2.1), va_rf (wR g tk_20.2.2.2.2)]))]) (X' := [(p, .inr (6, [.ref t, .ref bk, .ref a])), (a, .inr (2, [.ref t, .int (nI tk_20.1), .int (nI tk_20.2.1), .int (nI tk_20.2.2.1), .int (oI tk_20.2.2.2.1), va_rf (wR g tk_20.2.2.2.2)])), (t, .inr (1, [.ref tb, .int (nI k)])), (tb, .inl (g.2.1 1, 2000, .inl (aI T))), (bk, .inr (5, [.ref ra, .ref pa, .int (bI pr), .int (nI rules.length), .int (nI ou_20.length), .int (nI dp)])), (pa, .inl (g.2.1 1, 4000, .inl (aI PB_20))), (ra, .inl (g.2.1 3, 400, .inr (.inr (.inr (.inr RA)))))]) (pl := PP) (st' := [.int (bI (isRo tk_20.1 tk_20.2.2.2.2 2))]) (n1 := 0) (n2 := 0) [0, 6, 1, 2, 3, 4, 5] rfl rfl rfl rfl rfl rfl ?_
    refine r_bif_eq C 42 d_Parser_takeLayered_31 (by decide) (fun c_31 => ?_) (fun c_31 => ?_)
    · skip
      refine r_null C d_Parser_takeLayered_42 ?_
      refine r_astoreN C (lv' := [(4, .null), (3, .int (nI 2)), (0, .ref p), (1, .int (nI dep)), (2, va_rf ar)]) d_Parser_takeLayered_43 (by decide) rfl ?_
      refine r_aloadN C 0 d_Parser_takeLayered_45 rfl ?_
      refine r_ifnullN C 64 d_Parser_takeLayered_47 (by decide) ?_
      refine r_iconst C (nI 0) d_Parser_takeLayered_64 (by decide) ?_
      refine r_eqS (st' := [.int (bI false)]) rfl ?_
      refine r_bret C E d_Parser_takeLayered_65 (by first | decide | omega | (simp only [rmk]; omega)) (by first | decide | omega | (simp only [rmk]; omega)) ?_
      exact ⟨false, rules, dp, RA, PP, tk_20, ou_20, _, rfl, rfl, pLy_no (s := (rules, dp, (so, sta, en, v, wd), out)) (by rw [c_10]; rfl) (pTk_of hx_20) c_31, hRA, fun _ h => h, hO2_20, hc2_20, ho2_20, h400, hdp⟩
    · skip
      obtain ⟨w, hw1, hw2, hw3⟩ := isRo_word c_31
      have hw4 := hO2_20.2.2.2.2.2.2 w hw1
      have hOw : TokOK k (tk_20.1, tk_20.2.1, tk_20.2.2.1, tk_20.2.2.2.1, some w) := by rw [← hw1]; exact hO2_20
      refine r_eqW (ws' := [(p, .inr (6, [.ref t, .ref bk, .ref a])), (a, .inr (2, [.ref t, .int (nI tk_20.1), .int (nI tk_20.2.1), .int (nI tk_20.2.2.1), .int (oI tk_20.2.2.2.1), .ref (g.2.2.1 w)])), (t, .inr (1, [.ref tb, .int (nI k)])), (tb, .inl (g.2.1 1, 2000, .inl (aI T))), (bk, .inr (5, [.ref ra, .ref pa, .int (bI pr), .int (nI rules.length), .int (nI ou_20.length), .int (nI dp)])), (pa, .inl (g.2.1 1, 4000, .inl (aI PB_20))), (ra, .inl (g.2.1 3, 400, .inr (.inr (.inr (.inr RA)))))] ++ PP) (by rw [hw1]; rfl) ?_
      have hc1 : 1 ≤ (pLy (pS T k d) T k ls (rules, dp, (so, sta, en, v, wd), out)).2.2 := pLy_c1 (s := (rules, dp, (so, sta, en, v, wd), out)) (by rw [c_10]; rfl) (pTk_of hx_20) c_31
      refine r_aload_n C 1 d_Parser_takeLayered_34 rfl rfl ?_
      refine r_aload_nQ C 3 d_Parser_takeLayered_35 rfl rfl ?_
      refine j_callV C (c_Parser_takeLayer g (xl x) (p := p) (a := a) (t := t) (tb := tb) (bk := bk) (ra := ra) (pa := pa) (k := k) (so := tk_20.1) (sta := tk_20.2.1) (en := tk_20.2.2.1) (rc := rules.length) (dp := dp) (w := w) (T := T) (PA := PB_20) (v := tk_20.2.2.2.1) (ar := ar) (pr := pr) (out := ou_20) (ls := ls) (PP := PP) (by first | assumption | rfl | omega) (by first | assumption | rfl | omega) (hOw) (by first | assumption | rfl | omega) (by first | assumption | rfl | omega) (hw2) (hw4) (hch)) (Sp.pool (Sp.of (wr := [(ra, .inl (g.2.1 3, 400, .inr (.inr (.inr (.inr RA)))))]) [0, 1, 2, 3, 4, 5] [6] rfl rfl rfl rfl (by decide)) PP) d_Parser_takeLayered_36 lk_Parser_97 mw_Parser_takeLayer vw_Parser_takeLayer (q0 := 0) rfl rfl (fit_of hR (by first | decide | (simp only [rmk]; omega)) (by first | decide | (simp only [rmk]; omega)) (by first | decide | (simp only [rmk]; omega)) (by first | decide | (simp only [rmk]; omega))) rfl (cat8 (Nat.le_of_ble_eq_true rfl)) (As := [va_rf ar]) (rest := []) rfl (fun r_36 w_36 hp_36 => ?_)
      obtain ⟨lay_36, nl_36, PP2_36, tk_36, ou_36, PB_36, rfl, rfl, hx_36, hl_36, hs_36, hO2_36, hc2_36, ho2_36⟩ := hp_36
      refine r_afterP (X := [(ra, .inl (g.2.1 3, 400, .inr (.inr (.inr (.inr RA))))), (p, .inr (6, [.ref t, .ref bk, .ref a])), (a, .inr (2, [.ref t, .int (nI tk_36.1), .int (nI tk_36.2.1), .int (nI tk_36.2.2.1), .int (oI tk_36.2.2.2.1), va_rf (wR g tk_36.2.2.2.2)])), (t, .inr (1, [.ref tb, .int (nI k)])), (tb, .inl (g.2.1 1, 2000, .inl (aI T))), (bk, .inr (5, [.ref ra, .ref pa, .int (bI pr), .int (nI rules.length), .int (nI ou_36.length), .int (nI dp)])), (pa, .inl (g.2.1 1, 4000, .inl (aI PB_36)))]) (X' := [(p, .inr (6, [.ref t, .ref bk, .ref a])), (a, .inr (2, [.ref t, .int (nI tk_36.1), .int (nI tk_36.2.1), .int (nI tk_36.2.2.1), .int (oI tk_36.2.2.2.1), va_rf (wR g tk_36.2.2.2.2)])), (t, .inr (1, [.ref tb, .int (nI k)])), (tb, .inl (g.2.1 1, 2000, .inl (aI T))), (bk, .inr (5, [.ref ra, .ref pa, .int (bI pr), .int (nI rules.length), .int (nI ou_36.length), .int (nI dp)])), (pa, .inl (g.2.1 1, 4000, .inl (aI PB_36))), (ra, .inl (g.2.1 3, 400, .inr (.inr (.inr (.inr RA)))))]) (pl := PP2_36) (st' := [va_rf nl_36]) (n1 := 0 + 1) (n2 := 0 + 5) [1, 2, 3, 4, 5, 6, 0] rfl rfl rfl rfl rfl rfl ?_
      refine r_goto C 43 d_Parser_takeLayered_39 (by decide) ?_
      refine r_astoreQ C (lv' := [(4, va_rf nl_36), (3, .int (nI 2)), (0, .ref p), (1, .int (nI dep)), (2, va_rf ar)]) d_Parser_takeLayered_43 (by decide) rfl ?_
      refine r_aloadQ C 0 d_Parser_takeLayered_45 rfl ?_
      refine r_ifnullQ C 64 d_Parser_takeLayered_47 (by decide) (fun e_47 => ?_) (fun a_47 e_47 => ?_)
      · subst e_47
        refine r_iconst C (nI 0) d_Parser_takeLayered_64 (by decide) ?_
        refine r_eqS (st' := [.int (bI false)]) rfl ?_
        refine r_bret C E d_Parser_takeLayered_65 (by first | decide | omega | (simp only [rmk]; omega)) (by first | decide | omega | (simp only [rmk]; omega)) ?_
        have hl0 := layRes_none hl_36
        subst hl0
        exact ⟨false, rules, dp, RA, PP2_36, tk_36, ou_36, _, rfl, rfl, pLy_n (s := (rules, dp, (so, sta, en, v, wd), out)) (by rw [c_10]; rfl) (pTk_of hx_20) c_31 hw1 hx_36, hRA.mono hs_36, hs_36, hO2_36, hc2_36, ho2_36, h400, hdp⟩
      · subst e_47
        obtain ⟨ly, rfl, hchL⟩ := layRes_some hl_36
        have hcl2 : (pLy (pS T k d) T k ls (rules, dp, (so, sta, en, v, wd), out)).2.2 = (pS T k d (ly :: ls) (rules, dp, (tk_36.1, tk_36.2.1, tk_36.2.2.1, tk_36.2.2.2.1, tk_36.2.2.2.2), ou_36)).2.2 + 1 := pLy_yc (s := (rules, dp, (so, sta, en, v, wd), out)) (by rw [c_10]; rfl) (pTk_of hx_20) c_31 hw1 hx_36
        refine r_aload_n C 2 d_Parser_takeLayered_50 rfl rfl ?_
        refine r_iload_n C 3 d_Parser_takeLayered_51 rfl rfl ?_
        refine r_aload C 0 d_Parser_takeLayered_52 rfl ?_
        refine j_callV C (hS (p := p) (a := a) (t := t) (tb := tb) (bk := bk) (ra := ra) (pa := pa) (k := k) (so := tk_36.1) (sta := tk_36.2.1) (en := tk_36.2.2.1) (dp := dp) (dep := dep) (T := T) (PA := PB_36) (v := tk_36.2.2.2.1) (wd := tk_36.2.2.2.2) (ar := some a_47) (pr := pr) (out := ou_36) (ls := (ly :: ls)) (PP := PP2_36) (RA := RA) (rules := rules) (by first | assumption | rfl | omega) (by first | assumption | rfl | omega) (by first | assumption | rfl | omega) (by first | assumption | rfl | omega) (by first | assumption | rfl | omega) (hchL) (hRA.mono hs_36) (by first | assumption | rfl | omega) (by first | assumption | rfl | omega) (by first | assumption | rfl | omega)) (Sp.pool (Sp.of (wr := []) [0, 1, 2, 3, 4, 5, 6] [] rfl rfl rfl rfl (by decide)) PP2_36) d_Parser_takeLayered_54 lk_Parser_58 mw_Parser_takeStatement vw_Parser_takeStatement (q0 := 0) rfl rfl (fit_of hR (by first | decide | (simp only [rmk]; omega)) (by first | decide | (simp only [rmk]; omega)) (by first | decide | (simp only [rmk]; omega)) (by first | decide | (simp only [rmk]; omega))) rfl (cat8 (Nat.le_of_ble_eq_true rfl)) (As := [.int (nI dep), .ref a_47]) (rest := []) rfl (fun r_54 w_54 hp_54 => ?_)
        obtain ⟨ok_54, rules2_54, dp2_54, RA2_54, PP2_54, tk_54, ou_54, PB_54, rfl, rfl, hx_54, hR2_54, hs_54, hO2_54, hc2_54, ho2_54, h42_54, hd2_54⟩ := hp_54
        refine r_afterP (X := [(p, .inr (6, [.ref t, .ref bk, .ref a])), (a, .inr (2, [.ref t, .int (nI tk_54.1), .int (nI tk_54.2.1), .int (nI tk_54.2.2.1), .int (oI tk_54.2.2.2.1), va_rf (wR g tk_54.2.2.2.2)])), (t, .inr (1, [.ref tb, .int (nI k)])), (tb, .inl (g.2.1 1, 2000, .inl (aI T))), (bk, .inr (5, [.ref ra, .ref pa, .int (bI pr), .int (nI rules2_54.length), .int (nI ou_54.length), .int (nI dp2_54)])), (pa, .inl (g.2.1 1, 4000, .inl (aI PB_54))), (ra, .inl (g.2.1 3, 400, .inr (.inr (.inr (.inr RA2_54)))))]) (X' := [(p, .inr (6, [.ref t, .ref bk, .ref a])), (a, .inr (2, [.ref t, .int (nI tk_54.1), .int (nI tk_54.2.1), .int (nI tk_54.2.2.1), .int (oI tk_54.2.2.2.1), va_rf (wR g tk_54.2.2.2.2)])), (t, .inr (1, [.ref tb, .int (nI k)])), (tb, .inl (g.2.1 1, 2000, .inl (aI T))), (bk, .inr (5, [.ref ra, .ref pa, .int (bI pr), .int (nI rules2_54.length), .int (nI ou_54.length), .int (nI dp2_54)])), (pa, .inl (g.2.1 1, 4000, .inl (aI PB_54))), (ra, .inl (g.2.1 3, 400, .inr (.inr (.inr (.inr RA2_54)))))]) (pl := PP2_54) (st' := [.int (bI ok_54)]) (n1 := 0 + 1 + ((pS T k d (ly :: ls) (rules, dp, (tk_36.1, tk_36.2.1, tk_36.2.2.1, tk_36.2.2.2.1, tk_36.2.2.2.2), ou_36)).2.2)) (n2 := 0 + 5 + (6 * (pS T k d (ly :: ls) (rules, dp, (tk_36.1, tk_36.2.1, tk_36.2.2.1, tk_36.2.2.2.1, tk_36.2.2.2.2), ou_36)).2.2)) [0, 1, 2, 3, 4, 5, 6] rfl rfl rfl rfl rfl rfl ?_
        refine r_bif_eq C 64 d_Parser_takeLayered_57 (by decide) (fun c_57 => ?_) (fun c_57 => ?_)
        · skip
          refine r_iconst C (nI 0) d_Parser_takeLayered_64 (by decide) ?_
          refine r_eqS (st' := [.int (bI false)]) rfl ?_
          refine r_bret C E d_Parser_takeLayered_65 (by first | decide | omega | (simp only [rmk]; omega)) (by first | decide | omega | (simp only [rmk]; omega)) ?_
          subst c_57
          exact ⟨false, _, _, _, _, _, _, _, rfl, rfl, pLy_y (s := (rules, dp, (so, sta, en, v, wd), out)) (by rw [c_10]; rfl) (pTk_of hx_20) c_31 hw1 hx_36 hx_54, hR2_54, fun q h => hs_54 q (hs_36 q h), hO2_54, hc2_54, ho2_54, h42_54, hd2_54⟩
        · skip
          refine r_iconst C (nI 1) d_Parser_takeLayered_60 (by decide) ?_
          refine r_goto C 65 d_Parser_takeLayered_61 (by decide) ?_
          refine r_eqS (st' := [.int (bI true)]) rfl ?_
          refine r_bret C E d_Parser_takeLayered_65 (by first | decide | omega | (simp only [rmk]; omega)) (by first | decide | omega | (simp only [rmk]; omega)) ?_
          subst c_57
          exact ⟨true, _, _, _, _, _, _, _, rfl, rfl, pLy_y (s := (rules, dp, (so, sta, en, v, wd), out)) (by rw [c_10]; rfl) (pTk_of hx_20) c_31 hw1 hx_36 hx_54, hR2_54, fun q h => hs_54 q (hs_36 q h), hO2_54, hc2_54, ho2_54, h42_54, hd2_54⟩
  · skip
    refine r_iconst C (nI 1) d_Parser_takeLayered_13 (by decide) ?_
    refine r_goto C 18 d_Parser_takeLayered_14 (by decide) ?_
    refine r_istore_n C (lv' := [(3, .int (nI 1)), (0, .ref p), (1, .int (nI dep)), (2, va_rf ar)]) d_Parser_takeLayered_18 rfl (by decide) (by generalize ar = zq; cases zq <;> rfl) ?_
    refine r_aload_n C 1 d_Parser_takeLayered_19 rfl rfl ?_
    refine j_callV C (c_Parser_take g (xl x) (p := p) (a := a) (t := t) (tb := tb) (bk := bk) (ra := ra) (pa := pa) (k := k) (so := so) (sta := sta) (en := en) (rc := rules.length) (dp := dp) (T := T) (PA := PA) (v := v) (wd := wd) (pr := pr) (out := out) (by first | assumption | rfl | omega) (by first | assumption | rfl | omega) (by first | assumption | rfl | omega) (by first | assumption | rfl | omega) (by first | assumption | rfl | omega) (h0)) (Sp.keep (Sp.of (wr := [(ra, .inl (g.2.1 3, 400, .inr (.inr (.inr (.inr RA)))))]) [0, 1, 2, 3, 4, 5] [6] rfl rfl rfl rfl (by decide)) PP) d_Parser_takeLayered_20 lk_Parser_61 mw_Parser_take vw_Parser_take (q0 := 0) rfl rfl (fit_of hR (by first | decide | (simp only [rmk]; omega)) (by first | decide | (simp only [rmk]; omega)) (by first | decide | (simp only [rmk]; omega)) (by first | decide | (simp only [rmk]; omega))) rfl (cat8 (Nat.le_of_ble_eq_true rfl)) (As := []) (rest := []) rfl (fun r_20 w_20 hp_20 => ?_)
    obtain ⟨tk_20, ou_20, PB_20, rfl, rfl, hx_20, hO2_20, hc2_20, ho2_20⟩ := hp_20
    refine r_swap ?_
    refine r_afterP (X := [(ra, .inl (g.2.1 3, 400, .inr (.inr (.inr (.inr RA))))), (p, .inr (6, [.ref t, .ref bk, .ref a])), (a, .inr (2, [.ref t, .int (nI tk_20.1), .int (nI tk_20.2.1), .int (nI tk_20.2.2.1), .int (oI tk_20.2.2.2.1), va_rf (wR g tk_20.2.2.2.2)])), (t, .inr (1, [.ref tb, .int (nI k)])), (tb, .inl (g.2.1 1, 2000, .inl (aI T))), (bk, .inr (5, [.ref ra, .ref pa, .int (bI pr), .int (nI rules.length), .int (nI ou_20.length), .int (nI dp)])), (pa, .inl (g.2.1 1, 4000, .inl (aI PB_20)))]) (X' := [(p, .inr (6, [.ref t, .ref bk, .ref a])), (a, .inr (2, [.ref t, .int (nI tk_20.1), .int (nI tk_20.2.1), .int (nI tk_20.2.2.1), .int (oI tk_20.2.2.2.1), va_rf (wR g tk_20.2.2.2.2)])), (t, .inr (1, [.ref tb, .int (nI k)])), (tb, .inl (g.2.1 1, 2000, .inl (aI T))), (bk, .inr (5, [.ref ra, .ref pa, .int (bI pr), .int (nI rules.length), .int (nI ou_20.length), .int (nI dp)])), (pa, .inl (g.2.1 1, 4000, .inl (aI PB_20))), (ra, .inl (g.2.1 3, 400, .inr (.inr (.inr (.inr RA)))))]) (pl := PP) (st' := []) (n1 := 0) (n2 := 0) [1, 2, 3, 4, 5, 6, 0] rfl rfl rfl rfl rfl rfl ?_
    refine r_aload_n C 1 d_Parser_takeLayered_23 rfl rfl ?_
    refine r_get C 0 2 d_Parser_takeLayered_24 ci_Parser fi_Parser_24 rfl (by decide) rfl rfl ?_
    refine r_iload_n C 0 d_Parser_takeLayered_27 rfl rfl ?_
    refine j_callV C (c_Tokens_isWordOf g (xl x) (a := a) (t := t) (so := tk_20.1) (sta := tk_20.2.1) (en := tk_20.2.2.1) (ro := 1) (v := tk_20.2.2.2.1) (wd := tk_20.2.2.2.2) (hO2_20.so) (by first | assumption | rfl | omega) (hO2_20.2.2.2.2.2.2)) (Sp.keep (Sp.of (wr := [(p, .inr (6, [.ref t, .ref bk, .ref a])), (t, .inr (1, [.ref tb, .int (nI k)])), (tb, .inl (g.2.1 1, 2000, .inl (aI T))), (bk, .inr (5, [.ref ra, .ref pa, .int (bI pr), .int (nI rules.length), .int (nI ou_20.length), .int (nI dp)])), (pa, .inl (g.2.1 1, 4000, .inl (aI PB_20))), (ra, .inl (g.2.1 3, 400, .inr (.inr (.inr (.inr RA)))))]) [1] [0, 2, 3, 4, 5, 6] rfl rfl rfl rfl (by decide)) PP) d_Parser_takeLayered_28 lk_Parser_64 mw_Tokens_isWordOf vw_Tokens_isWordOf (q0 := 0) rfl rfl (fit_of hR (by first | decide | (simp only [rmk]; omega)) (by first | decide | (simp only [rmk]; omega)) (by first | decide | (simp only [rmk]; omega)) (by first | decide | (simp only [rmk]; omega))) rfl (cat8 (Nat.le_of_ble_eq_true rfl)) (As := [.int (nI 1)]) (rest := []) rfl (fun r_28 w_28 hp_28 => ?_)
    obtain ⟨rfl, rfl⟩ := hp_28
    refine r_swap ?_
    refine r_afterP (X := [(p, .inr (6, [.ref t, .ref bk, .ref a])), (t, .inr (1, [.ref tb, .int (nI k)])), (tb, .inl (g.2.1 1, 2000, .inl (aI T))), (bk, .inr (5, [.ref ra, .ref pa, .int (bI pr), .int (nI rules.length), .int (nI ou_20.length), .int (nI dp)])), (pa, .inl (g.2.1 1, 4000, .inl (aI PB_20))), (ra, .inl (g.2.1 3, 400, .inr (.inr (.inr (.inr RA))))), (a, .inr (2, [.ref t, .int (nI tk_20.1), .int (nI tk_20.2.1), .int (nI tk_20.2.2.1), .int (oI tk_20.2.2.2.1), va_rf (wR g tk_20.2.2.2.2)]))]) (X' := [(p, .inr (6, [.ref t, .ref bk, .ref a])), (a, .inr (2, [.ref t, .int (nI tk_20.1), .int (nI tk_20.2.1), .int (nI tk_20.2.2.1), .int (oI tk_20.2.2.2.1), va_rf (wR g tk_20.2.2.2.2)])), (t, .inr (1, [.ref tb, .int (nI k)])), (tb, .inl (g.2.1 1, 2000, .inl (aI T))), (bk, .inr (5, [.ref ra, .ref pa, .int (bI pr), .int (nI rules.length), .int (nI ou_20.length), .int (nI dp)])), (pa, .inl (g.2.1 1, 4000, .inl (aI PB_20))), (ra, .inl (g.2.1 3, 400, .inr (.inr (.inr (.inr RA)))))]) (pl := PP) (st' := [.int (bI (isRo tk_20.1 tk_20.2.2.2.2 1))]) (n1 := 0) (n2 := 0) [0, 6, 1, 2, 3, 4, 5] rfl rfl rfl rfl rfl rfl ?_
    refine r_bif_eq C 42 d_Parser_takeLayered_31 (by decide) (fun c_31 => ?_) (fun c_31 => ?_)
    · skip
      refine r_null C d_Parser_takeLayered_42 ?_
      refine r_astoreN C (lv' := [(4, .null), (3, .int (nI 1)), (0, .ref p), (1, .int (nI dep)), (2, va_rf ar)]) d_Parser_takeLayered_43 (by decide) rfl ?_
      refine r_aloadN C 0 d_Parser_takeLayered_45 rfl ?_
      refine r_ifnullN C 64 d_Parser_takeLayered_47 (by decide) ?_
      refine r_iconst C (nI 0) d_Parser_takeLayered_64 (by decide) ?_
      refine r_eqS (st' := [.int (bI false)]) rfl ?_
      refine r_bret C E d_Parser_takeLayered_65 (by first | decide | omega | (simp only [rmk]; omega)) (by first | decide | omega | (simp only [rmk]; omega)) ?_
      exact ⟨false, rules, dp, RA, PP, tk_20, ou_20, _, rfl, rfl, pLy_no (s := (rules, dp, (so, sta, en, v, wd), out)) (by rw [c_10]; rfl) (pTk_of hx_20) c_31, hRA, fun _ h => h, hO2_20, hc2_20, ho2_20, h400, hdp⟩
    · skip
      obtain ⟨w, hw1, hw2, hw3⟩ := isRo_word c_31
      have hw4 := hO2_20.2.2.2.2.2.2 w hw1
      have hOw : TokOK k (tk_20.1, tk_20.2.1, tk_20.2.2.1, tk_20.2.2.2.1, some w) := by rw [← hw1]; exact hO2_20
      refine r_eqW (ws' := [(p, .inr (6, [.ref t, .ref bk, .ref a])), (a, .inr (2, [.ref t, .int (nI tk_20.1), .int (nI tk_20.2.1), .int (nI tk_20.2.2.1), .int (oI tk_20.2.2.2.1), .ref (g.2.2.1 w)])), (t, .inr (1, [.ref tb, .int (nI k)])), (tb, .inl (g.2.1 1, 2000, .inl (aI T))), (bk, .inr (5, [.ref ra, .ref pa, .int (bI pr), .int (nI rules.length), .int (nI ou_20.length), .int (nI dp)])), (pa, .inl (g.2.1 1, 4000, .inl (aI PB_20))), (ra, .inl (g.2.1 3, 400, .inr (.inr (.inr (.inr RA)))))] ++ PP) (by rw [hw1]; rfl) ?_
      have hc1 : 1 ≤ (pLy (pS T k d) T k ls (rules, dp, (so, sta, en, v, wd), out)).2.2 := pLy_c1 (s := (rules, dp, (so, sta, en, v, wd), out)) (by rw [c_10]; rfl) (pTk_of hx_20) c_31
      refine r_aload_n C 1 d_Parser_takeLayered_34 rfl rfl ?_
      refine r_aload_nQ C 3 d_Parser_takeLayered_35 rfl rfl ?_
      refine j_callV C (c_Parser_takeLayer g (xl x) (p := p) (a := a) (t := t) (tb := tb) (bk := bk) (ra := ra) (pa := pa) (k := k) (so := tk_20.1) (sta := tk_20.2.1) (en := tk_20.2.2.1) (rc := rules.length) (dp := dp) (w := w) (T := T) (PA := PB_20) (v := tk_20.2.2.2.1) (ar := ar) (pr := pr) (out := ou_20) (ls := ls) (PP := PP) (by first | assumption | rfl | omega) (by first | assumption | rfl | omega) (hOw) (by first | assumption | rfl | omega) (by first | assumption | rfl | omega) (hw2) (hw4) (hch)) (Sp.pool (Sp.of (wr := [(ra, .inl (g.2.1 3, 400, .inr (.inr (.inr (.inr RA)))))]) [0, 1, 2, 3, 4, 5] [6] rfl rfl rfl rfl (by decide)) PP) d_Parser_takeLayered_36 lk_Parser_97 mw_Parser_takeLayer vw_Parser_takeLayer (q0 := 0) rfl rfl (fit_of hR (by first | decide | (simp only [rmk]; omega)) (by first | decide | (simp only [rmk]; omega)) (by first | decide | (simp only [rmk]; omega)) (by first | decide | (simp only [rmk]; omega))) rfl (cat8 (Nat.le_of_ble_eq_true rfl)) (As := [va_rf ar]) (rest := []) rfl (fun r_36 w_36 hp_36 => ?_)
      obtain ⟨lay_36, nl_36, PP2_36, tk_36, ou_36, PB_36, rfl, rfl, hx_36, hl_36, hs_36, hO2_36, hc2_36, ho2_36⟩ := hp_36
      refine r_afterP (X := [(ra, .inl (g.2.1 3, 400, .inr (.inr (.inr (.inr RA))))), (p, .inr (6, [.ref t, .ref bk, .ref a])), (a, .inr (2, [.ref t, .int (nI tk_36.1), .int (nI tk_36.2.1), .int (nI tk_36.2.2.1), .int (oI tk_36.2.2.2.1), va_rf (wR g tk_36.2.2.2.2)])), (t, .inr (1, [.ref tb, .int (nI k)])), (tb, .inl (g.2.1 1, 2000, .inl (aI T))), (bk, .inr (5, [.ref ra, .ref pa, .int (bI pr), .int (nI rules.length), .int (nI ou_36.length), .int (nI dp)])), (pa, .inl (g.2.1 1, 4000, .inl (aI PB_36)))]) (X' := [(p, .inr (6, [.ref t, .ref bk, .ref a])), (a, .inr (2, [.ref t, .int (nI tk_36.1), .int (nI tk_36.2.1), .int (nI tk_36.2.2.1), .int (oI tk_36.2.2.2.1), va_rf (wR g tk_36.2.2.2.2)])), (t, .inr (1, [.ref tb, .int (nI k)])), (tb, .inl (g.2.1 1, 2000, .inl (aI T))), (bk, .inr (5, [.ref ra, .ref pa, .int (bI pr), .int (nI rules.length), .int (nI ou_36.length), .int (nI dp)])), (pa, .inl (g.2.1 1, 4000, .inl (aI PB_36))), (ra, .inl (g.2.1 3, 400, .inr (.inr (.inr (.inr RA)))))]) (pl := PP2_36) (st' := [va_rf nl_36]) (n1 := 0 + 1) (n2 := 0 + 5) [1, 2, 3, 4, 5, 6, 0] rfl rfl rfl rfl rfl rfl ?_
      refine r_goto C 43 d_Parser_takeLayered_39 (by decide) ?_
      refine r_astoreQ C (lv' := [(4, va_rf nl_36), (3, .int (nI 1)), (0, .ref p), (1, .int (nI dep)), (2, va_rf ar)]) d_Parser_takeLayered_43 (by decide) rfl ?_
      refine r_aloadQ C 0 d_Parser_takeLayered_45 rfl ?_
      refine r_ifnullQ C 64 d_Parser_takeLayered_47 (by decide) (fun e_47 => ?_) (fun a_47 e_47 => ?_)
      · subst e_47
        refine r_iconst C (nI 0) d_Parser_takeLayered_64 (by decide) ?_
        refine r_eqS (st' := [.int (bI false)]) rfl ?_
        refine r_bret C E d_Parser_takeLayered_65 (by first | decide | omega | (simp only [rmk]; omega)) (by first | decide | omega | (simp only [rmk]; omega)) ?_
        have hl0 := layRes_none hl_36
        subst hl0
        exact ⟨false, rules, dp, RA, PP2_36, tk_36, ou_36, _, rfl, rfl, pLy_n (s := (rules, dp, (so, sta, en, v, wd), out)) (by rw [c_10]; rfl) (pTk_of hx_20) c_31 hw1 hx_36, hRA.mono hs_36, hs_36, hO2_36, hc2_36, ho2_36, h400, hdp⟩
      · subst e_47
        obtain ⟨ly, rfl, hchL⟩ := layRes_some hl_36
        have hcl2 : (pLy (pS T k d) T k ls (rules, dp, (so, sta, en, v, wd), out)).2.2 = (pS T k d (ly :: ls) (rules, dp, (tk_36.1, tk_36.2.1, tk_36.2.2.1, tk_36.2.2.2.1, tk_36.2.2.2.2), ou_36)).2.2 + 1 := pLy_yc (s := (rules, dp, (so, sta, en, v, wd), out)) (by rw [c_10]; rfl) (pTk_of hx_20) c_31 hw1 hx_36
        refine r_aload_n C 2 d_Parser_takeLayered_50 rfl rfl ?_
        refine r_iload_n C 3 d_Parser_takeLayered_51 rfl rfl ?_
        refine r_aload C 0 d_Parser_takeLayered_52 rfl ?_
        refine j_callV C (hS (p := p) (a := a) (t := t) (tb := tb) (bk := bk) (ra := ra) (pa := pa) (k := k) (so := tk_36.1) (sta := tk_36.2.1) (en := tk_36.2.2.1) (dp := dp) (dep := dep) (T := T) (PA := PB_36) (v := tk_36.2.2.2.1) (wd := tk_36.2.2.2.2) (ar := some a_47) (pr := pr) (out := ou_36) (ls := (ly :: ls)) (PP := PP2_36) (RA := RA) (rules := rules) (by first | assumption | rfl | omega) (by first | assumption | rfl | omega) (by first | assumption | rfl | omega) (by first | assumption | rfl | omega) (by first | assumption | rfl | omega) (hchL) (hRA.mono hs_36) (by first | assumption | rfl | omega) (by first | assumption | rfl | omega) (by first | assumption | rfl | omega)) (Sp.pool (Sp.of (wr := []) [0, 1, 2, 3, 4, 5, 6] [] rfl rfl rfl rfl (by decide)) PP2_36) d_Parser_takeLayered_54 lk_Parser_58 mw_Parser_takeStatement vw_Parser_takeStatement (q0 := 0) rfl rfl (fit_of hR (by first | decide | (simp only [rmk]; omega)) (by first | decide | (simp only [rmk]; omega)) (by first | decide | (simp only [rmk]; omega)) (by first | decide | (simp only [rmk]; omega))) rfl (cat8 (Nat.le_of_ble_eq_true rfl)) (As := [.int (nI dep), .ref a_47]) (rest := []) rfl (fun r_54 w_54 hp_54 => ?_)
        obtain ⟨ok_54, rules2_54, dp2_54, RA2_54, PP2_54, tk_54, ou_54, PB_54, rfl, rfl, hx_54, hR2_54, hs_54, hO2_54, hc2_54, ho2_54, h42_54, hd2_54⟩ := hp_54
        refine r_afterP (X := [(p, .inr (6, [.ref t, .ref bk, .ref a])), (a, .inr (2, [.ref t, .int (nI tk_54.1), .int (nI tk_54.2.1), .int (nI tk_54.2.2.1), .int (oI tk_54.2.2.2.1), va_rf (wR g tk_54.2.2.2.2)])), (t, .inr (1, [.ref tb, .int (nI k)])), (tb, .inl (g.2.1 1, 2000, .inl (aI T))), (bk, .inr (5, [.ref ra, .ref pa, .int (bI pr), .int (nI rules2_54.length), .int (nI ou_54.length), .int (nI dp2_54)])), (pa, .inl (g.2.1 1, 4000, .inl (aI PB_54))), (ra, .inl (g.2.1 3, 400, .inr (.inr (.inr (.inr RA2_54)))))]) (X' := [(p, .inr (6, [.ref t, .ref bk, .ref a])), (a, .inr (2, [.ref t, .int (nI tk_54.1), .int (nI tk_54.2.1), .int (nI tk_54.2.2.1), .int (oI tk_54.2.2.2.1), va_rf (wR g tk_54.2.2.2.2)])), (t, .inr (1, [.ref tb, .int (nI k)])), (tb, .inl (g.2.1 1, 2000, .inl (aI T))), (bk, .inr (5, [.ref ra, .ref pa, .int (bI pr), .int (nI rules2_54.length), .int (nI ou_54.length), .int (nI dp2_54)])), (pa, .inl (g.2.1 1, 4000, .inl (aI PB_54))), (ra, .inl (g.2.1 3, 400, .inr (.inr (.inr (.inr RA2_54)))))]) (pl := PP2_54) (st' := [.int (bI ok_54)]) (n1 := 0 + 1 + ((pS T k d (ly :: ls) (rules, dp, (tk_36.1, tk_36.2.1, tk_36.2.2.1, tk_36.2.2.2.1, tk_36.2.2.2.2), ou_36)).2.2)) (n2 := 0 + 5 + (6 * (pS T k d (ly :: ls) (rules, dp, (tk_36.1, tk_36.2.1, tk_36.2.2.1, tk_36.2.2.2.1, tk_36.2.2.2.2), ou_36)).2.2)) [0, 1, 2, 3, 4, 5, 6] rfl rfl rfl rfl rfl rfl ?_
        refine r_bif_eq C 64 d_Parser_takeLayered_57 (by decide) (fun c_57 => ?_) (fun c_57 => ?_)
        · skip
          refine r_iconst C (nI 0) d_Parser_takeLayered_64 (by decide) ?_
          refine r_eqS (st' := [.int (bI false)]) rfl ?_
          refine r_bret C E d_Parser_takeLayered_65 (by first | decide | omega | (simp only [rmk]; omega)) (by first | decide | omega | (simp only [rmk]; omega)) ?_
          subst c_57
          exact ⟨false, _, _, _, _, _, _, _, rfl, rfl, pLy_y (s := (rules, dp, (so, sta, en, v, wd), out)) (by rw [c_10]; rfl) (pTk_of hx_20) c_31 hw1 hx_36 hx_54, hR2_54, fun q h => hs_54 q (hs_36 q h), hO2_54, hc2_54, ho2_54, h42_54, hd2_54⟩
        · skip
          refine r_iconst C (nI 1) d_Parser_takeLayered_60 (by decide) ?_
          refine r_goto C 65 d_Parser_takeLayered_61 (by decide) ?_
          refine r_eqS (st' := [.int (bI true)]) rfl ?_
          refine r_bret C E d_Parser_takeLayered_65 (by first | decide | omega | (simp only [rmk]; omega)) (by first | decide | omega | (simp only [rmk]; omega)) ?_
          subst c_57
          exact ⟨true, _, _, _, _, _, _, _, rfl, rfl, pLy_y (s := (rules, dp, (so, sta, en, v, wd), out)) (by rw [c_10]; rfl) (pTk_of hx_20) c_31 hw1 hx_36 hx_54, hR2_54, fun q h => hs_54 q (hs_36 q h), hO2_54, hc2_54, ho2_54, h42_54, hd2_54⟩

set_option maxHeartbeats 4000000 in
set_option maxRecDepth 100000 in
theorem o_Parser_takeStatement (g : GG) (l : Launch) {p : Nat} {a : Nat} {t : Nat} {tb : Nat} {bk : Nat} {ra : Nat} {pa : Nat} {k : Nat} {so : Nat} {sta : Nat} {en : Nat} {dp : Nat} {dep : Nat} {d : Nat} {T : Nat → Nat} {PA : Nat → Nat} {v : Option Nat} {wd : Option Nat} {ar : Option Nat} {pr : Bool} {out : List Nat} {ls : List LayerV} {PP : va_W} {RA : Nat → Option Nat} {rules : List RuleV} (hB : ∀ e, d = e + 1 → ∀ {p : Nat} {a : Nat} {t : Nat} {tb : Nat} {bk : Nat} {ra : Nat} {pa : Nat} {k : Nat} {so : Nat} {sta : Nat} {en : Nat} {dp : Nat} {dep : Nat} {T : Nat → Nat} {PA : Nat → Nat} {v : Option Nat} {wd : Option Nat} {ar : Option Nat} {pr : Bool} {out : List Nat} {ls : List LayerV} {PP : va_W} {RA : Nat → Option Nat} {rules : List RuleV} (hk : k ≤ 2000) (hT : ∀ j, T j < 256) (hO : TokOK k (so, sta, en, v, wd)) (hcap : out.length ≤ 2 * sta) (ho : OutAt PA out) (hch : ChainAt g PP ar ls) (hRA : RulesAt g PP RA rules) (h400 : rules.length ≤ 400) (hdd : dep + e = 40) (hdp : dp ≤ 40) (h0 : so ≠ 0), Cn g l y_Parser_takeBraced b_Parser_takeBraced 3 (some .boolean) (rmk (30 + 3 * e + 2) ((pBr (pS T k e ls) T k (rules, dp, (so, sta, en, v, wd), out)).2.2) (6 * (pBr (pS T k e ls) T k (rules, dp, (so, sta, en, v, wd), out)).2.2) (700 + 80 * e + 47)) [.ref p, .int (nI dep), va_rf ar] ([(p, .inr (6, [.ref t, .ref bk, .ref a])), (a, .inr (2, [.ref t, .int (nI so), .int (nI sta), .int (nI en), .int (oI v), va_rf (wR g wd)])), (t, .inr (1, [.ref tb, .int (nI k)])), (tb, .inl (g.2.1 1, 2000, .inl (aI T))), (bk, .inr (5, [.ref ra, .ref pa, .int (bI pr), .int (nI rules.length), .int (nI out.length), .int (nI dp)])), (pa, .inl (g.2.1 1, 4000, .inl (aI PA))), (ra, .inl (g.2.1 3, 400, .inr (.inr (.inr (.inr RA)))))] ++ PP) (fun (r0 : Option Value) (w0 : va_W) => ∃ ok : Bool, ∃ rules2 : List RuleV, ∃ dp2 : Nat, ∃ RA2 : Nat → Option Nat, ∃ PP2 : va_W, ∃ tk : Tok, ∃ ou : List Nat, ∃ PB : Nat → Nat, r0 = some (.int (bI ok)) ∧ w0 = [(p, .inr (6, [.ref t, .ref bk, .ref a])), (a, .inr (2, [.ref t, .int (nI tk.1), .int (nI tk.2.1), .int (nI tk.2.2.1), .int (oI tk.2.2.2.1), va_rf (wR g tk.2.2.2.2)])), (t, .inr (1, [.ref tb, .int (nI k)])), (tb, .inl (g.2.1 1, 2000, .inl (aI T))), (bk, .inr (5, [.ref ra, .ref pa, .int (bI pr), .int (nI rules2.length), .int (nI ou.length), .int (nI dp2)])), (pa, .inl (g.2.1 1, 4000, .inl (aI PB))), (ra, .inl (g.2.1 3, 400, .inr (.inr (.inr (.inr RA2)))))] ++ PP2 ∧ ((ok, (rules2, dp2, tk, ou)) = BP (pBr (pS T k e ls) T k (rules, dp, (so, sta, en, v, wd), out))) ∧ (RulesAt g PP2 RA2 rules2) ∧ (∀ q ∈ PP, q ∈ PP2) ∧ (TokOK k tk) ∧ (ou.length ≤ 2 * tk.2.1) ∧ (OutAt PB ou) ∧ (rules2.length ≤ 400) ∧ (dp2 ≤ 40))) (hL : ∀ e, d = e + 1 → ∀ {p : Nat} {a : Nat} {t : Nat} {tb : Nat} {bk : Nat} {ra : Nat} {pa : Nat} {k : Nat} {so : Nat} {sta : Nat} {en : Nat} {dp : Nat} {dep : Nat} {T : Nat → Nat} {PA : Nat → Nat} {v : Option Nat} {wd : Option Nat} {ar : Option Nat} {pr : Bool} {out : List Nat} {ls : List LayerV} {PP : va_W} {RA : Nat → Option Nat} {rules : List RuleV} (hk : k ≤ 2000) (hT : ∀ j, T j < 256) (hO : TokOK k (so, sta, en, v, wd)) (hcap : out.length ≤ 2 * sta) (ho : OutAt PA out) (hch : ChainAt g PP ar ls) (hRA : RulesAt g PP RA rules) (h400 : rules.length ≤ 400) (hdd : dep + e = 40) (hdp : dp ≤ 40) (h0 : so ≠ 0), Cn g l y_Parser_takeLayered b_Parser_takeLayered 5 (some .boolean) (rmk (30 + 3 * e + 2) ((pLy (pS T k e) T k ls (rules, dp, (so, sta, en, v, wd), out)).2.2) (6 * (pLy (pS T k e) T k ls (rules, dp, (so, sta, en, v, wd), out)).2.2) (700 + 80 * e + 47)) [.ref p, .int (nI dep), va_rf ar] ([(p, .inr (6, [.ref t, .ref bk, .ref a])), (a, .inr (2, [.ref t, .int (nI so), .int (nI sta), .int (nI en), .int (oI v), va_rf (wR g wd)])), (t, .inr (1, [.ref tb, .int (nI k)])), (tb, .inl (g.2.1 1, 2000, .inl (aI T))), (bk, .inr (5, [.ref ra, .ref pa, .int (bI pr), .int (nI rules.length), .int (nI out.length), .int (nI dp)])), (pa, .inl (g.2.1 1, 4000, .inl (aI PA))), (ra, .inl (g.2.1 3, 400, .inr (.inr (.inr (.inr RA)))))] ++ PP) (fun (r0 : Option Value) (w0 : va_W) => ∃ ok : Bool, ∃ rules2 : List RuleV, ∃ dp2 : Nat, ∃ RA2 : Nat → Option Nat, ∃ PP2 : va_W, ∃ tk : Tok, ∃ ou : List Nat, ∃ PB : Nat → Nat, r0 = some (.int (bI ok)) ∧ w0 = [(p, .inr (6, [.ref t, .ref bk, .ref a])), (a, .inr (2, [.ref t, .int (nI tk.1), .int (nI tk.2.1), .int (nI tk.2.2.1), .int (oI tk.2.2.2.1), va_rf (wR g tk.2.2.2.2)])), (t, .inr (1, [.ref tb, .int (nI k)])), (tb, .inl (g.2.1 1, 2000, .inl (aI T))), (bk, .inr (5, [.ref ra, .ref pa, .int (bI pr), .int (nI rules2.length), .int (nI ou.length), .int (nI dp2)])), (pa, .inl (g.2.1 1, 4000, .inl (aI PB))), (ra, .inl (g.2.1 3, 400, .inr (.inr (.inr (.inr RA2)))))] ++ PP2 ∧ ((ok, (rules2, dp2, tk, ou)) = BP (pLy (pS T k e) T k ls (rules, dp, (so, sta, en, v, wd), out))) ∧ (RulesAt g PP2 RA2 rules2) ∧ (∀ q ∈ PP, q ∈ PP2) ∧ (TokOK k tk) ∧ (ou.length ≤ 2 * tk.2.1) ∧ (OutAt PB ou) ∧ (rules2.length ≤ 400) ∧ (dp2 ≤ 40))) (hk : k ≤ 2000) (hT : ∀ j, T j < 256) (hO : TokOK k (so, sta, en, v, wd)) (hcap : out.length ≤ 2 * sta) (ho : OutAt PA out) (hch : ChainAt g PP ar ls) (hRA : RulesAt g PP RA rules) (h400 : rules.length ≤ 400) (hdd : dep + d = 40) (hdp : dp ≤ 40) : Cn g l y_Parser_takeStatement b_Parser_takeStatement 4 (some .boolean) (rmk (30 + 3 * d) ((pS T k d ls (rules, dp, (so, sta, en, v, wd), out)).2.2) (6 * (pS T k d ls (rules, dp, (so, sta, en, v, wd), out)).2.2) (700 + 80 * d)) [.ref p, .int (nI dep), va_rf ar] ([(p, .inr (6, [.ref t, .ref bk, .ref a])), (a, .inr (2, [.ref t, .int (nI so), .int (nI sta), .int (nI en), .int (oI v), va_rf (wR g wd)])), (t, .inr (1, [.ref tb, .int (nI k)])), (tb, .inl (g.2.1 1, 2000, .inl (aI T))), (bk, .inr (5, [.ref ra, .ref pa, .int (bI pr), .int (nI rules.length), .int (nI out.length), .int (nI dp)])), (pa, .inl (g.2.1 1, 4000, .inl (aI PA))), (ra, .inl (g.2.1 3, 400, .inr (.inr (.inr (.inr RA)))))] ++ PP) (fun (r0 : Option Value) (w0 : va_W) => ∃ ok : Bool, ∃ rules2 : List RuleV, ∃ dp2 : Nat, ∃ RA2 : Nat → Option Nat, ∃ PP2 : va_W, ∃ tk : Tok, ∃ ou : List Nat, ∃ PB : Nat → Nat, r0 = some (.int (bI ok)) ∧ w0 = [(p, .inr (6, [.ref t, .ref bk, .ref a])), (a, .inr (2, [.ref t, .int (nI tk.1), .int (nI tk.2.1), .int (nI tk.2.2.1), .int (oI tk.2.2.2.1), va_rf (wR g tk.2.2.2.2)])), (t, .inr (1, [.ref tb, .int (nI k)])), (tb, .inl (g.2.1 1, 2000, .inl (aI T))), (bk, .inr (5, [.ref ra, .ref pa, .int (bI pr), .int (nI rules2.length), .int (nI ou.length), .int (nI dp2)])), (pa, .inl (g.2.1 1, 4000, .inl (aI PB))), (ra, .inl (g.2.1 3, 400, .inr (.inr (.inr (.inr RA2)))))] ++ PP2 ∧ ((ok, (rules2, dp2, tk, ou)) = BP (pS T k d ls (rules, dp, (so, sta, en, v, wd), out))) ∧ (RulesAt g PP2 RA2 rules2) ∧ (∀ q ∈ PP, q ∈ PP2) ∧ (TokOK k tk) ∧ (ou.length ≤ 2 * tk.2.1) ∧ (OutAt PB ou) ∧ (rules2.length ≤ 400) ∧ (dp2 ≤ 40)) := by
  refine Cn.of R_Parser [(0, .ref p), (1, .int (nI dep)), (2, va_rf ar)] (by decide) rfl (by generalize ar = z0; cases z0 <;> exact Nat.le_of_ble_eq_true rfl) (by generalize ar = z0; cases z0 <;> rfl) ?_
  intro x A Q hR hXl hin C E
  subst hXl
  refine r_aload_n C 0 d_Parser_takeStatement_0 rfl rfl ?_
  refine r_get C 0 2 d_Parser_takeStatement_1 ci_Parser fi_Parser_24 rfl (by decide) rfl rfl ?_
  refine r_iconst C (nI 3) d_Parser_takeStatement_4 (by decide) ?_
  refine j_callV C (c_Tokens_isWordOf g (xl x) (a := a) (t := t) (so := so) (sta := sta) (en := en) (ro := 3) (v := v) (wd := wd) (hO.so) (by first | assumption | rfl | omega) (hO.word)) (Sp.keep (Sp.of (wr := [(p, .inr (6, [.ref t, .ref bk, .ref a])), (t, .inr (1, [.ref tb, .int (nI k)])), (tb, .inl (g.2.1 1, 2000, .inl (aI T))), (bk, .inr (5, [.ref ra, .ref pa, .int (bI pr), .int (nI rules.length), .int (nI out.length), .int (nI dp)])), (pa, .inl (g.2.1 1, 4000, .inl (aI PA))), (ra, .inl (g.2.1 3, 400, .inr (.inr (.inr (.inr RA)))))]) [1] [0, 2, 3, 4, 5, 6] rfl rfl rfl rfl (by decide)) PP) d_Parser_takeStatement_5 lk_Parser_64 mw_Tokens_isWordOf vw_Tokens_isWordOf (q0 := 0) rfl rfl (fit_of hR (by first | decide | (simp only [rmk]; omega)) (by first | decide | (simp only [rmk]; omega)) (by first | decide | (simp only [rmk]; omega)) (by first | decide | (simp only [rmk]; omega))) rfl (cat8 (Nat.le_of_ble_eq_true rfl)) (As := [.int (nI 3)]) (rest := []) rfl (fun r_5 w_5 hp_5 => ?_)
  obtain ⟨rfl, rfl⟩ := hp_5
  refine r_swap ?_
  refine r_afterP (X := [(p, .inr (6, [.ref t, .ref bk, .ref a])), (t, .inr (1, [.ref tb, .int (nI k)])), (tb, .inl (g.2.1 1, 2000, .inl (aI T))), (bk, .inr (5, [.ref ra, .ref pa, .int (bI pr), .int (nI rules.length), .int (nI out.length), .int (nI dp)])), (pa, .inl (g.2.1 1, 4000, .inl (aI PA))), (ra, .inl (g.2.1 3, 400, .inr (.inr (.inr (.inr RA))))), (a, .inr (2, [.ref t, .int (nI so), .int (nI sta), .int (nI en), .int (oI v), va_rf (wR g wd)]))]) (X' := [(p, .inr (6, [.ref t, .ref bk, .ref a])), (a, .inr (2, [.ref t, .int (nI so), .int (nI sta), .int (nI en), .int (oI v), va_rf (wR g wd)])), (t, .inr (1, [.ref tb, .int (nI k)])), (tb, .inl (g.2.1 1, 2000, .inl (aI T))), (bk, .inr (5, [.ref ra, .ref pa, .int (bI pr), .int (nI rules.length), .int (nI out.length), .int (nI dp)])), (pa, .inl (g.2.1 1, 4000, .inl (aI PA))), (ra, .inl (g.2.1 3, 400, .inr (.inr (.inr (.inr RA)))))]) (pl := PP) (st' := [.int (bI (isRo so wd 3))]) (n1 := 0) (n2 := 0) [0, 6, 1, 2, 3, 4, 5] rfl rfl rfl rfl rfl rfl ?_
  refine r_bif_eq C 17 d_Parser_takeStatement_8 (by decide) (fun c_8 => ?_) (fun c_8 => ?_)
  · skip
    refine r_aload_n C 0 d_Parser_takeStatement_17 rfl rfl ?_
    refine r_get C 0 2 d_Parser_takeStatement_18 ci_Parser fi_Parser_24 rfl (by decide) rfl rfl ?_
    refine r_bipush C (nI 123) d_Parser_takeStatement_21 (by decide) ?_
    refine j_callV C (c_Tokens_isTheSign g (xl x) (a := a) (t := t) (tb := tb) (k := k) (so := so) (sta := sta) (en := en) (T := T) (v := v) (wd := wd) (c := 123) (by first | assumption | rfl | omega) (by first | assumption | rfl | omega) (hO.so) (hO.sign) (by first | assumption | rfl | omega) (hO.sta hk)) (Sp.keep (Sp.of (wr := [(p, .inr (6, [.ref t, .ref bk, .ref a])), (bk, .inr (5, [.ref ra, .ref pa, .int (bI pr), .int (nI rules.length), .int (nI out.length), .int (nI dp)])), (pa, .inl (g.2.1 1, 4000, .inl (aI PA))), (ra, .inl (g.2.1 3, 400, .inr (.inr (.inr (.inr RA)))))]) [1, 2, 3] [0, 4, 5, 6] rfl rfl rfl rfl (by decide)) PP) d_Parser_takeStatement_23 lk_Parser_54 mw_Tokens_isTheSign vw_Tokens_isTheSign (q0 := 0) rfl rfl (fit_of hR (by first | decide | (simp only [rmk]; omega)) (by first | decide | (simp only [rmk]; omega)) (by first | decide | (simp only [rmk]; omega)) (by first | decide | (simp only [rmk]; omega))) rfl (cat8 (Nat.le_of_ble_eq_true rfl)) (As := [.int (nI 123)]) (rest := []) rfl (fun r_23 w_23 hp_23 => ?_)
    obtain ⟨rfl, rfl⟩ := hp_23
    refine r_swap ?_
    refine r_afterP (X := [(p, .inr (6, [.ref t, .ref bk, .ref a])), (bk, .inr (5, [.ref ra, .ref pa, .int (bI pr), .int (nI rules.length), .int (nI out.length), .int (nI dp)])), (pa, .inl (g.2.1 1, 4000, .inl (aI PA))), (ra, .inl (g.2.1 3, 400, .inr (.inr (.inr (.inr RA))))), (a, .inr (2, [.ref t, .int (nI so), .int (nI sta), .int (nI en), .int (oI v), va_rf (wR g wd)])), (t, .inr (1, [.ref tb, .int (nI k)])), (tb, .inl (g.2.1 1, 2000, .inl (aI T)))]) (X' := [(p, .inr (6, [.ref t, .ref bk, .ref a])), (a, .inr (2, [.ref t, .int (nI so), .int (nI sta), .int (nI en), .int (oI v), va_rf (wR g wd)])), (t, .inr (1, [.ref tb, .int (nI k)])), (tb, .inl (g.2.1 1, 2000, .inl (aI T))), (bk, .inr (5, [.ref ra, .ref pa, .int (bI pr), .int (nI rules.length), .int (nI out.length), .int (nI dp)])), (pa, .inl (g.2.1 1, 4000, .inl (aI PA))), (ra, .inl (g.2.1 3, 400, .inr (.inr (.inr (.inr RA)))))]) (pl := PP) (st' := [.int (bI (isSg T so sta 123))]) (n1 := 0) (n2 := 0) [0, 4, 5, 6, 1, 2, 3] rfl rfl rfl rfl rfl rfl ?_
    refine r_istore_n C (lv' := [(3, .int (bI (isSg T so sta 123))), (0, .ref p), (1, .int (nI dep)), (2, va_rf ar)]) d_Parser_takeStatement_26 rfl (by decide) (by generalize ar = zq; cases zq <;> rfl) ?_
    refine r_iload_n C 0 d_Parser_takeStatement_27 rfl rfl ?_
    refine r_bif_ne C 42 d_Parser_takeStatement_28 (by decide) (fun c_28 => ?_) (fun c_28 => ?_)
    · skip
      refine r_iload_n C 2 d_Parser_takeStatement_42 rfl rfl ?_
      refine r_bipush C (nI 40) d_Parser_takeStatement_43 (by decide) ?_
      refine r_ncmp_lt C 50 d_Parser_takeStatement_45 (by decide) (by omega) (by omega) (fun c_45 => ?_) (fun c_45 => ?_)
      · skip
        obtain ⟨d1, rfl⟩ : ∃ d1, d = d1 + 1 := ⟨d - 1, by omega⟩
        refine r_aload_n C 1 d_Parser_takeStatement_50 rfl rfl ?_
        refine r_get C 0 1 d_Parser_takeStatement_51 ci_Parser fi_Parser_15 rfl (by decide) rfl rfl ?_
        refine r_aload_n C 1 d_Parser_takeStatement_54 rfl rfl ?_
        refine r_get C 0 1 d_Parser_takeStatement_55 ci_Parser fi_Parser_15 rfl (by decide) rfl rfl ?_
        refine r_get C 4 5 d_Parser_takeStatement_58 ci_Book fi_Parser_72 rfl (by decide) rfl rfl ?_
        refine r_iload_n C 2 d_Parser_takeStatement_61 rfl rfl ?_
        refine r_iconst C (nI 1) d_Parser_takeStatement_62 (by decide) ?_
        refine r_nadd C d_Parser_takeStatement_63 ?_
        refine r_nmax C d_Parser_takeStatement_64 ml_Parser_75 ma_max (by rw [hR]; first | decide | (simp only [rmk]; omega)) (by rw [hR]; exact Nat.le_trans (Nat.add_le_add_right (cat8 (Nat.le_of_ble_eq_true rfl)) 13) (by first | decide | (simp only [rmk]; omega))) (by rw [hR]; first | decide | (simp only [rmk]; omega)) (by rw [hR]; first | decide | (simp only [rmk]; omega)) (by omega) (by omega) ?_
        refine r_put C (ws' := [(p, .inr (6, [.ref t, .ref bk, .ref a])), (a, .inr (2, [.ref t, .int (nI so), .int (nI sta), .int (nI en), .int (oI v), va_rf (wR g wd)])), (t, .inr (1, [.ref tb, .int (nI k)])), (tb, .inl (g.2.1 1, 2000, .inl (aI T))), (bk, .inr (5, [.ref ra, .ref pa, .int (bI pr), .int (nI rules.length), .int (nI out.length), .int (nI (max dp (dep + 1)))])), (pa, .inl (g.2.1 1, 4000, .inl (aI PA))), (ra, .inl (g.2.1 3, 400, .inr (.inr (.inr (.inr RA)))))] ++ PP) 4 5 d_Parser_takeStatement_67 ci_Book fi_Parser_72 rfl (by decide) rfl rfl (rfl) (rfl) (by simp) rfl ?_
        refine r_iload_n C 0 d_Parser_takeStatement_70 rfl rfl ?_
        refine r_bif_eq C 85 d_Parser_takeStatement_71 (by decide) (fun c_71 => ?_) (fun c_71 => ?_)
        · exact absurd (c_28.symm.trans c_71) (by decide)
        · skip
          have hcS : (pS T k (d1 + 1) ls (rules, dp, (so, sta, en, v, wd), out)).2.2 = (pBr (pS T k d1 ls) T k (rules, max dp (dep + 1), (so, sta, en, v, wd), out)).2.2 := by rw [pS_br (s := (rules, dp, (so, sta, en, v, wd), out)) c_8 c_28, show 40 - d1 = dep + 1 by omega]
          refine r_aload_n C 1 d_Parser_takeStatement_74 rfl rfl ?_
          refine r_iload_n C 2 d_Parser_takeStatement_75 rfl rfl ?_
          refine r_iconst C (nI 1) d_Parser_takeStatement_76 (by decide) ?_
          refine r_nadd C d_Parser_takeStatement_77 ?_
          refine r_aload_nQ C 3 d_Parser_takeStatement_78 rfl rfl ?_
          refine j_callV C (hB d1 rfl (p := p) (a := a) (t := t) (tb := tb) (bk := bk) (ra := ra) (pa := pa) (k := k) (so := so) (sta := sta) (en := en) (dp := max dp (dep + 1)) (dep := dep + 1) (T := T) (PA := PA) (v := v) (wd := wd) (ar := ar) (pr := pr) (out := out) (ls := ls) (PP := PP) (RA := RA) (rules := rules) (by first | assumption | rfl | omega) (by first | assumption | rfl | omega) (by first | assumption | rfl | omega) (by first | assumption | rfl | omega) (by first | assumption | rfl | omega) (by first | assumption | rfl | omega) (by first | assumption | rfl | omega) (by first | assumption | rfl | omega) (by first | assumption | rfl | omega) (by first | assumption | rfl | omega) (isSg_ne c_28)) (Sp.pool (Sp.of (wr := []) [0, 1, 2, 3, 4, 5, 6] [] rfl rfl rfl rfl (by decide)) PP) d_Parser_takeStatement_79 lk_Parser_81 mw_Parser_takeBraced vw_Parser_takeBraced (q0 := 0) rfl rfl (fit_of hR (by first | decide | (simp only [rmk]; omega)) (by first | decide | (simp only [rmk]; omega)) (by first | decide | (simp only [rmk]; omega)) (by first | decide | (simp only [rmk]; omega))) rfl (cat8 (Nat.le_of_ble_eq_true rfl)) (As := [.int (nI (dep + 1)), va_rf ar]) (rest := []) rfl (fun r_79 w_79 hp_79 => ?_)
          obtain ⟨ok_79, rules2_79, dp2_79, RA2_79, PP2_79, tk_79, ou_79, PB_79, rfl, rfl, hx_79, hR2_79, hs_79, hO2_79, hc2_79, ho2_79, h42_79, hd2_79⟩ := hp_79
          refine r_afterP (X := [(p, .inr (6, [.ref t, .ref bk, .ref a])), (a, .inr (2, [.ref t, .int (nI tk_79.1), .int (nI tk_79.2.1), .int (nI tk_79.2.2.1), .int (oI tk_79.2.2.2.1), va_rf (wR g tk_79.2.2.2.2)])), (t, .inr (1, [.ref tb, .int (nI k)])), (tb, .inl (g.2.1 1, 2000, .inl (aI T))), (bk, .inr (5, [.ref ra, .ref pa, .int (bI pr), .int (nI rules2_79.length), .int (nI ou_79.length), .int (nI dp2_79)])), (pa, .inl (g.2.1 1, 4000, .inl (aI PB_79))), (ra, .inl (g.2.1 3, 400, .inr (.inr (.inr (.inr RA2_79)))))]) (X' := [(p, .inr (6, [.ref t, .ref bk, .ref a])), (a, .inr (2, [.ref t, .int (nI tk_79.1), .int (nI tk_79.2.1), .int (nI tk_79.2.2.1), .int (oI tk_79.2.2.2.1), va_rf (wR g tk_79.2.2.2.2)])), (t, .inr (1, [.ref tb, .int (nI k)])), (tb, .inl (g.2.1 1, 2000, .inl (aI T))), (bk, .inr (5, [.ref ra, .ref pa, .int (bI pr), .int (nI rules2_79.length), .int (nI ou_79.length), .int (nI dp2_79)])), (pa, .inl (g.2.1 1, 4000, .inl (aI PB_79))), (ra, .inl (g.2.1 3, 400, .inr (.inr (.inr (.inr RA2_79)))))]) (pl := PP2_79) (st' := [.int (bI ok_79)]) (n1 := 0 + ((pBr (pS T k d1 ls) T k (rules, (max dp (dep + 1)), (so, sta, en, v, wd), out)).2.2)) (n2 := 0 + (6 * (pBr (pS T k d1 ls) T k (rules, (max dp (dep + 1)), (so, sta, en, v, wd), out)).2.2)) [0, 1, 2, 3, 4, 5, 6] rfl rfl rfl rfl rfl rfl ?_
          refine r_goto C 93 d_Parser_takeStatement_82 (by decide) ?_
          refine r_bret C E d_Parser_takeStatement_93 (by first | decide | omega | (simp only [rmk]; omega)) (by first | decide | omega | (simp only [rmk]; omega)) ?_
          exact ⟨_, _, _, _, _, _, _, _, rfl, rfl, by rw [pS_br (s := (rules, dp, (so, sta, en, v, wd), out)) c_8 c_28, show 40 - d1 = dep + 1 by omega]; exact hx_79, hR2_79, hs_79, hO2_79, hc2_79, ho2_79, h42_79, hd2_79⟩
      · skip
        refine r_iconst C (nI 0) d_Parser_takeStatement_48 (by decide) ?_
        refine r_eqS (st' := [.int (bI false)]) rfl ?_
        refine r_bret C E d_Parser_takeStatement_49 (by first | decide | omega | (simp only [rmk]; omega)) (by first | decide | omega | (simp only [rmk]; omega)) ?_
        exact ⟨false, rules, dp, RA, PP, (so, sta, en, v, wd), out, PA, rfl, rfl, by first | exact pS_0' (s := (rules, dp, (so, sta, en, v, wd), out)) (by omega) c_8 | exact pS_no (s := (rules, dp, (so, sta, en, v, wd), out)) c_8 c_28 c_39, hRA, fun _ h => h, hO, hcap, ho, h400, hdp⟩
    · skip
      refine r_aload_n C 1 d_Parser_takeStatement_31 rfl rfl ?_
      refine r_get C 0 2 d_Parser_takeStatement_32 ci_Parser fi_Parser_24 rfl (by decide) rfl rfl ?_
      refine r_iconst C (nI 0) d_Parser_takeStatement_35 (by decide) ?_
      refine j_callV C (c_Tokens_isWordOf g (xl x) (a := a) (t := t) (so := so) (sta := sta) (en := en) (ro := 0) (v := v) (wd := wd) (hO.so) (by first | assumption | rfl | omega) (hO.word)) (Sp.keep (Sp.of (wr := [(p, .inr (6, [.ref t, .ref bk, .ref a])), (t, .inr (1, [.ref tb, .int (nI k)])), (tb, .inl (g.2.1 1, 2000, .inl (aI T))), (bk, .inr (5, [.ref ra, .ref pa, .int (bI pr), .int (nI rules.length), .int (nI out.length), .int (nI dp)])), (pa, .inl (g.2.1 1, 4000, .inl (aI PA))), (ra, .inl (g.2.1 3, 400, .inr (.inr (.inr (.inr RA)))))]) [1] [0, 2, 3, 4, 5, 6] rfl rfl rfl rfl (by decide)) PP) d_Parser_takeStatement_36 lk_Parser_64 mw_Tokens_isWordOf vw_Tokens_isWordOf (q0 := 0) rfl rfl (fit_of hR (by first | decide | (simp only [rmk]; omega)) (by first | decide | (simp only [rmk]; omega)) (by first | decide | (simp only [rmk]; omega)) (by first | decide | (simp only [rmk]; omega))) rfl (cat8 (Nat.le_of_ble_eq_true rfl)) (As := [.int (nI 0)]) (rest := []) rfl (fun r_36 w_36 hp_36 => ?_)
      obtain ⟨rfl, rfl⟩ := hp_36
      refine r_swap ?_
      refine r_afterP (X := [(p, .inr (6, [.ref t, .ref bk, .ref a])), (t, .inr (1, [.ref tb, .int (nI k)])), (tb, .inl (g.2.1 1, 2000, .inl (aI T))), (bk, .inr (5, [.ref ra, .ref pa, .int (bI pr), .int (nI rules.length), .int (nI out.length), .int (nI dp)])), (pa, .inl (g.2.1 1, 4000, .inl (aI PA))), (ra, .inl (g.2.1 3, 400, .inr (.inr (.inr (.inr RA))))), (a, .inr (2, [.ref t, .int (nI so), .int (nI sta), .int (nI en), .int (oI v), va_rf (wR g wd)]))]) (X' := [(p, .inr (6, [.ref t, .ref bk, .ref a])), (a, .inr (2, [.ref t, .int (nI so), .int (nI sta), .int (nI en), .int (oI v), va_rf (wR g wd)])), (t, .inr (1, [.ref tb, .int (nI k)])), (tb, .inl (g.2.1 1, 2000, .inl (aI T))), (bk, .inr (5, [.ref ra, .ref pa, .int (bI pr), .int (nI rules.length), .int (nI out.length), .int (nI dp)])), (pa, .inl (g.2.1 1, 4000, .inl (aI PA))), (ra, .inl (g.2.1 3, 400, .inr (.inr (.inr (.inr RA)))))]) (pl := PP) (st' := [.int (bI (isRo so wd 0))]) (n1 := 0) (n2 := 0) [0, 6, 1, 2, 3, 4, 5] rfl rfl rfl rfl rfl rfl ?_
      refine r_bif_eq C 48 d_Parser_takeStatement_39 (by decide) (fun c_39 => ?_) (fun c_39 => ?_)
      · skip
        refine r_iconst C (nI 0) d_Parser_takeStatement_48 (by decide) ?_
        refine r_eqS (st' := [.int (bI false)]) rfl ?_
        refine r_bret C E d_Parser_takeStatement_49 (by first | decide | omega | (simp only [rmk]; omega)) (by first | decide | omega | (simp only [rmk]; omega)) ?_
        exact ⟨false, rules, dp, RA, PP, (so, sta, en, v, wd), out, PA, rfl, rfl, by first | exact pS_0' (s := (rules, dp, (so, sta, en, v, wd), out)) (by omega) c_8 | exact pS_no (s := (rules, dp, (so, sta, en, v, wd), out)) c_8 c_28 c_39, hRA, fun _ h => h, hO, hcap, ho, h400, hdp⟩
      · skip
        refine r_iload_n C 2 d_Parser_takeStatement_42 rfl rfl ?_
        refine r_bipush C (nI 40) d_Parser_takeStatement_43 (by decide) ?_
        refine r_ncmp_lt C 50 d_Parser_takeStatement_45 (by decide) (by omega) (by omega) (fun c_45 => ?_) (fun c_45 => ?_)
        · skip
          obtain ⟨d1, rfl⟩ : ∃ d1, d = d1 + 1 := ⟨d - 1, by omega⟩
          refine r_aload_n C 1 d_Parser_takeStatement_50 rfl rfl ?_
          refine r_get C 0 1 d_Parser_takeStatement_51 ci_Parser fi_Parser_15 rfl (by decide) rfl rfl ?_
          refine r_aload_n C 1 d_Parser_takeStatement_54 rfl rfl ?_
          refine r_get C 0 1 d_Parser_takeStatement_55 ci_Parser fi_Parser_15 rfl (by decide) rfl rfl ?_
          refine r_get C 4 5 d_Parser_takeStatement_58 ci_Book fi_Parser_72 rfl (by decide) rfl rfl ?_
          refine r_iload_n C 2 d_Parser_takeStatement_61 rfl rfl ?_
          refine r_iconst C (nI 1) d_Parser_takeStatement_62 (by decide) ?_
          refine r_nadd C d_Parser_takeStatement_63 ?_
          refine r_nmax C d_Parser_takeStatement_64 ml_Parser_75 ma_max (by rw [hR]; first | decide | (simp only [rmk]; omega)) (by rw [hR]; exact Nat.le_trans (Nat.add_le_add_right (cat8 (Nat.le_of_ble_eq_true rfl)) 13) (by first | decide | (simp only [rmk]; omega))) (by rw [hR]; first | decide | (simp only [rmk]; omega)) (by rw [hR]; first | decide | (simp only [rmk]; omega)) (by omega) (by omega) ?_
          refine r_put C (ws' := [(p, .inr (6, [.ref t, .ref bk, .ref a])), (a, .inr (2, [.ref t, .int (nI so), .int (nI sta), .int (nI en), .int (oI v), va_rf (wR g wd)])), (t, .inr (1, [.ref tb, .int (nI k)])), (tb, .inl (g.2.1 1, 2000, .inl (aI T))), (bk, .inr (5, [.ref ra, .ref pa, .int (bI pr), .int (nI rules.length), .int (nI out.length), .int (nI (max dp (dep + 1)))])), (pa, .inl (g.2.1 1, 4000, .inl (aI PA))), (ra, .inl (g.2.1 3, 400, .inr (.inr (.inr (.inr RA)))))] ++ PP) 4 5 d_Parser_takeStatement_67 ci_Book fi_Parser_72 rfl (by decide) rfl rfl (rfl) (rfl) (by simp) rfl ?_
          refine r_iload_n C 0 d_Parser_takeStatement_70 rfl rfl ?_
          refine r_bif_eq C 85 d_Parser_takeStatement_71 (by decide) (fun c_71 => ?_) (fun c_71 => ?_)
          · skip
            have hcS : (pS T k (d1 + 1) ls (rules, dp, (so, sta, en, v, wd), out)).2.2 = (pLy (pS T k d1) T k ls (rules, max dp (dep + 1), (so, sta, en, v, wd), out)).2.2 := by rw [pS_ly (s := (rules, dp, (so, sta, en, v, wd), out)) c_8 c_28 c_39, show 40 - d1 = dep + 1 by omega]
            refine r_aload_n C 1 d_Parser_takeStatement_85 rfl rfl ?_
            refine r_iload_n C 2 d_Parser_takeStatement_86 rfl rfl ?_
            refine r_iconst C (nI 1) d_Parser_takeStatement_87 (by decide) ?_
            refine r_nadd C d_Parser_takeStatement_88 ?_
            refine r_aload_nQ C 3 d_Parser_takeStatement_89 rfl rfl ?_
            refine j_callV C (hL d1 rfl (p := p) (a := a) (t := t) (tb := tb) (bk := bk) (ra := ra) (pa := pa) (k := k) (so := so) (sta := sta) (en := en) (dp := max dp (dep + 1)) (dep := dep + 1) (T := T) (PA := PA) (v := v) (wd := wd) (ar := ar) (pr := pr) (out := out) (ls := ls) (PP := PP) (RA := RA) (rules := rules) (by first | assumption | rfl | omega) (by first | assumption | rfl | omega) (by first | assumption | rfl | omega) (by first | assumption | rfl | omega) (by first | assumption | rfl | omega) (by first | assumption | rfl | omega) (by first | assumption | rfl | omega) (by first | assumption | rfl | omega) (by first | assumption | rfl | omega) (by first | assumption | rfl | omega) (isRo_ne c_39)) (Sp.pool (Sp.of (wr := []) [0, 1, 2, 3, 4, 5, 6] [] rfl rfl rfl rfl (by decide)) PP) d_Parser_takeStatement_90 lk_Parser_84 mw_Parser_takeLayered vw_Parser_takeLayered (q0 := 0) rfl rfl (fit_of hR (by first | decide | (simp only [rmk]; omega)) (by first | decide | (simp only [rmk]; omega)) (by first | decide | (simp only [rmk]; omega)) (by first | decide | (simp only [rmk]; omega))) rfl (cat8 (Nat.le_of_ble_eq_true rfl)) (As := [.int (nI (dep + 1)), va_rf ar]) (rest := []) rfl (fun r_90 w_90 hp_90 => ?_)
            obtain ⟨ok_90, rules2_90, dp2_90, RA2_90, PP2_90, tk_90, ou_90, PB_90, rfl, rfl, hx_90, hR2_90, hs_90, hO2_90, hc2_90, ho2_90, h42_90, hd2_90⟩ := hp_90
            refine r_afterP (X := [(p, .inr (6, [.ref t, .ref bk, .ref a])), (a, .inr (2, [.ref t, .int (nI tk_90.1), .int (nI tk_90.2.1), .int (nI tk_90.2.2.1), .int (oI tk_90.2.2.2.1), va_rf (wR g tk_90.2.2.2.2)])), (t, .inr (1, [.ref tb, .int (nI k)])), (tb, .inl (g.2.1 1, 2000, .inl (aI T))), (bk, .inr (5, [.ref ra, .ref pa, .int (bI pr), .int (nI rules2_90.length), .int (nI ou_90.length), .int (nI dp2_90)])), (pa, .inl (g.2.1 1, 4000, .inl (aI PB_90))), (ra, .inl (g.2.1 3, 400, .inr (.inr (.inr (.inr RA2_90)))))]) (X' := [(p, .inr (6, [.ref t, .ref bk, .ref a])), (a, .inr (2, [.ref t, .int (nI tk_90.1), .int (nI tk_90.2.1), .int (nI tk_90.2.2.1), .int (oI tk_90.2.2.2.1), va_rf (wR g tk_90.2.2.2.2)])), (t, .inr (1, [.ref tb, .int (nI k)])), (tb, .inl (g.2.1 1, 2000, .inl (aI T))), (bk, .inr (5, [.ref ra, .ref pa, .int (bI pr), .int (nI rules2_90.length), .int (nI ou_90.length), .int (nI dp2_90)])), (pa, .inl (g.2.1 1, 4000, .inl (aI PB_90))), (ra, .inl (g.2.1 3, 400, .inr (.inr (.inr (.inr RA2_90)))))]) (pl := PP2_90) (st' := [.int (bI ok_90)]) (n1 := 0 + ((pLy (pS T k d1) T k ls (rules, (max dp (dep + 1)), (so, sta, en, v, wd), out)).2.2)) (n2 := 0 + (6 * (pLy (pS T k d1) T k ls (rules, (max dp (dep + 1)), (so, sta, en, v, wd), out)).2.2)) [0, 1, 2, 3, 4, 5, 6] rfl rfl rfl rfl rfl rfl ?_
            refine r_bret C E d_Parser_takeStatement_93 (by first | decide | omega | (simp only [rmk]; omega)) (by first | decide | omega | (simp only [rmk]; omega)) ?_
            exact ⟨_, _, _, _, _, _, _, _, rfl, rfl, by rw [pS_ly (s := (rules, dp, (so, sta, en, v, wd), out)) c_8 c_28 c_39, show 40 - d1 = dep + 1 by omega]; exact hx_90, hR2_90, hs_90, hO2_90, hc2_90, ho2_90, h42_90, hd2_90⟩
          · exact absurd (c_28.symm.trans c_71) (by decide)
        · skip
          refine r_iconst C (nI 0) d_Parser_takeStatement_48 (by decide) ?_
          refine r_eqS (st' := [.int (bI false)]) rfl ?_
          refine r_bret C E d_Parser_takeStatement_49 (by first | decide | omega | (simp only [rmk]; omega)) (by first | decide | omega | (simp only [rmk]; omega)) ?_
          exact ⟨false, rules, dp, RA, PP, (so, sta, en, v, wd), out, PA, rfl, rfl, by first | exact pS_0' (s := (rules, dp, (so, sta, en, v, wd), out)) (by omega) c_8 | exact pS_no (s := (rules, dp, (so, sta, en, v, wd), out)) c_8 c_28 c_39, hRA, fun _ h => h, hO, hcap, ho, h400, hdp⟩
  · skip
    obtain ⟨w, rfl, hw2, hw3⟩ := isRo_word c_8
    have hw4 := hO.word w rfl
    have hw5 := roleN_3 hw3
    refine r_eqW (ws' := [(p, .inr (6, [.ref t, .ref bk, .ref a])), (a, .inr (2, [.ref t, .int (nI so), .int (nI sta), .int (nI en), .int (oI v), .ref (g.2.2.1 w)])), (t, .inr (1, [.ref tb, .int (nI k)])), (tb, .inl (g.2.1 1, 2000, .inl (aI T))), (bk, .inr (5, [.ref ra, .ref pa, .int (bI pr), .int (nI rules.length), .int (nI out.length), .int (nI dp)])), (pa, .inl (g.2.1 1, 4000, .inl (aI PA))), (ra, .inl (g.2.1 3, 400, .inr (.inr (.inr (.inr RA)))))] ++ PP) rfl ?_
    have hcS : (pS T k d ls (rules, dp, (so, sta, en, v, some w), out)).2.2 = 1 := pS_rc (s := (rules, dp, (so, sta, en, v, some w), out)) c_8
    refine r_aload_n C 0 d_Parser_takeStatement_11 rfl rfl ?_
    refine r_aload_nQ C 2 d_Parser_takeStatement_12 rfl rfl ?_
    refine j_callV C (c_Parser_takeRule g (xl x) (p := p) (a := a) (t := t) (tb := tb) (bk := bk) (ra := ra) (pa := pa) (k := k) (so := so) (sta := sta) (en := en) (dp := dp) (w := w) (T := T) (PA := PA) (v := v) (ar := ar) (pr := pr) (out := out) (ls := ls) (PP := PP) (RA := RA) (rules := rules) (by first | assumption | rfl | omega) (by first | assumption | rfl | omega) (hO) (by first | assumption | rfl | omega) (by first | assumption | rfl | omega) (hw2) (hw4) (by first | assumption | rfl | omega) (hw5) (by first | assumption | rfl | omega) (by first | assumption | rfl | omega)) (Sp.pool (Sp.of (wr := []) [0, 1, 2, 3, 4, 5, 6] [] rfl rfl rfl rfl (by decide)) PP) d_Parser_takeStatement_13 lk_Parser_68 mw_Parser_takeRule vw_Parser_takeRule (q0 := 0) rfl rfl (fit_of hR (by first | decide | (simp only [rmk]; omega)) (by first | decide | (simp only [rmk]; omega)) (by first | decide | (simp only [rmk]; omega)) (by first | decide | (simp only [rmk]; omega))) rfl (cat8 (Nat.le_of_ble_eq_true rfl)) (As := [va_rf ar]) (rest := []) rfl (fun r_13 w_13 hp_13 => ?_)
    obtain ⟨ok_13, rules2_13, RA2_13, PP2_13, tk_13, ou_13, PB_13, rfl, rfl, hx_13, hR2_13, hs_13, hO2_13, hc2_13, ho2_13, h42_13⟩ := hp_13
    refine r_afterP (X := [(p, .inr (6, [.ref t, .ref bk, .ref a])), (a, .inr (2, [.ref t, .int (nI tk_13.1), .int (nI tk_13.2.1), .int (nI tk_13.2.2.1), .int (oI tk_13.2.2.2.1), va_rf (wR g tk_13.2.2.2.2)])), (t, .inr (1, [.ref tb, .int (nI k)])), (tb, .inl (g.2.1 1, 2000, .inl (aI T))), (bk, .inr (5, [.ref ra, .ref pa, .int (bI pr), .int (nI rules2_13.length), .int (nI ou_13.length), .int (nI dp)])), (pa, .inl (g.2.1 1, 4000, .inl (aI PB_13))), (ra, .inl (g.2.1 3, 400, .inr (.inr (.inr (.inr RA2_13)))))]) (X' := [(p, .inr (6, [.ref t, .ref bk, .ref a])), (a, .inr (2, [.ref t, .int (nI tk_13.1), .int (nI tk_13.2.1), .int (nI tk_13.2.2.1), .int (oI tk_13.2.2.2.1), va_rf (wR g tk_13.2.2.2.2)])), (t, .inr (1, [.ref tb, .int (nI k)])), (tb, .inl (g.2.1 1, 2000, .inl (aI T))), (bk, .inr (5, [.ref ra, .ref pa, .int (bI pr), .int (nI rules2_13.length), .int (nI ou_13.length), .int (nI dp)])), (pa, .inl (g.2.1 1, 4000, .inl (aI PB_13))), (ra, .inl (g.2.1 3, 400, .inr (.inr (.inr (.inr RA2_13)))))]) (pl := PP2_13) (st' := [.int (bI ok_13)]) (n1 := 0 + 1) (n2 := 0 + 6) [0, 1, 2, 3, 4, 5, 6] rfl rfl rfl rfl rfl rfl ?_
    refine r_bret C E d_Parser_takeStatement_16 (by first | decide | omega | (simp only [rmk]; omega)) (by first | decide | omega | (simp only [rmk]; omega)) ?_
    exact ⟨_, _, dp, _, _, _, _, _, rfl, rfl, pS_ru (s := (rules, dp, (so, sta, en, v, some w), out)) c_8 hx_13, hR2_13, hs_13, hO2_13, hc2_13, ho2_13, h42_13, hdp⟩
