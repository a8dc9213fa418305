theorem cmpN_so {T : Nat → Nat} {so sta en z : Nat} {v wd : Option Nat} (h : some z = cmpN T (so, sta, en, v, wd)) : so ≠ 0 := by
  rintro rfl
  simp [cmpN, isSg] at h
/-- a comparison and its number: whether they are there; what they are -/
def pCmp (T : Nat → Nat) (k : Nat) (nu : Option Nat) (x : TO) : Bool × Option Nat × Option Nat × TO := match cmpN T x.1 with
  | none => (false, none, nu, x)
  | some c => ((pNum T k 0 999999 (tTake T k x)).1.isSome, some c, (pNum T k 0 999999 (tTake T k x)).1, (pNum T k 0 999999 (tTake T k x)).2)
theorem pCmp_none {T : Nat → Nat} {k : Nat} {nu : Option Nat} {x : TO} (h : none = cmpN T x.1) : pCmp T k nu x = (false, none, nu, x) := by rw [pCmp, ← h]
theorem pCmp_some {T : Nat → Nat} {k c : Nat} {nu nr : Option Nat} {x y z : TO} (h : some c = cmpN T x.1) (h1 : y = tTake T k x) (h2 : (nr, z) = pNum T k 0 999999 y) : pCmp T k nu x = (nr.isSome, some c, nr, z) := by rw [pCmp, ← h]; simp only []; rw [← h1, ← h2]
/-- what stands behind a rule's word -/
def pNums (T : Nat → Nat) (k ki : Nat) (x : TO) : Bool × Option Nat × Option Nat × Option Nat × TO :=
  if ki = 4 then ((pCmp T k none x).1, (pCmp T k none x).2.1, (pCmp T k none x).2.2.1, none, (pCmp T k none x).2.2.2)
  else if ki = 5 then match pNum T k 0 999999 x with
    | (none, y) => (false, none, none, none, y)
    | (some z, y) => ((pCmp T k none y).1, (pCmp T k none y).2.1, (pCmp T k none y).2.2.1, some z, (pCmp T k none y).2.2.2)
  else if ki = 6 then ((pNum T k 0 9 x).1.isSome, none, (pNum T k 0 9 x).1, none, (pNum T k 0 9 x).2)
  else (true, none, none, none, x)
theorem pNums_4 {T : Nat → Nat} {k : Nat} {x y : TO} {ok : Bool} {c nu : Option Nat} (h : (ok, c, nu, y) = pCmp T k none x) : pNums T k 4 x = (ok, c, nu, none, y) := by simp [pNums, ← h]
theorem pNums_5n {T : Nat → Nat} {k : Nat} {x y : TO} (h : (none, y) = pNum T k 0 999999 x) : pNums T k 5 x = (false, none, none, none, y) := by simp [pNums, ← h]
theorem pNums_5 {T : Nat → Nat} {k z : Nat} {x y w : TO} {ok : Bool} {c nu : Option Nat} (h : (some z, y) = pNum T k 0 999999 x) (h2 : (ok, c, nu, w) = pCmp T k none y) : pNums T k 5 x = (ok, c, nu, some z, w) := by simp [pNums, ← h, ← h2]
theorem pNums_6 {T : Nat → Nat} {k : Nat} {x y : TO} {nr : Option Nat} (h : (nr, y) = pNum T k 0 9 x) : pNums T k 6 x = (nr.isSome, none, nr, none, y) := by simp [pNums, ← h]
theorem pNums_d {T : Nat → Nat} {k ki : Nat} {x : TO} (h : ki ≠ 4 ∧ ki ≠ 5 ∧ ki ≠ 6) : pNums T k ki x = (true, none, none, none, x) := by simp [pNums, h.1, h.2.1, h.2.2]

set_option maxRecDepth 100000 in
theorem fi_Parser_133 : FI R_Parser 133 R_Rule F_Rule 0 := Or.inr ⟨"RuleReader", (nw (i := 434) rfl rfl)⟩
set_option maxRecDepth 100000 in
theorem fi_Parser_140 : FI R_Parser 140 R_Rule F_Rule 5 := Or.inr ⟨"RuleReader", (nw (i := 448) rfl rfl)⟩
set_option maxRecDepth 100000 in
theorem fi_Parser_143 : FI R_Parser 143 R_Rule F_Rule 4 := Or.inr ⟨"RuleReader", (nw (i := 445) rfl rfl)⟩
set_option maxRecDepth 100000 in
theorem fi_Parser_150 : FI R_Parser 150 R_Rule F_Rule 3 := Or.inr ⟨"RuleReader", (nw (i := 441) rfl rfl)⟩
set_option maxRecDepth 100000 in
theorem k_Parser_139 : Cond.constant R_Parser 139 (nI 999999) ∈ GW := (gw (i := 488) rfl rfl)
set_option maxRecDepth 100000 in
theorem lk_Parser_110 : LK R_Parser 110 y_Parser_takeNumber := Or.inl (gw (i := 489) rfl rfl)
set_option maxRecDepth 100000 in
theorem lk_Parser_136 : LK R_Parser 136 y_Parser_takeComparison := Or.inl (gw (i := 480) rfl rfl)
set_option maxRecDepth 100000 in
theorem lk_Parser_146 : LK R_Parser 146 y_Parser_comparisonNext := Or.inl (gw (i := 484) rfl rfl)
set_option maxRecDepth 100000 in
theorem mw_Parser_comparisonNext : MW y_Parser_comparisonNext b_Parser_comparisonNext 1 (some .int) 0 := ⟨(gw (i := 487) rfl rfl), (gw (i := 76) rfl rfl), by decide +kernel⟩
set_option maxRecDepth 100000 in
theorem mw_Parser_takeComparison : MW y_Parser_takeComparison b_Parser_takeComparison 2 (some .boolean) 1 := ⟨(gw (i := 483) rfl rfl), (gw (i := 76) rfl rfl), by decide +kernel⟩
set_option maxRecDepth 100000 in
theorem mw_Parser_takeNumber : MW y_Parser_takeNumber b_Parser_takeNumber 4 (some .int) 2 := ⟨(gw (i := 492) rfl rfl), (gw (i := 76) rfl rfl), by decide +kernel⟩
set_option maxRecDepth 100000 in
theorem vw_Parser_comparisonNext : VW y_Parser_comparisonNext := ⟨(gw (i := 486) rfl rfl), (gw (i := 11) rfl rfl)⟩
set_option maxRecDepth 100000 in
theorem vw_Parser_takeComparison : VW y_Parser_takeComparison := ⟨(gw (i := 482) rfl rfl), (gw (i := 10) rfl rfl)⟩
set_option maxRecDepth 100000 in
theorem vw_Parser_takeNumber : VW y_Parser_takeNumber := ⟨(gw (i := 491) rfl rfl), (gw (i := 12) rfl rfl)⟩
theorem d_Parser_takeComparison_0 : decode b_Parser_takeComparison 0 = .ok (.aload_n 1, 1) := by decide +kernel
theorem d_Parser_takeComparison_1 : decode b_Parser_takeComparison 1 = .ok (.aload_n 0, 1) := by decide +kernel
theorem d_Parser_takeComparison_2 : decode b_Parser_takeComparison 2 = .ok (.invokevirtual 146, 3) := by decide +kernel
theorem d_Parser_takeComparison_5 : decode b_Parser_takeComparison 5 = .ok (.putfield 150, 3) := by decide +kernel
theorem d_Parser_takeComparison_8 : decode b_Parser_takeComparison 8 = .ok (.aload_n 1, 1) := by decide +kernel
theorem d_Parser_takeComparison_9 : decode b_Parser_takeComparison 9 = .ok (.getfield 150, 3) := by decide +kernel
theorem d_Parser_takeComparison_12 : decode b_Parser_takeComparison 12 = .ok (.iconst (-1), 1) := by decide +kernel
theorem d_Parser_takeComparison_13 : decode b_Parser_takeComparison 13 = .ok (.if_icmp .ne 5, 3) := by decide +kernel
theorem d_Parser_takeComparison_16 : decode b_Parser_takeComparison 16 = .ok (.iconst 0, 1) := by decide +kernel
theorem d_Parser_takeComparison_17 : decode b_Parser_takeComparison 17 = .ok (.ireturn, 1) := by decide +kernel
theorem d_Parser_takeComparison_18 : decode b_Parser_takeComparison 18 = .ok (.aload_n 0, 1) := by decide +kernel
theorem d_Parser_takeComparison_19 : decode b_Parser_takeComparison 19 = .ok (.invokevirtual 61, 3) := by decide +kernel
theorem d_Parser_takeComparison_22 : decode b_Parser_takeComparison 22 = .ok (.aload_n 1, 1) := by decide +kernel
theorem d_Parser_takeComparison_23 : decode b_Parser_takeComparison 23 = .ok (.aload_n 0, 1) := by decide +kernel
theorem d_Parser_takeComparison_24 : decode b_Parser_takeComparison 24 = .ok (.iconst 0, 1) := by decide +kernel
theorem d_Parser_takeComparison_25 : decode b_Parser_takeComparison 25 = .ok (.ldc 139, 2) := by decide +kernel
theorem d_Parser_takeComparison_27 : decode b_Parser_takeComparison 27 = .ok (.invokevirtual 110, 3) := by decide +kernel
theorem d_Parser_takeComparison_30 : decode b_Parser_takeComparison 30 = .ok (.putfield 143, 3) := by decide +kernel
theorem d_Parser_takeComparison_33 : decode b_Parser_takeComparison 33 = .ok (.aload_n 1, 1) := by decide +kernel
theorem d_Parser_takeComparison_34 : decode b_Parser_takeComparison 34 = .ok (.getfield 143, 3) := by decide +kernel
theorem d_Parser_takeComparison_37 : decode b_Parser_takeComparison 37 = .ok (.iconst (-1), 1) := by decide +kernel
theorem d_Parser_takeComparison_38 : decode b_Parser_takeComparison 38 = .ok (.if_icmp .eq 7, 3) := by decide +kernel
theorem d_Parser_takeComparison_41 : decode b_Parser_takeComparison 41 = .ok (.iconst 1, 1) := by decide +kernel
theorem d_Parser_takeComparison_42 : decode b_Parser_takeComparison 42 = .ok (.goto 4, 3) := by decide +kernel
theorem d_Parser_takeComparison_45 : decode b_Parser_takeComparison 45 = .ok (.iconst 0, 1) := by decide +kernel
theorem d_Parser_takeComparison_46 : decode b_Parser_takeComparison 46 = .ok (.ireturn, 1) := by decide +kernel
theorem d_Parser_takeNumbers_0 : decode b_Parser_takeNumbers 0 = .ok (.aload_n 1, 1) := by decide +kernel
theorem d_Parser_takeNumbers_1 : decode b_Parser_takeNumbers 1 = .ok (.getfield 133, 3) := by decide +kernel
theorem d_Parser_takeNumbers_4 : decode b_Parser_takeNumbers 4 = .ok (.tableswitch 92 4 6 #[28, 34, 67], 28) := by decide +kernel
theorem d_Parser_takeNumbers_32 : decode b_Parser_takeNumbers 32 = .ok (.aload_n 0, 1) := by decide +kernel
theorem d_Parser_takeNumbers_33 : decode b_Parser_takeNumbers 33 = .ok (.aload_n 1, 1) := by decide +kernel
theorem d_Parser_takeNumbers_34 : decode b_Parser_takeNumbers 34 = .ok (.invokevirtual 136, 3) := by decide +kernel
theorem d_Parser_takeNumbers_37 : decode b_Parser_takeNumbers 37 = .ok (.ireturn, 1) := by decide +kernel
theorem d_Parser_takeNumbers_38 : decode b_Parser_takeNumbers 38 = .ok (.aload_n 1, 1) := by decide +kernel
theorem d_Parser_takeNumbers_39 : decode b_Parser_takeNumbers 39 = .ok (.aload_n 0, 1) := by decide +kernel
theorem d_Parser_takeNumbers_40 : decode b_Parser_takeNumbers 40 = .ok (.iconst 0, 1) := by decide +kernel
theorem d_Parser_takeNumbers_41 : decode b_Parser_takeNumbers 41 = .ok (.ldc 139, 2) := by decide +kernel
theorem d_Parser_takeNumbers_43 : decode b_Parser_takeNumbers 43 = .ok (.invokevirtual 110, 3) := by decide +kernel
theorem d_Parser_takeNumbers_46 : decode b_Parser_takeNumbers 46 = .ok (.putfield 140, 3) := by decide +kernel
theorem d_Parser_takeNumbers_49 : decode b_Parser_takeNumbers 49 = .ok (.aload_n 1, 1) := by decide +kernel
theorem d_Parser_takeNumbers_50 : decode b_Parser_takeNumbers 50 = .ok (.getfield 140, 3) := by decide +kernel
theorem d_Parser_takeNumbers_53 : decode b_Parser_takeNumbers 53 = .ok (.iconst (-1), 1) := by decide +kernel
theorem d_Parser_takeNumbers_54 : decode b_Parser_takeNumbers 54 = .ok (.if_icmp .eq 15, 3) := by decide +kernel
theorem d_Parser_takeNumbers_57 : decode b_Parser_takeNumbers 57 = .ok (.aload_n 0, 1) := by decide +kernel
theorem d_Parser_takeNumbers_58 : decode b_Parser_takeNumbers 58 = .ok (.aload_n 1, 1) := by decide +kernel
theorem d_Parser_takeNumbers_59 : decode b_Parser_takeNumbers 59 = .ok (.invokevirtual 136, 3) := by decide +kernel
theorem d_Parser_takeNumbers_62 : decode b_Parser_takeNumbers 62 = .ok (.ifCond .eq 7, 3) := by decide +kernel
theorem d_Parser_takeNumbers_65 : decode b_Parser_takeNumbers 65 = .ok (.iconst 1, 1) := by decide +kernel
theorem d_Parser_takeNumbers_66 : decode b_Parser_takeNumbers 66 = .ok (.goto 4, 3) := by decide +kernel
theorem d_Parser_takeNumbers_69 : decode b_Parser_takeNumbers 69 = .ok (.iconst 0, 1) := by decide +kernel
theorem d_Parser_takeNumbers_70 : decode b_Parser_takeNumbers 70 = .ok (.ireturn, 1) := by decide +kernel
theorem d_Parser_takeNumbers_71 : decode b_Parser_takeNumbers 71 = .ok (.aload_n 1, 1) := by decide +kernel
theorem d_Parser_takeNumbers_72 : decode b_Parser_takeNumbers 72 = .ok (.aload_n 0, 1) := by decide +kernel
theorem d_Parser_takeNumbers_73 : decode b_Parser_takeNumbers 73 = .ok (.iconst 0, 1) := by decide +kernel
theorem d_Parser_takeNumbers_74 : decode b_Parser_takeNumbers 74 = .ok (.bipush 9, 2) := by decide +kernel
theorem d_Parser_takeNumbers_76 : decode b_Parser_takeNumbers 76 = .ok (.invokevirtual 110, 3) := by decide +kernel
theorem d_Parser_takeNumbers_79 : decode b_Parser_takeNumbers 79 = .ok (.putfield 143, 3) := by decide +kernel
theorem d_Parser_takeNumbers_82 : decode b_Parser_takeNumbers 82 = .ok (.aload_n 1, 1) := by decide +kernel
theorem d_Parser_takeNumbers_83 : decode b_Parser_takeNumbers 83 = .ok (.getfield 143, 3) := by decide +kernel
theorem d_Parser_takeNumbers_86 : decode b_Parser_takeNumbers 86 = .ok (.iconst (-1), 1) := by decide +kernel
theorem d_Parser_takeNumbers_87 : decode b_Parser_takeNumbers 87 = .ok (.if_icmp .eq 7, 3) := by decide +kernel
theorem d_Parser_takeNumbers_90 : decode b_Parser_takeNumbers 90 = .ok (.iconst 1, 1) := by decide +kernel
theorem d_Parser_takeNumbers_91 : decode b_Parser_takeNumbers 91 = .ok (.goto 4, 3) := by decide +kernel
theorem d_Parser_takeNumbers_94 : decode b_Parser_takeNumbers 94 = .ok (.iconst 0, 1) := by decide +kernel
theorem d_Parser_takeNumbers_95 : decode b_Parser_takeNumbers 95 = .ok (.ireturn, 1) := by decide +kernel
theorem d_Parser_takeNumbers_96 : decode b_Parser_takeNumbers 96 = .ok (.iconst 1, 1) := by decide +kernel
theorem d_Parser_takeNumbers_97 : decode b_Parser_takeNumbers 97 = .ok (.ireturn, 1) := by decide +kernel
set_option maxHeartbeats 4000000 in
set_option maxRecDepth 100000 in
theorem c_Parser_takeComparison (g : GG) (l : Launch) {p : Nat} {a : Nat} {t : Nat} {tb : Nat} {bk : Nat} {ra : Nat} {pa : Nat} {k : Nat} {so : Nat} {sta : Nat} {en : Nat} {rc : Nat} {dp : Nat} {T : Nat → Nat} {PA : Nat → Nat} {v : Option Nat} {wd : Option Nat} {pr : Bool} {out : List Nat} {y : Nat} {ki : Nat} {st : Nat} {ar : Option Nat} {c : Option Nat} {nu : Option Nat} {co : Option Nat}  (hk : k ≤ 2000) (hT : ∀ j, T j < 256) (hO : TokOK k (so, sta, en, v, wd)) (hcap : out.length ≤ 2 * sta) (ho : OutAt PA out) : Cn g l y_Parser_takeComparison b_Parser_takeComparison 2 (some .boolean) (rmk 10 0 0 218) [.ref p, .ref y] ([(p, .inr (6, [.ref t, .ref bk, .ref a])), (a, .inr (2, [.ref t, .int (nI so), .int (nI sta), .int (nI en), .int (oI v), va_rf (wR g wd)])), (t, .inr (1, [.ref tb, .int (nI k)])), (tb, .inl (g.2.1 1, 2000, .inl (aI T))), (bk, .inr (5, [.ref ra, .ref pa, .int (bI pr), .int (nI rc), .int (nI out.length), .int (nI dp)])), (pa, .inl (g.2.1 1, 4000, .inl (aI PA))), (y, .inr (4, [.int (nI ki), .int (nI st), va_rf ar, .int (oI c), .int (oI nu), .int (oI co)]))]) (fun (r0 : Option Value) (w0 : va_W) => ∃ ok : Bool, ∃ c2 : Option Nat, ∃ nu2 : Option Nat, ∃ tk : Tok, ∃ ou : List Nat, ∃ PB : Nat → Nat, r0 = some (.int (bI ok)) ∧ w0 = [(p, .inr (6, [.ref t, .ref bk, .ref a])), (a, .inr (2, [.ref t, .int (nI tk.1), .int (nI tk.2.1), .int (nI tk.2.2.1), .int (oI tk.2.2.2.1), va_rf (wR g tk.2.2.2.2)])), (t, .inr (1, [.ref tb, .int (nI k)])), (tb, .inl (g.2.1 1, 2000, .inl (aI T))), (bk, .inr (5, [.ref ra, .ref pa, .int (bI pr), .int (nI rc), .int (nI ou.length), .int (nI dp)])), (pa, .inl (g.2.1 1, 4000, .inl (aI PB))), (y, .inr (4, [.int (nI ki), .int (nI st), va_rf ar, .int (oI c2), .int (oI nu2), .int (oI co)]))] ∧ ((ok, c2, nu2, tk, ou) = pCmp T k nu ((so, sta, en, v, wd), out)) ∧ (TokOK k tk) ∧ (ou.length ≤ 2 * tk.2.1) ∧ (OutAt PB ou)) := by
  refine Cn.of R_Parser [(0, .ref p), (1, .ref y)] (by decide) rfl (Nat.le_of_ble_eq_true rfl) rfl ?_
  intro x A Q hR hXl hin C E
  subst hXl
  refine r_aload_n C 1 d_Parser_takeComparison_0 rfl rfl ?_
  refine r_aload_n C 0 d_Parser_takeComparison_1 rfl rfl ?_
  refine j_callV C (c_Parser_comparisonNext g (xl x) (p := p) (a := a) (t := t) (tb := tb) (bk := bk) (k := k) (so := so) (sta := sta) (en := en) (T := T) (v := v) (wd := wd) (by first | assumption | rfl | omega) (by first | assumption | rfl | omega) (by first | assumption | rfl | omega)) (Sp.of (wr := [(bk, .inr (5, [.ref ra, .ref pa, .int (bI pr), .int (nI rc), .int (nI out.length), .int (nI dp)])), (pa, .inl (g.2.1 1, 4000, .inl (aI PA))), (y, .inr (4, [.int (nI ki), .int (nI st), va_rf ar, .int (oI c), .int (oI nu), .int (oI co)]))]) [0, 1, 2, 3] [4, 5, 6] rfl rfl rfl rfl (by decide)) d_Parser_takeComparison_2 lk_Parser_146 mw_Parser_comparisonNext vw_Parser_comparisonNext (q0 := 0) rfl rfl (fit_of hR (by first | decide | (simp only [rmk]; omega)) (by first | decide | (simp only [rmk]; omega)) (by first | decide | (simp only [rmk]; omega)) (by first | decide | (simp only [rmk]; omega))) rfl (cat8 (Nat.le_of_ble_eq_true rfl)) (As := []) (rest := [.ref y]) rfl (fun r_2 w_2 hp_2 => ?_)
  obtain ⟨nc_2, rfl, rfl, hnc_2, hb_2⟩ := hp_2
  refine r_after (ws' := [(p, .inr (6, [.ref t, .ref bk, .ref a])), (a, .inr (2, [.ref t, .int (nI so), .int (nI sta), .int (nI en), .int (oI v), va_rf (wR g wd)])), (t, .inr (1, [.ref tb, .int (nI k)])), (tb, .inl (g.2.1 1, 2000, .inl (aI T))), (bk, .inr (5, [.ref ra, .ref pa, .int (bI pr), .int (nI rc), .int (nI out.length), .int (nI dp)])), (pa, .inl (g.2.1 1, 4000, .inl (aI PA))), (y, .inr (4, [.int (nI ki), .int (nI st), va_rf ar, .int (oI c), .int (oI nu), .int (oI co)]))]) (st' := [.int (oI nc_2), .ref y]) (n1 := 0) (n2 := 0) [3, 4, 5, 6, 0, 1, 2] rfl rfl rfl rfl rfl ?_
  refine r_put C (ws' := [(p, .inr (6, [.ref t, .ref bk, .ref a])), (a, .inr (2, [.ref t, .int (nI so), .int (nI sta), .int (nI en), .int (oI v), va_rf (wR g wd)])), (t, .inr (1, [.ref tb, .int (nI k)])), (tb, .inl (g.2.1 1, 2000, .inl (aI T))), (bk, .inr (5, [.ref ra, .ref pa, .int (bI pr), .int (nI rc), .int (nI out.length), .int (nI dp)])), (pa, .inl (g.2.1 1, 4000, .inl (aI PA))), (y, .inr (4, [.int (nI ki), .int (nI st), va_rf ar, .int (oI nc_2), .int (oI nu), .int (oI co)]))]) 6 3 d_Parser_takeComparison_5 ci_Rule fi_Parser_150 rfl (by decide) rfl rfl (rfl) (rfl) (by simp) rfl ?_
  refine r_aload_n C 1 d_Parser_takeComparison_8 rfl rfl ?_
  refine r_get C 6 3 d_Parser_takeComparison_9 ci_Rule fi_Parser_150 rfl (by decide) rfl rfl ?_
  refine r_iconst C ((-1)) d_Parser_takeComparison_12 (by decide) ?_
  refine r_ocmp_ne C 18 d_Parser_takeComparison_13 (by decide) (by assumption) (fun c_13 => ?_) (fun c_13 => ?_)
  · obtain ⟨v_13, rfl⟩ := c_13
    refine r_norm2 (ws' := [(p, .inr (6, [.ref t, .ref bk, .ref a])), (a, .inr (2, [.ref t, .int (nI so), .int (nI sta), .int (nI en), .int (oI v), va_rf (wR g wd)])), (t, .inr (1, [.ref tb, .int (nI k)])), (tb, .inl (g.2.1 1, 2000, .inl (aI T))), (bk, .inr (5, [.ref ra, .ref pa, .int (bI pr), .int (nI rc), .int (nI out.length), .int (nI dp)])), (pa, .inl (g.2.1 1, 4000, .inl (aI PA))), (y, .inr (4, [.int (nI ki), .int (nI st), va_rf ar, .int (nI v_13), .int (oI nu), .int (oI co)]))]) (st' := []) (lv' := [(0, .ref p), (1, .ref y)]) rfl rfl rfl ?_
    refine r_aload_n C 0 d_Parser_takeComparison_18 rfl rfl ?_
    refine j_callV C (c_Parser_take g (xl x) (p := p) (a := a) (t := t) (tb := tb) (bk := bk) (ra := ra) (pa := pa) (k := k) (so := so) (sta := sta) (en := en) (rc := rc) (dp := dp) (T := T) (PA := PA) (v := v) (wd := wd) (pr := pr) (out := out) (by first | assumption | rfl | omega) (by first | assumption | rfl | omega) (by first | assumption | rfl | omega) (by first | assumption | rfl | omega) (by first | assumption | rfl | omega) (cmpN_so hnc_2)) (Sp.of (wr := [(y, .inr (4, [.int (nI ki), .int (nI st), va_rf ar, .int (nI v_13), .int (oI nu), .int (oI co)]))]) [0, 1, 2, 3, 4, 5] [6] rfl rfl rfl rfl (by decide)) d_Parser_takeComparison_19 lk_Parser_61 mw_Parser_take vw_Parser_take (q0 := 0) rfl rfl (fit_of hR (by first | decide | (simp only [rmk]; omega)) (by first | decide | (simp only [rmk]; omega)) (by first | decide | (simp only [rmk]; omega)) (by first | decide | (simp only [rmk]; omega))) rfl (cat8 (Nat.le_of_ble_eq_true rfl)) (As := []) (rest := []) rfl (fun r_19 w_19 hp_19 => ?_)
    obtain ⟨tk_19, ou_19, PB_19, rfl, rfl, hx_19, hO2_19, hc2_19, ho2_19⟩ := hp_19
    refine r_after (ws' := [(p, .inr (6, [.ref t, .ref bk, .ref a])), (a, .inr (2, [.ref t, .int (nI tk_19.1), .int (nI tk_19.2.1), .int (nI tk_19.2.2.1), .int (oI tk_19.2.2.2.1), va_rf (wR g tk_19.2.2.2.2)])), (t, .inr (1, [.ref tb, .int (nI k)])), (tb, .inl (g.2.1 1, 2000, .inl (aI T))), (bk, .inr (5, [.ref ra, .ref pa, .int (bI pr), .int (nI rc), .int (nI ou_19.length), .int (nI dp)])), (pa, .inl (g.2.1 1, 4000, .inl (aI PB_19))), (y, .inr (4, [.int (nI ki), .int (nI st), va_rf ar, .int (nI v_13), .int (oI nu), .int (oI co)]))]) (st' := []) (n1 := 0) (n2 := 0) [1, 2, 3, 4, 5, 6, 0] rfl rfl rfl rfl rfl ?_
    refine r_aload_n C 1 d_Parser_takeComparison_22 rfl rfl ?_
    refine r_aload_n C 0 d_Parser_takeComparison_23 rfl rfl ?_
    refine r_iconst C (nI 0) d_Parser_takeComparison_24 (by decide) ?_
    refine r_ldc C (nI 999999) d_Parser_takeComparison_25 k_Parser_139 ?_
    refine j_callV C (c_Parser_takeNumber g (xl x) (p := p) (a := a) (t := t) (tb := tb) (bk := bk) (ra := ra) (pa := pa) (k := k) (so := tk_19.1) (sta := tk_19.2.1) (en := tk_19.2.2.1) (rc := rc) (dp := dp) (T := T) (PA := PB_19) (v := tk_19.2.2.2.1) (wd := tk_19.2.2.2.2) (pr := pr) (out := ou_19) (lo := 0) (hi := 999999) (by first | assumption | rfl | omega) (by first | assumption | rfl | omega) (by first | assumption | rfl | omega) (by first | assumption | rfl | omega) (by first | assumption | rfl | omega) (by first | assumption | rfl | omega) (by first | assumption | rfl | omega)) (Sp.of (wr := [(y, .inr (4, [.int (nI ki), .int (nI st), va_rf ar, .int (nI v_13), .int (oI nu), .int (oI co)]))]) [0, 1, 2, 3, 4, 5] [6] rfl rfl rfl rfl (by decide)) d_Parser_takeComparison_27 lk_Parser_110 mw_Parser_takeNumber vw_Parser_takeNumber (q0 := 0) rfl rfl (fit_of hR (by first | decide | (simp only [rmk]; omega)) (by first | decide | (simp only [rmk]; omega)) (by first | decide | (simp only [rmk]; omega)) (by first | decide | (simp only [rmk]; omega))) rfl (cat8 (Nat.le_of_ble_eq_true rfl)) (As := [.int (nI 0), .int (nI 999999)]) (rest := [.ref y]) rfl (fun r_27 w_27 hp_27 => ?_)
    obtain ⟨nr_27, tk_27, ou_27, PB_27, rfl, rfl, hx_27, hb_27, hO2_27, hc2_27, ho2_27⟩ := hp_27
    refine r_after (ws' := [(p, .inr (6, [.ref t, .ref bk, .ref a])), (a, .inr (2, [.ref t, .int (nI tk_27.1), .int (nI tk_27.2.1), .int (nI tk_27.2.2.1), .int (oI tk_27.2.2.2.1), va_rf (wR g tk_27.2.2.2.2)])), (t, .inr (1, [.ref tb, .int (nI k)])), (tb, .inl (g.2.1 1, 2000, .inl (aI T))), (bk, .inr (5, [.ref ra, .ref pa, .int (bI pr), .int (nI rc), .int (nI ou_27.length), .int (nI dp)])), (pa, .inl (g.2.1 1, 4000, .inl (aI PB_27))), (y, .inr (4, [.int (nI ki), .int (nI st), va_rf ar, .int (nI v_13), .int (oI nu), .int (oI co)]))]) (st' := [.int (oI nr_27), .ref y]) (n1 := 0) (n2 := 0) [1, 2, 3, 4, 5, 6, 0] rfl rfl rfl rfl rfl ?_
    refine r_put C (ws' := [(p, .inr (6, [.ref t, .ref bk, .ref a])), (a, .inr (2, [.ref t, .int (nI tk_27.1), .int (nI tk_27.2.1), .int (nI tk_27.2.2.1), .int (oI tk_27.2.2.2.1), va_rf (wR g tk_27.2.2.2.2)])), (t, .inr (1, [.ref tb, .int (nI k)])), (tb, .inl (g.2.1 1, 2000, .inl (aI T))), (bk, .inr (5, [.ref ra, .ref pa, .int (bI pr), .int (nI rc), .int (nI ou_27.length), .int (nI dp)])), (pa, .inl (g.2.1 1, 4000, .inl (aI PB_27))), (y, .inr (4, [.int (nI ki), .int (nI st), va_rf ar, .int (nI v_13), .int (oI nr_27), .int (oI co)]))]) 6 4 d_Parser_takeComparison_30 ci_Rule fi_Parser_143 rfl (by decide) rfl rfl (rfl) (rfl) (by simp) rfl ?_
    refine r_aload_n C 1 d_Parser_takeComparison_33 rfl rfl ?_
    refine r_get C 6 4 d_Parser_takeComparison_34 ci_Rule fi_Parser_143 rfl (by decide) rfl rfl ?_
    refine r_iconst C ((-1)) d_Parser_takeComparison_37 (by decide) ?_
    refine r_ocmp_eq C 45 d_Parser_takeComparison_38 (by decide) (by assumption) (fun c_38 => ?_) (fun c_38 => ?_)
    · subst c_38
      refine r_norm2 (ws' := [(p, .inr (6, [.ref t, .ref bk, .ref a])), (a, .inr (2, [.ref t, .int (nI tk_27.1), .int (nI tk_27.2.1), .int (nI tk_27.2.2.1), .int (oI tk_27.2.2.2.1), va_rf (wR g tk_27.2.2.2.2)])), (t, .inr (1, [.ref tb, .int (nI k)])), (tb, .inl (g.2.1 1, 2000, .inl (aI T))), (bk, .inr (5, [.ref ra, .ref pa, .int (bI pr), .int (nI rc), .int (nI ou_27.length), .int (nI dp)])), (pa, .inl (g.2.1 1, 4000, .inl (aI PB_27))), (y, .inr (4, [.int (nI ki), .int (nI st), va_rf ar, .int (nI v_13), .int (-1), .int (oI co)]))]) (st' := []) (lv' := [(0, .ref p), (1, .ref y)]) rfl rfl rfl ?_
      refine r_iconst C (nI 0) d_Parser_takeComparison_45 (by decide) ?_
      refine r_eqS (st' := [.int (bI false)]) rfl ?_
      refine r_bret C E d_Parser_takeComparison_46 (by first | decide | omega | (simp only [rmk]; omega)) (by first | decide | omega | (simp only [rmk]; omega)) ?_
      exact ⟨_, _, none, _, _, _, rfl, rfl, (pCmp_some hnc_2 hx_19 hx_27).symm, hO2_27, hc2_27, ho2_27⟩
    · obtain ⟨v_38, rfl⟩ := c_38
      refine r_norm2 (ws' := [(p, .inr (6, [.ref t, .ref bk, .ref a])), (a, .inr (2, [.ref t, .int (nI tk_27.1), .int (nI tk_27.2.1), .int (nI tk_27.2.2.1), .int (oI tk_27.2.2.2.1), va_rf (wR g tk_27.2.2.2.2)])), (t, .inr (1, [.ref tb, .int (nI k)])), (tb, .inl (g.2.1 1, 2000, .inl (aI T))), (bk, .inr (5, [.ref ra, .ref pa, .int (bI pr), .int (nI rc), .int (nI ou_27.length), .int (nI dp)])), (pa, .inl (g.2.1 1, 4000, .inl (aI PB_27))), (y, .inr (4, [.int (nI ki), .int (nI st), va_rf ar, .int (nI v_13), .int (nI v_38), .int (oI co)]))]) (st' := []) (lv' := [(0, .ref p), (1, .ref y)]) rfl rfl rfl ?_
      refine r_iconst C (nI 1) d_Parser_takeComparison_41 (by decide) ?_
      refine r_goto C 46 d_Parser_takeComparison_42 (by decide) ?_
      refine r_eqS (st' := [.int (bI true)]) rfl ?_
      refine r_bret C E d_Parser_takeComparison_46 (by first | decide | omega | (simp only [rmk]; omega)) (by first | decide | omega | (simp only [rmk]; omega)) ?_
      exact ⟨_, _, some v_38, _, _, _, rfl, rfl, (pCmp_some hnc_2 hx_19 hx_27).symm, hO2_27, hc2_27, ho2_27⟩
  · subst c_13
    refine r_norm2 (ws' := [(p, .inr (6, [.ref t, .ref bk, .ref a])), (a, .inr (2, [.ref t, .int (nI so), .int (nI sta), .int (nI en), .int (oI v), va_rf (wR g wd)])), (t, .inr (1, [.ref tb, .int (nI k)])), (tb, .inl (g.2.1 1, 2000, .inl (aI T))), (bk, .inr (5, [.ref ra, .ref pa, .int (bI pr), .int (nI rc), .int (nI out.length), .int (nI dp)])), (pa, .inl (g.2.1 1, 4000, .inl (aI PA))), (y, .inr (4, [.int (nI ki), .int (nI st), va_rf ar, .int (-1), .int (oI nu), .int (oI co)]))]) (st' := []) (lv' := [(0, .ref p), (1, .ref y)]) rfl rfl rfl ?_
    refine r_iconst C (nI 0) d_Parser_takeComparison_16 (by decide) ?_
    refine r_eqS (st' := [.int (bI false)]) rfl ?_
    refine r_bret C E d_Parser_takeComparison_17 (by first | decide | omega | (simp only [rmk]; omega)) (by first | decide | omega | (simp only [rmk]; omega)) ?_
    exact ⟨false, none, nu, (so, sta, en, v, wd), _, _, rfl, rfl, (pCmp_none hnc_2).symm, hO, hcap, ho⟩

set_option maxHeartbeats 4000000 in
set_option maxRecDepth 100000 in
theorem c_Parser_takeNumbers (g : GG) (l : Launch) {p : Nat} {a : Nat} {t : Nat} {tb : Nat} {bk : Nat} {ra : Nat} {pa : Nat} {k : Nat} {so : Nat} {sta : Nat} {en : Nat} {rc : Nat} {dp : Nat} {T : Nat → Nat} {PA : Nat → Nat} {v : Option Nat} {wd : Option Nat} {pr : Bool} {out : List Nat} {y : Nat} {ki : Nat} {st : Nat} {ar : Option Nat}  (hk : k ≤ 2000) (hT : ∀ j, T j < 256) (hO : TokOK k (so, sta, en, v, wd)) (hcap : out.length ≤ 2 * sta) (ho : OutAt PA out) (hki : ki < 2 ^ 31) : Cn g l y_Parser_takeNumbers b_Parser_takeNumbers 2 (some .boolean) (rmk 11 0 0 239) [.ref p, .ref y] ([(p, .inr (6, [.ref t, .ref bk, .ref a])), (a, .inr (2, [.ref t, .int (nI so), .int (nI sta), .int (nI en), .int (oI v), va_rf (wR g wd)])), (t, .inr (1, [.ref tb, .int (nI k)])), (tb, .inl (g.2.1 1, 2000, .inl (aI T))), (bk, .inr (5, [.ref ra, .ref pa, .int (bI pr), .int (nI rc), .int (nI out.length), .int (nI dp)])), (pa, .inl (g.2.1 1, 4000, .inl (aI PA))), (y, .inr (4, [.int (nI ki), .int (nI st), va_rf ar, .int (oI none), .int (oI none), .int (oI none)]))]) (fun (r0 : Option Value) (w0 : va_W) => ∃ ok : Bool, ∃ c2 : Option Nat, ∃ nu2 : Option Nat, ∃ co2 : Option Nat, ∃ tk : Tok, ∃ ou : List Nat, ∃ PB : Nat → Nat, r0 = some (.int (bI ok)) ∧ w0 = [(p, .inr (6, [.ref t, .ref bk, .ref a])), (a, .inr (2, [.ref t, .int (nI tk.1), .int (nI tk.2.1), .int (nI tk.2.2.1), .int (oI tk.2.2.2.1), va_rf (wR g tk.2.2.2.2)])), (t, .inr (1, [.ref tb, .int (nI k)])), (tb, .inl (g.2.1 1, 2000, .inl (aI T))), (bk, .inr (5, [.ref ra, .ref pa, .int (bI pr), .int (nI rc), .int (nI ou.length), .int (nI dp)])), (pa, .inl (g.2.1 1, 4000, .inl (aI PB))), (y, .inr (4, [.int (nI ki), .int (nI st), va_rf ar, .int (oI c2), .int (oI nu2), .int (oI co2)]))] ∧ ((ok, c2, nu2, co2, tk, ou) = pNums T k ki ((so, sta, en, v, wd), out)) ∧ (TokOK k tk) ∧ (ou.length ≤ 2 * tk.2.1) ∧ (OutAt PB ou)) := by
  refine Cn.of R_Parser [(0, .ref p), (1, .ref y)] (by decide) rfl (Nat.le_of_ble_eq_true rfl) rfl ?_
  intro x A Q hR hXl hin C E
  subst hXl
  refine r_aload_n C 1 d_Parser_takeNumbers_0 rfl rfl ?_
  refine r_get C 6 0 d_Parser_takeNumbers_1 ci_Rule fi_Parser_133 rfl (by decide) rfl rfl ?_
  rcases (show ki = 4 ∨ ki = 5 ∨ ki = 6 ∨ (ki ≠ 4 ∧ ki ≠ 5 ∧ ki ≠ 6) by omega) with rfl | rfl | rfl | hno_4
  · skip
    refine r_tableIn C 32 d_Parser_takeNumbers_4 (by decide) (by decide) rfl (by decide) ?_
    refine r_aload_n C 0 d_Parser_takeNumbers_32 rfl rfl ?_
    refine r_aload_n C 1 d_Parser_takeNumbers_33 rfl rfl ?_
    refine j_callV C (c_Parser_takeComparison g (xl x) (p := p) (a := a) (t := t) (tb := tb) (bk := bk) (ra := ra) (pa := pa) (k := k) (so := so) (sta := sta) (en := en) (rc := rc) (dp := dp) (T := T) (PA := PA) (v := v) (wd := wd) (pr := pr) (out := out) (y := y) (ki := 4) (st := st) (ar := ar) (c := none) (nu := none) (co := none) (by first | assumption | rfl | omega) (by first | assumption | rfl | omega) (by first | assumption | rfl | omega) (by first | assumption | rfl | omega) (by first | assumption | rfl | omega)) (Sp.of (wr := []) [0, 1, 2, 3, 4, 5, 6] [] rfl rfl rfl rfl (by decide)) d_Parser_takeNumbers_34 lk_Parser_136 mw_Parser_takeComparison vw_Parser_takeComparison (q0 := 0) rfl rfl (fit_of hR (by first | decide | (simp only [rmk]; omega)) (by first | decide | (simp only [rmk]; omega)) (by first | decide | (simp only [rmk]; omega)) (by first | decide | (simp only [rmk]; omega))) rfl (cat8 (Nat.le_of_ble_eq_true rfl)) (As := [.ref y]) (rest := []) rfl (fun r_34 w_34 hp_34 => ?_)
    obtain ⟨ok_34, c2_34, nu2_34, tk_34, ou_34, PB_34, rfl, rfl, hx_34, hO2_34, hc2_34, ho2_34⟩ := hp_34
    refine r_after (ws' := [(p, .inr (6, [.ref t, .ref bk, .ref a])), (a, .inr (2, [.ref t, .int (nI tk_34.1), .int (nI tk_34.2.1), .int (nI tk_34.2.2.1), .int (oI tk_34.2.2.2.1), va_rf (wR g tk_34.2.2.2.2)])), (t, .inr (1, [.ref tb, .int (nI k)])), (tb, .inl (g.2.1 1, 2000, .inl (aI T))), (bk, .inr (5, [.ref ra, .ref pa, .int (bI pr), .int (nI rc), .int (nI ou_34.length), .int (nI dp)])), (pa, .inl (g.2.1 1, 4000, .inl (aI PB_34))), (y, .inr (4, [.int (nI 4), .int (nI st), va_rf ar, .int (oI c2_34), .int (oI nu2_34), .int (oI none)]))]) (st' := [.int (bI ok_34)]) (n1 := 0) (n2 := 0) [0, 1, 2, 3, 4, 5, 6] rfl rfl rfl rfl rfl ?_
    refine r_bret C E d_Parser_takeNumbers_37 (by first | decide | omega | (simp only [rmk]; omega)) (by first | decide | omega | (simp only [rmk]; omega)) ?_
    exact ⟨_, _, _, none, _, _, _, rfl, rfl, (pNums_4 hx_34).symm, hO2_34, hc2_34, ho2_34⟩
  · skip
    refine r_tableIn C 38 d_Parser_takeNumbers_4 (by decide) (by decide) rfl (by decide) ?_
    refine r_aload_n C 1 d_Parser_takeNumbers_38 rfl rfl ?_
    refine r_aload_n C 0 d_Parser_takeNumbers_39 rfl rfl ?_
    refine r_iconst C (nI 0) d_Parser_takeNumbers_40 (by decide) ?_
    refine r_ldc C (nI 999999) d_Parser_takeNumbers_41 k_Parser_139 ?_
    refine j_callV C (c_Parser_takeNumber g (xl x) (p := p) (a := a) (t := t) (tb := tb) (bk := bk) (ra := ra) (pa := pa) (k := k) (so := so) (sta := sta) (en := en) (rc := rc) (dp := dp) (T := T) (PA := PA) (v := v) (wd := wd) (pr := pr) (out := out) (lo := 0) (hi := 999999) (by first | assumption | rfl | omega) (by first | assumption | rfl | omega) (by first | assumption | rfl | omega) (by first | assumption | rfl | omega) (by first | assumption | rfl | omega) (by first | assumption | rfl | omega) (by first | assumption | rfl | omega)) (Sp.of (wr := [(y, .inr (4, [.int (nI 5), .int (nI st), va_rf ar, .int (oI none), .int (oI none), .int (oI none)]))]) [0, 1, 2, 3, 4, 5] [6] rfl rfl rfl rfl (by decide)) d_Parser_takeNumbers_43 lk_Parser_110 mw_Parser_takeNumber vw_Parser_takeNumber (q0 := 0) rfl rfl (fit_of hR (by first | decide | (simp only [rmk]; omega)) (by first | decide | (simp only [rmk]; omega)) (by first | decide | (simp only [rmk]; omega)) (by first | decide | (simp only [rmk]; omega))) rfl (cat8 (Nat.le_of_ble_eq_true rfl)) (As := [.int (nI 0), .int (nI 999999)]) (rest := [.ref y]) rfl (fun r_43 w_43 hp_43 => ?_)
    obtain ⟨nr_43, tk_43, ou_43, PB_43, rfl, rfl, hx_43, hb_43, hO2_43, hc2_43, ho2_43⟩ := hp_43
    refine r_after (ws' := [(p, .inr (6, [.ref t, .ref bk, .ref a])), (a, .inr (2, [.ref t, .int (nI tk_43.1), .int (nI tk_43.2.1), .int (nI tk_43.2.2.1), .int (oI tk_43.2.2.2.1), va_rf (wR g tk_43.2.2.2.2)])), (t, .inr (1, [.ref tb, .int (nI k)])), (tb, .inl (g.2.1 1, 2000, .inl (aI T))), (bk, .inr (5, [.ref ra, .ref pa, .int (bI pr), .int (nI rc), .int (nI ou_43.length), .int (nI dp)])), (pa, .inl (g.2.1 1, 4000, .inl (aI PB_43))), (y, .inr (4, [.int (nI 5), .int (nI st), va_rf ar, .int (oI none), .int (oI none), .int (oI none)]))]) (st' := [.int (oI nr_43), .ref y]) (n1 := 0) (n2 := 0) [1, 2, 3, 4, 5, 6, 0] rfl rfl rfl rfl rfl ?_
    refine r_put C (ws' := [(p, .inr (6, [.ref t, .ref bk, .ref a])), (a, .inr (2, [.ref t, .int (nI tk_43.1), .int (nI tk_43.2.1), .int (nI tk_43.2.2.1), .int (oI tk_43.2.2.2.1), va_rf (wR g tk_43.2.2.2.2)])), (t, .inr (1, [.ref tb, .int (nI k)])), (tb, .inl (g.2.1 1, 2000, .inl (aI T))), (bk, .inr (5, [.ref ra, .ref pa, .int (bI pr), .int (nI rc), .int (nI ou_43.length), .int (nI dp)])), (pa, .inl (g.2.1 1, 4000, .inl (aI PB_43))), (y, .inr (4, [.int (nI 5), .int (nI st), va_rf ar, .int (oI none), .int (oI none), .int (oI nr_43)]))]) 6 5 d_Parser_takeNumbers_46 ci_Rule fi_Parser_140 rfl (by decide) rfl rfl (rfl) (rfl) (by simp) rfl ?_
    refine r_aload_n C 1 d_Parser_takeNumbers_49 rfl rfl ?_
    refine r_get C 6 5 d_Parser_takeNumbers_50 ci_Rule fi_Parser_140 rfl (by decide) rfl rfl ?_
    refine r_iconst C ((-1)) d_Parser_takeNumbers_53 (by decide) ?_
    refine r_ocmp_eq C 69 d_Parser_takeNumbers_54 (by decide) (by assumption) (fun c_54 => ?_) (fun c_54 => ?_)
    · subst c_54
      refine r_norm2 (ws' := [(p, .inr (6, [.ref t, .ref bk, .ref a])), (a, .inr (2, [.ref t, .int (nI tk_43.1), .int (nI tk_43.2.1), .int (nI tk_43.2.2.1), .int (oI tk_43.2.2.2.1), va_rf (wR g tk_43.2.2.2.2)])), (t, .inr (1, [.ref tb, .int (nI k)])), (tb, .inl (g.2.1 1, 2000, .inl (aI T))), (bk, .inr (5, [.ref ra, .ref pa, .int (bI pr), .int (nI rc), .int (nI ou_43.length), .int (nI dp)])), (pa, .inl (g.2.1 1, 4000, .inl (aI PB_43))), (y, .inr (4, [.int (nI 5), .int (nI st), va_rf ar, .int (-1), .int (-1), .int (-1)]))]) (st' := []) (lv' := [(0, .ref p), (1, .ref y)]) rfl rfl rfl ?_
      refine r_iconst C (nI 0) d_Parser_takeNumbers_69 (by decide) ?_
      refine r_eqS (st' := [.int (bI false)]) rfl ?_
      refine r_bret C E d_Parser_takeNumbers_70 (by first | decide | omega | (simp only [rmk]; omega)) (by first | decide | omega | (simp only [rmk]; omega)) ?_
      exact ⟨false, none, none, none, _, _, _, rfl, rfl, (pNums_5n hx_43).symm, hO2_43, hc2_43, ho2_43⟩
    · obtain ⟨v_54, rfl⟩ := c_54
      refine r_norm2 (ws' := [(p, .inr (6, [.ref t, .ref bk, .ref a])), (a, .inr (2, [.ref t, .int (nI tk_43.1), .int (nI tk_43.2.1), .int (nI tk_43.2.2.1), .int (oI tk_43.2.2.2.1), va_rf (wR g tk_43.2.2.2.2)])), (t, .inr (1, [.ref tb, .int (nI k)])), (tb, .inl (g.2.1 1, 2000, .inl (aI T))), (bk, .inr (5, [.ref ra, .ref pa, .int (bI pr), .int (nI rc), .int (nI ou_43.length), .int (nI dp)])), (pa, .inl (g.2.1 1, 4000, .inl (aI PB_43))), (y, .inr (4, [.int (nI 5), .int (nI st), va_rf ar, .int (oI none), .int (oI none), .int (nI v_54)]))]) (st' := []) (lv' := [(0, .ref p), (1, .ref y)]) rfl rfl rfl ?_
      refine r_aload_n C 0 d_Parser_takeNumbers_57 rfl rfl ?_
      refine r_aload_n C 1 d_Parser_takeNumbers_58 rfl rfl ?_
      refine j_callV C (c_Parser_takeComparison g (xl x) (p := p) (a := a) (t := t) (tb := tb) (bk := bk) (ra := ra) (pa := pa) (k := k) (so := tk_43.1) (sta := tk_43.2.1) (en := tk_43.2.2.1) (rc := rc) (dp := dp) (T := T) (PA := PB_43) (v := tk_43.2.2.2.1) (wd := tk_43.2.2.2.2) (pr := pr) (out := ou_43) (y := y) (ki := 5) (st := st) (ar := ar) (c := none) (nu := none) (co := some v_54) (by first | assumption | rfl | omega) (by first | assumption | rfl | omega) (by first | assumption | rfl | omega) (by first | assumption | rfl | omega) (by first | assumption | rfl | omega)) (Sp.of (wr := []) [0, 1, 2, 3, 4, 5, 6] [] rfl rfl rfl rfl (by decide)) d_Parser_takeNumbers_59 lk_Parser_136 mw_Parser_takeComparison vw_Parser_takeComparison (q0 := 0) rfl rfl (fit_of hR (by first | decide | (simp only [rmk]; omega)) (by first | decide | (simp only [rmk]; omega)) (by first | decide | (simp only [rmk]; omega)) (by first | decide | (simp only [rmk]; omega))) rfl (cat8 (Nat.le_of_ble_eq_true rfl)) (As := [.ref y]) (rest := []) rfl (fun r_59 w_59 hp_59 => ?_)
      obtain ⟨ok_59, c2_59, nu2_59, tk_59, ou_59, PB_59, rfl, rfl, hx_59, hO2_59, hc2_59, ho2_59⟩ := hp_59
      refine r_after (ws' := [(p, .inr (6, [.ref t, .ref bk, .ref a])), (a, .inr (2, [.ref t, .int (nI tk_59.1), .int (nI tk_59.2.1), .int (nI tk_59.2.2.1), .int (oI tk_59.2.2.2.1), va_rf (wR g tk_59.2.2.2.2)])), (t, .inr (1, [.ref tb, .int (nI k)])), (tb, .inl (g.2.1 1, 2000, .inl (aI T))), (bk, .inr (5, [.ref ra, .ref pa, .int (bI pr), .int (nI rc), .int (nI ou_59.length), .int (nI dp)])), (pa, .inl (g.2.1 1, 4000, .inl (aI PB_59))), (y, .inr (4, [.int (nI 5), .int (nI st), va_rf ar, .int (oI c2_59), .int (oI nu2_59), .int (oI (some v_54))]))]) (st' := [.int (bI ok_59)]) (n1 := 0) (n2 := 0) [0, 1, 2, 3, 4, 5, 6] rfl rfl rfl rfl rfl ?_
      refine r_bif_eq C 69 d_Parser_takeNumbers_62 (by decide) (fun c_62 => ?_) (fun c_62 => ?_)
      · skip
        refine r_iconst C (nI 0) d_Parser_takeNumbers_69 (by decide) ?_
        refine r_eqS (st' := [.int (bI false)]) rfl ?_
        refine r_bret C E d_Parser_takeNumbers_70 (by first | decide | omega | (simp only [rmk]; omega)) (by first | decide | omega | (simp only [rmk]; omega)) ?_
        subst c_62; exact ⟨false, _, _, _, _, _, _, rfl, rfl, (pNums_5 hx_43 hx_59).symm, hO2_59, hc2_59, ho2_59⟩
      · skip
        refine r_iconst C (nI 1) d_Parser_takeNumbers_65 (by decide) ?_
        refine r_goto C 70 d_Parser_takeNumbers_66 (by decide) ?_
        refine r_eqS (st' := [.int (bI true)]) rfl ?_
        refine r_bret C E d_Parser_takeNumbers_70 (by first | decide | omega | (simp only [rmk]; omega)) (by first | decide | omega | (simp only [rmk]; omega)) ?_
        subst c_62; exact ⟨true, _, _, _, _, _, _, rfl, rfl, (pNums_5 hx_43 hx_59).symm, hO2_59, hc2_59, ho2_59⟩
  · skip
    refine r_tableIn C 71 d_Parser_takeNumbers_4 (by decide) (by decide) rfl (by decide) ?_
    refine r_aload_n C 1 d_Parser_takeNumbers_71 rfl rfl ?_
    refine r_aload_n C 0 d_Parser_takeNumbers_72 rfl rfl ?_
    refine r_iconst C (nI 0) d_Parser_takeNumbers_73 (by decide) ?_
    refine r_bipush C (nI 9) d_Parser_takeNumbers_74 (by decide) ?_
    refine j_callV C (c_Parser_takeNumber g (xl x) (p := p) (a := a) (t := t) (tb := tb) (bk := bk) (ra := ra) (pa := pa) (k := k) (so := so) (sta := sta) (en := en) (rc := rc) (dp := dp) (T := T) (PA := PA) (v := v) (wd := wd) (pr := pr) (out := out) (lo := 0) (hi := 9) (by first | assumption | rfl | omega) (by first | assumption | rfl | omega) (by first | assumption | rfl | omega) (by first | assumption | rfl | omega) (by first | assumption | rfl | omega) (by first | assumption | rfl | omega) (by first | assumption | rfl | omega)) (Sp.of (wr := [(y, .inr (4, [.int (nI 6), .int (nI st), va_rf ar, .int (oI none), .int (oI none), .int (oI none)]))]) [0, 1, 2, 3, 4, 5] [6] rfl rfl rfl rfl (by decide)) d_Parser_takeNumbers_76 lk_Parser_110 mw_Parser_takeNumber vw_Parser_takeNumber (q0 := 0) rfl rfl (fit_of hR (by first | decide | (simp only [rmk]; omega)) (by first | decide | (simp only [rmk]; omega)) (by first | decide | (simp only [rmk]; omega)) (by first | decide | (simp only [rmk]; omega))) rfl (cat8 (Nat.le_of_ble_eq_true rfl)) (As := [.int (nI 0), .int (nI 9)]) (rest := [.ref y]) rfl (fun r_76 w_76 hp_76 => ?_)
    obtain ⟨nr_76, tk_76, ou_76, PB_76, rfl, rfl, hx_76, hb_76, hO2_76, hc2_76, ho2_76⟩ := hp_76
    refine r_after (ws' := [(p, .inr (6, [.ref t, .ref bk, .ref a])), (a, .inr (2, [.ref t, .int (nI tk_76.1), .int (nI tk_76.2.1), .int (nI tk_76.2.2.1), .int (oI tk_76.2.2.2.1), va_rf (wR g tk_76.2.2.2.2)])), (t, .inr (1, [.ref tb, .int (nI k)])), (tb, .inl (g.2.1 1, 2000, .inl (aI T))), (bk, .inr (5, [.ref ra, .ref pa, .int (bI pr), .int (nI rc), .int (nI ou_76.length), .int (nI dp)])), (pa, .inl (g.2.1 1, 4000, .inl (aI PB_76))), (y, .inr (4, [.int (nI 6), .int (nI st), va_rf ar, .int (oI none), .int (oI none), .int (oI none)]))]) (st' := [.int (oI nr_76), .ref y]) (n1 := 0) (n2 := 0) [1, 2, 3, 4, 5, 6, 0] rfl rfl rfl rfl rfl ?_
    refine r_put C (ws' := [(p, .inr (6, [.ref t, .ref bk, .ref a])), (a, .inr (2, [.ref t, .int (nI tk_76.1), .int (nI tk_76.2.1), .int (nI tk_76.2.2.1), .int (oI tk_76.2.2.2.1), va_rf (wR g tk_76.2.2.2.2)])), (t, .inr (1, [.ref tb, .int (nI k)])), (tb, .inl (g.2.1 1, 2000, .inl (aI T))), (bk, .inr (5, [.ref ra, .ref pa, .int (bI pr), .int (nI rc), .int (nI ou_76.length), .int (nI dp)])), (pa, .inl (g.2.1 1, 4000, .inl (aI PB_76))), (y, .inr (4, [.int (nI 6), .int (nI st), va_rf ar, .int (oI none), .int (oI nr_76), .int (oI none)]))]) 6 4 d_Parser_takeNumbers_79 ci_Rule fi_Parser_143 rfl (by decide) rfl rfl (rfl) (rfl) (by simp) rfl ?_
    refine r_aload_n C 1 d_Parser_takeNumbers_82 rfl rfl ?_
    refine r_get C 6 4 d_Parser_takeNumbers_83 ci_Rule fi_Parser_143 rfl (by decide) rfl rfl ?_
    refine r_iconst C ((-1)) d_Parser_takeNumbers_86 (by decide) ?_
    refine r_ocmp_eq C 94 d_Parser_takeNumbers_87 (by decide) (by assumption) (fun c_87 => ?_) (fun c_87 => ?_)
    · subst c_87
      refine r_norm2 (ws' := [(p, .inr (6, [.ref t, .ref bk, .ref a])), (a, .inr (2, [.ref t, .int (nI tk_76.1), .int (nI tk_76.2.1), .int (nI tk_76.2.2.1), .int (oI tk_76.2.2.2.1), va_rf (wR g tk_76.2.2.2.2)])), (t, .inr (1, [.ref tb, .int (nI k)])), (tb, .inl (g.2.1 1, 2000, .inl (aI T))), (bk, .inr (5, [.ref ra, .ref pa, .int (bI pr), .int (nI rc), .int (nI ou_76.length), .int (nI dp)])), (pa, .inl (g.2.1 1, 4000, .inl (aI PB_76))), (y, .inr (4, [.int (nI 6), .int (nI st), va_rf ar, .int (-1), .int (-1), .int (-1)]))]) (st' := []) (lv' := [(0, .ref p), (1, .ref y)]) rfl rfl rfl ?_
      refine r_iconst C (nI 0) d_Parser_takeNumbers_94 (by decide) ?_
      refine r_eqS (st' := [.int (bI false)]) rfl ?_
      refine r_bret C E d_Parser_takeNumbers_95 (by first | decide | omega | (simp only [rmk]; omega)) (by first | decide | omega | (simp only [rmk]; omega)) ?_
      exact ⟨false, none, none, none, _, _, _, rfl, rfl, (pNums_6 hx_76).symm, hO2_76, hc2_76, ho2_76⟩
    · obtain ⟨v_87, rfl⟩ := c_87
      refine r_norm2 (ws' := [(p, .inr (6, [.ref t, .ref bk, .ref a])), (a, .inr (2, [.ref t, .int (nI tk_76.1), .int (nI tk_76.2.1), .int (nI tk_76.2.2.1), .int (oI tk_76.2.2.2.1), va_rf (wR g tk_76.2.2.2.2)])), (t, .inr (1, [.ref tb, .int (nI k)])), (tb, .inl (g.2.1 1, 2000, .inl (aI T))), (bk, .inr (5, [.ref ra, .ref pa, .int (bI pr), .int (nI rc), .int (nI ou_76.length), .int (nI dp)])), (pa, .inl (g.2.1 1, 4000, .inl (aI PB_76))), (y, .inr (4, [.int (nI 6), .int (nI st), va_rf ar, .int (oI none), .int (nI v_87), .int (oI none)]))]) (st' := []) (lv' := [(0, .ref p), (1, .ref y)]) rfl rfl rfl ?_
      refine r_iconst C (nI 1) d_Parser_takeNumbers_90 (by decide) ?_
      refine r_goto C 95 d_Parser_takeNumbers_91 (by decide) ?_
      refine r_eqS (st' := [.int (bI true)]) rfl ?_
      refine r_bret C E d_Parser_takeNumbers_95 (by first | decide | omega | (simp only [rmk]; omega)) (by first | decide | omega | (simp only [rmk]; omega)) ?_
      exact ⟨true, none, some v_87, none, _, _, _, rfl, rfl, (pNums_6 hx_76).symm, hO2_76, hc2_76, ho2_76⟩
  · skip
    refine r_tableOut C 96 d_Parser_takeNumbers_4 (by rw [nI_toInt (by omega)]; omega) (by decide) ?_
    refine r_iconst C (nI 1) d_Parser_takeNumbers_96 (by decide) ?_
    refine r_eqS (st' := [.int (bI true)]) rfl ?_
    refine r_bret C E d_Parser_takeNumbers_97 (by first | decide | omega | (simp only [rmk]; omega)) (by first | decide | omega | (simp only [rmk]; omega)) ?_
    exact ⟨true, none, none, none, (so, sta, en, v, wd), _, _, rfl, rfl, (pNums_d hno_4).symm, hO, hcap, ho⟩
