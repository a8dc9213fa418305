theorem cmpN_so {T : Nat → Nat} {so sta en z : Nat} {v wd : Option Nat} (h : some z = cmpN T (so, sta, en, v, wd)) : so ≠ 0 := by
  rintro rfl
  simp [cmpN, isSg] at h
theorem cmpN_lv {T : Nat → Nat} {so sta en z : Nat} {v wd : Option Nat} (h : some z = cmpN T (so, sta, en, v, wd)) : so ≠ 0 ∧ so ≠ 4 := by
  constructor <;> (rintro rfl; simp [cmpN, isSg] at h)
/-- a comparison and its number: whether they are there; what they are -/
def pCmp (T : Nat → Nat) (k : Nat) (nu : Option Nat) (x : TO) : Bool × Option Nat × Option Nat × TO := match cmpN T x.1 with
  | none => (false, none, nu, x)
  | some c => ((pNum T k 0 999999 (tTake T k x)).1.isSome, some c, (pNum T k 0 999999 (tTake T k x)).1, (pNum T k 0 999999 (tTake T k x)).2)
theorem pCmp_none {T : Nat → Nat} {k : Nat} {nu : Option Nat} {x : TO} (h : none = cmpN T x.1) : pCmp T k nu x = (false, none, nu, x) := by rw [pCmp, ← h]
theorem pCmp_some {T : Nat → Nat} {k c : Nat} {nu nr : Option Nat} {x y z : TO} (h : some c = cmpN T x.1) (h1 : y = tTake T k x) (h2 : (nr, z) = pNum T k 0 999999 y) : pCmp T k nu x = (nr.isSome, some c, nr, z) := by rw [pCmp, ← h]; simp only []; rw [← h1, ← h2]
/-- what stands behind a rule's word -/
def pNums (T : Nat → Nat) (k ki : Nat) (x : TO) : Bool × Option Nat × Option Nat × Option Nat × TO :=
  if ki = 4 then ((pCmp T k none x).1, (pCmp T k none x).2.1, (pCmp T k none x).2.2.1, none, (pCmp T k none x).2.2.2)
  else if ki = 5 then match pNum T k 0 999999 x with
    | (none, y) => (false, none, none, none, y)
    | (some z, y) => ((pCmp T k none y).1, (pCmp T k none y).2.1, (pCmp T k none y).2.2.1, some z, (pCmp T k none y).2.2.2)
  else if ki = 6 then ((pNum T k 0 9 x).1.isSome, none, (pNum T k 0 9 x).1, none, (pNum T k 0 9 x).2)
  else (true, none, none, none, x)
theorem pNums_4 {T : Nat → Nat} {k : Nat} {x y : TO} {ok : Bool} {c nu : Option Nat} (h : (ok, c, nu, y) = pCmp T k none x) : pNums T k 4 x = (ok, c, nu, none, y) := by simp [pNums, ← h]
theorem pNums_5n {T : Nat → Nat} {k : Nat} {x y : TO} (h : (none, y) = pNum T k 0 999999 x) : pNums T k 5 x = (false, none, none, none, y) := by simp [pNums, ← h]
theorem pNums_5 {T : Nat → Nat} {k z : Nat} {x y w : TO} {ok : Bool} {c nu : Option Nat} (h : (some z, y) = pNum T k 0 999999 x) (h2 : (ok, c, nu, w) = pCmp T k none y) : pNums T k 5 x = (ok, c, nu, some z, w) := by simp [pNums, ← h, ← h2]
theorem pNums_6 {T : Nat → Nat} {k : Nat} {x y : TO} {nr : Option Nat} (h : (nr, y) = pNum T k 0 9 x) : pNums T k 6 x = (nr.isSome, none, nr, none, y) := by simp [pNums, ← h]
theorem pNums_d {T : Nat → Nat} {k ki : Nat} {x : TO} (h : ki ≠ 4 ∧ ki ≠ 5 ∧ ki ≠ 6) : pNums T k ki x = (true, none, none, none, x) := by simp [pNums, h.1, h.2.1, h.2.2]

set_option maxRecDepth 100000 in
theorem fi_Parser_127 : FI R_Parser 127 R_Rule F_Rule 4 := Or.inr ⟨"RuleReader", (nw (i := 472) rfl rfl)⟩
set_option maxRecDepth 100000 in
theorem fi_Parser_137 : FI R_Parser 137 R_Rule F_Rule 3 := Or.inr ⟨"RuleReader", (nw (i := 468) rfl rfl)⟩
set_option maxRecDepth 100000 in
theorem k_Parser_123 : Cond.constant R_Parser 123 (nI 999999) ∈ GW := (gw (i := 498) rfl rfl)
set_option maxRecDepth 100000 in
theorem lk_Parser_100 : LK R_Parser 100 y_Parser_takeNumber := Or.inl (gw (i := 499) rfl rfl)
set_option maxRecDepth 100000 in
theorem lk_Parser_133 : LK R_Parser 133 y_Parser_comparisonNext := Or.inl (gw (i := 494) rfl rfl)
set_option maxRecDepth 100000 in
theorem mw_Parser_comparisonNext : MW y_Parser_comparisonNext b_Parser_comparisonNext 1 (some .int) 0 := ⟨(gw (i := 497) rfl rfl), (gw (i := 76) rfl rfl), by decide +kernel⟩
set_option maxRecDepth 100000 in
theorem mw_Parser_takeNumber : MW y_Parser_takeNumber b_Parser_takeNumber 4 (some .int) 2 := ⟨(gw (i := 502) rfl rfl), (gw (i := 76) rfl rfl), by decide +kernel⟩
set_option maxRecDepth 100000 in
theorem vw_Parser_comparisonNext : VW y_Parser_comparisonNext := ⟨(gw (i := 496) rfl rfl), (gw (i := 10) rfl rfl)⟩
set_option maxRecDepth 100000 in
theorem vw_Parser_takeNumber : VW y_Parser_takeNumber := ⟨(gw (i := 501) rfl rfl), (gw (i := 11) rfl rfl)⟩
theorem d_Parser_takeComparison_0 : decode b_Parser_takeComparison 0 = .ok (.aload_n 1, 1) := by decide +kernel
theorem d_Parser_takeComparison_1 : decode b_Parser_takeComparison 1 = .ok (.aload_n 0, 1) := by decide +kernel
theorem d_Parser_takeComparison_2 : decode b_Parser_takeComparison 2 = .ok (.invokevirtual 133, 3) := by decide +kernel
theorem d_Parser_takeComparison_5 : decode b_Parser_takeComparison 5 = .ok (.putfield 137, 3) := by decide +kernel
theorem d_Parser_takeComparison_8 : decode b_Parser_takeComparison 8 = .ok (.aload_n 1, 1) := by decide +kernel
theorem d_Parser_takeComparison_9 : decode b_Parser_takeComparison 9 = .ok (.getfield 137, 3) := by decide +kernel
theorem d_Parser_takeComparison_12 : decode b_Parser_takeComparison 12 = .ok (.iconst (-1), 1) := by decide +kernel
theorem d_Parser_takeComparison_13 : decode b_Parser_takeComparison 13 = .ok (.if_icmp .ne 5, 3) := by decide +kernel
theorem d_Parser_takeComparison_16 : decode b_Parser_takeComparison 16 = .ok (.iconst 0, 1) := by decide +kernel
theorem d_Parser_takeComparison_17 : decode b_Parser_takeComparison 17 = .ok (.ireturn, 1) := by decide +kernel
theorem d_Parser_takeComparison_18 : decode b_Parser_takeComparison 18 = .ok (.aload_n 0, 1) := by decide +kernel
theorem d_Parser_takeComparison_19 : decode b_Parser_takeComparison 19 = .ok (.getfield 20, 3) := by decide +kernel
theorem d_Parser_takeComparison_22 : decode b_Parser_takeComparison 22 = .ok (.invokevirtual 49, 3) := by decide +kernel
theorem d_Parser_takeComparison_25 : decode b_Parser_takeComparison 25 = .ok (.aload_n 1, 1) := by decide +kernel
theorem d_Parser_takeComparison_26 : decode b_Parser_takeComparison 26 = .ok (.aload_n 0, 1) := by decide +kernel
theorem d_Parser_takeComparison_27 : decode b_Parser_takeComparison 27 = .ok (.iconst 0, 1) := by decide +kernel
theorem d_Parser_takeComparison_28 : decode b_Parser_takeComparison 28 = .ok (.ldc 123, 2) := by decide +kernel
theorem d_Parser_takeComparison_30 : decode b_Parser_takeComparison 30 = .ok (.invokevirtual 100, 3) := by decide +kernel
theorem d_Parser_takeComparison_33 : decode b_Parser_takeComparison 33 = .ok (.putfield 127, 3) := by decide +kernel
theorem d_Parser_takeComparison_36 : decode b_Parser_takeComparison 36 = .ok (.aload_n 1, 1) := by decide +kernel
theorem d_Parser_takeComparison_37 : decode b_Parser_takeComparison 37 = .ok (.getfield 127, 3) := by decide +kernel
theorem d_Parser_takeComparison_40 : decode b_Parser_takeComparison 40 = .ok (.iconst (-1), 1) := by decide +kernel
theorem d_Parser_takeComparison_41 : decode b_Parser_takeComparison 41 = .ok (.if_icmp .eq 7, 3) := by decide +kernel
theorem d_Parser_takeComparison_44 : decode b_Parser_takeComparison 44 = .ok (.iconst 1, 1) := by decide +kernel
theorem d_Parser_takeComparison_45 : decode b_Parser_takeComparison 45 = .ok (.goto 4, 3) := by decide +kernel
theorem d_Parser_takeComparison_48 : decode b_Parser_takeComparison 48 = .ok (.iconst 0, 1) := by decide +kernel
theorem d_Parser_takeComparison_49 : decode b_Parser_takeComparison 49 = .ok (.ireturn, 1) := by decide +kernel
set_option maxHeartbeats 4000000 in
set_option maxRecDepth 100000 in
theorem c_Parser_takeComparison (g : GG) (l : Launch) {p : Nat} {bk : Nat} {ra : Nat} {pa : Nat} {k : Nat} {so : Nat} {sta : Nat} {en : Nat} {ee : Nat} {rc : Nat} {dp : Nat} {a : Nat} {t : Nat} {zs : Nat} {zb : Nat} {ze : Nat} {zv : Nat} {zw : Nat} {cnt : Nat} {nx : Nat} {T : Nat → Nat} {ZS : Nat → Nat} {ZB : Nat → Nat} {ZE : Nat → Nat} {ZV : Nat → Option Nat} {ZW : Nat → Option Nat} {v : Option Nat} {wd : Option Nat} {pr : Bool} {out : List Nat} {y : Nat} {ki : Nat} {st : Nat} {ar : Option Nat} {c : Option Nat} {nu : Option Nat} {co : Option Nat}  (hk : k ≤ 2000) (hT : ∀ j, T j < 256) (hO : TokOK k (so, sta, en, v, wd)) (hA : CutA g T k cnt ZS ZB ZE ZV ZW) (hcap : nth T k nx = ((so, sta, en, v, wd), out)) (ho : nx < cnt) : Cn g l y_Parser_takeComparison b_Parser_takeComparison 2 (some .boolean) (rmk 2 0 0 44) [.ref p, .ref y] ([(p, .inr (6, [.ref bk, .ref a])), (a, .inr (2, [.ref t, .ref zs, .ref zb, .ref ze, .ref zv, .ref zw, .int (nI cnt), .int (nI nx), .int (nI so), .int (nI sta), .int (nI ee), .int (oI v), va_rf (wR g wd)])), (zs, .inl (g.2.1 0, 2001, .inl (aI ZS))), (zb, .inl (g.2.1 0, 2001, .inl (aI ZB))), (ze, .inl (g.2.1 0, 2001, .inl (aI ZE))), (zv, .inl (g.2.1 0, 2001, .inl (oA ZV))), (zw, .inl (g.2.1 6, 2001, .inr (.inr (.inr (.inr ZW))))), (bk, .inr (5, [.ref ra, .ref pa, .int (bI pr), .int (nI rc), .int (nI 0), .int (nI dp)])), (y, .inr (4, [.int (nI ki), .int (nI st), va_rf ar, .int (oI c), .int (oI nu), .int (oI co)]))]) (fun (r0 : Option Value) (w0 : va_W) => ∃ ok : Bool, ∃ c2 : Option Nat, ∃ nu2 : Option Nat, ∃ tk : Tok, ∃ ou : List Nat, ∃ nx2 : Nat, r0 = some (.int (bI ok)) ∧ w0 = [(p, .inr (6, [.ref bk, .ref a])), (a, .inr (2, [.ref t, .ref zs, .ref zb, .ref ze, .ref zv, .ref zw, .int (nI cnt), .int (nI nx2), .int (nI tk.1), .int (nI tk.2.1), .int (nI ee), .int (oI tk.2.2.2.1), va_rf (wR g tk.2.2.2.2)])), (zs, .inl (g.2.1 0, 2001, .inl (aI ZS))), (zb, .inl (g.2.1 0, 2001, .inl (aI ZB))), (ze, .inl (g.2.1 0, 2001, .inl (aI ZE))), (zv, .inl (g.2.1 0, 2001, .inl (oA ZV))), (zw, .inl (g.2.1 6, 2001, .inr (.inr (.inr (.inr ZW))))), (bk, .inr (5, [.ref ra, .ref pa, .int (bI pr), .int (nI rc), .int (nI 0), .int (nI dp)])), (y, .inr (4, [.int (nI ki), .int (nI st), va_rf ar, .int (oI c2), .int (oI nu2), .int (oI co)]))] ∧ ((ok, c2, nu2, tk, ou) = pCmp T k nu ((so, sta, en, v, wd), out)) ∧ (TokOK k tk) ∧ (nth T k nx2 = (tk, ou)) ∧ (nx2 < cnt)) := by
  refine Cn.of R_Parser [(0, .ref p), (1, .ref y)] (by decide) rfl (Nat.le_of_ble_eq_true rfl) rfl ?_
  intro x A Q hR hXl hin C E
  subst hXl
  refine r_aload_n C 1 d_Parser_takeComparison_0 rfl rfl ?_
  refine r_aload_n C 0 d_Parser_takeComparison_1 rfl rfl ?_
  refine j_callV C (c_Parser_comparisonNext g (xl x) (p := p) (bk := bk) (k := k) (so := so) (sta := sta) (en := en) (ee := ee) (a := a) (t := t) (zs := zs) (zb := zb) (ze := ze) (zv := zv) (zw := zw) (cnt := cnt) (nx := nx) (T := T) (v := v) (wd := wd) (out := out) (by first | assumption | rfl | omega) (by first | assumption | rfl | omega) (by first | assumption | rfl | omega)) (Sp.of (wr := [(zs, .inl (g.2.1 0, 2001, .inl (aI ZS))), (zb, .inl (g.2.1 0, 2001, .inl (aI ZB))), (ze, .inl (g.2.1 0, 2001, .inl (aI ZE))), (zv, .inl (g.2.1 0, 2001, .inl (oA ZV))), (zw, .inl (g.2.1 6, 2001, .inr (.inr (.inr (.inr ZW))))), (bk, .inr (5, [.ref ra, .ref pa, .int (bI pr), .int (nI rc), .int (nI 0), .int (nI dp)])), (y, .inr (4, [.int (nI ki), .int (nI st), va_rf ar, .int (oI c), .int (oI nu), .int (oI co)]))]) [0, 1] [2, 3, 4, 5, 6, 7, 8] rfl rfl rfl rfl (by decide)) d_Parser_takeComparison_2 lk_Parser_133 mw_Parser_comparisonNext vw_Parser_comparisonNext (q0 := 0) rfl rfl (fit_of hR (by first | decide | (simp only [rmk]; omega)) (by first | decide | (simp only [rmk]; omega)) (by first | decide | (simp only [rmk]; omega)) (by first | decide | (simp only [rmk]; omega))) rfl (cat8 (Nat.le_of_ble_eq_true rfl)) (As := []) (rest := [.ref y]) rfl (fun r_2 w_2 hp_2 => ?_)
  obtain ⟨nc_2, rfl, rfl, hnc_2, hb_2⟩ := hp_2
  refine r_after (ws' := [(p, .inr (6, [.ref bk, .ref a])), (a, .inr (2, [.ref t, .ref zs, .ref zb, .ref ze, .ref zv, .ref zw, .int (nI cnt), .int (nI nx), .int (nI so), .int (nI sta), .int (nI ee), .int (oI v), va_rf (wR g wd)])), (zs, .inl (g.2.1 0, 2001, .inl (aI ZS))), (zb, .inl (g.2.1 0, 2001, .inl (aI ZB))), (ze, .inl (g.2.1 0, 2001, .inl (aI ZE))), (zv, .inl (g.2.1 0, 2001, .inl (oA ZV))), (zw, .inl (g.2.1 6, 2001, .inr (.inr (.inr (.inr ZW))))), (bk, .inr (5, [.ref ra, .ref pa, .int (bI pr), .int (nI rc), .int (nI 0), .int (nI dp)])), (y, .inr (4, [.int (nI ki), .int (nI st), va_rf ar, .int (oI c), .int (oI nu), .int (oI co)]))]) (st' := [.int (oI nc_2), .ref y]) (n1 := 0) (n2 := 0) [7, 8, 0, 1, 2, 3, 4, 5, 6] rfl rfl rfl rfl rfl ?_
  refine r_put C (ws' := [(p, .inr (6, [.ref bk, .ref a])), (a, .inr (2, [.ref t, .ref zs, .ref zb, .ref ze, .ref zv, .ref zw, .int (nI cnt), .int (nI nx), .int (nI so), .int (nI sta), .int (nI ee), .int (oI v), va_rf (wR g wd)])), (zs, .inl (g.2.1 0, 2001, .inl (aI ZS))), (zb, .inl (g.2.1 0, 2001, .inl (aI ZB))), (ze, .inl (g.2.1 0, 2001, .inl (aI ZE))), (zv, .inl (g.2.1 0, 2001, .inl (oA ZV))), (zw, .inl (g.2.1 6, 2001, .inr (.inr (.inr (.inr ZW))))), (bk, .inr (5, [.ref ra, .ref pa, .int (bI pr), .int (nI rc), .int (nI 0), .int (nI dp)])), (y, .inr (4, [.int (nI ki), .int (nI st), va_rf ar, .int (oI nc_2), .int (oI nu), .int (oI co)]))]) 8 3 d_Parser_takeComparison_5 ci_Rule fi_Parser_137 rfl (by decide) rfl rfl (rfl) (rfl) (by simp) rfl ?_
  refine r_aload_n C 1 d_Parser_takeComparison_8 rfl rfl ?_
  refine r_get C 8 3 d_Parser_takeComparison_9 ci_Rule fi_Parser_137 rfl (by decide) rfl rfl ?_
  refine r_iconst C ((-1)) d_Parser_takeComparison_12 (by decide) ?_
  refine r_ocmp_ne C 18 d_Parser_takeComparison_13 (by decide) (by assumption) (fun c_13 => ?_) (fun c_13 => ?_)
  · obtain ⟨v_13, rfl⟩ := c_13
    refine r_norm2 (ws' := [(p, .inr (6, [.ref bk, .ref a])), (a, .inr (2, [.ref t, .ref zs, .ref zb, .ref ze, .ref zv, .ref zw, .int (nI cnt), .int (nI nx), .int (nI so), .int (nI sta), .int (nI ee), .int (oI v), va_rf (wR g wd)])), (zs, .inl (g.2.1 0, 2001, .inl (aI ZS))), (zb, .inl (g.2.1 0, 2001, .inl (aI ZB))), (ze, .inl (g.2.1 0, 2001, .inl (aI ZE))), (zv, .inl (g.2.1 0, 2001, .inl (oA ZV))), (zw, .inl (g.2.1 6, 2001, .inr (.inr (.inr (.inr ZW))))), (bk, .inr (5, [.ref ra, .ref pa, .int (bI pr), .int (nI rc), .int (nI 0), .int (nI dp)])), (y, .inr (4, [.int (nI ki), .int (nI st), va_rf ar, .int (nI v_13), .int (oI nu), .int (oI co)]))]) (st' := []) (lv' := [(0, .ref p), (1, .ref y)]) rfl rfl rfl ?_
    refine r_aload_n C 0 d_Parser_takeComparison_18 rfl rfl ?_
    refine r_get C 0 1 d_Parser_takeComparison_19 ci_Parser fi_Parser_20 rfl (by decide) rfl rfl ?_
    refine j_callV C (c_Tokens_advance g (xl x) (k := k) (so := so) (sta := sta) (en := en) (ee := ee) (a := a) (t := t) (zs := zs) (zb := zb) (ze := ze) (zv := zv) (zw := zw) (cnt := cnt) (nx := nx) (T := T) (ZS := ZS) (ZB := ZB) (ZE := ZE) (ZV := ZV) (ZW := ZW) (v := v) (wd := wd) (out := out) (by first | assumption | rfl | omega) (by first | assumption | rfl | omega) (by first | assumption | rfl | omega) (by first | assumption | rfl | omega) (cmpN_lv hnc_2)) (Sp.of (wr := [(p, .inr (6, [.ref bk, .ref a])), (bk, .inr (5, [.ref ra, .ref pa, .int (bI pr), .int (nI rc), .int (nI 0), .int (nI dp)])), (y, .inr (4, [.int (nI ki), .int (nI st), va_rf ar, .int (nI v_13), .int (oI nu), .int (oI co)]))]) [1, 2, 3, 4, 5, 6] [0, 7, 8] rfl rfl rfl rfl (by decide)) d_Parser_takeComparison_22 lk_Parser_49 mw_Tokens_advance vw_Tokens_advance (q0 := 0) rfl rfl (fit_of hR (by first | decide | (simp only [rmk]; omega)) (by first | decide | (simp only [rmk]; omega)) (by first | decide | (simp only [rmk]; omega)) (by first | decide | (simp only [rmk]; omega))) rfl (cat8 (Nat.le_of_ble_eq_true rfl)) (As := []) (rest := []) rfl (fun r_22 w_22 hp_22 => ?_)
    obtain ⟨tk_22, ou_22, nx2_22, rfl, rfl, hx_22, hO2_22, hc2_22, ho2_22⟩ := hp_22
    refine r_after (ws' := [(p, .inr (6, [.ref bk, .ref a])), (a, .inr (2, [.ref t, .ref zs, .ref zb, .ref ze, .ref zv, .ref zw, .int (nI cnt), .int (nI nx2_22), .int (nI tk_22.1), .int (nI tk_22.2.1), .int (nI ee), .int (oI tk_22.2.2.2.1), va_rf (wR g tk_22.2.2.2.2)])), (zs, .inl (g.2.1 0, 2001, .inl (aI ZS))), (zb, .inl (g.2.1 0, 2001, .inl (aI ZB))), (ze, .inl (g.2.1 0, 2001, .inl (aI ZE))), (zv, .inl (g.2.1 0, 2001, .inl (oA ZV))), (zw, .inl (g.2.1 6, 2001, .inr (.inr (.inr (.inr ZW))))), (bk, .inr (5, [.ref ra, .ref pa, .int (bI pr), .int (nI rc), .int (nI 0), .int (nI dp)])), (y, .inr (4, [.int (nI ki), .int (nI st), va_rf ar, .int (nI v_13), .int (oI nu), .int (oI co)]))]) (st' := []) (n1 := 0) (n2 := 0) [0, 3, 4, 5, 6, 7, 8, 1, 2] rfl rfl rfl rfl rfl ?_
    refine r_aload_n C 1 d_Parser_takeComparison_25 rfl rfl ?_
    refine r_aload_n C 0 d_Parser_takeComparison_26 rfl rfl ?_
    refine r_iconst C (nI 0) d_Parser_takeComparison_27 (by decide) ?_
    refine r_ldc C (nI 999999) d_Parser_takeComparison_28 k_Parser_123 ?_
    refine j_callV C (c_Parser_takeNumber g (xl x) (p := p) (bk := bk) (ra := ra) (pa := pa) (k := k) (so := tk_22.1) (sta := tk_22.2.1) (en := tk_22.2.2.1) (ee := ee) (rc := rc) (dp := dp) (a := a) (t := t) (zs := zs) (zb := zb) (ze := ze) (zv := zv) (zw := zw) (cnt := cnt) (nx := nx2_22) (T := T) (ZS := ZS) (ZB := ZB) (ZE := ZE) (ZV := ZV) (ZW := ZW) (v := tk_22.2.2.2.1) (wd := tk_22.2.2.2.2) (pr := pr) (out := ou_22) (lo := 0) (hi := 999999) (by first | assumption | rfl | omega) (by first | assumption | rfl | omega) (by first | assumption | rfl | omega) (by first | assumption | rfl | omega) (by first | assumption | rfl | omega) (by first | assumption | rfl | omega) (by first | assumption | rfl | omega) (by first | assumption | rfl | omega)) (Sp.of (wr := [(y, .inr (4, [.int (nI ki), .int (nI st), va_rf ar, .int (nI v_13), .int (oI nu), .int (oI co)]))]) [0, 1, 2, 3, 4, 5, 6, 7] [8] rfl rfl rfl rfl (by decide)) d_Parser_takeComparison_30 lk_Parser_100 mw_Parser_takeNumber vw_Parser_takeNumber (q0 := 0) rfl rfl (fit_of hR (by first | decide | (simp only [rmk]; omega)) (by first | decide | (simp only [rmk]; omega)) (by first | decide | (simp only [rmk]; omega)) (by first | decide | (simp only [rmk]; omega))) rfl (cat8 (Nat.le_of_ble_eq_true rfl)) (As := [.int (nI 0), .int (nI 999999)]) (rest := [.ref y]) rfl (fun r_30 w_30 hp_30 => ?_)
    obtain ⟨nr_30, tk_30, ou_30, nx2_30, rfl, rfl, hx_30, hb_30, hO2_30, hc2_30, ho2_30⟩ := hp_30
    refine r_after (ws' := [(p, .inr (6, [.ref bk, .ref a])), (a, .inr (2, [.ref t, .ref zs, .ref zb, .ref ze, .ref zv, .ref zw, .int (nI cnt), .int (nI nx2_30), .int (nI tk_30.1), .int (nI tk_30.2.1), .int (nI ee), .int (oI tk_30.2.2.2.1), va_rf (wR g tk_30.2.2.2.2)])), (zs, .inl (g.2.1 0, 2001, .inl (aI ZS))), (zb, .inl (g.2.1 0, 2001, .inl (aI ZB))), (ze, .inl (g.2.1 0, 2001, .inl (aI ZE))), (zv, .inl (g.2.1 0, 2001, .inl (oA ZV))), (zw, .inl (g.2.1 6, 2001, .inr (.inr (.inr (.inr ZW))))), (bk, .inr (5, [.ref ra, .ref pa, .int (bI pr), .int (nI rc), .int (nI 0), .int (nI dp)])), (y, .inr (4, [.int (nI ki), .int (nI st), va_rf ar, .int (nI v_13), .int (oI nu), .int (oI co)]))]) (st' := [.int (oI nr_30), .ref y]) (n1 := 0) (n2 := 0) [1, 2, 3, 4, 5, 6, 7, 8, 0] rfl rfl rfl rfl rfl ?_
    refine r_put C (ws' := [(p, .inr (6, [.ref bk, .ref a])), (a, .inr (2, [.ref t, .ref zs, .ref zb, .ref ze, .ref zv, .ref zw, .int (nI cnt), .int (nI nx2_30), .int (nI tk_30.1), .int (nI tk_30.2.1), .int (nI ee), .int (oI tk_30.2.2.2.1), va_rf (wR g tk_30.2.2.2.2)])), (zs, .inl (g.2.1 0, 2001, .inl (aI ZS))), (zb, .inl (g.2.1 0, 2001, .inl (aI ZB))), (ze, .inl (g.2.1 0, 2001, .inl (aI ZE))), (zv, .inl (g.2.1 0, 2001, .inl (oA ZV))), (zw, .inl (g.2.1 6, 2001, .inr (.inr (.inr (.inr ZW))))), (bk, .inr (5, [.ref ra, .ref pa, .int (bI pr), .int (nI rc), .int (nI 0), .int (nI dp)])), (y, .inr (4, [.int (nI ki), .int (nI st), va_rf ar, .int (nI v_13), .int (oI nr_30), .int (oI co)]))]) 8 4 d_Parser_takeComparison_33 ci_Rule fi_Parser_127 rfl (by decide) rfl rfl (rfl) (rfl) (by simp) rfl ?_
    refine r_aload_n C 1 d_Parser_takeComparison_36 rfl rfl ?_
    refine r_get C 8 4 d_Parser_takeComparison_37 ci_Rule fi_Parser_127 rfl (by decide) rfl rfl ?_
    refine r_iconst C ((-1)) d_Parser_takeComparison_40 (by decide) ?_
    refine r_ocmp_eq C 48 d_Parser_takeComparison_41 (by decide) (by assumption) (fun c_41 => ?_) (fun c_41 => ?_)
    · subst c_41
      refine r_norm2 (ws' := [(p, .inr (6, [.ref bk, .ref a])), (a, .inr (2, [.ref t, .ref zs, .ref zb, .ref ze, .ref zv, .ref zw, .int (nI cnt), .int (nI nx2_30), .int (nI tk_30.1), .int (nI tk_30.2.1), .int (nI ee), .int (oI tk_30.2.2.2.1), va_rf (wR g tk_30.2.2.2.2)])), (zs, .inl (g.2.1 0, 2001, .inl (aI ZS))), (zb, .inl (g.2.1 0, 2001, .inl (aI ZB))), (ze, .inl (g.2.1 0, 2001, .inl (aI ZE))), (zv, .inl (g.2.1 0, 2001, .inl (oA ZV))), (zw, .inl (g.2.1 6, 2001, .inr (.inr (.inr (.inr ZW))))), (bk, .inr (5, [.ref ra, .ref pa, .int (bI pr), .int (nI rc), .int (nI 0), .int (nI dp)])), (y, .inr (4, [.int (nI ki), .int (nI st), va_rf ar, .int (nI v_13), .int (-1), .int (oI co)]))]) (st' := []) (lv' := [(0, .ref p), (1, .ref y)]) rfl rfl rfl ?_
      refine r_iconst C (nI 0) d_Parser_takeComparison_48 (by decide) ?_
      refine r_eqS (st' := [.int (bI false)]) rfl ?_
      refine r_bret C E d_Parser_takeComparison_49 (by first | decide | omega | (simp only [rmk]; omega)) (by first | decide | omega | (simp only [rmk]; omega)) ?_
      exact ⟨_, _, none, _, _, _, rfl, rfl, (pCmp_some hnc_2 hx_22 hx_30).symm, hO2_30, hc2_30, ho2_30⟩
    · obtain ⟨v_41, rfl⟩ := c_41
      refine r_norm2 (ws' := [(p, .inr (6, [.ref bk, .ref a])), (a, .inr (2, [.ref t, .ref zs, .ref zb, .ref ze, .ref zv, .ref zw, .int (nI cnt), .int (nI nx2_30), .int (nI tk_30.1), .int (nI tk_30.2.1), .int (nI ee), .int (oI tk_30.2.2.2.1), va_rf (wR g tk_30.2.2.2.2)])), (zs, .inl (g.2.1 0, 2001, .inl (aI ZS))), (zb, .inl (g.2.1 0, 2001, .inl (aI ZB))), (ze, .inl (g.2.1 0, 2001, .inl (aI ZE))), (zv, .inl (g.2.1 0, 2001, .inl (oA ZV))), (zw, .inl (g.2.1 6, 2001, .inr (.inr (.inr (.inr ZW))))), (bk, .inr (5, [.ref ra, .ref pa, .int (bI pr), .int (nI rc), .int (nI 0), .int (nI dp)])), (y, .inr (4, [.int (nI ki), .int (nI st), va_rf ar, .int (nI v_13), .int (nI v_41), .int (oI co)]))]) (st' := []) (lv' := [(0, .ref p), (1, .ref y)]) rfl rfl rfl ?_
      refine r_iconst C (nI 1) d_Parser_takeComparison_44 (by decide) ?_
      refine r_goto C 49 d_Parser_takeComparison_45 (by decide) ?_
      refine r_eqS (st' := [.int (bI true)]) rfl ?_
      refine r_bret C E d_Parser_takeComparison_49 (by first | decide | omega | (simp only [rmk]; omega)) (by first | decide | omega | (simp only [rmk]; omega)) ?_
      exact ⟨_, _, some v_41, _, _, _, rfl, rfl, (pCmp_some hnc_2 hx_22 hx_30).symm, hO2_30, hc2_30, ho2_30⟩
  · subst c_13
    refine r_norm2 (ws' := [(p, .inr (6, [.ref bk, .ref a])), (a, .inr (2, [.ref t, .ref zs, .ref zb, .ref ze, .ref zv, .ref zw, .int (nI cnt), .int (nI nx), .int (nI so), .int (nI sta), .int (nI ee), .int (oI v), va_rf (wR g wd)])), (zs, .inl (g.2.1 0, 2001, .inl (aI ZS))), (zb, .inl (g.2.1 0, 2001, .inl (aI ZB))), (ze, .inl (g.2.1 0, 2001, .inl (aI ZE))), (zv, .inl (g.2.1 0, 2001, .inl (oA ZV))), (zw, .inl (g.2.1 6, 2001, .inr (.inr (.inr (.inr ZW))))), (bk, .inr (5, [.ref ra, .ref pa, .int (bI pr), .int (nI rc), .int (nI 0), .int (nI dp)])), (y, .inr (4, [.int (nI ki), .int (nI st), va_rf ar, .int (-1), .int (oI nu), .int (oI co)]))]) (st' := []) (lv' := [(0, .ref p), (1, .ref y)]) rfl rfl rfl ?_
    refine r_iconst C (nI 0) d_Parser_takeComparison_16 (by decide) ?_
    refine r_eqS (st' := [.int (bI false)]) rfl ?_
    refine r_bret C E d_Parser_takeComparison_17 (by first | decide | omega | (simp only [rmk]; omega)) (by first | decide | omega | (simp only [rmk]; omega)) ?_
    exact ⟨false, none, nu, (so, sta, en, v, wd), _, _, rfl, rfl, (pCmp_none hnc_2).symm, hO, hcap, ho⟩
