/-- an each or where: its word, its numbers -/
abbrev LayerV : Type := Nat × Option Nat × Option Nat
/-- a rule: kind, place, its layers (the innermost first), comparison, number, what is counted -/
abbrev RuleV : Type := Nat × Nat × List LayerV × Option Nat × Option Nat × Option Nat
/-- the layers lie as a chain of objects -/
def ChainAt (g : GG) (PP : va_W) : Option Nat → List LayerV → Prop
  | ou, [] => ou = none
  | ou, l :: ls => ∃ (a : Nat) (ou' : Option Nat), ou = some a ∧ (a, .inr (3, [.ref (g.2.2.1 l.1), .int (oI l.2.1), .int (oI l.2.2), va_rf ou', .int (nI (ls.length + 1))])) ∈ PP ∧ l.1 < 23 ∧ ChainAt g PP ou' ls
def RuleAt (g : GG) (PP : va_W) (a : Nat) (r : RuleV) : Prop := ∃ ar : Option Nat, (a, .inr (4, [.int (nI r.1), .int (nI r.2.1), va_rf ar, .int (oI r.2.2.2.1), .int (oI r.2.2.2.2.1), .int (oI r.2.2.2.2.2)])) ∈ PP ∧ ChainAt g PP ar r.2.2.1
def RulesAt (g : GG) (PP : va_W) (RA : Nat → Option Nat) (rules : List RuleV) : Prop := ∀ (i : Nat) (r : RuleV), rules[i]? = some r → ∃ a, RA i = some a ∧ RuleAt g PP a r
def givenN (rules : List RuleV) (z : Int32) (m : Nat) : Nat := (rules.take m).countP (fun r => decide (r.1 = 6 ∧ oI r.2.2.2.2.1 = z))
theorem givenN_succ {rules : List RuleV} {z : Int32} {c : Nat} {rv : RuleV} (h : rules[c]? = some rv) : givenN rules z (c + 1) = if rv.1 = 6 ∧ oI rv.2.2.2.2.1 = z then givenN rules z c + 1 else givenN rules z c := by
  unfold givenN
  rw [List.take_succ, h, List.countP_append]
  by_cases hq : rv.1 = 6 ∧ oI rv.2.2.2.2.1 = z
  · rw [if_pos hq]; simp [List.countP_cons, hq]
  · rw [if_neg hq]; simp [List.countP_cons, hq]
/-- the array holds the list from its first place on -/
def OutAt (PA : Nat → Nat) (out : List Nat) : Prop := ∀ (j v : Nat), out[j]? = some v → PA j = v
theorem outAt_push {PA : Nat → Nat} {out : List Nat} (h : OutAt PA out) (c : Nat) : OutAt (up PA out.length c) (out ++ [c]) := by
  intro j v hj
  by_cases e : j = out.length
  · subst e
    simp at hj
    rw [up_self, hj]
  · rw [up_ne _ _ e]
    have hl : j < out.length := by
      have := (List.getElem?_eq_some_iff.mp hj).1
      simp at this
      omega
    rw [List.getElem?_append_left hl] at hj
    exact h j v hj
/-- what is printed behind out: a blank if out isn't empty, then the bytes from s to before e -/
def prt (T : Nat → Nat) (s e : Nat) (out : List Nat) : List Nat := out ++ (if out = [] then [] else [32]) ++ (List.range (e - s)).map (fun j => T (s + j))
theorem prt_0 {T : Nat → Nat} {s : Nat} {out : List Nat} (h : out ≠ []) : out ++ [32] = prt T s s out := by simp [prt, h]
theorem prt_nil {T : Nat → Nat} {s : Nat} {out : List Nat} (h : out = []) : out = prt T s s out := by simp [prt, h]
theorem prt_succ {T : Nat → Nat} {s c : Nat} {out : List Nat} (h : s ≤ c) : prt T s (c + 1) out = prt T s c out ++ [T c] := by
  unfold prt
  rw [show c + 1 - s = (c - s) + 1 by omega, List.range_succ, List.map_append, ← List.append_assoc]
  simp [show s + (c - s) = c by omega]

set_option maxRecDepth 100000 in
theorem fi_Book_39 : FI R_Book 39 R_Rule F_Rule 0 := Or.inr ⟨"RuleReader", (nw (i := 459) rfl rfl)⟩
set_option maxRecDepth 100000 in
theorem fi_Book_42 : FI R_Book 42 R_Rule F_Rule 4 := Or.inr ⟨"RuleReader", (nw (i := 470) rfl rfl)⟩
set_option maxRecDepth 100000 in
theorem lk_Book_35 : LK R_Book 35 y_Book_ruleAt := Or.inl (gw (i := 592) rfl rfl)
set_option maxRecDepth 100000 in
theorem lk_Book_45 : LK R_Book 45 y_Book_printByte := Or.inl (gw (i := 567) rfl rfl)
set_option maxRecDepth 100000 in
theorem lk_Book_49 : LK R_Book 49 y_Text_at := Or.inl (gw (i := 571) rfl rfl)
set_option maxRecDepth 100000 in
theorem mw_Book_printByte : MW y_Book_printByte b_Book_printByte 2 none 1 := ⟨(gw (i := 570) rfl rfl), (gw (i := 75) rfl rfl), by decide +kernel⟩
set_option maxRecDepth 100000 in
theorem mw_Book_ruleAt : MW y_Book_ruleAt b_Book_ruleAt 2 (some (.object "RuleReader$Rule")) 1 := ⟨(gw (i := 595) rfl rfl), (gw (i := 75) rfl rfl), by decide +kernel⟩
set_option maxRecDepth 100000 in
theorem vw_Book_printByte : VW y_Book_printByte := ⟨(gw (i := 569) rfl rfl), (gw (i := 15) rfl rfl)⟩
set_option maxRecDepth 100000 in
theorem vw_Book_ruleAt : VW y_Book_ruleAt := ⟨(gw (i := 593) rfl rfl), (gw (i := 594) rfl rfl)⟩
theorem d_Book_add_0 : decode b_Book_add 0 = .ok (.aload_n 0, 1) := by decide +kernel
theorem d_Book_add_1 : decode b_Book_add 1 = .ok (.getfield 25, 3) := by decide +kernel
theorem d_Book_add_4 : decode b_Book_add 4 = .ok (.ifCond .lt 15, 3) := by decide +kernel
theorem d_Book_add_7 : decode b_Book_add 7 = .ok (.aload_n 0, 1) := by decide +kernel
theorem d_Book_add_8 : decode b_Book_add 8 = .ok (.getfield 25, 3) := by decide +kernel
theorem d_Book_add_11 : decode b_Book_add 11 = .ok (.aload_n 0, 1) := by decide +kernel
theorem d_Book_add_12 : decode b_Book_add 12 = .ok (.getfield 11, 3) := by decide +kernel
theorem d_Book_add_15 : decode b_Book_add 15 = .ok (.arraylength, 1) := by decide +kernel
theorem d_Book_add_16 : decode b_Book_add 16 = .ok (.if_icmp .lt 5, 3) := by decide +kernel
theorem d_Book_add_19 : decode b_Book_add 19 = .ok (.iconst 0, 1) := by decide +kernel
theorem d_Book_add_20 : decode b_Book_add 20 = .ok (.ireturn, 1) := by decide +kernel
theorem d_Book_add_21 : decode b_Book_add 21 = .ok (.aload_n 0, 1) := by decide +kernel
theorem d_Book_add_22 : decode b_Book_add 22 = .ok (.getfield 11, 3) := by decide +kernel
theorem d_Book_add_25 : decode b_Book_add 25 = .ok (.aload_n 0, 1) := by decide +kernel
theorem d_Book_add_26 : decode b_Book_add 26 = .ok (.getfield 25, 3) := by decide +kernel
theorem d_Book_add_29 : decode b_Book_add 29 = .ok (.aload_n 1, 1) := by decide +kernel
theorem d_Book_add_30 : decode b_Book_add 30 = .ok (.aastore, 1) := by decide +kernel
theorem d_Book_add_31 : decode b_Book_add 31 = .ok (.aload_n 0, 1) := by decide +kernel
theorem d_Book_add_32 : decode b_Book_add 32 = .ok (.dup, 1) := by decide +kernel
theorem d_Book_add_33 : decode b_Book_add 33 = .ok (.getfield 25, 3) := by decide +kernel
theorem d_Book_add_36 : decode b_Book_add 36 = .ok (.iconst 1, 1) := by decide +kernel
theorem d_Book_add_37 : decode b_Book_add 37 = .ok (.iadd, 1) := by decide +kernel
theorem d_Book_add_38 : decode b_Book_add 38 = .ok (.putfield 25, 3) := by decide +kernel
theorem d_Book_add_41 : decode b_Book_add 41 = .ok (.iconst 1, 1) := by decide +kernel
theorem d_Book_add_42 : decode b_Book_add 42 = .ok (.ireturn, 1) := by decide +kernel
theorem d_Book_countGiven_0 : decode b_Book_countGiven 0 = .ok (.iconst 0, 1) := by decide +kernel
theorem d_Book_countGiven_1 : decode b_Book_countGiven 1 = .ok (.istore_n 2, 1) := by decide +kernel
theorem d_Book_countGiven_2 : decode b_Book_countGiven 2 = .ok (.iconst 0, 1) := by decide +kernel
theorem d_Book_countGiven_3 : decode b_Book_countGiven 3 = .ok (.istore_n 3, 1) := by decide +kernel
theorem d_Book_countGiven_4 : decode b_Book_countGiven 4 = .ok (.iload_n 3, 1) := by decide +kernel
theorem d_Book_countGiven_5 : decode b_Book_countGiven 5 = .ok (.aload_n 0, 1) := by decide +kernel
theorem d_Book_countGiven_6 : decode b_Book_countGiven 6 = .ok (.getfield 25, 3) := by decide +kernel
theorem d_Book_countGiven_9 : decode b_Book_countGiven 9 = .ok (.if_icmp .ge 43, 3) := by decide +kernel
theorem d_Book_countGiven_12 : decode b_Book_countGiven 12 = .ok (.aload_n 0, 1) := by decide +kernel
theorem d_Book_countGiven_13 : decode b_Book_countGiven 13 = .ok (.iload_n 3, 1) := by decide +kernel
theorem d_Book_countGiven_14 : decode b_Book_countGiven 14 = .ok (.invokevirtual 35, 3) := by decide +kernel
theorem d_Book_countGiven_17 : decode b_Book_countGiven 17 = .ok (.astore 4, 2) := by decide +kernel
theorem d_Book_countGiven_19 : decode b_Book_countGiven 19 = .ok (.aload 4, 2) := by decide +kernel
theorem d_Book_countGiven_21 : decode b_Book_countGiven 21 = .ok (.ifnull 25, 3) := by decide +kernel
theorem d_Book_countGiven_24 : decode b_Book_countGiven 24 = .ok (.aload 4, 2) := by decide +kernel
theorem d_Book_countGiven_26 : decode b_Book_countGiven 26 = .ok (.getfield 39, 3) := by decide +kernel
theorem d_Book_countGiven_29 : decode b_Book_countGiven 29 = .ok (.bipush 6, 2) := by decide +kernel
theorem d_Book_countGiven_31 : decode b_Book_countGiven 31 = .ok (.if_icmp .ne 15, 3) := by decide +kernel
theorem d_Book_countGiven_34 : decode b_Book_countGiven 34 = .ok (.aload 4, 2) := by decide +kernel
theorem d_Book_countGiven_36 : decode b_Book_countGiven 36 = .ok (.getfield 42, 3) := by decide +kernel
theorem d_Book_countGiven_39 : decode b_Book_countGiven 39 = .ok (.iload_n 1, 1) := by decide +kernel
theorem d_Book_countGiven_40 : decode b_Book_countGiven 40 = .ok (.if_icmp .ne 6, 3) := by decide +kernel
theorem d_Book_countGiven_43 : decode b_Book_countGiven 43 = .ok (.iinc 2 1, 3) := by decide +kernel
theorem d_Book_countGiven_46 : decode b_Book_countGiven 46 = .ok (.iinc 3 1, 3) := by decide +kernel
theorem d_Book_countGiven_49 : decode b_Book_countGiven 49 = .ok (.goto (-45), 3) := by decide +kernel
theorem d_Book_countGiven_52 : decode b_Book_countGiven 52 = .ok (.iload_n 2, 1) := by decide +kernel
theorem d_Book_countGiven_53 : decode b_Book_countGiven 53 = .ok (.ireturn, 1) := by decide +kernel
theorem d_Book_print_0 : decode b_Book_print 0 = .ok (.aload_n 0, 1) := by decide +kernel
theorem d_Book_print_1 : decode b_Book_print 1 = .ok (.getfield 29, 3) := by decide +kernel
theorem d_Book_print_4 : decode b_Book_print 4 = .ok (.ifCond .le 9, 3) := by decide +kernel
theorem d_Book_print_7 : decode b_Book_print 7 = .ok (.aload_n 0, 1) := by decide +kernel
theorem d_Book_print_8 : decode b_Book_print 8 = .ok (.bipush 32, 2) := by decide +kernel
theorem d_Book_print_10 : decode b_Book_print 10 = .ok (.invokevirtual 45, 3) := by decide +kernel
theorem d_Book_print_13 : decode b_Book_print 13 = .ok (.iload_n 2, 1) := by decide +kernel
theorem d_Book_print_14 : decode b_Book_print 14 = .ok (.istore 4, 2) := by decide +kernel
theorem d_Book_print_16 : decode b_Book_print 16 = .ok (.iload 4, 2) := by decide +kernel
theorem d_Book_print_18 : decode b_Book_print 18 = .ok (.iload_n 3, 1) := by decide +kernel
theorem d_Book_print_19 : decode b_Book_print 19 = .ok (.if_icmp .ge 20, 3) := by decide +kernel
theorem d_Book_print_22 : decode b_Book_print 22 = .ok (.aload_n 0, 1) := by decide +kernel
theorem d_Book_print_23 : decode b_Book_print 23 = .ok (.aload_n 1, 1) := by decide +kernel
theorem d_Book_print_24 : decode b_Book_print 24 = .ok (.iload 4, 2) := by decide +kernel
theorem d_Book_print_26 : decode b_Book_print 26 = .ok (.invokevirtual 49, 3) := by decide +kernel
theorem d_Book_print_29 : decode b_Book_print 29 = .ok (.i2c, 1) := by decide +kernel
theorem d_Book_print_30 : decode b_Book_print 30 = .ok (.invokevirtual 45, 3) := by decide +kernel
theorem d_Book_print_33 : decode b_Book_print 33 = .ok (.iinc 4 1, 3) := by decide +kernel
theorem d_Book_print_36 : decode b_Book_print 36 = .ok (.goto (-20), 3) := by decide +kernel
theorem d_Book_print_39 : decode b_Book_print 39 = .ok (.return_, 1) := by decide +kernel
set_option maxHeartbeats 4000000 in
set_option maxRecDepth 100000 in
theorem c_Book_add (g : GG) (l : Launch) {bk : Nat} {ra : Nat} {pa : Nat} {rc : Nat} {pn : Nat} {dp : Nat} {pr : Bool} {y : Nat} {ki : Nat} {st : Nat} {ar : Option Nat} {c : Option Nat} {nu : Option Nat} {co : Option Nat} {RA : Nat → Option Nat}  (h1 : rc ≤ 400) : Cn g l y_Book_add b_Book_add 2 (some .boolean) (rmk 0 0 0 0) [.ref bk, .ref y] ([(bk, .inr (5, [.ref ra, .ref pa, .int (bI pr), .int (nI rc), .int (nI pn), .int (nI dp)])), (ra, .inl (g.2.1 3, 400, .inr (.inr (.inr (.inr RA))))), (y, .inr (4, [.int (nI ki), .int (nI st), va_rf ar, .int (oI c), .int (oI nu), .int (oI co)]))]) (fun (r0 : Option Value) (w0 : va_W) => ∃ ok : Bool, ∃ rc2 : Nat, ∃ RA2 : Nat → Option Nat, r0 = some (.int (bI ok)) ∧ w0 = [(bk, .inr (5, [.ref ra, .ref pa, .int (bI pr), .int (nI rc2), .int (nI pn), .int (nI dp)])), (ra, .inl (g.2.1 3, 400, .inr (.inr (.inr (.inr RA2))))), (y, .inr (4, [.int (nI ki), .int (nI st), va_rf ar, .int (oI c), .int (oI nu), .int (oI co)]))] ∧ ((ok = true ∧ rc < 400 ∧ RA2 = va_up RA rc (some y) ∧ rc2 = rc + 1) ∨ (ok = false ∧ 400 ≤ rc ∧ RA2 = RA ∧ rc2 = rc))) := by
  refine Cn.of R_Book [(0, .ref bk), (1, .ref y)] (by decide) rfl (Nat.le_of_ble_eq_true rfl) rfl ?_
  intro x A Q hR hXl hin C E
  subst hXl
  refine r_aload_n C 0 d_Book_add_0 rfl rfl ?_
  refine r_get C 0 3 d_Book_add_1 ci_Book fi_Book_25 rfl (by decide) rfl rfl ?_
  refine r_nif_lt C 19 d_Book_add_4 (by decide) (by omega) (fun c_4 => ?_) (fun c_4 => ?_)
  · exact absurd c_4 (by omega)
  · skip
    refine r_aload_n C 0 d_Book_add_7 rfl rfl ?_
    refine r_get C 0 3 d_Book_add_8 ci_Book fi_Book_25 rfl (by decide) rfl rfl ?_
    refine r_aload_n C 0 d_Book_add_11 rfl rfl ?_
    refine r_get C 0 0 d_Book_add_12 ci_Book fi_Book_11 rfl (by decide) rfl rfl ?_
    refine r_alen C 1 3 d_Book_add_15 rfl rfl ?_
    refine r_ncmp_lt C 21 d_Book_add_16 (by decide) (by omega) (by omega) (fun c_16 => ?_) (fun c_16 => ?_)
    · skip
      refine r_aload_n C 0 d_Book_add_21 rfl rfl ?_
      refine r_get C 0 0 d_Book_add_22 ci_Book fi_Book_11 rfl (by decide) rfl rfl ?_
      refine r_aload_n C 0 d_Book_add_25 rfl rfl ?_
      refine r_get C 0 3 d_Book_add_26 ci_Book fi_Book_25 rfl (by decide) rfl rfl ?_
      refine r_aload_n C 1 d_Book_add_29 rfl rfl ?_
      refine r_aast C (r := (R_Rule, F_Rule, 6)) (ws' := [(bk, .inr (5, [.ref ra, .ref pa, .int (bI pr), .int (nI rc), .int (nI pn), .int (nI dp)])), (ra, .inl (g.2.1 3, 400, .inr (.inr (.inr (.inr (va_up RA rc (some y))))))), (y, .inr (4, [.int (nI ki), .int (nI st), va_rf ar, .int (oI c), .int (oI nu), .int (oI co)]))]) 1 3 2 d_Book_add_30 rfl rfl rfl rfl (by omega) (by decide) rfl ?_
      refine r_aload_n C 0 d_Book_add_31 rfl rfl ?_
      refine r_dup C d_Book_add_32 rfl ?_
      refine r_get C 0 3 d_Book_add_33 ci_Book fi_Book_25 rfl (by decide) rfl rfl ?_
      refine r_iconst C (nI 1) d_Book_add_36 (by decide) ?_
      refine r_nadd C d_Book_add_37 ?_
      refine r_put C (ws' := [(bk, .inr (5, [.ref ra, .ref pa, .int (bI pr), .int (nI (rc + 1)), .int (nI pn), .int (nI dp)])), (ra, .inl (g.2.1 3, 400, .inr (.inr (.inr (.inr (va_up RA rc (some y))))))), (y, .inr (4, [.int (nI ki), .int (nI st), va_rf ar, .int (oI c), .int (oI nu), .int (oI co)]))]) 0 3 d_Book_add_38 ci_Book fi_Book_25 rfl (by decide) rfl rfl (rfl) (rfl) (by simp) rfl ?_
      refine r_iconst C (nI 1) d_Book_add_41 (by decide) ?_
      refine r_eqS (st' := [.int (bI true)]) rfl ?_
      refine r_bret C E d_Book_add_42 (by first | decide | omega | (simp only [rmk]; omega)) (by first | decide | omega | (simp only [rmk]; omega)) ?_
      exact ⟨_, _, _, rfl, rfl, Or.inl ⟨rfl, by omega, rfl, rfl⟩⟩
    · skip
      refine r_iconst C (nI 0) d_Book_add_19 (by decide) ?_
      refine r_eqS (st' := [.int (bI false)]) rfl ?_
      refine r_bret C E d_Book_add_20 (by first | decide | omega | (simp only [rmk]; omega)) (by first | decide | omega | (simp only [rmk]; omega)) ?_
      exact ⟨_, _, _, rfl, rfl, Or.inr ⟨rfl, by omega, rfl, rfl⟩⟩

set_option maxHeartbeats 4000000 in
set_option maxRecDepth 100000 in
theorem lp_Book_countGiven_4 (g : GG) {bk : Nat} {ra : Nat} {pa : Nat} {pn : Nat} {dp : Nat} {pr : Bool} {z : Int32} {RA : Nat → Option Nat} {rules : List RuleV} {PP : va_W} (h1 : rules.length ≤ 400) (hRA : RulesAt g PP RA rules) (hki : ∀ r ∈ rules, r.1 < 2 ^ 31) {x : X0} {A : Nat → Prop} {Q : State → Prop}  (C : CX x g A R_Book b_Book_countGiven 5) (E : RX x g A Q (some .int) (fun (r0 : Option Value) (w0 : va_W) => r0 = some (.int (nI (givenN rules z rules.length))) ∧ w0 = [(bk, .inr (5, [.ref ra, .ref pa, .int (bI pr), .int (nI rules.length), .int (nI pn), .int (nI dp)])), (ra, .inl (g.2.1 3, 400, .inr (.inr (.inr (.inr RA)))))] ++ PP) (rmk 1 0 0 21).cells (rmk 1 0 0 21).slots) (hR : xR x = (rmk 1 0 0 21)) : ∀ (fuel : Nat) (d : Nat) (c : Nat) (hc : c ≤ rules.length) (hd : d = givenN rules z c), rules.length - c < fuel → J x g A Q 5 ([(bk, .inr (5, [.ref ra, .ref pa, .int (bI pr), .int (nI rules.length), .int (nI pn), .int (nI dp)])), (ra, .inl (g.2.1 3, 400, .inr (.inr (.inr (.inr RA)))))] ++ PP) [(0, .ref bk), (1, .int z), (2, .int (nI d)), (3, .int (nI c))] 4 [] 0 0 := by
  intro fuel
  induction fuel with
  | zero =>
    intro d c hc hd hm
    exact absurd hm (Nat.not_lt_zero _)
  | succ fuel ih =>
    intro d c hc hd hm
    refine r_iload_n C 3 d_Book_countGiven_4 rfl rfl ?_
    refine r_aload_n C 0 d_Book_countGiven_5 rfl rfl ?_
    refine r_get C 0 3 d_Book_countGiven_6 ci_Book fi_Book_25 rfl (by decide) rfl rfl ?_
    refine r_ncmp_ge C 52 d_Book_countGiven_9 (by decide) (by omega) (by omega) (fun c_9 => ?_) (fun c_9 => ?_)
    · skip
      refine r_iload_n C 2 d_Book_countGiven_52 rfl rfl ?_
      refine r_iret C E d_Book_countGiven_53 (by first | decide | omega | (simp only [rmk]; omega)) (by first | decide | omega | (simp only [rmk]; omega)) ?_
      exact ⟨by rw [hd, show c = rules.length by omega], rfl⟩
    · skip
      refine r_aload_n C 0 d_Book_countGiven_12 rfl rfl ?_
      refine r_iload_n C 3 d_Book_countGiven_13 rfl rfl ?_
      refine j_callV C (c_Book_ruleAt g (xl x) (bk := bk) (ra := ra) (pa := pa) (rc := rules.length) (pn := pn) (dp := dp) (pr := pr) (z := nI c) (RA := RA) (by first | assumption | rfl | omega)) (Sp.keep (Sp.of (wr := []) [0, 1] [] rfl rfl rfl rfl (by decide)) PP) d_Book_countGiven_14 lk_Book_35 mw_Book_ruleAt vw_Book_ruleAt (q0 := 0) rfl rfl (fit_of hR (by first | decide | (simp only [rmk]; omega)) (by first | decide | (simp only [rmk]; omega)) (by first | decide | (simp only [rmk]; omega)) (by first | decide | (simp only [rmk]; omega))) rfl (cat8 (Nat.le_of_ble_eq_true rfl)) (As := [.int (nI c)]) (rest := []) rfl (fun r_14 w_14 hp_14 => ?_)
      obtain ⟨rfl, rfl⟩ := hp_14
      refine r_swap ?_
      refine r_afterP (X := [(bk, .inr (5, [.ref ra, .ref pa, .int (bI pr), .int (nI rules.length), .int (nI pn), .int (nI dp)])), (ra, .inl (g.2.1 3, 400, .inr (.inr (.inr (.inr RA)))))]) (X' := [(bk, .inr (5, [.ref ra, .ref pa, .int (bI pr), .int (nI rules.length), .int (nI pn), .int (nI dp)])), (ra, .inl (g.2.1 3, 400, .inr (.inr (.inr (.inr RA)))))]) (pl := PP) (st' := [va_rf (refK RA rules.length (inN (nI c)))]) (n1 := 0) (n2 := 0) [0, 1] rfl rfl rfl rfl rfl rfl ?_
      obtain ⟨rv, hrv⟩ : ∃ rv, rules[c]? = some rv := ⟨_, List.getElem?_eq_getElem (by omega)⟩
      obtain ⟨y, hy, ar, hmem, hch⟩ := hRA c rv hrv
      refine r_eqS (st' := [.ref y]) (by rw [inN_nI (by omega), refK, if_pos (by omega), hy]; rfl) ?_
      refine r_astore C (lv' := [(4, .ref y), (0, .ref bk), (1, .int z), (2, .int (nI d)), (3, .int (nI c))]) d_Book_countGiven_17 (by decide) rfl ?_
      refine r_aload C 0 d_Book_countGiven_19 rfl ?_
      refine r_ifnull C d_Book_countGiven_21 ?_
      have hkr := hki rv (List.mem_of_getElem? hrv)
      refine r_aload C 0 d_Book_countGiven_24 rfl ?_
      refine r_getM C 0 d_Book_countGiven_26 ci_Rule fi_Book_39 rfl (by decide) (List.mem_append_right _ hmem) rfl ?_
      refine r_bipush C (nI 6) d_Book_countGiven_29 (by decide) ?_
      refine r_ncmp_ne C 46 d_Book_countGiven_31 (by decide) (by omega) (by omega) (fun c_31 => ?_) (fun c_31 => ?_)
      · skip
        refine r_iinc C 4 (nI (c + 1)) (lv' := [(3, .int (nI (c + 1))), (4, .ref y), (0, .ref bk), (1, .int z), (2, .int (nI d))]) d_Book_countGiven_46 rfl (nI_inc 1 _) (by decide) rfl ?_
        refine r_goto C 4 d_Book_countGiven_49 (by decide) ?_
        refine r_lv (lv' := [(0, .ref bk), (1, .int z), (2, .int (nI d)), (3, .int (nI (c + 1)))]) [2, 3, 4, 0] rfl ?_
        exact ih d (c + 1) (by first | assumption | rfl | omega) (by first | (rw [givenN_succ hrv, if_neg (fun q => c_31 q.1), ← hd]; done) | (rw [givenN_succ hrv, if_neg (fun q => c_40 q.2), ← hd]; done)) (by omega)
      · skip
        refine r_aload C 0 d_Book_countGiven_34 rfl ?_
        refine r_getM C 4 d_Book_countGiven_36 ci_Rule fi_Book_42 rfl (by decide) (List.mem_append_right _ hmem) rfl ?_
        refine r_iload_n C 2 d_Book_countGiven_39 rfl rfl ?_
        refine r_icmp_ne C 46 d_Book_countGiven_40 (by decide) (fun c_40 => ?_) (fun c_40 => ?_)
        · skip
          refine r_iinc C 4 (nI (c + 1)) (lv' := [(3, .int (nI (c + 1))), (4, .ref y), (0, .ref bk), (1, .int z), (2, .int (nI d))]) d_Book_countGiven_46 rfl (nI_inc 1 _) (by decide) rfl ?_
          refine r_goto C 4 d_Book_countGiven_49 (by decide) ?_
          refine r_lv (lv' := [(0, .ref bk), (1, .int z), (2, .int (nI d)), (3, .int (nI (c + 1)))]) [2, 3, 4, 0] rfl ?_
          exact ih d (c + 1) (by first | assumption | rfl | omega) (by first | (rw [givenN_succ hrv, if_neg (fun q => c_31 q.1), ← hd]; done) | (rw [givenN_succ hrv, if_neg (fun q => c_40 q.2), ← hd]; done)) (by omega)
        · skip
          refine r_iinc C 3 (nI (d + 1)) (lv' := [(2, .int (nI (d + 1))), (4, .ref y), (0, .ref bk), (1, .int z), (3, .int (nI c))]) d_Book_countGiven_43 rfl (nI_inc 1 _) (by decide) rfl ?_
          refine r_iinc C 4 (nI (c + 1)) (lv' := [(3, .int (nI (c + 1))), (2, .int (nI (d + 1))), (4, .ref y), (0, .ref bk), (1, .int z)]) d_Book_countGiven_46 rfl (nI_inc 1 _) (by decide) rfl ?_
          refine r_goto C 4 d_Book_countGiven_49 (by decide) ?_
          refine r_lv (lv' := [(0, .ref bk), (1, .int z), (2, .int (nI (d + 1))), (3, .int (nI (c + 1)))]) [3, 4, 1, 0] rfl ?_
          exact ih (d + 1) (c + 1) (by first | assumption | rfl | omega) (by rw [givenN_succ hrv, if_pos ⟨c_31, c_40⟩, ← hd]) (by omega)
set_option maxHeartbeats 4000000 in
set_option maxRecDepth 100000 in
theorem c_Book_countGiven (g : GG) (l : Launch) {bk : Nat} {ra : Nat} {pa : Nat} {pn : Nat} {dp : Nat} {pr : Bool} {z : Int32} {RA : Nat → Option Nat} {rules : List RuleV} {PP : va_W}  (h1 : rules.length ≤ 400) (hRA : RulesAt g PP RA rules) (hki : ∀ r ∈ rules, r.1 < 2 ^ 31) : Cn g l y_Book_countGiven b_Book_countGiven 5 (some .int) (rmk 1 0 0 21) [.ref bk, .int z] ([(bk, .inr (5, [.ref ra, .ref pa, .int (bI pr), .int (nI rules.length), .int (nI pn), .int (nI dp)])), (ra, .inl (g.2.1 3, 400, .inr (.inr (.inr (.inr RA)))))] ++ PP) (fun (r0 : Option Value) (w0 : va_W) => r0 = some (.int (nI (givenN rules z rules.length))) ∧ w0 = [(bk, .inr (5, [.ref ra, .ref pa, .int (bI pr), .int (nI rules.length), .int (nI pn), .int (nI dp)])), (ra, .inl (g.2.1 3, 400, .inr (.inr (.inr (.inr RA)))))] ++ PP) := by
  refine Cn.of R_Book [(0, .ref bk), (1, .int z)] (by decide) rfl (Nat.le_of_ble_eq_true rfl) rfl ?_
  intro x A Q hR hXl hin C E
  subst hXl
  refine r_iconst C (nI 0) d_Book_countGiven_0 (by decide) ?_
  refine r_istore_n C (lv' := [(2, .int (nI 0)), (0, .ref bk), (1, .int z)]) d_Book_countGiven_1 rfl (by decide) rfl ?_
  refine r_iconst C (nI 0) d_Book_countGiven_2 (by decide) ?_
  refine r_istore_n C (lv' := [(3, .int (nI 0)), (2, .int (nI 0)), (0, .ref bk), (1, .int z)]) d_Book_countGiven_3 rfl (by decide) rfl ?_
  refine r_lv (lv' := [(0, .ref bk), (1, .int z), (2, .int (nI 0)), (3, .int (nI 0))]) [2, 3, 1, 0] rfl ?_
  exact lp_Book_countGiven_4 g (bk := bk) (ra := ra) (pa := pa) (pn := pn) (dp := dp) (pr := pr) (z := z) (RA := RA) (rules := rules) (PP := PP) h1 hRA hki  C E hR _ 0 0 (by first | assumption | rfl | omega) (by first | assumption | rfl | omega) (Nat.lt_succ_self _)

set_option maxHeartbeats 4000000 in
set_option maxRecDepth 100000 in
theorem lp_Book_print_16 (g : GG) {bk : Nat} {ra : Nat} {pa : Nat} {rc : Nat} {dp : Nat} {t : Nat} {tb : Nat} {k : Nat} {s : Nat} {e : Nat} {pr : Bool} {T : Nat → Nat} {PA : Nat → Nat} {out : List Nat} (hk : k ≤ 2000) (hT : ∀ j, T j < 256) (h1 : s ≤ e) (h2 : e ≤ k) (ho : OutAt PA out) (hr : out.length + 1 + (e - s) ≤ 4000) {x : X0} {A : Nat → Prop} {Q : State → Prop}  (C : CX x g A R_Book b_Book_print 5) (E : RX x g A Q none (fun (r0 : Option Value) (w0 : va_W) => ∃ PA2 : Nat → Nat, r0 = none ∧ w0 = [(bk, .inr (5, [.ref ra, .ref pa, .int (bI pr), .int (nI rc), .int (nI ((prt T s e out).length)), .int (nI dp)])), (pa, .inl (g.2.1 1, 4000, .inl (aI PA2))), (t, .inr (1, [.ref tb, .int (nI k)])), (tb, .inl (g.2.1 1, 2000, .inl (aI T)))] ∧ (OutAt PA2 (prt T s e out))) (rmk 1 0 0 21).cells (rmk 1 0 0 21).slots) (hR : xR x = (rmk 1 0 0 21)) : ∀ (fuel : Nat) (c : Nat) (cur : List Nat) (PC : Nat → Nat) (h3 : s ≤ c) (h4 : c ≤ e) (hq : OutAt PC cur) (hcur : cur = prt T s c out) (hlen : cur.length + (e - c) ≤ 4000), e - c < fuel → J x g A Q 5 ([(bk, .inr (5, [.ref ra, .ref pa, .int (bI pr), .int (nI rc), .int (nI cur.length), .int (nI dp)])), (pa, .inl (g.2.1 1, 4000, .inl (aI PC))), (t, .inr (1, [.ref tb, .int (nI k)])), (tb, .inl (g.2.1 1, 2000, .inl (aI T)))]) [(0, .ref bk), (1, .ref t), (2, .int (nI s)), (3, .int (nI e)), (4, .int (nI c))] 16 [] 0 0 := by
  intro fuel
  induction fuel with
  | zero =>
    intro c cur PC h3 h4 hq hcur hlen hm
    exact absurd hm (Nat.not_lt_zero _)
  | succ fuel ih =>
    intro c cur PC h3 h4 hq hcur hlen hm
    refine r_iload C 4 d_Book_print_16 rfl ?_
    refine r_iload_n C 3 d_Book_print_18 rfl rfl ?_
    refine r_ncmp_ge C 39 d_Book_print_19 (by decide) (by omega) (by omega) (fun c_19 => ?_) (fun c_19 => ?_)
    · skip
      refine r_vret C E d_Book_print_39 (by first | decide | omega | (simp only [rmk]; omega)) (by first | decide | omega | (simp only [rmk]; omega)) ?_
      have e1 : c = e := by omega
      subst e1
      subst hcur
      exact ⟨_, rfl, rfl, hq⟩
    · skip
      refine r_aload_n C 0 d_Book_print_22 rfl rfl ?_
      refine r_aload_n C 1 d_Book_print_23 rfl rfl ?_
      refine r_iload C 4 d_Book_print_24 rfl ?_
      refine j_callV C (c_Text_at g (xl x) (t := t) (tb := tb) (k := k) (j := c) (T := T) (by first | assumption | rfl | omega) (by first | assumption | rfl | omega)) (Sp.of (wr := [(bk, .inr (5, [.ref ra, .ref pa, .int (bI pr), .int (nI rc), .int (nI cur.length), .int (nI dp)])), (pa, .inl (g.2.1 1, 4000, .inl (aI PC)))]) [2, 3] [0, 1] rfl rfl rfl rfl (by decide)) d_Book_print_26 lk_Book_49 mw_Text_at vw_Text_at (q0 := 0) rfl rfl (fit_of hR (by first | decide | (simp only [rmk]; omega)) (by first | decide | (simp only [rmk]; omega)) (by first | decide | (simp only [rmk]; omega)) (by first | decide | (simp only [rmk]; omega))) rfl (cat8 (Nat.le_of_ble_eq_true rfl)) (As := [.int (nI c)]) (rest := [.ref bk]) rfl (fun r_26 w_26 hp_26 => ?_)
      obtain ⟨rfl, rfl⟩ := hp_26
      refine r_after (ws' := [(bk, .inr (5, [.ref ra, .ref pa, .int (bI pr), .int (nI rc), .int (nI cur.length), .int (nI dp)])), (pa, .inl (g.2.1 1, 4000, .inl (aI PC))), (t, .inr (1, [.ref tb, .int (nI k)])), (tb, .inl (g.2.1 1, 2000, .inl (aI T)))]) (st' := [.int (oI (atO T k c)), .ref bk]) (n1 := 0) (n2 := 0) [0, 1, 2, 3] rfl rfl rfl rfl rfl ?_
      have hTc := hT c
      refine r_top (v' := nI (T c)) (oI_at (by omega)) ?_
      refine r_i2c C d_Book_print_29 (by omega) ?_
      refine j_callV C (c_Book_printByte g (xl x) (bk := bk) (ra := ra) (pa := pa) (rc := rc) (pn := cur.length) (dp := dp) (pr := pr) (c := T c) (PA := PC) (by first | assumption | rfl | omega) (by first | assumption | rfl | omega)) (Sp.of (wr := [(t, .inr (1, [.ref tb, .int (nI k)])), (tb, .inl (g.2.1 1, 2000, .inl (aI T)))]) [0, 1] [2, 3] rfl rfl rfl rfl (by decide)) d_Book_print_30 lk_Book_45 mw_Book_printByte vw_Book_printByte (q0 := 0) rfl rfl (fit_of hR (by first | decide | (simp only [rmk]; omega)) (by first | decide | (simp only [rmk]; omega)) (by first | decide | (simp only [rmk]; omega)) (by first | decide | (simp only [rmk]; omega))) rfl (cat8 (Nat.le_of_ble_eq_true rfl)) (As := [.int (nI (T c))]) (rest := []) rfl (fun r_30 w_30 hp_30 => ?_)
      obtain ⟨rfl, rfl⟩ := hp_30
      refine r_after (ws' := [(bk, .inr (5, [.ref ra, .ref pa, .int (bI pr), .int (nI rc), .int (nI (cur.length + 1)), .int (nI dp)])), (pa, .inl (g.2.1 1, 4000, .inl (aI (up PC cur.length (T c))))), (t, .inr (1, [.ref tb, .int (nI k)])), (tb, .inl (g.2.1 1, 2000, .inl (aI T)))]) (st' := []) (n1 := 0) (n2 := 0) [2, 3, 0, 1] rfl rfl rfl rfl rfl ?_
      refine r_iinc C 4 (nI (c + 1)) (lv' := [(4, .int (nI (c + 1))), (0, .ref bk), (1, .ref t), (2, .int (nI s)), (3, .int (nI e))]) d_Book_print_33 rfl (nI_inc 1 _) (by decide) rfl ?_
      refine r_goto C 16 d_Book_print_36 (by decide) ?_
      refine r_lv (lv' := [(0, .ref bk), (1, .ref t), (2, .int (nI s)), (3, .int (nI e)), (4, .int (nI (c + 1)))]) [1, 2, 3, 4, 0] rfl ?_
      refine r_eqW (ws' := [(bk, .inr (5, [.ref ra, .ref pa, .int (bI pr), .int (nI rc), .int (nI ((cur ++ [T c]).length)), .int (nI dp)])), (pa, .inl (g.2.1 1, 4000, .inl (aI (up PC cur.length (T c))))), (t, .inr (1, [.ref tb, .int (nI k)])), (tb, .inl (g.2.1 1, 2000, .inl (aI T)))]) (by first | rfl | simp) ?_
      exact ih (c + 1) (cur ++ [T c]) (up PC cur.length (T c)) (by first | assumption | rfl | omega) (by first | assumption | rfl | omega) (outAt_push hq (T c)) (by rw [hcur]; exact (prt_succ h3).symm) (by simp; omega) (by omega)
set_option maxHeartbeats 4000000 in
set_option maxRecDepth 100000 in
theorem c_Book_print (g : GG) (l : Launch) {bk : Nat} {ra : Nat} {pa : Nat} {rc : Nat} {dp : Nat} {t : Nat} {tb : Nat} {k : Nat} {s : Nat} {e : Nat} {pr : Bool} {T : Nat → Nat} {PA : Nat → Nat} {out : List Nat}  (hk : k ≤ 2000) (hT : ∀ j, T j < 256) (h1 : s ≤ e) (h2 : e ≤ k) (ho : OutAt PA out) (hr : out.length + 1 + (e - s) ≤ 4000) : Cn g l y_Book_print b_Book_print 5 none (rmk 1 0 0 21) [.ref bk, .ref t, .int (nI s), .int (nI e)] ([(bk, .inr (5, [.ref ra, .ref pa, .int (bI pr), .int (nI rc), .int (nI out.length), .int (nI dp)])), (pa, .inl (g.2.1 1, 4000, .inl (aI PA))), (t, .inr (1, [.ref tb, .int (nI k)])), (tb, .inl (g.2.1 1, 2000, .inl (aI T)))]) (fun (r0 : Option Value) (w0 : va_W) => ∃ PA2 : Nat → Nat, r0 = none ∧ w0 = [(bk, .inr (5, [.ref ra, .ref pa, .int (bI pr), .int (nI rc), .int (nI ((prt T s e out).length)), .int (nI dp)])), (pa, .inl (g.2.1 1, 4000, .inl (aI PA2))), (t, .inr (1, [.ref tb, .int (nI k)])), (tb, .inl (g.2.1 1, 2000, .inl (aI T)))] ∧ (OutAt PA2 (prt T s e out))) := by
  refine Cn.of R_Book [(0, .ref bk), (1, .ref t), (2, .int (nI s)), (3, .int (nI e))] (by decide) rfl (Nat.le_of_ble_eq_true rfl) rfl ?_
  intro x A Q hR hXl hin C E
  subst hXl
  refine r_aload_n C 0 d_Book_print_0 rfl rfl ?_
  refine r_get C 0 4 d_Book_print_1 ci_Book fi_Book_29 rfl (by decide) rfl rfl ?_
  refine r_nif_le C 13 d_Book_print_4 (by decide) (by omega) (fun c_4 => ?_) (fun c_4 => ?_)
  · skip
    refine r_iload_n C 2 d_Book_print_13 rfl rfl ?_
    refine r_istore C (lv' := [(4, .int (nI s)), (0, .ref bk), (1, .ref t), (2, .int (nI s)), (3, .int (nI e))]) d_Book_print_14 (by decide) rfl ?_
    refine r_lv (lv' := [(0, .ref bk), (1, .ref t), (2, .int (nI s)), (3, .int (nI e)), (4, .int (nI s))]) [1, 2, 3, 4, 0] rfl ?_
    exact lp_Book_print_16 g (bk := bk) (ra := ra) (pa := pa) (rc := rc) (dp := dp) (t := t) (tb := tb) (k := k) (s := s) (e := e) (pr := pr) (T := T) (PA := PA) (out := out) hk hT h1 h2 ho hr  C E hR _ s out PA (by first | assumption | rfl | omega) (by first | assumption | rfl | omega) (ho) (prt_nil (List.eq_nil_of_length_eq_zero (by omega))) (by omega) (Nat.lt_succ_self _)
  · skip
    refine r_aload_n C 0 d_Book_print_7 rfl rfl ?_
    refine r_bipush C (nI 32) d_Book_print_8 (by decide) ?_
    refine j_callV C (c_Book_printByte g (xl x) (bk := bk) (ra := ra) (pa := pa) (rc := rc) (pn := out.length) (dp := dp) (pr := pr) (c := 32) (PA := PA) (by first | assumption | rfl | omega) (by first | assumption | rfl | omega)) (Sp.of (wr := [(t, .inr (1, [.ref tb, .int (nI k)])), (tb, .inl (g.2.1 1, 2000, .inl (aI T)))]) [0, 1] [2, 3] rfl rfl rfl rfl (by decide)) d_Book_print_10 lk_Book_45 mw_Book_printByte vw_Book_printByte (q0 := 0) rfl rfl (fit_of hR (by first | decide | (simp only [rmk]; omega)) (by first | decide | (simp only [rmk]; omega)) (by first | decide | (simp only [rmk]; omega)) (by first | decide | (simp only [rmk]; omega))) rfl (cat8 (Nat.le_of_ble_eq_true rfl)) (As := [.int (nI 32)]) (rest := []) rfl (fun r_10 w_10 hp_10 => ?_)
    obtain ⟨rfl, rfl⟩ := hp_10
    refine r_after (ws' := [(bk, .inr (5, [.ref ra, .ref pa, .int (bI pr), .int (nI rc), .int (nI (out.length + 1)), .int (nI dp)])), (pa, .inl (g.2.1 1, 4000, .inl (aI (up PA out.length 32)))), (t, .inr (1, [.ref tb, .int (nI k)])), (tb, .inl (g.2.1 1, 2000, .inl (aI T)))]) (st' := []) (n1 := 0) (n2 := 0) [2, 3, 0, 1] rfl rfl rfl rfl rfl ?_
    refine r_iload_n C 2 d_Book_print_13 rfl rfl ?_
    refine r_istore C (lv' := [(4, .int (nI s)), (0, .ref bk), (1, .ref t), (2, .int (nI s)), (3, .int (nI e))]) d_Book_print_14 (by decide) rfl ?_
    refine r_lv (lv' := [(0, .ref bk), (1, .ref t), (2, .int (nI s)), (3, .int (nI e)), (4, .int (nI s))]) [1, 2, 3, 4, 0] rfl ?_
    refine r_eqW (ws' := [(bk, .inr (5, [.ref ra, .ref pa, .int (bI pr), .int (nI rc), .int (nI ((out ++ [32]).length)), .int (nI dp)])), (pa, .inl (g.2.1 1, 4000, .inl (aI (up PA out.length 32)))), (t, .inr (1, [.ref tb, .int (nI k)])), (tb, .inl (g.2.1 1, 2000, .inl (aI T)))]) (by first | rfl | simp) ?_
    exact lp_Book_print_16 g (bk := bk) (ra := ra) (pa := pa) (rc := rc) (dp := dp) (t := t) (tb := tb) (k := k) (s := s) (e := e) (pr := pr) (T := T) (PA := PA) (out := out) hk hT h1 h2 ho hr  C E hR _ s (out ++ [32]) (up PA out.length 32) (by first | assumption | rfl | omega) (by first | assumption | rfl | omega) (outAt_push ho 32) (prt_0 (by intro e; subst e; exact absurd c_4 (by decide))) (by simp; omega) (Nat.lt_succ_self _)
