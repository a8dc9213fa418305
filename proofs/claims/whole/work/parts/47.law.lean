section JL
variable {x : X0} {g : GG} {A : Nat → Prop} {Q : State → Prop} {own : String} {cc : ByteArray} {nL pc cl sl : Nat} {ws : va_W} {lv : List (Nat × Value)} {st : List Value}
theorem r_i2l (C : CX x g A own cc nL) {v : Int32} (hd : decode cc pc = .ok (.i2l, 1)) (k : J x g A Q nL ws lv (pc + 1) (.long v.toInt64 :: st) cl sl) : J x g A Q nL ws lv pc (.int v :: st) cl sl := fun H locs ls a b c d => lv_i2l C.1 C.2.1 hd rfl (k H locs ls a b c d)
theorem r_last (C : CX x g A own cc nL) {a0 : Nat} {cA : ClassId} {n i : Nat} {f : Nat → Int64} {y : Int64} {ws' : va_W} (q0 t0 : Nat) (hd : decode cc pc = .ok (.lastore, 1)) (he : ws[q0]? = some (a0, .inl (cA, n, .inr (.inl f)))) (ht : (TY g)[t0]? = some (cA, .long)) (hi : i < n) (hn : n < 2 ^ 31) (hw : ws.set q0 (a0, .inl (cA, n, .inr (.inl (vp_updL f i y)))) = ws') (k : J x g A Q nL ws' lv (pc + 1) st cl sl) : J x g A Q nL ws lv pc (.long y :: .int (nI i) :: .ref a0 :: st) cl sl := fun H locs ls a b c d => by
  subst hw
  refine va_last C.1 C.2.1 C.2.2.2.2.2.1 a b c q0 t0 he ht (vp_in_nI hi hn) hd (fun H1 l1 a1 b1 c1 => ?_)
  rw [nI_clamp (by omega)] at a1 b1
  exact k H1 l1 ls a1 b1 c1 d
theorem r_lald (C : CX x g A own cc nL) {a0 : Nat} {cA : ClassId} {n i : Nat} {f : Nat → Int64} (q0 t0 : Nat) (hd : decode cc pc = .ok (.laload, 1)) (he : ws[q0]? = some (a0, .inl (cA, n, .inr (.inl f)))) (ht : (TY g)[t0]? = some (cA, .long)) (hi : i < n) (hn : n < 2 ^ 31) (k : J x g A Q nL ws lv (pc + 1) (.long (f i) :: st) cl sl) : J x g A Q nL ws lv pc (.int (nI i) :: .ref a0 :: st) cl sl := fun H locs ls a b c d => va_lald C.1 C.2.1 C.2.2.2.2.2.1 a q0 t0 he ht (vp_in_nI hi hn) hd (by rw [nI_clamp (by omega)]; exact (k H locs ls a b c d))
end JL
theorem tab_at {L : List ExceptionTableEntry} {hh : List (Nat × Nat × Nat × Nat)} (h : L.map (fun h => (h.startPc, h.endPc, h.handlerPc, h.catchType)) = hh) (i : Nat) {a b c d : Nat} (hi : hh[i]? = some (a, b, c, d)) : ∃ pre z suf, L = pre ++ z :: suf ∧ pre.map (fun h : ExceptionTableEntry => (h.startPc, h.endPc, h.handlerPc, h.catchType)) = hh.take i ∧ z.startPc = a ∧ z.endPc = b ∧ z.handlerPc = c ∧ z.catchType = d := by
  subst h
  rw [List.getElem?_map] at hi
  cases e : L[i]? with
  | none => rw [e] at hi; cases hi
  | some z =>
    rw [e] at hi
    obtain ⟨h1, h2⟩ := List.getElem?_eq_some_iff.mp e
    have hi' := Option.some.inj hi
    simp only [Prod.mk.injEq] at hi'
    refine ⟨L.take i, z, L.drop (i + 1), ?_, by rw [List.map_take], hi'.1, hi'.2.1, hi'.2.2.1, hi'.2.2.2⟩
    rw [← h2, ← List.drop_eq_getElem_cons h1, List.take_append_drop]
theorem pass_of {pre : List ExceptionTableEntry} {E : String} {hh : List (Nat × Nat × Nat × Nat)} (h : pre.map (fun h : ExceptionTableEntry => (h.startPc, h.endPc, h.handlerPc, h.catchType)) = hh) (k : ∀ t ∈ hh, t.2.2.2 ≠ 0 ∧ ∃ nm, Cond.classLink R_Law t.2.2.2 nm ∈ GW ∧ (E, nm) ∈ xNo) : ∀ q ∈ pre, q.catchType ≠ 0 ∧ ∃ nm, Cond.classLink R_Law q.catchType nm ∈ GW ∧ (E, nm) ∈ xNo := fun q hq => k (q.startPc, q.endPc, q.handlerPc, q.catchType) (by rw [← h]; exact List.mem_map_of_mem hq)
set_option maxRecDepth 100000 in
theorem tl_ISE : Cond.classLink R_Law 13 E_ISE ∈ GW := (gw (i := 615) rfl rfl)
set_option maxRecDepth 100000 in
theorem tc_ISE : Cond.castable E_ISE E_ISE ∈ NW := nw (i := 624) rfl rfl
set_option maxRecDepth 100000 in
theorem tl_IAE : Cond.classLink R_Law 15 E_IAE ∈ GW := (gw (i := 616) rfl rfl)
set_option maxRecDepth 100000 in
theorem tc_IAE : Cond.castable E_IAE E_IAE ∈ NW := nw (i := 693) rfl rfl
set_option maxRecDepth 100000 in
theorem tl_UOE : Cond.classLink R_Law 17 E_UOE ∈ GW := (gw (i := 617) rfl rfl)
set_option maxRecDepth 100000 in
theorem tc_UOE : Cond.castable E_UOE E_UOE ∈ NW := nw (i := 821) rfl rfl
set_option maxRecDepth 100000 in
theorem tl_IOE : Cond.classLink R_Law 22 E_IOE ∈ GW := (gw (i := 838) rfl rfl)
set_option maxRecDepth 100000 in
theorem tc_IOE : Cond.castable E_IOE E_IOE ∈ NW := nw (i := 854) rfl rfl
theorem tp_ISE_0 {pre : List ExceptionTableEntry} {hh : List (Nat × Nat × Nat × Nat)} (h : pre.map (fun h : ExceptionTableEntry => (h.startPc, h.endPc, h.handlerPc, h.catchType)) = hh.take 0) : ∀ q ∈ pre, q.catchType ≠ 0 ∧ ∃ nm, Cond.classLink R_Law q.catchType nm ∈ GW ∧ (E_ISE, nm) ∈ xNo := pass_of h fun t ht => by cases ht
theorem tp_IOE_0 {pre : List ExceptionTableEntry} {hh : List (Nat × Nat × Nat × Nat)} (h : pre.map (fun h : ExceptionTableEntry => (h.startPc, h.endPc, h.handlerPc, h.catchType)) = hh.take 0) : ∀ q ∈ pre, q.catchType ≠ 0 ∧ ∃ nm, Cond.classLink R_Law q.catchType nm ∈ GW ∧ (E_IOE, nm) ∈ xNo := pass_of h fun t ht => by cases ht
theorem tp_IAE_1 {pre : List ExceptionTableEntry} (h : pre.map (fun h : ExceptionTableEntry => (h.startPc, h.endPc, h.handlerPc, h.catchType)) = [(0, 10, 13, 13)]) : ∀ q ∈ pre, q.catchType ≠ 0 ∧ ∃ nm, Cond.classLink R_Law q.catchType nm ∈ GW ∧ (E_IAE, nm) ∈ xNo := pass_of h fun t ht => by
  simp only [List.mem_cons, List.not_mem_nil, or_false] at ht
  subst ht
  exact ⟨by decide, E_ISE, tl_ISE, by decide⟩
theorem tp_UOE_2 {pre : List ExceptionTableEntry} (h : pre.map (fun h : ExceptionTableEntry => (h.startPc, h.endPc, h.handlerPc, h.catchType)) = [(0, 10, 13, 13), (0, 10, 17, 15)]) : ∀ q ∈ pre, q.catchType ≠ 0 ∧ ∃ nm, Cond.classLink R_Law q.catchType nm ∈ GW ∧ (E_UOE, nm) ∈ xNo := pass_of h fun t ht => by
  simp only [List.mem_cons, List.not_mem_nil, or_false] at ht
  rcases ht with rfl | rfl
  · exact ⟨by decide, E_ISE, tl_ISE, by decide⟩
  · exact ⟨by decide, E_IAE, tl_IAE, by decide⟩

set_option maxRecDepth 100000 in
theorem lk_Law_19 : LK R_Law 19 y_RR_row := Or.inl (gw (i := 839) rfl rfl)
set_option maxRecDepth 100000 in
theorem lk_Law_24 : LK R_Law 24 y_RR_place := Or.inl (gw (i := 875) rfl rfl)
set_option maxRecDepth 100000 in
theorem lk_Law_27 : LK R_Law 27 y_RR_line := Or.inl (gw (i := 888) rfl rfl)
set_option maxRecDepth 100000 in
theorem lk_Law_7 : LK R_Law 7 y_RR_rows := Or.inl (gw (i := 618) rfl rfl)
set_option maxRecDepth 100000 in
theorem lm_Law_19 : Cond.methodLink R_Law 19 y_RR_row ∈ GW := (gw (i := 839) rfl rfl)
set_option maxRecDepth 100000 in
theorem lm_Law_24 : Cond.methodLink R_Law 24 y_RR_place ∈ GW := (gw (i := 875) rfl rfl)
set_option maxRecDepth 100000 in
theorem lm_Law_27 : Cond.methodLink R_Law 27 y_RR_line ∈ GW := (gw (i := 888) rfl rfl)
set_option maxRecDepth 100000 in
theorem lm_Law_7 : Cond.methodLink R_Law 7 y_RR_rows ∈ GW := (gw (i := 618) rfl rfl)
set_option maxRecDepth 100000 in
theorem mw_RR_line : MW y_RR_line b_RR_line 3 (some .int) 1 := ⟨(gw (i := 891) rfl rfl), (gw (i := 73) rfl rfl), by decide +kernel⟩
set_option maxRecDepth 100000 in
theorem mw_RR_place : MW y_RR_place b_RR_place 4 (some .int) 2 := ⟨(gw (i := 878) rfl rfl), (gw (i := 73) rfl rfl), by decide +kernel⟩
set_option maxRecDepth 100000 in
theorem mw_RR_row : MW y_RR_row b_RR_row 5 (some .int) 2 := ⟨(gw (i := 842) rfl rfl), (gw (i := 73) rfl rfl), by decide +kernel⟩
set_option maxRecDepth 100000 in
theorem mw_RR_rows : MW y_RR_rows b_RR_rows 3 (some .int) 2 := ⟨(gw (i := 621) rfl rfl), (gw (i := 73) rfl rfl), by decide +kernel⟩
set_option maxRecDepth 100000 in
theorem vw_RR_line : VW y_RR_line := ⟨(gw (i := 889) rfl rfl), (gw (i := 890) rfl rfl)⟩
set_option maxRecDepth 100000 in
theorem vw_RR_place : VW y_RR_place := ⟨(gw (i := 876) rfl rfl), (gw (i := 877) rfl rfl)⟩
set_option maxRecDepth 100000 in
theorem vw_RR_row : VW y_RR_row := ⟨(gw (i := 840) rfl rfl), (gw (i := 841) rfl rfl)⟩
set_option maxRecDepth 100000 in
theorem vw_RR_rows : VW y_RR_rows := ⟨(gw (i := 619) rfl rfl), (gw (i := 620) rfl rfl)⟩
theorem d_Law_rows_0 : decode b_Law_rows 0 = .ok (.aload_n 3, 1) := by decide +kernel
theorem d_Law_rows_1 : decode b_Law_rows 1 = .ok (.iconst 0, 1) := by decide +kernel
theorem d_Law_rows_2 : decode b_Law_rows 2 = .ok (.aload_n 0, 1) := by decide +kernel
theorem d_Law_rows_3 : decode b_Law_rows 3 = .ok (.iload_n 1, 1) := by decide +kernel
theorem d_Law_rows_4 : decode b_Law_rows 4 = .ok (.iload_n 2, 1) := by decide +kernel
theorem d_Law_rows_5 : decode b_Law_rows 5 = .ok (.invokevirtual 7, 3) := by decide +kernel
theorem d_Law_rows_8 : decode b_Law_rows 8 = .ok (.i2l, 1) := by decide +kernel
theorem d_Law_rows_9 : decode b_Law_rows 9 = .ok (.lastore, 1) := by decide +kernel
theorem d_Law_rows_10 : decode b_Law_rows 10 = .ok (.goto 15, 3) := by decide +kernel
theorem d_Law_rows_13 : decode b_Law_rows 13 = .ok (.astore 4, 2) := by decide +kernel
theorem d_Law_rows_15 : decode b_Law_rows 15 = .ok (.iconst 1, 1) := by decide +kernel
theorem d_Law_rows_16 : decode b_Law_rows 16 = .ok (.ireturn, 1) := by decide +kernel
theorem d_Law_rows_17 : decode b_Law_rows 17 = .ok (.astore 4, 2) := by decide +kernel
theorem d_Law_rows_19 : decode b_Law_rows 19 = .ok (.iconst 2, 1) := by decide +kernel
theorem d_Law_rows_20 : decode b_Law_rows 20 = .ok (.ireturn, 1) := by decide +kernel
theorem d_Law_rows_21 : decode b_Law_rows 21 = .ok (.astore 4, 2) := by decide +kernel
theorem d_Law_rows_23 : decode b_Law_rows 23 = .ok (.iconst 3, 1) := by decide +kernel
theorem d_Law_rows_24 : decode b_Law_rows 24 = .ok (.ireturn, 1) := by decide +kernel
theorem d_Law_rows_25 : decode b_Law_rows 25 = .ok (.iconst 0, 1) := by decide +kernel
theorem d_Law_rows_26 : decode b_Law_rows 26 = .ok (.ireturn, 1) := by decide +kernel
theorem d_Law_row_0 : decode b_Law_row 0 = .ok (.aload_n 3, 1) := by decide +kernel
theorem d_Law_row_1 : decode b_Law_row 1 = .ok (.iconst 0, 1) := by decide +kernel
theorem d_Law_row_2 : decode b_Law_row 2 = .ok (.aload_n 0, 1) := by decide +kernel
theorem d_Law_row_3 : decode b_Law_row 3 = .ok (.iload_n 1, 1) := by decide +kernel
theorem d_Law_row_4 : decode b_Law_row 4 = .ok (.iload_n 2, 1) := by decide +kernel
theorem d_Law_row_5 : decode b_Law_row 5 = .ok (.invokevirtual 19, 3) := by decide +kernel
theorem d_Law_row_8 : decode b_Law_row 8 = .ok (.i2l, 1) := by decide +kernel
theorem d_Law_row_9 : decode b_Law_row 9 = .ok (.lastore, 1) := by decide +kernel
theorem d_Law_row_10 : decode b_Law_row 10 = .ok (.goto 7, 3) := by decide +kernel
theorem d_Law_row_13 : decode b_Law_row 13 = .ok (.astore 4, 2) := by decide +kernel
theorem d_Law_row_15 : decode b_Law_row 15 = .ok (.iconst 1, 1) := by decide +kernel
theorem d_Law_row_16 : decode b_Law_row 16 = .ok (.ireturn, 1) := by decide +kernel
theorem d_Law_row_17 : decode b_Law_row 17 = .ok (.iconst 0, 1) := by decide +kernel
theorem d_Law_row_18 : decode b_Law_row 18 = .ok (.ireturn, 1) := by decide +kernel
theorem d_Law_place_0 : decode b_Law_place 0 = .ok (.aload_n 3, 1) := by decide +kernel
theorem d_Law_place_1 : decode b_Law_place 1 = .ok (.iconst 0, 1) := by decide +kernel
theorem d_Law_place_2 : decode b_Law_place 2 = .ok (.aload_n 0, 1) := by decide +kernel
theorem d_Law_place_3 : decode b_Law_place 3 = .ok (.iload_n 1, 1) := by decide +kernel
theorem d_Law_place_4 : decode b_Law_place 4 = .ok (.iload_n 2, 1) := by decide +kernel
theorem d_Law_place_5 : decode b_Law_place 5 = .ok (.invokevirtual 24, 3) := by decide +kernel
theorem d_Law_place_8 : decode b_Law_place 8 = .ok (.i2l, 1) := by decide +kernel
theorem d_Law_place_9 : decode b_Law_place 9 = .ok (.lastore, 1) := by decide +kernel
theorem d_Law_place_10 : decode b_Law_place 10 = .ok (.goto 7, 3) := by decide +kernel
theorem d_Law_place_13 : decode b_Law_place 13 = .ok (.astore 4, 2) := by decide +kernel
theorem d_Law_place_15 : decode b_Law_place 15 = .ok (.iconst 1, 1) := by decide +kernel
theorem d_Law_place_16 : decode b_Law_place 16 = .ok (.ireturn, 1) := by decide +kernel
theorem d_Law_place_17 : decode b_Law_place 17 = .ok (.iconst 0, 1) := by decide +kernel
theorem d_Law_place_18 : decode b_Law_place 18 = .ok (.ireturn, 1) := by decide +kernel
theorem d_Law_line_0 : decode b_Law_line 0 = .ok (.aload_n 2, 1) := by decide +kernel
theorem d_Law_line_1 : decode b_Law_line 1 = .ok (.iconst 0, 1) := by decide +kernel
theorem d_Law_line_2 : decode b_Law_line 2 = .ok (.aload_n 0, 1) := by decide +kernel
theorem d_Law_line_3 : decode b_Law_line 3 = .ok (.iload_n 1, 1) := by decide +kernel
theorem d_Law_line_4 : decode b_Law_line 4 = .ok (.invokevirtual 27, 3) := by decide +kernel
theorem d_Law_line_7 : decode b_Law_line 7 = .ok (.i2l, 1) := by decide +kernel
theorem d_Law_line_8 : decode b_Law_line 8 = .ok (.lastore, 1) := by decide +kernel
theorem d_Law_line_9 : decode b_Law_line 9 = .ok (.goto 6, 3) := by decide +kernel
theorem d_Law_line_12 : decode b_Law_line 12 = .ok (.astore_n 3, 1) := by decide +kernel
theorem d_Law_line_13 : decode b_Law_line 13 = .ok (.iconst 1, 1) := by decide +kernel
theorem d_Law_line_14 : decode b_Law_line 14 = .ok (.ireturn, 1) := by decide +kernel
theorem d_Law_line_15 : decode b_Law_line 15 = .ok (.iconst 0, 1) := by decide +kernel
theorem d_Law_line_16 : decode b_Law_line 16 = .ok (.ireturn, 1) := by decide +kernel
set_option maxHeartbeats 4000000 in
set_option maxRecDepth 100000 in
theorem c_Law_rows_ok (g : GG) (l : Launch) {x0 : Nat} {t : Nat} {bk : Nat} {p : Nat} {s : Nat} {u : Nat} {ss : Nat} {la : Nat} {ke : Nat} {lc : Nat} {uw0 : Nat} {uh0 : Nat} {ri : Nat} {mi : Int32} {tm : Bool} {ru : Nat} {sa : Nat} {ps : Nat} {to : Nat} {gs : Nat} {rc : Nat} {pn : Nat} {RU : Nat → Nat} {SA : Nat → Nat} {PL : Nat → Nat} {SS : Nat → Nat} {KE : Nat → Nat} {TO : Nat → Bool} {LA : Nat → Option Nat} {RA : Nat → Option Nat} {PP : va_W} {ra : Nat} {pa : Nat} {pb : Nat} {db : Nat} {rules : List RuleV} {uw : Nat} {uh : Nat} {md : Nat} {R : Rows} {ou : Nat} {F : Nat → Int64} (h400 : rules.length ≤ 400) (hRA : RulesAt g PP RA rules) (hok : ∀ r ∈ rules, r.2.2.1.length ≤ 40 ∧ ∀ l ∈ r.2.2.1, LyOK l) (h256 : ∀ i, SS i < 256) (hw0 : 0 < uw) (hw1 : uw ≤ 16) (hh0 : 0 < uh) (hh1 : uh ≤ 16) (hun : unrA uw uh rules = some (md, R)) : CnW g l y_Law_rows b_Law_rows 5 (some .int) [(0, 10, 13, 13), (0, 10, 17, 15), (0, 10, 21, 17)] (rmk 183 0 0 4822) [.ref x0, .int (nI uw), .int (nI uh), .ref ou] ([(x0, .inr (0, [.ref t, .ref bk, .ref p, .ref s, .ref u])), (u, .inr (8, [.ref s, .ref ss, .ref la, .ref ke, .int (nI lc), .int (nI uw0), .int (nI uh0), .int (nI ri), .int mi, .int (bI tm)])), (ss, .inl (g.2.1 0, 10496, .inl (aI SS))), (la, .inl (g.2.1 4, 40, .inr (.inr (.inr (.inr LA))))), (ke, .inl (g.2.1 0, 256, .inl (aI KE))), (s, .inr (7, [.ref ru, .ref sa, .ref ps, .ref to, .int (nI gs), .int (nI rc), .int (nI pn)])), (ru, .inl (g.2.1 0, 4000, .inl (aI RU))), (sa, .inl (g.2.1 0, 4001, .inl (aI SA))), (ps, .inl (g.2.1 0, 30000, .inl (aI PL))), (to, .inl (g.2.1 2, 256, .inl (zI TO))), (bk, .inr (5, [.ref ra, .ref pa, .int (bI true), .int (nI rules.length), .int (nI pb), .int (nI db)])), (ra, .inl (g.2.1 3, 400, .inr (.inr (.inr (.inr RA))))), (ou, .inl (g.2.1 5, 1, .inr (.inl F)))] ++ PP) (fun (r0 : Option Value) (w0 : va_W) => ∃ mi2 : Int32, ∃ tm2 : Bool, ∃ lc2 : Nat, ∃ ri2 : Nat, ∃ rc2 : Nat, ∃ pn2 : Nat, ∃ RU2 : Nat → Nat, ∃ SA2 : Nat → Nat, ∃ PL2 : Nat → Nat, ∃ SS2 : Nat → Nat, ∃ KE2 : Nat → Nat, ∃ TO2 : Nat → Bool, ∃ LA2 : Nat → Option Nat, r0 = some (.int (nI 0)) ∧ w0 = [(x0, .inr (0, [.ref t, .ref bk, .ref p, .ref s, .ref u])), (u, .inr (8, [.ref s, .ref ss, .ref la, .ref ke, .int (nI lc2), .int (nI uw), .int (nI uh), .int (nI ri2), .int mi2, .int (bI tm2)])), (ss, .inl (g.2.1 0, 10496, .inl (aI SS2))), (la, .inl (g.2.1 4, 40, .inr (.inr (.inr (.inr LA2))))), (ke, .inl (g.2.1 0, 256, .inl (aI KE2))), (s, .inr (7, [.ref ru, .ref sa, .ref ps, .ref to, .int (nI (uw * uh)), .int (nI rc2), .int (nI pn2)])), (ru, .inl (g.2.1 0, 4000, .inl (aI RU2))), (sa, .inl (g.2.1 0, 4001, .inl (aI SA2))), (ps, .inl (g.2.1 0, 30000, .inl (aI PL2))), (to, .inl (g.2.1 2, 256, .inl (zI TO2))), (bk, .inr (5, [.ref ra, .ref pa, .int (bI true), .int (nI rules.length), .int (nI pb), .int (nI db)])), (ra, .inl (g.2.1 3, 400, .inr (.inr (.inr (.inr RA))))), (ou, .inl (g.2.1 5, 1, .inr (.inl (vp_updL F 0 (nI rc2).toInt64))))] ++ PP ∧ (UAt (unrA uw uh rules) tm2 mi2 RU2 SA2 PL2 TO2 rc2 pn2) ∧ (∀ i, SS2 i < 256)) := by
  refine CnW.of R_Law [(0, .ref x0), (1, .int (nI uw)), (2, .int (nI uh)), (3, .ref ou)] (by decide) rfl (Nat.le_of_ble_eq_true rfl) rfl ?_
  intro x A Q hR hXl hNC hTab C E
  subst hXl
  refine r_aload_n C 3 d_Law_rows_0 rfl rfl ?_
  refine r_iconst C (nI 0) d_Law_rows_1 (by decide) ?_
  refine r_aload_n C 0 d_Law_rows_2 rfl rfl ?_
  refine r_iload_n C 1 d_Law_rows_3 rfl rfl ?_
  refine r_iload_n C 2 d_Law_rows_4 rfl rfl ?_
  refine j_callV C (c_RR_rows g (xl x) (x0 := x0) (t := t) (bk := bk) (p := p) (s := s) (u := u) (ss := ss) (la := la) (ke := ke) (lc := lc) (uw0 := uw0) (uh0 := uh0) (ri := ri) (mi := mi) (tm := tm) (ru := ru) (sa := sa) (ps := ps) (to := to) (gs := gs) (rc := rc) (pn := pn) (RU := RU) (SA := SA) (PL := PL) (SS := SS) (KE := KE) (TO := TO) (LA := LA) (RA := RA) (PP := PP) (ra := ra) (pa := pa) (pb := pb) (db := db) (rules := rules) (uw := uw) (uh := uh) (md := md) (R := R) (h400) (hRA) (hok) (h256) (hw0) (hw1) (hh0) (hh1) (hun)) (Sp.pool (Sp.of (wr := [(ou, .inl (g.2.1 5, 1, .inr (.inl F)))]) [0, 1, 2, 3, 4, 5, 6, 7, 8, 9, 10, 11] [12] rfl rfl rfl rfl (by decide)) PP) d_Law_rows_5 lk_Law_7 mw_RR_rows vw_RR_rows (q0 := 0) rfl rfl (fit_of hR (by first | decide | (simp only [rmk]; omega)) (by first | decide | (simp only [rmk]; omega)) (by first | decide | (simp only [rmk]; omega)) (by first | decide | (simp only [rmk]; omega))) rfl (cat8 (Nat.le_of_ble_eq_true rfl)) (As := [.int (nI uw), .int (nI uh)]) (rest := [.int (nI 0), .ref ou]) rfl (fun r_5 w_5 hp_5 => ?_)
  obtain ⟨mi2_5, tm2_5, lc2_5, ri2_5, rc2_5, pn2_5, RU2_5, SA2_5, PL2_5, SS2_5, KE2_5, TO2_5, LA2_5, rfl, rfl, hU2_5, h2562_5⟩ := hp_5
  refine r_afterP (X := [(ou, .inl (g.2.1 5, 1, .inr (.inl F))), (x0, .inr (0, [.ref t, .ref bk, .ref p, .ref s, .ref u])), (u, .inr (8, [.ref s, .ref ss, .ref la, .ref ke, .int (nI lc2_5), .int (nI uw), .int (nI uh), .int (nI ri2_5), .int mi2_5, .int (bI tm2_5)])), (ss, .inl (g.2.1 0, 10496, .inl (aI SS2_5))), (la, .inl (g.2.1 4, 40, .inr (.inr (.inr (.inr LA2_5))))), (ke, .inl (g.2.1 0, 256, .inl (aI KE2_5))), (s, .inr (7, [.ref ru, .ref sa, .ref ps, .ref to, .int (nI (uw * uh)), .int (nI rc2_5), .int (nI pn2_5)])), (ru, .inl (g.2.1 0, 4000, .inl (aI RU2_5))), (sa, .inl (g.2.1 0, 4001, .inl (aI SA2_5))), (ps, .inl (g.2.1 0, 30000, .inl (aI PL2_5))), (to, .inl (g.2.1 2, 256, .inl (zI TO2_5))), (bk, .inr (5, [.ref ra, .ref pa, .int (bI true), .int (nI rules.length), .int (nI pb), .int (nI db)])), (ra, .inl (g.2.1 3, 400, .inr (.inr (.inr (.inr RA)))))]) (X' := [(x0, .inr (0, [.ref t, .ref bk, .ref p, .ref s, .ref u])), (u, .inr (8, [.ref s, .ref ss, .ref la, .ref ke, .int (nI lc2_5), .int (nI uw), .int (nI uh), .int (nI ri2_5), .int mi2_5, .int (bI tm2_5)])), (ss, .inl (g.2.1 0, 10496, .inl (aI SS2_5))), (la, .inl (g.2.1 4, 40, .inr (.inr (.inr (.inr LA2_5))))), (ke, .inl (g.2.1 0, 256, .inl (aI KE2_5))), (s, .inr (7, [.ref ru, .ref sa, .ref ps, .ref to, .int (nI (uw * uh)), .int (nI rc2_5), .int (nI pn2_5)])), (ru, .inl (g.2.1 0, 4000, .inl (aI RU2_5))), (sa, .inl (g.2.1 0, 4001, .inl (aI SA2_5))), (ps, .inl (g.2.1 0, 30000, .inl (aI PL2_5))), (to, .inl (g.2.1 2, 256, .inl (zI TO2_5))), (bk, .inr (5, [.ref ra, .ref pa, .int (bI true), .int (nI rules.length), .int (nI pb), .int (nI db)])), (ra, .inl (g.2.1 3, 400, .inr (.inr (.inr (.inr RA))))), (ou, .inl (g.2.1 5, 1, .inr (.inl F)))]) (pl := PP) (st' := [.int (nI rc2_5), .int (nI 0), .ref ou]) (n1 := 0) (n2 := 0) [1, 2, 3, 4, 5, 6, 7, 8, 9, 10, 11, 12, 0] rfl rfl rfl rfl rfl rfl ?_
  refine r_i2l C d_Law_rows_8 ?_
  refine r_last C (ws' := [(x0, .inr (0, [.ref t, .ref bk, .ref p, .ref s, .ref u])), (u, .inr (8, [.ref s, .ref ss, .ref la, .ref ke, .int (nI lc2_5), .int (nI uw), .int (nI uh), .int (nI ri2_5), .int mi2_5, .int (bI tm2_5)])), (ss, .inl (g.2.1 0, 10496, .inl (aI SS2_5))), (la, .inl (g.2.1 4, 40, .inr (.inr (.inr (.inr LA2_5))))), (ke, .inl (g.2.1 0, 256, .inl (aI KE2_5))), (s, .inr (7, [.ref ru, .ref sa, .ref ps, .ref to, .int (nI (uw * uh)), .int (nI rc2_5), .int (nI pn2_5)])), (ru, .inl (g.2.1 0, 4000, .inl (aI RU2_5))), (sa, .inl (g.2.1 0, 4001, .inl (aI SA2_5))), (ps, .inl (g.2.1 0, 30000, .inl (aI PL2_5))), (to, .inl (g.2.1 2, 256, .inl (zI TO2_5))), (bk, .inr (5, [.ref ra, .ref pa, .int (bI true), .int (nI rules.length), .int (nI pb), .int (nI db)])), (ra, .inl (g.2.1 3, 400, .inr (.inr (.inr (.inr RA))))), (ou, .inl (g.2.1 5, 1, .inr (.inl (vp_updL F 0 ((nI rc2_5).toInt64)))))] ++ PP) 12 5 d_Law_rows_9 rfl rfl (by omega) (by decide) rfl ?_
  refine r_goto C 25 d_Law_rows_10 (by decide) ?_
  refine r_iconst C (nI 0) d_Law_rows_25 (by decide) ?_
  refine r_iret C E d_Law_rows_26 (by first | decide | omega | (simp only [rmk]; omega)) (by first | decide | omega | (simp only [rmk]; omega)) ?_
  exact ⟨_, _, _, _, _, _, _, _, _, _, _, _, _, rfl, rfl, hU2_5, h2562_5⟩

set_option maxHeartbeats 4000000 in
set_option maxRecDepth 100000 in
theorem c_Law_rows_ISE (g : GG) (l : Launch) (hfl : l.flags = pinnedFlags ++ [noTraceFlag]) {x0 : Nat} {t : Nat} {bk : Nat} {p : Nat} {s : Nat} {u : Nat} {ru : Nat} {sa : Nat} {ps : Nat} {to : Nat} {gs : Nat} {rc : Nat} {pn : Nat} {ra : Nat} {pa : Nat} {rb : Nat} {pb : Nat} {db : Nat} {y : Int32} {z : Int32} {ou : Nat} {F : Nat → Int64}  : CnW g l y_Law_rows b_Law_rows 5 (some .int) [(0, 10, 13, 13), (0, 10, 17, 15), (0, 10, 21, 17)] (rmk 7 1 6 122) [.ref x0, .int y, .int z, .ref ou] ([(x0, .inr (0, [.ref t, .ref bk, .ref p, .ref s, .ref u])), (s, .inr (7, [.ref ru, .ref sa, .ref ps, .ref to, .int (nI gs), .int (nI rc), .int (nI pn)])), (bk, .inr (5, [.ref ra, .ref pa, .int (bI false), .int (nI rb), .int (nI pb), .int (nI db)])), (ou, .inl (g.2.1 5, 1, .inr (.inl F)))]) (fun (r0 : Option Value) (w0 : va_W) => r0 = some (.int (nI 1)) ∧ w0 = [(x0, .inr (0, [.ref t, .ref bk, .ref p, .ref s, .ref u])), (s, .inr (7, [.ref ru, .ref sa, .ref ps, .ref to, .int (nI gs), .int (nI rc), .int (nI pn)])), (bk, .inr (5, [.ref ra, .ref pa, .int (bI false), .int (nI rb), .int (nI pb), .int (nI db)])), (ou, .inl (g.2.1 5, 1, .inr (.inl F)))]) := by
  refine CnW.of R_Law [(0, .ref x0), (1, .int y), (2, .int z), (3, .ref ou)] (by decide) rfl (Nat.le_of_ble_eq_true rfl) rfl ?_
  intro x A Q hR hXl hNC hTab C E
  subst hXl
  refine r_aload_n C 3 d_Law_rows_0 rfl rfl ?_
  refine r_iconst C (nI 0) d_Law_rows_1 (by decide) ?_
  refine r_aload_n C 0 d_Law_rows_2 rfl rfl ?_
  refine r_iload_n C 1 d_Law_rows_3 rfl rfl ?_
  refine r_iload_n C 2 d_Law_rows_4 rfl rfl ?_
  obtain ⟨pre9, z9, suf9, hsp9, hpm9, z91, z92, z93, z94⟩ := tab_at hTab 0 rfl
  refine j_callT C (c_RR_rows_ISE g (xl x) hfl (x0 := x0) (t := t) (bk := bk) (p := p) (s := s) (u := u) (ru := ru) (sa := sa) (ps := ps) (to := to) (gs := gs) (rc := rc) (pn := pn) (ra := ra) (pa := pa) (rb := rb) (pb := pb) (db := db) (y := y) (z := z) ) (Sp.of (wr := [(ou, .inl (g.2.1 5, 1, .inr (.inl F)))]) [0, 1, 2] [3] rfl rfl rfl rfl (by decide)) d_Law_rows_5 lm_Law_7 mw_RR_rows vw_RR_rows (q0 := 0) rfl rfl (fit_of hR (by first | decide | (simp only [rmk]; omega)) (by first | decide | (simp only [rmk]; omega)) (by first | decide | (simp only [rmk]; omega)) (by first | decide | (simp only [rmk]; omega))) rfl (cat8 (Nat.le_of_ble_eq_true rfl)) (As := [.int y, .int z]) (rest := [.int (nI 0), .ref ou]) rfl hsp9 (tp_ISE_0 hpm9) (by simp [covers, z91, z92]) (by rw [z94]; decide) (by rw [z94]; exact tl_ISE) hNC tc_ISE (fun q9 w_5 hp_5 => ?_)
  rw [z93]
  subst hp_5
  refine r_after (ws' := [(x0, .inr (0, [.ref t, .ref bk, .ref p, .ref s, .ref u])), (s, .inr (7, [.ref ru, .ref sa, .ref ps, .ref to, .int (nI gs), .int (nI rc), .int (nI pn)])), (bk, .inr (5, [.ref ra, .ref pa, .int (bI false), .int (nI rb), .int (nI pb), .int (nI db)])), (ou, .inl (g.2.1 5, 1, .inr (.inl F)))]) (st' := [.ref q9]) (n1 := 0 + 1) (n2 := 0 + 6) [1, 2, 3, 0] rfl rfl rfl rfl rfl ?_
  refine r_astore C (lv' := [(4, .ref q9), (0, .ref x0), (1, .int y), (2, .int z), (3, .ref ou)]) d_Law_rows_13 (by decide) rfl ?_
  refine r_iconst C (nI 1) d_Law_rows_15 (by decide) ?_
  refine r_iret C E d_Law_rows_16 (by first | decide | omega | (simp only [rmk]; omega)) (by first | decide | omega | (simp only [rmk]; omega)) ?_
  exact ⟨rfl, rfl⟩

set_option maxHeartbeats 4000000 in
set_option maxRecDepth 100000 in
theorem c_Law_rows_IAE (g : GG) (l : Launch) (hfl : l.flags = pinnedFlags ++ [noTraceFlag]) {x0 : Nat} {t : Nat} {bk : Nat} {p : Nat} {s : Nat} {u : Nat} {ru : Nat} {sa : Nat} {ps : Nat} {to : Nat} {gs : Nat} {rc : Nat} {pn : Nat} {ra : Nat} {pa : Nat} {rb : Nat} {pb : Nat} {db : Nat} {y : Int32} {z : Int32} {ou : Nat} {F : Nat → Int64} (hbad : ¬ (1 ≤ y ∧ y ≤ 16 ∧ 1 ≤ z ∧ z ≤ 16)) : CnW g l y_Law_rows b_Law_rows 5 (some .int) [(0, 10, 13, 13), (0, 10, 17, 15), (0, 10, 21, 17)] (rmk 7 1 6 122) [.ref x0, .int y, .int z, .ref ou] ([(x0, .inr (0, [.ref t, .ref bk, .ref p, .ref s, .ref u])), (s, .inr (7, [.ref ru, .ref sa, .ref ps, .ref to, .int (nI gs), .int (nI rc), .int (nI pn)])), (bk, .inr (5, [.ref ra, .ref pa, .int (bI true), .int (nI rb), .int (nI pb), .int (nI db)])), (ou, .inl (g.2.1 5, 1, .inr (.inl F)))]) (fun (r0 : Option Value) (w0 : va_W) => r0 = some (.int (nI 2)) ∧ w0 = [(x0, .inr (0, [.ref t, .ref bk, .ref p, .ref s, .ref u])), (s, .inr (7, [.ref ru, .ref sa, .ref ps, .ref to, .int (nI 0), .int (nI 0), .int (nI 0)])), (bk, .inr (5, [.ref ra, .ref pa, .int (bI true), .int (nI rb), .int (nI pb), .int (nI db)])), (ou, .inl (g.2.1 5, 1, .inr (.inl F)))]) := by
  refine CnW.of R_Law [(0, .ref x0), (1, .int y), (2, .int z), (3, .ref ou)] (by decide) rfl (Nat.le_of_ble_eq_true rfl) rfl ?_
  intro x A Q hR hXl hNC hTab C E
  subst hXl
  refine r_aload_n C 3 d_Law_rows_0 rfl rfl ?_
  refine r_iconst C (nI 0) d_Law_rows_1 (by decide) ?_
  refine r_aload_n C 0 d_Law_rows_2 rfl rfl ?_
  refine r_iload_n C 1 d_Law_rows_3 rfl rfl ?_
  refine r_iload_n C 2 d_Law_rows_4 rfl rfl ?_
  obtain ⟨pre9, z9, suf9, hsp9, hpm9, z91, z92, z93, z94⟩ := tab_at hTab 1 rfl
  refine j_callT C (c_RR_rows_IAE g (xl x) hfl (x0 := x0) (t := t) (bk := bk) (p := p) (s := s) (u := u) (ru := ru) (sa := sa) (ps := ps) (to := to) (gs := gs) (rc := rc) (pn := pn) (ra := ra) (pa := pa) (rb := rb) (pb := pb) (db := db) (y := y) (z := z) (hbad)) (Sp.of (wr := [(ou, .inl (g.2.1 5, 1, .inr (.inl F)))]) [0, 1, 2] [3] rfl rfl rfl rfl (by decide)) d_Law_rows_5 lm_Law_7 mw_RR_rows vw_RR_rows (q0 := 0) rfl rfl (fit_of hR (by first | decide | (simp only [rmk]; omega)) (by first | decide | (simp only [rmk]; omega)) (by first | decide | (simp only [rmk]; omega)) (by first | decide | (simp only [rmk]; omega))) rfl (cat8 (Nat.le_of_ble_eq_true rfl)) (As := [.int y, .int z]) (rest := [.int (nI 0), .ref ou]) rfl hsp9 (tp_IAE_1 hpm9) (by simp [covers, z91, z92]) (by rw [z94]; decide) (by rw [z94]; exact tl_IAE) hNC tc_IAE (fun q9 w_5 hp_5 => ?_)
  rw [z93]
  subst hp_5
  refine r_after (ws' := [(x0, .inr (0, [.ref t, .ref bk, .ref p, .ref s, .ref u])), (s, .inr (7, [.ref ru, .ref sa, .ref ps, .ref to, .int (nI 0), .int (nI 0), .int (nI 0)])), (bk, .inr (5, [.ref ra, .ref pa, .int (bI true), .int (nI rb), .int (nI pb), .int (nI db)])), (ou, .inl (g.2.1 5, 1, .inr (.inl F)))]) (st' := [.ref q9]) (n1 := 0 + 1) (n2 := 0 + 6) [1, 2, 3, 0] rfl rfl rfl rfl rfl ?_
  refine r_astore C (lv' := [(4, .ref q9), (0, .ref x0), (1, .int y), (2, .int z), (3, .ref ou)]) d_Law_rows_17 (by decide) rfl ?_
  refine r_iconst C (nI 2) d_Law_rows_19 (by decide) ?_
  refine r_iret C E d_Law_rows_20 (by first | decide | omega | (simp only [rmk]; omega)) (by first | decide | omega | (simp only [rmk]; omega)) ?_
  exact ⟨rfl, rfl⟩

set_option maxHeartbeats 4000000 in
set_option maxRecDepth 100000 in
theorem c_Law_rows_UOE (g : GG) (l : Launch) (hfl : l.flags = pinnedFlags ++ [noTraceFlag]) {x0 : Nat} {t : Nat} {bk : Nat} {p : Nat} {s : Nat} {u : Nat} {ss : Nat} {la : Nat} {ke : Nat} {lc : Nat} {uw0 : Nat} {uh0 : Nat} {ri : Nat} {mi : Int32} {tm : Bool} {ru : Nat} {sa : Nat} {ps : Nat} {to : Nat} {gs : Nat} {rc : Nat} {pn : Nat} {RU : Nat → Nat} {SA : Nat → Nat} {PL : Nat → Nat} {SS : Nat → Nat} {KE : Nat → Nat} {TO : Nat → Bool} {LA : Nat → Option Nat} {RA : Nat → Option Nat} {PP : va_W} {ra : Nat} {pa : Nat} {pb : Nat} {db : Nat} {rules : List RuleV} {uw : Nat} {uh : Nat} {ou : Nat} {F : Nat → Int64} (h400 : rules.length ≤ 400) (hRA : RulesAt g PP RA rules) (hok : ∀ r ∈ rules, r.2.2.1.length ≤ 40 ∧ ∀ l ∈ r.2.2.1, LyOK l) (h256 : ∀ i, SS i < 256) (hw0 : 0 < uw) (hw1 : uw ≤ 16) (hh0 : 0 < uh) (hh1 : uh ≤ 16) (hun : unrA uw uh rules = none) : CnW g l y_Law_rows b_Law_rows 5 (some .int) [(0, 10, 13, 13), (0, 10, 17, 15), (0, 10, 21, 17)] (rmk 183 1 6 4822) [.ref x0, .int (nI uw), .int (nI uh), .ref ou] ([(x0, .inr (0, [.ref t, .ref bk, .ref p, .ref s, .ref u])), (u, .inr (8, [.ref s, .ref ss, .ref la, .ref ke, .int (nI lc), .int (nI uw0), .int (nI uh0), .int (nI ri), .int mi, .int (bI tm)])), (ss, .inl (g.2.1 0, 10496, .inl (aI SS))), (la, .inl (g.2.1 4, 40, .inr (.inr (.inr (.inr LA))))), (ke, .inl (g.2.1 0, 256, .inl (aI KE))), (s, .inr (7, [.ref ru, .ref sa, .ref ps, .ref to, .int (nI gs), .int (nI rc), .int (nI pn)])), (ru, .inl (g.2.1 0, 4000, .inl (aI RU))), (sa, .inl (g.2.1 0, 4001, .inl (aI SA))), (ps, .inl (g.2.1 0, 30000, .inl (aI PL))), (to, .inl (g.2.1 2, 256, .inl (zI TO))), (bk, .inr (5, [.ref ra, .ref pa, .int (bI true), .int (nI rules.length), .int (nI pb), .int (nI db)])), (ra, .inl (g.2.1 3, 400, .inr (.inr (.inr (.inr RA))))), (ou, .inl (g.2.1 5, 1, .inr (.inl F)))] ++ PP) (fun (r0 : Option Value) (w0 : va_W) => ∃ mi2 : Int32, ∃ tm2 : Bool, ∃ lc2 : Nat, ∃ ri2 : Nat, ∃ RU2 : Nat → Nat, ∃ SA2 : Nat → Nat, ∃ PL2 : Nat → Nat, ∃ SS2 : Nat → Nat, ∃ KE2 : Nat → Nat, ∃ TO2 : Nat → Bool, ∃ LA2 : Nat → Option Nat, r0 = some (.int (nI 3)) ∧ w0 = [(x0, .inr (0, [.ref t, .ref bk, .ref p, .ref s, .ref u])), (u, .inr (8, [.ref s, .ref ss, .ref la, .ref ke, .int (nI lc2), .int (nI uw), .int (nI uh), .int (nI ri2), .int mi2, .int (bI tm2)])), (ss, .inl (g.2.1 0, 10496, .inl (aI SS2))), (la, .inl (g.2.1 4, 40, .inr (.inr (.inr (.inr LA2))))), (ke, .inl (g.2.1 0, 256, .inl (aI KE2))), (s, .inr (7, [.ref ru, .ref sa, .ref ps, .ref to, .int (nI 0), .int (nI 0), .int (nI 0)])), (ru, .inl (g.2.1 0, 4000, .inl (aI RU2))), (sa, .inl (g.2.1 0, 4001, .inl (aI SA2))), (ps, .inl (g.2.1 0, 30000, .inl (aI PL2))), (to, .inl (g.2.1 2, 256, .inl (zI TO2))), (bk, .inr (5, [.ref ra, .ref pa, .int (bI true), .int (nI rules.length), .int (nI pb), .int (nI db)])), (ra, .inl (g.2.1 3, 400, .inr (.inr (.inr (.inr RA))))), (ou, .inl (g.2.1 5, 1, .inr (.inl F)))] ++ PP ∧ (∀ i, SS2 i < 256)) := by
  refine CnW.of R_Law [(0, .ref x0), (1, .int (nI uw)), (2, .int (nI uh)), (3, .ref ou)] (by decide) rfl (Nat.le_of_ble_eq_true rfl) rfl ?_
  intro x A Q hR hXl hNC hTab C E
  subst hXl
  refine r_aload_n C 3 d_Law_rows_0 rfl rfl ?_
  refine r_iconst C (nI 0) d_Law_rows_1 (by decide) ?_
  refine r_aload_n C 0 d_Law_rows_2 rfl rfl ?_
  refine r_iload_n C 1 d_Law_rows_3 rfl rfl ?_
  refine r_iload_n C 2 d_Law_rows_4 rfl rfl ?_
  obtain ⟨pre9, z9, suf9, hsp9, hpm9, z91, z92, z93, z94⟩ := tab_at hTab 2 rfl
  refine j_callT C (c_RR_rows_UOE g (xl x) hfl (x0 := x0) (t := t) (bk := bk) (p := p) (s := s) (u := u) (ss := ss) (la := la) (ke := ke) (lc := lc) (uw0 := uw0) (uh0 := uh0) (ri := ri) (mi := mi) (tm := tm) (ru := ru) (sa := sa) (ps := ps) (to := to) (gs := gs) (rc := rc) (pn := pn) (RU := RU) (SA := SA) (PL := PL) (SS := SS) (KE := KE) (TO := TO) (LA := LA) (RA := RA) (PP := PP) (ra := ra) (pa := pa) (pb := pb) (db := db) (rules := rules) (uw := uw) (uh := uh) (h400) (hRA) (hok) (h256) (hw0) (hw1) (hh0) (hh1) (hun)) (Sp.pool (Sp.of (wr := [(ou, .inl (g.2.1 5, 1, .inr (.inl F)))]) [0, 1, 2, 3, 4, 5, 6, 7, 8, 9, 10, 11] [12] rfl rfl rfl rfl (by decide)) PP) d_Law_rows_5 lm_Law_7 mw_RR_rows vw_RR_rows (q0 := 0) rfl rfl (fit_of hR (by first | decide | (simp only [rmk]; omega)) (by first | decide | (simp only [rmk]; omega)) (by first | decide | (simp only [rmk]; omega)) (by first | decide | (simp only [rmk]; omega))) rfl (cat8 (Nat.le_of_ble_eq_true rfl)) (As := [.int (nI uw), .int (nI uh)]) (rest := [.int (nI 0), .ref ou]) rfl hsp9 (tp_UOE_2 hpm9) (by simp [covers, z91, z92]) (by rw [z94]; decide) (by rw [z94]; exact tl_UOE) hNC tc_UOE (fun q9 w_5 hp_5 => ?_)
  rw [z93]
  obtain ⟨mi2_5, tm2_5, lc2_5, ri2_5, RU2_5, SA2_5, PL2_5, SS2_5, KE2_5, TO2_5, LA2_5, rfl, h2562_5⟩ := hp_5
  refine r_afterP (X := [(ou, .inl (g.2.1 5, 1, .inr (.inl F))), (x0, .inr (0, [.ref t, .ref bk, .ref p, .ref s, .ref u])), (u, .inr (8, [.ref s, .ref ss, .ref la, .ref ke, .int (nI lc2_5), .int (nI uw), .int (nI uh), .int (nI ri2_5), .int mi2_5, .int (bI tm2_5)])), (ss, .inl (g.2.1 0, 10496, .inl (aI SS2_5))), (la, .inl (g.2.1 4, 40, .inr (.inr (.inr (.inr LA2_5))))), (ke, .inl (g.2.1 0, 256, .inl (aI KE2_5))), (s, .inr (7, [.ref ru, .ref sa, .ref ps, .ref to, .int (nI 0), .int (nI 0), .int (nI 0)])), (ru, .inl (g.2.1 0, 4000, .inl (aI RU2_5))), (sa, .inl (g.2.1 0, 4001, .inl (aI SA2_5))), (ps, .inl (g.2.1 0, 30000, .inl (aI PL2_5))), (to, .inl (g.2.1 2, 256, .inl (zI TO2_5))), (bk, .inr (5, [.ref ra, .ref pa, .int (bI true), .int (nI rules.length), .int (nI pb), .int (nI db)])), (ra, .inl (g.2.1 3, 400, .inr (.inr (.inr (.inr RA)))))]) (X' := [(x0, .inr (0, [.ref t, .ref bk, .ref p, .ref s, .ref u])), (u, .inr (8, [.ref s, .ref ss, .ref la, .ref ke, .int (nI lc2_5), .int (nI uw), .int (nI uh), .int (nI ri2_5), .int mi2_5, .int (bI tm2_5)])), (ss, .inl (g.2.1 0, 10496, .inl (aI SS2_5))), (la, .inl (g.2.1 4, 40, .inr (.inr (.inr (.inr LA2_5))))), (ke, .inl (g.2.1 0, 256, .inl (aI KE2_5))), (s, .inr (7, [.ref ru, .ref sa, .ref ps, .ref to, .int (nI 0), .int (nI 0), .int (nI 0)])), (ru, .inl (g.2.1 0, 4000, .inl (aI RU2_5))), (sa, .inl (g.2.1 0, 4001, .inl (aI SA2_5))), (ps, .inl (g.2.1 0, 30000, .inl (aI PL2_5))), (to, .inl (g.2.1 2, 256, .inl (zI TO2_5))), (bk, .inr (5, [.ref ra, .ref pa, .int (bI true), .int (nI rules.length), .int (nI pb), .int (nI db)])), (ra, .inl (g.2.1 3, 400, .inr (.inr (.inr (.inr RA))))), (ou, .inl (g.2.1 5, 1, .inr (.inl F)))]) (pl := PP) (st' := [.ref q9]) (n1 := 0 + 1) (n2 := 0 + 6) [1, 2, 3, 4, 5, 6, 7, 8, 9, 10, 11, 12, 0] rfl rfl rfl rfl rfl rfl ?_
  refine r_astore C (lv' := [(4, .ref q9), (0, .ref x0), (1, .int (nI uw)), (2, .int (nI uh)), (3, .ref ou)]) d_Law_rows_21 (by decide) rfl ?_
  refine r_iconst C (nI 3) d_Law_rows_23 (by decide) ?_
  refine r_iret C E d_Law_rows_24 (by first | decide | omega | (simp only [rmk]; omega)) (by first | decide | omega | (simp only [rmk]; omega)) ?_
  exact ⟨_, _, _, _, _, _, _, _, _, _, _, rfl, rfl, h2562_5⟩

set_option maxHeartbeats 4000000 in
set_option maxRecDepth 100000 in
theorem c_Law_row_ok (g : GG) (l : Launch) {x0 : Nat} {t : Nat} {bk : Nat} {p : Nat} {s : Nat} {u : Nat} {ru : Nat} {sa : Nat} {ps : Nat} {to : Nat} {gs : Nat} {rc : Nat} {pn : Nat} {RU : Nat → Nat} {SA : Nat → Nat} {PL : Nat → Nat} {RA : Nat → Option Nat} {PP : va_W} {ra : Nat} {pa : Nat} {pb : Nat} {db : Nat} {pr : Bool} {rules : List RuleV} {j : Nat} {y : Nat} {rv : RuleV} {ou : Nat} {F : Nat → Int64} (h1 : rc ≤ 4000) (h400 : rules.length ≤ 400) (hRA : RulesAt g PP RA rules) (hj : j < rc) (hrv : rules[RU j]? = some rv) (hsa : ∀ j, j < rc → SA j ≤ SA (j + 1)) (hs2 : ∀ j, j < rc → SA (j + 1) ≤ 30000) (hy : y ≤ 5) : CnW g l y_Law_row b_Law_row 5 (some .int) [(0, 10, 13, 22)] (rmk 3 0 0 66) [.ref x0, .int (nI j), .int (nI y), .ref ou] ([(x0, .inr (0, [.ref t, .ref bk, .ref p, .ref s, .ref u])), (s, .inr (7, [.ref ru, .ref sa, .ref ps, .ref to, .int (nI gs), .int (nI rc), .int (nI pn)])), (ru, .inl (g.2.1 0, 4000, .inl (aI RU))), (sa, .inl (g.2.1 0, 4001, .inl (aI SA))), (bk, .inr (5, [.ref ra, .ref pa, .int (bI pr), .int (nI rules.length), .int (nI pb), .int (nI db)])), (ra, .inl (g.2.1 3, 400, .inr (.inr (.inr (.inr RA))))), (ou, .inl (g.2.1 5, 1, .inr (.inl F)))] ++ PP) (fun (r0 : Option Value) (w0 : va_W) => r0 = some (.int (nI 0)) ∧ w0 = [(x0, .inr (0, [.ref t, .ref bk, .ref p, .ref s, .ref u])), (s, .inr (7, [.ref ru, .ref sa, .ref ps, .ref to, .int (nI gs), .int (nI rc), .int (nI pn)])), (ru, .inl (g.2.1 0, 4000, .inl (aI RU))), (sa, .inl (g.2.1 0, 4001, .inl (aI SA))), (bk, .inr (5, [.ref ra, .ref pa, .int (bI pr), .int (nI rules.length), .int (nI pb), .int (nI db)])), (ra, .inl (g.2.1 3, 400, .inr (.inr (.inr (.inr RA))))), (ou, .inl (g.2.1 5, 1, .inr (.inl (vp_updL F 0 ((rowV rv (RU j) (SA (j + 1) - SA j) y)).toInt64))))] ++ PP) := by
  refine CnW.of R_Law [(0, .ref x0), (1, .int (nI j)), (2, .int (nI y)), (3, .ref ou)] (by decide) rfl (Nat.le_of_ble_eq_true rfl) rfl ?_
  intro x A Q hR hXl hNC hTab C E
  subst hXl
  refine r_aload_n C 3 d_Law_row_0 rfl rfl ?_
  refine r_iconst C (nI 0) d_Law_row_1 (by decide) ?_
  refine r_aload_n C 0 d_Law_row_2 rfl rfl ?_
  refine r_iload_n C 1 d_Law_row_3 rfl rfl ?_
  refine r_iload_n C 2 d_Law_row_4 rfl rfl ?_
  refine j_callV C (c_RR_row g (xl x) (x0 := x0) (t := t) (bk := bk) (p := p) (s := s) (u := u) (ru := ru) (sa := sa) (ps := ps) (to := to) (gs := gs) (rc := rc) (pn := pn) (RU := RU) (SA := SA) (PL := PL) (RA := RA) (PP := PP) (ra := ra) (pa := pa) (pb := pb) (db := db) (pr := pr) (rules := rules) (j := j) (y := y) (rv := rv) (h1) (h400) (hRA) (hj) (hrv) (hsa) (hs2) (hy)) (Sp.pool (Sp.of (wr := [(ou, .inl (g.2.1 5, 1, .inr (.inl F)))]) [0, 1, 2, 3, 4, 5] [6] rfl rfl rfl rfl (by decide)) PP) d_Law_row_5 lk_Law_19 mw_RR_row vw_RR_row (q0 := 0) rfl rfl (fit_of hR (by first | decide | (simp only [rmk]; omega)) (by first | decide | (simp only [rmk]; omega)) (by first | decide | (simp only [rmk]; omega)) (by first | decide | (simp only [rmk]; omega))) rfl (cat8 (Nat.le_of_ble_eq_true rfl)) (As := [.int (nI j), .int (nI y)]) (rest := [.int (nI 0), .ref ou]) rfl (fun r_5 w_5 hp_5 => ?_)
  obtain ⟨rfl, rfl⟩ := hp_5
  refine r_afterP (X := [(ou, .inl (g.2.1 5, 1, .inr (.inl F))), (x0, .inr (0, [.ref t, .ref bk, .ref p, .ref s, .ref u])), (s, .inr (7, [.ref ru, .ref sa, .ref ps, .ref to, .int (nI gs), .int (nI rc), .int (nI pn)])), (ru, .inl (g.2.1 0, 4000, .inl (aI RU))), (sa, .inl (g.2.1 0, 4001, .inl (aI SA))), (bk, .inr (5, [.ref ra, .ref pa, .int (bI pr), .int (nI rules.length), .int (nI pb), .int (nI db)])), (ra, .inl (g.2.1 3, 400, .inr (.inr (.inr (.inr RA)))))]) (X' := [(x0, .inr (0, [.ref t, .ref bk, .ref p, .ref s, .ref u])), (s, .inr (7, [.ref ru, .ref sa, .ref ps, .ref to, .int (nI gs), .int (nI rc), .int (nI pn)])), (ru, .inl (g.2.1 0, 4000, .inl (aI RU))), (sa, .inl (g.2.1 0, 4001, .inl (aI SA))), (bk, .inr (5, [.ref ra, .ref pa, .int (bI pr), .int (nI rules.length), .int (nI pb), .int (nI db)])), (ra, .inl (g.2.1 3, 400, .inr (.inr (.inr (.inr RA))))), (ou, .inl (g.2.1 5, 1, .inr (.inl F)))]) (pl := PP) (st' := [.int (rowV rv (RU j) (SA (j + 1) - SA j) y), .int (nI 0), .ref ou]) (n1 := 0) (n2 := 0) [1, 2, 3, 4, 5, 6, 0] rfl rfl rfl rfl rfl rfl ?_
  refine r_i2l C d_Law_row_8 ?_
  refine r_last C (ws' := [(x0, .inr (0, [.ref t, .ref bk, .ref p, .ref s, .ref u])), (s, .inr (7, [.ref ru, .ref sa, .ref ps, .ref to, .int (nI gs), .int (nI rc), .int (nI pn)])), (ru, .inl (g.2.1 0, 4000, .inl (aI RU))), (sa, .inl (g.2.1 0, 4001, .inl (aI SA))), (bk, .inr (5, [.ref ra, .ref pa, .int (bI pr), .int (nI rules.length), .int (nI pb), .int (nI db)])), (ra, .inl (g.2.1 3, 400, .inr (.inr (.inr (.inr RA))))), (ou, .inl (g.2.1 5, 1, .inr (.inl (vp_updL F 0 (((rowV rv (RU j) (SA (j + 1) - SA j) y)).toInt64)))))] ++ PP) 6 5 d_Law_row_9 rfl rfl (by omega) (by decide) rfl ?_
  refine r_goto C 17 d_Law_row_10 (by decide) ?_
  refine r_iconst C (nI 0) d_Law_row_17 (by decide) ?_
  refine r_iret C E d_Law_row_18 (by first | decide | omega | (simp only [rmk]; omega)) (by first | decide | omega | (simp only [rmk]; omega)) ?_
  exact ⟨rfl, rfl⟩

set_option maxHeartbeats 4000000 in
set_option maxRecDepth 100000 in
theorem c_Law_row_IOE (g : GG) (l : Launch) (hfl : l.flags = pinnedFlags ++ [noTraceFlag]) {x0 : Nat} {t : Nat} {bk : Nat} {p : Nat} {s : Nat} {u : Nat} {ru : Nat} {sa : Nat} {ps : Nat} {to : Nat} {gs : Nat} {rc : Nat} {pn : Nat} {RU : Nat → Nat} {SA : Nat → Nat} {PL : Nat → Nat} {RA : Nat → Option Nat} {PP : va_W} {ra : Nat} {pa : Nat} {pb : Nat} {db : Nat} {pr : Bool} {rules : List RuleV} {y : Int32} {z : Int32} {ou : Nat} {F : Nat → Int64} (h1 : rc ≤ 4000) (h400 : rules.length ≤ 400) (hbad : hasK rc (inN z) = false) : CnW g l y_Law_row b_Law_row 5 (some .int) [(0, 10, 13, 22)] (rmk 7 1 6 124) [.ref x0, .int z, .int y, .ref ou] ([(x0, .inr (0, [.ref t, .ref bk, .ref p, .ref s, .ref u])), (s, .inr (7, [.ref ru, .ref sa, .ref ps, .ref to, .int (nI gs), .int (nI rc), .int (nI pn)])), (ru, .inl (g.2.1 0, 4000, .inl (aI RU))), (sa, .inl (g.2.1 0, 4001, .inl (aI SA))), (bk, .inr (5, [.ref ra, .ref pa, .int (bI pr), .int (nI rules.length), .int (nI pb), .int (nI db)])), (ra, .inl (g.2.1 3, 400, .inr (.inr (.inr (.inr RA))))), (ou, .inl (g.2.1 5, 1, .inr (.inl F)))] ++ PP) (fun (r0 : Option Value) (w0 : va_W) => r0 = some (.int (nI 1)) ∧ w0 = [(x0, .inr (0, [.ref t, .ref bk, .ref p, .ref s, .ref u])), (s, .inr (7, [.ref ru, .ref sa, .ref ps, .ref to, .int (nI gs), .int (nI rc), .int (nI pn)])), (ru, .inl (g.2.1 0, 4000, .inl (aI RU))), (sa, .inl (g.2.1 0, 4001, .inl (aI SA))), (bk, .inr (5, [.ref ra, .ref pa, .int (bI pr), .int (nI rules.length), .int (nI pb), .int (nI db)])), (ra, .inl (g.2.1 3, 400, .inr (.inr (.inr (.inr RA))))), (ou, .inl (g.2.1 5, 1, .inr (.inl F)))] ++ PP) := by
  refine CnW.of R_Law [(0, .ref x0), (1, .int z), (2, .int y), (3, .ref ou)] (by decide) rfl (Nat.le_of_ble_eq_true rfl) rfl ?_
  intro x A Q hR hXl hNC hTab C E
  subst hXl
  refine r_aload_n C 3 d_Law_row_0 rfl rfl ?_
  refine r_iconst C (nI 0) d_Law_row_1 (by decide) ?_
  refine r_aload_n C 0 d_Law_row_2 rfl rfl ?_
  refine r_iload_n C 1 d_Law_row_3 rfl rfl ?_
  refine r_iload_n C 2 d_Law_row_4 rfl rfl ?_
  obtain ⟨pre9, z9, suf9, hsp9, hpm9, z91, z92, z93, z94⟩ := tab_at hTab 0 rfl
  refine j_callT C (c_RR_row_IOE g (xl x) hfl (x0 := x0) (t := t) (bk := bk) (p := p) (s := s) (u := u) (ru := ru) (sa := sa) (ps := ps) (to := to) (gs := gs) (rc := rc) (pn := pn) (RU := RU) (SA := SA) (PL := PL) (RA := RA) (PP := PP) (ra := ra) (pa := pa) (pb := pb) (db := db) (pr := pr) (rules := rules) (y := y) (z := z) (h1) (h400) (hbad)) (Sp.pool (Sp.of (wr := [(ou, .inl (g.2.1 5, 1, .inr (.inl F)))]) [0, 1, 2, 3, 4, 5] [6] rfl rfl rfl rfl (by decide)) PP) d_Law_row_5 lm_Law_19 mw_RR_row vw_RR_row (q0 := 0) rfl rfl (fit_of hR (by first | decide | (simp only [rmk]; omega)) (by first | decide | (simp only [rmk]; omega)) (by first | decide | (simp only [rmk]; omega)) (by first | decide | (simp only [rmk]; omega))) rfl (cat8 (Nat.le_of_ble_eq_true rfl)) (As := [.int z, .int y]) (rest := [.int (nI 0), .ref ou]) rfl hsp9 (tp_IOE_0 hpm9) (by simp [covers, z91, z92]) (by rw [z94]; decide) (by rw [z94]; exact tl_IOE) hNC tc_IOE (fun q9 w_5 hp_5 => ?_)
  rw [z93]
  subst hp_5
  refine r_afterP (X := [(ou, .inl (g.2.1 5, 1, .inr (.inl F))), (x0, .inr (0, [.ref t, .ref bk, .ref p, .ref s, .ref u])), (s, .inr (7, [.ref ru, .ref sa, .ref ps, .ref to, .int (nI gs), .int (nI rc), .int (nI pn)])), (ru, .inl (g.2.1 0, 4000, .inl (aI RU))), (sa, .inl (g.2.1 0, 4001, .inl (aI SA))), (bk, .inr (5, [.ref ra, .ref pa, .int (bI pr), .int (nI rules.length), .int (nI pb), .int (nI db)])), (ra, .inl (g.2.1 3, 400, .inr (.inr (.inr (.inr RA)))))]) (X' := [(x0, .inr (0, [.ref t, .ref bk, .ref p, .ref s, .ref u])), (s, .inr (7, [.ref ru, .ref sa, .ref ps, .ref to, .int (nI gs), .int (nI rc), .int (nI pn)])), (ru, .inl (g.2.1 0, 4000, .inl (aI RU))), (sa, .inl (g.2.1 0, 4001, .inl (aI SA))), (bk, .inr (5, [.ref ra, .ref pa, .int (bI pr), .int (nI rules.length), .int (nI pb), .int (nI db)])), (ra, .inl (g.2.1 3, 400, .inr (.inr (.inr (.inr RA))))), (ou, .inl (g.2.1 5, 1, .inr (.inl F)))]) (pl := PP) (st' := [.ref q9]) (n1 := 0 + 1) (n2 := 0 + 6) [1, 2, 3, 4, 5, 6, 0] rfl rfl rfl rfl rfl rfl ?_
  refine r_astore C (lv' := [(4, .ref q9), (0, .ref x0), (1, .int z), (2, .int y), (3, .ref ou)]) d_Law_row_13 (by decide) rfl ?_
  refine r_iconst C (nI 1) d_Law_row_15 (by decide) ?_
  refine r_iret C E d_Law_row_16 (by first | decide | omega | (simp only [rmk]; omega)) (by first | decide | omega | (simp only [rmk]; omega)) ?_
  exact ⟨rfl, rfl⟩

set_option maxHeartbeats 4000000 in
set_option maxRecDepth 100000 in
theorem c_Law_row_IOE2 (g : GG) (l : Launch) (hfl : l.flags = pinnedFlags ++ [noTraceFlag]) {x0 : Nat} {t : Nat} {bk : Nat} {p : Nat} {s : Nat} {u : Nat} {ru : Nat} {sa : Nat} {ps : Nat} {to : Nat} {gs : Nat} {rc : Nat} {pn : Nat} {RU : Nat → Nat} {SA : Nat → Nat} {PL : Nat → Nat} {RA : Nat → Option Nat} {PP : va_W} {ra : Nat} {pa : Nat} {pb : Nat} {db : Nat} {pr : Bool} {rules : List RuleV} {j : Nat} {y : Int32} {rv : RuleV} {ou : Nat} {F : Nat → Int64} (h1 : rc ≤ 4000) (h400 : rules.length ≤ 400) (hRA : RulesAt g PP RA rules) (hj : j < rc) (hrv : rules[RU j]? = some rv) (hbad : y < 0 ∨ ¬ y ≤ 5) : CnW g l y_Law_row b_Law_row 5 (some .int) [(0, 10, 13, 22)] (rmk 7 1 6 124) [.ref x0, .int (nI j), .int y, .ref ou] ([(x0, .inr (0, [.ref t, .ref bk, .ref p, .ref s, .ref u])), (s, .inr (7, [.ref ru, .ref sa, .ref ps, .ref to, .int (nI gs), .int (nI rc), .int (nI pn)])), (ru, .inl (g.2.1 0, 4000, .inl (aI RU))), (sa, .inl (g.2.1 0, 4001, .inl (aI SA))), (bk, .inr (5, [.ref ra, .ref pa, .int (bI pr), .int (nI rules.length), .int (nI pb), .int (nI db)])), (ra, .inl (g.2.1 3, 400, .inr (.inr (.inr (.inr RA))))), (ou, .inl (g.2.1 5, 1, .inr (.inl F)))] ++ PP) (fun (r0 : Option Value) (w0 : va_W) => r0 = some (.int (nI 1)) ∧ w0 = [(x0, .inr (0, [.ref t, .ref bk, .ref p, .ref s, .ref u])), (s, .inr (7, [.ref ru, .ref sa, .ref ps, .ref to, .int (nI gs), .int (nI rc), .int (nI pn)])), (ru, .inl (g.2.1 0, 4000, .inl (aI RU))), (sa, .inl (g.2.1 0, 4001, .inl (aI SA))), (bk, .inr (5, [.ref ra, .ref pa, .int (bI pr), .int (nI rules.length), .int (nI pb), .int (nI db)])), (ra, .inl (g.2.1 3, 400, .inr (.inr (.inr (.inr RA))))), (ou, .inl (g.2.1 5, 1, .inr (.inl F)))] ++ PP) := by
  refine CnW.of R_Law [(0, .ref x0), (1, .int (nI j)), (2, .int y), (3, .ref ou)] (by decide) rfl (Nat.le_of_ble_eq_true rfl) rfl ?_
  intro x A Q hR hXl hNC hTab C E
  subst hXl
  refine r_aload_n C 3 d_Law_row_0 rfl rfl ?_
  refine r_iconst C (nI 0) d_Law_row_1 (by decide) ?_
  refine r_aload_n C 0 d_Law_row_2 rfl rfl ?_
  refine r_iload_n C 1 d_Law_row_3 rfl rfl ?_
  refine r_iload_n C 2 d_Law_row_4 rfl rfl ?_
  obtain ⟨pre9, z9, suf9, hsp9, hpm9, z91, z92, z93, z94⟩ := tab_at hTab 0 rfl
  refine j_callT C (c_RR_row_IOE2 g (xl x) hfl (x0 := x0) (t := t) (bk := bk) (p := p) (s := s) (u := u) (ru := ru) (sa := sa) (ps := ps) (to := to) (gs := gs) (rc := rc) (pn := pn) (RU := RU) (SA := SA) (PL := PL) (RA := RA) (PP := PP) (ra := ra) (pa := pa) (pb := pb) (db := db) (pr := pr) (rules := rules) (j := j) (y := y) (rv := rv) (h1) (h400) (hRA) (hj) (hrv) (hbad)) (Sp.pool (Sp.of (wr := [(ou, .inl (g.2.1 5, 1, .inr (.inl F)))]) [0, 1, 2, 3, 4, 5] [6] rfl rfl rfl rfl (by decide)) PP) d_Law_row_5 lm_Law_19 mw_RR_row vw_RR_row (q0 := 0) rfl rfl (fit_of hR (by first | decide | (simp only [rmk]; omega)) (by first | decide | (simp only [rmk]; omega)) (by first | decide | (simp only [rmk]; omega)) (by first | decide | (simp only [rmk]; omega))) rfl (cat8 (Nat.le_of_ble_eq_true rfl)) (As := [.int (nI j), .int y]) (rest := [.int (nI 0), .ref ou]) rfl hsp9 (tp_IOE_0 hpm9) (by simp [covers, z91, z92]) (by rw [z94]; decide) (by rw [z94]; exact tl_IOE) hNC tc_IOE (fun q9 w_5 hp_5 => ?_)
  rw [z93]
  subst hp_5
  refine r_afterP (X := [(ou, .inl (g.2.1 5, 1, .inr (.inl F))), (x0, .inr (0, [.ref t, .ref bk, .ref p, .ref s, .ref u])), (s, .inr (7, [.ref ru, .ref sa, .ref ps, .ref to, .int (nI gs), .int (nI rc), .int (nI pn)])), (ru, .inl (g.2.1 0, 4000, .inl (aI RU))), (sa, .inl (g.2.1 0, 4001, .inl (aI SA))), (bk, .inr (5, [.ref ra, .ref pa, .int (bI pr), .int (nI rules.length), .int (nI pb), .int (nI db)])), (ra, .inl (g.2.1 3, 400, .inr (.inr (.inr (.inr RA)))))]) (X' := [(x0, .inr (0, [.ref t, .ref bk, .ref p, .ref s, .ref u])), (s, .inr (7, [.ref ru, .ref sa, .ref ps, .ref to, .int (nI gs), .int (nI rc), .int (nI pn)])), (ru, .inl (g.2.1 0, 4000, .inl (aI RU))), (sa, .inl (g.2.1 0, 4001, .inl (aI SA))), (bk, .inr (5, [.ref ra, .ref pa, .int (bI pr), .int (nI rules.length), .int (nI pb), .int (nI db)])), (ra, .inl (g.2.1 3, 400, .inr (.inr (.inr (.inr RA))))), (ou, .inl (g.2.1 5, 1, .inr (.inl F)))]) (pl := PP) (st' := [.ref q9]) (n1 := 0 + 1) (n2 := 0 + 6) [1, 2, 3, 4, 5, 6, 0] rfl rfl rfl rfl rfl rfl ?_
  refine r_astore C (lv' := [(4, .ref q9), (0, .ref x0), (1, .int (nI j)), (2, .int y), (3, .ref ou)]) d_Law_row_13 (by decide) rfl ?_
  refine r_iconst C (nI 1) d_Law_row_15 (by decide) ?_
  refine r_iret C E d_Law_row_16 (by first | decide | omega | (simp only [rmk]; omega)) (by first | decide | omega | (simp only [rmk]; omega)) ?_
  exact ⟨rfl, rfl⟩

set_option maxHeartbeats 4000000 in
set_option maxRecDepth 100000 in
theorem c_Law_place_ok (g : GG) (l : Launch) {x0 : Nat} {t : Nat} {bk : Nat} {p : Nat} {s : Nat} {u : Nat} {ru : Nat} {sa : Nat} {ps : Nat} {to : Nat} {gs : Nat} {rc : Nat} {pn : Nat} {SA : Nat → Nat} {PL : Nat → Nat} {y : Int32} {z : Int32} {v : Nat} {ou : Nat} {F : Nat → Int64} (h1 : rc ≤ 4000) (h2 : pn ≤ 30000) (hm : ∀ j, j < rc → SA j ≤ SA (j + 1)) (he : ∀ j, j < rc → SA (j + 1) ≤ pn) (hv : placeK SA PL rc (inN z) (inN y) = some v) (hv2 : v < 2 ^ 31) : CnW g l y_Law_place b_Law_place 5 (some .int) [(0, 10, 13, 22)] (rmk 4 0 0 88) [.ref x0, .int z, .int y, .ref ou] ([(x0, .inr (0, [.ref t, .ref bk, .ref p, .ref s, .ref u])), (s, .inr (7, [.ref ru, .ref sa, .ref ps, .ref to, .int (nI gs), .int (nI rc), .int (nI pn)])), (sa, .inl (g.2.1 0, 4001, .inl (aI SA))), (ps, .inl (g.2.1 0, 30000, .inl (aI PL))), (ou, .inl (g.2.1 5, 1, .inr (.inl F)))]) (fun (r0 : Option Value) (w0 : va_W) => r0 = some (.int (nI 0)) ∧ w0 = [(x0, .inr (0, [.ref t, .ref bk, .ref p, .ref s, .ref u])), (s, .inr (7, [.ref ru, .ref sa, .ref ps, .ref to, .int (nI gs), .int (nI rc), .int (nI pn)])), (sa, .inl (g.2.1 0, 4001, .inl (aI SA))), (ps, .inl (g.2.1 0, 30000, .inl (aI PL))), (ou, .inl (g.2.1 5, 1, .inr (.inl (vp_updL F 0 (nI v).toInt64))))]) := by
  refine CnW.of R_Law [(0, .ref x0), (1, .int z), (2, .int y), (3, .ref ou)] (by decide) rfl (Nat.le_of_ble_eq_true rfl) rfl ?_
  intro x A Q hR hXl hNC hTab C E
  subst hXl
  refine r_aload_n C 3 d_Law_place_0 rfl rfl ?_
  refine r_iconst C (nI 0) d_Law_place_1 (by decide) ?_
  refine r_aload_n C 0 d_Law_place_2 rfl rfl ?_
  refine r_iload_n C 1 d_Law_place_3 rfl rfl ?_
  refine r_iload_n C 2 d_Law_place_4 rfl rfl ?_
  refine j_callV C (c_RR_place g (xl x) (x0 := x0) (t := t) (bk := bk) (p := p) (s := s) (u := u) (ru := ru) (sa := sa) (ps := ps) (to := to) (gs := gs) (rc := rc) (pn := pn) (SA := SA) (PL := PL) (y := y) (z := z) (v := v) (h1) (h2) (hm) (he) (hv) (hv2)) (Sp.of (wr := [(ou, .inl (g.2.1 5, 1, .inr (.inl F)))]) [0, 1, 2, 3] [4] rfl rfl rfl rfl (by decide)) d_Law_place_5 lk_Law_24 mw_RR_place vw_RR_place (q0 := 0) rfl rfl (fit_of hR (by first | decide | (simp only [rmk]; omega)) (by first | decide | (simp only [rmk]; omega)) (by first | decide | (simp only [rmk]; omega)) (by first | decide | (simp only [rmk]; omega))) rfl (cat8 (Nat.le_of_ble_eq_true rfl)) (As := [.int z, .int y]) (rest := [.int (nI 0), .ref ou]) rfl (fun r_5 w_5 hp_5 => ?_)
  obtain ⟨rfl, rfl⟩ := hp_5
  refine r_after (ws' := [(x0, .inr (0, [.ref t, .ref bk, .ref p, .ref s, .ref u])), (s, .inr (7, [.ref ru, .ref sa, .ref ps, .ref to, .int (nI gs), .int (nI rc), .int (nI pn)])), (sa, .inl (g.2.1 0, 4001, .inl (aI SA))), (ps, .inl (g.2.1 0, 30000, .inl (aI PL))), (ou, .inl (g.2.1 5, 1, .inr (.inl F)))]) (st' := [.int (nI v), .int (nI 0), .ref ou]) (n1 := 0) (n2 := 0) [1, 2, 3, 4, 0] rfl rfl rfl rfl rfl ?_
  refine r_i2l C d_Law_place_8 ?_
  refine r_last C (ws' := [(x0, .inr (0, [.ref t, .ref bk, .ref p, .ref s, .ref u])), (s, .inr (7, [.ref ru, .ref sa, .ref ps, .ref to, .int (nI gs), .int (nI rc), .int (nI pn)])), (sa, .inl (g.2.1 0, 4001, .inl (aI SA))), (ps, .inl (g.2.1 0, 30000, .inl (aI PL))), (ou, .inl (g.2.1 5, 1, .inr (.inl (vp_updL F 0 ((nI v).toInt64)))))]) 4 5 d_Law_place_9 rfl rfl (by omega) (by decide) rfl ?_
  refine r_goto C 17 d_Law_place_10 (by decide) ?_
  refine r_iconst C (nI 0) d_Law_place_17 (by decide) ?_
  refine r_iret C E d_Law_place_18 (by first | decide | omega | (simp only [rmk]; omega)) (by first | decide | omega | (simp only [rmk]; omega)) ?_
  exact ⟨rfl, rfl⟩

set_option maxHeartbeats 4000000 in
set_option maxRecDepth 100000 in
theorem c_Law_place_IOE (g : GG) (l : Launch) (hfl : l.flags = pinnedFlags ++ [noTraceFlag]) {x0 : Nat} {t : Nat} {bk : Nat} {p : Nat} {s : Nat} {u : Nat} {ru : Nat} {sa : Nat} {ps : Nat} {to : Nat} {gs : Nat} {rc : Nat} {pn : Nat} {SA : Nat → Nat} {PL : Nat → Nat} {y : Int32} {z : Int32} {ou : Nat} {F : Nat → Int64} (h1 : rc ≤ 4000) (h2 : pn ≤ 30000) (hm : ∀ j, j < rc → SA j ≤ SA (j + 1)) (he : ∀ j, j < rc → SA (j + 1) ≤ pn) (hv : placeK SA PL rc (inN z) (inN y) = none) : CnW g l y_Law_place b_Law_place 5 (some .int) [(0, 10, 13, 22)] (rmk 7 1 6 123) [.ref x0, .int z, .int y, .ref ou] ([(x0, .inr (0, [.ref t, .ref bk, .ref p, .ref s, .ref u])), (s, .inr (7, [.ref ru, .ref sa, .ref ps, .ref to, .int (nI gs), .int (nI rc), .int (nI pn)])), (sa, .inl (g.2.1 0, 4001, .inl (aI SA))), (ps, .inl (g.2.1 0, 30000, .inl (aI PL))), (ou, .inl (g.2.1 5, 1, .inr (.inl F)))]) (fun (r0 : Option Value) (w0 : va_W) => r0 = some (.int (nI 1)) ∧ w0 = [(x0, .inr (0, [.ref t, .ref bk, .ref p, .ref s, .ref u])), (s, .inr (7, [.ref ru, .ref sa, .ref ps, .ref to, .int (nI gs), .int (nI rc), .int (nI pn)])), (sa, .inl (g.2.1 0, 4001, .inl (aI SA))), (ps, .inl (g.2.1 0, 30000, .inl (aI PL))), (ou, .inl (g.2.1 5, 1, .inr (.inl F)))]) := by
  refine CnW.of R_Law [(0, .ref x0), (1, .int z), (2, .int y), (3, .ref ou)] (by decide) rfl (Nat.le_of_ble_eq_true rfl) rfl ?_
  intro x A Q hR hXl hNC hTab C E
  subst hXl
  refine r_aload_n C 3 d_Law_place_0 rfl rfl ?_
  refine r_iconst C (nI 0) d_Law_place_1 (by decide) ?_
  refine r_aload_n C 0 d_Law_place_2 rfl rfl ?_
  refine r_iload_n C 1 d_Law_place_3 rfl rfl ?_
  refine r_iload_n C 2 d_Law_place_4 rfl rfl ?_
  obtain ⟨pre9, z9, suf9, hsp9, hpm9, z91, z92, z93, z94⟩ := tab_at hTab 0 rfl
  refine j_callT C (c_RR_place_IOE g (xl x) hfl (x0 := x0) (t := t) (bk := bk) (p := p) (s := s) (u := u) (ru := ru) (sa := sa) (ps := ps) (to := to) (gs := gs) (rc := rc) (pn := pn) (SA := SA) (PL := PL) (y := y) (z := z) (h1) (h2) (hm) (he) (hv)) (Sp.of (wr := [(ou, .inl (g.2.1 5, 1, .inr (.inl F)))]) [0, 1, 2, 3] [4] rfl rfl rfl rfl (by decide)) d_Law_place_5 lm_Law_24 mw_RR_place vw_RR_place (q0 := 0) rfl rfl (fit_of hR (by first | decide | (simp only [rmk]; omega)) (by first | decide | (simp only [rmk]; omega)) (by first | decide | (simp only [rmk]; omega)) (by first | decide | (simp only [rmk]; omega))) rfl (cat8 (Nat.le_of_ble_eq_true rfl)) (As := [.int z, .int y]) (rest := [.int (nI 0), .ref ou]) rfl hsp9 (tp_IOE_0 hpm9) (by simp [covers, z91, z92]) (by rw [z94]; decide) (by rw [z94]; exact tl_IOE) hNC tc_IOE (fun q9 w_5 hp_5 => ?_)
  rw [z93]
  subst hp_5
  refine r_after (ws' := [(x0, .inr (0, [.ref t, .ref bk, .ref p, .ref s, .ref u])), (s, .inr (7, [.ref ru, .ref sa, .ref ps, .ref to, .int (nI gs), .int (nI rc), .int (nI pn)])), (sa, .inl (g.2.1 0, 4001, .inl (aI SA))), (ps, .inl (g.2.1 0, 30000, .inl (aI PL))), (ou, .inl (g.2.1 5, 1, .inr (.inl F)))]) (st' := [.ref q9]) (n1 := 0 + 1) (n2 := 0 + 6) [1, 2, 3, 4, 0] rfl rfl rfl rfl rfl ?_
  refine r_astore C (lv' := [(4, .ref q9), (0, .ref x0), (1, .int z), (2, .int y), (3, .ref ou)]) d_Law_place_13 (by decide) rfl ?_
  refine r_iconst C (nI 1) d_Law_place_15 (by decide) ?_
  refine r_iret C E d_Law_place_16 (by first | decide | omega | (simp only [rmk]; omega)) (by first | decide | omega | (simp only [rmk]; omega)) ?_
  exact ⟨rfl, rfl⟩

set_option maxHeartbeats 4000000 in
set_option maxRecDepth 100000 in
theorem c_Law_line_ok (g : GG) (l : Launch) {x0 : Nat} {t : Nat} {bk : Nat} {p : Nat} {s : Nat} {u : Nat} {RA : Nat → Option Nat} {PP : va_W} {ra : Nat} {pa : Nat} {pb : Nat} {db : Nat} {pr : Bool} {rules : List RuleV} {j : Nat} {rv : RuleV} {ou : Nat} {F : Nat → Int64} (h400 : rules.length ≤ 400) (hRA : RulesAt g PP RA rules) (hrv : rules[j]? = some rv) : CnW g l y_Law_line b_Law_line 4 (some .int) [(0, 9, 12, 22)] (rmk 2 0 0 43) [.ref x0, .int (nI j), .ref ou] ([(x0, .inr (0, [.ref t, .ref bk, .ref p, .ref s, .ref u])), (bk, .inr (5, [.ref ra, .ref pa, .int (bI pr), .int (nI rules.length), .int (nI pb), .int (nI db)])), (ra, .inl (g.2.1 3, 400, .inr (.inr (.inr (.inr RA))))), (ou, .inl (g.2.1 5, 1, .inr (.inl F)))] ++ PP) (fun (r0 : Option Value) (w0 : va_W) => r0 = some (.int (nI 0)) ∧ w0 = [(x0, .inr (0, [.ref t, .ref bk, .ref p, .ref s, .ref u])), (bk, .inr (5, [.ref ra, .ref pa, .int (bI pr), .int (nI rules.length), .int (nI pb), .int (nI db)])), (ra, .inl (g.2.1 3, 400, .inr (.inr (.inr (.inr RA))))), (ou, .inl (g.2.1 5, 1, .inr (.inl (vp_updL F 0 (nI rv.2.1).toInt64))))] ++ PP) := by
  refine CnW.of R_Law [(0, .ref x0), (1, .int (nI j)), (2, .ref ou)] (by decide) rfl (Nat.le_of_ble_eq_true rfl) rfl ?_
  intro x A Q hR hXl hNC hTab C E
  subst hXl
  refine r_aload_n C 2 d_Law_line_0 rfl rfl ?_
  refine r_iconst C (nI 0) d_Law_line_1 (by decide) ?_
  refine r_aload_n C 0 d_Law_line_2 rfl rfl ?_
  refine r_iload_n C 1 d_Law_line_3 rfl rfl ?_
  refine j_callV C (c_RR_line g (xl x) (x0 := x0) (t := t) (bk := bk) (p := p) (s := s) (u := u) (RA := RA) (PP := PP) (ra := ra) (pa := pa) (pb := pb) (db := db) (pr := pr) (rules := rules) (j := j) (rv := rv) (h400) (hRA) (hrv)) (Sp.pool (Sp.of (wr := [(ou, .inl (g.2.1 5, 1, .inr (.inl F)))]) [0, 1, 2] [3] rfl rfl rfl rfl (by decide)) PP) d_Law_line_4 lk_Law_27 mw_RR_line vw_RR_line (q0 := 0) rfl rfl (fit_of hR (by first | decide | (simp only [rmk]; omega)) (by first | decide | (simp only [rmk]; omega)) (by first | decide | (simp only [rmk]; omega)) (by first | decide | (simp only [rmk]; omega))) rfl (cat8 (Nat.le_of_ble_eq_true rfl)) (As := [.int (nI j)]) (rest := [.int (nI 0), .ref ou]) rfl (fun r_4 w_4 hp_4 => ?_)
  obtain ⟨rfl, rfl⟩ := hp_4
  refine r_afterP (X := [(ou, .inl (g.2.1 5, 1, .inr (.inl F))), (x0, .inr (0, [.ref t, .ref bk, .ref p, .ref s, .ref u])), (bk, .inr (5, [.ref ra, .ref pa, .int (bI pr), .int (nI rules.length), .int (nI pb), .int (nI db)])), (ra, .inl (g.2.1 3, 400, .inr (.inr (.inr (.inr RA)))))]) (X' := [(x0, .inr (0, [.ref t, .ref bk, .ref p, .ref s, .ref u])), (bk, .inr (5, [.ref ra, .ref pa, .int (bI pr), .int (nI rules.length), .int (nI pb), .int (nI db)])), (ra, .inl (g.2.1 3, 400, .inr (.inr (.inr (.inr RA))))), (ou, .inl (g.2.1 5, 1, .inr (.inl F)))]) (pl := PP) (st' := [.int (nI rv.2.1), .int (nI 0), .ref ou]) (n1 := 0) (n2 := 0) [1, 2, 3, 0] rfl rfl rfl rfl rfl rfl ?_
  refine r_i2l C d_Law_line_7 ?_
  refine r_last C (ws' := [(x0, .inr (0, [.ref t, .ref bk, .ref p, .ref s, .ref u])), (bk, .inr (5, [.ref ra, .ref pa, .int (bI pr), .int (nI rules.length), .int (nI pb), .int (nI db)])), (ra, .inl (g.2.1 3, 400, .inr (.inr (.inr (.inr RA))))), (ou, .inl (g.2.1 5, 1, .inr (.inl (vp_updL F 0 ((nI rv.2.1).toInt64)))))] ++ PP) 3 5 d_Law_line_8 rfl rfl (by omega) (by decide) rfl ?_
  refine r_goto C 15 d_Law_line_9 (by decide) ?_
  refine r_iconst C (nI 0) d_Law_line_15 (by decide) ?_
  refine r_iret C E d_Law_line_16 (by first | decide | omega | (simp only [rmk]; omega)) (by first | decide | omega | (simp only [rmk]; omega)) ?_
  exact ⟨rfl, rfl⟩

set_option maxHeartbeats 4000000 in
set_option maxRecDepth 100000 in
theorem c_Law_line_IOE (g : GG) (l : Launch) (hfl : l.flags = pinnedFlags ++ [noTraceFlag]) {x0 : Nat} {t : Nat} {bk : Nat} {p : Nat} {s : Nat} {u : Nat} {RA : Nat → Option Nat} {PP : va_W} {ra : Nat} {pa : Nat} {pb : Nat} {db : Nat} {pr : Bool} {rules : List RuleV} {z : Int32} {ou : Nat} {F : Nat → Int64} (h400 : rules.length ≤ 400) (hbad : hasK rules.length (inN z) = false) : CnW g l y_Law_line b_Law_line 4 (some .int) [(0, 9, 12, 22)] (rmk 7 1 6 122) [.ref x0, .int z, .ref ou] ([(x0, .inr (0, [.ref t, .ref bk, .ref p, .ref s, .ref u])), (bk, .inr (5, [.ref ra, .ref pa, .int (bI pr), .int (nI rules.length), .int (nI pb), .int (nI db)])), (ra, .inl (g.2.1 3, 400, .inr (.inr (.inr (.inr RA))))), (ou, .inl (g.2.1 5, 1, .inr (.inl F)))] ++ PP) (fun (r0 : Option Value) (w0 : va_W) => r0 = some (.int (nI 1)) ∧ w0 = [(x0, .inr (0, [.ref t, .ref bk, .ref p, .ref s, .ref u])), (bk, .inr (5, [.ref ra, .ref pa, .int (bI pr), .int (nI rules.length), .int (nI pb), .int (nI db)])), (ra, .inl (g.2.1 3, 400, .inr (.inr (.inr (.inr RA))))), (ou, .inl (g.2.1 5, 1, .inr (.inl F)))] ++ PP) := by
  refine CnW.of R_Law [(0, .ref x0), (1, .int z), (2, .ref ou)] (by decide) rfl (Nat.le_of_ble_eq_true rfl) rfl ?_
  intro x A Q hR hXl hNC hTab C E
  subst hXl
  refine r_aload_n C 2 d_Law_line_0 rfl rfl ?_
  refine r_iconst C (nI 0) d_Law_line_1 (by decide) ?_
  refine r_aload_n C 0 d_Law_line_2 rfl rfl ?_
  refine r_iload_n C 1 d_Law_line_3 rfl rfl ?_
  obtain ⟨pre9, z9, suf9, hsp9, hpm9, z91, z92, z93, z94⟩ := tab_at hTab 0 rfl
  refine j_callT C (c_RR_line_IOE g (xl x) hfl (x0 := x0) (t := t) (bk := bk) (p := p) (s := s) (u := u) (RA := RA) (PP := PP) (ra := ra) (pa := pa) (pb := pb) (db := db) (pr := pr) (rules := rules) (z := z) (h400) (hbad)) (Sp.pool (Sp.of (wr := [(ou, .inl (g.2.1 5, 1, .inr (.inl F)))]) [0, 1, 2] [3] rfl rfl rfl rfl (by decide)) PP) d_Law_line_4 lm_Law_27 mw_RR_line vw_RR_line (q0 := 0) rfl rfl (fit_of hR (by first | decide | (simp only [rmk]; omega)) (by first | decide | (simp only [rmk]; omega)) (by first | decide | (simp only [rmk]; omega)) (by first | decide | (simp only [rmk]; omega))) rfl (cat8 (Nat.le_of_ble_eq_true rfl)) (As := [.int z]) (rest := [.int (nI 0), .ref ou]) rfl hsp9 (tp_IOE_0 hpm9) (by simp [covers, z91, z92]) (by rw [z94]; decide) (by rw [z94]; exact tl_IOE) hNC tc_IOE (fun q9 w_4 hp_4 => ?_)
  rw [z93]
  subst hp_4
  refine r_afterP (X := [(ou, .inl (g.2.1 5, 1, .inr (.inl F))), (x0, .inr (0, [.ref t, .ref bk, .ref p, .ref s, .ref u])), (bk, .inr (5, [.ref ra, .ref pa, .int (bI pr), .int (nI rules.length), .int (nI pb), .int (nI db)])), (ra, .inl (g.2.1 3, 400, .inr (.inr (.inr (.inr RA)))))]) (X' := [(x0, .inr (0, [.ref t, .ref bk, .ref p, .ref s, .ref u])), (bk, .inr (5, [.ref ra, .ref pa, .int (bI pr), .int (nI rules.length), .int (nI pb), .int (nI db)])), (ra, .inl (g.2.1 3, 400, .inr (.inr (.inr (.inr RA))))), (ou, .inl (g.2.1 5, 1, .inr (.inl F)))]) (pl := PP) (st' := [.ref q9]) (n1 := 0 + 1) (n2 := 0 + 6) [1, 2, 3, 0] rfl rfl rfl rfl rfl rfl ?_
  refine r_astore_n C (lv' := [(3, .ref q9), (0, .ref x0), (1, .int z), (2, .ref ou)]) d_Law_line_12 rfl (by decide) rfl ?_
  refine r_iconst C (nI 1) d_Law_line_13 (by decide) ?_
  refine r_iret C E d_Law_line_14 (by first | decide | omega | (simp only [rmk]; omega)) (by first | decide | omega | (simp only [rmk]; omega)) ?_
  exact ⟨rfl, rfl⟩
