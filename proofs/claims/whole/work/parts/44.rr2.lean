theorem UAt_some {uw uh : Nat} {rules : List RuleV} {x : Nat × Rows} {tm : Bool} {mi : Int32} {RU SA PL : Nat → Nat} {TO : Nat → Bool} {rc pn : Nat} (h : UAt (unrA uw uh rules) tm mi RU SA PL TO rc pn) (hx : unrA uw uh rules = some x) : tm = false := by
  rw [hx] at h
  exact h.1
theorem UAt_none {uw uh : Nat} {rules : List RuleV} {tm : Bool} {mi : Int32} {RU SA PL : Nat → Nat} {TO : Nat → Bool} {rc pn : Nat} (h : UAt (unrA uw uh rules) tm mi RU SA PL TO rc pn) (hx : unrA uw uh rules = none) : tm = true := by
  rw [hx] at h
  exact h
/-- what row tells of a row -/
def rowV (rv : RuleV) (ru sz y : Nat) : Int32 := if y = 0 then nI ru else if y = 1 then nI rv.1 else if y = 2 then oI rv.2.2.2.1 else if y = 3 then oI rv.2.2.2.2.1 else if y = 4 then oI rv.2.2.2.2.2 else nI sz
theorem refK_no {RA : Nat → Option Nat} {rc : Nat} {z : Int32} (h : hasK rc (inN z) = false) : refK RA rc (inN z) = none := by
  cases e : inN z with
  | none => rfl
  | some j =>
    rw [e] at h
    rw [refK, if_neg (by simpa [hasK] using h)]
theorem inN_m1 : inN (-1) = none := by decide
theorem nI_nm1 {v : Nat} (h : v < 2 ^ 31) : nI v ≠ (-1 : Int32) := fun e => nI_pos h (by rw [e]; decide)

set_option maxRecDepth 100000 in
theorem fi_RR_44 : FI R_RR 44 R_RR F_RR 4 := Or.inl (gw (i := 293) rfl rfl)
set_option maxRecDepth 100000 in
theorem fi_RR_93 : FI R_RR 93 R_RowStore F_RowStore 5 := Or.inr ⟨"RuleReader", (nw (i := 232) rfl rfl)⟩
set_option maxRecDepth 100000 in
theorem lk_RR_84 : LK R_RR 84 y_Unroller_unroll := Or.inl (gw (i := 707) rfl rfl)
set_option maxRecDepth 100000 in
theorem mw_Unroller_unroll : MW y_Unroller_unroll b_Unroller_unroll 7 (some .boolean) 3 := ⟨(gw (i := 710) rfl rfl), (gw (i := 79) rfl rfl), by decide +kernel⟩
set_option maxRecDepth 100000 in
theorem vw_Unroller_unroll : VW y_Unroller_unroll := ⟨(gw (i := 708) rfl rfl), (gw (i := 709) rfl rfl)⟩
theorem d_RR_rows_0 : decode b_RR_rows 0 = .ok (.aload_n 0, 1) := by decide +kernel
theorem d_RR_rows_1 : decode b_RR_rows 1 = .ok (.getfield 19, 3) := by decide +kernel
theorem d_RR_rows_4 : decode b_RR_rows 4 = .ok (.getfield 64, 3) := by decide +kernel
theorem d_RR_rows_7 : decode b_RR_rows 7 = .ok (.ifCond .ne 13, 3) := by decide +kernel
theorem d_RR_rows_10 : decode b_RR_rows 10 = .ok (.new 72, 3) := by decide +kernel
theorem d_RR_rows_13 : decode b_RR_rows 13 = .ok (.dup, 1) := by decide +kernel
theorem d_RR_rows_14 : decode b_RR_rows 14 = .ok (.ldc 74, 2) := by decide +kernel
theorem d_RR_rows_16 : decode b_RR_rows 16 = .ok (.invokespecial 76, 3) := by decide +kernel
theorem d_RR_rows_19 : decode b_RR_rows 19 = .ok (.athrow, 1) := by decide +kernel
theorem d_RR_rows_20 : decode b_RR_rows 20 = .ok (.aload_n 0, 1) := by decide +kernel
theorem d_RR_rows_21 : decode b_RR_rows 21 = .ok (.getfield 35, 3) := by decide +kernel
theorem d_RR_rows_24 : decode b_RR_rows 24 = .ok (.invokevirtual 52, 3) := by decide +kernel
theorem d_RR_rows_27 : decode b_RR_rows 27 = .ok (.iload_n 1, 1) := by decide +kernel
theorem d_RR_rows_28 : decode b_RR_rows 28 = .ok (.iconst 1, 1) := by decide +kernel
theorem d_RR_rows_29 : decode b_RR_rows 29 = .ok (.if_icmp .lt 20, 3) := by decide +kernel
theorem d_RR_rows_32 : decode b_RR_rows 32 = .ok (.iload_n 1, 1) := by decide +kernel
theorem d_RR_rows_33 : decode b_RR_rows 33 = .ok (.bipush 16, 2) := by decide +kernel
theorem d_RR_rows_35 : decode b_RR_rows 35 = .ok (.if_icmp .gt 14, 3) := by decide +kernel
theorem d_RR_rows_38 : decode b_RR_rows 38 = .ok (.iload_n 2, 1) := by decide +kernel
theorem d_RR_rows_39 : decode b_RR_rows 39 = .ok (.iconst 1, 1) := by decide +kernel
theorem d_RR_rows_40 : decode b_RR_rows 40 = .ok (.if_icmp .lt 9, 3) := by decide +kernel
theorem d_RR_rows_43 : decode b_RR_rows 43 = .ok (.iload_n 2, 1) := by decide +kernel
theorem d_RR_rows_44 : decode b_RR_rows 44 = .ok (.bipush 16, 2) := by decide +kernel
theorem d_RR_rows_46 : decode b_RR_rows 46 = .ok (.if_icmp .le 13, 3) := by decide +kernel
theorem d_RR_rows_49 : decode b_RR_rows 49 = .ok (.new 79, 3) := by decide +kernel
theorem d_RR_rows_52 : decode b_RR_rows 52 = .ok (.dup, 1) := by decide +kernel
theorem d_RR_rows_53 : decode b_RR_rows 53 = .ok (.ldc 81, 2) := by decide +kernel
theorem d_RR_rows_55 : decode b_RR_rows 55 = .ok (.invokespecial 83, 3) := by decide +kernel
theorem d_RR_rows_58 : decode b_RR_rows 58 = .ok (.athrow, 1) := by decide +kernel
theorem d_RR_rows_59 : decode b_RR_rows 59 = .ok (.aload_n 0, 1) := by decide +kernel
theorem d_RR_rows_60 : decode b_RR_rows 60 = .ok (.getfield 44, 3) := by decide +kernel
theorem d_RR_rows_63 : decode b_RR_rows 63 = .ok (.aload_n 0, 1) := by decide +kernel
theorem d_RR_rows_64 : decode b_RR_rows 64 = .ok (.getfield 19, 3) := by decide +kernel
theorem d_RR_rows_67 : decode b_RR_rows 67 = .ok (.iload_n 1, 1) := by decide +kernel
theorem d_RR_rows_68 : decode b_RR_rows 68 = .ok (.iload_n 2, 1) := by decide +kernel
theorem d_RR_rows_69 : decode b_RR_rows 69 = .ok (.invokevirtual 84, 3) := by decide +kernel
theorem d_RR_rows_72 : decode b_RR_rows 72 = .ok (.ifCond .ne 20, 3) := by decide +kernel
theorem d_RR_rows_75 : decode b_RR_rows 75 = .ok (.aload_n 0, 1) := by decide +kernel
theorem d_RR_rows_76 : decode b_RR_rows 76 = .ok (.getfield 35, 3) := by decide +kernel
theorem d_RR_rows_79 : decode b_RR_rows 79 = .ok (.invokevirtual 52, 3) := by decide +kernel
theorem d_RR_rows_82 : decode b_RR_rows 82 = .ok (.new 88, 3) := by decide +kernel
theorem d_RR_rows_85 : decode b_RR_rows 85 = .ok (.dup, 1) := by decide +kernel
theorem d_RR_rows_86 : decode b_RR_rows 86 = .ok (.ldc 90, 2) := by decide +kernel
theorem d_RR_rows_88 : decode b_RR_rows 88 = .ok (.invokespecial 92, 3) := by decide +kernel
theorem d_RR_rows_91 : decode b_RR_rows 91 = .ok (.athrow, 1) := by decide +kernel
theorem d_RR_rows_92 : decode b_RR_rows 92 = .ok (.aload_n 0, 1) := by decide +kernel
theorem d_RR_rows_93 : decode b_RR_rows 93 = .ok (.getfield 35, 3) := by decide +kernel
theorem d_RR_rows_96 : decode b_RR_rows 96 = .ok (.getfield 93, 3) := by decide +kernel
theorem d_RR_rows_99 : decode b_RR_rows 99 = .ok (.ireturn, 1) := by decide +kernel
set_option maxHeartbeats 4000000 in
set_option maxRecDepth 100000 in
theorem c_RR_rows (g : GG) (l : Launch) {x0 : Nat} {t : Nat} {bk : Nat} {p : Nat} {s : Nat} {u : Nat} {ss : Nat} {la : Nat} {ke : Nat} {lc : Nat} {uw0 : Nat} {uh0 : Nat} {ri : Nat} {mi : Int32} {tm : Bool} {ru : Nat} {sa : Nat} {ps : Nat} {to : Nat} {gs : Nat} {rc : Nat} {pn : Nat} {RU : Nat → Nat} {SA : Nat → Nat} {PL : Nat → Nat} {SS : Nat → Nat} {KE : Nat → Nat} {TO : Nat → Bool} {LA : Nat → Option Nat} {RA : Nat → Option Nat} {PP : va_W} {ra : Nat} {pa : Nat} {pb : Nat} {db : Nat} {rules : List RuleV} {uw : Nat} {uh : Nat} {md : Nat} {R : Rows}  (h400 : rules.length ≤ 400) (hRA : RulesAt g PP RA rules) (hok : ∀ r ∈ rules, r.2.2.1.length ≤ 40 ∧ ∀ l ∈ r.2.2.1, LyOK l) (h256 : ∀ i, SS i < 256) (hw0 : 0 < uw) (hw1 : uw ≤ 16) (hh0 : 0 < uh) (hh1 : uh ≤ 16) (hun : unrA uw uh rules = some (md, R)) : Cn g l y_RR_rows b_RR_rows 3 (some .int) (rmk 182 0 0 4800) [.ref x0, .int (nI uw), .int (nI uh)] ([(x0, .inr (0, [.ref t, .ref bk, .ref p, .ref s, .ref u])), (u, .inr (8, [.ref s, .ref ss, .ref la, .ref ke, .int (nI lc), .int (nI uw0), .int (nI uh0), .int (nI ri), .int mi, .int (bI tm)])), (ss, .inl (g.2.1 0, 10496, .inl (aI SS))), (la, .inl (g.2.1 4, 40, .inr (.inr (.inr (.inr LA))))), (ke, .inl (g.2.1 0, 256, .inl (aI KE))), (s, .inr (7, [.ref ru, .ref sa, .ref ps, .ref to, .int (nI gs), .int (nI rc), .int (nI pn)])), (ru, .inl (g.2.1 0, 4000, .inl (aI RU))), (sa, .inl (g.2.1 0, 4001, .inl (aI SA))), (ps, .inl (g.2.1 0, 30000, .inl (aI PL))), (to, .inl (g.2.1 2, 256, .inl (zI TO))), (bk, .inr (5, [.ref ra, .ref pa, .int (bI true), .int (nI rules.length), .int (nI pb), .int (nI db)])), (ra, .inl (g.2.1 3, 400, .inr (.inr (.inr (.inr RA)))))] ++ PP) (fun (r0 : Option Value) (w0 : va_W) => ∃ mi2 : Int32, ∃ tm2 : Bool, ∃ lc2 : Nat, ∃ ri2 : Nat, ∃ rc2 : Nat, ∃ pn2 : Nat, ∃ RU2 : Nat → Nat, ∃ SA2 : Nat → Nat, ∃ PL2 : Nat → Nat, ∃ SS2 : Nat → Nat, ∃ KE2 : Nat → Nat, ∃ TO2 : Nat → Bool, ∃ LA2 : Nat → Option Nat, r0 = some (.int (nI rc2)) ∧ w0 = [(x0, .inr (0, [.ref t, .ref bk, .ref p, .ref s, .ref u])), (u, .inr (8, [.ref s, .ref ss, .ref la, .ref ke, .int (nI lc2), .int (nI uw), .int (nI uh), .int (nI ri2), .int mi2, .int (bI tm2)])), (ss, .inl (g.2.1 0, 10496, .inl (aI SS2))), (la, .inl (g.2.1 4, 40, .inr (.inr (.inr (.inr LA2))))), (ke, .inl (g.2.1 0, 256, .inl (aI KE2))), (s, .inr (7, [.ref ru, .ref sa, .ref ps, .ref to, .int (nI (uw * uh)), .int (nI rc2), .int (nI pn2)])), (ru, .inl (g.2.1 0, 4000, .inl (aI RU2))), (sa, .inl (g.2.1 0, 4001, .inl (aI SA2))), (ps, .inl (g.2.1 0, 30000, .inl (aI PL2))), (to, .inl (g.2.1 2, 256, .inl (zI TO2))), (bk, .inr (5, [.ref ra, .ref pa, .int (bI true), .int (nI rules.length), .int (nI pb), .int (nI db)])), (ra, .inl (g.2.1 3, 400, .inr (.inr (.inr (.inr RA)))))] ++ PP ∧ (UAt (unrA uw uh rules) tm2 mi2 RU2 SA2 PL2 TO2 rc2 pn2) ∧ (∀ i, SS2 i < 256)) := by
  refine Cn.of R_RR [(0, .ref x0), (1, .int (nI uw)), (2, .int (nI uh))] (by decide) rfl (Nat.le_of_ble_eq_true rfl) rfl ?_
  intro x A Q hR hXl hin C E
  subst hXl
  refine r_aload_n C 0 d_RR_rows_0 rfl rfl ?_
  refine r_get C 0 1 d_RR_rows_1 ci_RR fi_RR_19 rfl (by decide) rfl rfl ?_
  refine r_get C 10 2 d_RR_rows_4 ci_Book fi_RR_64 rfl (by decide) rfl rfl ?_
  refine r_bif_ne C 20 d_RR_rows_7 (by decide) (fun c_7 => ?_) (fun c_7 => ?_)
  rotate_left
  · exact absurd c_7 (by decide)
  refine r_aload_n C 0 d_RR_rows_20 rfl rfl ?_
  refine r_get C 0 3 d_RR_rows_21 ci_RR fi_RR_35 rfl (by decide) rfl rfl ?_
  refine j_callV C (c_RowStore_drop g (xl x) (s := s) (ru := ru) (sa := sa) (ps := ps) (to := to) (gs := gs) (rc := rc) (pn := pn) ) (Sp.keep (Sp.of (wr := [(x0, .inr (0, [.ref t, .ref bk, .ref p, .ref s, .ref u])), (u, .inr (8, [.ref s, .ref ss, .ref la, .ref ke, .int (nI lc), .int (nI uw0), .int (nI uh0), .int (nI ri), .int mi, .int (bI tm)])), (ss, .inl (g.2.1 0, 10496, .inl (aI SS))), (la, .inl (g.2.1 4, 40, .inr (.inr (.inr (.inr LA))))), (ke, .inl (g.2.1 0, 256, .inl (aI KE))), (ru, .inl (g.2.1 0, 4000, .inl (aI RU))), (sa, .inl (g.2.1 0, 4001, .inl (aI SA))), (ps, .inl (g.2.1 0, 30000, .inl (aI PL))), (to, .inl (g.2.1 2, 256, .inl (zI TO))), (bk, .inr (5, [.ref ra, .ref pa, .int (bI true), .int (nI rules.length), .int (nI pb), .int (nI db)])), (ra, .inl (g.2.1 3, 400, .inr (.inr (.inr (.inr RA)))))]) [5] [0, 1, 2, 3, 4, 6, 7, 8, 9, 10, 11] rfl rfl rfl rfl (by decide)) PP) d_RR_rows_24 lk_RR_52 mw_RowStore_drop vw_RowStore_drop (q0 := 0) rfl rfl (fit_of hR (by first | decide | (simp only [rmk]; omega)) (by first | decide | (simp only [rmk]; omega)) (by first | decide | (simp only [rmk]; omega)) (by first | decide | (simp only [rmk]; omega))) rfl (cat8 (Nat.le_of_ble_eq_true rfl)) (As := []) (rest := []) rfl (fun r_24 w_24 hp_24 => ?_)
  obtain ⟨rfl, rfl⟩ := hp_24
  refine r_swap ?_
  refine r_afterP (X := [(x0, .inr (0, [.ref t, .ref bk, .ref p, .ref s, .ref u])), (u, .inr (8, [.ref s, .ref ss, .ref la, .ref ke, .int (nI lc), .int (nI uw0), .int (nI uh0), .int (nI ri), .int mi, .int (bI tm)])), (ss, .inl (g.2.1 0, 10496, .inl (aI SS))), (la, .inl (g.2.1 4, 40, .inr (.inr (.inr (.inr LA))))), (ke, .inl (g.2.1 0, 256, .inl (aI KE))), (ru, .inl (g.2.1 0, 4000, .inl (aI RU))), (sa, .inl (g.2.1 0, 4001, .inl (aI SA))), (ps, .inl (g.2.1 0, 30000, .inl (aI PL))), (to, .inl (g.2.1 2, 256, .inl (zI TO))), (bk, .inr (5, [.ref ra, .ref pa, .int (bI true), .int (nI rules.length), .int (nI pb), .int (nI db)])), (ra, .inl (g.2.1 3, 400, .inr (.inr (.inr (.inr RA))))), (s, .inr (7, [.ref ru, .ref sa, .ref ps, .ref to, .int (nI 0), .int (nI 0), .int (nI 0)]))]) (X' := [(x0, .inr (0, [.ref t, .ref bk, .ref p, .ref s, .ref u])), (u, .inr (8, [.ref s, .ref ss, .ref la, .ref ke, .int (nI lc), .int (nI uw0), .int (nI uh0), .int (nI ri), .int mi, .int (bI tm)])), (ss, .inl (g.2.1 0, 10496, .inl (aI SS))), (la, .inl (g.2.1 4, 40, .inr (.inr (.inr (.inr LA))))), (ke, .inl (g.2.1 0, 256, .inl (aI KE))), (s, .inr (7, [.ref ru, .ref sa, .ref ps, .ref to, .int (nI 0), .int (nI 0), .int (nI 0)])), (ru, .inl (g.2.1 0, 4000, .inl (aI RU))), (sa, .inl (g.2.1 0, 4001, .inl (aI SA))), (ps, .inl (g.2.1 0, 30000, .inl (aI PL))), (to, .inl (g.2.1 2, 256, .inl (zI TO))), (bk, .inr (5, [.ref ra, .ref pa, .int (bI true), .int (nI rules.length), .int (nI pb), .int (nI db)])), (ra, .inl (g.2.1 3, 400, .inr (.inr (.inr (.inr RA)))))]) (pl := PP) (st' := []) (n1 := 0) (n2 := 0) [0, 1, 2, 3, 4, 11, 5, 6, 7, 8, 9, 10] rfl rfl rfl rfl rfl rfl ?_
  refine r_iload_n C 1 d_RR_rows_27 rfl rfl ?_
  refine r_iconst C (nI 1) d_RR_rows_28 (by decide) ?_
  refine r_ncmp_lt C 49 d_RR_rows_29 (by decide) (by omega) (by omega) (fun c_29 => ?_) (fun c_29 => ?_)
  · exact absurd c_29 (by omega)
  · skip
    refine r_iload_n C 1 d_RR_rows_32 rfl rfl ?_
    refine r_bipush C (nI 16) d_RR_rows_33 (by decide) ?_
    refine r_ncmp_gt C 49 d_RR_rows_35 (by decide) (by omega) (by omega) (fun c_35 => ?_) (fun c_35 => ?_)
    · exact absurd c_35 (by omega)
    · skip
      refine r_iload_n C 2 d_RR_rows_38 rfl rfl ?_
      refine r_iconst C (nI 1) d_RR_rows_39 (by decide) ?_
      refine r_ncmp_lt C 49 d_RR_rows_40 (by decide) (by omega) (by omega) (fun c_40 => ?_) (fun c_40 => ?_)
      · exact absurd c_40 (by omega)
      · skip
        refine r_iload_n C 2 d_RR_rows_43 rfl rfl ?_
        refine r_bipush C (nI 16) d_RR_rows_44 (by decide) ?_
        refine r_ncmp_le C 59 d_RR_rows_46 (by decide) (by omega) (by omega) (fun c_46 => ?_) (fun c_46 => ?_)
        · skip
          refine r_aload_n C 0 d_RR_rows_59 rfl rfl ?_
          refine r_get C 0 4 d_RR_rows_60 ci_RR fi_RR_44 rfl (by decide) rfl rfl ?_
          refine r_aload_n C 0 d_RR_rows_63 rfl rfl ?_
          refine r_get C 0 1 d_RR_rows_64 ci_RR fi_RR_19 rfl (by decide) rfl rfl ?_
          refine r_iload_n C 1 d_RR_rows_67 rfl rfl ?_
          refine r_iload_n C 2 d_RR_rows_68 rfl rfl ?_
          refine j_callV C (c_Unroller_unroll g (xl x) (u := u) (s := s) (ss := ss) (la := la) (ke := ke) (lc := lc) (uw0 := uw0) (uh0 := uh0) (ri := ri) (mi := mi) (tm := tm) (uw := uw) (uh := uh) (ru := ru) (sa := sa) (ps := ps) (to := to) (gs := 0) (rc := 0) (pn := 0) (RU := RU) (SA := SA) (PL := PL) (SS := SS) (KE := KE) (TO := TO) (LA := LA) (RA := RA) (PP := PP) (bk := bk) (ra := ra) (pa := pa) (pb := pb) (db := db) (pr := true) (rules := rules) (by first | assumption | rfl | omega) (by first | assumption | rfl | omega) (by first | assumption | rfl | omega) (by first | assumption | rfl | omega) (by first | assumption | rfl | omega) (hRA) (hok) (h256)) (Sp.pool (Sp.of (wr := [(x0, .inr (0, [.ref t, .ref bk, .ref p, .ref s, .ref u]))]) [1, 2, 3, 4, 5, 6, 7, 8, 9, 10, 11] [0] rfl rfl rfl rfl (by decide)) PP) d_RR_rows_69 lk_RR_84 mw_Unroller_unroll vw_Unroller_unroll (q0 := 0) rfl rfl (fit_of hR (by first | decide | (simp only [rmk]; omega)) (by first | decide | (simp only [rmk]; omega)) (by first | decide | (simp only [rmk]; omega)) (by first | decide | (simp only [rmk]; omega))) rfl (cat8 (Nat.le_of_ble_eq_true rfl)) (As := [.ref bk, .int (nI uw), .int (nI uh)]) (rest := []) rfl (fun r_69 w_69 hp_69 => ?_)
          obtain ⟨mi2_69, tm2_69, lc2_69, ri2_69, rc2_69, pn2_69, RU2_69, SA2_69, PL2_69, SS2_69, KE2_69, TO2_69, LA2_69, rfl, rfl, hU2_69, h2562_69⟩ := hp_69
          refine r_afterP (X := [(x0, .inr (0, [.ref t, .ref bk, .ref p, .ref s, .ref u])), (u, .inr (8, [.ref s, .ref ss, .ref la, .ref ke, .int (nI lc2_69), .int (nI uw), .int (nI uh), .int (nI ri2_69), .int mi2_69, .int (bI tm2_69)])), (ss, .inl (g.2.1 0, 10496, .inl (aI SS2_69))), (la, .inl (g.2.1 4, 40, .inr (.inr (.inr (.inr LA2_69))))), (ke, .inl (g.2.1 0, 256, .inl (aI KE2_69))), (s, .inr (7, [.ref ru, .ref sa, .ref ps, .ref to, .int (nI (uw * uh)), .int (nI rc2_69), .int (nI pn2_69)])), (ru, .inl (g.2.1 0, 4000, .inl (aI RU2_69))), (sa, .inl (g.2.1 0, 4001, .inl (aI SA2_69))), (ps, .inl (g.2.1 0, 30000, .inl (aI PL2_69))), (to, .inl (g.2.1 2, 256, .inl (zI TO2_69))), (bk, .inr (5, [.ref ra, .ref pa, .int (bI true), .int (nI rules.length), .int (nI pb), .int (nI db)])), (ra, .inl (g.2.1 3, 400, .inr (.inr (.inr (.inr RA)))))]) (X' := [(x0, .inr (0, [.ref t, .ref bk, .ref p, .ref s, .ref u])), (u, .inr (8, [.ref s, .ref ss, .ref la, .ref ke, .int (nI lc2_69), .int (nI uw), .int (nI uh), .int (nI ri2_69), .int mi2_69, .int (bI tm2_69)])), (ss, .inl (g.2.1 0, 10496, .inl (aI SS2_69))), (la, .inl (g.2.1 4, 40, .inr (.inr (.inr (.inr LA2_69))))), (ke, .inl (g.2.1 0, 256, .inl (aI KE2_69))), (s, .inr (7, [.ref ru, .ref sa, .ref ps, .ref to, .int (nI (uw * uh)), .int (nI rc2_69), .int (nI pn2_69)])), (ru, .inl (g.2.1 0, 4000, .inl (aI RU2_69))), (sa, .inl (g.2.1 0, 4001, .inl (aI SA2_69))), (ps, .inl (g.2.1 0, 30000, .inl (aI PL2_69))), (to, .inl (g.2.1 2, 256, .inl (zI TO2_69))), (bk, .inr (5, [.ref ra, .ref pa, .int (bI true), .int (nI rules.length), .int (nI pb), .int (nI db)])), (ra, .inl (g.2.1 3, 400, .inr (.inr (.inr (.inr RA)))))]) (pl := PP) (st' := [.int (bI (!tm2_69))]) (n1 := 0) (n2 := 0) [0, 1, 2, 3, 4, 5, 6, 7, 8, 9, 10, 11] rfl rfl rfl rfl rfl rfl ?_
          refine r_bif_ne C 92 d_RR_rows_72 (by decide) (fun c_72 => ?_) (fun c_72 => ?_)
          · skip
            refine r_aload_n C 0 d_RR_rows_92 rfl rfl ?_
            refine r_get C 0 3 d_RR_rows_93 ci_RR fi_RR_35 rfl (by decide) rfl rfl ?_
            refine r_get C 5 5 d_RR_rows_96 ci_RowStore fi_RR_93 rfl (by decide) rfl rfl ?_
            refine r_iret C E d_RR_rows_99 (by first | decide | omega | (simp only [rmk]; omega)) (by first | decide | omega | (simp only [rmk]; omega)) ?_
            exact ⟨_, _, _, _, _, _, _, _, _, _, _, _, _, rfl, rfl, hU2_69, h2562_69⟩
          · exact absurd ((congrArg (! ·) (UAt_some hU2_69 hun)).symm.trans c_72) (by decide)
        · exact absurd c_46 (by omega)

set_option maxHeartbeats 4000000 in
set_option maxRecDepth 100000 in
theorem c_RR_rows_UOE (g : GG) (l : Launch) (hfl : l.flags = pinnedFlags ++ [noTraceFlag]) {x0 : Nat} {t : Nat} {bk : Nat} {p : Nat} {s : Nat} {u : Nat} {ss : Nat} {la : Nat} {ke : Nat} {lc : Nat} {uw0 : Nat} {uh0 : Nat} {ri : Nat} {mi : Int32} {tm : Bool} {ru : Nat} {sa : Nat} {ps : Nat} {to : Nat} {gs : Nat} {rc : Nat} {pn : Nat} {RU : Nat → Nat} {SA : Nat → Nat} {PL : Nat → Nat} {SS : Nat → Nat} {KE : Nat → Nat} {TO : Nat → Bool} {LA : Nat → Option Nat} {RA : Nat → Option Nat} {PP : va_W} {ra : Nat} {pa : Nat} {pb : Nat} {db : Nat} {rules : List RuleV} {uw : Nat} {uh : Nat} (h400 : rules.length ≤ 400) (hRA : RulesAt g PP RA rules) (hok : ∀ r ∈ rules, r.2.2.1.length ≤ 40 ∧ ∀ l ∈ r.2.2.1, LyOK l) (h256 : ∀ i, SS i < 256) (hw0 : 0 < uw) (hw1 : uw ≤ 16) (hh0 : 0 < uh) (hh1 : uh ≤ 16) (hun : unrA uw uh rules = none) : CT g l y_RR_rows b_RR_rows 3 (some .int) (rmk 182 1 6 4800) [.ref x0, .int (nI uw), .int (nI uh)] ([(x0, .inr (0, [.ref t, .ref bk, .ref p, .ref s, .ref u])), (u, .inr (8, [.ref s, .ref ss, .ref la, .ref ke, .int (nI lc), .int (nI uw0), .int (nI uh0), .int (nI ri), .int mi, .int (bI tm)])), (ss, .inl (g.2.1 0, 10496, .inl (aI SS))), (la, .inl (g.2.1 4, 40, .inr (.inr (.inr (.inr LA))))), (ke, .inl (g.2.1 0, 256, .inl (aI KE))), (s, .inr (7, [.ref ru, .ref sa, .ref ps, .ref to, .int (nI gs), .int (nI rc), .int (nI pn)])), (ru, .inl (g.2.1 0, 4000, .inl (aI RU))), (sa, .inl (g.2.1 0, 4001, .inl (aI SA))), (ps, .inl (g.2.1 0, 30000, .inl (aI PL))), (to, .inl (g.2.1 2, 256, .inl (zI TO))), (bk, .inr (5, [.ref ra, .ref pa, .int (bI true), .int (nI rules.length), .int (nI pb), .int (nI db)])), (ra, .inl (g.2.1 3, 400, .inr (.inr (.inr (.inr RA)))))] ++ PP) E_UOE (fun (w0 : va_W) => ∃ mi2 : Int32, ∃ tm2 : Bool, ∃ lc2 : Nat, ∃ ri2 : Nat, ∃ RU2 : Nat → Nat, ∃ SA2 : Nat → Nat, ∃ PL2 : Nat → Nat, ∃ SS2 : Nat → Nat, ∃ KE2 : Nat → Nat, ∃ TO2 : Nat → Bool, ∃ LA2 : Nat → Option Nat, w0 = [(x0, .inr (0, [.ref t, .ref bk, .ref p, .ref s, .ref u])), (u, .inr (8, [.ref s, .ref ss, .ref la, .ref ke, .int (nI lc2), .int (nI uw), .int (nI uh), .int (nI ri2), .int mi2, .int (bI tm2)])), (ss, .inl (g.2.1 0, 10496, .inl (aI SS2))), (la, .inl (g.2.1 4, 40, .inr (.inr (.inr (.inr LA2))))), (ke, .inl (g.2.1 0, 256, .inl (aI KE2))), (s, .inr (7, [.ref ru, .ref sa, .ref ps, .ref to, .int (nI 0), .int (nI 0), .int (nI 0)])), (ru, .inl (g.2.1 0, 4000, .inl (aI RU2))), (sa, .inl (g.2.1 0, 4001, .inl (aI SA2))), (ps, .inl (g.2.1 0, 30000, .inl (aI PL2))), (to, .inl (g.2.1 2, 256, .inl (zI TO2))), (bk, .inr (5, [.ref ra, .ref pa, .int (bI true), .int (nI rules.length), .int (nI pb), .int (nI db)])), (ra, .inl (g.2.1 3, 400, .inr (.inr (.inr (.inr RA)))))] ++ PP ∧ (∀ i, SS2 i < 256)) := by
  refine CT.of R_RR [(0, .ref x0), (1, .int (nI uw)), (2, .int (nI uh))] (by decide) rfl (Nat.le_of_ble_eq_true rfl) rfl ?_
  intro x A Q hR hXl C E
  subst hXl
  refine r_aload_n C 0 d_RR_rows_0 rfl rfl ?_
  refine r_get C 0 1 d_RR_rows_1 ci_RR fi_RR_19 rfl (by decide) rfl rfl ?_
  refine r_get C 10 2 d_RR_rows_4 ci_Book fi_RR_64 rfl (by decide) rfl rfl ?_
  refine r_bif_ne C 20 d_RR_rows_7 (by decide) (fun c_7 => ?_) (fun c_7 => ?_)
  rotate_left
  · exact absurd c_7 (by decide)
  refine r_aload_n C 0 d_RR_rows_20 rfl rfl ?_
  refine r_get C 0 3 d_RR_rows_21 ci_RR fi_RR_35 rfl (by decide) rfl rfl ?_
  refine j_callV C (c_RowStore_drop g (xl x) (s := s) (ru := ru) (sa := sa) (ps := ps) (to := to) (gs := gs) (rc := rc) (pn := pn) ) (Sp.keep (Sp.of (wr := [(x0, .inr (0, [.ref t, .ref bk, .ref p, .ref s, .ref u])), (u, .inr (8, [.ref s, .ref ss, .ref la, .ref ke, .int (nI lc), .int (nI uw0), .int (nI uh0), .int (nI ri), .int mi, .int (bI tm)])), (ss, .inl (g.2.1 0, 10496, .inl (aI SS))), (la, .inl (g.2.1 4, 40, .inr (.inr (.inr (.inr LA))))), (ke, .inl (g.2.1 0, 256, .inl (aI KE))), (ru, .inl (g.2.1 0, 4000, .inl (aI RU))), (sa, .inl (g.2.1 0, 4001, .inl (aI SA))), (ps, .inl (g.2.1 0, 30000, .inl (aI PL))), (to, .inl (g.2.1 2, 256, .inl (zI TO))), (bk, .inr (5, [.ref ra, .ref pa, .int (bI true), .int (nI rules.length), .int (nI pb), .int (nI db)])), (ra, .inl (g.2.1 3, 400, .inr (.inr (.inr (.inr RA)))))]) [5] [0, 1, 2, 3, 4, 6, 7, 8, 9, 10, 11] rfl rfl rfl rfl (by decide)) PP) d_RR_rows_24 lk_RR_52 mw_RowStore_drop vw_RowStore_drop (q0 := 0) rfl rfl (fit_of hR (by first | decide | (simp only [rmk]; omega)) (by first | decide | (simp only [rmk]; omega)) (by first | decide | (simp only [rmk]; omega)) (by first | decide | (simp only [rmk]; omega))) rfl (cat8 (Nat.le_of_ble_eq_true rfl)) (As := []) (rest := []) rfl (fun r_24 w_24 hp_24 => ?_)
  obtain ⟨rfl, rfl⟩ := hp_24
  refine r_swap ?_
  refine r_afterP (X := [(x0, .inr (0, [.ref t, .ref bk, .ref p, .ref s, .ref u])), (u, .inr (8, [.ref s, .ref ss, .ref la, .ref ke, .int (nI lc), .int (nI uw0), .int (nI uh0), .int (nI ri), .int mi, .int (bI tm)])), (ss, .inl (g.2.1 0, 10496, .inl (aI SS))), (la, .inl (g.2.1 4, 40, .inr (.inr (.inr (.inr LA))))), (ke, .inl (g.2.1 0, 256, .inl (aI KE))), (ru, .inl (g.2.1 0, 4000, .inl (aI RU))), (sa, .inl (g.2.1 0, 4001, .inl (aI SA))), (ps, .inl (g.2.1 0, 30000, .inl (aI PL))), (to, .inl (g.2.1 2, 256, .inl (zI TO))), (bk, .inr (5, [.ref ra, .ref pa, .int (bI true), .int (nI rules.length), .int (nI pb), .int (nI db)])), (ra, .inl (g.2.1 3, 400, .inr (.inr (.inr (.inr RA))))), (s, .inr (7, [.ref ru, .ref sa, .ref ps, .ref to, .int (nI 0), .int (nI 0), .int (nI 0)]))]) (X' := [(x0, .inr (0, [.ref t, .ref bk, .ref p, .ref s, .ref u])), (u, .inr (8, [.ref s, .ref ss, .ref la, .ref ke, .int (nI lc), .int (nI uw0), .int (nI uh0), .int (nI ri), .int mi, .int (bI tm)])), (ss, .inl (g.2.1 0, 10496, .inl (aI SS))), (la, .inl (g.2.1 4, 40, .inr (.inr (.inr (.inr LA))))), (ke, .inl (g.2.1 0, 256, .inl (aI KE))), (s, .inr (7, [.ref ru, .ref sa, .ref ps, .ref to, .int (nI 0), .int (nI 0), .int (nI 0)])), (ru, .inl (g.2.1 0, 4000, .inl (aI RU))), (sa, .inl (g.2.1 0, 4001, .inl (aI SA))), (ps, .inl (g.2.1 0, 30000, .inl (aI PL))), (to, .inl (g.2.1 2, 256, .inl (zI TO))), (bk, .inr (5, [.ref ra, .ref pa, .int (bI true), .int (nI rules.length), .int (nI pb), .int (nI db)])), (ra, .inl (g.2.1 3, 400, .inr (.inr (.inr (.inr RA)))))]) (pl := PP) (st' := []) (n1 := 0) (n2 := 0) [0, 1, 2, 3, 4, 11, 5, 6, 7, 8, 9, 10] rfl rfl rfl rfl rfl rfl ?_
  refine r_iload_n C 1 d_RR_rows_27 rfl rfl ?_
  refine r_iconst C (nI 1) d_RR_rows_28 (by decide) ?_
  refine r_ncmp_lt C 49 d_RR_rows_29 (by decide) (by omega) (by omega) (fun c_29 => ?_) (fun c_29 => ?_)
  · exact absurd c_29 (by omega)
  · skip
    refine r_iload_n C 1 d_RR_rows_32 rfl rfl ?_
    refine r_bipush C (nI 16) d_RR_rows_33 (by decide) ?_
    refine r_ncmp_gt C 49 d_RR_rows_35 (by decide) (by omega) (by omega) (fun c_35 => ?_) (fun c_35 => ?_)
    · exact absurd c_35 (by omega)
    · skip
      refine r_iload_n C 2 d_RR_rows_38 rfl rfl ?_
      refine r_iconst C (nI 1) d_RR_rows_39 (by decide) ?_
      refine r_ncmp_lt C 49 d_RR_rows_40 (by decide) (by omega) (by omega) (fun c_40 => ?_) (fun c_40 => ?_)
      · exact absurd c_40 (by omega)
      · skip
        refine r_iload_n C 2 d_RR_rows_43 rfl rfl ?_
        refine r_bipush C (nI 16) d_RR_rows_44 (by decide) ?_
        refine r_ncmp_le C 59 d_RR_rows_46 (by decide) (by omega) (by omega) (fun c_46 => ?_) (fun c_46 => ?_)
        · skip
          refine r_aload_n C 0 d_RR_rows_59 rfl rfl ?_
          refine r_get C 0 4 d_RR_rows_60 ci_RR fi_RR_44 rfl (by decide) rfl rfl ?_
          refine r_aload_n C 0 d_RR_rows_63 rfl rfl ?_
          refine r_get C 0 1 d_RR_rows_64 ci_RR fi_RR_19 rfl (by decide) rfl rfl ?_
          refine r_iload_n C 1 d_RR_rows_67 rfl rfl ?_
          refine r_iload_n C 2 d_RR_rows_68 rfl rfl ?_
          refine j_callV C (c_Unroller_unroll g (xl x) (u := u) (s := s) (ss := ss) (la := la) (ke := ke) (lc := lc) (uw0 := uw0) (uh0 := uh0) (ri := ri) (mi := mi) (tm := tm) (uw := uw) (uh := uh) (ru := ru) (sa := sa) (ps := ps) (to := to) (gs := 0) (rc := 0) (pn := 0) (RU := RU) (SA := SA) (PL := PL) (SS := SS) (KE := KE) (TO := TO) (LA := LA) (RA := RA) (PP := PP) (bk := bk) (ra := ra) (pa := pa) (pb := pb) (db := db) (pr := true) (rules := rules) (by first | assumption | rfl | omega) (by first | assumption | rfl | omega) (by first | assumption | rfl | omega) (by first | assumption | rfl | omega) (by first | assumption | rfl | omega) (hRA) (hok) (h256)) (Sp.pool (Sp.of (wr := [(x0, .inr (0, [.ref t, .ref bk, .ref p, .ref s, .ref u]))]) [1, 2, 3, 4, 5, 6, 7, 8, 9, 10, 11] [0] rfl rfl rfl rfl (by decide)) PP) d_RR_rows_69 lk_RR_84 mw_Unroller_unroll vw_Unroller_unroll (q0 := 0) rfl rfl (fit_of hR (by first | decide | (simp only [rmk]; omega)) (by first | decide | (simp only [rmk]; omega)) (by first | decide | (simp only [rmk]; omega)) (by first | decide | (simp only [rmk]; omega))) rfl (cat8 (Nat.le_of_ble_eq_true rfl)) (As := [.ref bk, .int (nI uw), .int (nI uh)]) (rest := []) rfl (fun r_69 w_69 hp_69 => ?_)
          obtain ⟨mi2_69, tm2_69, lc2_69, ri2_69, rc2_69, pn2_69, RU2_69, SA2_69, PL2_69, SS2_69, KE2_69, TO2_69, LA2_69, rfl, rfl, hU2_69, h2562_69⟩ := hp_69
          refine r_afterP (X := [(x0, .inr (0, [.ref t, .ref bk, .ref p, .ref s, .ref u])), (u, .inr (8, [.ref s, .ref ss, .ref la, .ref ke, .int (nI lc2_69), .int (nI uw), .int (nI uh), .int (nI ri2_69), .int mi2_69, .int (bI tm2_69)])), (ss, .inl (g.2.1 0, 10496, .inl (aI SS2_69))), (la, .inl (g.2.1 4, 40, .inr (.inr (.inr (.inr LA2_69))))), (ke, .inl (g.2.1 0, 256, .inl (aI KE2_69))), (s, .inr (7, [.ref ru, .ref sa, .ref ps, .ref to, .int (nI (uw * uh)), .int (nI rc2_69), .int (nI pn2_69)])), (ru, .inl (g.2.1 0, 4000, .inl (aI RU2_69))), (sa, .inl (g.2.1 0, 4001, .inl (aI SA2_69))), (ps, .inl (g.2.1 0, 30000, .inl (aI PL2_69))), (to, .inl (g.2.1 2, 256, .inl (zI TO2_69))), (bk, .inr (5, [.ref ra, .ref pa, .int (bI true), .int (nI rules.length), .int (nI pb), .int (nI db)])), (ra, .inl (g.2.1 3, 400, .inr (.inr (.inr (.inr RA)))))]) (X' := [(x0, .inr (0, [.ref t, .ref bk, .ref p, .ref s, .ref u])), (u, .inr (8, [.ref s, .ref ss, .ref la, .ref ke, .int (nI lc2_69), .int (nI uw), .int (nI uh), .int (nI ri2_69), .int mi2_69, .int (bI tm2_69)])), (ss, .inl (g.2.1 0, 10496, .inl (aI SS2_69))), (la, .inl (g.2.1 4, 40, .inr (.inr (.inr (.inr LA2_69))))), (ke, .inl (g.2.1 0, 256, .inl (aI KE2_69))), (s, .inr (7, [.ref ru, .ref sa, .ref ps, .ref to, .int (nI (uw * uh)), .int (nI rc2_69), .int (nI pn2_69)])), (ru, .inl (g.2.1 0, 4000, .inl (aI RU2_69))), (sa, .inl (g.2.1 0, 4001, .inl (aI SA2_69))), (ps, .inl (g.2.1 0, 30000, .inl (aI PL2_69))), (to, .inl (g.2.1 2, 256, .inl (zI TO2_69))), (bk, .inr (5, [.ref ra, .ref pa, .int (bI true), .int (nI rules.length), .int (nI pb), .int (nI db)])), (ra, .inl (g.2.1 3, 400, .inr (.inr (.inr (.inr RA)))))]) (pl := PP) (st' := [.int (bI (!tm2_69))]) (n1 := 0) (n2 := 0) [0, 1, 2, 3, 4, 5, 6, 7, 8, 9, 10, 11] rfl rfl rfl rfl rfl rfl ?_
          refine r_bif_ne C 92 d_RR_rows_72 (by decide) (fun c_72 => ?_) (fun c_72 => ?_)
          · exact absurd ((congrArg (! ·) (UAt_none hU2_69 hun)).symm.trans c_72) (by decide)
          · skip
            refine r_aload_n C 0 d_RR_rows_75 rfl rfl ?_
            refine r_get C 0 3 d_RR_rows_76 ci_RR fi_RR_35 rfl (by decide) rfl rfl ?_
            refine j_callV C (c_RowStore_drop g (xl x) (s := s) (ru := ru) (sa := sa) (ps := ps) (to := to) (gs := uw * uh) (rc := rc2_69) (pn := pn2_69) ) (Sp.keep (Sp.of (wr := [(x0, .inr (0, [.ref t, .ref bk, .ref p, .ref s, .ref u])), (u, .inr (8, [.ref s, .ref ss, .ref la, .ref ke, .int (nI lc2_69), .int (nI uw), .int (nI uh), .int (nI ri2_69), .int mi2_69, .int (bI tm2_69)])), (ss, .inl (g.2.1 0, 10496, .inl (aI SS2_69))), (la, .inl (g.2.1 4, 40, .inr (.inr (.inr (.inr LA2_69))))), (ke, .inl (g.2.1 0, 256, .inl (aI KE2_69))), (ru, .inl (g.2.1 0, 4000, .inl (aI RU2_69))), (sa, .inl (g.2.1 0, 4001, .inl (aI SA2_69))), (ps, .inl (g.2.1 0, 30000, .inl (aI PL2_69))), (to, .inl (g.2.1 2, 256, .inl (zI TO2_69))), (bk, .inr (5, [.ref ra, .ref pa, .int (bI true), .int (nI rules.length), .int (nI pb), .int (nI db)])), (ra, .inl (g.2.1 3, 400, .inr (.inr (.inr (.inr RA)))))]) [5] [0, 1, 2, 3, 4, 6, 7, 8, 9, 10, 11] rfl rfl rfl rfl (by decide)) PP) d_RR_rows_79 lk_RR_52 mw_RowStore_drop vw_RowStore_drop (q0 := 0) rfl rfl (fit_of hR (by first | decide | (simp only [rmk]; omega)) (by first | decide | (simp only [rmk]; omega)) (by first | decide | (simp only [rmk]; omega)) (by first | decide | (simp only [rmk]; omega))) rfl (cat8 (Nat.le_of_ble_eq_true rfl)) (As := []) (rest := []) rfl (fun r_79 w_79 hp_79 => ?_)
            obtain ⟨rfl, rfl⟩ := hp_79
            refine r_swap ?_
            refine r_afterP (X := [(x0, .inr (0, [.ref t, .ref bk, .ref p, .ref s, .ref u])), (u, .inr (8, [.ref s, .ref ss, .ref la, .ref ke, .int (nI lc2_69), .int (nI uw), .int (nI uh), .int (nI ri2_69), .int mi2_69, .int (bI tm2_69)])), (ss, .inl (g.2.1 0, 10496, .inl (aI SS2_69))), (la, .inl (g.2.1 4, 40, .inr (.inr (.inr (.inr LA2_69))))), (ke, .inl (g.2.1 0, 256, .inl (aI KE2_69))), (ru, .inl (g.2.1 0, 4000, .inl (aI RU2_69))), (sa, .inl (g.2.1 0, 4001, .inl (aI SA2_69))), (ps, .inl (g.2.1 0, 30000, .inl (aI PL2_69))), (to, .inl (g.2.1 2, 256, .inl (zI TO2_69))), (bk, .inr (5, [.ref ra, .ref pa, .int (bI true), .int (nI rules.length), .int (nI pb), .int (nI db)])), (ra, .inl (g.2.1 3, 400, .inr (.inr (.inr (.inr RA))))), (s, .inr (7, [.ref ru, .ref sa, .ref ps, .ref to, .int (nI 0), .int (nI 0), .int (nI 0)]))]) (X' := [(x0, .inr (0, [.ref t, .ref bk, .ref p, .ref s, .ref u])), (u, .inr (8, [.ref s, .ref ss, .ref la, .ref ke, .int (nI lc2_69), .int (nI uw), .int (nI uh), .int (nI ri2_69), .int mi2_69, .int (bI tm2_69)])), (ss, .inl (g.2.1 0, 10496, .inl (aI SS2_69))), (la, .inl (g.2.1 4, 40, .inr (.inr (.inr (.inr LA2_69))))), (ke, .inl (g.2.1 0, 256, .inl (aI KE2_69))), (s, .inr (7, [.ref ru, .ref sa, .ref ps, .ref to, .int (nI 0), .int (nI 0), .int (nI 0)])), (ru, .inl (g.2.1 0, 4000, .inl (aI RU2_69))), (sa, .inl (g.2.1 0, 4001, .inl (aI SA2_69))), (ps, .inl (g.2.1 0, 30000, .inl (aI PL2_69))), (to, .inl (g.2.1 2, 256, .inl (zI TO2_69))), (bk, .inr (5, [.ref ra, .ref pa, .int (bI true), .int (nI rules.length), .int (nI pb), .int (nI db)])), (ra, .inl (g.2.1 3, 400, .inr (.inr (.inr (.inr RA)))))]) (pl := PP) (st' := []) (n1 := 0) (n2 := 0) [0, 1, 2, 3, 4, 11, 5, 6, 7, 8, 9, 10] rfl rfl rfl rfl rfl rfl ?_
            refine r_throw C E hfl (tx := "too many rows, places or sets") xf_UOE xk_UOE xi_UOE xn_UOE (by decide) xo_UOE d_RR_rows_82 d_RR_rows_85 d_RR_rows_86 d_RR_rows_88 d_RR_rows_91 (by rw [hR]; first | decide | (simp only [rmk]; omega)) (by rw [hR]; first | decide | (simp only [rmk]; omega)) (by rw [hR]; first | decide | (simp only [rmk]; omega)) (by rw [hR]; first | decide | (simp only [rmk]; omega)) (by first | decide | omega | (simp only [rmk]; omega)) (by first | decide | omega | (simp only [rmk]; omega)) (by decide) ?_
            exact ⟨_, _, _, _, _, _, _, _, _, _, _, rfl, h2562_69⟩
        · exact absurd c_46 (by omega)

set_option maxHeartbeats 4000000 in
set_option maxRecDepth 100000 in
theorem c_RR_rows_ISE (g : GG) (l : Launch) (hfl : l.flags = pinnedFlags ++ [noTraceFlag]) {x0 : Nat} {t : Nat} {bk : Nat} {p : Nat} {s : Nat} {u : Nat} {ru : Nat} {sa : Nat} {ps : Nat} {to : Nat} {gs : Nat} {rc : Nat} {pn : Nat} {ra : Nat} {pa : Nat} {rb : Nat} {pb : Nat} {db : Nat} {y : Int32} {z : Int32}  : CT g l y_RR_rows b_RR_rows 3 (some .int) (rmk 6 1 6 100) [.ref x0, .int y, .int z] ([(x0, .inr (0, [.ref t, .ref bk, .ref p, .ref s, .ref u])), (s, .inr (7, [.ref ru, .ref sa, .ref ps, .ref to, .int (nI gs), .int (nI rc), .int (nI pn)])), (bk, .inr (5, [.ref ra, .ref pa, .int (bI false), .int (nI rb), .int (nI pb), .int (nI db)]))]) E_ISE (fun (w0 : va_W) => w0 = [(x0, .inr (0, [.ref t, .ref bk, .ref p, .ref s, .ref u])), (s, .inr (7, [.ref ru, .ref sa, .ref ps, .ref to, .int (nI gs), .int (nI rc), .int (nI pn)])), (bk, .inr (5, [.ref ra, .ref pa, .int (bI false), .int (nI rb), .int (nI pb), .int (nI db)]))]) := by
  refine CT.of R_RR [(0, .ref x0), (1, .int y), (2, .int z)] (by decide) rfl (Nat.le_of_ble_eq_true rfl) rfl ?_
  intro x A Q hR hXl C E
  subst hXl
  refine r_aload_n C 0 d_RR_rows_0 rfl rfl ?_
  refine r_get C 0 1 d_RR_rows_1 ci_RR fi_RR_19 rfl (by decide) rfl rfl ?_
  refine r_get C 2 2 d_RR_rows_4 ci_Book fi_RR_64 rfl (by decide) rfl rfl ?_
  refine r_bif_ne C 20 d_RR_rows_7 (by decide) (fun c_7 => ?_) (fun c_7 => ?_)
  skip
  · exact absurd c_7 (by decide)
  refine r_throw C E hfl (tx := "nothing is read") xf_ISE xk_ISE xi_ISE xn_ISE (by decide) xo_ISE d_RR_rows_10 d_RR_rows_13 d_RR_rows_14 d_RR_rows_16 d_RR_rows_19 (by rw [hR]; first | decide | (simp only [rmk]; omega)) (by rw [hR]; first | decide | (simp only [rmk]; omega)) (by rw [hR]; first | decide | (simp only [rmk]; omega)) (by rw [hR]; first | decide | (simp only [rmk]; omega)) (by first | decide | omega | (simp only [rmk]; omega)) (by first | decide | omega | (simp only [rmk]; omega)) (by decide) ?_
  exact rfl

set_option maxHeartbeats 4000000 in
set_option maxRecDepth 100000 in
theorem c_RR_rows_IAE (g : GG) (l : Launch) (hfl : l.flags = pinnedFlags ++ [noTraceFlag]) {x0 : Nat} {t : Nat} {bk : Nat} {p : Nat} {s : Nat} {u : Nat} {ru : Nat} {sa : Nat} {ps : Nat} {to : Nat} {gs : Nat} {rc : Nat} {pn : Nat} {ra : Nat} {pa : Nat} {rb : Nat} {pb : Nat} {db : Nat} {y : Int32} {z : Int32} (hbad : ¬ (1 ≤ y ∧ y ≤ 16 ∧ 1 ≤ z ∧ z ≤ 16)) : CT g l y_RR_rows b_RR_rows 3 (some .int) (rmk 6 1 6 100) [.ref x0, .int y, .int z] ([(x0, .inr (0, [.ref t, .ref bk, .ref p, .ref s, .ref u])), (s, .inr (7, [.ref ru, .ref sa, .ref ps, .ref to, .int (nI gs), .int (nI rc), .int (nI pn)])), (bk, .inr (5, [.ref ra, .ref pa, .int (bI true), .int (nI rb), .int (nI pb), .int (nI db)]))]) E_IAE (fun (w0 : va_W) => w0 = [(x0, .inr (0, [.ref t, .ref bk, .ref p, .ref s, .ref u])), (s, .inr (7, [.ref ru, .ref sa, .ref ps, .ref to, .int (nI 0), .int (nI 0), .int (nI 0)])), (bk, .inr (5, [.ref ra, .ref pa, .int (bI true), .int (nI rb), .int (nI pb), .int (nI db)]))]) := by
  refine CT.of R_RR [(0, .ref x0), (1, .int y), (2, .int z)] (by decide) rfl (Nat.le_of_ble_eq_true rfl) rfl ?_
  intro x A Q hR hXl C E
  subst hXl
  refine r_aload_n C 0 d_RR_rows_0 rfl rfl ?_
  refine r_get C 0 1 d_RR_rows_1 ci_RR fi_RR_19 rfl (by decide) rfl rfl ?_
  refine r_get C 2 2 d_RR_rows_4 ci_Book fi_RR_64 rfl (by decide) rfl rfl ?_
  refine r_bif_ne C 20 d_RR_rows_7 (by decide) (fun c_7 => ?_) (fun c_7 => ?_)
  rotate_left
  · exact absurd c_7 (by decide)
  refine r_aload_n C 0 d_RR_rows_20 rfl rfl ?_
  refine r_get C 0 3 d_RR_rows_21 ci_RR fi_RR_35 rfl (by decide) rfl rfl ?_
  refine j_callV C (c_RowStore_drop g (xl x) (s := s) (ru := ru) (sa := sa) (ps := ps) (to := to) (gs := gs) (rc := rc) (pn := pn) ) (Sp.of (wr := [(x0, .inr (0, [.ref t, .ref bk, .ref p, .ref s, .ref u])), (bk, .inr (5, [.ref ra, .ref pa, .int (bI true), .int (nI rb), .int (nI pb), .int (nI db)]))]) [1] [0, 2] rfl rfl rfl rfl (by decide)) d_RR_rows_24 lk_RR_52 mw_RowStore_drop vw_RowStore_drop (q0 := 0) rfl rfl (fit_of hR (by first | decide | (simp only [rmk]; omega)) (by first | decide | (simp only [rmk]; omega)) (by first | decide | (simp only [rmk]; omega)) (by first | decide | (simp only [rmk]; omega))) rfl (cat8 (Nat.le_of_ble_eq_true rfl)) (As := []) (rest := []) rfl (fun r_24 w_24 hp_24 => ?_)
  obtain ⟨rfl, rfl⟩ := hp_24
  refine r_after (ws' := [(x0, .inr (0, [.ref t, .ref bk, .ref p, .ref s, .ref u])), (s, .inr (7, [.ref ru, .ref sa, .ref ps, .ref to, .int (nI 0), .int (nI 0), .int (nI 0)])), (bk, .inr (5, [.ref ra, .ref pa, .int (bI true), .int (nI rb), .int (nI pb), .int (nI db)]))]) (st' := []) (n1 := 0) (n2 := 0) [0, 2, 1] rfl rfl rfl rfl rfl ?_
  refine r_iload_n C 1 d_RR_rows_27 rfl rfl ?_
  refine r_iconst C (nI 1) d_RR_rows_28 (by decide) ?_
  refine r_icmp_lt C 49 d_RR_rows_29 (by decide) (fun c_29 => ?_) (fun c_29 => ?_)
  · skip
    refine r_throw C E hfl (tx := "width or height is not 1 to 16") xf_IAE xk_IAE xi_IAE xn_IAE (by decide) xo_IAE d_RR_rows_49 d_RR_rows_52 d_RR_rows_53 d_RR_rows_55 d_RR_rows_58 (by rw [hR]; first | decide | (simp only [rmk]; omega)) (by rw [hR]; first | decide | (simp only [rmk]; omega)) (by rw [hR]; first | decide | (simp only [rmk]; omega)) (by rw [hR]; first | decide | (simp only [rmk]; omega)) (by first | decide | omega | (simp only [rmk]; omega)) (by first | decide | omega | (simp only [rmk]; omega)) (by decide) ?_
    exact rfl
  · skip
    refine r_iload_n C 1 d_RR_rows_32 rfl rfl ?_
    refine r_bipush C (nI 16) d_RR_rows_33 (by decide) ?_
    refine r_icmp_gt C 49 d_RR_rows_35 (by decide) (fun c_35 => ?_) (fun c_35 => ?_)
    · skip
      refine r_throw C E hfl (tx := "width or height is not 1 to 16") xf_IAE xk_IAE xi_IAE xn_IAE (by decide) xo_IAE d_RR_rows_49 d_RR_rows_52 d_RR_rows_53 d_RR_rows_55 d_RR_rows_58 (by rw [hR]; first | decide | (simp only [rmk]; omega)) (by rw [hR]; first | decide | (simp only [rmk]; omega)) (by rw [hR]; first | decide | (simp only [rmk]; omega)) (by rw [hR]; first | decide | (simp only [rmk]; omega)) (by first | decide | omega | (simp only [rmk]; omega)) (by first | decide | omega | (simp only [rmk]; omega)) (by decide) ?_
      exact rfl
    · skip
      refine r_iload_n C 2 d_RR_rows_38 rfl rfl ?_
      refine r_iconst C (nI 1) d_RR_rows_39 (by decide) ?_
      refine r_icmp_lt C 49 d_RR_rows_40 (by decide) (fun c_40 => ?_) (fun c_40 => ?_)
      · skip
        refine r_throw C E hfl (tx := "width or height is not 1 to 16") xf_IAE xk_IAE xi_IAE xn_IAE (by decide) xo_IAE d_RR_rows_49 d_RR_rows_52 d_RR_rows_53 d_RR_rows_55 d_RR_rows_58 (by rw [hR]; first | decide | (simp only [rmk]; omega)) (by rw [hR]; first | decide | (simp only [rmk]; omega)) (by rw [hR]; first | decide | (simp only [rmk]; omega)) (by rw [hR]; first | decide | (simp only [rmk]; omega)) (by first | decide | omega | (simp only [rmk]; omega)) (by first | decide | omega | (simp only [rmk]; omega)) (by decide) ?_
        exact rfl
      · skip
        refine r_iload_n C 2 d_RR_rows_43 rfl rfl ?_
        refine r_bipush C (nI 16) d_RR_rows_44 (by decide) ?_
        refine r_icmp_le C 59 d_RR_rows_46 (by decide) (fun c_46 => ?_) (fun c_46 => ?_)
        · exact absurd ⟨Int32.not_lt.mp c_29, Int32.not_lt.mp c_35, Int32.not_lt.mp c_40, c_46⟩ hbad
        · skip
          refine r_throw C E hfl (tx := "width or height is not 1 to 16") xf_IAE xk_IAE xi_IAE xn_IAE (by decide) xo_IAE d_RR_rows_49 d_RR_rows_52 d_RR_rows_53 d_RR_rows_55 d_RR_rows_58 (by rw [hR]; first | decide | (simp only [rmk]; omega)) (by rw [hR]; first | decide | (simp only [rmk]; omega)) (by rw [hR]; first | decide | (simp only [rmk]; omega)) (by rw [hR]; first | decide | (simp only [rmk]; omega)) (by first | decide | omega | (simp only [rmk]; omega)) (by first | decide | omega | (simp only [rmk]; omega)) (by decide) ?_
          exact rfl
