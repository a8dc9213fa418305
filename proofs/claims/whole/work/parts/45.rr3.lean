
set_option maxRecDepth 100000 in
theorem fi_RR_109 : FI R_RR 109 R_Rule F_Rule 0 := Or.inr ⟨"RuleReader", (nw (i := 460) rfl rfl)⟩
set_option maxRecDepth 100000 in
theorem fi_RR_114 : FI R_RR 114 R_Rule F_Rule 3 := Or.inr ⟨"RuleReader", (nw (i := 467) rfl rfl)⟩
set_option maxRecDepth 100000 in
theorem fi_RR_117 : FI R_RR 117 R_Rule F_Rule 4 := Or.inr ⟨"RuleReader", (nw (i := 471) rfl rfl)⟩
set_option maxRecDepth 100000 in
theorem fi_RR_120 : FI R_RR 120 R_Rule F_Rule 5 := Or.inr ⟨"RuleReader", (nw (i := 474) rfl rfl)⟩
set_option maxRecDepth 100000 in
theorem fi_RR_140 : FI R_RR 140 R_Rule F_Rule 1 := Or.inr ⟨"RuleReader", (nw (i := 463) rfl rfl)⟩
set_option maxRecDepth 100000 in
theorem lk_RR_100 : LK R_RR 100 y_Book_ruleAt := Or.inl (gw (i := 851) rfl rfl)
set_option maxRecDepth 100000 in
theorem lk_RR_123 : LK R_RR 123 y_RowStore_sizeOf := Or.inl (gw (i := 868) rfl rfl)
set_option maxRecDepth 100000 in
theorem lk_RR_126 : LK R_RR 126 y_RowStore_placeOf := Or.inl (gw (i := 879) rfl rfl)
set_option maxRecDepth 100000 in
theorem lk_RR_96 : LK R_RR 96 y_RowStore_ruleOf := Or.inl (gw (i := 843) rfl rfl)
set_option maxRecDepth 100000 in
theorem mw_RowStore_placeOf : MW y_RowStore_placeOf b_RowStore_placeOf 4 (some .int) 2 := ⟨(gw (i := 882) rfl rfl), (gw (i := 78) rfl rfl), by decide +kernel⟩
set_option maxRecDepth 100000 in
theorem mw_RowStore_ruleOf : MW y_RowStore_ruleOf b_RowStore_ruleOf 2 (some .int) 1 := ⟨(gw (i := 846) rfl rfl), (gw (i := 78) rfl rfl), by decide +kernel⟩
set_option maxRecDepth 100000 in
theorem vw_RowStore_placeOf : VW y_RowStore_placeOf := ⟨(gw (i := 880) rfl rfl), (gw (i := 881) rfl rfl)⟩
set_option maxRecDepth 100000 in
theorem vw_RowStore_ruleOf : VW y_RowStore_ruleOf := ⟨(gw (i := 844) rfl rfl), (gw (i := 845) rfl rfl)⟩
theorem d_RR_row_0 : decode b_RR_row 0 = .ok (.aload_n 0, 1) := by decide +kernel
theorem d_RR_row_1 : decode b_RR_row 1 = .ok (.getfield 35, 3) := by decide +kernel
theorem d_RR_row_4 : decode b_RR_row 4 = .ok (.iload_n 1, 1) := by decide +kernel
theorem d_RR_row_5 : decode b_RR_row 5 = .ok (.invokevirtual 96, 3) := by decide +kernel
theorem d_RR_row_8 : decode b_RR_row 8 = .ok (.istore_n 3, 1) := by decide +kernel
theorem d_RR_row_9 : decode b_RR_row 9 = .ok (.aload_n 0, 1) := by decide +kernel
theorem d_RR_row_10 : decode b_RR_row 10 = .ok (.getfield 19, 3) := by decide +kernel
theorem d_RR_row_13 : decode b_RR_row 13 = .ok (.iload_n 3, 1) := by decide +kernel
theorem d_RR_row_14 : decode b_RR_row 14 = .ok (.invokevirtual 100, 3) := by decide +kernel
theorem d_RR_row_17 : decode b_RR_row 17 = .ok (.astore 4, 2) := by decide +kernel
theorem d_RR_row_19 : decode b_RR_row 19 = .ok (.aload 4, 2) := by decide +kernel
theorem d_RR_row_21 : decode b_RR_row 21 = .ok (.ifnull 12, 3) := by decide +kernel
theorem d_RR_row_24 : decode b_RR_row 24 = .ok (.iload_n 2, 1) := by decide +kernel
theorem d_RR_row_25 : decode b_RR_row 25 = .ok (.ifCond .lt 8, 3) := by decide +kernel
theorem d_RR_row_28 : decode b_RR_row 28 = .ok (.iload_n 2, 1) := by decide +kernel
theorem d_RR_row_29 : decode b_RR_row 29 = .ok (.iconst 5, 1) := by decide +kernel
theorem d_RR_row_30 : decode b_RR_row 30 = .ok (.if_icmp .le 13, 3) := by decide +kernel
theorem d_RR_row_33 : decode b_RR_row 33 = .ok (.new 104, 3) := by decide +kernel
theorem d_RR_row_36 : decode b_RR_row 36 = .ok (.dup, 1) := by decide +kernel
theorem d_RR_row_37 : decode b_RR_row 37 = .ok (.ldc 106, 2) := by decide +kernel
theorem d_RR_row_39 : decode b_RR_row 39 = .ok (.invokespecial 108, 3) := by decide +kernel
theorem d_RR_row_42 : decode b_RR_row 42 = .ok (.athrow, 1) := by decide +kernel
theorem d_RR_row_43 : decode b_RR_row 43 = .ok (.iload_n 2, 1) := by decide +kernel
theorem d_RR_row_44 : decode b_RR_row 44 = .ok (.tableswitch 62 0 4 #[36, 38, 44, 50, 56], 36) := by decide +kernel
theorem d_RR_row_80 : decode b_RR_row 80 = .ok (.iload_n 3, 1) := by decide +kernel
theorem d_RR_row_81 : decode b_RR_row 81 = .ok (.ireturn, 1) := by decide +kernel
theorem d_RR_row_82 : decode b_RR_row 82 = .ok (.aload 4, 2) := by decide +kernel
theorem d_RR_row_84 : decode b_RR_row 84 = .ok (.getfield 109, 3) := by decide +kernel
theorem d_RR_row_87 : decode b_RR_row 87 = .ok (.ireturn, 1) := by decide +kernel
theorem d_RR_row_88 : decode b_RR_row 88 = .ok (.aload 4, 2) := by decide +kernel
theorem d_RR_row_90 : decode b_RR_row 90 = .ok (.getfield 114, 3) := by decide +kernel
theorem d_RR_row_93 : decode b_RR_row 93 = .ok (.ireturn, 1) := by decide +kernel
theorem d_RR_row_94 : decode b_RR_row 94 = .ok (.aload 4, 2) := by decide +kernel
theorem d_RR_row_96 : decode b_RR_row 96 = .ok (.getfield 117, 3) := by decide +kernel
theorem d_RR_row_99 : decode b_RR_row 99 = .ok (.ireturn, 1) := by decide +kernel
theorem d_RR_row_100 : decode b_RR_row 100 = .ok (.aload 4, 2) := by decide +kernel
theorem d_RR_row_102 : decode b_RR_row 102 = .ok (.getfield 120, 3) := by decide +kernel
theorem d_RR_row_105 : decode b_RR_row 105 = .ok (.ireturn, 1) := by decide +kernel
theorem d_RR_row_106 : decode b_RR_row 106 = .ok (.aload_n 0, 1) := by decide +kernel
theorem d_RR_row_107 : decode b_RR_row 107 = .ok (.getfield 35, 3) := by decide +kernel
theorem d_RR_row_110 : decode b_RR_row 110 = .ok (.iload_n 1, 1) := by decide +kernel
theorem d_RR_row_111 : decode b_RR_row 111 = .ok (.invokevirtual 123, 3) := by decide +kernel
theorem d_RR_row_114 : decode b_RR_row 114 = .ok (.ireturn, 1) := by decide +kernel
theorem d_RR_place_0 : decode b_RR_place 0 = .ok (.aload_n 0, 1) := by decide +kernel
theorem d_RR_place_1 : decode b_RR_place 1 = .ok (.getfield 35, 3) := by decide +kernel
theorem d_RR_place_4 : decode b_RR_place 4 = .ok (.iload_n 1, 1) := by decide +kernel
theorem d_RR_place_5 : decode b_RR_place 5 = .ok (.iload_n 2, 1) := by decide +kernel
theorem d_RR_place_6 : decode b_RR_place 6 = .ok (.invokevirtual 126, 3) := by decide +kernel
theorem d_RR_place_9 : decode b_RR_place 9 = .ok (.istore_n 3, 1) := by decide +kernel
theorem d_RR_place_10 : decode b_RR_place 10 = .ok (.iload_n 3, 1) := by decide +kernel
theorem d_RR_place_11 : decode b_RR_place 11 = .ok (.iconst (-1), 1) := by decide +kernel
theorem d_RR_place_12 : decode b_RR_place 12 = .ok (.if_icmp .ne 13, 3) := by decide +kernel
theorem d_RR_place_15 : decode b_RR_place 15 = .ok (.new 104, 3) := by decide +kernel
theorem d_RR_place_18 : decode b_RR_place 18 = .ok (.dup, 1) := by decide +kernel
theorem d_RR_place_19 : decode b_RR_place 19 = .ok (.ldc 130, 2) := by decide +kernel
theorem d_RR_place_21 : decode b_RR_place 21 = .ok (.invokespecial 108, 3) := by decide +kernel
theorem d_RR_place_24 : decode b_RR_place 24 = .ok (.athrow, 1) := by decide +kernel
theorem d_RR_place_25 : decode b_RR_place 25 = .ok (.iload_n 3, 1) := by decide +kernel
theorem d_RR_place_26 : decode b_RR_place 26 = .ok (.ireturn, 1) := by decide +kernel
theorem d_RR_line_0 : decode b_RR_line 0 = .ok (.aload_n 0, 1) := by decide +kernel
theorem d_RR_line_1 : decode b_RR_line 1 = .ok (.getfield 19, 3) := by decide +kernel
theorem d_RR_line_4 : decode b_RR_line 4 = .ok (.iload_n 1, 1) := by decide +kernel
theorem d_RR_line_5 : decode b_RR_line 5 = .ok (.invokevirtual 100, 3) := by decide +kernel
theorem d_RR_line_8 : decode b_RR_line 8 = .ok (.astore_n 2, 1) := by decide +kernel
theorem d_RR_line_9 : decode b_RR_line 9 = .ok (.aload_n 2, 1) := by decide +kernel
theorem d_RR_line_10 : decode b_RR_line 10 = .ok (.ifnonnull 13, 3) := by decide +kernel
theorem d_RR_line_13 : decode b_RR_line 13 = .ok (.new 104, 3) := by decide +kernel
theorem d_RR_line_16 : decode b_RR_line 16 = .ok (.dup, 1) := by decide +kernel
theorem d_RR_line_17 : decode b_RR_line 17 = .ok (.ldc 138, 2) := by decide +kernel
theorem d_RR_line_19 : decode b_RR_line 19 = .ok (.invokespecial 108, 3) := by decide +kernel
theorem d_RR_line_22 : decode b_RR_line 22 = .ok (.athrow, 1) := by decide +kernel
theorem d_RR_line_23 : decode b_RR_line 23 = .ok (.aload_n 2, 1) := by decide +kernel
theorem d_RR_line_24 : decode b_RR_line 24 = .ok (.getfield 140, 3) := by decide +kernel
theorem d_RR_line_27 : decode b_RR_line 27 = .ok (.ireturn, 1) := by decide +kernel
set_option maxHeartbeats 4000000 in
set_option maxRecDepth 100000 in
theorem c_RR_row (g : GG) (l : Launch) {x0 : Nat} {t : Nat} {bk : Nat} {p : Nat} {s : Nat} {u : Nat} {ru : Nat} {sa : Nat} {ps : Nat} {to : Nat} {gs : Nat} {rc : Nat} {pn : Nat} {RU : Nat → Nat} {SA : Nat → Nat} {PL : Nat → Nat} {RA : Nat → Option Nat} {PP : va_W} {ra : Nat} {pa : Nat} {pb : Nat} {db : Nat} {pr : Bool} {rules : List RuleV} {j : Nat} {y : Nat} {rv : RuleV}  (h1 : rc ≤ 4000) (h400 : rules.length ≤ 400) (hRA : RulesAt g PP RA rules) (hj : j < rc) (hrv : rules[RU j]? = some rv) (hsa : ∀ j, j < rc → SA j ≤ SA (j + 1)) (hs2 : ∀ j, j < rc → SA (j + 1) ≤ 30000) (hy : y ≤ 5) : Cn g l y_RR_row b_RR_row 5 (some .int) (rmk 2 0 0 42) [.ref x0, .int (nI j), .int (nI y)] ([(x0, .inr (0, [.ref t, .ref bk, .ref p, .ref s, .ref u])), (s, .inr (7, [.ref ru, .ref sa, .ref ps, .ref to, .int (nI gs), .int (nI rc), .int (nI pn)])), (ru, .inl (g.2.1 0, 4000, .inl (aI RU))), (sa, .inl (g.2.1 0, 4001, .inl (aI SA))), (bk, .inr (5, [.ref ra, .ref pa, .int (bI pr), .int (nI rules.length), .int (nI pb), .int (nI db)])), (ra, .inl (g.2.1 3, 400, .inr (.inr (.inr (.inr RA)))))] ++ PP) (fun (r0 : Option Value) (w0 : va_W) => r0 = some (.int (rowV rv (RU j) (SA (j + 1) - SA j) y)) ∧ w0 = [(x0, .inr (0, [.ref t, .ref bk, .ref p, .ref s, .ref u])), (s, .inr (7, [.ref ru, .ref sa, .ref ps, .ref to, .int (nI gs), .int (nI rc), .int (nI pn)])), (ru, .inl (g.2.1 0, 4000, .inl (aI RU))), (sa, .inl (g.2.1 0, 4001, .inl (aI SA))), (bk, .inr (5, [.ref ra, .ref pa, .int (bI pr), .int (nI rules.length), .int (nI pb), .int (nI db)])), (ra, .inl (g.2.1 3, 400, .inr (.inr (.inr (.inr RA)))))] ++ PP) := by
  refine Cn.of R_RR [(0, .ref x0), (1, .int (nI j)), (2, .int (nI y))] (by decide) rfl (Nat.le_of_ble_eq_true rfl) rfl ?_
  intro x A Q hR hXl hin C E
  subst hXl
  refine r_aload_n C 0 d_RR_row_0 rfl rfl ?_
  refine r_get C 0 3 d_RR_row_1 ci_RR fi_RR_35 rfl (by decide) rfl rfl ?_
  refine r_iload_n C 1 d_RR_row_4 rfl rfl ?_
  refine j_callV C (c_RowStore_ruleOf g (xl x) (s := s) (ru := ru) (sa := sa) (ps := ps) (to := to) (gs := gs) (rc := rc) (pn := pn) (z := nI j) (RU := RU) (by first | assumption | rfl | omega)) (Sp.keep (Sp.of (wr := [(x0, .inr (0, [.ref t, .ref bk, .ref p, .ref s, .ref u])), (sa, .inl (g.2.1 0, 4001, .inl (aI SA))), (bk, .inr (5, [.ref ra, .ref pa, .int (bI pr), .int (nI rules.length), .int (nI pb), .int (nI db)])), (ra, .inl (g.2.1 3, 400, .inr (.inr (.inr (.inr RA)))))]) [1, 2] [0, 3, 4, 5] rfl rfl rfl rfl (by decide)) PP) d_RR_row_5 lk_RR_96 mw_RowStore_ruleOf vw_RowStore_ruleOf (q0 := 0) rfl rfl (fit_of hR (by first | decide | (simp only [rmk]; omega)) (by first | decide | (simp only [rmk]; omega)) (by first | decide | (simp only [rmk]; omega)) (by first | decide | (simp only [rmk]; omega))) rfl (cat8 (Nat.le_of_ble_eq_true rfl)) (As := [.int (nI j)]) (rest := []) rfl (fun r_5 w_5 hp_5 => ?_)
  obtain ⟨rfl, rfl⟩ := hp_5
  refine r_swap ?_
  refine r_afterP (X := [(x0, .inr (0, [.ref t, .ref bk, .ref p, .ref s, .ref u])), (sa, .inl (g.2.1 0, 4001, .inl (aI SA))), (bk, .inr (5, [.ref ra, .ref pa, .int (bI pr), .int (nI rules.length), .int (nI pb), .int (nI db)])), (ra, .inl (g.2.1 3, 400, .inr (.inr (.inr (.inr RA))))), (s, .inr (7, [.ref ru, .ref sa, .ref ps, .ref to, .int (nI gs), .int (nI rc), .int (nI pn)])), (ru, .inl (g.2.1 0, 4000, .inl (aI RU)))]) (X' := [(x0, .inr (0, [.ref t, .ref bk, .ref p, .ref s, .ref u])), (s, .inr (7, [.ref ru, .ref sa, .ref ps, .ref to, .int (nI gs), .int (nI rc), .int (nI pn)])), (ru, .inl (g.2.1 0, 4000, .inl (aI RU))), (sa, .inl (g.2.1 0, 4001, .inl (aI SA))), (bk, .inr (5, [.ref ra, .ref pa, .int (bI pr), .int (nI rules.length), .int (nI pb), .int (nI db)])), (ra, .inl (g.2.1 3, 400, .inr (.inr (.inr (.inr RA)))))]) (pl := PP) (st' := [.int (oI (ruleK RU rc (inN (nI j))))]) (n1 := 0) (n2 := 0) [0, 4, 5, 1, 2, 3] rfl rfl rfl rfl rfl rfl ?_
  refine r_top (v' := nI (RU j)) (by rw [inN_nI (by omega), ruleK, if_pos hj]; rfl) ?_
  refine r_istore_n C (lv' := [(3, .int (nI (RU j))), (0, .ref x0), (1, .int (nI j)), (2, .int (nI y))]) d_RR_row_8 rfl (by decide) rfl ?_
  refine r_aload_n C 1 d_RR_row_9 rfl rfl ?_
  refine r_get C 0 1 d_RR_row_10 ci_RR fi_RR_19 rfl (by decide) rfl rfl ?_
  refine r_iload_n C 0 d_RR_row_13 rfl rfl ?_
  refine j_callV C (c_Book_ruleAt g (xl x) (bk := bk) (ra := ra) (pa := pa) (rc := rules.length) (pn := pb) (dp := db) (pr := pr) (z := nI (RU j)) (RA := RA) (by first | assumption | rfl | omega)) (Sp.keep (Sp.of (wr := [(x0, .inr (0, [.ref t, .ref bk, .ref p, .ref s, .ref u])), (s, .inr (7, [.ref ru, .ref sa, .ref ps, .ref to, .int (nI gs), .int (nI rc), .int (nI pn)])), (ru, .inl (g.2.1 0, 4000, .inl (aI RU))), (sa, .inl (g.2.1 0, 4001, .inl (aI SA)))]) [4, 5] [0, 1, 2, 3] rfl rfl rfl rfl (by decide)) PP) d_RR_row_14 lk_RR_100 mw_Book_ruleAt vw_Book_ruleAt (q0 := 0) rfl rfl (fit_of hR (by first | decide | (simp only [rmk]; omega)) (by first | decide | (simp only [rmk]; omega)) (by first | decide | (simp only [rmk]; omega)) (by first | decide | (simp only [rmk]; omega))) rfl (cat8 (Nat.le_of_ble_eq_true rfl)) (As := [.int (nI (RU j))]) (rest := []) rfl (fun r_14 w_14 hp_14 => ?_)
  obtain ⟨rfl, rfl⟩ := hp_14
  refine r_swap ?_
  refine r_afterP (X := [(x0, .inr (0, [.ref t, .ref bk, .ref p, .ref s, .ref u])), (s, .inr (7, [.ref ru, .ref sa, .ref ps, .ref to, .int (nI gs), .int (nI rc), .int (nI pn)])), (ru, .inl (g.2.1 0, 4000, .inl (aI RU))), (sa, .inl (g.2.1 0, 4001, .inl (aI SA))), (bk, .inr (5, [.ref ra, .ref pa, .int (bI pr), .int (nI rules.length), .int (nI pb), .int (nI db)])), (ra, .inl (g.2.1 3, 400, .inr (.inr (.inr (.inr RA)))))]) (X' := [(x0, .inr (0, [.ref t, .ref bk, .ref p, .ref s, .ref u])), (s, .inr (7, [.ref ru, .ref sa, .ref ps, .ref to, .int (nI gs), .int (nI rc), .int (nI pn)])), (ru, .inl (g.2.1 0, 4000, .inl (aI RU))), (sa, .inl (g.2.1 0, 4001, .inl (aI SA))), (bk, .inr (5, [.ref ra, .ref pa, .int (bI pr), .int (nI rules.length), .int (nI pb), .int (nI db)])), (ra, .inl (g.2.1 3, 400, .inr (.inr (.inr (.inr RA)))))]) (pl := PP) (st' := [va_rf (refK RA rules.length (inN (nI (RU j))))]) (n1 := 0) (n2 := 0) [0, 1, 2, 3, 4, 5] rfl rfl rfl rfl rfl rfl ?_
  have hru := (List.getElem?_eq_some_iff.mp hrv).1
  obtain ⟨a, ha, ar, hmem, hch⟩ := hRA (RU j) rv hrv
  refine r_eqS (st' := [.ref a]) (by rw [inN_nI (by omega), refK, if_pos (by omega), ha]; rfl) ?_
  refine r_astore C (lv' := [(4, .ref a), (3, .int (nI (RU j))), (0, .ref x0), (1, .int (nI j)), (2, .int (nI y))]) d_RR_row_17 (by decide) rfl ?_
  refine r_aload C 0 d_RR_row_19 rfl ?_
  refine r_ifnull C d_RR_row_21 ?_
  refine r_iload_n C 4 d_RR_row_24 rfl rfl ?_
  refine r_nif_lt C 33 d_RR_row_25 (by decide) (by omega) (fun c_25 => ?_) (fun c_25 => ?_)
  · exact absurd c_25 (by omega)
  · skip
    refine r_iload_n C 4 d_RR_row_28 rfl rfl ?_
    refine r_iconst C (nI 5) d_RR_row_29 (by decide) ?_
    refine r_ncmp_le C 43 d_RR_row_30 (by decide) (by omega) (by omega) (fun c_30 => ?_) (fun c_30 => ?_)
    · skip
      rcases (show y = 0 ∨ y = 1 ∨ y = 2 ∨ y = 3 ∨ y = 4 ∨ y = 5 by omega) with rfl | rfl | rfl | rfl | rfl | rfl
      · skip
        refine r_iload_n C 4 d_RR_row_43 rfl rfl ?_
        refine r_tableIn C 80 d_RR_row_44 (by decide) (by decide) rfl (by decide) ?_
        refine r_iload_n C 1 d_RR_row_80 rfl rfl ?_
        refine r_iret C E d_RR_row_81 (by first | decide | omega | (simp only [rmk]; omega)) (by first | decide | omega | (simp only [rmk]; omega)) ?_
        exact ⟨rfl, rfl⟩
      · skip
        refine r_iload_n C 4 d_RR_row_43 rfl rfl ?_
        refine r_tableIn C 82 d_RR_row_44 (by decide) (by decide) rfl (by decide) ?_
        refine r_aload C 0 d_RR_row_82 rfl ?_
        refine r_getM C 0 d_RR_row_84 ci_Rule fi_RR_109 rfl (by decide) (List.mem_append_right _ hmem) rfl ?_
        refine r_iret C E d_RR_row_87 (by first | decide | omega | (simp only [rmk]; omega)) (by first | decide | omega | (simp only [rmk]; omega)) ?_
        exact ⟨rfl, rfl⟩
      · skip
        refine r_iload_n C 4 d_RR_row_43 rfl rfl ?_
        refine r_tableIn C 88 d_RR_row_44 (by decide) (by decide) rfl (by decide) ?_
        refine r_aload C 0 d_RR_row_88 rfl ?_
        refine r_getM C 3 d_RR_row_90 ci_Rule fi_RR_114 rfl (by decide) (List.mem_append_right _ hmem) rfl ?_
        refine r_iret C E d_RR_row_93 (by first | decide | omega | (simp only [rmk]; omega)) (by first | decide | omega | (simp only [rmk]; omega)) ?_
        exact ⟨rfl, rfl⟩
      · skip
        refine r_iload_n C 4 d_RR_row_43 rfl rfl ?_
        refine r_tableIn C 94 d_RR_row_44 (by decide) (by decide) rfl (by decide) ?_
        refine r_aload C 0 d_RR_row_94 rfl ?_
        refine r_getM C 4 d_RR_row_96 ci_Rule fi_RR_117 rfl (by decide) (List.mem_append_right _ hmem) rfl ?_
        refine r_iret C E d_RR_row_99 (by first | decide | omega | (simp only [rmk]; omega)) (by first | decide | omega | (simp only [rmk]; omega)) ?_
        exact ⟨rfl, rfl⟩
      · skip
        refine r_iload_n C 4 d_RR_row_43 rfl rfl ?_
        refine r_tableIn C 100 d_RR_row_44 (by decide) (by decide) rfl (by decide) ?_
        refine r_aload C 0 d_RR_row_100 rfl ?_
        refine r_getM C 5 d_RR_row_102 ci_Rule fi_RR_120 rfl (by decide) (List.mem_append_right _ hmem) rfl ?_
        refine r_iret C E d_RR_row_105 (by first | decide | omega | (simp only [rmk]; omega)) (by first | decide | omega | (simp only [rmk]; omega)) ?_
        exact ⟨rfl, rfl⟩
      · skip
        refine r_iload_n C 4 d_RR_row_43 rfl rfl ?_
        refine r_tableOut C 106 d_RR_row_44 (by decide) (by decide) ?_
        refine r_aload_n C 2 d_RR_row_106 rfl rfl ?_
        refine r_get C 0 3 d_RR_row_107 ci_RR fi_RR_35 rfl (by decide) rfl rfl ?_
        refine r_iload_n C 3 d_RR_row_110 rfl rfl ?_
        refine j_callV C (c_RowStore_sizeOf g (xl x) (s := s) (ru := ru) (sa := sa) (ps := ps) (to := to) (gs := gs) (rc := rc) (pn := pn) (z := nI j) (SA := SA) (by first | assumption | rfl | omega) (hsa)) (Sp.keep (Sp.of (wr := [(x0, .inr (0, [.ref t, .ref bk, .ref p, .ref s, .ref u])), (ru, .inl (g.2.1 0, 4000, .inl (aI RU))), (bk, .inr (5, [.ref ra, .ref pa, .int (bI pr), .int (nI rules.length), .int (nI pb), .int (nI db)])), (ra, .inl (g.2.1 3, 400, .inr (.inr (.inr (.inr RA)))))]) [1, 3] [0, 2, 4, 5] rfl rfl rfl rfl (by decide)) PP) d_RR_row_111 lk_RR_123 mw_RowStore_sizeOf vw_RowStore_sizeOf (q0 := 0) rfl rfl (fit_of hR (by first | decide | (simp only [rmk]; omega)) (by first | decide | (simp only [rmk]; omega)) (by first | decide | (simp only [rmk]; omega)) (by first | decide | (simp only [rmk]; omega))) rfl (cat8 (Nat.le_of_ble_eq_true rfl)) (As := [.int (nI j)]) (rest := []) rfl (fun r_111 w_111 hp_111 => ?_)
        obtain ⟨rfl, rfl⟩ := hp_111
        refine r_swap ?_
        refine r_afterP (X := [(x0, .inr (0, [.ref t, .ref bk, .ref p, .ref s, .ref u])), (ru, .inl (g.2.1 0, 4000, .inl (aI RU))), (bk, .inr (5, [.ref ra, .ref pa, .int (bI pr), .int (nI rules.length), .int (nI pb), .int (nI db)])), (ra, .inl (g.2.1 3, 400, .inr (.inr (.inr (.inr RA))))), (s, .inr (7, [.ref ru, .ref sa, .ref ps, .ref to, .int (nI gs), .int (nI rc), .int (nI pn)])), (sa, .inl (g.2.1 0, 4001, .inl (aI SA)))]) (X' := [(x0, .inr (0, [.ref t, .ref bk, .ref p, .ref s, .ref u])), (s, .inr (7, [.ref ru, .ref sa, .ref ps, .ref to, .int (nI gs), .int (nI rc), .int (nI pn)])), (ru, .inl (g.2.1 0, 4000, .inl (aI RU))), (sa, .inl (g.2.1 0, 4001, .inl (aI SA))), (bk, .inr (5, [.ref ra, .ref pa, .int (bI pr), .int (nI rules.length), .int (nI pb), .int (nI db)])), (ra, .inl (g.2.1 3, 400, .inr (.inr (.inr (.inr RA)))))]) (pl := PP) (st' := [.int (nI (sizeK SA rc (inN (nI j))))]) (n1 := 0) (n2 := 0) [0, 4, 1, 5, 2, 3] rfl rfl rfl rfl rfl rfl ?_
        refine r_iret C E d_RR_row_114 (by first | decide | omega | (simp only [rmk]; omega)) (by first | decide | omega | (simp only [rmk]; omega)) ?_
        exact ⟨by rw [inN_nI (by omega), sizeK, if_pos hj]; rfl, rfl⟩
    · exact absurd c_30 (by omega)

set_option maxHeartbeats 4000000 in
set_option maxRecDepth 100000 in
theorem c_RR_row_IOE (g : GG) (l : Launch) (hfl : l.flags = pinnedFlags ++ [noTraceFlag]) {x0 : Nat} {t : Nat} {bk : Nat} {p : Nat} {s : Nat} {u : Nat} {ru : Nat} {sa : Nat} {ps : Nat} {to : Nat} {gs : Nat} {rc : Nat} {pn : Nat} {RU : Nat → Nat} {SA : Nat → Nat} {PL : Nat → Nat} {RA : Nat → Option Nat} {PP : va_W} {ra : Nat} {pa : Nat} {pb : Nat} {db : Nat} {pr : Bool} {rules : List RuleV} {y : Int32} {z : Int32} (h1 : rc ≤ 4000) (h400 : rules.length ≤ 400) (hbad : hasK rc (inN z) = false) : CT g l y_RR_row b_RR_row 5 (some .int) (rmk 6 1 6 100) [.ref x0, .int z, .int y] ([(x0, .inr (0, [.ref t, .ref bk, .ref p, .ref s, .ref u])), (s, .inr (7, [.ref ru, .ref sa, .ref ps, .ref to, .int (nI gs), .int (nI rc), .int (nI pn)])), (ru, .inl (g.2.1 0, 4000, .inl (aI RU))), (sa, .inl (g.2.1 0, 4001, .inl (aI SA))), (bk, .inr (5, [.ref ra, .ref pa, .int (bI pr), .int (nI rules.length), .int (nI pb), .int (nI db)])), (ra, .inl (g.2.1 3, 400, .inr (.inr (.inr (.inr RA)))))] ++ PP) E_IOE (fun (w0 : va_W) => w0 = [(x0, .inr (0, [.ref t, .ref bk, .ref p, .ref s, .ref u])), (s, .inr (7, [.ref ru, .ref sa, .ref ps, .ref to, .int (nI gs), .int (nI rc), .int (nI pn)])), (ru, .inl (g.2.1 0, 4000, .inl (aI RU))), (sa, .inl (g.2.1 0, 4001, .inl (aI SA))), (bk, .inr (5, [.ref ra, .ref pa, .int (bI pr), .int (nI rules.length), .int (nI pb), .int (nI db)])), (ra, .inl (g.2.1 3, 400, .inr (.inr (.inr (.inr RA)))))] ++ PP) := by
  refine CT.of R_RR [(0, .ref x0), (1, .int z), (2, .int y)] (by decide) rfl (Nat.le_of_ble_eq_true rfl) rfl ?_
  intro x A Q hR hXl C E
  subst hXl
  refine r_aload_n C 0 d_RR_row_0 rfl rfl ?_
  refine r_get C 0 3 d_RR_row_1 ci_RR fi_RR_35 rfl (by decide) rfl rfl ?_
  refine r_iload_n C 1 d_RR_row_4 rfl rfl ?_
  refine j_callV C (c_RowStore_ruleOf g (xl x) (s := s) (ru := ru) (sa := sa) (ps := ps) (to := to) (gs := gs) (rc := rc) (pn := pn) (z := z) (RU := RU) (by first | assumption | rfl | omega)) (Sp.keep (Sp.of (wr := [(x0, .inr (0, [.ref t, .ref bk, .ref p, .ref s, .ref u])), (sa, .inl (g.2.1 0, 4001, .inl (aI SA))), (bk, .inr (5, [.ref ra, .ref pa, .int (bI pr), .int (nI rules.length), .int (nI pb), .int (nI db)])), (ra, .inl (g.2.1 3, 400, .inr (.inr (.inr (.inr RA)))))]) [1, 2] [0, 3, 4, 5] rfl rfl rfl rfl (by decide)) PP) d_RR_row_5 lk_RR_96 mw_RowStore_ruleOf vw_RowStore_ruleOf (q0 := 0) rfl rfl (fit_of hR (by first | decide | (simp only [rmk]; omega)) (by first | decide | (simp only [rmk]; omega)) (by first | decide | (simp only [rmk]; omega)) (by first | decide | (simp only [rmk]; omega))) rfl (cat8 (Nat.le_of_ble_eq_true rfl)) (As := [.int z]) (rest := []) rfl (fun r_5 w_5 hp_5 => ?_)
  obtain ⟨rfl, rfl⟩ := hp_5
  refine r_swap ?_
  refine r_afterP (X := [(x0, .inr (0, [.ref t, .ref bk, .ref p, .ref s, .ref u])), (sa, .inl (g.2.1 0, 4001, .inl (aI SA))), (bk, .inr (5, [.ref ra, .ref pa, .int (bI pr), .int (nI rules.length), .int (nI pb), .int (nI db)])), (ra, .inl (g.2.1 3, 400, .inr (.inr (.inr (.inr RA))))), (s, .inr (7, [.ref ru, .ref sa, .ref ps, .ref to, .int (nI gs), .int (nI rc), .int (nI pn)])), (ru, .inl (g.2.1 0, 4000, .inl (aI RU)))]) (X' := [(x0, .inr (0, [.ref t, .ref bk, .ref p, .ref s, .ref u])), (s, .inr (7, [.ref ru, .ref sa, .ref ps, .ref to, .int (nI gs), .int (nI rc), .int (nI pn)])), (ru, .inl (g.2.1 0, 4000, .inl (aI RU))), (sa, .inl (g.2.1 0, 4001, .inl (aI SA))), (bk, .inr (5, [.ref ra, .ref pa, .int (bI pr), .int (nI rules.length), .int (nI pb), .int (nI db)])), (ra, .inl (g.2.1 3, 400, .inr (.inr (.inr (.inr RA)))))]) (pl := PP) (st' := [.int (oI (ruleK RU rc (inN z)))]) (n1 := 0) (n2 := 0) [0, 4, 5, 1, 2, 3] rfl rfl rfl rfl rfl rfl ?_
  refine r_top (v' := (-1)) (by rw [ruleK_none hbad]; rfl) ?_
  refine r_istore_n C (lv' := [(3, .int (-1)), (0, .ref x0), (1, .int z), (2, .int y)]) d_RR_row_8 rfl (by decide) rfl ?_
  refine r_aload_n C 1 d_RR_row_9 rfl rfl ?_
  refine r_get C 0 1 d_RR_row_10 ci_RR fi_RR_19 rfl (by decide) rfl rfl ?_
  refine r_iload_n C 0 d_RR_row_13 rfl rfl ?_
  refine j_callV C (c_Book_ruleAt g (xl x) (bk := bk) (ra := ra) (pa := pa) (rc := rules.length) (pn := pb) (dp := db) (pr := pr) (z := (-1)) (RA := RA) (by first | assumption | rfl | omega)) (Sp.keep (Sp.of (wr := [(x0, .inr (0, [.ref t, .ref bk, .ref p, .ref s, .ref u])), (s, .inr (7, [.ref ru, .ref sa, .ref ps, .ref to, .int (nI gs), .int (nI rc), .int (nI pn)])), (ru, .inl (g.2.1 0, 4000, .inl (aI RU))), (sa, .inl (g.2.1 0, 4001, .inl (aI SA)))]) [4, 5] [0, 1, 2, 3] rfl rfl rfl rfl (by decide)) PP) d_RR_row_14 lk_RR_100 mw_Book_ruleAt vw_Book_ruleAt (q0 := 0) rfl rfl (fit_of hR (by first | decide | (simp only [rmk]; omega)) (by first | decide | (simp only [rmk]; omega)) (by first | decide | (simp only [rmk]; omega)) (by first | decide | (simp only [rmk]; omega))) rfl (cat8 (Nat.le_of_ble_eq_true rfl)) (As := [.int (-1)]) (rest := []) rfl (fun r_14 w_14 hp_14 => ?_)
  obtain ⟨rfl, rfl⟩ := hp_14
  refine r_swap ?_
  refine r_afterP (X := [(x0, .inr (0, [.ref t, .ref bk, .ref p, .ref s, .ref u])), (s, .inr (7, [.ref ru, .ref sa, .ref ps, .ref to, .int (nI gs), .int (nI rc), .int (nI pn)])), (ru, .inl (g.2.1 0, 4000, .inl (aI RU))), (sa, .inl (g.2.1 0, 4001, .inl (aI SA))), (bk, .inr (5, [.ref ra, .ref pa, .int (bI pr), .int (nI rules.length), .int (nI pb), .int (nI db)])), (ra, .inl (g.2.1 3, 400, .inr (.inr (.inr (.inr RA)))))]) (X' := [(x0, .inr (0, [.ref t, .ref bk, .ref p, .ref s, .ref u])), (s, .inr (7, [.ref ru, .ref sa, .ref ps, .ref to, .int (nI gs), .int (nI rc), .int (nI pn)])), (ru, .inl (g.2.1 0, 4000, .inl (aI RU))), (sa, .inl (g.2.1 0, 4001, .inl (aI SA))), (bk, .inr (5, [.ref ra, .ref pa, .int (bI pr), .int (nI rules.length), .int (nI pb), .int (nI db)])), (ra, .inl (g.2.1 3, 400, .inr (.inr (.inr (.inr RA)))))]) (pl := PP) (st' := [va_rf (refK RA rules.length (inN (-1)))]) (n1 := 0) (n2 := 0) [0, 1, 2, 3, 4, 5] rfl rfl rfl rfl rfl rfl ?_
  refine r_eqS (st' := [.null]) (by rw [inN_m1]; rfl) ?_
  refine r_astoreN C (lv' := [(4, .null), (3, .int (-1)), (0, .ref x0), (1, .int z), (2, .int y)]) d_RR_row_17 (by decide) rfl ?_
  refine r_aloadN C 0 d_RR_row_19 rfl ?_
  refine r_ifnullN C 33 d_RR_row_21 (by decide) ?_
  refine r_throw C E hfl (tx := "no such row, or nothing such of a row") xf_IOE xk_IOE xi_IOE xn_IOE (by decide) xo_IOE d_RR_row_33 d_RR_row_36 d_RR_row_37 d_RR_row_39 d_RR_row_42 (by rw [hR]; first | decide | (simp only [rmk]; omega)) (by rw [hR]; first | decide | (simp only [rmk]; omega)) (by rw [hR]; first | decide | (simp only [rmk]; omega)) (by rw [hR]; first | decide | (simp only [rmk]; omega)) (by first | decide | omega | (simp only [rmk]; omega)) (by first | decide | omega | (simp only [rmk]; omega)) (by decide) ?_
  exact rfl

set_option maxHeartbeats 4000000 in
set_option maxRecDepth 100000 in
theorem c_RR_row_IOE2 (g : GG) (l : Launch) (hfl : l.flags = pinnedFlags ++ [noTraceFlag]) {x0 : Nat} {t : Nat} {bk : Nat} {p : Nat} {s : Nat} {u : Nat} {ru : Nat} {sa : Nat} {ps : Nat} {to : Nat} {gs : Nat} {rc : Nat} {pn : Nat} {RU : Nat → Nat} {SA : Nat → Nat} {PL : Nat → Nat} {RA : Nat → Option Nat} {PP : va_W} {ra : Nat} {pa : Nat} {pb : Nat} {db : Nat} {pr : Bool} {rules : List RuleV} {j : Nat} {y : Int32} {rv : RuleV} (h1 : rc ≤ 4000) (h400 : rules.length ≤ 400) (hRA : RulesAt g PP RA rules) (hj : j < rc) (hrv : rules[RU j]? = some rv) (hbad : y < 0 ∨ ¬ y ≤ 5) : CT g l y_RR_row b_RR_row 5 (some .int) (rmk 6 1 6 100) [.ref x0, .int (nI j), .int y] ([(x0, .inr (0, [.ref t, .ref bk, .ref p, .ref s, .ref u])), (s, .inr (7, [.ref ru, .ref sa, .ref ps, .ref to, .int (nI gs), .int (nI rc), .int (nI pn)])), (ru, .inl (g.2.1 0, 4000, .inl (aI RU))), (sa, .inl (g.2.1 0, 4001, .inl (aI SA))), (bk, .inr (5, [.ref ra, .ref pa, .int (bI pr), .int (nI rules.length), .int (nI pb), .int (nI db)])), (ra, .inl (g.2.1 3, 400, .inr (.inr (.inr (.inr RA)))))] ++ PP) E_IOE (fun (w0 : va_W) => w0 = [(x0, .inr (0, [.ref t, .ref bk, .ref p, .ref s, .ref u])), (s, .inr (7, [.ref ru, .ref sa, .ref ps, .ref to, .int (nI gs), .int (nI rc), .int (nI pn)])), (ru, .inl (g.2.1 0, 4000, .inl (aI RU))), (sa, .inl (g.2.1 0, 4001, .inl (aI SA))), (bk, .inr (5, [.ref ra, .ref pa, .int (bI pr), .int (nI rules.length), .int (nI pb), .int (nI db)])), (ra, .inl (g.2.1 3, 400, .inr (.inr (.inr (.inr RA)))))] ++ PP) := by
  refine CT.of R_RR [(0, .ref x0), (1, .int (nI j)), (2, .int y)] (by decide) rfl (Nat.le_of_ble_eq_true rfl) rfl ?_
  intro x A Q hR hXl C E
  subst hXl
  refine r_aload_n C 0 d_RR_row_0 rfl rfl ?_
  refine r_get C 0 3 d_RR_row_1 ci_RR fi_RR_35 rfl (by decide) rfl rfl ?_
  refine r_iload_n C 1 d_RR_row_4 rfl rfl ?_
  refine j_callV C (c_RowStore_ruleOf g (xl x) (s := s) (ru := ru) (sa := sa) (ps := ps) (to := to) (gs := gs) (rc := rc) (pn := pn) (z := nI j) (RU := RU) (by first | assumption | rfl | omega)) (Sp.keep (Sp.of (wr := [(x0, .inr (0, [.ref t, .ref bk, .ref p, .ref s, .ref u])), (sa, .inl (g.2.1 0, 4001, .inl (aI SA))), (bk, .inr (5, [.ref ra, .ref pa, .int (bI pr), .int (nI rules.length), .int (nI pb), .int (nI db)])), (ra, .inl (g.2.1 3, 400, .inr (.inr (.inr (.inr RA)))))]) [1, 2] [0, 3, 4, 5] rfl rfl rfl rfl (by decide)) PP) d_RR_row_5 lk_RR_96 mw_RowStore_ruleOf vw_RowStore_ruleOf (q0 := 0) rfl rfl (fit_of hR (by first | decide | (simp only [rmk]; omega)) (by first | decide | (simp only [rmk]; omega)) (by first | decide | (simp only [rmk]; omega)) (by first | decide | (simp only [rmk]; omega))) rfl (cat8 (Nat.le_of_ble_eq_true rfl)) (As := [.int (nI j)]) (rest := []) rfl (fun r_5 w_5 hp_5 => ?_)
  obtain ⟨rfl, rfl⟩ := hp_5
  refine r_swap ?_
  refine r_afterP (X := [(x0, .inr (0, [.ref t, .ref bk, .ref p, .ref s, .ref u])), (sa, .inl (g.2.1 0, 4001, .inl (aI SA))), (bk, .inr (5, [.ref ra, .ref pa, .int (bI pr), .int (nI rules.length), .int (nI pb), .int (nI db)])), (ra, .inl (g.2.1 3, 400, .inr (.inr (.inr (.inr RA))))), (s, .inr (7, [.ref ru, .ref sa, .ref ps, .ref to, .int (nI gs), .int (nI rc), .int (nI pn)])), (ru, .inl (g.2.1 0, 4000, .inl (aI RU)))]) (X' := [(x0, .inr (0, [.ref t, .ref bk, .ref p, .ref s, .ref u])), (s, .inr (7, [.ref ru, .ref sa, .ref ps, .ref to, .int (nI gs), .int (nI rc), .int (nI pn)])), (ru, .inl (g.2.1 0, 4000, .inl (aI RU))), (sa, .inl (g.2.1 0, 4001, .inl (aI SA))), (bk, .inr (5, [.ref ra, .ref pa, .int (bI pr), .int (nI rules.length), .int (nI pb), .int (nI db)])), (ra, .inl (g.2.1 3, 400, .inr (.inr (.inr (.inr RA)))))]) (pl := PP) (st' := [.int (oI (ruleK RU rc (inN (nI j))))]) (n1 := 0) (n2 := 0) [0, 4, 5, 1, 2, 3] rfl rfl rfl rfl rfl rfl ?_
  refine r_top (v' := nI (RU j)) (by rw [inN_nI (by omega), ruleK, if_pos hj]; rfl) ?_
  refine r_istore_n C (lv' := [(3, .int (nI (RU j))), (0, .ref x0), (1, .int (nI j)), (2, .int y)]) d_RR_row_8 rfl (by decide) rfl ?_
  refine r_aload_n C 1 d_RR_row_9 rfl rfl ?_
  refine r_get C 0 1 d_RR_row_10 ci_RR fi_RR_19 rfl (by decide) rfl rfl ?_
  refine r_iload_n C 0 d_RR_row_13 rfl rfl ?_
  refine j_callV C (c_Book_ruleAt g (xl x) (bk := bk) (ra := ra) (pa := pa) (rc := rules.length) (pn := pb) (dp := db) (pr := pr) (z := nI (RU j)) (RA := RA) (by first | assumption | rfl | omega)) (Sp.keep (Sp.of (wr := [(x0, .inr (0, [.ref t, .ref bk, .ref p, .ref s, .ref u])), (s, .inr (7, [.ref ru, .ref sa, .ref ps, .ref to, .int (nI gs), .int (nI rc), .int (nI pn)])), (ru, .inl (g.2.1 0, 4000, .inl (aI RU))), (sa, .inl (g.2.1 0, 4001, .inl (aI SA)))]) [4, 5] [0, 1, 2, 3] rfl rfl rfl rfl (by decide)) PP) d_RR_row_14 lk_RR_100 mw_Book_ruleAt vw_Book_ruleAt (q0 := 0) rfl rfl (fit_of hR (by first | decide | (simp only [rmk]; omega)) (by first | decide | (simp only [rmk]; omega)) (by first | decide | (simp only [rmk]; omega)) (by first | decide | (simp only [rmk]; omega))) rfl (cat8 (Nat.le_of_ble_eq_true rfl)) (As := [.int (nI (RU j))]) (rest := []) rfl (fun r_14 w_14 hp_14 => ?_)
  obtain ⟨rfl, rfl⟩ := hp_14
  refine r_swap ?_
  refine r_afterP (X := [(x0, .inr (0, [.ref t, .ref bk, .ref p, .ref s, .ref u])), (s, .inr (7, [.ref ru, .ref sa, .ref ps, .ref to, .int (nI gs), .int (nI rc), .int (nI pn)])), (ru, .inl (g.2.1 0, 4000, .inl (aI RU))), (sa, .inl (g.2.1 0, 4001, .inl (aI SA))), (bk, .inr (5, [.ref ra, .ref pa, .int (bI pr), .int (nI rules.length), .int (nI pb), .int (nI db)])), (ra, .inl (g.2.1 3, 400, .inr (.inr (.inr (.inr RA)))))]) (X' := [(x0, .inr (0, [.ref t, .ref bk, .ref p, .ref s, .ref u])), (s, .inr (7, [.ref ru, .ref sa, .ref ps, .ref to, .int (nI gs), .int (nI rc), .int (nI pn)])), (ru, .inl (g.2.1 0, 4000, .inl (aI RU))), (sa, .inl (g.2.1 0, 4001, .inl (aI SA))), (bk, .inr (5, [.ref ra, .ref pa, .int (bI pr), .int (nI rules.length), .int (nI pb), .int (nI db)])), (ra, .inl (g.2.1 3, 400, .inr (.inr (.inr (.inr RA)))))]) (pl := PP) (st' := [va_rf (refK RA rules.length (inN (nI (RU j))))]) (n1 := 0) (n2 := 0) [0, 1, 2, 3, 4, 5] rfl rfl rfl rfl rfl rfl ?_
  have hru := (List.getElem?_eq_some_iff.mp hrv).1
  obtain ⟨a, ha, ar, hmem, hch⟩ := hRA (RU j) rv hrv
  refine r_eqS (st' := [.ref a]) (by rw [inN_nI (by omega), refK, if_pos (by omega), ha]; rfl) ?_
  refine r_astore C (lv' := [(4, .ref a), (3, .int (nI (RU j))), (0, .ref x0), (1, .int (nI j)), (2, .int y)]) d_RR_row_17 (by decide) rfl ?_
  refine r_aload C 0 d_RR_row_19 rfl ?_
  refine r_ifnull C d_RR_row_21 ?_
  refine r_iload_n C 4 d_RR_row_24 rfl rfl ?_
  refine r_if_lt C 33 d_RR_row_25 (by decide) (fun c_25 => ?_) (fun c_25 => ?_)
  · skip
    refine r_throw C E hfl (tx := "no such row, or nothing such of a row") xf_IOE xk_IOE xi_IOE xn_IOE (by decide) xo_IOE d_RR_row_33 d_RR_row_36 d_RR_row_37 d_RR_row_39 d_RR_row_42 (by rw [hR]; first | decide | (simp only [rmk]; omega)) (by rw [hR]; first | decide | (simp only [rmk]; omega)) (by rw [hR]; first | decide | (simp only [rmk]; omega)) (by rw [hR]; first | decide | (simp only [rmk]; omega)) (by first | decide | omega | (simp only [rmk]; omega)) (by first | decide | omega | (simp only [rmk]; omega)) (by decide) ?_
    exact rfl
  · skip
    refine r_iload_n C 4 d_RR_row_28 rfl rfl ?_
    refine r_iconst C (nI 5) d_RR_row_29 (by decide) ?_
    refine r_icmp_le C 43 d_RR_row_30 (by decide) (fun c_30 => ?_) (fun c_30 => ?_)
    · exact hbad.elim (fun q => absurd q c_25) (fun q => absurd c_30 q)
    · skip
      refine r_throw C E hfl (tx := "no such row, or nothing such of a row") xf_IOE xk_IOE xi_IOE xn_IOE (by decide) xo_IOE d_RR_row_33 d_RR_row_36 d_RR_row_37 d_RR_row_39 d_RR_row_42 (by rw [hR]; first | decide | (simp only [rmk]; omega)) (by rw [hR]; first | decide | (simp only [rmk]; omega)) (by rw [hR]; first | decide | (simp only [rmk]; omega)) (by rw [hR]; first | decide | (simp only [rmk]; omega)) (by first | decide | omega | (simp only [rmk]; omega)) (by first | decide | omega | (simp only [rmk]; omega)) (by decide) ?_
      exact rfl

set_option maxHeartbeats 4000000 in
set_option maxRecDepth 100000 in
theorem c_RR_place (g : GG) (l : Launch) {x0 : Nat} {t : Nat} {bk : Nat} {p : Nat} {s : Nat} {u : Nat} {ru : Nat} {sa : Nat} {ps : Nat} {to : Nat} {gs : Nat} {rc : Nat} {pn : Nat} {SA : Nat → Nat} {PL : Nat → Nat} {y : Int32} {z : Int32} {v : Nat}  (h1 : rc ≤ 4000) (h2 : pn ≤ 30000) (hm : ∀ j, j < rc → SA j ≤ SA (j + 1)) (he : ∀ j, j < rc → SA (j + 1) ≤ pn) (hv : placeK SA PL rc (inN z) (inN y) = some v) (hv2 : v < 2 ^ 31) : Cn g l y_RR_place b_RR_place 4 (some .int) (rmk 3 0 0 65) [.ref x0, .int z, .int y] ([(x0, .inr (0, [.ref t, .ref bk, .ref p, .ref s, .ref u])), (s, .inr (7, [.ref ru, .ref sa, .ref ps, .ref to, .int (nI gs), .int (nI rc), .int (nI pn)])), (sa, .inl (g.2.1 0, 4001, .inl (aI SA))), (ps, .inl (g.2.1 0, 30000, .inl (aI PL)))]) (fun (r0 : Option Value) (w0 : va_W) => r0 = some (.int (nI v)) ∧ w0 = [(x0, .inr (0, [.ref t, .ref bk, .ref p, .ref s, .ref u])), (s, .inr (7, [.ref ru, .ref sa, .ref ps, .ref to, .int (nI gs), .int (nI rc), .int (nI pn)])), (sa, .inl (g.2.1 0, 4001, .inl (aI SA))), (ps, .inl (g.2.1 0, 30000, .inl (aI PL)))]) := by
  refine Cn.of R_RR [(0, .ref x0), (1, .int z), (2, .int y)] (by decide) rfl (Nat.le_of_ble_eq_true rfl) rfl ?_
  intro x A Q hR hXl hin C E
  subst hXl
  refine r_aload_n C 0 d_RR_place_0 rfl rfl ?_
  refine r_get C 0 3 d_RR_place_1 ci_RR fi_RR_35 rfl (by decide) rfl rfl ?_
  refine r_iload_n C 1 d_RR_place_4 rfl rfl ?_
  refine r_iload_n C 2 d_RR_place_5 rfl rfl ?_
  refine j_callV C (c_RowStore_placeOf g (xl x) (s := s) (ru := ru) (sa := sa) (ps := ps) (to := to) (gs := gs) (rc := rc) (pn := pn) (z := z) (y := y) (SA := SA) (PL := PL) (by first | assumption | rfl | omega) (by first | assumption | rfl | omega) (by first | assumption | rfl | omega) (by first | assumption | rfl | omega)) (Sp.of (wr := [(x0, .inr (0, [.ref t, .ref bk, .ref p, .ref s, .ref u]))]) [1, 2, 3] [0] rfl rfl rfl rfl (by decide)) d_RR_place_6 lk_RR_126 mw_RowStore_placeOf vw_RowStore_placeOf (q0 := 0) rfl rfl (fit_of hR (by first | decide | (simp only [rmk]; omega)) (by first | decide | (simp only [rmk]; omega)) (by first | decide | (simp only [rmk]; omega)) (by first | decide | (simp only [rmk]; omega))) rfl (cat8 (Nat.le_of_ble_eq_true rfl)) (As := [.int z, .int y]) (rest := []) rfl (fun r_6 w_6 hp_6 => ?_)
  obtain ⟨rfl, rfl⟩ := hp_6
  refine r_after (ws' := [(x0, .inr (0, [.ref t, .ref bk, .ref p, .ref s, .ref u])), (s, .inr (7, [.ref ru, .ref sa, .ref ps, .ref to, .int (nI gs), .int (nI rc), .int (nI pn)])), (sa, .inl (g.2.1 0, 4001, .inl (aI SA))), (ps, .inl (g.2.1 0, 30000, .inl (aI PL)))]) (st' := [.int (oI (placeK SA PL rc (inN z) (inN y)))]) (n1 := 0) (n2 := 0) [0, 1, 2, 3] rfl rfl rfl rfl rfl ?_
  refine r_top (v' := nI v) (by rw [hv]; rfl) ?_
  refine r_istore_n C (lv' := [(3, .int (nI v)), (0, .ref x0), (1, .int z), (2, .int y)]) d_RR_place_9 rfl (by decide) rfl ?_
  refine r_iload_n C 0 d_RR_place_10 rfl rfl ?_
  refine r_iconst C ((-1)) d_RR_place_11 (by decide) ?_
  refine r_icmp_ne C 25 d_RR_place_12 (by decide) (fun c_12 => ?_) (fun c_12 => ?_)
  · skip
    refine r_iload_n C 0 d_RR_place_25 rfl rfl ?_
    refine r_iret C E d_RR_place_26 (by first | decide | omega | (simp only [rmk]; omega)) (by first | decide | omega | (simp only [rmk]; omega)) ?_
    exact ⟨rfl, rfl⟩
  · exact absurd c_12 (nI_nm1 hv2)

set_option maxHeartbeats 4000000 in
set_option maxRecDepth 100000 in
theorem c_RR_place_IOE (g : GG) (l : Launch) (hfl : l.flags = pinnedFlags ++ [noTraceFlag]) {x0 : Nat} {t : Nat} {bk : Nat} {p : Nat} {s : Nat} {u : Nat} {ru : Nat} {sa : Nat} {ps : Nat} {to : Nat} {gs : Nat} {rc : Nat} {pn : Nat} {SA : Nat → Nat} {PL : Nat → Nat} {y : Int32} {z : Int32} (h1 : rc ≤ 4000) (h2 : pn ≤ 30000) (hm : ∀ j, j < rc → SA j ≤ SA (j + 1)) (he : ∀ j, j < rc → SA (j + 1) ≤ pn) (hv : placeK SA PL rc (inN z) (inN y) = none) : CT g l y_RR_place b_RR_place 4 (some .int) (rmk 6 1 6 100) [.ref x0, .int z, .int y] ([(x0, .inr (0, [.ref t, .ref bk, .ref p, .ref s, .ref u])), (s, .inr (7, [.ref ru, .ref sa, .ref ps, .ref to, .int (nI gs), .int (nI rc), .int (nI pn)])), (sa, .inl (g.2.1 0, 4001, .inl (aI SA))), (ps, .inl (g.2.1 0, 30000, .inl (aI PL)))]) E_IOE (fun (w0 : va_W) => w0 = [(x0, .inr (0, [.ref t, .ref bk, .ref p, .ref s, .ref u])), (s, .inr (7, [.ref ru, .ref sa, .ref ps, .ref to, .int (nI gs), .int (nI rc), .int (nI pn)])), (sa, .inl (g.2.1 0, 4001, .inl (aI SA))), (ps, .inl (g.2.1 0, 30000, .inl (aI PL)))]) := by
  refine CT.of R_RR [(0, .ref x0), (1, .int z), (2, .int y)] (by decide) rfl (Nat.le_of_ble_eq_true rfl) rfl ?_
  intro x A Q hR hXl C E
  subst hXl
  refine r_aload_n C 0 d_RR_place_0 rfl rfl ?_
  refine r_get C 0 3 d_RR_place_1 ci_RR fi_RR_35 rfl (by decide) rfl rfl ?_
  refine r_iload_n C 1 d_RR_place_4 rfl rfl ?_
  refine r_iload_n C 2 d_RR_place_5 rfl rfl ?_
  refine j_callV C (c_RowStore_placeOf g (xl x) (s := s) (ru := ru) (sa := sa) (ps := ps) (to := to) (gs := gs) (rc := rc) (pn := pn) (z := z) (y := y) (SA := SA) (PL := PL) (by first | assumption | rfl | omega) (by first | assumption | rfl | omega) (by first | assumption | rfl | omega) (by first | assumption | rfl | omega)) (Sp.of (wr := [(x0, .inr (0, [.ref t, .ref bk, .ref p, .ref s, .ref u]))]) [1, 2, 3] [0] rfl rfl rfl rfl (by decide)) d_RR_place_6 lk_RR_126 mw_RowStore_placeOf vw_RowStore_placeOf (q0 := 0) rfl rfl (fit_of hR (by first | decide | (simp only [rmk]; omega)) (by first | decide | (simp only [rmk]; omega)) (by first | decide | (simp only [rmk]; omega)) (by first | decide | (simp only [rmk]; omega))) rfl (cat8 (Nat.le_of_ble_eq_true rfl)) (As := [.int z, .int y]) (rest := []) rfl (fun r_6 w_6 hp_6 => ?_)
  obtain ⟨rfl, rfl⟩ := hp_6
  refine r_after (ws' := [(x0, .inr (0, [.ref t, .ref bk, .ref p, .ref s, .ref u])), (s, .inr (7, [.ref ru, .ref sa, .ref ps, .ref to, .int (nI gs), .int (nI rc), .int (nI pn)])), (sa, .inl (g.2.1 0, 4001, .inl (aI SA))), (ps, .inl (g.2.1 0, 30000, .inl (aI PL)))]) (st' := [.int (oI (placeK SA PL rc (inN z) (inN y)))]) (n1 := 0) (n2 := 0) [0, 1, 2, 3] rfl rfl rfl rfl rfl ?_
  refine r_top (v' := (-1)) (by rw [hv]; rfl) ?_
  refine r_istore_n C (lv' := [(3, .int (-1)), (0, .ref x0), (1, .int z), (2, .int y)]) d_RR_place_9 rfl (by decide) rfl ?_
  refine r_iload_n C 0 d_RR_place_10 rfl rfl ?_
  refine r_iconst C ((-1)) d_RR_place_11 (by decide) ?_
  refine r_icmp_ne C 25 d_RR_place_12 (by decide) (fun c_12 => ?_) (fun c_12 => ?_)
  · exact absurd rfl c_12
  · skip
    refine r_throw C E hfl (tx := "no such place of a row") xf_IOE xk_IOE xi_IOE xn_IOE (by decide) xo_IOE d_RR_place_15 d_RR_place_18 d_RR_place_19 d_RR_place_21 d_RR_place_24 (by rw [hR]; first | decide | (simp only [rmk]; omega)) (by rw [hR]; first | decide | (simp only [rmk]; omega)) (by rw [hR]; first | decide | (simp only [rmk]; omega)) (by rw [hR]; first | decide | (simp only [rmk]; omega)) (by first | decide | omega | (simp only [rmk]; omega)) (by first | decide | omega | (simp only [rmk]; omega)) (by decide) ?_
    exact rfl

set_option maxHeartbeats 4000000 in
set_option maxRecDepth 100000 in
theorem c_RR_line (g : GG) (l : Launch) {x0 : Nat} {t : Nat} {bk : Nat} {p : Nat} {s : Nat} {u : Nat} {RA : Nat → Option Nat} {PP : va_W} {ra : Nat} {pa : Nat} {pb : Nat} {db : Nat} {pr : Bool} {rules : List RuleV} {j : Nat} {rv : RuleV}  (h400 : rules.length ≤ 400) (hRA : RulesAt g PP RA rules) (hrv : rules[j]? = some rv) : Cn g l y_RR_line b_RR_line 3 (some .int) (rmk 1 0 0 21) [.ref x0, .int (nI j)] ([(x0, .inr (0, [.ref t, .ref bk, .ref p, .ref s, .ref u])), (bk, .inr (5, [.ref ra, .ref pa, .int (bI pr), .int (nI rules.length), .int (nI pb), .int (nI db)])), (ra, .inl (g.2.1 3, 400, .inr (.inr (.inr (.inr RA)))))] ++ PP) (fun (r0 : Option Value) (w0 : va_W) => r0 = some (.int (nI rv.2.1)) ∧ w0 = [(x0, .inr (0, [.ref t, .ref bk, .ref p, .ref s, .ref u])), (bk, .inr (5, [.ref ra, .ref pa, .int (bI pr), .int (nI rules.length), .int (nI pb), .int (nI db)])), (ra, .inl (g.2.1 3, 400, .inr (.inr (.inr (.inr RA)))))] ++ PP) := by
  refine Cn.of R_RR [(0, .ref x0), (1, .int (nI j))] (by decide) rfl (Nat.le_of_ble_eq_true rfl) rfl ?_
  intro x A Q hR hXl hin C E
  subst hXl
  refine r_aload_n C 0 d_RR_line_0 rfl rfl ?_
  refine r_get C 0 1 d_RR_line_1 ci_RR fi_RR_19 rfl (by decide) rfl rfl ?_
  refine r_iload_n C 1 d_RR_line_4 rfl rfl ?_
  refine j_callV C (c_Book_ruleAt g (xl x) (bk := bk) (ra := ra) (pa := pa) (rc := rules.length) (pn := pb) (dp := db) (pr := pr) (z := nI j) (RA := RA) (by first | assumption | rfl | omega)) (Sp.keep (Sp.of (wr := [(x0, .inr (0, [.ref t, .ref bk, .ref p, .ref s, .ref u]))]) [1, 2] [0] rfl rfl rfl rfl (by decide)) PP) d_RR_line_5 lk_RR_100 mw_Book_ruleAt vw_Book_ruleAt (q0 := 0) rfl rfl (fit_of hR (by first | decide | (simp only [rmk]; omega)) (by first | decide | (simp only [rmk]; omega)) (by first | decide | (simp only [rmk]; omega)) (by first | decide | (simp only [rmk]; omega))) rfl (cat8 (Nat.le_of_ble_eq_true rfl)) (As := [.int (nI j)]) (rest := []) rfl (fun r_5 w_5 hp_5 => ?_)
  obtain ⟨rfl, rfl⟩ := hp_5
  refine r_swap ?_
  refine r_afterP (X := [(x0, .inr (0, [.ref t, .ref bk, .ref p, .ref s, .ref u])), (bk, .inr (5, [.ref ra, .ref pa, .int (bI pr), .int (nI rules.length), .int (nI pb), .int (nI db)])), (ra, .inl (g.2.1 3, 400, .inr (.inr (.inr (.inr RA)))))]) (X' := [(x0, .inr (0, [.ref t, .ref bk, .ref p, .ref s, .ref u])), (bk, .inr (5, [.ref ra, .ref pa, .int (bI pr), .int (nI rules.length), .int (nI pb), .int (nI db)])), (ra, .inl (g.2.1 3, 400, .inr (.inr (.inr (.inr RA)))))]) (pl := PP) (st' := [va_rf (refK RA rules.length (inN (nI j)))]) (n1 := 0) (n2 := 0) [0, 1, 2] rfl rfl rfl rfl rfl rfl ?_
  have hru := (List.getElem?_eq_some_iff.mp hrv).1
  obtain ⟨a, ha, ar, hmem, hch⟩ := hRA j rv hrv
  refine r_eqS (st' := [.ref a]) (by rw [inN_nI (by omega), refK, if_pos (by omega), ha]; rfl) ?_
  refine r_astore_n C (lv' := [(2, .ref a), (0, .ref x0), (1, .int (nI j))]) d_RR_line_8 rfl (by decide) rfl ?_
  refine r_aload_n C 0 d_RR_line_9 rfl rfl ?_
  refine r_ifnonnull C 23 d_RR_line_10 (by decide) ?_
  refine r_aload_n C 0 d_RR_line_23 rfl rfl ?_
  refine r_getM C 1 d_RR_line_24 ci_Rule fi_RR_140 rfl (by decide) (List.mem_append_right _ hmem) rfl ?_
  refine r_iret C E d_RR_line_27 (by first | decide | omega | (simp only [rmk]; omega)) (by first | decide | omega | (simp only [rmk]; omega)) ?_
  exact ⟨rfl, rfl⟩

set_option maxHeartbeats 4000000 in
set_option maxRecDepth 100000 in
theorem c_RR_line_IOE (g : GG) (l : Launch) (hfl : l.flags = pinnedFlags ++ [noTraceFlag]) {x0 : Nat} {t : Nat} {bk : Nat} {p : Nat} {s : Nat} {u : Nat} {RA : Nat → Option Nat} {PP : va_W} {ra : Nat} {pa : Nat} {pb : Nat} {db : Nat} {pr : Bool} {rules : List RuleV} {z : Int32} (h400 : rules.length ≤ 400) (hbad : hasK rules.length (inN z) = false) : CT g l y_RR_line b_RR_line 3 (some .int) (rmk 6 1 6 100) [.ref x0, .int z] ([(x0, .inr (0, [.ref t, .ref bk, .ref p, .ref s, .ref u])), (bk, .inr (5, [.ref ra, .ref pa, .int (bI pr), .int (nI rules.length), .int (nI pb), .int (nI db)])), (ra, .inl (g.2.1 3, 400, .inr (.inr (.inr (.inr RA)))))] ++ PP) E_IOE (fun (w0 : va_W) => w0 = [(x0, .inr (0, [.ref t, .ref bk, .ref p, .ref s, .ref u])), (bk, .inr (5, [.ref ra, .ref pa, .int (bI pr), .int (nI rules.length), .int (nI pb), .int (nI db)])), (ra, .inl (g.2.1 3, 400, .inr (.inr (.inr (.inr RA)))))] ++ PP) := by
  refine CT.of R_RR [(0, .ref x0), (1, .int z)] (by decide) rfl (Nat.le_of_ble_eq_true rfl) rfl ?_
  intro x A Q hR hXl C E
  subst hXl
  refine r_aload_n C 0 d_RR_line_0 rfl rfl ?_
  refine r_get C 0 1 d_RR_line_1 ci_RR fi_RR_19 rfl (by decide) rfl rfl ?_
  refine r_iload_n C 1 d_RR_line_4 rfl rfl ?_
  refine j_callV C (c_Book_ruleAt g (xl x) (bk := bk) (ra := ra) (pa := pa) (rc := rules.length) (pn := pb) (dp := db) (pr := pr) (z := z) (RA := RA) (by first | assumption | rfl | omega)) (Sp.keep (Sp.of (wr := [(x0, .inr (0, [.ref t, .ref bk, .ref p, .ref s, .ref u]))]) [1, 2] [0] rfl rfl rfl rfl (by decide)) PP) d_RR_line_5 lk_RR_100 mw_Book_ruleAt vw_Book_ruleAt (q0 := 0) rfl rfl (fit_of hR (by first | decide | (simp only [rmk]; omega)) (by first | decide | (simp only [rmk]; omega)) (by first | decide | (simp only [rmk]; omega)) (by first | decide | (simp only [rmk]; omega))) rfl (cat8 (Nat.le_of_ble_eq_true rfl)) (As := [.int z]) (rest := []) rfl (fun r_5 w_5 hp_5 => ?_)
  obtain ⟨rfl, rfl⟩ := hp_5
  refine r_swap ?_
  refine r_afterP (X := [(x0, .inr (0, [.ref t, .ref bk, .ref p, .ref s, .ref u])), (bk, .inr (5, [.ref ra, .ref pa, .int (bI pr), .int (nI rules.length), .int (nI pb), .int (nI db)])), (ra, .inl (g.2.1 3, 400, .inr (.inr (.inr (.inr RA)))))]) (X' := [(x0, .inr (0, [.ref t, .ref bk, .ref p, .ref s, .ref u])), (bk, .inr (5, [.ref ra, .ref pa, .int (bI pr), .int (nI rules.length), .int (nI pb), .int (nI db)])), (ra, .inl (g.2.1 3, 400, .inr (.inr (.inr (.inr RA)))))]) (pl := PP) (st' := [va_rf (refK RA rules.length (inN z))]) (n1 := 0) (n2 := 0) [0, 1, 2] rfl rfl rfl rfl rfl rfl ?_
  refine r_eqS (st' := [.null]) (by rw [refK_no hbad]; rfl) ?_
  refine r_astore_nN C (lv' := [(2, .null), (0, .ref x0), (1, .int z)]) d_RR_line_8 rfl (by decide) rfl ?_
  refine r_aload_nN C 0 d_RR_line_9 rfl rfl ?_
  refine r_ifnonnullN C d_RR_line_10 ?_
  refine r_throw C E hfl (tx := "no such rule") xf_IOE xk_IOE xi_IOE xn_IOE (by decide) xo_IOE d_RR_line_13 d_RR_line_16 d_RR_line_17 d_RR_line_19 d_RR_line_22 (by rw [hR]; first | decide | (simp only [rmk]; omega)) (by rw [hR]; first | decide | (simp only [rmk]; omega)) (by rw [hR]; first | decide | (simp only [rmk]; omega)) (by rw [hR]; first | decide | (simp only [rmk]; omega)) (by first | decide | omega | (simp only [rmk]; omega)) (by first | decide | omega | (simp only [rmk]; omega)) (by decide) ?_
  exact rfl
