
set_option maxRecDepth 100000 in
theorem ao_Rule : Cond.arrayOver (.object R_Rule) ∈ NW := (nw (i := 129) rfl rfl)
set_option maxRecDepth 100000 in
theorem ci_Book : CI 5 R_Book F_Book 6 t_Book := ⟨rfl, ui 6 (by decide +kernel), by decide +kernel, by decide +kernel⟩
set_option maxRecDepth 100000 in
theorem cl_Book_9 : Cond.classLink R_Book 9 R_Rule ∈ GW := (gw (i := 128) rfl rfl)
set_option maxRecDepth 100000 in
theorem fi_Book_11 : FI R_Book 11 R_Book F_Book 0 := Or.inl (gw (i := 130) rfl rfl)
set_option maxRecDepth 100000 in
theorem fi_Book_17 : FI R_Book 17 R_Book F_Book 1 := Or.inl (gw (i := 131) rfl rfl)
set_option maxRecDepth 100000 in
theorem fi_Book_21 : FI R_Book 21 R_Book F_Book 2 := Or.inl (gw (i := 132) rfl rfl)
set_option maxRecDepth 100000 in
theorem fi_Book_25 : FI R_Book 25 R_Book F_Book 3 := Or.inl (gw (i := 134) rfl rfl)
set_option maxRecDepth 100000 in
theorem fi_Book_29 : FI R_Book 29 R_Book F_Book 4 := Or.inl (gw (i := 137) rfl rfl)
set_option maxRecDepth 100000 in
theorem fi_Book_32 : FI R_Book 32 R_Book F_Book 5 := Or.inl (gw (i := 138) rfl rfl)
set_option maxRecDepth 100000 in
theorem fl_Book_11 : Cond.fieldLink R_Book 11 R_Book (F_Book 0).2.1 (F_Book 0).2.2.1 ∈ GW := (gw (i := 130) rfl rfl)
set_option maxRecDepth 100000 in
theorem fl_Book_17 : Cond.fieldLink R_Book 17 R_Book (F_Book 1).2.1 (F_Book 1).2.2.1 ∈ GW := (gw (i := 131) rfl rfl)
set_option maxRecDepth 100000 in
theorem ml_Book_3 : Cond.methodLink R_Book 3 objectInit ∈ GW := (gw (i := 127) rfl rfl)
theorem d_Book_init_0 : decode b_Book_init 0 = .ok (.aload_n 0, 1) := by decide +kernel
theorem d_Book_init_1 : decode b_Book_init 1 = .ok (.invokespecial 3, 3) := by decide +kernel
theorem d_Book_init_4 : decode b_Book_init 4 = .ok (.aload_n 0, 1) := by decide +kernel
theorem d_Book_init_5 : decode b_Book_init 5 = .ok (.sipush 400, 3) := by decide +kernel
theorem d_Book_init_8 : decode b_Book_init 8 = .ok (.anewarray 9, 3) := by decide +kernel
theorem d_Book_init_11 : decode b_Book_init 11 = .ok (.putfield 11, 3) := by decide +kernel
theorem d_Book_init_14 : decode b_Book_init 14 = .ok (.aload_n 0, 1) := by decide +kernel
theorem d_Book_init_15 : decode b_Book_init 15 = .ok (.sipush 4000, 3) := by decide +kernel
theorem d_Book_init_18 : decode b_Book_init 18 = .ok (.newarray .char, 2) := by decide +kernel
theorem d_Book_init_20 : decode b_Book_init 20 = .ok (.putfield 17, 3) := by decide +kernel
theorem d_Book_init_23 : decode b_Book_init 23 = .ok (.return_, 1) := by decide +kernel
theorem d_Book_drop_0 : decode b_Book_drop 0 = .ok (.aload_n 0, 1) := by decide +kernel
theorem d_Book_drop_1 : decode b_Book_drop 1 = .ok (.iconst 0, 1) := by decide +kernel
theorem d_Book_drop_2 : decode b_Book_drop 2 = .ok (.putfield 21, 3) := by decide +kernel
theorem d_Book_drop_5 : decode b_Book_drop 5 = .ok (.aload_n 0, 1) := by decide +kernel
theorem d_Book_drop_6 : decode b_Book_drop 6 = .ok (.iconst 0, 1) := by decide +kernel
theorem d_Book_drop_7 : decode b_Book_drop 7 = .ok (.putfield 25, 3) := by decide +kernel
theorem d_Book_drop_10 : decode b_Book_drop 10 = .ok (.aload_n 0, 1) := by decide +kernel
theorem d_Book_drop_11 : decode b_Book_drop 11 = .ok (.iconst 0, 1) := by decide +kernel
theorem d_Book_drop_12 : decode b_Book_drop 12 = .ok (.putfield 29, 3) := by decide +kernel
theorem d_Book_drop_15 : decode b_Book_drop 15 = .ok (.aload_n 0, 1) := by decide +kernel
theorem d_Book_drop_16 : decode b_Book_drop 16 = .ok (.iconst 0, 1) := by decide +kernel
theorem d_Book_drop_17 : decode b_Book_drop 17 = .ok (.putfield 32, 3) := by decide +kernel
theorem d_Book_drop_20 : decode b_Book_drop 20 = .ok (.return_, 1) := by decide +kernel
theorem d_Book_ruleAt_0 : decode b_Book_ruleAt 0 = .ok (.iload_n 1, 1) := by decide +kernel
theorem d_Book_ruleAt_1 : decode b_Book_ruleAt 1 = .ok (.ifCond .lt 29, 3) := by decide +kernel
theorem d_Book_ruleAt_4 : decode b_Book_ruleAt 4 = .ok (.iload_n 1, 1) := by decide +kernel
theorem d_Book_ruleAt_5 : decode b_Book_ruleAt 5 = .ok (.aload_n 0, 1) := by decide +kernel
theorem d_Book_ruleAt_6 : decode b_Book_ruleAt 6 = .ok (.getfield 25, 3) := by decide +kernel
theorem d_Book_ruleAt_9 : decode b_Book_ruleAt 9 = .ok (.if_icmp .ge 21, 3) := by decide +kernel
theorem d_Book_ruleAt_12 : decode b_Book_ruleAt 12 = .ok (.iload_n 1, 1) := by decide +kernel
theorem d_Book_ruleAt_13 : decode b_Book_ruleAt 13 = .ok (.aload_n 0, 1) := by decide +kernel
theorem d_Book_ruleAt_14 : decode b_Book_ruleAt 14 = .ok (.getfield 11, 3) := by decide +kernel
theorem d_Book_ruleAt_17 : decode b_Book_ruleAt 17 = .ok (.arraylength, 1) := by decide +kernel
theorem d_Book_ruleAt_18 : decode b_Book_ruleAt 18 = .ok (.if_icmp .ge 12, 3) := by decide +kernel
theorem d_Book_ruleAt_21 : decode b_Book_ruleAt 21 = .ok (.aload_n 0, 1) := by decide +kernel
theorem d_Book_ruleAt_22 : decode b_Book_ruleAt 22 = .ok (.getfield 11, 3) := by decide +kernel
theorem d_Book_ruleAt_25 : decode b_Book_ruleAt 25 = .ok (.iload_n 1, 1) := by decide +kernel
theorem d_Book_ruleAt_26 : decode b_Book_ruleAt 26 = .ok (.aaload, 1) := by decide +kernel
theorem d_Book_ruleAt_27 : decode b_Book_ruleAt 27 = .ok (.goto 4, 3) := by decide +kernel
theorem d_Book_ruleAt_30 : decode b_Book_ruleAt 30 = .ok (.aconst_null, 1) := by decide +kernel
theorem d_Book_ruleAt_31 : decode b_Book_ruleAt 31 = .ok (.areturn, 1) := by decide +kernel
theorem d_Book_printByte_0 : decode b_Book_printByte 0 = .ok (.aload_n 0, 1) := by decide +kernel
theorem d_Book_printByte_1 : decode b_Book_printByte 1 = .ok (.getfield 29, 3) := by decide +kernel
theorem d_Book_printByte_4 : decode b_Book_printByte 4 = .ok (.ifCond .lt 35, 3) := by decide +kernel
theorem d_Book_printByte_7 : decode b_Book_printByte 7 = .ok (.aload_n 0, 1) := by decide +kernel
theorem d_Book_printByte_8 : decode b_Book_printByte 8 = .ok (.getfield 29, 3) := by decide +kernel
theorem d_Book_printByte_11 : decode b_Book_printByte 11 = .ok (.aload_n 0, 1) := by decide +kernel
theorem d_Book_printByte_12 : decode b_Book_printByte 12 = .ok (.getfield 17, 3) := by decide +kernel
theorem d_Book_printByte_15 : decode b_Book_printByte 15 = .ok (.arraylength, 1) := by decide +kernel
theorem d_Book_printByte_16 : decode b_Book_printByte 16 = .ok (.if_icmp .ge 23, 3) := by decide +kernel
theorem d_Book_printByte_19 : decode b_Book_printByte 19 = .ok (.aload_n 0, 1) := by decide +kernel
theorem d_Book_printByte_20 : decode b_Book_printByte 20 = .ok (.getfield 17, 3) := by decide +kernel
theorem d_Book_printByte_23 : decode b_Book_printByte 23 = .ok (.aload_n 0, 1) := by decide +kernel
theorem d_Book_printByte_24 : decode b_Book_printByte 24 = .ok (.getfield 29, 3) := by decide +kernel
theorem d_Book_printByte_27 : decode b_Book_printByte 27 = .ok (.iload_n 1, 1) := by decide +kernel
theorem d_Book_printByte_28 : decode b_Book_printByte 28 = .ok (.castore, 1) := by decide +kernel
theorem d_Book_printByte_29 : decode b_Book_printByte 29 = .ok (.aload_n 0, 1) := by decide +kernel
theorem d_Book_printByte_30 : decode b_Book_printByte 30 = .ok (.dup, 1) := by decide +kernel
theorem d_Book_printByte_31 : decode b_Book_printByte 31 = .ok (.getfield 29, 3) := by decide +kernel
theorem d_Book_printByte_34 : decode b_Book_printByte 34 = .ok (.iconst 1, 1) := by decide +kernel
theorem d_Book_printByte_35 : decode b_Book_printByte 35 = .ok (.iadd, 1) := by decide +kernel
theorem d_Book_printByte_36 : decode b_Book_printByte 36 = .ok (.putfield 29, 3) := by decide +kernel
theorem d_Book_printByte_39 : decode b_Book_printByte 39 = .ok (.return_, 1) := by decide +kernel
theorem d_Book_printedAt_0 : decode b_Book_printedAt 0 = .ok (.iload_n 1, 1) := by decide +kernel
theorem d_Book_printedAt_1 : decode b_Book_printedAt 1 = .ok (.ifCond .lt 29, 3) := by decide +kernel
theorem d_Book_printedAt_4 : decode b_Book_printedAt 4 = .ok (.iload_n 1, 1) := by decide +kernel
theorem d_Book_printedAt_5 : decode b_Book_printedAt 5 = .ok (.aload_n 0, 1) := by decide +kernel
theorem d_Book_printedAt_6 : decode b_Book_printedAt 6 = .ok (.getfield 29, 3) := by decide +kernel
theorem d_Book_printedAt_9 : decode b_Book_printedAt 9 = .ok (.if_icmp .ge 21, 3) := by decide +kernel
theorem d_Book_printedAt_12 : decode b_Book_printedAt 12 = .ok (.iload_n 1, 1) := by decide +kernel
theorem d_Book_printedAt_13 : decode b_Book_printedAt 13 = .ok (.aload_n 0, 1) := by decide +kernel
theorem d_Book_printedAt_14 : decode b_Book_printedAt 14 = .ok (.getfield 17, 3) := by decide +kernel
theorem d_Book_printedAt_17 : decode b_Book_printedAt 17 = .ok (.arraylength, 1) := by decide +kernel
theorem d_Book_printedAt_18 : decode b_Book_printedAt 18 = .ok (.if_icmp .ge 12, 3) := by decide +kernel
theorem d_Book_printedAt_21 : decode b_Book_printedAt 21 = .ok (.aload_n 0, 1) := by decide +kernel
theorem d_Book_printedAt_22 : decode b_Book_printedAt 22 = .ok (.getfield 17, 3) := by decide +kernel
theorem d_Book_printedAt_25 : decode b_Book_printedAt 25 = .ok (.iload_n 1, 1) := by decide +kernel
theorem d_Book_printedAt_26 : decode b_Book_printedAt 26 = .ok (.caload, 1) := by decide +kernel
theorem d_Book_printedAt_27 : decode b_Book_printedAt 27 = .ok (.goto 4, 3) := by decide +kernel
theorem d_Book_printedAt_30 : decode b_Book_printedAt 30 = .ok (.iconst (-1), 1) := by decide +kernel
theorem d_Book_printedAt_31 : decode b_Book_printedAt 31 = .ok (.ireturn, 1) := by decide +kernel
set_option maxHeartbeats 4000000 in
set_option maxRecDepth 100000 in
theorem c_Book_init (g : GG) (l : Launch) {bk : Nat}   : Cn g l y_Book_init b_Book_init 1 none (rmk 1 2 4400 12) [.ref bk] ([(bk, .inr (5, [.null, .null, .int (bI false), .int (nI 0), .int (nI 0), .int (nI 0)]))]) (fun (r0 : Option Value) (w0 : va_W) => ∃ ra : Nat, ∃ pa : Nat, r0 = none ∧ w0 = [(bk, .inr (5, [.ref ra, .ref pa, .int (bI false), .int (nI 0), .int (nI 0), .int (nI 0)])), (ra, .inl (g.2.1 3, 400, .inr (.inr (.inr (.inr (fun _ => none)))))), (pa, .inl (g.2.1 1, 4000, .inl (aI (fun _ => 0))))]) := by
  refine Cn.of R_Book [(0, .ref bk)] (by decide) rfl (Nat.le_of_ble_eq_true rfl) rfl ?_
  intro x A Q hR hXl hin C E
  subst hXl
  refine r_aload_n C 0 d_Book_init_0 rfl rfl ?_
  refine r_objInit C d_Book_init_1 ml_Book_3 oi_1 oi_2 (by rw [hR]; decide) (by rw [hR]; decide) ?_
  refine r_aload_n C 0 d_Book_init_4 rfl rfl ?_
  refine r_sipush C (nI 400) d_Book_init_5 (by decide) ?_
  refine r_newq C 3 d_Book_init_8 cl_Book_9 ao_Rule rfl (by decide) (by decide) (by rw [hR]; decide) (by rw [hR]; decide) (fun q_8 => ?_)
  refine r_norm (ws' := [(bk, .inr (5, [.null, .null, .int (bI false), .int (nI 0), .int (nI 0), .int (nI 0)])), (q_8, .inl (g.2.1 3, 400, .inr (.inr (.inr (.inr (fun _ => none))))))]) (st' := [.ref q_8, .ref bk]) (n1 := 0 + 1) (n2 := 0 + 400) rfl rfl rfl rfl ?_
  refine r_putF C hin (ws' := [(bk, .inr (5, [.ref q_8, .null, .int (bI false), .int (nI 0), .int (nI 0), .int (nI 0)])), (q_8, .inl (g.2.1 3, 400, .inr (.inr (.inr (.inr (fun _ => none))))))]) 0 0 d_Book_init_11 ci_Book fl_Book_11 rfl rfl (by decide) rfl rfl (rfl) (rfl) (by simp) rfl ?_
  refine r_aload_n C 0 d_Book_init_14 rfl rfl ?_
  refine r_sipush C (nI 4000) d_Book_init_15 (by decide) ?_
  refine r_newn C 1 d_Book_init_18 rfl ac_char rfl (fun _ => rfl) (by decide) (by decide) (by rw [hR]; decide) (by rw [hR]; decide) (fun q_18 => ?_)
  refine r_norm (ws' := [(bk, .inr (5, [.ref q_8, .null, .int (bI false), .int (nI 0), .int (nI 0), .int (nI 0)])), (q_8, .inl (g.2.1 3, 400, .inr (.inr (.inr (.inr (fun _ => none)))))), (q_18, .inl (g.2.1 1, 4000, .inl (aI (fun _ => 0))))]) (st' := [.ref q_18, .ref bk]) (n1 := 0 + 1 + 1) (n2 := 0 + 400 + 4000) rfl rfl rfl rfl ?_
  refine r_putF C hin (ws' := [(bk, .inr (5, [.ref q_8, .ref q_18, .int (bI false), .int (nI 0), .int (nI 0), .int (nI 0)])), (q_8, .inl (g.2.1 3, 400, .inr (.inr (.inr (.inr (fun _ => none)))))), (q_18, .inl (g.2.1 1, 4000, .inl (aI (fun _ => 0))))]) 0 1 d_Book_init_20 ci_Book fl_Book_17 rfl rfl (by decide) rfl rfl (rfl) (rfl) (by simp) rfl ?_
  refine r_vret C E d_Book_init_23 (by first | decide | omega | (simp only [rmk]; omega)) (by first | decide | omega | (simp only [rmk]; omega)) ?_
  exact ⟨_, _, rfl, rfl⟩

set_option maxHeartbeats 4000000 in
set_option maxRecDepth 100000 in
theorem c_Book_drop (g : GG) (l : Launch) {bk : Nat} {ra : Nat} {pa : Nat} {rc : Nat} {pn : Nat} {dp : Nat} {pr : Bool}   : Cn g l y_Book_drop b_Book_drop 1 none (rmk 0 0 0 0) [.ref bk] ([(bk, .inr (5, [.ref ra, .ref pa, .int (bI pr), .int (nI rc), .int (nI pn), .int (nI dp)]))]) (fun (r0 : Option Value) (w0 : va_W) => r0 = none ∧ w0 = [(bk, .inr (5, [.ref ra, .ref pa, .int (bI false), .int (nI 0), .int (nI 0), .int (nI 0)]))]) := by
  refine Cn.of R_Book [(0, .ref bk)] (by decide) rfl (Nat.le_of_ble_eq_true rfl) rfl ?_
  intro x A Q hR hXl hin C E
  subst hXl
  refine r_aload_n C 0 d_Book_drop_0 rfl rfl ?_
  refine r_iconst C (nI 0) d_Book_drop_1 (by decide) ?_
  refine r_eqS (st' := [.int (bI false), .ref bk]) rfl ?_
  refine r_put C (ws' := [(bk, .inr (5, [.ref ra, .ref pa, .int (bI false), .int (nI rc), .int (nI pn), .int (nI dp)]))]) 0 2 d_Book_drop_2 ci_Book fi_Book_21 rfl (by decide) rfl rfl (bI_nar _) (bI_fit _) (by simp) rfl ?_
  refine r_aload_n C 0 d_Book_drop_5 rfl rfl ?_
  refine r_iconst C (nI 0) d_Book_drop_6 (by decide) ?_
  refine r_put C (ws' := [(bk, .inr (5, [.ref ra, .ref pa, .int (bI false), .int (nI 0), .int (nI pn), .int (nI dp)]))]) 0 3 d_Book_drop_7 ci_Book fi_Book_25 rfl (by decide) rfl rfl (rfl) (rfl) (by simp) rfl ?_
  refine r_aload_n C 0 d_Book_drop_10 rfl rfl ?_
  refine r_iconst C (nI 0) d_Book_drop_11 (by decide) ?_
  refine r_put C (ws' := [(bk, .inr (5, [.ref ra, .ref pa, .int (bI false), .int (nI 0), .int (nI 0), .int (nI dp)]))]) 0 4 d_Book_drop_12 ci_Book fi_Book_29 rfl (by decide) rfl rfl (rfl) (rfl) (by simp) rfl ?_
  refine r_aload_n C 0 d_Book_drop_15 rfl rfl ?_
  refine r_iconst C (nI 0) d_Book_drop_16 (by decide) ?_
  refine r_put C (ws' := [(bk, .inr (5, [.ref ra, .ref pa, .int (bI false), .int (nI 0), .int (nI 0), .int (nI 0)]))]) 0 5 d_Book_drop_17 ci_Book fi_Book_32 rfl (by decide) rfl rfl (rfl) (rfl) (by simp) rfl ?_
  refine r_vret C E d_Book_drop_20 (by first | decide | omega | (simp only [rmk]; omega)) (by first | decide | omega | (simp only [rmk]; omega)) ?_
  exact ⟨rfl, rfl⟩

set_option maxHeartbeats 4000000 in
set_option maxRecDepth 100000 in
theorem c_Book_ruleAt (g : GG) (l : Launch) {bk : Nat} {ra : Nat} {pa : Nat} {rc : Nat} {pn : Nat} {dp : Nat} {pr : Bool} {z : Int32} {RA : Nat → Option Nat}  (h1 : rc ≤ 400) : Cn g l y_Book_ruleAt b_Book_ruleAt 2 (some (.object "RuleReader$Rule")) (rmk 0 0 0 0) [.ref bk, .int z] ([(bk, .inr (5, [.ref ra, .ref pa, .int (bI pr), .int (nI rc), .int (nI pn), .int (nI dp)])), (ra, .inl (g.2.1 3, 400, .inr (.inr (.inr (.inr RA)))))]) (fun (r0 : Option Value) (w0 : va_W) => r0 = some (va_rf (refK RA rc (inN z))) ∧ w0 = [(bk, .inr (5, [.ref ra, .ref pa, .int (bI pr), .int (nI rc), .int (nI pn), .int (nI dp)])), (ra, .inl (g.2.1 3, 400, .inr (.inr (.inr (.inr RA)))))]) := by
  refine Cn.of R_Book [(0, .ref bk), (1, .int z)] (by decide) rfl (Nat.le_of_ble_eq_true rfl) rfl ?_
  intro x A Q hR hXl hin C E
  subst hXl
  refine r_iload_n C 1 d_Book_ruleAt_0 rfl rfl ?_
  refine r_if_lt C 30 d_Book_ruleAt_1 (by decide) (fun c_1 => ?_) (fun c_1 => ?_)
  · skip
    refine r_null C d_Book_ruleAt_30 ?_
    refine r_eqS (st' := [va_rf (none)]) rfl (r_aret C E d_Book_ruleAt_31 (by first | decide | omega | (simp only [rmk]; omega)) (by first | decide | omega | (simp only [rmk]; omega)) ?_)
    exact ⟨by rw [inN_neg c_1]; rfl, rfl⟩
  · skip
    obtain ⟨j, hj, rfl⟩ := nI_of c_1
    refine r_iload_n C 1 d_Book_ruleAt_4 rfl rfl ?_
    refine r_aload_n C 0 d_Book_ruleAt_5 rfl rfl ?_
    refine r_get C 0 3 d_Book_ruleAt_6 ci_Book fi_Book_25 rfl (by decide) rfl rfl ?_
    refine r_ncmp_ge C 30 d_Book_ruleAt_9 (by decide) (by omega) (by omega) (fun c_9 => ?_) (fun c_9 => ?_)
    · skip
      refine r_null C d_Book_ruleAt_30 ?_
      refine r_eqS (st' := [va_rf (none)]) rfl (r_aret C E d_Book_ruleAt_31 (by first | decide | omega | (simp only [rmk]; omega)) (by first | decide | omega | (simp only [rmk]; omega)) ?_)
      exact ⟨by rw [inN_nI hj, refK, if_neg (by omega)], rfl⟩
    · skip
      refine r_iload_n C 1 d_Book_ruleAt_12 rfl rfl ?_
      refine r_aload_n C 0 d_Book_ruleAt_13 rfl rfl ?_
      refine r_get C 0 0 d_Book_ruleAt_14 ci_Book fi_Book_11 rfl (by decide) rfl rfl ?_
      refine r_alen C 1 3 d_Book_ruleAt_17 rfl rfl ?_
      refine r_ncmp_ge C 30 d_Book_ruleAt_18 (by decide) (by omega) (by omega) (fun c_18 => ?_) (fun c_18 => ?_)
      · exact absurd c_18 (by omega)
      · skip
        refine r_aload_n C 0 d_Book_ruleAt_21 rfl rfl ?_
        refine r_get C 0 0 d_Book_ruleAt_22 ci_Book fi_Book_11 rfl (by decide) rfl rfl ?_
        refine r_iload_n C 1 d_Book_ruleAt_25 rfl rfl ?_
        refine r_aald C 1 3 d_Book_ruleAt_26 rfl rfl (by omega) (by decide) ?_
        refine r_goto C 31 d_Book_ruleAt_27 (by decide) ?_
        refine r_eqS (st' := [va_rf (RA j)]) rfl (r_aret C E d_Book_ruleAt_31 (by first | decide | omega | (simp only [rmk]; omega)) (by first | decide | omega | (simp only [rmk]; omega)) ?_)
        exact ⟨by rw [inN_nI hj, refK, if_pos (by omega)], rfl⟩

set_option maxHeartbeats 4000000 in
set_option maxRecDepth 100000 in
theorem c_Book_printByte (g : GG) (l : Launch) {bk : Nat} {ra : Nat} {pa : Nat} {rc : Nat} {pn : Nat} {dp : Nat} {pr : Bool} {c : Nat} {PA : Nat → Nat}  (h1 : pn < 4000) (hc : c < 65536) : Cn g l y_Book_printByte b_Book_printByte 2 none (rmk 0 0 0 0) [.ref bk, .int (nI c)] ([(bk, .inr (5, [.ref ra, .ref pa, .int (bI pr), .int (nI rc), .int (nI pn), .int (nI dp)])), (pa, .inl (g.2.1 1, 4000, .inl (aI PA)))]) (fun (r0 : Option Value) (w0 : va_W) => r0 = none ∧ w0 = [(bk, .inr (5, [.ref ra, .ref pa, .int (bI pr), .int (nI rc), .int (nI (pn + 1)), .int (nI dp)])), (pa, .inl (g.2.1 1, 4000, .inl (aI (up PA pn c))))]) := by
  refine Cn.of R_Book [(0, .ref bk), (1, .int (nI c))] (by decide) rfl (Nat.le_of_ble_eq_true rfl) rfl ?_
  intro x A Q hR hXl hin C E
  subst hXl
  refine r_aload_n C 0 d_Book_printByte_0 rfl rfl ?_
  refine r_get C 0 4 d_Book_printByte_1 ci_Book fi_Book_29 rfl (by decide) rfl rfl ?_
  refine r_nif_lt C 39 d_Book_printByte_4 (by decide) (by omega) (fun c_4 => ?_) (fun c_4 => ?_)
  · exact absurd c_4 (by omega)
  · skip
    refine r_aload_n C 0 d_Book_printByte_7 rfl rfl ?_
    refine r_get C 0 4 d_Book_printByte_8 ci_Book fi_Book_29 rfl (by decide) rfl rfl ?_
    refine r_aload_n C 0 d_Book_printByte_11 rfl rfl ?_
    refine r_get C 0 1 d_Book_printByte_12 ci_Book fi_Book_17 rfl (by decide) rfl rfl ?_
    refine r_alen C 1 1 d_Book_printByte_15 rfl rfl ?_
    refine r_ncmp_ge C 39 d_Book_printByte_16 (by decide) (by omega) (by omega) (fun c_16 => ?_) (fun c_16 => ?_)
    · exact absurd c_16 (by omega)
    · skip
      refine r_aload_n C 0 d_Book_printByte_19 rfl rfl ?_
      refine r_get C 0 1 d_Book_printByte_20 ci_Book fi_Book_17 rfl (by decide) rfl rfl ?_
      refine r_aload_n C 0 d_Book_printByte_23 rfl rfl ?_
      refine r_get C 0 4 d_Book_printByte_24 ci_Book fi_Book_29 rfl (by decide) rfl rfl ?_
      refine r_iload_n C 1 d_Book_printByte_27 rfl rfl ?_
      refine r_ncast C (ws' := [(bk, .inr (5, [.ref ra, .ref pa, .int (bI pr), .int (nI rc), .int (nI pn), .int (nI dp)])), (pa, .inl (g.2.1 1, 4000, .inl (aI (up PA pn c))))]) 1 1 d_Book_printByte_28 rfl rfl (by omega) (by decide) (by omega) rfl ?_
      refine r_aload_n C 0 d_Book_printByte_29 rfl rfl ?_
      refine r_dup C d_Book_printByte_30 rfl ?_
      refine r_get C 0 4 d_Book_printByte_31 ci_Book fi_Book_29 rfl (by decide) rfl rfl ?_
      refine r_iconst C (nI 1) d_Book_printByte_34 (by decide) ?_
      refine r_nadd C d_Book_printByte_35 ?_
      refine r_put C (ws' := [(bk, .inr (5, [.ref ra, .ref pa, .int (bI pr), .int (nI rc), .int (nI (pn + 1)), .int (nI dp)])), (pa, .inl (g.2.1 1, 4000, .inl (aI (up PA pn c))))]) 0 4 d_Book_printByte_36 ci_Book fi_Book_29 rfl (by decide) rfl rfl (rfl) (rfl) (by simp) rfl ?_
      refine r_vret C E d_Book_printByte_39 (by first | decide | omega | (simp only [rmk]; omega)) (by first | decide | omega | (simp only [rmk]; omega)) ?_
      exact ⟨rfl, rfl⟩

set_option maxHeartbeats 4000000 in
set_option maxRecDepth 100000 in
theorem c_Book_printedAt (g : GG) (l : Launch) {bk : Nat} {ra : Nat} {pa : Nat} {rc : Nat} {pn : Nat} {dp : Nat} {pr : Bool} {z : Int32} {PA : Nat → Nat}  (h1 : pn ≤ 4000) : Cn g l y_Book_printedAt b_Book_printedAt 2 (some .int) (rmk 0 0 0 0) [.ref bk, .int z] ([(bk, .inr (5, [.ref ra, .ref pa, .int (bI pr), .int (nI rc), .int (nI pn), .int (nI dp)])), (pa, .inl (g.2.1 1, 4000, .inl (aI PA)))]) (fun (r0 : Option Value) (w0 : va_W) => r0 = some (.int (oI (ruleK PA pn (inN z)))) ∧ w0 = [(bk, .inr (5, [.ref ra, .ref pa, .int (bI pr), .int (nI rc), .int (nI pn), .int (nI dp)])), (pa, .inl (g.2.1 1, 4000, .inl (aI PA)))]) := by
  refine Cn.of R_Book [(0, .ref bk), (1, .int z)] (by decide) rfl (Nat.le_of_ble_eq_true rfl) rfl ?_
  intro x A Q hR hXl hin C E
  subst hXl
  refine r_iload_n C 1 d_Book_printedAt_0 rfl rfl ?_
  refine r_if_lt C 30 d_Book_printedAt_1 (by decide) (fun c_1 => ?_) (fun c_1 => ?_)
  · skip
    refine r_iconst C ((-1)) d_Book_printedAt_30 (by decide) ?_
    refine r_iret C E d_Book_printedAt_31 (by first | decide | omega | (simp only [rmk]; omega)) (by first | decide | omega | (simp only [rmk]; omega)) ?_
    exact ⟨by rw [inN_neg c_1]; rfl, rfl⟩
  · skip
    obtain ⟨j, hj, rfl⟩ := nI_of c_1
    refine r_iload_n C 1 d_Book_printedAt_4 rfl rfl ?_
    refine r_aload_n C 0 d_Book_printedAt_5 rfl rfl ?_
    refine r_get C 0 4 d_Book_printedAt_6 ci_Book fi_Book_29 rfl (by decide) rfl rfl ?_
    refine r_ncmp_ge C 30 d_Book_printedAt_9 (by decide) (by omega) (by omega) (fun c_9 => ?_) (fun c_9 => ?_)
    · skip
      refine r_iconst C ((-1)) d_Book_printedAt_30 (by decide) ?_
      refine r_iret C E d_Book_printedAt_31 (by first | decide | omega | (simp only [rmk]; omega)) (by first | decide | omega | (simp only [rmk]; omega)) ?_
      exact ⟨by rw [inN_nI hj, ruleK, if_neg (by omega)]; rfl, rfl⟩
    · skip
      refine r_iload_n C 1 d_Book_printedAt_12 rfl rfl ?_
      refine r_aload_n C 0 d_Book_printedAt_13 rfl rfl ?_
      refine r_get C 0 1 d_Book_printedAt_14 ci_Book fi_Book_17 rfl (by decide) rfl rfl ?_
      refine r_alen C 1 1 d_Book_printedAt_17 rfl rfl ?_
      refine r_ncmp_ge C 30 d_Book_printedAt_18 (by decide) (by omega) (by omega) (fun c_18 => ?_) (fun c_18 => ?_)
      · exact absurd c_18 (by omega)
      · skip
        refine r_aload_n C 0 d_Book_printedAt_21 rfl rfl ?_
        refine r_get C 0 1 d_Book_printedAt_22 ci_Book fi_Book_17 rfl (by decide) rfl rfl ?_
        refine r_iload_n C 1 d_Book_printedAt_25 rfl rfl ?_
        refine r_ncald C 1 1 d_Book_printedAt_26 rfl rfl (by omega) (by decide) ?_
        refine r_goto C 31 d_Book_printedAt_27 (by decide) ?_
        refine r_iret C E d_Book_printedAt_31 (by first | decide | omega | (simp only [rmk]; omega)) (by first | decide | omega | (simp only [rmk]; omega)) ?_
        exact ⟨by rw [inN_nI hj, ruleK, if_pos (by omega)]; rfl, rfl⟩
