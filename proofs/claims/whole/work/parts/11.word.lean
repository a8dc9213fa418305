/-- the bytes from s to before e are the text of constant u -/
def stB (T : Nat → Nat) (s e u : Nat) : Bool := decide (e - s = wLen.getD u 0 ∧ ∀ j, j < wLen.getD u 0 → T (s + j) = wCh u j)
theorem stB_len {T : Nat → Nat} {s e u : Nat} (h : e - s ≠ wLen.getD u 0) : stB T s e u = false := by
  simp only [stB, decide_eq_false_iff_not]
  exact fun q => h q.1
theorem stB_no {T : Nat → Nat} {s e u j : Nat} (hj : j < wLen.getD u 0) (h : T (s + j) ≠ wCh u j) : stB T s e u = false := by
  simp only [stB, decide_eq_false_iff_not]
  exact fun q => h (q.2 j hj)
theorem stB_yes {T : Nat → Nat} {s e u : Nat} (h : e - s = wLen.getD u 0) (ha : ∀ j, j < wLen.getD u 0 → T (s + j) = wCh u j) : stB T s e u = true := by
  simp only [stB, decide_eq_true_eq]
  exact ⟨h, ha⟩
def fw (p : Nat → Bool) : Nat → Nat → Option Nat
  | 0, _ => none
  | f + 1, j => if p j then some j else fw p f (j + 1)
theorem fw_yes {p : Nat → Bool} {j : Nat} (hj : j < 23) (h : p j = true) : fw p (23 - j) j = some j := by
  rw [show 23 - j = (22 - j) + 1 by omega, fw, if_pos h]
theorem fw_no {p : Nat → Bool} {j : Nat} (hj : j < 23) (h : p j = false) : fw p (23 - (j + 1)) (j + 1) = fw p (23 - j) j := by
  rw [show 23 - j = (22 - j) + 1 by omega, show 23 - (j + 1) = 22 - j by omega]
  conv => rhs; rw [fw, if_neg (by rw [h]; decide)]
/-- which constant the bytes from s to before e are -/
def wordAt (T : Nat → Nat) (s e : Nat) : Option Nat := fw (stB T s e) 23 0

set_option maxRecDepth 100000 in
theorem fo_Word_94 : FO R_Word 94 "RuleReader$Word" "spelling" "Ljava/lang/String;" := Or.inl (gw (i := 1236) rfl rfl)
set_option maxRecDepth 100000 in
theorem fs_Word_105 : Cond.fieldLink R_Word 105 "RuleReader$Word" "ALL" "[LRuleReader$Word;" ∈ GW := (gw (i := 355) rfl rfl)
set_option maxRecDepth 100000 in
theorem lk_Word_108 : LK R_Word 108 y_Word_stands := Or.inl (gw (i := 357) rfl rfl)
set_option maxRecDepth 100000 in
theorem lk_Word_112 : LK R_Word 112 y_String_length := Or.inl (gw (i := 362) rfl rfl)
set_option maxRecDepth 100000 in
theorem lk_Word_118 : LK R_Word 118 y_Text_at := Or.inl (gw (i := 372) rfl rfl)
set_option maxRecDepth 100000 in
theorem lk_Word_124 : LK R_Word 124 y_String_charAt := Or.inl (gw (i := 373) rfl rfl)
set_option maxRecDepth 100000 in
theorem mw_String_charAt : MW y_String_charAt b_String_charAt 2 (some .char) 1 := ⟨(gw (i := 376) rfl rfl), (gw (i := 83) rfl rfl), by decide +kernel⟩
set_option maxRecDepth 100000 in
theorem mw_String_length : MW y_String_length b_String_length 1 (some .int) 0 := ⟨(gw (i := 365) rfl rfl), (gw (i := 83) rfl rfl), by decide +kernel⟩
set_option maxRecDepth 100000 in
theorem mw_Word_stands : MW y_Word_stands b_Word_stands 5 (some .boolean) 3 := ⟨(gw (i := 361) rfl rfl), (gw (i := 82) rfl rfl), by decide +kernel⟩
set_option maxRecDepth 100000 in
theorem vs_String_charAt : Cond.instanceMethod y_String_charAt ∈ GW ∧ Cond.selects "java/lang/String" y_String_charAt y_String_charAt ∈ GW := ⟨(gw (i := 374) rfl rfl), (gw (i := 375) rfl rfl)⟩
set_option maxRecDepth 100000 in
theorem vs_String_length : Cond.instanceMethod y_String_length ∈ GW ∧ Cond.selects "java/lang/String" y_String_length y_String_length ∈ GW := ⟨(gw (i := 363) rfl rfl), (gw (i := 364) rfl rfl)⟩
set_option maxRecDepth 100000 in
theorem vs_Word_stands : Cond.instanceMethod y_Word_stands ∈ GW ∧ Cond.selects "RuleReader$Word" y_Word_stands y_Word_stands ∈ GW := ⟨(gw (i := 359) rfl rfl), (gw (i := 3) rfl rfl)⟩
theorem d_Word_stands_0 : decode b_Word_stands 0 = .ok (.iload_n 3, 1) := by decide +kernel
theorem d_Word_stands_1 : decode b_Word_stands 1 = .ok (.iload_n 2, 1) := by decide +kernel
theorem d_Word_stands_2 : decode b_Word_stands 2 = .ok (.isub, 1) := by decide +kernel
theorem d_Word_stands_3 : decode b_Word_stands 3 = .ok (.aload_n 0, 1) := by decide +kernel
theorem d_Word_stands_4 : decode b_Word_stands 4 = .ok (.getfield 94, 3) := by decide +kernel
theorem d_Word_stands_7 : decode b_Word_stands 7 = .ok (.invokevirtual 112, 3) := by decide +kernel
theorem d_Word_stands_10 : decode b_Word_stands 10 = .ok (.if_icmp .eq 5, 3) := by decide +kernel
theorem d_Word_stands_13 : decode b_Word_stands 13 = .ok (.iconst 0, 1) := by decide +kernel
theorem d_Word_stands_14 : decode b_Word_stands 14 = .ok (.ireturn, 1) := by decide +kernel
theorem d_Word_stands_15 : decode b_Word_stands 15 = .ok (.iconst 0, 1) := by decide +kernel
theorem d_Word_stands_16 : decode b_Word_stands 16 = .ok (.istore 4, 2) := by decide +kernel
theorem d_Word_stands_18 : decode b_Word_stands 18 = .ok (.iload 4, 2) := by decide +kernel
theorem d_Word_stands_20 : decode b_Word_stands 20 = .ok (.aload_n 0, 1) := by decide +kernel
theorem d_Word_stands_21 : decode b_Word_stands 21 = .ok (.getfield 94, 3) := by decide +kernel
theorem d_Word_stands_24 : decode b_Word_stands 24 = .ok (.invokevirtual 112, 3) := by decide +kernel
theorem d_Word_stands_27 : decode b_Word_stands 27 = .ok (.if_icmp .ge 31, 3) := by decide +kernel
theorem d_Word_stands_30 : decode b_Word_stands 30 = .ok (.aload_n 1, 1) := by decide +kernel
theorem d_Word_stands_31 : decode b_Word_stands 31 = .ok (.iload_n 2, 1) := by decide +kernel
theorem d_Word_stands_32 : decode b_Word_stands 32 = .ok (.iload 4, 2) := by decide +kernel
theorem d_Word_stands_34 : decode b_Word_stands 34 = .ok (.iadd, 1) := by decide +kernel
theorem d_Word_stands_35 : decode b_Word_stands 35 = .ok (.invokevirtual 118, 3) := by decide +kernel
theorem d_Word_stands_38 : decode b_Word_stands 38 = .ok (.aload_n 0, 1) := by decide +kernel
theorem d_Word_stands_39 : decode b_Word_stands 39 = .ok (.getfield 94, 3) := by decide +kernel
theorem d_Word_stands_42 : decode b_Word_stands 42 = .ok (.iload 4, 2) := by decide +kernel
theorem d_Word_stands_44 : decode b_Word_stands 44 = .ok (.invokevirtual 124, 3) := by decide +kernel
theorem d_Word_stands_47 : decode b_Word_stands 47 = .ok (.if_icmp .eq 5, 3) := by decide +kernel
theorem d_Word_stands_50 : decode b_Word_stands 50 = .ok (.iconst 0, 1) := by decide +kernel
theorem d_Word_stands_51 : decode b_Word_stands 51 = .ok (.ireturn, 1) := by decide +kernel
theorem d_Word_stands_52 : decode b_Word_stands 52 = .ok (.iinc 4 1, 3) := by decide +kernel
theorem d_Word_stands_55 : decode b_Word_stands 55 = .ok (.goto (-37), 3) := by decide +kernel
theorem d_Word_stands_58 : decode b_Word_stands 58 = .ok (.iconst 1, 1) := by decide +kernel
theorem d_Word_stands_59 : decode b_Word_stands 59 = .ok (.ireturn, 1) := by decide +kernel
theorem d_Word_find_0 : decode b_Word_find 0 = .ok (.iconst 0, 1) := by decide +kernel
theorem d_Word_find_1 : decode b_Word_find 1 = .ok (.istore_n 3, 1) := by decide +kernel
theorem d_Word_find_2 : decode b_Word_find 2 = .ok (.iload_n 3, 1) := by decide +kernel
theorem d_Word_find_3 : decode b_Word_find 3 = .ok (.getstatic 105, 3) := by decide +kernel
theorem d_Word_find_6 : decode b_Word_find 6 = .ok (.arraylength, 1) := by decide +kernel
theorem d_Word_find_7 : decode b_Word_find 7 = .ok (.if_icmp .ge 29, 3) := by decide +kernel
theorem d_Word_find_10 : decode b_Word_find 10 = .ok (.getstatic 105, 3) := by decide +kernel
theorem d_Word_find_13 : decode b_Word_find 13 = .ok (.iload_n 3, 1) := by decide +kernel
theorem d_Word_find_14 : decode b_Word_find 14 = .ok (.aaload, 1) := by decide +kernel
theorem d_Word_find_15 : decode b_Word_find 15 = .ok (.aload_n 0, 1) := by decide +kernel
theorem d_Word_find_16 : decode b_Word_find 16 = .ok (.iload_n 1, 1) := by decide +kernel
theorem d_Word_find_17 : decode b_Word_find 17 = .ok (.iload_n 2, 1) := by decide +kernel
theorem d_Word_find_18 : decode b_Word_find 18 = .ok (.invokevirtual 108, 3) := by decide +kernel
theorem d_Word_find_21 : decode b_Word_find 21 = .ok (.ifCond .eq 9, 3) := by decide +kernel
theorem d_Word_find_24 : decode b_Word_find 24 = .ok (.getstatic 105, 3) := by decide +kernel
theorem d_Word_find_27 : decode b_Word_find 27 = .ok (.iload_n 3, 1) := by decide +kernel
theorem d_Word_find_28 : decode b_Word_find 28 = .ok (.aaload, 1) := by decide +kernel
theorem d_Word_find_29 : decode b_Word_find 29 = .ok (.areturn, 1) := by decide +kernel
theorem d_Word_find_30 : decode b_Word_find 30 = .ok (.iinc 3 1, 3) := by decide +kernel
theorem d_Word_find_33 : decode b_Word_find 33 = .ok (.goto (-31), 3) := by decide +kernel
theorem d_Word_find_36 : decode b_Word_find 36 = .ok (.aconst_null, 1) := by decide +kernel
theorem d_Word_find_37 : decode b_Word_find 37 = .ok (.areturn, 1) := by decide +kernel
set_option maxHeartbeats 4000000 in
set_option maxRecDepth 100000 in
theorem lp_Word_stands_18 (g : GG) {u : Nat} {t : Nat} {tb : Nat} {k : Nat} {s : Nat} {e : Nat} {T : Nat → Nat} (hk : k ≤ 2000) (hT : ∀ j, T j < 256) (hu : u < 23) (h1 : s ≤ e) (h2 : e ≤ k) {x : X0} {A : Nat → Prop} {Q : State → Prop}  (C : CX x g A R_Word b_Word_stands 5) (E : RX x g A Q (some .boolean) (fun (r0 : Option Value) (w0 : va_W) => r0 = some (.int (bI (stB T s e u))) ∧ w0 = [(t, .inr (1, [.ref tb, .int (nI k)])), (tb, .inl (g.2.1 1, 2000, .inl (aI T)))]) (rmk 4 0 0 85).cells (rmk 4 0 0 85).slots) (hR : xR x = (rmk 4 0 0 85)) : ∀ (fuel : Nat) (j : Nat) (h3 : e - s = wLen.getD u 0) (hj : j ≤ wLen.getD u 0) (ha : ∀ i, i < j → T (s + i) = wCh u i), wLen.getD u 0 - j < fuel → J x g A Q 5 ([(t, .inr (1, [.ref tb, .int (nI k)])), (tb, .inl (g.2.1 1, 2000, .inl (aI T)))]) [(0, .ref (g.2.2.1 u)), (1, .ref t), (2, .int (nI s)), (3, .int (nI e)), (4, .int (nI j))] 18 [] 0 0 := by
  intro fuel
  induction fuel with
  | zero =>
    intro j h3 hj ha hm
    exact absurd hm (Nat.not_lt_zero _)
  | succ fuel ih =>
    intro j h3 hj ha hm
    have hwl := wLen_lt u
    refine r_iload C 4 d_Word_stands_18 rfl ?_
    refine r_aload_n C 0 d_Word_stands_20 rfl rfl ?_
    refine r_getO C d_Word_stands_21 (C.2.2.2.2.2.2.2.1.2.1 u hu) fo_Word_94 ?_
    refine j_callC C (c_String_length g (xl x) (u := u) (by first | assumption | rfl | omega)) (Sp.of (wr := [(t, .inr (1, [.ref tb, .int (nI k)])), (tb, .inl (g.2.1 1, 2000, .inl (aI T)))]) [] [0, 1] rfl rfl rfl rfl (by decide)) d_Word_stands_24 lk_Word_112 mw_String_length vs_String_length (C.2.2.2.2.2.2.2.1.2.2.1.1 u hu).1 (fit_of hR (by first | decide | (simp only [rmk]; omega)) (by first | decide | (simp only [rmk]; omega)) (by first | decide | (simp only [rmk]; omega)) (by first | decide | (simp only [rmk]; omega))) rfl (cat8 (Nat.le_of_ble_eq_true rfl)) (As := []) (rest := [.int (nI j)]) rfl (fun r_24 w_24 hp_24 => ?_)
    obtain ⟨rfl, rfl⟩ := hp_24
    refine r_after (ws' := [(t, .inr (1, [.ref tb, .int (nI k)])), (tb, .inl (g.2.1 1, 2000, .inl (aI T)))]) (st' := [.int (nI (wLen.getD u 0)), .int (nI j)]) (n1 := 0) (n2 := 0) [0, 1] rfl rfl rfl rfl rfl ?_
    refine r_ncmp_ge C 58 d_Word_stands_27 (by decide) (by omega) (by omega) (fun c_27 => ?_) (fun c_27 => ?_)
    · skip
      refine r_iconst C (nI 1) d_Word_stands_58 (by decide) ?_
      refine r_eqS (st' := [.int (bI true)]) rfl ?_
      refine r_bret C E d_Word_stands_59 (by first | decide | omega | (simp only [rmk]; omega)) (by first | decide | omega | (simp only [rmk]; omega)) ?_
      exact ⟨bsome (by rw [stB_yes h3 (fun i hi => ha i (by omega))]), rfl⟩
    · skip
      refine r_aload_n C 1 d_Word_stands_30 rfl rfl ?_
      refine r_iload_n C 2 d_Word_stands_31 rfl rfl ?_
      refine r_iload C 4 d_Word_stands_32 rfl ?_
      refine r_nadd C d_Word_stands_34 ?_
      refine j_callV C (c_Text_at g (xl x) (t := t) (tb := tb) (k := k) (j := s + j) (T := T) (by first | assumption | rfl | omega) (by first | assumption | rfl | omega)) (Sp.of (wr := []) [0, 1] [] rfl rfl rfl rfl (by decide)) d_Word_stands_35 lk_Word_118 mw_Text_at vw_Text_at (q0 := 0) rfl rfl (fit_of hR (by first | decide | (simp only [rmk]; omega)) (by first | decide | (simp only [rmk]; omega)) (by first | decide | (simp only [rmk]; omega)) (by first | decide | (simp only [rmk]; omega))) rfl (cat8 (Nat.le_of_ble_eq_true rfl)) (As := [.int (nI (s + j))]) (rest := []) rfl (fun r_35 w_35 hp_35 => ?_)
      obtain ⟨rfl, rfl⟩ := hp_35
      refine r_after (ws' := [(t, .inr (1, [.ref tb, .int (nI k)])), (tb, .inl (g.2.1 1, 2000, .inl (aI T)))]) (st' := [.int (oI (atO T k (s + j)))]) (n1 := 0) (n2 := 0) [0, 1] rfl rfl rfl rfl rfl ?_
      have hTj := hT (s + j)
      refine r_top (v' := nI (T (s + j))) (oI_at (by omega)) ?_
      refine r_aload_n C 0 d_Word_stands_38 rfl rfl ?_
      refine r_getO C d_Word_stands_39 (C.2.2.2.2.2.2.2.1.2.1 u hu) fo_Word_94 ?_
      refine r_iload C 4 d_Word_stands_42 rfl ?_
      refine j_callC C (c_String_charAt g (xl x) (u := u) (j := j) (by first | assumption | rfl | omega) (by omega)) (Sp.of (wr := [(t, .inr (1, [.ref tb, .int (nI k)])), (tb, .inl (g.2.1 1, 2000, .inl (aI T)))]) [] [0, 1] rfl rfl rfl rfl (by decide)) d_Word_stands_44 lk_Word_124 mw_String_charAt vs_String_charAt (C.2.2.2.2.2.2.2.1.2.2.1.1 u hu).1 (fit_of hR (by first | decide | (simp only [rmk]; omega)) (by first | decide | (simp only [rmk]; omega)) (by first | decide | (simp only [rmk]; omega)) (by first | decide | (simp only [rmk]; omega))) rfl (cat8 (Nat.le_of_ble_eq_true rfl)) (As := [.int (nI j)]) (rest := [.int (nI (T (s + j)))]) rfl (fun r_44 w_44 hp_44 => ?_)
      obtain ⟨rfl, rfl⟩ := hp_44
      refine r_after (ws' := [(t, .inr (1, [.ref tb, .int (nI k)])), (tb, .inl (g.2.1 1, 2000, .inl (aI T)))]) (st' := [.int (nI (wCh u j)), .int (nI (T (s + j)))]) (n1 := 0) (n2 := 0) [0, 1] rfl rfl rfl rfl rfl ?_
      have hch := wCh_lt u j
      refine r_ncmp_eq C 52 d_Word_stands_47 (by decide) (by omega) (by omega) (fun c_47 => ?_) (fun c_47 => ?_)
      · skip
        refine r_iinc C 4 (nI (j + 1)) (lv' := [(4, .int (nI (j + 1))), (0, .ref (g.2.2.1 u)), (1, .ref t), (2, .int (nI s)), (3, .int (nI e))]) d_Word_stands_52 rfl (nI_inc 1 _) (by decide) rfl ?_
        refine r_goto C 18 d_Word_stands_55 (by decide) ?_
        refine r_lv (lv' := [(0, .ref (g.2.2.1 u)), (1, .ref t), (2, .int (nI s)), (3, .int (nI e)), (4, .int (nI (j + 1)))]) [1, 2, 3, 4, 0] rfl ?_
        exact ih (j + 1) (by first | assumption | rfl | omega) (by first | assumption | rfl | omega) (lt_s (p := fun i => T (s + i) = wCh u i) ha c_47) (by omega)
      · skip
        refine r_iconst C (nI 0) d_Word_stands_50 (by decide) ?_
        refine r_eqS (st' := [.int (bI false)]) rfl ?_
        refine r_bret C E d_Word_stands_51 (by first | decide | omega | (simp only [rmk]; omega)) (by first | decide | omega | (simp only [rmk]; omega)) ?_
        exact ⟨bsome (by rw [stB_no (by omega) c_47]), rfl⟩
set_option maxHeartbeats 4000000 in
set_option maxRecDepth 100000 in
theorem c_Word_stands (g : GG) (l : Launch) {u : Nat} {t : Nat} {tb : Nat} {k : Nat} {s : Nat} {e : Nat} {T : Nat → Nat}  (hk : k ≤ 2000) (hT : ∀ j, T j < 256) (hu : u < 23) (h1 : s ≤ e) (h2 : e ≤ k) : Cn g l y_Word_stands b_Word_stands 5 (some .boolean) (rmk 4 0 0 85) [.ref (g.2.2.1 u), .ref t, .int (nI s), .int (nI e)] ([(t, .inr (1, [.ref tb, .int (nI k)])), (tb, .inl (g.2.1 1, 2000, .inl (aI T)))]) (fun (r0 : Option Value) (w0 : va_W) => r0 = some (.int (bI (stB T s e u))) ∧ w0 = [(t, .inr (1, [.ref tb, .int (nI k)])), (tb, .inl (g.2.1 1, 2000, .inl (aI T)))]) := by
  refine Cn.of R_Word [(0, .ref (g.2.2.1 u)), (1, .ref t), (2, .int (nI s)), (3, .int (nI e))] (by decide) rfl (Nat.le_of_ble_eq_true rfl) rfl ?_
  intro x A Q hR hXl hin C E
  subst hXl
  have hwl := wLen_lt u
  refine r_iload_n C 3 d_Word_stands_0 rfl rfl ?_
  refine r_iload_n C 2 d_Word_stands_1 rfl rfl ?_
  refine r_nsub C d_Word_stands_2 (by omega) ?_
  refine r_aload_n C 0 d_Word_stands_3 rfl rfl ?_
  refine r_getO C d_Word_stands_4 (C.2.2.2.2.2.2.2.1.2.1 u hu) fo_Word_94 ?_
  refine j_callC C (c_String_length g (xl x) (u := u) (by first | assumption | rfl | omega)) (Sp.of (wr := [(t, .inr (1, [.ref tb, .int (nI k)])), (tb, .inl (g.2.1 1, 2000, .inl (aI T)))]) [] [0, 1] rfl rfl rfl rfl (by decide)) d_Word_stands_7 lk_Word_112 mw_String_length vs_String_length (C.2.2.2.2.2.2.2.1.2.2.1.1 u hu).1 (fit_of hR (by first | decide | (simp only [rmk]; omega)) (by first | decide | (simp only [rmk]; omega)) (by first | decide | (simp only [rmk]; omega)) (by first | decide | (simp only [rmk]; omega))) rfl (cat8 (Nat.le_of_ble_eq_true rfl)) (As := []) (rest := [.int (nI (e - s))]) rfl (fun r_7 w_7 hp_7 => ?_)
  obtain ⟨rfl, rfl⟩ := hp_7
  refine r_after (ws' := [(t, .inr (1, [.ref tb, .int (nI k)])), (tb, .inl (g.2.1 1, 2000, .inl (aI T)))]) (st' := [.int (nI (wLen.getD u 0)), .int (nI (e - s))]) (n1 := 0) (n2 := 0) [0, 1] rfl rfl rfl rfl rfl ?_
  refine r_ncmp_eq C 15 d_Word_stands_10 (by decide) (by omega) (by omega) (fun c_10 => ?_) (fun c_10 => ?_)
  · skip
    refine r_iconst C (nI 0) d_Word_stands_15 (by decide) ?_
    refine r_istore C (lv' := [(4, .int (nI 0)), (0, .ref (g.2.2.1 u)), (1, .ref t), (2, .int (nI s)), (3, .int (nI e))]) d_Word_stands_16 (by decide) rfl ?_
    refine r_lv (lv' := [(0, .ref (g.2.2.1 u)), (1, .ref t), (2, .int (nI s)), (3, .int (nI e)), (4, .int (nI 0))]) [1, 2, 3, 4, 0] rfl ?_
    exact lp_Word_stands_18 g (u := u) (t := t) (tb := tb) (k := k) (s := s) (e := e) (T := T) hk hT hu h1 h2  C E hR _ 0 (by first | assumption | rfl | omega) (by first | assumption | rfl | omega) (fun i hi => absurd hi (Nat.not_lt_zero _)) (Nat.lt_succ_self _)
  · skip
    refine r_iconst C (nI 0) d_Word_stands_13 (by decide) ?_
    refine r_eqS (st' := [.int (bI false)]) rfl ?_
    refine r_bret C E d_Word_stands_14 (by first | decide | omega | (simp only [rmk]; omega)) (by first | decide | omega | (simp only [rmk]; omega)) ?_
    exact ⟨bsome (by rw [stB_len c_10]), rfl⟩

set_option maxHeartbeats 4000000 in
set_option maxRecDepth 100000 in
theorem lp_Word_find_2 (g : GG) {t : Nat} {tb : Nat} {k : Nat} {s : Nat} {e : Nat} {T : Nat → Nat} (hk : k ≤ 2000) (hT : ∀ j, T j < 256) (h1 : s ≤ e) (h2 : e ≤ k) {x : X0} {A : Nat → Prop} {Q : State → Prop}  (C : CX x g A R_Word b_Word_find 4) (E : RX x g A Q (some (.object "RuleReader$Word")) (fun (r0 : Option Value) (w0 : va_W) => r0 = some (va_rf (wR g (wordAt T s e))) ∧ w0 = [(t, .inr (1, [.ref tb, .int (nI k)])), (tb, .inl (g.2.1 1, 2000, .inl (aI T)))]) (rmk 5 0 0 109).cells (rmk 5 0 0 109).slots) (hR : xR x = (rmk 5 0 0 109)) : ∀ (fuel : Nat) (j : Nat) (hj : j ≤ 23) (hf : fw (stB T s e) (23 - j) j = wordAt T s e), 23 - j < fuel → J x g A Q 4 ([(t, .inr (1, [.ref tb, .int (nI k)])), (tb, .inl (g.2.1 1, 2000, .inl (aI T)))]) [(0, .ref t), (1, .int (nI s)), (2, .int (nI e)), (3, .int (nI j))] 2 [] 0 0 := by
  intro fuel
  induction fuel with
  | zero =>
    intro j hj hf hm
    exact absurd hm (Nat.not_lt_zero _)
  | succ fuel ih =>
    intro j hj hf hm
    refine r_iload_n C 3 d_Word_find_2 rfl rfl ?_
    obtain ⟨tA, hZ, hTA⟩ := C.2.2.2.2.2.2.2.1.2.2.2.1
    refine r_gets C d_Word_find_3 hZ fs_Word_105 ?_
    refine r_tlen C d_Word_find_6 hTA ?_
    refine r_ncmp_ge C 36 d_Word_find_7 (by decide) (by omega) (by omega) (fun c_7 => ?_) (fun c_7 => ?_)
    · skip
      refine r_null C d_Word_find_36 ?_
      refine r_eqS (st' := [va_rf (none)]) rfl (r_aret C E d_Word_find_37 (by first | decide | omega | (simp only [rmk]; omega)) (by first | decide | omega | (simp only [rmk]; omega)) ?_)
      exact ⟨by rw [← hf, show 23 - j = 0 by omega]; rfl, rfl⟩
    · skip
      obtain ⟨tA, hZ, hTA⟩ := C.2.2.2.2.2.2.2.1.2.2.2.1
      refine r_gets C d_Word_find_10 hZ fs_Word_105 ?_
      refine r_iload_n C 3 d_Word_find_13 rfl rfl ?_
      refine r_tq C d_Word_find_14 hTA (by omega) (by decide) ?_
      refine r_eqS (st' := [.ref (g.2.2.1 j)]) rfl ?_
      refine r_aload_n C 0 d_Word_find_15 rfl rfl ?_
      refine r_iload_n C 1 d_Word_find_16 rfl rfl ?_
      refine r_iload_n C 2 d_Word_find_17 rfl rfl ?_
      refine j_callC C (c_Word_stands g (xl x) (u := j) (t := t) (tb := tb) (k := k) (s := s) (e := e) (T := T) (by first | assumption | rfl | omega) (by first | assumption | rfl | omega) (c_7) (by first | assumption | rfl | omega) (by first | assumption | rfl | omega)) (Sp.of (wr := []) [0, 1] [] rfl rfl rfl rfl (by decide)) d_Word_find_18 lk_Word_108 mw_Word_stands vs_Word_stands (C.2.2.2.2.2.2.2.1.1.1 j (show j < wNm.length from c_7)).2.1 (fit_of hR (by first | decide | (simp only [rmk]; omega)) (by first | decide | (simp only [rmk]; omega)) (by first | decide | (simp only [rmk]; omega)) (by first | decide | (simp only [rmk]; omega))) rfl (cat8 (Nat.le_of_ble_eq_true rfl)) (As := [.ref t, .int (nI s), .int (nI e)]) (rest := []) rfl (fun r_18 w_18 hp_18 => ?_)
      obtain ⟨rfl, rfl⟩ := hp_18
      refine r_after (ws' := [(t, .inr (1, [.ref tb, .int (nI k)])), (tb, .inl (g.2.1 1, 2000, .inl (aI T)))]) (st' := [.int (bI (stB T s e j))]) (n1 := 0) (n2 := 0) [0, 1] rfl rfl rfl rfl rfl ?_
      refine r_bif_eq C 30 d_Word_find_21 (by decide) (fun c_21 => ?_) (fun c_21 => ?_)
      · skip
        refine r_iinc C 3 (nI (j + 1)) (lv' := [(3, .int (nI (j + 1))), (0, .ref t), (1, .int (nI s)), (2, .int (nI e))]) d_Word_find_30 rfl (nI_inc 1 _) (by decide) rfl ?_
        refine r_goto C 2 d_Word_find_33 (by decide) ?_
        refine r_lv (lv' := [(0, .ref t), (1, .int (nI s)), (2, .int (nI e)), (3, .int (nI (j + 1)))]) [1, 2, 3, 0] rfl ?_
        exact ih (j + 1) (by first | assumption | rfl | omega) (by rw [← hf]; exact fw_no (by omega) c_21) (by omega)
      · skip
        obtain ⟨tA, hZ, hTA⟩ := C.2.2.2.2.2.2.2.1.2.2.2.1
        refine r_gets C d_Word_find_24 hZ fs_Word_105 ?_
        refine r_iload_n C 3 d_Word_find_27 rfl rfl ?_
        refine r_tq C d_Word_find_28 hTA (by omega) (by decide) ?_
        refine r_eqS (st' := [.ref (g.2.2.1 j)]) rfl ?_
        refine r_eqS (st' := [va_rf (some (g.2.2.1 j))]) rfl (r_aret C E d_Word_find_29 (by first | decide | omega | (simp only [rmk]; omega)) (by first | decide | omega | (simp only [rmk]; omega)) ?_)
        exact ⟨by rw [← hf, fw_yes (by omega) c_21]; rfl, rfl⟩
set_option maxHeartbeats 4000000 in
set_option maxRecDepth 100000 in
theorem c_Word_find (g : GG) (l : Launch) {t : Nat} {tb : Nat} {k : Nat} {s : Nat} {e : Nat} {T : Nat → Nat}  (hk : k ≤ 2000) (hT : ∀ j, T j < 256) (h1 : s ≤ e) (h2 : e ≤ k) : Cn g l y_Word_find b_Word_find 4 (some (.object "RuleReader$Word")) (rmk 5 0 0 109) [.ref t, .int (nI s), .int (nI e)] ([(t, .inr (1, [.ref tb, .int (nI k)])), (tb, .inl (g.2.1 1, 2000, .inl (aI T)))]) (fun (r0 : Option Value) (w0 : va_W) => r0 = some (va_rf (wR g (wordAt T s e))) ∧ w0 = [(t, .inr (1, [.ref tb, .int (nI k)])), (tb, .inl (g.2.1 1, 2000, .inl (aI T)))]) := by
  refine Cn.of R_Word [(0, .ref t), (1, .int (nI s)), (2, .int (nI e))] (by decide) rfl (Nat.le_of_ble_eq_true rfl) rfl ?_
  intro x A Q hR hXl hin C E
  subst hXl
  refine r_iconst C (nI 0) d_Word_find_0 (by decide) ?_
  refine r_istore_n C (lv' := [(3, .int (nI 0)), (0, .ref t), (1, .int (nI s)), (2, .int (nI e))]) d_Word_find_1 rfl (by decide) rfl ?_
  refine r_lv (lv' := [(0, .ref t), (1, .int (nI s)), (2, .int (nI e)), (3, .int (nI 0))]) [1, 2, 3, 0] rfl ?_
  exact lp_Word_find_2 g (t := t) (tb := tb) (k := k) (s := s) (e := e) (T := T) hk hT h1 h2  C E hR _ 0 (by first | assumption | rfl | omega) (by first | assumption | rfl | omega) (Nat.lt_succ_self _)
