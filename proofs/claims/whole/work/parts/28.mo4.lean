/-- the stack of what is open, without the layers behind its last group -/
def closeN (OW : Nat → Nat) : Nat → Nat
  | 0 => 0
  | m + 1 => if OW m = 0 then m + 1 else closeN OW m
theorem close_go {OW : Nat → Nat} {c : Nat} (h : 0 < c) (h1 : OW (c - 1) ≠ 0) : closeN OW c = closeN OW (c - 1) := by
  obtain ⟨m, rfl⟩ : ∃ m, c = m + 1 := ⟨c - 1, by omega⟩
  simp only [Nat.add_sub_cancel] at h1 ⊢
  rw [closeN, if_neg h1]
theorem close_stop {OW : Nat → Nat} {c : Nat} (h1 : OW (c - 1) = 0) : closeN OW c = c := by
  cases c with
  | zero => rfl
  | succ m =>
    simp only [Nat.add_sub_cancel] at h1
    rw [closeN, if_pos h1]
def hasG (OW : Nat → Nat) (op : Nat) : Bool := decide (∃ j, j < op ∧ OW j = 0)

set_option maxRecDepth 100000 in
theorem fi_Mo_159 : FI R_Mo 159 R_Mo F_Mo 25 := Or.inl (gw (i := 925) rfl rfl)
set_option maxRecDepth 100000 in
theorem fi_Mo_206 : FI R_Mo 206 R_Mo F_Mo 29 := Or.inl (gw (i := 929) rfl rfl)
set_option maxRecDepth 100000 in
theorem fi_Mo_260 : FI R_Mo 260 R_Mo F_Mo 32 := Or.inl (gw (i := 932) rfl rfl)
set_option maxRecDepth 100000 in
theorem fi_Mo_49 : FI R_Mo 49 R_Mo F_Mo 26 := Or.inl (gw (i := 926) rfl rfl)
set_option maxRecDepth 100000 in
theorem fi_Mo_52 : FI R_Mo 52 R_Mo F_Mo 27 := Or.inl (gw (i := 927) rfl rfl)
set_option maxRecDepth 100000 in
theorem fi_Mo_55 : FI R_Mo 55 R_Mo F_Mo 28 := Or.inl (gw (i := 928) rfl rfl)
theorem d_Mo_close_0 : decode b_Mo_close 0 = .ok (.aload_n 0, 1) := by decide +kernel
theorem d_Mo_close_1 : decode b_Mo_close 1 = .ok (.getfield 159, 3) := by decide +kernel
theorem d_Mo_close_4 : decode b_Mo_close 4 = .ok (.ifCond .le 30, 3) := by decide +kernel
theorem d_Mo_close_7 : decode b_Mo_close 7 = .ok (.aload_n 0, 1) := by decide +kernel
theorem d_Mo_close_8 : decode b_Mo_close 8 = .ok (.getfield 49, 3) := by decide +kernel
theorem d_Mo_close_11 : decode b_Mo_close 11 = .ok (.aload_n 0, 1) := by decide +kernel
theorem d_Mo_close_12 : decode b_Mo_close 12 = .ok (.getfield 159, 3) := by decide +kernel
theorem d_Mo_close_15 : decode b_Mo_close 15 = .ok (.iconst 1, 1) := by decide +kernel
theorem d_Mo_close_16 : decode b_Mo_close 16 = .ok (.isub, 1) := by decide +kernel
theorem d_Mo_close_17 : decode b_Mo_close 17 = .ok (.iaload, 1) := by decide +kernel
theorem d_Mo_close_18 : decode b_Mo_close 18 = .ok (.ifCond .eq 16, 3) := by decide +kernel
theorem d_Mo_close_21 : decode b_Mo_close 21 = .ok (.aload_n 0, 1) := by decide +kernel
theorem d_Mo_close_22 : decode b_Mo_close 22 = .ok (.dup, 1) := by decide +kernel
theorem d_Mo_close_23 : decode b_Mo_close 23 = .ok (.getfield 159, 3) := by decide +kernel
theorem d_Mo_close_26 : decode b_Mo_close 26 = .ok (.iconst 1, 1) := by decide +kernel
theorem d_Mo_close_27 : decode b_Mo_close 27 = .ok (.isub, 1) := by decide +kernel
theorem d_Mo_close_28 : decode b_Mo_close 28 = .ok (.putfield 159, 3) := by decide +kernel
theorem d_Mo_close_31 : decode b_Mo_close 31 = .ok (.goto (-31), 3) := by decide +kernel
theorem d_Mo_close_34 : decode b_Mo_close 34 = .ok (.return_, 1) := by decide +kernel
theorem d_Mo_hasGroup_0 : decode b_Mo_hasGroup 0 = .ok (.iconst 0, 1) := by decide +kernel
theorem d_Mo_hasGroup_1 : decode b_Mo_hasGroup 1 = .ok (.istore_n 1, 1) := by decide +kernel
theorem d_Mo_hasGroup_2 : decode b_Mo_hasGroup 2 = .ok (.iload_n 1, 1) := by decide +kernel
theorem d_Mo_hasGroup_3 : decode b_Mo_hasGroup 3 = .ok (.aload_n 0, 1) := by decide +kernel
theorem d_Mo_hasGroup_4 : decode b_Mo_hasGroup 4 = .ok (.getfield 159, 3) := by decide +kernel
theorem d_Mo_hasGroup_7 : decode b_Mo_hasGroup 7 = .ok (.if_icmp .ge 20, 3) := by decide +kernel
theorem d_Mo_hasGroup_10 : decode b_Mo_hasGroup 10 = .ok (.aload_n 0, 1) := by decide +kernel
theorem d_Mo_hasGroup_11 : decode b_Mo_hasGroup 11 = .ok (.getfield 49, 3) := by decide +kernel
theorem d_Mo_hasGroup_14 : decode b_Mo_hasGroup 14 = .ok (.iload_n 1, 1) := by decide +kernel
theorem d_Mo_hasGroup_15 : decode b_Mo_hasGroup 15 = .ok (.iaload, 1) := by decide +kernel
theorem d_Mo_hasGroup_16 : decode b_Mo_hasGroup 16 = .ok (.ifCond .ne 5, 3) := by decide +kernel
theorem d_Mo_hasGroup_19 : decode b_Mo_hasGroup 19 = .ok (.iconst 1, 1) := by decide +kernel
theorem d_Mo_hasGroup_20 : decode b_Mo_hasGroup 20 = .ok (.ireturn, 1) := by decide +kernel
theorem d_Mo_hasGroup_21 : decode b_Mo_hasGroup 21 = .ok (.iinc 1 1, 3) := by decide +kernel
theorem d_Mo_hasGroup_24 : decode b_Mo_hasGroup 24 = .ok (.goto (-22), 3) := by decide +kernel
theorem d_Mo_hasGroup_27 : decode b_Mo_hasGroup 27 = .ok (.iconst 0, 1) := by decide +kernel
theorem d_Mo_hasGroup_28 : decode b_Mo_hasGroup 28 = .ok (.ireturn, 1) := by decide +kernel
theorem d_Mo_push_0 : decode b_Mo_push 0 = .ok (.aload_n 0, 1) := by decide +kernel
theorem d_Mo_push_1 : decode b_Mo_push 1 = .ok (.getfield 49, 3) := by decide +kernel
theorem d_Mo_push_4 : decode b_Mo_push 4 = .ok (.aload_n 0, 1) := by decide +kernel
theorem d_Mo_push_5 : decode b_Mo_push 5 = .ok (.getfield 159, 3) := by decide +kernel
theorem d_Mo_push_8 : decode b_Mo_push 8 = .ok (.iload_n 1, 1) := by decide +kernel
theorem d_Mo_push_9 : decode b_Mo_push 9 = .ok (.iastore, 1) := by decide +kernel
theorem d_Mo_push_10 : decode b_Mo_push 10 = .ok (.aload_n 0, 1) := by decide +kernel
theorem d_Mo_push_11 : decode b_Mo_push 11 = .ok (.getfield 52, 3) := by decide +kernel
theorem d_Mo_push_14 : decode b_Mo_push 14 = .ok (.aload_n 0, 1) := by decide +kernel
theorem d_Mo_push_15 : decode b_Mo_push 15 = .ok (.getfield 159, 3) := by decide +kernel
theorem d_Mo_push_18 : decode b_Mo_push 18 = .ok (.iload_n 2, 1) := by decide +kernel
theorem d_Mo_push_19 : decode b_Mo_push 19 = .ok (.iastore, 1) := by decide +kernel
theorem d_Mo_push_20 : decode b_Mo_push 20 = .ok (.aload_n 0, 1) := by decide +kernel
theorem d_Mo_push_21 : decode b_Mo_push 21 = .ok (.getfield 55, 3) := by decide +kernel
theorem d_Mo_push_24 : decode b_Mo_push 24 = .ok (.aload_n 0, 1) := by decide +kernel
theorem d_Mo_push_25 : decode b_Mo_push 25 = .ok (.getfield 159, 3) := by decide +kernel
theorem d_Mo_push_28 : decode b_Mo_push 28 = .ok (.iload_n 3, 1) := by decide +kernel
theorem d_Mo_push_29 : decode b_Mo_push 29 = .ok (.iastore, 1) := by decide +kernel
theorem d_Mo_push_30 : decode b_Mo_push 30 = .ok (.aload_n 0, 1) := by decide +kernel
theorem d_Mo_push_31 : decode b_Mo_push 31 = .ok (.dup, 1) := by decide +kernel
theorem d_Mo_push_32 : decode b_Mo_push 32 = .ok (.getfield 159, 3) := by decide +kernel
theorem d_Mo_push_35 : decode b_Mo_push 35 = .ok (.iconst 1, 1) := by decide +kernel
theorem d_Mo_push_36 : decode b_Mo_push 36 = .ok (.iadd, 1) := by decide +kernel
theorem d_Mo_push_37 : decode b_Mo_push 37 = .ok (.putfield 159, 3) := by decide +kernel
theorem d_Mo_push_40 : decode b_Mo_push 40 = .ok (.aload_n 0, 1) := by decide +kernel
theorem d_Mo_push_41 : decode b_Mo_push 41 = .ok (.getfield 159, 3) := by decide +kernel
theorem d_Mo_push_44 : decode b_Mo_push 44 = .ok (.aload_n 0, 1) := by decide +kernel
theorem d_Mo_push_45 : decode b_Mo_push 45 = .ok (.getfield 162, 3) := by decide +kernel
theorem d_Mo_push_48 : decode b_Mo_push 48 = .ok (.if_icmp .le 11, 3) := by decide +kernel
theorem d_Mo_push_51 : decode b_Mo_push 51 = .ok (.aload_n 0, 1) := by decide +kernel
theorem d_Mo_push_52 : decode b_Mo_push 52 = .ok (.aload_n 0, 1) := by decide +kernel
theorem d_Mo_push_53 : decode b_Mo_push 53 = .ok (.getfield 159, 3) := by decide +kernel
theorem d_Mo_push_56 : decode b_Mo_push 56 = .ok (.putfield 162, 3) := by decide +kernel
theorem d_Mo_push_59 : decode b_Mo_push 59 = .ok (.return_, 1) := by decide +kernel
theorem d_Mo_isRow_0 : decode b_Mo_isRow 0 = .ok (.aload_n 0, 1) := by decide +kernel
theorem d_Mo_isRow_1 : decode b_Mo_isRow 1 = .ok (.getfield 206, 3) := by decide +kernel
theorem d_Mo_isRow_4 : decode b_Mo_isRow 4 = .ok (.ifCond .eq 19, 3) := by decide +kernel
theorem d_Mo_isRow_7 : decode b_Mo_isRow 7 = .ok (.iload_n 1, 1) := by decide +kernel
theorem d_Mo_isRow_8 : decode b_Mo_isRow 8 = .ok (.ifCond .lt 15, 3) := by decide +kernel
theorem d_Mo_isRow_11 : decode b_Mo_isRow 11 = .ok (.iload_n 1, 1) := by decide +kernel
theorem d_Mo_isRow_12 : decode b_Mo_isRow 12 = .ok (.aload_n 0, 1) := by decide +kernel
theorem d_Mo_isRow_13 : decode b_Mo_isRow 13 = .ok (.getfield 260, 3) := by decide +kernel
theorem d_Mo_isRow_16 : decode b_Mo_isRow 16 = .ok (.if_icmp .ge 7, 3) := by decide +kernel
theorem d_Mo_isRow_19 : decode b_Mo_isRow 19 = .ok (.iconst 1, 1) := by decide +kernel
theorem d_Mo_isRow_20 : decode b_Mo_isRow 20 = .ok (.goto 4, 3) := by decide +kernel
theorem d_Mo_isRow_23 : decode b_Mo_isRow 23 = .ok (.iconst 0, 1) := by decide +kernel
theorem d_Mo_isRow_24 : decode b_Mo_isRow 24 = .ok (.ireturn, 1) := by decide +kernel
set_option maxHeartbeats 4000000 in
set_option maxRecDepth 100000 in
theorem lp_Mo_close_0 (g : GG) {m0 : Nat} {ad : Nat → Nat} {qth : Int32} {qsz : Int32} {qtk : Int32} {qde : Int32} {qru : Int32} {qat : Int32} {qen : Int32} {qto : Int32} {qbe : Int32} {qva : Int32} {qwr : Int32} {qwi : Int32} {qhe : Int32} {qrw : Int32} {qma : Int32} {qir : Bool} {qiu : Bool} {op : Nat} {OW : Nat → Nat} (ho : op ≤ 40) (hW : ∀ j, OW j < 2 ^ 31) {x : X0} {A : Nat → Prop} {Q : State → Prop}  (C : CX x g A R_Mo b_Mo_close 1) (E : RX x g A Q none (fun (r0 : Option Value) (w0 : va_W) => r0 = none ∧ w0 = [(m0, .inr (9, MO ad qth qsz (bI qir) qtk qde qru qat qen qto qbe qva qwr (nI (closeN OW op)) (bI qiu) qwi qhe qrw qma)), ((ad 26), .inl (g.2.1 0, 40, .inl (aI OW)))]) (rmk 0 0 0 0).cells (rmk 0 0 0 0).slots) (hR : xR x = (rmk 0 0 0 0)) : ∀ (fuel : Nat) (c : Nat) (hc : c ≤ 40) (he : closeN OW c = closeN OW op), c < fuel → J x g A Q 1 ([(m0, .inr (9, MO ad qth qsz (bI qir) qtk qde qru qat qen qto qbe qva qwr (nI c) (bI qiu) qwi qhe qrw qma)), ((ad 26), .inl (g.2.1 0, 40, .inl (aI OW)))]) [(0, .ref m0)] 0 [] 0 0 := by
  intro fuel
  induction fuel with
  | zero =>
    intro c hc he hm
    exact absurd hm (Nat.not_lt_zero _)
  | succ fuel ih =>
    intro c hc he hm
    refine r_aload_n C 0 d_Mo_close_0 rfl rfl ?_
    refine r_get C 0 25 d_Mo_close_1 ci_Mo fi_Mo_159 rfl (by decide) rfl rfl ?_
    refine r_nif_le C 34 d_Mo_close_4 (by decide) (by omega) (fun c_4 => ?_) (fun c_4 => ?_)
    · skip
      refine r_vret C E d_Mo_close_34 (by first | decide | omega | (simp only [rmk]; omega)) (by first | decide | omega | (simp only [rmk]; omega)) ?_
      rw [← he, show c = 0 by omega]; exact ⟨rfl, rfl⟩
    · skip
      have hWp := hW (c - 1)
      refine r_aload_n C 0 d_Mo_close_7 rfl rfl ?_
      refine r_get C 0 26 d_Mo_close_8 ci_Mo fi_Mo_49 rfl (by decide) rfl rfl ?_
      refine r_aload_n C 0 d_Mo_close_11 rfl rfl ?_
      refine r_get C 0 25 d_Mo_close_12 ci_Mo fi_Mo_159 rfl (by decide) rfl rfl ?_
      refine r_iconst C (nI 1) d_Mo_close_15 (by decide) ?_
      refine r_nsub C d_Mo_close_16 (by omega) ?_
      refine r_nald C 1 0 d_Mo_close_17 rfl rfl (by omega) (by decide) ?_
      refine r_nif_eq C 34 d_Mo_close_18 (by decide) (by omega) (fun c_18 => ?_) (fun c_18 => ?_)
      · skip
        refine r_vret C E d_Mo_close_34 (by first | decide | omega | (simp only [rmk]; omega)) (by first | decide | omega | (simp only [rmk]; omega)) ?_
        rw [← he, close_stop c_18]; exact ⟨rfl, rfl⟩
      · skip
        refine r_aload_n C 0 d_Mo_close_21 rfl rfl ?_
        refine r_dup C d_Mo_close_22 rfl ?_
        refine r_get C 0 25 d_Mo_close_23 ci_Mo fi_Mo_159 rfl (by decide) rfl rfl ?_
        refine r_iconst C (nI 1) d_Mo_close_26 (by decide) ?_
        refine r_nsub C d_Mo_close_27 (by omega) ?_
        refine r_put C (ws' := [(m0, .inr (9, MO ad qth qsz (bI qir) qtk qde qru qat qen qto qbe qva qwr (nI (c - 1)) (bI qiu) qwi qhe qrw qma)), ((ad 26), .inl (g.2.1 0, 40, .inl (aI OW)))]) 0 25 d_Mo_close_28 ci_Mo fi_Mo_159 rfl (by decide) rfl rfl (rfl) (rfl) (by simp) rfl ?_
        refine r_goto C 0 d_Mo_close_31 (by decide) ?_
        refine r_lv (lv' := [(0, .ref m0)]) [0] rfl ?_
        exact ih (c - 1) (by first | assumption | rfl | omega) (by rw [← he]; exact (close_go (by omega) c_18).symm) (by omega)
set_option maxHeartbeats 4000000 in
set_option maxRecDepth 100000 in
theorem c_Mo_close (g : GG) (l : Launch) {m0 : Nat} {ad : Nat → Nat} {qth : Int32} {qsz : Int32} {qtk : Int32} {qde : Int32} {qru : Int32} {qat : Int32} {qen : Int32} {qto : Int32} {qbe : Int32} {qva : Int32} {qwr : Int32} {qwi : Int32} {qhe : Int32} {qrw : Int32} {qma : Int32} {qir : Bool} {qiu : Bool} {op : Nat} {OW : Nat → Nat}  (ho : op ≤ 40) (hW : ∀ j, OW j < 2 ^ 31) : Cn g l y_Mo_close b_Mo_close 1 none (rmk 0 0 0 0) [.ref m0] ([(m0, .inr (9, MO ad qth qsz (bI qir) qtk qde qru qat qen qto qbe qva qwr (nI op) (bI qiu) qwi qhe qrw qma)), ((ad 26), .inl (g.2.1 0, 40, .inl (aI OW)))]) (fun (r0 : Option Value) (w0 : va_W) => r0 = none ∧ w0 = [(m0, .inr (9, MO ad qth qsz (bI qir) qtk qde qru qat qen qto qbe qva qwr (nI (closeN OW op)) (bI qiu) qwi qhe qrw qma)), ((ad 26), .inl (g.2.1 0, 40, .inl (aI OW)))]) := by
  refine Cn.of R_Mo [(0, .ref m0)] (by decide) rfl (Nat.le_of_ble_eq_true rfl) rfl ?_
  intro x A Q hR hXl hin C E
  subst hXl
  refine r_lv (lv' := [(0, .ref m0)]) [0] rfl ?_
  exact lp_Mo_close_0 g (m0 := m0) (ad := ad) (qth := qth) (qsz := qsz) (qtk := qtk) (qde := qde) (qru := qru) (qat := qat) (qen := qen) (qto := qto) (qbe := qbe) (qva := qva) (qwr := qwr) (qwi := qwi) (qhe := qhe) (qrw := qrw) (qma := qma) (qir := qir) (qiu := qiu) (op := op) (OW := OW) ho hW  C E hR _ op (by first | assumption | rfl | omega) (by first | assumption | rfl | omega) (Nat.lt_succ_self _)

set_option maxHeartbeats 4000000 in
set_option maxRecDepth 100000 in
theorem lp_Mo_hasGroup_2 (g : GG) {m0 : Nat} {ad : Nat → Nat} {qth : Int32} {qsz : Int32} {qtk : Int32} {qde : Int32} {qru : Int32} {qat : Int32} {qen : Int32} {qto : Int32} {qbe : Int32} {qva : Int32} {qwr : Int32} {qwi : Int32} {qhe : Int32} {qrw : Int32} {qma : Int32} {qir : Bool} {qiu : Bool} {op : Nat} {OW : Nat → Nat} (ho : op ≤ 40) (hW : ∀ j, OW j < 2 ^ 31) {x : X0} {A : Nat → Prop} {Q : State → Prop}  (C : CX x g A R_Mo b_Mo_hasGroup 2) (E : RX x g A Q (some .boolean) (fun (r0 : Option Value) (w0 : va_W) => r0 = some (.int (bI (hasG OW op))) ∧ w0 = [(m0, .inr (9, MO ad qth qsz (bI qir) qtk qde qru qat qen qto qbe qva qwr (nI op) (bI qiu) qwi qhe qrw qma)), ((ad 26), .inl (g.2.1 0, 40, .inl (aI OW)))]) (rmk 0 0 0 0).cells (rmk 0 0 0 0).slots) (hR : xR x = (rmk 0 0 0 0)) : ∀ (fuel : Nat) (c : Nat) (hc : c ≤ op) (hn : ∀ j, j < c → OW j ≠ 0), op - c < fuel → J x g A Q 2 ([(m0, .inr (9, MO ad qth qsz (bI qir) qtk qde qru qat qen qto qbe qva qwr (nI op) (bI qiu) qwi qhe qrw qma)), ((ad 26), .inl (g.2.1 0, 40, .inl (aI OW)))]) [(0, .ref m0), (1, .int (nI c))] 2 [] 0 0 := by
  intro fuel
  induction fuel with
  | zero =>
    intro c hc hn hm
    exact absurd hm (Nat.not_lt_zero _)
  | succ fuel ih =>
    intro c hc hn hm
    refine r_iload_n C 1 d_Mo_hasGroup_2 rfl rfl ?_
    refine r_aload_n C 0 d_Mo_hasGroup_3 rfl rfl ?_
    refine r_get C 0 25 d_Mo_hasGroup_4 ci_Mo fi_Mo_159 rfl (by decide) rfl rfl ?_
    refine r_ncmp_ge C 27 d_Mo_hasGroup_7 (by decide) (by omega) (by omega) (fun c_7 => ?_) (fun c_7 => ?_)
    · skip
      refine r_iconst C (nI 0) d_Mo_hasGroup_27 (by decide) ?_
      refine r_eqS (st' := [.int (bI false)]) rfl ?_
      refine r_bret C E d_Mo_hasGroup_28 (by first | decide | omega | (simp only [rmk]; omega)) (by first | decide | omega | (simp only [rmk]; omega)) ?_
      exact ⟨bsome (decide_eq_false (fun q => by obtain ⟨j, h1, h2⟩ := q; exact hn j (by omega) h2)).symm, rfl⟩
    · skip
      have hWc := hW c
      refine r_aload_n C 0 d_Mo_hasGroup_10 rfl rfl ?_
      refine r_get C 0 26 d_Mo_hasGroup_11 ci_Mo fi_Mo_49 rfl (by decide) rfl rfl ?_
      refine r_iload_n C 1 d_Mo_hasGroup_14 rfl rfl ?_
      refine r_nald C 1 0 d_Mo_hasGroup_15 rfl rfl (by omega) (by decide) ?_
      refine r_nif_ne C 21 d_Mo_hasGroup_16 (by decide) (by omega) (fun c_16 => ?_) (fun c_16 => ?_)
      · skip
        refine r_iinc C 1 (nI (c + 1)) (lv' := [(1, .int (nI (c + 1))), (0, .ref m0)]) d_Mo_hasGroup_21 rfl (nI_inc 1 _) (by decide) rfl ?_
        refine r_goto C 2 d_Mo_hasGroup_24 (by decide) ?_
        refine r_lv (lv' := [(0, .ref m0), (1, .int (nI (c + 1)))]) [1, 0] rfl ?_
        exact ih (c + 1) (by first | assumption | rfl | omega) (lt_s (p := fun j => OW j ≠ 0) hn c_16) (by omega)
      · skip
        refine r_iconst C (nI 1) d_Mo_hasGroup_19 (by decide) ?_
        refine r_eqS (st' := [.int (bI true)]) rfl ?_
        refine r_bret C E d_Mo_hasGroup_20 (by first | decide | omega | (simp only [rmk]; omega)) (by first | decide | omega | (simp only [rmk]; omega)) ?_
        exact ⟨bsome (decide_eq_true ⟨c, by omega, c_16⟩).symm, rfl⟩
set_option maxHeartbeats 4000000 in
set_option maxRecDepth 100000 in
theorem c_Mo_hasGroup (g : GG) (l : Launch) {m0 : Nat} {ad : Nat → Nat} {qth : Int32} {qsz : Int32} {qtk : Int32} {qde : Int32} {qru : Int32} {qat : Int32} {qen : Int32} {qto : Int32} {qbe : Int32} {qva : Int32} {qwr : Int32} {qwi : Int32} {qhe : Int32} {qrw : Int32} {qma : Int32} {qir : Bool} {qiu : Bool} {op : Nat} {OW : Nat → Nat}  (ho : op ≤ 40) (hW : ∀ j, OW j < 2 ^ 31) : Cn g l y_Mo_hasGroup b_Mo_hasGroup 2 (some .boolean) (rmk 0 0 0 0) [.ref m0] ([(m0, .inr (9, MO ad qth qsz (bI qir) qtk qde qru qat qen qto qbe qva qwr (nI op) (bI qiu) qwi qhe qrw qma)), ((ad 26), .inl (g.2.1 0, 40, .inl (aI OW)))]) (fun (r0 : Option Value) (w0 : va_W) => r0 = some (.int (bI (hasG OW op))) ∧ w0 = [(m0, .inr (9, MO ad qth qsz (bI qir) qtk qde qru qat qen qto qbe qva qwr (nI op) (bI qiu) qwi qhe qrw qma)), ((ad 26), .inl (g.2.1 0, 40, .inl (aI OW)))]) := by
  refine Cn.of R_Mo [(0, .ref m0)] (by decide) rfl (Nat.le_of_ble_eq_true rfl) rfl ?_
  intro x A Q hR hXl hin C E
  subst hXl
  refine r_iconst C (nI 0) d_Mo_hasGroup_0 (by decide) ?_
  refine r_istore_n C (lv' := [(1, .int (nI 0)), (0, .ref m0)]) d_Mo_hasGroup_1 rfl (by decide) rfl ?_
  refine r_lv (lv' := [(0, .ref m0), (1, .int (nI 0))]) [1, 0] rfl ?_
  exact lp_Mo_hasGroup_2 g (m0 := m0) (ad := ad) (qth := qth) (qsz := qsz) (qtk := qtk) (qde := qde) (qru := qru) (qat := qat) (qen := qen) (qto := qto) (qbe := qbe) (qva := qva) (qwr := qwr) (qwi := qwi) (qhe := qhe) (qrw := qrw) (qma := qma) (qir := qir) (qiu := qiu) (op := op) (OW := OW) ho hW  C E hR _ 0 (by first | assumption | rfl | omega) (fun j h => absurd h (Nat.not_lt_zero _)) (Nat.lt_succ_self _)

set_option maxHeartbeats 4000000 in
set_option maxRecDepth 100000 in
theorem c_Mo_push (g : GG) (l : Launch) {m0 : Nat} {ad : Nat → Nat} {qth : Int32} {qsz : Int32} {qtk : Int32} {qru : Int32} {qat : Int32} {qen : Int32} {qto : Int32} {qbe : Int32} {qva : Int32} {qwr : Int32} {qwi : Int32} {qhe : Int32} {qrw : Int32} {qma : Int32} {qir : Bool} {qiu : Bool} {op : Nat} {dp : Nat} {w : Nat} {a : Nat} {c : Nat} {OW : Nat → Nat} {OF : Nat → Nat} {OS : Nat → Nat}  (ho : op < 40) (hd : dp < 2 ^ 31) : Cn g l y_Mo_push b_Mo_push 4 none (rmk 0 0 0 0) [.ref m0, .int (nI w), .int (nI a), .int (nI c)] ([(m0, .inr (9, MO ad qth qsz (bI qir) qtk (nI dp) qru qat qen qto qbe qva qwr (nI op) (bI qiu) qwi qhe qrw qma)), ((ad 26), .inl (g.2.1 0, 40, .inl (aI OW))), ((ad 27), .inl (g.2.1 0, 40, .inl (aI OF))), ((ad 28), .inl (g.2.1 0, 40, .inl (aI OS)))]) (fun (r0 : Option Value) (w0 : va_W) => r0 = none ∧ w0 = [(m0, .inr (9, MO ad qth qsz (bI qir) qtk (nI (max dp (op + 1))) qru qat qen qto qbe qva qwr (nI (op + 1)) (bI qiu) qwi qhe qrw qma)), ((ad 26), .inl (g.2.1 0, 40, .inl (aI (up OW op w)))), ((ad 27), .inl (g.2.1 0, 40, .inl (aI (up OF op a)))), ((ad 28), .inl (g.2.1 0, 40, .inl (aI (up OS op c))))]) := by
  refine Cn.of R_Mo [(0, .ref m0), (1, .int (nI w)), (2, .int (nI a)), (3, .int (nI c))] (by decide) rfl (Nat.le_of_ble_eq_true rfl) rfl ?_
  intro x A Q hR hXl hin C E
  subst hXl
  refine r_aload_n C 0 d_Mo_push_0 rfl rfl ?_
  refine r_get C 0 26 d_Mo_push_1 ci_Mo fi_Mo_49 rfl (by decide) rfl rfl ?_
  refine r_aload_n C 0 d_Mo_push_4 rfl rfl ?_
  refine r_get C 0 25 d_Mo_push_5 ci_Mo fi_Mo_159 rfl (by decide) rfl rfl ?_
  refine r_iload_n C 1 d_Mo_push_8 rfl rfl ?_
  refine r_nast C (ws' := [(m0, .inr (9, MO ad qth qsz (bI qir) qtk (nI dp) qru qat qen qto qbe qva qwr (nI op) (bI qiu) qwi qhe qrw qma)), ((ad 26), .inl (g.2.1 0, 40, .inl (aI (up OW op w)))), ((ad 27), .inl (g.2.1 0, 40, .inl (aI OF))), ((ad 28), .inl (g.2.1 0, 40, .inl (aI OS)))]) 1 0 d_Mo_push_9 rfl rfl (by omega) (by decide) rfl ?_
  refine r_aload_n C 0 d_Mo_push_10 rfl rfl ?_
  refine r_get C 0 27 d_Mo_push_11 ci_Mo fi_Mo_52 rfl (by decide) rfl rfl ?_
  refine r_aload_n C 0 d_Mo_push_14 rfl rfl ?_
  refine r_get C 0 25 d_Mo_push_15 ci_Mo fi_Mo_159 rfl (by decide) rfl rfl ?_
  refine r_iload_n C 2 d_Mo_push_18 rfl rfl ?_
  refine r_nast C (ws' := [(m0, .inr (9, MO ad qth qsz (bI qir) qtk (nI dp) qru qat qen qto qbe qva qwr (nI op) (bI qiu) qwi qhe qrw qma)), ((ad 26), .inl (g.2.1 0, 40, .inl (aI (up OW op w)))), ((ad 27), .inl (g.2.1 0, 40, .inl (aI (up OF op a)))), ((ad 28), .inl (g.2.1 0, 40, .inl (aI OS)))]) 2 0 d_Mo_push_19 rfl rfl (by omega) (by decide) rfl ?_
  refine r_aload_n C 0 d_Mo_push_20 rfl rfl ?_
  refine r_get C 0 28 d_Mo_push_21 ci_Mo fi_Mo_55 rfl (by decide) rfl rfl ?_
  refine r_aload_n C 0 d_Mo_push_24 rfl rfl ?_
  refine r_get C 0 25 d_Mo_push_25 ci_Mo fi_Mo_159 rfl (by decide) rfl rfl ?_
  refine r_iload_n C 3 d_Mo_push_28 rfl rfl ?_
  refine r_nast C (ws' := [(m0, .inr (9, MO ad qth qsz (bI qir) qtk (nI dp) qru qat qen qto qbe qva qwr (nI op) (bI qiu) qwi qhe qrw qma)), ((ad 26), .inl (g.2.1 0, 40, .inl (aI (up OW op w)))), ((ad 27), .inl (g.2.1 0, 40, .inl (aI (up OF op a)))), ((ad 28), .inl (g.2.1 0, 40, .inl (aI (up OS op c))))]) 3 0 d_Mo_push_29 rfl rfl (by omega) (by decide) rfl ?_
  refine r_aload_n C 0 d_Mo_push_30 rfl rfl ?_
  refine r_dup C d_Mo_push_31 rfl ?_
  refine r_get C 0 25 d_Mo_push_32 ci_Mo fi_Mo_159 rfl (by decide) rfl rfl ?_
  refine r_iconst C (nI 1) d_Mo_push_35 (by decide) ?_
  refine r_nadd C d_Mo_push_36 ?_
  refine r_put C (ws' := [(m0, .inr (9, MO ad qth qsz (bI qir) qtk (nI dp) qru qat qen qto qbe qva qwr (nI (op + 1)) (bI qiu) qwi qhe qrw qma)), ((ad 26), .inl (g.2.1 0, 40, .inl (aI (up OW op w)))), ((ad 27), .inl (g.2.1 0, 40, .inl (aI (up OF op a)))), ((ad 28), .inl (g.2.1 0, 40, .inl (aI (up OS op c))))]) 0 25 d_Mo_push_37 ci_Mo fi_Mo_159 rfl (by decide) rfl rfl (rfl) (rfl) (by simp) rfl ?_
  refine r_aload_n C 0 d_Mo_push_40 rfl rfl ?_
  refine r_get C 0 25 d_Mo_push_41 ci_Mo fi_Mo_159 rfl (by decide) rfl rfl ?_
  refine r_aload_n C 0 d_Mo_push_44 rfl rfl ?_
  refine r_get C 0 8 d_Mo_push_45 ci_Mo fi_Mo_162 rfl (by decide) rfl rfl ?_
  refine r_ncmp_le C 59 d_Mo_push_48 (by decide) (by omega) (by omega) (fun c_48 => ?_) (fun c_48 => ?_)
  · skip
    refine r_vret C E d_Mo_push_59 (by first | decide | omega | (simp only [rmk]; omega)) (by first | decide | omega | (simp only [rmk]; omega)) ?_
    rw [Nat.max_eq_left c_48]; exact ⟨rfl, rfl⟩
  · skip
    refine r_aload_n C 0 d_Mo_push_51 rfl rfl ?_
    refine r_aload_n C 0 d_Mo_push_52 rfl rfl ?_
    refine r_get C 0 25 d_Mo_push_53 ci_Mo fi_Mo_159 rfl (by decide) rfl rfl ?_
    refine r_put C (ws' := [(m0, .inr (9, MO ad qth qsz (bI qir) qtk (nI (op + 1)) qru qat qen qto qbe qva qwr (nI (op + 1)) (bI qiu) qwi qhe qrw qma)), ((ad 26), .inl (g.2.1 0, 40, .inl (aI (up OW op w)))), ((ad 27), .inl (g.2.1 0, 40, .inl (aI (up OF op a)))), ((ad 28), .inl (g.2.1 0, 40, .inl (aI (up OS op c))))]) 0 8 d_Mo_push_56 ci_Mo fi_Mo_162 rfl (by decide) rfl rfl (rfl) (rfl) (by simp) rfl ?_
    refine r_vret C E d_Mo_push_59 (by first | decide | omega | (simp only [rmk]; omega)) (by first | decide | omega | (simp only [rmk]; omega)) ?_
    rw [Nat.max_eq_right (Nat.le_of_lt c_48)]; exact ⟨rfl, rfl⟩

set_option maxHeartbeats 4000000 in
set_option maxRecDepth 100000 in
theorem c_Mo_isRow (g : GG) (l : Launch) {m0 : Nat} {ad : Nat → Nat} {qth : Int32} {qsz : Int32} {qtk : Int32} {qde : Int32} {qru : Int32} {qat : Int32} {qen : Int32} {qto : Int32} {qbe : Int32} {qva : Int32} {qwr : Int32} {qop : Int32} {qwi : Int32} {qhe : Int32} {qma : Int32} {qir : Bool} {qiu : Bool} {rw_ : Nat} {z : Int32}  (h1 : rw_ ≤ 4000) : Cn g l y_Mo_isRow b_Mo_isRow 2 (some .boolean) (rmk 0 0 0 0) [.ref m0, .int z] ([(m0, .inr (9, MO ad qth qsz (bI qir) qtk qde qru qat qen qto qbe qva qwr qop (bI qiu) qwi qhe (nI rw_) qma))]) (fun (r0 : Option Value) (w0 : va_W) => r0 = some (.int (bI (qiu && hasK rw_ (inN z)))) ∧ w0 = [(m0, .inr (9, MO ad qth qsz (bI qir) qtk qde qru qat qen qto qbe qva qwr qop (bI qiu) qwi qhe (nI rw_) qma))]) := by
  refine Cn.of R_Mo [(0, .ref m0), (1, .int z)] (by decide) rfl (Nat.le_of_ble_eq_true rfl) rfl ?_
  intro x A Q hR hXl hin C E
  subst hXl
  refine r_aload_n C 0 d_Mo_isRow_0 rfl rfl ?_
  refine r_get C 0 29 d_Mo_isRow_1 ci_Mo fi_Mo_206 rfl (by decide) rfl rfl ?_
  refine r_bif_eq C 23 d_Mo_isRow_4 (by decide) (fun c_4 => ?_) (fun c_4 => ?_)
  · skip
    refine r_iconst C (nI 0) d_Mo_isRow_23 (by decide) ?_
    refine r_eqS (st' := [.int (bI false)]) rfl ?_
    refine r_bret C E d_Mo_isRow_24 (by first | decide | omega | (simp only [rmk]; omega)) (by first | decide | omega | (simp only [rmk]; omega)) ?_
    exact ⟨bsome (by rw [c_4]; rfl), rfl⟩
  · skip
    refine r_iload_n C 1 d_Mo_isRow_7 rfl rfl ?_
    refine r_if_lt C 23 d_Mo_isRow_8 (by decide) (fun c_8 => ?_) (fun c_8 => ?_)
    · skip
      refine r_iconst C (nI 0) d_Mo_isRow_23 (by decide) ?_
      refine r_eqS (st' := [.int (bI false)]) rfl ?_
      refine r_bret C E d_Mo_isRow_24 (by first | decide | omega | (simp only [rmk]; omega)) (by first | decide | omega | (simp only [rmk]; omega)) ?_
      exact ⟨bsome (by rw [c_4, inN_neg c_8]; rfl), rfl⟩
    · skip
      obtain ⟨j, hj, rfl⟩ := nI_of c_8
      refine r_iload_n C 1 d_Mo_isRow_11 rfl rfl ?_
      refine r_aload_n C 0 d_Mo_isRow_12 rfl rfl ?_
      refine r_get C 0 32 d_Mo_isRow_13 ci_Mo fi_Mo_260 rfl (by decide) rfl rfl ?_
      refine r_ncmp_ge C 23 d_Mo_isRow_16 (by decide) (by omega) (by omega) (fun c_16 => ?_) (fun c_16 => ?_)
      · skip
        refine r_iconst C (nI 0) d_Mo_isRow_23 (by decide) ?_
        refine r_eqS (st' := [.int (bI false)]) rfl ?_
        refine r_bret C E d_Mo_isRow_24 (by first | decide | omega | (simp only [rmk]; omega)) (by first | decide | omega | (simp only [rmk]; omega)) ?_
        exact ⟨bsome (by rw [c_4, inN_nI hj]; symm; simp [hasK]; omega), rfl⟩
      · skip
        refine r_iconst C (nI 1) d_Mo_isRow_19 (by decide) ?_
        refine r_goto C 24 d_Mo_isRow_20 (by decide) ?_
        refine r_eqS (st' := [.int (bI true)]) rfl ?_
        refine r_bret C E d_Mo_isRow_24 (by first | decide | omega | (simp only [rmk]; omega)) (by first | decide | omega | (simp only [rmk]; omega)) ?_
        exact ⟨bsome (by rw [c_4, inN_nI hj]; symm; simp [hasK]; omega), rfl⟩
