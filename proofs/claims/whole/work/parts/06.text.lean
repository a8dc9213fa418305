/-- a byte comes behind the text, or nothing happens -/
def Appended (T : Nat → Nat) (k : Nat) (u : Int32) (ok : Bool) (T2 : Nat → Nat) (k2 : Nat) : Prop :=
  (∃ c : Nat, u = nI c ∧ c < 256 ∧ k < 2000 ∧ ok = true ∧ T2 = up T k c ∧ k2 = k + 1) ∨ (ok = false ∧ T2 = T ∧ k2 = k ∧ ((∀ c : Nat, c < 256 → u ≠ nI c) ∨ 2000 ≤ k))
def atO (T : Nat → Nat) (k j : Nat) : Option Nat := if j < k then some (T j) else none

set_option maxRecDepth 100000 in
theorem ac_char : Cond.arrayClass (newarray.typeOf .char) ∈ GW := (gw (i := 121) rfl rfl)
set_option maxRecDepth 100000 in
theorem ci_Text : CI 1 R_Text F_Text 2 t_Text := ⟨rfl, ui 2 (by decide +kernel), by decide +kernel, by decide +kernel⟩
set_option maxRecDepth 100000 in
theorem fi_Text_15 : FI R_Text 15 R_Text F_Text 1 := Or.inl (gw (i := 113) rfl rfl)
set_option maxRecDepth 100000 in
theorem fi_Text_9 : FI R_Text 9 R_Text F_Text 0 := Or.inl (gw (i := 112) rfl rfl)
set_option maxRecDepth 100000 in
theorem fl_Text_9 : Cond.fieldLink R_Text 9 R_Text (F_Text 0).2.1 (F_Text 0).2.2.1 ∈ GW := (gw (i := 112) rfl rfl)
set_option maxRecDepth 100000 in
theorem ml_Text_3 : Cond.methodLink R_Text 3 objectInit ∈ GW := (gw (i := 111) rfl rfl)
set_option maxRecDepth 100000 in
theorem oi_1 : Cond.instanceMethod objectInit ∈ GW := (gw (i := 104) rfl rfl)
set_option maxRecDepth 100000 in
theorem oi_2 : Cond.code objectInit ⟨#[0xb1]⟩ 1 none ∈ GW := (gw (i := 105) rfl rfl)
theorem d_Text_init_0 : decode b_Text_init 0 = .ok (.aload_n 0, 1) := by decide +kernel
theorem d_Text_init_1 : decode b_Text_init 1 = .ok (.invokespecial 3, 3) := by decide +kernel
theorem d_Text_init_4 : decode b_Text_init 4 = .ok (.aload_n 0, 1) := by decide +kernel
theorem d_Text_init_5 : decode b_Text_init 5 = .ok (.sipush 2000, 3) := by decide +kernel
theorem d_Text_init_8 : decode b_Text_init 8 = .ok (.newarray .char, 2) := by decide +kernel
theorem d_Text_init_10 : decode b_Text_init 10 = .ok (.putfield 9, 3) := by decide +kernel
theorem d_Text_init_13 : decode b_Text_init 13 = .ok (.return_, 1) := by decide +kernel
theorem d_Text_append_0 : decode b_Text_append 0 = .ok (.iload_n 1, 1) := by decide +kernel
theorem d_Text_append_1 : decode b_Text_append 1 = .ok (.ifCond .lt 29, 3) := by decide +kernel
theorem d_Text_append_4 : decode b_Text_append 4 = .ok (.iload_n 1, 1) := by decide +kernel
theorem d_Text_append_5 : decode b_Text_append 5 = .ok (.sipush 255, 3) := by decide +kernel
theorem d_Text_append_8 : decode b_Text_append 8 = .ok (.if_icmp .gt 22, 3) := by decide +kernel
theorem d_Text_append_11 : decode b_Text_append 11 = .ok (.aload_n 0, 1) := by decide +kernel
theorem d_Text_append_12 : decode b_Text_append 12 = .ok (.getfield 15, 3) := by decide +kernel
theorem d_Text_append_15 : decode b_Text_append 15 = .ok (.ifCond .lt 15, 3) := by decide +kernel
theorem d_Text_append_18 : decode b_Text_append 18 = .ok (.aload_n 0, 1) := by decide +kernel
theorem d_Text_append_19 : decode b_Text_append 19 = .ok (.getfield 15, 3) := by decide +kernel
theorem d_Text_append_22 : decode b_Text_append 22 = .ok (.aload_n 0, 1) := by decide +kernel
theorem d_Text_append_23 : decode b_Text_append 23 = .ok (.getfield 9, 3) := by decide +kernel
theorem d_Text_append_26 : decode b_Text_append 26 = .ok (.arraylength, 1) := by decide +kernel
theorem d_Text_append_27 : decode b_Text_append 27 = .ok (.if_icmp .lt 5, 3) := by decide +kernel
theorem d_Text_append_30 : decode b_Text_append 30 = .ok (.iconst 0, 1) := by decide +kernel
theorem d_Text_append_31 : decode b_Text_append 31 = .ok (.ireturn, 1) := by decide +kernel
theorem d_Text_append_32 : decode b_Text_append 32 = .ok (.aload_n 0, 1) := by decide +kernel
theorem d_Text_append_33 : decode b_Text_append 33 = .ok (.getfield 9, 3) := by decide +kernel
theorem d_Text_append_36 : decode b_Text_append 36 = .ok (.aload_n 0, 1) := by decide +kernel
theorem d_Text_append_37 : decode b_Text_append 37 = .ok (.getfield 15, 3) := by decide +kernel
theorem d_Text_append_40 : decode b_Text_append 40 = .ok (.iload_n 1, 1) := by decide +kernel
theorem d_Text_append_41 : decode b_Text_append 41 = .ok (.i2c, 1) := by decide +kernel
theorem d_Text_append_42 : decode b_Text_append 42 = .ok (.castore, 1) := by decide +kernel
theorem d_Text_append_43 : decode b_Text_append 43 = .ok (.aload_n 0, 1) := by decide +kernel
theorem d_Text_append_44 : decode b_Text_append 44 = .ok (.dup, 1) := by decide +kernel
theorem d_Text_append_45 : decode b_Text_append 45 = .ok (.getfield 15, 3) := by decide +kernel
theorem d_Text_append_48 : decode b_Text_append 48 = .ok (.iconst 1, 1) := by decide +kernel
theorem d_Text_append_49 : decode b_Text_append 49 = .ok (.iadd, 1) := by decide +kernel
theorem d_Text_append_50 : decode b_Text_append 50 = .ok (.putfield 15, 3) := by decide +kernel
theorem d_Text_append_53 : decode b_Text_append 53 = .ok (.iconst 1, 1) := by decide +kernel
theorem d_Text_append_54 : decode b_Text_append 54 = .ok (.ireturn, 1) := by decide +kernel
theorem d_Text_at_0 : decode b_Text_at 0 = .ok (.iload_n 1, 1) := by decide +kernel
theorem d_Text_at_1 : decode b_Text_at 1 = .ok (.ifCond .lt 29, 3) := by decide +kernel
theorem d_Text_at_4 : decode b_Text_at 4 = .ok (.iload_n 1, 1) := by decide +kernel
theorem d_Text_at_5 : decode b_Text_at 5 = .ok (.aload_n 0, 1) := by decide +kernel
theorem d_Text_at_6 : decode b_Text_at 6 = .ok (.getfield 15, 3) := by decide +kernel
theorem d_Text_at_9 : decode b_Text_at 9 = .ok (.if_icmp .ge 21, 3) := by decide +kernel
theorem d_Text_at_12 : decode b_Text_at 12 = .ok (.iload_n 1, 1) := by decide +kernel
theorem d_Text_at_13 : decode b_Text_at 13 = .ok (.aload_n 0, 1) := by decide +kernel
theorem d_Text_at_14 : decode b_Text_at 14 = .ok (.getfield 9, 3) := by decide +kernel
theorem d_Text_at_17 : decode b_Text_at 17 = .ok (.arraylength, 1) := by decide +kernel
theorem d_Text_at_18 : decode b_Text_at 18 = .ok (.if_icmp .ge 12, 3) := by decide +kernel
theorem d_Text_at_21 : decode b_Text_at 21 = .ok (.aload_n 0, 1) := by decide +kernel
theorem d_Text_at_22 : decode b_Text_at 22 = .ok (.getfield 9, 3) := by decide +kernel
theorem d_Text_at_25 : decode b_Text_at 25 = .ok (.iload_n 1, 1) := by decide +kernel
theorem d_Text_at_26 : decode b_Text_at 26 = .ok (.caload, 1) := by decide +kernel
theorem d_Text_at_27 : decode b_Text_at 27 = .ok (.goto 4, 3) := by decide +kernel
theorem d_Text_at_30 : decode b_Text_at 30 = .ok (.iconst (-1), 1) := by decide +kernel
theorem d_Text_at_31 : decode b_Text_at 31 = .ok (.ireturn, 1) := by decide +kernel
set_option maxHeartbeats 4000000 in
set_option maxRecDepth 100000 in
theorem c_Text_init (g : GG) (l : Launch) {t : Nat}   : Cn g l y_Text_init b_Text_init 1 none (rmk 1 1 2000 12) [.ref t] ([(t, .inr (1, [.null, .int (nI 0)]))]) (fun (r0 : Option Value) (w0 : va_W) => ∃ tb : Nat, r0 = none ∧ w0 = [(t, .inr (1, [.ref tb, .int (nI 0)])), (tb, .inl (g.2.1 1, 2000, .inl (aI (fun _ => 0))))]) := by
  refine Cn.of R_Text [(0, .ref t)] (by decide) rfl (Nat.le_of_ble_eq_true rfl) rfl ?_
  intro x A Q hR hXl hin C E
  subst hXl
  refine r_aload_n C 0 d_Text_init_0 rfl rfl ?_
  refine r_objInit C d_Text_init_1 ml_Text_3 oi_1 oi_2 (by rw [hR]; decide) (by rw [hR]; decide) ?_
  refine r_aload_n C 0 d_Text_init_4 rfl rfl ?_
  refine r_sipush C (nI 2000) d_Text_init_5 (by decide) ?_
  refine r_newn C 1 d_Text_init_8 rfl ac_char rfl (fun _ => rfl) (by decide) (by decide) (by rw [hR]; decide) (by rw [hR]; decide) (fun q_8 => ?_)
  refine r_norm (ws' := [(t, .inr (1, [.null, .int (nI 0)])), (q_8, .inl (g.2.1 1, 2000, .inl (aI (fun _ => 0))))]) (st' := [.ref q_8, .ref t]) (n1 := 0 + 1) (n2 := 0 + 2000) rfl rfl rfl rfl ?_
  refine r_putF C hin (ws' := [(t, .inr (1, [.ref q_8, .int (nI 0)])), (q_8, .inl (g.2.1 1, 2000, .inl (aI (fun _ => 0))))]) 0 0 d_Text_init_10 ci_Text fl_Text_9 rfl rfl (by decide) rfl rfl (rfl) (rfl) (by simp) rfl ?_
  refine r_vret C E d_Text_init_13 (by first | decide | omega | (simp only [rmk]; omega)) (by first | decide | omega | (simp only [rmk]; omega)) ?_
  exact ⟨_, rfl, rfl⟩

set_option maxHeartbeats 4000000 in
set_option maxRecDepth 100000 in
theorem c_Text_append (g : GG) (l : Launch) {t : Nat} {tb : Nat} {k : Nat} {T : Nat → Nat} {u : Int32}  (hk : k ≤ 2000) : Cn g l y_Text_append b_Text_append 2 (some .boolean) (rmk 0 0 0 0) [.ref t, .int u] ([(t, .inr (1, [.ref tb, .int (nI k)])), (tb, .inl (g.2.1 1, 2000, .inl (aI T)))]) (fun (r0 : Option Value) (w0 : va_W) => ∃ ok : Bool, ∃ k2 : Nat, ∃ T2 : Nat → Nat, r0 = some (.int (bI ok)) ∧ w0 = [(t, .inr (1, [.ref tb, .int (nI k2)])), (tb, .inl (g.2.1 1, 2000, .inl (aI T2)))] ∧ (Appended T k u ok T2 k2)) := by
  refine Cn.of R_Text [(0, .ref t), (1, .int u)] (by decide) rfl (Nat.le_of_ble_eq_true rfl) rfl ?_
  intro x A Q hR hXl hin C E
  subst hXl
  refine r_iload_n C 1 d_Text_append_0 rfl rfl ?_
  refine r_if_lt C 30 d_Text_append_1 (by decide) (fun c_1 => ?_) (fun c_1 => ?_)
  · skip
    refine r_iconst C (nI 0) d_Text_append_30 (by decide) ?_
    refine r_eqS (st' := [.int (bI false)]) rfl ?_
    refine r_bret C E d_Text_append_31 (by first | decide | omega | (simp only [rmk]; omega)) (by first | decide | omega | (simp only [rmk]; omega)) ?_
    exact ⟨_, _, _, rfl, rfl, Or.inr ⟨rfl, rfl, rfl, Or.inl (fun c hc e => by subst e; exact absurd c_1 (nI_pos (by omega)))⟩⟩
  · skip
    obtain ⟨c, hc0, rfl⟩ := nI_of c_1
    refine r_iload_n C 1 d_Text_append_4 rfl rfl ?_
    refine r_sipush C (nI 255) d_Text_append_5 (by decide) ?_
    refine r_ncmp_gt C 30 d_Text_append_8 (by decide) (by omega) (by omega) (fun c_8 => ?_) (fun c_8 => ?_)
    · skip
      refine r_iconst C (nI 0) d_Text_append_30 (by decide) ?_
      refine r_eqS (st' := [.int (bI false)]) rfl ?_
      refine r_bret C E d_Text_append_31 (by first | decide | omega | (simp only [rmk]; omega)) (by first | decide | omega | (simp only [rmk]; omega)) ?_
      exact ⟨_, _, _, rfl, rfl, Or.inr ⟨rfl, rfl, rfl, Or.inl (fun d hd e => by have := (nI_eq (by omega) (by omega)).mp e; omega)⟩⟩
    · skip
      refine r_aload_n C 0 d_Text_append_11 rfl rfl ?_
      refine r_get C 0 1 d_Text_append_12 ci_Text fi_Text_15 rfl (by decide) rfl rfl ?_
      refine r_nif_lt C 30 d_Text_append_15 (by decide) (by omega) (fun c_15 => ?_) (fun c_15 => ?_)
      · exact absurd c_15 (by omega)
      · skip
        refine r_aload_n C 0 d_Text_append_18 rfl rfl ?_
        refine r_get C 0 1 d_Text_append_19 ci_Text fi_Text_15 rfl (by decide) rfl rfl ?_
        refine r_aload_n C 0 d_Text_append_22 rfl rfl ?_
        refine r_get C 0 0 d_Text_append_23 ci_Text fi_Text_9 rfl (by decide) rfl rfl ?_
        refine r_alen C 1 1 d_Text_append_26 rfl rfl ?_
        refine r_ncmp_lt C 32 d_Text_append_27 (by decide) (by omega) (by omega) (fun c_27 => ?_) (fun c_27 => ?_)
        · skip
          refine r_aload_n C 0 d_Text_append_32 rfl rfl ?_
          refine r_get C 0 0 d_Text_append_33 ci_Text fi_Text_9 rfl (by decide) rfl rfl ?_
          refine r_aload_n C 0 d_Text_append_36 rfl rfl ?_
          refine r_get C 0 1 d_Text_append_37 ci_Text fi_Text_15 rfl (by decide) rfl rfl ?_
          refine r_iload_n C 1 d_Text_append_40 rfl rfl ?_
          refine r_i2c C d_Text_append_41 (by omega) ?_
          refine r_ncast C (ws' := [(t, .inr (1, [.ref tb, .int (nI k)])), (tb, .inl (g.2.1 1, 2000, .inl (aI (up T k c))))]) 1 1 d_Text_append_42 rfl rfl (by omega) (by decide) (by omega) rfl ?_
          refine r_aload_n C 0 d_Text_append_43 rfl rfl ?_
          refine r_dup C d_Text_append_44 rfl ?_
          refine r_get C 0 1 d_Text_append_45 ci_Text fi_Text_15 rfl (by decide) rfl rfl ?_
          refine r_iconst C (nI 1) d_Text_append_48 (by decide) ?_
          refine r_nadd C d_Text_append_49 ?_
          refine r_put C (ws' := [(t, .inr (1, [.ref tb, .int (nI (k + 1))])), (tb, .inl (g.2.1 1, 2000, .inl (aI (up T k c))))]) 0 1 d_Text_append_50 ci_Text fi_Text_15 rfl (by decide) rfl rfl (rfl) (rfl) (by simp) rfl ?_
          refine r_iconst C (nI 1) d_Text_append_53 (by decide) ?_
          refine r_eqS (st' := [.int (bI true)]) rfl ?_
          refine r_bret C E d_Text_append_54 (by first | decide | omega | (simp only [rmk]; omega)) (by first | decide | omega | (simp only [rmk]; omega)) ?_
          exact ⟨_, _, _, rfl, rfl, Or.inl ⟨_, rfl, by omega, by omega, rfl, rfl, rfl⟩⟩
        · skip
          refine r_iconst C (nI 0) d_Text_append_30 (by decide) ?_
          refine r_eqS (st' := [.int (bI false)]) rfl ?_
          refine r_bret C E d_Text_append_31 (by first | decide | omega | (simp only [rmk]; omega)) (by first | decide | omega | (simp only [rmk]; omega)) ?_
          exact ⟨_, _, _, rfl, rfl, Or.inr ⟨rfl, rfl, rfl, Or.inr (by omega)⟩⟩

set_option maxHeartbeats 4000000 in
set_option maxRecDepth 100000 in
theorem c_Text_at (g : GG) (l : Launch) {t : Nat} {tb : Nat} {k : Nat} {j : Nat} {T : Nat → Nat}  (hk : k ≤ 2000) (hj : j < 2 ^ 31) : Cn g l y_Text_at b_Text_at 2 (some .int) (rmk 0 0 0 0) [.ref t, .int (nI j)] ([(t, .inr (1, [.ref tb, .int (nI k)])), (tb, .inl (g.2.1 1, 2000, .inl (aI T)))]) (fun (r0 : Option Value) (w0 : va_W) => r0 = some (.int (oI (atO T k j))) ∧ w0 = [(t, .inr (1, [.ref tb, .int (nI k)])), (tb, .inl (g.2.1 1, 2000, .inl (aI T)))]) := by
  refine Cn.of R_Text [(0, .ref t), (1, .int (nI j))] (by decide) rfl (Nat.le_of_ble_eq_true rfl) rfl ?_
  intro x A Q hR hXl hin C E
  subst hXl
  refine r_iload_n C 1 d_Text_at_0 rfl rfl ?_
  refine r_nif_lt C 30 d_Text_at_1 (by decide) (by omega) (fun c_1 => ?_) (fun c_1 => ?_)
  · exact absurd c_1 (by omega)
  · skip
    refine r_iload_n C 1 d_Text_at_4 rfl rfl ?_
    refine r_aload_n C 0 d_Text_at_5 rfl rfl ?_
    refine r_get C 0 1 d_Text_at_6 ci_Text fi_Text_15 rfl (by decide) rfl rfl ?_
    refine r_ncmp_ge C 30 d_Text_at_9 (by decide) (by omega) (by omega) (fun c_9 => ?_) (fun c_9 => ?_)
    · skip
      refine r_iconst C ((-1)) d_Text_at_30 (by decide) ?_
      refine r_iret C E d_Text_at_31 (by first | decide | omega | (simp only [rmk]; omega)) (by first | decide | omega | (simp only [rmk]; omega)) ?_
      exact ⟨by rw [atO, if_neg (by omega)]; rfl, rfl⟩
    · skip
      refine r_iload_n C 1 d_Text_at_12 rfl rfl ?_
      refine r_aload_n C 0 d_Text_at_13 rfl rfl ?_
      refine r_get C 0 0 d_Text_at_14 ci_Text fi_Text_9 rfl (by decide) rfl rfl ?_
      refine r_alen C 1 1 d_Text_at_17 rfl rfl ?_
      refine r_ncmp_ge C 30 d_Text_at_18 (by decide) (by omega) (by omega) (fun c_18 => ?_) (fun c_18 => ?_)
      · exact absurd c_18 (by omega)
      · skip
        refine r_aload_n C 0 d_Text_at_21 rfl rfl ?_
        refine r_get C 0 0 d_Text_at_22 ci_Text fi_Text_9 rfl (by decide) rfl rfl ?_
        refine r_iload_n C 1 d_Text_at_25 rfl rfl ?_
        refine r_ncald C 1 1 d_Text_at_26 rfl rfl (by omega) (by decide) ?_
        refine r_goto C 31 d_Text_at_27 (by decide) ?_
        refine r_iret C E d_Text_at_31 (by first | decide | omega | (simp only [rmk]; omega)) (by first | decide | omega | (simp only [rmk]; omega)) ?_
        exact ⟨by rw [atO, if_pos (by omega)]; rfl, rfl⟩
