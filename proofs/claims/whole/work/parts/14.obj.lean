
set_option maxRecDepth 100000 in
theorem ci_Layer : CI 3 R_Layer F_Layer 5 t_Layer := ⟨rfl, ui 5 (by decide +kernel), by decide +kernel, by decide +kernel⟩
set_option maxRecDepth 100000 in
theorem ci_Rule : CI 4 R_Rule F_Rule 6 t_Rule := ⟨rfl, ui 6 (by decide +kernel), by decide +kernel, by decide +kernel⟩
set_option maxRecDepth 100000 in
theorem fi_Layer_24 : FI R_Layer 24 R_Layer F_Layer 4 := Or.inl (gw (i := 546) rfl rfl)
set_option maxRecDepth 100000 in
theorem fi_Rule_15 : FI R_Rule 15 R_Rule F_Rule 4 := Or.inl (gw (i := 469) rfl rfl)
set_option maxRecDepth 100000 in
theorem fi_Rule_18 : FI R_Rule 18 R_Rule F_Rule 5 := Or.inl (gw (i := 473) rfl rfl)
set_option maxRecDepth 100000 in
theorem fi_Rule_9 : FI R_Rule 9 R_Rule F_Rule 3 := Or.inl (gw (i := 466) rfl rfl)
set_option maxRecDepth 100000 in
theorem fl_Layer_13 : Cond.fieldLink R_Layer 13 R_Layer (F_Layer 1).2.1 (F_Layer 1).2.2.1 ∈ GW := (gw (i := 540) rfl rfl)
set_option maxRecDepth 100000 in
theorem fl_Layer_17 : Cond.fieldLink R_Layer 17 R_Layer (F_Layer 2).2.1 (F_Layer 2).2.2.1 ∈ GW := (gw (i := 542) rfl rfl)
set_option maxRecDepth 100000 in
theorem fl_Layer_20 : Cond.fieldLink R_Layer 20 R_Layer (F_Layer 3).2.1 (F_Layer 3).2.2.1 ∈ GW := (gw (i := 544) rfl rfl)
set_option maxRecDepth 100000 in
theorem fl_Layer_24 : Cond.fieldLink R_Layer 24 R_Layer (F_Layer 4).2.1 (F_Layer 4).2.2.1 ∈ GW := (gw (i := 546) rfl rfl)
set_option maxRecDepth 100000 in
theorem fl_Layer_7 : Cond.fieldLink R_Layer 7 R_Layer (F_Layer 0).2.1 (F_Layer 0).2.2.1 ∈ GW := (gw (i := 538) rfl rfl)
set_option maxRecDepth 100000 in
theorem fl_Rule_21 : Cond.fieldLink R_Rule 21 R_Rule (F_Rule 0).2.1 (F_Rule 0).2.2.1 ∈ GW := (gw (i := 458) rfl rfl)
set_option maxRecDepth 100000 in
theorem fl_Rule_24 : Cond.fieldLink R_Rule 24 R_Rule (F_Rule 1).2.1 (F_Rule 1).2.2.1 ∈ GW := (gw (i := 462) rfl rfl)
set_option maxRecDepth 100000 in
theorem fl_Rule_27 : Cond.fieldLink R_Rule 27 R_Rule (F_Rule 2).2.1 (F_Rule 2).2.2.1 ∈ GW := (gw (i := 464) rfl rfl)
set_option maxRecDepth 100000 in
theorem ml_Layer_1 : Cond.methodLink R_Layer 1 objectInit ∈ GW := (gw (i := 537) rfl rfl)
set_option maxRecDepth 100000 in
theorem ml_Rule_3 : Cond.methodLink R_Rule 3 objectInit ∈ GW := (gw (i := 457) rfl rfl)
theorem d_Layer_init_0 : decode b_Layer_init 0 = .ok (.aload_n 0, 1) := by decide +kernel
theorem d_Layer_init_1 : decode b_Layer_init 1 = .ok (.invokespecial 1, 3) := by decide +kernel
theorem d_Layer_init_4 : decode b_Layer_init 4 = .ok (.aload_n 0, 1) := by decide +kernel
theorem d_Layer_init_5 : decode b_Layer_init 5 = .ok (.aload_n 1, 1) := by decide +kernel
theorem d_Layer_init_6 : decode b_Layer_init 6 = .ok (.putfield 7, 3) := by decide +kernel
theorem d_Layer_init_9 : decode b_Layer_init 9 = .ok (.aload_n 0, 1) := by decide +kernel
theorem d_Layer_init_10 : decode b_Layer_init 10 = .ok (.iload_n 2, 1) := by decide +kernel
theorem d_Layer_init_11 : decode b_Layer_init 11 = .ok (.putfield 13, 3) := by decide +kernel
theorem d_Layer_init_14 : decode b_Layer_init 14 = .ok (.aload_n 0, 1) := by decide +kernel
theorem d_Layer_init_15 : decode b_Layer_init 15 = .ok (.iload_n 3, 1) := by decide +kernel
theorem d_Layer_init_16 : decode b_Layer_init 16 = .ok (.putfield 17, 3) := by decide +kernel
theorem d_Layer_init_19 : decode b_Layer_init 19 = .ok (.aload_n 0, 1) := by decide +kernel
theorem d_Layer_init_20 : decode b_Layer_init 20 = .ok (.aload 4, 2) := by decide +kernel
theorem d_Layer_init_22 : decode b_Layer_init 22 = .ok (.putfield 20, 3) := by decide +kernel
theorem d_Layer_init_25 : decode b_Layer_init 25 = .ok (.aload_n 0, 1) := by decide +kernel
theorem d_Layer_init_26 : decode b_Layer_init 26 = .ok (.aload 4, 2) := by decide +kernel
theorem d_Layer_init_28 : decode b_Layer_init 28 = .ok (.ifnonnull 7, 3) := by decide +kernel
theorem d_Layer_init_31 : decode b_Layer_init 31 = .ok (.iconst 1, 1) := by decide +kernel
theorem d_Layer_init_32 : decode b_Layer_init 32 = .ok (.goto 10, 3) := by decide +kernel
theorem d_Layer_init_35 : decode b_Layer_init 35 = .ok (.aload 4, 2) := by decide +kernel
theorem d_Layer_init_37 : decode b_Layer_init 37 = .ok (.getfield 24, 3) := by decide +kernel
theorem d_Layer_init_40 : decode b_Layer_init 40 = .ok (.iconst 1, 1) := by decide +kernel
theorem d_Layer_init_41 : decode b_Layer_init 41 = .ok (.iadd, 1) := by decide +kernel
theorem d_Layer_init_42 : decode b_Layer_init 42 = .ok (.putfield 24, 3) := by decide +kernel
theorem d_Layer_init_45 : decode b_Layer_init 45 = .ok (.return_, 1) := by decide +kernel
theorem d_Rule_init_0 : decode b_Rule_init 0 = .ok (.aload_n 0, 1) := by decide +kernel
theorem d_Rule_init_1 : decode b_Rule_init 1 = .ok (.invokespecial 3, 3) := by decide +kernel
theorem d_Rule_init_4 : decode b_Rule_init 4 = .ok (.aload_n 0, 1) := by decide +kernel
theorem d_Rule_init_5 : decode b_Rule_init 5 = .ok (.iconst (-1), 1) := by decide +kernel
theorem d_Rule_init_6 : decode b_Rule_init 6 = .ok (.putfield 9, 3) := by decide +kernel
theorem d_Rule_init_9 : decode b_Rule_init 9 = .ok (.aload_n 0, 1) := by decide +kernel
theorem d_Rule_init_10 : decode b_Rule_init 10 = .ok (.iconst (-1), 1) := by decide +kernel
theorem d_Rule_init_11 : decode b_Rule_init 11 = .ok (.putfield 15, 3) := by decide +kernel
theorem d_Rule_init_14 : decode b_Rule_init 14 = .ok (.aload_n 0, 1) := by decide +kernel
theorem d_Rule_init_15 : decode b_Rule_init 15 = .ok (.iconst (-1), 1) := by decide +kernel
theorem d_Rule_init_16 : decode b_Rule_init 16 = .ok (.putfield 18, 3) := by decide +kernel
theorem d_Rule_init_19 : decode b_Rule_init 19 = .ok (.aload_n 0, 1) := by decide +kernel
theorem d_Rule_init_20 : decode b_Rule_init 20 = .ok (.iload_n 1, 1) := by decide +kernel
theorem d_Rule_init_21 : decode b_Rule_init 21 = .ok (.putfield 21, 3) := by decide +kernel
theorem d_Rule_init_24 : decode b_Rule_init 24 = .ok (.aload_n 0, 1) := by decide +kernel
theorem d_Rule_init_25 : decode b_Rule_init 25 = .ok (.iload_n 2, 1) := by decide +kernel
theorem d_Rule_init_26 : decode b_Rule_init 26 = .ok (.putfield 24, 3) := by decide +kernel
theorem d_Rule_init_29 : decode b_Rule_init 29 = .ok (.aload_n 0, 1) := by decide +kernel
theorem d_Rule_init_30 : decode b_Rule_init 30 = .ok (.aload_n 3, 1) := by decide +kernel
theorem d_Rule_init_31 : decode b_Rule_init 31 = .ok (.putfield 27, 3) := by decide +kernel
theorem d_Rule_init_34 : decode b_Rule_init 34 = .ok (.return_, 1) := by decide +kernel
set_option maxHeartbeats 4000000 in
set_option maxRecDepth 100000 in
theorem c_Layer_init (g : GG) (l : Launch) {y : Nat} {u : Nat} {lev : Nat} {f : Option Nat} {s : Option Nat} {ou : Option Nat} {PP : va_W}  (ho : ∀ a, ou = some a → ∃ v0 v1 v2 v3 : Value, (a, .inr (3, [v0, v1, v2, v3, .int (nI lev)])) ∈ PP) (hn : ou = none → lev = 0) : Cn g l y_Layer_init b_Layer_init 5 none (rmk 1 0 0 12) [.ref y, .ref (g.2.2.1 u), .int (oI f), .int (oI s), va_rf ou] ([(y, .inr (3, [.null, .int (nI 0), .int (nI 0), .null, .int (nI 0)]))] ++ PP) (fun (r0 : Option Value) (w0 : va_W) => r0 = none ∧ w0 = [(y, .inr (3, [.ref (g.2.2.1 u), .int (oI f), .int (oI s), va_rf ou, .int (nI (lev + 1))]))] ++ PP) := by
  refine Cn.of R_Layer [(0, .ref y), (1, .ref (g.2.2.1 u)), (2, .int (oI f)), (3, .int (oI s)), (4, va_rf ou)] (by decide) rfl (by generalize ou = z0; cases z0 <;> exact Nat.le_of_ble_eq_true rfl) (by generalize ou = z0; cases z0 <;> rfl) ?_
  intro x A Q hR hXl hin C E
  subst hXl
  refine r_aload_n C 0 d_Layer_init_0 rfl rfl ?_
  refine r_objInit C d_Layer_init_1 ml_Layer_1 oi_1 oi_2 (by rw [hR]; decide) (by rw [hR]; decide) ?_
  refine r_aload_n C 0 d_Layer_init_4 rfl rfl ?_
  refine r_aload_n C 1 d_Layer_init_5 rfl rfl ?_
  refine r_putF C hin (ws' := [(y, .inr (3, [.ref (g.2.2.1 u), .int (nI 0), .int (nI 0), .null, .int (nI 0)]))] ++ PP) 0 0 d_Layer_init_6 ci_Layer fl_Layer_7 rfl rfl (by decide) rfl rfl (rfl) (rfl) (by simp) rfl ?_
  refine r_aload_n C 0 d_Layer_init_9 rfl rfl ?_
  refine r_iload_n C 2 d_Layer_init_10 rfl rfl ?_
  refine r_putF C hin (ws' := [(y, .inr (3, [.ref (g.2.2.1 u), .int (oI f), .int (nI 0), .null, .int (nI 0)]))] ++ PP) 0 1 d_Layer_init_11 ci_Layer fl_Layer_13 rfl rfl (by decide) rfl rfl (rfl) (rfl) (by simp) rfl ?_
  refine r_aload_n C 0 d_Layer_init_14 rfl rfl ?_
  refine r_iload_n C 3 d_Layer_init_15 rfl rfl ?_
  refine r_putF C hin (ws' := [(y, .inr (3, [.ref (g.2.2.1 u), .int (oI f), .int (oI s), .null, .int (nI 0)]))] ++ PP) 0 2 d_Layer_init_16 ci_Layer fl_Layer_17 rfl rfl (by decide) rfl rfl (rfl) (rfl) (by simp) rfl ?_
  refine r_aload_n C 0 d_Layer_init_19 rfl rfl ?_
  refine r_aloadQ C 4 d_Layer_init_20 rfl ?_
  refine r_putF C hin (ws' := [(y, .inr (3, [.ref (g.2.2.1 u), .int (oI f), .int (oI s), va_rf ou, .int (nI 0)]))] ++ PP) 0 3 d_Layer_init_22 ci_Layer fl_Layer_20 rfl rfl (by decide) rfl rfl (rf_nar _ _) (rf_fit _ _) (by simp) rfl ?_
  refine r_aload_n C 0 d_Layer_init_25 rfl rfl ?_
  refine r_aloadQ C 4 d_Layer_init_26 rfl ?_
  refine r_ifnonnullQ C 35 d_Layer_init_28 (by decide) (fun a_28 e_28 => ?_) (fun e_28 => ?_)
  · subst e_28
    refine r_aload C 4 d_Layer_init_35 rfl ?_
    obtain ⟨v0, v1, v2, v3, hmem⟩ := ho a_28 rfl
    refine r_getM C 4 d_Layer_init_37 ci_Layer fi_Layer_24 rfl (by decide) (List.mem_append_right _ hmem) rfl ?_
    refine r_iconst C (nI 1) d_Layer_init_40 (by decide) ?_
    refine r_nadd C d_Layer_init_41 ?_
    refine r_putF C hin (ws' := [(y, .inr (3, [.ref (g.2.2.1 u), .int (oI f), .int (oI s), .ref a_28, .int (nI (lev + 1))]))] ++ PP) 0 4 d_Layer_init_42 ci_Layer fl_Layer_24 rfl rfl (by decide) rfl rfl (rfl) (rfl) (by simp) rfl ?_
    refine r_vret C E d_Layer_init_45 (by first | decide | omega | (simp only [rmk]; omega)) (by first | decide | omega | (simp only [rmk]; omega)) ?_
    exact ⟨rfl, rfl⟩
  · subst e_28
    refine r_iconst C (nI 1) d_Layer_init_31 (by decide) ?_
    refine r_goto C 42 d_Layer_init_32 (by decide) ?_
    refine r_putF C hin (ws' := [(y, .inr (3, [.ref (g.2.2.1 u), .int (oI f), .int (oI s), .null, .int (nI 1)]))] ++ PP) 0 4 d_Layer_init_42 ci_Layer fl_Layer_24 rfl rfl (by decide) rfl rfl (rfl) (rfl) (by simp) rfl ?_
    refine r_vret C E d_Layer_init_45 (by first | decide | omega | (simp only [rmk]; omega)) (by first | decide | omega | (simp only [rmk]; omega)) ?_
    have h0 := hn rfl
    subst h0
    exact ⟨rfl, rfl⟩

set_option maxHeartbeats 4000000 in
set_option maxRecDepth 100000 in
theorem c_Rule_init (g : GG) (l : Launch) {y : Nat} {ki : Nat} {st : Nat} {ar : Option Nat}   : Cn g l y_Rule_init b_Rule_init 4 none (rmk 1 0 0 12) [.ref y, .int (nI ki), .int (nI st), va_rf ar] ([(y, .inr (4, [.int (nI 0), .int (nI 0), .null, .int (nI 0), .int (nI 0), .int (nI 0)]))]) (fun (r0 : Option Value) (w0 : va_W) => r0 = none ∧ w0 = [(y, .inr (4, [.int (nI ki), .int (nI st), va_rf ar, .int (oI none), .int (oI none), .int (oI none)]))]) := by
  refine Cn.of R_Rule [(0, .ref y), (1, .int (nI ki)), (2, .int (nI st)), (3, va_rf ar)] (by decide) rfl (by generalize ar = z0; cases z0 <;> exact Nat.le_of_ble_eq_true rfl) (by generalize ar = z0; cases z0 <;> rfl) ?_
  intro x A Q hR hXl hin C E
  subst hXl
  refine r_aload_n C 0 d_Rule_init_0 rfl rfl ?_
  refine r_objInit C d_Rule_init_1 ml_Rule_3 oi_1 oi_2 (by rw [hR]; decide) (by rw [hR]; decide) ?_
  refine r_aload_n C 0 d_Rule_init_4 rfl rfl ?_
  refine r_iconst C ((-1)) d_Rule_init_5 (by decide) ?_
  refine r_put C (ws' := [(y, .inr (4, [.int (nI 0), .int (nI 0), .null, .int (-1), .int (nI 0), .int (nI 0)]))]) 0 3 d_Rule_init_6 ci_Rule fi_Rule_9 rfl (by decide) rfl rfl (rfl) (rfl) (by simp) rfl ?_
  refine r_aload_n C 0 d_Rule_init_9 rfl rfl ?_
  refine r_iconst C ((-1)) d_Rule_init_10 (by decide) ?_
  refine r_put C (ws' := [(y, .inr (4, [.int (nI 0), .int (nI 0), .null, .int (-1), .int (-1), .int (nI 0)]))]) 0 4 d_Rule_init_11 ci_Rule fi_Rule_15 rfl (by decide) rfl rfl (rfl) (rfl) (by simp) rfl ?_
  refine r_aload_n C 0 d_Rule_init_14 rfl rfl ?_
  refine r_iconst C ((-1)) d_Rule_init_15 (by decide) ?_
  refine r_put C (ws' := [(y, .inr (4, [.int (nI 0), .int (nI 0), .null, .int (-1), .int (-1), .int (-1)]))]) 0 5 d_Rule_init_16 ci_Rule fi_Rule_18 rfl (by decide) rfl rfl (rfl) (rfl) (by simp) rfl ?_
  refine r_aload_n C 0 d_Rule_init_19 rfl rfl ?_
  refine r_iload_n C 1 d_Rule_init_20 rfl rfl ?_
  refine r_putF C hin (ws' := [(y, .inr (4, [.int (nI ki), .int (nI 0), .null, .int (-1), .int (-1), .int (-1)]))]) 0 0 d_Rule_init_21 ci_Rule fl_Rule_21 rfl rfl (by decide) rfl rfl (rfl) (rfl) (by simp) rfl ?_
  refine r_aload_n C 0 d_Rule_init_24 rfl rfl ?_
  refine r_iload_n C 2 d_Rule_init_25 rfl rfl ?_
  refine r_putF C hin (ws' := [(y, .inr (4, [.int (nI ki), .int (nI st), .null, .int (-1), .int (-1), .int (-1)]))]) 0 1 d_Rule_init_26 ci_Rule fl_Rule_24 rfl rfl (by decide) rfl rfl (rfl) (rfl) (by simp) rfl ?_
  refine r_aload_n C 0 d_Rule_init_29 rfl rfl ?_
  refine r_aload_nQ C 3 d_Rule_init_30 rfl rfl ?_
  refine r_putF C hin (ws' := [(y, .inr (4, [.int (nI ki), .int (nI st), va_rf ar, .int (-1), .int (-1), .int (-1)]))]) 0 2 d_Rule_init_31 ci_Rule fl_Rule_27 rfl rfl (by decide) rfl rfl (rf_nar _ _) (rf_fit _ _) (by simp) rfl ?_
  refine r_vret C E d_Rule_init_34 (by first | decide | omega | (simp only [rmk]; omega)) (by first | decide | omega | (simp only [rmk]; omega)) ?_
  exact ⟨rfl, rfl⟩
