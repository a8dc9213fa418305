/-- the reference's fields: its arrays lie at ad k -/
abbrev MO (ad : Nat → Nat) (a0 a1 a3 a5 a8 a9 a19 a20 a21 a22 a23 a24 a25 a29 a30 a31 a32 a36 : Int32) : List Value := [.int a0, .int a1, .ref (ad 2), .int a3, .ref (ad 4), .int a5, .ref (ad 6), .ref (ad 7), .int a8, .int a9, .ref (ad 10), .ref (ad 11), .ref (ad 12), .ref (ad 13), .ref (ad 14), .ref (ad 15), .ref (ad 16), .ref (ad 17), .ref (ad 18), .int a19, .int a20, .int a21, .int a22, .int a23, .int a24, .int a25, .ref (ad 26), .ref (ad 27), .ref (ad 28), .int a29, .int a30, .int a31, .int a32, .ref (ad 33), .ref (ad 34), .ref (ad 35), .int a36, .ref (ad 37), .ref (ad 38), .ref (ad 39), .ref (ad 40), .ref (ad 41), .ref (ad 42)]
theorem oI_ge {r : Option Nat} (h : 0 ≤ oI r) : ∃ z, r = some z := by
  cases r with
  | none => exact absurd h (by decide)
  | some z => exact ⟨z, rfl⟩
theorem oI_lt {r : Option Nat} (hr : ∀ z, r = some z → z < 2 ^ 31) (h : ¬ 0 ≤ oI r) : r = none := by
  cases r with
  | none => rfl
  | some z => exact absurd (nI_pos' (hr z rfl)) h

set_option maxRecDepth 100000 in
theorem ci_Mo : CI 9 R_Mo F_Mo 43 t_Mo := ⟨rfl, ui 43 (by decide +kernel), by decide +kernel, by decide +kernel⟩
set_option maxRecDepth 100000 in
theorem fi_Mo_100 : FI R_Mo 100 R_Mo F_Mo 21 := Or.inl (gw (i := 921) rfl rfl)
set_option maxRecDepth 100000 in
theorem fi_Mo_106 : FI R_Mo 106 R_Mo F_Mo 22 := Or.inl (gw (i := 922) rfl rfl)
set_option maxRecDepth 100000 in
theorem fi_Mo_162 : FI R_Mo 162 R_Mo F_Mo 8 := Or.inl (gw (i := 908) rfl rfl)
set_option maxRecDepth 100000 in
theorem fi_Mo_218 : FI R_Mo 218 R_Mo F_Mo 30 := Or.inl (gw (i := 930) rfl rfl)
set_option maxRecDepth 100000 in
theorem fi_Mo_7 : FI R_Mo 7 R_Mo F_Mo 2 := Or.inl (gw (i := 902) rfl rfl)
set_option maxRecDepth 100000 in
theorem fi_Mo_87 : FI R_Mo 87 R_Mo F_Mo 0 := Or.inl (gw (i := 900) rfl rfl)
set_option maxRecDepth 100000 in
theorem fi_Mo_91 : FI R_Mo 91 R_Mo F_Mo 1 := Or.inl (gw (i := 901) rfl rfl)
set_option maxRecDepth 100000 in
theorem fi_Mo_94 : FI R_Mo 94 R_Mo F_Mo 24 := Or.inl (gw (i := 924) rfl rfl)
theorem d_Mo_thrown_0 : decode b_Mo_thrown 0 = .ok (.aload_n 0, 1) := by decide +kernel
theorem d_Mo_thrown_1 : decode b_Mo_thrown 1 = .ok (.getfield 87, 3) := by decide +kernel
theorem d_Mo_thrown_4 : decode b_Mo_thrown 4 = .ok (.ireturn, 1) := by decide +kernel
theorem d_Mo_says_0 : decode b_Mo_says 0 = .ok (.aload_n 0, 1) := by decide +kernel
theorem d_Mo_says_1 : decode b_Mo_says 1 = .ok (.iload_n 1, 1) := by decide +kernel
theorem d_Mo_says_2 : decode b_Mo_says 2 = .ok (.putfield 87, 3) := by decide +kernel
theorem d_Mo_says_5 : decode b_Mo_says 5 = .ok (.iload_n 1, 1) := by decide +kernel
theorem d_Mo_says_6 : decode b_Mo_says 6 = .ok (.ifCond .ne 7, 3) := by decide +kernel
theorem d_Mo_says_9 : decode b_Mo_says 9 = .ok (.iconst 1, 1) := by decide +kernel
theorem d_Mo_says_10 : decode b_Mo_says 10 = .ok (.goto 4, 3) := by decide +kernel
theorem d_Mo_says_13 : decode b_Mo_says 13 = .ok (.iconst 0, 1) := by decide +kernel
theorem d_Mo_says_14 : decode b_Mo_says 14 = .ok (.ireturn, 1) := by decide +kernel
theorem d_Mo_unit_0 : decode b_Mo_unit 0 = .ok (.aload_n 0, 1) := by decide +kernel
theorem d_Mo_unit_1 : decode b_Mo_unit 1 = .ok (.iconst 0, 1) := by decide +kernel
theorem d_Mo_unit_2 : decode b_Mo_unit 2 = .ok (.putfield 87, 3) := by decide +kernel
theorem d_Mo_unit_5 : decode b_Mo_unit 5 = .ok (.iload_n 1, 1) := by decide +kernel
theorem d_Mo_unit_6 : decode b_Mo_unit 6 = .ok (.ifCond .lt 20, 3) := by decide +kernel
theorem d_Mo_unit_9 : decode b_Mo_unit 9 = .ok (.iload_n 1, 1) := by decide +kernel
theorem d_Mo_unit_10 : decode b_Mo_unit 10 = .ok (.sipush 255, 3) := by decide +kernel
theorem d_Mo_unit_13 : decode b_Mo_unit 13 = .ok (.if_icmp .gt 13, 3) := by decide +kernel
theorem d_Mo_unit_16 : decode b_Mo_unit 16 = .ok (.aload_n 0, 1) := by decide +kernel
theorem d_Mo_unit_17 : decode b_Mo_unit 17 = .ok (.getfield 91, 3) := by decide +kernel
theorem d_Mo_unit_20 : decode b_Mo_unit 20 = .ok (.sipush 2000, 3) := by decide +kernel
theorem d_Mo_unit_23 : decode b_Mo_unit 23 = .ok (.if_icmp .ne 5, 3) := by decide +kernel
theorem d_Mo_unit_26 : decode b_Mo_unit 26 = .ok (.iconst 0, 1) := by decide +kernel
theorem d_Mo_unit_27 : decode b_Mo_unit 27 = .ok (.ireturn, 1) := by decide +kernel
theorem d_Mo_unit_28 : decode b_Mo_unit 28 = .ok (.aload_n 0, 1) := by decide +kernel
theorem d_Mo_unit_29 : decode b_Mo_unit 29 = .ok (.getfield 7, 3) := by decide +kernel
theorem d_Mo_unit_32 : decode b_Mo_unit 32 = .ok (.aload_n 0, 1) := by decide +kernel
theorem d_Mo_unit_33 : decode b_Mo_unit 33 = .ok (.getfield 91, 3) := by decide +kernel
theorem d_Mo_unit_36 : decode b_Mo_unit 36 = .ok (.iload_n 1, 1) := by decide +kernel
theorem d_Mo_unit_37 : decode b_Mo_unit 37 = .ok (.iastore, 1) := by decide +kernel
theorem d_Mo_unit_38 : decode b_Mo_unit 38 = .ok (.aload_n 0, 1) := by decide +kernel
theorem d_Mo_unit_39 : decode b_Mo_unit 39 = .ok (.dup, 1) := by decide +kernel
theorem d_Mo_unit_40 : decode b_Mo_unit 40 = .ok (.getfield 91, 3) := by decide +kernel
theorem d_Mo_unit_43 : decode b_Mo_unit 43 = .ok (.iconst 1, 1) := by decide +kernel
theorem d_Mo_unit_44 : decode b_Mo_unit 44 = .ok (.iadd, 1) := by decide +kernel
theorem d_Mo_unit_45 : decode b_Mo_unit 45 = .ok (.putfield 91, 3) := by decide +kernel
theorem d_Mo_unit_48 : decode b_Mo_unit 48 = .ok (.iconst 1, 1) := by decide +kernel
theorem d_Mo_unit_49 : decode b_Mo_unit 49 = .ok (.ireturn, 1) := by decide +kernel
theorem d_Mo_clear_0 : decode b_Mo_clear 0 = .ok (.aload_n 0, 1) := by decide +kernel
theorem d_Mo_clear_1 : decode b_Mo_clear 1 = .ok (.iconst 0, 1) := by decide +kernel
theorem d_Mo_clear_2 : decode b_Mo_clear 2 = .ok (.putfield 87, 3) := by decide +kernel
theorem d_Mo_clear_5 : decode b_Mo_clear 5 = .ok (.aload_n 0, 1) := by decide +kernel
theorem d_Mo_clear_6 : decode b_Mo_clear 6 = .ok (.iconst 0, 1) := by decide +kernel
theorem d_Mo_clear_7 : decode b_Mo_clear 7 = .ok (.putfield 91, 3) := by decide +kernel
theorem d_Mo_clear_10 : decode b_Mo_clear 10 = .ok (.return_, 1) := by decide +kernel
theorem d_Mo_isLetter_0 : decode b_Mo_isLetter 0 = .ok (.iload_n 0, 1) := by decide +kernel
theorem d_Mo_isLetter_1 : decode b_Mo_isLetter 1 = .ok (.bipush 97, 2) := by decide +kernel
theorem d_Mo_isLetter_3 : decode b_Mo_isLetter 3 = .ok (.if_icmp .lt 13, 3) := by decide +kernel
theorem d_Mo_isLetter_6 : decode b_Mo_isLetter 6 = .ok (.iload_n 0, 1) := by decide +kernel
theorem d_Mo_isLetter_7 : decode b_Mo_isLetter 7 = .ok (.bipush 122, 2) := by decide +kernel
theorem d_Mo_isLetter_9 : decode b_Mo_isLetter 9 = .ok (.if_icmp .gt 7, 3) := by decide +kernel
theorem d_Mo_isLetter_12 : decode b_Mo_isLetter 12 = .ok (.iconst 1, 1) := by decide +kernel
theorem d_Mo_isLetter_13 : decode b_Mo_isLetter 13 = .ok (.goto 4, 3) := by decide +kernel
theorem d_Mo_isLetter_16 : decode b_Mo_isLetter 16 = .ok (.iconst 0, 1) := by decide +kernel
theorem d_Mo_isLetter_17 : decode b_Mo_isLetter 17 = .ok (.ireturn, 1) := by decide +kernel
theorem d_Mo_isDigit_0 : decode b_Mo_isDigit 0 = .ok (.iload_n 0, 1) := by decide +kernel
theorem d_Mo_isDigit_1 : decode b_Mo_isDigit 1 = .ok (.bipush 48, 2) := by decide +kernel
theorem d_Mo_isDigit_3 : decode b_Mo_isDigit 3 = .ok (.if_icmp .lt 13, 3) := by decide +kernel
theorem d_Mo_isDigit_6 : decode b_Mo_isDigit 6 = .ok (.iload_n 0, 1) := by decide +kernel
theorem d_Mo_isDigit_7 : decode b_Mo_isDigit 7 = .ok (.bipush 57, 2) := by decide +kernel
theorem d_Mo_isDigit_9 : decode b_Mo_isDigit 9 = .ok (.if_icmp .gt 7, 3) := by decide +kernel
theorem d_Mo_isDigit_12 : decode b_Mo_isDigit 12 = .ok (.iconst 1, 1) := by decide +kernel
theorem d_Mo_isDigit_13 : decode b_Mo_isDigit 13 = .ok (.goto 4, 3) := by decide +kernel
theorem d_Mo_isDigit_16 : decode b_Mo_isDigit 16 = .ok (.iconst 0, 1) := by decide +kernel
theorem d_Mo_isDigit_17 : decode b_Mo_isDigit 17 = .ok (.ireturn, 1) := by decide +kernel
theorem d_Mo_isSign_0 : decode b_Mo_isSign 0 = .ok (.iload_n 0, 1) := by decide +kernel
theorem d_Mo_isSign_1 : decode b_Mo_isSign 1 = .ok (.bipush 59, 2) := by decide +kernel
theorem d_Mo_isSign_3 : decode b_Mo_isSign 3 = .ok (.if_icmp .eq 33, 3) := by decide +kernel
theorem d_Mo_isSign_6 : decode b_Mo_isSign 6 = .ok (.iload_n 0, 1) := by decide +kernel
theorem d_Mo_isSign_7 : decode b_Mo_isSign 7 = .ok (.bipush 123, 2) := by decide +kernel
theorem d_Mo_isSign_9 : decode b_Mo_isSign 9 = .ok (.if_icmp .eq 27, 3) := by decide +kernel
theorem d_Mo_isSign_12 : decode b_Mo_isSign 12 = .ok (.iload_n 0, 1) := by decide +kernel
theorem d_Mo_isSign_13 : decode b_Mo_isSign 13 = .ok (.bipush 125, 2) := by decide +kernel
theorem d_Mo_isSign_15 : decode b_Mo_isSign 15 = .ok (.if_icmp .eq 21, 3) := by decide +kernel
theorem d_Mo_isSign_18 : decode b_Mo_isSign 18 = .ok (.iload_n 0, 1) := by decide +kernel
theorem d_Mo_isSign_19 : decode b_Mo_isSign 19 = .ok (.bipush 61, 2) := by decide +kernel
theorem d_Mo_isSign_21 : decode b_Mo_isSign 21 = .ok (.if_icmp .eq 15, 3) := by decide +kernel
theorem d_Mo_isSign_24 : decode b_Mo_isSign 24 = .ok (.iload_n 0, 1) := by decide +kernel
theorem d_Mo_isSign_25 : decode b_Mo_isSign 25 = .ok (.bipush 60, 2) := by decide +kernel
theorem d_Mo_isSign_27 : decode b_Mo_isSign 27 = .ok (.if_icmp .eq 9, 3) := by decide +kernel
theorem d_Mo_isSign_30 : decode b_Mo_isSign 30 = .ok (.iload_n 0, 1) := by decide +kernel
theorem d_Mo_isSign_31 : decode b_Mo_isSign 31 = .ok (.bipush 62, 2) := by decide +kernel
theorem d_Mo_isSign_33 : decode b_Mo_isSign 33 = .ok (.if_icmp .ne 7, 3) := by decide +kernel
theorem d_Mo_isSign_36 : decode b_Mo_isSign 36 = .ok (.iconst 1, 1) := by decide +kernel
theorem d_Mo_isSign_37 : decode b_Mo_isSign 37 = .ok (.goto 4, 3) := by decide +kernel
theorem d_Mo_isSign_40 : decode b_Mo_isSign 40 = .ok (.iconst 0, 1) := by decide +kernel
theorem d_Mo_isSign_41 : decode b_Mo_isSign 41 = .ok (.ireturn, 1) := by decide +kernel
theorem d_Mo_refuse_0 : decode b_Mo_refuse 0 = .ok (.aload_n 0, 1) := by decide +kernel
theorem d_Mo_refuse_1 : decode b_Mo_refuse 1 = .ok (.getfield 94, 3) := by decide +kernel
theorem d_Mo_refuse_4 : decode b_Mo_refuse 4 = .ok (.ifCond .ge 8, 3) := by decide +kernel
theorem d_Mo_refuse_7 : decode b_Mo_refuse 7 = .ok (.aload_n 0, 1) := by decide +kernel
theorem d_Mo_refuse_8 : decode b_Mo_refuse 8 = .ok (.iload_n 1, 1) := by decide +kernel
theorem d_Mo_refuse_9 : decode b_Mo_refuse 9 = .ok (.putfield 94, 3) := by decide +kernel
theorem d_Mo_refuse_12 : decode b_Mo_refuse 12 = .ok (.return_, 1) := by decide +kernel
theorem d_Mo_isSigned_0 : decode b_Mo_isSigned 0 = .ok (.aload_n 0, 1) := by decide +kernel
theorem d_Mo_isSigned_1 : decode b_Mo_isSigned 1 = .ok (.getfield 100, 3) := by decide +kernel
theorem d_Mo_isSigned_4 : decode b_Mo_isSigned 4 = .ok (.iconst 3, 1) := by decide +kernel
theorem d_Mo_isSigned_5 : decode b_Mo_isSigned 5 = .ok (.if_icmp .ne 20, 3) := by decide +kernel
theorem d_Mo_isSigned_8 : decode b_Mo_isSigned 8 = .ok (.aload_n 0, 1) := by decide +kernel
theorem d_Mo_isSigned_9 : decode b_Mo_isSigned 9 = .ok (.getfield 7, 3) := by decide +kernel
theorem d_Mo_isSigned_12 : decode b_Mo_isSigned 12 = .ok (.aload_n 0, 1) := by decide +kernel
theorem d_Mo_isSigned_13 : decode b_Mo_isSigned 13 = .ok (.getfield 106, 3) := by decide +kernel
theorem d_Mo_isSigned_16 : decode b_Mo_isSigned 16 = .ok (.iaload, 1) := by decide +kernel
theorem d_Mo_isSigned_17 : decode b_Mo_isSigned 17 = .ok (.iload_n 1, 1) := by decide +kernel
theorem d_Mo_isSigned_18 : decode b_Mo_isSigned 18 = .ok (.if_icmp .ne 7, 3) := by decide +kernel
theorem d_Mo_isSigned_21 : decode b_Mo_isSigned 21 = .ok (.iconst 1, 1) := by decide +kernel
theorem d_Mo_isSigned_22 : decode b_Mo_isSigned 22 = .ok (.goto 4, 3) := by decide +kernel
theorem d_Mo_isSigned_25 : decode b_Mo_isSigned 25 = .ok (.iconst 0, 1) := by decide +kernel
theorem d_Mo_isSigned_26 : decode b_Mo_isSigned 26 = .ok (.ireturn, 1) := by decide +kernel
theorem d_Mo_x_0 : decode b_Mo_x 0 = .ok (.iload_n 1, 1) := by decide +kernel
theorem d_Mo_x_1 : decode b_Mo_x 1 = .ok (.aload_n 0, 1) := by decide +kernel
theorem d_Mo_x_2 : decode b_Mo_x 2 = .ok (.getfield 218, 3) := by decide +kernel
theorem d_Mo_x_5 : decode b_Mo_x 5 = .ok (.irem, 1) := by decide +kernel
theorem d_Mo_x_6 : decode b_Mo_x 6 = .ok (.ireturn, 1) := by decide +kernel
theorem d_Mo_y_0 : decode b_Mo_y 0 = .ok (.iload_n 1, 1) := by decide +kernel
theorem d_Mo_y_1 : decode b_Mo_y 1 = .ok (.aload_n 0, 1) := by decide +kernel
theorem d_Mo_y_2 : decode b_Mo_y 2 = .ok (.getfield 218, 3) := by decide +kernel
theorem d_Mo_y_5 : decode b_Mo_y 5 = .ok (.idiv, 1) := by decide +kernel
theorem d_Mo_y_6 : decode b_Mo_y 6 = .ok (.ireturn, 1) := by decide +kernel
theorem d_Mo_depth_0 : decode b_Mo_depth 0 = .ok (.aload_n 0, 1) := by decide +kernel
theorem d_Mo_depth_1 : decode b_Mo_depth 1 = .ok (.iconst 0, 1) := by decide +kernel
theorem d_Mo_depth_2 : decode b_Mo_depth 2 = .ok (.putfield 87, 3) := by decide +kernel
theorem d_Mo_depth_5 : decode b_Mo_depth 5 = .ok (.aload_n 0, 1) := by decide +kernel
theorem d_Mo_depth_6 : decode b_Mo_depth 6 = .ok (.getfield 162, 3) := by decide +kernel
theorem d_Mo_depth_9 : decode b_Mo_depth 9 = .ok (.ireturn, 1) := by decide +kernel
set_option maxHeartbeats 4000000 in
set_option maxRecDepth 100000 in
theorem c_Mo_thrown (g : GG) (l : Launch) {m0 : Nat} {ad : Nat → Nat} {qth : Int32} {qsz : Int32} {qtk : Int32} {qde : Int32} {qru : Int32} {qat : Int32} {qen : Int32} {qto : Int32} {qbe : Int32} {qva : Int32} {qwr : Int32} {qop : Int32} {qwi : Int32} {qhe : Int32} {qrw : Int32} {qma : Int32} {qir : Bool} {qiu : Bool}   : Cn g l y_Mo_thrown b_Mo_thrown 1 (some .int) (rmk 0 0 0 0) [.ref m0] ([(m0, .inr (9, MO ad qth qsz (bI qir) qtk qde qru qat qen qto qbe qva qwr qop (bI qiu) qwi qhe qrw qma))]) (fun (r0 : Option Value) (w0 : va_W) => r0 = some (.int qth) ∧ w0 = [(m0, .inr (9, MO ad qth qsz (bI qir) qtk qde qru qat qen qto qbe qva qwr qop (bI qiu) qwi qhe qrw qma))]) := by
  refine Cn.of R_Mo [(0, .ref m0)] (by decide) rfl (Nat.le_of_ble_eq_true rfl) rfl ?_
  intro x A Q hR hXl hin C E
  subst hXl
  refine r_aload_n C 0 d_Mo_thrown_0 rfl rfl ?_
  refine r_get C 0 0 d_Mo_thrown_1 ci_Mo fi_Mo_87 rfl (by decide) rfl rfl ?_
  refine r_iret C E d_Mo_thrown_4 (by first | decide | omega | (simp only [rmk]; omega)) (by first | decide | omega | (simp only [rmk]; omega)) ?_
  exact ⟨rfl, rfl⟩

set_option maxHeartbeats 4000000 in
set_option maxRecDepth 100000 in
theorem c_Mo_says (g : GG) (l : Launch) {m0 : Nat} {ad : Nat → Nat} {qth : Int32} {qsz : Int32} {qtk : Int32} {qde : Int32} {qru : Int32} {qat : Int32} {qen : Int32} {qto : Int32} {qbe : Int32} {qva : Int32} {qwr : Int32} {qop : Int32} {qwi : Int32} {qhe : Int32} {qrw : Int32} {qma : Int32} {qir : Bool} {qiu : Bool} {z : Int32}   : Cn g l y_Mo_says b_Mo_says 2 (some .boolean) (rmk 0 0 0 0) [.ref m0, .int z] ([(m0, .inr (9, MO ad qth qsz (bI qir) qtk qde qru qat qen qto qbe qva qwr qop (bI qiu) qwi qhe qrw qma))]) (fun (r0 : Option Value) (w0 : va_W) => r0 = some (.int (bI (decide (z = 0)))) ∧ w0 = [(m0, .inr (9, MO ad z qsz (bI qir) qtk qde qru qat qen qto qbe qva qwr qop (bI qiu) qwi qhe qrw qma))]) := by
  refine Cn.of R_Mo [(0, .ref m0), (1, .int z)] (by decide) rfl (Nat.le_of_ble_eq_true rfl) rfl ?_
  intro x A Q hR hXl hin C E
  subst hXl
  refine r_aload_n C 0 d_Mo_says_0 rfl rfl ?_
  refine r_iload_n C 1 d_Mo_says_1 rfl rfl ?_
  refine r_put C (ws' := [(m0, .inr (9, MO ad z qsz (bI qir) qtk qde qru qat qen qto qbe qva qwr qop (bI qiu) qwi qhe qrw qma))]) 0 0 d_Mo_says_2 ci_Mo fi_Mo_87 rfl (by decide) rfl rfl (rfl) (rfl) (by simp) rfl ?_
  refine r_iload_n C 1 d_Mo_says_5 rfl rfl ?_
  refine r_if_ne C 13 d_Mo_says_6 (by decide) (fun c_6 => ?_) (fun c_6 => ?_)
  · skip
    refine r_iconst C (nI 0) d_Mo_says_13 (by decide) ?_
    refine r_eqS (st' := [.int (bI false)]) rfl ?_
    refine r_bret C E d_Mo_says_14 (by first | decide | omega | (simp only [rmk]; omega)) (by first | decide | omega | (simp only [rmk]; omega)) ?_
    exact ⟨bsome (decide_eq_false c_6).symm, rfl⟩
  · skip
    refine r_iconst C (nI 1) d_Mo_says_9 (by decide) ?_
    refine r_goto C 14 d_Mo_says_10 (by decide) ?_
    refine r_eqS (st' := [.int (bI true)]) rfl ?_
    refine r_bret C E d_Mo_says_14 (by first | decide | omega | (simp only [rmk]; omega)) (by first | decide | omega | (simp only [rmk]; omega)) ?_
    exact ⟨bsome (decide_eq_true c_6).symm, rfl⟩

set_option maxHeartbeats 4000000 in
set_option maxRecDepth 100000 in
theorem c_Mo_unit (g : GG) (l : Launch) {m0 : Nat} {ad : Nat → Nat} {qth : Int32} {qtk : Int32} {qde : Int32} {qru : Int32} {qat : Int32} {qen : Int32} {qto : Int32} {qbe : Int32} {qva : Int32} {qwr : Int32} {qop : Int32} {qwi : Int32} {qhe : Int32} {qrw : Int32} {qma : Int32} {qir : Bool} {qiu : Bool} {k : Nat} {T : Nat → Nat} {u : Int32}  (hk : k ≤ 2000) : Cn g l y_Mo_unit b_Mo_unit 2 (some .boolean) (rmk 0 0 0 0) [.ref m0, .int u] ([(m0, .inr (9, MO ad qth (nI k) (bI qir) qtk qde qru qat qen qto qbe qva qwr qop (bI qiu) qwi qhe qrw qma)), ((ad 2), .inl (g.2.1 0, 2000, .inl (aI T)))]) (fun (r0 : Option Value) (w0 : va_W) => ∃ ok : Bool, ∃ k2 : Nat, ∃ T2 : Nat → Nat, r0 = some (.int (bI ok)) ∧ w0 = [(m0, .inr (9, MO ad (nI 0) (nI k2) (bI qir) qtk qde qru qat qen qto qbe qva qwr qop (bI qiu) qwi qhe qrw qma)), ((ad 2), .inl (g.2.1 0, 2000, .inl (aI T2)))] ∧ (Appended T k u ok T2 k2)) := by
  refine Cn.of R_Mo [(0, .ref m0), (1, .int u)] (by decide) rfl (Nat.le_of_ble_eq_true rfl) rfl ?_
  intro x A Q hR hXl hin C E
  subst hXl
  refine r_aload_n C 0 d_Mo_unit_0 rfl rfl ?_
  refine r_iconst C (nI 0) d_Mo_unit_1 (by decide) ?_
  refine r_put C (ws' := [(m0, .inr (9, MO ad (nI 0) (nI k) (bI qir) qtk qde qru qat qen qto qbe qva qwr qop (bI qiu) qwi qhe qrw qma)), ((ad 2), .inl (g.2.1 0, 2000, .inl (aI T)))]) 0 0 d_Mo_unit_2 ci_Mo fi_Mo_87 rfl (by decide) rfl rfl (rfl) (rfl) (by simp) rfl ?_
  refine r_iload_n C 1 d_Mo_unit_5 rfl rfl ?_
  refine r_if_lt C 26 d_Mo_unit_6 (by decide) (fun c_6 => ?_) (fun c_6 => ?_)
  · skip
    refine r_iconst C (nI 0) d_Mo_unit_26 (by decide) ?_
    refine r_eqS (st' := [.int (bI false)]) rfl ?_
    refine r_bret C E d_Mo_unit_27 (by first | decide | omega | (simp only [rmk]; omega)) (by first | decide | omega | (simp only [rmk]; omega)) ?_
    exact ⟨_, _, _, rfl, rfl, Or.inr ⟨rfl, rfl, rfl, Or.inl (fun c hc e => by subst e; exact absurd c_6 (nI_pos (by omega)))⟩⟩
  · skip
    obtain ⟨c, hc0, rfl⟩ := nI_of c_6
    refine r_iload_n C 1 d_Mo_unit_9 rfl rfl ?_
    refine r_sipush C (nI 255) d_Mo_unit_10 (by decide) ?_
    refine r_ncmp_gt C 26 d_Mo_unit_13 (by decide) (by omega) (by omega) (fun c_13 => ?_) (fun c_13 => ?_)
    · skip
      refine r_iconst C (nI 0) d_Mo_unit_26 (by decide) ?_
      refine r_eqS (st' := [.int (bI false)]) rfl ?_
      refine r_bret C E d_Mo_unit_27 (by first | decide | omega | (simp only [rmk]; omega)) (by first | decide | omega | (simp only [rmk]; omega)) ?_
      exact ⟨_, _, _, rfl, rfl, Or.inr ⟨rfl, rfl, rfl, Or.inl (fun d hd e => by have := (nI_eq (by omega) (by omega)).mp e; omega)⟩⟩
    · skip
      refine r_aload_n C 0 d_Mo_unit_16 rfl rfl ?_
      refine r_get C 0 1 d_Mo_unit_17 ci_Mo fi_Mo_91 rfl (by decide) rfl rfl ?_
      refine r_sipush C (nI 2000) d_Mo_unit_20 (by decide) ?_
      refine r_ncmp_ne C 28 d_Mo_unit_23 (by decide) (by omega) (by omega) (fun c_23 => ?_) (fun c_23 => ?_)
      · skip
        refine r_aload_n C 0 d_Mo_unit_28 rfl rfl ?_
        refine r_get C 0 2 d_Mo_unit_29 ci_Mo fi_Mo_7 rfl (by decide) rfl rfl ?_
        refine r_aload_n C 0 d_Mo_unit_32 rfl rfl ?_
        refine r_get C 0 1 d_Mo_unit_33 ci_Mo fi_Mo_91 rfl (by decide) rfl rfl ?_
        refine r_iload_n C 1 d_Mo_unit_36 rfl rfl ?_
        refine r_nast C (ws' := [(m0, .inr (9, MO ad (nI 0) (nI k) (bI qir) qtk qde qru qat qen qto qbe qva qwr qop (bI qiu) qwi qhe qrw qma)), ((ad 2), .inl (g.2.1 0, 2000, .inl (aI (up T k c))))]) 1 0 d_Mo_unit_37 rfl rfl (by omega) (by decide) rfl ?_
        refine r_aload_n C 0 d_Mo_unit_38 rfl rfl ?_
        refine r_dup C d_Mo_unit_39 rfl ?_
        refine r_get C 0 1 d_Mo_unit_40 ci_Mo fi_Mo_91 rfl (by decide) rfl rfl ?_
        refine r_iconst C (nI 1) d_Mo_unit_43 (by decide) ?_
        refine r_nadd C d_Mo_unit_44 ?_
        refine r_put C (ws' := [(m0, .inr (9, MO ad (nI 0) (nI (k + 1)) (bI qir) qtk qde qru qat qen qto qbe qva qwr qop (bI qiu) qwi qhe qrw qma)), ((ad 2), .inl (g.2.1 0, 2000, .inl (aI (up T k c))))]) 0 1 d_Mo_unit_45 ci_Mo fi_Mo_91 rfl (by decide) rfl rfl (rfl) (rfl) (by simp) rfl ?_
        refine r_iconst C (nI 1) d_Mo_unit_48 (by decide) ?_
        refine r_eqS (st' := [.int (bI true)]) rfl ?_
        refine r_bret C E d_Mo_unit_49 (by first | decide | omega | (simp only [rmk]; omega)) (by first | decide | omega | (simp only [rmk]; omega)) ?_
        exact ⟨_, _, _, rfl, rfl, Or.inl ⟨_, rfl, by omega, by omega, rfl, rfl, rfl⟩⟩
      · skip
        refine r_iconst C (nI 0) d_Mo_unit_26 (by decide) ?_
        refine r_eqS (st' := [.int (bI false)]) rfl ?_
        refine r_bret C E d_Mo_unit_27 (by first | decide | omega | (simp only [rmk]; omega)) (by first | decide | omega | (simp only [rmk]; omega)) ?_
        exact ⟨_, _, _, rfl, rfl, Or.inr ⟨rfl, rfl, rfl, Or.inr (by omega)⟩⟩

set_option maxHeartbeats 4000000 in
set_option maxRecDepth 100000 in
theorem c_Mo_clear (g : GG) (l : Launch) {m0 : Nat} {ad : Nat → Nat} {qth : Int32} {qsz : Int32} {qtk : Int32} {qde : Int32} {qru : Int32} {qat : Int32} {qen : Int32} {qto : Int32} {qbe : Int32} {qva : Int32} {qwr : Int32} {qop : Int32} {qwi : Int32} {qhe : Int32} {qrw : Int32} {qma : Int32} {qir : Bool} {qiu : Bool}   : Cn g l y_Mo_clear b_Mo_clear 1 none (rmk 0 0 0 0) [.ref m0] ([(m0, .inr (9, MO ad qth qsz (bI qir) qtk qde qru qat qen qto qbe qva qwr qop (bI qiu) qwi qhe qrw qma))]) (fun (r0 : Option Value) (w0 : va_W) => r0 = none ∧ w0 = [(m0, .inr (9, MO ad (nI 0) (nI 0) (bI qir) qtk qde qru qat qen qto qbe qva qwr qop (bI qiu) qwi qhe qrw qma))]) := by
  refine Cn.of R_Mo [(0, .ref m0)] (by decide) rfl (Nat.le_of_ble_eq_true rfl) rfl ?_
  intro x A Q hR hXl hin C E
  subst hXl
  refine r_aload_n C 0 d_Mo_clear_0 rfl rfl ?_
  refine r_iconst C (nI 0) d_Mo_clear_1 (by decide) ?_
  refine r_put C (ws' := [(m0, .inr (9, MO ad (nI 0) qsz (bI qir) qtk qde qru qat qen qto qbe qva qwr qop (bI qiu) qwi qhe qrw qma))]) 0 0 d_Mo_clear_2 ci_Mo fi_Mo_87 rfl (by decide) rfl rfl (rfl) (rfl) (by simp) rfl ?_
  refine r_aload_n C 0 d_Mo_clear_5 rfl rfl ?_
  refine r_iconst C (nI 0) d_Mo_clear_6 (by decide) ?_
  refine r_put C (ws' := [(m0, .inr (9, MO ad (nI 0) (nI 0) (bI qir) qtk qde qru qat qen qto qbe qva qwr qop (bI qiu) qwi qhe qrw qma))]) 0 1 d_Mo_clear_7 ci_Mo fi_Mo_91 rfl (by decide) rfl rfl (rfl) (rfl) (by simp) rfl ?_
  refine r_vret C E d_Mo_clear_10 (by first | decide | omega | (simp only [rmk]; omega)) (by first | decide | omega | (simp only [rmk]; omega)) ?_
  exact ⟨rfl, rfl⟩

set_option maxHeartbeats 4000000 in
set_option maxRecDepth 100000 in
theorem c_Mo_isLetter (g : GG) (l : Launch) {c : Nat}  (hc : c < 2 ^ 31) : Cn g l y_Mo_isLetter b_Mo_isLetter 1 (some .boolean) (rmk 0 0 0 0) [.int (nI c)] ([]) (fun (r0 : Option Value) (w0 : va_W) => r0 = some (.int (bI (isLet c))) ∧ w0 = []) := by
  refine Cn.of R_Mo [(0, .int (nI c))] (by decide) rfl (Nat.le_of_ble_eq_true rfl) rfl ?_
  intro x A Q hR hXl hin C E
  subst hXl
  refine r_iload_n C 0 d_Mo_isLetter_0 rfl rfl ?_
  refine r_bipush C (nI 97) d_Mo_isLetter_1 (by decide) ?_
  refine r_ncmp_lt C 16 d_Mo_isLetter_3 (by decide) (by omega) (by omega) (fun c_3 => ?_) (fun c_3 => ?_)
  · skip
    refine r_iconst C (nI 0) d_Mo_isLetter_16 (by decide) ?_
    refine r_eqS (st' := [.int (bI false)]) rfl ?_
    refine r_bret C E d_Mo_isLetter_17 (by first | decide | omega | (simp only [rmk]; omega)) (by first | decide | omega | (simp only [rmk]; omega)) ?_
    exact ⟨bsome (by symm; simp [isLet]; omega), rfl⟩
  · skip
    refine r_iload_n C 0 d_Mo_isLetter_6 rfl rfl ?_
    refine r_bipush C (nI 122) d_Mo_isLetter_7 (by decide) ?_
    refine r_ncmp_gt C 16 d_Mo_isLetter_9 (by decide) (by omega) (by omega) (fun c_9 => ?_) (fun c_9 => ?_)
    · skip
      refine r_iconst C (nI 0) d_Mo_isLetter_16 (by decide) ?_
      refine r_eqS (st' := [.int (bI false)]) rfl ?_
      refine r_bret C E d_Mo_isLetter_17 (by first | decide | omega | (simp only [rmk]; omega)) (by first | decide | omega | (simp only [rmk]; omega)) ?_
      exact ⟨bsome (by symm; simp [isLet]; omega), rfl⟩
    · skip
      refine r_iconst C (nI 1) d_Mo_isLetter_12 (by decide) ?_
      refine r_goto C 17 d_Mo_isLetter_13 (by decide) ?_
      refine r_eqS (st' := [.int (bI true)]) rfl ?_
      refine r_bret C E d_Mo_isLetter_17 (by first | decide | omega | (simp only [rmk]; omega)) (by first | decide | omega | (simp only [rmk]; omega)) ?_
      exact ⟨bsome (by symm; simp [isLet]; omega), rfl⟩

set_option maxHeartbeats 4000000 in
set_option maxRecDepth 100000 in
theorem c_Mo_isDigit (g : GG) (l : Launch) {c : Nat}  (hc : c < 2 ^ 31) : Cn g l y_Mo_isDigit b_Mo_isDigit 1 (some .boolean) (rmk 0 0 0 0) [.int (nI c)] ([]) (fun (r0 : Option Value) (w0 : va_W) => r0 = some (.int (bI (isDig c))) ∧ w0 = []) := by
  refine Cn.of R_Mo [(0, .int (nI c))] (by decide) rfl (Nat.le_of_ble_eq_true rfl) rfl ?_
  intro x A Q hR hXl hin C E
  subst hXl
  refine r_iload_n C 0 d_Mo_isDigit_0 rfl rfl ?_
  refine r_bipush C (nI 48) d_Mo_isDigit_1 (by decide) ?_
  refine r_ncmp_lt C 16 d_Mo_isDigit_3 (by decide) (by omega) (by omega) (fun c_3 => ?_) (fun c_3 => ?_)
  · skip
    refine r_iconst C (nI 0) d_Mo_isDigit_16 (by decide) ?_
    refine r_eqS (st' := [.int (bI false)]) rfl ?_
    refine r_bret C E d_Mo_isDigit_17 (by first | decide | omega | (simp only [rmk]; omega)) (by first | decide | omega | (simp only [rmk]; omega)) ?_
    exact ⟨bsome (by symm; simp [isDig]; omega), rfl⟩
  · skip
    refine r_iload_n C 0 d_Mo_isDigit_6 rfl rfl ?_
    refine r_bipush C (nI 57) d_Mo_isDigit_7 (by decide) ?_
    refine r_ncmp_gt C 16 d_Mo_isDigit_9 (by decide) (by omega) (by omega) (fun c_9 => ?_) (fun c_9 => ?_)
    · skip
      refine r_iconst C (nI 0) d_Mo_isDigit_16 (by decide) ?_
      refine r_eqS (st' := [.int (bI false)]) rfl ?_
      refine r_bret C E d_Mo_isDigit_17 (by first | decide | omega | (simp only [rmk]; omega)) (by first | decide | omega | (simp only [rmk]; omega)) ?_
      exact ⟨bsome (by symm; simp [isDig]; omega), rfl⟩
    · skip
      refine r_iconst C (nI 1) d_Mo_isDigit_12 (by decide) ?_
      refine r_goto C 17 d_Mo_isDigit_13 (by decide) ?_
      refine r_eqS (st' := [.int (bI true)]) rfl ?_
      refine r_bret C E d_Mo_isDigit_17 (by first | decide | omega | (simp only [rmk]; omega)) (by first | decide | omega | (simp only [rmk]; omega)) ?_
      exact ⟨bsome (by symm; simp [isDig]; omega), rfl⟩

set_option maxHeartbeats 4000000 in
set_option maxRecDepth 100000 in
theorem c_Mo_isSign (g : GG) (l : Launch) {c : Nat}  (hc : c < 2 ^ 31) : Cn g l y_Mo_isSign b_Mo_isSign 1 (some .boolean) (rmk 0 0 0 0) [.int (nI c)] ([]) (fun (r0 : Option Value) (w0 : va_W) => r0 = some (.int (bI (isSgn c))) ∧ w0 = []) := by
  refine Cn.of R_Mo [(0, .int (nI c))] (by decide) rfl (Nat.le_of_ble_eq_true rfl) rfl ?_
  intro x A Q hR hXl hin C E
  subst hXl
  refine r_iload_n C 0 d_Mo_isSign_0 rfl rfl ?_
  refine r_bipush C (nI 59) d_Mo_isSign_1 (by decide) ?_
  refine r_ncmp_eq C 36 d_Mo_isSign_3 (by decide) (by omega) (by omega) (fun c_3 => ?_) (fun c_3 => ?_)
  · skip
    refine r_iconst C (nI 1) d_Mo_isSign_36 (by decide) ?_
    refine r_goto C 41 d_Mo_isSign_37 (by decide) ?_
    refine r_eqS (st' := [.int (bI true)]) rfl ?_
    refine r_bret C E d_Mo_isSign_41 (by first | decide | omega | (simp only [rmk]; omega)) (by first | decide | omega | (simp only [rmk]; omega)) ?_
    exact ⟨bsome (by symm; simp [isSgn]; omega), rfl⟩
  · skip
    refine r_iload_n C 0 d_Mo_isSign_6 rfl rfl ?_
    refine r_bipush C (nI 123) d_Mo_isSign_7 (by decide) ?_
    refine r_ncmp_eq C 36 d_Mo_isSign_9 (by decide) (by omega) (by omega) (fun c_9 => ?_) (fun c_9 => ?_)
    · skip
      refine r_iconst C (nI 1) d_Mo_isSign_36 (by decide) ?_
      refine r_goto C 41 d_Mo_isSign_37 (by decide) ?_
      refine r_eqS (st' := [.int (bI true)]) rfl ?_
      refine r_bret C E d_Mo_isSign_41 (by first | decide | omega | (simp only [rmk]; omega)) (by first | decide | omega | (simp only [rmk]; omega)) ?_
      exact ⟨bsome (by symm; simp [isSgn]; omega), rfl⟩
    · skip
      refine r_iload_n C 0 d_Mo_isSign_12 rfl rfl ?_
      refine r_bipush C (nI 125) d_Mo_isSign_13 (by decide) ?_
      refine r_ncmp_eq C 36 d_Mo_isSign_15 (by decide) (by omega) (by omega) (fun c_15 => ?_) (fun c_15 => ?_)
      · skip
        refine r_iconst C (nI 1) d_Mo_isSign_36 (by decide) ?_
        refine r_goto C 41 d_Mo_isSign_37 (by decide) ?_
        refine r_eqS (st' := [.int (bI true)]) rfl ?_
        refine r_bret C E d_Mo_isSign_41 (by first | decide | omega | (simp only [rmk]; omega)) (by first | decide | omega | (simp only [rmk]; omega)) ?_
        exact ⟨bsome (by symm; simp [isSgn]; omega), rfl⟩
      · skip
        refine r_iload_n C 0 d_Mo_isSign_18 rfl rfl ?_
        refine r_bipush C (nI 61) d_Mo_isSign_19 (by decide) ?_
        refine r_ncmp_eq C 36 d_Mo_isSign_21 (by decide) (by omega) (by omega) (fun c_21 => ?_) (fun c_21 => ?_)
        · skip
          refine r_iconst C (nI 1) d_Mo_isSign_36 (by decide) ?_
          refine r_goto C 41 d_Mo_isSign_37 (by decide) ?_
          refine r_eqS (st' := [.int (bI true)]) rfl ?_
          refine r_bret C E d_Mo_isSign_41 (by first | decide | omega | (simp only [rmk]; omega)) (by first | decide | omega | (simp only [rmk]; omega)) ?_
          exact ⟨bsome (by symm; simp [isSgn]; omega), rfl⟩
        · skip
          refine r_iload_n C 0 d_Mo_isSign_24 rfl rfl ?_
          refine r_bipush C (nI 60) d_Mo_isSign_25 (by decide) ?_
          refine r_ncmp_eq C 36 d_Mo_isSign_27 (by decide) (by omega) (by omega) (fun c_27 => ?_) (fun c_27 => ?_)
          · skip
            refine r_iconst C (nI 1) d_Mo_isSign_36 (by decide) ?_
            refine r_goto C 41 d_Mo_isSign_37 (by decide) ?_
            refine r_eqS (st' := [.int (bI true)]) rfl ?_
            refine r_bret C E d_Mo_isSign_41 (by first | decide | omega | (simp only [rmk]; omega)) (by first | decide | omega | (simp only [rmk]; omega)) ?_
            exact ⟨bsome (by symm; simp [isSgn]; omega), rfl⟩
          · skip
            refine r_iload_n C 0 d_Mo_isSign_30 rfl rfl ?_
            refine r_bipush C (nI 62) d_Mo_isSign_31 (by decide) ?_
            refine r_ncmp_ne C 40 d_Mo_isSign_33 (by decide) (by omega) (by omega) (fun c_33 => ?_) (fun c_33 => ?_)
            · skip
              refine r_iconst C (nI 0) d_Mo_isSign_40 (by decide) ?_
              refine r_eqS (st' := [.int (bI false)]) rfl ?_
              refine r_bret C E d_Mo_isSign_41 (by first | decide | omega | (simp only [rmk]; omega)) (by first | decide | omega | (simp only [rmk]; omega)) ?_
              exact ⟨bsome (by symm; simp [isSgn]; omega), rfl⟩
            · skip
              refine r_iconst C (nI 1) d_Mo_isSign_36 (by decide) ?_
              refine r_goto C 41 d_Mo_isSign_37 (by decide) ?_
              refine r_eqS (st' := [.int (bI true)]) rfl ?_
              refine r_bret C E d_Mo_isSign_41 (by first | decide | omega | (simp only [rmk]; omega)) (by first | decide | omega | (simp only [rmk]; omega)) ?_
              exact ⟨bsome (by symm; simp [isSgn]; omega), rfl⟩

set_option maxHeartbeats 4000000 in
set_option maxRecDepth 100000 in
theorem c_Mo_refuse (g : GG) (l : Launch) {m0 : Nat} {ad : Nat → Nat} {qth : Int32} {qsz : Int32} {qtk : Int32} {qde : Int32} {qru : Int32} {qat : Int32} {qen : Int32} {qto : Int32} {qbe : Int32} {qva : Int32} {qop : Int32} {qwi : Int32} {qhe : Int32} {qrw : Int32} {qma : Int32} {qir : Bool} {qiu : Bool} {wr : Option Nat} {c : Nat}  (hc : c < 2 ^ 31) (hw : ∀ z, wr = some z → z < 2 ^ 31) : Cn g l y_Mo_refuse b_Mo_refuse 2 none (rmk 0 0 0 0) [.ref m0, .int (nI c)] ([(m0, .inr (9, MO ad qth qsz (bI qir) qtk qde qru qat qen qto qbe qva (oI wr) qop (bI qiu) qwi qhe qrw qma))]) (fun (r0 : Option Value) (w0 : va_W) => r0 = none ∧ w0 = [(m0, .inr (9, MO ad qth qsz (bI qir) qtk qde qru qat qen qto qbe qva (oI (wr.orElse fun _ => some c)) qop (bI qiu) qwi qhe qrw qma))]) := by
  refine Cn.of R_Mo [(0, .ref m0), (1, .int (nI c))] (by decide) rfl (Nat.le_of_ble_eq_true rfl) rfl ?_
  intro x A Q hR hXl hin C E
  subst hXl
  refine r_aload_n C 0 d_Mo_refuse_0 rfl rfl ?_
  refine r_get C 0 24 d_Mo_refuse_1 ci_Mo fi_Mo_94 rfl (by decide) rfl rfl ?_
  refine r_if_ge C 12 d_Mo_refuse_4 (by decide) (fun c_4 => ?_) (fun c_4 => ?_)
  · skip
    refine r_vret C E d_Mo_refuse_12 (by first | decide | omega | (simp only [rmk]; omega)) (by first | decide | omega | (simp only [rmk]; omega)) ?_
    obtain ⟨z, rfl⟩ := oI_ge c_4
    exact ⟨rfl, rfl⟩
  · skip
    refine r_aload_n C 0 d_Mo_refuse_7 rfl rfl ?_
    refine r_iload_n C 1 d_Mo_refuse_8 rfl rfl ?_
    refine r_put C (ws' := [(m0, .inr (9, MO ad qth qsz (bI qir) qtk qde qru qat qen qto qbe qva (nI c) qop (bI qiu) qwi qhe qrw qma))]) 0 24 d_Mo_refuse_9 ci_Mo fi_Mo_94 rfl (by decide) rfl rfl (rfl) (rfl) (by simp) rfl ?_
    refine r_vret C E d_Mo_refuse_12 (by first | decide | omega | (simp only [rmk]; omega)) (by first | decide | omega | (simp only [rmk]; omega)) ?_
    have e1 := oI_lt hw c_4
    subst e1
    exact ⟨rfl, rfl⟩

set_option maxHeartbeats 4000000 in
set_option maxRecDepth 100000 in
theorem c_Mo_isSigned (g : GG) (l : Launch) {m0 : Nat} {ad : Nat → Nat} {qth : Int32} {qsz : Int32} {qtk : Int32} {qde : Int32} {qru : Int32} {qat : Int32} {qen : Int32} {qva : Int32} {qwr : Int32} {qop : Int32} {qwi : Int32} {qhe : Int32} {qrw : Int32} {qma : Int32} {qir : Bool} {qiu : Bool} {so : Nat} {sta : Nat} {c : Nat} {T : Nat → Nat}  (hT : ∀ j, T j < 256) (hso : so < 2 ^ 31) (h3 : so = 3 → sta < 2000) (hc : c < 2 ^ 31) : Cn g l y_Mo_isSigned b_Mo_isSigned 2 (some .boolean) (rmk 0 0 0 0) [.ref m0, .int (nI c)] ([(m0, .inr (9, MO ad qth qsz (bI qir) qtk qde qru qat qen (nI so) (nI sta) qva qwr qop (bI qiu) qwi qhe qrw qma)), ((ad 2), .inl (g.2.1 0, 2000, .inl (aI T)))]) (fun (r0 : Option Value) (w0 : va_W) => r0 = some (.int (bI (isSg T so sta c))) ∧ w0 = [(m0, .inr (9, MO ad qth qsz (bI qir) qtk qde qru qat qen (nI so) (nI sta) qva qwr qop (bI qiu) qwi qhe qrw qma)), ((ad 2), .inl (g.2.1 0, 2000, .inl (aI T)))]) := by
  refine Cn.of R_Mo [(0, .ref m0), (1, .int (nI c))] (by decide) rfl (Nat.le_of_ble_eq_true rfl) rfl ?_
  intro x A Q hR hXl hin C E
  subst hXl
  refine r_aload_n C 0 d_Mo_isSigned_0 rfl rfl ?_
  refine r_get C 0 21 d_Mo_isSigned_1 ci_Mo fi_Mo_100 rfl (by decide) rfl rfl ?_
  refine r_iconst C (nI 3) d_Mo_isSigned_4 (by decide) ?_
  refine r_ncmp_ne C 25 d_Mo_isSigned_5 (by decide) (by omega) (by omega) (fun c_5 => ?_) (fun c_5 => ?_)
  · skip
    refine r_iconst C (nI 0) d_Mo_isSigned_25 (by decide) ?_
    refine r_eqS (st' := [.int (bI false)]) rfl ?_
    refine r_bret C E d_Mo_isSigned_26 (by first | decide | omega | (simp only [rmk]; omega)) (by first | decide | omega | (simp only [rmk]; omega)) ?_
    exact ⟨bsome (by symm; simp [isSg]; omega), rfl⟩
  · skip
    have hs3 := h3 c_5
    have hTs := hT sta
    refine r_aload_n C 0 d_Mo_isSigned_8 rfl rfl ?_
    refine r_get C 0 2 d_Mo_isSigned_9 ci_Mo fi_Mo_7 rfl (by decide) rfl rfl ?_
    refine r_aload_n C 0 d_Mo_isSigned_12 rfl rfl ?_
    refine r_get C 0 22 d_Mo_isSigned_13 ci_Mo fi_Mo_106 rfl (by decide) rfl rfl ?_
    refine r_nald C 1 0 d_Mo_isSigned_16 rfl rfl (by omega) (by decide) ?_
    refine r_iload_n C 1 d_Mo_isSigned_17 rfl rfl ?_
    refine r_ncmp_ne C 25 d_Mo_isSigned_18 (by decide) (by omega) (by omega) (fun c_18 => ?_) (fun c_18 => ?_)
    · skip
      refine r_iconst C (nI 0) d_Mo_isSigned_25 (by decide) ?_
      refine r_eqS (st' := [.int (bI false)]) rfl ?_
      refine r_bret C E d_Mo_isSigned_26 (by first | decide | omega | (simp only [rmk]; omega)) (by first | decide | omega | (simp only [rmk]; omega)) ?_
      exact ⟨bsome (by symm; simp [isSg]; omega), rfl⟩
    · skip
      refine r_iconst C (nI 1) d_Mo_isSigned_21 (by decide) ?_
      refine r_goto C 26 d_Mo_isSigned_22 (by decide) ?_
      refine r_eqS (st' := [.int (bI true)]) rfl ?_
      refine r_bret C E d_Mo_isSigned_26 (by first | decide | omega | (simp only [rmk]; omega)) (by first | decide | omega | (simp only [rmk]; omega)) ?_
      exact ⟨bsome (by symm; simp [isSg]; omega), rfl⟩

set_option maxHeartbeats 4000000 in
set_option maxRecDepth 100000 in
theorem c_Mo_x (g : GG) (l : Launch) {m0 : Nat} {ad : Nat → Nat} {qth : Int32} {qsz : Int32} {qtk : Int32} {qde : Int32} {qru : Int32} {qat : Int32} {qen : Int32} {qto : Int32} {qbe : Int32} {qva : Int32} {qwr : Int32} {qop : Int32} {qhe : Int32} {qrw : Int32} {qma : Int32} {qir : Bool} {qiu : Bool} {uw : Nat} {c : Nat}  (hw0 : 0 < uw) (hw1 : uw ≤ 16) (hc : c < 2 ^ 31) : Cn g l y_Mo_x b_Mo_x 2 (some .int) (rmk 0 0 0 0) [.ref m0, .int (nI c)] ([(m0, .inr (9, MO ad qth qsz (bI qir) qtk qde qru qat qen qto qbe qva qwr qop (bI qiu) (nI uw) qhe qrw qma))]) (fun (r0 : Option Value) (w0 : va_W) => r0 = some (.int (nI (c % uw))) ∧ w0 = [(m0, .inr (9, MO ad qth qsz (bI qir) qtk qde qru qat qen qto qbe qva qwr qop (bI qiu) (nI uw) qhe qrw qma))]) := by
  refine Cn.of R_Mo [(0, .ref m0), (1, .int (nI c))] (by decide) rfl (Nat.le_of_ble_eq_true rfl) rfl ?_
  intro x A Q hR hXl hin C E
  subst hXl
  refine r_iload_n C 1 d_Mo_x_0 rfl rfl ?_
  refine r_aload_n C 0 d_Mo_x_1 rfl rfl ?_
  refine r_get C 0 30 d_Mo_x_2 ci_Mo fi_Mo_218 rfl (by decide) rfl rfl ?_
  refine r_nrem C d_Mo_x_5 (by omega) (by omega) (by omega) ?_
  refine r_iret C E d_Mo_x_6 (by first | decide | omega | (simp only [rmk]; omega)) (by first | decide | omega | (simp only [rmk]; omega)) ?_
  exact ⟨rfl, rfl⟩

set_option maxHeartbeats 4000000 in
set_option maxRecDepth 100000 in
theorem c_Mo_y (g : GG) (l : Launch) {m0 : Nat} {ad : Nat → Nat} {qth : Int32} {qsz : Int32} {qtk : Int32} {qde : Int32} {qru : Int32} {qat : Int32} {qen : Int32} {qto : Int32} {qbe : Int32} {qva : Int32} {qwr : Int32} {qop : Int32} {qhe : Int32} {qrw : Int32} {qma : Int32} {qir : Bool} {qiu : Bool} {uw : Nat} {c : Nat}  (hw0 : 0 < uw) (hw1 : uw ≤ 16) (hc : c < 2 ^ 31) : Cn g l y_Mo_y b_Mo_y 2 (some .int) (rmk 0 0 0 0) [.ref m0, .int (nI c)] ([(m0, .inr (9, MO ad qth qsz (bI qir) qtk qde qru qat qen qto qbe qva qwr qop (bI qiu) (nI uw) qhe qrw qma))]) (fun (r0 : Option Value) (w0 : va_W) => r0 = some (.int (nI (c / uw))) ∧ w0 = [(m0, .inr (9, MO ad qth qsz (bI qir) qtk qde qru qat qen qto qbe qva qwr qop (bI qiu) (nI uw) qhe qrw qma))]) := by
  refine Cn.of R_Mo [(0, .ref m0), (1, .int (nI c))] (by decide) rfl (Nat.le_of_ble_eq_true rfl) rfl ?_
  intro x A Q hR hXl hin C E
  subst hXl
  refine r_iload_n C 1 d_Mo_y_0 rfl rfl ?_
  refine r_aload_n C 0 d_Mo_y_1 rfl rfl ?_
  refine r_get C 0 30 d_Mo_y_2 ci_Mo fi_Mo_218 rfl (by decide) rfl rfl ?_
  refine r_ndiv C d_Mo_y_5 (by omega) (by omega) (by omega) ?_
  refine r_iret C E d_Mo_y_6 (by first | decide | omega | (simp only [rmk]; omega)) (by first | decide | omega | (simp only [rmk]; omega)) ?_
  exact ⟨rfl, rfl⟩

set_option maxHeartbeats 4000000 in
set_option maxRecDepth 100000 in
theorem c_Mo_depth (g : GG) (l : Launch) {m0 : Nat} {ad : Nat → Nat} {qth : Int32} {qsz : Int32} {qtk : Int32} {qru : Int32} {qat : Int32} {qen : Int32} {qto : Int32} {qbe : Int32} {qva : Int32} {qwr : Int32} {qop : Int32} {qwi : Int32} {qhe : Int32} {qrw : Int32} {qma : Int32} {qir : Bool} {qiu : Bool} {dp : Nat}   : Cn g l y_Mo_depth b_Mo_depth 1 (some .int) (rmk 0 0 0 0) [.ref m0] ([(m0, .inr (9, MO ad qth qsz (bI qir) qtk (nI dp) qru qat qen qto qbe qva qwr qop (bI qiu) qwi qhe qrw qma))]) (fun (r0 : Option Value) (w0 : va_W) => r0 = some (.int (nI dp)) ∧ w0 = [(m0, .inr (9, MO ad (nI 0) qsz (bI qir) qtk (nI dp) qru qat qen qto qbe qva qwr qop (bI qiu) qwi qhe qrw qma))]) := by
  refine Cn.of R_Mo [(0, .ref m0)] (by decide) rfl (Nat.le_of_ble_eq_true rfl) rfl ?_
  intro x A Q hR hXl hin C E
  subst hXl
  refine r_aload_n C 0 d_Mo_depth_0 rfl rfl ?_
  refine r_iconst C (nI 0) d_Mo_depth_1 (by decide) ?_
  refine r_put C (ws' := [(m0, .inr (9, MO ad (nI 0) qsz (bI qir) qtk (nI dp) qru qat qen qto qbe qva qwr qop (bI qiu) qwi qhe qrw qma))]) 0 0 d_Mo_depth_2 ci_Mo fi_Mo_87 rfl (by decide) rfl rfl (rfl) (rfl) (by simp) rfl ?_
  refine r_aload_n C 0 d_Mo_depth_5 rfl rfl ?_
  refine r_get C 0 8 d_Mo_depth_6 ci_Mo fi_Mo_162 rfl (by decide) rfl rfl ?_
  refine r_iret C E d_Mo_depth_9 (by first | decide | omega | (simp only [rmk]; omega)) (by first | decide | omega | (simp only [rmk]; omega)) ?_
  exact ⟨rfl, rfl⟩
