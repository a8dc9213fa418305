/-- the answer v, or 0 and a throw -/
def Ans (c : Prop) (v : Int32) (th rv : Int32) : Prop := (c ∧ th = 0 ∧ rv = v) ∨ (¬ c ∧ th = 1 ∧ rv = 0)
theorem nI_c {z : Int32} (h : ¬ z < 0) : ∃ j, j < 2 ^ 31 ∧ z = nI j := by
  obtain ⟨j, h1, h2⟩ := nI_of h
  exact ⟨j, h1, h2⟩
/-- what row tells, by the arrays -/
def rowW (RR KI RB : Nat → Nat) (CO NU CN : Nat → Option Nat) (j y : Nat) : Int32 := if y = 0 then nI (RR j) else if y = 1 then nI (KI (RR j)) else if y = 2 then oI (CO (RR j)) else if y = 3 then oI (NU (RR j)) else if y = 4 then oI (CN (RR j)) else nI (RB (j + 1) - RB j)
theorem and_row {q : Bool} {rc : Nat} {z : Int32} (h : (q && hasK rc (inN z)) = true) : q = true ∧ hasK rc (inN z) = true ∧ ∃ j, j < rc ∧ z = nI j := by
  rw [Bool.and_eq_true] at h
  exact ⟨h.1, h.2, hasK_true h.2⟩
theorem and_no {q : Bool} {rc : Nat} {z : Int32} (h : (q && hasK rc (inN z)) = false) : ¬ (q = true ∧ hasK rc (inN z) = true) := fun w => by rw [w.1, w.2] at h; cases h
theorem le5 {y : Nat} (hy : y < 2 ^ 31) (h : nI y ≤ nI 5) : y ≤ 5 := (nI_leI hy (by decide)).mp h
def PlaR (q : Bool) (RB PL : Nat → Nat) (rc : Nat) (z y th rv : Int32) : Prop := (q = true ∧ (∃ v, placeK RB PL rc (inN z) (inN y) = some v ∧ rv = nI v) ∧ th = 0) ∨ ((q = true → placeK RB PL rc (inN z) (inN y) = none) ∧ th = 1 ∧ rv = 0)
theorem pl_n1 {q : Bool} {RB PL : Nat → Nat} {rc : Nat} {z y : Int32} (h : (q && hasK rc (inN z)) = false) : q = true → placeK RB PL rc (inN z) (inN y) = none := fun w => placeK_none (by rw [w] at h; simpa using h)

set_option maxRecDepth 100000 in
theorem fi_Mo_58 : FI R_Mo 58 R_Mo F_Mo 33 := Or.inl (gw (i := 933) rfl rfl)
set_option maxRecDepth 100000 in
theorem fi_Mo_61 : FI R_Mo 61 R_Mo F_Mo 34 := Or.inl (gw (i := 934) rfl rfl)
set_option maxRecDepth 100000 in
theorem fi_Mo_64 : FI R_Mo 64 R_Mo F_Mo 35 := Or.inl (gw (i := 935) rfl rfl)
set_option maxRecDepth 100000 in
theorem lk_Mo_270 : LK R_Mo 270 y_Mo_says := Or.inl (gw (i := 1147) rfl rfl)
set_option maxRecDepth 100000 in
theorem lk_Mo_276 : LK R_Mo 276 y_Mo_isRow := Or.inl (gw (i := 1206) rfl rfl)
set_option maxRecDepth 100000 in
theorem mw_Mo_isRow : MW y_Mo_isRow b_Mo_isRow 2 (some .boolean) 1 := ⟨(gw (i := 1209) rfl rfl), (gw (i := 80) rfl rfl), by decide +kernel⟩
set_option maxRecDepth 100000 in
theorem mw_Mo_says : MW y_Mo_says b_Mo_says 2 (some .boolean) 1 := ⟨(gw (i := 1150) rfl rfl), (gw (i := 80) rfl rfl), by decide +kernel⟩
set_option maxRecDepth 100000 in
theorem vw_Mo_isRow : VW y_Mo_isRow := ⟨(gw (i := 1208) rfl rfl), (gw (i := 71) rfl rfl)⟩
set_option maxRecDepth 100000 in
theorem vw_Mo_says : VW y_Mo_says := ⟨(gw (i := 1149) rfl rfl), (gw (i := 58) rfl rfl)⟩
theorem d_Mo_given_0 : decode b_Mo_given 0 = .ok (.aload_n 0, 1) := by decide +kernel
theorem d_Mo_given_1 : decode b_Mo_given 1 = .ok (.iconst 0, 1) := by decide +kernel
theorem d_Mo_given_2 : decode b_Mo_given 2 = .ok (.putfield 87, 3) := by decide +kernel
theorem d_Mo_given_5 : decode b_Mo_given 5 = .ok (.iconst 0, 1) := by decide +kernel
theorem d_Mo_given_6 : decode b_Mo_given 6 = .ok (.istore_n 2, 1) := by decide +kernel
theorem d_Mo_given_7 : decode b_Mo_given 7 = .ok (.iconst 0, 1) := by decide +kernel
theorem d_Mo_given_8 : decode b_Mo_given 8 = .ok (.istore_n 3, 1) := by decide +kernel
theorem d_Mo_given_9 : decode b_Mo_given 9 = .ok (.iload_n 3, 1) := by decide +kernel
theorem d_Mo_given_10 : decode b_Mo_given 10 = .ok (.aload_n 0, 1) := by decide +kernel
theorem d_Mo_given_11 : decode b_Mo_given 11 = .ok (.getfield 184, 3) := by decide +kernel
theorem d_Mo_given_14 : decode b_Mo_given 14 = .ok (.if_icmp .ge 38, 3) := by decide +kernel
theorem d_Mo_given_17 : decode b_Mo_given 17 = .ok (.iload_n 2, 1) := by decide +kernel
theorem d_Mo_given_18 : decode b_Mo_given 18 = .ok (.aload_n 0, 1) := by decide +kernel
theorem d_Mo_given_19 : decode b_Mo_given 19 = .ok (.getfield 22, 3) := by decide +kernel
theorem d_Mo_given_22 : decode b_Mo_given 22 = .ok (.iload_n 3, 1) := by decide +kernel
theorem d_Mo_given_23 : decode b_Mo_given 23 = .ok (.iaload, 1) := by decide +kernel
theorem d_Mo_given_24 : decode b_Mo_given 24 = .ok (.bipush 6, 2) := by decide +kernel
theorem d_Mo_given_26 : decode b_Mo_given 26 = .ok (.if_icmp .ne 17, 3) := by decide +kernel
theorem d_Mo_given_29 : decode b_Mo_given 29 = .ok (.aload_n 0, 1) := by decide +kernel
theorem d_Mo_given_30 : decode b_Mo_given 30 = .ok (.getfield 28, 3) := by decide +kernel
theorem d_Mo_given_33 : decode b_Mo_given 33 = .ok (.iload_n 3, 1) := by decide +kernel
theorem d_Mo_given_34 : decode b_Mo_given 34 = .ok (.iaload, 1) := by decide +kernel
theorem d_Mo_given_35 : decode b_Mo_given 35 = .ok (.iload_n 1, 1) := by decide +kernel
theorem d_Mo_given_36 : decode b_Mo_given 36 = .ok (.if_icmp .ne 7, 3) := by decide +kernel
theorem d_Mo_given_39 : decode b_Mo_given 39 = .ok (.iconst 1, 1) := by decide +kernel
theorem d_Mo_given_40 : decode b_Mo_given 40 = .ok (.goto 4, 3) := by decide +kernel
theorem d_Mo_given_43 : decode b_Mo_given 43 = .ok (.iconst 0, 1) := by decide +kernel
theorem d_Mo_given_44 : decode b_Mo_given 44 = .ok (.iadd, 1) := by decide +kernel
theorem d_Mo_given_45 : decode b_Mo_given 45 = .ok (.istore_n 2, 1) := by decide +kernel
theorem d_Mo_given_46 : decode b_Mo_given 46 = .ok (.iinc 3 1, 3) := by decide +kernel
theorem d_Mo_given_49 : decode b_Mo_given 49 = .ok (.goto (-40), 3) := by decide +kernel
theorem d_Mo_given_52 : decode b_Mo_given 52 = .ok (.iload_n 2, 1) := by decide +kernel
theorem d_Mo_given_53 : decode b_Mo_given 53 = .ok (.ireturn, 1) := by decide +kernel
theorem d_Mo_line_0 : decode b_Mo_line 0 = .ok (.aload_n 0, 1) := by decide +kernel
theorem d_Mo_line_1 : decode b_Mo_line 1 = .ok (.iload_n 1, 1) := by decide +kernel
theorem d_Mo_line_2 : decode b_Mo_line 2 = .ok (.ifCond .lt 15, 3) := by decide +kernel
theorem d_Mo_line_5 : decode b_Mo_line 5 = .ok (.iload_n 1, 1) := by decide +kernel
theorem d_Mo_line_6 : decode b_Mo_line 6 = .ok (.aload_n 0, 1) := by decide +kernel
theorem d_Mo_line_7 : decode b_Mo_line 7 = .ok (.getfield 184, 3) := by decide +kernel
theorem d_Mo_line_10 : decode b_Mo_line 10 = .ok (.if_icmp .ge 7, 3) := by decide +kernel
theorem d_Mo_line_13 : decode b_Mo_line 13 = .ok (.iconst 0, 1) := by decide +kernel
theorem d_Mo_line_14 : decode b_Mo_line 14 = .ok (.goto 4, 3) := by decide +kernel
theorem d_Mo_line_17 : decode b_Mo_line 17 = .ok (.iconst 1, 1) := by decide +kernel
theorem d_Mo_line_18 : decode b_Mo_line 18 = .ok (.invokevirtual 270, 3) := by decide +kernel
theorem d_Mo_line_21 : decode b_Mo_line 21 = .ok (.ifCond .eq 12, 3) := by decide +kernel
theorem d_Mo_line_24 : decode b_Mo_line 24 = .ok (.aload_n 0, 1) := by decide +kernel
theorem d_Mo_line_25 : decode b_Mo_line 25 = .ok (.getfield 34, 3) := by decide +kernel
theorem d_Mo_line_28 : decode b_Mo_line 28 = .ok (.iload_n 1, 1) := by decide +kernel
theorem d_Mo_line_29 : decode b_Mo_line 29 = .ok (.iaload, 1) := by decide +kernel
theorem d_Mo_line_30 : decode b_Mo_line 30 = .ok (.goto 4, 3) := by decide +kernel
theorem d_Mo_line_33 : decode b_Mo_line 33 = .ok (.iconst 0, 1) := by decide +kernel
theorem d_Mo_line_34 : decode b_Mo_line 34 = .ok (.ireturn, 1) := by decide +kernel
theorem d_Mo_row_0 : decode b_Mo_row 0 = .ok (.aload_n 0, 1) := by decide +kernel
theorem d_Mo_row_1 : decode b_Mo_row 1 = .ok (.aload_n 0, 1) := by decide +kernel
theorem d_Mo_row_2 : decode b_Mo_row 2 = .ok (.iload_n 1, 1) := by decide +kernel
theorem d_Mo_row_3 : decode b_Mo_row 3 = .ok (.invokevirtual 276, 3) := by decide +kernel
theorem d_Mo_row_6 : decode b_Mo_row 6 = .ok (.ifCond .eq 16, 3) := by decide +kernel
theorem d_Mo_row_9 : decode b_Mo_row 9 = .ok (.iload_n 2, 1) := by decide +kernel
theorem d_Mo_row_10 : decode b_Mo_row 10 = .ok (.ifCond .lt 12, 3) := by decide +kernel
theorem d_Mo_row_13 : decode b_Mo_row 13 = .ok (.iload_n 2, 1) := by decide +kernel
theorem d_Mo_row_14 : decode b_Mo_row 14 = .ok (.iconst 5, 1) := by decide +kernel
theorem d_Mo_row_15 : decode b_Mo_row 15 = .ok (.if_icmp .gt 7, 3) := by decide +kernel
theorem d_Mo_row_18 : decode b_Mo_row 18 = .ok (.iconst 0, 1) := by decide +kernel
theorem d_Mo_row_19 : decode b_Mo_row 19 = .ok (.goto 4, 3) := by decide +kernel
theorem d_Mo_row_22 : decode b_Mo_row 22 = .ok (.iconst 1, 1) := by decide +kernel
theorem d_Mo_row_23 : decode b_Mo_row 23 = .ok (.invokevirtual 270, 3) := by decide +kernel
theorem d_Mo_row_26 : decode b_Mo_row 26 = .ok (.ifCond .ne 5, 3) := by decide +kernel
theorem d_Mo_row_29 : decode b_Mo_row 29 = .ok (.iconst 0, 1) := by decide +kernel
theorem d_Mo_row_30 : decode b_Mo_row 30 = .ok (.ireturn, 1) := by decide +kernel
theorem d_Mo_row_31 : decode b_Mo_row 31 = .ok (.aload_n 0, 1) := by decide +kernel
theorem d_Mo_row_32 : decode b_Mo_row 32 = .ok (.getfield 58, 3) := by decide +kernel
theorem d_Mo_row_35 : decode b_Mo_row 35 = .ok (.iload_n 1, 1) := by decide +kernel
theorem d_Mo_row_36 : decode b_Mo_row 36 = .ok (.iaload, 1) := by decide +kernel
theorem d_Mo_row_37 : decode b_Mo_row 37 = .ok (.istore_n 3, 1) := by decide +kernel
theorem d_Mo_row_38 : decode b_Mo_row 38 = .ok (.iload_n 2, 1) := by decide +kernel
theorem d_Mo_row_39 : decode b_Mo_row 39 = .ok (.tableswitch 63 0 4 #[33, 35, 42, 49, 56], 33) := by decide +kernel
theorem d_Mo_row_72 : decode b_Mo_row 72 = .ok (.iload_n 3, 1) := by decide +kernel
theorem d_Mo_row_73 : decode b_Mo_row 73 = .ok (.ireturn, 1) := by decide +kernel
theorem d_Mo_row_74 : decode b_Mo_row 74 = .ok (.aload_n 0, 1) := by decide +kernel
theorem d_Mo_row_75 : decode b_Mo_row 75 = .ok (.getfield 22, 3) := by decide +kernel
theorem d_Mo_row_78 : decode b_Mo_row 78 = .ok (.iload_n 3, 1) := by decide +kernel
theorem d_Mo_row_79 : decode b_Mo_row 79 = .ok (.iaload, 1) := by decide +kernel
theorem d_Mo_row_80 : decode b_Mo_row 80 = .ok (.ireturn, 1) := by decide +kernel
theorem d_Mo_row_81 : decode b_Mo_row 81 = .ok (.aload_n 0, 1) := by decide +kernel
theorem d_Mo_row_82 : decode b_Mo_row 82 = .ok (.getfield 25, 3) := by decide +kernel
theorem d_Mo_row_85 : decode b_Mo_row 85 = .ok (.iload_n 3, 1) := by decide +kernel
theorem d_Mo_row_86 : decode b_Mo_row 86 = .ok (.iaload, 1) := by decide +kernel
theorem d_Mo_row_87 : decode b_Mo_row 87 = .ok (.ireturn, 1) := by decide +kernel
theorem d_Mo_row_88 : decode b_Mo_row 88 = .ok (.aload_n 0, 1) := by decide +kernel
theorem d_Mo_row_89 : decode b_Mo_row 89 = .ok (.getfield 28, 3) := by decide +kernel
theorem d_Mo_row_92 : decode b_Mo_row 92 = .ok (.iload_n 3, 1) := by decide +kernel
theorem d_Mo_row_93 : decode b_Mo_row 93 = .ok (.iaload, 1) := by decide +kernel
theorem d_Mo_row_94 : decode b_Mo_row 94 = .ok (.ireturn, 1) := by decide +kernel
theorem d_Mo_row_95 : decode b_Mo_row 95 = .ok (.aload_n 0, 1) := by decide +kernel
theorem d_Mo_row_96 : decode b_Mo_row 96 = .ok (.getfield 31, 3) := by decide +kernel
theorem d_Mo_row_99 : decode b_Mo_row 99 = .ok (.iload_n 3, 1) := by decide +kernel
theorem d_Mo_row_100 : decode b_Mo_row 100 = .ok (.iaload, 1) := by decide +kernel
theorem d_Mo_row_101 : decode b_Mo_row 101 = .ok (.ireturn, 1) := by decide +kernel
theorem d_Mo_row_102 : decode b_Mo_row 102 = .ok (.aload_n 0, 1) := by decide +kernel
theorem d_Mo_row_103 : decode b_Mo_row 103 = .ok (.getfield 61, 3) := by decide +kernel
theorem d_Mo_row_106 : decode b_Mo_row 106 = .ok (.iload_n 1, 1) := by decide +kernel
theorem d_Mo_row_107 : decode b_Mo_row 107 = .ok (.iconst 1, 1) := by decide +kernel
theorem d_Mo_row_108 : decode b_Mo_row 108 = .ok (.iadd, 1) := by decide +kernel
theorem d_Mo_row_109 : decode b_Mo_row 109 = .ok (.iaload, 1) := by decide +kernel
theorem d_Mo_row_110 : decode b_Mo_row 110 = .ok (.aload_n 0, 1) := by decide +kernel
theorem d_Mo_row_111 : decode b_Mo_row 111 = .ok (.getfield 61, 3) := by decide +kernel
theorem d_Mo_row_114 : decode b_Mo_row 114 = .ok (.iload_n 1, 1) := by decide +kernel
theorem d_Mo_row_115 : decode b_Mo_row 115 = .ok (.iaload, 1) := by decide +kernel
theorem d_Mo_row_116 : decode b_Mo_row 116 = .ok (.isub, 1) := by decide +kernel
theorem d_Mo_row_117 : decode b_Mo_row 117 = .ok (.ireturn, 1) := by decide +kernel
theorem d_Mo_place_0 : decode b_Mo_place 0 = .ok (.aload_n 0, 1) := by decide +kernel
theorem d_Mo_place_1 : decode b_Mo_place 1 = .ok (.iload_n 1, 1) := by decide +kernel
theorem d_Mo_place_2 : decode b_Mo_place 2 = .ok (.invokevirtual 276, 3) := by decide +kernel
theorem d_Mo_place_5 : decode b_Mo_place 5 = .ok (.ifCond .eq 54, 3) := by decide +kernel
theorem d_Mo_place_8 : decode b_Mo_place 8 = .ok (.iload_n 2, 1) := by decide +kernel
theorem d_Mo_place_9 : decode b_Mo_place 9 = .ok (.ifCond .lt 50, 3) := by decide +kernel
theorem d_Mo_place_12 : decode b_Mo_place 12 = .ok (.iload_n 2, 1) := by decide +kernel
theorem d_Mo_place_13 : decode b_Mo_place 13 = .ok (.aload_n 0, 1) := by decide +kernel
theorem d_Mo_place_14 : decode b_Mo_place 14 = .ok (.getfield 61, 3) := by decide +kernel
theorem d_Mo_place_17 : decode b_Mo_place 17 = .ok (.aload_n 0, 1) := by decide +kernel
theorem d_Mo_place_18 : decode b_Mo_place 18 = .ok (.iload_n 1, 1) := by decide +kernel
theorem d_Mo_place_19 : decode b_Mo_place 19 = .ok (.invokevirtual 276, 3) := by decide +kernel
theorem d_Mo_place_22 : decode b_Mo_place 22 = .ok (.ifCond .eq 9, 3) := by decide +kernel
theorem d_Mo_place_25 : decode b_Mo_place 25 = .ok (.iload_n 1, 1) := by decide +kernel
theorem d_Mo_place_26 : decode b_Mo_place 26 = .ok (.iconst 1, 1) := by decide +kernel
theorem d_Mo_place_27 : decode b_Mo_place 27 = .ok (.iadd, 1) := by decide +kernel
theorem d_Mo_place_28 : decode b_Mo_place 28 = .ok (.goto 4, 3) := by decide +kernel
theorem d_Mo_place_31 : decode b_Mo_place 31 = .ok (.iconst 0, 1) := by decide +kernel
theorem d_Mo_place_32 : decode b_Mo_place 32 = .ok (.iaload, 1) := by decide +kernel
theorem d_Mo_place_33 : decode b_Mo_place 33 = .ok (.aload_n 0, 1) := by decide +kernel
theorem d_Mo_place_34 : decode b_Mo_place 34 = .ok (.getfield 61, 3) := by decide +kernel
theorem d_Mo_place_37 : decode b_Mo_place 37 = .ok (.aload_n 0, 1) := by decide +kernel
theorem d_Mo_place_38 : decode b_Mo_place 38 = .ok (.iload_n 1, 1) := by decide +kernel
theorem d_Mo_place_39 : decode b_Mo_place 39 = .ok (.invokevirtual 276, 3) := by decide +kernel
theorem d_Mo_place_42 : decode b_Mo_place 42 = .ok (.ifCond .eq 7, 3) := by decide +kernel
theorem d_Mo_place_45 : decode b_Mo_place 45 = .ok (.iload_n 1, 1) := by decide +kernel
theorem d_Mo_place_46 : decode b_Mo_place 46 = .ok (.goto 4, 3) := by decide +kernel
theorem d_Mo_place_49 : decode b_Mo_place 49 = .ok (.iconst 0, 1) := by decide +kernel
theorem d_Mo_place_50 : decode b_Mo_place 50 = .ok (.iaload, 1) := by decide +kernel
theorem d_Mo_place_51 : decode b_Mo_place 51 = .ok (.isub, 1) := by decide +kernel
theorem d_Mo_place_52 : decode b_Mo_place 52 = .ok (.if_icmp .ge 7, 3) := by decide +kernel
theorem d_Mo_place_55 : decode b_Mo_place 55 = .ok (.iconst 1, 1) := by decide +kernel
theorem d_Mo_place_56 : decode b_Mo_place 56 = .ok (.goto 4, 3) := by decide +kernel
theorem d_Mo_place_59 : decode b_Mo_place 59 = .ok (.iconst 0, 1) := by decide +kernel
theorem d_Mo_place_60 : decode b_Mo_place 60 = .ok (.istore_n 3, 1) := by decide +kernel
theorem d_Mo_place_61 : decode b_Mo_place 61 = .ok (.aload_n 0, 1) := by decide +kernel
theorem d_Mo_place_62 : decode b_Mo_place 62 = .ok (.iload_n 3, 1) := by decide +kernel
theorem d_Mo_place_63 : decode b_Mo_place 63 = .ok (.ifCond .eq 7, 3) := by decide +kernel
theorem d_Mo_place_66 : decode b_Mo_place 66 = .ok (.iconst 0, 1) := by decide +kernel
theorem d_Mo_place_67 : decode b_Mo_place 67 = .ok (.goto 4, 3) := by decide +kernel
theorem d_Mo_place_70 : decode b_Mo_place 70 = .ok (.iconst 1, 1) := by decide +kernel
theorem d_Mo_place_71 : decode b_Mo_place 71 = .ok (.invokevirtual 270, 3) := by decide +kernel
theorem d_Mo_place_74 : decode b_Mo_place 74 = .ok (.ifCond .eq 19, 3) := by decide +kernel
theorem d_Mo_place_77 : decode b_Mo_place 77 = .ok (.aload_n 0, 1) := by decide +kernel
theorem d_Mo_place_78 : decode b_Mo_place 78 = .ok (.getfield 64, 3) := by decide +kernel
theorem d_Mo_place_81 : decode b_Mo_place 81 = .ok (.aload_n 0, 1) := by decide +kernel
theorem d_Mo_place_82 : decode b_Mo_place 82 = .ok (.getfield 61, 3) := by decide +kernel
theorem d_Mo_place_85 : decode b_Mo_place 85 = .ok (.iload_n 1, 1) := by decide +kernel
theorem d_Mo_place_86 : decode b_Mo_place 86 = .ok (.iaload, 1) := by decide +kernel
theorem d_Mo_place_87 : decode b_Mo_place 87 = .ok (.iload_n 2, 1) := by decide +kernel
theorem d_Mo_place_88 : decode b_Mo_place 88 = .ok (.iadd, 1) := by decide +kernel
theorem d_Mo_place_89 : decode b_Mo_place 89 = .ok (.iaload, 1) := by decide +kernel
theorem d_Mo_place_90 : decode b_Mo_place 90 = .ok (.goto 4, 3) := by decide +kernel
theorem d_Mo_place_93 : decode b_Mo_place 93 = .ok (.iconst 0, 1) := by decide +kernel
theorem d_Mo_place_94 : decode b_Mo_place 94 = .ok (.ireturn, 1) := by decide +kernel
set_option maxHeartbeats 4000000 in
set_option maxRecDepth 100000 in
theorem lp_Mo_given_9 (g : GG) {m0 : Nat} {ad : Nat → Nat} {qth : Int32} {qsz : Int32} {qtk : Int32} {qde : Int32} {qat : Int32} {qen : Int32} {qto : Int32} {qbe : Int32} {qva : Int32} {qwr : Int32} {qop : Int32} {qwi : Int32} {qhe : Int32} {qrw : Int32} {qma : Int32} {qir : Bool} {qiu : Bool} {z : Int32} {KI : Nat → Nat} {NU : Nat → Option Nat} {rules : List RuleV} (h1 : rules.length ≤ 400) (hA : ∀ (i : Nat) (r : RuleV), rules[i]? = some r → KI i = r.1 ∧ NU i = r.2.2.2.2.1) (hki : ∀ r ∈ rules, r.1 < 2 ^ 31) {x : X0} {A : Nat → Prop} {Q : State → Prop}  (C : CX x g A R_Mo b_Mo_given 4) (E : RX x g A Q (some .int) (fun (r0 : Option Value) (w0 : va_W) => r0 = some (.int (nI (givenN rules z rules.length))) ∧ w0 = [(m0, .inr (9, MO ad (nI 0) qsz (bI qir) qtk qde (nI rules.length) qat qen qto qbe qva qwr qop (bI qiu) qwi qhe qrw qma)), ((ad 10), .inl (g.2.1 0, 500, .inl (aI KI))), ((ad 12), .inl (g.2.1 0, 500, .inl (oA NU)))]) (rmk 0 0 0 0).cells (rmk 0 0 0 0).slots) (hR : xR x = (rmk 0 0 0 0)) : ∀ (fuel : Nat) (d : Nat) (c : Nat) (hc : c ≤ rules.length) (hd : d = givenN rules z c), rules.length - c < fuel → J x g A Q 4 ([(m0, .inr (9, MO ad (nI 0) qsz (bI qir) qtk qde (nI rules.length) qat qen qto qbe qva qwr qop (bI qiu) qwi qhe qrw qma)), ((ad 10), .inl (g.2.1 0, 500, .inl (aI KI))), ((ad 12), .inl (g.2.1 0, 500, .inl (oA NU)))]) [(0, .ref m0), (1, .int z), (2, .int (nI d)), (3, .int (nI c))] 9 [] 0 0 := by
  intro fuel
  induction fuel with
  | zero =>
    intro d c hc hd hm
    exact absurd hm (Nat.not_lt_zero _)
  | succ fuel ih =>
    intro d c hc hd hm
    refine r_iload_n C 3 d_Mo_given_9 rfl rfl ?_
    refine r_aload_n C 0 d_Mo_given_10 rfl rfl ?_
    refine r_get C 0 9 d_Mo_given_11 ci_Mo fi_Mo_184 rfl (by decide) rfl rfl ?_
    refine r_ncmp_ge C 52 d_Mo_given_14 (by decide) (by omega) (by omega) (fun c_14 => ?_) (fun c_14 => ?_)
    · skip
      refine r_iload_n C 2 d_Mo_given_52 rfl rfl ?_
      refine r_iret C E d_Mo_given_53 (by first | decide | omega | (simp only [rmk]; omega)) (by first | decide | omega | (simp only [rmk]; omega)) ?_
      exact ⟨by rw [hd, show c = rules.length by omega], rfl⟩
    · skip
      obtain ⟨rv, hrv⟩ : ∃ rv, rules[c]? = some rv := ⟨_, List.getElem?_eq_getElem (by omega)⟩
      have hKN := hA c rv hrv
      have hkr := hki rv (List.mem_of_getElem? hrv)
      have hkc : KI c < 2 ^ 31 := by rw [hKN.1]; exact hkr
      refine r_iload_n C 2 d_Mo_given_17 rfl rfl ?_
      refine r_aload_n C 0 d_Mo_given_18 rfl rfl ?_
      refine r_get C 0 10 d_Mo_given_19 ci_Mo fi_Mo_22 rfl (by decide) rfl rfl ?_
      refine r_iload_n C 3 d_Mo_given_22 rfl rfl ?_
      refine r_nald C 1 0 d_Mo_given_23 rfl rfl (by omega) (by decide) ?_
      refine r_bipush C (nI 6) d_Mo_given_24 (by decide) ?_
      refine r_ncmp_ne C 43 d_Mo_given_26 (by decide) (by omega) (by omega) (fun c_26 => ?_) (fun c_26 => ?_)
      · skip
        refine r_iconst C (nI 0) d_Mo_given_43 (by decide) ?_
        refine r_nadd C d_Mo_given_44 ?_
        refine r_istore_n C (lv' := [(2, .int (nI (d + 0))), (0, .ref m0), (1, .int z), (3, .int (nI c))]) d_Mo_given_45 rfl (by decide) rfl ?_
        refine r_iinc C 3 (nI (c + 1)) (lv' := [(3, .int (nI (c + 1))), (2, .int (nI (d + 0))), (0, .ref m0), (1, .int z)]) d_Mo_given_46 rfl (nI_inc 1 _) (by decide) rfl ?_
        refine r_goto C 9 d_Mo_given_49 (by decide) ?_
        refine r_lv (lv' := [(0, .ref m0), (1, .int z), (2, .int (nI (d + 0))), (3, .int (nI (c + 1)))]) [2, 3, 1, 0] rfl ?_
        exact ih (d + 0) (c + 1) (by first | assumption | rfl | omega) (by first | (rw [Nat.add_zero, givenN_succ hrv, if_neg (fun q => c_26 (hKN.1.trans q.1)), ← hd]; done) | (rw [Nat.add_zero, givenN_succ hrv, if_neg (fun q => c_36 (by rw [hKN.2]; exact q.2)), ← hd]; done)) (by omega)
      · skip
        refine r_aload_n C 0 d_Mo_given_29 rfl rfl ?_
        refine r_get C 0 12 d_Mo_given_30 ci_Mo fi_Mo_28 rfl (by decide) rfl rfl ?_
        refine r_iload_n C 3 d_Mo_given_33 rfl rfl ?_
        refine r_oald C 2 0 d_Mo_given_34 rfl rfl (by omega) (by decide) ?_
        refine r_iload_n C 1 d_Mo_given_35 rfl rfl ?_
        refine r_icmp_ne C 43 d_Mo_given_36 (by decide) (fun c_36 => ?_) (fun c_36 => ?_)
        · skip
          refine r_iconst C (nI 0) d_Mo_given_43 (by decide) ?_
          refine r_nadd C d_Mo_given_44 ?_
          refine r_istore_n C (lv' := [(2, .int (nI (d + 0))), (0, .ref m0), (1, .int z), (3, .int (nI c))]) d_Mo_given_45 rfl (by decide) rfl ?_
          refine r_iinc C 3 (nI (c + 1)) (lv' := [(3, .int (nI (c + 1))), (2, .int (nI (d + 0))), (0, .ref m0), (1, .int z)]) d_Mo_given_46 rfl (nI_inc 1 _) (by decide) rfl ?_
          refine r_goto C 9 d_Mo_given_49 (by decide) ?_
          refine r_lv (lv' := [(0, .ref m0), (1, .int z), (2, .int (nI (d + 0))), (3, .int (nI (c + 1)))]) [2, 3, 1, 0] rfl ?_
          exact ih (d + 0) (c + 1) (by first | assumption | rfl | omega) (by first | (rw [Nat.add_zero, givenN_succ hrv, if_neg (fun q => c_26 (hKN.1.trans q.1)), ← hd]; done) | (rw [Nat.add_zero, givenN_succ hrv, if_neg (fun q => c_36 (by rw [hKN.2]; exact q.2)), ← hd]; done)) (by omega)
        · skip
          refine r_iconst C (nI 1) d_Mo_given_39 (by decide) ?_
          refine r_goto C 44 d_Mo_given_40 (by decide) ?_
          refine r_nadd C d_Mo_given_44 ?_
          refine r_istore_n C (lv' := [(2, .int (nI (d + 1))), (0, .ref m0), (1, .int z), (3, .int (nI c))]) d_Mo_given_45 rfl (by decide) rfl ?_
          refine r_iinc C 3 (nI (c + 1)) (lv' := [(3, .int (nI (c + 1))), (2, .int (nI (d + 1))), (0, .ref m0), (1, .int z)]) d_Mo_given_46 rfl (nI_inc 1 _) (by decide) rfl ?_
          refine r_goto C 9 d_Mo_given_49 (by decide) ?_
          refine r_lv (lv' := [(0, .ref m0), (1, .int z), (2, .int (nI (d + 1))), (3, .int (nI (c + 1)))]) [2, 3, 1, 0] rfl ?_
          exact ih (d + 1) (c + 1) (by first | assumption | rfl | omega) (by rw [givenN_succ hrv, if_pos ⟨by rw [← hKN.1]; exact c_26, by rw [← hKN.2]; exact c_36⟩, ← hd]) (by omega)
set_option maxHeartbeats 4000000 in
set_option maxRecDepth 100000 in
theorem c_Mo_given (g : GG) (l : Launch) {m0 : Nat} {ad : Nat → Nat} {qth : Int32} {qsz : Int32} {qtk : Int32} {qde : Int32} {qat : Int32} {qen : Int32} {qto : Int32} {qbe : Int32} {qva : Int32} {qwr : Int32} {qop : Int32} {qwi : Int32} {qhe : Int32} {qrw : Int32} {qma : Int32} {qir : Bool} {qiu : Bool} {z : Int32} {KI : Nat → Nat} {NU : Nat → Option Nat} {rules : List RuleV}  (h1 : rules.length ≤ 400) (hA : ∀ (i : Nat) (r : RuleV), rules[i]? = some r → KI i = r.1 ∧ NU i = r.2.2.2.2.1) (hki : ∀ r ∈ rules, r.1 < 2 ^ 31) : Cn g l y_Mo_given b_Mo_given 4 (some .int) (rmk 0 0 0 0) [.ref m0, .int z] ([(m0, .inr (9, MO ad qth qsz (bI qir) qtk qde (nI rules.length) qat qen qto qbe qva qwr qop (bI qiu) qwi qhe qrw qma)), ((ad 10), .inl (g.2.1 0, 500, .inl (aI KI))), ((ad 12), .inl (g.2.1 0, 500, .inl (oA NU)))]) (fun (r0 : Option Value) (w0 : va_W) => r0 = some (.int (nI (givenN rules z rules.length))) ∧ w0 = [(m0, .inr (9, MO ad (nI 0) qsz (bI qir) qtk qde (nI rules.length) qat qen qto qbe qva qwr qop (bI qiu) qwi qhe qrw qma)), ((ad 10), .inl (g.2.1 0, 500, .inl (aI KI))), ((ad 12), .inl (g.2.1 0, 500, .inl (oA NU)))]) := by
  refine Cn.of R_Mo [(0, .ref m0), (1, .int z)] (by decide) rfl (Nat.le_of_ble_eq_true rfl) rfl ?_
  intro x A Q hR hXl hin C E
  subst hXl
  refine r_aload_n C 0 d_Mo_given_0 rfl rfl ?_
  refine r_iconst C (nI 0) d_Mo_given_1 (by decide) ?_
  refine r_put C (ws' := [(m0, .inr (9, MO ad (nI 0) qsz (bI qir) qtk qde (nI rules.length) qat qen qto qbe qva qwr qop (bI qiu) qwi qhe qrw qma)), ((ad 10), .inl (g.2.1 0, 500, .inl (aI KI))), ((ad 12), .inl (g.2.1 0, 500, .inl (oA NU)))]) 0 0 d_Mo_given_2 ci_Mo fi_Mo_87 rfl (by decide) rfl rfl (rfl) (rfl) (by simp) rfl ?_
  refine r_iconst C (nI 0) d_Mo_given_5 (by decide) ?_
  refine r_istore_n C (lv' := [(2, .int (nI 0)), (0, .ref m0), (1, .int z)]) d_Mo_given_6 rfl (by decide) rfl ?_
  refine r_iconst C (nI 0) d_Mo_given_7 (by decide) ?_
  refine r_istore_n C (lv' := [(3, .int (nI 0)), (2, .int (nI 0)), (0, .ref m0), (1, .int z)]) d_Mo_given_8 rfl (by decide) rfl ?_
  refine r_lv (lv' := [(0, .ref m0), (1, .int z), (2, .int (nI 0)), (3, .int (nI 0))]) [2, 3, 1, 0] rfl ?_
  exact lp_Mo_given_9 g (m0 := m0) (ad := ad) (qth := qth) (qsz := qsz) (qtk := qtk) (qde := qde) (qat := qat) (qen := qen) (qto := qto) (qbe := qbe) (qva := qva) (qwr := qwr) (qop := qop) (qwi := qwi) (qhe := qhe) (qrw := qrw) (qma := qma) (qir := qir) (qiu := qiu) (z := z) (KI := KI) (NU := NU) (rules := rules) h1 hA hki  C E hR _ 0 0 (by first | assumption | rfl | omega) (by first | assumption | rfl | omega) (Nat.lt_succ_self _)

set_option maxHeartbeats 4000000 in
set_option maxRecDepth 100000 in
theorem c_Mo_line (g : GG) (l : Launch) {m0 : Nat} {ad : Nat → Nat} {qth : Int32} {qsz : Int32} {qtk : Int32} {qde : Int32} {qat : Int32} {qen : Int32} {qto : Int32} {qbe : Int32} {qva : Int32} {qwr : Int32} {qop : Int32} {qwi : Int32} {qhe : Int32} {qrw : Int32} {qma : Int32} {qir : Bool} {qiu : Bool} {z : Int32} {nr : Nat} {LI : Nat → Nat}  (h1 : nr ≤ 400) : Cn g l y_Mo_line b_Mo_line 2 (some .int) (rmk 1 0 0 21) [.ref m0, .int z] ([(m0, .inr (9, MO ad qth qsz (bI qir) qtk qde (nI nr) qat qen qto qbe qva qwr qop (bI qiu) qwi qhe qrw qma)), ((ad 14), .inl (g.2.1 0, 500, .inl (aI LI)))]) (fun (r0 : Option Value) (w0 : va_W) => ∃ th : Int32, ∃ rv : Int32, r0 = some (.int rv) ∧ w0 = [(m0, .inr (9, MO ad th qsz (bI qir) qtk qde (nI nr) qat qen qto qbe qva qwr qop (bI qiu) qwi qhe qrw qma)), ((ad 14), .inl (g.2.1 0, 500, .inl (aI LI)))] ∧ (Ans (hasK nr (inN z) = true) (nI (LI (z.toNatClampNeg))) th rv)) := by
  refine Cn.of R_Mo [(0, .ref m0), (1, .int z)] (by decide) rfl (Nat.le_of_ble_eq_true rfl) rfl ?_
  intro x A Q hR hXl hin C E
  subst hXl
  refine r_aload_n C 0 d_Mo_line_0 rfl rfl ?_
  refine r_iload_n C 1 d_Mo_line_1 rfl rfl ?_
  refine r_if_lt C 17 d_Mo_line_2 (by decide) (fun c_2 => ?_) (fun c_2 => ?_)
  · skip
    refine r_iconst C (nI 1) d_Mo_line_17 (by decide) ?_
    refine j_callV C (c_Mo_says g (xl x) (m0 := m0) (ad := ad) (qth := qth) (qsz := qsz) (qtk := qtk) (qde := qde) (qru := nI nr) (qat := qat) (qen := qen) (qto := qto) (qbe := qbe) (qva := qva) (qwr := qwr) (qop := qop) (qwi := qwi) (qhe := qhe) (qrw := qrw) (qma := qma) (qir := qir) (qiu := qiu) (z := nI 1) ) (Sp.of (wr := [((ad 14), .inl (g.2.1 0, 500, .inl (aI LI)))]) [0] [1] rfl rfl rfl rfl (by decide)) d_Mo_line_18 lk_Mo_270 mw_Mo_says vw_Mo_says (q0 := 0) rfl rfl (fit_of hR (by first | decide | (simp only [rmk]; omega)) (by first | decide | (simp only [rmk]; omega)) (by first | decide | (simp only [rmk]; omega)) (by first | decide | (simp only [rmk]; omega))) rfl (cat8 (Nat.le_of_ble_eq_true rfl)) (As := [.int (nI 1)]) (rest := []) rfl (fun r_18 w_18 hp_18 => ?_)
    obtain ⟨rfl, rfl⟩ := hp_18
    refine r_after (ws' := [(m0, .inr (9, MO ad (nI 1) qsz (bI qir) qtk qde (nI nr) qat qen qto qbe qva qwr qop (bI qiu) qwi qhe qrw qma)), ((ad 14), .inl (g.2.1 0, 500, .inl (aI LI)))]) (st' := [.int (bI (decide ((nI 1) = 0)))]) (n1 := 0) (n2 := 0) [1, 0] rfl rfl rfl rfl rfl ?_
    refine r_bif_eq C 33 d_Mo_line_21 (by decide) (fun c_21 => ?_) (fun c_21 => ?_)
    · skip
      refine r_iconst C (nI 0) d_Mo_line_33 (by decide) ?_
      refine r_iret C E d_Mo_line_34 (by first | decide | omega | (simp only [rmk]; omega)) (by first | decide | omega | (simp only [rmk]; omega)) ?_
      exact ⟨_, _, rfl, rfl, Or.inr ⟨by rw [inN_neg c_2]; simp [hasK], rfl, rfl⟩⟩
    · exact absurd c_21 (by decide)
  · skip
    obtain ⟨j, hj, rfl⟩ := nI_of c_2
    refine r_iload_n C 1 d_Mo_line_5 rfl rfl ?_
    refine r_aload_n C 0 d_Mo_line_6 rfl rfl ?_
    refine r_get C 0 9 d_Mo_line_7 ci_Mo fi_Mo_184 rfl (by decide) rfl rfl ?_
    refine r_ncmp_ge C 17 d_Mo_line_10 (by decide) (by omega) (by omega) (fun c_10 => ?_) (fun c_10 => ?_)
    · skip
      refine r_iconst C (nI 1) d_Mo_line_17 (by decide) ?_
      refine j_callV C (c_Mo_says g (xl x) (m0 := m0) (ad := ad) (qth := qth) (qsz := qsz) (qtk := qtk) (qde := qde) (qru := nI nr) (qat := qat) (qen := qen) (qto := qto) (qbe := qbe) (qva := qva) (qwr := qwr) (qop := qop) (qwi := qwi) (qhe := qhe) (qrw := qrw) (qma := qma) (qir := qir) (qiu := qiu) (z := nI 1) ) (Sp.of (wr := [((ad 14), .inl (g.2.1 0, 500, .inl (aI LI)))]) [0] [1] rfl rfl rfl rfl (by decide)) d_Mo_line_18 lk_Mo_270 mw_Mo_says vw_Mo_says (q0 := 0) rfl rfl (fit_of hR (by first | decide | (simp only [rmk]; omega)) (by first | decide | (simp only [rmk]; omega)) (by first | decide | (simp only [rmk]; omega)) (by first | decide | (simp only [rmk]; omega))) rfl (cat8 (Nat.le_of_ble_eq_true rfl)) (As := [.int (nI 1)]) (rest := []) rfl (fun r_18 w_18 hp_18 => ?_)
      obtain ⟨rfl, rfl⟩ := hp_18
      refine r_after (ws' := [(m0, .inr (9, MO ad (nI 1) qsz (bI qir) qtk qde (nI nr) qat qen qto qbe qva qwr qop (bI qiu) qwi qhe qrw qma)), ((ad 14), .inl (g.2.1 0, 500, .inl (aI LI)))]) (st' := [.int (bI (decide ((nI 1) = 0)))]) (n1 := 0) (n2 := 0) [1, 0] rfl rfl rfl rfl rfl ?_
      refine r_bif_eq C 33 d_Mo_line_21 (by decide) (fun c_21 => ?_) (fun c_21 => ?_)
      · skip
        refine r_iconst C (nI 0) d_Mo_line_33 (by decide) ?_
        refine r_iret C E d_Mo_line_34 (by first | decide | omega | (simp only [rmk]; omega)) (by first | decide | omega | (simp only [rmk]; omega)) ?_
        exact ⟨_, _, rfl, rfl, Or.inr ⟨by rw [inN_nI hj]; simp [hasK]; omega, rfl, rfl⟩⟩
      · exact absurd c_21 (by decide)
    · skip
      refine r_iconst C (nI 0) d_Mo_line_13 (by decide) ?_
      refine r_goto C 18 d_Mo_line_14 (by decide) ?_
      refine j_callV C (c_Mo_says g (xl x) (m0 := m0) (ad := ad) (qth := qth) (qsz := qsz) (qtk := qtk) (qde := qde) (qru := nI nr) (qat := qat) (qen := qen) (qto := qto) (qbe := qbe) (qva := qva) (qwr := qwr) (qop := qop) (qwi := qwi) (qhe := qhe) (qrw := qrw) (qma := qma) (qir := qir) (qiu := qiu) (z := nI 0) ) (Sp.of (wr := [((ad 14), .inl (g.2.1 0, 500, .inl (aI LI)))]) [0] [1] rfl rfl rfl rfl (by decide)) d_Mo_line_18 lk_Mo_270 mw_Mo_says vw_Mo_says (q0 := 0) rfl rfl (fit_of hR (by first | decide | (simp only [rmk]; omega)) (by first | decide | (simp only [rmk]; omega)) (by first | decide | (simp only [rmk]; omega)) (by first | decide | (simp only [rmk]; omega))) rfl (cat8 (Nat.le_of_ble_eq_true rfl)) (As := [.int (nI 0)]) (rest := []) rfl (fun r_18 w_18 hp_18 => ?_)
      obtain ⟨rfl, rfl⟩ := hp_18
      refine r_after (ws' := [(m0, .inr (9, MO ad (nI 0) qsz (bI qir) qtk qde (nI nr) qat qen qto qbe qva qwr qop (bI qiu) qwi qhe qrw qma)), ((ad 14), .inl (g.2.1 0, 500, .inl (aI LI)))]) (st' := [.int (bI (decide ((nI 0) = 0)))]) (n1 := 0) (n2 := 0) [1, 0] rfl rfl rfl rfl rfl ?_
      refine r_bif_eq C 33 d_Mo_line_21 (by decide) (fun c_21 => ?_) (fun c_21 => ?_)
      · exact absurd c_21 (by decide)
      · skip
        refine r_aload_n C 0 d_Mo_line_24 rfl rfl ?_
        refine r_get C 0 14 d_Mo_line_25 ci_Mo fi_Mo_34 rfl (by decide) rfl rfl ?_
        refine r_iload_n C 1 d_Mo_line_28 rfl rfl ?_
        refine r_nald C 1 0 d_Mo_line_29 rfl rfl (by omega) (by decide) ?_
        refine r_goto C 34 d_Mo_line_30 (by decide) ?_
        refine r_iret C E d_Mo_line_34 (by first | decide | omega | (simp only [rmk]; omega)) (by first | decide | omega | (simp only [rmk]; omega)) ?_
        exact ⟨_, _, rfl, rfl, Or.inl ⟨by rw [inN_nI hj]; simp [hasK]; omega, rfl, by rw [nI_clamp hj]⟩⟩

set_option maxHeartbeats 4000000 in
set_option maxRecDepth 100000 in
theorem c_Mo_row (g : GG) (l : Launch) {m0 : Nat} {ad : Nat → Nat} {qth : Int32} {qsz : Int32} {qtk : Int32} {qde : Int32} {qru : Int32} {qat : Int32} {qen : Int32} {qto : Int32} {qbe : Int32} {qva : Int32} {qwr : Int32} {qop : Int32} {qwi : Int32} {qhe : Int32} {qma : Int32} {qir : Bool} {qiu : Bool} {rw_ : Nat} {z : Int32} {y : Int32} {RR : Nat → Nat} {RB : Nat → Nat} {KI : Nat → Nat} {CO : Nat → Option Nat} {NU : Nat → Option Nat} {CN : Nat → Option Nat}  (h1 : rw_ ≤ 4000) (hRB : qiu = true → ∀ j, j < rw_ → RB j ≤ RB (j + 1)) (hRE : qiu = true → ∀ j, j < rw_ → RB (j + 1) ≤ 30000) (hRR : qiu = true → ∀ j, j < rw_ → RR j < 500) : Cn g l y_Mo_row b_Mo_row 4 (some .int) (rmk 1 0 0 21) [.ref m0, .int z, .int y] ([(m0, .inr (9, MO ad qth qsz (bI qir) qtk qde qru qat qen qto qbe qva qwr qop (bI qiu) qwi qhe (nI rw_) qma)), ((ad 33), .inl (g.2.1 0, 4000, .inl (aI RR))), ((ad 34), .inl (g.2.1 0, 4001, .inl (aI RB))), ((ad 10), .inl (g.2.1 0, 500, .inl (aI KI))), ((ad 11), .inl (g.2.1 0, 500, .inl (oA CO))), ((ad 12), .inl (g.2.1 0, 500, .inl (oA NU))), ((ad 13), .inl (g.2.1 0, 500, .inl (oA CN)))]) (fun (r0 : Option Value) (w0 : va_W) => ∃ th : Int32, ∃ rv : Int32, r0 = some (.int rv) ∧ w0 = [(m0, .inr (9, MO ad th qsz (bI qir) qtk qde qru qat qen qto qbe qva qwr qop (bI qiu) qwi qhe (nI rw_) qma)), ((ad 33), .inl (g.2.1 0, 4000, .inl (aI RR))), ((ad 34), .inl (g.2.1 0, 4001, .inl (aI RB))), ((ad 10), .inl (g.2.1 0, 500, .inl (aI KI))), ((ad 11), .inl (g.2.1 0, 500, .inl (oA CO))), ((ad 12), .inl (g.2.1 0, 500, .inl (oA NU))), ((ad 13), .inl (g.2.1 0, 500, .inl (oA CN)))] ∧ (Ans (qiu = true ∧ hasK rw_ (inN z) = true ∧ ¬ y < 0 ∧ y ≤ nI 5) (rowW RR KI RB CO NU CN z.toNatClampNeg y.toNatClampNeg) th rv)) := by
  refine Cn.of R_Mo [(0, .ref m0), (1, .int z), (2, .int y)] (by decide) rfl (Nat.le_of_ble_eq_true rfl) rfl ?_
  intro x A Q hR hXl hin C E
  subst hXl
  refine r_aload_n C 0 d_Mo_row_0 rfl rfl ?_
  refine r_aload_n C 0 d_Mo_row_1 rfl rfl ?_
  refine r_iload_n C 1 d_Mo_row_2 rfl rfl ?_
  refine j_callV C (c_Mo_isRow g (xl x) (m0 := m0) (ad := ad) (qth := qth) (qsz := qsz) (qtk := qtk) (qde := qde) (qru := qru) (qat := qat) (qen := qen) (qto := qto) (qbe := qbe) (qva := qva) (qwr := qwr) (qop := qop) (qwi := qwi) (qhe := qhe) (qma := qma) (qir := qir) (qiu := qiu) (rw_ := rw_) (z := z) (by first | assumption | rfl | omega)) (Sp.of (wr := [((ad 33), .inl (g.2.1 0, 4000, .inl (aI RR))), ((ad 34), .inl (g.2.1 0, 4001, .inl (aI RB))), ((ad 10), .inl (g.2.1 0, 500, .inl (aI KI))), ((ad 11), .inl (g.2.1 0, 500, .inl (oA CO))), ((ad 12), .inl (g.2.1 0, 500, .inl (oA NU))), ((ad 13), .inl (g.2.1 0, 500, .inl (oA CN)))]) [0] [1, 2, 3, 4, 5, 6] rfl rfl rfl rfl (by decide)) d_Mo_row_3 lk_Mo_276 mw_Mo_isRow vw_Mo_isRow (q0 := 0) rfl rfl (fit_of hR (by first | decide | (simp only [rmk]; omega)) (by first | decide | (simp only [rmk]; omega)) (by first | decide | (simp only [rmk]; omega)) (by first | decide | (simp only [rmk]; omega))) rfl (cat8 (Nat.le_of_ble_eq_true rfl)) (As := [.int z]) (rest := [.ref m0]) rfl (fun r_3 w_3 hp_3 => ?_)
  obtain ⟨rfl, rfl⟩ := hp_3
  refine r_after (ws' := [(m0, .inr (9, MO ad qth qsz (bI qir) qtk qde qru qat qen qto qbe qva qwr qop (bI qiu) qwi qhe (nI rw_) qma)), ((ad 33), .inl (g.2.1 0, 4000, .inl (aI RR))), ((ad 34), .inl (g.2.1 0, 4001, .inl (aI RB))), ((ad 10), .inl (g.2.1 0, 500, .inl (aI KI))), ((ad 11), .inl (g.2.1 0, 500, .inl (oA CO))), ((ad 12), .inl (g.2.1 0, 500, .inl (oA NU))), ((ad 13), .inl (g.2.1 0, 500, .inl (oA CN)))]) (st' := [.int (bI (qiu && hasK rw_ (inN z))), .ref m0]) (n1 := 0) (n2 := 0) [6, 0, 1, 2, 3, 4, 5] rfl rfl rfl rfl rfl ?_
  refine r_bif_eq C 22 d_Mo_row_6 (by decide) (fun c_6 => ?_) (fun c_6 => ?_)
  · skip
    refine r_iconst C (nI 1) d_Mo_row_22 (by decide) ?_
    refine j_callV C (c_Mo_says g (xl x) (m0 := m0) (ad := ad) (qth := qth) (qsz := qsz) (qtk := qtk) (qde := qde) (qru := qru) (qat := qat) (qen := qen) (qto := qto) (qbe := qbe) (qva := qva) (qwr := qwr) (qop := qop) (qwi := qwi) (qhe := qhe) (qrw := nI rw_) (qma := qma) (qir := qir) (qiu := qiu) (z := nI 1) ) (Sp.of (wr := [((ad 33), .inl (g.2.1 0, 4000, .inl (aI RR))), ((ad 34), .inl (g.2.1 0, 4001, .inl (aI RB))), ((ad 10), .inl (g.2.1 0, 500, .inl (aI KI))), ((ad 11), .inl (g.2.1 0, 500, .inl (oA CO))), ((ad 12), .inl (g.2.1 0, 500, .inl (oA NU))), ((ad 13), .inl (g.2.1 0, 500, .inl (oA CN)))]) [0] [1, 2, 3, 4, 5, 6] rfl rfl rfl rfl (by decide)) d_Mo_row_23 lk_Mo_270 mw_Mo_says vw_Mo_says (q0 := 0) rfl rfl (fit_of hR (by first | decide | (simp only [rmk]; omega)) (by first | decide | (simp only [rmk]; omega)) (by first | decide | (simp only [rmk]; omega)) (by first | decide | (simp only [rmk]; omega))) rfl (cat8 (Nat.le_of_ble_eq_true rfl)) (As := [.int (nI 1)]) (rest := []) rfl (fun r_23 w_23 hp_23 => ?_)
    obtain ⟨rfl, rfl⟩ := hp_23
    refine r_after (ws' := [(m0, .inr (9, MO ad (nI 1) qsz (bI qir) qtk qde qru qat qen qto qbe qva qwr qop (bI qiu) qwi qhe (nI rw_) qma)), ((ad 33), .inl (g.2.1 0, 4000, .inl (aI RR))), ((ad 34), .inl (g.2.1 0, 4001, .inl (aI RB))), ((ad 10), .inl (g.2.1 0, 500, .inl (aI KI))), ((ad 11), .inl (g.2.1 0, 500, .inl (oA CO))), ((ad 12), .inl (g.2.1 0, 500, .inl (oA NU))), ((ad 13), .inl (g.2.1 0, 500, .inl (oA CN)))]) (st' := [.int (bI (decide ((nI 1) = 0)))]) (n1 := 0) (n2 := 0) [6, 0, 1, 2, 3, 4, 5] rfl rfl rfl rfl rfl ?_
    refine r_bif_ne C 31 d_Mo_row_26 (by decide) (fun c_26 => ?_) (fun c_26 => ?_)
    · exact absurd c_26 (by decide)
    · skip
      refine r_iconst C (nI 0) d_Mo_row_29 (by decide) ?_
      refine r_iret C E d_Mo_row_30 (by first | decide | omega | (simp only [rmk]; omega)) (by first | decide | omega | (simp only [rmk]; omega)) ?_
      exact ⟨_, _, rfl, rfl, Or.inr ⟨fun q => and_no c_6 ⟨q.1, q.2.1⟩, rfl, rfl⟩⟩
  · skip
    obtain ⟨hqi, hhk, j, hj, rfl⟩ := and_row c_6
    have hrb := hRB hqi j hj
    have hre := hRE hqi j hj
    refine r_iload_n C 2 d_Mo_row_9 rfl rfl ?_
    refine r_if_lt C 22 d_Mo_row_10 (by decide) (fun c_10 => ?_) (fun c_10 => ?_)
    · skip
      refine r_iconst C (nI 1) d_Mo_row_22 (by decide) ?_
      refine j_callV C (c_Mo_says g (xl x) (m0 := m0) (ad := ad) (qth := qth) (qsz := qsz) (qtk := qtk) (qde := qde) (qru := qru) (qat := qat) (qen := qen) (qto := qto) (qbe := qbe) (qva := qva) (qwr := qwr) (qop := qop) (qwi := qwi) (qhe := qhe) (qrw := nI rw_) (qma := qma) (qir := qir) (qiu := qiu) (z := nI 1) ) (Sp.of (wr := [((ad 33), .inl (g.2.1 0, 4000, .inl (aI RR))), ((ad 34), .inl (g.2.1 0, 4001, .inl (aI RB))), ((ad 10), .inl (g.2.1 0, 500, .inl (aI KI))), ((ad 11), .inl (g.2.1 0, 500, .inl (oA CO))), ((ad 12), .inl (g.2.1 0, 500, .inl (oA NU))), ((ad 13), .inl (g.2.1 0, 500, .inl (oA CN)))]) [0] [1, 2, 3, 4, 5, 6] rfl rfl rfl rfl (by decide)) d_Mo_row_23 lk_Mo_270 mw_Mo_says vw_Mo_says (q0 := 0) rfl rfl (fit_of hR (by first | decide | (simp only [rmk]; omega)) (by first | decide | (simp only [rmk]; omega)) (by first | decide | (simp only [rmk]; omega)) (by first | decide | (simp only [rmk]; omega))) rfl (cat8 (Nat.le_of_ble_eq_true rfl)) (As := [.int (nI 1)]) (rest := []) rfl (fun r_23 w_23 hp_23 => ?_)
      obtain ⟨rfl, rfl⟩ := hp_23
      refine r_after (ws' := [(m0, .inr (9, MO ad (nI 1) qsz (bI qir) qtk qde qru qat qen qto qbe qva qwr qop (bI qiu) qwi qhe (nI rw_) qma)), ((ad 33), .inl (g.2.1 0, 4000, .inl (aI RR))), ((ad 34), .inl (g.2.1 0, 4001, .inl (aI RB))), ((ad 10), .inl (g.2.1 0, 500, .inl (aI KI))), ((ad 11), .inl (g.2.1 0, 500, .inl (oA CO))), ((ad 12), .inl (g.2.1 0, 500, .inl (oA NU))), ((ad 13), .inl (g.2.1 0, 500, .inl (oA CN)))]) (st' := [.int (bI (decide ((nI 1) = 0)))]) (n1 := 0) (n2 := 0) [6, 0, 1, 2, 3, 4, 5] rfl rfl rfl rfl rfl ?_
      refine r_bif_ne C 31 d_Mo_row_26 (by decide) (fun c_26 => ?_) (fun c_26 => ?_)
      · exact absurd c_26 (by decide)
      · skip
        refine r_iconst C (nI 0) d_Mo_row_29 (by decide) ?_
        refine r_iret C E d_Mo_row_30 (by first | decide | omega | (simp only [rmk]; omega)) (by first | decide | omega | (simp only [rmk]; omega)) ?_
        exact ⟨_, _, rfl, rfl, Or.inr ⟨fun q => q.2.2.1 c_10, rfl, rfl⟩⟩
    · skip
      obtain ⟨yn, hyn, rfl⟩ := nI_of c_10
      refine r_iload_n C 2 d_Mo_row_13 rfl rfl ?_
      refine r_iconst C (nI 5) d_Mo_row_14 (by decide) ?_
      refine r_ncmp_gt C 22 d_Mo_row_15 (by decide) (by omega) (by omega) (fun c_15 => ?_) (fun c_15 => ?_)
      · skip
        refine r_iconst C (nI 1) d_Mo_row_22 (by decide) ?_
        refine j_callV C (c_Mo_says g (xl x) (m0 := m0) (ad := ad) (qth := qth) (qsz := qsz) (qtk := qtk) (qde := qde) (qru := qru) (qat := qat) (qen := qen) (qto := qto) (qbe := qbe) (qva := qva) (qwr := qwr) (qop := qop) (qwi := qwi) (qhe := qhe) (qrw := nI rw_) (qma := qma) (qir := qir) (qiu := qiu) (z := nI 1) ) (Sp.of (wr := [((ad 33), .inl (g.2.1 0, 4000, .inl (aI RR))), ((ad 34), .inl (g.2.1 0, 4001, .inl (aI RB))), ((ad 10), .inl (g.2.1 0, 500, .inl (aI KI))), ((ad 11), .inl (g.2.1 0, 500, .inl (oA CO))), ((ad 12), .inl (g.2.1 0, 500, .inl (oA NU))), ((ad 13), .inl (g.2.1 0, 500, .inl (oA CN)))]) [0] [1, 2, 3, 4, 5, 6] rfl rfl rfl rfl (by decide)) d_Mo_row_23 lk_Mo_270 mw_Mo_says vw_Mo_says (q0 := 0) rfl rfl (fit_of hR (by first | decide | (simp only [rmk]; omega)) (by first | decide | (simp only [rmk]; omega)) (by first | decide | (simp only [rmk]; omega)) (by first | decide | (simp only [rmk]; omega))) rfl (cat8 (Nat.le_of_ble_eq_true rfl)) (As := [.int (nI 1)]) (rest := []) rfl (fun r_23 w_23 hp_23 => ?_)
        obtain ⟨rfl, rfl⟩ := hp_23
        refine r_after (ws' := [(m0, .inr (9, MO ad (nI 1) qsz (bI qir) qtk qde qru qat qen qto qbe qva qwr qop (bI qiu) qwi qhe (nI rw_) qma)), ((ad 33), .inl (g.2.1 0, 4000, .inl (aI RR))), ((ad 34), .inl (g.2.1 0, 4001, .inl (aI RB))), ((ad 10), .inl (g.2.1 0, 500, .inl (aI KI))), ((ad 11), .inl (g.2.1 0, 500, .inl (oA CO))), ((ad 12), .inl (g.2.1 0, 500, .inl (oA NU))), ((ad 13), .inl (g.2.1 0, 500, .inl (oA CN)))]) (st' := [.int (bI (decide ((nI 1) = 0)))]) (n1 := 0) (n2 := 0) [6, 0, 1, 2, 3, 4, 5] rfl rfl rfl rfl rfl ?_
        refine r_bif_ne C 31 d_Mo_row_26 (by decide) (fun c_26 => ?_) (fun c_26 => ?_)
        · exact absurd c_26 (by decide)
        · skip
          refine r_iconst C (nI 0) d_Mo_row_29 (by decide) ?_
          refine r_iret C E d_Mo_row_30 (by first | decide | omega | (simp only [rmk]; omega)) (by first | decide | omega | (simp only [rmk]; omega)) ?_
          exact ⟨_, _, rfl, rfl, Or.inr ⟨fun q => by have := le5 hyn q.2.2.2; omega, rfl, rfl⟩⟩
      · skip
        refine r_iconst C (nI 0) d_Mo_row_18 (by decide) ?_
        refine r_goto C 23 d_Mo_row_19 (by decide) ?_
        refine j_callV C (c_Mo_says g (xl x) (m0 := m0) (ad := ad) (qth := qth) (qsz := qsz) (qtk := qtk) (qde := qde) (qru := qru) (qat := qat) (qen := qen) (qto := qto) (qbe := qbe) (qva := qva) (qwr := qwr) (qop := qop) (qwi := qwi) (qhe := qhe) (qrw := nI rw_) (qma := qma) (qir := qir) (qiu := qiu) (z := nI 0) ) (Sp.of (wr := [((ad 33), .inl (g.2.1 0, 4000, .inl (aI RR))), ((ad 34), .inl (g.2.1 0, 4001, .inl (aI RB))), ((ad 10), .inl (g.2.1 0, 500, .inl (aI KI))), ((ad 11), .inl (g.2.1 0, 500, .inl (oA CO))), ((ad 12), .inl (g.2.1 0, 500, .inl (oA NU))), ((ad 13), .inl (g.2.1 0, 500, .inl (oA CN)))]) [0] [1, 2, 3, 4, 5, 6] rfl rfl rfl rfl (by decide)) d_Mo_row_23 lk_Mo_270 mw_Mo_says vw_Mo_says (q0 := 0) rfl rfl (fit_of hR (by first | decide | (simp only [rmk]; omega)) (by first | decide | (simp only [rmk]; omega)) (by first | decide | (simp only [rmk]; omega)) (by first | decide | (simp only [rmk]; omega))) rfl (cat8 (Nat.le_of_ble_eq_true rfl)) (As := [.int (nI 0)]) (rest := []) rfl (fun r_23 w_23 hp_23 => ?_)
        obtain ⟨rfl, rfl⟩ := hp_23
        refine r_after (ws' := [(m0, .inr (9, MO ad (nI 0) qsz (bI qir) qtk qde qru qat qen qto qbe qva qwr qop (bI qiu) qwi qhe (nI rw_) qma)), ((ad 33), .inl (g.2.1 0, 4000, .inl (aI RR))), ((ad 34), .inl (g.2.1 0, 4001, .inl (aI RB))), ((ad 10), .inl (g.2.1 0, 500, .inl (aI KI))), ((ad 11), .inl (g.2.1 0, 500, .inl (oA CO))), ((ad 12), .inl (g.2.1 0, 500, .inl (oA NU))), ((ad 13), .inl (g.2.1 0, 500, .inl (oA CN)))]) (st' := [.int (bI (decide ((nI 0) = 0)))]) (n1 := 0) (n2 := 0) [6, 0, 1, 2, 3, 4, 5] rfl rfl rfl rfl rfl ?_
        refine r_bif_ne C 31 d_Mo_row_26 (by decide) (fun c_26 => ?_) (fun c_26 => ?_)
        · skip
          have hrr := hRR hqi j hj
          rcases (show yn = 0 ∨ yn = 1 ∨ yn = 2 ∨ yn = 3 ∨ yn = 4 ∨ yn = 5 by omega) with rfl | rfl | rfl | rfl | rfl | rfl
          · skip
            refine r_aload_n C 0 d_Mo_row_31 rfl rfl ?_
            refine r_get C 0 33 d_Mo_row_32 ci_Mo fi_Mo_58 rfl (by decide) rfl rfl ?_
            refine r_iload_n C 1 d_Mo_row_35 rfl rfl ?_
            refine r_nald C 1 0 d_Mo_row_36 rfl rfl (by omega) (by decide) ?_
            refine r_istore_n C (lv' := [(3, .int (nI (RR j))), (0, .ref m0), (1, .int (nI j)), (2, .int (nI 0))]) d_Mo_row_37 rfl (by decide) rfl ?_
            refine r_iload_n C 3 d_Mo_row_38 rfl rfl ?_
            refine r_tableIn C 72 d_Mo_row_39 (by decide) (by decide) rfl (by decide) ?_
            refine r_iload_n C 0 d_Mo_row_72 rfl rfl ?_
            refine r_iret C E d_Mo_row_73 (by first | decide | omega | (simp only [rmk]; omega)) (by first | decide | omega | (simp only [rmk]; omega)) ?_
            exact ⟨_, _, rfl, rfl, Or.inl ⟨⟨hqi, hhk, by decide, by decide⟩, rfl, by rw [nI_clamp (by omega)]; rfl⟩⟩
          · skip
            refine r_aload_n C 0 d_Mo_row_31 rfl rfl ?_
            refine r_get C 0 33 d_Mo_row_32 ci_Mo fi_Mo_58 rfl (by decide) rfl rfl ?_
            refine r_iload_n C 1 d_Mo_row_35 rfl rfl ?_
            refine r_nald C 1 0 d_Mo_row_36 rfl rfl (by omega) (by decide) ?_
            refine r_istore_n C (lv' := [(3, .int (nI (RR j))), (0, .ref m0), (1, .int (nI j)), (2, .int (nI 1))]) d_Mo_row_37 rfl (by decide) rfl ?_
            refine r_iload_n C 3 d_Mo_row_38 rfl rfl ?_
            refine r_tableIn C 74 d_Mo_row_39 (by decide) (by decide) rfl (by decide) ?_
            refine r_aload_n C 1 d_Mo_row_74 rfl rfl ?_
            refine r_get C 0 10 d_Mo_row_75 ci_Mo fi_Mo_22 rfl (by decide) rfl rfl ?_
            refine r_iload_n C 0 d_Mo_row_78 rfl rfl ?_
            refine r_nald C 3 0 d_Mo_row_79 rfl rfl (by omega) (by decide) ?_
            refine r_iret C E d_Mo_row_80 (by first | decide | omega | (simp only [rmk]; omega)) (by first | decide | omega | (simp only [rmk]; omega)) ?_
            exact ⟨_, _, rfl, rfl, Or.inl ⟨⟨hqi, hhk, by decide, by decide⟩, rfl, by rw [nI_clamp (by omega)]; rfl⟩⟩
          · skip
            refine r_aload_n C 0 d_Mo_row_31 rfl rfl ?_
            refine r_get C 0 33 d_Mo_row_32 ci_Mo fi_Mo_58 rfl (by decide) rfl rfl ?_
            refine r_iload_n C 1 d_Mo_row_35 rfl rfl ?_
            refine r_nald C 1 0 d_Mo_row_36 rfl rfl (by omega) (by decide) ?_
            refine r_istore_n C (lv' := [(3, .int (nI (RR j))), (0, .ref m0), (1, .int (nI j)), (2, .int (nI 2))]) d_Mo_row_37 rfl (by decide) rfl ?_
            refine r_iload_n C 3 d_Mo_row_38 rfl rfl ?_
            refine r_tableIn C 81 d_Mo_row_39 (by decide) (by decide) rfl (by decide) ?_
            refine r_aload_n C 1 d_Mo_row_81 rfl rfl ?_
            refine r_get C 0 11 d_Mo_row_82 ci_Mo fi_Mo_25 rfl (by decide) rfl rfl ?_
            refine r_iload_n C 0 d_Mo_row_85 rfl rfl ?_
            refine r_oald C 4 0 d_Mo_row_86 rfl rfl (by omega) (by decide) ?_
            refine r_iret C E d_Mo_row_87 (by first | decide | omega | (simp only [rmk]; omega)) (by first | decide | omega | (simp only [rmk]; omega)) ?_
            exact ⟨_, _, rfl, rfl, Or.inl ⟨⟨hqi, hhk, by decide, by decide⟩, rfl, by rw [nI_clamp (by omega)]; rfl⟩⟩
          · skip
            refine r_aload_n C 0 d_Mo_row_31 rfl rfl ?_
            refine r_get C 0 33 d_Mo_row_32 ci_Mo fi_Mo_58 rfl (by decide) rfl rfl ?_
            refine r_iload_n C 1 d_Mo_row_35 rfl rfl ?_
            refine r_nald C 1 0 d_Mo_row_36 rfl rfl (by omega) (by decide) ?_
            refine r_istore_n C (lv' := [(3, .int (nI (RR j))), (0, .ref m0), (1, .int (nI j)), (2, .int (nI 3))]) d_Mo_row_37 rfl (by decide) rfl ?_
            refine r_iload_n C 3 d_Mo_row_38 rfl rfl ?_
            refine r_tableIn C 88 d_Mo_row_39 (by decide) (by decide) rfl (by decide) ?_
            refine r_aload_n C 1 d_Mo_row_88 rfl rfl ?_
            refine r_get C 0 12 d_Mo_row_89 ci_Mo fi_Mo_28 rfl (by decide) rfl rfl ?_
            refine r_iload_n C 0 d_Mo_row_92 rfl rfl ?_
            refine r_oald C 5 0 d_Mo_row_93 rfl rfl (by omega) (by decide) ?_
            refine r_iret C E d_Mo_row_94 (by first | decide | omega | (simp only [rmk]; omega)) (by first | decide | omega | (simp only [rmk]; omega)) ?_
            exact ⟨_, _, rfl, rfl, Or.inl ⟨⟨hqi, hhk, by decide, by decide⟩, rfl, by rw [nI_clamp (by omega)]; rfl⟩⟩
          · skip
            refine r_aload_n C 0 d_Mo_row_31 rfl rfl ?_
            refine r_get C 0 33 d_Mo_row_32 ci_Mo fi_Mo_58 rfl (by decide) rfl rfl ?_
            refine r_iload_n C 1 d_Mo_row_35 rfl rfl ?_
            refine r_nald C 1 0 d_Mo_row_36 rfl rfl (by omega) (by decide) ?_
            refine r_istore_n C (lv' := [(3, .int (nI (RR j))), (0, .ref m0), (1, .int (nI j)), (2, .int (nI 4))]) d_Mo_row_37 rfl (by decide) rfl ?_
            refine r_iload_n C 3 d_Mo_row_38 rfl rfl ?_
            refine r_tableIn C 95 d_Mo_row_39 (by decide) (by decide) rfl (by decide) ?_
            refine r_aload_n C 1 d_Mo_row_95 rfl rfl ?_
            refine r_get C 0 13 d_Mo_row_96 ci_Mo fi_Mo_31 rfl (by decide) rfl rfl ?_
            refine r_iload_n C 0 d_Mo_row_99 rfl rfl ?_
            refine r_oald C 6 0 d_Mo_row_100 rfl rfl (by omega) (by decide) ?_
            refine r_iret C E d_Mo_row_101 (by first | decide | omega | (simp only [rmk]; omega)) (by first | decide | omega | (simp only [rmk]; omega)) ?_
            exact ⟨_, _, rfl, rfl, Or.inl ⟨⟨hqi, hhk, by decide, by decide⟩, rfl, by rw [nI_clamp (by omega)]; rfl⟩⟩
          · skip
            refine r_aload_n C 0 d_Mo_row_31 rfl rfl ?_
            refine r_get C 0 33 d_Mo_row_32 ci_Mo fi_Mo_58 rfl (by decide) rfl rfl ?_
            refine r_iload_n C 1 d_Mo_row_35 rfl rfl ?_
            refine r_nald C 1 0 d_Mo_row_36 rfl rfl (by omega) (by decide) ?_
            refine r_istore_n C (lv' := [(3, .int (nI (RR j))), (0, .ref m0), (1, .int (nI j)), (2, .int (nI 5))]) d_Mo_row_37 rfl (by decide) rfl ?_
            refine r_iload_n C 3 d_Mo_row_38 rfl rfl ?_
            refine r_tableOut C 102 d_Mo_row_39 (by decide) (by decide) ?_
            refine r_aload_n C 1 d_Mo_row_102 rfl rfl ?_
            refine r_get C 0 34 d_Mo_row_103 ci_Mo fi_Mo_61 rfl (by decide) rfl rfl ?_
            refine r_iload_n C 2 d_Mo_row_106 rfl rfl ?_
            refine r_iconst C (nI 1) d_Mo_row_107 (by decide) ?_
            refine r_nadd C d_Mo_row_108 ?_
            refine r_nald C 2 0 d_Mo_row_109 rfl rfl (by omega) (by decide) ?_
            refine r_aload_n C 1 d_Mo_row_110 rfl rfl ?_
            refine r_get C 0 34 d_Mo_row_111 ci_Mo fi_Mo_61 rfl (by decide) rfl rfl ?_
            refine r_iload_n C 2 d_Mo_row_114 rfl rfl ?_
            refine r_nald C 2 0 d_Mo_row_115 rfl rfl (by omega) (by decide) ?_
            refine r_nsub C d_Mo_row_116 (by omega) ?_
            refine r_iret C E d_Mo_row_117 (by first | decide | omega | (simp only [rmk]; omega)) (by first | decide | omega | (simp only [rmk]; omega)) ?_
            exact ⟨_, _, rfl, rfl, Or.inl ⟨⟨hqi, hhk, by decide, by decide⟩, rfl, by rw [nI_clamp (by omega)]; rfl⟩⟩
        · exact absurd c_26 (by decide)

set_option maxHeartbeats 4000000 in
set_option maxRecDepth 100000 in
theorem c_Mo_place (g : GG) (l : Launch) {m0 : Nat} {ad : Nat → Nat} {qth : Int32} {qsz : Int32} {qtk : Int32} {qde : Int32} {qru : Int32} {qat : Int32} {qen : Int32} {qto : Int32} {qbe : Int32} {qva : Int32} {qwr : Int32} {qop : Int32} {qwi : Int32} {qhe : Int32} {qma : Int32} {qir : Bool} {qiu : Bool} {rw_ : Nat} {z : Int32} {y : Int32} {RB : Nat → Nat} {PL : Nat → Nat}  (h1 : rw_ ≤ 4000) (hRB : qiu = true → ∀ j, j < rw_ → RB j ≤ RB (j + 1)) (hRE : qiu = true → ∀ j, j < rw_ → RB (j + 1) ≤ 30000) : Cn g l y_Mo_place b_Mo_place 4 (some .int) (rmk 1 0 0 21) [.ref m0, .int z, .int y] ([(m0, .inr (9, MO ad qth qsz (bI qir) qtk qde qru qat qen qto qbe qva qwr qop (bI qiu) qwi qhe (nI rw_) qma)), ((ad 34), .inl (g.2.1 0, 4001, .inl (aI RB))), ((ad 35), .inl (g.2.1 0, 30000, .inl (aI PL)))]) (fun (r0 : Option Value) (w0 : va_W) => ∃ th : Int32, ∃ rv : Int32, r0 = some (.int rv) ∧ w0 = [(m0, .inr (9, MO ad th qsz (bI qir) qtk qde qru qat qen qto qbe qva qwr qop (bI qiu) qwi qhe (nI rw_) qma)), ((ad 34), .inl (g.2.1 0, 4001, .inl (aI RB))), ((ad 35), .inl (g.2.1 0, 30000, .inl (aI PL)))] ∧ (PlaR qiu RB PL rw_ z y th rv)) := by
  refine Cn.of R_Mo [(0, .ref m0), (1, .int z), (2, .int y)] (by decide) rfl (Nat.le_of_ble_eq_true rfl) rfl ?_
  intro x A Q hR hXl hin C E
  subst hXl
  refine r_aload_n C 0 d_Mo_place_0 rfl rfl ?_
  refine r_iload_n C 1 d_Mo_place_1 rfl rfl ?_
  refine j_callV C (c_Mo_isRow g (xl x) (m0 := m0) (ad := ad) (qth := qth) (qsz := qsz) (qtk := qtk) (qde := qde) (qru := qru) (qat := qat) (qen := qen) (qto := qto) (qbe := qbe) (qva := qva) (qwr := qwr) (qop := qop) (qwi := qwi) (qhe := qhe) (qma := qma) (qir := qir) (qiu := qiu) (rw_ := rw_) (z := z) (by first | assumption | omega | rfl)) (Sp.of (wr := [((ad 34), .inl (g.2.1 0, 4001, .inl (aI RB))), ((ad 35), .inl (g.2.1 0, 30000, .inl (aI PL)))]) [0] [1, 2] rfl rfl rfl rfl (by decide)) d_Mo_place_2 lk_Mo_276 mw_Mo_isRow vw_Mo_isRow (q0 := 0) rfl rfl (fit_of hR (by first | decide | (simp only [rmk]; omega)) (by first | decide | (simp only [rmk]; omega)) (by first | decide | (simp only [rmk]; omega)) (by first | decide | (simp only [rmk]; omega))) rfl (cat8 (Nat.le_of_ble_eq_true rfl)) (As := [.int z]) (rest := []) rfl (fun r_2 w_2 hp_2 => ?_)
  obtain ⟨rfl, rfl⟩ := hp_2
  refine r_after (ws' := [(m0, .inr (9, MO ad qth qsz (bI qir) qtk qde qru qat qen qto qbe qva qwr qop (bI qiu) qwi qhe (nI rw_) qma)), ((ad 34), .inl (g.2.1 0, 4001, .inl (aI RB))), ((ad 35), .inl (g.2.1 0, 30000, .inl (aI PL)))]) (st' := [.int (bI (qiu && hasK rw_ (inN z)))]) (n1 := 0) (n2 := 0) [2, 0, 1] rfl rfl rfl rfl rfl ?_
  refine r_bif_eq C 59 d_Mo_place_5 (by decide) (fun c_5 => ?_) (fun c_5 => ?_)
  · skip
    refine r_iconst C (nI 0) d_Mo_place_59 (by decide) ?_
    refine r_istore_n C (lv' := [(3, .int (nI 0)), (0, .ref m0), (1, .int z), (2, .int y)]) d_Mo_place_60 rfl (by decide) rfl ?_
    refine r_aload_n C 1 d_Mo_place_61 rfl rfl ?_
    refine r_iload_n C 0 d_Mo_place_62 rfl rfl ?_
    refine r_nif_eq C 70 d_Mo_place_63 (by decide) (by omega) (fun c_63 => ?_) (fun c_63 => ?_)
    rotate_left
    · exact absurd c_63 (by decide)
    refine r_iconst C (nI 1) d_Mo_place_70 (by decide) ?_
    refine j_callV C (c_Mo_says g (xl x) (m0 := m0) (ad := ad) (qth := qth) (qsz := qsz) (qtk := qtk) (qde := qde) (qru := qru) (qat := qat) (qen := qen) (qto := qto) (qbe := qbe) (qva := qva) (qwr := qwr) (qop := qop) (qwi := qwi) (qhe := qhe) (qrw := nI rw_) (qma := qma) (qir := qir) (qiu := qiu) (z := nI 1) ) (Sp.of (wr := [((ad 34), .inl (g.2.1 0, 4001, .inl (aI RB))), ((ad 35), .inl (g.2.1 0, 30000, .inl (aI PL)))]) [0] [1, 2] rfl rfl rfl rfl (by decide)) d_Mo_place_71 lk_Mo_270 mw_Mo_says vw_Mo_says (q0 := 0) rfl rfl (fit_of hR (by first | decide | (simp only [rmk]; omega)) (by first | decide | (simp only [rmk]; omega)) (by first | decide | (simp only [rmk]; omega)) (by first | decide | (simp only [rmk]; omega))) rfl (cat8 (Nat.le_of_ble_eq_true rfl)) (As := [.int (nI 1)]) (rest := []) rfl (fun r_71 w_71 hp_71 => ?_)
    obtain ⟨rfl, rfl⟩ := hp_71
    refine r_after (ws' := [(m0, .inr (9, MO ad (nI 1) qsz (bI qir) qtk qde qru qat qen qto qbe qva qwr qop (bI qiu) qwi qhe (nI rw_) qma)), ((ad 34), .inl (g.2.1 0, 4001, .inl (aI RB))), ((ad 35), .inl (g.2.1 0, 30000, .inl (aI PL)))]) (st' := [.int (bI (decide ((nI 1) = 0)))]) (n1 := 0) (n2 := 0) [2, 0, 1] rfl rfl rfl rfl rfl ?_
    refine r_bif_eq C 93 d_Mo_place_74 (by decide) (fun c_74 => ?_) (fun c_74 => ?_)
    · skip
      refine r_iconst C (nI 0) d_Mo_place_93 (by decide) ?_
      refine r_iret C E d_Mo_place_94 (by first | decide | omega | (simp only [rmk]; omega)) (by first | decide | omega | (simp only [rmk]; omega)) ?_
      exact ⟨_, _, rfl, rfl, Or.inr ⟨pl_n1 c_5, rfl, rfl⟩⟩
    · exact absurd c_74 (by decide)
  · skip
    obtain ⟨hqi, hhk, j, hj, rfl⟩ := and_row c_5
    have hrb := hRB hqi j hj
    have hre := hRE hqi j hj
    refine r_iload_n C 2 d_Mo_place_8 rfl rfl ?_
    refine r_if_lt C 59 d_Mo_place_9 (by decide) (fun c_9 => ?_) (fun c_9 => ?_)
    · skip
      refine r_iconst C (nI 0) d_Mo_place_59 (by decide) ?_
      refine r_istore_n C (lv' := [(3, .int (nI 0)), (0, .ref m0), (1, .int (nI j)), (2, .int y)]) d_Mo_place_60 rfl (by decide) rfl ?_
      refine r_aload_n C 1 d_Mo_place_61 rfl rfl ?_
      refine r_iload_n C 0 d_Mo_place_62 rfl rfl ?_
      refine r_nif_eq C 70 d_Mo_place_63 (by decide) (by omega) (fun c_63 => ?_) (fun c_63 => ?_)
      rotate_left
      · exact absurd c_63 (by decide)
      refine r_iconst C (nI 1) d_Mo_place_70 (by decide) ?_
      refine j_callV C (c_Mo_says g (xl x) (m0 := m0) (ad := ad) (qth := qth) (qsz := qsz) (qtk := qtk) (qde := qde) (qru := qru) (qat := qat) (qen := qen) (qto := qto) (qbe := qbe) (qva := qva) (qwr := qwr) (qop := qop) (qwi := qwi) (qhe := qhe) (qrw := nI rw_) (qma := qma) (qir := qir) (qiu := qiu) (z := nI 1) ) (Sp.of (wr := [((ad 34), .inl (g.2.1 0, 4001, .inl (aI RB))), ((ad 35), .inl (g.2.1 0, 30000, .inl (aI PL)))]) [0] [1, 2] rfl rfl rfl rfl (by decide)) d_Mo_place_71 lk_Mo_270 mw_Mo_says vw_Mo_says (q0 := 0) rfl rfl (fit_of hR (by first | decide | (simp only [rmk]; omega)) (by first | decide | (simp only [rmk]; omega)) (by first | decide | (simp only [rmk]; omega)) (by first | decide | (simp only [rmk]; omega))) rfl (cat8 (Nat.le_of_ble_eq_true rfl)) (As := [.int (nI 1)]) (rest := []) rfl (fun r_71 w_71 hp_71 => ?_)
      obtain ⟨rfl, rfl⟩ := hp_71
      refine r_after (ws' := [(m0, .inr (9, MO ad (nI 1) qsz (bI qir) qtk qde qru qat qen qto qbe qva qwr qop (bI qiu) qwi qhe (nI rw_) qma)), ((ad 34), .inl (g.2.1 0, 4001, .inl (aI RB))), ((ad 35), .inl (g.2.1 0, 30000, .inl (aI PL)))]) (st' := [.int (bI (decide ((nI 1) = 0)))]) (n1 := 0) (n2 := 0) [2, 0, 1] rfl rfl rfl rfl rfl ?_
      refine r_bif_eq C 93 d_Mo_place_74 (by decide) (fun c_74 => ?_) (fun c_74 => ?_)
      · skip
        refine r_iconst C (nI 0) d_Mo_place_93 (by decide) ?_
        refine r_iret C E d_Mo_place_94 (by first | decide | omega | (simp only [rmk]; omega)) (by first | decide | omega | (simp only [rmk]; omega)) ?_
        exact ⟨_, _, rfl, rfl, Or.inr ⟨fun _ => by rw [inN_nI (by omega), inN_neg c_9]; rfl, rfl, rfl⟩⟩
      · exact absurd c_74 (by decide)
    · skip
      obtain ⟨yn, hyn, rfl⟩ := nI_of c_9
      refine r_iload_n C 2 d_Mo_place_12 rfl rfl ?_
      refine r_aload_n C 0 d_Mo_place_13 rfl rfl ?_
      refine r_get C 0 34 d_Mo_place_14 ci_Mo fi_Mo_61 rfl (by decide) rfl rfl ?_
      refine r_aload_n C 0 d_Mo_place_17 rfl rfl ?_
      refine r_iload_n C 1 d_Mo_place_18 rfl rfl ?_
      refine j_callV C (c_Mo_isRow g (xl x) (m0 := m0) (ad := ad) (qth := qth) (qsz := qsz) (qtk := qtk) (qde := qde) (qru := qru) (qat := qat) (qen := qen) (qto := qto) (qbe := qbe) (qva := qva) (qwr := qwr) (qop := qop) (qwi := qwi) (qhe := qhe) (qma := qma) (qir := qir) (qiu := qiu) (rw_ := rw_) (z := nI j) (by first | assumption | omega | rfl)) (Sp.of (wr := [((ad 34), .inl (g.2.1 0, 4001, .inl (aI RB))), ((ad 35), .inl (g.2.1 0, 30000, .inl (aI PL)))]) [0] [1, 2] rfl rfl rfl rfl (by decide)) d_Mo_place_19 lk_Mo_276 mw_Mo_isRow vw_Mo_isRow (q0 := 0) rfl rfl (fit_of hR (by first | decide | (simp only [rmk]; omega)) (by first | decide | (simp only [rmk]; omega)) (by first | decide | (simp only [rmk]; omega)) (by first | decide | (simp only [rmk]; omega))) rfl (cat8 (Nat.le_of_ble_eq_true rfl)) (As := [.int (nI j)]) (rest := [.ref (ad 34), .int (nI yn)]) rfl (fun r_19 w_19 hp_19 => ?_)
      obtain ⟨rfl, rfl⟩ := hp_19
      refine r_after (ws' := [(m0, .inr (9, MO ad qth qsz (bI qir) qtk qde qru qat qen qto qbe qva qwr qop (bI qiu) qwi qhe (nI rw_) qma)), ((ad 34), .inl (g.2.1 0, 4001, .inl (aI RB))), ((ad 35), .inl (g.2.1 0, 30000, .inl (aI PL)))]) (st' := [.int (bI (qiu && hasK rw_ (inN (nI j)))), .ref (ad 34), .int (nI yn)]) (n1 := 0) (n2 := 0) [2, 0, 1] rfl rfl rfl rfl rfl ?_
      refine r_bif_eq C 31 d_Mo_place_22 (by decide) (fun c_22 => ?_) (fun c_22 => ?_)
      · exact absurd ((by rw [hqi, hhk]; rfl : (qiu && hasK rw_ (inN (nI j))) = true).symm.trans c_22) (by decide)
      · skip
        refine r_iload_n C 1 d_Mo_place_25 rfl rfl ?_
        refine r_iconst C (nI 1) d_Mo_place_26 (by decide) ?_
        refine r_nadd C d_Mo_place_27 ?_
        refine r_goto C 32 d_Mo_place_28 (by decide) ?_
        refine r_nald C 1 0 d_Mo_place_32 rfl rfl (by omega) (by decide) ?_
        refine r_aload_n C 0 d_Mo_place_33 rfl rfl ?_
        refine r_get C 0 34 d_Mo_place_34 ci_Mo fi_Mo_61 rfl (by decide) rfl rfl ?_
        refine r_aload_n C 0 d_Mo_place_37 rfl rfl ?_
        refine r_iload_n C 1 d_Mo_place_38 rfl rfl ?_
        refine j_callV C (c_Mo_isRow g (xl x) (m0 := m0) (ad := ad) (qth := qth) (qsz := qsz) (qtk := qtk) (qde := qde) (qru := qru) (qat := qat) (qen := qen) (qto := qto) (qbe := qbe) (qva := qva) (qwr := qwr) (qop := qop) (qwi := qwi) (qhe := qhe) (qma := qma) (qir := qir) (qiu := qiu) (rw_ := rw_) (z := nI j) (by first | assumption | omega | rfl)) (Sp.of (wr := [((ad 34), .inl (g.2.1 0, 4001, .inl (aI RB))), ((ad 35), .inl (g.2.1 0, 30000, .inl (aI PL)))]) [0] [1, 2] rfl rfl rfl rfl (by decide)) d_Mo_place_39 lk_Mo_276 mw_Mo_isRow vw_Mo_isRow (q0 := 0) rfl rfl (fit_of hR (by first | decide | (simp only [rmk]; omega)) (by first | decide | (simp only [rmk]; omega)) (by first | decide | (simp only [rmk]; omega)) (by first | decide | (simp only [rmk]; omega))) rfl (cat8 (Nat.le_of_ble_eq_true rfl)) (As := [.int (nI j)]) (rest := [.ref (ad 34), .int (nI (RB (j + 1))), .int (nI yn)]) rfl (fun r_39 w_39 hp_39 => ?_)
        obtain ⟨rfl, rfl⟩ := hp_39
        refine r_after (ws' := [(m0, .inr (9, MO ad qth qsz (bI qir) qtk qde qru qat qen qto qbe qva qwr qop (bI qiu) qwi qhe (nI rw_) qma)), ((ad 34), .inl (g.2.1 0, 4001, .inl (aI RB))), ((ad 35), .inl (g.2.1 0, 30000, .inl (aI PL)))]) (st' := [.int (bI (qiu && hasK rw_ (inN (nI j)))), .ref (ad 34), .int (nI (RB (j + 1))), .int (nI yn)]) (n1 := 0) (n2 := 0) [2, 0, 1] rfl rfl rfl rfl rfl ?_
        refine r_bif_eq C 49 d_Mo_place_42 (by decide) (fun c_42 => ?_) (fun c_42 => ?_)
        · exact absurd ((by rw [hqi, hhk]; rfl : (qiu && hasK rw_ (inN (nI j))) = true).symm.trans c_42) (by decide)
        · skip
          refine r_iload_n C 1 d_Mo_place_45 rfl rfl ?_
          refine r_goto C 50 d_Mo_place_46 (by decide) ?_
          refine r_nald C 1 0 d_Mo_place_50 rfl rfl (by omega) (by decide) ?_
          refine r_nsub C d_Mo_place_51 (by omega) ?_
          refine r_ncmp_ge C 59 d_Mo_place_52 (by decide) (by omega) (by omega) (fun c_52 => ?_) (fun c_52 => ?_)
          · skip
            refine r_iconst C (nI 0) d_Mo_place_59 (by decide) ?_
            refine r_istore_n C (lv' := [(3, .int (nI 0)), (0, .ref m0), (1, .int (nI j)), (2, .int (nI yn))]) d_Mo_place_60 rfl (by decide) rfl ?_
            refine r_aload_n C 1 d_Mo_place_61 rfl rfl ?_
            refine r_iload_n C 0 d_Mo_place_62 rfl rfl ?_
            refine r_nif_eq C 70 d_Mo_place_63 (by decide) (by omega) (fun c_63 => ?_) (fun c_63 => ?_)
            rotate_left
            · exact absurd c_63 (by decide)
            refine r_iconst C (nI 1) d_Mo_place_70 (by decide) ?_
            refine j_callV C (c_Mo_says g (xl x) (m0 := m0) (ad := ad) (qth := qth) (qsz := qsz) (qtk := qtk) (qde := qde) (qru := qru) (qat := qat) (qen := qen) (qto := qto) (qbe := qbe) (qva := qva) (qwr := qwr) (qop := qop) (qwi := qwi) (qhe := qhe) (qrw := nI rw_) (qma := qma) (qir := qir) (qiu := qiu) (z := nI 1) ) (Sp.of (wr := [((ad 34), .inl (g.2.1 0, 4001, .inl (aI RB))), ((ad 35), .inl (g.2.1 0, 30000, .inl (aI PL)))]) [0] [1, 2] rfl rfl rfl rfl (by decide)) d_Mo_place_71 lk_Mo_270 mw_Mo_says vw_Mo_says (q0 := 0) rfl rfl (fit_of hR (by first | decide | (simp only [rmk]; omega)) (by first | decide | (simp only [rmk]; omega)) (by first | decide | (simp only [rmk]; omega)) (by first | decide | (simp only [rmk]; omega))) rfl (cat8 (Nat.le_of_ble_eq_true rfl)) (As := [.int (nI 1)]) (rest := []) rfl (fun r_71 w_71 hp_71 => ?_)
            obtain ⟨rfl, rfl⟩ := hp_71
            refine r_after (ws' := [(m0, .inr (9, MO ad (nI 1) qsz (bI qir) qtk qde qru qat qen qto qbe qva qwr qop (bI qiu) qwi qhe (nI rw_) qma)), ((ad 34), .inl (g.2.1 0, 4001, .inl (aI RB))), ((ad 35), .inl (g.2.1 0, 30000, .inl (aI PL)))]) (st' := [.int (bI (decide ((nI 1) = 0)))]) (n1 := 0) (n2 := 0) [2, 0, 1] rfl rfl rfl rfl rfl ?_
            refine r_bif_eq C 93 d_Mo_place_74 (by decide) (fun c_74 => ?_) (fun c_74 => ?_)
            · skip
              refine r_iconst C (nI 0) d_Mo_place_93 (by decide) ?_
              refine r_iret C E d_Mo_place_94 (by first | decide | omega | (simp only [rmk]; omega)) (by first | decide | omega | (simp only [rmk]; omega)) ?_
              exact ⟨_, _, rfl, rfl, Or.inr ⟨fun _ => by rw [inN_nI (by omega), inN_nI hyn, placeK, if_neg (by omega)], rfl, rfl⟩⟩
            · exact absurd c_74 (by decide)
          · skip
            refine r_iconst C (nI 1) d_Mo_place_55 (by decide) ?_
            refine r_goto C 60 d_Mo_place_56 (by decide) ?_
            refine r_istore_n C (lv' := [(3, .int (nI 1)), (0, .ref m0), (1, .int (nI j)), (2, .int (nI yn))]) d_Mo_place_60 rfl (by decide) rfl ?_
            refine r_aload_n C 1 d_Mo_place_61 rfl rfl ?_
            refine r_iload_n C 0 d_Mo_place_62 rfl rfl ?_
            refine r_nif_eq C 70 d_Mo_place_63 (by decide) (by omega) (fun c_63 => ?_) (fun c_63 => ?_)
            · exact absurd c_63 (by decide)
            refine r_iconst C (nI 0) d_Mo_place_66 (by decide) ?_
            refine r_goto C 71 d_Mo_place_67 (by decide) ?_
            refine j_callV C (c_Mo_says g (xl x) (m0 := m0) (ad := ad) (qth := qth) (qsz := qsz) (qtk := qtk) (qde := qde) (qru := qru) (qat := qat) (qen := qen) (qto := qto) (qbe := qbe) (qva := qva) (qwr := qwr) (qop := qop) (qwi := qwi) (qhe := qhe) (qrw := nI rw_) (qma := qma) (qir := qir) (qiu := qiu) (z := nI 0) ) (Sp.of (wr := [((ad 34), .inl (g.2.1 0, 4001, .inl (aI RB))), ((ad 35), .inl (g.2.1 0, 30000, .inl (aI PL)))]) [0] [1, 2] rfl rfl rfl rfl (by decide)) d_Mo_place_71 lk_Mo_270 mw_Mo_says vw_Mo_says (q0 := 0) rfl rfl (fit_of hR (by first | decide | (simp only [rmk]; omega)) (by first | decide | (simp only [rmk]; omega)) (by first | decide | (simp only [rmk]; omega)) (by first | decide | (simp only [rmk]; omega))) rfl (cat8 (Nat.le_of_ble_eq_true rfl)) (As := [.int (nI 0)]) (rest := []) rfl (fun r_71 w_71 hp_71 => ?_)
            obtain ⟨rfl, rfl⟩ := hp_71
            refine r_after (ws' := [(m0, .inr (9, MO ad (nI 0) qsz (bI qir) qtk qde qru qat qen qto qbe qva qwr qop (bI qiu) qwi qhe (nI rw_) qma)), ((ad 34), .inl (g.2.1 0, 4001, .inl (aI RB))), ((ad 35), .inl (g.2.1 0, 30000, .inl (aI PL)))]) (st' := [.int (bI (decide ((nI 0) = 0)))]) (n1 := 0) (n2 := 0) [2, 0, 1] rfl rfl rfl rfl rfl ?_
            refine r_bif_eq C 93 d_Mo_place_74 (by decide) (fun c_74 => ?_) (fun c_74 => ?_)
            · exact absurd c_74 (by decide)
            · skip
              refine r_aload_n C 1 d_Mo_place_77 rfl rfl ?_
              refine r_get C 0 35 d_Mo_place_78 ci_Mo fi_Mo_64 rfl (by decide) rfl rfl ?_
              refine r_aload_n C 1 d_Mo_place_81 rfl rfl ?_
              refine r_get C 0 34 d_Mo_place_82 ci_Mo fi_Mo_61 rfl (by decide) rfl rfl ?_
              refine r_iload_n C 2 d_Mo_place_85 rfl rfl ?_
              refine r_nald C 1 0 d_Mo_place_86 rfl rfl (by omega) (by decide) ?_
              refine r_iload_n C 3 d_Mo_place_87 rfl rfl ?_
              refine r_nadd C d_Mo_place_88 ?_
              refine r_nald C 2 0 d_Mo_place_89 rfl rfl (by omega) (by decide) ?_
              refine r_goto C 94 d_Mo_place_90 (by decide) ?_
              refine r_iret C E d_Mo_place_94 (by first | decide | omega | (simp only [rmk]; omega)) (by first | decide | omega | (simp only [rmk]; omega)) ?_
              exact ⟨_, _, rfl, rfl, Or.inl ⟨hqi, ⟨_, by rw [inN_nI (by omega), inN_nI hyn, placeK, if_pos ⟨hj, by omega⟩], rfl⟩, rfl⟩⟩
