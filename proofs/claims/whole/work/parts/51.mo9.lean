def eachB (T : Nat → Nat) (so sta en : Nat) : Bool := isWm T so sta en (cod 0 0 (101 - 96) (97 - 96) (99 - 96) (104 - 96)) 0
def whereB (T : Nat → Nat) (so sta en : Nat) : Bool := isWm T so sta en (cod 0 (119 - 96) (104 - 96) (101 - 96) (114 - 96) (101 - 96)) 0
def deepB (T : Nat → Nat) (so sta en : Nat) : Bool := eachB T so sta en || whereB T so sta en || isSg T so sta 123
theorem pNum_b {T : Nat → Nat} {k lo hi z : Nat} {x y : TO} (h : pNum T k lo hi x = (some z, y)) : lo ≤ z ∧ z ≤ hi := by
  unfold pNum at h
  cases q : x.1.2.2.2.1 with
  | none => rw [q] at h; cases h
  | some v =>
    rw [q] at h
    simp only [] at h
    by_cases c : x.1.1 = 2 ∧ lo ≤ v ∧ v ≤ hi
    · rw [if_pos c] at h
      cases h
      exact c.2
    · rw [if_neg c] at h; cases h
theorem pLay_ok {T : Nat → Nat} {k w : Nat} {x y : TO} {l : LayerV} (hw : 2 ≤ w ∧ w ≤ 15) (h : pLay T k w x = (some l, y)) : LyOK l := by
  unfold pLay at h
  by_cases h4 : w = 4
  · rw [if_pos h4] at h
    cases a : pNum T k 1 16 (tTake T k x) with
    | mk a1 a2 =>
      rw [a] at h
      cases a1 with
      | none => cases h
      | some z1 =>
        simp only [] at h
        cases b : pNum T k 1 16 a2 with
        | mk b1 b2 =>
          rw [b] at h
          cases b1 with
          | none => cases h
          | some z2 =>
            cases h
            have := pNum_b a
            have := pNum_b b
            exact ⟨⟨show 2 ≤ 4 by decide, show 4 ≤ 15 by decide⟩, fun _ => ⟨z1, z2, rfl, rfl, by omega, by omega, by omega, by omega⟩, fun q => absurd (show (4 : Nat) = 7 from q) (by decide)⟩
  · rw [if_neg h4] at h
    by_cases h7 : w = 7
    · rw [if_pos h7] at h
      cases a : pNum T k 1 256 (tTake T k x) with
      | mk a1 a2 =>
        rw [a] at h
        cases a1 with
        | none => cases h
        | some z1 =>
          cases h
          have := pNum_b a
          exact ⟨⟨show 2 ≤ 7 by decide, show 7 ≤ 15 by decide⟩, fun q => absurd (show (7 : Nat) = 4 from q) (by decide), fun _ => ⟨z1, rfl, by omega, by omega⟩⟩
    · rw [if_neg h7] at h
      cases h
      exact ⟨hw, fun q => absurd q h4, fun q => absurd q h7⟩
theorem pEach_ok {T : Nat → Nat} {k ro : Nat} {x y : TO} {l : LayerV} (hr : ro = 1 ∨ ro = 2) (h : pEach T k ro x = (some l, y)) : LyOK l := by
  unfold pEach at h
  by_cases c : isRo x.1.1 x.1.2.2.2.2 ro = true
  · rw [if_pos c] at h
    cases q : x.1.2.2.2.2 with
    | none => rw [q] at c; cases c
    | some w =>
      rw [q] at c h
      have c' : x.1.1 = 1 ∧ roleN w = ro := by simpa [isRo] using c
      refine pLay_ok ?_ h
      show 2 ≤ w ∧ w ≤ 15
      rcases hr with rfl | rfl
      · have := role_1 c'.2; omega
      · have := role_2 c'.2; omega
  · rw [if_neg c] at h; cases h
theorem each_OW {T : Nat → Nat} {k ro op dp op2 dp2 : Nat} {x x2 : TO} {wr2 : Option Nat} {OW OF OS OW2 OF2 OS2 : Nat → Nat} (hr : ro = 1 ∨ ro = 2) (hO : ∀ j, OW j < 2 ^ 31) (h : EachR T k ro x wr2 x2 op dp OW OF OS op2 dp2 OW2 OF2 OS2) : ∀ j, OW2 j < 2 ^ 31 := by
  rcases h with ⟨l, a, -, -, -, rfl, -⟩ | ⟨v, -, -, -, -, rfl, -⟩
  · have hl := (pEach_ok hr a).1
    intro j
    by_cases q : j = op
    · rw [q, up_self]; omega
    · rw [up_ne _ _ q]; exact hO j
  · exact hO
theorem kindM_le {T : Nat → Nat} {so s e ki : Nat} (h : kindM T so s e = some ki) : ki ≤ 6 := by
  unfold kindM at h
  repeat' (first | (split at h; · cases h; decide) | cases h)
/-- what begins does: a case a word -/
def BegC (T : Nat → Nat) (k so e bg : Nat) (x : TO) (wr2 : Option Nat) (x2 : TO) (wa : Bool) (nr op dp : Nat) (OW OF OS KI LI AR WH FI SE : Nat → Nat) (CO NU CN : Nat → Option Nat) (nr2 op2 dp2 : Nat) (OW2 OF2 OS2 KI2 LI2 AR2 WH2 FI2 SE2 : Nat → Nat) (CO2 NU2 CN2 : Nat → Option Nat) : Prop :=
  (deepB T so bg e = true ∧ op = 40 ∧ wr2 = some bg) ∨
  (¬ (deepB T so bg e = true ∧ op = 40) ∧ (
    ((eachB T so bg e = true ∧ EachR T k 1 x wr2 x2 op dp OW OF OS op2 dp2 OW2 OF2 OS2 ∨ eachB T so bg e = false ∧ whereB T so bg e = true ∧ EachR T k 2 x wr2 x2 op dp OW OF OS op2 dp2 OW2 OF2 OS2 ∨ eachB T so bg e = false ∧ whereB T so bg e = false ∧ isSg T so bg 123 = true ∧ x2 = x ∧ wr2 = none ∧ op2 = op + 1 ∧ dp2 = max dp (op + 1) ∧ OW2 = up OW op 0 ∧ OF2 = up OF op 0 ∧ OS2 = up OS op 0) ∧ wa = true ∧ nr2 = nr ∧ KI2 = KI ∧ LI2 = LI ∧ AR2 = AR ∧ WH2 = WH ∧ FI2 = FI ∧ SE2 = SE ∧ CO2 = CO ∧ NU2 = NU ∧ CN2 = CN) ∨
    (eachB T so bg e = false ∧ whereB T so bg e = false ∧ isSg T so bg 123 = false ∧ wa = false ∧ (kindM T so bg e = none ∧ wr2 = some bg ∨ ∃ ki, kindM T so bg e = some ki ∧ dp2 = dp ∧ OW2 = OW ∧ OF2 = OF ∧ OS2 = OS ∧ RuleR T k ki x wr2 x2 nr op bg OW OF OS KI LI AR WH FI SE CO NU CN nr2 op2 KI2 LI2 AR2 WH2 FI2 SE2 CO2 NU2 CN2))))
section DEEP
variable {T : Nat → Nat} {so sta en : Nat}
theorem deep_1 (h : eachB T so sta en = true) : deepB T so sta en = true := by simp [deepB, h]
theorem deep_2 (h : eachB T so sta en = false) (h2 : whereB T so sta en = true) : deepB T so sta en = true := by simp [deepB, h, h2]
theorem deep_3 (h : eachB T so sta en = false) (h2 : whereB T so sta en = false) (h3 : isSg T so sta 123 = true) : deepB T so sta en = true := by simp [deepB, h, h2, h3]
theorem deep_4 (h : eachB T so sta en = false) (h2 : whereB T so sta en = false) (h3 : isSg T so sta 123 = false) : deepB T so sta en = false := by simp [deepB, h, h2, h3]
end DEEP
theorem ow_0 {OW : Nat → Nat} {op : Nat} (h : ∀ j, OW j < 2 ^ 31) : ∀ j, up OW op 0 j < 2 ^ 31 := fun j => by
  by_cases q : j = op
  · rw [q, up_self]; decide
  · rw [up_ne _ _ q]; exact h j

set_option maxRecDepth 100000 in
theorem lk_Mo_190 : LK R_Mo 190 y_Mo_isDeeper := Or.inl (gw (i := 1079) rfl rfl)
set_option maxRecDepth 100000 in
theorem lk_Mo_194 : LK R_Mo 194 y_Mo_each := Or.inl (gw (i := 1098) rfl rfl)
set_option maxRecDepth 100000 in
theorem lk_Mo_197 : LK R_Mo 197 y_Mo_where := Or.inl (gw (i := 1122) rfl rfl)
set_option maxRecDepth 100000 in
theorem lk_Mo_200 : LK R_Mo 200 y_Mo_ruleKind := Or.inl (gw (i := 1130) rfl rfl)
set_option maxRecDepth 100000 in
theorem lk_Mo_203 : LK R_Mo 203 y_Mo_rule := Or.inl (gw (i := 1134) rfl rfl)
set_option maxRecDepth 100000 in
theorem mw_Mo_each : MW y_Mo_each b_Mo_each 4 none 0 := ⟨(gw (i := 1101) rfl rfl), (gw (i := 80) rfl rfl), by decide +kernel⟩
set_option maxRecDepth 100000 in
theorem mw_Mo_isDeeper : MW y_Mo_isDeeper b_Mo_isDeeper 1 (some .boolean) 0 := ⟨(gw (i := 1082) rfl rfl), (gw (i := 80) rfl rfl), by decide +kernel⟩
set_option maxRecDepth 100000 in
theorem mw_Mo_rule : MW y_Mo_rule b_Mo_rule 8 none 1 := ⟨(gw (i := 1137) rfl rfl), (gw (i := 80) rfl rfl), by decide +kernel⟩
set_option maxRecDepth 100000 in
theorem mw_Mo_ruleKind : MW y_Mo_ruleKind b_Mo_ruleKind 1 (some .int) 0 := ⟨(gw (i := 1133) rfl rfl), (gw (i := 80) rfl rfl), by decide +kernel⟩
set_option maxRecDepth 100000 in
theorem mw_Mo_where : MW y_Mo_where b_Mo_where 2 none 0 := ⟨(gw (i := 1125) rfl rfl), (gw (i := 80) rfl rfl), by decide +kernel⟩
set_option maxRecDepth 100000 in
theorem vw_Mo_each : VW y_Mo_each := ⟨(gw (i := 1100) rfl rfl), (gw (i := 47) rfl rfl)⟩
set_option maxRecDepth 100000 in
theorem vw_Mo_isDeeper : VW y_Mo_isDeeper := ⟨(gw (i := 1081) rfl rfl), (gw (i := 43) rfl rfl)⟩
set_option maxRecDepth 100000 in
theorem vw_Mo_rule : VW y_Mo_rule := ⟨(gw (i := 1136) rfl rfl), (gw (i := 56) rfl rfl)⟩
set_option maxRecDepth 100000 in
theorem vw_Mo_ruleKind : VW y_Mo_ruleKind := ⟨(gw (i := 1132) rfl rfl), (gw (i := 55) rfl rfl)⟩
set_option maxRecDepth 100000 in
theorem vw_Mo_where : VW y_Mo_where := ⟨(gw (i := 1124) rfl rfl), (gw (i := 53) rfl rfl)⟩
theorem d_Mo_isDeeper_0 : decode b_Mo_isDeeper 0 = .ok (.aload_n 0, 1) := by decide +kernel
theorem d_Mo_isDeeper_1 : decode b_Mo_isDeeper 1 = .ok (.bipush 101, 2) := by decide +kernel
theorem d_Mo_isDeeper_3 : decode b_Mo_isDeeper 3 = .ok (.bipush 97, 2) := by decide +kernel
theorem d_Mo_isDeeper_5 : decode b_Mo_isDeeper 5 = .ok (.bipush 99, 2) := by decide +kernel
theorem d_Mo_isDeeper_7 : decode b_Mo_isDeeper 7 = .ok (.bipush 104, 2) := by decide +kernel
theorem d_Mo_isDeeper_9 : decode b_Mo_isDeeper 9 = .ok (.invokevirtual 149, 3) := by decide +kernel
theorem d_Mo_isDeeper_12 : decode b_Mo_isDeeper 12 = .ok (.ifCond .ne 29, 3) := by decide +kernel
theorem d_Mo_isDeeper_15 : decode b_Mo_isDeeper 15 = .ok (.aload_n 0, 1) := by decide +kernel
theorem d_Mo_isDeeper_16 : decode b_Mo_isDeeper 16 = .ok (.bipush 119, 2) := by decide +kernel
theorem d_Mo_isDeeper_18 : decode b_Mo_isDeeper 18 = .ok (.bipush 104, 2) := by decide +kernel
theorem d_Mo_isDeeper_20 : decode b_Mo_isDeeper 20 = .ok (.bipush 101, 2) := by decide +kernel
theorem d_Mo_isDeeper_22 : decode b_Mo_isDeeper 22 = .ok (.bipush 114, 2) := by decide +kernel
theorem d_Mo_isDeeper_24 : decode b_Mo_isDeeper 24 = .ok (.bipush 101, 2) := by decide +kernel
theorem d_Mo_isDeeper_26 : decode b_Mo_isDeeper 26 = .ok (.invokevirtual 145, 3) := by decide +kernel
theorem d_Mo_isDeeper_29 : decode b_Mo_isDeeper 29 = .ok (.ifCond .ne 12, 3) := by decide +kernel
theorem d_Mo_isDeeper_32 : decode b_Mo_isDeeper 32 = .ok (.aload_n 0, 1) := by decide +kernel
theorem d_Mo_isDeeper_33 : decode b_Mo_isDeeper 33 = .ok (.bipush 123, 2) := by decide +kernel
theorem d_Mo_isDeeper_35 : decode b_Mo_isDeeper 35 = .ok (.invokevirtual 156, 3) := by decide +kernel
theorem d_Mo_isDeeper_38 : decode b_Mo_isDeeper 38 = .ok (.ifCond .eq 7, 3) := by decide +kernel
theorem d_Mo_isDeeper_41 : decode b_Mo_isDeeper 41 = .ok (.iconst 1, 1) := by decide +kernel
theorem d_Mo_isDeeper_42 : decode b_Mo_isDeeper 42 = .ok (.goto 4, 3) := by decide +kernel
theorem d_Mo_isDeeper_45 : decode b_Mo_isDeeper 45 = .ok (.iconst 0, 1) := by decide +kernel
theorem d_Mo_isDeeper_46 : decode b_Mo_isDeeper 46 = .ok (.ireturn, 1) := by decide +kernel
theorem d_Mo_begins_0 : decode b_Mo_begins 0 = .ok (.aload_n 0, 1) := by decide +kernel
theorem d_Mo_begins_1 : decode b_Mo_begins 1 = .ok (.invokevirtual 190, 3) := by decide +kernel
theorem d_Mo_begins_4 : decode b_Mo_begins 4 = .ok (.ifCond .eq 20, 3) := by decide +kernel
theorem d_Mo_begins_7 : decode b_Mo_begins 7 = .ok (.aload_n 0, 1) := by decide +kernel
theorem d_Mo_begins_8 : decode b_Mo_begins 8 = .ok (.getfield 159, 3) := by decide +kernel
theorem d_Mo_begins_11 : decode b_Mo_begins 11 = .ok (.bipush 40, 2) := by decide +kernel
theorem d_Mo_begins_13 : decode b_Mo_begins 13 = .ok (.if_icmp .ne 11, 3) := by decide +kernel
theorem d_Mo_begins_16 : decode b_Mo_begins 16 = .ok (.aload_n 0, 1) := by decide +kernel
theorem d_Mo_begins_17 : decode b_Mo_begins 17 = .ok (.aload_n 0, 1) := by decide +kernel
theorem d_Mo_begins_18 : decode b_Mo_begins 18 = .ok (.getfield 106, 3) := by decide +kernel
theorem d_Mo_begins_21 : decode b_Mo_begins 21 = .ok (.invokevirtual 119, 3) := by decide +kernel
theorem d_Mo_begins_24 : decode b_Mo_begins 24 = .ok (.aload_n 0, 1) := by decide +kernel
theorem d_Mo_begins_25 : decode b_Mo_begins 25 = .ok (.getfield 94, 3) := by decide +kernel
theorem d_Mo_begins_28 : decode b_Mo_begins 28 = .ok (.ifCond .lt 5, 3) := by decide +kernel
theorem d_Mo_begins_31 : decode b_Mo_begins 31 = .ok (.iconst 1, 1) := by decide +kernel
theorem d_Mo_begins_32 : decode b_Mo_begins 32 = .ok (.ireturn, 1) := by decide +kernel
theorem d_Mo_begins_33 : decode b_Mo_begins 33 = .ok (.aload_n 0, 1) := by decide +kernel
theorem d_Mo_begins_34 : decode b_Mo_begins 34 = .ok (.bipush 101, 2) := by decide +kernel
theorem d_Mo_begins_36 : decode b_Mo_begins 36 = .ok (.bipush 97, 2) := by decide +kernel
theorem d_Mo_begins_38 : decode b_Mo_begins 38 = .ok (.bipush 99, 2) := by decide +kernel
theorem d_Mo_begins_40 : decode b_Mo_begins 40 = .ok (.bipush 104, 2) := by decide +kernel
theorem d_Mo_begins_42 : decode b_Mo_begins 42 = .ok (.invokevirtual 149, 3) := by decide +kernel
theorem d_Mo_begins_45 : decode b_Mo_begins 45 = .ok (.ifCond .eq 9, 3) := by decide +kernel
theorem d_Mo_begins_48 : decode b_Mo_begins 48 = .ok (.aload_n 0, 1) := by decide +kernel
theorem d_Mo_begins_49 : decode b_Mo_begins 49 = .ok (.invokevirtual 194, 3) := by decide +kernel
theorem d_Mo_begins_52 : decode b_Mo_begins 52 = .ok (.iconst 1, 1) := by decide +kernel
theorem d_Mo_begins_53 : decode b_Mo_begins 53 = .ok (.ireturn, 1) := by decide +kernel
theorem d_Mo_begins_54 : decode b_Mo_begins 54 = .ok (.aload_n 0, 1) := by decide +kernel
theorem d_Mo_begins_55 : decode b_Mo_begins 55 = .ok (.bipush 119, 2) := by decide +kernel
theorem d_Mo_begins_57 : decode b_Mo_begins 57 = .ok (.bipush 104, 2) := by decide +kernel
theorem d_Mo_begins_59 : decode b_Mo_begins 59 = .ok (.bipush 101, 2) := by decide +kernel
theorem d_Mo_begins_61 : decode b_Mo_begins 61 = .ok (.bipush 114, 2) := by decide +kernel
theorem d_Mo_begins_63 : decode b_Mo_begins 63 = .ok (.bipush 101, 2) := by decide +kernel
theorem d_Mo_begins_65 : decode b_Mo_begins 65 = .ok (.invokevirtual 145, 3) := by decide +kernel
theorem d_Mo_begins_68 : decode b_Mo_begins 68 = .ok (.ifCond .eq 9, 3) := by decide +kernel
theorem d_Mo_begins_71 : decode b_Mo_begins 71 = .ok (.aload_n 0, 1) := by decide +kernel
theorem d_Mo_begins_72 : decode b_Mo_begins 72 = .ok (.invokevirtual 197, 3) := by decide +kernel
theorem d_Mo_begins_75 : decode b_Mo_begins 75 = .ok (.iconst 1, 1) := by decide +kernel
theorem d_Mo_begins_76 : decode b_Mo_begins 76 = .ok (.ireturn, 1) := by decide +kernel
theorem d_Mo_begins_77 : decode b_Mo_begins 77 = .ok (.aload_n 0, 1) := by decide +kernel
theorem d_Mo_begins_78 : decode b_Mo_begins 78 = .ok (.bipush 123, 2) := by decide +kernel
theorem d_Mo_begins_80 : decode b_Mo_begins 80 = .ok (.invokevirtual 156, 3) := by decide +kernel
theorem d_Mo_begins_83 : decode b_Mo_begins 83 = .ok (.ifCond .eq 12, 3) := by decide +kernel
theorem d_Mo_begins_86 : decode b_Mo_begins 86 = .ok (.aload_n 0, 1) := by decide +kernel
theorem d_Mo_begins_87 : decode b_Mo_begins 87 = .ok (.iconst 0, 1) := by decide +kernel
theorem d_Mo_begins_88 : decode b_Mo_begins 88 = .ok (.iconst 0, 1) := by decide +kernel
theorem d_Mo_begins_89 : decode b_Mo_begins 89 = .ok (.iconst 0, 1) := by decide +kernel
theorem d_Mo_begins_90 : decode b_Mo_begins 90 = .ok (.invokevirtual 173, 3) := by decide +kernel
theorem d_Mo_begins_93 : decode b_Mo_begins 93 = .ok (.iconst 1, 1) := by decide +kernel
theorem d_Mo_begins_94 : decode b_Mo_begins 94 = .ok (.ireturn, 1) := by decide +kernel
theorem d_Mo_begins_95 : decode b_Mo_begins 95 = .ok (.aload_n 0, 1) := by decide +kernel
theorem d_Mo_begins_96 : decode b_Mo_begins 96 = .ok (.invokevirtual 200, 3) := by decide +kernel
theorem d_Mo_begins_99 : decode b_Mo_begins 99 = .ok (.istore_n 1, 1) := by decide +kernel
theorem d_Mo_begins_100 : decode b_Mo_begins 100 = .ok (.iload_n 1, 1) := by decide +kernel
theorem d_Mo_begins_101 : decode b_Mo_begins 101 = .ok (.ifCond .ge 14, 3) := by decide +kernel
theorem d_Mo_begins_104 : decode b_Mo_begins 104 = .ok (.aload_n 0, 1) := by decide +kernel
theorem d_Mo_begins_105 : decode b_Mo_begins 105 = .ok (.aload_n 0, 1) := by decide +kernel
theorem d_Mo_begins_106 : decode b_Mo_begins 106 = .ok (.getfield 106, 3) := by decide +kernel
theorem d_Mo_begins_109 : decode b_Mo_begins 109 = .ok (.invokevirtual 119, 3) := by decide +kernel
theorem d_Mo_begins_112 : decode b_Mo_begins 112 = .ok (.goto 8, 3) := by decide +kernel
theorem d_Mo_begins_115 : decode b_Mo_begins 115 = .ok (.aload_n 0, 1) := by decide +kernel
theorem d_Mo_begins_116 : decode b_Mo_begins 116 = .ok (.iload_n 1, 1) := by decide +kernel
theorem d_Mo_begins_117 : decode b_Mo_begins 117 = .ok (.invokevirtual 203, 3) := by decide +kernel
theorem d_Mo_begins_120 : decode b_Mo_begins 120 = .ok (.iconst 0, 1) := by decide +kernel
theorem d_Mo_begins_121 : decode b_Mo_begins 121 = .ok (.ireturn, 1) := by decide +kernel
set_option maxHeartbeats 4000000 in
set_option maxRecDepth 100000 in
theorem c_Mo_isDeeper (g : GG) (l : Launch) {m0 : Nat} {ad : Nat → Nat} {qth : Int32} {qsz : Int32} {qtk : Int32} {qde : Int32} {qru : Int32} {qat : Int32} {qva : Int32} {qwr : Int32} {qop : Int32} {qwi : Int32} {qhe : Int32} {qrw : Int32} {qma : Int32} {qir : Bool} {qiu : Bool} {so : Nat} {sta : Nat} {en : Nat} {T : Nat → Nat}  (hT : ∀ j, T j < 256) (hso : so ≤ 3) (hw1 : so = 1 → sta ≤ en ∧ en ≤ 2000 ∧ ∀ i, sta ≤ i → i < en → 97 ≤ T i ∧ T i ≤ 122) (hs3 : so = 3 → sta < 2000) : Cn g l y_Mo_isDeeper b_Mo_isDeeper 1 (some .boolean) (rmk 2 0 0 50) [.ref m0] ([(m0, .inr (9, MO ad qth qsz (bI qir) qtk qde qru qat (nI en) (nI so) (nI sta) qva qwr qop (bI qiu) qwi qhe qrw qma)), ((ad 2), .inl (g.2.1 0, 2000, .inl (aI T)))]) (fun (r0 : Option Value) (w0 : va_W) => r0 = some (.int (bI (deepB T so sta en))) ∧ w0 = [(m0, .inr (9, MO ad qth qsz (bI qir) qtk qde qru qat (nI en) (nI so) (nI sta) qva qwr qop (bI qiu) qwi qhe qrw qma)), ((ad 2), .inl (g.2.1 0, 2000, .inl (aI T)))]) := by
  refine Cn.of R_Mo [(0, .ref m0)] (by decide) rfl (Nat.le_of_ble_eq_true rfl) rfl ?_
  intro x A Q hR hXl hin C E
  subst hXl
  refine r_aload_n C 0 d_Mo_isDeeper_0 rfl rfl ?_
  refine r_bipush C (nI 101) d_Mo_isDeeper_1 (by decide) ?_
  refine r_bipush C (nI 97) d_Mo_isDeeper_3 (by decide) ?_
  refine r_bipush C (nI 99) d_Mo_isDeeper_5 (by decide) ?_
  refine r_bipush C (nI 104) d_Mo_isDeeper_7 (by decide) ?_
  refine j_callV C (c_Mo_is4 g (xl x) (m0 := m0) (ad := ad) (qth := qth) (qsz := qsz) (qtk := qtk) (qde := qde) (qru := qru) (qat := qat) (qva := qva) (qwr := qwr) (qop := qop) (qwi := qwi) (qhe := qhe) (qrw := qrw) (qma := qma) (qir := qir) (qiu := qiu) (so := so) (sta := sta) (en := en) (T := T) (a := 101) (b := 97) (c := 99) (d := 104) (by first | assumption | omega | rfl) (by first | assumption | omega | rfl) (hw1) (by decide) (by decide) (by decide) (by decide)) (Sp.of (wr := []) [0, 1] [] rfl rfl rfl rfl (by decide)) d_Mo_isDeeper_9 lk_Mo_149 mw_Mo_is4 vw_Mo_is4 (q0 := 0) rfl rfl (fit_of hR (by first | decide | (simp only [rmk]; omega)) (by first | decide | (simp only [rmk]; omega)) (by first | decide | (simp only [rmk]; omega)) (by first | decide | (simp only [rmk]; omega))) rfl (cat8 (Nat.le_of_ble_eq_true rfl)) (As := [.int (nI 101), .int (nI 97), .int (nI 99), .int (nI 104)]) (rest := []) rfl (fun r_9 w_9 hp_9 => ?_)
  obtain ⟨rfl, rfl⟩ := hp_9
  refine r_after (ws' := [(m0, .inr (9, MO ad qth qsz (bI qir) qtk qde qru qat (nI en) (nI so) (nI sta) qva qwr qop (bI qiu) qwi qhe qrw qma)), ((ad 2), .inl (g.2.1 0, 2000, .inl (aI T)))]) (st' := [.int (bI (isWm T so sta en (cod 0 0 (101 - 96) (97 - 96) (99 - 96) (104 - 96)) 0))]) (n1 := 0) (n2 := 0) [0, 1] rfl rfl rfl rfl rfl ?_
  refine r_bif_ne C 41 d_Mo_isDeeper_12 (by decide) (fun c_12 => ?_) (fun c_12 => ?_)
  · skip
    refine r_iconst C (nI 1) d_Mo_isDeeper_41 (by decide) ?_
    refine r_goto C 46 d_Mo_isDeeper_42 (by decide) ?_
    refine r_eqS (st' := [.int (bI true)]) rfl ?_
    refine r_bret C E d_Mo_isDeeper_46 (by first | decide | omega | (simp only [rmk]; omega)) (by first | decide | omega | (simp only [rmk]; omega)) ?_
    exact ⟨bsome (by symm; first | exact deep_1 c_12 | exact deep_2 c_12 c_29 | exact deep_3 c_12 c_29 c_38 | exact deep_4 c_12 c_29 c_38), rfl⟩
  · skip
    refine r_aload_n C 0 d_Mo_isDeeper_15 rfl rfl ?_
    refine r_bipush C (nI 119) d_Mo_isDeeper_16 (by decide) ?_
    refine r_bipush C (nI 104) d_Mo_isDeeper_18 (by decide) ?_
    refine r_bipush C (nI 101) d_Mo_isDeeper_20 (by decide) ?_
    refine r_bipush C (nI 114) d_Mo_isDeeper_22 (by decide) ?_
    refine r_bipush C (nI 101) d_Mo_isDeeper_24 (by decide) ?_
    refine j_callV C (c_Mo_is5 g (xl x) (m0 := m0) (ad := ad) (qth := qth) (qsz := qsz) (qtk := qtk) (qde := qde) (qru := qru) (qat := qat) (qva := qva) (qwr := qwr) (qop := qop) (qwi := qwi) (qhe := qhe) (qrw := qrw) (qma := qma) (qir := qir) (qiu := qiu) (so := so) (sta := sta) (en := en) (T := T) (a := 119) (b := 104) (c := 101) (d := 114) (e := 101) (by first | assumption | omega | rfl) (by first | assumption | omega | rfl) (hw1) (by decide) (by decide) (by decide) (by decide) (by decide)) (Sp.of (wr := []) [0, 1] [] rfl rfl rfl rfl (by decide)) d_Mo_isDeeper_26 lk_Mo_145 mw_Mo_is5 vw_Mo_is5 (q0 := 0) rfl rfl (fit_of hR (by first | decide | (simp only [rmk]; omega)) (by first | decide | (simp only [rmk]; omega)) (by first | decide | (simp only [rmk]; omega)) (by first | decide | (simp only [rmk]; omega))) rfl (cat8 (Nat.le_of_ble_eq_true rfl)) (As := [.int (nI 119), .int (nI 104), .int (nI 101), .int (nI 114), .int (nI 101)]) (rest := []) rfl (fun r_26 w_26 hp_26 => ?_)
    obtain ⟨rfl, rfl⟩ := hp_26
    refine r_after (ws' := [(m0, .inr (9, MO ad qth qsz (bI qir) qtk qde qru qat (nI en) (nI so) (nI sta) qva qwr qop (bI qiu) qwi qhe qrw qma)), ((ad 2), .inl (g.2.1 0, 2000, .inl (aI T)))]) (st' := [.int (bI (isWm T so sta en (cod 0 (119 - 96) (104 - 96) (101 - 96) (114 - 96) (101 - 96)) 0))]) (n1 := 0) (n2 := 0) [0, 1] rfl rfl rfl rfl rfl ?_
    refine r_bif_ne C 41 d_Mo_isDeeper_29 (by decide) (fun c_29 => ?_) (fun c_29 => ?_)
    · skip
      refine r_iconst C (nI 1) d_Mo_isDeeper_41 (by decide) ?_
      refine r_goto C 46 d_Mo_isDeeper_42 (by decide) ?_
      refine r_eqS (st' := [.int (bI true)]) rfl ?_
      refine r_bret C E d_Mo_isDeeper_46 (by first | decide | omega | (simp only [rmk]; omega)) (by first | decide | omega | (simp only [rmk]; omega)) ?_
      exact ⟨bsome (by symm; first | exact deep_1 c_12 | exact deep_2 c_12 c_29 | exact deep_3 c_12 c_29 c_38 | exact deep_4 c_12 c_29 c_38), rfl⟩
    · skip
      refine r_aload_n C 0 d_Mo_isDeeper_32 rfl rfl ?_
      refine r_bipush C (nI 123) d_Mo_isDeeper_33 (by decide) ?_
      refine j_callV C (c_Mo_isSigned g (xl x) (m0 := m0) (ad := ad) (qth := qth) (qsz := qsz) (qtk := qtk) (qde := qde) (qru := qru) (qat := qat) (qen := nI en) (qva := qva) (qwr := qwr) (qop := qop) (qwi := qwi) (qhe := qhe) (qrw := qrw) (qma := qma) (qir := qir) (qiu := qiu) (so := so) (sta := sta) (c := 123) (T := T) (by first | assumption | omega | rfl) (by first | assumption | omega | rfl) (hs3) (by first | assumption | omega | rfl)) (Sp.of (wr := []) [0, 1] [] rfl rfl rfl rfl (by decide)) d_Mo_isDeeper_35 lk_Mo_156 mw_Mo_isSigned vw_Mo_isSigned (q0 := 0) rfl rfl (fit_of hR (by first | decide | (simp only [rmk]; omega)) (by first | decide | (simp only [rmk]; omega)) (by first | decide | (simp only [rmk]; omega)) (by first | decide | (simp only [rmk]; omega))) rfl (cat8 (Nat.le_of_ble_eq_true rfl)) (As := [.int (nI 123)]) (rest := []) rfl (fun r_35 w_35 hp_35 => ?_)
      obtain ⟨rfl, rfl⟩ := hp_35
      refine r_after (ws' := [(m0, .inr (9, MO ad qth qsz (bI qir) qtk qde qru qat (nI en) (nI so) (nI sta) qva qwr qop (bI qiu) qwi qhe qrw qma)), ((ad 2), .inl (g.2.1 0, 2000, .inl (aI T)))]) (st' := [.int (bI (isSg T so sta 123))]) (n1 := 0) (n2 := 0) [0, 1] rfl rfl rfl rfl rfl ?_
      refine r_bif_eq C 45 d_Mo_isDeeper_38 (by decide) (fun c_38 => ?_) (fun c_38 => ?_)
      · skip
        refine r_iconst C (nI 0) d_Mo_isDeeper_45 (by decide) ?_
        refine r_eqS (st' := [.int (bI false)]) rfl ?_
        refine r_bret C E d_Mo_isDeeper_46 (by first | decide | omega | (simp only [rmk]; omega)) (by first | decide | omega | (simp only [rmk]; omega)) ?_
        exact ⟨bsome (by symm; first | exact deep_1 c_12 | exact deep_2 c_12 c_29 | exact deep_3 c_12 c_29 c_38 | exact deep_4 c_12 c_29 c_38), rfl⟩
      · skip
        refine r_iconst C (nI 1) d_Mo_isDeeper_41 (by decide) ?_
        refine r_goto C 46 d_Mo_isDeeper_42 (by decide) ?_
        refine r_eqS (st' := [.int (bI true)]) rfl ?_
        refine r_bret C E d_Mo_isDeeper_46 (by first | decide | omega | (simp only [rmk]; omega)) (by first | decide | omega | (simp only [rmk]; omega)) ?_
        exact ⟨bsome (by symm; first | exact deep_1 c_12 | exact deep_2 c_12 c_29 | exact deep_3 c_12 c_29 c_38 | exact deep_4 c_12 c_29 c_38), rfl⟩

set_option maxHeartbeats 4000000 in
set_option maxRecDepth 100000 in
theorem c_Mo_begins (g : GG) (l : Launch) {m0 : Nat} {ad : Nat → Nat} {qth : Int32} {qwi : Int32} {qhe : Int32} {qrw : Int32} {qma : Int32} {qir : Bool} {qiu : Bool} {k : Nat} {so : Nat} {e : Nat} {tn : Nat} {op : Nat} {nr : Nat} {bg : Nat} {dp : Nat} {qva : Int32} {T : Nat → Nat} {BE : Nat → Nat} {EN : Nat → Nat} {OW : Nat → Nat} {OF : Nat → Nat} {OS : Nat → Nat} {KI : Nat → Nat} {LI : Nat → Nat} {AR : Nat → Nat} {WH : Nat → Nat} {FI : Nat → Nat} {SE : Nat → Nat} {CO : Nat → Option Nat} {NU : Nat → Option Nat} {CN : Nat → Option Nat}  (hk : k ≤ 2000) (hT : ∀ j, T j < 256) (hri : RI T k so e tn (nI e) none BE EN) (hop : op ≤ 40) (hnr : nr < 500) (hdp : dp < 2 ^ 31) (hOW : ∀ j, OW j < 2 ^ 31) (hw1 : so = 1 → bg ≤ e ∧ e ≤ 2000 ∧ ∀ i, bg ≤ i → i < e → 97 ≤ T i ∧ T i ≤ 122) (hs3 : so = 3 → bg < 2000) (hbg : bg ≤ 2000) : Cn g l y_Mo_begins b_Mo_begins 2 (some .boolean) (rmk 4 0 0 95) [.ref m0] ([(m0, .inr (9, MO ad qth (nI k) (bI qir) (nI tn) (nI dp) (nI nr) (nI e) (nI e) (nI so) (nI bg) qva (-1) (nI op) (bI qiu) qwi qhe qrw qma)), ((ad 2), .inl (g.2.1 0, 2000, .inl (aI T))), ((ad 6), .inl (g.2.1 0, 2000, .inl (aI BE))), ((ad 7), .inl (g.2.1 0, 2000, .inl (aI EN))), ((ad 10), .inl (g.2.1 0, 500, .inl (aI KI))), ((ad 11), .inl (g.2.1 0, 500, .inl (oA CO))), ((ad 12), .inl (g.2.1 0, 500, .inl (oA NU))), ((ad 13), .inl (g.2.1 0, 500, .inl (oA CN))), ((ad 14), .inl (g.2.1 0, 500, .inl (aI LI))), ((ad 15), .inl (g.2.1 0, 500, .inl (aI AR))), ((ad 16), .inl (g.2.1 0, 20000, .inl (aI WH))), ((ad 17), .inl (g.2.1 0, 20000, .inl (aI FI))), ((ad 18), .inl (g.2.1 0, 20000, .inl (aI SE))), ((ad 26), .inl (g.2.1 0, 40, .inl (aI OW))), ((ad 27), .inl (g.2.1 0, 40, .inl (aI OF))), ((ad 28), .inl (g.2.1 0, 40, .inl (aI OS)))]) (fun (r0 : Option Value) (w0 : va_W) => ∃ so2 : Nat, ∃ e2 : Nat, ∃ tn2 : Nat, ∃ nr2 : Nat, ∃ op2 : Nat, ∃ dp2 : Nat, ∃ qe2 : Int32, ∃ qb2 : Int32, ∃ qv2 : Int32, ∃ wr2 : Option Nat, ∃ BE2 : Nat → Nat, ∃ EN2 : Nat → Nat, ∃ OW2 : Nat → Nat, ∃ OF2 : Nat → Nat, ∃ OS2 : Nat → Nat, ∃ KI2 : Nat → Nat, ∃ LI2 : Nat → Nat, ∃ AR2 : Nat → Nat, ∃ WH2 : Nat → Nat, ∃ FI2 : Nat → Nat, ∃ SE2 : Nat → Nat, ∃ CO2 : Nat → Option Nat, ∃ NU2 : Nat → Option Nat, ∃ CN2 : Nat → Option Nat, ∃ wa : Bool, r0 = some (.int (bI wa)) ∧ w0 = [(m0, .inr (9, MO ad qth (nI k) (bI qir) (nI tn2) (nI dp2) (nI nr2) (nI e2) qe2 (nI so2) qb2 qv2 (oI wr2) (nI op2) (bI qiu) qwi qhe qrw qma)), ((ad 2), .inl (g.2.1 0, 2000, .inl (aI T))), ((ad 6), .inl (g.2.1 0, 2000, .inl (aI BE2))), ((ad 7), .inl (g.2.1 0, 2000, .inl (aI EN2))), ((ad 10), .inl (g.2.1 0, 500, .inl (aI KI2))), ((ad 11), .inl (g.2.1 0, 500, .inl (oA CO2))), ((ad 12), .inl (g.2.1 0, 500, .inl (oA NU2))), ((ad 13), .inl (g.2.1 0, 500, .inl (oA CN2))), ((ad 14), .inl (g.2.1 0, 500, .inl (aI LI2))), ((ad 15), .inl (g.2.1 0, 500, .inl (aI AR2))), ((ad 16), .inl (g.2.1 0, 20000, .inl (aI WH2))), ((ad 17), .inl (g.2.1 0, 20000, .inl (aI FI2))), ((ad 18), .inl (g.2.1 0, 20000, .inl (aI SE2))), ((ad 26), .inl (g.2.1 0, 40, .inl (aI OW2))), ((ad 27), .inl (g.2.1 0, 40, .inl (aI OF2))), ((ad 28), .inl (g.2.1 0, 40, .inl (aI OS2)))] ∧ (RI T k so2 e2 tn2 qe2 wr2 BE2 EN2) ∧ (∀ j, OW2 j < 2 ^ 31) ∧ (BegC T k so e bg (xOf T k so e BE EN tn) wr2 (xOf T k so2 e2 BE2 EN2 tn2) wa nr op dp OW OF OS KI LI AR WH FI SE CO NU CN nr2 op2 dp2 OW2 OF2 OS2 KI2 LI2 AR2 WH2 FI2 SE2 CO2 NU2 CN2)) := by
  refine Cn.of R_Mo [(0, .ref m0)] (by decide) rfl (Nat.le_of_ble_eq_true rfl) rfl ?_
  intro x A Q hR hXl hin C E
  subst hXl
  have hso := hri.1
  refine r_aload_n C 0 d_Mo_begins_0 rfl rfl ?_
  refine j_callV C (c_Mo_isDeeper g (xl x) (m0 := m0) (ad := ad) (qth := qth) (qsz := nI k) (qtk := nI tn) (qde := nI dp) (qru := nI nr) (qat := nI e) (qva := qva) (qwr := (-1)) (qop := nI op) (qwi := qwi) (qhe := qhe) (qrw := qrw) (qma := qma) (qir := qir) (qiu := qiu) (so := so) (sta := bg) (en := e) (T := T) (by first | assumption | omega | rfl) (by first | assumption | omega | rfl) (hw1) (hs3)) (Sp.of (wr := [((ad 6), .inl (g.2.1 0, 2000, .inl (aI BE))), ((ad 7), .inl (g.2.1 0, 2000, .inl (aI EN))), ((ad 10), .inl (g.2.1 0, 500, .inl (aI KI))), ((ad 11), .inl (g.2.1 0, 500, .inl (oA CO))), ((ad 12), .inl (g.2.1 0, 500, .inl (oA NU))), ((ad 13), .inl (g.2.1 0, 500, .inl (oA CN))), ((ad 14), .inl (g.2.1 0, 500, .inl (aI LI))), ((ad 15), .inl (g.2.1 0, 500, .inl (aI AR))), ((ad 16), .inl (g.2.1 0, 20000, .inl (aI WH))), ((ad 17), .inl (g.2.1 0, 20000, .inl (aI FI))), ((ad 18), .inl (g.2.1 0, 20000, .inl (aI SE))), ((ad 26), .inl (g.2.1 0, 40, .inl (aI OW))), ((ad 27), .inl (g.2.1 0, 40, .inl (aI OF))), ((ad 28), .inl (g.2.1 0, 40, .inl (aI OS)))]) [0, 1] [2, 3, 4, 5, 6, 7, 8, 9, 10, 11, 12, 13, 14, 15] rfl rfl rfl rfl (by decide)) d_Mo_begins_1 lk_Mo_190 mw_Mo_isDeeper vw_Mo_isDeeper (q0 := 0) rfl rfl (fit_of hR (by first | decide | (simp only [rmk]; omega)) (by first | decide | (simp only [rmk]; omega)) (by first | decide | (simp only [rmk]; omega)) (by first | decide | (simp only [rmk]; omega))) rfl (cat8 (Nat.le_of_ble_eq_true rfl)) (As := []) (rest := []) rfl (fun r_1 w_1 hp_1 => ?_)
  obtain ⟨rfl, rfl⟩ := hp_1
  refine r_after (ws' := [(m0, .inr (9, MO ad qth (nI k) (bI qir) (nI tn) (nI dp) (nI nr) (nI e) (nI e) (nI so) (nI bg) qva (-1) (nI op) (bI qiu) qwi qhe qrw qma)), ((ad 2), .inl (g.2.1 0, 2000, .inl (aI T))), ((ad 6), .inl (g.2.1 0, 2000, .inl (aI BE))), ((ad 7), .inl (g.2.1 0, 2000, .inl (aI EN))), ((ad 10), .inl (g.2.1 0, 500, .inl (aI KI))), ((ad 11), .inl (g.2.1 0, 500, .inl (oA CO))), ((ad 12), .inl (g.2.1 0, 500, .inl (oA NU))), ((ad 13), .inl (g.2.1 0, 500, .inl (oA CN))), ((ad 14), .inl (g.2.1 0, 500, .inl (aI LI))), ((ad 15), .inl (g.2.1 0, 500, .inl (aI AR))), ((ad 16), .inl (g.2.1 0, 20000, .inl (aI WH))), ((ad 17), .inl (g.2.1 0, 20000, .inl (aI FI))), ((ad 18), .inl (g.2.1 0, 20000, .inl (aI SE))), ((ad 26), .inl (g.2.1 0, 40, .inl (aI OW))), ((ad 27), .inl (g.2.1 0, 40, .inl (aI OF))), ((ad 28), .inl (g.2.1 0, 40, .inl (aI OS)))]) (st' := [.int (bI (deepB T so bg e))]) (n1 := 0) (n2 := 0) [14, 15, 0, 1, 2, 3, 4, 5, 6, 7, 8, 9, 10, 11, 12, 13] rfl rfl rfl rfl rfl ?_
  refine r_bif_eq C 24 d_Mo_begins_4 (by decide) (fun c_4 => ?_) (fun c_4 => ?_)
  · skip
    refine r_aload_n C 0 d_Mo_begins_24 rfl rfl ?_
    refine r_get C 0 24 d_Mo_begins_25 ci_Mo fi_Mo_94 rfl (by decide) rfl rfl ?_
    refine r_if_lt C 33 d_Mo_begins_28 (by decide) (fun c_28 => ?_) (fun c_28 => ?_)
    · skip
      refine r_aload_n C 0 d_Mo_begins_33 rfl rfl ?_
      refine r_bipush C (nI 101) d_Mo_begins_34 (by decide) ?_
      refine r_bipush C (nI 97) d_Mo_begins_36 (by decide) ?_
      refine r_bipush C (nI 99) d_Mo_begins_38 (by decide) ?_
      refine r_bipush C (nI 104) d_Mo_begins_40 (by decide) ?_
      refine j_callV C (c_Mo_is4 g (xl x) (m0 := m0) (ad := ad) (qth := qth) (qsz := nI k) (qtk := nI tn) (qde := nI dp) (qru := nI nr) (qat := nI e) (qva := qva) (qwr := (-1)) (qop := nI op) (qwi := qwi) (qhe := qhe) (qrw := qrw) (qma := qma) (qir := qir) (qiu := qiu) (so := so) (sta := bg) (en := e) (T := T) (a := 101) (b := 97) (c := 99) (d := 104) (by first | assumption | omega | rfl) (by first | assumption | omega | rfl) (hw1) (by decide) (by decide) (by decide) (by decide)) (Sp.of (wr := [((ad 6), .inl (g.2.1 0, 2000, .inl (aI BE))), ((ad 7), .inl (g.2.1 0, 2000, .inl (aI EN))), ((ad 10), .inl (g.2.1 0, 500, .inl (aI KI))), ((ad 11), .inl (g.2.1 0, 500, .inl (oA CO))), ((ad 12), .inl (g.2.1 0, 500, .inl (oA NU))), ((ad 13), .inl (g.2.1 0, 500, .inl (oA CN))), ((ad 14), .inl (g.2.1 0, 500, .inl (aI LI))), ((ad 15), .inl (g.2.1 0, 500, .inl (aI AR))), ((ad 16), .inl (g.2.1 0, 20000, .inl (aI WH))), ((ad 17), .inl (g.2.1 0, 20000, .inl (aI FI))), ((ad 18), .inl (g.2.1 0, 20000, .inl (aI SE))), ((ad 26), .inl (g.2.1 0, 40, .inl (aI OW))), ((ad 27), .inl (g.2.1 0, 40, .inl (aI OF))), ((ad 28), .inl (g.2.1 0, 40, .inl (aI OS)))]) [0, 1] [2, 3, 4, 5, 6, 7, 8, 9, 10, 11, 12, 13, 14, 15] rfl rfl rfl rfl (by decide)) d_Mo_begins_42 lk_Mo_149 mw_Mo_is4 vw_Mo_is4 (q0 := 0) rfl rfl (fit_of hR (by first | decide | (simp only [rmk]; omega)) (by first | decide | (simp only [rmk]; omega)) (by first | decide | (simp only [rmk]; omega)) (by first | decide | (simp only [rmk]; omega))) rfl (cat8 (Nat.le_of_ble_eq_true rfl)) (As := [.int (nI 101), .int (nI 97), .int (nI 99), .int (nI 104)]) (rest := []) rfl (fun r_42 w_42 hp_42 => ?_)
      obtain ⟨rfl, rfl⟩ := hp_42
      refine r_after (ws' := [(m0, .inr (9, MO ad qth (nI k) (bI qir) (nI tn) (nI dp) (nI nr) (nI e) (nI e) (nI so) (nI bg) qva (-1) (nI op) (bI qiu) qwi qhe qrw qma)), ((ad 2), .inl (g.2.1 0, 2000, .inl (aI T))), ((ad 6), .inl (g.2.1 0, 2000, .inl (aI BE))), ((ad 7), .inl (g.2.1 0, 2000, .inl (aI EN))), ((ad 10), .inl (g.2.1 0, 500, .inl (aI KI))), ((ad 11), .inl (g.2.1 0, 500, .inl (oA CO))), ((ad 12), .inl (g.2.1 0, 500, .inl (oA NU))), ((ad 13), .inl (g.2.1 0, 500, .inl (oA CN))), ((ad 14), .inl (g.2.1 0, 500, .inl (aI LI))), ((ad 15), .inl (g.2.1 0, 500, .inl (aI AR))), ((ad 16), .inl (g.2.1 0, 20000, .inl (aI WH))), ((ad 17), .inl (g.2.1 0, 20000, .inl (aI FI))), ((ad 18), .inl (g.2.1 0, 20000, .inl (aI SE))), ((ad 26), .inl (g.2.1 0, 40, .inl (aI OW))), ((ad 27), .inl (g.2.1 0, 40, .inl (aI OF))), ((ad 28), .inl (g.2.1 0, 40, .inl (aI OS)))]) (st' := [.int (bI (isWm T so bg e (cod 0 0 (101 - 96) (97 - 96) (99 - 96) (104 - 96)) 0))]) (n1 := 0) (n2 := 0) [14, 15, 0, 1, 2, 3, 4, 5, 6, 7, 8, 9, 10, 11, 12, 13] rfl rfl rfl rfl rfl ?_
      refine r_bif_eq C 54 d_Mo_begins_45 (by decide) (fun c_45 => ?_) (fun c_45 => ?_)
      · skip
        refine r_aload_n C 0 d_Mo_begins_54 rfl rfl ?_
        refine r_bipush C (nI 119) d_Mo_begins_55 (by decide) ?_
        refine r_bipush C (nI 104) d_Mo_begins_57 (by decide) ?_
        refine r_bipush C (nI 101) d_Mo_begins_59 (by decide) ?_
        refine r_bipush C (nI 114) d_Mo_begins_61 (by decide) ?_
        refine r_bipush C (nI 101) d_Mo_begins_63 (by decide) ?_
        refine j_callV C (c_Mo_is5 g (xl x) (m0 := m0) (ad := ad) (qth := qth) (qsz := nI k) (qtk := nI tn) (qde := nI dp) (qru := nI nr) (qat := nI e) (qva := qva) (qwr := (-1)) (qop := nI op) (qwi := qwi) (qhe := qhe) (qrw := qrw) (qma := qma) (qir := qir) (qiu := qiu) (so := so) (sta := bg) (en := e) (T := T) (a := 119) (b := 104) (c := 101) (d := 114) (e := 101) (by first | assumption | omega | rfl) (by first | assumption | omega | rfl) (hw1) (by decide) (by decide) (by decide) (by decide) (by decide)) (Sp.of (wr := [((ad 6), .inl (g.2.1 0, 2000, .inl (aI BE))), ((ad 7), .inl (g.2.1 0, 2000, .inl (aI EN))), ((ad 10), .inl (g.2.1 0, 500, .inl (aI KI))), ((ad 11), .inl (g.2.1 0, 500, .inl (oA CO))), ((ad 12), .inl (g.2.1 0, 500, .inl (oA NU))), ((ad 13), .inl (g.2.1 0, 500, .inl (oA CN))), ((ad 14), .inl (g.2.1 0, 500, .inl (aI LI))), ((ad 15), .inl (g.2.1 0, 500, .inl (aI AR))), ((ad 16), .inl (g.2.1 0, 20000, .inl (aI WH))), ((ad 17), .inl (g.2.1 0, 20000, .inl (aI FI))), ((ad 18), .inl (g.2.1 0, 20000, .inl (aI SE))), ((ad 26), .inl (g.2.1 0, 40, .inl (aI OW))), ((ad 27), .inl (g.2.1 0, 40, .inl (aI OF))), ((ad 28), .inl (g.2.1 0, 40, .inl (aI OS)))]) [0, 1] [2, 3, 4, 5, 6, 7, 8, 9, 10, 11, 12, 13, 14, 15] rfl rfl rfl rfl (by decide)) d_Mo_begins_65 lk_Mo_145 mw_Mo_is5 vw_Mo_is5 (q0 := 0) rfl rfl (fit_of hR (by first | decide | (simp only [rmk]; omega)) (by first | decide | (simp only [rmk]; omega)) (by first | decide | (simp only [rmk]; omega)) (by first | decide | (simp only [rmk]; omega))) rfl (cat8 (Nat.le_of_ble_eq_true rfl)) (As := [.int (nI 119), .int (nI 104), .int (nI 101), .int (nI 114), .int (nI 101)]) (rest := []) rfl (fun r_65 w_65 hp_65 => ?_)
        obtain ⟨rfl, rfl⟩ := hp_65
        refine r_after (ws' := [(m0, .inr (9, MO ad qth (nI k) (bI qir) (nI tn) (nI dp) (nI nr) (nI e) (nI e) (nI so) (nI bg) qva (-1) (nI op) (bI qiu) qwi qhe qrw qma)), ((ad 2), .inl (g.2.1 0, 2000, .inl (aI T))), ((ad 6), .inl (g.2.1 0, 2000, .inl (aI BE))), ((ad 7), .inl (g.2.1 0, 2000, .inl (aI EN))), ((ad 10), .inl (g.2.1 0, 500, .inl (aI KI))), ((ad 11), .inl (g.2.1 0, 500, .inl (oA CO))), ((ad 12), .inl (g.2.1 0, 500, .inl (oA NU))), ((ad 13), .inl (g.2.1 0, 500, .inl (oA CN))), ((ad 14), .inl (g.2.1 0, 500, .inl (aI LI))), ((ad 15), .inl (g.2.1 0, 500, .inl (aI AR))), ((ad 16), .inl (g.2.1 0, 20000, .inl (aI WH))), ((ad 17), .inl (g.2.1 0, 20000, .inl (aI FI))), ((ad 18), .inl (g.2.1 0, 20000, .inl (aI SE))), ((ad 26), .inl (g.2.1 0, 40, .inl (aI OW))), ((ad 27), .inl (g.2.1 0, 40, .inl (aI OF))), ((ad 28), .inl (g.2.1 0, 40, .inl (aI OS)))]) (st' := [.int (bI (isWm T so bg e (cod 0 (119 - 96) (104 - 96) (101 - 96) (114 - 96) (101 - 96)) 0))]) (n1 := 0) (n2 := 0) [14, 15, 0, 1, 2, 3, 4, 5, 6, 7, 8, 9, 10, 11, 12, 13] rfl rfl rfl rfl rfl ?_
        refine r_bif_eq C 77 d_Mo_begins_68 (by decide) (fun c_68 => ?_) (fun c_68 => ?_)
        · skip
          refine r_aload_n C 0 d_Mo_begins_77 rfl rfl ?_
          refine r_bipush C (nI 123) d_Mo_begins_78 (by decide) ?_
          refine j_callV C (c_Mo_isSigned g (xl x) (m0 := m0) (ad := ad) (qth := qth) (qsz := nI k) (qtk := nI tn) (qde := nI dp) (qru := nI nr) (qat := nI e) (qen := nI e) (qva := qva) (qwr := (-1)) (qop := nI op) (qwi := qwi) (qhe := qhe) (qrw := qrw) (qma := qma) (qir := qir) (qiu := qiu) (so := so) (sta := bg) (c := 123) (T := T) (by first | assumption | omega | rfl) (by first | assumption | omega | rfl) (hs3) (by first | assumption | omega | rfl)) (Sp.of (wr := [((ad 6), .inl (g.2.1 0, 2000, .inl (aI BE))), ((ad 7), .inl (g.2.1 0, 2000, .inl (aI EN))), ((ad 10), .inl (g.2.1 0, 500, .inl (aI KI))), ((ad 11), .inl (g.2.1 0, 500, .inl (oA CO))), ((ad 12), .inl (g.2.1 0, 500, .inl (oA NU))), ((ad 13), .inl (g.2.1 0, 500, .inl (oA CN))), ((ad 14), .inl (g.2.1 0, 500, .inl (aI LI))), ((ad 15), .inl (g.2.1 0, 500, .inl (aI AR))), ((ad 16), .inl (g.2.1 0, 20000, .inl (aI WH))), ((ad 17), .inl (g.2.1 0, 20000, .inl (aI FI))), ((ad 18), .inl (g.2.1 0, 20000, .inl (aI SE))), ((ad 26), .inl (g.2.1 0, 40, .inl (aI OW))), ((ad 27), .inl (g.2.1 0, 40, .inl (aI OF))), ((ad 28), .inl (g.2.1 0, 40, .inl (aI OS)))]) [0, 1] [2, 3, 4, 5, 6, 7, 8, 9, 10, 11, 12, 13, 14, 15] rfl rfl rfl rfl (by decide)) d_Mo_begins_80 lk_Mo_156 mw_Mo_isSigned vw_Mo_isSigned (q0 := 0) rfl rfl (fit_of hR (by first | decide | (simp only [rmk]; omega)) (by first | decide | (simp only [rmk]; omega)) (by first | decide | (simp only [rmk]; omega)) (by first | decide | (simp only [rmk]; omega))) rfl (cat8 (Nat.le_of_ble_eq_true rfl)) (As := [.int (nI 123)]) (rest := []) rfl (fun r_80 w_80 hp_80 => ?_)
          obtain ⟨rfl, rfl⟩ := hp_80
          refine r_after (ws' := [(m0, .inr (9, MO ad qth (nI k) (bI qir) (nI tn) (nI dp) (nI nr) (nI e) (nI e) (nI so) (nI bg) qva (-1) (nI op) (bI qiu) qwi qhe qrw qma)), ((ad 2), .inl (g.2.1 0, 2000, .inl (aI T))), ((ad 6), .inl (g.2.1 0, 2000, .inl (aI BE))), ((ad 7), .inl (g.2.1 0, 2000, .inl (aI EN))), ((ad 10), .inl (g.2.1 0, 500, .inl (aI KI))), ((ad 11), .inl (g.2.1 0, 500, .inl (oA CO))), ((ad 12), .inl (g.2.1 0, 500, .inl (oA NU))), ((ad 13), .inl (g.2.1 0, 500, .inl (oA CN))), ((ad 14), .inl (g.2.1 0, 500, .inl (aI LI))), ((ad 15), .inl (g.2.1 0, 500, .inl (aI AR))), ((ad 16), .inl (g.2.1 0, 20000, .inl (aI WH))), ((ad 17), .inl (g.2.1 0, 20000, .inl (aI FI))), ((ad 18), .inl (g.2.1 0, 20000, .inl (aI SE))), ((ad 26), .inl (g.2.1 0, 40, .inl (aI OW))), ((ad 27), .inl (g.2.1 0, 40, .inl (aI OF))), ((ad 28), .inl (g.2.1 0, 40, .inl (aI OS)))]) (st' := [.int (bI (isSg T so bg 123))]) (n1 := 0) (n2 := 0) [14, 15, 0, 1, 2, 3, 4, 5, 6, 7, 8, 9, 10, 11, 12, 13] rfl rfl rfl rfl rfl ?_
          refine r_bif_eq C 95 d_Mo_begins_83 (by decide) (fun c_83 => ?_) (fun c_83 => ?_)
          · skip
            refine r_aload_n C 0 d_Mo_begins_95 rfl rfl ?_
            refine j_callV C (c_Mo_ruleKind g (xl x) (m0 := m0) (ad := ad) (qth := qth) (qsz := nI k) (qtk := nI tn) (qde := nI dp) (qru := nI nr) (qat := nI e) (qva := qva) (qwr := (-1)) (qop := nI op) (qwi := qwi) (qhe := qhe) (qrw := qrw) (qma := qma) (qir := qir) (qiu := qiu) (so := so) (sta := bg) (en := e) (T := T) (by first | assumption | omega | rfl) (by first | assumption | omega | rfl) (hw1)) (Sp.of (wr := [((ad 6), .inl (g.2.1 0, 2000, .inl (aI BE))), ((ad 7), .inl (g.2.1 0, 2000, .inl (aI EN))), ((ad 10), .inl (g.2.1 0, 500, .inl (aI KI))), ((ad 11), .inl (g.2.1 0, 500, .inl (oA CO))), ((ad 12), .inl (g.2.1 0, 500, .inl (oA NU))), ((ad 13), .inl (g.2.1 0, 500, .inl (oA CN))), ((ad 14), .inl (g.2.1 0, 500, .inl (aI LI))), ((ad 15), .inl (g.2.1 0, 500, .inl (aI AR))), ((ad 16), .inl (g.2.1 0, 20000, .inl (aI WH))), ((ad 17), .inl (g.2.1 0, 20000, .inl (aI FI))), ((ad 18), .inl (g.2.1 0, 20000, .inl (aI SE))), ((ad 26), .inl (g.2.1 0, 40, .inl (aI OW))), ((ad 27), .inl (g.2.1 0, 40, .inl (aI OF))), ((ad 28), .inl (g.2.1 0, 40, .inl (aI OS)))]) [0, 1] [2, 3, 4, 5, 6, 7, 8, 9, 10, 11, 12, 13, 14, 15] rfl rfl rfl rfl (by decide)) d_Mo_begins_96 lk_Mo_200 mw_Mo_ruleKind vw_Mo_ruleKind (q0 := 0) rfl rfl (fit_of hR (by first | decide | (simp only [rmk]; omega)) (by first | decide | (simp only [rmk]; omega)) (by first | decide | (simp only [rmk]; omega)) (by first | decide | (simp only [rmk]; omega))) rfl (cat8 (Nat.le_of_ble_eq_true rfl)) (As := []) (rest := []) rfl (fun r_96 w_96 hp_96 => ?_)
            obtain ⟨rfl, rfl⟩ := hp_96
            refine r_after (ws' := [(m0, .inr (9, MO ad qth (nI k) (bI qir) (nI tn) (nI dp) (nI nr) (nI e) (nI e) (nI so) (nI bg) qva (-1) (nI op) (bI qiu) qwi qhe qrw qma)), ((ad 2), .inl (g.2.1 0, 2000, .inl (aI T))), ((ad 6), .inl (g.2.1 0, 2000, .inl (aI BE))), ((ad 7), .inl (g.2.1 0, 2000, .inl (aI EN))), ((ad 10), .inl (g.2.1 0, 500, .inl (aI KI))), ((ad 11), .inl (g.2.1 0, 500, .inl (oA CO))), ((ad 12), .inl (g.2.1 0, 500, .inl (oA NU))), ((ad 13), .inl (g.2.1 0, 500, .inl (oA CN))), ((ad 14), .inl (g.2.1 0, 500, .inl (aI LI))), ((ad 15), .inl (g.2.1 0, 500, .inl (aI AR))), ((ad 16), .inl (g.2.1 0, 20000, .inl (aI WH))), ((ad 17), .inl (g.2.1 0, 20000, .inl (aI FI))), ((ad 18), .inl (g.2.1 0, 20000, .inl (aI SE))), ((ad 26), .inl (g.2.1 0, 40, .inl (aI OW))), ((ad 27), .inl (g.2.1 0, 40, .inl (aI OF))), ((ad 28), .inl (g.2.1 0, 40, .inl (aI OS)))]) (st' := [.int (oI (kindM T so bg e))]) (n1 := 0) (n2 := 0) [14, 15, 0, 1, 2, 3, 4, 5, 6, 7, 8, 9, 10, 11, 12, 13] rfl rfl rfl rfl rfl ?_
            refine r_istore_n C (lv' := [(1, .int (oI (kindM T so bg e))), (0, .ref m0)]) d_Mo_begins_99 rfl (by decide) rfl ?_
            cases hkd : kindM T so bg e with
            | none =>
              refine r_norm2 (ws' := [(m0, .inr (9, MO ad qth (nI k) (bI qir) (nI tn) (nI dp) (nI nr) (nI e) (nI e) (nI so) (nI bg) qva (-1) (nI op) (bI qiu) qwi qhe qrw qma)), ((ad 2), .inl (g.2.1 0, 2000, .inl (aI T))), ((ad 6), .inl (g.2.1 0, 2000, .inl (aI BE))), ((ad 7), .inl (g.2.1 0, 2000, .inl (aI EN))), ((ad 10), .inl (g.2.1 0, 500, .inl (aI KI))), ((ad 11), .inl (g.2.1 0, 500, .inl (oA CO))), ((ad 12), .inl (g.2.1 0, 500, .inl (oA NU))), ((ad 13), .inl (g.2.1 0, 500, .inl (oA CN))), ((ad 14), .inl (g.2.1 0, 500, .inl (aI LI))), ((ad 15), .inl (g.2.1 0, 500, .inl (aI AR))), ((ad 16), .inl (g.2.1 0, 20000, .inl (aI WH))), ((ad 17), .inl (g.2.1 0, 20000, .inl (aI FI))), ((ad 18), .inl (g.2.1 0, 20000, .inl (aI SE))), ((ad 26), .inl (g.2.1 0, 40, .inl (aI OW))), ((ad 27), .inl (g.2.1 0, 40, .inl (aI OF))), ((ad 28), .inl (g.2.1 0, 40, .inl (aI OS)))]) (st' := []) (lv' := [(1, .int (-1)), (0, .ref m0)]) rfl rfl rfl ?_
              refine r_iload_n C 0 d_Mo_begins_100 rfl rfl ?_
              refine r_if_ge C 115 d_Mo_begins_101 (by decide) (fun c_101 => ?_) (fun c_101 => ?_)
              · exact absurd c_101 (by decide)
              · skip
                refine r_aload_n C 1 d_Mo_begins_104 rfl rfl ?_
                refine r_aload_n C 1 d_Mo_begins_105 rfl rfl ?_
                refine r_get C 0 22 d_Mo_begins_106 ci_Mo fi_Mo_106 rfl (by decide) rfl rfl ?_
                refine j_callV C (c_Mo_refuse g (xl x) (m0 := m0) (ad := ad) (qth := qth) (qsz := nI k) (qtk := nI tn) (qde := nI dp) (qru := nI nr) (qat := nI e) (qen := nI e) (qto := nI so) (qbe := nI bg) (qva := qva) (qop := nI op) (qwi := qwi) (qhe := qhe) (qrw := qrw) (qma := qma) (qir := qir) (qiu := qiu) (wr := none) (c := bg) (by omega) (fun z h => by cases h)) (Sp.of (wr := [((ad 2), .inl (g.2.1 0, 2000, .inl (aI T))), ((ad 6), .inl (g.2.1 0, 2000, .inl (aI BE))), ((ad 7), .inl (g.2.1 0, 2000, .inl (aI EN))), ((ad 10), .inl (g.2.1 0, 500, .inl (aI KI))), ((ad 11), .inl (g.2.1 0, 500, .inl (oA CO))), ((ad 12), .inl (g.2.1 0, 500, .inl (oA NU))), ((ad 13), .inl (g.2.1 0, 500, .inl (oA CN))), ((ad 14), .inl (g.2.1 0, 500, .inl (aI LI))), ((ad 15), .inl (g.2.1 0, 500, .inl (aI AR))), ((ad 16), .inl (g.2.1 0, 20000, .inl (aI WH))), ((ad 17), .inl (g.2.1 0, 20000, .inl (aI FI))), ((ad 18), .inl (g.2.1 0, 20000, .inl (aI SE))), ((ad 26), .inl (g.2.1 0, 40, .inl (aI OW))), ((ad 27), .inl (g.2.1 0, 40, .inl (aI OF))), ((ad 28), .inl (g.2.1 0, 40, .inl (aI OS)))]) [0] [1, 2, 3, 4, 5, 6, 7, 8, 9, 10, 11, 12, 13, 14, 15] rfl rfl rfl rfl (by decide)) d_Mo_begins_109 lk_Mo_119 mw_Mo_refuse vw_Mo_refuse (q0 := 0) rfl rfl (fit_of hR (by first | decide | (simp only [rmk]; omega)) (by first | decide | (simp only [rmk]; omega)) (by first | decide | (simp only [rmk]; omega)) (by first | decide | (simp only [rmk]; omega))) rfl (cat8 (Nat.le_of_ble_eq_true rfl)) (As := [.int (nI bg)]) (rest := []) rfl (fun r_109 w_109 hp_109 => ?_)
                obtain ⟨rfl, rfl⟩ := hp_109
                refine r_after (ws' := [(m0, .inr (9, MO ad qth (nI k) (bI qir) (nI tn) (nI dp) (nI nr) (nI e) (nI e) (nI so) (nI bg) qva (oI (none.orElse fun _ => some bg)) (nI op) (bI qiu) qwi qhe qrw qma)), ((ad 2), .inl (g.2.1 0, 2000, .inl (aI T))), ((ad 6), .inl (g.2.1 0, 2000, .inl (aI BE))), ((ad 7), .inl (g.2.1 0, 2000, .inl (aI EN))), ((ad 10), .inl (g.2.1 0, 500, .inl (aI KI))), ((ad 11), .inl (g.2.1 0, 500, .inl (oA CO))), ((ad 12), .inl (g.2.1 0, 500, .inl (oA NU))), ((ad 13), .inl (g.2.1 0, 500, .inl (oA CN))), ((ad 14), .inl (g.2.1 0, 500, .inl (aI LI))), ((ad 15), .inl (g.2.1 0, 500, .inl (aI AR))), ((ad 16), .inl (g.2.1 0, 20000, .inl (aI WH))), ((ad 17), .inl (g.2.1 0, 20000, .inl (aI FI))), ((ad 18), .inl (g.2.1 0, 20000, .inl (aI SE))), ((ad 26), .inl (g.2.1 0, 40, .inl (aI OW))), ((ad 27), .inl (g.2.1 0, 40, .inl (aI OF))), ((ad 28), .inl (g.2.1 0, 40, .inl (aI OS)))]) (st' := []) (n1 := 0) (n2 := 0) [15, 0, 1, 2, 3, 4, 5, 6, 7, 8, 9, 10, 11, 12, 13, 14] rfl rfl rfl rfl rfl ?_
                refine r_goto C 120 d_Mo_begins_112 (by decide) ?_
                refine r_iconst C (nI 0) d_Mo_begins_120 (by decide) ?_
                refine r_eqS (st' := [.int (bI false)]) rfl ?_
                refine r_bret C E d_Mo_begins_121 (by first | decide | omega | (simp only [rmk]; omega)) (by first | decide | omega | (simp only [rmk]; omega)) ?_
                exact ⟨_, _, _, _, _, _, _, _, _, _, _, _, _, _, _, _, _, _, _, _, _, _, _, _, false, rfl, rfl, ri_ref (by omega) hri, hOW, Or.inr ⟨(fun q => by rw [q.1] at c_4; cases c_4), Or.inr ⟨c_45, c_68, c_83, rfl, Or.inl ⟨hkd, rfl⟩⟩⟩⟩
            | some ki =>
              have hki := kindM_le hkd
              refine r_norm2 (ws' := [(m0, .inr (9, MO ad qth (nI k) (bI qir) (nI tn) (nI dp) (nI nr) (nI e) (nI e) (nI so) (nI bg) qva (-1) (nI op) (bI qiu) qwi qhe qrw qma)), ((ad 2), .inl (g.2.1 0, 2000, .inl (aI T))), ((ad 6), .inl (g.2.1 0, 2000, .inl (aI BE))), ((ad 7), .inl (g.2.1 0, 2000, .inl (aI EN))), ((ad 10), .inl (g.2.1 0, 500, .inl (aI KI))), ((ad 11), .inl (g.2.1 0, 500, .inl (oA CO))), ((ad 12), .inl (g.2.1 0, 500, .inl (oA NU))), ((ad 13), .inl (g.2.1 0, 500, .inl (oA CN))), ((ad 14), .inl (g.2.1 0, 500, .inl (aI LI))), ((ad 15), .inl (g.2.1 0, 500, .inl (aI AR))), ((ad 16), .inl (g.2.1 0, 20000, .inl (aI WH))), ((ad 17), .inl (g.2.1 0, 20000, .inl (aI FI))), ((ad 18), .inl (g.2.1 0, 20000, .inl (aI SE))), ((ad 26), .inl (g.2.1 0, 40, .inl (aI OW))), ((ad 27), .inl (g.2.1 0, 40, .inl (aI OF))), ((ad 28), .inl (g.2.1 0, 40, .inl (aI OS)))]) (st' := []) (lv' := [(1, .int (nI ki)), (0, .ref m0)]) rfl rfl rfl ?_
              refine r_iload_n C 0 d_Mo_begins_100 rfl rfl ?_
              refine r_nif_ge C 115 d_Mo_begins_101 (by decide) (by omega) (fun c_101 => ?_) (fun c_101 => ?_)
              · skip
                refine r_aload_n C 1 d_Mo_begins_115 rfl rfl ?_
                refine r_iload_n C 0 d_Mo_begins_116 rfl rfl ?_
                refine j_callV C (c_Mo_rule g (xl x) (m0 := m0) (ad := ad) (qth := qth) (qde := nI dp) (qwi := qwi) (qhe := qhe) (qrw := qrw) (qma := qma) (qir := qir) (qiu := qiu) (k := k) (so := so) (e := e) (tn := tn) (op := op) (nr := nr) (bg := bg) (ki := ki) (qe := nI e) (qva := qva) (T := T) (BE := BE) (EN := EN) (OW := OW) (OF := OF) (OS := OS) (KI := KI) (LI := LI) (AR := AR) (WH := WH) (FI := FI) (SE := SE) (CO := CO) (NU := NU) (CN := CN) (by first | assumption | omega | rfl) (by first | assumption | omega | rfl) (hri) (by first | assumption | omega | rfl) (by first | assumption | omega | rfl) (by first | assumption | omega | rfl) (by first | assumption | omega | rfl)) (Sp.of (wr := []) [0, 1, 2, 3, 4, 5, 6, 7, 8, 9, 10, 11, 12, 13, 14, 15] [] rfl rfl rfl rfl (by decide)) d_Mo_begins_117 lk_Mo_203 mw_Mo_rule vw_Mo_rule (q0 := 0) rfl rfl (fit_of hR (by first | decide | (simp only [rmk]; omega)) (by first | decide | (simp only [rmk]; omega)) (by first | decide | (simp only [rmk]; omega)) (by first | decide | (simp only [rmk]; omega))) rfl (cat8 (Nat.le_of_ble_eq_true rfl)) (As := [.int (nI ki)]) (rest := []) rfl (fun r_117 w_117 hp_117 => ?_)
                obtain ⟨so2_117, e2_117, tn2_117, nr2_117, op2_117, qe2_117, qb2_117, qv2_117, wr2_117, BE2_117, EN2_117, KI2_117, LI2_117, AR2_117, WH2_117, FI2_117, SE2_117, CO2_117, NU2_117, CN2_117, rfl, rfl, hri2_117, hrr_117⟩ := hp_117
                refine r_after (ws' := [(m0, .inr (9, MO ad qth (nI k) (bI qir) (nI tn2_117) (nI dp) (nI nr2_117) (nI e2_117) qe2_117 (nI so2_117) qb2_117 qv2_117 (oI wr2_117) (nI op2_117) (bI qiu) qwi qhe qrw qma)), ((ad 2), .inl (g.2.1 0, 2000, .inl (aI T))), ((ad 6), .inl (g.2.1 0, 2000, .inl (aI BE2_117))), ((ad 7), .inl (g.2.1 0, 2000, .inl (aI EN2_117))), ((ad 10), .inl (g.2.1 0, 500, .inl (aI KI2_117))), ((ad 11), .inl (g.2.1 0, 500, .inl (oA CO2_117))), ((ad 12), .inl (g.2.1 0, 500, .inl (oA NU2_117))), ((ad 13), .inl (g.2.1 0, 500, .inl (oA CN2_117))), ((ad 14), .inl (g.2.1 0, 500, .inl (aI LI2_117))), ((ad 15), .inl (g.2.1 0, 500, .inl (aI AR2_117))), ((ad 16), .inl (g.2.1 0, 20000, .inl (aI WH2_117))), ((ad 17), .inl (g.2.1 0, 20000, .inl (aI FI2_117))), ((ad 18), .inl (g.2.1 0, 20000, .inl (aI SE2_117))), ((ad 26), .inl (g.2.1 0, 40, .inl (aI OW))), ((ad 27), .inl (g.2.1 0, 40, .inl (aI OF))), ((ad 28), .inl (g.2.1 0, 40, .inl (aI OS)))]) (st' := []) (n1 := 0) (n2 := 0) [0, 1, 2, 3, 4, 5, 6, 7, 8, 9, 10, 11, 12, 13, 14, 15] rfl rfl rfl rfl rfl ?_
                refine r_iconst C (nI 0) d_Mo_begins_120 (by decide) ?_
                refine r_eqS (st' := [.int (bI false)]) rfl ?_
                refine r_bret C E d_Mo_begins_121 (by first | decide | omega | (simp only [rmk]; omega)) (by first | decide | omega | (simp only [rmk]; omega)) ?_
                exact ⟨_, _, _, _, _, _, _, _, _, _, _, _, _, _, _, _, _, _, _, _, _, _, _, _, false, rfl, rfl, hri2_117, hOW, Or.inr ⟨(fun q => by rw [q.1] at c_4; cases c_4), Or.inr ⟨c_45, c_68, c_83, rfl, Or.inr ⟨ki, hkd, rfl, rfl, rfl, rfl, hrr_117⟩⟩⟩⟩
              · exact absurd c_101 (by omega)
          · skip
            refine r_aload_n C 0 d_Mo_begins_86 rfl rfl ?_
            refine r_iconst C (nI 0) d_Mo_begins_87 (by decide) ?_
            refine r_iconst C (nI 0) d_Mo_begins_88 (by decide) ?_
            refine r_iconst C (nI 0) d_Mo_begins_89 (by decide) ?_
            refine j_callV C (c_Mo_push g (xl x) (m0 := m0) (ad := ad) (qth := qth) (qsz := nI k) (qtk := nI tn) (qru := nI nr) (qat := nI e) (qen := nI e) (qto := nI so) (qbe := nI bg) (qva := qva) (qwr := (-1)) (qwi := qwi) (qhe := qhe) (qrw := qrw) (qma := qma) (qir := qir) (qiu := qiu) (op := op) (dp := dp) (w := 0) (a := 0) (c := 0) (OW := OW) (OF := OF) (OS := OS) (by first | omega | (exfalso; rw [deep_3 c_45 c_68 c_83] at c_4; cases c_4)) (by first | assumption | omega | rfl)) (Sp.of (wr := [((ad 2), .inl (g.2.1 0, 2000, .inl (aI T))), ((ad 6), .inl (g.2.1 0, 2000, .inl (aI BE))), ((ad 7), .inl (g.2.1 0, 2000, .inl (aI EN))), ((ad 10), .inl (g.2.1 0, 500, .inl (aI KI))), ((ad 11), .inl (g.2.1 0, 500, .inl (oA CO))), ((ad 12), .inl (g.2.1 0, 500, .inl (oA NU))), ((ad 13), .inl (g.2.1 0, 500, .inl (oA CN))), ((ad 14), .inl (g.2.1 0, 500, .inl (aI LI))), ((ad 15), .inl (g.2.1 0, 500, .inl (aI AR))), ((ad 16), .inl (g.2.1 0, 20000, .inl (aI WH))), ((ad 17), .inl (g.2.1 0, 20000, .inl (aI FI))), ((ad 18), .inl (g.2.1 0, 20000, .inl (aI SE)))]) [0, 13, 14, 15] [1, 2, 3, 4, 5, 6, 7, 8, 9, 10, 11, 12] rfl rfl rfl rfl (by decide)) d_Mo_begins_90 lk_Mo_173 mw_Mo_push vw_Mo_push (q0 := 0) rfl rfl (fit_of hR (by first | decide | (simp only [rmk]; omega)) (by first | decide | (simp only [rmk]; omega)) (by first | decide | (simp only [rmk]; omega)) (by first | decide | (simp only [rmk]; omega))) rfl (cat8 (Nat.le_of_ble_eq_true rfl)) (As := [.int (nI 0), .int (nI 0), .int (nI 0)]) (rest := []) rfl (fun r_90 w_90 hp_90 => ?_)
            obtain ⟨rfl, rfl⟩ := hp_90
            refine r_after (ws' := [(m0, .inr (9, MO ad qth (nI k) (bI qir) (nI tn) (nI (max dp (op + 1))) (nI nr) (nI e) (nI e) (nI so) (nI bg) qva (-1) (nI (op + 1)) (bI qiu) qwi qhe qrw qma)), ((ad 2), .inl (g.2.1 0, 2000, .inl (aI T))), ((ad 6), .inl (g.2.1 0, 2000, .inl (aI BE))), ((ad 7), .inl (g.2.1 0, 2000, .inl (aI EN))), ((ad 10), .inl (g.2.1 0, 500, .inl (aI KI))), ((ad 11), .inl (g.2.1 0, 500, .inl (oA CO))), ((ad 12), .inl (g.2.1 0, 500, .inl (oA NU))), ((ad 13), .inl (g.2.1 0, 500, .inl (oA CN))), ((ad 14), .inl (g.2.1 0, 500, .inl (aI LI))), ((ad 15), .inl (g.2.1 0, 500, .inl (aI AR))), ((ad 16), .inl (g.2.1 0, 20000, .inl (aI WH))), ((ad 17), .inl (g.2.1 0, 20000, .inl (aI FI))), ((ad 18), .inl (g.2.1 0, 20000, .inl (aI SE))), ((ad 26), .inl (g.2.1 0, 40, .inl (aI (up OW op 0)))), ((ad 27), .inl (g.2.1 0, 40, .inl (aI (up OF op 0)))), ((ad 28), .inl (g.2.1 0, 40, .inl (aI (up OS op 0))))]) (st' := []) (n1 := 0) (n2 := 0) [12, 0, 1, 2, 3, 4, 5, 6, 7, 8, 9, 10, 11, 13, 14, 15] rfl rfl rfl rfl rfl ?_
            refine r_iconst C (nI 1) d_Mo_begins_93 (by decide) ?_
            refine r_eqS (st' := [.int (bI true)]) rfl ?_
            refine r_bret C E d_Mo_begins_94 (by first | decide | omega | (simp only [rmk]; omega)) (by first | decide | omega | (simp only [rmk]; omega)) ?_
            exact ⟨_, _, _, _, _, _, _, _, _, _, _, _, _, _, _, _, _, _, _, _, _, _, _, _, true, rfl, rfl, hri, ow_0 hOW, Or.inr ⟨(fun q => by rw [q.1] at c_4; cases c_4), Or.inl ⟨Or.inr (Or.inr ⟨c_45, c_68, c_83, rfl, rfl, rfl, rfl, rfl, rfl, rfl⟩), rfl, rfl, rfl, rfl, rfl, rfl, rfl, rfl, rfl, rfl, rfl⟩⟩⟩
        · skip
          refine r_aload_n C 0 d_Mo_begins_71 rfl rfl ?_
          refine j_callV C (c_Mo_where g (xl x) (m0 := m0) (ad := ad) (qth := qth) (qru := nI nr) (qbe := nI bg) (qva := qva) (qwi := qwi) (qhe := qhe) (qrw := qrw) (qma := qma) (qir := qir) (qiu := qiu) (k := k) (so := so) (e := e) (tn := tn) (op := op) (dp := dp) (qe := nI e) (wr := none) (T := T) (BE := BE) (EN := EN) (OW := OW) (OF := OF) (OS := OS) (by first | assumption | omega | rfl) (by first | assumption | omega | rfl) (hri) (rfl) (by first | omega | (exfalso; rw [deep_2 c_45 c_68] at c_4; cases c_4)) (by first | assumption | omega | rfl)) (Sp.of (wr := [((ad 10), .inl (g.2.1 0, 500, .inl (aI KI))), ((ad 11), .inl (g.2.1 0, 500, .inl (oA CO))), ((ad 12), .inl (g.2.1 0, 500, .inl (oA NU))), ((ad 13), .inl (g.2.1 0, 500, .inl (oA CN))), ((ad 14), .inl (g.2.1 0, 500, .inl (aI LI))), ((ad 15), .inl (g.2.1 0, 500, .inl (aI AR))), ((ad 16), .inl (g.2.1 0, 20000, .inl (aI WH))), ((ad 17), .inl (g.2.1 0, 20000, .inl (aI FI))), ((ad 18), .inl (g.2.1 0, 20000, .inl (aI SE)))]) [0, 1, 2, 3, 13, 14, 15] [4, 5, 6, 7, 8, 9, 10, 11, 12] rfl rfl rfl rfl (by decide)) d_Mo_begins_72 lk_Mo_197 mw_Mo_where vw_Mo_where (q0 := 0) rfl rfl (fit_of hR (by first | decide | (simp only [rmk]; omega)) (by first | decide | (simp only [rmk]; omega)) (by first | decide | (simp only [rmk]; omega)) (by first | decide | (simp only [rmk]; omega))) rfl (cat8 (Nat.le_of_ble_eq_true rfl)) (As := []) (rest := []) rfl (fun r_72 w_72 hp_72 => ?_)
          obtain ⟨so2_72, e2_72, tn2_72, bg2_72, z2_72, wr2_72, BE2_72, EN2_72, op2_72, dp2_72, OW2_72, OF2_72, OS2_72, rfl, rfl, hri2_72, her_72⟩ := hp_72
          refine r_after (ws' := [(m0, .inr (9, MO ad qth (nI k) (bI qir) (nI tn2_72) (nI dp2_72) (nI nr) (nI e2_72) (nI e2_72) (nI so2_72) (nI bg2_72) (nI z2_72) (oI wr2_72) (nI op2_72) (bI qiu) qwi qhe qrw qma)), ((ad 2), .inl (g.2.1 0, 2000, .inl (aI T))), ((ad 6), .inl (g.2.1 0, 2000, .inl (aI BE2_72))), ((ad 7), .inl (g.2.1 0, 2000, .inl (aI EN2_72))), ((ad 10), .inl (g.2.1 0, 500, .inl (aI KI))), ((ad 11), .inl (g.2.1 0, 500, .inl (oA CO))), ((ad 12), .inl (g.2.1 0, 500, .inl (oA NU))), ((ad 13), .inl (g.2.1 0, 500, .inl (oA CN))), ((ad 14), .inl (g.2.1 0, 500, .inl (aI LI))), ((ad 15), .inl (g.2.1 0, 500, .inl (aI AR))), ((ad 16), .inl (g.2.1 0, 20000, .inl (aI WH))), ((ad 17), .inl (g.2.1 0, 20000, .inl (aI FI))), ((ad 18), .inl (g.2.1 0, 20000, .inl (aI SE))), ((ad 26), .inl (g.2.1 0, 40, .inl (aI OW2_72))), ((ad 27), .inl (g.2.1 0, 40, .inl (aI OF2_72))), ((ad 28), .inl (g.2.1 0, 40, .inl (aI OS2_72)))]) (st' := []) (n1 := 0) (n2 := 0) [9, 10, 11, 12, 0, 1, 2, 3, 4, 5, 6, 7, 8, 13, 14, 15] rfl rfl rfl rfl rfl ?_
          refine r_iconst C (nI 1) d_Mo_begins_75 (by decide) ?_
          refine r_eqS (st' := [.int (bI true)]) rfl ?_
          refine r_bret C E d_Mo_begins_76 (by first | decide | omega | (simp only [rmk]; omega)) (by first | decide | omega | (simp only [rmk]; omega)) ?_
          exact ⟨_, _, _, _, _, _, _, _, _, _, _, _, _, _, _, _, _, _, _, _, _, _, _, _, true, rfl, rfl, hri2_72, each_OW (Or.inr rfl) hOW her_72, Or.inr ⟨(fun q => by rw [q.1] at c_4; cases c_4), Or.inl ⟨Or.inr (Or.inl ⟨c_45, c_68, her_72⟩), rfl, rfl, rfl, rfl, rfl, rfl, rfl, rfl, rfl, rfl, rfl⟩⟩⟩
      · skip
        refine r_aload_n C 0 d_Mo_begins_48 rfl rfl ?_
        refine j_callV C (c_Mo_each g (xl x) (m0 := m0) (ad := ad) (qth := qth) (qru := nI nr) (qbe := nI bg) (qva := qva) (qwi := qwi) (qhe := qhe) (qrw := qrw) (qma := qma) (qir := qir) (qiu := qiu) (k := k) (so := so) (e := e) (tn := tn) (op := op) (dp := dp) (qe := nI e) (wr := none) (T := T) (BE := BE) (EN := EN) (OW := OW) (OF := OF) (OS := OS) (by first | assumption | omega | rfl) (by first | assumption | omega | rfl) (hri) (rfl) (by first | omega | (exfalso; rw [deep_1 c_45] at c_4; cases c_4)) (by first | assumption | omega | rfl)) (Sp.of (wr := [((ad 10), .inl (g.2.1 0, 500, .inl (aI KI))), ((ad 11), .inl (g.2.1 0, 500, .inl (oA CO))), ((ad 12), .inl (g.2.1 0, 500, .inl (oA NU))), ((ad 13), .inl (g.2.1 0, 500, .inl (oA CN))), ((ad 14), .inl (g.2.1 0, 500, .inl (aI LI))), ((ad 15), .inl (g.2.1 0, 500, .inl (aI AR))), ((ad 16), .inl (g.2.1 0, 20000, .inl (aI WH))), ((ad 17), .inl (g.2.1 0, 20000, .inl (aI FI))), ((ad 18), .inl (g.2.1 0, 20000, .inl (aI SE)))]) [0, 1, 2, 3, 13, 14, 15] [4, 5, 6, 7, 8, 9, 10, 11, 12] rfl rfl rfl rfl (by decide)) d_Mo_begins_49 lk_Mo_194 mw_Mo_each vw_Mo_each (q0 := 0) rfl rfl (fit_of hR (by first | decide | (simp only [rmk]; omega)) (by first | decide | (simp only [rmk]; omega)) (by first | decide | (simp only [rmk]; omega)) (by first | decide | (simp only [rmk]; omega))) rfl (cat8 (Nat.le_of_ble_eq_true rfl)) (As := []) (rest := []) rfl (fun r_49 w_49 hp_49 => ?_)
        obtain ⟨so2_49, e2_49, tn2_49, bg2_49, z2_49, wr2_49, BE2_49, EN2_49, op2_49, dp2_49, OW2_49, OF2_49, OS2_49, rfl, rfl, hri2_49, her_49⟩ := hp_49
        refine r_after (ws' := [(m0, .inr (9, MO ad qth (nI k) (bI qir) (nI tn2_49) (nI dp2_49) (nI nr) (nI e2_49) (nI e2_49) (nI so2_49) (nI bg2_49) (nI z2_49) (oI wr2_49) (nI op2_49) (bI qiu) qwi qhe qrw qma)), ((ad 2), .inl (g.2.1 0, 2000, .inl (aI T))), ((ad 6), .inl (g.2.1 0, 2000, .inl (aI BE2_49))), ((ad 7), .inl (g.2.1 0, 2000, .inl (aI EN2_49))), ((ad 10), .inl (g.2.1 0, 500, .inl (aI KI))), ((ad 11), .inl (g.2.1 0, 500, .inl (oA CO))), ((ad 12), .inl (g.2.1 0, 500, .inl (oA NU))), ((ad 13), .inl (g.2.1 0, 500, .inl (oA CN))), ((ad 14), .inl (g.2.1 0, 500, .inl (aI LI))), ((ad 15), .inl (g.2.1 0, 500, .inl (aI AR))), ((ad 16), .inl (g.2.1 0, 20000, .inl (aI WH))), ((ad 17), .inl (g.2.1 0, 20000, .inl (aI FI))), ((ad 18), .inl (g.2.1 0, 20000, .inl (aI SE))), ((ad 26), .inl (g.2.1 0, 40, .inl (aI OW2_49))), ((ad 27), .inl (g.2.1 0, 40, .inl (aI OF2_49))), ((ad 28), .inl (g.2.1 0, 40, .inl (aI OS2_49)))]) (st' := []) (n1 := 0) (n2 := 0) [9, 10, 11, 12, 0, 1, 2, 3, 4, 5, 6, 7, 8, 13, 14, 15] rfl rfl rfl rfl rfl ?_
        refine r_iconst C (nI 1) d_Mo_begins_52 (by decide) ?_
        refine r_eqS (st' := [.int (bI true)]) rfl ?_
        refine r_bret C E d_Mo_begins_53 (by first | decide | omega | (simp only [rmk]; omega)) (by first | decide | omega | (simp only [rmk]; omega)) ?_
        exact ⟨_, _, _, _, _, _, _, _, _, _, _, _, _, _, _, _, _, _, _, _, _, _, _, _, true, rfl, rfl, hri2_49, each_OW (Or.inl rfl) hOW her_49, Or.inr ⟨(fun q => by rw [q.1] at c_4; cases c_4), Or.inl ⟨Or.inl ⟨c_45, her_49⟩, rfl, rfl, rfl, rfl, rfl, rfl, rfl, rfl, rfl, rfl, rfl⟩⟩⟩
    · exact absurd (by decide) c_28
  · skip
    refine r_aload_n C 0 d_Mo_begins_7 rfl rfl ?_
    refine r_get C 0 25 d_Mo_begins_8 ci_Mo fi_Mo_159 rfl (by decide) rfl rfl ?_
    refine r_bipush C (nI 40) d_Mo_begins_11 (by decide) ?_
    refine r_ncmp_ne C 24 d_Mo_begins_13 (by decide) (by omega) (by omega) (fun c_13 => ?_) (fun c_13 => ?_)
    · skip
      refine r_aload_n C 0 d_Mo_begins_24 rfl rfl ?_
      refine r_get C 0 24 d_Mo_begins_25 ci_Mo fi_Mo_94 rfl (by decide) rfl rfl ?_
      refine r_if_lt C 33 d_Mo_begins_28 (by decide) (fun c_28 => ?_) (fun c_28 => ?_)
      · skip
        refine r_aload_n C 0 d_Mo_begins_33 rfl rfl ?_
        refine r_bipush C (nI 101) d_Mo_begins_34 (by decide) ?_
        refine r_bipush C (nI 97) d_Mo_begins_36 (by decide) ?_
        refine r_bipush C (nI 99) d_Mo_begins_38 (by decide) ?_
        refine r_bipush C (nI 104) d_Mo_begins_40 (by decide) ?_
        refine j_callV C (c_Mo_is4 g (xl x) (m0 := m0) (ad := ad) (qth := qth) (qsz := nI k) (qtk := nI tn) (qde := nI dp) (qru := nI nr) (qat := nI e) (qva := qva) (qwr := (-1)) (qop := nI op) (qwi := qwi) (qhe := qhe) (qrw := qrw) (qma := qma) (qir := qir) (qiu := qiu) (so := so) (sta := bg) (en := e) (T := T) (a := 101) (b := 97) (c := 99) (d := 104) (by first | assumption | omega | rfl) (by first | assumption | omega | rfl) (hw1) (by decide) (by decide) (by decide) (by decide)) (Sp.of (wr := [((ad 6), .inl (g.2.1 0, 2000, .inl (aI BE))), ((ad 7), .inl (g.2.1 0, 2000, .inl (aI EN))), ((ad 10), .inl (g.2.1 0, 500, .inl (aI KI))), ((ad 11), .inl (g.2.1 0, 500, .inl (oA CO))), ((ad 12), .inl (g.2.1 0, 500, .inl (oA NU))), ((ad 13), .inl (g.2.1 0, 500, .inl (oA CN))), ((ad 14), .inl (g.2.1 0, 500, .inl (aI LI))), ((ad 15), .inl (g.2.1 0, 500, .inl (aI AR))), ((ad 16), .inl (g.2.1 0, 20000, .inl (aI WH))), ((ad 17), .inl (g.2.1 0, 20000, .inl (aI FI))), ((ad 18), .inl (g.2.1 0, 20000, .inl (aI SE))), ((ad 26), .inl (g.2.1 0, 40, .inl (aI OW))), ((ad 27), .inl (g.2.1 0, 40, .inl (aI OF))), ((ad 28), .inl (g.2.1 0, 40, .inl (aI OS)))]) [0, 1] [2, 3, 4, 5, 6, 7, 8, 9, 10, 11, 12, 13, 14, 15] rfl rfl rfl rfl (by decide)) d_Mo_begins_42 lk_Mo_149 mw_Mo_is4 vw_Mo_is4 (q0 := 0) rfl rfl (fit_of hR (by first | decide | (simp only [rmk]; omega)) (by first | decide | (simp only [rmk]; omega)) (by first | decide | (simp only [rmk]; omega)) (by first | decide | (simp only [rmk]; omega))) rfl (cat8 (Nat.le_of_ble_eq_true rfl)) (As := [.int (nI 101), .int (nI 97), .int (nI 99), .int (nI 104)]) (rest := []) rfl (fun r_42 w_42 hp_42 => ?_)
        obtain ⟨rfl, rfl⟩ := hp_42
        refine r_after (ws' := [(m0, .inr (9, MO ad qth (nI k) (bI qir) (nI tn) (nI dp) (nI nr) (nI e) (nI e) (nI so) (nI bg) qva (-1) (nI op) (bI qiu) qwi qhe qrw qma)), ((ad 2), .inl (g.2.1 0, 2000, .inl (aI T))), ((ad 6), .inl (g.2.1 0, 2000, .inl (aI BE))), ((ad 7), .inl (g.2.1 0, 2000, .inl (aI EN))), ((ad 10), .inl (g.2.1 0, 500, .inl (aI KI))), ((ad 11), .inl (g.2.1 0, 500, .inl (oA CO))), ((ad 12), .inl (g.2.1 0, 500, .inl (oA NU))), ((ad 13), .inl (g.2.1 0, 500, .inl (oA CN))), ((ad 14), .inl (g.2.1 0, 500, .inl (aI LI))), ((ad 15), .inl (g.2.1 0, 500, .inl (aI AR))), ((ad 16), .inl (g.2.1 0, 20000, .inl (aI WH))), ((ad 17), .inl (g.2.1 0, 20000, .inl (aI FI))), ((ad 18), .inl (g.2.1 0, 20000, .inl (aI SE))), ((ad 26), .inl (g.2.1 0, 40, .inl (aI OW))), ((ad 27), .inl (g.2.1 0, 40, .inl (aI OF))), ((ad 28), .inl (g.2.1 0, 40, .inl (aI OS)))]) (st' := [.int (bI (isWm T so bg e (cod 0 0 (101 - 96) (97 - 96) (99 - 96) (104 - 96)) 0))]) (n1 := 0) (n2 := 0) [14, 15, 0, 1, 2, 3, 4, 5, 6, 7, 8, 9, 10, 11, 12, 13] rfl rfl rfl rfl rfl ?_
        refine r_bif_eq C 54 d_Mo_begins_45 (by decide) (fun c_45 => ?_) (fun c_45 => ?_)
        · skip
          refine r_aload_n C 0 d_Mo_begins_54 rfl rfl ?_
          refine r_bipush C (nI 119) d_Mo_begins_55 (by decide) ?_
          refine r_bipush C (nI 104) d_Mo_begins_57 (by decide) ?_
          refine r_bipush C (nI 101) d_Mo_begins_59 (by decide) ?_
          refine r_bipush C (nI 114) d_Mo_begins_61 (by decide) ?_
          refine r_bipush C (nI 101) d_Mo_begins_63 (by decide) ?_
          refine j_callV C (c_Mo_is5 g (xl x) (m0 := m0) (ad := ad) (qth := qth) (qsz := nI k) (qtk := nI tn) (qde := nI dp) (qru := nI nr) (qat := nI e) (qva := qva) (qwr := (-1)) (qop := nI op) (qwi := qwi) (qhe := qhe) (qrw := qrw) (qma := qma) (qir := qir) (qiu := qiu) (so := so) (sta := bg) (en := e) (T := T) (a := 119) (b := 104) (c := 101) (d := 114) (e := 101) (by first | assumption | omega | rfl) (by first | assumption | omega | rfl) (hw1) (by decide) (by decide) (by decide) (by decide) (by decide)) (Sp.of (wr := [((ad 6), .inl (g.2.1 0, 2000, .inl (aI BE))), ((ad 7), .inl (g.2.1 0, 2000, .inl (aI EN))), ((ad 10), .inl (g.2.1 0, 500, .inl (aI KI))), ((ad 11), .inl (g.2.1 0, 500, .inl (oA CO))), ((ad 12), .inl (g.2.1 0, 500, .inl (oA NU))), ((ad 13), .inl (g.2.1 0, 500, .inl (oA CN))), ((ad 14), .inl (g.2.1 0, 500, .inl (aI LI))), ((ad 15), .inl (g.2.1 0, 500, .inl (aI AR))), ((ad 16), .inl (g.2.1 0, 20000, .inl (aI WH))), ((ad 17), .inl (g.2.1 0, 20000, .inl (aI FI))), ((ad 18), .inl (g.2.1 0, 20000, .inl (aI SE))), ((ad 26), .inl (g.2.1 0, 40, .inl (aI OW))), ((ad 27), .inl (g.2.1 0, 40, .inl (aI OF))), ((ad 28), .inl (g.2.1 0, 40, .inl (aI OS)))]) [0, 1] [2, 3, 4, 5, 6, 7, 8, 9, 10, 11, 12, 13, 14, 15] rfl rfl rfl rfl (by decide)) d_Mo_begins_65 lk_Mo_145 mw_Mo_is5 vw_Mo_is5 (q0 := 0) rfl rfl (fit_of hR (by first | decide | (simp only [rmk]; omega)) (by first | decide | (simp only [rmk]; omega)) (by first | decide | (simp only [rmk]; omega)) (by first | decide | (simp only [rmk]; omega))) rfl (cat8 (Nat.le_of_ble_eq_true rfl)) (As := [.int (nI 119), .int (nI 104), .int (nI 101), .int (nI 114), .int (nI 101)]) (rest := []) rfl (fun r_65 w_65 hp_65 => ?_)
          obtain ⟨rfl, rfl⟩ := hp_65
          refine r_after (ws' := [(m0, .inr (9, MO ad qth (nI k) (bI qir) (nI tn) (nI dp) (nI nr) (nI e) (nI e) (nI so) (nI bg) qva (-1) (nI op) (bI qiu) qwi qhe qrw qma)), ((ad 2), .inl (g.2.1 0, 2000, .inl (aI T))), ((ad 6), .inl (g.2.1 0, 2000, .inl (aI BE))), ((ad 7), .inl (g.2.1 0, 2000, .inl (aI EN))), ((ad 10), .inl (g.2.1 0, 500, .inl (aI KI))), ((ad 11), .inl (g.2.1 0, 500, .inl (oA CO))), ((ad 12), .inl (g.2.1 0, 500, .inl (oA NU))), ((ad 13), .inl (g.2.1 0, 500, .inl (oA CN))), ((ad 14), .inl (g.2.1 0, 500, .inl (aI LI))), ((ad 15), .inl (g.2.1 0, 500, .inl (aI AR))), ((ad 16), .inl (g.2.1 0, 20000, .inl (aI WH))), ((ad 17), .inl (g.2.1 0, 20000, .inl (aI FI))), ((ad 18), .inl (g.2.1 0, 20000, .inl (aI SE))), ((ad 26), .inl (g.2.1 0, 40, .inl (aI OW))), ((ad 27), .inl (g.2.1 0, 40, .inl (aI OF))), ((ad 28), .inl (g.2.1 0, 40, .inl (aI OS)))]) (st' := [.int (bI (isWm T so bg e (cod 0 (119 - 96) (104 - 96) (101 - 96) (114 - 96) (101 - 96)) 0))]) (n1 := 0) (n2 := 0) [14, 15, 0, 1, 2, 3, 4, 5, 6, 7, 8, 9, 10, 11, 12, 13] rfl rfl rfl rfl rfl ?_
          refine r_bif_eq C 77 d_Mo_begins_68 (by decide) (fun c_68 => ?_) (fun c_68 => ?_)
          · skip
            refine r_aload_n C 0 d_Mo_begins_77 rfl rfl ?_
            refine r_bipush C (nI 123) d_Mo_begins_78 (by decide) ?_
            refine j_callV C (c_Mo_isSigned g (xl x) (m0 := m0) (ad := ad) (qth := qth) (qsz := nI k) (qtk := nI tn) (qde := nI dp) (qru := nI nr) (qat := nI e) (qen := nI e) (qva := qva) (qwr := (-1)) (qop := nI op) (qwi := qwi) (qhe := qhe) (qrw := qrw) (qma := qma) (qir := qir) (qiu := qiu) (so := so) (sta := bg) (c := 123) (T := T) (by first | assumption | omega | rfl) (by first | assumption | omega | rfl) (hs3) (by first | assumption | omega | rfl)) (Sp.of (wr := [((ad 6), .inl (g.2.1 0, 2000, .inl (aI BE))), ((ad 7), .inl (g.2.1 0, 2000, .inl (aI EN))), ((ad 10), .inl (g.2.1 0, 500, .inl (aI KI))), ((ad 11), .inl (g.2.1 0, 500, .inl (oA CO))), ((ad 12), .inl (g.2.1 0, 500, .inl (oA NU))), ((ad 13), .inl (g.2.1 0, 500, .inl (oA CN))), ((ad 14), .inl (g.2.1 0, 500, .inl (aI LI))), ((ad 15), .inl (g.2.1 0, 500, .inl (aI AR))), ((ad 16), .inl (g.2.1 0, 20000, .inl (aI WH))), ((ad 17), .inl (g.2.1 0, 20000, .inl (aI FI))), ((ad 18), .inl (g.2.1 0, 20000, .inl (aI SE))), ((ad 26), .inl (g.2.1 0, 40, .inl (aI OW))), ((ad 27), .inl (g.2.1 0, 40, .inl (aI OF))), ((ad 28), .inl (g.2.1 0, 40, .inl (aI OS)))]) [0, 1] [2, 3, 4, 5, 6, 7, 8, 9, 10, 11, 12, 13, 14, 15] rfl rfl rfl rfl (by decide)) d_Mo_begins_80 lk_Mo_156 mw_Mo_isSigned vw_Mo_isSigned (q0 := 0) rfl rfl (fit_of hR (by first | decide | (simp only [rmk]; omega)) (by first | decide | (simp only [rmk]; omega)) (by first | decide | (simp only [rmk]; omega)) (by first | decide | (simp only [rmk]; omega))) rfl (cat8 (Nat.le_of_ble_eq_true rfl)) (As := [.int (nI 123)]) (rest := []) rfl (fun r_80 w_80 hp_80 => ?_)
            obtain ⟨rfl, rfl⟩ := hp_80
            refine r_after (ws' := [(m0, .inr (9, MO ad qth (nI k) (bI qir) (nI tn) (nI dp) (nI nr) (nI e) (nI e) (nI so) (nI bg) qva (-1) (nI op) (bI qiu) qwi qhe qrw qma)), ((ad 2), .inl (g.2.1 0, 2000, .inl (aI T))), ((ad 6), .inl (g.2.1 0, 2000, .inl (aI BE))), ((ad 7), .inl (g.2.1 0, 2000, .inl (aI EN))), ((ad 10), .inl (g.2.1 0, 500, .inl (aI KI))), ((ad 11), .inl (g.2.1 0, 500, .inl (oA CO))), ((ad 12), .inl (g.2.1 0, 500, .inl (oA NU))), ((ad 13), .inl (g.2.1 0, 500, .inl (oA CN))), ((ad 14), .inl (g.2.1 0, 500, .inl (aI LI))), ((ad 15), .inl (g.2.1 0, 500, .inl (aI AR))), ((ad 16), .inl (g.2.1 0, 20000, .inl (aI WH))), ((ad 17), .inl (g.2.1 0, 20000, .inl (aI FI))), ((ad 18), .inl (g.2.1 0, 20000, .inl (aI SE))), ((ad 26), .inl (g.2.1 0, 40, .inl (aI OW))), ((ad 27), .inl (g.2.1 0, 40, .inl (aI OF))), ((ad 28), .inl (g.2.1 0, 40, .inl (aI OS)))]) (st' := [.int (bI (isSg T so bg 123))]) (n1 := 0) (n2 := 0) [14, 15, 0, 1, 2, 3, 4, 5, 6, 7, 8, 9, 10, 11, 12, 13] rfl rfl rfl rfl rfl ?_
            refine r_bif_eq C 95 d_Mo_begins_83 (by decide) (fun c_83 => ?_) (fun c_83 => ?_)
            · skip
              refine r_aload_n C 0 d_Mo_begins_95 rfl rfl ?_
              refine j_callV C (c_Mo_ruleKind g (xl x) (m0 := m0) (ad := ad) (qth := qth) (qsz := nI k) (qtk := nI tn) (qde := nI dp) (qru := nI nr) (qat := nI e) (qva := qva) (qwr := (-1)) (qop := nI op) (qwi := qwi) (qhe := qhe) (qrw := qrw) (qma := qma) (qir := qir) (qiu := qiu) (so := so) (sta := bg) (en := e) (T := T) (by first | assumption | omega | rfl) (by first | assumption | omega | rfl) (hw1)) (Sp.of (wr := [((ad 6), .inl (g.2.1 0, 2000, .inl (aI BE))), ((ad 7), .inl (g.2.1 0, 2000, .inl (aI EN))), ((ad 10), .inl (g.2.1 0, 500, .inl (aI KI))), ((ad 11), .inl (g.2.1 0, 500, .inl (oA CO))), ((ad 12), .inl (g.2.1 0, 500, .inl (oA NU))), ((ad 13), .inl (g.2.1 0, 500, .inl (oA CN))), ((ad 14), .inl (g.2.1 0, 500, .inl (aI LI))), ((ad 15), .inl (g.2.1 0, 500, .inl (aI AR))), ((ad 16), .inl (g.2.1 0, 20000, .inl (aI WH))), ((ad 17), .inl (g.2.1 0, 20000, .inl (aI FI))), ((ad 18), .inl (g.2.1 0, 20000, .inl (aI SE))), ((ad 26), .inl (g.2.1 0, 40, .inl (aI OW))), ((ad 27), .inl (g.2.1 0, 40, .inl (aI OF))), ((ad 28), .inl (g.2.1 0, 40, .inl (aI OS)))]) [0, 1] [2, 3, 4, 5, 6, 7, 8, 9, 10, 11, 12, 13, 14, 15] rfl rfl rfl rfl (by decide)) d_Mo_begins_96 lk_Mo_200 mw_Mo_ruleKind vw_Mo_ruleKind (q0 := 0) rfl rfl (fit_of hR (by first | decide | (simp only [rmk]; omega)) (by first | decide | (simp only [rmk]; omega)) (by first | decide | (simp only [rmk]; omega)) (by first | decide | (simp only [rmk]; omega))) rfl (cat8 (Nat.le_of_ble_eq_true rfl)) (As := []) (rest := []) rfl (fun r_96 w_96 hp_96 => ?_)
              obtain ⟨rfl, rfl⟩ := hp_96
              refine r_after (ws' := [(m0, .inr (9, MO ad qth (nI k) (bI qir) (nI tn) (nI dp) (nI nr) (nI e) (nI e) (nI so) (nI bg) qva (-1) (nI op) (bI qiu) qwi qhe qrw qma)), ((ad 2), .inl (g.2.1 0, 2000, .inl (aI T))), ((ad 6), .inl (g.2.1 0, 2000, .inl (aI BE))), ((ad 7), .inl (g.2.1 0, 2000, .inl (aI EN))), ((ad 10), .inl (g.2.1 0, 500, .inl (aI KI))), ((ad 11), .inl (g.2.1 0, 500, .inl (oA CO))), ((ad 12), .inl (g.2.1 0, 500, .inl (oA NU))), ((ad 13), .inl (g.2.1 0, 500, .inl (oA CN))), ((ad 14), .inl (g.2.1 0, 500, .inl (aI LI))), ((ad 15), .inl (g.2.1 0, 500, .inl (aI AR))), ((ad 16), .inl (g.2.1 0, 20000, .inl (aI WH))), ((ad 17), .inl (g.2.1 0, 20000, .inl (aI FI))), ((ad 18), .inl (g.2.1 0, 20000, .inl (aI SE))), ((ad 26), .inl (g.2.1 0, 40, .inl (aI OW))), ((ad 27), .inl (g.2.1 0, 40, .inl (aI OF))), ((ad 28), .inl (g.2.1 0, 40, .inl (aI OS)))]) (st' := [.int (oI (kindM T so bg e))]) (n1 := 0) (n2 := 0) [14, 15, 0, 1, 2, 3, 4, 5, 6, 7, 8, 9, 10, 11, 12, 13] rfl rfl rfl rfl rfl ?_
              refine r_istore_n C (lv' := [(1, .int (oI (kindM T so bg e))), (0, .ref m0)]) d_Mo_begins_99 rfl (by decide) rfl ?_
              cases hkd : kindM T so bg e with
              | none =>
                refine r_norm2 (ws' := [(m0, .inr (9, MO ad qth (nI k) (bI qir) (nI tn) (nI dp) (nI nr) (nI e) (nI e) (nI so) (nI bg) qva (-1) (nI op) (bI qiu) qwi qhe qrw qma)), ((ad 2), .inl (g.2.1 0, 2000, .inl (aI T))), ((ad 6), .inl (g.2.1 0, 2000, .inl (aI BE))), ((ad 7), .inl (g.2.1 0, 2000, .inl (aI EN))), ((ad 10), .inl (g.2.1 0, 500, .inl (aI KI))), ((ad 11), .inl (g.2.1 0, 500, .inl (oA CO))), ((ad 12), .inl (g.2.1 0, 500, .inl (oA NU))), ((ad 13), .inl (g.2.1 0, 500, .inl (oA CN))), ((ad 14), .inl (g.2.1 0, 500, .inl (aI LI))), ((ad 15), .inl (g.2.1 0, 500, .inl (aI AR))), ((ad 16), .inl (g.2.1 0, 20000, .inl (aI WH))), ((ad 17), .inl (g.2.1 0, 20000, .inl (aI FI))), ((ad 18), .inl (g.2.1 0, 20000, .inl (aI SE))), ((ad 26), .inl (g.2.1 0, 40, .inl (aI OW))), ((ad 27), .inl (g.2.1 0, 40, .inl (aI OF))), ((ad 28), .inl (g.2.1 0, 40, .inl (aI OS)))]) (st' := []) (lv' := [(1, .int (-1)), (0, .ref m0)]) rfl rfl rfl ?_
                refine r_iload_n C 0 d_Mo_begins_100 rfl rfl ?_
                refine r_if_ge C 115 d_Mo_begins_101 (by decide) (fun c_101 => ?_) (fun c_101 => ?_)
                · exact absurd c_101 (by decide)
                · skip
                  refine r_aload_n C 1 d_Mo_begins_104 rfl rfl ?_
                  refine r_aload_n C 1 d_Mo_begins_105 rfl rfl ?_
                  refine r_get C 0 22 d_Mo_begins_106 ci_Mo fi_Mo_106 rfl (by decide) rfl rfl ?_
                  refine j_callV C (c_Mo_refuse g (xl x) (m0 := m0) (ad := ad) (qth := qth) (qsz := nI k) (qtk := nI tn) (qde := nI dp) (qru := nI nr) (qat := nI e) (qen := nI e) (qto := nI so) (qbe := nI bg) (qva := qva) (qop := nI op) (qwi := qwi) (qhe := qhe) (qrw := qrw) (qma := qma) (qir := qir) (qiu := qiu) (wr := none) (c := bg) (by omega) (fun z h => by cases h)) (Sp.of (wr := [((ad 2), .inl (g.2.1 0, 2000, .inl (aI T))), ((ad 6), .inl (g.2.1 0, 2000, .inl (aI BE))), ((ad 7), .inl (g.2.1 0, 2000, .inl (aI EN))), ((ad 10), .inl (g.2.1 0, 500, .inl (aI KI))), ((ad 11), .inl (g.2.1 0, 500, .inl (oA CO))), ((ad 12), .inl (g.2.1 0, 500, .inl (oA NU))), ((ad 13), .inl (g.2.1 0, 500, .inl (oA CN))), ((ad 14), .inl (g.2.1 0, 500, .inl (aI LI))), ((ad 15), .inl (g.2.1 0, 500, .inl (aI AR))), ((ad 16), .inl (g.2.1 0, 20000, .inl (aI WH))), ((ad 17), .inl (g.2.1 0, 20000, .inl (aI FI))), ((ad 18), .inl (g.2.1 0, 20000, .inl (aI SE))), ((ad 26), .inl (g.2.1 0, 40, .inl (aI OW))), ((ad 27), .inl (g.2.1 0, 40, .inl (aI OF))), ((ad 28), .inl (g.2.1 0, 40, .inl (aI OS)))]) [0] [1, 2, 3, 4, 5, 6, 7, 8, 9, 10, 11, 12, 13, 14, 15] rfl rfl rfl rfl (by decide)) d_Mo_begins_109 lk_Mo_119 mw_Mo_refuse vw_Mo_refuse (q0 := 0) rfl rfl (fit_of hR (by first | decide | (simp only [rmk]; omega)) (by first | decide | (simp only [rmk]; omega)) (by first | decide | (simp only [rmk]; omega)) (by first | decide | (simp only [rmk]; omega))) rfl (cat8 (Nat.le_of_ble_eq_true rfl)) (As := [.int (nI bg)]) (rest := []) rfl (fun r_109 w_109 hp_109 => ?_)
                  obtain ⟨rfl, rfl⟩ := hp_109
                  refine r_after (ws' := [(m0, .inr (9, MO ad qth (nI k) (bI qir) (nI tn) (nI dp) (nI nr) (nI e) (nI e) (nI so) (nI bg) qva (oI (none.orElse fun _ => some bg)) (nI op) (bI qiu) qwi qhe qrw qma)), ((ad 2), .inl (g.2.1 0, 2000, .inl (aI T))), ((ad 6), .inl (g.2.1 0, 2000, .inl (aI BE))), ((ad 7), .inl (g.2.1 0, 2000, .inl (aI EN))), ((ad 10), .inl (g.2.1 0, 500, .inl (aI KI))), ((ad 11), .inl (g.2.1 0, 500, .inl (oA CO))), ((ad 12), .inl (g.2.1 0, 500, .inl (oA NU))), ((ad 13), .inl (g.2.1 0, 500, .inl (oA CN))), ((ad 14), .inl (g.2.1 0, 500, .inl (aI LI))), ((ad 15), .inl (g.2.1 0, 500, .inl (aI AR))), ((ad 16), .inl (g.2.1 0, 20000, .inl (aI WH))), ((ad 17), .inl (g.2.1 0, 20000, .inl (aI FI))), ((ad 18), .inl (g.2.1 0, 20000, .inl (aI SE))), ((ad 26), .inl (g.2.1 0, 40, .inl (aI OW))), ((ad 27), .inl (g.2.1 0, 40, .inl (aI OF))), ((ad 28), .inl (g.2.1 0, 40, .inl (aI OS)))]) (st' := []) (n1 := 0) (n2 := 0) [15, 0, 1, 2, 3, 4, 5, 6, 7, 8, 9, 10, 11, 12, 13, 14] rfl rfl rfl rfl rfl ?_
                  refine r_goto C 120 d_Mo_begins_112 (by decide) ?_
                  refine r_iconst C (nI 0) d_Mo_begins_120 (by decide) ?_
                  refine r_eqS (st' := [.int (bI false)]) rfl ?_
                  refine r_bret C E d_Mo_begins_121 (by first | decide | omega | (simp only [rmk]; omega)) (by first | decide | omega | (simp only [rmk]; omega)) ?_
                  exact ⟨_, _, _, _, _, _, _, _, _, _, _, _, _, _, _, _, _, _, _, _, _, _, _, _, false, rfl, rfl, ri_ref (by omega) hri, hOW, Or.inr ⟨(fun q => c_13 q.2), Or.inr ⟨c_45, c_68, c_83, rfl, Or.inl ⟨hkd, rfl⟩⟩⟩⟩
              | some ki =>
                have hki := kindM_le hkd
                refine r_norm2 (ws' := [(m0, .inr (9, MO ad qth (nI k) (bI qir) (nI tn) (nI dp) (nI nr) (nI e) (nI e) (nI so) (nI bg) qva (-1) (nI op) (bI qiu) qwi qhe qrw qma)), ((ad 2), .inl (g.2.1 0, 2000, .inl (aI T))), ((ad 6), .inl (g.2.1 0, 2000, .inl (aI BE))), ((ad 7), .inl (g.2.1 0, 2000, .inl (aI EN))), ((ad 10), .inl (g.2.1 0, 500, .inl (aI KI))), ((ad 11), .inl (g.2.1 0, 500, .inl (oA CO))), ((ad 12), .inl (g.2.1 0, 500, .inl (oA NU))), ((ad 13), .inl (g.2.1 0, 500, .inl (oA CN))), ((ad 14), .inl (g.2.1 0, 500, .inl (aI LI))), ((ad 15), .inl (g.2.1 0, 500, .inl (aI AR))), ((ad 16), .inl (g.2.1 0, 20000, .inl (aI WH))), ((ad 17), .inl (g.2.1 0, 20000, .inl (aI FI))), ((ad 18), .inl (g.2.1 0, 20000, .inl (aI SE))), ((ad 26), .inl (g.2.1 0, 40, .inl (aI OW))), ((ad 27), .inl (g.2.1 0, 40, .inl (aI OF))), ((ad 28), .inl (g.2.1 0, 40, .inl (aI OS)))]) (st' := []) (lv' := [(1, .int (nI ki)), (0, .ref m0)]) rfl rfl rfl ?_
                refine r_iload_n C 0 d_Mo_begins_100 rfl rfl ?_
                refine r_nif_ge C 115 d_Mo_begins_101 (by decide) (by omega) (fun c_101 => ?_) (fun c_101 => ?_)
                · skip
                  refine r_aload_n C 1 d_Mo_begins_115 rfl rfl ?_
                  refine r_iload_n C 0 d_Mo_begins_116 rfl rfl ?_
                  refine j_callV C (c_Mo_rule g (xl x) (m0 := m0) (ad := ad) (qth := qth) (qde := nI dp) (qwi := qwi) (qhe := qhe) (qrw := qrw) (qma := qma) (qir := qir) (qiu := qiu) (k := k) (so := so) (e := e) (tn := tn) (op := op) (nr := nr) (bg := bg) (ki := ki) (qe := nI e) (qva := qva) (T := T) (BE := BE) (EN := EN) (OW := OW) (OF := OF) (OS := OS) (KI := KI) (LI := LI) (AR := AR) (WH := WH) (FI := FI) (SE := SE) (CO := CO) (NU := NU) (CN := CN) (by first | assumption | omega | rfl) (by first | assumption | omega | rfl) (hri) (by first | assumption | omega | rfl) (by first | assumption | omega | rfl) (by first | assumption | omega | rfl) (by first | assumption | omega | rfl)) (Sp.of (wr := []) [0, 1, 2, 3, 4, 5, 6, 7, 8, 9, 10, 11, 12, 13, 14, 15] [] rfl rfl rfl rfl (by decide)) d_Mo_begins_117 lk_Mo_203 mw_Mo_rule vw_Mo_rule (q0 := 0) rfl rfl (fit_of hR (by first | decide | (simp only [rmk]; omega)) (by first | decide | (simp only [rmk]; omega)) (by first | decide | (simp only [rmk]; omega)) (by first | decide | (simp only [rmk]; omega))) rfl (cat8 (Nat.le_of_ble_eq_true rfl)) (As := [.int (nI ki)]) (rest := []) rfl (fun r_117 w_117 hp_117 => ?_)
                  obtain ⟨so2_117, e2_117, tn2_117, nr2_117, op2_117, qe2_117, qb2_117, qv2_117, wr2_117, BE2_117, EN2_117, KI2_117, LI2_117, AR2_117, WH2_117, FI2_117, SE2_117, CO2_117, NU2_117, CN2_117, rfl, rfl, hri2_117, hrr_117⟩ := hp_117
                  refine r_after (ws' := [(m0, .inr (9, MO ad qth (nI k) (bI qir) (nI tn2_117) (nI dp) (nI nr2_117) (nI e2_117) qe2_117 (nI so2_117) qb2_117 qv2_117 (oI wr2_117) (nI op2_117) (bI qiu) qwi qhe qrw qma)), ((ad 2), .inl (g.2.1 0, 2000, .inl (aI T))), ((ad 6), .inl (g.2.1 0, 2000, .inl (aI BE2_117))), ((ad 7), .inl (g.2.1 0, 2000, .inl (aI EN2_117))), ((ad 10), .inl (g.2.1 0, 500, .inl (aI KI2_117))), ((ad 11), .inl (g.2.1 0, 500, .inl (oA CO2_117))), ((ad 12), .inl (g.2.1 0, 500, .inl (oA NU2_117))), ((ad 13), .inl (g.2.1 0, 500, .inl (oA CN2_117))), ((ad 14), .inl (g.2.1 0, 500, .inl (aI LI2_117))), ((ad 15), .inl (g.2.1 0, 500, .inl (aI AR2_117))), ((ad 16), .inl (g.2.1 0, 20000, .inl (aI WH2_117))), ((ad 17), .inl (g.2.1 0, 20000, .inl (aI FI2_117))), ((ad 18), .inl (g.2.1 0, 20000, .inl (aI SE2_117))), ((ad 26), .inl (g.2.1 0, 40, .inl (aI OW))), ((ad 27), .inl (g.2.1 0, 40, .inl (aI OF))), ((ad 28), .inl (g.2.1 0, 40, .inl (aI OS)))]) (st' := []) (n1 := 0) (n2 := 0) [0, 1, 2, 3, 4, 5, 6, 7, 8, 9, 10, 11, 12, 13, 14, 15] rfl rfl rfl rfl rfl ?_
                  refine r_iconst C (nI 0) d_Mo_begins_120 (by decide) ?_
                  refine r_eqS (st' := [.int (bI false)]) rfl ?_
                  refine r_bret C E d_Mo_begins_121 (by first | decide | omega | (simp only [rmk]; omega)) (by first | decide | omega | (simp only [rmk]; omega)) ?_
                  exact ⟨_, _, _, _, _, _, _, _, _, _, _, _, _, _, _, _, _, _, _, _, _, _, _, _, false, rfl, rfl, hri2_117, hOW, Or.inr ⟨(fun q => c_13 q.2), Or.inr ⟨c_45, c_68, c_83, rfl, Or.inr ⟨ki, hkd, rfl, rfl, rfl, rfl, hrr_117⟩⟩⟩⟩
                · exact absurd c_101 (by omega)
            · skip
              refine r_aload_n C 0 d_Mo_begins_86 rfl rfl ?_
              refine r_iconst C (nI 0) d_Mo_begins_87 (by decide) ?_
              refine r_iconst C (nI 0) d_Mo_begins_88 (by decide) ?_
              refine r_iconst C (nI 0) d_Mo_begins_89 (by decide) ?_
              refine j_callV C (c_Mo_push g (xl x) (m0 := m0) (ad := ad) (qth := qth) (qsz := nI k) (qtk := nI tn) (qru := nI nr) (qat := nI e) (qen := nI e) (qto := nI so) (qbe := nI bg) (qva := qva) (qwr := (-1)) (qwi := qwi) (qhe := qhe) (qrw := qrw) (qma := qma) (qir := qir) (qiu := qiu) (op := op) (dp := dp) (w := 0) (a := 0) (c := 0) (OW := OW) (OF := OF) (OS := OS) (by first | omega | (exfalso; rw [deep_3 c_45 c_68 c_83] at c_4; cases c_4)) (by first | assumption | omega | rfl)) (Sp.of (wr := [((ad 2), .inl (g.2.1 0, 2000, .inl (aI T))), ((ad 6), .inl (g.2.1 0, 2000, .inl (aI BE))), ((ad 7), .inl (g.2.1 0, 2000, .inl (aI EN))), ((ad 10), .inl (g.2.1 0, 500, .inl (aI KI))), ((ad 11), .inl (g.2.1 0, 500, .inl (oA CO))), ((ad 12), .inl (g.2.1 0, 500, .inl (oA NU))), ((ad 13), .inl (g.2.1 0, 500, .inl (oA CN))), ((ad 14), .inl (g.2.1 0, 500, .inl (aI LI))), ((ad 15), .inl (g.2.1 0, 500, .inl (aI AR))), ((ad 16), .inl (g.2.1 0, 20000, .inl (aI WH))), ((ad 17), .inl (g.2.1 0, 20000, .inl (aI FI))), ((ad 18), .inl (g.2.1 0, 20000, .inl (aI SE)))]) [0, 13, 14, 15] [1, 2, 3, 4, 5, 6, 7, 8, 9, 10, 11, 12] rfl rfl rfl rfl (by decide)) d_Mo_begins_90 lk_Mo_173 mw_Mo_push vw_Mo_push (q0 := 0) rfl rfl (fit_of hR (by first | decide | (simp only [rmk]; omega)) (by first | decide | (simp only [rmk]; omega)) (by first | decide | (simp only [rmk]; omega)) (by first | decide | (simp only [rmk]; omega))) rfl (cat8 (Nat.le_of_ble_eq_true rfl)) (As := [.int (nI 0), .int (nI 0), .int (nI 0)]) (rest := []) rfl (fun r_90 w_90 hp_90 => ?_)
              obtain ⟨rfl, rfl⟩ := hp_90
              refine r_after (ws' := [(m0, .inr (9, MO ad qth (nI k) (bI qir) (nI tn) (nI (max dp (op + 1))) (nI nr) (nI e) (nI e) (nI so) (nI bg) qva (-1) (nI (op + 1)) (bI qiu) qwi qhe qrw qma)), ((ad 2), .inl (g.2.1 0, 2000, .inl (aI T))), ((ad 6), .inl (g.2.1 0, 2000, .inl (aI BE))), ((ad 7), .inl (g.2.1 0, 2000, .inl (aI EN))), ((ad 10), .inl (g.2.1 0, 500, .inl (aI KI))), ((ad 11), .inl (g.2.1 0, 500, .inl (oA CO))), ((ad 12), .inl (g.2.1 0, 500, .inl (oA NU))), ((ad 13), .inl (g.2.1 0, 500, .inl (oA CN))), ((ad 14), .inl (g.2.1 0, 500, .inl (aI LI))), ((ad 15), .inl (g.2.1 0, 500, .inl (aI AR))), ((ad 16), .inl (g.2.1 0, 20000, .inl (aI WH))), ((ad 17), .inl (g.2.1 0, 20000, .inl (aI FI))), ((ad 18), .inl (g.2.1 0, 20000, .inl (aI SE))), ((ad 26), .inl (g.2.1 0, 40, .inl (aI (up OW op 0)))), ((ad 27), .inl (g.2.1 0, 40, .inl (aI (up OF op 0)))), ((ad 28), .inl (g.2.1 0, 40, .inl (aI (up OS op 0))))]) (st' := []) (n1 := 0) (n2 := 0) [12, 0, 1, 2, 3, 4, 5, 6, 7, 8, 9, 10, 11, 13, 14, 15] rfl rfl rfl rfl rfl ?_
              refine r_iconst C (nI 1) d_Mo_begins_93 (by decide) ?_
              refine r_eqS (st' := [.int (bI true)]) rfl ?_
              refine r_bret C E d_Mo_begins_94 (by first | decide | omega | (simp only [rmk]; omega)) (by first | decide | omega | (simp only [rmk]; omega)) ?_
              exact ⟨_, _, _, _, _, _, _, _, _, _, _, _, _, _, _, _, _, _, _, _, _, _, _, _, true, rfl, rfl, hri, ow_0 hOW, Or.inr ⟨(fun q => c_13 q.2), Or.inl ⟨Or.inr (Or.inr ⟨c_45, c_68, c_83, rfl, rfl, rfl, rfl, rfl, rfl, rfl⟩), rfl, rfl, rfl, rfl, rfl, rfl, rfl, rfl, rfl, rfl, rfl⟩⟩⟩
          · skip
            refine r_aload_n C 0 d_Mo_begins_71 rfl rfl ?_
            refine j_callV C (c_Mo_where g (xl x) (m0 := m0) (ad := ad) (qth := qth) (qru := nI nr) (qbe := nI bg) (qva := qva) (qwi := qwi) (qhe := qhe) (qrw := qrw) (qma := qma) (qir := qir) (qiu := qiu) (k := k) (so := so) (e := e) (tn := tn) (op := op) (dp := dp) (qe := nI e) (wr := none) (T := T) (BE := BE) (EN := EN) (OW := OW) (OF := OF) (OS := OS) (by first | assumption | omega | rfl) (by first | assumption | omega | rfl) (hri) (rfl) (by first | omega | (exfalso; rw [deep_2 c_45 c_68] at c_4; cases c_4)) (by first | assumption | omega | rfl)) (Sp.of (wr := [((ad 10), .inl (g.2.1 0, 500, .inl (aI KI))), ((ad 11), .inl (g.2.1 0, 500, .inl (oA CO))), ((ad 12), .inl (g.2.1 0, 500, .inl (oA NU))), ((ad 13), .inl (g.2.1 0, 500, .inl (oA CN))), ((ad 14), .inl (g.2.1 0, 500, .inl (aI LI))), ((ad 15), .inl (g.2.1 0, 500, .inl (aI AR))), ((ad 16), .inl (g.2.1 0, 20000, .inl (aI WH))), ((ad 17), .inl (g.2.1 0, 20000, .inl (aI FI))), ((ad 18), .inl (g.2.1 0, 20000, .inl (aI SE)))]) [0, 1, 2, 3, 13, 14, 15] [4, 5, 6, 7, 8, 9, 10, 11, 12] rfl rfl rfl rfl (by decide)) d_Mo_begins_72 lk_Mo_197 mw_Mo_where vw_Mo_where (q0 := 0) rfl rfl (fit_of hR (by first | decide | (simp only [rmk]; omega)) (by first | decide | (simp only [rmk]; omega)) (by first | decide | (simp only [rmk]; omega)) (by first | decide | (simp only [rmk]; omega))) rfl (cat8 (Nat.le_of_ble_eq_true rfl)) (As := []) (rest := []) rfl (fun r_72 w_72 hp_72 => ?_)
            obtain ⟨so2_72, e2_72, tn2_72, bg2_72, z2_72, wr2_72, BE2_72, EN2_72, op2_72, dp2_72, OW2_72, OF2_72, OS2_72, rfl, rfl, hri2_72, her_72⟩ := hp_72
            refine r_after (ws' := [(m0, .inr (9, MO ad qth (nI k) (bI qir) (nI tn2_72) (nI dp2_72) (nI nr) (nI e2_72) (nI e2_72) (nI so2_72) (nI bg2_72) (nI z2_72) (oI wr2_72) (nI op2_72) (bI qiu) qwi qhe qrw qma)), ((ad 2), .inl (g.2.1 0, 2000, .inl (aI T))), ((ad 6), .inl (g.2.1 0, 2000, .inl (aI BE2_72))), ((ad 7), .inl (g.2.1 0, 2000, .inl (aI EN2_72))), ((ad 10), .inl (g.2.1 0, 500, .inl (aI KI))), ((ad 11), .inl (g.2.1 0, 500, .inl (oA CO))), ((ad 12), .inl (g.2.1 0, 500, .inl (oA NU))), ((ad 13), .inl (g.2.1 0, 500, .inl (oA CN))), ((ad 14), .inl (g.2.1 0, 500, .inl (aI LI))), ((ad 15), .inl (g.2.1 0, 500, .inl (aI AR))), ((ad 16), .inl (g.2.1 0, 20000, .inl (aI WH))), ((ad 17), .inl (g.2.1 0, 20000, .inl (aI FI))), ((ad 18), .inl (g.2.1 0, 20000, .inl (aI SE))), ((ad 26), .inl (g.2.1 0, 40, .inl (aI OW2_72))), ((ad 27), .inl (g.2.1 0, 40, .inl (aI OF2_72))), ((ad 28), .inl (g.2.1 0, 40, .inl (aI OS2_72)))]) (st' := []) (n1 := 0) (n2 := 0) [9, 10, 11, 12, 0, 1, 2, 3, 4, 5, 6, 7, 8, 13, 14, 15] rfl rfl rfl rfl rfl ?_
            refine r_iconst C (nI 1) d_Mo_begins_75 (by decide) ?_
            refine r_eqS (st' := [.int (bI true)]) rfl ?_
            refine r_bret C E d_Mo_begins_76 (by first | decide | omega | (simp only [rmk]; omega)) (by first | decide | omega | (simp only [rmk]; omega)) ?_
            exact ⟨_, _, _, _, _, _, _, _, _, _, _, _, _, _, _, _, _, _, _, _, _, _, _, _, true, rfl, rfl, hri2_72, each_OW (Or.inr rfl) hOW her_72, Or.inr ⟨(fun q => c_13 q.2), Or.inl ⟨Or.inr (Or.inl ⟨c_45, c_68, her_72⟩), rfl, rfl, rfl, rfl, rfl, rfl, rfl, rfl, rfl, rfl, rfl⟩⟩⟩
        · skip
          refine r_aload_n C 0 d_Mo_begins_48 rfl rfl ?_
          refine j_callV C (c_Mo_each g (xl x) (m0 := m0) (ad := ad) (qth := qth) (qru := nI nr) (qbe := nI bg) (qva := qva) (qwi := qwi) (qhe := qhe) (qrw := qrw) (qma := qma) (qir := qir) (qiu := qiu) (k := k) (so := so) (e := e) (tn := tn) (op := op) (dp := dp) (qe := nI e) (wr := none) (T := T) (BE := BE) (EN := EN) (OW := OW) (OF := OF) (OS := OS) (by first | assumption | omega | rfl) (by first | assumption | omega | rfl) (hri) (rfl) (by first | omega | (exfalso; rw [deep_1 c_45] at c_4; cases c_4)) (by first | assumption | omega | rfl)) (Sp.of (wr := [((ad 10), .inl (g.2.1 0, 500, .inl (aI KI))), ((ad 11), .inl (g.2.1 0, 500, .inl (oA CO))), ((ad 12), .inl (g.2.1 0, 500, .inl (oA NU))), ((ad 13), .inl (g.2.1 0, 500, .inl (oA CN))), ((ad 14), .inl (g.2.1 0, 500, .inl (aI LI))), ((ad 15), .inl (g.2.1 0, 500, .inl (aI AR))), ((ad 16), .inl (g.2.1 0, 20000, .inl (aI WH))), ((ad 17), .inl (g.2.1 0, 20000, .inl (aI FI))), ((ad 18), .inl (g.2.1 0, 20000, .inl (aI SE)))]) [0, 1, 2, 3, 13, 14, 15] [4, 5, 6, 7, 8, 9, 10, 11, 12] rfl rfl rfl rfl (by decide)) d_Mo_begins_49 lk_Mo_194 mw_Mo_each vw_Mo_each (q0 := 0) rfl rfl (fit_of hR (by first | decide | (simp only [rmk]; omega)) (by first | decide | (simp only [rmk]; omega)) (by first | decide | (simp only [rmk]; omega)) (by first | decide | (simp only [rmk]; omega))) rfl (cat8 (Nat.le_of_ble_eq_true rfl)) (As := []) (rest := []) rfl (fun r_49 w_49 hp_49 => ?_)
          obtain ⟨so2_49, e2_49, tn2_49, bg2_49, z2_49, wr2_49, BE2_49, EN2_49, op2_49, dp2_49, OW2_49, OF2_49, OS2_49, rfl, rfl, hri2_49, her_49⟩ := hp_49
          refine r_after (ws' := [(m0, .inr (9, MO ad qth (nI k) (bI qir) (nI tn2_49) (nI dp2_49) (nI nr) (nI e2_49) (nI e2_49) (nI so2_49) (nI bg2_49) (nI z2_49) (oI wr2_49) (nI op2_49) (bI qiu) qwi qhe qrw qma)), ((ad 2), .inl (g.2.1 0, 2000, .inl (aI T))), ((ad 6), .inl (g.2.1 0, 2000, .inl (aI BE2_49))), ((ad 7), .inl (g.2.1 0, 2000, .inl (aI EN2_49))), ((ad 10), .inl (g.2.1 0, 500, .inl (aI KI))), ((ad 11), .inl (g.2.1 0, 500, .inl (oA CO))), ((ad 12), .inl (g.2.1 0, 500, .inl (oA NU))), ((ad 13), .inl (g.2.1 0, 500, .inl (oA CN))), ((ad 14), .inl (g.2.1 0, 500, .inl (aI LI))), ((ad 15), .inl (g.2.1 0, 500, .inl (aI AR))), ((ad 16), .inl (g.2.1 0, 20000, .inl (aI WH))), ((ad 17), .inl (g.2.1 0, 20000, .inl (aI FI))), ((ad 18), .inl (g.2.1 0, 20000, .inl (aI SE))), ((ad 26), .inl (g.2.1 0, 40, .inl (aI OW2_49))), ((ad 27), .inl (g.2.1 0, 40, .inl (aI OF2_49))), ((ad 28), .inl (g.2.1 0, 40, .inl (aI OS2_49)))]) (st' := []) (n1 := 0) (n2 := 0) [9, 10, 11, 12, 0, 1, 2, 3, 4, 5, 6, 7, 8, 13, 14, 15] rfl rfl rfl rfl rfl ?_
          refine r_iconst C (nI 1) d_Mo_begins_52 (by decide) ?_
          refine r_eqS (st' := [.int (bI true)]) rfl ?_
          refine r_bret C E d_Mo_begins_53 (by first | decide | omega | (simp only [rmk]; omega)) (by first | decide | omega | (simp only [rmk]; omega)) ?_
          exact ⟨_, _, _, _, _, _, _, _, _, _, _, _, _, _, _, _, _, _, _, _, _, _, _, _, true, rfl, rfl, hri2_49, each_OW (Or.inl rfl) hOW her_49, Or.inr ⟨(fun q => c_13 q.2), Or.inl ⟨Or.inl ⟨c_45, her_49⟩, rfl, rfl, rfl, rfl, rfl, rfl, rfl, rfl, rfl, rfl, rfl⟩⟩⟩
      · exact absurd (by decide) c_28
    · skip
      refine r_aload_n C 0 d_Mo_begins_16 rfl rfl ?_
      refine r_aload_n C 0 d_Mo_begins_17 rfl rfl ?_
      refine r_get C 0 22 d_Mo_begins_18 ci_Mo fi_Mo_106 rfl (by decide) rfl rfl ?_
      refine j_callV C (c_Mo_refuse g (xl x) (m0 := m0) (ad := ad) (qth := qth) (qsz := nI k) (qtk := nI tn) (qde := nI dp) (qru := nI nr) (qat := nI e) (qen := nI e) (qto := nI so) (qbe := nI bg) (qva := qva) (qop := nI op) (qwi := qwi) (qhe := qhe) (qrw := qrw) (qma := qma) (qir := qir) (qiu := qiu) (wr := none) (c := bg) (by omega) (fun z h => by cases h)) (Sp.of (wr := [((ad 2), .inl (g.2.1 0, 2000, .inl (aI T))), ((ad 6), .inl (g.2.1 0, 2000, .inl (aI BE))), ((ad 7), .inl (g.2.1 0, 2000, .inl (aI EN))), ((ad 10), .inl (g.2.1 0, 500, .inl (aI KI))), ((ad 11), .inl (g.2.1 0, 500, .inl (oA CO))), ((ad 12), .inl (g.2.1 0, 500, .inl (oA NU))), ((ad 13), .inl (g.2.1 0, 500, .inl (oA CN))), ((ad 14), .inl (g.2.1 0, 500, .inl (aI LI))), ((ad 15), .inl (g.2.1 0, 500, .inl (aI AR))), ((ad 16), .inl (g.2.1 0, 20000, .inl (aI WH))), ((ad 17), .inl (g.2.1 0, 20000, .inl (aI FI))), ((ad 18), .inl (g.2.1 0, 20000, .inl (aI SE))), ((ad 26), .inl (g.2.1 0, 40, .inl (aI OW))), ((ad 27), .inl (g.2.1 0, 40, .inl (aI OF))), ((ad 28), .inl (g.2.1 0, 40, .inl (aI OS)))]) [0] [1, 2, 3, 4, 5, 6, 7, 8, 9, 10, 11, 12, 13, 14, 15] rfl rfl rfl rfl (by decide)) d_Mo_begins_21 lk_Mo_119 mw_Mo_refuse vw_Mo_refuse (q0 := 0) rfl rfl (fit_of hR (by first | decide | (simp only [rmk]; omega)) (by first | decide | (simp only [rmk]; omega)) (by first | decide | (simp only [rmk]; omega)) (by first | decide | (simp only [rmk]; omega))) rfl (cat8 (Nat.le_of_ble_eq_true rfl)) (As := [.int (nI bg)]) (rest := []) rfl (fun r_21 w_21 hp_21 => ?_)
      obtain ⟨rfl, rfl⟩ := hp_21
      refine r_after (ws' := [(m0, .inr (9, MO ad qth (nI k) (bI qir) (nI tn) (nI dp) (nI nr) (nI e) (nI e) (nI so) (nI bg) qva (oI (none.orElse fun _ => some bg)) (nI op) (bI qiu) qwi qhe qrw qma)), ((ad 2), .inl (g.2.1 0, 2000, .inl (aI T))), ((ad 6), .inl (g.2.1 0, 2000, .inl (aI BE))), ((ad 7), .inl (g.2.1 0, 2000, .inl (aI EN))), ((ad 10), .inl (g.2.1 0, 500, .inl (aI KI))), ((ad 11), .inl (g.2.1 0, 500, .inl (oA CO))), ((ad 12), .inl (g.2.1 0, 500, .inl (oA NU))), ((ad 13), .inl (g.2.1 0, 500, .inl (oA CN))), ((ad 14), .inl (g.2.1 0, 500, .inl (aI LI))), ((ad 15), .inl (g.2.1 0, 500, .inl (aI AR))), ((ad 16), .inl (g.2.1 0, 20000, .inl (aI WH))), ((ad 17), .inl (g.2.1 0, 20000, .inl (aI FI))), ((ad 18), .inl (g.2.1 0, 20000, .inl (aI SE))), ((ad 26), .inl (g.2.1 0, 40, .inl (aI OW))), ((ad 27), .inl (g.2.1 0, 40, .inl (aI OF))), ((ad 28), .inl (g.2.1 0, 40, .inl (aI OS)))]) (st' := []) (n1 := 0) (n2 := 0) [15, 0, 1, 2, 3, 4, 5, 6, 7, 8, 9, 10, 11, 12, 13, 14] rfl rfl rfl rfl rfl ?_
      refine r_aload_n C 0 d_Mo_begins_24 rfl rfl ?_
      refine r_get C 0 24 d_Mo_begins_25 ci_Mo fi_Mo_94 rfl (by decide) rfl rfl ?_
      refine r_if_lt C 33 d_Mo_begins_28 (by decide) (fun c_28 => ?_) (fun c_28 => ?_)
      · exact absurd c_28 (Int32.not_lt.mpr (nI_pos' (by omega)))
      · skip
        refine r_iconst C (nI 1) d_Mo_begins_31 (by decide) ?_
        refine r_eqS (st' := [.int (bI true)]) rfl ?_
        refine r_bret C E d_Mo_begins_32 (by first | decide | omega | (simp only [rmk]; omega)) (by first | decide | omega | (simp only [rmk]; omega)) ?_
        exact ⟨_, _, _, _, _, _, _, _, _, _, _, _, _, _, _, _, _, _, _, _, _, _, _, _, true, rfl, rfl, ri_ref (by omega) hri, hOW, Or.inl ⟨c_4, c_13, rfl⟩⟩
