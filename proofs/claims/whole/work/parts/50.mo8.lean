/-- the layers that are open, the outermost first -/
def layM (OW OF OS : Nat → Nat) : Nat → List (Nat × Nat × Nat)
  | 0 => []
  | q + 1 => layM OW OF OS q ++ (if OW q = 0 then [] else [(OW q, OF q, OS q)])
theorem layM_y {OW OF OS : Nat → Nat} {q : Nat} (h : OW q ≠ 0) : layM OW OF OS (q + 1) = layM OW OF OS q ++ [(OW q, OF q, OS q)] := by rw [layM, if_neg h]
theorem layM_n {OW OF OS : Nat → Nat} {q : Nat} (h : OW q = 0) : layM OW OF OS (q + 1) = layM OW OF OS q := by rw [layM, if_pos h, List.append_nil]
theorem layM_le {OW OF OS : Nat → Nat} : ∀ q, (layM OW OF OS q).length ≤ q := by
  intro q
  induction q with
  | zero => exact Nat.le_refl _
  | succ q ih =>
    by_cases h : OW q = 0
    · rw [layM_n h]; omega
    · rw [layM_y h]; simp; omega
/-- the layers stand behind place b; what stands before is kept -/
def LayM (L : List (Nat × Nat × Nat)) (b : Nat) (WH FI SE WH2 FI2 SE2 : Nat → Nat) : Prop := (∀ t v, L[t]? = some v → WH2 (b + t) = v.1 ∧ FI2 (b + t) = v.2.1 ∧ SE2 (b + t) = v.2.2) ∧ ∀ j, j < b → WH2 j = WH j ∧ FI2 j = FI j ∧ SE2 j = SE j
theorem LayM_push {L : List (Nat × Nat × Nat)} {b c x y z : Nat} {WH FI SE WH2 FI2 SE2 : Nat → Nat} (hc : L.length = c) (h : LayM L b WH FI SE WH2 FI2 SE2) : LayM (L ++ [(x, y, z)]) b WH FI SE (up WH2 (b + c) x) (up FI2 (b + c) y) (up SE2 (b + c) z) := by
  subst hc
  refine ⟨fun t v q => ?_, fun j hj => ?_⟩
  · by_cases e : t = L.length
    · subst e
      simp at q
      subst q
      exact ⟨up_self _ _ _, up_self _ _ _, up_self _ _ _⟩
    · have hl : t < L.length := by
        have := (List.getElem?_eq_some_iff.mp q).1
        simp at this
        omega
      rw [List.getElem?_append_left hl] at q
      rw [up_ne _ _ (by omega), up_ne _ _ (by omega), up_ne _ _ (by omega)]
      exact h.1 t v q
  · rw [up_ne _ _ (by omega), up_ne _ _ (by omega), up_ne _ _ (by omega)]
    exact h.2 j hj
section RUL
variable {T : Nat → Nat} {k : Nat} {x xA xB : TO} {wA wB cm : Option Nat} {z : Nat}
theorem rl_c1 (hc : CmpR T k x wA cm xA) {v : Nat} (h : wA = some v) : pCmp T k none x = (false, none, none, x) ∧ v = x.1.2.1 := by
  obtain ⟨h1, ⟨q1, -⟩ | ⟨q1, q2⟩⟩ := hc
  · rw [q1] at h; cases h
  · rw [q1] at h
    cases h
    exact ⟨pCmp_none (by rw [← h1, q2]), rfl⟩
theorem rl_c2 (hc : CmpR T k x wA cm xA) (h : wA = none) (hn : NumR T k 0 999999 xA none wB z xB) : (wB = none → pCmp T k none x = (true, cm, some z, xB)) ∧ ∀ v, wB = some v → pCmp T k none x = (false, cm, none, xA) ∧ v = xA.1.2.1 := by
  obtain ⟨h1, ⟨q1, ⟨c, q2⟩, q3⟩ | ⟨q1, q2⟩⟩ := hc
  · rw [q2] at h1 ⊢
    rcases hn with ⟨p1, p2⟩ | ⟨p1, p2⟩
    · exact ⟨fun _ => pCmp_some h1 q3 p2.symm, fun v q => by rw [p1] at q; cases q⟩
    · exact ⟨fun q => (by rw [p1] at q; cases q), fun v q => ⟨pCmp_some h1 q3 p2.symm, by rw [p1] at q; cases q; rfl⟩⟩
  · rw [q1] at h; cases h
def BadR (T : Nat → Nat) (k ki : Nat) (x : TO) (v : Nat) : Prop := ∃ c n w y, pNums T k ki x = (false, c, n, w, y) ∧ v = y.1.2.1
theorem rl_4b (hc : CmpR T k x wA cm xA) {v : Nat} (h : wA = some v) : BadR T k 4 x v := by
  obtain ⟨a, b⟩ := rl_c1 hc h
  exact ⟨_, _, _, _, pNums_4 a.symm, b⟩
theorem rl_4n (hc : CmpR T k x wA cm xA) (h : wA = none) (hn : NumR T k 0 999999 xA none wB z xB) : (wB = none → pNums T k 4 x = (true, cm, some z, none, xB)) ∧ ∀ v, wB = some v → BadR T k 4 x v := by
  obtain ⟨a, b⟩ := rl_c2 hc h hn
  exact ⟨fun q => pNums_4 (a q).symm, fun v q => ⟨_, _, _, _, pNums_4 (b v q).1.symm, (b v q).2⟩⟩
theorem rl_6 (hn : NumR T k 0 9 x none wB z xB) : (wB = none → pNums T k 6 x = (true, none, some z, none, xB)) ∧ ∀ v, wB = some v → BadR T k 6 x v := by
  rcases hn with ⟨p1, p2⟩ | ⟨p1, p2⟩
  · exact ⟨fun _ => pNums_6 p2.symm, fun v q => by rw [p1] at q; cases q⟩
  · exact ⟨fun q => (by rw [p1] at q; cases q), fun v q => ⟨_, _, _, _, pNums_6 p2.symm, by rw [p1] at q; cases q; rfl⟩⟩
theorem rl_5a {z0 : Nat} {w0 : Option Nat} {x0 : TO} (h0 : NumR T k 0 999999 x none w0 z0 x0) {v : Nat} (h : w0 = some v) : BadR T k 5 x v := by
  rcases h0 with ⟨p1, p2⟩ | ⟨p1, p2⟩
  · rw [p1] at h; cases h
  · rw [p1] at h; cases h
    exact ⟨_, _, _, _, pNums_5n p2.symm, rfl⟩
theorem rl_5n {z0 : Nat} {w0 : Option Nat} {x0 : TO} (h0 : NumR T k 0 999999 x none w0 z0 x0) (h : w0 = none) : pNum T k 0 999999 x = (some z0, x0) := by
  rcases h0 with ⟨p1, p2⟩ | ⟨p1, p2⟩
  · exact p2
  · rw [p1] at h; cases h
theorem rl_5b {z0 : Nat} {w0 : Option Nat} {x0 : TO} (h0 : NumR T k 0 999999 x none w0 z0 x0) (h : w0 = none) (hc : CmpR T k x0 wA cm xA) {v : Nat} (h1 : wA = some v) : BadR T k 5 x v := by
  obtain ⟨a, b⟩ := rl_c1 hc h1
  exact ⟨_, _, _, _, pNums_5 (rl_5n h0 h).symm a.symm, b⟩
theorem rl_5c {z0 : Nat} {w0 : Option Nat} {x0 : TO} (h0 : NumR T k 0 999999 x none w0 z0 x0) (h : w0 = none) (hc : CmpR T k x0 wA cm xA) (h1 : wA = none) (hn : NumR T k 0 999999 xA none wB z xB) : (wB = none → pNums T k 5 x = (true, cm, some z, some z0, xB)) ∧ ∀ v, wB = some v → BadR T k 5 x v := by
  obtain ⟨a, b⟩ := rl_c2 hc h1 hn
  exact ⟨fun q => pNums_5 (rl_5n h0 h).symm (a q).symm, fun v q => ⟨_, _, _, _, pNums_5 (rl_5n h0 h).symm (b v q).1.symm, (b v q).2⟩⟩
end RUL
/-- what rule does -/
def RuleR (T : Nat → Nat) (k ki : Nat) (x : TO) (wr2 : Option Nat) (x2 : TO) (nr op bg : Nat) (OW OF OS KI LI AR WH FI SE : Nat → Nat) (CO NU CN : Nat → Option Nat) (nr2 op2 : Nat) (KI2 LI2 AR2 WH2 FI2 SE2 : Nat → Nat) (CO2 NU2 CN2 : Nat → Option Nat) : Prop :=
  (∃ cm nu wt, pNums T k ki x = (true, cm, nu, wt, x2) ∧ wr2 = none ∧ nr2 = nr + 1 ∧ op2 = closeN OW op ∧ KI2 = up KI nr ki ∧ CO2 = up CO nr cm ∧ NU2 = up NU nr nu ∧ CN2 = up CN nr wt ∧ LI2 = up LI nr bg ∧ AR2 nr = (layM OW OF OS op).length ∧ (∀ i, i ≠ nr → AR2 i = AR i) ∧ LayM (layM OW OF OS op) (40 * nr) WH FI SE WH2 FI2 SE2) ∨
  (∃ v, wr2 = some v ∧ BadR T k ki x v ∧ nr2 = nr ∧ op2 = op ∧ KI2 = KI ∧ LI2 = LI ∧ AR2 = AR ∧ WH2 = WH ∧ FI2 = FI ∧ SE2 = SE ∧ CO2 = CO ∧ NU2 = NU ∧ CN2 = CN)

set_option maxRecDepth 100000 in
theorem fi_Mo_184 : FI R_Mo 184 R_Mo F_Mo 9 := Or.inl (gw (i := 909) rfl rfl)
set_option maxRecDepth 100000 in
theorem fi_Mo_22 : FI R_Mo 22 R_Mo F_Mo 10 := Or.inl (gw (i := 910) rfl rfl)
set_option maxRecDepth 100000 in
theorem fi_Mo_25 : FI R_Mo 25 R_Mo F_Mo 11 := Or.inl (gw (i := 911) rfl rfl)
set_option maxRecDepth 100000 in
theorem fi_Mo_28 : FI R_Mo 28 R_Mo F_Mo 12 := Or.inl (gw (i := 912) rfl rfl)
set_option maxRecDepth 100000 in
theorem fi_Mo_31 : FI R_Mo 31 R_Mo F_Mo 13 := Or.inl (gw (i := 913) rfl rfl)
set_option maxRecDepth 100000 in
theorem fi_Mo_34 : FI R_Mo 34 R_Mo F_Mo 14 := Or.inl (gw (i := 914) rfl rfl)
set_option maxRecDepth 100000 in
theorem fi_Mo_37 : FI R_Mo 37 R_Mo F_Mo 15 := Or.inl (gw (i := 915) rfl rfl)
set_option maxRecDepth 100000 in
theorem fi_Mo_40 : FI R_Mo 40 R_Mo F_Mo 16 := Or.inl (gw (i := 916) rfl rfl)
set_option maxRecDepth 100000 in
theorem fi_Mo_43 : FI R_Mo 43 R_Mo F_Mo 17 := Or.inl (gw (i := 917) rfl rfl)
set_option maxRecDepth 100000 in
theorem fi_Mo_46 : FI R_Mo 46 R_Mo F_Mo 18 := Or.inl (gw (i := 918) rfl rfl)
set_option maxRecDepth 100000 in
theorem k_Mo_180 : Cond.constant R_Mo 180 (nI 999999) ∈ GW := (gw (i := 1138) rfl rfl)
set_option maxRecDepth 100000 in
theorem lk_Mo_181 : LK R_Mo 181 y_Mo_comparison := Or.inl (gw (i := 1139) rfl rfl)
set_option maxRecDepth 100000 in
theorem lk_Mo_187 : LK R_Mo 187 y_Mo_close := Or.inl (gw (i := 1071) rfl rfl)
set_option maxRecDepth 100000 in
theorem mw_Mo_close : MW y_Mo_close b_Mo_close 1 none 0 := ⟨(gw (i := 1074) rfl rfl), (gw (i := 80) rfl rfl), by decide +kernel⟩
set_option maxRecDepth 100000 in
theorem mw_Mo_comparison : MW y_Mo_comparison b_Mo_comparison 2 (some .int) 0 := ⟨(gw (i := 1142) rfl rfl), (gw (i := 80) rfl rfl), by decide +kernel⟩
set_option maxRecDepth 100000 in
theorem vw_Mo_close : VW y_Mo_close := ⟨(gw (i := 1073) rfl rfl), (gw (i := 41) rfl rfl)⟩
set_option maxRecDepth 100000 in
theorem vw_Mo_comparison : VW y_Mo_comparison := ⟨(gw (i := 1141) rfl rfl), (gw (i := 57) rfl rfl)⟩
theorem d_Mo_rule_0 : decode b_Mo_rule 0 = .ok (.aload_n 0, 1) := by decide +kernel
theorem d_Mo_rule_1 : decode b_Mo_rule 1 = .ok (.getfield 106, 3) := by decide +kernel
theorem d_Mo_rule_4 : decode b_Mo_rule 4 = .ok (.istore_n 2, 1) := by decide +kernel
theorem d_Mo_rule_5 : decode b_Mo_rule 5 = .ok (.iload_n 1, 1) := by decide +kernel
theorem d_Mo_rule_6 : decode b_Mo_rule 6 = .ok (.iconst 5, 1) := by decide +kernel
theorem d_Mo_rule_7 : decode b_Mo_rule 7 = .ok (.if_icmp .ne 13, 3) := by decide +kernel
theorem d_Mo_rule_10 : decode b_Mo_rule 10 = .ok (.aload_n 0, 1) := by decide +kernel
theorem d_Mo_rule_11 : decode b_Mo_rule 11 = .ok (.iconst 0, 1) := by decide +kernel
theorem d_Mo_rule_12 : decode b_Mo_rule 12 = .ok (.ldc 180, 2) := by decide +kernel
theorem d_Mo_rule_14 : decode b_Mo_rule 14 = .ok (.invokevirtual 169, 3) := by decide +kernel
theorem d_Mo_rule_17 : decode b_Mo_rule 17 = .ok (.goto 4, 3) := by decide +kernel
theorem d_Mo_rule_20 : decode b_Mo_rule 20 = .ok (.iconst (-1), 1) := by decide +kernel
theorem d_Mo_rule_21 : decode b_Mo_rule 21 = .ok (.istore_n 3, 1) := by decide +kernel
theorem d_Mo_rule_22 : decode b_Mo_rule 22 = .ok (.aload_n 0, 1) := by decide +kernel
theorem d_Mo_rule_23 : decode b_Mo_rule 23 = .ok (.getfield 94, 3) := by decide +kernel
theorem d_Mo_rule_26 : decode b_Mo_rule 26 = .ok (.ifCond .ge 20, 3) := by decide +kernel
theorem d_Mo_rule_29 : decode b_Mo_rule 29 = .ok (.iload_n 1, 1) := by decide +kernel
theorem d_Mo_rule_30 : decode b_Mo_rule 30 = .ok (.iconst 4, 1) := by decide +kernel
theorem d_Mo_rule_31 : decode b_Mo_rule 31 = .ok (.if_icmp .eq 8, 3) := by decide +kernel
theorem d_Mo_rule_34 : decode b_Mo_rule 34 = .ok (.iload_n 1, 1) := by decide +kernel
theorem d_Mo_rule_35 : decode b_Mo_rule 35 = .ok (.iconst 5, 1) := by decide +kernel
theorem d_Mo_rule_36 : decode b_Mo_rule 36 = .ok (.if_icmp .ne 10, 3) := by decide +kernel
theorem d_Mo_rule_39 : decode b_Mo_rule 39 = .ok (.aload_n 0, 1) := by decide +kernel
theorem d_Mo_rule_40 : decode b_Mo_rule 40 = .ok (.invokevirtual 181, 3) := by decide +kernel
theorem d_Mo_rule_43 : decode b_Mo_rule 43 = .ok (.goto 4, 3) := by decide +kernel
theorem d_Mo_rule_46 : decode b_Mo_rule 46 = .ok (.iconst (-1), 1) := by decide +kernel
theorem d_Mo_rule_47 : decode b_Mo_rule 47 = .ok (.istore 4, 2) := by decide +kernel
theorem d_Mo_rule_49 : decode b_Mo_rule 49 = .ok (.aload_n 0, 1) := by decide +kernel
theorem d_Mo_rule_50 : decode b_Mo_rule 50 = .ok (.getfield 94, 3) := by decide +kernel
theorem d_Mo_rule_53 : decode b_Mo_rule 53 = .ok (.ifCond .ge 34, 3) := by decide +kernel
theorem d_Mo_rule_56 : decode b_Mo_rule 56 = .ok (.iload_n 1, 1) := by decide +kernel
theorem d_Mo_rule_57 : decode b_Mo_rule 57 = .ok (.iconst 3, 1) := by decide +kernel
theorem d_Mo_rule_58 : decode b_Mo_rule 58 = .ok (.if_icmp .le 29, 3) := by decide +kernel
theorem d_Mo_rule_61 : decode b_Mo_rule 61 = .ok (.iload_n 1, 1) := by decide +kernel
theorem d_Mo_rule_62 : decode b_Mo_rule 62 = .ok (.bipush 6, 2) := by decide +kernel
theorem d_Mo_rule_64 : decode b_Mo_rule 64 = .ok (.if_icmp .ne 13, 3) := by decide +kernel
theorem d_Mo_rule_67 : decode b_Mo_rule 67 = .ok (.aload_n 0, 1) := by decide +kernel
theorem d_Mo_rule_68 : decode b_Mo_rule 68 = .ok (.iconst 0, 1) := by decide +kernel
theorem d_Mo_rule_69 : decode b_Mo_rule 69 = .ok (.bipush 9, 2) := by decide +kernel
theorem d_Mo_rule_71 : decode b_Mo_rule 71 = .ok (.invokevirtual 169, 3) := by decide +kernel
theorem d_Mo_rule_74 : decode b_Mo_rule 74 = .ok (.goto 14, 3) := by decide +kernel
theorem d_Mo_rule_77 : decode b_Mo_rule 77 = .ok (.aload_n 0, 1) := by decide +kernel
theorem d_Mo_rule_78 : decode b_Mo_rule 78 = .ok (.iconst 0, 1) := by decide +kernel
theorem d_Mo_rule_79 : decode b_Mo_rule 79 = .ok (.ldc 180, 2) := by decide +kernel
theorem d_Mo_rule_81 : decode b_Mo_rule 81 = .ok (.invokevirtual 169, 3) := by decide +kernel
theorem d_Mo_rule_84 : decode b_Mo_rule 84 = .ok (.goto 4, 3) := by decide +kernel
theorem d_Mo_rule_87 : decode b_Mo_rule 87 = .ok (.iconst (-1), 1) := by decide +kernel
theorem d_Mo_rule_88 : decode b_Mo_rule 88 = .ok (.istore 5, 2) := by decide +kernel
theorem d_Mo_rule_90 : decode b_Mo_rule 90 = .ok (.aload_n 0, 1) := by decide +kernel
theorem d_Mo_rule_91 : decode b_Mo_rule 91 = .ok (.getfield 94, 3) := by decide +kernel
theorem d_Mo_rule_94 : decode b_Mo_rule 94 = .ok (.ifCond .lt 4, 3) := by decide +kernel
theorem d_Mo_rule_97 : decode b_Mo_rule 97 = .ok (.return_, 1) := by decide +kernel
theorem d_Mo_rule_98 : decode b_Mo_rule 98 = .ok (.aload_n 0, 1) := by decide +kernel
theorem d_Mo_rule_99 : decode b_Mo_rule 99 = .ok (.getfield 22, 3) := by decide +kernel
theorem d_Mo_rule_102 : decode b_Mo_rule 102 = .ok (.aload_n 0, 1) := by decide +kernel
theorem d_Mo_rule_103 : decode b_Mo_rule 103 = .ok (.getfield 184, 3) := by decide +kernel
theorem d_Mo_rule_106 : decode b_Mo_rule 106 = .ok (.iload_n 1, 1) := by decide +kernel
theorem d_Mo_rule_107 : decode b_Mo_rule 107 = .ok (.iastore, 1) := by decide +kernel
theorem d_Mo_rule_108 : decode b_Mo_rule 108 = .ok (.aload_n 0, 1) := by decide +kernel
theorem d_Mo_rule_109 : decode b_Mo_rule 109 = .ok (.getfield 25, 3) := by decide +kernel
theorem d_Mo_rule_112 : decode b_Mo_rule 112 = .ok (.aload_n 0, 1) := by decide +kernel
theorem d_Mo_rule_113 : decode b_Mo_rule 113 = .ok (.getfield 184, 3) := by decide +kernel
theorem d_Mo_rule_116 : decode b_Mo_rule 116 = .ok (.iload 4, 2) := by decide +kernel
theorem d_Mo_rule_118 : decode b_Mo_rule 118 = .ok (.iastore, 1) := by decide +kernel
theorem d_Mo_rule_119 : decode b_Mo_rule 119 = .ok (.aload_n 0, 1) := by decide +kernel
theorem d_Mo_rule_120 : decode b_Mo_rule 120 = .ok (.getfield 28, 3) := by decide +kernel
theorem d_Mo_rule_123 : decode b_Mo_rule 123 = .ok (.aload_n 0, 1) := by decide +kernel
theorem d_Mo_rule_124 : decode b_Mo_rule 124 = .ok (.getfield 184, 3) := by decide +kernel
theorem d_Mo_rule_127 : decode b_Mo_rule 127 = .ok (.iload 5, 2) := by decide +kernel
theorem d_Mo_rule_129 : decode b_Mo_rule 129 = .ok (.iastore, 1) := by decide +kernel
theorem d_Mo_rule_130 : decode b_Mo_rule 130 = .ok (.aload_n 0, 1) := by decide +kernel
theorem d_Mo_rule_131 : decode b_Mo_rule 131 = .ok (.getfield 31, 3) := by decide +kernel
theorem d_Mo_rule_134 : decode b_Mo_rule 134 = .ok (.aload_n 0, 1) := by decide +kernel
theorem d_Mo_rule_135 : decode b_Mo_rule 135 = .ok (.getfield 184, 3) := by decide +kernel
theorem d_Mo_rule_138 : decode b_Mo_rule 138 = .ok (.iload_n 3, 1) := by decide +kernel
theorem d_Mo_rule_139 : decode b_Mo_rule 139 = .ok (.iastore, 1) := by decide +kernel
theorem d_Mo_rule_140 : decode b_Mo_rule 140 = .ok (.aload_n 0, 1) := by decide +kernel
theorem d_Mo_rule_141 : decode b_Mo_rule 141 = .ok (.getfield 34, 3) := by decide +kernel
theorem d_Mo_rule_144 : decode b_Mo_rule 144 = .ok (.aload_n 0, 1) := by decide +kernel
theorem d_Mo_rule_145 : decode b_Mo_rule 145 = .ok (.getfield 184, 3) := by decide +kernel
theorem d_Mo_rule_148 : decode b_Mo_rule 148 = .ok (.iload_n 2, 1) := by decide +kernel
theorem d_Mo_rule_149 : decode b_Mo_rule 149 = .ok (.iastore, 1) := by decide +kernel
theorem d_Mo_rule_150 : decode b_Mo_rule 150 = .ok (.aload_n 0, 1) := by decide +kernel
theorem d_Mo_rule_151 : decode b_Mo_rule 151 = .ok (.getfield 37, 3) := by decide +kernel
theorem d_Mo_rule_154 : decode b_Mo_rule 154 = .ok (.aload_n 0, 1) := by decide +kernel
theorem d_Mo_rule_155 : decode b_Mo_rule 155 = .ok (.getfield 184, 3) := by decide +kernel
theorem d_Mo_rule_158 : decode b_Mo_rule 158 = .ok (.iconst 0, 1) := by decide +kernel
theorem d_Mo_rule_159 : decode b_Mo_rule 159 = .ok (.iastore, 1) := by decide +kernel
theorem d_Mo_rule_160 : decode b_Mo_rule 160 = .ok (.iconst 0, 1) := by decide +kernel
theorem d_Mo_rule_161 : decode b_Mo_rule 161 = .ok (.istore 6, 2) := by decide +kernel
theorem d_Mo_rule_163 : decode b_Mo_rule 163 = .ok (.iload 6, 2) := by decide +kernel
theorem d_Mo_rule_165 : decode b_Mo_rule 165 = .ok (.aload_n 0, 1) := by decide +kernel
theorem d_Mo_rule_166 : decode b_Mo_rule 166 = .ok (.getfield 159, 3) := by decide +kernel
theorem d_Mo_rule_169 : decode b_Mo_rule 169 = .ok (.if_icmp .ge 96, 3) := by decide +kernel
theorem d_Mo_rule_172 : decode b_Mo_rule 172 = .ok (.aload_n 0, 1) := by decide +kernel
theorem d_Mo_rule_173 : decode b_Mo_rule 173 = .ok (.getfield 49, 3) := by decide +kernel
theorem d_Mo_rule_176 : decode b_Mo_rule 176 = .ok (.iload 6, 2) := by decide +kernel
theorem d_Mo_rule_178 : decode b_Mo_rule 178 = .ok (.iaload, 1) := by decide +kernel
theorem d_Mo_rule_179 : decode b_Mo_rule 179 = .ok (.ifCond .ne 6, 3) := by decide +kernel
theorem d_Mo_rule_182 : decode b_Mo_rule 182 = .ok (.goto 77, 3) := by decide +kernel
theorem d_Mo_rule_185 : decode b_Mo_rule 185 = .ok (.bipush 40, 2) := by decide +kernel
theorem d_Mo_rule_187 : decode b_Mo_rule 187 = .ok (.aload_n 0, 1) := by decide +kernel
theorem d_Mo_rule_188 : decode b_Mo_rule 188 = .ok (.getfield 184, 3) := by decide +kernel
theorem d_Mo_rule_191 : decode b_Mo_rule 191 = .ok (.imul, 1) := by decide +kernel
theorem d_Mo_rule_192 : decode b_Mo_rule 192 = .ok (.aload_n 0, 1) := by decide +kernel
theorem d_Mo_rule_193 : decode b_Mo_rule 193 = .ok (.getfield 37, 3) := by decide +kernel
theorem d_Mo_rule_196 : decode b_Mo_rule 196 = .ok (.aload_n 0, 1) := by decide +kernel
theorem d_Mo_rule_197 : decode b_Mo_rule 197 = .ok (.getfield 184, 3) := by decide +kernel
theorem d_Mo_rule_200 : decode b_Mo_rule 200 = .ok (.iaload, 1) := by decide +kernel
theorem d_Mo_rule_201 : decode b_Mo_rule 201 = .ok (.iadd, 1) := by decide +kernel
theorem d_Mo_rule_202 : decode b_Mo_rule 202 = .ok (.istore 7, 2) := by decide +kernel
theorem d_Mo_rule_204 : decode b_Mo_rule 204 = .ok (.aload_n 0, 1) := by decide +kernel
theorem d_Mo_rule_205 : decode b_Mo_rule 205 = .ok (.getfield 40, 3) := by decide +kernel
theorem d_Mo_rule_208 : decode b_Mo_rule 208 = .ok (.iload 7, 2) := by decide +kernel
theorem d_Mo_rule_210 : decode b_Mo_rule 210 = .ok (.aload_n 0, 1) := by decide +kernel
theorem d_Mo_rule_211 : decode b_Mo_rule 211 = .ok (.getfield 49, 3) := by decide +kernel
theorem d_Mo_rule_214 : decode b_Mo_rule 214 = .ok (.iload 6, 2) := by decide +kernel
theorem d_Mo_rule_216 : decode b_Mo_rule 216 = .ok (.iaload, 1) := by decide +kernel
theorem d_Mo_rule_217 : decode b_Mo_rule 217 = .ok (.iastore, 1) := by decide +kernel
theorem d_Mo_rule_218 : decode b_Mo_rule 218 = .ok (.aload_n 0, 1) := by decide +kernel
theorem d_Mo_rule_219 : decode b_Mo_rule 219 = .ok (.getfield 43, 3) := by decide +kernel
theorem d_Mo_rule_222 : decode b_Mo_rule 222 = .ok (.iload 7, 2) := by decide +kernel
theorem d_Mo_rule_224 : decode b_Mo_rule 224 = .ok (.aload_n 0, 1) := by decide +kernel
theorem d_Mo_rule_225 : decode b_Mo_rule 225 = .ok (.getfield 52, 3) := by decide +kernel
theorem d_Mo_rule_228 : decode b_Mo_rule 228 = .ok (.iload 6, 2) := by decide +kernel
theorem d_Mo_rule_230 : decode b_Mo_rule 230 = .ok (.iaload, 1) := by decide +kernel
theorem d_Mo_rule_231 : decode b_Mo_rule 231 = .ok (.iastore, 1) := by decide +kernel
theorem d_Mo_rule_232 : decode b_Mo_rule 232 = .ok (.aload_n 0, 1) := by decide +kernel
theorem d_Mo_rule_233 : decode b_Mo_rule 233 = .ok (.getfield 46, 3) := by decide +kernel
theorem d_Mo_rule_236 : decode b_Mo_rule 236 = .ok (.iload 7, 2) := by decide +kernel
theorem d_Mo_rule_238 : decode b_Mo_rule 238 = .ok (.aload_n 0, 1) := by decide +kernel
theorem d_Mo_rule_239 : decode b_Mo_rule 239 = .ok (.getfield 55, 3) := by decide +kernel
theorem d_Mo_rule_242 : decode b_Mo_rule 242 = .ok (.iload 6, 2) := by decide +kernel
theorem d_Mo_rule_244 : decode b_Mo_rule 244 = .ok (.iaload, 1) := by decide +kernel
theorem d_Mo_rule_245 : decode b_Mo_rule 245 = .ok (.iastore, 1) := by decide +kernel
theorem d_Mo_rule_246 : decode b_Mo_rule 246 = .ok (.aload_n 0, 1) := by decide +kernel
theorem d_Mo_rule_247 : decode b_Mo_rule 247 = .ok (.getfield 37, 3) := by decide +kernel
theorem d_Mo_rule_250 : decode b_Mo_rule 250 = .ok (.aload_n 0, 1) := by decide +kernel
theorem d_Mo_rule_251 : decode b_Mo_rule 251 = .ok (.getfield 184, 3) := by decide +kernel
theorem d_Mo_rule_254 : decode b_Mo_rule 254 = .ok (.dup2, 1) := by decide +kernel
theorem d_Mo_rule_255 : decode b_Mo_rule 255 = .ok (.iaload, 1) := by decide +kernel
theorem d_Mo_rule_256 : decode b_Mo_rule 256 = .ok (.iconst 1, 1) := by decide +kernel
theorem d_Mo_rule_257 : decode b_Mo_rule 257 = .ok (.iadd, 1) := by decide +kernel
theorem d_Mo_rule_258 : decode b_Mo_rule 258 = .ok (.iastore, 1) := by decide +kernel
theorem d_Mo_rule_259 : decode b_Mo_rule 259 = .ok (.iinc 6 1, 3) := by decide +kernel
theorem d_Mo_rule_262 : decode b_Mo_rule 262 = .ok (.goto (-99), 3) := by decide +kernel
theorem d_Mo_rule_265 : decode b_Mo_rule 265 = .ok (.aload_n 0, 1) := by decide +kernel
theorem d_Mo_rule_266 : decode b_Mo_rule 266 = .ok (.dup, 1) := by decide +kernel
theorem d_Mo_rule_267 : decode b_Mo_rule 267 = .ok (.getfield 184, 3) := by decide +kernel
theorem d_Mo_rule_270 : decode b_Mo_rule 270 = .ok (.iconst 1, 1) := by decide +kernel
theorem d_Mo_rule_271 : decode b_Mo_rule 271 = .ok (.iadd, 1) := by decide +kernel
theorem d_Mo_rule_272 : decode b_Mo_rule 272 = .ok (.putfield 184, 3) := by decide +kernel
theorem d_Mo_rule_275 : decode b_Mo_rule 275 = .ok (.aload_n 0, 1) := by decide +kernel
theorem d_Mo_rule_276 : decode b_Mo_rule 276 = .ok (.invokevirtual 187, 3) := by decide +kernel
theorem d_Mo_rule_279 : decode b_Mo_rule 279 = .ok (.return_, 1) := by decide +kernel
set_option maxHeartbeats 4000000 in
set_option maxRecDepth 100000 in
theorem lp_Mo_rule_163 (g : GG) {m0 : Nat} {ad : Nat → Nat} {qth : Int32} {qde : Int32} {qwi : Int32} {qhe : Int32} {qrw : Int32} {qma : Int32} {qir : Bool} {qiu : Bool} {k : Nat} {so : Nat} {e : Nat} {tn : Nat} {op : Nat} {nr : Nat} {bg : Nat} {ki : Nat} {qe : Int32} {qva : Int32} {T : Nat → Nat} {BE : Nat → Nat} {EN : Nat → Nat} {OW : Nat → Nat} {OF : Nat → Nat} {OS : Nat → Nat} {KI : Nat → Nat} {LI : Nat → Nat} {AR : Nat → Nat} {WH : Nat → Nat} {FI : Nat → Nat} {SE : Nat → Nat} {CO : Nat → Option Nat} {NU : Nat → Option Nat} {CN : Nat → Option Nat} (hk : k ≤ 2000) (hT : ∀ j, T j < 256) (hri : RI T k so e tn qe none BE EN) (hop : op ≤ 40) (hnr : nr < 500) (hki : ki ≤ 6) (hOW : ∀ j, OW j < 2 ^ 31) {x : X0} {A : Nat → Prop} {Q : State → Prop}  (C : CX x g A R_Mo b_Mo_rule 8) (E : RX x g A Q none (fun (r0 : Option Value) (w0 : va_W) => ∃ so2 : Nat, ∃ e2 : Nat, ∃ tn2 : Nat, ∃ nr2 : Nat, ∃ op2 : Nat, ∃ qe2 : Int32, ∃ qb2 : Int32, ∃ qv2 : Int32, ∃ wr2 : Option Nat, ∃ BE2 : Nat → Nat, ∃ EN2 : Nat → Nat, ∃ KI2 : Nat → Nat, ∃ LI2 : Nat → Nat, ∃ AR2 : Nat → Nat, ∃ WH2 : Nat → Nat, ∃ FI2 : Nat → Nat, ∃ SE2 : Nat → Nat, ∃ CO2 : Nat → Option Nat, ∃ NU2 : Nat → Option Nat, ∃ CN2 : Nat → Option Nat, r0 = none ∧ w0 = [(m0, .inr (9, MO ad qth (nI k) (bI qir) (nI tn2) qde (nI nr2) (nI e2) qe2 (nI so2) qb2 qv2 (oI wr2) (nI op2) (bI qiu) qwi qhe qrw qma)), ((ad 2), .inl (g.2.1 0, 2000, .inl (aI T))), ((ad 6), .inl (g.2.1 0, 2000, .inl (aI BE2))), ((ad 7), .inl (g.2.1 0, 2000, .inl (aI EN2))), ((ad 10), .inl (g.2.1 0, 500, .inl (aI KI2))), ((ad 11), .inl (g.2.1 0, 500, .inl (oA CO2))), ((ad 12), .inl (g.2.1 0, 500, .inl (oA NU2))), ((ad 13), .inl (g.2.1 0, 500, .inl (oA CN2))), ((ad 14), .inl (g.2.1 0, 500, .inl (aI LI2))), ((ad 15), .inl (g.2.1 0, 500, .inl (aI AR2))), ((ad 16), .inl (g.2.1 0, 20000, .inl (aI WH2))), ((ad 17), .inl (g.2.1 0, 20000, .inl (aI FI2))), ((ad 18), .inl (g.2.1 0, 20000, .inl (aI SE2))), ((ad 26), .inl (g.2.1 0, 40, .inl (aI OW))), ((ad 27), .inl (g.2.1 0, 40, .inl (aI OF))), ((ad 28), .inl (g.2.1 0, 40, .inl (aI OS)))] ∧ (RI T k so2 e2 tn2 qe2 wr2 BE2 EN2) ∧ (RuleR T k ki (xOf T k so e BE EN tn) wr2 (xOf T k so2 e2 BE2 EN2 tn2) nr op bg OW OF OS KI LI AR WH FI SE CO NU CN nr2 op2 KI2 LI2 AR2 WH2 FI2 SE2 CO2 NU2 CN2)) (rmk 3 0 0 65).cells (rmk 3 0 0 65).slots) (hR : xR x = (rmk 3 0 0 65)) : ∀ (fuel : Nat) (q : Nat) (c : Nat) (so3 : Nat) (e3 : Nat) (tn3 : Nat) (qe3 : Int32) (qb3 : Int32) (qv3 : Int32) (BE3 : Nat → Nat) (EN3 : Nat → Nat) (cm : Option Nat) (nu : Option Nat) (wt : Option Nat) (wn : Option Nat) (ARc : Nat → Nat) (WHc : Nat → Nat) (FIc : Nat → Nat) (SEc : Nat → Nat) (hwn : wn = none) (hri3 : RI T k so3 e3 tn3 qe3 wn BE3 EN3) (hP : pNums T k ki (xOf T k so e BE EN tn) = (true, cm, nu, wt, (xOf T k so3 e3 BE3 EN3 tn3))) (hq : q ≤ op) (hc : (layM OW OF OS q).length = c) (hcq : c ≤ q) (ha : ARc nr = c) (hf : ∀ i, i ≠ nr → ARc i = AR i) (hL : LayM (layM OW OF OS q) (40 * nr) WH FI SE WHc FIc SEc), op - q < fuel → J x g A Q 8 ([(m0, .inr (9, MO ad qth (nI k) (bI qir) (nI tn3) qde (nI nr) (nI e3) qe3 (nI so3) qb3 qv3 (oI wn) (nI op) (bI qiu) qwi qhe qrw qma)), ((ad 2), .inl (g.2.1 0, 2000, .inl (aI T))), ((ad 6), .inl (g.2.1 0, 2000, .inl (aI BE3))), ((ad 7), .inl (g.2.1 0, 2000, .inl (aI EN3))), ((ad 10), .inl (g.2.1 0, 500, .inl (aI (up KI nr ki)))), ((ad 11), .inl (g.2.1 0, 500, .inl (oA (up CO nr cm)))), ((ad 12), .inl (g.2.1 0, 500, .inl (oA (up NU nr nu)))), ((ad 13), .inl (g.2.1 0, 500, .inl (oA (up CN nr wt)))), ((ad 14), .inl (g.2.1 0, 500, .inl (aI (up LI nr bg)))), ((ad 15), .inl (g.2.1 0, 500, .inl (aI ARc))), ((ad 16), .inl (g.2.1 0, 20000, .inl (aI WHc))), ((ad 17), .inl (g.2.1 0, 20000, .inl (aI FIc))), ((ad 18), .inl (g.2.1 0, 20000, .inl (aI SEc))), ((ad 26), .inl (g.2.1 0, 40, .inl (aI OW))), ((ad 27), .inl (g.2.1 0, 40, .inl (aI OF))), ((ad 28), .inl (g.2.1 0, 40, .inl (aI OS)))]) [(0, .ref m0), (1, .int (nI ki)), (2, .int (nI bg)), (3, .int (oI wt)), (4, .int (oI cm)), (5, .int (oI nu)), (6, .int (nI q))] 163 [] 0 0 := by
  intro fuel
  induction fuel with
  | zero =>
    intro q c so3 e3 tn3 qe3 qb3 qv3 BE3 EN3 cm nu wt wn ARc WHc FIc SEc hwn hri3 hP hq hc hcq ha hf hL hm
    exact absurd hm (Nat.not_lt_zero _)
  | succ fuel ih =>
    intro q c so3 e3 tn3 qe3 qb3 qv3 BE3 EN3 cm nu wt wn ARc WHc FIc SEc hwn hri3 hP hq hc hcq ha hf hL hm
    refine r_iload C 6 d_Mo_rule_163 rfl ?_
    refine r_aload_n C 0 d_Mo_rule_165 rfl rfl ?_
    refine r_get C 0 25 d_Mo_rule_166 ci_Mo fi_Mo_159 rfl (by decide) rfl rfl ?_
    refine r_ncmp_ge C 265 d_Mo_rule_169 (by decide) (by omega) (by omega) (fun c_169 => ?_) (fun c_169 => ?_)
    · skip
      refine r_aload_n C 0 d_Mo_rule_265 rfl rfl ?_
      refine r_dup C d_Mo_rule_266 rfl ?_
      refine r_get C 0 9 d_Mo_rule_267 ci_Mo fi_Mo_184 rfl (by decide) rfl rfl ?_
      refine r_iconst C (nI 1) d_Mo_rule_270 (by decide) ?_
      refine r_nadd C d_Mo_rule_271 ?_
      refine r_put C (ws' := [(m0, .inr (9, MO ad qth (nI k) (bI qir) (nI tn3) qde (nI (nr + 1)) (nI e3) qe3 (nI so3) qb3 qv3 (oI wn) (nI op) (bI qiu) qwi qhe qrw qma)), ((ad 2), .inl (g.2.1 0, 2000, .inl (aI T))), ((ad 6), .inl (g.2.1 0, 2000, .inl (aI BE3))), ((ad 7), .inl (g.2.1 0, 2000, .inl (aI EN3))), ((ad 10), .inl (g.2.1 0, 500, .inl (aI (up KI nr ki)))), ((ad 11), .inl (g.2.1 0, 500, .inl (oA (up CO nr cm)))), ((ad 12), .inl (g.2.1 0, 500, .inl (oA (up NU nr nu)))), ((ad 13), .inl (g.2.1 0, 500, .inl (oA (up CN nr wt)))), ((ad 14), .inl (g.2.1 0, 500, .inl (aI (up LI nr bg)))), ((ad 15), .inl (g.2.1 0, 500, .inl (aI ARc))), ((ad 16), .inl (g.2.1 0, 20000, .inl (aI WHc))), ((ad 17), .inl (g.2.1 0, 20000, .inl (aI FIc))), ((ad 18), .inl (g.2.1 0, 20000, .inl (aI SEc))), ((ad 26), .inl (g.2.1 0, 40, .inl (aI OW))), ((ad 27), .inl (g.2.1 0, 40, .inl (aI OF))), ((ad 28), .inl (g.2.1 0, 40, .inl (aI OS)))]) 0 9 d_Mo_rule_272 ci_Mo fi_Mo_184 rfl (by decide) rfl rfl (rfl) (rfl) (by simp) rfl ?_
      refine r_aload_n C 0 d_Mo_rule_275 rfl rfl ?_
      refine j_callV C (c_Mo_close g (xl x) (m0 := m0) (ad := ad) (qth := qth) (qsz := nI k) (qtk := nI tn3) (qde := qde) (qru := nI (nr + 1)) (qat := nI e3) (qen := qe3) (qto := nI so3) (qbe := qb3) (qva := qv3) (qwr := oI wn) (qwi := qwi) (qhe := qhe) (qrw := qrw) (qma := qma) (qir := qir) (qiu := qiu) (op := op) (OW := OW) (by first | assumption | omega | rfl) (by first | assumption | omega | rfl)) (Sp.of (wr := [((ad 2), .inl (g.2.1 0, 2000, .inl (aI T))), ((ad 6), .inl (g.2.1 0, 2000, .inl (aI BE3))), ((ad 7), .inl (g.2.1 0, 2000, .inl (aI EN3))), ((ad 10), .inl (g.2.1 0, 500, .inl (aI (up KI nr ki)))), ((ad 11), .inl (g.2.1 0, 500, .inl (oA (up CO nr cm)))), ((ad 12), .inl (g.2.1 0, 500, .inl (oA (up NU nr nu)))), ((ad 13), .inl (g.2.1 0, 500, .inl (oA (up CN nr wt)))), ((ad 14), .inl (g.2.1 0, 500, .inl (aI (up LI nr bg)))), ((ad 15), .inl (g.2.1 0, 500, .inl (aI ARc))), ((ad 16), .inl (g.2.1 0, 20000, .inl (aI WHc))), ((ad 17), .inl (g.2.1 0, 20000, .inl (aI FIc))), ((ad 18), .inl (g.2.1 0, 20000, .inl (aI SEc))), ((ad 27), .inl (g.2.1 0, 40, .inl (aI OF))), ((ad 28), .inl (g.2.1 0, 40, .inl (aI OS)))]) [0, 13] [1, 2, 3, 4, 5, 6, 7, 8, 9, 10, 11, 12, 14, 15] rfl rfl rfl rfl (by decide)) d_Mo_rule_276 lk_Mo_187 mw_Mo_close vw_Mo_close (q0 := 0) rfl rfl (fit_of hR (by first | decide | (simp only [rmk]; omega)) (by first | decide | (simp only [rmk]; omega)) (by first | decide | (simp only [rmk]; omega)) (by first | decide | (simp only [rmk]; omega))) rfl (cat8 (Nat.le_of_ble_eq_true rfl)) (As := []) (rest := []) rfl (fun r_276 w_276 hp_276 => ?_)
      obtain ⟨rfl, rfl⟩ := hp_276
      refine r_after (ws' := [(m0, .inr (9, MO ad qth (nI k) (bI qir) (nI tn3) qde (nI (nr + 1)) (nI e3) qe3 (nI so3) qb3 qv3 (oI wn) (nI (closeN OW op)) (bI qiu) qwi qhe qrw qma)), ((ad 2), .inl (g.2.1 0, 2000, .inl (aI T))), ((ad 6), .inl (g.2.1 0, 2000, .inl (aI BE3))), ((ad 7), .inl (g.2.1 0, 2000, .inl (aI EN3))), ((ad 10), .inl (g.2.1 0, 500, .inl (aI (up KI nr ki)))), ((ad 11), .inl (g.2.1 0, 500, .inl (oA (up CO nr cm)))), ((ad 12), .inl (g.2.1 0, 500, .inl (oA (up NU nr nu)))), ((ad 13), .inl (g.2.1 0, 500, .inl (oA (up CN nr wt)))), ((ad 14), .inl (g.2.1 0, 500, .inl (aI (up LI nr bg)))), ((ad 15), .inl (g.2.1 0, 500, .inl (aI ARc))), ((ad 16), .inl (g.2.1 0, 20000, .inl (aI WHc))), ((ad 17), .inl (g.2.1 0, 20000, .inl (aI FIc))), ((ad 18), .inl (g.2.1 0, 20000, .inl (aI SEc))), ((ad 26), .inl (g.2.1 0, 40, .inl (aI OW))), ((ad 27), .inl (g.2.1 0, 40, .inl (aI OF))), ((ad 28), .inl (g.2.1 0, 40, .inl (aI OS)))]) (st' := []) (n1 := 0) (n2 := 0) [14, 0, 1, 2, 3, 4, 5, 6, 7, 8, 9, 10, 11, 15, 12, 13] rfl rfl rfl rfl rfl ?_
      refine r_vret C E d_Mo_rule_279 (by first | decide | omega | (simp only [rmk]; omega)) (by first | decide | omega | (simp only [rmk]; omega)) ?_
      exact ⟨_, _, _, _, _, _, _, _, _, _, _, _, _, _, _, _, _, _, _, _, rfl, rfl, hri3, Or.inl ⟨cm, nu, wt, hP, hwn, rfl, rfl, rfl, rfl, rfl, rfl, rfl, by rw [ha, ← hc, show q = op by omega], hf, by rw [show op = q by omega]; exact hL⟩⟩
    · skip
      have hOq := hOW q
      refine r_aload_n C 0 d_Mo_rule_172 rfl rfl ?_
      refine r_get C 0 26 d_Mo_rule_173 ci_Mo fi_Mo_49 rfl (by decide) rfl rfl ?_
      refine r_iload C 6 d_Mo_rule_176 rfl ?_
      refine r_nald C 13 0 d_Mo_rule_178 rfl rfl (by omega) (by decide) ?_
      refine r_nif_ne C 185 d_Mo_rule_179 (by decide) (by omega) (fun c_179 => ?_) (fun c_179 => ?_)
      · skip
        refine r_bipush C (nI 40) d_Mo_rule_185 (by decide) ?_
        refine r_aload_n C 0 d_Mo_rule_187 rfl rfl ?_
        refine r_get C 0 9 d_Mo_rule_188 ci_Mo fi_Mo_184 rfl (by decide) rfl rfl ?_
        refine r_nmul C d_Mo_rule_191 ?_
        refine r_aload_n C 0 d_Mo_rule_192 rfl rfl ?_
        refine r_get C 0 15 d_Mo_rule_193 ci_Mo fi_Mo_37 rfl (by decide) rfl rfl ?_
        refine r_aload_n C 0 d_Mo_rule_196 rfl rfl ?_
        refine r_get C 0 9 d_Mo_rule_197 ci_Mo fi_Mo_184 rfl (by decide) rfl rfl ?_
        refine r_nald C 9 0 d_Mo_rule_200 rfl rfl (by omega) (by decide) ?_
        refine r_nadd C d_Mo_rule_201 ?_
        refine r_istore C (lv' := [(7, .int (nI ((40 * nr) + (ARc nr)))), (0, .ref m0), (1, .int (nI ki)), (2, .int (nI bg)), (3, .int (oI wt)), (4, .int (oI cm)), (5, .int (oI nu)), (6, .int (nI q))]) d_Mo_rule_202 (by decide) rfl ?_
        refine r_aload_n C 1 d_Mo_rule_204 rfl rfl ?_
        refine r_get C 0 16 d_Mo_rule_205 ci_Mo fi_Mo_40 rfl (by decide) rfl rfl ?_
        refine r_iload C 0 d_Mo_rule_208 rfl ?_
        refine r_aload_n C 1 d_Mo_rule_210 rfl rfl ?_
        refine r_get C 0 26 d_Mo_rule_211 ci_Mo fi_Mo_49 rfl (by decide) rfl rfl ?_
        refine r_iload C 7 d_Mo_rule_214 rfl ?_
        refine r_nald C 13 0 d_Mo_rule_216 rfl rfl (by omega) (by decide) ?_
        refine r_nast C (ws' := [(m0, .inr (9, MO ad qth (nI k) (bI qir) (nI tn3) qde (nI nr) (nI e3) qe3 (nI so3) qb3 qv3 (oI wn) (nI op) (bI qiu) qwi qhe qrw qma)), ((ad 2), .inl (g.2.1 0, 2000, .inl (aI T))), ((ad 6), .inl (g.2.1 0, 2000, .inl (aI BE3))), ((ad 7), .inl (g.2.1 0, 2000, .inl (aI EN3))), ((ad 10), .inl (g.2.1 0, 500, .inl (aI (up KI nr ki)))), ((ad 11), .inl (g.2.1 0, 500, .inl (oA (up CO nr cm)))), ((ad 12), .inl (g.2.1 0, 500, .inl (oA (up NU nr nu)))), ((ad 13), .inl (g.2.1 0, 500, .inl (oA (up CN nr wt)))), ((ad 14), .inl (g.2.1 0, 500, .inl (aI (up LI nr bg)))), ((ad 15), .inl (g.2.1 0, 500, .inl (aI ARc))), ((ad 16), .inl (g.2.1 0, 20000, .inl (aI (up WHc ((40 * nr) + (ARc nr)) (OW q))))), ((ad 17), .inl (g.2.1 0, 20000, .inl (aI FIc))), ((ad 18), .inl (g.2.1 0, 20000, .inl (aI SEc))), ((ad 26), .inl (g.2.1 0, 40, .inl (aI OW))), ((ad 27), .inl (g.2.1 0, 40, .inl (aI OF))), ((ad 28), .inl (g.2.1 0, 40, .inl (aI OS)))]) 10 0 d_Mo_rule_217 rfl rfl (by omega) (by decide) rfl ?_
        refine r_aload_n C 1 d_Mo_rule_218 rfl rfl ?_
        refine r_get C 0 17 d_Mo_rule_219 ci_Mo fi_Mo_43 rfl (by decide) rfl rfl ?_
        refine r_iload C 0 d_Mo_rule_222 rfl ?_
        refine r_aload_n C 1 d_Mo_rule_224 rfl rfl ?_
        refine r_get C 0 27 d_Mo_rule_225 ci_Mo fi_Mo_52 rfl (by decide) rfl rfl ?_
        refine r_iload C 7 d_Mo_rule_228 rfl ?_
        refine r_nald C 14 0 d_Mo_rule_230 rfl rfl (by omega) (by decide) ?_
        refine r_nast C (ws' := [(m0, .inr (9, MO ad qth (nI k) (bI qir) (nI tn3) qde (nI nr) (nI e3) qe3 (nI so3) qb3 qv3 (oI wn) (nI op) (bI qiu) qwi qhe qrw qma)), ((ad 2), .inl (g.2.1 0, 2000, .inl (aI T))), ((ad 6), .inl (g.2.1 0, 2000, .inl (aI BE3))), ((ad 7), .inl (g.2.1 0, 2000, .inl (aI EN3))), ((ad 10), .inl (g.2.1 0, 500, .inl (aI (up KI nr ki)))), ((ad 11), .inl (g.2.1 0, 500, .inl (oA (up CO nr cm)))), ((ad 12), .inl (g.2.1 0, 500, .inl (oA (up NU nr nu)))), ((ad 13), .inl (g.2.1 0, 500, .inl (oA (up CN nr wt)))), ((ad 14), .inl (g.2.1 0, 500, .inl (aI (up LI nr bg)))), ((ad 15), .inl (g.2.1 0, 500, .inl (aI ARc))), ((ad 16), .inl (g.2.1 0, 20000, .inl (aI (up WHc ((40 * nr) + (ARc nr)) (OW q))))), ((ad 17), .inl (g.2.1 0, 20000, .inl (aI (up FIc ((40 * nr) + (ARc nr)) (OF q))))), ((ad 18), .inl (g.2.1 0, 20000, .inl (aI SEc))), ((ad 26), .inl (g.2.1 0, 40, .inl (aI OW))), ((ad 27), .inl (g.2.1 0, 40, .inl (aI OF))), ((ad 28), .inl (g.2.1 0, 40, .inl (aI OS)))]) 11 0 d_Mo_rule_231 rfl rfl (by omega) (by decide) rfl ?_
        refine r_aload_n C 1 d_Mo_rule_232 rfl rfl ?_
        refine r_get C 0 18 d_Mo_rule_233 ci_Mo fi_Mo_46 rfl (by decide) rfl rfl ?_
        refine r_iload C 0 d_Mo_rule_236 rfl ?_
        refine r_aload_n C 1 d_Mo_rule_238 rfl rfl ?_
        refine r_get C 0 28 d_Mo_rule_239 ci_Mo fi_Mo_55 rfl (by decide) rfl rfl ?_
        refine r_iload C 7 d_Mo_rule_242 rfl ?_
        refine r_nald C 15 0 d_Mo_rule_244 rfl rfl (by omega) (by decide) ?_
        refine r_nast C (ws' := [(m0, .inr (9, MO ad qth (nI k) (bI qir) (nI tn3) qde (nI nr) (nI e3) qe3 (nI so3) qb3 qv3 (oI wn) (nI op) (bI qiu) qwi qhe qrw qma)), ((ad 2), .inl (g.2.1 0, 2000, .inl (aI T))), ((ad 6), .inl (g.2.1 0, 2000, .inl (aI BE3))), ((ad 7), .inl (g.2.1 0, 2000, .inl (aI EN3))), ((ad 10), .inl (g.2.1 0, 500, .inl (aI (up KI nr ki)))), ((ad 11), .inl (g.2.1 0, 500, .inl (oA (up CO nr cm)))), ((ad 12), .inl (g.2.1 0, 500, .inl (oA (up NU nr nu)))), ((ad 13), .inl (g.2.1 0, 500, .inl (oA (up CN nr wt)))), ((ad 14), .inl (g.2.1 0, 500, .inl (aI (up LI nr bg)))), ((ad 15), .inl (g.2.1 0, 500, .inl (aI ARc))), ((ad 16), .inl (g.2.1 0, 20000, .inl (aI (up WHc ((40 * nr) + (ARc nr)) (OW q))))), ((ad 17), .inl (g.2.1 0, 20000, .inl (aI (up FIc ((40 * nr) + (ARc nr)) (OF q))))), ((ad 18), .inl (g.2.1 0, 20000, .inl (aI (up SEc ((40 * nr) + (ARc nr)) (OS q))))), ((ad 26), .inl (g.2.1 0, 40, .inl (aI OW))), ((ad 27), .inl (g.2.1 0, 40, .inl (aI OF))), ((ad 28), .inl (g.2.1 0, 40, .inl (aI OS)))]) 12 0 d_Mo_rule_245 rfl rfl (by omega) (by decide) rfl ?_
        refine r_aload_n C 1 d_Mo_rule_246 rfl rfl ?_
        refine r_get C 0 15 d_Mo_rule_247 ci_Mo fi_Mo_37 rfl (by decide) rfl rfl ?_
        refine r_aload_n C 1 d_Mo_rule_250 rfl rfl ?_
        refine r_get C 0 9 d_Mo_rule_251 ci_Mo fi_Mo_184 rfl (by decide) rfl rfl ?_
        refine r_dup2 C d_Mo_rule_254 rfl rfl ?_
        refine r_nald C 9 0 d_Mo_rule_255 rfl rfl (by omega) (by decide) ?_
        refine r_iconst C (nI 1) d_Mo_rule_256 (by decide) ?_
        refine r_nadd C d_Mo_rule_257 ?_
        refine r_nast C (ws' := [(m0, .inr (9, MO ad qth (nI k) (bI qir) (nI tn3) qde (nI nr) (nI e3) qe3 (nI so3) qb3 qv3 (oI wn) (nI op) (bI qiu) qwi qhe qrw qma)), ((ad 2), .inl (g.2.1 0, 2000, .inl (aI T))), ((ad 6), .inl (g.2.1 0, 2000, .inl (aI BE3))), ((ad 7), .inl (g.2.1 0, 2000, .inl (aI EN3))), ((ad 10), .inl (g.2.1 0, 500, .inl (aI (up KI nr ki)))), ((ad 11), .inl (g.2.1 0, 500, .inl (oA (up CO nr cm)))), ((ad 12), .inl (g.2.1 0, 500, .inl (oA (up NU nr nu)))), ((ad 13), .inl (g.2.1 0, 500, .inl (oA (up CN nr wt)))), ((ad 14), .inl (g.2.1 0, 500, .inl (aI (up LI nr bg)))), ((ad 15), .inl (g.2.1 0, 500, .inl (aI (up ARc nr ((ARc nr) + 1))))), ((ad 16), .inl (g.2.1 0, 20000, .inl (aI (up WHc ((40 * nr) + (ARc nr)) (OW q))))), ((ad 17), .inl (g.2.1 0, 20000, .inl (aI (up FIc ((40 * nr) + (ARc nr)) (OF q))))), ((ad 18), .inl (g.2.1 0, 20000, .inl (aI (up SEc ((40 * nr) + (ARc nr)) (OS q))))), ((ad 26), .inl (g.2.1 0, 40, .inl (aI OW))), ((ad 27), .inl (g.2.1 0, 40, .inl (aI OF))), ((ad 28), .inl (g.2.1 0, 40, .inl (aI OS)))]) 9 0 d_Mo_rule_258 rfl rfl (by omega) (by decide) rfl ?_
        refine r_iinc C 7 (nI (q + 1)) (lv' := [(6, .int (nI (q + 1))), (7, .int (nI ((40 * nr) + (ARc nr)))), (0, .ref m0), (1, .int (nI ki)), (2, .int (nI bg)), (3, .int (oI wt)), (4, .int (oI cm)), (5, .int (oI nu))]) d_Mo_rule_259 rfl (nI_inc 1 _) (by decide) rfl ?_
        refine r_goto C 163 d_Mo_rule_262 (by decide) ?_
        refine r_lv (lv' := [(0, .ref m0), (1, .int (nI ki)), (2, .int (nI bg)), (3, .int (oI wt)), (4, .int (oI cm)), (5, .int (oI nu)), (6, .int (nI (q + 1)))]) [2, 3, 4, 5, 6, 7, 0] rfl ?_
        exact ih (q + 1) (c + 1) so3 e3 tn3 qe3 qb3 qv3 BE3 EN3 cm nu wt wn (up ARc nr ((ARc nr) + 1)) (up WHc ((40 * nr) + (ARc nr)) (OW q)) (up FIc ((40 * nr) + (ARc nr)) (OF q)) (up SEc ((40 * nr) + (ARc nr)) (OS q)) (hwn) (hri3) (hP) (by first | assumption | omega | rfl) (by rw [layM_y c_179, List.length_append, hc]; rfl) (by omega) (by rw [up_self, ha]) (fun i h => by rw [up_ne _ _ h]; exact hf i h) (by rw [layM_y c_179, ha]; exact LayM_push hc hL) (by omega)
      · skip
        refine r_goto C 259 d_Mo_rule_182 (by decide) ?_
        refine r_iinc C 6 (nI (q + 1)) (lv' := [(6, .int (nI (q + 1))), (0, .ref m0), (1, .int (nI ki)), (2, .int (nI bg)), (3, .int (oI wt)), (4, .int (oI cm)), (5, .int (oI nu))]) d_Mo_rule_259 rfl (nI_inc 1 _) (by decide) rfl ?_
        refine r_goto C 163 d_Mo_rule_262 (by decide) ?_
        refine r_lv (lv' := [(0, .ref m0), (1, .int (nI ki)), (2, .int (nI bg)), (3, .int (oI wt)), (4, .int (oI cm)), (5, .int (oI nu)), (6, .int (nI (q + 1)))]) [1, 2, 3, 4, 5, 6, 0] rfl ?_
        exact ih (q + 1) c so3 e3 tn3 qe3 qb3 qv3 BE3 EN3 cm nu wt wn ARc WHc FIc SEc (hwn) (hri3) (hP) (by first | assumption | omega | rfl) (by rw [layM_n c_179]; exact hc) (by first | assumption | omega | rfl) (ha) (hf) (by rw [layM_n c_179]; exact hL) (by omega)
set_option maxHeartbeats 4000000 in
set_option maxRecDepth 100000 in
theorem lp_Mo_rule_98 (g : GG) {m0 : Nat} {ad : Nat → Nat} {qth : Int32} {qde : Int32} {qwi : Int32} {qhe : Int32} {qrw : Int32} {qma : Int32} {qir : Bool} {qiu : Bool} {k : Nat} {so : Nat} {e : Nat} {tn : Nat} {op : Nat} {nr : Nat} {bg : Nat} {ki : Nat} {qe : Int32} {qva : Int32} {T : Nat → Nat} {BE : Nat → Nat} {EN : Nat → Nat} {OW : Nat → Nat} {OF : Nat → Nat} {OS : Nat → Nat} {KI : Nat → Nat} {LI : Nat → Nat} {AR : Nat → Nat} {WH : Nat → Nat} {FI : Nat → Nat} {SE : Nat → Nat} {CO : Nat → Option Nat} {NU : Nat → Option Nat} {CN : Nat → Option Nat} (hk : k ≤ 2000) (hT : ∀ j, T j < 256) (hri : RI T k so e tn qe none BE EN) (hop : op ≤ 40) (hnr : nr < 500) (hki : ki ≤ 6) (hOW : ∀ j, OW j < 2 ^ 31) {x : X0} {A : Nat → Prop} {Q : State → Prop}  (C : CX x g A R_Mo b_Mo_rule 8) (E : RX x g A Q none (fun (r0 : Option Value) (w0 : va_W) => ∃ so2 : Nat, ∃ e2 : Nat, ∃ tn2 : Nat, ∃ nr2 : Nat, ∃ op2 : Nat, ∃ qe2 : Int32, ∃ qb2 : Int32, ∃ qv2 : Int32, ∃ wr2 : Option Nat, ∃ BE2 : Nat → Nat, ∃ EN2 : Nat → Nat, ∃ KI2 : Nat → Nat, ∃ LI2 : Nat → Nat, ∃ AR2 : Nat → Nat, ∃ WH2 : Nat → Nat, ∃ FI2 : Nat → Nat, ∃ SE2 : Nat → Nat, ∃ CO2 : Nat → Option Nat, ∃ NU2 : Nat → Option Nat, ∃ CN2 : Nat → Option Nat, r0 = none ∧ w0 = [(m0, .inr (9, MO ad qth (nI k) (bI qir) (nI tn2) qde (nI nr2) (nI e2) qe2 (nI so2) qb2 qv2 (oI wr2) (nI op2) (bI qiu) qwi qhe qrw qma)), ((ad 2), .inl (g.2.1 0, 2000, .inl (aI T))), ((ad 6), .inl (g.2.1 0, 2000, .inl (aI BE2))), ((ad 7), .inl (g.2.1 0, 2000, .inl (aI EN2))), ((ad 10), .inl (g.2.1 0, 500, .inl (aI KI2))), ((ad 11), .inl (g.2.1 0, 500, .inl (oA CO2))), ((ad 12), .inl (g.2.1 0, 500, .inl (oA NU2))), ((ad 13), .inl (g.2.1 0, 500, .inl (oA CN2))), ((ad 14), .inl (g.2.1 0, 500, .inl (aI LI2))), ((ad 15), .inl (g.2.1 0, 500, .inl (aI AR2))), ((ad 16), .inl (g.2.1 0, 20000, .inl (aI WH2))), ((ad 17), .inl (g.2.1 0, 20000, .inl (aI FI2))), ((ad 18), .inl (g.2.1 0, 20000, .inl (aI SE2))), ((ad 26), .inl (g.2.1 0, 40, .inl (aI OW))), ((ad 27), .inl (g.2.1 0, 40, .inl (aI OF))), ((ad 28), .inl (g.2.1 0, 40, .inl (aI OS)))] ∧ (RI T k so2 e2 tn2 qe2 wr2 BE2 EN2) ∧ (RuleR T k ki (xOf T k so e BE EN tn) wr2 (xOf T k so2 e2 BE2 EN2 tn2) nr op bg OW OF OS KI LI AR WH FI SE CO NU CN nr2 op2 KI2 LI2 AR2 WH2 FI2 SE2 CO2 NU2 CN2)) (rmk 3 0 0 65).cells (rmk 3 0 0 65).slots) (hR : xR x = (rmk 3 0 0 65)) : ∀ (fuel : Nat) (so3 : Nat) (e3 : Nat) (tn3 : Nat) (qe3 : Int32) (qb3 : Int32) (qv3 : Int32) (BE3 : Nat → Nat) (EN3 : Nat → Nat) (cm : Option Nat) (nu : Option Nat) (wt : Option Nat) (wn : Option Nat) (hwn : wn = none) (hri3 : RI T k so3 e3 tn3 qe3 wn BE3 EN3) (hP : pNums T k ki (xOf T k so e BE EN tn) = (true, cm, nu, wt, (xOf T k so3 e3 BE3 EN3 tn3))), 0 < fuel → J x g A Q 8 ([(m0, .inr (9, MO ad qth (nI k) (bI qir) (nI tn3) qde (nI nr) (nI e3) qe3 (nI so3) qb3 qv3 (oI wn) (nI op) (bI qiu) qwi qhe qrw qma)), ((ad 2), .inl (g.2.1 0, 2000, .inl (aI T))), ((ad 6), .inl (g.2.1 0, 2000, .inl (aI BE3))), ((ad 7), .inl (g.2.1 0, 2000, .inl (aI EN3))), ((ad 10), .inl (g.2.1 0, 500, .inl (aI KI))), ((ad 11), .inl (g.2.1 0, 500, .inl (oA CO))), ((ad 12), .inl (g.2.1 0, 500, .inl (oA NU))), ((ad 13), .inl (g.2.1 0, 500, .inl (oA CN))), ((ad 14), .inl (g.2.1 0, 500, .inl (aI LI))), ((ad 15), .inl (g.2.1 0, 500, .inl (aI AR))), ((ad 16), .inl (g.2.1 0, 20000, .inl (aI WH))), ((ad 17), .inl (g.2.1 0, 20000, .inl (aI FI))), ((ad 18), .inl (g.2.1 0, 20000, .inl (aI SE))), ((ad 26), .inl (g.2.1 0, 40, .inl (aI OW))), ((ad 27), .inl (g.2.1 0, 40, .inl (aI OF))), ((ad 28), .inl (g.2.1 0, 40, .inl (aI OS)))]) [(0, .ref m0), (1, .int (nI ki)), (2, .int (nI bg)), (3, .int (oI wt)), (4, .int (oI cm)), (5, .int (oI nu))] 98 [] 0 0 := by
  intro fuel
  induction fuel with
  | zero =>
    intro so3 e3 tn3 qe3 qb3 qv3 BE3 EN3 cm nu wt wn hwn hri3 hP hm
    exact absurd hm (Nat.not_lt_zero _)
  | succ fuel ih =>
    intro so3 e3 tn3 qe3 qb3 qv3 BE3 EN3 cm nu wt wn hwn hri3 hP hm
    refine r_aload_n C 0 d_Mo_rule_98 rfl rfl ?_
    refine r_get C 0 10 d_Mo_rule_99 ci_Mo fi_Mo_22 rfl (by decide) rfl rfl ?_
    refine r_aload_n C 0 d_Mo_rule_102 rfl rfl ?_
    refine r_get C 0 9 d_Mo_rule_103 ci_Mo fi_Mo_184 rfl (by decide) rfl rfl ?_
    refine r_iload_n C 1 d_Mo_rule_106 rfl rfl ?_
    refine r_nast C (ws' := [(m0, .inr (9, MO ad qth (nI k) (bI qir) (nI tn3) qde (nI nr) (nI e3) qe3 (nI so3) qb3 qv3 (oI wn) (nI op) (bI qiu) qwi qhe qrw qma)), ((ad 2), .inl (g.2.1 0, 2000, .inl (aI T))), ((ad 6), .inl (g.2.1 0, 2000, .inl (aI BE3))), ((ad 7), .inl (g.2.1 0, 2000, .inl (aI EN3))), ((ad 10), .inl (g.2.1 0, 500, .inl (aI (up KI nr ki)))), ((ad 11), .inl (g.2.1 0, 500, .inl (oA CO))), ((ad 12), .inl (g.2.1 0, 500, .inl (oA NU))), ((ad 13), .inl (g.2.1 0, 500, .inl (oA CN))), ((ad 14), .inl (g.2.1 0, 500, .inl (aI LI))), ((ad 15), .inl (g.2.1 0, 500, .inl (aI AR))), ((ad 16), .inl (g.2.1 0, 20000, .inl (aI WH))), ((ad 17), .inl (g.2.1 0, 20000, .inl (aI FI))), ((ad 18), .inl (g.2.1 0, 20000, .inl (aI SE))), ((ad 26), .inl (g.2.1 0, 40, .inl (aI OW))), ((ad 27), .inl (g.2.1 0, 40, .inl (aI OF))), ((ad 28), .inl (g.2.1 0, 40, .inl (aI OS)))]) 4 0 d_Mo_rule_107 rfl rfl (by omega) (by decide) rfl ?_
    refine r_aload_n C 0 d_Mo_rule_108 rfl rfl ?_
    refine r_get C 0 11 d_Mo_rule_109 ci_Mo fi_Mo_25 rfl (by decide) rfl rfl ?_
    refine r_aload_n C 0 d_Mo_rule_112 rfl rfl ?_
    refine r_get C 0 9 d_Mo_rule_113 ci_Mo fi_Mo_184 rfl (by decide) rfl rfl ?_
    refine r_iload C 4 d_Mo_rule_116 rfl ?_
    refine r_eqS (st' := [.int (oI cm), .int (nI nr), .ref (ad 11)]) rfl ?_
    refine r_oast C (ws' := [(m0, .inr (9, MO ad qth (nI k) (bI qir) (nI tn3) qde (nI nr) (nI e3) qe3 (nI so3) qb3 qv3 (oI wn) (nI op) (bI qiu) qwi qhe qrw qma)), ((ad 2), .inl (g.2.1 0, 2000, .inl (aI T))), ((ad 6), .inl (g.2.1 0, 2000, .inl (aI BE3))), ((ad 7), .inl (g.2.1 0, 2000, .inl (aI EN3))), ((ad 10), .inl (g.2.1 0, 500, .inl (aI (up KI nr ki)))), ((ad 11), .inl (g.2.1 0, 500, .inl (oA (up CO nr cm)))), ((ad 12), .inl (g.2.1 0, 500, .inl (oA NU))), ((ad 13), .inl (g.2.1 0, 500, .inl (oA CN))), ((ad 14), .inl (g.2.1 0, 500, .inl (aI LI))), ((ad 15), .inl (g.2.1 0, 500, .inl (aI AR))), ((ad 16), .inl (g.2.1 0, 20000, .inl (aI WH))), ((ad 17), .inl (g.2.1 0, 20000, .inl (aI FI))), ((ad 18), .inl (g.2.1 0, 20000, .inl (aI SE))), ((ad 26), .inl (g.2.1 0, 40, .inl (aI OW))), ((ad 27), .inl (g.2.1 0, 40, .inl (aI OF))), ((ad 28), .inl (g.2.1 0, 40, .inl (aI OS)))]) 5 0 d_Mo_rule_118 rfl rfl (by omega) (by decide) rfl ?_
    refine r_aload_n C 0 d_Mo_rule_119 rfl rfl ?_
    refine r_get C 0 12 d_Mo_rule_120 ci_Mo fi_Mo_28 rfl (by decide) rfl rfl ?_
    refine r_aload_n C 0 d_Mo_rule_123 rfl rfl ?_
    refine r_get C 0 9 d_Mo_rule_124 ci_Mo fi_Mo_184 rfl (by decide) rfl rfl ?_
    refine r_iload C 5 d_Mo_rule_127 rfl ?_
    refine r_eqS (st' := [.int (oI nu), .int (nI nr), .ref (ad 12)]) rfl ?_
    refine r_oast C (ws' := [(m0, .inr (9, MO ad qth (nI k) (bI qir) (nI tn3) qde (nI nr) (nI e3) qe3 (nI so3) qb3 qv3 (oI wn) (nI op) (bI qiu) qwi qhe qrw qma)), ((ad 2), .inl (g.2.1 0, 2000, .inl (aI T))), ((ad 6), .inl (g.2.1 0, 2000, .inl (aI BE3))), ((ad 7), .inl (g.2.1 0, 2000, .inl (aI EN3))), ((ad 10), .inl (g.2.1 0, 500, .inl (aI (up KI nr ki)))), ((ad 11), .inl (g.2.1 0, 500, .inl (oA (up CO nr cm)))), ((ad 12), .inl (g.2.1 0, 500, .inl (oA (up NU nr nu)))), ((ad 13), .inl (g.2.1 0, 500, .inl (oA CN))), ((ad 14), .inl (g.2.1 0, 500, .inl (aI LI))), ((ad 15), .inl (g.2.1 0, 500, .inl (aI AR))), ((ad 16), .inl (g.2.1 0, 20000, .inl (aI WH))), ((ad 17), .inl (g.2.1 0, 20000, .inl (aI FI))), ((ad 18), .inl (g.2.1 0, 20000, .inl (aI SE))), ((ad 26), .inl (g.2.1 0, 40, .inl (aI OW))), ((ad 27), .inl (g.2.1 0, 40, .inl (aI OF))), ((ad 28), .inl (g.2.1 0, 40, .inl (aI OS)))]) 6 0 d_Mo_rule_129 rfl rfl (by omega) (by decide) rfl ?_
    refine r_aload_n C 0 d_Mo_rule_130 rfl rfl ?_
    refine r_get C 0 13 d_Mo_rule_131 ci_Mo fi_Mo_31 rfl (by decide) rfl rfl ?_
    refine r_aload_n C 0 d_Mo_rule_134 rfl rfl ?_
    refine r_get C 0 9 d_Mo_rule_135 ci_Mo fi_Mo_184 rfl (by decide) rfl rfl ?_
    refine r_iload_n C 3 d_Mo_rule_138 rfl rfl ?_
    refine r_eqS (st' := [.int (oI wt), .int (nI nr), .ref (ad 13)]) rfl ?_
    refine r_oast C (ws' := [(m0, .inr (9, MO ad qth (nI k) (bI qir) (nI tn3) qde (nI nr) (nI e3) qe3 (nI so3) qb3 qv3 (oI wn) (nI op) (bI qiu) qwi qhe qrw qma)), ((ad 2), .inl (g.2.1 0, 2000, .inl (aI T))), ((ad 6), .inl (g.2.1 0, 2000, .inl (aI BE3))), ((ad 7), .inl (g.2.1 0, 2000, .inl (aI EN3))), ((ad 10), .inl (g.2.1 0, 500, .inl (aI (up KI nr ki)))), ((ad 11), .inl (g.2.1 0, 500, .inl (oA (up CO nr cm)))), ((ad 12), .inl (g.2.1 0, 500, .inl (oA (up NU nr nu)))), ((ad 13), .inl (g.2.1 0, 500, .inl (oA (up CN nr wt)))), ((ad 14), .inl (g.2.1 0, 500, .inl (aI LI))), ((ad 15), .inl (g.2.1 0, 500, .inl (aI AR))), ((ad 16), .inl (g.2.1 0, 20000, .inl (aI WH))), ((ad 17), .inl (g.2.1 0, 20000, .inl (aI FI))), ((ad 18), .inl (g.2.1 0, 20000, .inl (aI SE))), ((ad 26), .inl (g.2.1 0, 40, .inl (aI OW))), ((ad 27), .inl (g.2.1 0, 40, .inl (aI OF))), ((ad 28), .inl (g.2.1 0, 40, .inl (aI OS)))]) 7 0 d_Mo_rule_139 rfl rfl (by omega) (by decide) rfl ?_
    refine r_aload_n C 0 d_Mo_rule_140 rfl rfl ?_
    refine r_get C 0 14 d_Mo_rule_141 ci_Mo fi_Mo_34 rfl (by decide) rfl rfl ?_
    refine r_aload_n C 0 d_Mo_rule_144 rfl rfl ?_
    refine r_get C 0 9 d_Mo_rule_145 ci_Mo fi_Mo_184 rfl (by decide) rfl rfl ?_
    refine r_iload_n C 2 d_Mo_rule_148 rfl rfl ?_
    refine r_nast C (ws' := [(m0, .inr (9, MO ad qth (nI k) (bI qir) (nI tn3) qde (nI nr) (nI e3) qe3 (nI so3) qb3 qv3 (oI wn) (nI op) (bI qiu) qwi qhe qrw qma)), ((ad 2), .inl (g.2.1 0, 2000, .inl (aI T))), ((ad 6), .inl (g.2.1 0, 2000, .inl (aI BE3))), ((ad 7), .inl (g.2.1 0, 2000, .inl (aI EN3))), ((ad 10), .inl (g.2.1 0, 500, .inl (aI (up KI nr ki)))), ((ad 11), .inl (g.2.1 0, 500, .inl (oA (up CO nr cm)))), ((ad 12), .inl (g.2.1 0, 500, .inl (oA (up NU nr nu)))), ((ad 13), .inl (g.2.1 0, 500, .inl (oA (up CN nr wt)))), ((ad 14), .inl (g.2.1 0, 500, .inl (aI (up LI nr bg)))), ((ad 15), .inl (g.2.1 0, 500, .inl (aI AR))), ((ad 16), .inl (g.2.1 0, 20000, .inl (aI WH))), ((ad 17), .inl (g.2.1 0, 20000, .inl (aI FI))), ((ad 18), .inl (g.2.1 0, 20000, .inl (aI SE))), ((ad 26), .inl (g.2.1 0, 40, .inl (aI OW))), ((ad 27), .inl (g.2.1 0, 40, .inl (aI OF))), ((ad 28), .inl (g.2.1 0, 40, .inl (aI OS)))]) 8 0 d_Mo_rule_149 rfl rfl (by omega) (by decide) rfl ?_
    refine r_aload_n C 0 d_Mo_rule_150 rfl rfl ?_
    refine r_get C 0 15 d_Mo_rule_151 ci_Mo fi_Mo_37 rfl (by decide) rfl rfl ?_
    refine r_aload_n C 0 d_Mo_rule_154 rfl rfl ?_
    refine r_get C 0 9 d_Mo_rule_155 ci_Mo fi_Mo_184 rfl (by decide) rfl rfl ?_
    refine r_iconst C (nI 0) d_Mo_rule_158 (by decide) ?_
    refine r_nast C (ws' := [(m0, .inr (9, MO ad qth (nI k) (bI qir) (nI tn3) qde (nI nr) (nI e3) qe3 (nI so3) qb3 qv3 (oI wn) (nI op) (bI qiu) qwi qhe qrw qma)), ((ad 2), .inl (g.2.1 0, 2000, .inl (aI T))), ((ad 6), .inl (g.2.1 0, 2000, .inl (aI BE3))), ((ad 7), .inl (g.2.1 0, 2000, .inl (aI EN3))), ((ad 10), .inl (g.2.1 0, 500, .inl (aI (up KI nr ki)))), ((ad 11), .inl (g.2.1 0, 500, .inl (oA (up CO nr cm)))), ((ad 12), .inl (g.2.1 0, 500, .inl (oA (up NU nr nu)))), ((ad 13), .inl (g.2.1 0, 500, .inl (oA (up CN nr wt)))), ((ad 14), .inl (g.2.1 0, 500, .inl (aI (up LI nr bg)))), ((ad 15), .inl (g.2.1 0, 500, .inl (aI (up AR nr 0)))), ((ad 16), .inl (g.2.1 0, 20000, .inl (aI WH))), ((ad 17), .inl (g.2.1 0, 20000, .inl (aI FI))), ((ad 18), .inl (g.2.1 0, 20000, .inl (aI SE))), ((ad 26), .inl (g.2.1 0, 40, .inl (aI OW))), ((ad 27), .inl (g.2.1 0, 40, .inl (aI OF))), ((ad 28), .inl (g.2.1 0, 40, .inl (aI OS)))]) 9 0 d_Mo_rule_159 rfl rfl (by omega) (by decide) rfl ?_
    refine r_iconst C (nI 0) d_Mo_rule_160 (by decide) ?_
    refine r_istore C (lv' := [(6, .int (nI 0)), (0, .ref m0), (1, .int (nI ki)), (2, .int (nI bg)), (3, .int (oI wt)), (4, .int (oI cm)), (5, .int (oI nu))]) d_Mo_rule_161 (by decide) rfl ?_
    refine r_lv (lv' := [(0, .ref m0), (1, .int (nI ki)), (2, .int (nI bg)), (3, .int (oI wt)), (4, .int (oI cm)), (5, .int (oI nu)), (6, .int (nI 0))]) [1, 2, 3, 4, 5, 6, 0] rfl ?_
    exact lp_Mo_rule_163 g (m0 := m0) (ad := ad) (qth := qth) (qde := qde) (qwi := qwi) (qhe := qhe) (qrw := qrw) (qma := qma) (qir := qir) (qiu := qiu) (k := k) (so := so) (e := e) (tn := tn) (op := op) (nr := nr) (bg := bg) (ki := ki) (qe := qe) (qva := qva) (T := T) (BE := BE) (EN := EN) (OW := OW) (OF := OF) (OS := OS) (KI := KI) (LI := LI) (AR := AR) (WH := WH) (FI := FI) (SE := SE) (CO := CO) (NU := NU) (CN := CN) hk hT hri hop hnr hki hOW  C E hR _ 0 0 so3 e3 tn3 qe3 qb3 qv3 BE3 EN3 cm nu wt wn (up AR nr 0) WH FI SE (hwn) (hri3) (hP) (by first | assumption | omega | rfl) (rfl) (by first | assumption | omega | rfl) (up_self _ _ _) (fun i h => up_ne _ _ h) (⟨fun t v h => (by cases h), fun j _ => ⟨rfl, rfl, rfl⟩⟩) (Nat.lt_succ_self _)
set_option maxHeartbeats 4000000 in
set_option maxRecDepth 100000 in
theorem c_Mo_rule (g : GG) (l : Launch) {m0 : Nat} {ad : Nat → Nat} {qth : Int32} {qde : Int32} {qwi : Int32} {qhe : Int32} {qrw : Int32} {qma : Int32} {qir : Bool} {qiu : Bool} {k : Nat} {so : Nat} {e : Nat} {tn : Nat} {op : Nat} {nr : Nat} {bg : Nat} {ki : Nat} {qe : Int32} {qva : Int32} {T : Nat → Nat} {BE : Nat → Nat} {EN : Nat → Nat} {OW : Nat → Nat} {OF : Nat → Nat} {OS : Nat → Nat} {KI : Nat → Nat} {LI : Nat → Nat} {AR : Nat → Nat} {WH : Nat → Nat} {FI : Nat → Nat} {SE : Nat → Nat} {CO : Nat → Option Nat} {NU : Nat → Option Nat} {CN : Nat → Option Nat}  (hk : k ≤ 2000) (hT : ∀ j, T j < 256) (hri : RI T k so e tn qe none BE EN) (hop : op ≤ 40) (hnr : nr < 500) (hki : ki ≤ 6) (hOW : ∀ j, OW j < 2 ^ 31) : Cn g l y_Mo_rule b_Mo_rule 8 none (rmk 3 0 0 65) [.ref m0, .int (nI ki)] ([(m0, .inr (9, MO ad qth (nI k) (bI qir) (nI tn) qde (nI nr) (nI e) qe (nI so) (nI bg) qva (-1) (nI op) (bI qiu) qwi qhe qrw qma)), ((ad 2), .inl (g.2.1 0, 2000, .inl (aI T))), ((ad 6), .inl (g.2.1 0, 2000, .inl (aI BE))), ((ad 7), .inl (g.2.1 0, 2000, .inl (aI EN))), ((ad 10), .inl (g.2.1 0, 500, .inl (aI KI))), ((ad 11), .inl (g.2.1 0, 500, .inl (oA CO))), ((ad 12), .inl (g.2.1 0, 500, .inl (oA NU))), ((ad 13), .inl (g.2.1 0, 500, .inl (oA CN))), ((ad 14), .inl (g.2.1 0, 500, .inl (aI LI))), ((ad 15), .inl (g.2.1 0, 500, .inl (aI AR))), ((ad 16), .inl (g.2.1 0, 20000, .inl (aI WH))), ((ad 17), .inl (g.2.1 0, 20000, .inl (aI FI))), ((ad 18), .inl (g.2.1 0, 20000, .inl (aI SE))), ((ad 26), .inl (g.2.1 0, 40, .inl (aI OW))), ((ad 27), .inl (g.2.1 0, 40, .inl (aI OF))), ((ad 28), .inl (g.2.1 0, 40, .inl (aI OS)))]) (fun (r0 : Option Value) (w0 : va_W) => ∃ so2 : Nat, ∃ e2 : Nat, ∃ tn2 : Nat, ∃ nr2 : Nat, ∃ op2 : Nat, ∃ qe2 : Int32, ∃ qb2 : Int32, ∃ qv2 : Int32, ∃ wr2 : Option Nat, ∃ BE2 : Nat → Nat, ∃ EN2 : Nat → Nat, ∃ KI2 : Nat → Nat, ∃ LI2 : Nat → Nat, ∃ AR2 : Nat → Nat, ∃ WH2 : Nat → Nat, ∃ FI2 : Nat → Nat, ∃ SE2 : Nat → Nat, ∃ CO2 : Nat → Option Nat, ∃ NU2 : Nat → Option Nat, ∃ CN2 : Nat → Option Nat, r0 = none ∧ w0 = [(m0, .inr (9, MO ad qth (nI k) (bI qir) (nI tn2) qde (nI nr2) (nI e2) qe2 (nI so2) qb2 qv2 (oI wr2) (nI op2) (bI qiu) qwi qhe qrw qma)), ((ad 2), .inl (g.2.1 0, 2000, .inl (aI T))), ((ad 6), .inl (g.2.1 0, 2000, .inl (aI BE2))), ((ad 7), .inl (g.2.1 0, 2000, .inl (aI EN2))), ((ad 10), .inl (g.2.1 0, 500, .inl (aI KI2))), ((ad 11), .inl (g.2.1 0, 500, .inl (oA CO2))), ((ad 12), .inl (g.2.1 0, 500, .inl (oA NU2))), ((ad 13), .inl (g.2.1 0, 500, .inl (oA CN2))), ((ad 14), .inl (g.2.1 0, 500, .inl (aI LI2))), ((ad 15), .inl (g.2.1 0, 500, .inl (aI AR2))), ((ad 16), .inl (g.2.1 0, 20000, .inl (aI WH2))), ((ad 17), .inl (g.2.1 0, 20000, .inl (aI FI2))), ((ad 18), .inl (g.2.1 0, 20000, .inl (aI SE2))), ((ad 26), .inl (g.2.1 0, 40, .inl (aI OW))), ((ad 27), .inl (g.2.1 0, 40, .inl (aI OF))), ((ad 28), .inl (g.2.1 0, 40, .inl (aI OS)))] ∧ (RI T k so2 e2 tn2 qe2 wr2 BE2 EN2) ∧ (RuleR T k ki (xOf T k so e BE EN tn) wr2 (xOf T k so2 e2 BE2 EN2 tn2) nr op bg OW OF OS KI LI AR WH FI SE CO NU CN nr2 op2 KI2 LI2 AR2 WH2 FI2 SE2 CO2 NU2 CN2)) := by
  refine Cn.of R_Mo [(0, .ref m0), (1, .int (nI ki))] (by decide) rfl (Nat.le_of_ble_eq_true rfl) rfl ?_
  intro x A Q hR hXl hin C E
  subst hXl
  refine r_aload_n C 0 d_Mo_rule_0 rfl rfl ?_
  refine r_get C 0 22 d_Mo_rule_1 ci_Mo fi_Mo_106 rfl (by decide) rfl rfl ?_
  refine r_istore_n C (lv' := [(2, .int (nI bg)), (0, .ref m0), (1, .int (nI ki))]) d_Mo_rule_4 rfl (by decide) rfl ?_
  rcases (show ki = 0 ∨ ki = 1 ∨ ki = 2 ∨ ki = 3 ∨ ki = 4 ∨ ki = 5 ∨ ki = 6 by omega) with rfl | rfl | rfl | rfl | rfl | rfl | rfl
  · skip
    refine r_iload_n C 2 d_Mo_rule_5 rfl rfl ?_
    refine r_iconst C (nI 5) d_Mo_rule_6 (by decide) ?_
    refine r_ncmp_ne C 20 d_Mo_rule_7 (by decide) (by omega) (by omega) (fun c_7 => ?_) (fun c_7 => ?_)
    rotate_left
    · exact absurd c_7 (by decide)
    refine r_iconst C ((-1)) d_Mo_rule_20 (by decide) ?_
    refine r_istore_n C (lv' := [(3, .int (-1)), (2, .int (nI bg)), (0, .ref m0), (1, .int (nI 0))]) d_Mo_rule_21 rfl (by decide) rfl ?_
    refine r_aload_n C 2 d_Mo_rule_22 rfl rfl ?_
    refine r_get C 0 24 d_Mo_rule_23 ci_Mo fi_Mo_94 rfl (by decide) rfl rfl ?_
    refine r_if_ge C 46 d_Mo_rule_26 (by decide) (fun c_26 => ?_) (fun c_26 => ?_)
    · exact absurd c_26 (by decide)
    · skip
      refine r_iload_n C 3 d_Mo_rule_29 rfl rfl ?_
      refine r_iconst C (nI 4) d_Mo_rule_30 (by decide) ?_
      refine r_ncmp_eq C 39 d_Mo_rule_31 (by decide) (by omega) (by omega) (fun c_31 => ?_) (fun c_31 => ?_)
      · exact absurd c_31 (by decide)
      refine r_iload_n C 3 d_Mo_rule_34 rfl rfl ?_
      refine r_iconst C (nI 5) d_Mo_rule_35 (by decide) ?_
      refine r_ncmp_ne C 46 d_Mo_rule_36 (by decide) (by omega) (by omega) (fun c_36 => ?_) (fun c_36 => ?_)
      rotate_left
      · exact absurd c_36 (by decide)
      refine r_iconst C ((-1)) d_Mo_rule_46 (by decide) ?_
      refine r_istore C (lv' := [(4, .int (-1)), (3, .int (-1)), (2, .int (nI bg)), (0, .ref m0), (1, .int (nI 0))]) d_Mo_rule_47 (by decide) rfl ?_
      refine r_aload_n C 3 d_Mo_rule_49 rfl rfl ?_
      refine r_get C 0 24 d_Mo_rule_50 ci_Mo fi_Mo_94 rfl (by decide) rfl rfl ?_
      refine r_if_ge C 87 d_Mo_rule_53 (by decide) (fun c_53 => ?_) (fun c_53 => ?_)
      · exact absurd c_53 (by decide)
      · skip
        refine r_iload_n C 4 d_Mo_rule_56 rfl rfl ?_
        refine r_iconst C (nI 3) d_Mo_rule_57 (by decide) ?_
        refine r_ncmp_le C 87 d_Mo_rule_58 (by decide) (by omega) (by omega) (fun c_58 => ?_) (fun c_58 => ?_)
        rotate_left
        · exact absurd c_58 (by decide)
        refine r_iconst C ((-1)) d_Mo_rule_87 (by decide) ?_
        refine r_istore C (lv' := [(5, .int (-1)), (4, .int (-1)), (3, .int (-1)), (2, .int (nI bg)), (0, .ref m0), (1, .int (nI 0))]) d_Mo_rule_88 (by decide) rfl ?_
        refine r_aload_n C 4 d_Mo_rule_90 rfl rfl ?_
        refine r_get C 0 24 d_Mo_rule_91 ci_Mo fi_Mo_94 rfl (by decide) rfl rfl ?_
        refine r_if_lt C 98 d_Mo_rule_94 (by decide) (fun c_94 => ?_) (fun c_94 => ?_)
        · skip
          refine r_lv (lv' := [(0, .ref m0), (1, .int (nI 0)), (2, .int (nI bg)), (3, .int (oI none)), (4, .int (oI none)), (5, .int (oI none))]) [4, 5, 3, 2, 1, 0] rfl ?_
          refine r_eqW (ws' := [(m0, .inr (9, MO ad qth (nI k) (bI qir) (nI tn) qde (nI nr) (nI e) qe (nI so) (nI bg) qva (oI none) (nI op) (bI qiu) qwi qhe qrw qma)), ((ad 2), .inl (g.2.1 0, 2000, .inl (aI T))), ((ad 6), .inl (g.2.1 0, 2000, .inl (aI BE))), ((ad 7), .inl (g.2.1 0, 2000, .inl (aI EN))), ((ad 10), .inl (g.2.1 0, 500, .inl (aI KI))), ((ad 11), .inl (g.2.1 0, 500, .inl (oA CO))), ((ad 12), .inl (g.2.1 0, 500, .inl (oA NU))), ((ad 13), .inl (g.2.1 0, 500, .inl (oA CN))), ((ad 14), .inl (g.2.1 0, 500, .inl (aI LI))), ((ad 15), .inl (g.2.1 0, 500, .inl (aI AR))), ((ad 16), .inl (g.2.1 0, 20000, .inl (aI WH))), ((ad 17), .inl (g.2.1 0, 20000, .inl (aI FI))), ((ad 18), .inl (g.2.1 0, 20000, .inl (aI SE))), ((ad 26), .inl (g.2.1 0, 40, .inl (aI OW))), ((ad 27), .inl (g.2.1 0, 40, .inl (aI OF))), ((ad 28), .inl (g.2.1 0, 40, .inl (aI OS)))]) (by first | rfl | simp) ?_
          exact lp_Mo_rule_98 g (m0 := m0) (ad := ad) (qth := qth) (qde := qde) (qwi := qwi) (qhe := qhe) (qrw := qrw) (qma := qma) (qir := qir) (qiu := qiu) (k := k) (so := so) (e := e) (tn := tn) (op := op) (nr := nr) (bg := bg) (ki := 0) (qe := qe) (qva := qva) (T := T) (BE := BE) (EN := EN) (OW := OW) (OF := OF) (OS := OS) (KI := KI) (LI := LI) (AR := AR) (WH := WH) (FI := FI) (SE := SE) (CO := CO) (NU := NU) (CN := CN) hk hT hri hop hnr hki hOW  C E hR _ so e tn qe (nI bg) qva BE EN none none none none (rfl) (hri) (pNums_d (by decide)) (Nat.lt_succ_self _)
        · exact absurd (by decide) c_94
  · skip
    refine r_iload_n C 2 d_Mo_rule_5 rfl rfl ?_
    refine r_iconst C (nI 5) d_Mo_rule_6 (by decide) ?_
    refine r_ncmp_ne C 20 d_Mo_rule_7 (by decide) (by omega) (by omega) (fun c_7 => ?_) (fun c_7 => ?_)
    rotate_left
    · exact absurd c_7 (by decide)
    refine r_iconst C ((-1)) d_Mo_rule_20 (by decide) ?_
    refine r_istore_n C (lv' := [(3, .int (-1)), (2, .int (nI bg)), (0, .ref m0), (1, .int (nI 1))]) d_Mo_rule_21 rfl (by decide) rfl ?_
    refine r_aload_n C 2 d_Mo_rule_22 rfl rfl ?_
    refine r_get C 0 24 d_Mo_rule_23 ci_Mo fi_Mo_94 rfl (by decide) rfl rfl ?_
    refine r_if_ge C 46 d_Mo_rule_26 (by decide) (fun c_26 => ?_) (fun c_26 => ?_)
    · exact absurd c_26 (by decide)
    · skip
      refine r_iload_n C 3 d_Mo_rule_29 rfl rfl ?_
      refine r_iconst C (nI 4) d_Mo_rule_30 (by decide) ?_
      refine r_ncmp_eq C 39 d_Mo_rule_31 (by decide) (by omega) (by omega) (fun c_31 => ?_) (fun c_31 => ?_)
      · exact absurd c_31 (by decide)
      refine r_iload_n C 3 d_Mo_rule_34 rfl rfl ?_
      refine r_iconst C (nI 5) d_Mo_rule_35 (by decide) ?_
      refine r_ncmp_ne C 46 d_Mo_rule_36 (by decide) (by omega) (by omega) (fun c_36 => ?_) (fun c_36 => ?_)
      rotate_left
      · exact absurd c_36 (by decide)
      refine r_iconst C ((-1)) d_Mo_rule_46 (by decide) ?_
      refine r_istore C (lv' := [(4, .int (-1)), (3, .int (-1)), (2, .int (nI bg)), (0, .ref m0), (1, .int (nI 1))]) d_Mo_rule_47 (by decide) rfl ?_
      refine r_aload_n C 3 d_Mo_rule_49 rfl rfl ?_
      refine r_get C 0 24 d_Mo_rule_50 ci_Mo fi_Mo_94 rfl (by decide) rfl rfl ?_
      refine r_if_ge C 87 d_Mo_rule_53 (by decide) (fun c_53 => ?_) (fun c_53 => ?_)
      · exact absurd c_53 (by decide)
      · skip
        refine r_iload_n C 4 d_Mo_rule_56 rfl rfl ?_
        refine r_iconst C (nI 3) d_Mo_rule_57 (by decide) ?_
        refine r_ncmp_le C 87 d_Mo_rule_58 (by decide) (by omega) (by omega) (fun c_58 => ?_) (fun c_58 => ?_)
        rotate_left
        · exact absurd c_58 (by decide)
        refine r_iconst C ((-1)) d_Mo_rule_87 (by decide) ?_
        refine r_istore C (lv' := [(5, .int (-1)), (4, .int (-1)), (3, .int (-1)), (2, .int (nI bg)), (0, .ref m0), (1, .int (nI 1))]) d_Mo_rule_88 (by decide) rfl ?_
        refine r_aload_n C 4 d_Mo_rule_90 rfl rfl ?_
        refine r_get C 0 24 d_Mo_rule_91 ci_Mo fi_Mo_94 rfl (by decide) rfl rfl ?_
        refine r_if_lt C 98 d_Mo_rule_94 (by decide) (fun c_94 => ?_) (fun c_94 => ?_)
        · skip
          refine r_lv (lv' := [(0, .ref m0), (1, .int (nI 1)), (2, .int (nI bg)), (3, .int (oI none)), (4, .int (oI none)), (5, .int (oI none))]) [4, 5, 3, 2, 1, 0] rfl ?_
          refine r_eqW (ws' := [(m0, .inr (9, MO ad qth (nI k) (bI qir) (nI tn) qde (nI nr) (nI e) qe (nI so) (nI bg) qva (oI none) (nI op) (bI qiu) qwi qhe qrw qma)), ((ad 2), .inl (g.2.1 0, 2000, .inl (aI T))), ((ad 6), .inl (g.2.1 0, 2000, .inl (aI BE))), ((ad 7), .inl (g.2.1 0, 2000, .inl (aI EN))), ((ad 10), .inl (g.2.1 0, 500, .inl (aI KI))), ((ad 11), .inl (g.2.1 0, 500, .inl (oA CO))), ((ad 12), .inl (g.2.1 0, 500, .inl (oA NU))), ((ad 13), .inl (g.2.1 0, 500, .inl (oA CN))), ((ad 14), .inl (g.2.1 0, 500, .inl (aI LI))), ((ad 15), .inl (g.2.1 0, 500, .inl (aI AR))), ((ad 16), .inl (g.2.1 0, 20000, .inl (aI WH))), ((ad 17), .inl (g.2.1 0, 20000, .inl (aI FI))), ((ad 18), .inl (g.2.1 0, 20000, .inl (aI SE))), ((ad 26), .inl (g.2.1 0, 40, .inl (aI OW))), ((ad 27), .inl (g.2.1 0, 40, .inl (aI OF))), ((ad 28), .inl (g.2.1 0, 40, .inl (aI OS)))]) (by first | rfl | simp) ?_
          exact lp_Mo_rule_98 g (m0 := m0) (ad := ad) (qth := qth) (qde := qde) (qwi := qwi) (qhe := qhe) (qrw := qrw) (qma := qma) (qir := qir) (qiu := qiu) (k := k) (so := so) (e := e) (tn := tn) (op := op) (nr := nr) (bg := bg) (ki := 1) (qe := qe) (qva := qva) (T := T) (BE := BE) (EN := EN) (OW := OW) (OF := OF) (OS := OS) (KI := KI) (LI := LI) (AR := AR) (WH := WH) (FI := FI) (SE := SE) (CO := CO) (NU := NU) (CN := CN) hk hT hri hop hnr hki hOW  C E hR _ so e tn qe (nI bg) qva BE EN none none none none (rfl) (hri) (pNums_d (by decide)) (Nat.lt_succ_self _)
        · exact absurd (by decide) c_94
  · skip
    refine r_iload_n C 2 d_Mo_rule_5 rfl rfl ?_
    refine r_iconst C (nI 5) d_Mo_rule_6 (by decide) ?_
    refine r_ncmp_ne C 20 d_Mo_rule_7 (by decide) (by omega) (by omega) (fun c_7 => ?_) (fun c_7 => ?_)
    rotate_left
    · exact absurd c_7 (by decide)
    refine r_iconst C ((-1)) d_Mo_rule_20 (by decide) ?_
    refine r_istore_n C (lv' := [(3, .int (-1)), (2, .int (nI bg)), (0, .ref m0), (1, .int (nI 2))]) d_Mo_rule_21 rfl (by decide) rfl ?_
    refine r_aload_n C 2 d_Mo_rule_22 rfl rfl ?_
    refine r_get C 0 24 d_Mo_rule_23 ci_Mo fi_Mo_94 rfl (by decide) rfl rfl ?_
    refine r_if_ge C 46 d_Mo_rule_26 (by decide) (fun c_26 => ?_) (fun c_26 => ?_)
    · exact absurd c_26 (by decide)
    · skip
      refine r_iload_n C 3 d_Mo_rule_29 rfl rfl ?_
      refine r_iconst C (nI 4) d_Mo_rule_30 (by decide) ?_
      refine r_ncmp_eq C 39 d_Mo_rule_31 (by decide) (by omega) (by omega) (fun c_31 => ?_) (fun c_31 => ?_)
      · exact absurd c_31 (by decide)
      refine r_iload_n C 3 d_Mo_rule_34 rfl rfl ?_
      refine r_iconst C (nI 5) d_Mo_rule_35 (by decide) ?_
      refine r_ncmp_ne C 46 d_Mo_rule_36 (by decide) (by omega) (by omega) (fun c_36 => ?_) (fun c_36 => ?_)
      rotate_left
      · exact absurd c_36 (by decide)
      refine r_iconst C ((-1)) d_Mo_rule_46 (by decide) ?_
      refine r_istore C (lv' := [(4, .int (-1)), (3, .int (-1)), (2, .int (nI bg)), (0, .ref m0), (1, .int (nI 2))]) d_Mo_rule_47 (by decide) rfl ?_
      refine r_aload_n C 3 d_Mo_rule_49 rfl rfl ?_
      refine r_get C 0 24 d_Mo_rule_50 ci_Mo fi_Mo_94 rfl (by decide) rfl rfl ?_
      refine r_if_ge C 87 d_Mo_rule_53 (by decide) (fun c_53 => ?_) (fun c_53 => ?_)
      · exact absurd c_53 (by decide)
      · skip
        refine r_iload_n C 4 d_Mo_rule_56 rfl rfl ?_
        refine r_iconst C (nI 3) d_Mo_rule_57 (by decide) ?_
        refine r_ncmp_le C 87 d_Mo_rule_58 (by decide) (by omega) (by omega) (fun c_58 => ?_) (fun c_58 => ?_)
        rotate_left
        · exact absurd c_58 (by decide)
        refine r_iconst C ((-1)) d_Mo_rule_87 (by decide) ?_
        refine r_istore C (lv' := [(5, .int (-1)), (4, .int (-1)), (3, .int (-1)), (2, .int (nI bg)), (0, .ref m0), (1, .int (nI 2))]) d_Mo_rule_88 (by decide) rfl ?_
        refine r_aload_n C 4 d_Mo_rule_90 rfl rfl ?_
        refine r_get C 0 24 d_Mo_rule_91 ci_Mo fi_Mo_94 rfl (by decide) rfl rfl ?_
        refine r_if_lt C 98 d_Mo_rule_94 (by decide) (fun c_94 => ?_) (fun c_94 => ?_)
        · skip
          refine r_lv (lv' := [(0, .ref m0), (1, .int (nI 2)), (2, .int (nI bg)), (3, .int (oI none)), (4, .int (oI none)), (5, .int (oI none))]) [4, 5, 3, 2, 1, 0] rfl ?_
          refine r_eqW (ws' := [(m0, .inr (9, MO ad qth (nI k) (bI qir) (nI tn) qde (nI nr) (nI e) qe (nI so) (nI bg) qva (oI none) (nI op) (bI qiu) qwi qhe qrw qma)), ((ad 2), .inl (g.2.1 0, 2000, .inl (aI T))), ((ad 6), .inl (g.2.1 0, 2000, .inl (aI BE))), ((ad 7), .inl (g.2.1 0, 2000, .inl (aI EN))), ((ad 10), .inl (g.2.1 0, 500, .inl (aI KI))), ((ad 11), .inl (g.2.1 0, 500, .inl (oA CO))), ((ad 12), .inl (g.2.1 0, 500, .inl (oA NU))), ((ad 13), .inl (g.2.1 0, 500, .inl (oA CN))), ((ad 14), .inl (g.2.1 0, 500, .inl (aI LI))), ((ad 15), .inl (g.2.1 0, 500, .inl (aI AR))), ((ad 16), .inl (g.2.1 0, 20000, .inl (aI WH))), ((ad 17), .inl (g.2.1 0, 20000, .inl (aI FI))), ((ad 18), .inl (g.2.1 0, 20000, .inl (aI SE))), ((ad 26), .inl (g.2.1 0, 40, .inl (aI OW))), ((ad 27), .inl (g.2.1 0, 40, .inl (aI OF))), ((ad 28), .inl (g.2.1 0, 40, .inl (aI OS)))]) (by first | rfl | simp) ?_
          exact lp_Mo_rule_98 g (m0 := m0) (ad := ad) (qth := qth) (qde := qde) (qwi := qwi) (qhe := qhe) (qrw := qrw) (qma := qma) (qir := qir) (qiu := qiu) (k := k) (so := so) (e := e) (tn := tn) (op := op) (nr := nr) (bg := bg) (ki := 2) (qe := qe) (qva := qva) (T := T) (BE := BE) (EN := EN) (OW := OW) (OF := OF) (OS := OS) (KI := KI) (LI := LI) (AR := AR) (WH := WH) (FI := FI) (SE := SE) (CO := CO) (NU := NU) (CN := CN) hk hT hri hop hnr hki hOW  C E hR _ so e tn qe (nI bg) qva BE EN none none none none (rfl) (hri) (pNums_d (by decide)) (Nat.lt_succ_self _)
        · exact absurd (by decide) c_94
  · skip
    refine r_iload_n C 2 d_Mo_rule_5 rfl rfl ?_
    refine r_iconst C (nI 5) d_Mo_rule_6 (by decide) ?_
    refine r_ncmp_ne C 20 d_Mo_rule_7 (by decide) (by omega) (by omega) (fun c_7 => ?_) (fun c_7 => ?_)
    rotate_left
    · exact absurd c_7 (by decide)
    refine r_iconst C ((-1)) d_Mo_rule_20 (by decide) ?_
    refine r_istore_n C (lv' := [(3, .int (-1)), (2, .int (nI bg)), (0, .ref m0), (1, .int (nI 3))]) d_Mo_rule_21 rfl (by decide) rfl ?_
    refine r_aload_n C 2 d_Mo_rule_22 rfl rfl ?_
    refine r_get C 0 24 d_Mo_rule_23 ci_Mo fi_Mo_94 rfl (by decide) rfl rfl ?_
    refine r_if_ge C 46 d_Mo_rule_26 (by decide) (fun c_26 => ?_) (fun c_26 => ?_)
    · exact absurd c_26 (by decide)
    · skip
      refine r_iload_n C 3 d_Mo_rule_29 rfl rfl ?_
      refine r_iconst C (nI 4) d_Mo_rule_30 (by decide) ?_
      refine r_ncmp_eq C 39 d_Mo_rule_31 (by decide) (by omega) (by omega) (fun c_31 => ?_) (fun c_31 => ?_)
      · exact absurd c_31 (by decide)
      refine r_iload_n C 3 d_Mo_rule_34 rfl rfl ?_
      refine r_iconst C (nI 5) d_Mo_rule_35 (by decide) ?_
      refine r_ncmp_ne C 46 d_Mo_rule_36 (by decide) (by omega) (by omega) (fun c_36 => ?_) (fun c_36 => ?_)
      rotate_left
      · exact absurd c_36 (by decide)
      refine r_iconst C ((-1)) d_Mo_rule_46 (by decide) ?_
      refine r_istore C (lv' := [(4, .int (-1)), (3, .int (-1)), (2, .int (nI bg)), (0, .ref m0), (1, .int (nI 3))]) d_Mo_rule_47 (by decide) rfl ?_
      refine r_aload_n C 3 d_Mo_rule_49 rfl rfl ?_
      refine r_get C 0 24 d_Mo_rule_50 ci_Mo fi_Mo_94 rfl (by decide) rfl rfl ?_
      refine r_if_ge C 87 d_Mo_rule_53 (by decide) (fun c_53 => ?_) (fun c_53 => ?_)
      · exact absurd c_53 (by decide)
      · skip
        refine r_iload_n C 4 d_Mo_rule_56 rfl rfl ?_
        refine r_iconst C (nI 3) d_Mo_rule_57 (by decide) ?_
        refine r_ncmp_le C 87 d_Mo_rule_58 (by decide) (by omega) (by omega) (fun c_58 => ?_) (fun c_58 => ?_)
        rotate_left
        · exact absurd c_58 (by decide)
        refine r_iconst C ((-1)) d_Mo_rule_87 (by decide) ?_
        refine r_istore C (lv' := [(5, .int (-1)), (4, .int (-1)), (3, .int (-1)), (2, .int (nI bg)), (0, .ref m0), (1, .int (nI 3))]) d_Mo_rule_88 (by decide) rfl ?_
        refine r_aload_n C 4 d_Mo_rule_90 rfl rfl ?_
        refine r_get C 0 24 d_Mo_rule_91 ci_Mo fi_Mo_94 rfl (by decide) rfl rfl ?_
        refine r_if_lt C 98 d_Mo_rule_94 (by decide) (fun c_94 => ?_) (fun c_94 => ?_)
        · skip
          refine r_lv (lv' := [(0, .ref m0), (1, .int (nI 3)), (2, .int (nI bg)), (3, .int (oI none)), (4, .int (oI none)), (5, .int (oI none))]) [4, 5, 3, 2, 1, 0] rfl ?_
          refine r_eqW (ws' := [(m0, .inr (9, MO ad qth (nI k) (bI qir) (nI tn) qde (nI nr) (nI e) qe (nI so) (nI bg) qva (oI none) (nI op) (bI qiu) qwi qhe qrw qma)), ((ad 2), .inl (g.2.1 0, 2000, .inl (aI T))), ((ad 6), .inl (g.2.1 0, 2000, .inl (aI BE))), ((ad 7), .inl (g.2.1 0, 2000, .inl (aI EN))), ((ad 10), .inl (g.2.1 0, 500, .inl (aI KI))), ((ad 11), .inl (g.2.1 0, 500, .inl (oA CO))), ((ad 12), .inl (g.2.1 0, 500, .inl (oA NU))), ((ad 13), .inl (g.2.1 0, 500, .inl (oA CN))), ((ad 14), .inl (g.2.1 0, 500, .inl (aI LI))), ((ad 15), .inl (g.2.1 0, 500, .inl (aI AR))), ((ad 16), .inl (g.2.1 0, 20000, .inl (aI WH))), ((ad 17), .inl (g.2.1 0, 20000, .inl (aI FI))), ((ad 18), .inl (g.2.1 0, 20000, .inl (aI SE))), ((ad 26), .inl (g.2.1 0, 40, .inl (aI OW))), ((ad 27), .inl (g.2.1 0, 40, .inl (aI OF))), ((ad 28), .inl (g.2.1 0, 40, .inl (aI OS)))]) (by first | rfl | simp) ?_
          exact lp_Mo_rule_98 g (m0 := m0) (ad := ad) (qth := qth) (qde := qde) (qwi := qwi) (qhe := qhe) (qrw := qrw) (qma := qma) (qir := qir) (qiu := qiu) (k := k) (so := so) (e := e) (tn := tn) (op := op) (nr := nr) (bg := bg) (ki := 3) (qe := qe) (qva := qva) (T := T) (BE := BE) (EN := EN) (OW := OW) (OF := OF) (OS := OS) (KI := KI) (LI := LI) (AR := AR) (WH := WH) (FI := FI) (SE := SE) (CO := CO) (NU := NU) (CN := CN) hk hT hri hop hnr hki hOW  C E hR _ so e tn qe (nI bg) qva BE EN none none none none (rfl) (hri) (pNums_d (by decide)) (Nat.lt_succ_self _)
        · exact absurd (by decide) c_94
  · skip
    refine r_iload_n C 2 d_Mo_rule_5 rfl rfl ?_
    refine r_iconst C (nI 5) d_Mo_rule_6 (by decide) ?_
    refine r_ncmp_ne C 20 d_Mo_rule_7 (by decide) (by omega) (by omega) (fun c_7 => ?_) (fun c_7 => ?_)
    rotate_left
    · exact absurd c_7 (by decide)
    refine r_iconst C ((-1)) d_Mo_rule_20 (by decide) ?_
    refine r_istore_n C (lv' := [(3, .int (-1)), (2, .int (nI bg)), (0, .ref m0), (1, .int (nI 4))]) d_Mo_rule_21 rfl (by decide) rfl ?_
    refine r_aload_n C 2 d_Mo_rule_22 rfl rfl ?_
    refine r_get C 0 24 d_Mo_rule_23 ci_Mo fi_Mo_94 rfl (by decide) rfl rfl ?_
    refine r_if_ge C 46 d_Mo_rule_26 (by decide) (fun c_26 => ?_) (fun c_26 => ?_)
    · exact absurd c_26 (by decide)
    · skip
      refine r_iload_n C 3 d_Mo_rule_29 rfl rfl ?_
      refine r_iconst C (nI 4) d_Mo_rule_30 (by decide) ?_
      refine r_ncmp_eq C 39 d_Mo_rule_31 (by decide) (by omega) (by omega) (fun c_31 => ?_) (fun c_31 => ?_)
      rotate_left
      · exact absurd c_31 (by decide)
      refine r_aload_n C 2 d_Mo_rule_39 rfl rfl ?_
      refine j_callV C (c_Mo_comparison g (xl x) (m0 := m0) (ad := ad) (qth := qth) (qde := qde) (qru := nI nr) (qbe := nI bg) (qva := qva) (qop := nI op) (qwi := qwi) (qhe := qhe) (qrw := qrw) (qma := qma) (qir := qir) (qiu := qiu) (k := k) (so := so) (e := e) (tn := tn) (qe := qe) (wr := none) (T := T) (BE := BE) (EN := EN) (by first | assumption | omega | rfl) (by first | assumption | omega | rfl) (by first | exact hri14 | exact hri) (rfl)) (Sp.of (wr := [((ad 10), .inl (g.2.1 0, 500, .inl (aI KI))), ((ad 11), .inl (g.2.1 0, 500, .inl (oA CO))), ((ad 12), .inl (g.2.1 0, 500, .inl (oA NU))), ((ad 13), .inl (g.2.1 0, 500, .inl (oA CN))), ((ad 14), .inl (g.2.1 0, 500, .inl (aI LI))), ((ad 15), .inl (g.2.1 0, 500, .inl (aI AR))), ((ad 16), .inl (g.2.1 0, 20000, .inl (aI WH))), ((ad 17), .inl (g.2.1 0, 20000, .inl (aI FI))), ((ad 18), .inl (g.2.1 0, 20000, .inl (aI SE))), ((ad 26), .inl (g.2.1 0, 40, .inl (aI OW))), ((ad 27), .inl (g.2.1 0, 40, .inl (aI OF))), ((ad 28), .inl (g.2.1 0, 40, .inl (aI OS)))]) [0, 1, 2, 3] [4, 5, 6, 7, 8, 9, 10, 11, 12, 13, 14, 15] rfl rfl rfl rfl (by decide)) d_Mo_rule_40 lk_Mo_181 mw_Mo_comparison vw_Mo_comparison (q0 := 0) rfl rfl (fit_of hR (by first | decide | (simp only [rmk]; omega)) (by first | decide | (simp only [rmk]; omega)) (by first | decide | (simp only [rmk]; omega)) (by first | decide | (simp only [rmk]; omega))) rfl (cat8 (Nat.le_of_ble_eq_true rfl)) (As := []) (rest := []) rfl (fun r_40 w_40 hp_40 => ?_)
      obtain ⟨so2_40, e2_40, tn2_40, bg2_40, z2_40, wr2_40, BE2_40, EN2_40, cm_40, rfl, rfl, hri2_40, hcm_40, hc3_40⟩ := hp_40
      refine r_after (ws' := [(m0, .inr (9, MO ad qth (nI k) (bI qir) (nI tn2_40) qde (nI nr) (nI e2_40) (nI e2_40) (nI so2_40) (nI bg2_40) (nI z2_40) (oI wr2_40) (nI op) (bI qiu) qwi qhe qrw qma)), ((ad 2), .inl (g.2.1 0, 2000, .inl (aI T))), ((ad 6), .inl (g.2.1 0, 2000, .inl (aI BE2_40))), ((ad 7), .inl (g.2.1 0, 2000, .inl (aI EN2_40))), ((ad 10), .inl (g.2.1 0, 500, .inl (aI KI))), ((ad 11), .inl (g.2.1 0, 500, .inl (oA CO))), ((ad 12), .inl (g.2.1 0, 500, .inl (oA NU))), ((ad 13), .inl (g.2.1 0, 500, .inl (oA CN))), ((ad 14), .inl (g.2.1 0, 500, .inl (aI LI))), ((ad 15), .inl (g.2.1 0, 500, .inl (aI AR))), ((ad 16), .inl (g.2.1 0, 20000, .inl (aI WH))), ((ad 17), .inl (g.2.1 0, 20000, .inl (aI FI))), ((ad 18), .inl (g.2.1 0, 20000, .inl (aI SE))), ((ad 26), .inl (g.2.1 0, 40, .inl (aI OW))), ((ad 27), .inl (g.2.1 0, 40, .inl (aI OF))), ((ad 28), .inl (g.2.1 0, 40, .inl (aI OS)))]) (st' := [.int (oI cm_40)]) (n1 := 0) (n2 := 0) [12, 13, 14, 15, 0, 1, 2, 3, 4, 5, 6, 7, 8, 9, 10, 11] rfl rfl rfl rfl rfl ?_
      refine r_goto C 47 d_Mo_rule_43 (by decide) ?_
      refine r_istore C (lv' := [(4, .int (oI cm_40)), (3, .int (-1)), (2, .int (nI bg)), (0, .ref m0), (1, .int (nI 4))]) d_Mo_rule_47 (by decide) rfl ?_
      refine r_aload_n C 3 d_Mo_rule_49 rfl rfl ?_
      refine r_get C 0 24 d_Mo_rule_50 ci_Mo fi_Mo_94 rfl (by decide) rfl rfl ?_
      refine r_if_ge C 87 d_Mo_rule_53 (by decide) (fun c_53 => ?_) (fun c_53 => ?_)
      · skip
        refine r_iconst C ((-1)) d_Mo_rule_87 (by decide) ?_
        refine r_istore C (lv' := [(5, .int (-1)), (4, .int (oI cm_40)), (3, .int (-1)), (2, .int (nI bg)), (0, .ref m0), (1, .int (nI 4))]) d_Mo_rule_88 (by decide) rfl ?_
        refine r_aload_n C 4 d_Mo_rule_90 rfl rfl ?_
        refine r_get C 0 24 d_Mo_rule_91 ci_Mo fi_Mo_94 rfl (by decide) rfl rfl ?_
        refine r_if_lt C 98 d_Mo_rule_94 (by decide) (fun c_94 => ?_) (fun c_94 => ?_)
        · exact absurd c_94 (Int32.not_lt.mpr c_53)
        · skip
          refine r_vret C E d_Mo_rule_97 (by first | decide | omega | (simp only [rmk]; omega)) (by first | decide | omega | (simp only [rmk]; omega)) ?_
          obtain ⟨v9, hv9⟩ := oI_som c_94
          exact ⟨_, _, _, _, _, _, _, _, _, _, _, _, _, _, _, _, _, _, _, _, rfl, rfl, hri2_40, Or.inr ⟨v9, hv9, rl_4b hcm_40 hv9, rfl, rfl, rfl, rfl, rfl, rfl, rfl, rfl, rfl, rfl, rfl⟩⟩
      · skip
        have hzA := oI_lt hri2_40.2.2.2.2.2.2.1 c_53
        have hri40 := hri2_40
        rw [hzA] at hri40
        refine r_eqW (ws' := [(m0, .inr (9, MO ad qth (nI k) (bI qir) (nI tn2_40) qde (nI nr) (nI e2_40) (nI e2_40) (nI so2_40) (nI bg2_40) (nI z2_40) (-1) (nI op) (bI qiu) qwi qhe qrw qma)), ((ad 2), .inl (g.2.1 0, 2000, .inl (aI T))), ((ad 6), .inl (g.2.1 0, 2000, .inl (aI BE2_40))), ((ad 7), .inl (g.2.1 0, 2000, .inl (aI EN2_40))), ((ad 10), .inl (g.2.1 0, 500, .inl (aI KI))), ((ad 11), .inl (g.2.1 0, 500, .inl (oA CO))), ((ad 12), .inl (g.2.1 0, 500, .inl (oA NU))), ((ad 13), .inl (g.2.1 0, 500, .inl (oA CN))), ((ad 14), .inl (g.2.1 0, 500, .inl (aI LI))), ((ad 15), .inl (g.2.1 0, 500, .inl (aI AR))), ((ad 16), .inl (g.2.1 0, 20000, .inl (aI WH))), ((ad 17), .inl (g.2.1 0, 20000, .inl (aI FI))), ((ad 18), .inl (g.2.1 0, 20000, .inl (aI SE))), ((ad 26), .inl (g.2.1 0, 40, .inl (aI OW))), ((ad 27), .inl (g.2.1 0, 40, .inl (aI OF))), ((ad 28), .inl (g.2.1 0, 40, .inl (aI OS)))]) (by rw [hzA]; rfl) ?_
        refine r_iload_n C 4 d_Mo_rule_56 rfl rfl ?_
        refine r_iconst C (nI 3) d_Mo_rule_57 (by decide) ?_
        refine r_ncmp_le C 87 d_Mo_rule_58 (by decide) (by omega) (by omega) (fun c_58 => ?_) (fun c_58 => ?_)
        · exact absurd c_58 (by decide)
        refine r_iload_n C 4 d_Mo_rule_61 rfl rfl ?_
        refine r_bipush C (nI 6) d_Mo_rule_62 (by decide) ?_
        refine r_ncmp_ne C 77 d_Mo_rule_64 (by decide) (by omega) (by omega) (fun c_64 => ?_) (fun c_64 => ?_)
        rotate_left
        · exact absurd c_64 (by decide)
        refine r_aload_n C 3 d_Mo_rule_77 rfl rfl ?_
        refine r_iconst C (nI 0) d_Mo_rule_78 (by decide) ?_
        refine r_ldc C (nI 999999) d_Mo_rule_79 k_Mo_180 ?_
        refine j_callV C (c_Mo_number g (xl x) (m0 := m0) (ad := ad) (qth := qth) (qde := qde) (qru := nI nr) (qbe := nI bg2_40) (qva := nI z2_40) (qop := nI op) (qwi := qwi) (qhe := qhe) (qrw := qrw) (qma := qma) (qir := qir) (qiu := qiu) (k := k) (so := so2_40) (e := e2_40) (tn := tn2_40) (qe := nI e2_40) (wr := none) (T := T) (BE := BE2_40) (EN := EN2_40) (lo := 0) (hi := 999999) (by first | assumption | omega | rfl) (by first | assumption | omega | rfl) (hri40) (by first | assumption | omega | rfl) (by first | assumption | omega | rfl)) (Sp.of (wr := [((ad 10), .inl (g.2.1 0, 500, .inl (aI KI))), ((ad 11), .inl (g.2.1 0, 500, .inl (oA CO))), ((ad 12), .inl (g.2.1 0, 500, .inl (oA NU))), ((ad 13), .inl (g.2.1 0, 500, .inl (oA CN))), ((ad 14), .inl (g.2.1 0, 500, .inl (aI LI))), ((ad 15), .inl (g.2.1 0, 500, .inl (aI AR))), ((ad 16), .inl (g.2.1 0, 20000, .inl (aI WH))), ((ad 17), .inl (g.2.1 0, 20000, .inl (aI FI))), ((ad 18), .inl (g.2.1 0, 20000, .inl (aI SE))), ((ad 26), .inl (g.2.1 0, 40, .inl (aI OW))), ((ad 27), .inl (g.2.1 0, 40, .inl (aI OF))), ((ad 28), .inl (g.2.1 0, 40, .inl (aI OS)))]) [0, 1, 2, 3] [4, 5, 6, 7, 8, 9, 10, 11, 12, 13, 14, 15] rfl rfl rfl rfl (by decide)) d_Mo_rule_81 lk_Mo_169 mw_Mo_number vw_Mo_number (q0 := 0) rfl rfl (fit_of hR (by first | decide | (simp only [rmk]; omega)) (by first | decide | (simp only [rmk]; omega)) (by first | decide | (simp only [rmk]; omega)) (by first | decide | (simp only [rmk]; omega))) rfl (cat8 (Nat.le_of_ble_eq_true rfl)) (As := [.int (nI 0), .int (nI 999999)]) (rest := []) rfl (fun r_81 w_81 hp_81 => ?_)
        obtain ⟨so2_81, e2_81, tn2_81, bg2_81, z2_81, wr2_81, BE2_81, EN2_81, rfl, rfl, hri2_81, hnu_81⟩ := hp_81
        refine r_after (ws' := [(m0, .inr (9, MO ad qth (nI k) (bI qir) (nI tn2_81) qde (nI nr) (nI e2_81) (nI e2_81) (nI so2_81) (nI bg2_81) (nI z2_81) (oI wr2_81) (nI op) (bI qiu) qwi qhe qrw qma)), ((ad 2), .inl (g.2.1 0, 2000, .inl (aI T))), ((ad 6), .inl (g.2.1 0, 2000, .inl (aI BE2_81))), ((ad 7), .inl (g.2.1 0, 2000, .inl (aI EN2_81))), ((ad 10), .inl (g.2.1 0, 500, .inl (aI KI))), ((ad 11), .inl (g.2.1 0, 500, .inl (oA CO))), ((ad 12), .inl (g.2.1 0, 500, .inl (oA NU))), ((ad 13), .inl (g.2.1 0, 500, .inl (oA CN))), ((ad 14), .inl (g.2.1 0, 500, .inl (aI LI))), ((ad 15), .inl (g.2.1 0, 500, .inl (aI AR))), ((ad 16), .inl (g.2.1 0, 20000, .inl (aI WH))), ((ad 17), .inl (g.2.1 0, 20000, .inl (aI FI))), ((ad 18), .inl (g.2.1 0, 20000, .inl (aI SE))), ((ad 26), .inl (g.2.1 0, 40, .inl (aI OW))), ((ad 27), .inl (g.2.1 0, 40, .inl (aI OF))), ((ad 28), .inl (g.2.1 0, 40, .inl (aI OS)))]) (st' := [.int (nI z2_81)]) (n1 := 0) (n2 := 0) [12, 13, 14, 15, 0, 1, 2, 3, 4, 5, 6, 7, 8, 9, 10, 11] rfl rfl rfl rfl rfl ?_
        refine r_goto C 88 d_Mo_rule_84 (by decide) ?_
        refine r_istore C (lv' := [(5, .int (nI z2_81)), (4, .int (oI cm_40)), (3, .int (-1)), (2, .int (nI bg)), (0, .ref m0), (1, .int (nI 4))]) d_Mo_rule_88 (by decide) rfl ?_
        refine r_aload_n C 4 d_Mo_rule_90 rfl rfl ?_
        refine r_get C 0 24 d_Mo_rule_91 ci_Mo fi_Mo_94 rfl (by decide) rfl rfl ?_
        refine r_if_lt C 98 d_Mo_rule_94 (by decide) (fun c_94 => ?_) (fun c_94 => ?_)
        · skip
          refine r_lv (lv' := [(0, .ref m0), (1, .int (nI 4)), (2, .int (nI bg)), (3, .int (oI none)), (4, .int (oI cm_40)), (5, .int (oI (some z2_81)))]) [4, 5, 3, 2, 1, 0] rfl ?_
          exact lp_Mo_rule_98 g (m0 := m0) (ad := ad) (qth := qth) (qde := qde) (qwi := qwi) (qhe := qhe) (qrw := qrw) (qma := qma) (qir := qir) (qiu := qiu) (k := k) (so := so) (e := e) (tn := tn) (op := op) (nr := nr) (bg := bg) (ki := 4) (qe := qe) (qva := qva) (T := T) (BE := BE) (EN := EN) (OW := OW) (OF := OF) (OS := OS) (KI := KI) (LI := LI) (AR := AR) (WH := WH) (FI := FI) (SE := SE) (CO := CO) (NU := NU) (CN := CN) hk hT hri hop hnr hki hOW  C E hR _ so2_81 e2_81 tn2_81 (nI e2_81) (nI bg2_81) (nI z2_81) BE2_81 EN2_81 cm_40 (some z2_81) none wr2_81 (oI_non hri2_81.2.2.2.2.2.2.1 c_94) (hri2_81) ((rl_4n hcm_40 hzA hnu_81).1 (oI_non hri2_81.2.2.2.2.2.2.1 c_94)) (Nat.lt_succ_self _)
        · skip
          refine r_vret C E d_Mo_rule_97 (by first | decide | omega | (simp only [rmk]; omega)) (by first | decide | omega | (simp only [rmk]; omega)) ?_
          obtain ⟨v9, hv9⟩ := oI_som c_94
          exact ⟨_, _, _, _, _, _, _, _, _, _, _, _, _, _, _, _, _, _, _, _, rfl, rfl, hri2_81, Or.inr ⟨v9, hv9, (rl_4n hcm_40 hzA hnu_81).2 v9 hv9, rfl, rfl, rfl, rfl, rfl, rfl, rfl, rfl, rfl, rfl, rfl⟩⟩
  · skip
    refine r_iload_n C 2 d_Mo_rule_5 rfl rfl ?_
    refine r_iconst C (nI 5) d_Mo_rule_6 (by decide) ?_
    refine r_ncmp_ne C 20 d_Mo_rule_7 (by decide) (by omega) (by omega) (fun c_7 => ?_) (fun c_7 => ?_)
    · exact absurd c_7 (by decide)
    refine r_aload_n C 1 d_Mo_rule_10 rfl rfl ?_
    refine r_iconst C (nI 0) d_Mo_rule_11 (by decide) ?_
    refine r_ldc C (nI 999999) d_Mo_rule_12 k_Mo_180 ?_
    refine j_callV C (c_Mo_number g (xl x) (m0 := m0) (ad := ad) (qth := qth) (qde := qde) (qru := nI nr) (qbe := nI bg) (qva := qva) (qop := nI op) (qwi := qwi) (qhe := qhe) (qrw := qrw) (qma := qma) (qir := qir) (qiu := qiu) (k := k) (so := so) (e := e) (tn := tn) (qe := qe) (wr := none) (T := T) (BE := BE) (EN := EN) (lo := 0) (hi := 999999) (by first | assumption | omega | rfl) (by first | assumption | omega | rfl) (hri) (by first | assumption | omega | rfl) (by first | assumption | omega | rfl)) (Sp.of (wr := [((ad 10), .inl (g.2.1 0, 500, .inl (aI KI))), ((ad 11), .inl (g.2.1 0, 500, .inl (oA CO))), ((ad 12), .inl (g.2.1 0, 500, .inl (oA NU))), ((ad 13), .inl (g.2.1 0, 500, .inl (oA CN))), ((ad 14), .inl (g.2.1 0, 500, .inl (aI LI))), ((ad 15), .inl (g.2.1 0, 500, .inl (aI AR))), ((ad 16), .inl (g.2.1 0, 20000, .inl (aI WH))), ((ad 17), .inl (g.2.1 0, 20000, .inl (aI FI))), ((ad 18), .inl (g.2.1 0, 20000, .inl (aI SE))), ((ad 26), .inl (g.2.1 0, 40, .inl (aI OW))), ((ad 27), .inl (g.2.1 0, 40, .inl (aI OF))), ((ad 28), .inl (g.2.1 0, 40, .inl (aI OS)))]) [0, 1, 2, 3] [4, 5, 6, 7, 8, 9, 10, 11, 12, 13, 14, 15] rfl rfl rfl rfl (by decide)) d_Mo_rule_14 lk_Mo_169 mw_Mo_number vw_Mo_number (q0 := 0) rfl rfl (fit_of hR (by first | decide | (simp only [rmk]; omega)) (by first | decide | (simp only [rmk]; omega)) (by first | decide | (simp only [rmk]; omega)) (by first | decide | (simp only [rmk]; omega))) rfl (cat8 (Nat.le_of_ble_eq_true rfl)) (As := [.int (nI 0), .int (nI 999999)]) (rest := []) rfl (fun r_14 w_14 hp_14 => ?_)
    obtain ⟨so2_14, e2_14, tn2_14, bg2_14, z2_14, wr2_14, BE2_14, EN2_14, rfl, rfl, hri2_14, hnu_14⟩ := hp_14
    refine r_after (ws' := [(m0, .inr (9, MO ad qth (nI k) (bI qir) (nI tn2_14) qde (nI nr) (nI e2_14) (nI e2_14) (nI so2_14) (nI bg2_14) (nI z2_14) (oI wr2_14) (nI op) (bI qiu) qwi qhe qrw qma)), ((ad 2), .inl (g.2.1 0, 2000, .inl (aI T))), ((ad 6), .inl (g.2.1 0, 2000, .inl (aI BE2_14))), ((ad 7), .inl (g.2.1 0, 2000, .inl (aI EN2_14))), ((ad 10), .inl (g.2.1 0, 500, .inl (aI KI))), ((ad 11), .inl (g.2.1 0, 500, .inl (oA CO))), ((ad 12), .inl (g.2.1 0, 500, .inl (oA NU))), ((ad 13), .inl (g.2.1 0, 500, .inl (oA CN))), ((ad 14), .inl (g.2.1 0, 500, .inl (aI LI))), ((ad 15), .inl (g.2.1 0, 500, .inl (aI AR))), ((ad 16), .inl (g.2.1 0, 20000, .inl (aI WH))), ((ad 17), .inl (g.2.1 0, 20000, .inl (aI FI))), ((ad 18), .inl (g.2.1 0, 20000, .inl (aI SE))), ((ad 26), .inl (g.2.1 0, 40, .inl (aI OW))), ((ad 27), .inl (g.2.1 0, 40, .inl (aI OF))), ((ad 28), .inl (g.2.1 0, 40, .inl (aI OS)))]) (st' := [.int (nI z2_14)]) (n1 := 0) (n2 := 0) [12, 13, 14, 15, 0, 1, 2, 3, 4, 5, 6, 7, 8, 9, 10, 11] rfl rfl rfl rfl rfl ?_
    refine r_goto C 21 d_Mo_rule_17 (by decide) ?_
    refine r_istore_n C (lv' := [(3, .int (nI z2_14)), (2, .int (nI bg)), (0, .ref m0), (1, .int (nI 5))]) d_Mo_rule_21 rfl (by decide) rfl ?_
    refine r_aload_n C 2 d_Mo_rule_22 rfl rfl ?_
    refine r_get C 0 24 d_Mo_rule_23 ci_Mo fi_Mo_94 rfl (by decide) rfl rfl ?_
    refine r_if_ge C 46 d_Mo_rule_26 (by decide) (fun c_26 => ?_) (fun c_26 => ?_)
    · skip
      refine r_iconst C ((-1)) d_Mo_rule_46 (by decide) ?_
      refine r_istore C (lv' := [(4, .int (-1)), (3, .int (nI z2_14)), (2, .int (nI bg)), (0, .ref m0), (1, .int (nI 5))]) d_Mo_rule_47 (by decide) rfl ?_
      refine r_aload_n C 3 d_Mo_rule_49 rfl rfl ?_
      refine r_get C 0 24 d_Mo_rule_50 ci_Mo fi_Mo_94 rfl (by decide) rfl rfl ?_
      refine r_if_ge C 87 d_Mo_rule_53 (by decide) (fun c_53 => ?_) (fun c_53 => ?_)
      · skip
        refine r_iconst C ((-1)) d_Mo_rule_87 (by decide) ?_
        refine r_istore C (lv' := [(5, .int (-1)), (4, .int (-1)), (3, .int (nI z2_14)), (2, .int (nI bg)), (0, .ref m0), (1, .int (nI 5))]) d_Mo_rule_88 (by decide) rfl ?_
        refine r_aload_n C 4 d_Mo_rule_90 rfl rfl ?_
        refine r_get C 0 24 d_Mo_rule_91 ci_Mo fi_Mo_94 rfl (by decide) rfl rfl ?_
        refine r_if_lt C 98 d_Mo_rule_94 (by decide) (fun c_94 => ?_) (fun c_94 => ?_)
        · exact absurd c_94 (Int32.not_lt.mpr c_53)
        · skip
          refine r_vret C E d_Mo_rule_97 (by first | decide | omega | (simp only [rmk]; omega)) (by first | decide | omega | (simp only [rmk]; omega)) ?_
          obtain ⟨v9, hv9⟩ := oI_som c_94
          exact ⟨_, _, _, _, _, _, _, _, _, _, _, _, _, _, _, _, _, _, _, _, rfl, rfl, hri2_14, Or.inr ⟨v9, hv9, rl_5a hnu_14 hv9, rfl, rfl, rfl, rfl, rfl, rfl, rfl, rfl, rfl, rfl, rfl⟩⟩
      · exact absurd c_26 c_53
    · skip
      refine r_iload_n C 3 d_Mo_rule_29 rfl rfl ?_
      refine r_iconst C (nI 4) d_Mo_rule_30 (by decide) ?_
      refine r_ncmp_eq C 39 d_Mo_rule_31 (by decide) (by omega) (by omega) (fun c_31 => ?_) (fun c_31 => ?_)
      · exact absurd c_31 (by decide)
      refine r_iload_n C 3 d_Mo_rule_34 rfl rfl ?_
      refine r_iconst C (nI 5) d_Mo_rule_35 (by decide) ?_
      refine r_ncmp_ne C 46 d_Mo_rule_36 (by decide) (by omega) (by omega) (fun c_36 => ?_) (fun c_36 => ?_)
      · exact absurd c_36 (by decide)
      have hz0 := oI_lt hri2_14.2.2.2.2.2.2.1 c_26
      have hri14 := hri2_14
      rw [hz0] at hri14
      refine r_eqW (ws' := [(m0, .inr (9, MO ad qth (nI k) (bI qir) (nI tn2_14) qde (nI nr) (nI e2_14) (nI e2_14) (nI so2_14) (nI bg2_14) (nI z2_14) (-1) (nI op) (bI qiu) qwi qhe qrw qma)), ((ad 2), .inl (g.2.1 0, 2000, .inl (aI T))), ((ad 6), .inl (g.2.1 0, 2000, .inl (aI BE2_14))), ((ad 7), .inl (g.2.1 0, 2000, .inl (aI EN2_14))), ((ad 10), .inl (g.2.1 0, 500, .inl (aI KI))), ((ad 11), .inl (g.2.1 0, 500, .inl (oA CO))), ((ad 12), .inl (g.2.1 0, 500, .inl (oA NU))), ((ad 13), .inl (g.2.1 0, 500, .inl (oA CN))), ((ad 14), .inl (g.2.1 0, 500, .inl (aI LI))), ((ad 15), .inl (g.2.1 0, 500, .inl (aI AR))), ((ad 16), .inl (g.2.1 0, 20000, .inl (aI WH))), ((ad 17), .inl (g.2.1 0, 20000, .inl (aI FI))), ((ad 18), .inl (g.2.1 0, 20000, .inl (aI SE))), ((ad 26), .inl (g.2.1 0, 40, .inl (aI OW))), ((ad 27), .inl (g.2.1 0, 40, .inl (aI OF))), ((ad 28), .inl (g.2.1 0, 40, .inl (aI OS)))]) (by rw [hz0]; rfl) ?_
      refine r_aload_n C 2 d_Mo_rule_39 rfl rfl ?_
      refine j_callV C (c_Mo_comparison g (xl x) (m0 := m0) (ad := ad) (qth := qth) (qde := qde) (qru := nI nr) (qbe := nI bg2_14) (qva := nI z2_14) (qop := nI op) (qwi := qwi) (qhe := qhe) (qrw := qrw) (qma := qma) (qir := qir) (qiu := qiu) (k := k) (so := so2_14) (e := e2_14) (tn := tn2_14) (qe := nI e2_14) (wr := none) (T := T) (BE := BE2_14) (EN := EN2_14) (by first | assumption | omega | rfl) (by first | assumption | omega | rfl) (by first | exact hri14 | exact hri) (rfl)) (Sp.of (wr := [((ad 10), .inl (g.2.1 0, 500, .inl (aI KI))), ((ad 11), .inl (g.2.1 0, 500, .inl (oA CO))), ((ad 12), .inl (g.2.1 0, 500, .inl (oA NU))), ((ad 13), .inl (g.2.1 0, 500, .inl (oA CN))), ((ad 14), .inl (g.2.1 0, 500, .inl (aI LI))), ((ad 15), .inl (g.2.1 0, 500, .inl (aI AR))), ((ad 16), .inl (g.2.1 0, 20000, .inl (aI WH))), ((ad 17), .inl (g.2.1 0, 20000, .inl (aI FI))), ((ad 18), .inl (g.2.1 0, 20000, .inl (aI SE))), ((ad 26), .inl (g.2.1 0, 40, .inl (aI OW))), ((ad 27), .inl (g.2.1 0, 40, .inl (aI OF))), ((ad 28), .inl (g.2.1 0, 40, .inl (aI OS)))]) [0, 1, 2, 3] [4, 5, 6, 7, 8, 9, 10, 11, 12, 13, 14, 15] rfl rfl rfl rfl (by decide)) d_Mo_rule_40 lk_Mo_181 mw_Mo_comparison vw_Mo_comparison (q0 := 0) rfl rfl (fit_of hR (by first | decide | (simp only [rmk]; omega)) (by first | decide | (simp only [rmk]; omega)) (by first | decide | (simp only [rmk]; omega)) (by first | decide | (simp only [rmk]; omega))) rfl (cat8 (Nat.le_of_ble_eq_true rfl)) (As := []) (rest := []) rfl (fun r_40 w_40 hp_40 => ?_)
      obtain ⟨so2_40, e2_40, tn2_40, bg2_40, z2_40, wr2_40, BE2_40, EN2_40, cm_40, rfl, rfl, hri2_40, hcm_40, hc3_40⟩ := hp_40
      refine r_after (ws' := [(m0, .inr (9, MO ad qth (nI k) (bI qir) (nI tn2_40) qde (nI nr) (nI e2_40) (nI e2_40) (nI so2_40) (nI bg2_40) (nI z2_40) (oI wr2_40) (nI op) (bI qiu) qwi qhe qrw qma)), ((ad 2), .inl (g.2.1 0, 2000, .inl (aI T))), ((ad 6), .inl (g.2.1 0, 2000, .inl (aI BE2_40))), ((ad 7), .inl (g.2.1 0, 2000, .inl (aI EN2_40))), ((ad 10), .inl (g.2.1 0, 500, .inl (aI KI))), ((ad 11), .inl (g.2.1 0, 500, .inl (oA CO))), ((ad 12), .inl (g.2.1 0, 500, .inl (oA NU))), ((ad 13), .inl (g.2.1 0, 500, .inl (oA CN))), ((ad 14), .inl (g.2.1 0, 500, .inl (aI LI))), ((ad 15), .inl (g.2.1 0, 500, .inl (aI AR))), ((ad 16), .inl (g.2.1 0, 20000, .inl (aI WH))), ((ad 17), .inl (g.2.1 0, 20000, .inl (aI FI))), ((ad 18), .inl (g.2.1 0, 20000, .inl (aI SE))), ((ad 26), .inl (g.2.1 0, 40, .inl (aI OW))), ((ad 27), .inl (g.2.1 0, 40, .inl (aI OF))), ((ad 28), .inl (g.2.1 0, 40, .inl (aI OS)))]) (st' := [.int (oI cm_40)]) (n1 := 0) (n2 := 0) [12, 13, 14, 15, 0, 1, 2, 3, 4, 5, 6, 7, 8, 9, 10, 11] rfl rfl rfl rfl rfl ?_
      refine r_goto C 47 d_Mo_rule_43 (by decide) ?_
      refine r_istore C (lv' := [(4, .int (oI cm_40)), (3, .int (nI z2_14)), (2, .int (nI bg)), (0, .ref m0), (1, .int (nI 5))]) d_Mo_rule_47 (by decide) rfl ?_
      refine r_aload_n C 3 d_Mo_rule_49 rfl rfl ?_
      refine r_get C 0 24 d_Mo_rule_50 ci_Mo fi_Mo_94 rfl (by decide) rfl rfl ?_
      refine r_if_ge C 87 d_Mo_rule_53 (by decide) (fun c_53 => ?_) (fun c_53 => ?_)
      · skip
        refine r_iconst C ((-1)) d_Mo_rule_87 (by decide) ?_
        refine r_istore C (lv' := [(5, .int (-1)), (4, .int (oI cm_40)), (3, .int (nI z2_14)), (2, .int (nI bg)), (0, .ref m0), (1, .int (nI 5))]) d_Mo_rule_88 (by decide) rfl ?_
        refine r_aload_n C 4 d_Mo_rule_90 rfl rfl ?_
        refine r_get C 0 24 d_Mo_rule_91 ci_Mo fi_Mo_94 rfl (by decide) rfl rfl ?_
        refine r_if_lt C 98 d_Mo_rule_94 (by decide) (fun c_94 => ?_) (fun c_94 => ?_)
        · exact absurd c_94 (Int32.not_lt.mpr c_53)
        · skip
          refine r_vret C E d_Mo_rule_97 (by first | decide | omega | (simp only [rmk]; omega)) (by first | decide | omega | (simp only [rmk]; omega)) ?_
          obtain ⟨v9, hv9⟩ := oI_som c_94
          exact ⟨_, _, _, _, _, _, _, _, _, _, _, _, _, _, _, _, _, _, _, _, rfl, rfl, hri2_40, Or.inr ⟨v9, hv9, rl_5b hnu_14 hz0 hcm_40 hv9, rfl, rfl, rfl, rfl, rfl, rfl, rfl, rfl, rfl, rfl, rfl⟩⟩
      · skip
        have hzA := oI_lt hri2_40.2.2.2.2.2.2.1 c_53
        have hri40 := hri2_40
        rw [hzA] at hri40
        refine r_eqW (ws' := [(m0, .inr (9, MO ad qth (nI k) (bI qir) (nI tn2_40) qde (nI nr) (nI e2_40) (nI e2_40) (nI so2_40) (nI bg2_40) (nI z2_40) (-1) (nI op) (bI qiu) qwi qhe qrw qma)), ((ad 2), .inl (g.2.1 0, 2000, .inl (aI T))), ((ad 6), .inl (g.2.1 0, 2000, .inl (aI BE2_40))), ((ad 7), .inl (g.2.1 0, 2000, .inl (aI EN2_40))), ((ad 10), .inl (g.2.1 0, 500, .inl (aI KI))), ((ad 11), .inl (g.2.1 0, 500, .inl (oA CO))), ((ad 12), .inl (g.2.1 0, 500, .inl (oA NU))), ((ad 13), .inl (g.2.1 0, 500, .inl (oA CN))), ((ad 14), .inl (g.2.1 0, 500, .inl (aI LI))), ((ad 15), .inl (g.2.1 0, 500, .inl (aI AR))), ((ad 16), .inl (g.2.1 0, 20000, .inl (aI WH))), ((ad 17), .inl (g.2.1 0, 20000, .inl (aI FI))), ((ad 18), .inl (g.2.1 0, 20000, .inl (aI SE))), ((ad 26), .inl (g.2.1 0, 40, .inl (aI OW))), ((ad 27), .inl (g.2.1 0, 40, .inl (aI OF))), ((ad 28), .inl (g.2.1 0, 40, .inl (aI OS)))]) (by rw [hzA]; rfl) ?_
        refine r_iload_n C 4 d_Mo_rule_56 rfl rfl ?_
        refine r_iconst C (nI 3) d_Mo_rule_57 (by decide) ?_
        refine r_ncmp_le C 87 d_Mo_rule_58 (by decide) (by omega) (by omega) (fun c_58 => ?_) (fun c_58 => ?_)
        · exact absurd c_58 (by decide)
        refine r_iload_n C 4 d_Mo_rule_61 rfl rfl ?_
        refine r_bipush C (nI 6) d_Mo_rule_62 (by decide) ?_
        refine r_ncmp_ne C 77 d_Mo_rule_64 (by decide) (by omega) (by omega) (fun c_64 => ?_) (fun c_64 => ?_)
        rotate_left
        · exact absurd c_64 (by decide)
        refine r_aload_n C 3 d_Mo_rule_77 rfl rfl ?_
        refine r_iconst C (nI 0) d_Mo_rule_78 (by decide) ?_
        refine r_ldc C (nI 999999) d_Mo_rule_79 k_Mo_180 ?_
        refine j_callV C (c_Mo_number g (xl x) (m0 := m0) (ad := ad) (qth := qth) (qde := qde) (qru := nI nr) (qbe := nI bg2_40) (qva := nI z2_40) (qop := nI op) (qwi := qwi) (qhe := qhe) (qrw := qrw) (qma := qma) (qir := qir) (qiu := qiu) (k := k) (so := so2_40) (e := e2_40) (tn := tn2_40) (qe := nI e2_40) (wr := none) (T := T) (BE := BE2_40) (EN := EN2_40) (lo := 0) (hi := 999999) (by first | assumption | omega | rfl) (by first | assumption | omega | rfl) (hri40) (by first | assumption | omega | rfl) (by first | assumption | omega | rfl)) (Sp.of (wr := [((ad 10), .inl (g.2.1 0, 500, .inl (aI KI))), ((ad 11), .inl (g.2.1 0, 500, .inl (oA CO))), ((ad 12), .inl (g.2.1 0, 500, .inl (oA NU))), ((ad 13), .inl (g.2.1 0, 500, .inl (oA CN))), ((ad 14), .inl (g.2.1 0, 500, .inl (aI LI))), ((ad 15), .inl (g.2.1 0, 500, .inl (aI AR))), ((ad 16), .inl (g.2.1 0, 20000, .inl (aI WH))), ((ad 17), .inl (g.2.1 0, 20000, .inl (aI FI))), ((ad 18), .inl (g.2.1 0, 20000, .inl (aI SE))), ((ad 26), .inl (g.2.1 0, 40, .inl (aI OW))), ((ad 27), .inl (g.2.1 0, 40, .inl (aI OF))), ((ad 28), .inl (g.2.1 0, 40, .inl (aI OS)))]) [0, 1, 2, 3] [4, 5, 6, 7, 8, 9, 10, 11, 12, 13, 14, 15] rfl rfl rfl rfl (by decide)) d_Mo_rule_81 lk_Mo_169 mw_Mo_number vw_Mo_number (q0 := 0) rfl rfl (fit_of hR (by first | decide | (simp only [rmk]; omega)) (by first | decide | (simp only [rmk]; omega)) (by first | decide | (simp only [rmk]; omega)) (by first | decide | (simp only [rmk]; omega))) rfl (cat8 (Nat.le_of_ble_eq_true rfl)) (As := [.int (nI 0), .int (nI 999999)]) (rest := []) rfl (fun r_81 w_81 hp_81 => ?_)
        obtain ⟨so2_81, e2_81, tn2_81, bg2_81, z2_81, wr2_81, BE2_81, EN2_81, rfl, rfl, hri2_81, hnu_81⟩ := hp_81
        refine r_after (ws' := [(m0, .inr (9, MO ad qth (nI k) (bI qir) (nI tn2_81) qde (nI nr) (nI e2_81) (nI e2_81) (nI so2_81) (nI bg2_81) (nI z2_81) (oI wr2_81) (nI op) (bI qiu) qwi qhe qrw qma)), ((ad 2), .inl (g.2.1 0, 2000, .inl (aI T))), ((ad 6), .inl (g.2.1 0, 2000, .inl (aI BE2_81))), ((ad 7), .inl (g.2.1 0, 2000, .inl (aI EN2_81))), ((ad 10), .inl (g.2.1 0, 500, .inl (aI KI))), ((ad 11), .inl (g.2.1 0, 500, .inl (oA CO))), ((ad 12), .inl (g.2.1 0, 500, .inl (oA NU))), ((ad 13), .inl (g.2.1 0, 500, .inl (oA CN))), ((ad 14), .inl (g.2.1 0, 500, .inl (aI LI))), ((ad 15), .inl (g.2.1 0, 500, .inl (aI AR))), ((ad 16), .inl (g.2.1 0, 20000, .inl (aI WH))), ((ad 17), .inl (g.2.1 0, 20000, .inl (aI FI))), ((ad 18), .inl (g.2.1 0, 20000, .inl (aI SE))), ((ad 26), .inl (g.2.1 0, 40, .inl (aI OW))), ((ad 27), .inl (g.2.1 0, 40, .inl (aI OF))), ((ad 28), .inl (g.2.1 0, 40, .inl (aI OS)))]) (st' := [.int (nI z2_81)]) (n1 := 0) (n2 := 0) [12, 13, 14, 15, 0, 1, 2, 3, 4, 5, 6, 7, 8, 9, 10, 11] rfl rfl rfl rfl rfl ?_
        refine r_goto C 88 d_Mo_rule_84 (by decide) ?_
        refine r_istore C (lv' := [(5, .int (nI z2_81)), (4, .int (oI cm_40)), (3, .int (nI z2_14)), (2, .int (nI bg)), (0, .ref m0), (1, .int (nI 5))]) d_Mo_rule_88 (by decide) rfl ?_
        refine r_aload_n C 4 d_Mo_rule_90 rfl rfl ?_
        refine r_get C 0 24 d_Mo_rule_91 ci_Mo fi_Mo_94 rfl (by decide) rfl rfl ?_
        refine r_if_lt C 98 d_Mo_rule_94 (by decide) (fun c_94 => ?_) (fun c_94 => ?_)
        · skip
          refine r_lv (lv' := [(0, .ref m0), (1, .int (nI 5)), (2, .int (nI bg)), (3, .int (oI (some z2_14))), (4, .int (oI cm_40)), (5, .int (oI (some z2_81)))]) [4, 5, 3, 2, 1, 0] rfl ?_
          exact lp_Mo_rule_98 g (m0 := m0) (ad := ad) (qth := qth) (qde := qde) (qwi := qwi) (qhe := qhe) (qrw := qrw) (qma := qma) (qir := qir) (qiu := qiu) (k := k) (so := so) (e := e) (tn := tn) (op := op) (nr := nr) (bg := bg) (ki := 5) (qe := qe) (qva := qva) (T := T) (BE := BE) (EN := EN) (OW := OW) (OF := OF) (OS := OS) (KI := KI) (LI := LI) (AR := AR) (WH := WH) (FI := FI) (SE := SE) (CO := CO) (NU := NU) (CN := CN) hk hT hri hop hnr hki hOW  C E hR _ so2_81 e2_81 tn2_81 (nI e2_81) (nI bg2_81) (nI z2_81) BE2_81 EN2_81 cm_40 (some z2_81) (some z2_14) wr2_81 (oI_non hri2_81.2.2.2.2.2.2.1 c_94) (hri2_81) ((rl_5c hnu_14 hz0 hcm_40 hzA hnu_81).1 (oI_non hri2_81.2.2.2.2.2.2.1 c_94)) (Nat.lt_succ_self _)
        · skip
          refine r_vret C E d_Mo_rule_97 (by first | decide | omega | (simp only [rmk]; omega)) (by first | decide | omega | (simp only [rmk]; omega)) ?_
          obtain ⟨v9, hv9⟩ := oI_som c_94
          exact ⟨_, _, _, _, _, _, _, _, _, _, _, _, _, _, _, _, _, _, _, _, rfl, rfl, hri2_81, Or.inr ⟨v9, hv9, (rl_5c hnu_14 hz0 hcm_40 hzA hnu_81).2 v9 hv9, rfl, rfl, rfl, rfl, rfl, rfl, rfl, rfl, rfl, rfl, rfl⟩⟩
  · skip
    refine r_iload_n C 2 d_Mo_rule_5 rfl rfl ?_
    refine r_iconst C (nI 5) d_Mo_rule_6 (by decide) ?_
    refine r_ncmp_ne C 20 d_Mo_rule_7 (by decide) (by omega) (by omega) (fun c_7 => ?_) (fun c_7 => ?_)
    rotate_left
    · exact absurd c_7 (by decide)
    refine r_iconst C ((-1)) d_Mo_rule_20 (by decide) ?_
    refine r_istore_n C (lv' := [(3, .int (-1)), (2, .int (nI bg)), (0, .ref m0), (1, .int (nI 6))]) d_Mo_rule_21 rfl (by decide) rfl ?_
    refine r_aload_n C 2 d_Mo_rule_22 rfl rfl ?_
    refine r_get C 0 24 d_Mo_rule_23 ci_Mo fi_Mo_94 rfl (by decide) rfl rfl ?_
    refine r_if_ge C 46 d_Mo_rule_26 (by decide) (fun c_26 => ?_) (fun c_26 => ?_)
    · exact absurd c_26 (by decide)
    · skip
      refine r_iload_n C 3 d_Mo_rule_29 rfl rfl ?_
      refine r_iconst C (nI 4) d_Mo_rule_30 (by decide) ?_
      refine r_ncmp_eq C 39 d_Mo_rule_31 (by decide) (by omega) (by omega) (fun c_31 => ?_) (fun c_31 => ?_)
      · exact absurd c_31 (by decide)
      refine r_iload_n C 3 d_Mo_rule_34 rfl rfl ?_
      refine r_iconst C (nI 5) d_Mo_rule_35 (by decide) ?_
      refine r_ncmp_ne C 46 d_Mo_rule_36 (by decide) (by omega) (by omega) (fun c_36 => ?_) (fun c_36 => ?_)
      rotate_left
      · exact absurd c_36 (by decide)
      refine r_iconst C ((-1)) d_Mo_rule_46 (by decide) ?_
      refine r_istore C (lv' := [(4, .int (-1)), (3, .int (-1)), (2, .int (nI bg)), (0, .ref m0), (1, .int (nI 6))]) d_Mo_rule_47 (by decide) rfl ?_
      refine r_aload_n C 3 d_Mo_rule_49 rfl rfl ?_
      refine r_get C 0 24 d_Mo_rule_50 ci_Mo fi_Mo_94 rfl (by decide) rfl rfl ?_
      refine r_if_ge C 87 d_Mo_rule_53 (by decide) (fun c_53 => ?_) (fun c_53 => ?_)
      · exact absurd c_53 (by decide)
      · skip
        refine r_iload_n C 4 d_Mo_rule_56 rfl rfl ?_
        refine r_iconst C (nI 3) d_Mo_rule_57 (by decide) ?_
        refine r_ncmp_le C 87 d_Mo_rule_58 (by decide) (by omega) (by omega) (fun c_58 => ?_) (fun c_58 => ?_)
        · exact absurd c_58 (by decide)
        refine r_iload_n C 4 d_Mo_rule_61 rfl rfl ?_
        refine r_bipush C (nI 6) d_Mo_rule_62 (by decide) ?_
        refine r_ncmp_ne C 77 d_Mo_rule_64 (by decide) (by omega) (by omega) (fun c_64 => ?_) (fun c_64 => ?_)
        · exact absurd c_64 (by decide)
        refine r_aload_n C 3 d_Mo_rule_67 rfl rfl ?_
        refine r_iconst C (nI 0) d_Mo_rule_68 (by decide) ?_
        refine r_bipush C (nI 9) d_Mo_rule_69 (by decide) ?_
        refine j_callV C (c_Mo_number g (xl x) (m0 := m0) (ad := ad) (qth := qth) (qde := qde) (qru := nI nr) (qbe := nI bg) (qva := qva) (qop := nI op) (qwi := qwi) (qhe := qhe) (qrw := qrw) (qma := qma) (qir := qir) (qiu := qiu) (k := k) (so := so) (e := e) (tn := tn) (qe := qe) (wr := none) (T := T) (BE := BE) (EN := EN) (lo := 0) (hi := 9) (by first | assumption | omega | rfl) (by first | assumption | omega | rfl) (hri) (by first | assumption | omega | rfl) (by first | assumption | omega | rfl)) (Sp.of (wr := [((ad 10), .inl (g.2.1 0, 500, .inl (aI KI))), ((ad 11), .inl (g.2.1 0, 500, .inl (oA CO))), ((ad 12), .inl (g.2.1 0, 500, .inl (oA NU))), ((ad 13), .inl (g.2.1 0, 500, .inl (oA CN))), ((ad 14), .inl (g.2.1 0, 500, .inl (aI LI))), ((ad 15), .inl (g.2.1 0, 500, .inl (aI AR))), ((ad 16), .inl (g.2.1 0, 20000, .inl (aI WH))), ((ad 17), .inl (g.2.1 0, 20000, .inl (aI FI))), ((ad 18), .inl (g.2.1 0, 20000, .inl (aI SE))), ((ad 26), .inl (g.2.1 0, 40, .inl (aI OW))), ((ad 27), .inl (g.2.1 0, 40, .inl (aI OF))), ((ad 28), .inl (g.2.1 0, 40, .inl (aI OS)))]) [0, 1, 2, 3] [4, 5, 6, 7, 8, 9, 10, 11, 12, 13, 14, 15] rfl rfl rfl rfl (by decide)) d_Mo_rule_71 lk_Mo_169 mw_Mo_number vw_Mo_number (q0 := 0) rfl rfl (fit_of hR (by first | decide | (simp only [rmk]; omega)) (by first | decide | (simp only [rmk]; omega)) (by first | decide | (simp only [rmk]; omega)) (by first | decide | (simp only [rmk]; omega))) rfl (cat8 (Nat.le_of_ble_eq_true rfl)) (As := [.int (nI 0), .int (nI 9)]) (rest := []) rfl (fun r_71 w_71 hp_71 => ?_)
        obtain ⟨so2_71, e2_71, tn2_71, bg2_71, z2_71, wr2_71, BE2_71, EN2_71, rfl, rfl, hri2_71, hnu_71⟩ := hp_71
        refine r_after (ws' := [(m0, .inr (9, MO ad qth (nI k) (bI qir) (nI tn2_71) qde (nI nr) (nI e2_71) (nI e2_71) (nI so2_71) (nI bg2_71) (nI z2_71) (oI wr2_71) (nI op) (bI qiu) qwi qhe qrw qma)), ((ad 2), .inl (g.2.1 0, 2000, .inl (aI T))), ((ad 6), .inl (g.2.1 0, 2000, .inl (aI BE2_71))), ((ad 7), .inl (g.2.1 0, 2000, .inl (aI EN2_71))), ((ad 10), .inl (g.2.1 0, 500, .inl (aI KI))), ((ad 11), .inl (g.2.1 0, 500, .inl (oA CO))), ((ad 12), .inl (g.2.1 0, 500, .inl (oA NU))), ((ad 13), .inl (g.2.1 0, 500, .inl (oA CN))), ((ad 14), .inl (g.2.1 0, 500, .inl (aI LI))), ((ad 15), .inl (g.2.1 0, 500, .inl (aI AR))), ((ad 16), .inl (g.2.1 0, 20000, .inl (aI WH))), ((ad 17), .inl (g.2.1 0, 20000, .inl (aI FI))), ((ad 18), .inl (g.2.1 0, 20000, .inl (aI SE))), ((ad 26), .inl (g.2.1 0, 40, .inl (aI OW))), ((ad 27), .inl (g.2.1 0, 40, .inl (aI OF))), ((ad 28), .inl (g.2.1 0, 40, .inl (aI OS)))]) (st' := [.int (nI z2_71)]) (n1 := 0) (n2 := 0) [12, 13, 14, 15, 0, 1, 2, 3, 4, 5, 6, 7, 8, 9, 10, 11] rfl rfl rfl rfl rfl ?_
        refine r_goto C 88 d_Mo_rule_74 (by decide) ?_
        refine r_istore C (lv' := [(5, .int (nI z2_71)), (4, .int (-1)), (3, .int (-1)), (2, .int (nI bg)), (0, .ref m0), (1, .int (nI 6))]) d_Mo_rule_88 (by decide) rfl ?_
        refine r_aload_n C 4 d_Mo_rule_90 rfl rfl ?_
        refine r_get C 0 24 d_Mo_rule_91 ci_Mo fi_Mo_94 rfl (by decide) rfl rfl ?_
        refine r_if_lt C 98 d_Mo_rule_94 (by decide) (fun c_94 => ?_) (fun c_94 => ?_)
        · skip
          refine r_lv (lv' := [(0, .ref m0), (1, .int (nI 6)), (2, .int (nI bg)), (3, .int (oI none)), (4, .int (oI none)), (5, .int (oI (some z2_71)))]) [4, 5, 3, 2, 1, 0] rfl ?_
          exact lp_Mo_rule_98 g (m0 := m0) (ad := ad) (qth := qth) (qde := qde) (qwi := qwi) (qhe := qhe) (qrw := qrw) (qma := qma) (qir := qir) (qiu := qiu) (k := k) (so := so) (e := e) (tn := tn) (op := op) (nr := nr) (bg := bg) (ki := 6) (qe := qe) (qva := qva) (T := T) (BE := BE) (EN := EN) (OW := OW) (OF := OF) (OS := OS) (KI := KI) (LI := LI) (AR := AR) (WH := WH) (FI := FI) (SE := SE) (CO := CO) (NU := NU) (CN := CN) hk hT hri hop hnr hki hOW  C E hR _ so2_71 e2_71 tn2_71 (nI e2_71) (nI bg2_71) (nI z2_71) BE2_71 EN2_71 none (some z2_71) none wr2_71 (oI_non hri2_71.2.2.2.2.2.2.1 c_94) (hri2_71) ((rl_6 hnu_71).1 (oI_non hri2_71.2.2.2.2.2.2.1 c_94)) (Nat.lt_succ_self _)
        · skip
          refine r_vret C E d_Mo_rule_97 (by first | decide | omega | (simp only [rmk]; omega)) (by first | decide | omega | (simp only [rmk]; omega)) ?_
          obtain ⟨v9, hv9⟩ := oI_som c_94
          exact ⟨_, _, _, _, _, _, _, _, _, _, _, _, _, _, _, _, _, _, _, _, rfl, rfl, hri2_71, Or.inr ⟨v9, hv9, (rl_6 hnu_71).2 v9 hv9, rfl, rfl, rfl, rfl, rfl, rfl, rfl, rfl, rfl, rfl, rfl⟩⟩
