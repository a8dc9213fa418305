/-- what the reference's rows comes to, over a grid -/
def GoR (a : Acc) (iu : Bool) (th rv : Int32) (rw_ : Nat) (RR RB PL : Nat → Nat) : Prop := match a with
  | none => iu = false ∧ th = nI 3 ∧ rv = nI 0
  | some (k, R) => iu = true ∧ th = nI 0 ∧ rv = nI rw_ ∧ inLim k R ∧ MAt RR RB PL rw_ R
section MRW
variable {a : Acc} {ok : Bool} {md rw_ : Nat} {RR RB PL : Nat → Nat}
theorem moa_t (h : MoA a ok md rw_ RR RB PL) (e : ok = true) : ∃ R, a = some (md, R) ∧ inLim md R ∧ MAt RR RB PL rw_ R := by
  cases a with
  | none => rw [show ok = false from h] at e; cases e
  | some p =>
    obtain ⟨k, R⟩ := p
    obtain ⟨_, rfl, h3, h4⟩ := h
    exact ⟨R, rfl, h3, h4⟩
theorem moa_f (h : MoA a ok md rw_ RR RB PL) (e : ok = false) : a = none := by
  cases a with
  | none => rfl
  | some p =>
    obtain ⟨k, R⟩ := p
    have := h.1
    rw [e] at this
    cases this
theorem moa_0 : MoA (some (0, [])) true 0 0 RR (up RB 0 0) PL := ⟨rfl, rfl, ⟨by decide, by decide, by decide⟩, mat_0⟩
end MRW
/-- what unroll asks of the rules -/
def RulB (rules : List RuleV) (AR WH FI SE : Nat → Nat) : Prop := ∀ (i : Nat) (r : RuleV), rules[i]? = some r → AR i = r.2.2.1.length ∧ r.2.2.1.length ≤ 40 ∧ (∀ l ∈ r.2.2.1, LyOK l) ∧ ∀ (j : Nat) (l : LayerV), r.2.2.1.reverse[j]? = some l → WH (40 * i + j) = l.1 - 1 ∧ FI (40 * i + j) = l.2.1.getD 0 ∧ SE (40 * i + j) = l.2.2.getD 0
theorem RulA.b {rules : List RuleV} {nr : Nat} {KI LI AR WH FI SE : Nat → Nat} {CO NU CN : Nat → Option Nat} (h : RulA rules nr KI LI AR WH FI SE CO NU CN) : RulB rules AR WH FI SE := fun i r e => (h.2 i r e).2.2.2.2.2

set_option maxRecDepth 100000 in
theorem lk_Mo_273 : LK R_Mo 273 y_Mo_unroll := Or.inl (gw (i := 1151) rfl rfl)
set_option maxRecDepth 100000 in
theorem mw_Mo_unroll : MW y_Mo_unroll b_Mo_unroll 8 (some .boolean) 1 := ⟨(gw (i := 1154) rfl rfl), (gw (i := 80) rfl rfl), by decide +kernel⟩
set_option maxRecDepth 100000 in
theorem vw_Mo_unroll : VW y_Mo_unroll := ⟨(gw (i := 1153) rfl rfl), (gw (i := 59) rfl rfl)⟩
theorem d_Mo_rows_0 : decode b_Mo_rows 0 = .ok (.aload_n 0, 1) := by decide +kernel
theorem d_Mo_rows_1 : decode b_Mo_rows 1 = .ok (.aload_n 0, 1) := by decide +kernel
theorem d_Mo_rows_2 : decode b_Mo_rows 2 = .ok (.getfield 215, 3) := by decide +kernel
theorem d_Mo_rows_5 : decode b_Mo_rows 5 = .ok (.ifCond .eq 7, 3) := by decide +kernel
theorem d_Mo_rows_8 : decode b_Mo_rows 8 = .ok (.iconst 0, 1) := by decide +kernel
theorem d_Mo_rows_9 : decode b_Mo_rows 9 = .ok (.goto 4, 3) := by decide +kernel
theorem d_Mo_rows_12 : decode b_Mo_rows 12 = .ok (.iconst 1, 1) := by decide +kernel
theorem d_Mo_rows_13 : decode b_Mo_rows 13 = .ok (.invokevirtual 270, 3) := by decide +kernel
theorem d_Mo_rows_16 : decode b_Mo_rows 16 = .ok (.ifCond .ne 5, 3) := by decide +kernel
theorem d_Mo_rows_19 : decode b_Mo_rows 19 = .ok (.iconst 0, 1) := by decide +kernel
theorem d_Mo_rows_20 : decode b_Mo_rows 20 = .ok (.ireturn, 1) := by decide +kernel
theorem d_Mo_rows_21 : decode b_Mo_rows 21 = .ok (.aload_n 0, 1) := by decide +kernel
theorem d_Mo_rows_22 : decode b_Mo_rows 22 = .ok (.iconst 0, 1) := by decide +kernel
theorem d_Mo_rows_23 : decode b_Mo_rows 23 = .ok (.putfield 206, 3) := by decide +kernel
theorem d_Mo_rows_26 : decode b_Mo_rows 26 = .ok (.aload_n 0, 1) := by decide +kernel
theorem d_Mo_rows_27 : decode b_Mo_rows 27 = .ok (.iload_n 1, 1) := by decide +kernel
theorem d_Mo_rows_28 : decode b_Mo_rows 28 = .ok (.iconst 1, 1) := by decide +kernel
theorem d_Mo_rows_29 : decode b_Mo_rows 29 = .ok (.if_icmp .lt 20, 3) := by decide +kernel
theorem d_Mo_rows_32 : decode b_Mo_rows 32 = .ok (.iload_n 1, 1) := by decide +kernel
theorem d_Mo_rows_33 : decode b_Mo_rows 33 = .ok (.bipush 16, 2) := by decide +kernel
theorem d_Mo_rows_35 : decode b_Mo_rows 35 = .ok (.if_icmp .gt 14, 3) := by decide +kernel
theorem d_Mo_rows_38 : decode b_Mo_rows 38 = .ok (.iload_n 2, 1) := by decide +kernel
theorem d_Mo_rows_39 : decode b_Mo_rows 39 = .ok (.iconst 1, 1) := by decide +kernel
theorem d_Mo_rows_40 : decode b_Mo_rows 40 = .ok (.if_icmp .lt 9, 3) := by decide +kernel
theorem d_Mo_rows_43 : decode b_Mo_rows 43 = .ok (.iload_n 2, 1) := by decide +kernel
theorem d_Mo_rows_44 : decode b_Mo_rows 44 = .ok (.bipush 16, 2) := by decide +kernel
theorem d_Mo_rows_46 : decode b_Mo_rows 46 = .ok (.if_icmp .le 7, 3) := by decide +kernel
theorem d_Mo_rows_49 : decode b_Mo_rows 49 = .ok (.iconst 2, 1) := by decide +kernel
theorem d_Mo_rows_50 : decode b_Mo_rows 50 = .ok (.goto 4, 3) := by decide +kernel
theorem d_Mo_rows_53 : decode b_Mo_rows 53 = .ok (.iconst 0, 1) := by decide +kernel
theorem d_Mo_rows_54 : decode b_Mo_rows 54 = .ok (.invokevirtual 270, 3) := by decide +kernel
theorem d_Mo_rows_57 : decode b_Mo_rows 57 = .ok (.ifCond .ne 5, 3) := by decide +kernel
theorem d_Mo_rows_60 : decode b_Mo_rows 60 = .ok (.iconst 0, 1) := by decide +kernel
theorem d_Mo_rows_61 : decode b_Mo_rows 61 = .ok (.ireturn, 1) := by decide +kernel
theorem d_Mo_rows_62 : decode b_Mo_rows 62 = .ok (.aload_n 0, 1) := by decide +kernel
theorem d_Mo_rows_63 : decode b_Mo_rows 63 = .ok (.iload_n 1, 1) := by decide +kernel
theorem d_Mo_rows_64 : decode b_Mo_rows 64 = .ok (.putfield 218, 3) := by decide +kernel
theorem d_Mo_rows_67 : decode b_Mo_rows 67 = .ok (.aload_n 0, 1) := by decide +kernel
theorem d_Mo_rows_68 : decode b_Mo_rows 68 = .ok (.iload_n 2, 1) := by decide +kernel
theorem d_Mo_rows_69 : decode b_Mo_rows 69 = .ok (.putfield 231, 3) := by decide +kernel
theorem d_Mo_rows_72 : decode b_Mo_rows 72 = .ok (.aload_n 0, 1) := by decide +kernel
theorem d_Mo_rows_73 : decode b_Mo_rows 73 = .ok (.iconst 0, 1) := by decide +kernel
theorem d_Mo_rows_74 : decode b_Mo_rows 74 = .ok (.putfield 260, 3) := by decide +kernel
theorem d_Mo_rows_77 : decode b_Mo_rows 77 = .ok (.aload_n 0, 1) := by decide +kernel
theorem d_Mo_rows_78 : decode b_Mo_rows 78 = .ok (.getfield 61, 3) := by decide +kernel
theorem d_Mo_rows_81 : decode b_Mo_rows 81 = .ok (.iconst 0, 1) := by decide +kernel
theorem d_Mo_rows_82 : decode b_Mo_rows 82 = .ok (.iconst 0, 1) := by decide +kernel
theorem d_Mo_rows_83 : decode b_Mo_rows 83 = .ok (.iastore, 1) := by decide +kernel
theorem d_Mo_rows_84 : decode b_Mo_rows 84 = .ok (.aload_n 0, 1) := by decide +kernel
theorem d_Mo_rows_85 : decode b_Mo_rows 85 = .ok (.iconst 0, 1) := by decide +kernel
theorem d_Mo_rows_86 : decode b_Mo_rows 86 = .ok (.putfield 221, 3) := by decide +kernel
theorem d_Mo_rows_89 : decode b_Mo_rows 89 = .ok (.iconst 1, 1) := by decide +kernel
theorem d_Mo_rows_90 : decode b_Mo_rows 90 = .ok (.istore_n 3, 1) := by decide +kernel
theorem d_Mo_rows_91 : decode b_Mo_rows 91 = .ok (.iconst 0, 1) := by decide +kernel
theorem d_Mo_rows_92 : decode b_Mo_rows 92 = .ok (.istore 4, 2) := by decide +kernel
theorem d_Mo_rows_94 : decode b_Mo_rows 94 = .ok (.iload 4, 2) := by decide +kernel
theorem d_Mo_rows_96 : decode b_Mo_rows 96 = .ok (.aload_n 0, 1) := by decide +kernel
theorem d_Mo_rows_97 : decode b_Mo_rows 97 = .ok (.getfield 184, 3) := by decide +kernel
theorem d_Mo_rows_100 : decode b_Mo_rows 100 = .ok (.if_icmp .ge 20, 3) := by decide +kernel
theorem d_Mo_rows_103 : decode b_Mo_rows 103 = .ok (.iload_n 3, 1) := by decide +kernel
theorem d_Mo_rows_104 : decode b_Mo_rows 104 = .ok (.ifCond .eq 16, 3) := by decide +kernel
theorem d_Mo_rows_107 : decode b_Mo_rows 107 = .ok (.aload_n 0, 1) := by decide +kernel
theorem d_Mo_rows_108 : decode b_Mo_rows 108 = .ok (.iload 4, 2) := by decide +kernel
theorem d_Mo_rows_110 : decode b_Mo_rows 110 = .ok (.invokevirtual 273, 3) := by decide +kernel
theorem d_Mo_rows_113 : decode b_Mo_rows 113 = .ok (.istore_n 3, 1) := by decide +kernel
theorem d_Mo_rows_114 : decode b_Mo_rows 114 = .ok (.iinc 4 1, 3) := by decide +kernel
theorem d_Mo_rows_117 : decode b_Mo_rows 117 = .ok (.goto (-23), 3) := by decide +kernel
theorem d_Mo_rows_120 : decode b_Mo_rows 120 = .ok (.aload_n 0, 1) := by decide +kernel
theorem d_Mo_rows_121 : decode b_Mo_rows 121 = .ok (.iload_n 3, 1) := by decide +kernel
theorem d_Mo_rows_122 : decode b_Mo_rows 122 = .ok (.ifCond .eq 17, 3) := by decide +kernel
theorem d_Mo_rows_125 : decode b_Mo_rows 125 = .ok (.aload_n 0, 1) := by decide +kernel
theorem d_Mo_rows_126 : decode b_Mo_rows 126 = .ok (.getfield 221, 3) := by decide +kernel
theorem d_Mo_rows_129 : decode b_Mo_rows 129 = .ok (.sipush 6000, 3) := by decide +kernel
theorem d_Mo_rows_132 : decode b_Mo_rows 132 = .ok (.if_icmp .gt 7, 3) := by decide +kernel
theorem d_Mo_rows_135 : decode b_Mo_rows 135 = .ok (.iconst 1, 1) := by decide +kernel
theorem d_Mo_rows_136 : decode b_Mo_rows 136 = .ok (.goto 4, 3) := by decide +kernel
theorem d_Mo_rows_139 : decode b_Mo_rows 139 = .ok (.iconst 0, 1) := by decide +kernel
theorem d_Mo_rows_140 : decode b_Mo_rows 140 = .ok (.putfield 206, 3) := by decide +kernel
theorem d_Mo_rows_143 : decode b_Mo_rows 143 = .ok (.aload_n 0, 1) := by decide +kernel
theorem d_Mo_rows_144 : decode b_Mo_rows 144 = .ok (.aload_n 0, 1) := by decide +kernel
theorem d_Mo_rows_145 : decode b_Mo_rows 145 = .ok (.getfield 206, 3) := by decide +kernel
theorem d_Mo_rows_148 : decode b_Mo_rows 148 = .ok (.ifCond .eq 7, 3) := by decide +kernel
theorem d_Mo_rows_151 : decode b_Mo_rows 151 = .ok (.iconst 0, 1) := by decide +kernel
theorem d_Mo_rows_152 : decode b_Mo_rows 152 = .ok (.goto 4, 3) := by decide +kernel
theorem d_Mo_rows_155 : decode b_Mo_rows 155 = .ok (.iconst 3, 1) := by decide +kernel
theorem d_Mo_rows_156 : decode b_Mo_rows 156 = .ok (.invokevirtual 270, 3) := by decide +kernel
theorem d_Mo_rows_159 : decode b_Mo_rows 159 = .ok (.ifCond .eq 10, 3) := by decide +kernel
theorem d_Mo_rows_162 : decode b_Mo_rows 162 = .ok (.aload_n 0, 1) := by decide +kernel
theorem d_Mo_rows_163 : decode b_Mo_rows 163 = .ok (.getfield 260, 3) := by decide +kernel
theorem d_Mo_rows_166 : decode b_Mo_rows 166 = .ok (.goto 4, 3) := by decide +kernel
theorem d_Mo_rows_169 : decode b_Mo_rows 169 = .ok (.iconst 0, 1) := by decide +kernel
theorem d_Mo_rows_170 : decode b_Mo_rows 170 = .ok (.ireturn, 1) := by decide +kernel
set_option maxHeartbeats 4000000 in
set_option maxRecDepth 100000 in
theorem lp_Mo_rows_go_94 (g : GG) {m0 : Nat} {ad : Nat → Nat} {qth : Int32} {qsz : Int32} {qtk : Int32} {qde : Int32} {qat : Int32} {qen : Int32} {qto : Int32} {qbe : Int32} {qva : Int32} {qwr : Int32} {qop : Int32} {qma : Int32} {qiu : Bool} {uw0 : Nat} {uh0 : Nat} {uw : Nat} {uh : Nat} {rw_ : Nat} {rules : List RuleV} {ST : Nat → Nat} {SB : Nat → Nat} {CH : Nat → Nat} {DN : Nat → Nat} {AR : Nat → Nat} {WH : Nat → Nat} {FI : Nat → Nat} {SE : Nat → Nat} {RR : Nat → Nat} {RB : Nat → Nat} {PL : Nat → Nat} {HA : Nat → Bool} (hw0 : 0 < uw) (hw1 : uw ≤ 16) (hh0 : 0 < uh) (hh1 : uh ≤ 16) (h400 : rules.length ≤ 400) (hRu : RulB rules AR WH FI SE) {x : X0} {A : Nat → Prop} {Q : State → Prop}  (C : CX x g A R_Mo b_Mo_rows 5) (E : RX x g A Q (some .int) (fun (r0 : Option Value) (w0 : va_W) => ∃ th : Int32, ∃ rv : Int32, ∃ iu2 : Bool, ∃ md2 : Nat, ∃ rw2 : Nat, ∃ ST2 : Nat → Nat, ∃ SB2 : Nat → Nat, ∃ CH2 : Nat → Nat, ∃ DN2 : Nat → Nat, ∃ RR2 : Nat → Nat, ∃ RB2 : Nat → Nat, ∃ PL2 : Nat → Nat, ∃ HA2 : Nat → Bool, r0 = some (.int rv) ∧ w0 = [(m0, .inr (9, MO ad th qsz (bI true) qtk qde (nI rules.length) qat qen qto qbe qva qwr qop (bI iu2) (nI uw) (nI uh) (nI rw2) (nI md2))), ((ad 37), .inl (g.2.1 0, 697000, .inl (aI ST2))), ((ad 38), .inl (g.2.1 0, 25300, .inl (aI SB2))), ((ad 39), .inl (g.2.1 0, 41, .inl (aI CH2))), ((ad 41), .inl (g.2.1 2, 256, .inl (zI HA2))), ((ad 40), .inl (g.2.1 0, 41, .inl (aI DN2))), ((ad 15), .inl (g.2.1 0, 500, .inl (aI AR))), ((ad 16), .inl (g.2.1 0, 20000, .inl (aI WH))), ((ad 17), .inl (g.2.1 0, 20000, .inl (aI FI))), ((ad 18), .inl (g.2.1 0, 20000, .inl (aI SE))), ((ad 33), .inl (g.2.1 0, 4000, .inl (aI RR2))), ((ad 34), .inl (g.2.1 0, 4001, .inl (aI RB2))), ((ad 35), .inl (g.2.1 0, 30000, .inl (aI PL2)))] ∧ (GoR (unrA uw uh rules) iu2 th rv rw2 RR2 RB2 PL2) ∧ (rw2 ≤ 4000)) (rmk 4 0 0 106).cells (rmk 4 0 0 106).slots) (hR : xR x = (rmk 4 0 0 106)) : ∀ (fuel : Nat) (room : Bool) (c : Nat) (md : Nat) (rwc : Nat) (STc : Nat → Nat) (SBc : Nat → Nat) (CHc : Nat → Nat) (DNc : Nat → Nat) (RRc : Nat → Nat) (RBc : Nat → Nat) (PLc : Nat → Nat) (HAc : Nat → Bool) (ac : Acc) (hc : c ≤ rules.length) (hA : MoA ac room md rwc RRc RBc PLc) (hI : unrF uw uh c (rules.drop c) ac = unrA uw uh rules) (hmd : md ≤ 7000) (hrw : rwc ≤ 4000), rules.length - c < fuel → J x g A Q 5 ([(m0, .inr (9, MO ad (nI 0) qsz (bI true) qtk qde (nI rules.length) qat qen qto qbe qva qwr qop (bI false) (nI uw) (nI uh) (nI rwc) (nI md))), ((ad 37), .inl (g.2.1 0, 697000, .inl (aI STc))), ((ad 38), .inl (g.2.1 0, 25300, .inl (aI SBc))), ((ad 39), .inl (g.2.1 0, 41, .inl (aI CHc))), ((ad 41), .inl (g.2.1 2, 256, .inl (zI HAc))), ((ad 40), .inl (g.2.1 0, 41, .inl (aI DNc))), ((ad 15), .inl (g.2.1 0, 500, .inl (aI AR))), ((ad 16), .inl (g.2.1 0, 20000, .inl (aI WH))), ((ad 17), .inl (g.2.1 0, 20000, .inl (aI FI))), ((ad 18), .inl (g.2.1 0, 20000, .inl (aI SE))), ((ad 33), .inl (g.2.1 0, 4000, .inl (aI RRc))), ((ad 34), .inl (g.2.1 0, 4001, .inl (aI RBc))), ((ad 35), .inl (g.2.1 0, 30000, .inl (aI PLc)))]) [(0, .ref m0), (1, .int (nI uw)), (2, .int (nI uh)), (3, .int (bI room)), (4, .int (nI c))] 94 [] 0 0 := by
  intro fuel
  induction fuel with
  | zero =>
    intro room c md rwc STc SBc CHc DNc RRc RBc PLc HAc ac hc hA hI hmd hrw hm
    exact absurd hm (Nat.not_lt_zero _)
  | succ fuel ih =>
    intro room c md rwc STc SBc CHc DNc RRc RBc PLc HAc ac hc hA hI hmd hrw hm
    refine r_iload C 4 d_Mo_rows_94 rfl ?_
    refine r_aload_n C 0 d_Mo_rows_96 rfl rfl ?_
    refine r_get C 0 9 d_Mo_rows_97 ci_Mo fi_Mo_184 rfl (by decide) rfl rfl ?_
    refine r_ncmp_ge C 120 d_Mo_rows_100 (by decide) (by omega) (by omega) (fun c_100 => ?_) (fun c_100 => ?_)
    · skip
      have hU : unrA uw uh rules = ac := by rw [← hI, List.drop_of_length_le (by omega)]; rfl
      refine r_aload_n C 0 d_Mo_rows_120 rfl rfl ?_
      refine r_iload_n C 3 d_Mo_rows_121 rfl rfl ?_
      refine r_bif_eq C 139 d_Mo_rows_122 (by decide) (fun c_122 => ?_) (fun c_122 => ?_)
      · skip
        refine r_iconst C (nI 0) d_Mo_rows_139 (by decide) ?_
        refine r_eqS (st' := [.int (bI false), .ref m0]) rfl ?_
        refine r_put C (ws' := [(m0, .inr (9, MO ad (nI 0) qsz (bI true) qtk qde (nI rules.length) qat qen qto qbe qva qwr qop (bI false) (nI uw) (nI uh) (nI rwc) (nI md))), ((ad 37), .inl (g.2.1 0, 697000, .inl (aI STc))), ((ad 38), .inl (g.2.1 0, 25300, .inl (aI SBc))), ((ad 39), .inl (g.2.1 0, 41, .inl (aI CHc))), ((ad 41), .inl (g.2.1 2, 256, .inl (zI HAc))), ((ad 40), .inl (g.2.1 0, 41, .inl (aI DNc))), ((ad 15), .inl (g.2.1 0, 500, .inl (aI AR))), ((ad 16), .inl (g.2.1 0, 20000, .inl (aI WH))), ((ad 17), .inl (g.2.1 0, 20000, .inl (aI FI))), ((ad 18), .inl (g.2.1 0, 20000, .inl (aI SE))), ((ad 33), .inl (g.2.1 0, 4000, .inl (aI RRc))), ((ad 34), .inl (g.2.1 0, 4001, .inl (aI RBc))), ((ad 35), .inl (g.2.1 0, 30000, .inl (aI PLc)))]) 0 29 d_Mo_rows_140 ci_Mo fi_Mo_206 rfl (by decide) rfl rfl (bI_nar _) (bI_fit _) (by simp) rfl ?_
        refine r_aload_n C 0 d_Mo_rows_143 rfl rfl ?_
        refine r_aload_n C 0 d_Mo_rows_144 rfl rfl ?_
        refine r_get C 0 29 d_Mo_rows_145 ci_Mo fi_Mo_206 rfl (by decide) rfl rfl ?_
        refine r_bif_eq C 155 d_Mo_rows_148 (by decide) (fun c_148 => ?_) (fun c_148 => ?_)
        rotate_left
        · exact absurd c_148 (by decide)
        refine r_iconst C (nI 3) d_Mo_rows_155 (by decide) ?_
        refine j_callV C (c_Mo_says g (xl x) (m0 := m0) (ad := ad) (qth := nI 0) (qsz := qsz) (qtk := qtk) (qde := qde) (qru := nI rules.length) (qat := qat) (qen := qen) (qto := qto) (qbe := qbe) (qva := qva) (qwr := qwr) (qop := qop) (qwi := nI uw) (qhe := nI uh) (qrw := nI rwc) (qma := nI md) (qir := true) (qiu := false) (z := nI 3) ) (Sp.of (wr := [((ad 37), .inl (g.2.1 0, 697000, .inl (aI STc))), ((ad 38), .inl (g.2.1 0, 25300, .inl (aI SBc))), ((ad 39), .inl (g.2.1 0, 41, .inl (aI CHc))), ((ad 41), .inl (g.2.1 2, 256, .inl (zI HAc))), ((ad 40), .inl (g.2.1 0, 41, .inl (aI DNc))), ((ad 15), .inl (g.2.1 0, 500, .inl (aI AR))), ((ad 16), .inl (g.2.1 0, 20000, .inl (aI WH))), ((ad 17), .inl (g.2.1 0, 20000, .inl (aI FI))), ((ad 18), .inl (g.2.1 0, 20000, .inl (aI SE))), ((ad 33), .inl (g.2.1 0, 4000, .inl (aI RRc))), ((ad 34), .inl (g.2.1 0, 4001, .inl (aI RBc))), ((ad 35), .inl (g.2.1 0, 30000, .inl (aI PLc)))]) [0] [1, 2, 3, 4, 5, 6, 7, 8, 9, 10, 11, 12] rfl rfl rfl rfl (by decide)) d_Mo_rows_156 lk_Mo_270 mw_Mo_says vw_Mo_says (q0 := 0) rfl rfl (fit_of hR (by first | decide | (simp only [rmk]; omega)) (by first | decide | (simp only [rmk]; omega)) (by first | decide | (simp only [rmk]; omega)) (by first | decide | (simp only [rmk]; omega))) rfl (cat8 (Nat.le_of_ble_eq_true rfl)) (As := [.int (nI 3)]) (rest := []) rfl (fun r_156 w_156 hp_156 => ?_)
        obtain ⟨rfl, rfl⟩ := hp_156
        refine r_after (ws' := [(m0, .inr (9, MO ad (nI 3) qsz (bI true) qtk qde (nI rules.length) qat qen qto qbe qva qwr qop (bI false) (nI uw) (nI uh) (nI rwc) (nI md))), ((ad 37), .inl (g.2.1 0, 697000, .inl (aI STc))), ((ad 38), .inl (g.2.1 0, 25300, .inl (aI SBc))), ((ad 39), .inl (g.2.1 0, 41, .inl (aI CHc))), ((ad 41), .inl (g.2.1 2, 256, .inl (zI HAc))), ((ad 40), .inl (g.2.1 0, 41, .inl (aI DNc))), ((ad 15), .inl (g.2.1 0, 500, .inl (aI AR))), ((ad 16), .inl (g.2.1 0, 20000, .inl (aI WH))), ((ad 17), .inl (g.2.1 0, 20000, .inl (aI FI))), ((ad 18), .inl (g.2.1 0, 20000, .inl (aI SE))), ((ad 33), .inl (g.2.1 0, 4000, .inl (aI RRc))), ((ad 34), .inl (g.2.1 0, 4001, .inl (aI RBc))), ((ad 35), .inl (g.2.1 0, 30000, .inl (aI PLc)))]) (st' := [.int (bI (decide ((nI 3) = 0)))]) (n1 := 0) (n2 := 0) [12, 0, 1, 2, 3, 4, 5, 6, 7, 8, 9, 10, 11] rfl rfl rfl rfl rfl ?_
        refine r_bif_eq C 169 d_Mo_rows_159 (by decide) (fun c_159 => ?_) (fun c_159 => ?_)
        · skip
          refine r_iconst C (nI 0) d_Mo_rows_169 (by decide) ?_
          refine r_iret C E d_Mo_rows_170 (by first | decide | omega | (simp only [rmk]; omega)) (by first | decide | omega | (simp only [rmk]; omega)) ?_
          exact ⟨_, _, _, _, _, _, _, _, _, _, _, _, _, rfl, rfl, by rw [hU, moa_f hA c_122]; exact ⟨rfl, rfl, rfl⟩, hrw⟩
        · exact absurd c_159 (by decide)
      · skip
        obtain ⟨R, hac, hlm, hMt⟩ := moa_t hA c_122
        have hl6 := hlm.1
        refine r_aload_n C 0 d_Mo_rows_125 rfl rfl ?_
        refine r_get C 0 36 d_Mo_rows_126 ci_Mo fi_Mo_221 rfl (by decide) rfl rfl ?_
        refine r_sipush C (nI 6000) d_Mo_rows_129 (by decide) ?_
        refine r_ncmp_gt C 139 d_Mo_rows_132 (by decide) (by omega) (by omega) (fun c_132 => ?_) (fun c_132 => ?_)
        · exact absurd c_132 (by omega)
        · skip
          refine r_iconst C (nI 1) d_Mo_rows_135 (by decide) ?_
          refine r_goto C 140 d_Mo_rows_136 (by decide) ?_
          refine r_eqS (st' := [.int (bI true), .ref m0]) rfl ?_
          refine r_put C (ws' := [(m0, .inr (9, MO ad (nI 0) qsz (bI true) qtk qde (nI rules.length) qat qen qto qbe qva qwr qop (bI true) (nI uw) (nI uh) (nI rwc) (nI md))), ((ad 37), .inl (g.2.1 0, 697000, .inl (aI STc))), ((ad 38), .inl (g.2.1 0, 25300, .inl (aI SBc))), ((ad 39), .inl (g.2.1 0, 41, .inl (aI CHc))), ((ad 41), .inl (g.2.1 2, 256, .inl (zI HAc))), ((ad 40), .inl (g.2.1 0, 41, .inl (aI DNc))), ((ad 15), .inl (g.2.1 0, 500, .inl (aI AR))), ((ad 16), .inl (g.2.1 0, 20000, .inl (aI WH))), ((ad 17), .inl (g.2.1 0, 20000, .inl (aI FI))), ((ad 18), .inl (g.2.1 0, 20000, .inl (aI SE))), ((ad 33), .inl (g.2.1 0, 4000, .inl (aI RRc))), ((ad 34), .inl (g.2.1 0, 4001, .inl (aI RBc))), ((ad 35), .inl (g.2.1 0, 30000, .inl (aI PLc)))]) 0 29 d_Mo_rows_140 ci_Mo fi_Mo_206 rfl (by decide) rfl rfl (bI_nar _) (bI_fit _) (by simp) rfl ?_
          refine r_aload_n C 0 d_Mo_rows_143 rfl rfl ?_
          refine r_aload_n C 0 d_Mo_rows_144 rfl rfl ?_
          refine r_get C 0 29 d_Mo_rows_145 ci_Mo fi_Mo_206 rfl (by decide) rfl rfl ?_
          refine r_bif_eq C 155 d_Mo_rows_148 (by decide) (fun c_148 => ?_) (fun c_148 => ?_)
          skip
          · exact absurd c_148 (by decide)
          refine r_iconst C (nI 0) d_Mo_rows_151 (by decide) ?_
          refine r_goto C 156 d_Mo_rows_152 (by decide) ?_
          refine j_callV C (c_Mo_says g (xl x) (m0 := m0) (ad := ad) (qth := nI 0) (qsz := qsz) (qtk := qtk) (qde := qde) (qru := nI rules.length) (qat := qat) (qen := qen) (qto := qto) (qbe := qbe) (qva := qva) (qwr := qwr) (qop := qop) (qwi := nI uw) (qhe := nI uh) (qrw := nI rwc) (qma := nI md) (qir := true) (qiu := true) (z := nI 0) ) (Sp.of (wr := [((ad 37), .inl (g.2.1 0, 697000, .inl (aI STc))), ((ad 38), .inl (g.2.1 0, 25300, .inl (aI SBc))), ((ad 39), .inl (g.2.1 0, 41, .inl (aI CHc))), ((ad 41), .inl (g.2.1 2, 256, .inl (zI HAc))), ((ad 40), .inl (g.2.1 0, 41, .inl (aI DNc))), ((ad 15), .inl (g.2.1 0, 500, .inl (aI AR))), ((ad 16), .inl (g.2.1 0, 20000, .inl (aI WH))), ((ad 17), .inl (g.2.1 0, 20000, .inl (aI FI))), ((ad 18), .inl (g.2.1 0, 20000, .inl (aI SE))), ((ad 33), .inl (g.2.1 0, 4000, .inl (aI RRc))), ((ad 34), .inl (g.2.1 0, 4001, .inl (aI RBc))), ((ad 35), .inl (g.2.1 0, 30000, .inl (aI PLc)))]) [0] [1, 2, 3, 4, 5, 6, 7, 8, 9, 10, 11, 12] rfl rfl rfl rfl (by decide)) d_Mo_rows_156 lk_Mo_270 mw_Mo_says vw_Mo_says (q0 := 0) rfl rfl (fit_of hR (by first | decide | (simp only [rmk]; omega)) (by first | decide | (simp only [rmk]; omega)) (by first | decide | (simp only [rmk]; omega)) (by first | decide | (simp only [rmk]; omega))) rfl (cat8 (Nat.le_of_ble_eq_true rfl)) (As := [.int (nI 0)]) (rest := []) rfl (fun r_156 w_156 hp_156 => ?_)
          obtain ⟨rfl, rfl⟩ := hp_156
          refine r_after (ws' := [(m0, .inr (9, MO ad (nI 0) qsz (bI true) qtk qde (nI rules.length) qat qen qto qbe qva qwr qop (bI true) (nI uw) (nI uh) (nI rwc) (nI md))), ((ad 37), .inl (g.2.1 0, 697000, .inl (aI STc))), ((ad 38), .inl (g.2.1 0, 25300, .inl (aI SBc))), ((ad 39), .inl (g.2.1 0, 41, .inl (aI CHc))), ((ad 41), .inl (g.2.1 2, 256, .inl (zI HAc))), ((ad 40), .inl (g.2.1 0, 41, .inl (aI DNc))), ((ad 15), .inl (g.2.1 0, 500, .inl (aI AR))), ((ad 16), .inl (g.2.1 0, 20000, .inl (aI WH))), ((ad 17), .inl (g.2.1 0, 20000, .inl (aI FI))), ((ad 18), .inl (g.2.1 0, 20000, .inl (aI SE))), ((ad 33), .inl (g.2.1 0, 4000, .inl (aI RRc))), ((ad 34), .inl (g.2.1 0, 4001, .inl (aI RBc))), ((ad 35), .inl (g.2.1 0, 30000, .inl (aI PLc)))]) (st' := [.int (bI (decide ((nI 0) = 0)))]) (n1 := 0) (n2 := 0) [12, 0, 1, 2, 3, 4, 5, 6, 7, 8, 9, 10, 11] rfl rfl rfl rfl rfl ?_
          refine r_bif_eq C 169 d_Mo_rows_159 (by decide) (fun c_159 => ?_) (fun c_159 => ?_)
          · exact absurd c_159 (by decide)
          · skip
            refine r_aload_n C 0 d_Mo_rows_162 rfl rfl ?_
            refine r_get C 0 32 d_Mo_rows_163 ci_Mo fi_Mo_260 rfl (by decide) rfl rfl ?_
            refine r_goto C 170 d_Mo_rows_166 (by decide) ?_
            refine r_iret C E d_Mo_rows_170 (by first | decide | omega | (simp only [rmk]; omega)) (by first | decide | omega | (simp only [rmk]; omega)) ?_
            exact ⟨_, _, _, _, _, _, _, _, _, _, _, _, _, rfl, rfl, by rw [hU, hac]; exact ⟨rfl, rfl, rfl, hlm, hMt⟩, hrw⟩
    · skip
      refine r_iload_n C 3 d_Mo_rows_103 rfl rfl ?_
      refine r_bif_eq C 120 d_Mo_rows_104 (by decide) (fun c_104 => ?_) (fun c_104 => ?_)
      · skip
        have hU : unrA uw uh rules = ac := by rw [← hI, moa_f hA c_104, unrF_none]
        refine r_aload_n C 0 d_Mo_rows_120 rfl rfl ?_
        refine r_iload_n C 3 d_Mo_rows_121 rfl rfl ?_
        refine r_bif_eq C 139 d_Mo_rows_122 (by decide) (fun c_122 => ?_) (fun c_122 => ?_)
        · skip
          refine r_iconst C (nI 0) d_Mo_rows_139 (by decide) ?_
          refine r_eqS (st' := [.int (bI false), .ref m0]) rfl ?_
          refine r_put C (ws' := [(m0, .inr (9, MO ad (nI 0) qsz (bI true) qtk qde (nI rules.length) qat qen qto qbe qva qwr qop (bI false) (nI uw) (nI uh) (nI rwc) (nI md))), ((ad 37), .inl (g.2.1 0, 697000, .inl (aI STc))), ((ad 38), .inl (g.2.1 0, 25300, .inl (aI SBc))), ((ad 39), .inl (g.2.1 0, 41, .inl (aI CHc))), ((ad 41), .inl (g.2.1 2, 256, .inl (zI HAc))), ((ad 40), .inl (g.2.1 0, 41, .inl (aI DNc))), ((ad 15), .inl (g.2.1 0, 500, .inl (aI AR))), ((ad 16), .inl (g.2.1 0, 20000, .inl (aI WH))), ((ad 17), .inl (g.2.1 0, 20000, .inl (aI FI))), ((ad 18), .inl (g.2.1 0, 20000, .inl (aI SE))), ((ad 33), .inl (g.2.1 0, 4000, .inl (aI RRc))), ((ad 34), .inl (g.2.1 0, 4001, .inl (aI RBc))), ((ad 35), .inl (g.2.1 0, 30000, .inl (aI PLc)))]) 0 29 d_Mo_rows_140 ci_Mo fi_Mo_206 rfl (by decide) rfl rfl (bI_nar _) (bI_fit _) (by simp) rfl ?_
          refine r_aload_n C 0 d_Mo_rows_143 rfl rfl ?_
          refine r_aload_n C 0 d_Mo_rows_144 rfl rfl ?_
          refine r_get C 0 29 d_Mo_rows_145 ci_Mo fi_Mo_206 rfl (by decide) rfl rfl ?_
          refine r_bif_eq C 155 d_Mo_rows_148 (by decide) (fun c_148 => ?_) (fun c_148 => ?_)
          rotate_left
          · exact absurd c_148 (by decide)
          refine r_iconst C (nI 3) d_Mo_rows_155 (by decide) ?_
          refine j_callV C (c_Mo_says g (xl x) (m0 := m0) (ad := ad) (qth := nI 0) (qsz := qsz) (qtk := qtk) (qde := qde) (qru := nI rules.length) (qat := qat) (qen := qen) (qto := qto) (qbe := qbe) (qva := qva) (qwr := qwr) (qop := qop) (qwi := nI uw) (qhe := nI uh) (qrw := nI rwc) (qma := nI md) (qir := true) (qiu := false) (z := nI 3) ) (Sp.of (wr := [((ad 37), .inl (g.2.1 0, 697000, .inl (aI STc))), ((ad 38), .inl (g.2.1 0, 25300, .inl (aI SBc))), ((ad 39), .inl (g.2.1 0, 41, .inl (aI CHc))), ((ad 41), .inl (g.2.1 2, 256, .inl (zI HAc))), ((ad 40), .inl (g.2.1 0, 41, .inl (aI DNc))), ((ad 15), .inl (g.2.1 0, 500, .inl (aI AR))), ((ad 16), .inl (g.2.1 0, 20000, .inl (aI WH))), ((ad 17), .inl (g.2.1 0, 20000, .inl (aI FI))), ((ad 18), .inl (g.2.1 0, 20000, .inl (aI SE))), ((ad 33), .inl (g.2.1 0, 4000, .inl (aI RRc))), ((ad 34), .inl (g.2.1 0, 4001, .inl (aI RBc))), ((ad 35), .inl (g.2.1 0, 30000, .inl (aI PLc)))]) [0] [1, 2, 3, 4, 5, 6, 7, 8, 9, 10, 11, 12] rfl rfl rfl rfl (by decide)) d_Mo_rows_156 lk_Mo_270 mw_Mo_says vw_Mo_says (q0 := 0) rfl rfl (fit_of hR (by first | decide | (simp only [rmk]; omega)) (by first | decide | (simp only [rmk]; omega)) (by first | decide | (simp only [rmk]; omega)) (by first | decide | (simp only [rmk]; omega))) rfl (cat8 (Nat.le_of_ble_eq_true rfl)) (As := [.int (nI 3)]) (rest := []) rfl (fun r_156 w_156 hp_156 => ?_)
          obtain ⟨rfl, rfl⟩ := hp_156
          refine r_after (ws' := [(m0, .inr (9, MO ad (nI 3) qsz (bI true) qtk qde (nI rules.length) qat qen qto qbe qva qwr qop (bI false) (nI uw) (nI uh) (nI rwc) (nI md))), ((ad 37), .inl (g.2.1 0, 697000, .inl (aI STc))), ((ad 38), .inl (g.2.1 0, 25300, .inl (aI SBc))), ((ad 39), .inl (g.2.1 0, 41, .inl (aI CHc))), ((ad 41), .inl (g.2.1 2, 256, .inl (zI HAc))), ((ad 40), .inl (g.2.1 0, 41, .inl (aI DNc))), ((ad 15), .inl (g.2.1 0, 500, .inl (aI AR))), ((ad 16), .inl (g.2.1 0, 20000, .inl (aI WH))), ((ad 17), .inl (g.2.1 0, 20000, .inl (aI FI))), ((ad 18), .inl (g.2.1 0, 20000, .inl (aI SE))), ((ad 33), .inl (g.2.1 0, 4000, .inl (aI RRc))), ((ad 34), .inl (g.2.1 0, 4001, .inl (aI RBc))), ((ad 35), .inl (g.2.1 0, 30000, .inl (aI PLc)))]) (st' := [.int (bI (decide ((nI 3) = 0)))]) (n1 := 0) (n2 := 0) [12, 0, 1, 2, 3, 4, 5, 6, 7, 8, 9, 10, 11] rfl rfl rfl rfl rfl ?_
          refine r_bif_eq C 169 d_Mo_rows_159 (by decide) (fun c_159 => ?_) (fun c_159 => ?_)
          · skip
            refine r_iconst C (nI 0) d_Mo_rows_169 (by decide) ?_
            refine r_iret C E d_Mo_rows_170 (by first | decide | omega | (simp only [rmk]; omega)) (by first | decide | omega | (simp only [rmk]; omega)) ?_
            exact ⟨_, _, _, _, _, _, _, _, _, _, _, _, _, rfl, rfl, by rw [hU, moa_f hA c_122]; exact ⟨rfl, rfl, rfl⟩, hrw⟩
          · exact absurd c_159 (by decide)
        · exact absurd (c_104.symm.trans c_122) (by decide)
      · skip
        obtain ⟨R, rfl, hlm, hMt⟩ := moa_t hA c_104
        obtain ⟨rv, hrv⟩ : ∃ rv, rules[c]? = some rv := ⟨_, List.getElem?_eq_getElem (by omega)⟩
        obtain ⟨ha1, ha2, ha3, ha4⟩ := hRu c rv hrv
        refine r_aload_n C 0 d_Mo_rows_107 rfl rfl ?_
        refine r_iload C 4 d_Mo_rows_108 rfl ?_
        refine j_callV C (c_Mo_unroll g (xl x) (m0 := m0) (ad := ad) (qth := nI 0) (qsz := qsz) (qtk := qtk) (qde := qde) (qru := nI rules.length) (qat := qat) (qen := qen) (qto := qto) (qbe := qbe) (qva := qva) (qwr := qwr) (qop := qop) (qir := true) (qiu := false) (uw := uw) (uh := uh) (md := md) (rw_ := rwc) (ri := c) (lr := rv.2.2.1.reverse) (R := R) (ST := STc) (SB := SBc) (CH := CHc) (DN := DNc) (AR := AR) (WH := WH) (FI := FI) (SE := SE) (RR := RRc) (RB := RBc) (PL := PLc) (HA := HAc) (by first | assumption | omega | rfl) (by first | assumption | omega | rfl) (by first | assumption | omega | rfl) (by first | assumption | omega | rfl) (by first | assumption | omega | rfl) (by rw [List.length_reverse]; exact ha1) (by rw [List.length_reverse]; exact ha2) (fun l h => ha3 l (List.mem_reverse.mp h)) (ha4) (hMt) (hlm)) (Sp.of (wr := []) [0, 1, 2, 3, 4, 5, 6, 7, 8, 9, 10, 11, 12] [] rfl rfl rfl rfl (by decide)) d_Mo_rows_110 lk_Mo_273 mw_Mo_unroll vw_Mo_unroll (q0 := 0) rfl rfl (fit_of hR (by first | decide | (simp only [rmk]; omega)) (by first | decide | (simp only [rmk]; omega)) (by first | decide | (simp only [rmk]; omega)) (by first | decide | (simp only [rmk]; omega))) rfl (cat8 (Nat.le_of_ble_eq_true rfl)) (As := [.int (nI c)]) (rest := []) rfl (fun r_110 w_110 hp_110 => ?_)
        obtain ⟨ok_110, md2_110, rw2_110, ST2_110, SB2_110, CH2_110, DN2_110, RR2_110, RB2_110, PL2_110, HA2_110, rfl, rfl, hMA_110, hb_110⟩ := hp_110
        refine r_after (ws' := [(m0, .inr (9, MO ad (nI 0) qsz (bI true) qtk qde (nI rules.length) qat qen qto qbe qva qwr qop (bI false) (nI uw) (nI uh) (nI rw2_110) (nI md2_110))), ((ad 37), .inl (g.2.1 0, 697000, .inl (aI ST2_110))), ((ad 38), .inl (g.2.1 0, 25300, .inl (aI SB2_110))), ((ad 39), .inl (g.2.1 0, 41, .inl (aI CH2_110))), ((ad 41), .inl (g.2.1 2, 256, .inl (zI HA2_110))), ((ad 40), .inl (g.2.1 0, 41, .inl (aI DN2_110))), ((ad 15), .inl (g.2.1 0, 500, .inl (aI AR))), ((ad 16), .inl (g.2.1 0, 20000, .inl (aI WH))), ((ad 17), .inl (g.2.1 0, 20000, .inl (aI FI))), ((ad 18), .inl (g.2.1 0, 20000, .inl (aI SE))), ((ad 33), .inl (g.2.1 0, 4000, .inl (aI RR2_110))), ((ad 34), .inl (g.2.1 0, 4001, .inl (aI RB2_110))), ((ad 35), .inl (g.2.1 0, 30000, .inl (aI PL2_110)))]) (st' := [.int (bI ok_110)]) (n1 := 0) (n2 := 0) [0, 1, 2, 3, 4, 5, 6, 7, 8, 9, 10, 11, 12] rfl rfl rfl rfl rfl ?_
        refine r_istore_n C (lv' := [(3, .int (bI ok_110)), (0, .ref m0), (1, .int (nI uw)), (2, .int (nI uh)), (4, .int (nI c))]) d_Mo_rows_113 rfl (by decide) rfl ?_
        refine r_iinc C 4 (nI (c + 1)) (lv' := [(4, .int (nI (c + 1))), (3, .int (bI ok_110)), (0, .ref m0), (1, .int (nI uw)), (2, .int (nI uh))]) d_Mo_rows_114 rfl (nI_inc 1 _) (by decide) rfl ?_
        refine r_goto C 94 d_Mo_rows_117 (by decide) ?_
        refine r_lv (lv' := [(0, .ref m0), (1, .int (nI uw)), (2, .int (nI uh)), (3, .int (bI ok_110)), (4, .int (nI (c + 1)))]) [2, 3, 4, 1, 0] rfl ?_
        exact ih ok_110 (c + 1) md2_110 rw2_110 ST2_110 SB2_110 CH2_110 DN2_110 RR2_110 RB2_110 PL2_110 HA2_110 (lim c (unr uw uh rv.2.2.1.reverse (List.range (uw * uh))) (some (md, R))) (by first | assumption | omega | rfl) (hMA_110) (by rw [← hI, unrF_step hrv]) (hb_110.1) (hb_110.2) (by omega)
set_option maxHeartbeats 4000000 in
set_option maxRecDepth 100000 in
theorem c_Mo_rows_go (g : GG) (l : Launch) {m0 : Nat} {ad : Nat → Nat} {qth : Int32} {qsz : Int32} {qtk : Int32} {qde : Int32} {qat : Int32} {qen : Int32} {qto : Int32} {qbe : Int32} {qva : Int32} {qwr : Int32} {qop : Int32} {qma : Int32} {qiu : Bool} {uw0 : Nat} {uh0 : Nat} {uw : Nat} {uh : Nat} {rw_ : Nat} {rules : List RuleV} {ST : Nat → Nat} {SB : Nat → Nat} {CH : Nat → Nat} {DN : Nat → Nat} {AR : Nat → Nat} {WH : Nat → Nat} {FI : Nat → Nat} {SE : Nat → Nat} {RR : Nat → Nat} {RB : Nat → Nat} {PL : Nat → Nat} {HA : Nat → Bool}  (hw0 : 0 < uw) (hw1 : uw ≤ 16) (hh0 : 0 < uh) (hh1 : uh ≤ 16) (h400 : rules.length ≤ 400) (hRu : RulB rules AR WH FI SE) : Cn g l y_Mo_rows b_Mo_rows 5 (some .int) (rmk 4 0 0 106) [.ref m0, .int (nI uw), .int (nI uh)] ([(m0, .inr (9, MO ad qth qsz (bI true) qtk qde (nI rules.length) qat qen qto qbe qva qwr qop (bI qiu) (nI uw0) (nI uh0) (nI rw_) qma)), ((ad 37), .inl (g.2.1 0, 697000, .inl (aI ST))), ((ad 38), .inl (g.2.1 0, 25300, .inl (aI SB))), ((ad 39), .inl (g.2.1 0, 41, .inl (aI CH))), ((ad 41), .inl (g.2.1 2, 256, .inl (zI HA))), ((ad 40), .inl (g.2.1 0, 41, .inl (aI DN))), ((ad 15), .inl (g.2.1 0, 500, .inl (aI AR))), ((ad 16), .inl (g.2.1 0, 20000, .inl (aI WH))), ((ad 17), .inl (g.2.1 0, 20000, .inl (aI FI))), ((ad 18), .inl (g.2.1 0, 20000, .inl (aI SE))), ((ad 33), .inl (g.2.1 0, 4000, .inl (aI RR))), ((ad 34), .inl (g.2.1 0, 4001, .inl (aI RB))), ((ad 35), .inl (g.2.1 0, 30000, .inl (aI PL)))]) (fun (r0 : Option Value) (w0 : va_W) => ∃ th : Int32, ∃ rv : Int32, ∃ iu2 : Bool, ∃ md2 : Nat, ∃ rw2 : Nat, ∃ ST2 : Nat → Nat, ∃ SB2 : Nat → Nat, ∃ CH2 : Nat → Nat, ∃ DN2 : Nat → Nat, ∃ RR2 : Nat → Nat, ∃ RB2 : Nat → Nat, ∃ PL2 : Nat → Nat, ∃ HA2 : Nat → Bool, r0 = some (.int rv) ∧ w0 = [(m0, .inr (9, MO ad th qsz (bI true) qtk qde (nI rules.length) qat qen qto qbe qva qwr qop (bI iu2) (nI uw) (nI uh) (nI rw2) (nI md2))), ((ad 37), .inl (g.2.1 0, 697000, .inl (aI ST2))), ((ad 38), .inl (g.2.1 0, 25300, .inl (aI SB2))), ((ad 39), .inl (g.2.1 0, 41, .inl (aI CH2))), ((ad 41), .inl (g.2.1 2, 256, .inl (zI HA2))), ((ad 40), .inl (g.2.1 0, 41, .inl (aI DN2))), ((ad 15), .inl (g.2.1 0, 500, .inl (aI AR))), ((ad 16), .inl (g.2.1 0, 20000, .inl (aI WH))), ((ad 17), .inl (g.2.1 0, 20000, .inl (aI FI))), ((ad 18), .inl (g.2.1 0, 20000, .inl (aI SE))), ((ad 33), .inl (g.2.1 0, 4000, .inl (aI RR2))), ((ad 34), .inl (g.2.1 0, 4001, .inl (aI RB2))), ((ad 35), .inl (g.2.1 0, 30000, .inl (aI PL2)))] ∧ (GoR (unrA uw uh rules) iu2 th rv rw2 RR2 RB2 PL2) ∧ (rw2 ≤ 4000)) := by
  refine Cn.of R_Mo [(0, .ref m0), (1, .int (nI uw)), (2, .int (nI uh))] (by decide) rfl (Nat.le_of_ble_eq_true rfl) rfl ?_
  intro x A Q hR hXl hin C E
  subst hXl
  refine r_aload_n C 0 d_Mo_rows_0 rfl rfl ?_
  refine r_aload_n C 0 d_Mo_rows_1 rfl rfl ?_
  refine r_get C 0 3 d_Mo_rows_2 ci_Mo fi_Mo_215 rfl (by decide) rfl rfl ?_
  refine r_bif_eq C 12 d_Mo_rows_5 (by decide) (fun c_5 => ?_) (fun c_5 => ?_)
  skip
  · exact absurd c_5 (by decide)
  refine r_iconst C (nI 0) d_Mo_rows_8 (by decide) ?_
  refine r_goto C 13 d_Mo_rows_9 (by decide) ?_
  refine j_callV C (c_Mo_says g (xl x) (m0 := m0) (ad := ad) (qth := qth) (qsz := qsz) (qtk := qtk) (qde := qde) (qru := nI rules.length) (qat := qat) (qen := qen) (qto := qto) (qbe := qbe) (qva := qva) (qwr := qwr) (qop := qop) (qwi := nI uw0) (qhe := nI uh0) (qrw := nI rw_) (qma := qma) (qir := true) (qiu := qiu) (z := nI 0) ) (Sp.of (wr := [((ad 37), .inl (g.2.1 0, 697000, .inl (aI ST))), ((ad 38), .inl (g.2.1 0, 25300, .inl (aI SB))), ((ad 39), .inl (g.2.1 0, 41, .inl (aI CH))), ((ad 41), .inl (g.2.1 2, 256, .inl (zI HA))), ((ad 40), .inl (g.2.1 0, 41, .inl (aI DN))), ((ad 15), .inl (g.2.1 0, 500, .inl (aI AR))), ((ad 16), .inl (g.2.1 0, 20000, .inl (aI WH))), ((ad 17), .inl (g.2.1 0, 20000, .inl (aI FI))), ((ad 18), .inl (g.2.1 0, 20000, .inl (aI SE))), ((ad 33), .inl (g.2.1 0, 4000, .inl (aI RR))), ((ad 34), .inl (g.2.1 0, 4001, .inl (aI RB))), ((ad 35), .inl (g.2.1 0, 30000, .inl (aI PL)))]) [0] [1, 2, 3, 4, 5, 6, 7, 8, 9, 10, 11, 12] rfl rfl rfl rfl (by decide)) d_Mo_rows_13 lk_Mo_270 mw_Mo_says vw_Mo_says (q0 := 0) rfl rfl (fit_of hR (by first | decide | (simp only [rmk]; omega)) (by first | decide | (simp only [rmk]; omega)) (by first | decide | (simp only [rmk]; omega)) (by first | decide | (simp only [rmk]; omega))) rfl (cat8 (Nat.le_of_ble_eq_true rfl)) (As := [.int (nI 0)]) (rest := []) rfl (fun r_13 w_13 hp_13 => ?_)
  obtain ⟨rfl, rfl⟩ := hp_13
  refine r_after (ws' := [(m0, .inr (9, MO ad (nI 0) qsz (bI true) qtk qde (nI rules.length) qat qen qto qbe qva qwr qop (bI qiu) (nI uw0) (nI uh0) (nI rw_) qma)), ((ad 37), .inl (g.2.1 0, 697000, .inl (aI ST))), ((ad 38), .inl (g.2.1 0, 25300, .inl (aI SB))), ((ad 39), .inl (g.2.1 0, 41, .inl (aI CH))), ((ad 41), .inl (g.2.1 2, 256, .inl (zI HA))), ((ad 40), .inl (g.2.1 0, 41, .inl (aI DN))), ((ad 15), .inl (g.2.1 0, 500, .inl (aI AR))), ((ad 16), .inl (g.2.1 0, 20000, .inl (aI WH))), ((ad 17), .inl (g.2.1 0, 20000, .inl (aI FI))), ((ad 18), .inl (g.2.1 0, 20000, .inl (aI SE))), ((ad 33), .inl (g.2.1 0, 4000, .inl (aI RR))), ((ad 34), .inl (g.2.1 0, 4001, .inl (aI RB))), ((ad 35), .inl (g.2.1 0, 30000, .inl (aI PL)))]) (st' := [.int (bI (decide ((nI 0) = 0)))]) (n1 := 0) (n2 := 0) [12, 0, 1, 2, 3, 4, 5, 6, 7, 8, 9, 10, 11] rfl rfl rfl rfl rfl ?_
  refine r_bif_ne C 21 d_Mo_rows_16 (by decide) (fun c_16 => ?_) (fun c_16 => ?_)
  · skip
    refine r_aload_n C 0 d_Mo_rows_21 rfl rfl ?_
    refine r_iconst C (nI 0) d_Mo_rows_22 (by decide) ?_
    refine r_eqS (st' := [.int (bI false), .ref m0]) rfl ?_
    refine r_put C (ws' := [(m0, .inr (9, MO ad (nI 0) qsz (bI true) qtk qde (nI rules.length) qat qen qto qbe qva qwr qop (bI false) (nI uw0) (nI uh0) (nI rw_) qma)), ((ad 37), .inl (g.2.1 0, 697000, .inl (aI ST))), ((ad 38), .inl (g.2.1 0, 25300, .inl (aI SB))), ((ad 39), .inl (g.2.1 0, 41, .inl (aI CH))), ((ad 41), .inl (g.2.1 2, 256, .inl (zI HA))), ((ad 40), .inl (g.2.1 0, 41, .inl (aI DN))), ((ad 15), .inl (g.2.1 0, 500, .inl (aI AR))), ((ad 16), .inl (g.2.1 0, 20000, .inl (aI WH))), ((ad 17), .inl (g.2.1 0, 20000, .inl (aI FI))), ((ad 18), .inl (g.2.1 0, 20000, .inl (aI SE))), ((ad 33), .inl (g.2.1 0, 4000, .inl (aI RR))), ((ad 34), .inl (g.2.1 0, 4001, .inl (aI RB))), ((ad 35), .inl (g.2.1 0, 30000, .inl (aI PL)))]) 0 29 d_Mo_rows_23 ci_Mo fi_Mo_206 rfl (by decide) rfl rfl (bI_nar _) (bI_fit _) (by simp) rfl ?_
    refine r_aload_n C 0 d_Mo_rows_26 rfl rfl ?_
    refine r_iload_n C 1 d_Mo_rows_27 rfl rfl ?_
    refine r_iconst C (nI 1) d_Mo_rows_28 (by decide) ?_
    refine r_ncmp_lt C 49 d_Mo_rows_29 (by decide) (by omega) (by omega) (fun c_29 => ?_) (fun c_29 => ?_)
    · exact absurd c_29 (by omega)
    · skip
      refine r_iload_n C 1 d_Mo_rows_32 rfl rfl ?_
      refine r_bipush C (nI 16) d_Mo_rows_33 (by decide) ?_
      refine r_ncmp_gt C 49 d_Mo_rows_35 (by decide) (by omega) (by omega) (fun c_35 => ?_) (fun c_35 => ?_)
      · exact absurd c_35 (by omega)
      · skip
        refine r_iload_n C 2 d_Mo_rows_38 rfl rfl ?_
        refine r_iconst C (nI 1) d_Mo_rows_39 (by decide) ?_
        refine r_ncmp_lt C 49 d_Mo_rows_40 (by decide) (by omega) (by omega) (fun c_40 => ?_) (fun c_40 => ?_)
        · exact absurd c_40 (by omega)
        · skip
          refine r_iload_n C 2 d_Mo_rows_43 rfl rfl ?_
          refine r_bipush C (nI 16) d_Mo_rows_44 (by decide) ?_
          refine r_ncmp_le C 53 d_Mo_rows_46 (by decide) (by omega) (by omega) (fun c_46 => ?_) (fun c_46 => ?_)
          · skip
            refine r_iconst C (nI 0) d_Mo_rows_53 (by decide) ?_
            refine j_callV C (c_Mo_says g (xl x) (m0 := m0) (ad := ad) (qth := nI 0) (qsz := qsz) (qtk := qtk) (qde := qde) (qru := nI rules.length) (qat := qat) (qen := qen) (qto := qto) (qbe := qbe) (qva := qva) (qwr := qwr) (qop := qop) (qwi := nI uw0) (qhe := nI uh0) (qrw := nI rw_) (qma := qma) (qir := true) (qiu := false) (z := nI 0) ) (Sp.of (wr := [((ad 37), .inl (g.2.1 0, 697000, .inl (aI ST))), ((ad 38), .inl (g.2.1 0, 25300, .inl (aI SB))), ((ad 39), .inl (g.2.1 0, 41, .inl (aI CH))), ((ad 41), .inl (g.2.1 2, 256, .inl (zI HA))), ((ad 40), .inl (g.2.1 0, 41, .inl (aI DN))), ((ad 15), .inl (g.2.1 0, 500, .inl (aI AR))), ((ad 16), .inl (g.2.1 0, 20000, .inl (aI WH))), ((ad 17), .inl (g.2.1 0, 20000, .inl (aI FI))), ((ad 18), .inl (g.2.1 0, 20000, .inl (aI SE))), ((ad 33), .inl (g.2.1 0, 4000, .inl (aI RR))), ((ad 34), .inl (g.2.1 0, 4001, .inl (aI RB))), ((ad 35), .inl (g.2.1 0, 30000, .inl (aI PL)))]) [0] [1, 2, 3, 4, 5, 6, 7, 8, 9, 10, 11, 12] rfl rfl rfl rfl (by decide)) d_Mo_rows_54 lk_Mo_270 mw_Mo_says vw_Mo_says (q0 := 0) rfl rfl (fit_of hR (by first | decide | (simp only [rmk]; omega)) (by first | decide | (simp only [rmk]; omega)) (by first | decide | (simp only [rmk]; omega)) (by first | decide | (simp only [rmk]; omega))) rfl (cat8 (Nat.le_of_ble_eq_true rfl)) (As := [.int (nI 0)]) (rest := []) rfl (fun r_54 w_54 hp_54 => ?_)
            obtain ⟨rfl, rfl⟩ := hp_54
            refine r_after (ws' := [(m0, .inr (9, MO ad (nI 0) qsz (bI true) qtk qde (nI rules.length) qat qen qto qbe qva qwr qop (bI false) (nI uw0) (nI uh0) (nI rw_) qma)), ((ad 37), .inl (g.2.1 0, 697000, .inl (aI ST))), ((ad 38), .inl (g.2.1 0, 25300, .inl (aI SB))), ((ad 39), .inl (g.2.1 0, 41, .inl (aI CH))), ((ad 41), .inl (g.2.1 2, 256, .inl (zI HA))), ((ad 40), .inl (g.2.1 0, 41, .inl (aI DN))), ((ad 15), .inl (g.2.1 0, 500, .inl (aI AR))), ((ad 16), .inl (g.2.1 0, 20000, .inl (aI WH))), ((ad 17), .inl (g.2.1 0, 20000, .inl (aI FI))), ((ad 18), .inl (g.2.1 0, 20000, .inl (aI SE))), ((ad 33), .inl (g.2.1 0, 4000, .inl (aI RR))), ((ad 34), .inl (g.2.1 0, 4001, .inl (aI RB))), ((ad 35), .inl (g.2.1 0, 30000, .inl (aI PL)))]) (st' := [.int (bI (decide ((nI 0) = 0)))]) (n1 := 0) (n2 := 0) [12, 0, 1, 2, 3, 4, 5, 6, 7, 8, 9, 10, 11] rfl rfl rfl rfl rfl ?_
            refine r_bif_ne C 62 d_Mo_rows_57 (by decide) (fun c_57 => ?_) (fun c_57 => ?_)
            · skip
              refine r_aload_n C 0 d_Mo_rows_62 rfl rfl ?_
              refine r_iload_n C 1 d_Mo_rows_63 rfl rfl ?_
              refine r_put C (ws' := [(m0, .inr (9, MO ad (nI 0) qsz (bI true) qtk qde (nI rules.length) qat qen qto qbe qva qwr qop (bI false) (nI uw) (nI uh0) (nI rw_) qma)), ((ad 37), .inl (g.2.1 0, 697000, .inl (aI ST))), ((ad 38), .inl (g.2.1 0, 25300, .inl (aI SB))), ((ad 39), .inl (g.2.1 0, 41, .inl (aI CH))), ((ad 41), .inl (g.2.1 2, 256, .inl (zI HA))), ((ad 40), .inl (g.2.1 0, 41, .inl (aI DN))), ((ad 15), .inl (g.2.1 0, 500, .inl (aI AR))), ((ad 16), .inl (g.2.1 0, 20000, .inl (aI WH))), ((ad 17), .inl (g.2.1 0, 20000, .inl (aI FI))), ((ad 18), .inl (g.2.1 0, 20000, .inl (aI SE))), ((ad 33), .inl (g.2.1 0, 4000, .inl (aI RR))), ((ad 34), .inl (g.2.1 0, 4001, .inl (aI RB))), ((ad 35), .inl (g.2.1 0, 30000, .inl (aI PL)))]) 0 30 d_Mo_rows_64 ci_Mo fi_Mo_218 rfl (by decide) rfl rfl (rfl) (rfl) (by simp) rfl ?_
              refine r_aload_n C 0 d_Mo_rows_67 rfl rfl ?_
              refine r_iload_n C 2 d_Mo_rows_68 rfl rfl ?_
              refine r_put C (ws' := [(m0, .inr (9, MO ad (nI 0) qsz (bI true) qtk qde (nI rules.length) qat qen qto qbe qva qwr qop (bI false) (nI uw) (nI uh) (nI rw_) qma)), ((ad 37), .inl (g.2.1 0, 697000, .inl (aI ST))), ((ad 38), .inl (g.2.1 0, 25300, .inl (aI SB))), ((ad 39), .inl (g.2.1 0, 41, .inl (aI CH))), ((ad 41), .inl (g.2.1 2, 256, .inl (zI HA))), ((ad 40), .inl (g.2.1 0, 41, .inl (aI DN))), ((ad 15), .inl (g.2.1 0, 500, .inl (aI AR))), ((ad 16), .inl (g.2.1 0, 20000, .inl (aI WH))), ((ad 17), .inl (g.2.1 0, 20000, .inl (aI FI))), ((ad 18), .inl (g.2.1 0, 20000, .inl (aI SE))), ((ad 33), .inl (g.2.1 0, 4000, .inl (aI RR))), ((ad 34), .inl (g.2.1 0, 4001, .inl (aI RB))), ((ad 35), .inl (g.2.1 0, 30000, .inl (aI PL)))]) 0 31 d_Mo_rows_69 ci_Mo fi_Mo_231 rfl (by decide) rfl rfl (rfl) (rfl) (by simp) rfl ?_
              refine r_aload_n C 0 d_Mo_rows_72 rfl rfl ?_
              refine r_iconst C (nI 0) d_Mo_rows_73 (by decide) ?_
              refine r_put C (ws' := [(m0, .inr (9, MO ad (nI 0) qsz (bI true) qtk qde (nI rules.length) qat qen qto qbe qva qwr qop (bI false) (nI uw) (nI uh) (nI 0) qma)), ((ad 37), .inl (g.2.1 0, 697000, .inl (aI ST))), ((ad 38), .inl (g.2.1 0, 25300, .inl (aI SB))), ((ad 39), .inl (g.2.1 0, 41, .inl (aI CH))), ((ad 41), .inl (g.2.1 2, 256, .inl (zI HA))), ((ad 40), .inl (g.2.1 0, 41, .inl (aI DN))), ((ad 15), .inl (g.2.1 0, 500, .inl (aI AR))), ((ad 16), .inl (g.2.1 0, 20000, .inl (aI WH))), ((ad 17), .inl (g.2.1 0, 20000, .inl (aI FI))), ((ad 18), .inl (g.2.1 0, 20000, .inl (aI SE))), ((ad 33), .inl (g.2.1 0, 4000, .inl (aI RR))), ((ad 34), .inl (g.2.1 0, 4001, .inl (aI RB))), ((ad 35), .inl (g.2.1 0, 30000, .inl (aI PL)))]) 0 32 d_Mo_rows_74 ci_Mo fi_Mo_260 rfl (by decide) rfl rfl (rfl) (rfl) (by simp) rfl ?_
              refine r_aload_n C 0 d_Mo_rows_77 rfl rfl ?_
              refine r_get C 0 34 d_Mo_rows_78 ci_Mo fi_Mo_61 rfl (by decide) rfl rfl ?_
              refine r_iconst C (nI 0) d_Mo_rows_81 (by decide) ?_
              refine r_iconst C (nI 0) d_Mo_rows_82 (by decide) ?_
              refine r_nast C (ws' := [(m0, .inr (9, MO ad (nI 0) qsz (bI true) qtk qde (nI rules.length) qat qen qto qbe qva qwr qop (bI false) (nI uw) (nI uh) (nI 0) qma)), ((ad 37), .inl (g.2.1 0, 697000, .inl (aI ST))), ((ad 38), .inl (g.2.1 0, 25300, .inl (aI SB))), ((ad 39), .inl (g.2.1 0, 41, .inl (aI CH))), ((ad 41), .inl (g.2.1 2, 256, .inl (zI HA))), ((ad 40), .inl (g.2.1 0, 41, .inl (aI DN))), ((ad 15), .inl (g.2.1 0, 500, .inl (aI AR))), ((ad 16), .inl (g.2.1 0, 20000, .inl (aI WH))), ((ad 17), .inl (g.2.1 0, 20000, .inl (aI FI))), ((ad 18), .inl (g.2.1 0, 20000, .inl (aI SE))), ((ad 33), .inl (g.2.1 0, 4000, .inl (aI RR))), ((ad 34), .inl (g.2.1 0, 4001, .inl (aI (up RB 0 0)))), ((ad 35), .inl (g.2.1 0, 30000, .inl (aI PL)))]) 11 0 d_Mo_rows_83 rfl rfl (by omega) (by decide) rfl ?_
              refine r_aload_n C 0 d_Mo_rows_84 rfl rfl ?_
              refine r_iconst C (nI 0) d_Mo_rows_85 (by decide) ?_
              refine r_put C (ws' := [(m0, .inr (9, MO ad (nI 0) qsz (bI true) qtk qde (nI rules.length) qat qen qto qbe qva qwr qop (bI false) (nI uw) (nI uh) (nI 0) (nI 0))), ((ad 37), .inl (g.2.1 0, 697000, .inl (aI ST))), ((ad 38), .inl (g.2.1 0, 25300, .inl (aI SB))), ((ad 39), .inl (g.2.1 0, 41, .inl (aI CH))), ((ad 41), .inl (g.2.1 2, 256, .inl (zI HA))), ((ad 40), .inl (g.2.1 0, 41, .inl (aI DN))), ((ad 15), .inl (g.2.1 0, 500, .inl (aI AR))), ((ad 16), .inl (g.2.1 0, 20000, .inl (aI WH))), ((ad 17), .inl (g.2.1 0, 20000, .inl (aI FI))), ((ad 18), .inl (g.2.1 0, 20000, .inl (aI SE))), ((ad 33), .inl (g.2.1 0, 4000, .inl (aI RR))), ((ad 34), .inl (g.2.1 0, 4001, .inl (aI (up RB 0 0)))), ((ad 35), .inl (g.2.1 0, 30000, .inl (aI PL)))]) 0 36 d_Mo_rows_86 ci_Mo fi_Mo_221 rfl (by decide) rfl rfl (rfl) (rfl) (by simp) rfl ?_
              refine r_iconst C (nI 1) d_Mo_rows_89 (by decide) ?_
              refine r_istore_n C (lv' := [(3, .int (nI 1)), (0, .ref m0), (1, .int (nI uw)), (2, .int (nI uh))]) d_Mo_rows_90 rfl (by decide) rfl ?_
              refine r_iconst C (nI 0) d_Mo_rows_91 (by decide) ?_
              refine r_istore C (lv' := [(4, .int (nI 0)), (3, .int (nI 1)), (0, .ref m0), (1, .int (nI uw)), (2, .int (nI uh))]) d_Mo_rows_92 (by decide) rfl ?_
              refine r_lv (lv' := [(0, .ref m0), (1, .int (nI uw)), (2, .int (nI uh)), (3, .int (bI true)), (4, .int (nI 0))]) [2, 3, 4, 1, 0] rfl ?_
              exact lp_Mo_rows_go_94 g (m0 := m0) (ad := ad) (qth := qth) (qsz := qsz) (qtk := qtk) (qde := qde) (qat := qat) (qen := qen) (qto := qto) (qbe := qbe) (qva := qva) (qwr := qwr) (qop := qop) (qma := qma) (qiu := qiu) (uw0 := uw0) (uh0 := uh0) (uw := uw) (uh := uh) (rw_ := rw_) (rules := rules) (ST := ST) (SB := SB) (CH := CH) (DN := DN) (AR := AR) (WH := WH) (FI := FI) (SE := SE) (RR := RR) (RB := RB) (PL := PL) (HA := HA) hw0 hw1 hh0 hh1 h400 hRu  C E hR _ true 0 0 0 ST SB CH DN RR (up RB 0 0) PL HA (some (0, [])) (by first | assumption | omega | rfl) (moa_0) (by rw [List.drop_zero]; rfl) (by first | assumption | omega | rfl) (by first | assumption | omega | rfl) (Nat.lt_succ_self _)
            · exact absurd c_57 (by decide)
          · exact absurd c_46 (by omega)
  · exact absurd c_16 (by decide)

set_option maxHeartbeats 4000000 in
set_option maxRecDepth 100000 in
theorem c_Mo_rows_ISE (g : GG) (l : Launch) {m0 : Nat} {ad : Nat → Nat} {qth : Int32} {qsz : Int32} {qtk : Int32} {qde : Int32} {qru : Int32} {qat : Int32} {qen : Int32} {qto : Int32} {qbe : Int32} {qva : Int32} {qwr : Int32} {qop : Int32} {qwi : Int32} {qhe : Int32} {qrw : Int32} {qma : Int32} {qiu : Bool} {z : Int32} {y : Int32}   : Cn g l y_Mo_rows b_Mo_rows 5 (some .int) (rmk 1 0 0 21) [.ref m0, .int z, .int y] ([(m0, .inr (9, MO ad qth qsz (bI false) qtk qde qru qat qen qto qbe qva qwr qop (bI qiu) qwi qhe qrw qma))]) (fun (r0 : Option Value) (w0 : va_W) => r0 = some (.int (nI 0)) ∧ w0 = [(m0, .inr (9, MO ad (nI 1) qsz (bI false) qtk qde qru qat qen qto qbe qva qwr qop (bI qiu) qwi qhe qrw qma))]) := by
  refine Cn.of R_Mo [(0, .ref m0), (1, .int z), (2, .int y)] (by decide) rfl (Nat.le_of_ble_eq_true rfl) rfl ?_
  intro x A Q hR hXl hin C E
  subst hXl
  refine r_aload_n C 0 d_Mo_rows_0 rfl rfl ?_
  refine r_aload_n C 0 d_Mo_rows_1 rfl rfl ?_
  refine r_get C 0 3 d_Mo_rows_2 ci_Mo fi_Mo_215 rfl (by decide) rfl rfl ?_
  refine r_bif_eq C 12 d_Mo_rows_5 (by decide) (fun c_5 => ?_) (fun c_5 => ?_)
  rotate_left
  · exact absurd c_5 (by decide)
  refine r_iconst C (nI 1) d_Mo_rows_12 (by decide) ?_
  refine j_callV C (c_Mo_says g (xl x) (m0 := m0) (ad := ad) (qth := qth) (qsz := qsz) (qtk := qtk) (qde := qde) (qru := qru) (qat := qat) (qen := qen) (qto := qto) (qbe := qbe) (qva := qva) (qwr := qwr) (qop := qop) (qwi := qwi) (qhe := qhe) (qrw := qrw) (qma := qma) (qir := false) (qiu := qiu) (z := nI 1) ) (Sp.of (wr := []) [0] [] rfl rfl rfl rfl (by decide)) d_Mo_rows_13 lk_Mo_270 mw_Mo_says vw_Mo_says (q0 := 0) rfl rfl (fit_of hR (by first | decide | (simp only [rmk]; omega)) (by first | decide | (simp only [rmk]; omega)) (by first | decide | (simp only [rmk]; omega)) (by first | decide | (simp only [rmk]; omega))) rfl (cat8 (Nat.le_of_ble_eq_true rfl)) (As := [.int (nI 1)]) (rest := []) rfl (fun r_13 w_13 hp_13 => ?_)
  obtain ⟨rfl, rfl⟩ := hp_13
  refine r_after (ws' := [(m0, .inr (9, MO ad (nI 1) qsz (bI false) qtk qde qru qat qen qto qbe qva qwr qop (bI qiu) qwi qhe qrw qma))]) (st' := [.int (bI (decide ((nI 1) = 0)))]) (n1 := 0) (n2 := 0) [0] rfl rfl rfl rfl rfl ?_
  refine r_bif_ne C 21 d_Mo_rows_16 (by decide) (fun c_16 => ?_) (fun c_16 => ?_)
  · exact absurd c_16 (by decide)
  · skip
    refine r_iconst C (nI 0) d_Mo_rows_19 (by decide) ?_
    refine r_iret C E d_Mo_rows_20 (by first | decide | omega | (simp only [rmk]; omega)) (by first | decide | omega | (simp only [rmk]; omega)) ?_
    exact ⟨rfl, rfl⟩

set_option maxHeartbeats 4000000 in
set_option maxRecDepth 100000 in
theorem c_Mo_rows_IAE (g : GG) (l : Launch) {m0 : Nat} {ad : Nat → Nat} {qth : Int32} {qsz : Int32} {qtk : Int32} {qde : Int32} {qru : Int32} {qat : Int32} {qen : Int32} {qto : Int32} {qbe : Int32} {qva : Int32} {qwr : Int32} {qop : Int32} {qwi : Int32} {qhe : Int32} {qrw : Int32} {qma : Int32} {qiu : Bool} {z : Int32} {y : Int32}  (hbad : ¬ (1 ≤ z ∧ z ≤ 16 ∧ 1 ≤ y ∧ y ≤ 16)) : Cn g l y_Mo_rows b_Mo_rows 5 (some .int) (rmk 1 0 0 21) [.ref m0, .int z, .int y] ([(m0, .inr (9, MO ad qth qsz (bI true) qtk qde qru qat qen qto qbe qva qwr qop (bI qiu) qwi qhe qrw qma))]) (fun (r0 : Option Value) (w0 : va_W) => r0 = some (.int (nI 0)) ∧ w0 = [(m0, .inr (9, MO ad (nI 2) qsz (bI true) qtk qde qru qat qen qto qbe qva qwr qop (bI false) qwi qhe qrw qma))]) := by
  refine Cn.of R_Mo [(0, .ref m0), (1, .int z), (2, .int y)] (by decide) rfl (Nat.le_of_ble_eq_true rfl) rfl ?_
  intro x A Q hR hXl hin C E
  subst hXl
  refine r_aload_n C 0 d_Mo_rows_0 rfl rfl ?_
  refine r_aload_n C 0 d_Mo_rows_1 rfl rfl ?_
  refine r_get C 0 3 d_Mo_rows_2 ci_Mo fi_Mo_215 rfl (by decide) rfl rfl ?_
  refine r_bif_eq C 12 d_Mo_rows_5 (by decide) (fun c_5 => ?_) (fun c_5 => ?_)
  skip
  · exact absurd c_5 (by decide)
  refine r_iconst C (nI 0) d_Mo_rows_8 (by decide) ?_
  refine r_goto C 13 d_Mo_rows_9 (by decide) ?_
  refine j_callV C (c_Mo_says g (xl x) (m0 := m0) (ad := ad) (qth := qth) (qsz := qsz) (qtk := qtk) (qde := qde) (qru := qru) (qat := qat) (qen := qen) (qto := qto) (qbe := qbe) (qva := qva) (qwr := qwr) (qop := qop) (qwi := qwi) (qhe := qhe) (qrw := qrw) (qma := qma) (qir := true) (qiu := qiu) (z := nI 0) ) (Sp.of (wr := []) [0] [] rfl rfl rfl rfl (by decide)) d_Mo_rows_13 lk_Mo_270 mw_Mo_says vw_Mo_says (q0 := 0) rfl rfl (fit_of hR (by first | decide | (simp only [rmk]; omega)) (by first | decide | (simp only [rmk]; omega)) (by first | decide | (simp only [rmk]; omega)) (by first | decide | (simp only [rmk]; omega))) rfl (cat8 (Nat.le_of_ble_eq_true rfl)) (As := [.int (nI 0)]) (rest := []) rfl (fun r_13 w_13 hp_13 => ?_)
  obtain ⟨rfl, rfl⟩ := hp_13
  refine r_after (ws' := [(m0, .inr (9, MO ad (nI 0) qsz (bI true) qtk qde qru qat qen qto qbe qva qwr qop (bI qiu) qwi qhe qrw qma))]) (st' := [.int (bI (decide ((nI 0) = 0)))]) (n1 := 0) (n2 := 0) [0] rfl rfl rfl rfl rfl ?_
  refine r_bif_ne C 21 d_Mo_rows_16 (by decide) (fun c_16 => ?_) (fun c_16 => ?_)
  · skip
    refine r_aload_n C 0 d_Mo_rows_21 rfl rfl ?_
    refine r_iconst C (nI 0) d_Mo_rows_22 (by decide) ?_
    refine r_eqS (st' := [.int (bI false), .ref m0]) rfl ?_
    refine r_put C (ws' := [(m0, .inr (9, MO ad (nI 0) qsz (bI true) qtk qde qru qat qen qto qbe qva qwr qop (bI false) qwi qhe qrw qma))]) 0 29 d_Mo_rows_23 ci_Mo fi_Mo_206 rfl (by decide) rfl rfl (bI_nar _) (bI_fit _) (by simp) rfl ?_
    refine r_aload_n C 0 d_Mo_rows_26 rfl rfl ?_
    refine r_iload_n C 1 d_Mo_rows_27 rfl rfl ?_
    refine r_iconst C (nI 1) d_Mo_rows_28 (by decide) ?_
    refine r_icmp_lt C 49 d_Mo_rows_29 (by decide) (fun c_29 => ?_) (fun c_29 => ?_)
    · skip
      refine r_iconst C (nI 2) d_Mo_rows_49 (by decide) ?_
      refine r_goto C 54 d_Mo_rows_50 (by decide) ?_
      refine j_callV C (c_Mo_says g (xl x) (m0 := m0) (ad := ad) (qth := nI 0) (qsz := qsz) (qtk := qtk) (qde := qde) (qru := qru) (qat := qat) (qen := qen) (qto := qto) (qbe := qbe) (qva := qva) (qwr := qwr) (qop := qop) (qwi := qwi) (qhe := qhe) (qrw := qrw) (qma := qma) (qir := true) (qiu := false) (z := nI 2) ) (Sp.of (wr := []) [0] [] rfl rfl rfl rfl (by decide)) d_Mo_rows_54 lk_Mo_270 mw_Mo_says vw_Mo_says (q0 := 0) rfl rfl (fit_of hR (by first | decide | (simp only [rmk]; omega)) (by first | decide | (simp only [rmk]; omega)) (by first | decide | (simp only [rmk]; omega)) (by first | decide | (simp only [rmk]; omega))) rfl (cat8 (Nat.le_of_ble_eq_true rfl)) (As := [.int (nI 2)]) (rest := []) rfl (fun r_54 w_54 hp_54 => ?_)
      obtain ⟨rfl, rfl⟩ := hp_54
      refine r_after (ws' := [(m0, .inr (9, MO ad (nI 2) qsz (bI true) qtk qde qru qat qen qto qbe qva qwr qop (bI false) qwi qhe qrw qma))]) (st' := [.int (bI (decide ((nI 2) = 0)))]) (n1 := 0) (n2 := 0) [0] rfl rfl rfl rfl rfl ?_
      refine r_bif_ne C 62 d_Mo_rows_57 (by decide) (fun c_57 => ?_) (fun c_57 => ?_)
      · exact absurd c_57 (by decide)
      · skip
        refine r_iconst C (nI 0) d_Mo_rows_60 (by decide) ?_
        refine r_iret C E d_Mo_rows_61 (by first | decide | omega | (simp only [rmk]; omega)) (by first | decide | omega | (simp only [rmk]; omega)) ?_
        exact ⟨rfl, rfl⟩
    · skip
      refine r_iload_n C 1 d_Mo_rows_32 rfl rfl ?_
      refine r_bipush C (nI 16) d_Mo_rows_33 (by decide) ?_
      refine r_icmp_gt C 49 d_Mo_rows_35 (by decide) (fun c_35 => ?_) (fun c_35 => ?_)
      · skip
        refine r_iconst C (nI 2) d_Mo_rows_49 (by decide) ?_
        refine r_goto C 54 d_Mo_rows_50 (by decide) ?_
        refine j_callV C (c_Mo_says g (xl x) (m0 := m0) (ad := ad) (qth := nI 0) (qsz := qsz) (qtk := qtk) (qde := qde) (qru := qru) (qat := qat) (qen := qen) (qto := qto) (qbe := qbe) (qva := qva) (qwr := qwr) (qop := qop) (qwi := qwi) (qhe := qhe) (qrw := qrw) (qma := qma) (qir := true) (qiu := false) (z := nI 2) ) (Sp.of (wr := []) [0] [] rfl rfl rfl rfl (by decide)) d_Mo_rows_54 lk_Mo_270 mw_Mo_says vw_Mo_says (q0 := 0) rfl rfl (fit_of hR (by first | decide | (simp only [rmk]; omega)) (by first | decide | (simp only [rmk]; omega)) (by first | decide | (simp only [rmk]; omega)) (by first | decide | (simp only [rmk]; omega))) rfl (cat8 (Nat.le_of_ble_eq_true rfl)) (As := [.int (nI 2)]) (rest := []) rfl (fun r_54 w_54 hp_54 => ?_)
        obtain ⟨rfl, rfl⟩ := hp_54
        refine r_after (ws' := [(m0, .inr (9, MO ad (nI 2) qsz (bI true) qtk qde qru qat qen qto qbe qva qwr qop (bI false) qwi qhe qrw qma))]) (st' := [.int (bI (decide ((nI 2) = 0)))]) (n1 := 0) (n2 := 0) [0] rfl rfl rfl rfl rfl ?_
        refine r_bif_ne C 62 d_Mo_rows_57 (by decide) (fun c_57 => ?_) (fun c_57 => ?_)
        · exact absurd c_57 (by decide)
        · skip
          refine r_iconst C (nI 0) d_Mo_rows_60 (by decide) ?_
          refine r_iret C E d_Mo_rows_61 (by first | decide | omega | (simp only [rmk]; omega)) (by first | decide | omega | (simp only [rmk]; omega)) ?_
          exact ⟨rfl, rfl⟩
      · skip
        refine r_iload_n C 2 d_Mo_rows_38 rfl rfl ?_
        refine r_iconst C (nI 1) d_Mo_rows_39 (by decide) ?_
        refine r_icmp_lt C 49 d_Mo_rows_40 (by decide) (fun c_40 => ?_) (fun c_40 => ?_)
        · skip
          refine r_iconst C (nI 2) d_Mo_rows_49 (by decide) ?_
          refine r_goto C 54 d_Mo_rows_50 (by decide) ?_
          refine j_callV C (c_Mo_says g (xl x) (m0 := m0) (ad := ad) (qth := nI 0) (qsz := qsz) (qtk := qtk) (qde := qde) (qru := qru) (qat := qat) (qen := qen) (qto := qto) (qbe := qbe) (qva := qva) (qwr := qwr) (qop := qop) (qwi := qwi) (qhe := qhe) (qrw := qrw) (qma := qma) (qir := true) (qiu := false) (z := nI 2) ) (Sp.of (wr := []) [0] [] rfl rfl rfl rfl (by decide)) d_Mo_rows_54 lk_Mo_270 mw_Mo_says vw_Mo_says (q0 := 0) rfl rfl (fit_of hR (by first | decide | (simp only [rmk]; omega)) (by first | decide | (simp only [rmk]; omega)) (by first | decide | (simp only [rmk]; omega)) (by first | decide | (simp only [rmk]; omega))) rfl (cat8 (Nat.le_of_ble_eq_true rfl)) (As := [.int (nI 2)]) (rest := []) rfl (fun r_54 w_54 hp_54 => ?_)
          obtain ⟨rfl, rfl⟩ := hp_54
          refine r_after (ws' := [(m0, .inr (9, MO ad (nI 2) qsz (bI true) qtk qde qru qat qen qto qbe qva qwr qop (bI false) qwi qhe qrw qma))]) (st' := [.int (bI (decide ((nI 2) = 0)))]) (n1 := 0) (n2 := 0) [0] rfl rfl rfl rfl rfl ?_
          refine r_bif_ne C 62 d_Mo_rows_57 (by decide) (fun c_57 => ?_) (fun c_57 => ?_)
          · exact absurd c_57 (by decide)
          · skip
            refine r_iconst C (nI 0) d_Mo_rows_60 (by decide) ?_
            refine r_iret C E d_Mo_rows_61 (by first | decide | omega | (simp only [rmk]; omega)) (by first | decide | omega | (simp only [rmk]; omega)) ?_
            exact ⟨rfl, rfl⟩
        · skip
          refine r_iload_n C 2 d_Mo_rows_43 rfl rfl ?_
          refine r_bipush C (nI 16) d_Mo_rows_44 (by decide) ?_
          refine r_icmp_le C 53 d_Mo_rows_46 (by decide) (fun c_46 => ?_) (fun c_46 => ?_)
          · exact absurd ⟨Int32.not_lt.mp c_29, Int32.not_lt.mp c_35, Int32.not_lt.mp c_40, c_46⟩ hbad
          · skip
            refine r_iconst C (nI 2) d_Mo_rows_49 (by decide) ?_
            refine r_goto C 54 d_Mo_rows_50 (by decide) ?_
            refine j_callV C (c_Mo_says g (xl x) (m0 := m0) (ad := ad) (qth := nI 0) (qsz := qsz) (qtk := qtk) (qde := qde) (qru := qru) (qat := qat) (qen := qen) (qto := qto) (qbe := qbe) (qva := qva) (qwr := qwr) (qop := qop) (qwi := qwi) (qhe := qhe) (qrw := qrw) (qma := qma) (qir := true) (qiu := false) (z := nI 2) ) (Sp.of (wr := []) [0] [] rfl rfl rfl rfl (by decide)) d_Mo_rows_54 lk_Mo_270 mw_Mo_says vw_Mo_says (q0 := 0) rfl rfl (fit_of hR (by first | decide | (simp only [rmk]; omega)) (by first | decide | (simp only [rmk]; omega)) (by first | decide | (simp only [rmk]; omega)) (by first | decide | (simp only [rmk]; omega))) rfl (cat8 (Nat.le_of_ble_eq_true rfl)) (As := [.int (nI 2)]) (rest := []) rfl (fun r_54 w_54 hp_54 => ?_)
            obtain ⟨rfl, rfl⟩ := hp_54
            refine r_after (ws' := [(m0, .inr (9, MO ad (nI 2) qsz (bI true) qtk qde qru qat qen qto qbe qva qwr qop (bI false) qwi qhe qrw qma))]) (st' := [.int (bI (decide ((nI 2) = 0)))]) (n1 := 0) (n2 := 0) [0] rfl rfl rfl rfl rfl ?_
            refine r_bif_ne C 62 d_Mo_rows_57 (by decide) (fun c_57 => ?_) (fun c_57 => ?_)
            · exact absurd c_57 (by decide)
            · skip
              refine r_iconst C (nI 0) d_Mo_rows_60 (by decide) ?_
              refine r_iret C E d_Mo_rows_61 (by first | decide | omega | (simp only [rmk]; omega)) (by first | decide | omega | (simp only [rmk]; omega)) ?_
              exact ⟨rfl, rfl⟩
  · exact absurd c_16 (by decide)
