/-- side by side, as the reference reckons it -/
def bySd (uw p q : Nat) : Bool := decide ((nI (p % uw) - nI (q % uw)) * (nI (p % uw) - nI (q % uw)) + (nI (p / uw) - nI (q / uw)) * (nI (p / uw) - nI (q / uw)) = nI 1)
def sidesR (uw : Nat) : List Nat → List (List Nat)
  | [] => []
  | p :: M => (M.filter (bySd uw p)).map (fun q => [p, q]) ++ sidesR uw M
/-- the level holds these sets -/
def LvC (ST SB CH : Nat → Nat) (lv : Nat) (Cs : List (List Nat)) : Prop := LvA ST SB lv Cs ∧ CH lv = Cs.length
section SDR
variable {ST SB CH : Nat → Nat} {lv fr z i j p q uw : Nat} {Cs : List (List Nat)}
theorem seg_d (h : i < z) : (segL ST fr z).drop i = ST (fr + i) :: (segL ST fr z).drop (i + 1) := by
  rw [segL_drop (by omega), segL_drop (by omega), show z - i = (z - (i + 1)) + 1 by omega, segL_cons]
  rfl
/-- a set of two places more -/
theorem lv_2 (h : LvC ST SB CH lv Cs) : LvC (up (up ST (17000 * lv + up SB (616 * lv + CH lv + 1) (SB (616 * lv + CH lv)) (616 * lv + CH lv + 1)) p) (17000 * lv + up (up SB (616 * lv + CH lv + 1) (SB (616 * lv + CH lv))) (616 * lv + CH lv + 1) (up SB (616 * lv + CH lv + 1) (SB (616 * lv + CH lv)) (616 * lv + CH lv + 1) + 1) (616 * lv + CH lv + 1)) q) (up (up (up SB (616 * lv + CH lv + 1) (SB (616 * lv + CH lv))) (616 * lv + CH lv + 1) (up SB (616 * lv + CH lv + 1) (SB (616 * lv + CH lv)) (616 * lv + CH lv + 1) + 1)) (616 * lv + CH lv + 1) (up (up SB (616 * lv + CH lv + 1) (SB (616 * lv + CH lv))) (616 * lv + CH lv + 1) (up SB (616 * lv + CH lv + 1) (SB (616 * lv + CH lv)) (616 * lv + CH lv + 1) + 1) (616 * lv + CH lv + 1) + 1)) (up CH lv (CH lv + 1)) lv (Cs ++ [[p, q]]) := by
  obtain ⟨h1, h2⟩ := h
  have a := lv_add (p := q) (lv_add (p := p) (lv_begin h1))
  rw [h2]
  exact ⟨a, by rw [up_self, List.length_append]; rfl⟩
theorem sd_go {M N : List Nat} {R X : List (List Nat)} (hd : (M : List Nat) = q :: N) (h : Cs ++ ((M.filter (bySd uw p)).map (fun q => [p, q]) ++ R) = X) : (bySd uw p q = true → Cs ++ [[p, q]] ++ ((N.filter (bySd uw p)).map (fun q => [p, q]) ++ R) = X) ∧ (bySd uw p q = false → Cs ++ ((N.filter (bySd uw p)).map (fun q => [p, q]) ++ R) = X) := by
  subst hd
  refine ⟨fun c => ?_, fun c => ?_⟩
  · rw [List.filter_cons_of_pos c] at h
    rw [← h]
    simp
  · rw [List.filter_cons_of_neg (by rw [c]; decide)] at h
    exact h
theorem fr_2 {a b c d e f2 : Nat} (h2 : CH lv = Cs.length) : LvF lv ST SB CH (up (up ST (17000 * lv + a) p) (17000 * lv + b) q) (up (up (up SB (616 * lv + CH lv + 1) c) (616 * lv + CH lv + 1) d) (616 * lv + CH lv + 1) e) (up CH lv f2) := ⟨fun t z => by rw [up_ne _ _ (by omega), up_ne _ _ (by omega)], fun t z => by rw [up_ne _ _ (by omega), up_ne _ _ (by omega), up_ne _ _ (by omega)], fun j z => up_ne _ _ (by omega)⟩
theorem lv_2s (h : LvC ST SB CH lv Cs) (hs : SB (616 * lv + Cs.length) = 2 * Cs.length) : up (up (up SB (616 * lv + CH lv + 1) (SB (616 * lv + CH lv))) (616 * lv + CH lv + 1) (up SB (616 * lv + CH lv + 1) (SB (616 * lv + CH lv)) (616 * lv + CH lv + 1) + 1)) (616 * lv + CH lv + 1) (up (up SB (616 * lv + CH lv + 1) (SB (616 * lv + CH lv))) (616 * lv + CH lv + 1) (up SB (616 * lv + CH lv + 1) (SB (616 * lv + CH lv)) (616 * lv + CH lv + 1) + 1) (616 * lv + CH lv + 1) + 1) (616 * lv + (Cs ++ [[p, q]]).length) = 2 * (Cs ++ [[p, q]]).length := by
  rw [h.2, List.length_append]
  show up _ _ _ (616 * lv + (Cs.length + 1)) = 2 * (Cs.length + 1)
  rw [show 616 * lv + (Cs.length + 1) = 616 * lv + Cs.length + 1 by omega, up_self, up_self, up_self, hs]
  omega
theorem sd_len {X R : List (List Nat)} {a : List Nat} (h : Cs ++ [a] ++ R = X) (hn : X.length ≤ 614) : Cs.length + 1 ≤ 614 := by
  rw [← h] at hn
  simp only [List.length_append, List.length_cons, List.length_nil] at hn
  omega
end SDR

set_option maxRecDepth 100000 in
theorem lk_Mo_240 : LK R_Mo 240 y_Mo_beginSet := Or.inl (gw (i := 1178) rfl rfl)
set_option maxRecDepth 100000 in
theorem lk_Mo_243 : LK R_Mo 243 y_Mo_add := Or.inl (gw (i := 1182) rfl rfl)
set_option maxRecDepth 100000 in
theorem lk_Mo_247 : LK R_Mo 247 y_Mo_endSet := Or.inl (gw (i := 1186) rfl rfl)
set_option maxRecDepth 100000 in
theorem lk_Mo_257 : LK R_Mo 257 y_Mo_isBySide := Or.inl (gw (i := 1175) rfl rfl)
set_option maxRecDepth 100000 in
theorem mw_Mo_add : MW y_Mo_add b_Mo_add 4 none 2 := ⟨(gw (i := 1185) rfl rfl), (gw (i := 80) rfl rfl), by decide +kernel⟩
set_option maxRecDepth 100000 in
theorem mw_Mo_beginSet : MW y_Mo_beginSet b_Mo_beginSet 2 none 1 := ⟨(gw (i := 1181) rfl rfl), (gw (i := 80) rfl rfl), by decide +kernel⟩
set_option maxRecDepth 100000 in
theorem mw_Mo_endSet : MW y_Mo_endSet b_Mo_endSet 2 none 1 := ⟨(gw (i := 1189) rfl rfl), (gw (i := 80) rfl rfl), by decide +kernel⟩
set_option maxRecDepth 100000 in
theorem mw_Mo_isBySide : MW y_Mo_isBySide b_Mo_isBySide 2 (some .boolean) 2 := ⟨(gw (i := 1177) rfl rfl), (gw (i := 80) rfl rfl), by decide +kernel⟩
set_option maxRecDepth 100000 in
theorem st_Mo_isBySide : Cond.static y_Mo_isBySide ∈ GW := (gw (i := 1176) rfl rfl)
set_option maxRecDepth 100000 in
theorem vw_Mo_add : VW y_Mo_add := ⟨(gw (i := 1184) rfl rfl), (gw (i := 66) rfl rfl)⟩
set_option maxRecDepth 100000 in
theorem vw_Mo_beginSet : VW y_Mo_beginSet := ⟨(gw (i := 1180) rfl rfl), (gw (i := 65) rfl rfl)⟩
set_option maxRecDepth 100000 in
theorem vw_Mo_endSet : VW y_Mo_endSet := ⟨(gw (i := 1188) rfl rfl), (gw (i := 67) rfl rfl)⟩
theorem d_Mo_sides_0 : decode b_Mo_sides 0 = .ok (.iconst 0, 1) := by decide +kernel
theorem d_Mo_sides_1 : decode b_Mo_sides 1 = .ok (.istore 4, 2) := by decide +kernel
theorem d_Mo_sides_3 : decode b_Mo_sides 3 = .ok (.iload 4, 2) := by decide +kernel
theorem d_Mo_sides_5 : decode b_Mo_sides 5 = .ok (.iload_n 3, 1) := by decide +kernel
theorem d_Mo_sides_6 : decode b_Mo_sides 6 = .ok (.if_icmp .ge 108, 3) := by decide +kernel
theorem d_Mo_sides_9 : decode b_Mo_sides 9 = .ok (.iload 4, 2) := by decide +kernel
theorem d_Mo_sides_11 : decode b_Mo_sides 11 = .ok (.iconst 1, 1) := by decide +kernel
theorem d_Mo_sides_12 : decode b_Mo_sides 12 = .ok (.iadd, 1) := by decide +kernel
theorem d_Mo_sides_13 : decode b_Mo_sides 13 = .ok (.istore 5, 2) := by decide +kernel
theorem d_Mo_sides_15 : decode b_Mo_sides 15 = .ok (.iload 5, 2) := by decide +kernel
theorem d_Mo_sides_17 : decode b_Mo_sides 17 = .ok (.iload_n 3, 1) := by decide +kernel
theorem d_Mo_sides_18 : decode b_Mo_sides 18 = .ok (.if_icmp .ge 90, 3) := by decide +kernel
theorem d_Mo_sides_21 : decode b_Mo_sides 21 = .ok (.aload_n 0, 1) := by decide +kernel
theorem d_Mo_sides_22 : decode b_Mo_sides 22 = .ok (.getfield 68, 3) := by decide +kernel
theorem d_Mo_sides_25 : decode b_Mo_sides 25 = .ok (.iload_n 2, 1) := by decide +kernel
theorem d_Mo_sides_26 : decode b_Mo_sides 26 = .ok (.iload 4, 2) := by decide +kernel
theorem d_Mo_sides_28 : decode b_Mo_sides 28 = .ok (.iadd, 1) := by decide +kernel
theorem d_Mo_sides_29 : decode b_Mo_sides 29 = .ok (.iaload, 1) := by decide +kernel
theorem d_Mo_sides_30 : decode b_Mo_sides 30 = .ok (.istore 6, 2) := by decide +kernel
theorem d_Mo_sides_32 : decode b_Mo_sides 32 = .ok (.aload_n 0, 1) := by decide +kernel
theorem d_Mo_sides_33 : decode b_Mo_sides 33 = .ok (.getfield 68, 3) := by decide +kernel
theorem d_Mo_sides_36 : decode b_Mo_sides 36 = .ok (.iload_n 2, 1) := by decide +kernel
theorem d_Mo_sides_37 : decode b_Mo_sides 37 = .ok (.iload 5, 2) := by decide +kernel
theorem d_Mo_sides_39 : decode b_Mo_sides 39 = .ok (.iadd, 1) := by decide +kernel
theorem d_Mo_sides_40 : decode b_Mo_sides 40 = .ok (.iaload, 1) := by decide +kernel
theorem d_Mo_sides_41 : decode b_Mo_sides 41 = .ok (.istore 7, 2) := by decide +kernel
theorem d_Mo_sides_43 : decode b_Mo_sides 43 = .ok (.aload_n 0, 1) := by decide +kernel
theorem d_Mo_sides_44 : decode b_Mo_sides 44 = .ok (.iload 6, 2) := by decide +kernel
theorem d_Mo_sides_46 : decode b_Mo_sides 46 = .ok (.invokevirtual 228, 3) := by decide +kernel
theorem d_Mo_sides_49 : decode b_Mo_sides 49 = .ok (.aload_n 0, 1) := by decide +kernel
theorem d_Mo_sides_50 : decode b_Mo_sides 50 = .ok (.iload 7, 2) := by decide +kernel
theorem d_Mo_sides_52 : decode b_Mo_sides 52 = .ok (.invokevirtual 228, 3) := by decide +kernel
theorem d_Mo_sides_55 : decode b_Mo_sides 55 = .ok (.isub, 1) := by decide +kernel
theorem d_Mo_sides_56 : decode b_Mo_sides 56 = .ok (.aload_n 0, 1) := by decide +kernel
theorem d_Mo_sides_57 : decode b_Mo_sides 57 = .ok (.iload 6, 2) := by decide +kernel
theorem d_Mo_sides_59 : decode b_Mo_sides 59 = .ok (.invokevirtual 224, 3) := by decide +kernel
theorem d_Mo_sides_62 : decode b_Mo_sides 62 = .ok (.aload_n 0, 1) := by decide +kernel
theorem d_Mo_sides_63 : decode b_Mo_sides 63 = .ok (.iload 7, 2) := by decide +kernel
theorem d_Mo_sides_65 : decode b_Mo_sides 65 = .ok (.invokevirtual 224, 3) := by decide +kernel
theorem d_Mo_sides_68 : decode b_Mo_sides 68 = .ok (.isub, 1) := by decide +kernel
theorem d_Mo_sides_69 : decode b_Mo_sides 69 = .ok (.invokestatic 257, 3) := by decide +kernel
theorem d_Mo_sides_72 : decode b_Mo_sides 72 = .ok (.ifCond .ne 6, 3) := by decide +kernel
theorem d_Mo_sides_75 : decode b_Mo_sides 75 = .ok (.goto 27, 3) := by decide +kernel
theorem d_Mo_sides_78 : decode b_Mo_sides 78 = .ok (.aload_n 0, 1) := by decide +kernel
theorem d_Mo_sides_79 : decode b_Mo_sides 79 = .ok (.iload_n 1, 1) := by decide +kernel
theorem d_Mo_sides_80 : decode b_Mo_sides 80 = .ok (.invokevirtual 240, 3) := by decide +kernel
theorem d_Mo_sides_83 : decode b_Mo_sides 83 = .ok (.aload_n 0, 1) := by decide +kernel
theorem d_Mo_sides_84 : decode b_Mo_sides 84 = .ok (.iload_n 1, 1) := by decide +kernel
theorem d_Mo_sides_85 : decode b_Mo_sides 85 = .ok (.iload 6, 2) := by decide +kernel
theorem d_Mo_sides_87 : decode b_Mo_sides 87 = .ok (.invokevirtual 243, 3) := by decide +kernel
theorem d_Mo_sides_90 : decode b_Mo_sides 90 = .ok (.aload_n 0, 1) := by decide +kernel
theorem d_Mo_sides_91 : decode b_Mo_sides 91 = .ok (.iload_n 1, 1) := by decide +kernel
theorem d_Mo_sides_92 : decode b_Mo_sides 92 = .ok (.iload 7, 2) := by decide +kernel
theorem d_Mo_sides_94 : decode b_Mo_sides 94 = .ok (.invokevirtual 243, 3) := by decide +kernel
theorem d_Mo_sides_97 : decode b_Mo_sides 97 = .ok (.aload_n 0, 1) := by decide +kernel
theorem d_Mo_sides_98 : decode b_Mo_sides 98 = .ok (.iload_n 1, 1) := by decide +kernel
theorem d_Mo_sides_99 : decode b_Mo_sides 99 = .ok (.invokevirtual 247, 3) := by decide +kernel
theorem d_Mo_sides_102 : decode b_Mo_sides 102 = .ok (.iinc 5 1, 3) := by decide +kernel
theorem d_Mo_sides_105 : decode b_Mo_sides 105 = .ok (.goto (-90), 3) := by decide +kernel
theorem d_Mo_sides_108 : decode b_Mo_sides 108 = .ok (.iinc 4 1, 3) := by decide +kernel
theorem d_Mo_sides_111 : decode b_Mo_sides 111 = .ok (.goto (-108), 3) := by decide +kernel
theorem d_Mo_sides_114 : decode b_Mo_sides 114 = .ok (.return_, 1) := by decide +kernel
set_option maxHeartbeats 4000000 in
set_option maxRecDepth 100000 in
theorem lp_Mo_sides_15 (g : GG) {m0 : Nat} {ad : Nat → Nat} {qth : Int32} {qsz : Int32} {qtk : Int32} {qde : Int32} {qru : Int32} {qat : Int32} {qen : Int32} {qto : Int32} {qbe : Int32} {qva : Int32} {qwr : Int32} {qop : Int32} {qhe : Int32} {qrw : Int32} {qir : Bool} {qiu : Bool} {lv : Nat} {fr : Nat} {z : Nat} {uw : Nat} {md : Nat} {ST : Nat → Nat} {SB : Nat → Nat} {CH : Nat → Nat} (hw0 : 0 < uw) (hw1 : uw ≤ 16) (hl : 1 ≤ lv) (hl2 : lv ≤ 40) (hz : z ≤ 256) (hfr : fr + z ≤ 17000 * lv) (hp : ∀ i, i < z → ST (fr + i) < 256) (h0 : LvC ST SB CH lv []) (hn : (sidesR uw (segL ST fr z)).length ≤ 614) {i : Nat} {x : X0} {A : Nat → Prop} {Q : State → Prop}  (C : CX x g A R_Mo b_Mo_sides 8) (E : RX x g A Q none (fun (r0 : Option Value) (w0 : va_W) => ∃ STc : Nat → Nat, ∃ SBc : Nat → Nat, ∃ CHc : Nat → Nat, r0 = none ∧ w0 = [(m0, .inr (9, MO ad qth qsz (bI qir) qtk qde qru qat qen qto qbe qva qwr qop (bI qiu) (nI uw) qhe qrw (nI (md + (sidesR uw (segL ST fr z)).length)))), ((ad 37), .inl (g.2.1 0, 697000, .inl (aI STc))), ((ad 38), .inl (g.2.1 0, 25300, .inl (aI SBc))), ((ad 39), .inl (g.2.1 0, 41, .inl (aI CHc)))] ∧ (LvC STc SBc CHc lv (sidesR uw (segL ST fr z))) ∧ (LvF lv ST SB CH STc SBc CHc)) (rmk 1 0 0 23).cells (rmk 1 0 0 23).slots) (hR : xR x = (rmk 1 0 0 23)) (hK : ∀ (j : Nat) (STd : Nat → Nat) (SBd : Nat → Nat) (CHd : Nat → Nat) (md3 : Nat) (Ds : List (List Nat)) (gi : i < z) (gij : i < j) (gj : j ≤ z) (gC : LvC STd SBd CHd lv Ds) (gF : LvF lv ST SB CH STd SBd CHd) (gm2 : md3 = md + Ds.length) (gs2 : SBd (616 * lv + Ds.length) = 2 * Ds.length) (gI : Ds ++ ((((segL ST fr z).drop j).filter (bySd uw (ST (fr + i)))).map (fun q => [ST (fr + i), q]) ++ sidesR uw ((segL ST fr z).drop (i + 1))) = (sidesR uw (segL ST fr z))), z ≤ j → J x g A Q 8 ([(m0, .inr (9, MO ad qth qsz (bI qir) qtk qde qru qat qen qto qbe qva qwr qop (bI qiu) (nI uw) qhe qrw (nI md3))), ((ad 37), .inl (g.2.1 0, 697000, .inl (aI STd))), ((ad 38), .inl (g.2.1 0, 25300, .inl (aI SBd))), ((ad 39), .inl (g.2.1 0, 41, .inl (aI CHd)))]) [(0, .ref m0), (1, .int (nI lv)), (2, .int (nI fr)), (3, .int (nI z)), (4, .int (nI i)), (5, .int (nI j))] 108 [] 0 0) : ∀ (fuel : Nat) (j : Nat) (STd : Nat → Nat) (SBd : Nat → Nat) (CHd : Nat → Nat) (md3 : Nat) (Ds : List (List Nat)) (gi : i < z) (gij : i < j) (gj : j ≤ z) (gC : LvC STd SBd CHd lv Ds) (gF : LvF lv ST SB CH STd SBd CHd) (gm2 : md3 = md + Ds.length) (gs2 : SBd (616 * lv + Ds.length) = 2 * Ds.length) (gI : Ds ++ ((((segL ST fr z).drop j).filter (bySd uw (ST (fr + i)))).map (fun q => [ST (fr + i), q]) ++ sidesR uw ((segL ST fr z).drop (i + 1))) = (sidesR uw (segL ST fr z))), z - j < fuel → J x g A Q 8 ([(m0, .inr (9, MO ad qth qsz (bI qir) qtk qde qru qat qen qto qbe qva qwr qop (bI qiu) (nI uw) qhe qrw (nI md3))), ((ad 37), .inl (g.2.1 0, 697000, .inl (aI STd))), ((ad 38), .inl (g.2.1 0, 25300, .inl (aI SBd))), ((ad 39), .inl (g.2.1 0, 41, .inl (aI CHd)))]) [(0, .ref m0), (1, .int (nI lv)), (2, .int (nI fr)), (3, .int (nI z)), (4, .int (nI i)), (5, .int (nI j))] 15 [] 0 0 := by
  intro fuel
  induction fuel with
  | zero =>
    intro j STd SBd CHd md3 Ds gi gij gj gC gF gm2 gs2 gI hm
    exact absurd hm (Nat.not_lt_zero _)
  | succ fuel ih =>
    intro j STd SBd CHd md3 Ds gi gij gj gC gF gm2 gs2 gI hm
    refine r_iload C 5 d_Mo_sides_15 rfl ?_
    refine r_iload_n C 3 d_Mo_sides_17 rfl rfl ?_
    refine r_ncmp_ge C 108 d_Mo_sides_18 (by decide) (by omega) (by omega) (fun c_18 => ?_) (fun c_18 => ?_)
    · skip
      refine r_lv (lv' := [(0, .ref m0), (1, .int (nI lv)), (2, .int (nI fr)), (3, .int (nI z)), (4, .int (nI i)), (5, .int (nI j))]) [0, 1, 2, 3, 4, 5] rfl ?_
      exact hK j STd SBd CHd md3 Ds gi gij gj gC gF gm2 gs2 gI c_18
    · skip
      have hpi := hp i (by omega)
      have hpj := hp j (by omega)
      have hfi : STd (fr + i) = ST (fr + i) := gF.1 _ (by omega)
      have hfj : STd (fr + j) = ST (fr + j) := gF.1 _ (by omega)
      have hsd := sd_go (p := ST (fr + i)) (seg_d (ST := ST) (fr := fr) (z := z) (i := j) (by omega)) gI
      refine r_aload_n C 0 d_Mo_sides_21 rfl rfl ?_
      refine r_get C 0 37 d_Mo_sides_22 ci_Mo fi_Mo_68 rfl (by decide) rfl rfl ?_
      refine r_iload_n C 2 d_Mo_sides_25 rfl rfl ?_
      refine r_iload C 4 d_Mo_sides_26 rfl ?_
      refine r_nadd C d_Mo_sides_28 ?_
      refine r_nald C 1 0 d_Mo_sides_29 rfl rfl (by omega) (by decide) ?_
      refine r_top (v' := nI (ST (fr + i))) (by rw [hfi]) ?_
      refine r_istore C (lv' := [(6, .int (nI (ST (fr + i)))), (0, .ref m0), (1, .int (nI lv)), (2, .int (nI fr)), (3, .int (nI z)), (4, .int (nI i)), (5, .int (nI j))]) d_Mo_sides_30 (by decide) rfl ?_
      refine r_aload_n C 1 d_Mo_sides_32 rfl rfl ?_
      refine r_get C 0 37 d_Mo_sides_33 ci_Mo fi_Mo_68 rfl (by decide) rfl rfl ?_
      refine r_iload_n C 3 d_Mo_sides_36 rfl rfl ?_
      refine r_iload C 6 d_Mo_sides_37 rfl ?_
      refine r_nadd C d_Mo_sides_39 ?_
      refine r_nald C 1 0 d_Mo_sides_40 rfl rfl (by omega) (by decide) ?_
      refine r_top (v' := nI (ST (fr + j))) (by rw [hfj]) ?_
      refine r_istore C (lv' := [(7, .int (nI (ST (fr + j)))), (6, .int (nI (ST (fr + i)))), (0, .ref m0), (1, .int (nI lv)), (2, .int (nI fr)), (3, .int (nI z)), (4, .int (nI i)), (5, .int (nI j))]) d_Mo_sides_41 (by decide) rfl ?_
      refine r_aload_n C 2 d_Mo_sides_43 rfl rfl ?_
      refine r_iload C 1 d_Mo_sides_44 rfl ?_
      refine j_callV C (c_Mo_x g (xl x) (m0 := m0) (ad := ad) (qth := qth) (qsz := qsz) (qtk := qtk) (qde := qde) (qru := qru) (qat := qat) (qen := qen) (qto := qto) (qbe := qbe) (qva := qva) (qwr := qwr) (qop := qop) (qhe := qhe) (qrw := qrw) (qma := nI md3) (qir := qir) (qiu := qiu) (uw := uw) (c := ST (fr + i)) (by first | assumption | omega | rfl) (by first | assumption | omega | rfl) (by first | assumption | omega | rfl)) (Sp.of (wr := [((ad 37), .inl (g.2.1 0, 697000, .inl (aI STd))), ((ad 38), .inl (g.2.1 0, 25300, .inl (aI SBd))), ((ad 39), .inl (g.2.1 0, 41, .inl (aI CHd)))]) [0] [1, 2, 3] rfl rfl rfl rfl (by decide)) d_Mo_sides_46 lk_Mo_228 mw_Mo_x vw_Mo_x (q0 := 0) rfl rfl (fit_of hR (by first | decide | (simp only [rmk]; omega)) (by first | decide | (simp only [rmk]; omega)) (by first | decide | (simp only [rmk]; omega)) (by first | decide | (simp only [rmk]; omega))) rfl (cat8 (Nat.le_of_ble_eq_true rfl)) (As := [.int (nI (ST (fr + i)))]) (rest := []) rfl (fun r_46 w_46 hp_46 => ?_)
      obtain ⟨rfl, rfl⟩ := hp_46
      refine r_after (ws' := [(m0, .inr (9, MO ad qth qsz (bI qir) qtk qde qru qat qen qto qbe qva qwr qop (bI qiu) (nI uw) qhe qrw (nI md3))), ((ad 37), .inl (g.2.1 0, 697000, .inl (aI STd))), ((ad 38), .inl (g.2.1 0, 25300, .inl (aI SBd))), ((ad 39), .inl (g.2.1 0, 41, .inl (aI CHd)))]) (st' := [.int (nI ((ST (fr + i)) % uw))]) (n1 := 0) (n2 := 0) [3, 0, 1, 2] rfl rfl rfl rfl rfl ?_
      refine r_aload_n C 2 d_Mo_sides_49 rfl rfl ?_
      refine r_iload C 0 d_Mo_sides_50 rfl ?_
      refine j_callV C (c_Mo_x g (xl x) (m0 := m0) (ad := ad) (qth := qth) (qsz := qsz) (qtk := qtk) (qde := qde) (qru := qru) (qat := qat) (qen := qen) (qto := qto) (qbe := qbe) (qva := qva) (qwr := qwr) (qop := qop) (qhe := qhe) (qrw := qrw) (qma := nI md3) (qir := qir) (qiu := qiu) (uw := uw) (c := ST (fr + j)) (by first | assumption | omega | rfl) (by first | assumption | omega | rfl) (by first | assumption | omega | rfl)) (Sp.of (wr := [((ad 37), .inl (g.2.1 0, 697000, .inl (aI STd))), ((ad 38), .inl (g.2.1 0, 25300, .inl (aI SBd))), ((ad 39), .inl (g.2.1 0, 41, .inl (aI CHd)))]) [0] [1, 2, 3] rfl rfl rfl rfl (by decide)) d_Mo_sides_52 lk_Mo_228 mw_Mo_x vw_Mo_x (q0 := 0) rfl rfl (fit_of hR (by first | decide | (simp only [rmk]; omega)) (by first | decide | (simp only [rmk]; omega)) (by first | decide | (simp only [rmk]; omega)) (by first | decide | (simp only [rmk]; omega))) rfl (cat8 (Nat.le_of_ble_eq_true rfl)) (As := [.int (nI (ST (fr + j)))]) (rest := [.int (nI ((ST (fr + i)) % uw))]) rfl (fun r_52 w_52 hp_52 => ?_)
      obtain ⟨rfl, rfl⟩ := hp_52
      refine r_after (ws' := [(m0, .inr (9, MO ad qth qsz (bI qir) qtk qde qru qat qen qto qbe qva qwr qop (bI qiu) (nI uw) qhe qrw (nI md3))), ((ad 37), .inl (g.2.1 0, 697000, .inl (aI STd))), ((ad 38), .inl (g.2.1 0, 25300, .inl (aI SBd))), ((ad 39), .inl (g.2.1 0, 41, .inl (aI CHd)))]) (st' := [.int (nI ((ST (fr + j)) % uw)), .int (nI ((ST (fr + i)) % uw))]) (n1 := 0) (n2 := 0) [3, 0, 1, 2] rfl rfl rfl rfl rfl ?_
      refine r_isub C d_Mo_sides_55 ?_
      refine r_aload_n C 2 d_Mo_sides_56 rfl rfl ?_
      refine r_iload C 1 d_Mo_sides_57 rfl ?_
      refine j_callV C (c_Mo_y g (xl x) (m0 := m0) (ad := ad) (qth := qth) (qsz := qsz) (qtk := qtk) (qde := qde) (qru := qru) (qat := qat) (qen := qen) (qto := qto) (qbe := qbe) (qva := qva) (qwr := qwr) (qop := qop) (qhe := qhe) (qrw := qrw) (qma := nI md3) (qir := qir) (qiu := qiu) (uw := uw) (c := ST (fr + i)) (by first | assumption | omega | rfl) (by first | assumption | omega | rfl) (by first | assumption | omega | rfl)) (Sp.of (wr := [((ad 37), .inl (g.2.1 0, 697000, .inl (aI STd))), ((ad 38), .inl (g.2.1 0, 25300, .inl (aI SBd))), ((ad 39), .inl (g.2.1 0, 41, .inl (aI CHd)))]) [0] [1, 2, 3] rfl rfl rfl rfl (by decide)) d_Mo_sides_59 lk_Mo_224 mw_Mo_y vw_Mo_y (q0 := 0) rfl rfl (fit_of hR (by first | decide | (simp only [rmk]; omega)) (by first | decide | (simp only [rmk]; omega)) (by first | decide | (simp only [rmk]; omega)) (by first | decide | (simp only [rmk]; omega))) rfl (cat8 (Nat.le_of_ble_eq_true rfl)) (As := [.int (nI (ST (fr + i)))]) (rest := [.int ((nI ((ST (fr + i)) % uw)) - (nI ((ST (fr + j)) % uw)))]) rfl (fun r_59 w_59 hp_59 => ?_)
      obtain ⟨rfl, rfl⟩ := hp_59
      refine r_after (ws' := [(m0, .inr (9, MO ad qth qsz (bI qir) qtk qde qru qat qen qto qbe qva qwr qop (bI qiu) (nI uw) qhe qrw (nI md3))), ((ad 37), .inl (g.2.1 0, 697000, .inl (aI STd))), ((ad 38), .inl (g.2.1 0, 25300, .inl (aI SBd))), ((ad 39), .inl (g.2.1 0, 41, .inl (aI CHd)))]) (st' := [.int (nI ((ST (fr + i)) / uw)), .int ((nI ((ST (fr + i)) % uw)) - (nI ((ST (fr + j)) % uw)))]) (n1 := 0) (n2 := 0) [3, 0, 1, 2] rfl rfl rfl rfl rfl ?_
      refine r_aload_n C 2 d_Mo_sides_62 rfl rfl ?_
      refine r_iload C 0 d_Mo_sides_63 rfl ?_
      refine j_callV C (c_Mo_y g (xl x) (m0 := m0) (ad := ad) (qth := qth) (qsz := qsz) (qtk := qtk) (qde := qde) (qru := qru) (qat := qat) (qen := qen) (qto := qto) (qbe := qbe) (qva := qva) (qwr := qwr) (qop := qop) (qhe := qhe) (qrw := qrw) (qma := nI md3) (qir := qir) (qiu := qiu) (uw := uw) (c := ST (fr + j)) (by first | assumption | omega | rfl) (by first | assumption | omega | rfl) (by first | assumption | omega | rfl)) (Sp.of (wr := [((ad 37), .inl (g.2.1 0, 697000, .inl (aI STd))), ((ad 38), .inl (g.2.1 0, 25300, .inl (aI SBd))), ((ad 39), .inl (g.2.1 0, 41, .inl (aI CHd)))]) [0] [1, 2, 3] rfl rfl rfl rfl (by decide)) d_Mo_sides_65 lk_Mo_224 mw_Mo_y vw_Mo_y (q0 := 0) rfl rfl (fit_of hR (by first | decide | (simp only [rmk]; omega)) (by first | decide | (simp only [rmk]; omega)) (by first | decide | (simp only [rmk]; omega)) (by first | decide | (simp only [rmk]; omega))) rfl (cat8 (Nat.le_of_ble_eq_true rfl)) (As := [.int (nI (ST (fr + j)))]) (rest := [.int (nI ((ST (fr + i)) / uw)), .int ((nI ((ST (fr + i)) % uw)) - (nI ((ST (fr + j)) % uw)))]) rfl (fun r_65 w_65 hp_65 => ?_)
      obtain ⟨rfl, rfl⟩ := hp_65
      refine r_after (ws' := [(m0, .inr (9, MO ad qth qsz (bI qir) qtk qde qru qat qen qto qbe qva qwr qop (bI qiu) (nI uw) qhe qrw (nI md3))), ((ad 37), .inl (g.2.1 0, 697000, .inl (aI STd))), ((ad 38), .inl (g.2.1 0, 25300, .inl (aI SBd))), ((ad 39), .inl (g.2.1 0, 41, .inl (aI CHd)))]) (st' := [.int (nI ((ST (fr + j)) / uw)), .int (nI ((ST (fr + i)) / uw)), .int ((nI ((ST (fr + i)) % uw)) - (nI ((ST (fr + j)) % uw)))]) (n1 := 0) (n2 := 0) [3, 0, 1, 2] rfl rfl rfl rfl rfl ?_
      refine r_isub C d_Mo_sides_68 ?_
      refine j_callS C (c_Mo_isBySide g (xl x) (dx := (nI ((ST (fr + i)) % uw)) - (nI ((ST (fr + j)) % uw))) (dy := (nI ((ST (fr + i)) / uw)) - (nI ((ST (fr + j)) / uw))) ) (Sp.of (wr := [(m0, .inr (9, MO ad qth qsz (bI qir) qtk qde qru qat qen qto qbe qva qwr qop (bI qiu) (nI uw) qhe qrw (nI md3))), ((ad 37), .inl (g.2.1 0, 697000, .inl (aI STd))), ((ad 38), .inl (g.2.1 0, 25300, .inl (aI SBd))), ((ad 39), .inl (g.2.1 0, 41, .inl (aI CHd)))]) [] [0, 1, 2, 3] rfl rfl rfl rfl (by decide)) d_Mo_sides_69 lk_Mo_257 mw_Mo_isBySide st_Mo_isBySide (fit_of hR (by first | decide | (simp only [rmk]; omega)) (by first | decide | (simp only [rmk]; omega)) (by first | decide | (simp only [rmk]; omega)) (by first | decide | (simp only [rmk]; omega))) rfl (cat8 (Nat.le_of_ble_eq_true rfl)) (As := [.int ((nI ((ST (fr + i)) % uw)) - (nI ((ST (fr + j)) % uw))), .int ((nI ((ST (fr + i)) / uw)) - (nI ((ST (fr + j)) / uw)))]) (rest := []) rfl (fun r_69 w_69 hp_69 => ?_)
      obtain ⟨rfl, rfl⟩ := hp_69
      refine r_after (ws' := [(m0, .inr (9, MO ad qth qsz (bI qir) qtk qde qru qat qen qto qbe qva qwr qop (bI qiu) (nI uw) qhe qrw (nI md3))), ((ad 37), .inl (g.2.1 0, 697000, .inl (aI STd))), ((ad 38), .inl (g.2.1 0, 25300, .inl (aI SBd))), ((ad 39), .inl (g.2.1 0, 41, .inl (aI CHd)))]) (st' := [.int (bI (decide (((nI ((ST (fr + i)) % uw)) - (nI ((ST (fr + j)) % uw))) * ((nI ((ST (fr + i)) % uw)) - (nI ((ST (fr + j)) % uw))) + ((nI ((ST (fr + i)) / uw)) - (nI ((ST (fr + j)) / uw))) * ((nI ((ST (fr + i)) / uw)) - (nI ((ST (fr + j)) / uw))) = nI 1)))]) (n1 := 0) (n2 := 0) [0, 1, 2, 3] rfl rfl rfl rfl rfl ?_
      refine r_bif_ne C 78 d_Mo_sides_72 (by decide) (fun c_72 => ?_) (fun c_72 => ?_)
      · skip
        have hlt : Ds.length + 1 ≤ 614 := sd_len (hsd.1 c_72) hn
        have hch := gC.2
        have hsb : SBd (616 * lv + CHd lv) = 2 * Ds.length := by rw [hch]; exact gs2
        refine r_aload_n C 2 d_Mo_sides_78 rfl rfl ?_
        refine r_iload_n C 3 d_Mo_sides_79 rfl rfl ?_
        refine j_callV C (c_Mo_beginSet g (xl x) (m0 := m0) (ad := ad) (qth := qth) (qsz := qsz) (qtk := qtk) (qde := qde) (qru := qru) (qat := qat) (qen := qen) (qto := qto) (qbe := qbe) (qva := qva) (qwr := qwr) (qop := qop) (qwi := nI uw) (qhe := qhe) (qrw := qrw) (qma := nI md3) (qir := qir) (qiu := qiu) (lv := lv) (SB := SBd) (CH := CHd) (by first | assumption | omega | rfl) (by first | assumption | omega | rfl)) (Sp.of (wr := [((ad 37), .inl (g.2.1 0, 697000, .inl (aI STd)))]) [0, 2, 3] [1] rfl rfl rfl rfl (by decide)) d_Mo_sides_80 lk_Mo_240 mw_Mo_beginSet vw_Mo_beginSet (q0 := 0) rfl rfl (fit_of hR (by first | decide | (simp only [rmk]; omega)) (by first | decide | (simp only [rmk]; omega)) (by first | decide | (simp only [rmk]; omega)) (by first | decide | (simp only [rmk]; omega))) rfl (cat8 (Nat.le_of_ble_eq_true rfl)) (As := [.int (nI lv)]) (rest := []) rfl (fun r_80 w_80 hp_80 => ?_)
        obtain ⟨rfl, rfl⟩ := hp_80
        refine r_after (ws' := [(m0, .inr (9, MO ad qth qsz (bI qir) qtk qde qru qat qen qto qbe qva qwr qop (bI qiu) (nI uw) qhe qrw (nI md3))), ((ad 37), .inl (g.2.1 0, 697000, .inl (aI STd))), ((ad 38), .inl (g.2.1 0, 25300, .inl (aI (up SBd (616 * lv + CHd lv + 1) (SBd (616 * lv + CHd lv)))))), ((ad 39), .inl (g.2.1 0, 41, .inl (aI CHd)))]) (st' := []) (n1 := 0) (n2 := 0) [1, 0, 2, 3] rfl rfl rfl rfl rfl ?_
        refine r_aload_n C 2 d_Mo_sides_83 rfl rfl ?_
        refine r_iload_n C 3 d_Mo_sides_84 rfl rfl ?_
        refine r_iload C 1 d_Mo_sides_85 rfl ?_
        refine j_callV C (c_Mo_add g (xl x) (m0 := m0) (ad := ad) (qth := qth) (qsz := qsz) (qtk := qtk) (qde := qde) (qru := qru) (qat := qat) (qen := qen) (qto := qto) (qbe := qbe) (qva := qva) (qwr := qwr) (qop := qop) (qwi := nI uw) (qhe := qhe) (qrw := qrw) (qma := nI md3) (qir := qir) (qiu := qiu) (lv := lv) (p := ST (fr + i)) (SB := up SBd (616 * lv + CHd lv + 1) (SBd (616 * lv + CHd lv))) (CH := CHd) (ST := STd) (by first | assumption | omega | rfl) (by first | assumption | omega | rfl) (by rw [up_self, hsb]; omega)) (Sp.of (wr := []) [0, 2, 3, 1] [] rfl rfl rfl rfl (by decide)) d_Mo_sides_87 lk_Mo_243 mw_Mo_add vw_Mo_add (q0 := 0) rfl rfl (fit_of hR (by first | decide | (simp only [rmk]; omega)) (by first | decide | (simp only [rmk]; omega)) (by first | decide | (simp only [rmk]; omega)) (by first | decide | (simp only [rmk]; omega))) rfl (cat8 (Nat.le_of_ble_eq_true rfl)) (As := [.int (nI lv), .int (nI (ST (fr + i)))]) (rest := []) rfl (fun r_87 w_87 hp_87 => ?_)
        obtain ⟨rfl, rfl⟩ := hp_87
        refine r_after (ws' := [(m0, .inr (9, MO ad qth qsz (bI qir) qtk qde qru qat qen qto qbe qva qwr qop (bI qiu) (nI uw) qhe qrw (nI md3))), ((ad 37), .inl (g.2.1 0, 697000, .inl (aI (up STd (17000 * lv + (up SBd (616 * lv + CHd lv + 1) (SBd (616 * lv + CHd lv))) (616 * lv + CHd lv + 1)) (ST (fr + i)))))), ((ad 38), .inl (g.2.1 0, 25300, .inl (aI (up (up SBd (616 * lv + CHd lv + 1) (SBd (616 * lv + CHd lv))) (616 * lv + CHd lv + 1) ((up SBd (616 * lv + CHd lv + 1) (SBd (616 * lv + CHd lv))) (616 * lv + CHd lv + 1) + 1))))), ((ad 39), .inl (g.2.1 0, 41, .inl (aI CHd)))]) (st' := []) (n1 := 0) (n2 := 0) [0, 3, 1, 2] rfl rfl rfl rfl rfl ?_
        refine r_aload_n C 2 d_Mo_sides_90 rfl rfl ?_
        refine r_iload_n C 3 d_Mo_sides_91 rfl rfl ?_
        refine r_iload C 0 d_Mo_sides_92 rfl ?_
        refine j_callV C (c_Mo_add g (xl x) (m0 := m0) (ad := ad) (qth := qth) (qsz := qsz) (qtk := qtk) (qde := qde) (qru := qru) (qat := qat) (qen := qen) (qto := qto) (qbe := qbe) (qva := qva) (qwr := qwr) (qop := qop) (qwi := nI uw) (qhe := qhe) (qrw := qrw) (qma := nI md3) (qir := qir) (qiu := qiu) (lv := lv) (p := ST (fr + j)) (SB := up (up SBd (616 * lv + CHd lv + 1) (SBd (616 * lv + CHd lv))) (616 * lv + CHd lv + 1) ((up SBd (616 * lv + CHd lv + 1) (SBd (616 * lv + CHd lv))) (616 * lv + CHd lv + 1) + 1)) (CH := CHd) (ST := up STd (17000 * lv + (up SBd (616 * lv + CHd lv + 1) (SBd (616 * lv + CHd lv))) (616 * lv + CHd lv + 1)) (ST (fr + i))) (by first | assumption | omega | rfl) (by first | assumption | omega | rfl) (by rw [up_self, up_self, hsb]; omega)) (Sp.of (wr := []) [0, 2, 3, 1] [] rfl rfl rfl rfl (by decide)) d_Mo_sides_94 lk_Mo_243 mw_Mo_add vw_Mo_add (q0 := 0) rfl rfl (fit_of hR (by first | decide | (simp only [rmk]; omega)) (by first | decide | (simp only [rmk]; omega)) (by first | decide | (simp only [rmk]; omega)) (by first | decide | (simp only [rmk]; omega))) rfl (cat8 (Nat.le_of_ble_eq_true rfl)) (As := [.int (nI lv), .int (nI (ST (fr + j)))]) (rest := []) rfl (fun r_94 w_94 hp_94 => ?_)
        obtain ⟨rfl, rfl⟩ := hp_94
        refine r_after (ws' := [(m0, .inr (9, MO ad qth qsz (bI qir) qtk qde qru qat qen qto qbe qva qwr qop (bI qiu) (nI uw) qhe qrw (nI md3))), ((ad 37), .inl (g.2.1 0, 697000, .inl (aI (up (up STd (17000 * lv + (up SBd (616 * lv + CHd lv + 1) (SBd (616 * lv + CHd lv))) (616 * lv + CHd lv + 1)) (ST (fr + i))) (17000 * lv + (up (up SBd (616 * lv + CHd lv + 1) (SBd (616 * lv + CHd lv))) (616 * lv + CHd lv + 1) ((up SBd (616 * lv + CHd lv + 1) (SBd (616 * lv + CHd lv))) (616 * lv + CHd lv + 1) + 1)) (616 * lv + CHd lv + 1)) (ST (fr + j)))))), ((ad 38), .inl (g.2.1 0, 25300, .inl (aI (up (up (up SBd (616 * lv + CHd lv + 1) (SBd (616 * lv + CHd lv))) (616 * lv + CHd lv + 1) ((up SBd (616 * lv + CHd lv + 1) (SBd (616 * lv + CHd lv))) (616 * lv + CHd lv + 1) + 1)) (616 * lv + CHd lv + 1) ((up (up SBd (616 * lv + CHd lv + 1) (SBd (616 * lv + CHd lv))) (616 * lv + CHd lv + 1) ((up SBd (616 * lv + CHd lv + 1) (SBd (616 * lv + CHd lv))) (616 * lv + CHd lv + 1) + 1)) (616 * lv + CHd lv + 1) + 1))))), ((ad 39), .inl (g.2.1 0, 41, .inl (aI CHd)))]) (st' := []) (n1 := 0) (n2 := 0) [0, 3, 1, 2] rfl rfl rfl rfl rfl ?_
        refine r_aload_n C 2 d_Mo_sides_97 rfl rfl ?_
        refine r_iload_n C 3 d_Mo_sides_98 rfl rfl ?_
        refine j_callV C (c_Mo_endSet g (xl x) (m0 := m0) (ad := ad) (qth := qth) (qsz := qsz) (qtk := qtk) (qde := qde) (qru := qru) (qat := qat) (qen := qen) (qto := qto) (qbe := qbe) (qva := qva) (qwr := qwr) (qop := qop) (qwi := nI uw) (qhe := qhe) (qrw := qrw) (qir := qir) (qiu := qiu) (lv := lv) (md := md3) (CH := CHd) (by first | assumption | omega | rfl) (by first | assumption | omega | rfl)) (Sp.of (wr := [((ad 37), .inl (g.2.1 0, 697000, .inl (aI (up (up STd (17000 * lv + (up SBd (616 * lv + CHd lv + 1) (SBd (616 * lv + CHd lv))) (616 * lv + CHd lv + 1)) (ST (fr + i))) (17000 * lv + (up (up SBd (616 * lv + CHd lv + 1) (SBd (616 * lv + CHd lv))) (616 * lv + CHd lv + 1) ((up SBd (616 * lv + CHd lv + 1) (SBd (616 * lv + CHd lv))) (616 * lv + CHd lv + 1) + 1)) (616 * lv + CHd lv + 1)) (ST (fr + j)))))), ((ad 38), .inl (g.2.1 0, 25300, .inl (aI (up (up (up SBd (616 * lv + CHd lv + 1) (SBd (616 * lv + CHd lv))) (616 * lv + CHd lv + 1) ((up SBd (616 * lv + CHd lv + 1) (SBd (616 * lv + CHd lv))) (616 * lv + CHd lv + 1) + 1)) (616 * lv + CHd lv + 1) ((up (up SBd (616 * lv + CHd lv + 1) (SBd (616 * lv + CHd lv))) (616 * lv + CHd lv + 1) ((up SBd (616 * lv + CHd lv + 1) (SBd (616 * lv + CHd lv))) (616 * lv + CHd lv + 1) + 1)) (616 * lv + CHd lv + 1) + 1)))))]) [0, 3] [1, 2] rfl rfl rfl rfl (by decide)) d_Mo_sides_99 lk_Mo_247 mw_Mo_endSet vw_Mo_endSet (q0 := 0) rfl rfl (fit_of hR (by first | decide | (simp only [rmk]; omega)) (by first | decide | (simp only [rmk]; omega)) (by first | decide | (simp only [rmk]; omega)) (by first | decide | (simp only [rmk]; omega))) rfl (cat8 (Nat.le_of_ble_eq_true rfl)) (As := [.int (nI lv)]) (rest := []) rfl (fun r_99 w_99 hp_99 => ?_)
        obtain ⟨rfl, rfl⟩ := hp_99
        refine r_after (ws' := [(m0, .inr (9, MO ad qth qsz (bI qir) qtk qde qru qat qen qto qbe qva qwr qop (bI qiu) (nI uw) qhe qrw (nI (md3 + 1)))), ((ad 37), .inl (g.2.1 0, 697000, .inl (aI (up (up STd (17000 * lv + (up SBd (616 * lv + CHd lv + 1) (SBd (616 * lv + CHd lv))) (616 * lv + CHd lv + 1)) (ST (fr + i))) (17000 * lv + (up (up SBd (616 * lv + CHd lv + 1) (SBd (616 * lv + CHd lv))) (616 * lv + CHd lv + 1) ((up SBd (616 * lv + CHd lv + 1) (SBd (616 * lv + CHd lv))) (616 * lv + CHd lv + 1) + 1)) (616 * lv + CHd lv + 1)) (ST (fr + j)))))), ((ad 38), .inl (g.2.1 0, 25300, .inl (aI (up (up (up SBd (616 * lv + CHd lv + 1) (SBd (616 * lv + CHd lv))) (616 * lv + CHd lv + 1) ((up SBd (616 * lv + CHd lv + 1) (SBd (616 * lv + CHd lv))) (616 * lv + CHd lv + 1) + 1)) (616 * lv + CHd lv + 1) ((up (up SBd (616 * lv + CHd lv + 1) (SBd (616 * lv + CHd lv))) (616 * lv + CHd lv + 1) ((up SBd (616 * lv + CHd lv + 1) (SBd (616 * lv + CHd lv))) (616 * lv + CHd lv + 1) + 1)) (616 * lv + CHd lv + 1) + 1))))), ((ad 39), .inl (g.2.1 0, 41, .inl (aI (up CHd lv (CHd lv + 1)))))]) (st' := []) (n1 := 0) (n2 := 0) [2, 0, 1, 3] rfl rfl rfl rfl rfl ?_
        refine r_iinc C 7 (nI (j + 1)) (lv' := [(5, .int (nI (j + 1))), (7, .int (nI (ST (fr + j)))), (6, .int (nI (ST (fr + i)))), (0, .ref m0), (1, .int (nI lv)), (2, .int (nI fr)), (3, .int (nI z)), (4, .int (nI i))]) d_Mo_sides_102 rfl (nI_inc 1 _) (by decide) rfl ?_
        refine r_goto C 15 d_Mo_sides_105 (by decide) ?_
        refine r_lv (lv' := [(0, .ref m0), (1, .int (nI lv)), (2, .int (nI fr)), (3, .int (nI z)), (4, .int (nI i)), (5, .int (nI (j + 1)))]) [3, 4, 5, 6, 7, 0] rfl ?_
        exact ih (j + 1) (up (up STd (17000 * lv + (up SBd (616 * lv + CHd lv + 1) (SBd (616 * lv + CHd lv))) (616 * lv + CHd lv + 1)) (ST (fr + i))) (17000 * lv + (up (up SBd (616 * lv + CHd lv + 1) (SBd (616 * lv + CHd lv))) (616 * lv + CHd lv + 1) ((up SBd (616 * lv + CHd lv + 1) (SBd (616 * lv + CHd lv))) (616 * lv + CHd lv + 1) + 1)) (616 * lv + CHd lv + 1)) (ST (fr + j))) (up (up (up SBd (616 * lv + CHd lv + 1) (SBd (616 * lv + CHd lv))) (616 * lv + CHd lv + 1) ((up SBd (616 * lv + CHd lv + 1) (SBd (616 * lv + CHd lv))) (616 * lv + CHd lv + 1) + 1)) (616 * lv + CHd lv + 1) ((up (up SBd (616 * lv + CHd lv + 1) (SBd (616 * lv + CHd lv))) (616 * lv + CHd lv + 1) ((up SBd (616 * lv + CHd lv + 1) (SBd (616 * lv + CHd lv))) (616 * lv + CHd lv + 1) + 1)) (616 * lv + CHd lv + 1) + 1)) (up CHd lv (CHd lv + 1)) (md3 + 1) (Ds ++ [[ST (fr + i), ST (fr + j)]]) (by first | assumption | omega | rfl) (by first | assumption | omega | rfl) (by first | assumption | omega | rfl) (lv_2 gC) (gF.trans (fr_2 gC.2)) (by rw [gm2, List.length_append]; rfl) (lv_2s gC gs2) (hsd.1 c_72) (by omega)
      · skip
        refine r_goto C 102 d_Mo_sides_75 (by decide) ?_
        refine r_iinc C 7 (nI (j + 1)) (lv' := [(5, .int (nI (j + 1))), (7, .int (nI (ST (fr + j)))), (6, .int (nI (ST (fr + i)))), (0, .ref m0), (1, .int (nI lv)), (2, .int (nI fr)), (3, .int (nI z)), (4, .int (nI i))]) d_Mo_sides_102 rfl (nI_inc 1 _) (by decide) rfl ?_
        refine r_goto C 15 d_Mo_sides_105 (by decide) ?_
        refine r_lv (lv' := [(0, .ref m0), (1, .int (nI lv)), (2, .int (nI fr)), (3, .int (nI z)), (4, .int (nI i)), (5, .int (nI (j + 1)))]) [3, 4, 5, 6, 7, 0] rfl ?_
        exact ih (j + 1) STd SBd CHd md3 Ds (by first | assumption | omega | rfl) (by first | assumption | omega | rfl) (by first | assumption | omega | rfl) (gC) (gF) (gm2) (gs2) (hsd.2 c_72) (by omega)
set_option maxHeartbeats 4000000 in
set_option maxRecDepth 100000 in
theorem lp_Mo_sides_3 (g : GG) {m0 : Nat} {ad : Nat → Nat} {qth : Int32} {qsz : Int32} {qtk : Int32} {qde : Int32} {qru : Int32} {qat : Int32} {qen : Int32} {qto : Int32} {qbe : Int32} {qva : Int32} {qwr : Int32} {qop : Int32} {qhe : Int32} {qrw : Int32} {qir : Bool} {qiu : Bool} {lv : Nat} {fr : Nat} {z : Nat} {uw : Nat} {md : Nat} {ST : Nat → Nat} {SB : Nat → Nat} {CH : Nat → Nat} (hw0 : 0 < uw) (hw1 : uw ≤ 16) (hl : 1 ≤ lv) (hl2 : lv ≤ 40) (hz : z ≤ 256) (hfr : fr + z ≤ 17000 * lv) (hp : ∀ i, i < z → ST (fr + i) < 256) (h0 : LvC ST SB CH lv []) (hn : (sidesR uw (segL ST fr z)).length ≤ 614) {x : X0} {A : Nat → Prop} {Q : State → Prop}  (C : CX x g A R_Mo b_Mo_sides 8) (E : RX x g A Q none (fun (r0 : Option Value) (w0 : va_W) => ∃ STc : Nat → Nat, ∃ SBc : Nat → Nat, ∃ CHc : Nat → Nat, r0 = none ∧ w0 = [(m0, .inr (9, MO ad qth qsz (bI qir) qtk qde qru qat qen qto qbe qva qwr qop (bI qiu) (nI uw) qhe qrw (nI (md + (sidesR uw (segL ST fr z)).length)))), ((ad 37), .inl (g.2.1 0, 697000, .inl (aI STc))), ((ad 38), .inl (g.2.1 0, 25300, .inl (aI SBc))), ((ad 39), .inl (g.2.1 0, 41, .inl (aI CHc)))] ∧ (LvC STc SBc CHc lv (sidesR uw (segL ST fr z))) ∧ (LvF lv ST SB CH STc SBc CHc)) (rmk 1 0 0 23).cells (rmk 1 0 0 23).slots) (hR : xR x = (rmk 1 0 0 23)) : ∀ (fuel : Nat) (i : Nat) (STc : Nat → Nat) (SBc : Nat → Nat) (CHc : Nat → Nat) (md2 : Nat) (Cs : List (List Nat)) (hi : i ≤ z) (hC : LvC STc SBc CHc lv Cs) (hF : LvF lv ST SB CH STc SBc CHc) (hm2 : md2 = md + Cs.length) (hs2 : SBc (616 * lv + Cs.length) = 2 * Cs.length) (hI : Cs ++ sidesR uw ((segL ST fr z).drop i) = (sidesR uw (segL ST fr z))), z - i < fuel → J x g A Q 8 ([(m0, .inr (9, MO ad qth qsz (bI qir) qtk qde qru qat qen qto qbe qva qwr qop (bI qiu) (nI uw) qhe qrw (nI md2))), ((ad 37), .inl (g.2.1 0, 697000, .inl (aI STc))), ((ad 38), .inl (g.2.1 0, 25300, .inl (aI SBc))), ((ad 39), .inl (g.2.1 0, 41, .inl (aI CHc)))]) [(0, .ref m0), (1, .int (nI lv)), (2, .int (nI fr)), (3, .int (nI z)), (4, .int (nI i))] 3 [] 0 0 := by
  intro fuel
  induction fuel with
  | zero =>
    intro i STc SBc CHc md2 Cs hi hC hF hm2 hs2 hI hm
    exact absurd hm (Nat.not_lt_zero _)
  | succ fuel ih =>
    intro i STc SBc CHc md2 Cs hi hC hF hm2 hs2 hI hm
    refine r_iload C 4 d_Mo_sides_3 rfl ?_
    refine r_iload_n C 3 d_Mo_sides_5 rfl rfl ?_
    refine r_ncmp_ge C 114 d_Mo_sides_6 (by decide) (by omega) (by omega) (fun c_6 => ?_) (fun c_6 => ?_)
    · skip
      refine r_vret C E d_Mo_sides_114 (by first | decide | omega | (simp only [rmk]; omega)) (by first | decide | omega | (simp only [rmk]; omega)) ?_
      rw [List.drop_of_length_le (by rw [segL_len]; omega), sidesR, List.append_nil] at hI
      subst hI
      subst hm2
      exact ⟨_, _, _, rfl, rfl, hC, hF⟩
    · skip
      refine r_iload C 4 d_Mo_sides_9 rfl ?_
      refine r_iconst C (nI 1) d_Mo_sides_11 (by decide) ?_
      refine r_nadd C d_Mo_sides_12 ?_
      refine r_istore C (lv' := [(5, .int (nI (i + 1))), (0, .ref m0), (1, .int (nI lv)), (2, .int (nI fr)), (3, .int (nI z)), (4, .int (nI i))]) d_Mo_sides_13 (by decide) rfl ?_
      refine r_lv (lv' := [(0, .ref m0), (1, .int (nI lv)), (2, .int (nI fr)), (3, .int (nI z)), (4, .int (nI i)), (5, .int (nI (i + 1)))]) [1, 2, 3, 4, 5, 0] rfl ?_
      refine lp_Mo_sides_15 g (m0 := m0) (ad := ad) (qth := qth) (qsz := qsz) (qtk := qtk) (qde := qde) (qru := qru) (qat := qat) (qen := qen) (qto := qto) (qbe := qbe) (qva := qva) (qwr := qwr) (qop := qop) (qhe := qhe) (qrw := qrw) (qir := qir) (qiu := qiu) (lv := lv) (fr := fr) (z := z) (uw := uw) (md := md) (ST := ST) (SB := SB) (CH := CH) hw0 hw1 hl hl2 hz hfr hp h0 hn (i := i)  C E hR (fun j STd SBd CHd md3 Ds gi gij gj gC gF gm2 gs2 gI hx => ?_) _ (i + 1) STc SBc CHc md2 Cs (by first | assumption | omega | rfl) (by first | assumption | omega | rfl) (by first | assumption | omega | rfl) (hC) (hF) (hm2) (hs2) (by rw [seg_d (by omega), sidesR] at hI; exact hI) (Nat.lt_succ_self _)
      refine r_iinc C 4 (nI (i + 1)) (lv' := [(4, .int (nI (i + 1))), (0, .ref m0), (1, .int (nI lv)), (2, .int (nI fr)), (3, .int (nI z)), (5, .int (nI j))]) d_Mo_sides_108 rfl (nI_inc 1 _) (by decide) rfl ?_
      refine r_goto C 3 d_Mo_sides_111 (by decide) ?_
      refine r_lv (lv' := [(0, .ref m0), (1, .int (nI lv)), (2, .int (nI fr)), (3, .int (nI z)), (4, .int (nI (i + 1)))]) [1, 2, 3, 4, 0] rfl ?_
      exact ih (i + 1) STd SBd CHd md3 Ds (by first | assumption | omega | rfl) (gC) (gF) (gm2) (gs2) (by rw [List.drop_of_length_le (i := j) (by rw [segL_len]; omega)] at gI; exact gI) (by omega)
set_option maxHeartbeats 4000000 in
set_option maxRecDepth 100000 in
theorem c_Mo_sides (g : GG) (l : Launch) {m0 : Nat} {ad : Nat → Nat} {qth : Int32} {qsz : Int32} {qtk : Int32} {qde : Int32} {qru : Int32} {qat : Int32} {qen : Int32} {qto : Int32} {qbe : Int32} {qva : Int32} {qwr : Int32} {qop : Int32} {qhe : Int32} {qrw : Int32} {qir : Bool} {qiu : Bool} {lv : Nat} {fr : Nat} {z : Nat} {uw : Nat} {md : Nat} {ST : Nat → Nat} {SB : Nat → Nat} {CH : Nat → Nat}  (hw0 : 0 < uw) (hw1 : uw ≤ 16) (hl : 1 ≤ lv) (hl2 : lv ≤ 40) (hz : z ≤ 256) (hfr : fr + z ≤ 17000 * lv) (hp : ∀ i, i < z → ST (fr + i) < 256) (h0 : LvC ST SB CH lv []) (hn : (sidesR uw (segL ST fr z)).length ≤ 614) : Cn g l y_Mo_sides b_Mo_sides 8 none (rmk 1 0 0 23) [.ref m0, .int (nI lv), .int (nI fr), .int (nI z)] ([(m0, .inr (9, MO ad qth qsz (bI qir) qtk qde qru qat qen qto qbe qva qwr qop (bI qiu) (nI uw) qhe qrw (nI md))), ((ad 37), .inl (g.2.1 0, 697000, .inl (aI ST))), ((ad 38), .inl (g.2.1 0, 25300, .inl (aI SB))), ((ad 39), .inl (g.2.1 0, 41, .inl (aI CH)))]) (fun (r0 : Option Value) (w0 : va_W) => ∃ STc : Nat → Nat, ∃ SBc : Nat → Nat, ∃ CHc : Nat → Nat, r0 = none ∧ w0 = [(m0, .inr (9, MO ad qth qsz (bI qir) qtk qde qru qat qen qto qbe qva qwr qop (bI qiu) (nI uw) qhe qrw (nI (md + (sidesR uw (segL ST fr z)).length)))), ((ad 37), .inl (g.2.1 0, 697000, .inl (aI STc))), ((ad 38), .inl (g.2.1 0, 25300, .inl (aI SBc))), ((ad 39), .inl (g.2.1 0, 41, .inl (aI CHc)))] ∧ (LvC STc SBc CHc lv (sidesR uw (segL ST fr z))) ∧ (LvF lv ST SB CH STc SBc CHc)) := by
  refine Cn.of R_Mo [(0, .ref m0), (1, .int (nI lv)), (2, .int (nI fr)), (3, .int (nI z))] (by decide) rfl (Nat.le_of_ble_eq_true rfl) rfl ?_
  intro x A Q hR hXl hin C E
  subst hXl
  refine r_iconst C (nI 0) d_Mo_sides_0 (by decide) ?_
  refine r_istore C (lv' := [(4, .int (nI 0)), (0, .ref m0), (1, .int (nI lv)), (2, .int (nI fr)), (3, .int (nI z))]) d_Mo_sides_1 (by decide) rfl ?_
  refine r_lv (lv' := [(0, .ref m0), (1, .int (nI lv)), (2, .int (nI fr)), (3, .int (nI z)), (4, .int (nI 0))]) [1, 2, 3, 4, 0] rfl ?_
  exact lp_Mo_sides_3 g (m0 := m0) (ad := ad) (qth := qth) (qsz := qsz) (qtk := qtk) (qde := qde) (qru := qru) (qat := qat) (qen := qen) (qto := qto) (qbe := qbe) (qva := qva) (qwr := qwr) (qop := qop) (qhe := qhe) (qrw := qrw) (qir := qir) (qiu := qiu) (lv := lv) (fr := fr) (z := z) (uw := uw) (md := md) (ST := ST) (SB := SB) (CH := CH) hw0 hw1 hl hl2 hz hfr hp h0 hn  C E hR _ 0 ST SB CH md ([]) (by first | assumption | omega | rfl) (h0) (LvF.rfl) (rfl) (h0.1.1) (rfl) (Nat.lt_succ_self _)
