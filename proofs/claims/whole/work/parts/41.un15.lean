def unrF (uw uh : Nat) : Nat → List RuleV → Acc → Acc
  | _, [], a => a
  | k, r :: rs, a => unrF uw uh (k + 1) rs (lim k (unr uw uh r.2.2.1.reverse (List.range (uw * uh))) a)
/-- all rules unrolled over the grid -/
def unrA (uw uh : Nat) (rules : List RuleV) : Acc := unrF uw uh 0 rules (some (0, []))
theorem unrF_none {uw uh : Nat} : ∀ (rs : List RuleV) (k : Nat), unrF uw uh k rs none = none := by
  intro rs
  induction rs with
  | nil => intro k; rfl
  | cons r rs ih => intro k; exact ih (k + 1)
theorem unrF_step {uw uh k : Nat} {rules : List RuleV} {rv : RuleV} {a : Acc} (h : rules[k]? = some rv) : unrF uw uh k (rules.drop k) a = unrF uw uh (k + 1) (rules.drop (k + 1)) (lim k (unr uw uh rv.2.2.1.reverse (List.range (uw * uh))) a) := by
  obtain ⟨h1, h2⟩ := List.getElem?_eq_some_iff.mp h
  rw [List.drop_eq_getElem_cons h1, h2, unrF]
theorem UAt_0 {RU SA PL : Nat → Nat} {TO : Nat → Bool} (h : ∀ j, j < 256 → TO j = false) : UAt (some (0, [])) false (nI 0) RU SA PL TO 0 0 := by
  refine ⟨rfl, rfl, ⟨by decide, by decide, by decide⟩, rfl, rfl, fun k r e => ?_, fun t p e => ?_, fun t e => ?_⟩
  · simp at e
  · simp [flat] at e
  · rw [h t e]; rfl
theorem set_rng {uw uh : Nat} : SetOK uw uh (List.range (uw * uh)) := ⟨List.pairwise_lt_range, fun p h => List.mem_range.mp h⟩
theorem seg_rng {SS : Nat → Nat} {m : Nat} (h : ∀ t, t < m → SS t = t) : segL SS 0 m = List.range m := by
  rw [show List.range m = (List.range m).map id by simp, segL]
  refine List.map_congr_left fun t e => ?_
  rw [Nat.zero_add]
  exact h t (List.mem_range.mp e)
theorem gr_256 {uw uh : Nat} (h1 : uw ≤ 16) (h2 : uh ≤ 16) : uw * uh ≤ 256 := Nat.mul_le_mul h1 h2
theorem LayF_of {g : GG} {PP : va_W} {LA : Nat → Option Nat} {ls : List LayerV} (h : LayersAt g PP LA ls) : LayF g PP LA 0 ls.reverse := fun i l e => by rw [Nat.zero_add]; exact h i l e

set_option maxRecDepth 100000 in
theorem fi_Unroller_52 : FI R_Unroller 52 R_Book F_Book 3 := Or.inr ⟨"RuleReader", (nw (i := 135) rfl rfl)⟩
set_option maxRecDepth 100000 in
theorem fi_Unroller_64 : FI R_Unroller 64 R_Rule F_Rule 2 := Or.inr ⟨"RuleReader", (nw (i := 465) rfl rfl)⟩
set_option maxRecDepth 100000 in
theorem lk_Unroller_42 : LK R_Unroller 42 y_RowStore_begin := Or.inl (gw (i := 711) rfl rfl)
set_option maxRecDepth 100000 in
theorem lk_Unroller_57 : LK R_Unroller 57 y_Book_ruleAt := Or.inl (gw (i := 720) rfl rfl)
set_option maxRecDepth 100000 in
theorem lk_Unroller_70 : LK R_Unroller 70 y_Unroller_layOut := Or.inl (gw (i := 721) rfl rfl)
set_option maxRecDepth 100000 in
theorem mw_RowStore_begin : MW y_RowStore_begin b_RowStore_begin 3 none 1 := ⟨(gw (i := 714) rfl rfl), (gw (i := 78) rfl rfl), by decide +kernel⟩
set_option maxRecDepth 100000 in
theorem mw_Unroller_layOut : MW y_Unroller_layOut b_Unroller_layOut 4 none 1 := ⟨(gw (i := 724) rfl rfl), (gw (i := 79) rfl rfl), by decide +kernel⟩
set_option maxRecDepth 100000 in
theorem vw_RowStore_begin : VW y_RowStore_begin := ⟨(gw (i := 712) rfl rfl), (gw (i := 713) rfl rfl)⟩
set_option maxRecDepth 100000 in
theorem vw_Unroller_layOut : VW y_Unroller_layOut := ⟨(gw (i := 723) rfl rfl), (gw (i := 18) rfl rfl)⟩
theorem d_Unroller_unroll_0 : decode b_Unroller_unroll 0 = .ok (.aload_n 0, 1) := by decide +kernel
theorem d_Unroller_unroll_1 : decode b_Unroller_unroll 1 = .ok (.iload_n 2, 1) := by decide +kernel
theorem d_Unroller_unroll_2 : decode b_Unroller_unroll 2 = .ok (.putfield 28, 3) := by decide +kernel
theorem d_Unroller_unroll_5 : decode b_Unroller_unroll 5 = .ok (.aload_n 0, 1) := by decide +kernel
theorem d_Unroller_unroll_6 : decode b_Unroller_unroll 6 = .ok (.iload_n 3, 1) := by decide +kernel
theorem d_Unroller_unroll_7 : decode b_Unroller_unroll 7 = .ok (.putfield 32, 3) := by decide +kernel
theorem d_Unroller_unroll_10 : decode b_Unroller_unroll 10 = .ok (.aload_n 0, 1) := by decide +kernel
theorem d_Unroller_unroll_11 : decode b_Unroller_unroll 11 = .ok (.iconst 0, 1) := by decide +kernel
theorem d_Unroller_unroll_12 : decode b_Unroller_unroll 12 = .ok (.putfield 35, 3) := by decide +kernel
theorem d_Unroller_unroll_15 : decode b_Unroller_unroll 15 = .ok (.aload_n 0, 1) := by decide +kernel
theorem d_Unroller_unroll_16 : decode b_Unroller_unroll 16 = .ok (.iconst 0, 1) := by decide +kernel
theorem d_Unroller_unroll_17 : decode b_Unroller_unroll 17 = .ok (.putfield 38, 3) := by decide +kernel
theorem d_Unroller_unroll_20 : decode b_Unroller_unroll 20 = .ok (.aload_n 0, 1) := by decide +kernel
theorem d_Unroller_unroll_21 : decode b_Unroller_unroll 21 = .ok (.getfield 28, 3) := by decide +kernel
theorem d_Unroller_unroll_24 : decode b_Unroller_unroll 24 = .ok (.aload_n 0, 1) := by decide +kernel
theorem d_Unroller_unroll_25 : decode b_Unroller_unroll 25 = .ok (.getfield 32, 3) := by decide +kernel
theorem d_Unroller_unroll_28 : decode b_Unroller_unroll 28 = .ok (.imul, 1) := by decide +kernel
theorem d_Unroller_unroll_29 : decode b_Unroller_unroll 29 = .ok (.istore 4, 2) := by decide +kernel
theorem d_Unroller_unroll_31 : decode b_Unroller_unroll 31 = .ok (.aload_n 0, 1) := by decide +kernel
theorem d_Unroller_unroll_32 : decode b_Unroller_unroll 32 = .ok (.getfield 24, 3) := by decide +kernel
theorem d_Unroller_unroll_35 : decode b_Unroller_unroll 35 = .ok (.iload 4, 2) := by decide +kernel
theorem d_Unroller_unroll_37 : decode b_Unroller_unroll 37 = .ok (.invokevirtual 42, 3) := by decide +kernel
theorem d_Unroller_unroll_40 : decode b_Unroller_unroll 40 = .ok (.iconst 0, 1) := by decide +kernel
theorem d_Unroller_unroll_41 : decode b_Unroller_unroll 41 = .ok (.istore 5, 2) := by decide +kernel
theorem d_Unroller_unroll_43 : decode b_Unroller_unroll 43 = .ok (.iload 5, 2) := by decide +kernel
theorem d_Unroller_unroll_45 : decode b_Unroller_unroll 45 = .ok (.iload 4, 2) := by decide +kernel
theorem d_Unroller_unroll_47 : decode b_Unroller_unroll 47 = .ok (.if_icmp .ge 17, 3) := by decide +kernel
theorem d_Unroller_unroll_50 : decode b_Unroller_unroll 50 = .ok (.aload_n 0, 1) := by decide +kernel
theorem d_Unroller_unroll_51 : decode b_Unroller_unroll 51 = .ok (.iload 5, 2) := by decide +kernel
theorem d_Unroller_unroll_53 : decode b_Unroller_unroll 53 = .ok (.iload 5, 2) := by decide +kernel
theorem d_Unroller_unroll_55 : decode b_Unroller_unroll 55 = .ok (.invokevirtual 48, 3) := by decide +kernel
theorem d_Unroller_unroll_58 : decode b_Unroller_unroll 58 = .ok (.iinc 5 1, 3) := by decide +kernel
theorem d_Unroller_unroll_61 : decode b_Unroller_unroll 61 = .ok (.goto (-18), 3) := by decide +kernel
theorem d_Unroller_unroll_64 : decode b_Unroller_unroll 64 = .ok (.iconst 0, 1) := by decide +kernel
theorem d_Unroller_unroll_65 : decode b_Unroller_unroll 65 = .ok (.istore 5, 2) := by decide +kernel
theorem d_Unroller_unroll_67 : decode b_Unroller_unroll 67 = .ok (.iload 5, 2) := by decide +kernel
theorem d_Unroller_unroll_69 : decode b_Unroller_unroll 69 = .ok (.aload_n 1, 1) := by decide +kernel
theorem d_Unroller_unroll_70 : decode b_Unroller_unroll 70 = .ok (.getfield 52, 3) := by decide +kernel
theorem d_Unroller_unroll_73 : decode b_Unroller_unroll 73 = .ok (.if_icmp .ge 56, 3) := by decide +kernel
theorem d_Unroller_unroll_76 : decode b_Unroller_unroll 76 = .ok (.aload_n 0, 1) := by decide +kernel
theorem d_Unroller_unroll_77 : decode b_Unroller_unroll 77 = .ok (.getfield 38, 3) := by decide +kernel
theorem d_Unroller_unroll_80 : decode b_Unroller_unroll 80 = .ok (.ifCond .ne 49, 3) := by decide +kernel
theorem d_Unroller_unroll_83 : decode b_Unroller_unroll 83 = .ok (.aload_n 1, 1) := by decide +kernel
theorem d_Unroller_unroll_84 : decode b_Unroller_unroll 84 = .ok (.iload 5, 2) := by decide +kernel
theorem d_Unroller_unroll_86 : decode b_Unroller_unroll 86 = .ok (.invokevirtual 57, 3) := by decide +kernel
theorem d_Unroller_unroll_89 : decode b_Unroller_unroll 89 = .ok (.astore 6, 2) := by decide +kernel
theorem d_Unroller_unroll_91 : decode b_Unroller_unroll 91 = .ok (.aload_n 0, 1) := by decide +kernel
theorem d_Unroller_unroll_92 : decode b_Unroller_unroll 92 = .ok (.iload 5, 2) := by decide +kernel
theorem d_Unroller_unroll_94 : decode b_Unroller_unroll 94 = .ok (.putfield 61, 3) := by decide +kernel
theorem d_Unroller_unroll_97 : decode b_Unroller_unroll 97 = .ok (.aload_n 0, 1) := by decide +kernel
theorem d_Unroller_unroll_98 : decode b_Unroller_unroll 98 = .ok (.aload 6, 2) := by decide +kernel
theorem d_Unroller_unroll_100 : decode b_Unroller_unroll 100 = .ok (.ifnonnull 7, 3) := by decide +kernel
theorem d_Unroller_unroll_103 : decode b_Unroller_unroll 103 = .ok (.aconst_null, 1) := by decide +kernel
theorem d_Unroller_unroll_104 : decode b_Unroller_unroll 104 = .ok (.goto 8, 3) := by decide +kernel
theorem d_Unroller_unroll_107 : decode b_Unroller_unroll 107 = .ok (.aload 6, 2) := by decide +kernel
theorem d_Unroller_unroll_109 : decode b_Unroller_unroll 109 = .ok (.getfield 64, 3) := by decide +kernel
theorem d_Unroller_unroll_112 : decode b_Unroller_unroll 112 = .ok (.invokevirtual 70, 3) := by decide +kernel
theorem d_Unroller_unroll_115 : decode b_Unroller_unroll 115 = .ok (.aload_n 0, 1) := by decide +kernel
theorem d_Unroller_unroll_116 : decode b_Unroller_unroll 116 = .ok (.iconst 0, 1) := by decide +kernel
theorem d_Unroller_unroll_117 : decode b_Unroller_unroll 117 = .ok (.iconst 0, 1) := by decide +kernel
theorem d_Unroller_unroll_118 : decode b_Unroller_unroll 118 = .ok (.iload 4, 2) := by decide +kernel
theorem d_Unroller_unroll_120 : decode b_Unroller_unroll 120 = .ok (.invokevirtual 74, 3) := by decide +kernel
theorem d_Unroller_unroll_123 : decode b_Unroller_unroll 123 = .ok (.iinc 5 1, 3) := by decide +kernel
theorem d_Unroller_unroll_126 : decode b_Unroller_unroll 126 = .ok (.goto (-59), 3) := by decide +kernel
theorem d_Unroller_unroll_129 : decode b_Unroller_unroll 129 = .ok (.aload_n 0, 1) := by decide +kernel
theorem d_Unroller_unroll_130 : decode b_Unroller_unroll 130 = .ok (.getfield 38, 3) := by decide +kernel
theorem d_Unroller_unroll_133 : decode b_Unroller_unroll 133 = .ok (.ifCond .ne 7, 3) := by decide +kernel
theorem d_Unroller_unroll_136 : decode b_Unroller_unroll 136 = .ok (.iconst 1, 1) := by decide +kernel
theorem d_Unroller_unroll_137 : decode b_Unroller_unroll 137 = .ok (.goto 4, 3) := by decide +kernel
theorem d_Unroller_unroll_140 : decode b_Unroller_unroll 140 = .ok (.iconst 0, 1) := by decide +kernel
theorem d_Unroller_unroll_141 : decode b_Unroller_unroll 141 = .ok (.ireturn, 1) := by decide +kernel
set_option maxHeartbeats 4000000 in
set_option maxRecDepth 100000 in
theorem lp_Unroller_unroll_67 (g : GG) {u : Nat} {s : Nat} {ss : Nat} {la : Nat} {ke : Nat} {lc : Nat} {uw0 : Nat} {uh0 : Nat} {ri : Nat} {mi : Int32} {tm : Bool} {uw : Nat} {uh : Nat} {ru : Nat} {sa : Nat} {ps : Nat} {to : Nat} {gs : Nat} {rc : Nat} {pn : Nat} {RU : Nat → Nat} {SA : Nat → Nat} {PL : Nat → Nat} {SS : Nat → Nat} {KE : Nat → Nat} {TO : Nat → Bool} {LA : Nat → Option Nat} {RA : Nat → Option Nat} {PP : va_W} {bk : Nat} {ra : Nat} {pa : Nat} {pb : Nat} {db : Nat} {pr : Bool} {rules : List RuleV} (hw0 : 0 < uw) (hw1 : uw ≤ 16) (hh0 : 0 < uh) (hh1 : uh ≤ 16) (h400 : rules.length ≤ 400) (hRA : RulesAt g PP RA rules) (hok : ∀ r ∈ rules, r.2.2.1.length ≤ 40 ∧ ∀ l ∈ r.2.2.1, LyOK l) (h256 : ∀ i, SS i < 256) {x : X0} {A : Nat → Prop} {Q : State → Prop}  (C : CX x g A R_Unroller b_Unroller_unroll 7) (E : RX x g A Q (some .boolean) (fun (r0 : Option Value) (w0 : va_W) => ∃ mi2 : Int32, ∃ tm2 : Bool, ∃ lc2 : Nat, ∃ ri2 : Nat, ∃ rc2 : Nat, ∃ pn2 : Nat, ∃ RU2 : Nat → Nat, ∃ SA2 : Nat → Nat, ∃ PL2 : Nat → Nat, ∃ SS2 : Nat → Nat, ∃ KE2 : Nat → Nat, ∃ TO2 : Nat → Bool, ∃ LA2 : Nat → Option Nat, r0 = some (.int (bI (!tm2))) ∧ w0 = [(u, .inr (8, [.ref s, .ref ss, .ref la, .ref ke, .int (nI lc2), .int (nI uw), .int (nI uh), .int (nI ri2), .int mi2, .int (bI tm2)])), (ss, .inl (g.2.1 0, 10496, .inl (aI SS2))), (la, .inl (g.2.1 4, 40, .inr (.inr (.inr (.inr LA2))))), (ke, .inl (g.2.1 0, 256, .inl (aI KE2))), (s, .inr (7, [.ref ru, .ref sa, .ref ps, .ref to, .int (nI (uw * uh)), .int (nI rc2), .int (nI pn2)])), (ru, .inl (g.2.1 0, 4000, .inl (aI RU2))), (sa, .inl (g.2.1 0, 4001, .inl (aI SA2))), (ps, .inl (g.2.1 0, 30000, .inl (aI PL2))), (to, .inl (g.2.1 2, 256, .inl (zI TO2))), (bk, .inr (5, [.ref ra, .ref pa, .int (bI pr), .int (nI rules.length), .int (nI pb), .int (nI db)])), (ra, .inl (g.2.1 3, 400, .inr (.inr (.inr (.inr RA)))))] ++ PP ∧ (UAt (unrA uw uh rules) tm2 mi2 RU2 SA2 PL2 TO2 rc2 pn2) ∧ (∀ i, SS2 i < 256)) (rmk 180 0 0 4700).cells (rmk 180 0 0 4700).slots) (hR : xR x = (rmk 180 0 0 4700)) : ∀ (fuel : Nat) (k : Nat) (lcc : Nat) (rii : Nat) (LC : Nat → Option Nat) (mc : Int32) (tc : Bool) (rcc : Nat) (pnc : Nat) (RC : Nat → Nat) (SC : Nat → Nat) (PC : Nat → Nat) (SSc : Nat → Nat) (KC : Nat → Nat) (TC : Nat → Bool) (ac : Acc) (hk : k ≤ rules.length) (hUc : UAt ac tc mc RC SC PC TC rcc pnc) (hI : unrF uw uh k (rules.drop k) ac = unrA uw uh rules) (hSg : segL SSc 0 (uw * uh) = List.range (uw * uh)) (h2c : ∀ t, SSc t < 256), rules.length - k < fuel → J x g A Q 7 ([(u, .inr (8, [.ref s, .ref ss, .ref la, .ref ke, .int (nI lcc), .int (nI uw), .int (nI uh), .int (nI rii), .int mc, .int (bI tc)])), (ss, .inl (g.2.1 0, 10496, .inl (aI SSc))), (la, .inl (g.2.1 4, 40, .inr (.inr (.inr (.inr LC))))), (ke, .inl (g.2.1 0, 256, .inl (aI KC))), (s, .inr (7, [.ref ru, .ref sa, .ref ps, .ref to, .int (nI (uw * uh)), .int (nI rcc), .int (nI pnc)])), (ru, .inl (g.2.1 0, 4000, .inl (aI RC))), (sa, .inl (g.2.1 0, 4001, .inl (aI SC))), (ps, .inl (g.2.1 0, 30000, .inl (aI PC))), (to, .inl (g.2.1 2, 256, .inl (zI TC))), (bk, .inr (5, [.ref ra, .ref pa, .int (bI pr), .int (nI rules.length), .int (nI pb), .int (nI db)])), (ra, .inl (g.2.1 3, 400, .inr (.inr (.inr (.inr RA)))))] ++ PP) [(0, .ref u), (1, .ref bk), (2, .int (nI uw)), (3, .int (nI uh)), (4, .int (nI (uw * uh))), (5, .int (nI k))] 67 [] 0 0 := by
  intro fuel
  induction fuel with
  | zero =>
    intro k lcc rii LC mc tc rcc pnc RC SC PC SSc KC TC ac hk hUc hI hSg h2c hm
    exact absurd hm (Nat.not_lt_zero _)
  | succ fuel ih =>
    intro k lcc rii LC mc tc rcc pnc RC SC PC SSc KC TC ac hk hUc hI hSg h2c hm
    refine r_iload C 5 d_Unroller_unroll_67 rfl ?_
    refine r_aload_n C 1 d_Unroller_unroll_69 rfl rfl ?_
    refine r_get C 9 3 d_Unroller_unroll_70 ci_Book fi_Unroller_52 rfl (by decide) rfl rfl ?_
    refine r_ncmp_ge C 129 d_Unroller_unroll_73 (by decide) (by omega) (by omega) (fun c_73 => ?_) (fun c_73 => ?_)
    · skip
      refine r_aload_n C 0 d_Unroller_unroll_129 rfl rfl ?_
      refine r_get C 0 9 d_Unroller_unroll_130 ci_Unroller fi_Unroller_38 rfl (by decide) rfl rfl ?_
      refine r_bif_ne C 140 d_Unroller_unroll_133 (by decide) (fun c_133 => ?_) (fun c_133 => ?_)
      · skip
        refine r_iconst C (nI 0) d_Unroller_unroll_140 (by decide) ?_
        refine r_eqS (st' := [.int (bI false)]) rfl ?_
        refine r_bret C E d_Unroller_unroll_141 (by first | decide | omega | (simp only [rmk]; omega)) (by first | decide | omega | (simp only [rmk]; omega)) ?_
        exact ⟨_, _, _, _, _, _, _, _, _, _, _, _, _, by rw [c_133]; rfl, rfl, by rw [← hI, List.drop_of_length_le (by omega)]; exact hUc, h2c⟩
      · skip
        refine r_iconst C (nI 1) d_Unroller_unroll_136 (by decide) ?_
        refine r_goto C 141 d_Unroller_unroll_137 (by decide) ?_
        refine r_eqS (st' := [.int (bI true)]) rfl ?_
        refine r_bret C E d_Unroller_unroll_141 (by first | decide | omega | (simp only [rmk]; omega)) (by first | decide | omega | (simp only [rmk]; omega)) ?_
        exact ⟨_, _, _, _, _, _, _, _, _, _, _, _, _, by rw [c_133]; rfl, rfl, by rw [← hI, List.drop_of_length_le (by omega)]; exact hUc, h2c⟩
    · skip
      refine r_aload_n C 0 d_Unroller_unroll_76 rfl rfl ?_
      refine r_get C 0 9 d_Unroller_unroll_77 ci_Unroller fi_Unroller_38 rfl (by decide) rfl rfl ?_
      refine r_bif_ne C 129 d_Unroller_unroll_80 (by decide) (fun c_80 => ?_) (fun c_80 => ?_)
      · skip
        refine r_aload_n C 0 d_Unroller_unroll_129 rfl rfl ?_
        refine r_get C 0 9 d_Unroller_unroll_130 ci_Unroller fi_Unroller_38 rfl (by decide) rfl rfl ?_
        refine r_bif_ne C 140 d_Unroller_unroll_133 (by decide) (fun c_133 => ?_) (fun c_133 => ?_)
        · skip
          refine r_iconst C (nI 0) d_Unroller_unroll_140 (by decide) ?_
          refine r_eqS (st' := [.int (bI false)]) rfl ?_
          refine r_bret C E d_Unroller_unroll_141 (by first | decide | omega | (simp only [rmk]; omega)) (by first | decide | omega | (simp only [rmk]; omega)) ?_
          exact ⟨_, _, _, _, _, _, _, _, _, _, _, _, _, by rw [c_133]; rfl, rfl, by rw [← hI, UAt_t hUc c_80, unrF_none]; exact c_80, h2c⟩
        · exact absurd (c_80.symm.trans c_133) (by decide)
      · skip
        refine r_aload_n C 1 d_Unroller_unroll_83 rfl rfl ?_
        refine r_iload C 5 d_Unroller_unroll_84 rfl ?_
        refine j_callV C (c_Book_ruleAt g (xl x) (bk := bk) (ra := ra) (pa := pa) (rc := rules.length) (pn := pb) (dp := db) (pr := pr) (z := nI k) (RA := RA) (by first | assumption | omega | rfl)) (Sp.keep (Sp.of (wr := [(u, .inr (8, [.ref s, .ref ss, .ref la, .ref ke, .int (nI lcc), .int (nI uw), .int (nI uh), .int (nI rii), .int mc, .int (bI tc)])), (ss, .inl (g.2.1 0, 10496, .inl (aI SSc))), (la, .inl (g.2.1 4, 40, .inr (.inr (.inr (.inr LC))))), (ke, .inl (g.2.1 0, 256, .inl (aI KC))), (s, .inr (7, [.ref ru, .ref sa, .ref ps, .ref to, .int (nI (uw * uh)), .int (nI rcc), .int (nI pnc)])), (ru, .inl (g.2.1 0, 4000, .inl (aI RC))), (sa, .inl (g.2.1 0, 4001, .inl (aI SC))), (ps, .inl (g.2.1 0, 30000, .inl (aI PC))), (to, .inl (g.2.1 2, 256, .inl (zI TC)))]) [9, 10] [0, 1, 2, 3, 4, 5, 6, 7, 8] rfl rfl rfl rfl (by decide)) PP) d_Unroller_unroll_86 lk_Unroller_57 mw_Book_ruleAt vw_Book_ruleAt (q0 := 0) rfl rfl (fit_of hR (by first | decide | (simp only [rmk]; omega)) (by first | decide | (simp only [rmk]; omega)) (by first | decide | (simp only [rmk]; omega)) (by first | decide | (simp only [rmk]; omega))) rfl (cat8 (Nat.le_of_ble_eq_true rfl)) (As := [.int (nI k)]) (rest := []) rfl (fun r_86 w_86 hp_86 => ?_)
        obtain ⟨rfl, rfl⟩ := hp_86
        refine r_swap ?_
        refine r_afterP (X := [(u, .inr (8, [.ref s, .ref ss, .ref la, .ref ke, .int (nI lcc), .int (nI uw), .int (nI uh), .int (nI rii), .int mc, .int (bI tc)])), (ss, .inl (g.2.1 0, 10496, .inl (aI SSc))), (la, .inl (g.2.1 4, 40, .inr (.inr (.inr (.inr LC))))), (ke, .inl (g.2.1 0, 256, .inl (aI KC))), (s, .inr (7, [.ref ru, .ref sa, .ref ps, .ref to, .int (nI (uw * uh)), .int (nI rcc), .int (nI pnc)])), (ru, .inl (g.2.1 0, 4000, .inl (aI RC))), (sa, .inl (g.2.1 0, 4001, .inl (aI SC))), (ps, .inl (g.2.1 0, 30000, .inl (aI PC))), (to, .inl (g.2.1 2, 256, .inl (zI TC))), (bk, .inr (5, [.ref ra, .ref pa, .int (bI pr), .int (nI rules.length), .int (nI pb), .int (nI db)])), (ra, .inl (g.2.1 3, 400, .inr (.inr (.inr (.inr RA)))))]) (X' := [(u, .inr (8, [.ref s, .ref ss, .ref la, .ref ke, .int (nI lcc), .int (nI uw), .int (nI uh), .int (nI rii), .int mc, .int (bI tc)])), (ss, .inl (g.2.1 0, 10496, .inl (aI SSc))), (la, .inl (g.2.1 4, 40, .inr (.inr (.inr (.inr LC))))), (ke, .inl (g.2.1 0, 256, .inl (aI KC))), (s, .inr (7, [.ref ru, .ref sa, .ref ps, .ref to, .int (nI (uw * uh)), .int (nI rcc), .int (nI pnc)])), (ru, .inl (g.2.1 0, 4000, .inl (aI RC))), (sa, .inl (g.2.1 0, 4001, .inl (aI SC))), (ps, .inl (g.2.1 0, 30000, .inl (aI PC))), (to, .inl (g.2.1 2, 256, .inl (zI TC))), (bk, .inr (5, [.ref ra, .ref pa, .int (bI pr), .int (nI rules.length), .int (nI pb), .int (nI db)])), (ra, .inl (g.2.1 3, 400, .inr (.inr (.inr (.inr RA)))))]) (pl := PP) (st' := [va_rf (refK RA rules.length (inN (nI k)))]) (n1 := 0) (n2 := 0) [0, 1, 2, 3, 4, 5, 6, 7, 8, 9, 10] rfl rfl rfl rfl rfl rfl ?_
        obtain ⟨rv, hrv⟩ : ∃ rv, rules[k]? = some rv := ⟨_, List.getElem?_eq_getElem (by omega)⟩
        obtain ⟨y, hy, ar, hmem, hch⟩ := hRA k rv hrv
        obtain ⟨hls, hly⟩ := hok rv (List.mem_of_getElem? hrv)
        refine r_eqS (st' := [.ref y]) (by rw [inN_nI (by omega), refK, if_pos (by omega), hy]; rfl) ?_
        refine r_astore C (lv' := [(6, .ref y), (0, .ref u), (1, .ref bk), (2, .int (nI uw)), (3, .int (nI uh)), (4, .int (nI (uw * uh))), (5, .int (nI k))]) d_Unroller_unroll_89 (by decide) rfl ?_
        refine r_aload_n C 1 d_Unroller_unroll_91 rfl rfl ?_
        refine r_iload C 6 d_Unroller_unroll_92 rfl ?_
        refine r_put C (ws' := [(u, .inr (8, [.ref s, .ref ss, .ref la, .ref ke, .int (nI lcc), .int (nI uw), .int (nI uh), .int (nI k), .int mc, .int (bI tc)])), (ss, .inl (g.2.1 0, 10496, .inl (aI SSc))), (la, .inl (g.2.1 4, 40, .inr (.inr (.inr (.inr LC))))), (ke, .inl (g.2.1 0, 256, .inl (aI KC))), (s, .inr (7, [.ref ru, .ref sa, .ref ps, .ref to, .int (nI (uw * uh)), .int (nI rcc), .int (nI pnc)])), (ru, .inl (g.2.1 0, 4000, .inl (aI RC))), (sa, .inl (g.2.1 0, 4001, .inl (aI SC))), (ps, .inl (g.2.1 0, 30000, .inl (aI PC))), (to, .inl (g.2.1 2, 256, .inl (zI TC))), (bk, .inr (5, [.ref ra, .ref pa, .int (bI pr), .int (nI rules.length), .int (nI pb), .int (nI db)])), (ra, .inl (g.2.1 3, 400, .inr (.inr (.inr (.inr RA)))))] ++ PP) 0 7 d_Unroller_unroll_94 ci_Unroller fi_Unroller_61 rfl (by decide) rfl rfl (rfl) (rfl) (by simp) rfl ?_
        refine r_aload_n C 1 d_Unroller_unroll_97 rfl rfl ?_
        refine r_aload C 0 d_Unroller_unroll_98 rfl ?_
        refine r_ifnonnull C 107 d_Unroller_unroll_100 (by decide) ?_
        refine r_aload C 0 d_Unroller_unroll_107 rfl ?_
        refine r_getM C 2 d_Unroller_unroll_109 ci_Rule fi_Unroller_64 rfl (by decide) (List.mem_append_right _ hmem) rfl ?_
        refine j_callV C (c_Unroller_layOut g (xl x) (u := u) (s := s) (ss := ss) (la := la) (ke := ke) (lc := lcc) (uw := uw) (uh := uh) (ri := k) (mi := mc) (tm := tc) (ar := ar) (ls := rv.2.2.1) (LA := LC) (PP := PP) (hls) (hch)) (Sp.pool (Sp.of (wr := [(ss, .inl (g.2.1 0, 10496, .inl (aI SSc))), (ke, .inl (g.2.1 0, 256, .inl (aI KC))), (s, .inr (7, [.ref ru, .ref sa, .ref ps, .ref to, .int (nI (uw * uh)), .int (nI rcc), .int (nI pnc)])), (ru, .inl (g.2.1 0, 4000, .inl (aI RC))), (sa, .inl (g.2.1 0, 4001, .inl (aI SC))), (ps, .inl (g.2.1 0, 30000, .inl (aI PC))), (to, .inl (g.2.1 2, 256, .inl (zI TC))), (bk, .inr (5, [.ref ra, .ref pa, .int (bI pr), .int (nI rules.length), .int (nI pb), .int (nI db)])), (ra, .inl (g.2.1 3, 400, .inr (.inr (.inr (.inr RA)))))]) [0, 2] [1, 3, 4, 5, 6, 7, 8, 9, 10] rfl rfl rfl rfl (by decide)) PP) d_Unroller_unroll_112 lk_Unroller_70 mw_Unroller_layOut vw_Unroller_layOut (q0 := 0) rfl rfl (fit_of hR (by first | decide | (simp only [rmk]; omega)) (by first | decide | (simp only [rmk]; omega)) (by first | decide | (simp only [rmk]; omega)) (by first | decide | (simp only [rmk]; omega))) rfl (cat8 (Nat.le_of_ble_eq_true rfl)) (As := [va_rf ar]) (rest := []) rfl (fun r_112 w_112 hp_112 => ?_)
        obtain ⟨LB_112, rfl, rfl, hlb_112⟩ := hp_112
        refine r_afterP (X := [(ss, .inl (g.2.1 0, 10496, .inl (aI SSc))), (ke, .inl (g.2.1 0, 256, .inl (aI KC))), (s, .inr (7, [.ref ru, .ref sa, .ref ps, .ref to, .int (nI (uw * uh)), .int (nI rcc), .int (nI pnc)])), (ru, .inl (g.2.1 0, 4000, .inl (aI RC))), (sa, .inl (g.2.1 0, 4001, .inl (aI SC))), (ps, .inl (g.2.1 0, 30000, .inl (aI PC))), (to, .inl (g.2.1 2, 256, .inl (zI TC))), (bk, .inr (5, [.ref ra, .ref pa, .int (bI pr), .int (nI rules.length), .int (nI pb), .int (nI db)])), (ra, .inl (g.2.1 3, 400, .inr (.inr (.inr (.inr RA))))), (u, .inr (8, [.ref s, .ref ss, .ref la, .ref ke, .int (nI rv.2.2.1.length), .int (nI uw), .int (nI uh), .int (nI k), .int mc, .int (bI tc)])), (la, .inl (g.2.1 4, 40, .inr (.inr (.inr (.inr LB_112)))))]) (X' := [(u, .inr (8, [.ref s, .ref ss, .ref la, .ref ke, .int (nI rv.2.2.1.length), .int (nI uw), .int (nI uh), .int (nI k), .int mc, .int (bI tc)])), (ss, .inl (g.2.1 0, 10496, .inl (aI SSc))), (la, .inl (g.2.1 4, 40, .inr (.inr (.inr (.inr LB_112))))), (ke, .inl (g.2.1 0, 256, .inl (aI KC))), (s, .inr (7, [.ref ru, .ref sa, .ref ps, .ref to, .int (nI (uw * uh)), .int (nI rcc), .int (nI pnc)])), (ru, .inl (g.2.1 0, 4000, .inl (aI RC))), (sa, .inl (g.2.1 0, 4001, .inl (aI SC))), (ps, .inl (g.2.1 0, 30000, .inl (aI PC))), (to, .inl (g.2.1 2, 256, .inl (zI TC))), (bk, .inr (5, [.ref ra, .ref pa, .int (bI pr), .int (nI rules.length), .int (nI pb), .int (nI db)])), (ra, .inl (g.2.1 3, 400, .inr (.inr (.inr (.inr RA)))))]) (pl := PP) (st' := []) (n1 := 0) (n2 := 0) [9, 0, 10, 1, 2, 3, 4, 5, 6, 7, 8] rfl rfl rfl rfl rfl rfl ?_
        refine r_aload_n C 1 d_Unroller_unroll_115 rfl rfl ?_
        refine r_iconst C (nI 0) d_Unroller_unroll_116 (by decide) ?_
        refine r_iconst C (nI 0) d_Unroller_unroll_117 (by decide) ?_
        refine r_iload C 5 d_Unroller_unroll_118 rfl ?_
        refine j_callV C (c_Unroller_descend g (xl x) (u := u) (s := s) (ss := ss) (la := la) (ke := ke) (lc := rv.2.2.1.length) (uw := uw) (uh := uh) (ri := k) (mi := mc) (tm := tc) (lev := 0) (d := rv.2.2.1.length) (ru := ru) (sa := sa) (ps := ps) (to := to) (gs := uw * uh) (rc := rcc) (pn := pnc) (RU := RC) (SA := SC) (PL := PC) (SS := SSc) (KE := KC) (TO := TC) (LA := LB_112) (PP := PP) (acc := ac) (lr := rv.2.2.1.reverse) (j := 0) (z := uw * uh) (by first | assumption | omega | rfl) (by first | assumption | omega | rfl) (by first | assumption | omega | rfl) (by first | assumption | omega | rfl) (by first | assumption | omega | rfl) (by first | assumption | omega | rfl) (List.length_reverse) (fun l h => hly l (List.mem_reverse.mp h)) (hUc) (h2c) (Nat.zero_add _) (LayF_of hlb_112) (gr_256 hw1 hh1) (by have := gr_256 hw1 hh1; omega) (by rw [hSg]; exact set_rng) (c_80)) (Sp.pool (Sp.of (wr := [(bk, .inr (5, [.ref ra, .ref pa, .int (bI pr), .int (nI rules.length), .int (nI pb), .int (nI db)])), (ra, .inl (g.2.1 3, 400, .inr (.inr (.inr (.inr RA)))))]) [0, 1, 2, 3, 4, 5, 6, 7, 8] [9, 10] rfl rfl rfl rfl (by decide)) PP) d_Unroller_unroll_120 lk_Unroller_74 mw_Unroller_descend vw_Unroller_descend (q0 := 0) rfl rfl (fit_of hR (by first | decide | (simp only [rmk]; omega)) (by first | decide | (simp only [rmk]; omega)) (by first | decide | (simp only [rmk]; omega)) (by first | decide | (simp only [rmk]; omega))) rfl (cat8 (Nat.le_of_ble_eq_true rfl)) (As := [.int (nI 0), .int (nI 0), .int (nI (uw * uh))]) (rest := []) rfl (fun r_120 w_120 hp_120 => ?_)
        obtain ⟨mi2_120, tm2_120, rc2_120, pn2_120, RU2_120, SA2_120, PL2_120, SS2_120, KE2_120, TO2_120, rfl, rfl, hU2_120, hfr_120, h2562_120⟩ := hp_120
        refine r_afterP (X := [(bk, .inr (5, [.ref ra, .ref pa, .int (bI pr), .int (nI rules.length), .int (nI pb), .int (nI db)])), (ra, .inl (g.2.1 3, 400, .inr (.inr (.inr (.inr RA))))), (u, .inr (8, [.ref s, .ref ss, .ref la, .ref ke, .int (nI rv.2.2.1.length), .int (nI uw), .int (nI uh), .int (nI k), .int mi2_120, .int (bI tm2_120)])), (ss, .inl (g.2.1 0, 10496, .inl (aI SS2_120))), (la, .inl (g.2.1 4, 40, .inr (.inr (.inr (.inr LB_112))))), (ke, .inl (g.2.1 0, 256, .inl (aI KE2_120))), (s, .inr (7, [.ref ru, .ref sa, .ref ps, .ref to, .int (nI (uw * uh)), .int (nI rc2_120), .int (nI pn2_120)])), (ru, .inl (g.2.1 0, 4000, .inl (aI RU2_120))), (sa, .inl (g.2.1 0, 4001, .inl (aI SA2_120))), (ps, .inl (g.2.1 0, 30000, .inl (aI PL2_120))), (to, .inl (g.2.1 2, 256, .inl (zI TO2_120)))]) (X' := [(u, .inr (8, [.ref s, .ref ss, .ref la, .ref ke, .int (nI rv.2.2.1.length), .int (nI uw), .int (nI uh), .int (nI k), .int mi2_120, .int (bI tm2_120)])), (ss, .inl (g.2.1 0, 10496, .inl (aI SS2_120))), (la, .inl (g.2.1 4, 40, .inr (.inr (.inr (.inr LB_112))))), (ke, .inl (g.2.1 0, 256, .inl (aI KE2_120))), (s, .inr (7, [.ref ru, .ref sa, .ref ps, .ref to, .int (nI (uw * uh)), .int (nI rc2_120), .int (nI pn2_120)])), (ru, .inl (g.2.1 0, 4000, .inl (aI RU2_120))), (sa, .inl (g.2.1 0, 4001, .inl (aI SA2_120))), (ps, .inl (g.2.1 0, 30000, .inl (aI PL2_120))), (to, .inl (g.2.1 2, 256, .inl (zI TO2_120))), (bk, .inr (5, [.ref ra, .ref pa, .int (bI pr), .int (nI rules.length), .int (nI pb), .int (nI db)])), (ra, .inl (g.2.1 3, 400, .inr (.inr (.inr (.inr RA)))))]) (pl := PP) (st' := []) (n1 := 0) (n2 := 0) [2, 3, 4, 5, 6, 7, 8, 9, 10, 0, 1] rfl rfl rfl rfl rfl rfl ?_
        refine r_iinc C 6 (nI (k + 1)) (lv' := [(5, .int (nI (k + 1))), (6, .ref y), (0, .ref u), (1, .ref bk), (2, .int (nI uw)), (3, .int (nI uh)), (4, .int (nI (uw * uh)))]) d_Unroller_unroll_123 rfl (nI_inc 1 _) (by decide) rfl ?_
        refine r_goto C 67 d_Unroller_unroll_126 (by decide) ?_
        refine r_lv (lv' := [(0, .ref u), (1, .ref bk), (2, .int (nI uw)), (3, .int (nI uh)), (4, .int (nI (uw * uh))), (5, .int (nI (k + 1)))]) [2, 3, 4, 5, 6, 0] rfl ?_
        exact ih (k + 1) rv.2.2.1.length k LB_112 mi2_120 tm2_120 rc2_120 pn2_120 RU2_120 SA2_120 PL2_120 SS2_120 KE2_120 TO2_120 (lim k (unr uw uh rv.2.2.1.reverse (List.range (uw * uh))) ac) (by first | assumption | omega | rfl) (by rw [hSg] at hU2_120; exact hU2_120) (by rw [← hI, unrF_step hrv]) ((seg_fr hfr_120 (by have := gr_256 hw1 hh1; omega)).trans hSg) (h2562_120) (by omega)
set_option maxHeartbeats 4000000 in
set_option maxRecDepth 100000 in
theorem lp_Unroller_unroll_43 (g : GG) {u : Nat} {s : Nat} {ss : Nat} {la : Nat} {ke : Nat} {lc : Nat} {uw0 : Nat} {uh0 : Nat} {ri : Nat} {mi : Int32} {tm : Bool} {uw : Nat} {uh : Nat} {ru : Nat} {sa : Nat} {ps : Nat} {to : Nat} {gs : Nat} {rc : Nat} {pn : Nat} {RU : Nat → Nat} {SA : Nat → Nat} {PL : Nat → Nat} {SS : Nat → Nat} {KE : Nat → Nat} {TO : Nat → Bool} {LA : Nat → Option Nat} {RA : Nat → Option Nat} {PP : va_W} {bk : Nat} {ra : Nat} {pa : Nat} {pb : Nat} {db : Nat} {pr : Bool} {rules : List RuleV} (hw0 : 0 < uw) (hw1 : uw ≤ 16) (hh0 : 0 < uh) (hh1 : uh ≤ 16) (h400 : rules.length ≤ 400) (hRA : RulesAt g PP RA rules) (hok : ∀ r ∈ rules, r.2.2.1.length ≤ 40 ∧ ∀ l ∈ r.2.2.1, LyOK l) (h256 : ∀ i, SS i < 256) {x : X0} {A : Nat → Prop} {Q : State → Prop}  (C : CX x g A R_Unroller b_Unroller_unroll 7) (E : RX x g A Q (some .boolean) (fun (r0 : Option Value) (w0 : va_W) => ∃ mi2 : Int32, ∃ tm2 : Bool, ∃ lc2 : Nat, ∃ ri2 : Nat, ∃ rc2 : Nat, ∃ pn2 : Nat, ∃ RU2 : Nat → Nat, ∃ SA2 : Nat → Nat, ∃ PL2 : Nat → Nat, ∃ SS2 : Nat → Nat, ∃ KE2 : Nat → Nat, ∃ TO2 : Nat → Bool, ∃ LA2 : Nat → Option Nat, r0 = some (.int (bI (!tm2))) ∧ w0 = [(u, .inr (8, [.ref s, .ref ss, .ref la, .ref ke, .int (nI lc2), .int (nI uw), .int (nI uh), .int (nI ri2), .int mi2, .int (bI tm2)])), (ss, .inl (g.2.1 0, 10496, .inl (aI SS2))), (la, .inl (g.2.1 4, 40, .inr (.inr (.inr (.inr LA2))))), (ke, .inl (g.2.1 0, 256, .inl (aI KE2))), (s, .inr (7, [.ref ru, .ref sa, .ref ps, .ref to, .int (nI (uw * uh)), .int (nI rc2), .int (nI pn2)])), (ru, .inl (g.2.1 0, 4000, .inl (aI RU2))), (sa, .inl (g.2.1 0, 4001, .inl (aI SA2))), (ps, .inl (g.2.1 0, 30000, .inl (aI PL2))), (to, .inl (g.2.1 2, 256, .inl (zI TO2))), (bk, .inr (5, [.ref ra, .ref pa, .int (bI pr), .int (nI rules.length), .int (nI pb), .int (nI db)])), (ra, .inl (g.2.1 3, 400, .inr (.inr (.inr (.inr RA)))))] ++ PP ∧ (UAt (unrA uw uh rules) tm2 mi2 RU2 SA2 PL2 TO2 rc2 pn2) ∧ (∀ i, SS2 i < 256)) (rmk 180 0 0 4700).cells (rmk 180 0 0 4700).slots) (hR : xR x = (rmk 180 0 0 4700)) : ∀ (fuel : Nat) (i : Nat) (SSc : Nat → Nat) (TOc : Nat → Bool) (hi : i ≤ uw * uh) (hid : ∀ t, t < i → SSc t = t) (h2c : ∀ t, SSc t < 256) (hTc : ∀ j, j < 256 → TOc j = false) (hgr : uw * uh ≤ 256), uw * uh - i < fuel → J x g A Q 7 ([(u, .inr (8, [.ref s, .ref ss, .ref la, .ref ke, .int (nI lc), .int (nI uw), .int (nI uh), .int (nI ri), .int (nI 0), .int (bI false)])), (ss, .inl (g.2.1 0, 10496, .inl (aI SSc))), (la, .inl (g.2.1 4, 40, .inr (.inr (.inr (.inr LA))))), (ke, .inl (g.2.1 0, 256, .inl (aI KE))), (s, .inr (7, [.ref ru, .ref sa, .ref ps, .ref to, .int (nI (uw * uh)), .int (nI 0), .int (nI 0)])), (ru, .inl (g.2.1 0, 4000, .inl (aI RU))), (sa, .inl (g.2.1 0, 4001, .inl (aI SA))), (ps, .inl (g.2.1 0, 30000, .inl (aI PL))), (to, .inl (g.2.1 2, 256, .inl (zI TOc))), (bk, .inr (5, [.ref ra, .ref pa, .int (bI pr), .int (nI rules.length), .int (nI pb), .int (nI db)])), (ra, .inl (g.2.1 3, 400, .inr (.inr (.inr (.inr RA)))))] ++ PP) [(0, .ref u), (1, .ref bk), (2, .int (nI uw)), (3, .int (nI uh)), (4, .int (nI (uw * uh))), (5, .int (nI i))] 43 [] 0 0 := by
  intro fuel
  induction fuel with
  | zero =>
    intro i SSc TOc hi hid h2c hTc hgr hm
    exact absurd hm (Nat.not_lt_zero _)
  | succ fuel ih =>
    intro i SSc TOc hi hid h2c hTc hgr hm
    refine r_iload C 5 d_Unroller_unroll_43 rfl ?_
    refine r_iload C 4 d_Unroller_unroll_45 rfl ?_
    refine r_ncmp_ge C 64 d_Unroller_unroll_47 (by decide) (by omega) (by omega) (fun c_47 => ?_) (fun c_47 => ?_)
    · skip
      refine r_iconst C (nI 0) d_Unroller_unroll_64 (by decide) ?_
      refine r_istore C (lv' := [(5, .int (nI 0)), (0, .ref u), (1, .ref bk), (2, .int (nI uw)), (3, .int (nI uh)), (4, .int (nI (uw * uh)))]) d_Unroller_unroll_65 (by decide) rfl ?_
      refine r_lv (lv' := [(0, .ref u), (1, .ref bk), (2, .int (nI uw)), (3, .int (nI uh)), (4, .int (nI (uw * uh))), (5, .int (nI 0))]) [1, 2, 3, 4, 5, 0] rfl ?_
      exact lp_Unroller_unroll_67 g (u := u) (s := s) (ss := ss) (la := la) (ke := ke) (lc := lc) (uw0 := uw0) (uh0 := uh0) (ri := ri) (mi := mi) (tm := tm) (uw := uw) (uh := uh) (ru := ru) (sa := sa) (ps := ps) (to := to) (gs := gs) (rc := rc) (pn := pn) (RU := RU) (SA := SA) (PL := PL) (SS := SS) (KE := KE) (TO := TO) (LA := LA) (RA := RA) (PP := PP) (bk := bk) (ra := ra) (pa := pa) (pb := pb) (db := db) (pr := pr) (rules := rules) hw0 hw1 hh0 hh1 h400 hRA hok h256  C E hR _ 0 lc ri LA (nI 0) false 0 0 RU SA PL SSc KE TOc (some (0, [])) (by first | assumption | omega | rfl) (UAt_0 hTc) (by rw [List.drop_zero]; rfl) (seg_rng fun t h => hid t (by omega)) (h2c) (Nat.lt_succ_self _)
    · skip
      refine r_aload_n C 0 d_Unroller_unroll_50 rfl rfl ?_
      refine r_iload C 5 d_Unroller_unroll_51 rfl ?_
      refine r_iload C 5 d_Unroller_unroll_53 rfl ?_
      refine j_callV C (c_Unroller_put g (xl x) (u := u) (s := s) (ss := ss) (la := la) (ke := ke) (lc := lc) (uw := uw) (uh := uh) (ri := ri) (mi := (nI 0)) (tm := false) (j := i) (c := i) (SS := SSc) (by first | assumption | omega | rfl)) (Sp.keep (Sp.of (wr := [(la, .inl (g.2.1 4, 40, .inr (.inr (.inr (.inr LA))))), (ke, .inl (g.2.1 0, 256, .inl (aI KE))), (s, .inr (7, [.ref ru, .ref sa, .ref ps, .ref to, .int (nI (uw * uh)), .int (nI 0), .int (nI 0)])), (ru, .inl (g.2.1 0, 4000, .inl (aI RU))), (sa, .inl (g.2.1 0, 4001, .inl (aI SA))), (ps, .inl (g.2.1 0, 30000, .inl (aI PL))), (to, .inl (g.2.1 2, 256, .inl (zI TOc))), (bk, .inr (5, [.ref ra, .ref pa, .int (bI pr), .int (nI rules.length), .int (nI pb), .int (nI db)])), (ra, .inl (g.2.1 3, 400, .inr (.inr (.inr (.inr RA)))))]) [0, 1] [2, 3, 4, 5, 6, 7, 8, 9, 10] rfl rfl rfl rfl (by decide)) PP) d_Unroller_unroll_55 lk_Unroller_48 mw_Unroller_put vw_Unroller_put (q0 := 0) rfl rfl (fit_of hR (by first | decide | (simp only [rmk]; omega)) (by first | decide | (simp only [rmk]; omega)) (by first | decide | (simp only [rmk]; omega)) (by first | decide | (simp only [rmk]; omega))) rfl (cat8 (Nat.le_of_ble_eq_true rfl)) (As := [.int (nI i), .int (nI i)]) (rest := []) rfl (fun r_55 w_55 hp_55 => ?_)
      obtain ⟨rfl, rfl⟩ := hp_55
      refine r_swap ?_
      refine r_afterP (X := [(la, .inl (g.2.1 4, 40, .inr (.inr (.inr (.inr LA))))), (ke, .inl (g.2.1 0, 256, .inl (aI KE))), (s, .inr (7, [.ref ru, .ref sa, .ref ps, .ref to, .int (nI (uw * uh)), .int (nI 0), .int (nI 0)])), (ru, .inl (g.2.1 0, 4000, .inl (aI RU))), (sa, .inl (g.2.1 0, 4001, .inl (aI SA))), (ps, .inl (g.2.1 0, 30000, .inl (aI PL))), (to, .inl (g.2.1 2, 256, .inl (zI TOc))), (bk, .inr (5, [.ref ra, .ref pa, .int (bI pr), .int (nI rules.length), .int (nI pb), .int (nI db)])), (ra, .inl (g.2.1 3, 400, .inr (.inr (.inr (.inr RA))))), (u, .inr (8, [.ref s, .ref ss, .ref la, .ref ke, .int (nI lc), .int (nI uw), .int (nI uh), .int (nI ri), .int (nI 0), .int (bI false)])), (ss, .inl (g.2.1 0, 10496, .inl (aI (up SSc i i))))]) (X' := [(u, .inr (8, [.ref s, .ref ss, .ref la, .ref ke, .int (nI lc), .int (nI uw), .int (nI uh), .int (nI ri), .int (nI 0), .int (bI false)])), (ss, .inl (g.2.1 0, 10496, .inl (aI (up SSc i i)))), (la, .inl (g.2.1 4, 40, .inr (.inr (.inr (.inr LA))))), (ke, .inl (g.2.1 0, 256, .inl (aI KE))), (s, .inr (7, [.ref ru, .ref sa, .ref ps, .ref to, .int (nI (uw * uh)), .int (nI 0), .int (nI 0)])), (ru, .inl (g.2.1 0, 4000, .inl (aI RU))), (sa, .inl (g.2.1 0, 4001, .inl (aI SA))), (ps, .inl (g.2.1 0, 30000, .inl (aI PL))), (to, .inl (g.2.1 2, 256, .inl (zI TOc))), (bk, .inr (5, [.ref ra, .ref pa, .int (bI pr), .int (nI rules.length), .int (nI pb), .int (nI db)])), (ra, .inl (g.2.1 3, 400, .inr (.inr (.inr (.inr RA)))))]) (pl := PP) (st' := []) (n1 := 0) (n2 := 0) [9, 10, 0, 1, 2, 3, 4, 5, 6, 7, 8] rfl rfl rfl rfl rfl rfl ?_
      refine r_iinc C 5 (nI (i + 1)) (lv' := [(5, .int (nI (i + 1))), (0, .ref u), (1, .ref bk), (2, .int (nI uw)), (3, .int (nI uh)), (4, .int (nI (uw * uh)))]) d_Unroller_unroll_58 rfl (nI_inc 1 _) (by decide) rfl ?_
      refine r_goto C 43 d_Unroller_unroll_61 (by decide) ?_
      refine r_lv (lv' := [(0, .ref u), (1, .ref bk), (2, .int (nI uw)), (3, .int (nI uh)), (4, .int (nI (uw * uh))), (5, .int (nI (i + 1)))]) [1, 2, 3, 4, 5, 0] rfl ?_
      exact ih (i + 1) (up SSc i i) TOc (by first | assumption | omega | rfl) (fun t h => by
                by_cases e : t = i
                · rw [e, up_self]
                · rw [up_ne _ _ e]; exact hid t (by omega)) (up_256 h2c (by omega)) (hTc) (hgr) (by omega)
set_option maxHeartbeats 4000000 in
set_option maxRecDepth 100000 in
theorem c_Unroller_unroll (g : GG) (l : Launch) {u : Nat} {s : Nat} {ss : Nat} {la : Nat} {ke : Nat} {lc : Nat} {uw0 : Nat} {uh0 : Nat} {ri : Nat} {mi : Int32} {tm : Bool} {uw : Nat} {uh : Nat} {ru : Nat} {sa : Nat} {ps : Nat} {to : Nat} {gs : Nat} {rc : Nat} {pn : Nat} {RU : Nat → Nat} {SA : Nat → Nat} {PL : Nat → Nat} {SS : Nat → Nat} {KE : Nat → Nat} {TO : Nat → Bool} {LA : Nat → Option Nat} {RA : Nat → Option Nat} {PP : va_W} {bk : Nat} {ra : Nat} {pa : Nat} {pb : Nat} {db : Nat} {pr : Bool} {rules : List RuleV}  (hw0 : 0 < uw) (hw1 : uw ≤ 16) (hh0 : 0 < uh) (hh1 : uh ≤ 16) (h400 : rules.length ≤ 400) (hRA : RulesAt g PP RA rules) (hok : ∀ r ∈ rules, r.2.2.1.length ≤ 40 ∧ ∀ l ∈ r.2.2.1, LyOK l) (h256 : ∀ i, SS i < 256) : Cn g l y_Unroller_unroll b_Unroller_unroll 7 (some .boolean) (rmk 180 0 0 4700) [.ref u, .ref bk, .int (nI uw), .int (nI uh)] ([(u, .inr (8, [.ref s, .ref ss, .ref la, .ref ke, .int (nI lc), .int (nI uw0), .int (nI uh0), .int (nI ri), .int mi, .int (bI tm)])), (ss, .inl (g.2.1 0, 10496, .inl (aI SS))), (la, .inl (g.2.1 4, 40, .inr (.inr (.inr (.inr LA))))), (ke, .inl (g.2.1 0, 256, .inl (aI KE))), (s, .inr (7, [.ref ru, .ref sa, .ref ps, .ref to, .int (nI gs), .int (nI rc), .int (nI pn)])), (ru, .inl (g.2.1 0, 4000, .inl (aI RU))), (sa, .inl (g.2.1 0, 4001, .inl (aI SA))), (ps, .inl (g.2.1 0, 30000, .inl (aI PL))), (to, .inl (g.2.1 2, 256, .inl (zI TO))), (bk, .inr (5, [.ref ra, .ref pa, .int (bI pr), .int (nI rules.length), .int (nI pb), .int (nI db)])), (ra, .inl (g.2.1 3, 400, .inr (.inr (.inr (.inr RA)))))] ++ PP) (fun (r0 : Option Value) (w0 : va_W) => ∃ mi2 : Int32, ∃ tm2 : Bool, ∃ lc2 : Nat, ∃ ri2 : Nat, ∃ rc2 : Nat, ∃ pn2 : Nat, ∃ RU2 : Nat → Nat, ∃ SA2 : Nat → Nat, ∃ PL2 : Nat → Nat, ∃ SS2 : Nat → Nat, ∃ KE2 : Nat → Nat, ∃ TO2 : Nat → Bool, ∃ LA2 : Nat → Option Nat, r0 = some (.int (bI (!tm2))) ∧ w0 = [(u, .inr (8, [.ref s, .ref ss, .ref la, .ref ke, .int (nI lc2), .int (nI uw), .int (nI uh), .int (nI ri2), .int mi2, .int (bI tm2)])), (ss, .inl (g.2.1 0, 10496, .inl (aI SS2))), (la, .inl (g.2.1 4, 40, .inr (.inr (.inr (.inr LA2))))), (ke, .inl (g.2.1 0, 256, .inl (aI KE2))), (s, .inr (7, [.ref ru, .ref sa, .ref ps, .ref to, .int (nI (uw * uh)), .int (nI rc2), .int (nI pn2)])), (ru, .inl (g.2.1 0, 4000, .inl (aI RU2))), (sa, .inl (g.2.1 0, 4001, .inl (aI SA2))), (ps, .inl (g.2.1 0, 30000, .inl (aI PL2))), (to, .inl (g.2.1 2, 256, .inl (zI TO2))), (bk, .inr (5, [.ref ra, .ref pa, .int (bI pr), .int (nI rules.length), .int (nI pb), .int (nI db)])), (ra, .inl (g.2.1 3, 400, .inr (.inr (.inr (.inr RA)))))] ++ PP ∧ (UAt (unrA uw uh rules) tm2 mi2 RU2 SA2 PL2 TO2 rc2 pn2) ∧ (∀ i, SS2 i < 256)) := by
  refine Cn.of R_Unroller [(0, .ref u), (1, .ref bk), (2, .int (nI uw)), (3, .int (nI uh))] (by decide) rfl (Nat.le_of_ble_eq_true rfl) rfl ?_
  intro x A Q hR hXl hin C E
  subst hXl
  have hgr := gr_256 hw1 hh1
  refine r_aload_n C 0 d_Unroller_unroll_0 rfl rfl ?_
  refine r_iload_n C 2 d_Unroller_unroll_1 rfl rfl ?_
  refine r_put C (ws' := [(u, .inr (8, [.ref s, .ref ss, .ref la, .ref ke, .int (nI lc), .int (nI uw), .int (nI uh0), .int (nI ri), .int mi, .int (bI tm)])), (ss, .inl (g.2.1 0, 10496, .inl (aI SS))), (la, .inl (g.2.1 4, 40, .inr (.inr (.inr (.inr LA))))), (ke, .inl (g.2.1 0, 256, .inl (aI KE))), (s, .inr (7, [.ref ru, .ref sa, .ref ps, .ref to, .int (nI gs), .int (nI rc), .int (nI pn)])), (ru, .inl (g.2.1 0, 4000, .inl (aI RU))), (sa, .inl (g.2.1 0, 4001, .inl (aI SA))), (ps, .inl (g.2.1 0, 30000, .inl (aI PL))), (to, .inl (g.2.1 2, 256, .inl (zI TO))), (bk, .inr (5, [.ref ra, .ref pa, .int (bI pr), .int (nI rules.length), .int (nI pb), .int (nI db)])), (ra, .inl (g.2.1 3, 400, .inr (.inr (.inr (.inr RA)))))] ++ PP) 0 5 d_Unroller_unroll_2 ci_Unroller fi_Unroller_28 rfl (by decide) rfl rfl (rfl) (rfl) (by simp) rfl ?_
  refine r_aload_n C 0 d_Unroller_unroll_5 rfl rfl ?_
  refine r_iload_n C 3 d_Unroller_unroll_6 rfl rfl ?_
  refine r_put C (ws' := [(u, .inr (8, [.ref s, .ref ss, .ref la, .ref ke, .int (nI lc), .int (nI uw), .int (nI uh), .int (nI ri), .int mi, .int (bI tm)])), (ss, .inl (g.2.1 0, 10496, .inl (aI SS))), (la, .inl (g.2.1 4, 40, .inr (.inr (.inr (.inr LA))))), (ke, .inl (g.2.1 0, 256, .inl (aI KE))), (s, .inr (7, [.ref ru, .ref sa, .ref ps, .ref to, .int (nI gs), .int (nI rc), .int (nI pn)])), (ru, .inl (g.2.1 0, 4000, .inl (aI RU))), (sa, .inl (g.2.1 0, 4001, .inl (aI SA))), (ps, .inl (g.2.1 0, 30000, .inl (aI PL))), (to, .inl (g.2.1 2, 256, .inl (zI TO))), (bk, .inr (5, [.ref ra, .ref pa, .int (bI pr), .int (nI rules.length), .int (nI pb), .int (nI db)])), (ra, .inl (g.2.1 3, 400, .inr (.inr (.inr (.inr RA)))))] ++ PP) 0 6 d_Unroller_unroll_7 ci_Unroller fi_Unroller_32 rfl (by decide) rfl rfl (rfl) (rfl) (by simp) rfl ?_
  refine r_aload_n C 0 d_Unroller_unroll_10 rfl rfl ?_
  refine r_iconst C (nI 0) d_Unroller_unroll_11 (by decide) ?_
  refine r_put C (ws' := [(u, .inr (8, [.ref s, .ref ss, .ref la, .ref ke, .int (nI lc), .int (nI uw), .int (nI uh), .int (nI ri), .int (nI 0), .int (bI tm)])), (ss, .inl (g.2.1 0, 10496, .inl (aI SS))), (la, .inl (g.2.1 4, 40, .inr (.inr (.inr (.inr LA))))), (ke, .inl (g.2.1 0, 256, .inl (aI KE))), (s, .inr (7, [.ref ru, .ref sa, .ref ps, .ref to, .int (nI gs), .int (nI rc), .int (nI pn)])), (ru, .inl (g.2.1 0, 4000, .inl (aI RU))), (sa, .inl (g.2.1 0, 4001, .inl (aI SA))), (ps, .inl (g.2.1 0, 30000, .inl (aI PL))), (to, .inl (g.2.1 2, 256, .inl (zI TO))), (bk, .inr (5, [.ref ra, .ref pa, .int (bI pr), .int (nI rules.length), .int (nI pb), .int (nI db)])), (ra, .inl (g.2.1 3, 400, .inr (.inr (.inr (.inr RA)))))] ++ PP) 0 8 d_Unroller_unroll_12 ci_Unroller fi_Unroller_35 rfl (by decide) rfl rfl (rfl) (rfl) (by simp) rfl ?_
  refine r_aload_n C 0 d_Unroller_unroll_15 rfl rfl ?_
  refine r_iconst C (nI 0) d_Unroller_unroll_16 (by decide) ?_
  refine r_eqS (st' := [.int (bI false), .ref u]) rfl ?_
  refine r_put C (ws' := [(u, .inr (8, [.ref s, .ref ss, .ref la, .ref ke, .int (nI lc), .int (nI uw), .int (nI uh), .int (nI ri), .int (nI 0), .int (bI false)])), (ss, .inl (g.2.1 0, 10496, .inl (aI SS))), (la, .inl (g.2.1 4, 40, .inr (.inr (.inr (.inr LA))))), (ke, .inl (g.2.1 0, 256, .inl (aI KE))), (s, .inr (7, [.ref ru, .ref sa, .ref ps, .ref to, .int (nI gs), .int (nI rc), .int (nI pn)])), (ru, .inl (g.2.1 0, 4000, .inl (aI RU))), (sa, .inl (g.2.1 0, 4001, .inl (aI SA))), (ps, .inl (g.2.1 0, 30000, .inl (aI PL))), (to, .inl (g.2.1 2, 256, .inl (zI TO))), (bk, .inr (5, [.ref ra, .ref pa, .int (bI pr), .int (nI rules.length), .int (nI pb), .int (nI db)])), (ra, .inl (g.2.1 3, 400, .inr (.inr (.inr (.inr RA)))))] ++ PP) 0 9 d_Unroller_unroll_17 ci_Unroller fi_Unroller_38 rfl (by decide) rfl rfl (bI_nar _) (bI_fit _) (by simp) rfl ?_
  refine r_aload_n C 0 d_Unroller_unroll_20 rfl rfl ?_
  refine r_get C 0 5 d_Unroller_unroll_21 ci_Unroller fi_Unroller_28 rfl (by decide) rfl rfl ?_
  refine r_aload_n C 0 d_Unroller_unroll_24 rfl rfl ?_
  refine r_get C 0 6 d_Unroller_unroll_25 ci_Unroller fi_Unroller_32 rfl (by decide) rfl rfl ?_
  refine r_nmul C d_Unroller_unroll_28 ?_
  refine r_istore C (lv' := [(4, .int (nI (uw * uh))), (0, .ref u), (1, .ref bk), (2, .int (nI uw)), (3, .int (nI uh))]) d_Unroller_unroll_29 (by decide) rfl ?_
  refine r_aload_n C 1 d_Unroller_unroll_31 rfl rfl ?_
  refine r_get C 0 0 d_Unroller_unroll_32 ci_Unroller fi_Unroller_24 rfl (by decide) rfl rfl ?_
  refine r_iload C 0 d_Unroller_unroll_35 rfl ?_
  refine j_callV C (c_RowStore_begin g (xl x) (s := s) (ru := ru) (sa := sa) (ps := ps) (to := to) (gs := gs) (rc := rc) (pn := pn) (z := uw * uh) (TO := TO) ) (Sp.keep (Sp.of (wr := [(u, .inr (8, [.ref s, .ref ss, .ref la, .ref ke, .int (nI lc), .int (nI uw), .int (nI uh), .int (nI ri), .int (nI 0), .int (bI false)])), (ss, .inl (g.2.1 0, 10496, .inl (aI SS))), (la, .inl (g.2.1 4, 40, .inr (.inr (.inr (.inr LA))))), (ke, .inl (g.2.1 0, 256, .inl (aI KE))), (ru, .inl (g.2.1 0, 4000, .inl (aI RU))), (sa, .inl (g.2.1 0, 4001, .inl (aI SA))), (ps, .inl (g.2.1 0, 30000, .inl (aI PL))), (bk, .inr (5, [.ref ra, .ref pa, .int (bI pr), .int (nI rules.length), .int (nI pb), .int (nI db)])), (ra, .inl (g.2.1 3, 400, .inr (.inr (.inr (.inr RA)))))]) [4, 8] [0, 1, 2, 3, 5, 6, 7, 9, 10] rfl rfl rfl rfl (by decide)) PP) d_Unroller_unroll_37 lk_Unroller_42 mw_RowStore_begin vw_RowStore_begin (q0 := 0) rfl rfl (fit_of hR (by first | decide | (simp only [rmk]; omega)) (by first | decide | (simp only [rmk]; omega)) (by first | decide | (simp only [rmk]; omega)) (by first | decide | (simp only [rmk]; omega))) rfl (cat8 (Nat.le_of_ble_eq_true rfl)) (As := [.int (nI (uw * uh))]) (rest := []) rfl (fun r_37 w_37 hp_37 => ?_)
  obtain ⟨TO2_37, rfl, rfl, hB_37⟩ := hp_37
  refine r_swap ?_
  refine r_afterP (X := [(u, .inr (8, [.ref s, .ref ss, .ref la, .ref ke, .int (nI lc), .int (nI uw), .int (nI uh), .int (nI ri), .int (nI 0), .int (bI false)])), (ss, .inl (g.2.1 0, 10496, .inl (aI SS))), (la, .inl (g.2.1 4, 40, .inr (.inr (.inr (.inr LA))))), (ke, .inl (g.2.1 0, 256, .inl (aI KE))), (ru, .inl (g.2.1 0, 4000, .inl (aI RU))), (sa, .inl (g.2.1 0, 4001, .inl (aI SA))), (ps, .inl (g.2.1 0, 30000, .inl (aI PL))), (bk, .inr (5, [.ref ra, .ref pa, .int (bI pr), .int (nI rules.length), .int (nI pb), .int (nI db)])), (ra, .inl (g.2.1 3, 400, .inr (.inr (.inr (.inr RA))))), (s, .inr (7, [.ref ru, .ref sa, .ref ps, .ref to, .int (nI (uw * uh)), .int (nI 0), .int (nI 0)])), (to, .inl (g.2.1 2, 256, .inl (zI TO2_37)))]) (X' := [(u, .inr (8, [.ref s, .ref ss, .ref la, .ref ke, .int (nI lc), .int (nI uw), .int (nI uh), .int (nI ri), .int (nI 0), .int (bI false)])), (ss, .inl (g.2.1 0, 10496, .inl (aI SS))), (la, .inl (g.2.1 4, 40, .inr (.inr (.inr (.inr LA))))), (ke, .inl (g.2.1 0, 256, .inl (aI KE))), (s, .inr (7, [.ref ru, .ref sa, .ref ps, .ref to, .int (nI (uw * uh)), .int (nI 0), .int (nI 0)])), (ru, .inl (g.2.1 0, 4000, .inl (aI RU))), (sa, .inl (g.2.1 0, 4001, .inl (aI SA))), (ps, .inl (g.2.1 0, 30000, .inl (aI PL))), (to, .inl (g.2.1 2, 256, .inl (zI TO2_37))), (bk, .inr (5, [.ref ra, .ref pa, .int (bI pr), .int (nI rules.length), .int (nI pb), .int (nI db)])), (ra, .inl (g.2.1 3, 400, .inr (.inr (.inr (.inr RA)))))]) (pl := PP) (st' := []) (n1 := 0) (n2 := 0) [0, 1, 2, 3, 9, 4, 5, 6, 10, 7, 8] rfl rfl rfl rfl rfl rfl ?_
  refine r_iconst C (nI 0) d_Unroller_unroll_40 (by decide) ?_
  refine r_istore C (lv' := [(5, .int (nI 0)), (4, .int (nI (uw * uh))), (0, .ref u), (1, .ref bk), (2, .int (nI uw)), (3, .int (nI uh))]) d_Unroller_unroll_41 (by decide) rfl ?_
  refine r_lv (lv' := [(0, .ref u), (1, .ref bk), (2, .int (nI uw)), (3, .int (nI uh)), (4, .int (nI (uw * uh))), (5, .int (nI 0))]) [2, 3, 4, 5, 1, 0] rfl ?_
  exact lp_Unroller_unroll_43 g (u := u) (s := s) (ss := ss) (la := la) (ke := ke) (lc := lc) (uw0 := uw0) (uh0 := uh0) (ri := ri) (mi := mi) (tm := tm) (uw := uw) (uh := uh) (ru := ru) (sa := sa) (ps := ps) (to := to) (gs := gs) (rc := rc) (pn := pn) (RU := RU) (SA := SA) (PL := PL) (SS := SS) (KE := KE) (TO := TO) (LA := LA) (RA := RA) (PP := PP) (bk := bk) (ra := ra) (pa := pa) (pb := pb) (db := db) (pr := pr) (rules := rules) hw0 hw1 hh0 hh1 h400 hRA hok h256  C E hR _ 0 SS TO2_37 (by first | assumption | omega | rfl) (fun t h => absurd h (Nat.not_lt_zero _)) (h256) (hB_37) (hgr) (Nat.lt_succ_self _)
