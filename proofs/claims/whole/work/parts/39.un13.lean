
set_option maxRecDepth 100000 in
theorem lk_Unroller_111 : LK R_Unroller 111 y_Unroller_makeWindows := Or.inl (gw (i := 756) rfl rfl)
set_option maxRecDepth 100000 in
theorem lk_Unroller_118 : LK R_Unroller 118 y_Unroller_makeSides := Or.inl (gw (i := 764) rfl rfl)
set_option maxRecDepth 100000 in
theorem lk_Unroller_121 : LK R_Unroller 121 y_Unroller_makeCorners := Or.inl (gw (i := 787) rfl rfl)
set_option maxRecDepth 100000 in
theorem lk_Unroller_124 : LK R_Unroller 124 y_Unroller_makeFiltered := Or.inl (gw (i := 791) rfl rfl)
set_option maxRecDepth 100000 in
theorem lk_Unroller_128 : LK R_Unroller 128 y_Unroller_makeParts := Or.inl (gw (i := 803) rfl rfl)
set_option maxRecDepth 100000 in
theorem lk_Unroller_93 : LK R_Unroller 93 y_Unroller_addRow := Or.inl (gw (i := 732) rfl rfl)
set_option maxRecDepth 100000 in
theorem mw_Unroller_addRow : MW y_Unroller_addRow b_Unroller_addRow 4 none 2 := ⟨(gw (i := 735) rfl rfl), (gw (i := 79) rfl rfl), by decide +kernel⟩
set_option maxRecDepth 100000 in
theorem mw_Unroller_makeCorners : MW y_Unroller_makeCorners b_Unroller_makeCorners 8 none 3 := ⟨(gw (i := 790) rfl rfl), (gw (i := 79) rfl rfl), by decide +kernel⟩
set_option maxRecDepth 100000 in
theorem mw_Unroller_makeFiltered : MW y_Unroller_makeFiltered b_Unroller_makeFiltered 8 none 4 := ⟨(gw (i := 794) rfl rfl), (gw (i := 79) rfl rfl), by decide +kernel⟩
set_option maxRecDepth 100000 in
theorem mw_Unroller_makeParts : MW y_Unroller_makeParts b_Unroller_makeParts 9 none 4 := ⟨(gw (i := 806) rfl rfl), (gw (i := 79) rfl rfl), by decide +kernel⟩
set_option maxRecDepth 100000 in
theorem mw_Unroller_makeSides : MW y_Unroller_makeSides b_Unroller_makeSides 7 none 3 := ⟨(gw (i := 767) rfl rfl), (gw (i := 79) rfl rfl), by decide +kernel⟩
set_option maxRecDepth 100000 in
theorem mw_Unroller_makeWindows : MW y_Unroller_makeWindows b_Unroller_makeWindows 6 none 4 := ⟨(gw (i := 759) rfl rfl), (gw (i := 79) rfl rfl), by decide +kernel⟩
set_option maxRecDepth 100000 in
theorem vw_Unroller_addRow : VW y_Unroller_addRow := ⟨(gw (i := 734) rfl rfl), (gw (i := 20) rfl rfl)⟩
set_option maxRecDepth 100000 in
theorem vw_Unroller_makeCorners : VW y_Unroller_makeCorners := ⟨(gw (i := 789) rfl rfl), (gw (i := 29) rfl rfl)⟩
set_option maxRecDepth 100000 in
theorem vw_Unroller_makeFiltered : VW y_Unroller_makeFiltered := ⟨(gw (i := 793) rfl rfl), (gw (i := 30) rfl rfl)⟩
set_option maxRecDepth 100000 in
theorem vw_Unroller_makeParts : VW y_Unroller_makeParts := ⟨(gw (i := 805) rfl rfl), (gw (i := 33) rfl rfl)⟩
set_option maxRecDepth 100000 in
theorem vw_Unroller_makeSides : VW y_Unroller_makeSides := ⟨(gw (i := 766) rfl rfl), (gw (i := 24) rfl rfl)⟩
set_option maxRecDepth 100000 in
theorem vw_Unroller_makeWindows : VW y_Unroller_makeWindows := ⟨(gw (i := 758) rfl rfl), (gw (i := 22) rfl rfl)⟩
theorem d_Unroller_descend_0 : decode b_Unroller_descend 0 = .ok (.iload_n 1, 1) := by decide +kernel
theorem d_Unroller_descend_1 : decode b_Unroller_descend 1 = .ok (.ifCond .lt 17, 3) := by decide +kernel
theorem d_Unroller_descend_4 : decode b_Unroller_descend 4 = .ok (.iload_n 1, 1) := by decide +kernel
theorem d_Unroller_descend_5 : decode b_Unroller_descend 5 = .ok (.aload_n 0, 1) := by decide +kernel
theorem d_Unroller_descend_6 : decode b_Unroller_descend 6 = .ok (.getfield 87, 3) := by decide +kernel
theorem d_Unroller_descend_9 : decode b_Unroller_descend 9 = .ok (.if_icmp .ge 9, 3) := by decide +kernel
theorem d_Unroller_descend_12 : decode b_Unroller_descend 12 = .ok (.iload_n 1, 1) := by decide +kernel
theorem d_Unroller_descend_13 : decode b_Unroller_descend 13 = .ok (.bipush 40, 2) := by decide +kernel
theorem d_Unroller_descend_15 : decode b_Unroller_descend 15 = .ok (.if_icmp .lt 10, 3) := by decide +kernel
theorem d_Unroller_descend_18 : decode b_Unroller_descend 18 = .ok (.aload_n 0, 1) := by decide +kernel
theorem d_Unroller_descend_19 : decode b_Unroller_descend 19 = .ok (.iload_n 2, 1) := by decide +kernel
theorem d_Unroller_descend_20 : decode b_Unroller_descend 20 = .ok (.iload_n 3, 1) := by decide +kernel
theorem d_Unroller_descend_21 : decode b_Unroller_descend 21 = .ok (.invokevirtual 93, 3) := by decide +kernel
theorem d_Unroller_descend_24 : decode b_Unroller_descend 24 = .ok (.return_, 1) := by decide +kernel
theorem d_Unroller_descend_25 : decode b_Unroller_descend 25 = .ok (.aload_n 0, 1) := by decide +kernel
theorem d_Unroller_descend_26 : decode b_Unroller_descend 26 = .ok (.getfield 17, 3) := by decide +kernel
theorem d_Unroller_descend_29 : decode b_Unroller_descend 29 = .ok (.iload_n 1, 1) := by decide +kernel
theorem d_Unroller_descend_30 : decode b_Unroller_descend 30 = .ok (.aaload, 1) := by decide +kernel
theorem d_Unroller_descend_31 : decode b_Unroller_descend 31 = .ok (.astore 4, 2) := by decide +kernel
theorem d_Unroller_descend_33 : decode b_Unroller_descend 33 = .ok (.aload 4, 2) := by decide +kernel
theorem d_Unroller_descend_35 : decode b_Unroller_descend 35 = .ok (.ifnonnull 7, 3) := by decide +kernel
theorem d_Unroller_descend_38 : decode b_Unroller_descend 38 = .ok (.aconst_null, 1) := by decide +kernel
theorem d_Unroller_descend_39 : decode b_Unroller_descend 39 = .ok (.goto 8, 3) := by decide +kernel
theorem d_Unroller_descend_42 : decode b_Unroller_descend 42 = .ok (.aload 4, 2) := by decide +kernel
theorem d_Unroller_descend_44 : decode b_Unroller_descend 44 = .ok (.getfield 96, 3) := by decide +kernel
theorem d_Unroller_descend_47 : decode b_Unroller_descend 47 = .ok (.astore 5, 2) := by decide +kernel
theorem d_Unroller_descend_49 : decode b_Unroller_descend 49 = .ok (.aload 5, 2) := by decide +kernel
theorem d_Unroller_descend_51 : decode b_Unroller_descend 51 = .ok (.ifnonnull 4, 3) := by decide +kernel
theorem d_Unroller_descend_54 : decode b_Unroller_descend 54 = .ok (.return_, 1) := by decide +kernel
theorem d_Unroller_descend_55 : decode b_Unroller_descend 55 = .ok (.getstatic 100, 3) := by decide +kernel
theorem d_Unroller_descend_58 : decode b_Unroller_descend 58 = .ok (.aload 5, 2) := by decide +kernel
theorem d_Unroller_descend_60 : decode b_Unroller_descend 60 = .ok (.invokevirtual 105, 3) := by decide +kernel
theorem d_Unroller_descend_63 : decode b_Unroller_descend 63 = .ok (.iaload, 1) := by decide +kernel
theorem d_Unroller_descend_64 : decode b_Unroller_descend 64 = .ok (.tableswitch 121 1 9 #[52, 63, 74, 89, 99, 109, 109, 109, 109], 52) := by decide +kernel
theorem d_Unroller_descend_116 : decode b_Unroller_descend 116 = .ok (.aload_n 0, 1) := by decide +kernel
theorem d_Unroller_descend_117 : decode b_Unroller_descend 117 = .ok (.iload_n 1, 1) := by decide +kernel
theorem d_Unroller_descend_118 : decode b_Unroller_descend 118 = .ok (.iload_n 2, 1) := by decide +kernel
theorem d_Unroller_descend_119 : decode b_Unroller_descend 119 = .ok (.iload_n 3, 1) := by decide +kernel
theorem d_Unroller_descend_120 : decode b_Unroller_descend 120 = .ok (.iconst 1, 1) := by decide +kernel
theorem d_Unroller_descend_121 : decode b_Unroller_descend 121 = .ok (.invokevirtual 111, 3) := by decide +kernel
theorem d_Unroller_descend_124 : decode b_Unroller_descend 124 = .ok (.goto 70, 3) := by decide +kernel
theorem d_Unroller_descend_127 : decode b_Unroller_descend 127 = .ok (.aload_n 0, 1) := by decide +kernel
theorem d_Unroller_descend_128 : decode b_Unroller_descend 128 = .ok (.iload_n 1, 1) := by decide +kernel
theorem d_Unroller_descend_129 : decode b_Unroller_descend 129 = .ok (.iload_n 2, 1) := by decide +kernel
theorem d_Unroller_descend_130 : decode b_Unroller_descend 130 = .ok (.iload_n 3, 1) := by decide +kernel
theorem d_Unroller_descend_131 : decode b_Unroller_descend 131 = .ok (.iconst 2, 1) := by decide +kernel
theorem d_Unroller_descend_132 : decode b_Unroller_descend 132 = .ok (.invokevirtual 111, 3) := by decide +kernel
theorem d_Unroller_descend_135 : decode b_Unroller_descend 135 = .ok (.goto 59, 3) := by decide +kernel
theorem d_Unroller_descend_138 : decode b_Unroller_descend 138 = .ok (.aload_n 0, 1) := by decide +kernel
theorem d_Unroller_descend_139 : decode b_Unroller_descend 139 = .ok (.iload_n 1, 1) := by decide +kernel
theorem d_Unroller_descend_140 : decode b_Unroller_descend 140 = .ok (.iload_n 2, 1) := by decide +kernel
theorem d_Unroller_descend_141 : decode b_Unroller_descend 141 = .ok (.iload_n 3, 1) := by decide +kernel
theorem d_Unroller_descend_142 : decode b_Unroller_descend 142 = .ok (.aload 4, 2) := by decide +kernel
theorem d_Unroller_descend_144 : decode b_Unroller_descend 144 = .ok (.getfield 115, 3) := by decide +kernel
theorem d_Unroller_descend_147 : decode b_Unroller_descend 147 = .ok (.invokevirtual 111, 3) := by decide +kernel
theorem d_Unroller_descend_150 : decode b_Unroller_descend 150 = .ok (.goto 44, 3) := by decide +kernel
theorem d_Unroller_descend_153 : decode b_Unroller_descend 153 = .ok (.aload_n 0, 1) := by decide +kernel
theorem d_Unroller_descend_154 : decode b_Unroller_descend 154 = .ok (.iload_n 1, 1) := by decide +kernel
theorem d_Unroller_descend_155 : decode b_Unroller_descend 155 = .ok (.iload_n 2, 1) := by decide +kernel
theorem d_Unroller_descend_156 : decode b_Unroller_descend 156 = .ok (.iload_n 3, 1) := by decide +kernel
theorem d_Unroller_descend_157 : decode b_Unroller_descend 157 = .ok (.invokevirtual 118, 3) := by decide +kernel
theorem d_Unroller_descend_160 : decode b_Unroller_descend 160 = .ok (.goto 34, 3) := by decide +kernel
theorem d_Unroller_descend_163 : decode b_Unroller_descend 163 = .ok (.aload_n 0, 1) := by decide +kernel
theorem d_Unroller_descend_164 : decode b_Unroller_descend 164 = .ok (.iload_n 1, 1) := by decide +kernel
theorem d_Unroller_descend_165 : decode b_Unroller_descend 165 = .ok (.iload_n 2, 1) := by decide +kernel
theorem d_Unroller_descend_166 : decode b_Unroller_descend 166 = .ok (.iload_n 3, 1) := by decide +kernel
theorem d_Unroller_descend_167 : decode b_Unroller_descend 167 = .ok (.invokevirtual 121, 3) := by decide +kernel
theorem d_Unroller_descend_170 : decode b_Unroller_descend 170 = .ok (.goto 24, 3) := by decide +kernel
theorem d_Unroller_descend_173 : decode b_Unroller_descend 173 = .ok (.aload_n 0, 1) := by decide +kernel
theorem d_Unroller_descend_174 : decode b_Unroller_descend 174 = .ok (.iload_n 1, 1) := by decide +kernel
theorem d_Unroller_descend_175 : decode b_Unroller_descend 175 = .ok (.iload_n 2, 1) := by decide +kernel
theorem d_Unroller_descend_176 : decode b_Unroller_descend 176 = .ok (.iload_n 3, 1) := by decide +kernel
theorem d_Unroller_descend_177 : decode b_Unroller_descend 177 = .ok (.aload 5, 2) := by decide +kernel
theorem d_Unroller_descend_179 : decode b_Unroller_descend 179 = .ok (.invokevirtual 124, 3) := by decide +kernel
theorem d_Unroller_descend_182 : decode b_Unroller_descend 182 = .ok (.goto 12, 3) := by decide +kernel
theorem d_Unroller_descend_185 : decode b_Unroller_descend 185 = .ok (.aload_n 0, 1) := by decide +kernel
theorem d_Unroller_descend_186 : decode b_Unroller_descend 186 = .ok (.iload_n 1, 1) := by decide +kernel
theorem d_Unroller_descend_187 : decode b_Unroller_descend 187 = .ok (.iload_n 2, 1) := by decide +kernel
theorem d_Unroller_descend_188 : decode b_Unroller_descend 188 = .ok (.iload_n 3, 1) := by decide +kernel
theorem d_Unroller_descend_189 : decode b_Unroller_descend 189 = .ok (.aload 4, 2) := by decide +kernel
theorem d_Unroller_descend_191 : decode b_Unroller_descend 191 = .ok (.invokevirtual 128, 3) := by decide +kernel
theorem d_Unroller_descend_194 : decode b_Unroller_descend 194 = .ok (.return_, 1) := by decide +kernel
set_option maxHeartbeats 4000000 in
set_option maxRecDepth 100000 in
theorem o_Unroller_descend (g : GG) (l : Launch) {u : Nat} {s : Nat} {ss : Nat} {la : Nat} {ke : Nat} {lc : Nat} {uw : Nat} {uh : Nat} {ri : Nat} {mi : Int32} {tm : Bool} {lev : Nat} {d : Nat} {ru : Nat} {sa : Nat} {ps : Nat} {to : Nat} {gs : Nat} {rc : Nat} {pn : Nat} {RU : Nat → Nat} {SA : Nat → Nat} {PL : Nat → Nat} {SS : Nat → Nat} {KE : Nat → Nat} {TO : Nat → Bool} {LA : Nat → Option Nat} {PP : va_W} {acc : Acc} {lr : List LayerV} {j : Nat} {z : Nat} (h_makeWindows : ∀ e, d = e + 1 → K_makeWindows g l e) (h_makeSides : ∀ e, d = e + 1 → K_makeSides g l e) (h_makeCorners : ∀ e, d = e + 1 → K_makeCorners g l e) (h_makeFiltered : ∀ e, d = e + 1 → K_makeFiltered g l e) (h_makeParts : ∀ e, d = e + 1 → K_makeParts g l e) (hw0 : 0 < uw) (hw1 : uw ≤ 16) (hh0 : 0 < uh) (hh1 : uh ≤ 16) (hri : ri < 2 ^ 31) (hlc : lc ≤ 40) (hd : lr.length = d) (hok : ∀ l ∈ lr, LyOK l) (hU : UAt acc tm mi RU SA PL TO rc pn) (h256 : ∀ i, SS i < 256) (hlv : lev + d = lc) (hla : LayF g PP LA lev lr) (hz : z ≤ 256) (hjz : j + z ≤ (lev + 1) * 256) (hset : SetOK uw uh (segL SS j z)) (htm : tm = false) : Cn g l y_Unroller_descend b_Unroller_descend 6 none (rmk (12 + 4 * d + 0) 0 0 (260 + 100 * d + 0)) [.ref u, .int (nI lev), .int (nI j), .int (nI z)] ([(u, .inr (8, [.ref s, .ref ss, .ref la, .ref ke, .int (nI lc), .int (nI uw), .int (nI uh), .int (nI ri), .int mi, .int (bI tm)])), (ss, .inl (g.2.1 0, 10496, .inl (aI SS))), (la, .inl (g.2.1 4, 40, .inr (.inr (.inr (.inr LA))))), (ke, .inl (g.2.1 0, 256, .inl (aI KE))), (s, .inr (7, [.ref ru, .ref sa, .ref ps, .ref to, .int (nI gs), .int (nI rc), .int (nI pn)])), (ru, .inl (g.2.1 0, 4000, .inl (aI RU))), (sa, .inl (g.2.1 0, 4001, .inl (aI SA))), (ps, .inl (g.2.1 0, 30000, .inl (aI PL))), (to, .inl (g.2.1 2, 256, .inl (zI TO)))] ++ PP) (fun (r0 : Option Value) (w0 : va_W) => ∃ mi2 : Int32, ∃ tm2 : Bool, ∃ rc2 : Nat, ∃ pn2 : Nat, ∃ RU2 : Nat → Nat, ∃ SA2 : Nat → Nat, ∃ PL2 : Nat → Nat, ∃ SS2 : Nat → Nat, ∃ KE2 : Nat → Nat, ∃ TO2 : Nat → Bool, r0 = none ∧ w0 = [(u, .inr (8, [.ref s, .ref ss, .ref la, .ref ke, .int (nI lc), .int (nI uw), .int (nI uh), .int (nI ri), .int mi2, .int (bI tm2)])), (ss, .inl (g.2.1 0, 10496, .inl (aI SS2))), (la, .inl (g.2.1 4, 40, .inr (.inr (.inr (.inr LA))))), (ke, .inl (g.2.1 0, 256, .inl (aI KE2))), (s, .inr (7, [.ref ru, .ref sa, .ref ps, .ref to, .int (nI gs), .int (nI rc2), .int (nI pn2)])), (ru, .inl (g.2.1 0, 4000, .inl (aI RU2))), (sa, .inl (g.2.1 0, 4001, .inl (aI SA2))), (ps, .inl (g.2.1 0, 30000, .inl (aI PL2))), (to, .inl (g.2.1 2, 256, .inl (zI TO2)))] ++ PP ∧ (UAt (lim ri (unr uw uh lr (segL SS j z)) acc) tm2 mi2 RU2 SA2 PL2 TO2 rc2 pn2) ∧ (∀ i, i < (lev + 1) * 256 → SS2 i = SS i) ∧ (∀ i, SS2 i < 256)) := by
  refine Cn.of R_Unroller [(0, .ref u), (1, .int (nI lev)), (2, .int (nI j)), (3, .int (nI z))] (by decide) rfl (Nat.le_of_ble_eq_true rfl) rfl ?_
  intro x A Q hR hXl hin C E
  subst hXl
  refine r_iload_n C 1 d_Unroller_descend_0 rfl rfl ?_
  refine r_nif_lt C 18 d_Unroller_descend_1 (by decide) (by omega) (fun c_1 => ?_) (fun c_1 => ?_)
  · exact absurd c_1 (by omega)
  · skip
    refine r_iload_n C 1 d_Unroller_descend_4 rfl rfl ?_
    refine r_aload_n C 0 d_Unroller_descend_5 rfl rfl ?_
    refine r_get C 0 4 d_Unroller_descend_6 ci_Unroller fi_Unroller_87 rfl (by decide) rfl rfl ?_
    refine r_ncmp_ge C 18 d_Unroller_descend_9 (by decide) (by omega) (by omega) (fun c_9 => ?_) (fun c_9 => ?_)
    · skip
      obtain ⟨hb1, hb2⟩ := UAt_bd hU htm
      have hnil : lr = [] := List.eq_nil_of_length_eq_zero (by omega)
      have hjm : (lev + 1) * 256 ≤ 41 * 256 := Nat.mul_le_mul_right 256 (by omega)
      refine r_aload_n C 0 d_Unroller_descend_18 rfl rfl ?_
      refine r_iload_n C 2 d_Unroller_descend_19 rfl rfl ?_
      refine r_iload_n C 3 d_Unroller_descend_20 rfl rfl ?_
      refine j_callV C (c_Unroller_addRow g (xl x) (u := u) (s := s) (ss := ss) (la := la) (ke := ke) (lc := lc) (uw := uw) (uh := uh) (ri := ri) (mi := mi) (tm := tm) (ru := ru) (sa := sa) (ps := ps) (to := to) (gs := gs) (rc := rc) (pn := pn) (RU := RU) (SA := SA) (PL := PL) (TO := TO) (j := j) (z := z) (SS := SS) (by first | assumption | omega | rfl) (by first | assumption | omega | rfl) (by first | assumption | omega | rfl) (by first | assumption | omega | rfl) (by omega) (fun i _ => h256 _)) (Sp.keep (Sp.of (wr := [(la, .inl (g.2.1 4, 40, .inr (.inr (.inr (.inr LA))))), (ke, .inl (g.2.1 0, 256, .inl (aI KE)))]) [0, 1, 4, 5, 6, 7, 8] [2, 3] rfl rfl rfl rfl (by decide)) PP) d_Unroller_descend_21 lk_Unroller_93 mw_Unroller_addRow vw_Unroller_addRow (q0 := 0) rfl rfl (fit_of hR (by first | decide | (simp only [rmk]; omega)) (by first | decide | (simp only [rmk]; omega)) (by first | decide | (simp only [rmk]; omega)) (by first | decide | (simp only [rmk]; omega))) rfl (cat8 (Nat.le_of_ble_eq_true rfl)) (As := [.int (nI j), .int (nI z)]) (rest := []) rfl (fun r_21 w_21 hp_21 => ?_)
      obtain ⟨tm2_21, rc2_21, pn2_21, RU2_21, SA2_21, PL2_21, TO2_21, rfl, rfl, har_21⟩ := hp_21
      refine r_swap ?_
      refine r_afterP (X := [(la, .inl (g.2.1 4, 40, .inr (.inr (.inr (.inr LA))))), (ke, .inl (g.2.1 0, 256, .inl (aI KE))), (u, .inr (8, [.ref s, .ref ss, .ref la, .ref ke, .int (nI lc), .int (nI uw), .int (nI uh), .int (nI ri), .int mi, .int (bI tm2_21)])), (ss, .inl (g.2.1 0, 10496, .inl (aI SS))), (s, .inr (7, [.ref ru, .ref sa, .ref ps, .ref to, .int (nI gs), .int (nI rc2_21), .int (nI pn2_21)])), (ru, .inl (g.2.1 0, 4000, .inl (aI RU2_21))), (sa, .inl (g.2.1 0, 4001, .inl (aI SA2_21))), (ps, .inl (g.2.1 0, 30000, .inl (aI PL2_21))), (to, .inl (g.2.1 2, 256, .inl (zI TO2_21)))]) (X' := [(u, .inr (8, [.ref s, .ref ss, .ref la, .ref ke, .int (nI lc), .int (nI uw), .int (nI uh), .int (nI ri), .int mi, .int (bI tm2_21)])), (ss, .inl (g.2.1 0, 10496, .inl (aI SS))), (la, .inl (g.2.1 4, 40, .inr (.inr (.inr (.inr LA))))), (ke, .inl (g.2.1 0, 256, .inl (aI KE))), (s, .inr (7, [.ref ru, .ref sa, .ref ps, .ref to, .int (nI gs), .int (nI rc2_21), .int (nI pn2_21)])), (ru, .inl (g.2.1 0, 4000, .inl (aI RU2_21))), (sa, .inl (g.2.1 0, 4001, .inl (aI SA2_21))), (ps, .inl (g.2.1 0, 30000, .inl (aI PL2_21))), (to, .inl (g.2.1 2, 256, .inl (zI TO2_21)))]) (pl := PP) (st' := []) (n1 := 0) (n2 := 0) [2, 3, 0, 1, 4, 5, 6, 7, 8] rfl rfl rfl rfl rfl rfl ?_
      refine r_vret C E d_Unroller_descend_24 (by first | decide | omega | (simp only [rmk]; omega)) (by first | decide | omega | (simp only [rmk]; omega)) ?_
      subst hnil
      exact ⟨_, _, _, _, _, _, _, _, _, _, rfl, rfl, u_row hU htm har_21, fun _ _ => rfl, h256⟩
    · skip
      refine r_iload_n C 1 d_Unroller_descend_12 rfl rfl ?_
      refine r_bipush C (nI 40) d_Unroller_descend_13 (by decide) ?_
      refine r_ncmp_lt C 25 d_Unroller_descend_15 (by decide) (by omega) (by omega) (fun c_15 => ?_) (fun c_15 => ?_)
      · skip
        obtain ⟨⟨w, f, s2⟩, lr1, rfl⟩ := List.exists_cons_of_length_pos (show 0 < lr.length by omega)
        obtain ⟨e, rfl⟩ : ∃ e, d = e + 1 := ⟨d - 1, by omega⟩
        have hd1 : lr1.length = e := Nat.succ.inj hd
        obtain ⟨y, ou, lev0, hya, hmem, hw23⟩ := LayF_hd hla
        have hok1 : LyOK (w, f, s2) := hok _ List.mem_cons_self
        have hok2 : ∀ l ∈ lr1, LyOK l := fun l h => hok l (List.mem_cons_of_mem _ h)
        have hla2 := LayF_tl hla
        have hwr : 2 ≤ w ∧ w ≤ 15 := hok1.1
        have hmem : (y, .inr (3, [.ref (g.2.2.1 w), .int (oI f), .int (oI s2), va_rf ou, .int (nI lev0)])) ∈ PP := hmem
        refine r_aload_n C 0 d_Unroller_descend_25 rfl rfl ?_
        refine r_get C 0 2 d_Unroller_descend_26 ci_Unroller fi_Unroller_17 rfl (by decide) rfl rfl ?_
        refine r_iload_n C 1 d_Unroller_descend_29 rfl rfl ?_
        refine r_aald C 2 4 d_Unroller_descend_30 rfl rfl (by omega) (by decide) ?_
        refine r_eqS (st' := [.ref y]) (by rw [hya]; rfl) ?_
        refine r_astore C (lv' := [(4, .ref y), (0, .ref u), (1, .int (nI lev)), (2, .int (nI j)), (3, .int (nI z))]) d_Unroller_descend_31 (by decide) rfl ?_
        refine r_aload C 0 d_Unroller_descend_33 rfl ?_
        refine r_ifnonnull C 42 d_Unroller_descend_35 (by decide) ?_
        refine r_aload C 0 d_Unroller_descend_42 rfl ?_
        refine r_getM C 0 d_Unroller_descend_44 ci_Layer fi_Unroller_96 rfl (by decide) (List.mem_append_right _ hmem) rfl ?_
        refine r_astore C (lv' := [(5, .ref (g.2.2.1 w)), (4, .ref y), (0, .ref u), (1, .int (nI lev)), (2, .int (nI j)), (3, .int (nI z))]) d_Unroller_descend_47 (by decide) rfl ?_
        refine r_aload C 0 d_Unroller_descend_49 rfl ?_
        refine r_ifnonnull C 55 d_Unroller_descend_51 (by decide) ?_
        rcases (show w = 2 ∨ w = 3 ∨ w = 4 ∨ w = 5 ∨ w = 6 ∨ w = 7 ∨ w = 8 ∨ w = 9 ∨ w = 10 ∨ w = 11 ∨ w = 12 ∨ w = 13 ∨ w = 14 ∨ w = 15 by omega) with rfl | rfl | rfl | rfl | rfl | rfl | rfl | rfl | rfl | rfl | rfl | rfl | rfl | rfl
        · skip
          obtain ⟨tW, hZW, hTW⟩ := C.2.2.2.2.2.2.2.1.2.2.2.2.1
          refine r_gets C d_Unroller_descend_55 hZW fs_Unroller_100 ?_
          refine r_aload C 0 d_Unroller_descend_58 rfl ?_
          refine j_ord C (u := 2) (by first | decide | omega) d_Unroller_descend_60 (fit_of hR (by first | decide | (simp only [rmk]; omega)) (by first | decide | (simp only [rmk]; omega)) (by first | decide | (simp only [rmk]; omega)) (by first | decide | (simp only [rmk]; omega))) (cat8 (Nat.le_of_ble_eq_true rfl)) ?_
          refine r_ti C d_Unroller_descend_63 hTW (by first | decide | omega) (by decide) ?_
          refine r_eqS (st' := [.int (wSw.getD 2 0)]) rfl ?_
          refine r_tableOut C 185 d_Unroller_descend_64 (by decide) (by decide) ?_
          refine r_aload_n C 2 d_Unroller_descend_185 rfl rfl ?_
          refine r_iload_n C 3 d_Unroller_descend_186 rfl rfl ?_
          refine r_iload_n C 4 d_Unroller_descend_187 rfl rfl ?_
          refine r_iload_n C 5 d_Unroller_descend_188 rfl rfl ?_
          refine r_aload C 1 d_Unroller_descend_189 rfl ?_
          refine j_callV C (ap_makeParts (h_makeParts e rfl) (u := u) (s := s) (ss := ss) (la := la) (ke := ke) (lc := lc) (uw := uw) (uh := uh) (ri := ri) (mi := mi) (tm := tm) (lev := lev) (ru := ru) (sa := sa) (ps := ps) (to := to) (gs := gs) (rc := rc) (pn := pn) (RU := RU) (SA := SA) (PL := PL) (SS := SS) (KE := KE) (TO := TO) (LA := LA) (PP := PP) (acc := acc) (lr := lr1) (j := j) (z := z) (y := y) (w := 2) (lev0 := lev0) (f := f) (s2 := s2) (ou := ou) (by first | assumption | omega | rfl) (by first | assumption | omega | rfl) (by first | assumption | omega | rfl) (by first | assumption | omega | rfl) (by first | assumption | omega | rfl) (by first | assumption | omega | rfl) (hd1) (hok2) (hU) (h256) (by omega) (hla2) (by first | assumption | omega | rfl) (hjz) (hset) (hmem) (by first | assumption | omega | rfl) (hok1.2.1)) (Sp.pool (Sp.of (wr := []) [0, 1, 2, 3, 4, 5, 6, 7, 8] [] rfl rfl rfl rfl (by decide)) PP) d_Unroller_descend_191 lk_Unroller_128 mw_Unroller_makeParts vw_Unroller_makeParts (q0 := 0) rfl rfl (fit_of hR (by first | decide | (simp only [rmk]; omega)) (by first | decide | (simp only [rmk]; omega)) (by first | decide | (simp only [rmk]; omega)) (by first | decide | (simp only [rmk]; omega))) rfl (cat8 (Nat.le_of_ble_eq_true rfl)) (As := [.int (nI lev), .int (nI j), .int (nI z), .ref y]) (rest := []) rfl (fun r_191 w_191 hp_191 => ?_)
          obtain ⟨mi2_191, tm2_191, rc2_191, pn2_191, RU2_191, SA2_191, PL2_191, SS2_191, KE2_191, TO2_191, rfl, rfl, hU2_191, hfr_191, h2562_191⟩ := hp_191
          refine r_afterP (X := [(u, .inr (8, [.ref s, .ref ss, .ref la, .ref ke, .int (nI lc), .int (nI uw), .int (nI uh), .int (nI ri), .int mi2_191, .int (bI tm2_191)])), (ss, .inl (g.2.1 0, 10496, .inl (aI SS2_191))), (la, .inl (g.2.1 4, 40, .inr (.inr (.inr (.inr LA))))), (ke, .inl (g.2.1 0, 256, .inl (aI KE2_191))), (s, .inr (7, [.ref ru, .ref sa, .ref ps, .ref to, .int (nI gs), .int (nI rc2_191), .int (nI pn2_191)])), (ru, .inl (g.2.1 0, 4000, .inl (aI RU2_191))), (sa, .inl (g.2.1 0, 4001, .inl (aI SA2_191))), (ps, .inl (g.2.1 0, 30000, .inl (aI PL2_191))), (to, .inl (g.2.1 2, 256, .inl (zI TO2_191)))]) (X' := [(u, .inr (8, [.ref s, .ref ss, .ref la, .ref ke, .int (nI lc), .int (nI uw), .int (nI uh), .int (nI ri), .int mi2_191, .int (bI tm2_191)])), (ss, .inl (g.2.1 0, 10496, .inl (aI SS2_191))), (la, .inl (g.2.1 4, 40, .inr (.inr (.inr (.inr LA))))), (ke, .inl (g.2.1 0, 256, .inl (aI KE2_191))), (s, .inr (7, [.ref ru, .ref sa, .ref ps, .ref to, .int (nI gs), .int (nI rc2_191), .int (nI pn2_191)])), (ru, .inl (g.2.1 0, 4000, .inl (aI RU2_191))), (sa, .inl (g.2.1 0, 4001, .inl (aI SA2_191))), (ps, .inl (g.2.1 0, 30000, .inl (aI PL2_191))), (to, .inl (g.2.1 2, 256, .inl (zI TO2_191)))]) (pl := PP) (st' := []) (n1 := 0) (n2 := 0) [0, 1, 2, 3, 4, 5, 6, 7, 8] rfl rfl rfl rfl rfl rfl ?_
          refine r_vret C E d_Unroller_descend_194 (by first | decide | omega | (simp only [rmk]; omega)) (by first | decide | omega | (simp only [rmk]; omega)) ?_
          exact ⟨_, _, _, _, _, _, _, _, _, _, rfl, rfl, by rw [show unr uw uh ((2, f, s2) :: lr1) (segL SS j z) = unrs (unr uw uh lr1) (partL (keyN uw 2 f s2) (segL SS j z)) from rfl]; exact hU2_191, hfr_191, h2562_191⟩
        · skip
          obtain ⟨tW, hZW, hTW⟩ := C.2.2.2.2.2.2.2.1.2.2.2.2.1
          refine r_gets C d_Unroller_descend_55 hZW fs_Unroller_100 ?_
          refine r_aload C 0 d_Unroller_descend_58 rfl ?_
          refine j_ord C (u := 3) (by first | decide | omega) d_Unroller_descend_60 (fit_of hR (by first | decide | (simp only [rmk]; omega)) (by first | decide | (simp only [rmk]; omega)) (by first | decide | (simp only [rmk]; omega)) (by first | decide | (simp only [rmk]; omega))) (cat8 (Nat.le_of_ble_eq_true rfl)) ?_
          refine r_ti C d_Unroller_descend_63 hTW (by first | decide | omega) (by decide) ?_
          refine r_eqS (st' := [.int (wSw.getD 3 0)]) rfl ?_
          refine r_tableOut C 185 d_Unroller_descend_64 (by decide) (by decide) ?_
          refine r_aload_n C 2 d_Unroller_descend_185 rfl rfl ?_
          refine r_iload_n C 3 d_Unroller_descend_186 rfl rfl ?_
          refine r_iload_n C 4 d_Unroller_descend_187 rfl rfl ?_
          refine r_iload_n C 5 d_Unroller_descend_188 rfl rfl ?_
          refine r_aload C 1 d_Unroller_descend_189 rfl ?_
          refine j_callV C (ap_makeParts (h_makeParts e rfl) (u := u) (s := s) (ss := ss) (la := la) (ke := ke) (lc := lc) (uw := uw) (uh := uh) (ri := ri) (mi := mi) (tm := tm) (lev := lev) (ru := ru) (sa := sa) (ps := ps) (to := to) (gs := gs) (rc := rc) (pn := pn) (RU := RU) (SA := SA) (PL := PL) (SS := SS) (KE := KE) (TO := TO) (LA := LA) (PP := PP) (acc := acc) (lr := lr1) (j := j) (z := z) (y := y) (w := 3) (lev0 := lev0) (f := f) (s2 := s2) (ou := ou) (by first | assumption | omega | rfl) (by first | assumption | omega | rfl) (by first | assumption | omega | rfl) (by first | assumption | omega | rfl) (by first | assumption | omega | rfl) (by first | assumption | omega | rfl) (hd1) (hok2) (hU) (h256) (by omega) (hla2) (by first | assumption | omega | rfl) (hjz) (hset) (hmem) (by first | assumption | omega | rfl) (hok1.2.1)) (Sp.pool (Sp.of (wr := []) [0, 1, 2, 3, 4, 5, 6, 7, 8] [] rfl rfl rfl rfl (by decide)) PP) d_Unroller_descend_191 lk_Unroller_128 mw_Unroller_makeParts vw_Unroller_makeParts (q0 := 0) rfl rfl (fit_of hR (by first | decide | (simp only [rmk]; omega)) (by first | decide | (simp only [rmk]; omega)) (by first | decide | (simp only [rmk]; omega)) (by first | decide | (simp only [rmk]; omega))) rfl (cat8 (Nat.le_of_ble_eq_true rfl)) (As := [.int (nI lev), .int (nI j), .int (nI z), .ref y]) (rest := []) rfl (fun r_191 w_191 hp_191 => ?_)
          obtain ⟨mi2_191, tm2_191, rc2_191, pn2_191, RU2_191, SA2_191, PL2_191, SS2_191, KE2_191, TO2_191, rfl, rfl, hU2_191, hfr_191, h2562_191⟩ := hp_191
          refine r_afterP (X := [(u, .inr (8, [.ref s, .ref ss, .ref la, .ref ke, .int (nI lc), .int (nI uw), .int (nI uh), .int (nI ri), .int mi2_191, .int (bI tm2_191)])), (ss, .inl (g.2.1 0, 10496, .inl (aI SS2_191))), (la, .inl (g.2.1 4, 40, .inr (.inr (.inr (.inr LA))))), (ke, .inl (g.2.1 0, 256, .inl (aI KE2_191))), (s, .inr (7, [.ref ru, .ref sa, .ref ps, .ref to, .int (nI gs), .int (nI rc2_191), .int (nI pn2_191)])), (ru, .inl (g.2.1 0, 4000, .inl (aI RU2_191))), (sa, .inl (g.2.1 0, 4001, .inl (aI SA2_191))), (ps, .inl (g.2.1 0, 30000, .inl (aI PL2_191))), (to, .inl (g.2.1 2, 256, .inl (zI TO2_191)))]) (X' := [(u, .inr (8, [.ref s, .ref ss, .ref la, .ref ke, .int (nI lc), .int (nI uw), .int (nI uh), .int (nI ri), .int mi2_191, .int (bI tm2_191)])), (ss, .inl (g.2.1 0, 10496, .inl (aI SS2_191))), (la, .inl (g.2.1 4, 40, .inr (.inr (.inr (.inr LA))))), (ke, .inl (g.2.1 0, 256, .inl (aI KE2_191))), (s, .inr (7, [.ref ru, .ref sa, .ref ps, .ref to, .int (nI gs), .int (nI rc2_191), .int (nI pn2_191)])), (ru, .inl (g.2.1 0, 4000, .inl (aI RU2_191))), (sa, .inl (g.2.1 0, 4001, .inl (aI SA2_191))), (ps, .inl (g.2.1 0, 30000, .inl (aI PL2_191))), (to, .inl (g.2.1 2, 256, .inl (zI TO2_191)))]) (pl := PP) (st' := []) (n1 := 0) (n2 := 0) [0, 1, 2, 3, 4, 5, 6, 7, 8] rfl rfl rfl rfl rfl rfl ?_
          refine r_vret C E d_Unroller_descend_194 (by first | decide | omega | (simp only [rmk]; omega)) (by first | decide | omega | (simp only [rmk]; omega)) ?_
          exact ⟨_, _, _, _, _, _, _, _, _, _, rfl, rfl, by rw [show unr uw uh ((3, f, s2) :: lr1) (segL SS j z) = unrs (unr uw uh lr1) (partL (keyN uw 3 f s2) (segL SS j z)) from rfl]; exact hU2_191, hfr_191, h2562_191⟩
        · skip
          obtain ⟨tW, hZW, hTW⟩ := C.2.2.2.2.2.2.2.1.2.2.2.2.1
          refine r_gets C d_Unroller_descend_55 hZW fs_Unroller_100 ?_
          refine r_aload C 0 d_Unroller_descend_58 rfl ?_
          refine j_ord C (u := 4) (by first | decide | omega) d_Unroller_descend_60 (fit_of hR (by first | decide | (simp only [rmk]; omega)) (by first | decide | (simp only [rmk]; omega)) (by first | decide | (simp only [rmk]; omega)) (by first | decide | (simp only [rmk]; omega))) (cat8 (Nat.le_of_ble_eq_true rfl)) ?_
          refine r_ti C d_Unroller_descend_63 hTW (by first | decide | omega) (by decide) ?_
          refine r_eqS (st' := [.int (wSw.getD 4 0)]) rfl ?_
          refine r_tableOut C 185 d_Unroller_descend_64 (by decide) (by decide) ?_
          refine r_aload_n C 2 d_Unroller_descend_185 rfl rfl ?_
          refine r_iload_n C 3 d_Unroller_descend_186 rfl rfl ?_
          refine r_iload_n C 4 d_Unroller_descend_187 rfl rfl ?_
          refine r_iload_n C 5 d_Unroller_descend_188 rfl rfl ?_
          refine r_aload C 1 d_Unroller_descend_189 rfl ?_
          refine j_callV C (ap_makeParts (h_makeParts e rfl) (u := u) (s := s) (ss := ss) (la := la) (ke := ke) (lc := lc) (uw := uw) (uh := uh) (ri := ri) (mi := mi) (tm := tm) (lev := lev) (ru := ru) (sa := sa) (ps := ps) (to := to) (gs := gs) (rc := rc) (pn := pn) (RU := RU) (SA := SA) (PL := PL) (SS := SS) (KE := KE) (TO := TO) (LA := LA) (PP := PP) (acc := acc) (lr := lr1) (j := j) (z := z) (y := y) (w := 4) (lev0 := lev0) (f := f) (s2 := s2) (ou := ou) (by first | assumption | omega | rfl) (by first | assumption | omega | rfl) (by first | assumption | omega | rfl) (by first | assumption | omega | rfl) (by first | assumption | omega | rfl) (by first | assumption | omega | rfl) (hd1) (hok2) (hU) (h256) (by omega) (hla2) (by first | assumption | omega | rfl) (hjz) (hset) (hmem) (by first | assumption | omega | rfl) (hok1.2.1)) (Sp.pool (Sp.of (wr := []) [0, 1, 2, 3, 4, 5, 6, 7, 8] [] rfl rfl rfl rfl (by decide)) PP) d_Unroller_descend_191 lk_Unroller_128 mw_Unroller_makeParts vw_Unroller_makeParts (q0 := 0) rfl rfl (fit_of hR (by first | decide | (simp only [rmk]; omega)) (by first | decide | (simp only [rmk]; omega)) (by first | decide | (simp only [rmk]; omega)) (by first | decide | (simp only [rmk]; omega))) rfl (cat8 (Nat.le_of_ble_eq_true rfl)) (As := [.int (nI lev), .int (nI j), .int (nI z), .ref y]) (rest := []) rfl (fun r_191 w_191 hp_191 => ?_)
          obtain ⟨mi2_191, tm2_191, rc2_191, pn2_191, RU2_191, SA2_191, PL2_191, SS2_191, KE2_191, TO2_191, rfl, rfl, hU2_191, hfr_191, h2562_191⟩ := hp_191
          refine r_afterP (X := [(u, .inr (8, [.ref s, .ref ss, .ref la, .ref ke, .int (nI lc), .int (nI uw), .int (nI uh), .int (nI ri), .int mi2_191, .int (bI tm2_191)])), (ss, .inl (g.2.1 0, 10496, .inl (aI SS2_191))), (la, .inl (g.2.1 4, 40, .inr (.inr (.inr (.inr LA))))), (ke, .inl (g.2.1 0, 256, .inl (aI KE2_191))), (s, .inr (7, [.ref ru, .ref sa, .ref ps, .ref to, .int (nI gs), .int (nI rc2_191), .int (nI pn2_191)])), (ru, .inl (g.2.1 0, 4000, .inl (aI RU2_191))), (sa, .inl (g.2.1 0, 4001, .inl (aI SA2_191))), (ps, .inl (g.2.1 0, 30000, .inl (aI PL2_191))), (to, .inl (g.2.1 2, 256, .inl (zI TO2_191)))]) (X' := [(u, .inr (8, [.ref s, .ref ss, .ref la, .ref ke, .int (nI lc), .int (nI uw), .int (nI uh), .int (nI ri), .int mi2_191, .int (bI tm2_191)])), (ss, .inl (g.2.1 0, 10496, .inl (aI SS2_191))), (la, .inl (g.2.1 4, 40, .inr (.inr (.inr (.inr LA))))), (ke, .inl (g.2.1 0, 256, .inl (aI KE2_191))), (s, .inr (7, [.ref ru, .ref sa, .ref ps, .ref to, .int (nI gs), .int (nI rc2_191), .int (nI pn2_191)])), (ru, .inl (g.2.1 0, 4000, .inl (aI RU2_191))), (sa, .inl (g.2.1 0, 4001, .inl (aI SA2_191))), (ps, .inl (g.2.1 0, 30000, .inl (aI PL2_191))), (to, .inl (g.2.1 2, 256, .inl (zI TO2_191)))]) (pl := PP) (st' := []) (n1 := 0) (n2 := 0) [0, 1, 2, 3, 4, 5, 6, 7, 8] rfl rfl rfl rfl rfl rfl ?_
          refine r_vret C E d_Unroller_descend_194 (by first | decide | omega | (simp only [rmk]; omega)) (by first | decide | omega | (simp only [rmk]; omega)) ?_
          exact ⟨_, _, _, _, _, _, _, _, _, _, rfl, rfl, by rw [show unr uw uh ((4, f, s2) :: lr1) (segL SS j z) = unrs (unr uw uh lr1) (partL (keyN uw 4 f s2) (segL SS j z)) from rfl]; exact hU2_191, hfr_191, h2562_191⟩
        · skip
          obtain ⟨tW, hZW, hTW⟩ := C.2.2.2.2.2.2.2.1.2.2.2.2.1
          refine r_gets C d_Unroller_descend_55 hZW fs_Unroller_100 ?_
          refine r_aload C 0 d_Unroller_descend_58 rfl ?_
          refine j_ord C (u := 5) (by first | decide | omega) d_Unroller_descend_60 (fit_of hR (by first | decide | (simp only [rmk]; omega)) (by first | decide | (simp only [rmk]; omega)) (by first | decide | (simp only [rmk]; omega)) (by first | decide | (simp only [rmk]; omega))) (cat8 (Nat.le_of_ble_eq_true rfl)) ?_
          refine r_ti C d_Unroller_descend_63 hTW (by first | decide | omega) (by decide) ?_
          refine r_eqS (st' := [.int (wSw.getD 5 0)]) rfl ?_
          refine r_tableIn C 116 d_Unroller_descend_64 (by decide) (by decide) rfl (by decide) ?_
          refine r_aload_n C 2 d_Unroller_descend_116 rfl rfl ?_
          refine r_iload_n C 3 d_Unroller_descend_117 rfl rfl ?_
          refine r_iload_n C 4 d_Unroller_descend_118 rfl rfl ?_
          refine r_iload_n C 5 d_Unroller_descend_119 rfl rfl ?_
          refine r_iconst C (nI 1) d_Unroller_descend_120 (by decide) ?_
          refine j_callV C (ap_makeWindows (h_makeWindows e rfl) (u := u) (s := s) (ss := ss) (la := la) (ke := ke) (lc := lc) (uw := uw) (uh := uh) (ri := ri) (mi := mi) (tm := tm) (lev := lev) (ru := ru) (sa := sa) (ps := ps) (to := to) (gs := gs) (rc := rc) (pn := pn) (RU := RU) (SA := SA) (PL := PL) (SS := SS) (KE := KE) (TO := TO) (LA := LA) (PP := PP) (acc := acc) (lr := lr1) (j := j) (z := z) (len := 1) (by first | assumption | omega | rfl) (by first | assumption | omega | rfl) (by first | assumption | omega | rfl) (by first | assumption | omega | rfl) (by first | assumption | omega | rfl) (by first | assumption | omega | rfl) (hd1) (hok2) (hU) (h256) (by omega) (hla2) (by first | assumption | omega | rfl) (hjz) (hset) (by first | assumption | omega | rfl) (by first | assumption | omega | rfl)) (Sp.pool (Sp.of (wr := []) [0, 1, 2, 3, 4, 5, 6, 7, 8] [] rfl rfl rfl rfl (by decide)) PP) d_Unroller_descend_121 lk_Unroller_111 mw_Unroller_makeWindows vw_Unroller_makeWindows (q0 := 0) rfl rfl (fit_of hR (by first | decide | (simp only [rmk]; omega)) (by first | decide | (simp only [rmk]; omega)) (by first | decide | (simp only [rmk]; omega)) (by first | decide | (simp only [rmk]; omega))) rfl (cat8 (Nat.le_of_ble_eq_true rfl)) (As := [.int (nI lev), .int (nI j), .int (nI z), .int (nI 1)]) (rest := []) rfl (fun r_121 w_121 hp_121 => ?_)
          obtain ⟨mi2_121, tm2_121, rc2_121, pn2_121, RU2_121, SA2_121, PL2_121, SS2_121, KE2_121, TO2_121, rfl, rfl, hU2_121, hfr_121, h2562_121⟩ := hp_121
          refine r_afterP (X := [(u, .inr (8, [.ref s, .ref ss, .ref la, .ref ke, .int (nI lc), .int (nI uw), .int (nI uh), .int (nI ri), .int mi2_121, .int (bI tm2_121)])), (ss, .inl (g.2.1 0, 10496, .inl (aI SS2_121))), (la, .inl (g.2.1 4, 40, .inr (.inr (.inr (.inr LA))))), (ke, .inl (g.2.1 0, 256, .inl (aI KE2_121))), (s, .inr (7, [.ref ru, .ref sa, .ref ps, .ref to, .int (nI gs), .int (nI rc2_121), .int (nI pn2_121)])), (ru, .inl (g.2.1 0, 4000, .inl (aI RU2_121))), (sa, .inl (g.2.1 0, 4001, .inl (aI SA2_121))), (ps, .inl (g.2.1 0, 30000, .inl (aI PL2_121))), (to, .inl (g.2.1 2, 256, .inl (zI TO2_121)))]) (X' := [(u, .inr (8, [.ref s, .ref ss, .ref la, .ref ke, .int (nI lc), .int (nI uw), .int (nI uh), .int (nI ri), .int mi2_121, .int (bI tm2_121)])), (ss, .inl (g.2.1 0, 10496, .inl (aI SS2_121))), (la, .inl (g.2.1 4, 40, .inr (.inr (.inr (.inr LA))))), (ke, .inl (g.2.1 0, 256, .inl (aI KE2_121))), (s, .inr (7, [.ref ru, .ref sa, .ref ps, .ref to, .int (nI gs), .int (nI rc2_121), .int (nI pn2_121)])), (ru, .inl (g.2.1 0, 4000, .inl (aI RU2_121))), (sa, .inl (g.2.1 0, 4001, .inl (aI SA2_121))), (ps, .inl (g.2.1 0, 30000, .inl (aI PL2_121))), (to, .inl (g.2.1 2, 256, .inl (zI TO2_121)))]) (pl := PP) (st' := []) (n1 := 0) (n2 := 0) [0, 1, 2, 3, 4, 5, 6, 7, 8] rfl rfl rfl rfl rfl rfl ?_
          refine r_goto C 194 d_Unroller_descend_124 (by decide) ?_
          refine r_vret C E d_Unroller_descend_194 (by first | decide | omega | (simp only [rmk]; omega)) (by first | decide | omega | (simp only [rmk]; omega)) ?_
          exact ⟨_, _, _, _, _, _, _, _, _, _, rfl, rfl, by rw [show unr uw uh ((5, f, s2) :: lr1) (segL SS j z) = unrs (unr uw uh lr1) (wins 1 (segL SS j z)) from rfl]; exact hU2_121, hfr_121, h2562_121⟩
        · skip
          obtain ⟨tW, hZW, hTW⟩ := C.2.2.2.2.2.2.2.1.2.2.2.2.1
          refine r_gets C d_Unroller_descend_55 hZW fs_Unroller_100 ?_
          refine r_aload C 0 d_Unroller_descend_58 rfl ?_
          refine j_ord C (u := 6) (by first | decide | omega) d_Unroller_descend_60 (fit_of hR (by first | decide | (simp only [rmk]; omega)) (by first | decide | (simp only [rmk]; omega)) (by first | decide | (simp only [rmk]; omega)) (by first | decide | (simp only [rmk]; omega))) (cat8 (Nat.le_of_ble_eq_true rfl)) ?_
          refine r_ti C d_Unroller_descend_63 hTW (by first | decide | omega) (by decide) ?_
          refine r_eqS (st' := [.int (wSw.getD 6 0)]) rfl ?_
          refine r_tableIn C 127 d_Unroller_descend_64 (by decide) (by decide) rfl (by decide) ?_
          refine r_aload_n C 2 d_Unroller_descend_127 rfl rfl ?_
          refine r_iload_n C 3 d_Unroller_descend_128 rfl rfl ?_
          refine r_iload_n C 4 d_Unroller_descend_129 rfl rfl ?_
          refine r_iload_n C 5 d_Unroller_descend_130 rfl rfl ?_
          refine r_iconst C (nI 2) d_Unroller_descend_131 (by decide) ?_
          refine j_callV C (ap_makeWindows (h_makeWindows e rfl) (u := u) (s := s) (ss := ss) (la := la) (ke := ke) (lc := lc) (uw := uw) (uh := uh) (ri := ri) (mi := mi) (tm := tm) (lev := lev) (ru := ru) (sa := sa) (ps := ps) (to := to) (gs := gs) (rc := rc) (pn := pn) (RU := RU) (SA := SA) (PL := PL) (SS := SS) (KE := KE) (TO := TO) (LA := LA) (PP := PP) (acc := acc) (lr := lr1) (j := j) (z := z) (len := 2) (by first | assumption | omega | rfl) (by first | assumption | omega | rfl) (by first | assumption | omega | rfl) (by first | assumption | omega | rfl) (by first | assumption | omega | rfl) (by first | assumption | omega | rfl) (hd1) (hok2) (hU) (h256) (by omega) (hla2) (by first | assumption | omega | rfl) (hjz) (hset) (by first | assumption | omega | rfl) (by first | assumption | omega | rfl)) (Sp.pool (Sp.of (wr := []) [0, 1, 2, 3, 4, 5, 6, 7, 8] [] rfl rfl rfl rfl (by decide)) PP) d_Unroller_descend_132 lk_Unroller_111 mw_Unroller_makeWindows vw_Unroller_makeWindows (q0 := 0) rfl rfl (fit_of hR (by first | decide | (simp only [rmk]; omega)) (by first | decide | (simp only [rmk]; omega)) (by first | decide | (simp only [rmk]; omega)) (by first | decide | (simp only [rmk]; omega))) rfl (cat8 (Nat.le_of_ble_eq_true rfl)) (As := [.int (nI lev), .int (nI j), .int (nI z), .int (nI 2)]) (rest := []) rfl (fun r_132 w_132 hp_132 => ?_)
          obtain ⟨mi2_132, tm2_132, rc2_132, pn2_132, RU2_132, SA2_132, PL2_132, SS2_132, KE2_132, TO2_132, rfl, rfl, hU2_132, hfr_132, h2562_132⟩ := hp_132
          refine r_afterP (X := [(u, .inr (8, [.ref s, .ref ss, .ref la, .ref ke, .int (nI lc), .int (nI uw), .int (nI uh), .int (nI ri), .int mi2_132, .int (bI tm2_132)])), (ss, .inl (g.2.1 0, 10496, .inl (aI SS2_132))), (la, .inl (g.2.1 4, 40, .inr (.inr (.inr (.inr LA))))), (ke, .inl (g.2.1 0, 256, .inl (aI KE2_132))), (s, .inr (7, [.ref ru, .ref sa, .ref ps, .ref to, .int (nI gs), .int (nI rc2_132), .int (nI pn2_132)])), (ru, .inl (g.2.1 0, 4000, .inl (aI RU2_132))), (sa, .inl (g.2.1 0, 4001, .inl (aI SA2_132))), (ps, .inl (g.2.1 0, 30000, .inl (aI PL2_132))), (to, .inl (g.2.1 2, 256, .inl (zI TO2_132)))]) (X' := [(u, .inr (8, [.ref s, .ref ss, .ref la, .ref ke, .int (nI lc), .int (nI uw), .int (nI uh), .int (nI ri), .int mi2_132, .int (bI tm2_132)])), (ss, .inl (g.2.1 0, 10496, .inl (aI SS2_132))), (la, .inl (g.2.1 4, 40, .inr (.inr (.inr (.inr LA))))), (ke, .inl (g.2.1 0, 256, .inl (aI KE2_132))), (s, .inr (7, [.ref ru, .ref sa, .ref ps, .ref to, .int (nI gs), .int (nI rc2_132), .int (nI pn2_132)])), (ru, .inl (g.2.1 0, 4000, .inl (aI RU2_132))), (sa, .inl (g.2.1 0, 4001, .inl (aI SA2_132))), (ps, .inl (g.2.1 0, 30000, .inl (aI PL2_132))), (to, .inl (g.2.1 2, 256, .inl (zI TO2_132)))]) (pl := PP) (st' := []) (n1 := 0) (n2 := 0) [0, 1, 2, 3, 4, 5, 6, 7, 8] rfl rfl rfl rfl rfl rfl ?_
          refine r_goto C 194 d_Unroller_descend_135 (by decide) ?_
          refine r_vret C E d_Unroller_descend_194 (by first | decide | omega | (simp only [rmk]; omega)) (by first | decide | omega | (simp only [rmk]; omega)) ?_
          exact ⟨_, _, _, _, _, _, _, _, _, _, rfl, rfl, by rw [show unr uw uh ((6, f, s2) :: lr1) (segL SS j z) = unrs (unr uw uh lr1) (wins 2 (segL SS j z)) from rfl]; exact hU2_132, hfr_132, h2562_132⟩
        · skip
          obtain ⟨f0, hf0, hf1, hf2⟩ := hok1.2.2 rfl
          obtain rfl : f = some f0 := hf0
          obtain ⟨tW, hZW, hTW⟩ := C.2.2.2.2.2.2.2.1.2.2.2.2.1
          refine r_gets C d_Unroller_descend_55 hZW fs_Unroller_100 ?_
          refine r_aload C 0 d_Unroller_descend_58 rfl ?_
          refine j_ord C (u := 7) (by first | decide | omega) d_Unroller_descend_60 (fit_of hR (by first | decide | (simp only [rmk]; omega)) (by first | decide | (simp only [rmk]; omega)) (by first | decide | (simp only [rmk]; omega)) (by first | decide | (simp only [rmk]; omega))) (cat8 (Nat.le_of_ble_eq_true rfl)) ?_
          refine r_ti C d_Unroller_descend_63 hTW (by first | decide | omega) (by decide) ?_
          refine r_eqS (st' := [.int (wSw.getD 7 0)]) rfl ?_
          refine r_tableIn C 138 d_Unroller_descend_64 (by decide) (by decide) rfl (by decide) ?_
          refine r_aload_n C 2 d_Unroller_descend_138 rfl rfl ?_
          refine r_iload_n C 3 d_Unroller_descend_139 rfl rfl ?_
          refine r_iload_n C 4 d_Unroller_descend_140 rfl rfl ?_
          refine r_iload_n C 5 d_Unroller_descend_141 rfl rfl ?_
          refine r_aload C 1 d_Unroller_descend_142 rfl ?_
          refine r_getM C 1 d_Unroller_descend_144 ci_Layer fi_Unroller_115 rfl (by decide) (List.mem_append_right _ hmem) rfl ?_
          refine r_top (v' := nI f0) rfl ?_
          refine j_callV C (ap_makeWindows (h_makeWindows e rfl) (u := u) (s := s) (ss := ss) (la := la) (ke := ke) (lc := lc) (uw := uw) (uh := uh) (ri := ri) (mi := mi) (tm := tm) (lev := lev) (ru := ru) (sa := sa) (ps := ps) (to := to) (gs := gs) (rc := rc) (pn := pn) (RU := RU) (SA := SA) (PL := PL) (SS := SS) (KE := KE) (TO := TO) (LA := LA) (PP := PP) (acc := acc) (lr := lr1) (j := j) (z := z) (len := f0) (by first | assumption | omega | rfl) (by first | assumption | omega | rfl) (by first | assumption | omega | rfl) (by first | assumption | omega | rfl) (by first | assumption | omega | rfl) (by first | assumption | omega | rfl) (hd1) (hok2) (hU) (h256) (by omega) (hla2) (by first | assumption | omega | rfl) (hjz) (hset) (by first | assumption | omega | rfl) (by first | assumption | omega | rfl)) (Sp.pool (Sp.of (wr := []) [0, 1, 2, 3, 4, 5, 6, 7, 8] [] rfl rfl rfl rfl (by decide)) PP) d_Unroller_descend_147 lk_Unroller_111 mw_Unroller_makeWindows vw_Unroller_makeWindows (q0 := 0) rfl rfl (fit_of hR (by first | decide | (simp only [rmk]; omega)) (by first | decide | (simp only [rmk]; omega)) (by first | decide | (simp only [rmk]; omega)) (by first | decide | (simp only [rmk]; omega))) rfl (cat8 (Nat.le_of_ble_eq_true rfl)) (As := [.int (nI lev), .int (nI j), .int (nI z), .int (nI f0)]) (rest := []) rfl (fun r_147 w_147 hp_147 => ?_)
          obtain ⟨mi2_147, tm2_147, rc2_147, pn2_147, RU2_147, SA2_147, PL2_147, SS2_147, KE2_147, TO2_147, rfl, rfl, hU2_147, hfr_147, h2562_147⟩ := hp_147
          refine r_afterP (X := [(u, .inr (8, [.ref s, .ref ss, .ref la, .ref ke, .int (nI lc), .int (nI uw), .int (nI uh), .int (nI ri), .int mi2_147, .int (bI tm2_147)])), (ss, .inl (g.2.1 0, 10496, .inl (aI SS2_147))), (la, .inl (g.2.1 4, 40, .inr (.inr (.inr (.inr LA))))), (ke, .inl (g.2.1 0, 256, .inl (aI KE2_147))), (s, .inr (7, [.ref ru, .ref sa, .ref ps, .ref to, .int (nI gs), .int (nI rc2_147), .int (nI pn2_147)])), (ru, .inl (g.2.1 0, 4000, .inl (aI RU2_147))), (sa, .inl (g.2.1 0, 4001, .inl (aI SA2_147))), (ps, .inl (g.2.1 0, 30000, .inl (aI PL2_147))), (to, .inl (g.2.1 2, 256, .inl (zI TO2_147)))]) (X' := [(u, .inr (8, [.ref s, .ref ss, .ref la, .ref ke, .int (nI lc), .int (nI uw), .int (nI uh), .int (nI ri), .int mi2_147, .int (bI tm2_147)])), (ss, .inl (g.2.1 0, 10496, .inl (aI SS2_147))), (la, .inl (g.2.1 4, 40, .inr (.inr (.inr (.inr LA))))), (ke, .inl (g.2.1 0, 256, .inl (aI KE2_147))), (s, .inr (7, [.ref ru, .ref sa, .ref ps, .ref to, .int (nI gs), .int (nI rc2_147), .int (nI pn2_147)])), (ru, .inl (g.2.1 0, 4000, .inl (aI RU2_147))), (sa, .inl (g.2.1 0, 4001, .inl (aI SA2_147))), (ps, .inl (g.2.1 0, 30000, .inl (aI PL2_147))), (to, .inl (g.2.1 2, 256, .inl (zI TO2_147)))]) (pl := PP) (st' := []) (n1 := 0) (n2 := 0) [0, 1, 2, 3, 4, 5, 6, 7, 8] rfl rfl rfl rfl rfl rfl ?_
          refine r_goto C 194 d_Unroller_descend_150 (by decide) ?_
          refine r_vret C E d_Unroller_descend_194 (by first | decide | omega | (simp only [rmk]; omega)) (by first | decide | omega | (simp only [rmk]; omega)) ?_
          exact ⟨_, _, _, _, _, _, _, _, _, _, rfl, rfl, by rw [show unr uw uh ((7, some f0, s2) :: lr1) (segL SS j z) = unrs (unr uw uh lr1) (wins f0 (segL SS j z)) from rfl]; exact hU2_147, hfr_147, h2562_147⟩
        · skip
          obtain ⟨tW, hZW, hTW⟩ := C.2.2.2.2.2.2.2.1.2.2.2.2.1
          refine r_gets C d_Unroller_descend_55 hZW fs_Unroller_100 ?_
          refine r_aload C 0 d_Unroller_descend_58 rfl ?_
          refine j_ord C (u := 8) (by first | decide | omega) d_Unroller_descend_60 (fit_of hR (by first | decide | (simp only [rmk]; omega)) (by first | decide | (simp only [rmk]; omega)) (by first | decide | (simp only [rmk]; omega)) (by first | decide | (simp only [rmk]; omega))) (cat8 (Nat.le_of_ble_eq_true rfl)) ?_
          refine r_ti C d_Unroller_descend_63 hTW (by first | decide | omega) (by decide) ?_
          refine r_eqS (st' := [.int (wSw.getD 8 0)]) rfl ?_
          refine r_tableIn C 153 d_Unroller_descend_64 (by decide) (by decide) rfl (by decide) ?_
          refine r_aload_n C 2 d_Unroller_descend_153 rfl rfl ?_
          refine r_iload_n C 3 d_Unroller_descend_154 rfl rfl ?_
          refine r_iload_n C 4 d_Unroller_descend_155 rfl rfl ?_
          refine r_iload_n C 5 d_Unroller_descend_156 rfl rfl ?_
          refine j_callV C (ap_makeSides (h_makeSides e rfl) (u := u) (s := s) (ss := ss) (la := la) (ke := ke) (lc := lc) (uw := uw) (uh := uh) (ri := ri) (mi := mi) (tm := tm) (lev := lev) (ru := ru) (sa := sa) (ps := ps) (to := to) (gs := gs) (rc := rc) (pn := pn) (RU := RU) (SA := SA) (PL := PL) (SS := SS) (KE := KE) (TO := TO) (LA := LA) (PP := PP) (acc := acc) (lr := lr1) (j := j) (z := z) (by first | assumption | omega | rfl) (by first | assumption | omega | rfl) (by first | assumption | omega | rfl) (by first | assumption | omega | rfl) (by first | assumption | omega | rfl) (by first | assumption | omega | rfl) (hd1) (hok2) (hU) (h256) (by omega) (hla2) (by first | assumption | omega | rfl) (hjz) (hset)) (Sp.pool (Sp.of (wr := []) [0, 1, 2, 3, 4, 5, 6, 7, 8] [] rfl rfl rfl rfl (by decide)) PP) d_Unroller_descend_157 lk_Unroller_118 mw_Unroller_makeSides vw_Unroller_makeSides (q0 := 0) rfl rfl (fit_of hR (by first | decide | (simp only [rmk]; omega)) (by first | decide | (simp only [rmk]; omega)) (by first | decide | (simp only [rmk]; omega)) (by first | decide | (simp only [rmk]; omega))) rfl (cat8 (Nat.le_of_ble_eq_true rfl)) (As := [.int (nI lev), .int (nI j), .int (nI z)]) (rest := []) rfl (fun r_157 w_157 hp_157 => ?_)
          obtain ⟨mi2_157, tm2_157, rc2_157, pn2_157, RU2_157, SA2_157, PL2_157, SS2_157, KE2_157, TO2_157, rfl, rfl, hU2_157, hfr_157, h2562_157⟩ := hp_157
          refine r_afterP (X := [(u, .inr (8, [.ref s, .ref ss, .ref la, .ref ke, .int (nI lc), .int (nI uw), .int (nI uh), .int (nI ri), .int mi2_157, .int (bI tm2_157)])), (ss, .inl (g.2.1 0, 10496, .inl (aI SS2_157))), (la, .inl (g.2.1 4, 40, .inr (.inr (.inr (.inr LA))))), (ke, .inl (g.2.1 0, 256, .inl (aI KE2_157))), (s, .inr (7, [.ref ru, .ref sa, .ref ps, .ref to, .int (nI gs), .int (nI rc2_157), .int (nI pn2_157)])), (ru, .inl (g.2.1 0, 4000, .inl (aI RU2_157))), (sa, .inl (g.2.1 0, 4001, .inl (aI SA2_157))), (ps, .inl (g.2.1 0, 30000, .inl (aI PL2_157))), (to, .inl (g.2.1 2, 256, .inl (zI TO2_157)))]) (X' := [(u, .inr (8, [.ref s, .ref ss, .ref la, .ref ke, .int (nI lc), .int (nI uw), .int (nI uh), .int (nI ri), .int mi2_157, .int (bI tm2_157)])), (ss, .inl (g.2.1 0, 10496, .inl (aI SS2_157))), (la, .inl (g.2.1 4, 40, .inr (.inr (.inr (.inr LA))))), (ke, .inl (g.2.1 0, 256, .inl (aI KE2_157))), (s, .inr (7, [.ref ru, .ref sa, .ref ps, .ref to, .int (nI gs), .int (nI rc2_157), .int (nI pn2_157)])), (ru, .inl (g.2.1 0, 4000, .inl (aI RU2_157))), (sa, .inl (g.2.1 0, 4001, .inl (aI SA2_157))), (ps, .inl (g.2.1 0, 30000, .inl (aI PL2_157))), (to, .inl (g.2.1 2, 256, .inl (zI TO2_157)))]) (pl := PP) (st' := []) (n1 := 0) (n2 := 0) [0, 1, 2, 3, 4, 5, 6, 7, 8] rfl rfl rfl rfl rfl rfl ?_
          refine r_goto C 194 d_Unroller_descend_160 (by decide) ?_
          refine r_vret C E d_Unroller_descend_194 (by first | decide | omega | (simp only [rmk]; omega)) (by first | decide | omega | (simp only [rmk]; omega)) ?_
          exact ⟨_, _, _, _, _, _, _, _, _, _, rfl, rfl, by rw [show unr uw uh ((8, f, s2) :: lr1) (segL SS j z) = unrs (unr uw uh lr1) ((segL SS j z).flatMap (sideP uw (segL SS j z))) from rfl]; exact hU2_157, hfr_157, h2562_157⟩
        · skip
          obtain ⟨tW, hZW, hTW⟩ := C.2.2.2.2.2.2.2.1.2.2.2.2.1
          refine r_gets C d_Unroller_descend_55 hZW fs_Unroller_100 ?_
          refine r_aload C 0 d_Unroller_descend_58 rfl ?_
          refine j_ord C (u := 9) (by first | decide | omega) d_Unroller_descend_60 (fit_of hR (by first | decide | (simp only [rmk]; omega)) (by first | decide | (simp only [rmk]; omega)) (by first | decide | (simp only [rmk]; omega)) (by first | decide | (simp only [rmk]; omega))) (cat8 (Nat.le_of_ble_eq_true rfl)) ?_
          refine r_ti C d_Unroller_descend_63 hTW (by first | decide | omega) (by decide) ?_
          refine r_eqS (st' := [.int (wSw.getD 9 0)]) rfl ?_
          refine r_tableIn C 163 d_Unroller_descend_64 (by decide) (by decide) rfl (by decide) ?_
          refine r_aload_n C 2 d_Unroller_descend_163 rfl rfl ?_
          refine r_iload_n C 3 d_Unroller_descend_164 rfl rfl ?_
          refine r_iload_n C 4 d_Unroller_descend_165 rfl rfl ?_
          refine r_iload_n C 5 d_Unroller_descend_166 rfl rfl ?_
          refine j_callV C (ap_makeCorners (h_makeCorners e rfl) (u := u) (s := s) (ss := ss) (la := la) (ke := ke) (lc := lc) (uw := uw) (uh := uh) (ri := ri) (mi := mi) (tm := tm) (lev := lev) (ru := ru) (sa := sa) (ps := ps) (to := to) (gs := gs) (rc := rc) (pn := pn) (RU := RU) (SA := SA) (PL := PL) (SS := SS) (KE := KE) (TO := TO) (LA := LA) (PP := PP) (acc := acc) (lr := lr1) (j := j) (z := z) (by first | assumption | omega | rfl) (by first | assumption | omega | rfl) (by first | assumption | omega | rfl) (by first | assumption | omega | rfl) (by first | assumption | omega | rfl) (by first | assumption | omega | rfl) (hd1) (hok2) (hU) (h256) (by omega) (hla2) (by first | assumption | omega | rfl) (hjz) (hset)) (Sp.pool (Sp.of (wr := []) [0, 1, 2, 3, 4, 5, 6, 7, 8] [] rfl rfl rfl rfl (by decide)) PP) d_Unroller_descend_167 lk_Unroller_121 mw_Unroller_makeCorners vw_Unroller_makeCorners (q0 := 0) rfl rfl (fit_of hR (by first | decide | (simp only [rmk]; omega)) (by first | decide | (simp only [rmk]; omega)) (by first | decide | (simp only [rmk]; omega)) (by first | decide | (simp only [rmk]; omega))) rfl (cat8 (Nat.le_of_ble_eq_true rfl)) (As := [.int (nI lev), .int (nI j), .int (nI z)]) (rest := []) rfl (fun r_167 w_167 hp_167 => ?_)
          obtain ⟨mi2_167, tm2_167, rc2_167, pn2_167, RU2_167, SA2_167, PL2_167, SS2_167, KE2_167, TO2_167, rfl, rfl, hU2_167, hfr_167, h2562_167⟩ := hp_167
          refine r_afterP (X := [(u, .inr (8, [.ref s, .ref ss, .ref la, .ref ke, .int (nI lc), .int (nI uw), .int (nI uh), .int (nI ri), .int mi2_167, .int (bI tm2_167)])), (ss, .inl (g.2.1 0, 10496, .inl (aI SS2_167))), (la, .inl (g.2.1 4, 40, .inr (.inr (.inr (.inr LA))))), (ke, .inl (g.2.1 0, 256, .inl (aI KE2_167))), (s, .inr (7, [.ref ru, .ref sa, .ref ps, .ref to, .int (nI gs), .int (nI rc2_167), .int (nI pn2_167)])), (ru, .inl (g.2.1 0, 4000, .inl (aI RU2_167))), (sa, .inl (g.2.1 0, 4001, .inl (aI SA2_167))), (ps, .inl (g.2.1 0, 30000, .inl (aI PL2_167))), (to, .inl (g.2.1 2, 256, .inl (zI TO2_167)))]) (X' := [(u, .inr (8, [.ref s, .ref ss, .ref la, .ref ke, .int (nI lc), .int (nI uw), .int (nI uh), .int (nI ri), .int mi2_167, .int (bI tm2_167)])), (ss, .inl (g.2.1 0, 10496, .inl (aI SS2_167))), (la, .inl (g.2.1 4, 40, .inr (.inr (.inr (.inr LA))))), (ke, .inl (g.2.1 0, 256, .inl (aI KE2_167))), (s, .inr (7, [.ref ru, .ref sa, .ref ps, .ref to, .int (nI gs), .int (nI rc2_167), .int (nI pn2_167)])), (ru, .inl (g.2.1 0, 4000, .inl (aI RU2_167))), (sa, .inl (g.2.1 0, 4001, .inl (aI SA2_167))), (ps, .inl (g.2.1 0, 30000, .inl (aI PL2_167))), (to, .inl (g.2.1 2, 256, .inl (zI TO2_167)))]) (pl := PP) (st' := []) (n1 := 0) (n2 := 0) [0, 1, 2, 3, 4, 5, 6, 7, 8] rfl rfl rfl rfl rfl rfl ?_
          refine r_goto C 194 d_Unroller_descend_170 (by decide) ?_
          refine r_vret C E d_Unroller_descend_194 (by first | decide | omega | (simp only [rmk]; omega)) (by first | decide | omega | (simp only [rmk]; omega)) ?_
          exact ⟨_, _, _, _, _, _, _, _, _, _, rfl, rfl, by rw [show unr uw uh ((9, f, s2) :: lr1) (segL SS j z) = unrs (unr uw uh lr1) ((segL SS j z).flatMap (corP uw (segL SS j z))) from rfl]; exact hU2_167, hfr_167, h2562_167⟩
        · skip
          obtain ⟨tW, hZW, hTW⟩ := C.2.2.2.2.2.2.2.1.2.2.2.2.1
          refine r_gets C d_Unroller_descend_55 hZW fs_Unroller_100 ?_
          refine r_aload C 0 d_Unroller_descend_58 rfl ?_
          refine j_ord C (u := 10) (by first | decide | omega) d_Unroller_descend_60 (fit_of hR (by first | decide | (simp only [rmk]; omega)) (by first | decide | (simp only [rmk]; omega)) (by first | decide | (simp only [rmk]; omega)) (by first | decide | (simp only [rmk]; omega))) (cat8 (Nat.le_of_ble_eq_true rfl)) ?_
          refine r_ti C d_Unroller_descend_63 hTW (by first | decide | omega) (by decide) ?_
          refine r_eqS (st' := [.int (wSw.getD 10 0)]) rfl ?_
          refine r_tableOut C 185 d_Unroller_descend_64 (by decide) (by decide) ?_
          refine r_aload_n C 2 d_Unroller_descend_185 rfl rfl ?_
          refine r_iload_n C 3 d_Unroller_descend_186 rfl rfl ?_
          refine r_iload_n C 4 d_Unroller_descend_187 rfl rfl ?_
          refine r_iload_n C 5 d_Unroller_descend_188 rfl rfl ?_
          refine r_aload C 1 d_Unroller_descend_189 rfl ?_
          refine j_callV C (ap_makeParts (h_makeParts e rfl) (u := u) (s := s) (ss := ss) (la := la) (ke := ke) (lc := lc) (uw := uw) (uh := uh) (ri := ri) (mi := mi) (tm := tm) (lev := lev) (ru := ru) (sa := sa) (ps := ps) (to := to) (gs := gs) (rc := rc) (pn := pn) (RU := RU) (SA := SA) (PL := PL) (SS := SS) (KE := KE) (TO := TO) (LA := LA) (PP := PP) (acc := acc) (lr := lr1) (j := j) (z := z) (y := y) (w := 10) (lev0 := lev0) (f := f) (s2 := s2) (ou := ou) (by first | assumption | omega | rfl) (by first | assumption | omega | rfl) (by first | assumption | omega | rfl) (by first | assumption | omega | rfl) (by first | assumption | omega | rfl) (by first | assumption | omega | rfl) (hd1) (hok2) (hU) (h256) (by omega) (hla2) (by first | assumption | omega | rfl) (hjz) (hset) (hmem) (by first | assumption | omega | rfl) (hok1.2.1)) (Sp.pool (Sp.of (wr := []) [0, 1, 2, 3, 4, 5, 6, 7, 8] [] rfl rfl rfl rfl (by decide)) PP) d_Unroller_descend_191 lk_Unroller_128 mw_Unroller_makeParts vw_Unroller_makeParts (q0 := 0) rfl rfl (fit_of hR (by first | decide | (simp only [rmk]; omega)) (by first | decide | (simp only [rmk]; omega)) (by first | decide | (simp only [rmk]; omega)) (by first | decide | (simp only [rmk]; omega))) rfl (cat8 (Nat.le_of_ble_eq_true rfl)) (As := [.int (nI lev), .int (nI j), .int (nI z), .ref y]) (rest := []) rfl (fun r_191 w_191 hp_191 => ?_)
          obtain ⟨mi2_191, tm2_191, rc2_191, pn2_191, RU2_191, SA2_191, PL2_191, SS2_191, KE2_191, TO2_191, rfl, rfl, hU2_191, hfr_191, h2562_191⟩ := hp_191
          refine r_afterP (X := [(u, .inr (8, [.ref s, .ref ss, .ref la, .ref ke, .int (nI lc), .int (nI uw), .int (nI uh), .int (nI ri), .int mi2_191, .int (bI tm2_191)])), (ss, .inl (g.2.1 0, 10496, .inl (aI SS2_191))), (la, .inl (g.2.1 4, 40, .inr (.inr (.inr (.inr LA))))), (ke, .inl (g.2.1 0, 256, .inl (aI KE2_191))), (s, .inr (7, [.ref ru, .ref sa, .ref ps, .ref to, .int (nI gs), .int (nI rc2_191), .int (nI pn2_191)])), (ru, .inl (g.2.1 0, 4000, .inl (aI RU2_191))), (sa, .inl (g.2.1 0, 4001, .inl (aI SA2_191))), (ps, .inl (g.2.1 0, 30000, .inl (aI PL2_191))), (to, .inl (g.2.1 2, 256, .inl (zI TO2_191)))]) (X' := [(u, .inr (8, [.ref s, .ref ss, .ref la, .ref ke, .int (nI lc), .int (nI uw), .int (nI uh), .int (nI ri), .int mi2_191, .int (bI tm2_191)])), (ss, .inl (g.2.1 0, 10496, .inl (aI SS2_191))), (la, .inl (g.2.1 4, 40, .inr (.inr (.inr (.inr LA))))), (ke, .inl (g.2.1 0, 256, .inl (aI KE2_191))), (s, .inr (7, [.ref ru, .ref sa, .ref ps, .ref to, .int (nI gs), .int (nI rc2_191), .int (nI pn2_191)])), (ru, .inl (g.2.1 0, 4000, .inl (aI RU2_191))), (sa, .inl (g.2.1 0, 4001, .inl (aI SA2_191))), (ps, .inl (g.2.1 0, 30000, .inl (aI PL2_191))), (to, .inl (g.2.1 2, 256, .inl (zI TO2_191)))]) (pl := PP) (st' := []) (n1 := 0) (n2 := 0) [0, 1, 2, 3, 4, 5, 6, 7, 8] rfl rfl rfl rfl rfl rfl ?_
          refine r_vret C E d_Unroller_descend_194 (by first | decide | omega | (simp only [rmk]; omega)) (by first | decide | omega | (simp only [rmk]; omega)) ?_
          exact ⟨_, _, _, _, _, _, _, _, _, _, rfl, rfl, by rw [show unr uw uh ((10, f, s2) :: lr1) (segL SS j z) = unrs (unr uw uh lr1) (partL (keyN uw 10 f s2) (segL SS j z)) from rfl]; exact hU2_191, hfr_191, h2562_191⟩
        · skip
          obtain ⟨tW, hZW, hTW⟩ := C.2.2.2.2.2.2.2.1.2.2.2.2.1
          refine r_gets C d_Unroller_descend_55 hZW fs_Unroller_100 ?_
          refine r_aload C 0 d_Unroller_descend_58 rfl ?_
          refine j_ord C (u := 11) (by first | decide | omega) d_Unroller_descend_60 (fit_of hR (by first | decide | (simp only [rmk]; omega)) (by first | decide | (simp only [rmk]; omega)) (by first | decide | (simp only [rmk]; omega)) (by first | decide | (simp only [rmk]; omega))) (cat8 (Nat.le_of_ble_eq_true rfl)) ?_
          refine r_ti C d_Unroller_descend_63 hTW (by first | decide | omega) (by decide) ?_
          refine r_eqS (st' := [.int (wSw.getD 11 0)]) rfl ?_
          refine r_tableOut C 185 d_Unroller_descend_64 (by decide) (by decide) ?_
          refine r_aload_n C 2 d_Unroller_descend_185 rfl rfl ?_
          refine r_iload_n C 3 d_Unroller_descend_186 rfl rfl ?_
          refine r_iload_n C 4 d_Unroller_descend_187 rfl rfl ?_
          refine r_iload_n C 5 d_Unroller_descend_188 rfl rfl ?_
          refine r_aload C 1 d_Unroller_descend_189 rfl ?_
          refine j_callV C (ap_makeParts (h_makeParts e rfl) (u := u) (s := s) (ss := ss) (la := la) (ke := ke) (lc := lc) (uw := uw) (uh := uh) (ri := ri) (mi := mi) (tm := tm) (lev := lev) (ru := ru) (sa := sa) (ps := ps) (to := to) (gs := gs) (rc := rc) (pn := pn) (RU := RU) (SA := SA) (PL := PL) (SS := SS) (KE := KE) (TO := TO) (LA := LA) (PP := PP) (acc := acc) (lr := lr1) (j := j) (z := z) (y := y) (w := 11) (lev0 := lev0) (f := f) (s2 := s2) (ou := ou) (by first | assumption | omega | rfl) (by first | assumption | omega | rfl) (by first | assumption | omega | rfl) (by first | assumption | omega | rfl) (by first | assumption | omega | rfl) (by first | assumption | omega | rfl) (hd1) (hok2) (hU) (h256) (by omega) (hla2) (by first | assumption | omega | rfl) (hjz) (hset) (hmem) (by first | assumption | omega | rfl) (hok1.2.1)) (Sp.pool (Sp.of (wr := []) [0, 1, 2, 3, 4, 5, 6, 7, 8] [] rfl rfl rfl rfl (by decide)) PP) d_Unroller_descend_191 lk_Unroller_128 mw_Unroller_makeParts vw_Unroller_makeParts (q0 := 0) rfl rfl (fit_of hR (by first | decide | (simp only [rmk]; omega)) (by first | decide | (simp only [rmk]; omega)) (by first | decide | (simp only [rmk]; omega)) (by first | decide | (simp only [rmk]; omega))) rfl (cat8 (Nat.le_of_ble_eq_true rfl)) (As := [.int (nI lev), .int (nI j), .int (nI z), .ref y]) (rest := []) rfl (fun r_191 w_191 hp_191 => ?_)
          obtain ⟨mi2_191, tm2_191, rc2_191, pn2_191, RU2_191, SA2_191, PL2_191, SS2_191, KE2_191, TO2_191, rfl, rfl, hU2_191, hfr_191, h2562_191⟩ := hp_191
          refine r_afterP (X := [(u, .inr (8, [.ref s, .ref ss, .ref la, .ref ke, .int (nI lc), .int (nI uw), .int (nI uh), .int (nI ri), .int mi2_191, .int (bI tm2_191)])), (ss, .inl (g.2.1 0, 10496, .inl (aI SS2_191))), (la, .inl (g.2.1 4, 40, .inr (.inr (.inr (.inr LA))))), (ke, .inl (g.2.1 0, 256, .inl (aI KE2_191))), (s, .inr (7, [.ref ru, .ref sa, .ref ps, .ref to, .int (nI gs), .int (nI rc2_191), .int (nI pn2_191)])), (ru, .inl (g.2.1 0, 4000, .inl (aI RU2_191))), (sa, .inl (g.2.1 0, 4001, .inl (aI SA2_191))), (ps, .inl (g.2.1 0, 30000, .inl (aI PL2_191))), (to, .inl (g.2.1 2, 256, .inl (zI TO2_191)))]) (X' := [(u, .inr (8, [.ref s, .ref ss, .ref la, .ref ke, .int (nI lc), .int (nI uw), .int (nI uh), .int (nI ri), .int mi2_191, .int (bI tm2_191)])), (ss, .inl (g.2.1 0, 10496, .inl (aI SS2_191))), (la, .inl (g.2.1 4, 40, .inr (.inr (.inr (.inr LA))))), (ke, .inl (g.2.1 0, 256, .inl (aI KE2_191))), (s, .inr (7, [.ref ru, .ref sa, .ref ps, .ref to, .int (nI gs), .int (nI rc2_191), .int (nI pn2_191)])), (ru, .inl (g.2.1 0, 4000, .inl (aI RU2_191))), (sa, .inl (g.2.1 0, 4001, .inl (aI SA2_191))), (ps, .inl (g.2.1 0, 30000, .inl (aI PL2_191))), (to, .inl (g.2.1 2, 256, .inl (zI TO2_191)))]) (pl := PP) (st' := []) (n1 := 0) (n2 := 0) [0, 1, 2, 3, 4, 5, 6, 7, 8] rfl rfl rfl rfl rfl rfl ?_
          refine r_vret C E d_Unroller_descend_194 (by first | decide | omega | (simp only [rmk]; omega)) (by first | decide | omega | (simp only [rmk]; omega)) ?_
          exact ⟨_, _, _, _, _, _, _, _, _, _, rfl, rfl, by rw [show unr uw uh ((11, f, s2) :: lr1) (segL SS j z) = unrs (unr uw uh lr1) (partL (keyN uw 11 f s2) (segL SS j z)) from rfl]; exact hU2_191, hfr_191, h2562_191⟩
        · skip
          obtain ⟨tW, hZW, hTW⟩ := C.2.2.2.2.2.2.2.1.2.2.2.2.1
          refine r_gets C d_Unroller_descend_55 hZW fs_Unroller_100 ?_
          refine r_aload C 0 d_Unroller_descend_58 rfl ?_
          refine j_ord C (u := 12) (by first | decide | omega) d_Unroller_descend_60 (fit_of hR (by first | decide | (simp only [rmk]; omega)) (by first | decide | (simp only [rmk]; omega)) (by first | decide | (simp only [rmk]; omega)) (by first | decide | (simp only [rmk]; omega))) (cat8 (Nat.le_of_ble_eq_true rfl)) ?_
          refine r_ti C d_Unroller_descend_63 hTW (by first | decide | omega) (by decide) ?_
          refine r_eqS (st' := [.int (wSw.getD 12 0)]) rfl ?_
          refine r_tableIn C 173 d_Unroller_descend_64 (by decide) (by decide) rfl (by decide) ?_
          refine r_aload_n C 2 d_Unroller_descend_173 rfl rfl ?_
          refine r_iload_n C 3 d_Unroller_descend_174 rfl rfl ?_
          refine r_iload_n C 4 d_Unroller_descend_175 rfl rfl ?_
          refine r_iload_n C 5 d_Unroller_descend_176 rfl rfl ?_
          refine r_aload C 0 d_Unroller_descend_177 rfl ?_
          refine j_callV C (ap_makeFiltered (h_makeFiltered e rfl) (u := u) (s := s) (ss := ss) (la := la) (ke := ke) (lc := lc) (uw := uw) (uh := uh) (ri := ri) (mi := mi) (tm := tm) (lev := lev) (ru := ru) (sa := sa) (ps := ps) (to := to) (gs := gs) (rc := rc) (pn := pn) (RU := RU) (SA := SA) (PL := PL) (SS := SS) (KE := KE) (TO := TO) (LA := LA) (PP := PP) (acc := acc) (lr := lr1) (j := j) (z := z) (w := 12) (by first | assumption | omega | rfl) (by first | assumption | omega | rfl) (by first | assumption | omega | rfl) (by first | assumption | omega | rfl) (by first | assumption | omega | rfl) (by first | assumption | omega | rfl) (hd1) (hok2) (hU) (h256) (by omega) (hla2) (by first | assumption | omega | rfl) (hjz) (hset) (by first | assumption | omega | rfl)) (Sp.pool (Sp.of (wr := []) [0, 1, 2, 3, 4, 5, 6, 7, 8] [] rfl rfl rfl rfl (by decide)) PP) d_Unroller_descend_179 lk_Unroller_124 mw_Unroller_makeFiltered vw_Unroller_makeFiltered (q0 := 0) rfl rfl (fit_of hR (by first | decide | (simp only [rmk]; omega)) (by first | decide | (simp only [rmk]; omega)) (by first | decide | (simp only [rmk]; omega)) (by first | decide | (simp only [rmk]; omega))) rfl (cat8 (Nat.le_of_ble_eq_true rfl)) (As := [.int (nI lev), .int (nI j), .int (nI z), .ref (g.2.2.1 12)]) (rest := []) rfl (fun r_179 w_179 hp_179 => ?_)
          obtain ⟨mi2_179, tm2_179, rc2_179, pn2_179, RU2_179, SA2_179, PL2_179, SS2_179, KE2_179, TO2_179, rfl, rfl, hU2_179, hfr_179, h2562_179⟩ := hp_179
          refine r_afterP (X := [(u, .inr (8, [.ref s, .ref ss, .ref la, .ref ke, .int (nI lc), .int (nI uw), .int (nI uh), .int (nI ri), .int mi2_179, .int (bI tm2_179)])), (ss, .inl (g.2.1 0, 10496, .inl (aI SS2_179))), (la, .inl (g.2.1 4, 40, .inr (.inr (.inr (.inr LA))))), (ke, .inl (g.2.1 0, 256, .inl (aI KE2_179))), (s, .inr (7, [.ref ru, .ref sa, .ref ps, .ref to, .int (nI gs), .int (nI rc2_179), .int (nI pn2_179)])), (ru, .inl (g.2.1 0, 4000, .inl (aI RU2_179))), (sa, .inl (g.2.1 0, 4001, .inl (aI SA2_179))), (ps, .inl (g.2.1 0, 30000, .inl (aI PL2_179))), (to, .inl (g.2.1 2, 256, .inl (zI TO2_179)))]) (X' := [(u, .inr (8, [.ref s, .ref ss, .ref la, .ref ke, .int (nI lc), .int (nI uw), .int (nI uh), .int (nI ri), .int mi2_179, .int (bI tm2_179)])), (ss, .inl (g.2.1 0, 10496, .inl (aI SS2_179))), (la, .inl (g.2.1 4, 40, .inr (.inr (.inr (.inr LA))))), (ke, .inl (g.2.1 0, 256, .inl (aI KE2_179))), (s, .inr (7, [.ref ru, .ref sa, .ref ps, .ref to, .int (nI gs), .int (nI rc2_179), .int (nI pn2_179)])), (ru, .inl (g.2.1 0, 4000, .inl (aI RU2_179))), (sa, .inl (g.2.1 0, 4001, .inl (aI SA2_179))), (ps, .inl (g.2.1 0, 30000, .inl (aI PL2_179))), (to, .inl (g.2.1 2, 256, .inl (zI TO2_179)))]) (pl := PP) (st' := []) (n1 := 0) (n2 := 0) [0, 1, 2, 3, 4, 5, 6, 7, 8] rfl rfl rfl rfl rfl rfl ?_
          refine r_goto C 194 d_Unroller_descend_182 (by decide) ?_
          refine r_vret C E d_Unroller_descend_194 (by first | decide | omega | (simp only [rmk]; omega)) (by first | decide | omega | (simp only [rmk]; omega)) ?_
          exact ⟨_, _, _, _, _, _, _, _, _, _, rfl, rfl, by rw [show unr uw uh ((12, f, s2) :: lr1) (segL SS j z) = unrs (unr uw uh lr1) ([(segL SS j z).filter (passB uw uh 12)]) from rfl]; exact hU2_179, hfr_179, h2562_179⟩
        · skip
          obtain ⟨tW, hZW, hTW⟩ := C.2.2.2.2.2.2.2.1.2.2.2.2.1
          refine r_gets C d_Unroller_descend_55 hZW fs_Unroller_100 ?_
          refine r_aload C 0 d_Unroller_descend_58 rfl ?_
          refine j_ord C (u := 13) (by first | decide | omega) d_Unroller_descend_60 (fit_of hR (by first | decide | (simp only [rmk]; omega)) (by first | decide | (simp only [rmk]; omega)) (by first | decide | (simp only [rmk]; omega)) (by first | decide | (simp only [rmk]; omega))) (cat8 (Nat.le_of_ble_eq_true rfl)) ?_
          refine r_ti C d_Unroller_descend_63 hTW (by first | decide | omega) (by decide) ?_
          refine r_eqS (st' := [.int (wSw.getD 13 0)]) rfl ?_
          refine r_tableIn C 173 d_Unroller_descend_64 (by decide) (by decide) rfl (by decide) ?_
          refine r_aload_n C 2 d_Unroller_descend_173 rfl rfl ?_
          refine r_iload_n C 3 d_Unroller_descend_174 rfl rfl ?_
          refine r_iload_n C 4 d_Unroller_descend_175 rfl rfl ?_
          refine r_iload_n C 5 d_Unroller_descend_176 rfl rfl ?_
          refine r_aload C 0 d_Unroller_descend_177 rfl ?_
          refine j_callV C (ap_makeFiltered (h_makeFiltered e rfl) (u := u) (s := s) (ss := ss) (la := la) (ke := ke) (lc := lc) (uw := uw) (uh := uh) (ri := ri) (mi := mi) (tm := tm) (lev := lev) (ru := ru) (sa := sa) (ps := ps) (to := to) (gs := gs) (rc := rc) (pn := pn) (RU := RU) (SA := SA) (PL := PL) (SS := SS) (KE := KE) (TO := TO) (LA := LA) (PP := PP) (acc := acc) (lr := lr1) (j := j) (z := z) (w := 13) (by first | assumption | omega | rfl) (by first | assumption | omega | rfl) (by first | assumption | omega | rfl) (by first | assumption | omega | rfl) (by first | assumption | omega | rfl) (by first | assumption | omega | rfl) (hd1) (hok2) (hU) (h256) (by omega) (hla2) (by first | assumption | omega | rfl) (hjz) (hset) (by first | assumption | omega | rfl)) (Sp.pool (Sp.of (wr := []) [0, 1, 2, 3, 4, 5, 6, 7, 8] [] rfl rfl rfl rfl (by decide)) PP) d_Unroller_descend_179 lk_Unroller_124 mw_Unroller_makeFiltered vw_Unroller_makeFiltered (q0 := 0) rfl rfl (fit_of hR (by first | decide | (simp only [rmk]; omega)) (by first | decide | (simp only [rmk]; omega)) (by first | decide | (simp only [rmk]; omega)) (by first | decide | (simp only [rmk]; omega))) rfl (cat8 (Nat.le_of_ble_eq_true rfl)) (As := [.int (nI lev), .int (nI j), .int (nI z), .ref (g.2.2.1 13)]) (rest := []) rfl (fun r_179 w_179 hp_179 => ?_)
          obtain ⟨mi2_179, tm2_179, rc2_179, pn2_179, RU2_179, SA2_179, PL2_179, SS2_179, KE2_179, TO2_179, rfl, rfl, hU2_179, hfr_179, h2562_179⟩ := hp_179
          refine r_afterP (X := [(u, .inr (8, [.ref s, .ref ss, .ref la, .ref ke, .int (nI lc), .int (nI uw), .int (nI uh), .int (nI ri), .int mi2_179, .int (bI tm2_179)])), (ss, .inl (g.2.1 0, 10496, .inl (aI SS2_179))), (la, .inl (g.2.1 4, 40, .inr (.inr (.inr (.inr LA))))), (ke, .inl (g.2.1 0, 256, .inl (aI KE2_179))), (s, .inr (7, [.ref ru, .ref sa, .ref ps, .ref to, .int (nI gs), .int (nI rc2_179), .int (nI pn2_179)])), (ru, .inl (g.2.1 0, 4000, .inl (aI RU2_179))), (sa, .inl (g.2.1 0, 4001, .inl (aI SA2_179))), (ps, .inl (g.2.1 0, 30000, .inl (aI PL2_179))), (to, .inl (g.2.1 2, 256, .inl (zI TO2_179)))]) (X' := [(u, .inr (8, [.ref s, .ref ss, .ref la, .ref ke, .int (nI lc), .int (nI uw), .int (nI uh), .int (nI ri), .int mi2_179, .int (bI tm2_179)])), (ss, .inl (g.2.1 0, 10496, .inl (aI SS2_179))), (la, .inl (g.2.1 4, 40, .inr (.inr (.inr (.inr LA))))), (ke, .inl (g.2.1 0, 256, .inl (aI KE2_179))), (s, .inr (7, [.ref ru, .ref sa, .ref ps, .ref to, .int (nI gs), .int (nI rc2_179), .int (nI pn2_179)])), (ru, .inl (g.2.1 0, 4000, .inl (aI RU2_179))), (sa, .inl (g.2.1 0, 4001, .inl (aI SA2_179))), (ps, .inl (g.2.1 0, 30000, .inl (aI PL2_179))), (to, .inl (g.2.1 2, 256, .inl (zI TO2_179)))]) (pl := PP) (st' := []) (n1 := 0) (n2 := 0) [0, 1, 2, 3, 4, 5, 6, 7, 8] rfl rfl rfl rfl rfl rfl ?_
          refine r_goto C 194 d_Unroller_descend_182 (by decide) ?_
          refine r_vret C E d_Unroller_descend_194 (by first | decide | omega | (simp only [rmk]; omega)) (by first | decide | omega | (simp only [rmk]; omega)) ?_
          exact ⟨_, _, _, _, _, _, _, _, _, _, rfl, rfl, by rw [show unr uw uh ((13, f, s2) :: lr1) (segL SS j z) = unrs (unr uw uh lr1) ([(segL SS j z).filter (passB uw uh 13)]) from rfl]; exact hU2_179, hfr_179, h2562_179⟩
        · skip
          obtain ⟨tW, hZW, hTW⟩ := C.2.2.2.2.2.2.2.1.2.2.2.2.1
          refine r_gets C d_Unroller_descend_55 hZW fs_Unroller_100 ?_
          refine r_aload C 0 d_Unroller_descend_58 rfl ?_
          refine j_ord C (u := 14) (by first | decide | omega) d_Unroller_descend_60 (fit_of hR (by first | decide | (simp only [rmk]; omega)) (by first | decide | (simp only [rmk]; omega)) (by first | decide | (simp only [rmk]; omega)) (by first | decide | (simp only [rmk]; omega))) (cat8 (Nat.le_of_ble_eq_true rfl)) ?_
          refine r_ti C d_Unroller_descend_63 hTW (by first | decide | omega) (by decide) ?_
          refine r_eqS (st' := [.int (wSw.getD 14 0)]) rfl ?_
          refine r_tableIn C 173 d_Unroller_descend_64 (by decide) (by decide) rfl (by decide) ?_
          refine r_aload_n C 2 d_Unroller_descend_173 rfl rfl ?_
          refine r_iload_n C 3 d_Unroller_descend_174 rfl rfl ?_
          refine r_iload_n C 4 d_Unroller_descend_175 rfl rfl ?_
          refine r_iload_n C 5 d_Unroller_descend_176 rfl rfl ?_
          refine r_aload C 0 d_Unroller_descend_177 rfl ?_
          refine j_callV C (ap_makeFiltered (h_makeFiltered e rfl) (u := u) (s := s) (ss := ss) (la := la) (ke := ke) (lc := lc) (uw := uw) (uh := uh) (ri := ri) (mi := mi) (tm := tm) (lev := lev) (ru := ru) (sa := sa) (ps := ps) (to := to) (gs := gs) (rc := rc) (pn := pn) (RU := RU) (SA := SA) (PL := PL) (SS := SS) (KE := KE) (TO := TO) (LA := LA) (PP := PP) (acc := acc) (lr := lr1) (j := j) (z := z) (w := 14) (by first | assumption | omega | rfl) (by first | assumption | omega | rfl) (by first | assumption | omega | rfl) (by first | assumption | omega | rfl) (by first | assumption | omega | rfl) (by first | assumption | omega | rfl) (hd1) (hok2) (hU) (h256) (by omega) (hla2) (by first | assumption | omega | rfl) (hjz) (hset) (by first | assumption | omega | rfl)) (Sp.pool (Sp.of (wr := []) [0, 1, 2, 3, 4, 5, 6, 7, 8] [] rfl rfl rfl rfl (by decide)) PP) d_Unroller_descend_179 lk_Unroller_124 mw_Unroller_makeFiltered vw_Unroller_makeFiltered (q0 := 0) rfl rfl (fit_of hR (by first | decide | (simp only [rmk]; omega)) (by first | decide | (simp only [rmk]; omega)) (by first | decide | (simp only [rmk]; omega)) (by first | decide | (simp only [rmk]; omega))) rfl (cat8 (Nat.le_of_ble_eq_true rfl)) (As := [.int (nI lev), .int (nI j), .int (nI z), .ref (g.2.2.1 14)]) (rest := []) rfl (fun r_179 w_179 hp_179 => ?_)
          obtain ⟨mi2_179, tm2_179, rc2_179, pn2_179, RU2_179, SA2_179, PL2_179, SS2_179, KE2_179, TO2_179, rfl, rfl, hU2_179, hfr_179, h2562_179⟩ := hp_179
          refine r_afterP (X := [(u, .inr (8, [.ref s, .ref ss, .ref la, .ref ke, .int (nI lc), .int (nI uw), .int (nI uh), .int (nI ri), .int mi2_179, .int (bI tm2_179)])), (ss, .inl (g.2.1 0, 10496, .inl (aI SS2_179))), (la, .inl (g.2.1 4, 40, .inr (.inr (.inr (.inr LA))))), (ke, .inl (g.2.1 0, 256, .inl (aI KE2_179))), (s, .inr (7, [.ref ru, .ref sa, .ref ps, .ref to, .int (nI gs), .int (nI rc2_179), .int (nI pn2_179)])), (ru, .inl (g.2.1 0, 4000, .inl (aI RU2_179))), (sa, .inl (g.2.1 0, 4001, .inl (aI SA2_179))), (ps, .inl (g.2.1 0, 30000, .inl (aI PL2_179))), (to, .inl (g.2.1 2, 256, .inl (zI TO2_179)))]) (X' := [(u, .inr (8, [.ref s, .ref ss, .ref la, .ref ke, .int (nI lc), .int (nI uw), .int (nI uh), .int (nI ri), .int mi2_179, .int (bI tm2_179)])), (ss, .inl (g.2.1 0, 10496, .inl (aI SS2_179))), (la, .inl (g.2.1 4, 40, .inr (.inr (.inr (.inr LA))))), (ke, .inl (g.2.1 0, 256, .inl (aI KE2_179))), (s, .inr (7, [.ref ru, .ref sa, .ref ps, .ref to, .int (nI gs), .int (nI rc2_179), .int (nI pn2_179)])), (ru, .inl (g.2.1 0, 4000, .inl (aI RU2_179))), (sa, .inl (g.2.1 0, 4001, .inl (aI SA2_179))), (ps, .inl (g.2.1 0, 30000, .inl (aI PL2_179))), (to, .inl (g.2.1 2, 256, .inl (zI TO2_179)))]) (pl := PP) (st' := []) (n1 := 0) (n2 := 0) [0, 1, 2, 3, 4, 5, 6, 7, 8] rfl rfl rfl rfl rfl rfl ?_
          refine r_goto C 194 d_Unroller_descend_182 (by decide) ?_
          refine r_vret C E d_Unroller_descend_194 (by first | decide | omega | (simp only [rmk]; omega)) (by first | decide | omega | (simp only [rmk]; omega)) ?_
          exact ⟨_, _, _, _, _, _, _, _, _, _, rfl, rfl, by rw [show unr uw uh ((14, f, s2) :: lr1) (segL SS j z) = unrs (unr uw uh lr1) ([(segL SS j z).filter (passB uw uh 14)]) from rfl]; exact hU2_179, hfr_179, h2562_179⟩
        · skip
          obtain ⟨tW, hZW, hTW⟩ := C.2.2.2.2.2.2.2.1.2.2.2.2.1
          refine r_gets C d_Unroller_descend_55 hZW fs_Unroller_100 ?_
          refine r_aload C 0 d_Unroller_descend_58 rfl ?_
          refine j_ord C (u := 15) (by first | decide | omega) d_Unroller_descend_60 (fit_of hR (by first | decide | (simp only [rmk]; omega)) (by first | decide | (simp only [rmk]; omega)) (by first | decide | (simp only [rmk]; omega)) (by first | decide | (simp only [rmk]; omega))) (cat8 (Nat.le_of_ble_eq_true rfl)) ?_
          refine r_ti C d_Unroller_descend_63 hTW (by first | decide | omega) (by decide) ?_
          refine r_eqS (st' := [.int (wSw.getD 15 0)]) rfl ?_
          refine r_tableIn C 173 d_Unroller_descend_64 (by decide) (by decide) rfl (by decide) ?_
          refine r_aload_n C 2 d_Unroller_descend_173 rfl rfl ?_
          refine r_iload_n C 3 d_Unroller_descend_174 rfl rfl ?_
          refine r_iload_n C 4 d_Unroller_descend_175 rfl rfl ?_
          refine r_iload_n C 5 d_Unroller_descend_176 rfl rfl ?_
          refine r_aload C 0 d_Unroller_descend_177 rfl ?_
          refine j_callV C (ap_makeFiltered (h_makeFiltered e rfl) (u := u) (s := s) (ss := ss) (la := la) (ke := ke) (lc := lc) (uw := uw) (uh := uh) (ri := ri) (mi := mi) (tm := tm) (lev := lev) (ru := ru) (sa := sa) (ps := ps) (to := to) (gs := gs) (rc := rc) (pn := pn) (RU := RU) (SA := SA) (PL := PL) (SS := SS) (KE := KE) (TO := TO) (LA := LA) (PP := PP) (acc := acc) (lr := lr1) (j := j) (z := z) (w := 15) (by first | assumption | omega | rfl) (by first | assumption | omega | rfl) (by first | assumption | omega | rfl) (by first | assumption | omega | rfl) (by first | assumption | omega | rfl) (by first | assumption | omega | rfl) (hd1) (hok2) (hU) (h256) (by omega) (hla2) (by first | assumption | omega | rfl) (hjz) (hset) (by first | assumption | omega | rfl)) (Sp.pool (Sp.of (wr := []) [0, 1, 2, 3, 4, 5, 6, 7, 8] [] rfl rfl rfl rfl (by decide)) PP) d_Unroller_descend_179 lk_Unroller_124 mw_Unroller_makeFiltered vw_Unroller_makeFiltered (q0 := 0) rfl rfl (fit_of hR (by first | decide | (simp only [rmk]; omega)) (by first | decide | (simp only [rmk]; omega)) (by first | decide | (simp only [rmk]; omega)) (by first | decide | (simp only [rmk]; omega))) rfl (cat8 (Nat.le_of_ble_eq_true rfl)) (As := [.int (nI lev), .int (nI j), .int (nI z), .ref (g.2.2.1 15)]) (rest := []) rfl (fun r_179 w_179 hp_179 => ?_)
          obtain ⟨mi2_179, tm2_179, rc2_179, pn2_179, RU2_179, SA2_179, PL2_179, SS2_179, KE2_179, TO2_179, rfl, rfl, hU2_179, hfr_179, h2562_179⟩ := hp_179
          refine r_afterP (X := [(u, .inr (8, [.ref s, .ref ss, .ref la, .ref ke, .int (nI lc), .int (nI uw), .int (nI uh), .int (nI ri), .int mi2_179, .int (bI tm2_179)])), (ss, .inl (g.2.1 0, 10496, .inl (aI SS2_179))), (la, .inl (g.2.1 4, 40, .inr (.inr (.inr (.inr LA))))), (ke, .inl (g.2.1 0, 256, .inl (aI KE2_179))), (s, .inr (7, [.ref ru, .ref sa, .ref ps, .ref to, .int (nI gs), .int (nI rc2_179), .int (nI pn2_179)])), (ru, .inl (g.2.1 0, 4000, .inl (aI RU2_179))), (sa, .inl (g.2.1 0, 4001, .inl (aI SA2_179))), (ps, .inl (g.2.1 0, 30000, .inl (aI PL2_179))), (to, .inl (g.2.1 2, 256, .inl (zI TO2_179)))]) (X' := [(u, .inr (8, [.ref s, .ref ss, .ref la, .ref ke, .int (nI lc), .int (nI uw), .int (nI uh), .int (nI ri), .int mi2_179, .int (bI tm2_179)])), (ss, .inl (g.2.1 0, 10496, .inl (aI SS2_179))), (la, .inl (g.2.1 4, 40, .inr (.inr (.inr (.inr LA))))), (ke, .inl (g.2.1 0, 256, .inl (aI KE2_179))), (s, .inr (7, [.ref ru, .ref sa, .ref ps, .ref to, .int (nI gs), .int (nI rc2_179), .int (nI pn2_179)])), (ru, .inl (g.2.1 0, 4000, .inl (aI RU2_179))), (sa, .inl (g.2.1 0, 4001, .inl (aI SA2_179))), (ps, .inl (g.2.1 0, 30000, .inl (aI PL2_179))), (to, .inl (g.2.1 2, 256, .inl (zI TO2_179)))]) (pl := PP) (st' := []) (n1 := 0) (n2 := 0) [0, 1, 2, 3, 4, 5, 6, 7, 8] rfl rfl rfl rfl rfl rfl ?_
          refine r_goto C 194 d_Unroller_descend_182 (by decide) ?_
          refine r_vret C E d_Unroller_descend_194 (by first | decide | omega | (simp only [rmk]; omega)) (by first | decide | omega | (simp only [rmk]; omega)) ?_
          exact ⟨_, _, _, _, _, _, _, _, _, _, rfl, rfl, by rw [show unr uw uh ((15, f, s2) :: lr1) (segL SS j z) = unrs (unr uw uh lr1) ([(segL SS j z).filter (passB uw uh 15)]) from rfl]; exact hU2_179, hfr_179, h2562_179⟩
      · exact absurd c_15 (by omega)
