section SPL
variable {ST SB CH : Nat → Nat} {lv fr z i j p q uw uh cnt : Nat} {Cs : List (List Nat)} {c : List Nat}
theorem lv_0 : LvC ST (up SB (616 * lv) 0) (up CH lv 0) lv [] := ⟨⟨up_self _ _ _, fun i c h => by cases h⟩, up_self _ _ _⟩
theorem fr_0 : LvF lv ST SB CH ST (up SB (616 * lv) 0) (up CH lv 0) := ⟨fun _ _ => rfl, fun t h => up_ne _ _ (by omega), fun j h => up_ne _ _ (by omega)⟩
/-- a set of the level is being made -/
def LvB (ST SB CH : Nat → Nat) (lv : Nat) (Cs : List (List Nat)) (c : List Nat) (cnt : Nat) : Prop := LvA ST SB lv (Cs ++ [c]) ∧ CH lv = Cs.length ∧ SB (616 * lv + CH lv + 1) = cnt + c.length ∧ SB (616 * lv + CH lv) = cnt
theorem lb_beg (h : LvC ST SB CH lv Cs) (hc : SB (616 * lv + CH lv) = cnt) : LvB ST (up SB (616 * lv + CH lv + 1) (SB (616 * lv + CH lv))) CH lv Cs [] cnt := by
  obtain ⟨h1, h2⟩ := h
  refine ⟨by rw [h2]; exact lv_begin h1, h2, by rw [up_self]; exact hc, by rw [up_ne _ _ (by omega)]; exact hc⟩
theorem lb_add (h : LvB ST SB CH lv Cs c cnt) : LvB (up ST (17000 * lv + SB (616 * lv + CH lv + 1)) p) (up SB (616 * lv + CH lv + 1) (SB (616 * lv + CH lv + 1) + 1)) CH lv Cs (c ++ [p]) cnt := by
  obtain ⟨h1, h2, h3, h4⟩ := h
  refine ⟨by rw [h2]; exact lv_add h1, h2, ?_, by rw [up_ne _ _ (by omega)]; exact h4⟩
  rw [up_self, h3, List.length_append]
  rfl
theorem lb_end (h : LvB ST SB CH lv Cs c cnt) : LvC ST SB (up CH lv (CH lv + 1)) lv (Cs ++ [c]) ∧ SB (616 * lv + up CH lv (CH lv + 1) lv) = cnt + c.length := by
  obtain ⟨h1, h2, h3, h4⟩ := h
  refine ⟨⟨h1, by rw [up_self, h2, List.length_append]; rfl⟩, ?_⟩
  rw [up_self]
  exact h3
theorem fb_beg {a : Nat} : LvF lv ST SB CH ST (up SB (616 * lv + CH lv + 1) a) CH := ⟨fun _ _ => rfl, fun t h => up_ne _ _ (by omega), fun _ _ => rfl⟩
theorem fb_add {a b : Nat} : LvF lv ST SB CH (up ST (17000 * lv + b) p) (up SB (616 * lv + CH lv + 1) a) CH := ⟨fun t h => up_ne _ _ (by omega), fun t h => up_ne _ _ (by omega), fun _ _ => rfl⟩
theorem fb_end {a : Nat} : LvF lv ST SB CH ST SB (up CH lv a) := ⟨fun _ _ => rfl, fun _ _ => rfl, fun j h => up_ne _ _ (by omega)⟩
/-- a set of the level is being made, if it has a place -/
def LvP (ST SB CH : Nat → Nat) (lv : Nat) (Cs : List (List Nat)) (c : List Nat) (cnt : Nat) (an : Bool) : Prop := (an = false ∧ c = [] ∧ LvC ST SB CH lv Cs ∧ SB (616 * lv + CH lv) = cnt) ∨ (an = true ∧ c ≠ [] ∧ LvB ST SB CH lv Cs c cnt)
theorem lp_ch {an : Bool} (h : LvP ST SB CH lv Cs c cnt an) : CH lv = Cs.length := by
  rcases h with ⟨_, _, a, _⟩ | ⟨_, _, a⟩
  · exact a.2
  · exact a.2.1
theorem lp_f (h : LvP ST SB CH lv Cs c cnt false) : c = [] ∧ LvC ST SB CH lv Cs ∧ SB (616 * lv + CH lv) = cnt := by
  rcases h with ⟨_, a⟩ | ⟨a, _⟩
  · exact a
  · cases a
theorem lp_t (h : LvP ST SB CH lv Cs c cnt true) : c ≠ [] ∧ LvB ST SB CH lv Cs c cnt := by
  rcases h with ⟨a, _⟩ | ⟨_, a⟩
  · cases a
  · exact a
theorem flt_s {f : Nat → Bool} (h : i < z) : ((segL ST fr z).take (i + 1)).filter f = ((segL ST fr z).take i).filter f ++ (if f (ST (fr + i)) = true then [ST (fr + i)] else []) := by
  rw [List.take_add_one, segL_get h, List.filter_append]
  congr 1
  show [ST (fr + i)].filter f = _
  by_cases e : f (ST (fr + i)) = true
  · rw [List.filter_cons_of_pos e, if_pos e]; rfl
  · rw [List.filter_cons_of_neg e, if_neg e]; rfl
theorem flt_t {f : Nat → Bool} (h : i < z) (e : f (ST (fr + i)) = true) : ((segL ST fr z).take (i + 1)).filter f = ((segL ST fr z).take i).filter f ++ [ST (fr + i)] := by rw [flt_s h, if_pos e]
theorem flt_f {f : Nat → Bool} (h : i < z) (e : f (ST (fr + i)) = false) : ((segL ST fr z).take (i + 1)).filter f = ((segL ST fr z).take i).filter f := by rw [flt_s h, if_neg (by rw [e]; decide), List.append_nil]
theorem wn_go {k len : Nat} {X : List (List Nat)} (h : k + len ≤ z) (hI : Cs ++ (wins len (segL ST fr z)).drop k = X) : Cs ++ [segL ST (fr + k) len] ++ (wins len (segL ST fr z)).drop (k + 1) = X := by
  rw [wins_go h] at hI
  rw [← hI, List.append_assoc]
  rfl
theorem tk_len : ((segL ST fr z).take i).length ≤ z := by rw [List.length_take, segL_len]; omega
theorem cnt_0 {key : Nat → Nat} {L : List Nat} : (L.filter fun p => decide (key p < 0)).length = 0 := by simp
theorem grp_b {key : Nat → Nat} {gg k : Nat} : ((segL ST fr z).filter fun p => decide (key p < gg)).length + (((segL ST fr z).take k).filter fun p => key p == gg).length ≤ z := by
  have a := cnt_s (key := key) (m := gg) (L := segL ST fr z)
  have b : (((segL ST fr z).take k).filter fun p => key p == gg).length ≤ _ := flt_take
  have c : ((segL ST fr z).filter fun p => decide (key p < gg + 1)).length ≤ (segL ST fr z).length := List.length_filter_le _ _
  rw [segL_len] at c
  omega
section KI2
variable {f s : Option Nat} {w : Nat} {L : List Nat}
theorem kd_win {len : Nat} (hok : LyOK (w + 1, f, s)) (h : (w = 4 ∧ len = 1) ∨ (w = 5 ∧ len = 2) ∨ (w = 6 ∧ len = f.getD 0)) : kids uw uh (w + 1, f, s) L = wins len L ∧ 1 ≤ len ∧ len ≤ 256 := by
  rcases h with ⟨rfl, rfl⟩ | ⟨rfl, rfl⟩ | ⟨rfl, rfl⟩
  · exact ⟨rfl, by decide, by decide⟩
  · exact ⟨rfl, by decide, by decide⟩
  · obtain ⟨f0, e, h1, h2⟩ := hok.2.2 rfl
    obtain rfl : f = some f0 := e
    exact ⟨rfl, h1, h2⟩
theorem kd_side (h : w = 7) : kids uw uh (w + 1, f, s) L = L.flatMap (sideP uw L) := by subst h; rfl
theorem kd_cor (h : w = 8) : kids uw uh (w + 1, f, s) L = L.flatMap (corP uw L) := by subst h; rfl
theorem kd_flt (hok : LyOK (w + 1, f, s)) (h : 11 ≤ w) : kids uw uh (w + 1, f, s) L = [L.filter (passB uw uh (w + 1))] ∧ (w = 11 ∨ w = 12 ∨ w = 13 ∨ w = 14) := by
  have := hok.1.2
  have h4 : w = 11 ∨ w = 12 ∨ w = 13 ∨ w = 14 := by
    simp only at this
    omega
  refine ⟨?_, h4⟩
  rcases h4 with rfl | rfl | rfl | rfl <;> rfl
theorem kd_part (hok : LyOK (w + 1, f, s)) (h : ¬ 11 ≤ w) (h1 : ¬ w = 4) (h2 : ¬ w = 5) (h3 : ¬ w = 6) (h4 : ¬ w = 7) (h5 : ¬ w = 8) : kids uw uh (w + 1, f, s) L = partL (keyN uw (w + 1) f s) L ∧ (w = 1 ∨ w = 2 ∨ w = 3 ∨ w = 9 ∨ w = 10) := by
  have := hok.1.1
  have h6 : w = 1 ∨ w = 2 ∨ w = 3 ∨ w = 9 ∨ w = 10 := by
    simp only at this
    omega
  refine ⟨?_, h6⟩
  rcases h6 with rfl | rfl | rfl | rfl | rfl <;> rfl
end KI2
end SPL

set_option maxRecDepth 100000 in
theorem fi_Mo_77 : FI R_Mo 77 R_Mo F_Mo 40 := Or.inl (gw (i := 940) rfl rfl)
set_option maxRecDepth 100000 in
theorem lk_Mo_234 : LK R_Mo 234 y_Mo_sides := Or.inl (gw (i := 1163) rfl rfl)
set_option maxRecDepth 100000 in
theorem lk_Mo_237 : LK R_Mo 237 y_Mo_corners := Or.inl (gw (i := 1190) rfl rfl)
set_option maxRecDepth 100000 in
theorem lk_Mo_250 : LK R_Mo 250 y_Mo_passes := Or.inl (gw (i := 1194) rfl rfl)
set_option maxRecDepth 100000 in
theorem lk_Mo_253 : LK R_Mo 253 y_Mo_groupOf := Or.inl (gw (i := 1198) rfl rfl)
set_option maxRecDepth 100000 in
theorem mw_Mo_corners : MW y_Mo_corners b_Mo_corners 6 none 3 := ⟨(gw (i := 1193) rfl rfl), (gw (i := 80) rfl rfl), by decide +kernel⟩
set_option maxRecDepth 100000 in
theorem mw_Mo_groupOf : MW y_Mo_groupOf b_Mo_groupOf 5 (some .int) 4 := ⟨(gw (i := 1201) rfl rfl), (gw (i := 80) rfl rfl), by decide +kernel⟩
set_option maxRecDepth 100000 in
theorem mw_Mo_passes : MW y_Mo_passes b_Mo_passes 4 (some .boolean) 2 := ⟨(gw (i := 1197) rfl rfl), (gw (i := 80) rfl rfl), by decide +kernel⟩
set_option maxRecDepth 100000 in
theorem mw_Mo_sides : MW y_Mo_sides b_Mo_sides 8 none 3 := ⟨(gw (i := 1166) rfl rfl), (gw (i := 80) rfl rfl), by decide +kernel⟩
set_option maxRecDepth 100000 in
theorem vw_Mo_corners : VW y_Mo_corners := ⟨(gw (i := 1192) rfl rfl), (gw (i := 68) rfl rfl)⟩
set_option maxRecDepth 100000 in
theorem vw_Mo_groupOf : VW y_Mo_groupOf := ⟨(gw (i := 1200) rfl rfl), (gw (i := 70) rfl rfl)⟩
set_option maxRecDepth 100000 in
theorem vw_Mo_passes : VW y_Mo_passes := ⟨(gw (i := 1196) rfl rfl), (gw (i := 69) rfl rfl)⟩
set_option maxRecDepth 100000 in
theorem vw_Mo_sides : VW y_Mo_sides := ⟨(gw (i := 1165) rfl rfl), (gw (i := 62) rfl rfl)⟩
theorem d_Mo_split_0 : decode b_Mo_split 0 = .ok (.aload_n 0, 1) := by decide +kernel
theorem d_Mo_split_1 : decode b_Mo_split 1 = .ok (.getfield 74, 3) := by decide +kernel
theorem d_Mo_split_4 : decode b_Mo_split 4 = .ok (.iload_n 1, 1) := by decide +kernel
theorem d_Mo_split_5 : decode b_Mo_split 5 = .ok (.iconst 0, 1) := by decide +kernel
theorem d_Mo_split_6 : decode b_Mo_split 6 = .ok (.iastore, 1) := by decide +kernel
theorem d_Mo_split_7 : decode b_Mo_split 7 = .ok (.aload_n 0, 1) := by decide +kernel
theorem d_Mo_split_8 : decode b_Mo_split 8 = .ok (.getfield 77, 3) := by decide +kernel
theorem d_Mo_split_11 : decode b_Mo_split 11 = .ok (.iload_n 1, 1) := by decide +kernel
theorem d_Mo_split_12 : decode b_Mo_split 12 = .ok (.iconst 0, 1) := by decide +kernel
theorem d_Mo_split_13 : decode b_Mo_split 13 = .ok (.iastore, 1) := by decide +kernel
theorem d_Mo_split_14 : decode b_Mo_split 14 = .ok (.aload_n 0, 1) := by decide +kernel
theorem d_Mo_split_15 : decode b_Mo_split 15 = .ok (.getfield 71, 3) := by decide +kernel
theorem d_Mo_split_18 : decode b_Mo_split 18 = .ok (.sipush 616, 3) := by decide +kernel
theorem d_Mo_split_21 : decode b_Mo_split 21 = .ok (.iload_n 1, 1) := by decide +kernel
theorem d_Mo_split_22 : decode b_Mo_split 22 = .ok (.imul, 1) := by decide +kernel
theorem d_Mo_split_23 : decode b_Mo_split 23 = .ok (.iconst 0, 1) := by decide +kernel
theorem d_Mo_split_24 : decode b_Mo_split 24 = .ok (.iastore, 1) := by decide +kernel
theorem d_Mo_split_25 : decode b_Mo_split 25 = .ok (.iload_n 2, 1) := by decide +kernel
theorem d_Mo_split_26 : decode b_Mo_split 26 = .ok (.bipush 7, 2) := by decide +kernel
theorem d_Mo_split_28 : decode b_Mo_split 28 = .ok (.if_icmp .ne 15, 3) := by decide +kernel
theorem d_Mo_split_31 : decode b_Mo_split 31 = .ok (.aload_n 0, 1) := by decide +kernel
theorem d_Mo_split_32 : decode b_Mo_split 32 = .ok (.iload_n 1, 1) := by decide +kernel
theorem d_Mo_split_33 : decode b_Mo_split 33 = .ok (.iload 5, 2) := by decide +kernel
theorem d_Mo_split_35 : decode b_Mo_split 35 = .ok (.iload 6, 2) := by decide +kernel
theorem d_Mo_split_37 : decode b_Mo_split 37 = .ok (.invokevirtual 234, 3) := by decide +kernel
theorem d_Mo_split_40 : decode b_Mo_split 40 = .ok (.goto 292, 3) := by decide +kernel
theorem d_Mo_split_43 : decode b_Mo_split 43 = .ok (.iload_n 2, 1) := by decide +kernel
theorem d_Mo_split_44 : decode b_Mo_split 44 = .ok (.bipush 8, 2) := by decide +kernel
theorem d_Mo_split_46 : decode b_Mo_split 46 = .ok (.if_icmp .ne 15, 3) := by decide +kernel
theorem d_Mo_split_49 : decode b_Mo_split 49 = .ok (.aload_n 0, 1) := by decide +kernel
theorem d_Mo_split_50 : decode b_Mo_split 50 = .ok (.iload_n 1, 1) := by decide +kernel
theorem d_Mo_split_51 : decode b_Mo_split 51 = .ok (.iload 5, 2) := by decide +kernel
theorem d_Mo_split_53 : decode b_Mo_split 53 = .ok (.iload 6, 2) := by decide +kernel
theorem d_Mo_split_55 : decode b_Mo_split 55 = .ok (.invokevirtual 237, 3) := by decide +kernel
theorem d_Mo_split_58 : decode b_Mo_split 58 = .ok (.goto 274, 3) := by decide +kernel
theorem d_Mo_split_61 : decode b_Mo_split 61 = .ok (.iload_n 2, 1) := by decide +kernel
theorem d_Mo_split_62 : decode b_Mo_split 62 = .ok (.iconst 4, 1) := by decide +kernel
theorem d_Mo_split_63 : decode b_Mo_split 63 = .ok (.if_icmp .eq 14, 3) := by decide +kernel
theorem d_Mo_split_66 : decode b_Mo_split 66 = .ok (.iload_n 2, 1) := by decide +kernel
theorem d_Mo_split_67 : decode b_Mo_split 67 = .ok (.iconst 5, 1) := by decide +kernel
theorem d_Mo_split_68 : decode b_Mo_split 68 = .ok (.if_icmp .eq 9, 3) := by decide +kernel
theorem d_Mo_split_71 : decode b_Mo_split 71 = .ok (.iload_n 2, 1) := by decide +kernel
theorem d_Mo_split_72 : decode b_Mo_split 72 = .ok (.bipush 6, 2) := by decide +kernel
theorem d_Mo_split_74 : decode b_Mo_split 74 = .ok (.if_icmp .ne 90, 3) := by decide +kernel
theorem d_Mo_split_77 : decode b_Mo_split 77 = .ok (.iload_n 2, 1) := by decide +kernel
theorem d_Mo_split_78 : decode b_Mo_split 78 = .ok (.iconst 4, 1) := by decide +kernel
theorem d_Mo_split_79 : decode b_Mo_split 79 = .ok (.if_icmp .ne 7, 3) := by decide +kernel
theorem d_Mo_split_82 : decode b_Mo_split 82 = .ok (.iconst 1, 1) := by decide +kernel
theorem d_Mo_split_83 : decode b_Mo_split 83 = .ok (.goto 13, 3) := by decide +kernel
theorem d_Mo_split_86 : decode b_Mo_split 86 = .ok (.iload_n 2, 1) := by decide +kernel
theorem d_Mo_split_87 : decode b_Mo_split 87 = .ok (.iconst 5, 1) := by decide +kernel
theorem d_Mo_split_88 : decode b_Mo_split 88 = .ok (.if_icmp .ne 7, 3) := by decide +kernel
theorem d_Mo_split_91 : decode b_Mo_split 91 = .ok (.iconst 2, 1) := by decide +kernel
theorem d_Mo_split_92 : decode b_Mo_split 92 = .ok (.goto 4, 3) := by decide +kernel
theorem d_Mo_split_95 : decode b_Mo_split 95 = .ok (.iload_n 3, 1) := by decide +kernel
theorem d_Mo_split_96 : decode b_Mo_split 96 = .ok (.istore 7, 2) := by decide +kernel
theorem d_Mo_split_98 : decode b_Mo_split 98 = .ok (.iconst 0, 1) := by decide +kernel
theorem d_Mo_split_99 : decode b_Mo_split 99 = .ok (.istore 8, 2) := by decide +kernel
theorem d_Mo_split_101 : decode b_Mo_split 101 = .ok (.iload 8, 2) := by decide +kernel
theorem d_Mo_split_103 : decode b_Mo_split 103 = .ok (.iload 7, 2) := by decide +kernel
theorem d_Mo_split_105 : decode b_Mo_split 105 = .ok (.iadd, 1) := by decide +kernel
theorem d_Mo_split_106 : decode b_Mo_split 106 = .ok (.iload 6, 2) := by decide +kernel
theorem d_Mo_split_108 : decode b_Mo_split 108 = .ok (.if_icmp .gt 53, 3) := by decide +kernel
theorem d_Mo_split_111 : decode b_Mo_split 111 = .ok (.aload_n 0, 1) := by decide +kernel
theorem d_Mo_split_112 : decode b_Mo_split 112 = .ok (.iload_n 1, 1) := by decide +kernel
theorem d_Mo_split_113 : decode b_Mo_split 113 = .ok (.invokevirtual 240, 3) := by decide +kernel
theorem d_Mo_split_116 : decode b_Mo_split 116 = .ok (.iconst 0, 1) := by decide +kernel
theorem d_Mo_split_117 : decode b_Mo_split 117 = .ok (.istore 9, 2) := by decide +kernel
theorem d_Mo_split_119 : decode b_Mo_split 119 = .ok (.iload 9, 2) := by decide +kernel
theorem d_Mo_split_121 : decode b_Mo_split 121 = .ok (.iload 7, 2) := by decide +kernel
theorem d_Mo_split_123 : decode b_Mo_split 123 = .ok (.if_icmp .ge 27, 3) := by decide +kernel
theorem d_Mo_split_126 : decode b_Mo_split 126 = .ok (.aload_n 0, 1) := by decide +kernel
theorem d_Mo_split_127 : decode b_Mo_split 127 = .ok (.iload_n 1, 1) := by decide +kernel
theorem d_Mo_split_128 : decode b_Mo_split 128 = .ok (.aload_n 0, 1) := by decide +kernel
theorem d_Mo_split_129 : decode b_Mo_split 129 = .ok (.getfield 68, 3) := by decide +kernel
theorem d_Mo_split_132 : decode b_Mo_split 132 = .ok (.iload 5, 2) := by decide +kernel
theorem d_Mo_split_134 : decode b_Mo_split 134 = .ok (.iload 8, 2) := by decide +kernel
theorem d_Mo_split_136 : decode b_Mo_split 136 = .ok (.iadd, 1) := by decide +kernel
theorem d_Mo_split_137 : decode b_Mo_split 137 = .ok (.iload 9, 2) := by decide +kernel
theorem d_Mo_split_139 : decode b_Mo_split 139 = .ok (.iadd, 1) := by decide +kernel
theorem d_Mo_split_140 : decode b_Mo_split 140 = .ok (.iaload, 1) := by decide +kernel
theorem d_Mo_split_141 : decode b_Mo_split 141 = .ok (.invokevirtual 243, 3) := by decide +kernel
theorem d_Mo_split_144 : decode b_Mo_split 144 = .ok (.iinc 9 1, 3) := by decide +kernel
theorem d_Mo_split_147 : decode b_Mo_split 147 = .ok (.goto (-28), 3) := by decide +kernel
theorem d_Mo_split_150 : decode b_Mo_split 150 = .ok (.aload_n 0, 1) := by decide +kernel
theorem d_Mo_split_151 : decode b_Mo_split 151 = .ok (.iload_n 1, 1) := by decide +kernel
theorem d_Mo_split_152 : decode b_Mo_split 152 = .ok (.invokevirtual 247, 3) := by decide +kernel
theorem d_Mo_split_155 : decode b_Mo_split 155 = .ok (.iinc 8 1, 3) := by decide +kernel
theorem d_Mo_split_158 : decode b_Mo_split 158 = .ok (.goto (-57), 3) := by decide +kernel
theorem d_Mo_split_161 : decode b_Mo_split 161 = .ok (.goto 171, 3) := by decide +kernel
theorem d_Mo_split_164 : decode b_Mo_split 164 = .ok (.iload_n 2, 1) := by decide +kernel
theorem d_Mo_split_165 : decode b_Mo_split 165 = .ok (.bipush 11, 2) := by decide +kernel
theorem d_Mo_split_167 : decode b_Mo_split 167 = .ok (.if_icmp .lt 65, 3) := by decide +kernel
theorem d_Mo_split_170 : decode b_Mo_split 170 = .ok (.aload_n 0, 1) := by decide +kernel
theorem d_Mo_split_171 : decode b_Mo_split 171 = .ok (.iload_n 1, 1) := by decide +kernel
theorem d_Mo_split_172 : decode b_Mo_split 172 = .ok (.invokevirtual 240, 3) := by decide +kernel
theorem d_Mo_split_175 : decode b_Mo_split 175 = .ok (.iconst 0, 1) := by decide +kernel
theorem d_Mo_split_176 : decode b_Mo_split 176 = .ok (.istore 7, 2) := by decide +kernel
theorem d_Mo_split_178 : decode b_Mo_split 178 = .ok (.iload 7, 2) := by decide +kernel
theorem d_Mo_split_180 : decode b_Mo_split 180 = .ok (.iload 6, 2) := by decide +kernel
theorem d_Mo_split_182 : decode b_Mo_split 182 = .ok (.if_icmp .ge 42, 3) := by decide +kernel
theorem d_Mo_split_185 : decode b_Mo_split 185 = .ok (.aload_n 0, 1) := by decide +kernel
theorem d_Mo_split_186 : decode b_Mo_split 186 = .ok (.iload_n 2, 1) := by decide +kernel
theorem d_Mo_split_187 : decode b_Mo_split 187 = .ok (.aload_n 0, 1) := by decide +kernel
theorem d_Mo_split_188 : decode b_Mo_split 188 = .ok (.getfield 68, 3) := by decide +kernel
theorem d_Mo_split_191 : decode b_Mo_split 191 = .ok (.iload 5, 2) := by decide +kernel
theorem d_Mo_split_193 : decode b_Mo_split 193 = .ok (.iload 7, 2) := by decide +kernel
theorem d_Mo_split_195 : decode b_Mo_split 195 = .ok (.iadd, 1) := by decide +kernel
theorem d_Mo_split_196 : decode b_Mo_split 196 = .ok (.iaload, 1) := by decide +kernel
theorem d_Mo_split_197 : decode b_Mo_split 197 = .ok (.invokevirtual 250, 3) := by decide +kernel
theorem d_Mo_split_200 : decode b_Mo_split 200 = .ok (.ifCond .eq 18, 3) := by decide +kernel
theorem d_Mo_split_203 : decode b_Mo_split 203 = .ok (.aload_n 0, 1) := by decide +kernel
theorem d_Mo_split_204 : decode b_Mo_split 204 = .ok (.iload_n 1, 1) := by decide +kernel
theorem d_Mo_split_205 : decode b_Mo_split 205 = .ok (.aload_n 0, 1) := by decide +kernel
theorem d_Mo_split_206 : decode b_Mo_split 206 = .ok (.getfield 68, 3) := by decide +kernel
theorem d_Mo_split_209 : decode b_Mo_split 209 = .ok (.iload 5, 2) := by decide +kernel
theorem d_Mo_split_211 : decode b_Mo_split 211 = .ok (.iload 7, 2) := by decide +kernel
theorem d_Mo_split_213 : decode b_Mo_split 213 = .ok (.iadd, 1) := by decide +kernel
theorem d_Mo_split_214 : decode b_Mo_split 214 = .ok (.iaload, 1) := by decide +kernel
theorem d_Mo_split_215 : decode b_Mo_split 215 = .ok (.invokevirtual 243, 3) := by decide +kernel
theorem d_Mo_split_218 : decode b_Mo_split 218 = .ok (.iinc 7 1, 3) := by decide +kernel
theorem d_Mo_split_221 : decode b_Mo_split 221 = .ok (.goto (-43), 3) := by decide +kernel
theorem d_Mo_split_224 : decode b_Mo_split 224 = .ok (.aload_n 0, 1) := by decide +kernel
theorem d_Mo_split_225 : decode b_Mo_split 225 = .ok (.iload_n 1, 1) := by decide +kernel
theorem d_Mo_split_226 : decode b_Mo_split 226 = .ok (.invokevirtual 247, 3) := by decide +kernel
theorem d_Mo_split_229 : decode b_Mo_split 229 = .ok (.goto 103, 3) := by decide +kernel
theorem d_Mo_split_232 : decode b_Mo_split 232 = .ok (.iconst 0, 1) := by decide +kernel
theorem d_Mo_split_233 : decode b_Mo_split 233 = .ok (.istore 7, 2) := by decide +kernel
theorem d_Mo_split_235 : decode b_Mo_split 235 = .ok (.iload 7, 2) := by decide +kernel
theorem d_Mo_split_237 : decode b_Mo_split 237 = .ok (.sipush 272, 3) := by decide +kernel
theorem d_Mo_split_240 : decode b_Mo_split 240 = .ok (.if_icmp .ge 92, 3) := by decide +kernel
theorem d_Mo_split_243 : decode b_Mo_split 243 = .ok (.iconst 0, 1) := by decide +kernel
theorem d_Mo_split_244 : decode b_Mo_split 244 = .ok (.istore 8, 2) := by decide +kernel
theorem d_Mo_split_246 : decode b_Mo_split 246 = .ok (.iconst 0, 1) := by decide +kernel
theorem d_Mo_split_247 : decode b_Mo_split 247 = .ok (.istore 9, 2) := by decide +kernel
theorem d_Mo_split_249 : decode b_Mo_split 249 = .ok (.iload 9, 2) := by decide +kernel
theorem d_Mo_split_251 : decode b_Mo_split 251 = .ok (.iload 6, 2) := by decide +kernel
theorem d_Mo_split_253 : decode b_Mo_split 253 = .ok (.if_icmp .ge 63, 3) := by decide +kernel
theorem d_Mo_split_256 : decode b_Mo_split 256 = .ok (.aload_n 0, 1) := by decide +kernel
theorem d_Mo_split_257 : decode b_Mo_split 257 = .ok (.iload_n 2, 1) := by decide +kernel
theorem d_Mo_split_258 : decode b_Mo_split 258 = .ok (.iload_n 3, 1) := by decide +kernel
theorem d_Mo_split_259 : decode b_Mo_split 259 = .ok (.iload 4, 2) := by decide +kernel
theorem d_Mo_split_261 : decode b_Mo_split 261 = .ok (.aload_n 0, 1) := by decide +kernel
theorem d_Mo_split_262 : decode b_Mo_split 262 = .ok (.getfield 68, 3) := by decide +kernel
theorem d_Mo_split_265 : decode b_Mo_split 265 = .ok (.iload 5, 2) := by decide +kernel
theorem d_Mo_split_267 : decode b_Mo_split 267 = .ok (.iload 9, 2) := by decide +kernel
theorem d_Mo_split_269 : decode b_Mo_split 269 = .ok (.iadd, 1) := by decide +kernel
theorem d_Mo_split_270 : decode b_Mo_split 270 = .ok (.iaload, 1) := by decide +kernel
theorem d_Mo_split_271 : decode b_Mo_split 271 = .ok (.invokevirtual 253, 3) := by decide +kernel
theorem d_Mo_split_274 : decode b_Mo_split 274 = .ok (.iload 7, 2) := by decide +kernel
theorem d_Mo_split_276 : decode b_Mo_split 276 = .ok (.if_icmp .eq 6, 3) := by decide +kernel
theorem d_Mo_split_279 : decode b_Mo_split 279 = .ok (.goto 31, 3) := by decide +kernel
theorem d_Mo_split_282 : decode b_Mo_split 282 = .ok (.iload 8, 2) := by decide +kernel
theorem d_Mo_split_284 : decode b_Mo_split 284 = .ok (.ifCond .ne 8, 3) := by decide +kernel
theorem d_Mo_split_287 : decode b_Mo_split 287 = .ok (.aload_n 0, 1) := by decide +kernel
theorem d_Mo_split_288 : decode b_Mo_split 288 = .ok (.iload_n 1, 1) := by decide +kernel
theorem d_Mo_split_289 : decode b_Mo_split 289 = .ok (.invokevirtual 240, 3) := by decide +kernel
theorem d_Mo_split_292 : decode b_Mo_split 292 = .ok (.iconst 1, 1) := by decide +kernel
theorem d_Mo_split_293 : decode b_Mo_split 293 = .ok (.istore 8, 2) := by decide +kernel
theorem d_Mo_split_295 : decode b_Mo_split 295 = .ok (.aload_n 0, 1) := by decide +kernel
theorem d_Mo_split_296 : decode b_Mo_split 296 = .ok (.iload_n 1, 1) := by decide +kernel
theorem d_Mo_split_297 : decode b_Mo_split 297 = .ok (.aload_n 0, 1) := by decide +kernel
theorem d_Mo_split_298 : decode b_Mo_split 298 = .ok (.getfield 68, 3) := by decide +kernel
theorem d_Mo_split_301 : decode b_Mo_split 301 = .ok (.iload 5, 2) := by decide +kernel
theorem d_Mo_split_303 : decode b_Mo_split 303 = .ok (.iload 9, 2) := by decide +kernel
theorem d_Mo_split_305 : decode b_Mo_split 305 = .ok (.iadd, 1) := by decide +kernel
theorem d_Mo_split_306 : decode b_Mo_split 306 = .ok (.iaload, 1) := by decide +kernel
theorem d_Mo_split_307 : decode b_Mo_split 307 = .ok (.invokevirtual 243, 3) := by decide +kernel
theorem d_Mo_split_310 : decode b_Mo_split 310 = .ok (.iinc 9 1, 3) := by decide +kernel
theorem d_Mo_split_313 : decode b_Mo_split 313 = .ok (.goto (-64), 3) := by decide +kernel
theorem d_Mo_split_316 : decode b_Mo_split 316 = .ok (.iload 8, 2) := by decide +kernel
theorem d_Mo_split_318 : decode b_Mo_split 318 = .ok (.ifCond .eq 8, 3) := by decide +kernel
theorem d_Mo_split_321 : decode b_Mo_split 321 = .ok (.aload_n 0, 1) := by decide +kernel
theorem d_Mo_split_322 : decode b_Mo_split 322 = .ok (.iload_n 1, 1) := by decide +kernel
theorem d_Mo_split_323 : decode b_Mo_split 323 = .ok (.invokevirtual 247, 3) := by decide +kernel
theorem d_Mo_split_326 : decode b_Mo_split 326 = .ok (.iinc 7 1, 3) := by decide +kernel
theorem d_Mo_split_329 : decode b_Mo_split 329 = .ok (.goto (-94), 3) := by decide +kernel
theorem d_Mo_split_332 : decode b_Mo_split 332 = .ok (.return_, 1) := by decide +kernel
set_option maxHeartbeats 4000000 in
set_option maxRecDepth 100000 in
theorem lp_Mo_split_119 (g : GG) {m0 : Nat} {ad : Nat → Nat} {qth : Int32} {qsz : Int32} {qtk : Int32} {qde : Int32} {qru : Int32} {qat : Int32} {qen : Int32} {qto : Int32} {qbe : Int32} {qva : Int32} {qwr : Int32} {qop : Int32} {qrw : Int32} {qir : Bool} {qiu : Bool} {lv : Nat} {fr : Nat} {z : Nat} {uw : Nat} {uh : Nat} {md : Nat} {w : Nat} {f : Option Nat} {s2 : Option Nat} {ST : Nat → Nat} {SB : Nat → Nat} {CH : Nat → Nat} {DN : Nat → Nat} {HA : Nat → Bool} (hw0 : 0 < uw) (hw1 : uw ≤ 16) (hh0 : 0 < uh) (hh1 : uh ≤ 16) (hl : 1 ≤ lv) (hl2 : lv ≤ 40) (hz : z ≤ 256) (hfr : fr + z ≤ 17000 * lv) (hset : SetOK uw uh (segL ST fr z)) (hok : LyOK (w + 1, f, s2)) {len : Nat} {k : Nat} {md2 : Nat} {CHc : Nat → Nat} {Cs : List (List Nat)} {x : X0} {A : Nat → Prop} {Q : State → Prop}  (C : CX x g A R_Mo b_Mo_split 10) (E : RX x g A Q none (fun (r0 : Option Value) (w0 : va_W) => ∃ STc : Nat → Nat, ∃ SBc : Nat → Nat, ∃ CHc : Nat → Nat, ∃ H2 : Nat → Bool, r0 = none ∧ w0 = [(m0, .inr (9, MO ad qth qsz (bI qir) qtk qde qru qat qen qto qbe qva qwr qop (bI qiu) (nI uw) (nI uh) qrw (nI (md + (kids uw uh (w + 1, f, s2) (segL ST fr z)).length)))), ((ad 37), .inl (g.2.1 0, 697000, .inl (aI STc))), ((ad 38), .inl (g.2.1 0, 25300, .inl (aI SBc))), ((ad 39), .inl (g.2.1 0, 41, .inl (aI CHc))), ((ad 41), .inl (g.2.1 2, 256, .inl (zI H2))), ((ad 40), .inl (g.2.1 0, 41, .inl (aI (up DN lv 0))))] ∧ (LvC STc SBc CHc lv (kids uw uh (w + 1, f, s2) (segL ST fr z))) ∧ (LvF lv ST SB CH STc SBc CHc)) (rmk 2 0 0 50).cells (rmk 2 0 0 50).slots) (hR : xR x = (rmk 2 0 0 50)) (hK : ∀ (j : Nat) (STd : Nat → Nat) (SBd : Nat → Nat) (hln : 1 ≤ len ∧ len ≤ 256) (hKd : (kids uw uh (w + 1, f, s2) (segL ST fr z)) = wins len (segL ST fr z)) (gk : k + len ≤ z) (gj : j ≤ len) (gkl : Cs.length = k) (gB : LvB STd SBd CHc lv Cs (segL ST (fr + k) j) (k * len)) (gF : LvF lv ST SB CH STd SBd CHc), len ≤ j → J x g A Q 10 ([(m0, .inr (9, MO ad qth qsz (bI qir) qtk qde qru qat qen qto qbe qva qwr qop (bI qiu) (nI uw) (nI uh) qrw (nI md2))), ((ad 37), .inl (g.2.1 0, 697000, .inl (aI STd))), ((ad 38), .inl (g.2.1 0, 25300, .inl (aI SBd))), ((ad 39), .inl (g.2.1 0, 41, .inl (aI CHc))), ((ad 41), .inl (g.2.1 2, 256, .inl (zI HA))), ((ad 40), .inl (g.2.1 0, 41, .inl (aI (up DN lv 0))))]) [(0, .ref m0), (1, .int (nI lv)), (2, .int (nI w)), (3, .int (nI (f.getD 0))), (4, .int (nI (s2.getD 0))), (5, .int (nI fr)), (6, .int (nI z)), (7, .int (nI len)), (8, .int (nI k)), (9, .int (nI j))] 150 [] 0 0) : ∀ (fuel : Nat) (j : Nat) (STd : Nat → Nat) (SBd : Nat → Nat) (hln : 1 ≤ len ∧ len ≤ 256) (hKd : (kids uw uh (w + 1, f, s2) (segL ST fr z)) = wins len (segL ST fr z)) (gk : k + len ≤ z) (gj : j ≤ len) (gkl : Cs.length = k) (gB : LvB STd SBd CHc lv Cs (segL ST (fr + k) j) (k * len)) (gF : LvF lv ST SB CH STd SBd CHc), len - j < fuel → J x g A Q 10 ([(m0, .inr (9, MO ad qth qsz (bI qir) qtk qde qru qat qen qto qbe qva qwr qop (bI qiu) (nI uw) (nI uh) qrw (nI md2))), ((ad 37), .inl (g.2.1 0, 697000, .inl (aI STd))), ((ad 38), .inl (g.2.1 0, 25300, .inl (aI SBd))), ((ad 39), .inl (g.2.1 0, 41, .inl (aI CHc))), ((ad 41), .inl (g.2.1 2, 256, .inl (zI HA))), ((ad 40), .inl (g.2.1 0, 41, .inl (aI (up DN lv 0))))]) [(0, .ref m0), (1, .int (nI lv)), (2, .int (nI w)), (3, .int (nI (f.getD 0))), (4, .int (nI (s2.getD 0))), (5, .int (nI fr)), (6, .int (nI z)), (7, .int (nI len)), (8, .int (nI k)), (9, .int (nI j))] 119 [] 0 0 := by
  intro fuel
  induction fuel with
  | zero =>
    intro j STd SBd hln hKd gk gj gkl gB gF hm
    exact absurd hm (Nat.not_lt_zero _)
  | succ fuel ih =>
    intro j STd SBd hln hKd gk gj gkl gB gF hm
    refine r_iload C 9 d_Mo_split_119 rfl ?_
    refine r_iload C 7 d_Mo_split_121 rfl ?_
    refine r_ncmp_ge C 150 d_Mo_split_123 (by decide) (by omega) (by omega) (fun c_123 => ?_) (fun c_123 => ?_)
    · skip
      refine r_lv (lv' := [(0, .ref m0), (1, .int (nI lv)), (2, .int (nI w)), (3, .int (nI (f.getD 0))), (4, .int (nI (s2.getD 0))), (5, .int (nI fr)), (6, .int (nI z)), (7, .int (nI len)), (8, .int (nI k)), (9, .int (nI j))]) [0, 1, 2, 3, 4, 5, 6, 7, 8, 9] rfl ?_
      exact hK j STd SBd hln hKd gk gj gkl gB gF c_123
    · skip
      have hfk : STd (fr + k + j) = ST (fr + k + j) := gF.1 _ (by omega)
      have hch : CHc lv ≤ 614 := by rw [gB.2.1, gkl]; omega
      have hwb : (k + 1) * len ≤ 16512 := win_b (by omega)
      rw [Nat.succ_mul] at hwb
      refine r_aload_n C 0 d_Mo_split_126 rfl rfl ?_
      refine r_iload_n C 1 d_Mo_split_127 rfl rfl ?_
      refine r_aload_n C 0 d_Mo_split_128 rfl rfl ?_
      refine r_get C 0 37 d_Mo_split_129 ci_Mo fi_Mo_68 rfl (by decide) rfl rfl ?_
      refine r_iload C 5 d_Mo_split_132 rfl ?_
      refine r_iload C 8 d_Mo_split_134 rfl ?_
      refine r_nadd C d_Mo_split_136 ?_
      refine r_iload C 9 d_Mo_split_137 rfl ?_
      refine r_nadd C d_Mo_split_139 ?_
      refine r_nald C 1 0 d_Mo_split_140 rfl rfl (by omega) (by decide) ?_
      refine r_top (v' := nI (ST (fr + k + j))) (by rw [hfk]) ?_
      refine j_callV C (c_Mo_add g (xl x) (m0 := m0) (ad := ad) (qth := qth) (qsz := qsz) (qtk := qtk) (qde := qde) (qru := qru) (qat := qat) (qen := qen) (qto := qto) (qbe := qbe) (qva := qva) (qwr := qwr) (qop := qop) (qwi := nI uw) (qhe := nI uh) (qrw := qrw) (qma := nI md2) (qir := qir) (qiu := qiu) (lv := lv) (p := ST (fr + k + j)) (SB := SBd) (CH := CHc) (ST := STd) (by first | assumption | omega | rfl) (by first | assumption | omega | rfl) (by rw [gB.2.2.1, segL_len]; omega)) (Sp.of (wr := [((ad 41), .inl (g.2.1 2, 256, .inl (zI HA))), ((ad 40), .inl (g.2.1 0, 41, .inl (aI (up DN lv 0))))]) [0, 2, 3, 1] [4, 5] rfl rfl rfl rfl (by decide)) d_Mo_split_141 lk_Mo_243 mw_Mo_add vw_Mo_add (q0 := 0) rfl rfl (fit_of hR (by first | decide | (simp only [rmk]; omega)) (by first | decide | (simp only [rmk]; omega)) (by first | decide | (simp only [rmk]; omega)) (by first | decide | (simp only [rmk]; omega))) rfl (cat8 (Nat.le_of_ble_eq_true rfl)) (As := [.int (nI lv), .int (nI (ST (fr + k + j)))]) (rest := []) rfl (fun r_141 w_141 hp_141 => ?_)
      obtain ⟨rfl, rfl⟩ := hp_141
      refine r_after (ws' := [(m0, .inr (9, MO ad qth qsz (bI qir) qtk qde qru qat qen qto qbe qva qwr qop (bI qiu) (nI uw) (nI uh) qrw (nI md2))), ((ad 37), .inl (g.2.1 0, 697000, .inl (aI (up STd (17000 * lv + SBd (616 * lv + CHc lv + 1)) (ST (fr + k + j)))))), ((ad 38), .inl (g.2.1 0, 25300, .inl (aI (up SBd (616 * lv + CHc lv + 1) (SBd (616 * lv + CHc lv + 1) + 1))))), ((ad 39), .inl (g.2.1 0, 41, .inl (aI CHc))), ((ad 41), .inl (g.2.1 2, 256, .inl (zI HA))), ((ad 40), .inl (g.2.1 0, 41, .inl (aI (up DN lv 0))))]) (st' := []) (n1 := 0) (n2 := 0) [2, 5, 3, 4, 0, 1] rfl rfl rfl rfl rfl ?_
      refine r_iinc C 9 (nI (j + 1)) (lv' := [(9, .int (nI (j + 1))), (0, .ref m0), (1, .int (nI lv)), (2, .int (nI w)), (3, .int (nI (f.getD 0))), (4, .int (nI (s2.getD 0))), (5, .int (nI fr)), (6, .int (nI z)), (7, .int (nI len)), (8, .int (nI k))]) d_Mo_split_144 rfl (nI_inc 1 _) (by decide) rfl ?_
      refine r_goto C 119 d_Mo_split_147 (by decide) ?_
      refine r_lv (lv' := [(0, .ref m0), (1, .int (nI lv)), (2, .int (nI w)), (3, .int (nI (f.getD 0))), (4, .int (nI (s2.getD 0))), (5, .int (nI fr)), (6, .int (nI z)), (7, .int (nI len)), (8, .int (nI k)), (9, .int (nI (j + 1)))]) [1, 2, 3, 4, 5, 6, 7, 8, 9, 0] rfl ?_
      exact ih (j + 1) (up STd (17000 * lv + SBd (616 * lv + CHc lv + 1)) (ST (fr + k + j))) (up SBd (616 * lv + CHc lv + 1) (SBd (616 * lv + CHc lv + 1) + 1)) (hln) (hKd) (gk) (by first | assumption | omega | rfl) (gkl) (by rw [segL_snoc]; exact lb_add gB) (gF.trans fb_add) (by omega)
set_option maxHeartbeats 4000000 in
set_option maxRecDepth 100000 in
theorem lp_Mo_split_101 (g : GG) {m0 : Nat} {ad : Nat → Nat} {qth : Int32} {qsz : Int32} {qtk : Int32} {qde : Int32} {qru : Int32} {qat : Int32} {qen : Int32} {qto : Int32} {qbe : Int32} {qva : Int32} {qwr : Int32} {qop : Int32} {qrw : Int32} {qir : Bool} {qiu : Bool} {lv : Nat} {fr : Nat} {z : Nat} {uw : Nat} {uh : Nat} {md : Nat} {w : Nat} {f : Option Nat} {s2 : Option Nat} {ST : Nat → Nat} {SB : Nat → Nat} {CH : Nat → Nat} {DN : Nat → Nat} {HA : Nat → Bool} (hw0 : 0 < uw) (hw1 : uw ≤ 16) (hh0 : 0 < uh) (hh1 : uh ≤ 16) (hl : 1 ≤ lv) (hl2 : lv ≤ 40) (hz : z ≤ 256) (hfr : fr + z ≤ 17000 * lv) (hset : SetOK uw uh (segL ST fr z)) (hok : LyOK (w + 1, f, s2)) {x : X0} {A : Nat → Prop} {Q : State → Prop}  (C : CX x g A R_Mo b_Mo_split 10) (E : RX x g A Q none (fun (r0 : Option Value) (w0 : va_W) => ∃ STc : Nat → Nat, ∃ SBc : Nat → Nat, ∃ CHc : Nat → Nat, ∃ H2 : Nat → Bool, r0 = none ∧ w0 = [(m0, .inr (9, MO ad qth qsz (bI qir) qtk qde qru qat qen qto qbe qva qwr qop (bI qiu) (nI uw) (nI uh) qrw (nI (md + (kids uw uh (w + 1, f, s2) (segL ST fr z)).length)))), ((ad 37), .inl (g.2.1 0, 697000, .inl (aI STc))), ((ad 38), .inl (g.2.1 0, 25300, .inl (aI SBc))), ((ad 39), .inl (g.2.1 0, 41, .inl (aI CHc))), ((ad 41), .inl (g.2.1 2, 256, .inl (zI H2))), ((ad 40), .inl (g.2.1 0, 41, .inl (aI (up DN lv 0))))] ∧ (LvC STc SBc CHc lv (kids uw uh (w + 1, f, s2) (segL ST fr z))) ∧ (LvF lv ST SB CH STc SBc CHc)) (rmk 2 0 0 50).cells (rmk 2 0 0 50).slots) (hR : xR x = (rmk 2 0 0 50)) : ∀ (fuel : Nat) (len : Nat) (k : Nat) (STc : Nat → Nat) (SBc : Nat → Nat) (CHc : Nat → Nat) (md2 : Nat) (Cs : List (List Nat)) (hln : 1 ≤ len ∧ len ≤ 256) (hKd : (kids uw uh (w + 1, f, s2) (segL ST fr z)) = wins len (segL ST fr z)) (hC : LvC STc SBc CHc lv Cs) (hF : LvF lv ST SB CH STc SBc CHc) (hm2 : md2 = md + Cs.length) (hkz : k ≤ 256) (hkl : Cs.length = k) (hs2 : SBc (616 * lv + k) = k * len) (hI : Cs ++ (wins len (segL ST fr z)).drop k = wins len (segL ST fr z)), z + 1 - k < fuel → J x g A Q 10 ([(m0, .inr (9, MO ad qth qsz (bI qir) qtk qde qru qat qen qto qbe qva qwr qop (bI qiu) (nI uw) (nI uh) qrw (nI md2))), ((ad 37), .inl (g.2.1 0, 697000, .inl (aI STc))), ((ad 38), .inl (g.2.1 0, 25300, .inl (aI SBc))), ((ad 39), .inl (g.2.1 0, 41, .inl (aI CHc))), ((ad 41), .inl (g.2.1 2, 256, .inl (zI HA))), ((ad 40), .inl (g.2.1 0, 41, .inl (aI (up DN lv 0))))]) [(0, .ref m0), (1, .int (nI lv)), (2, .int (nI w)), (3, .int (nI (f.getD 0))), (4, .int (nI (s2.getD 0))), (5, .int (nI fr)), (6, .int (nI z)), (7, .int (nI len)), (8, .int (nI k))] 101 [] 0 0 := by
  intro fuel
  induction fuel with
  | zero =>
    intro len k STc SBc CHc md2 Cs hln hKd hC hF hm2 hkz hkl hs2 hI hm
    exact absurd hm (Nat.not_lt_zero _)
  | succ fuel ih =>
    intro len k STc SBc CHc md2 Cs hln hKd hC hF hm2 hkz hkl hs2 hI hm
    refine r_iload C 8 d_Mo_split_101 rfl ?_
    refine r_iload C 7 d_Mo_split_103 rfl ?_
    refine r_nadd C d_Mo_split_105 ?_
    refine r_iload C 6 d_Mo_split_106 rfl ?_
    refine r_ncmp_gt C 161 d_Mo_split_108 (by decide) (by omega) (by omega) (fun c_108 => ?_) (fun c_108 => ?_)
    · skip
      refine r_goto C 332 d_Mo_split_161 (by decide) ?_
      refine r_vret C E d_Mo_split_332 (by first | decide | omega | (simp only [rmk]; omega)) (by first | decide | omega | (simp only [rmk]; omega)) ?_
      rw [wins_end (by omega), List.append_nil] at hI
      rw [hKd, ← hI]
      subst hm2
      exact ⟨_, _, _, _, rfl, rfl, hC, hF⟩
    · skip
      have hch : CHc lv ≤ 614 := by rw [hC.2, hkl]; omega
      refine r_aload_n C 0 d_Mo_split_111 rfl rfl ?_
      refine r_iload_n C 1 d_Mo_split_112 rfl rfl ?_
      refine j_callV C (c_Mo_beginSet g (xl x) (m0 := m0) (ad := ad) (qth := qth) (qsz := qsz) (qtk := qtk) (qde := qde) (qru := qru) (qat := qat) (qen := qen) (qto := qto) (qbe := qbe) (qva := qva) (qwr := qwr) (qop := qop) (qwi := nI uw) (qhe := nI uh) (qrw := qrw) (qma := nI md2) (qir := qir) (qiu := qiu) (lv := lv) (SB := SBc) (CH := CHc) (by first | assumption | omega | rfl) (by first | assumption | omega | rfl)) (Sp.of (wr := [((ad 37), .inl (g.2.1 0, 697000, .inl (aI STc))), ((ad 41), .inl (g.2.1 2, 256, .inl (zI HA))), ((ad 40), .inl (g.2.1 0, 41, .inl (aI (up DN lv 0))))]) [0, 2, 3] [1, 4, 5] rfl rfl rfl rfl (by decide)) d_Mo_split_113 lk_Mo_240 mw_Mo_beginSet vw_Mo_beginSet (q0 := 0) rfl rfl (fit_of hR (by first | decide | (simp only [rmk]; omega)) (by first | decide | (simp only [rmk]; omega)) (by first | decide | (simp only [rmk]; omega)) (by first | decide | (simp only [rmk]; omega))) rfl (cat8 (Nat.le_of_ble_eq_true rfl)) (As := [.int (nI lv)]) (rest := []) rfl (fun r_113 w_113 hp_113 => ?_)
      obtain ⟨rfl, rfl⟩ := hp_113
      refine r_after (ws' := [(m0, .inr (9, MO ad qth qsz (bI qir) qtk qde qru qat qen qto qbe qva qwr qop (bI qiu) (nI uw) (nI uh) qrw (nI md2))), ((ad 37), .inl (g.2.1 0, 697000, .inl (aI STc))), ((ad 38), .inl (g.2.1 0, 25300, .inl (aI (up SBc (616 * lv + CHc lv + 1) (SBc (616 * lv + CHc lv)))))), ((ad 39), .inl (g.2.1 0, 41, .inl (aI CHc))), ((ad 41), .inl (g.2.1 2, 256, .inl (zI HA))), ((ad 40), .inl (g.2.1 0, 41, .inl (aI (up DN lv 0))))]) (st' := []) (n1 := 0) (n2 := 0) [3, 0, 4, 5, 1, 2] rfl rfl rfl rfl rfl ?_
      refine r_iconst C (nI 0) d_Mo_split_116 (by decide) ?_
      refine r_istore C (lv' := [(9, .int (nI 0)), (0, .ref m0), (1, .int (nI lv)), (2, .int (nI w)), (3, .int (nI (f.getD 0))), (4, .int (nI (s2.getD 0))), (5, .int (nI fr)), (6, .int (nI z)), (7, .int (nI len)), (8, .int (nI k))]) d_Mo_split_117 (by decide) rfl ?_
      refine r_lv (lv' := [(0, .ref m0), (1, .int (nI lv)), (2, .int (nI w)), (3, .int (nI (f.getD 0))), (4, .int (nI (s2.getD 0))), (5, .int (nI fr)), (6, .int (nI z)), (7, .int (nI len)), (8, .int (nI k)), (9, .int (nI 0))]) [1, 2, 3, 4, 5, 6, 7, 8, 9, 0] rfl ?_
      refine lp_Mo_split_119 g (m0 := m0) (ad := ad) (qth := qth) (qsz := qsz) (qtk := qtk) (qde := qde) (qru := qru) (qat := qat) (qen := qen) (qto := qto) (qbe := qbe) (qva := qva) (qwr := qwr) (qop := qop) (qrw := qrw) (qir := qir) (qiu := qiu) (lv := lv) (fr := fr) (z := z) (uw := uw) (uh := uh) (md := md) (w := w) (f := f) (s2 := s2) (ST := ST) (SB := SB) (CH := CH) (DN := DN) (HA := HA) hw0 hw1 hh0 hh1 hl hl2 hz hfr hset hok (len := len) (k := k) (md2 := md2) (CHc := CHc) (Cs := Cs)  C E hR (fun j STd SBd hln hKd gk gj gkl gB gF hx => ?_) _ 0 STc (up SBc (616 * lv + CHc lv + 1) (SBc (616 * lv + CHc lv))) (hln) (hKd) (c_108) (by first | assumption | omega | rfl) (hkl) (lb_beg hC (by rw [hC.2, hkl]; exact hs2)) (hF.trans fb_beg) (Nat.lt_succ_self _)
      have hch : CHc lv ≤ 614 := by rw [gB.2.1, gkl]; omega
      refine r_aload_n C 0 d_Mo_split_150 rfl rfl ?_
      refine r_iload_n C 1 d_Mo_split_151 rfl rfl ?_
      refine j_callV C (c_Mo_endSet g (xl x) (m0 := m0) (ad := ad) (qth := qth) (qsz := qsz) (qtk := qtk) (qde := qde) (qru := qru) (qat := qat) (qen := qen) (qto := qto) (qbe := qbe) (qva := qva) (qwr := qwr) (qop := qop) (qwi := nI uw) (qhe := nI uh) (qrw := qrw) (qir := qir) (qiu := qiu) (lv := lv) (md := md2) (CH := CHc) (by first | assumption | omega | rfl) (by first | assumption | omega | rfl)) (Sp.of (wr := [((ad 37), .inl (g.2.1 0, 697000, .inl (aI STd))), ((ad 38), .inl (g.2.1 0, 25300, .inl (aI SBd))), ((ad 41), .inl (g.2.1 2, 256, .inl (zI HA))), ((ad 40), .inl (g.2.1 0, 41, .inl (aI (up DN lv 0))))]) [0, 3] [1, 2, 4, 5] rfl rfl rfl rfl (by decide)) d_Mo_split_152 lk_Mo_247 mw_Mo_endSet vw_Mo_endSet (q0 := 0) rfl rfl (fit_of hR (by first | decide | (simp only [rmk]; omega)) (by first | decide | (simp only [rmk]; omega)) (by first | decide | (simp only [rmk]; omega)) (by first | decide | (simp only [rmk]; omega))) rfl (cat8 (Nat.le_of_ble_eq_true rfl)) (As := [.int (nI lv)]) (rest := []) rfl (fun r_152 w_152 hp_152 => ?_)
      obtain ⟨rfl, rfl⟩ := hp_152
      refine r_after (ws' := [(m0, .inr (9, MO ad qth qsz (bI qir) qtk qde qru qat qen qto qbe qva qwr qop (bI qiu) (nI uw) (nI uh) qrw (nI (md2 + 1)))), ((ad 37), .inl (g.2.1 0, 697000, .inl (aI STd))), ((ad 38), .inl (g.2.1 0, 25300, .inl (aI SBd))), ((ad 39), .inl (g.2.1 0, 41, .inl (aI (up CHc lv (CHc lv + 1))))), ((ad 41), .inl (g.2.1 2, 256, .inl (zI HA))), ((ad 40), .inl (g.2.1 0, 41, .inl (aI (up DN lv 0))))]) (st' := []) (n1 := 0) (n2 := 0) [4, 0, 1, 5, 2, 3] rfl rfl rfl rfl rfl ?_
      refine r_iinc C 8 (nI (k + 1)) (lv' := [(8, .int (nI (k + 1))), (0, .ref m0), (1, .int (nI lv)), (2, .int (nI w)), (3, .int (nI (f.getD 0))), (4, .int (nI (s2.getD 0))), (5, .int (nI fr)), (6, .int (nI z)), (7, .int (nI len)), (9, .int (nI j))]) d_Mo_split_155 rfl (nI_inc 1 _) (by decide) rfl ?_
      refine r_goto C 101 d_Mo_split_158 (by decide) ?_
      refine r_lv (lv' := [(0, .ref m0), (1, .int (nI lv)), (2, .int (nI w)), (3, .int (nI (f.getD 0))), (4, .int (nI (s2.getD 0))), (5, .int (nI fr)), (6, .int (nI z)), (7, .int (nI len)), (8, .int (nI (k + 1)))]) [1, 2, 3, 4, 5, 6, 7, 8, 0] rfl ?_
      exact ih len (k + 1) STd SBd (up CHc lv (CHc lv + 1)) (md2 + 1) (Cs ++ [segL ST (fr + k) len]) (hln) (hKd) (by have e : j = len := (by omega); subst e; exact (lb_end gB).1) (gF.trans fb_end) (by rw [hm2, List.length_append]; rfl) (by first | assumption | omega | rfl) (by rw [List.length_append, hkl]; rfl) (by have e : j = len := (by omega); subst e; have := (lb_end gB).2; rw [up_self, gB.2.1, hkl, segL_len] at this; exact this.trans (Nat.succ_mul k j).symm) (wn_go c_108 hI) (by omega)
set_option maxHeartbeats 4000000 in
set_option maxRecDepth 100000 in
theorem lp_Mo_split_178 (g : GG) {m0 : Nat} {ad : Nat → Nat} {qth : Int32} {qsz : Int32} {qtk : Int32} {qde : Int32} {qru : Int32} {qat : Int32} {qen : Int32} {qto : Int32} {qbe : Int32} {qva : Int32} {qwr : Int32} {qop : Int32} {qrw : Int32} {qir : Bool} {qiu : Bool} {lv : Nat} {fr : Nat} {z : Nat} {uw : Nat} {uh : Nat} {md : Nat} {w : Nat} {f : Option Nat} {s2 : Option Nat} {ST : Nat → Nat} {SB : Nat → Nat} {CH : Nat → Nat} {DN : Nat → Nat} {HA : Nat → Bool} (hw0 : 0 < uw) (hw1 : uw ≤ 16) (hh0 : 0 < uh) (hh1 : uh ≤ 16) (hl : 1 ≤ lv) (hl2 : lv ≤ 40) (hz : z ≤ 256) (hfr : fr + z ≤ 17000 * lv) (hset : SetOK uw uh (segL ST fr z)) (hok : LyOK (w + 1, f, s2)) {x : X0} {A : Nat → Prop} {Q : State → Prop}  (C : CX x g A R_Mo b_Mo_split 10) (E : RX x g A Q none (fun (r0 : Option Value) (w0 : va_W) => ∃ STc : Nat → Nat, ∃ SBc : Nat → Nat, ∃ CHc : Nat → Nat, ∃ H2 : Nat → Bool, r0 = none ∧ w0 = [(m0, .inr (9, MO ad qth qsz (bI qir) qtk qde qru qat qen qto qbe qva qwr qop (bI qiu) (nI uw) (nI uh) qrw (nI (md + (kids uw uh (w + 1, f, s2) (segL ST fr z)).length)))), ((ad 37), .inl (g.2.1 0, 697000, .inl (aI STc))), ((ad 38), .inl (g.2.1 0, 25300, .inl (aI SBc))), ((ad 39), .inl (g.2.1 0, 41, .inl (aI CHc))), ((ad 41), .inl (g.2.1 2, 256, .inl (zI H2))), ((ad 40), .inl (g.2.1 0, 41, .inl (aI (up DN lv 0))))] ∧ (LvC STc SBc CHc lv (kids uw uh (w + 1, f, s2) (segL ST fr z))) ∧ (LvF lv ST SB CH STc SBc CHc)) (rmk 2 0 0 50).cells (rmk 2 0 0 50).slots) (hR : xR x = (rmk 2 0 0 50)) : ∀ (fuel : Nat) (k : Nat) (STc : Nat → Nat) (SBc : Nat → Nat) (CHc : Nat → Nat) (hk : k ≤ z) (hwv : w = 11 ∨ w = 12 ∨ w = 13 ∨ w = 14) (hKd : (kids uw uh (w + 1, f, s2) (segL ST fr z)) = [(segL ST fr z).filter (passB uw uh (w + 1))]) (gB : LvB STc SBc CHc lv [] (((segL ST fr z).take k).filter (passB uw uh (w + 1))) 0) (gF : LvF lv ST SB CH STc SBc CHc), z - k < fuel → J x g A Q 10 ([(m0, .inr (9, MO ad qth qsz (bI qir) qtk qde qru qat qen qto qbe qva qwr qop (bI qiu) (nI uw) (nI uh) qrw (nI md))), ((ad 37), .inl (g.2.1 0, 697000, .inl (aI STc))), ((ad 38), .inl (g.2.1 0, 25300, .inl (aI SBc))), ((ad 39), .inl (g.2.1 0, 41, .inl (aI CHc))), ((ad 41), .inl (g.2.1 2, 256, .inl (zI HA))), ((ad 40), .inl (g.2.1 0, 41, .inl (aI (up DN lv 0))))]) [(0, .ref m0), (1, .int (nI lv)), (2, .int (nI w)), (3, .int (nI (f.getD 0))), (4, .int (nI (s2.getD 0))), (5, .int (nI fr)), (6, .int (nI z)), (7, .int (nI k))] 178 [] 0 0 := by
  intro fuel
  induction fuel with
  | zero =>
    intro k STc SBc CHc hk hwv hKd gB gF hm
    exact absurd hm (Nat.not_lt_zero _)
  | succ fuel ih =>
    intro k STc SBc CHc hk hwv hKd gB gF hm
    refine r_iload C 7 d_Mo_split_178 rfl ?_
    refine r_iload C 6 d_Mo_split_180 rfl ?_
    refine r_ncmp_ge C 224 d_Mo_split_182 (by decide) (by omega) (by omega) (fun c_182 => ?_) (fun c_182 => ?_)
    · skip
      have hch : CHc lv ≤ 614 := by rw [gB.2.1]; exact Nat.zero_le _
      refine r_aload_n C 0 d_Mo_split_224 rfl rfl ?_
      refine r_iload_n C 1 d_Mo_split_225 rfl rfl ?_
      refine j_callV C (c_Mo_endSet g (xl x) (m0 := m0) (ad := ad) (qth := qth) (qsz := qsz) (qtk := qtk) (qde := qde) (qru := qru) (qat := qat) (qen := qen) (qto := qto) (qbe := qbe) (qva := qva) (qwr := qwr) (qop := qop) (qwi := nI uw) (qhe := nI uh) (qrw := qrw) (qir := qir) (qiu := qiu) (lv := lv) (md := md) (CH := CHc) (by first | assumption | omega | rfl) (by first | assumption | omega | rfl)) (Sp.of (wr := [((ad 37), .inl (g.2.1 0, 697000, .inl (aI STc))), ((ad 38), .inl (g.2.1 0, 25300, .inl (aI SBc))), ((ad 41), .inl (g.2.1 2, 256, .inl (zI HA))), ((ad 40), .inl (g.2.1 0, 41, .inl (aI (up DN lv 0))))]) [0, 3] [1, 2, 4, 5] rfl rfl rfl rfl (by decide)) d_Mo_split_226 lk_Mo_247 mw_Mo_endSet vw_Mo_endSet (q0 := 0) rfl rfl (fit_of hR (by first | decide | (simp only [rmk]; omega)) (by first | decide | (simp only [rmk]; omega)) (by first | decide | (simp only [rmk]; omega)) (by first | decide | (simp only [rmk]; omega))) rfl (cat8 (Nat.le_of_ble_eq_true rfl)) (As := [.int (nI lv)]) (rest := []) rfl (fun r_226 w_226 hp_226 => ?_)
      obtain ⟨rfl, rfl⟩ := hp_226
      refine r_after (ws' := [(m0, .inr (9, MO ad qth qsz (bI qir) qtk qde qru qat qen qto qbe qva qwr qop (bI qiu) (nI uw) (nI uh) qrw (nI (md + 1)))), ((ad 37), .inl (g.2.1 0, 697000, .inl (aI STc))), ((ad 38), .inl (g.2.1 0, 25300, .inl (aI SBc))), ((ad 39), .inl (g.2.1 0, 41, .inl (aI (up CHc lv (CHc lv + 1))))), ((ad 41), .inl (g.2.1 2, 256, .inl (zI HA))), ((ad 40), .inl (g.2.1 0, 41, .inl (aI (up DN lv 0))))]) (st' := []) (n1 := 0) (n2 := 0) [4, 0, 1, 5, 2, 3] rfl rfl rfl rfl rfl ?_
      refine r_goto C 332 d_Mo_split_229 (by decide) ?_
      refine r_vret C E d_Mo_split_332 (by first | decide | omega | (simp only [rmk]; omega)) (by first | decide | omega | (simp only [rmk]; omega)) ?_
      rw [List.take_of_length_le (by rw [segL_len]; omega)] at gB
      rw [hKd]
      exact ⟨_, _, _, _, rfl, rfl, (lb_end gB).1, gF.trans fb_end⟩
    · skip
      have hgr := gr_256 hw1 hh1
      have hLp : ∀ i, i < z → ST (fr + i) < uw * uh := fun i h => hset.2 _ (segL_mem.mpr ⟨i, h, rfl⟩)
      have hpk := hLp k (by omega)
      have hq2 := plc hw1 hh1 hpk
      have hY := hq2.2
      have hc2 := hq2.1
      have hfk : STc (fr + k) = ST (fr + k) := gF.1 _ (by omega)
      have hch : CHc lv ≤ 614 := by rw [gB.2.1]; exact Nat.zero_le _
      have hfl : (((segL ST fr z).take k).filter (passB uw uh (w + 1))).length ≤ z := Nat.le_trans (List.length_filter_le _ _) tk_len
      refine r_aload_n C 0 d_Mo_split_185 rfl rfl ?_
      refine r_iload_n C 2 d_Mo_split_186 rfl rfl ?_
      refine r_aload_n C 0 d_Mo_split_187 rfl rfl ?_
      refine r_get C 0 37 d_Mo_split_188 ci_Mo fi_Mo_68 rfl (by decide) rfl rfl ?_
      refine r_iload C 5 d_Mo_split_191 rfl ?_
      refine r_iload C 7 d_Mo_split_193 rfl ?_
      refine r_nadd C d_Mo_split_195 ?_
      refine r_nald C 1 0 d_Mo_split_196 rfl rfl (by omega) (by decide) ?_
      refine r_top (v' := nI (ST (fr + k))) (by rw [hfk]) ?_
      refine j_callV C (c_Mo_passes g (xl x) (m0 := m0) (ad := ad) (qth := qth) (qsz := qsz) (qtk := qtk) (qde := qde) (qru := qru) (qat := qat) (qen := qen) (qto := qto) (qbe := qbe) (qva := qva) (qwr := qwr) (qop := qop) (qrw := qrw) (qma := nI md) (qir := qir) (qiu := qiu) (uw := uw) (uh := uh) (w := w) (c := ST (fr + k)) (by first | assumption | omega | rfl) (by first | assumption | omega | rfl) (by first | assumption | omega | rfl) (by first | assumption | omega | rfl) (by first | assumption | omega | rfl) (by first | assumption | omega | rfl) (by first | assumption | omega | rfl)) (Sp.of (wr := [((ad 37), .inl (g.2.1 0, 697000, .inl (aI STc))), ((ad 38), .inl (g.2.1 0, 25300, .inl (aI SBc))), ((ad 39), .inl (g.2.1 0, 41, .inl (aI CHc))), ((ad 41), .inl (g.2.1 2, 256, .inl (zI HA))), ((ad 40), .inl (g.2.1 0, 41, .inl (aI (up DN lv 0))))]) [0] [1, 2, 3, 4, 5] rfl rfl rfl rfl (by decide)) d_Mo_split_197 lk_Mo_250 mw_Mo_passes vw_Mo_passes (q0 := 0) rfl rfl (fit_of hR (by first | decide | (simp only [rmk]; omega)) (by first | decide | (simp only [rmk]; omega)) (by first | decide | (simp only [rmk]; omega)) (by first | decide | (simp only [rmk]; omega))) rfl (cat8 (Nat.le_of_ble_eq_true rfl)) (As := [.int (nI w), .int (nI (ST (fr + k)))]) (rest := []) rfl (fun r_197 w_197 hp_197 => ?_)
      obtain ⟨rfl, rfl⟩ := hp_197
      refine r_after (ws' := [(m0, .inr (9, MO ad qth qsz (bI qir) qtk qde qru qat qen qto qbe qva qwr qop (bI qiu) (nI uw) (nI uh) qrw (nI md))), ((ad 37), .inl (g.2.1 0, 697000, .inl (aI STc))), ((ad 38), .inl (g.2.1 0, 25300, .inl (aI SBc))), ((ad 39), .inl (g.2.1 0, 41, .inl (aI CHc))), ((ad 41), .inl (g.2.1 2, 256, .inl (zI HA))), ((ad 40), .inl (g.2.1 0, 41, .inl (aI (up DN lv 0))))]) (st' := [.int (bI (passB uw uh (w + 1) (ST (fr + k))))]) (n1 := 0) (n2 := 0) [5, 0, 1, 2, 3, 4] rfl rfl rfl rfl rfl ?_
      refine r_bif_eq C 218 d_Mo_split_200 (by decide) (fun c_200 => ?_) (fun c_200 => ?_)
      · skip
        refine r_iinc C 7 (nI (k + 1)) (lv' := [(7, .int (nI (k + 1))), (0, .ref m0), (1, .int (nI lv)), (2, .int (nI w)), (3, .int (nI (f.getD 0))), (4, .int (nI (s2.getD 0))), (5, .int (nI fr)), (6, .int (nI z))]) d_Mo_split_218 rfl (nI_inc 1 _) (by decide) rfl ?_
        refine r_goto C 178 d_Mo_split_221 (by decide) ?_
        refine r_lv (lv' := [(0, .ref m0), (1, .int (nI lv)), (2, .int (nI w)), (3, .int (nI (f.getD 0))), (4, .int (nI (s2.getD 0))), (5, .int (nI fr)), (6, .int (nI z)), (7, .int (nI (k + 1)))]) [1, 2, 3, 4, 5, 6, 7, 0] rfl ?_
        exact ih (k + 1) STc SBc CHc (by first | assumption | omega | rfl) (hwv) (hKd) (by rw [flt_f (by omega) c_200]; exact gB) (gF) (by omega)
      · skip
        refine r_aload_n C 0 d_Mo_split_203 rfl rfl ?_
        refine r_iload_n C 1 d_Mo_split_204 rfl rfl ?_
        refine r_aload_n C 0 d_Mo_split_205 rfl rfl ?_
        refine r_get C 0 37 d_Mo_split_206 ci_Mo fi_Mo_68 rfl (by decide) rfl rfl ?_
        refine r_iload C 5 d_Mo_split_209 rfl ?_
        refine r_iload C 7 d_Mo_split_211 rfl ?_
        refine r_nadd C d_Mo_split_213 ?_
        refine r_nald C 1 0 d_Mo_split_214 rfl rfl (by omega) (by decide) ?_
        refine r_top (v' := nI (ST (fr + k))) (by rw [hfk]) ?_
        refine j_callV C (c_Mo_add g (xl x) (m0 := m0) (ad := ad) (qth := qth) (qsz := qsz) (qtk := qtk) (qde := qde) (qru := qru) (qat := qat) (qen := qen) (qto := qto) (qbe := qbe) (qva := qva) (qwr := qwr) (qop := qop) (qwi := nI uw) (qhe := nI uh) (qrw := qrw) (qma := nI md) (qir := qir) (qiu := qiu) (lv := lv) (p := ST (fr + k)) (SB := SBc) (CH := CHc) (ST := STc) (by first | assumption | omega | rfl) (by first | assumption | omega | rfl) (by rw [gB.2.2.1]; omega)) (Sp.of (wr := [((ad 41), .inl (g.2.1 2, 256, .inl (zI HA))), ((ad 40), .inl (g.2.1 0, 41, .inl (aI (up DN lv 0))))]) [0, 2, 3, 1] [4, 5] rfl rfl rfl rfl (by decide)) d_Mo_split_215 lk_Mo_243 mw_Mo_add vw_Mo_add (q0 := 0) rfl rfl (fit_of hR (by first | decide | (simp only [rmk]; omega)) (by first | decide | (simp only [rmk]; omega)) (by first | decide | (simp only [rmk]; omega)) (by first | decide | (simp only [rmk]; omega))) rfl (cat8 (Nat.le_of_ble_eq_true rfl)) (As := [.int (nI lv), .int (nI (ST (fr + k)))]) (rest := []) rfl (fun r_215 w_215 hp_215 => ?_)
        obtain ⟨rfl, rfl⟩ := hp_215
        refine r_after (ws' := [(m0, .inr (9, MO ad qth qsz (bI qir) qtk qde qru qat qen qto qbe qva qwr qop (bI qiu) (nI uw) (nI uh) qrw (nI md))), ((ad 37), .inl (g.2.1 0, 697000, .inl (aI (up STc (17000 * lv + SBc (616 * lv + CHc lv + 1)) (ST (fr + k)))))), ((ad 38), .inl (g.2.1 0, 25300, .inl (aI (up SBc (616 * lv + CHc lv + 1) (SBc (616 * lv + CHc lv + 1) + 1))))), ((ad 39), .inl (g.2.1 0, 41, .inl (aI CHc))), ((ad 41), .inl (g.2.1 2, 256, .inl (zI HA))), ((ad 40), .inl (g.2.1 0, 41, .inl (aI (up DN lv 0))))]) (st' := []) (n1 := 0) (n2 := 0) [2, 5, 3, 4, 0, 1] rfl rfl rfl rfl rfl ?_
        refine r_iinc C 7 (nI (k + 1)) (lv' := [(7, .int (nI (k + 1))), (0, .ref m0), (1, .int (nI lv)), (2, .int (nI w)), (3, .int (nI (f.getD 0))), (4, .int (nI (s2.getD 0))), (5, .int (nI fr)), (6, .int (nI z))]) d_Mo_split_218 rfl (nI_inc 1 _) (by decide) rfl ?_
        refine r_goto C 178 d_Mo_split_221 (by decide) ?_
        refine r_lv (lv' := [(0, .ref m0), (1, .int (nI lv)), (2, .int (nI w)), (3, .int (nI (f.getD 0))), (4, .int (nI (s2.getD 0))), (5, .int (nI fr)), (6, .int (nI z)), (7, .int (nI (k + 1)))]) [1, 2, 3, 4, 5, 6, 7, 0] rfl ?_
        exact ih (k + 1) (up STc (17000 * lv + SBc (616 * lv + CHc lv + 1)) (ST (fr + k))) (up SBc (616 * lv + CHc lv + 1) (SBc (616 * lv + CHc lv + 1) + 1)) CHc (by first | assumption | omega | rfl) (hwv) (hKd) (by rw [flt_t (by omega) c_200]; exact lb_add gB) (gF.trans fb_add) (by omega)
set_option maxHeartbeats 4000000 in
set_option maxRecDepth 100000 in
theorem lp_Mo_split_249 (g : GG) {m0 : Nat} {ad : Nat → Nat} {qth : Int32} {qsz : Int32} {qtk : Int32} {qde : Int32} {qru : Int32} {qat : Int32} {qen : Int32} {qto : Int32} {qbe : Int32} {qva : Int32} {qwr : Int32} {qop : Int32} {qrw : Int32} {qir : Bool} {qiu : Bool} {lv : Nat} {fr : Nat} {z : Nat} {uw : Nat} {uh : Nat} {md : Nat} {w : Nat} {f : Option Nat} {s2 : Option Nat} {ST : Nat → Nat} {SB : Nat → Nat} {CH : Nat → Nat} {DN : Nat → Nat} {HA : Nat → Bool} (hw0 : 0 < uw) (hw1 : uw ≤ 16) (hh0 : 0 < uh) (hh1 : uh ≤ 16) (hl : 1 ≤ lv) (hl2 : lv ≤ 40) (hz : z ≤ 256) (hfr : fr + z ≤ 17000 * lv) (hset : SetOK uw uh (segL ST fr z)) (hok : LyOK (w + 1, f, s2)) {gg : Nat} {md2 : Nat} {cnt : Nat} {Cs : List (List Nat)} {x : X0} {A : Nat → Prop} {Q : State → Prop}  (C : CX x g A R_Mo b_Mo_split 10) (E : RX x g A Q none (fun (r0 : Option Value) (w0 : va_W) => ∃ STc : Nat → Nat, ∃ SBc : Nat → Nat, ∃ CHc : Nat → Nat, ∃ H2 : Nat → Bool, r0 = none ∧ w0 = [(m0, .inr (9, MO ad qth qsz (bI qir) qtk qde qru qat qen qto qbe qva qwr qop (bI qiu) (nI uw) (nI uh) qrw (nI (md + (kids uw uh (w + 1, f, s2) (segL ST fr z)).length)))), ((ad 37), .inl (g.2.1 0, 697000, .inl (aI STc))), ((ad 38), .inl (g.2.1 0, 25300, .inl (aI SBc))), ((ad 39), .inl (g.2.1 0, 41, .inl (aI CHc))), ((ad 41), .inl (g.2.1 2, 256, .inl (zI H2))), ((ad 40), .inl (g.2.1 0, 41, .inl (aI (up DN lv 0))))] ∧ (LvC STc SBc CHc lv (kids uw uh (w + 1, f, s2) (segL ST fr z))) ∧ (LvF lv ST SB CH STc SBc CHc)) (rmk 2 0 0 50).cells (rmk 2 0 0 50).slots) (hR : xR x = (rmk 2 0 0 50)) (hK : ∀ (k : Nat) (an : Bool) (STd : Nat → Nat) (SBd : Nat → Nat) (CHd : Nat → Nat) (hwv : w = 1 ∨ w = 2 ∨ w = 3 ∨ w = 9 ∨ w = 10) (hKd : (kids uw uh (w + 1, f, s2) (segL ST fr z)) = partL (keyN uw (w + 1) f s2) (segL ST fr z)) (ggl : gg < 272) (gk : k ≤ z) (gcl : Cs.length ≤ gg) (gct : cnt = ((segL ST fr z).filter fun p => decide ((grpN uw w (f.getD 0) (s2.getD 0)) p < gg)).length) (gP : LvP STd SBd CHd lv Cs (((segL ST fr z).take k).filter (fun p => (grpN uw w (f.getD 0) (s2.getD 0)) p == gg)) cnt an) (gF : LvF lv ST SB CH STd SBd CHd), z ≤ k → J x g A Q 10 ([(m0, .inr (9, MO ad qth qsz (bI qir) qtk qde qru qat qen qto qbe qva qwr qop (bI qiu) (nI uw) (nI uh) qrw (nI md2))), ((ad 37), .inl (g.2.1 0, 697000, .inl (aI STd))), ((ad 38), .inl (g.2.1 0, 25300, .inl (aI SBd))), ((ad 39), .inl (g.2.1 0, 41, .inl (aI CHd))), ((ad 41), .inl (g.2.1 2, 256, .inl (zI HA))), ((ad 40), .inl (g.2.1 0, 41, .inl (aI (up DN lv 0))))]) [(0, .ref m0), (1, .int (nI lv)), (2, .int (nI w)), (3, .int (nI (f.getD 0))), (4, .int (nI (s2.getD 0))), (5, .int (nI fr)), (6, .int (nI z)), (7, .int (nI gg)), (8, .int (bI an)), (9, .int (nI k))] 316 [] 0 0) : ∀ (fuel : Nat) (k : Nat) (an : Bool) (STd : Nat → Nat) (SBd : Nat → Nat) (CHd : Nat → Nat) (hwv : w = 1 ∨ w = 2 ∨ w = 3 ∨ w = 9 ∨ w = 10) (hKd : (kids uw uh (w + 1, f, s2) (segL ST fr z)) = partL (keyN uw (w + 1) f s2) (segL ST fr z)) (ggl : gg < 272) (gk : k ≤ z) (gcl : Cs.length ≤ gg) (gct : cnt = ((segL ST fr z).filter fun p => decide ((grpN uw w (f.getD 0) (s2.getD 0)) p < gg)).length) (gP : LvP STd SBd CHd lv Cs (((segL ST fr z).take k).filter (fun p => (grpN uw w (f.getD 0) (s2.getD 0)) p == gg)) cnt an) (gF : LvF lv ST SB CH STd SBd CHd), z - k < fuel → J x g A Q 10 ([(m0, .inr (9, MO ad qth qsz (bI qir) qtk qde qru qat qen qto qbe qva qwr qop (bI qiu) (nI uw) (nI uh) qrw (nI md2))), ((ad 37), .inl (g.2.1 0, 697000, .inl (aI STd))), ((ad 38), .inl (g.2.1 0, 25300, .inl (aI SBd))), ((ad 39), .inl (g.2.1 0, 41, .inl (aI CHd))), ((ad 41), .inl (g.2.1 2, 256, .inl (zI HA))), ((ad 40), .inl (g.2.1 0, 41, .inl (aI (up DN lv 0))))]) [(0, .ref m0), (1, .int (nI lv)), (2, .int (nI w)), (3, .int (nI (f.getD 0))), (4, .int (nI (s2.getD 0))), (5, .int (nI fr)), (6, .int (nI z)), (7, .int (nI gg)), (8, .int (bI an)), (9, .int (nI k))] 249 [] 0 0 := by
  intro fuel
  induction fuel with
  | zero =>
    intro k an STd SBd CHd hwv hKd ggl gk gcl gct gP gF hm
    exact absurd hm (Nat.not_lt_zero _)
  | succ fuel ih =>
    intro k an STd SBd CHd hwv hKd ggl gk gcl gct gP gF hm
    refine r_iload C 9 d_Mo_split_249 rfl ?_
    refine r_iload C 6 d_Mo_split_251 rfl ?_
    refine r_ncmp_ge C 316 d_Mo_split_253 (by decide) (by omega) (by omega) (fun c_253 => ?_) (fun c_253 => ?_)
    · skip
      refine r_lv (lv' := [(0, .ref m0), (1, .int (nI lv)), (2, .int (nI w)), (3, .int (nI (f.getD 0))), (4, .int (nI (s2.getD 0))), (5, .int (nI fr)), (6, .int (nI z)), (7, .int (nI gg)), (8, .int (bI an)), (9, .int (nI k))]) [0, 1, 2, 3, 4, 5, 6, 7, 8, 9] rfl ?_
      exact hK k an STd SBd CHd hwv hKd ggl gk gcl gct gP gF c_253
    · skip
      have hgr := gr_256 hw1 hh1
      have hLp : ∀ i, i < z → ST (fr + i) < uw * uh := fun i h => hset.2 _ (segL_mem.mpr ⟨i, h, rfl⟩)
      have hpk := hLp k (by omega)
      have hq2 := plc hw1 hh1 hpk
      have hY := hq2.2
      have hc2 := hq2.1
      have hfk : STd (fr + k) = ST (fr + k) := gF.1 _ (by omega)
      have hgk := grp_key hok rfl rfl hw1 hh1 hwv hpk hw0
      have hgb : (grpN uw w (f.getD 0) (s2.getD 0)) (ST (fr + k)) ≤ 256 := by rw [hgk.1]; have := hgk.2; split <;> omega
      refine r_aload_n C 0 d_Mo_split_256 rfl rfl ?_
      refine r_iload_n C 2 d_Mo_split_257 rfl rfl ?_
      refine r_iload_n C 3 d_Mo_split_258 rfl rfl ?_
      refine r_iload C 4 d_Mo_split_259 rfl ?_
      refine r_aload_n C 0 d_Mo_split_261 rfl rfl ?_
      refine r_get C 0 37 d_Mo_split_262 ci_Mo fi_Mo_68 rfl (by decide) rfl rfl ?_
      refine r_iload C 5 d_Mo_split_265 rfl ?_
      refine r_iload C 9 d_Mo_split_267 rfl ?_
      refine r_nadd C d_Mo_split_269 ?_
      refine r_nald C 1 0 d_Mo_split_270 rfl rfl (by omega) (by decide) ?_
      refine r_top (v' := nI (ST (fr + k))) (by rw [hfk]) ?_
      refine j_callV C (c_Mo_groupOf g (xl x) (m0 := m0) (ad := ad) (qth := qth) (qsz := qsz) (qtk := qtk) (qde := qde) (qru := qru) (qat := qat) (qen := qen) (qto := qto) (qbe := qbe) (qva := qva) (qwr := qwr) (qop := qop) (qhe := nI uh) (qrw := qrw) (qma := nI md2) (qir := qir) (qiu := qiu) (uw := uw) (w := w) (a := f.getD 0) (b_ := s2.getD 0) (c := ST (fr + k)) (by first | assumption | omega | rfl) (by first | assumption | omega | rfl) (by first | assumption | omega | rfl) (by first | assumption | omega | rfl) (by first | assumption | omega | rfl) (fun e => by obtain ⟨f0, s0, e1, e2, q1, q2, q3, q4⟩ := hok.2.1 (by rw [e]); simp only at e1 e2; subst e1 e2; exact ⟨q1, q3, q2, q4⟩)) (Sp.of (wr := [((ad 37), .inl (g.2.1 0, 697000, .inl (aI STd))), ((ad 38), .inl (g.2.1 0, 25300, .inl (aI SBd))), ((ad 39), .inl (g.2.1 0, 41, .inl (aI CHd))), ((ad 41), .inl (g.2.1 2, 256, .inl (zI HA))), ((ad 40), .inl (g.2.1 0, 41, .inl (aI (up DN lv 0))))]) [0] [1, 2, 3, 4, 5] rfl rfl rfl rfl (by decide)) d_Mo_split_271 lk_Mo_253 mw_Mo_groupOf vw_Mo_groupOf (q0 := 0) rfl rfl (fit_of hR (by first | decide | (simp only [rmk]; omega)) (by first | decide | (simp only [rmk]; omega)) (by first | decide | (simp only [rmk]; omega)) (by first | decide | (simp only [rmk]; omega))) rfl (cat8 (Nat.le_of_ble_eq_true rfl)) (As := [.int (nI w), .int (nI (f.getD 0)), .int (nI (s2.getD 0)), .int (nI (ST (fr + k)))]) (rest := []) rfl (fun r_271 w_271 hp_271 => ?_)
      obtain ⟨rfl, rfl⟩ := hp_271
      refine r_after (ws' := [(m0, .inr (9, MO ad qth qsz (bI qir) qtk qde qru qat qen qto qbe qva qwr qop (bI qiu) (nI uw) (nI uh) qrw (nI md2))), ((ad 37), .inl (g.2.1 0, 697000, .inl (aI STd))), ((ad 38), .inl (g.2.1 0, 25300, .inl (aI SBd))), ((ad 39), .inl (g.2.1 0, 41, .inl (aI CHd))), ((ad 41), .inl (g.2.1 2, 256, .inl (zI HA))), ((ad 40), .inl (g.2.1 0, 41, .inl (aI (up DN lv 0))))]) (st' := [.int (nI (grpN uw w (f.getD 0) (s2.getD 0) (ST (fr + k))))]) (n1 := 0) (n2 := 0) [5, 0, 1, 2, 3, 4] rfl rfl rfl rfl rfl ?_
      refine r_iload C 7 d_Mo_split_274 rfl ?_
      refine r_ncmp_eq C 282 d_Mo_split_276 (by decide) (by omega) (by omega) (fun c_276 => ?_) (fun c_276 => ?_)
      · skip
        have hbd : cnt + (((segL ST fr z).take k).filter (fun p => (grpN uw w (f.getD 0) (s2.getD 0)) p == gg)).length ≤ z := by rw [gct]; exact grp_b (key := (grpN uw w (f.getD 0) (s2.getD 0))) (gg := gg) (k := k)
        have hch := lp_ch gP
        refine r_iload C 8 d_Mo_split_282 rfl ?_
        refine r_bif_ne C 292 d_Mo_split_284 (by decide) (fun c_284 => ?_) (fun c_284 => ?_)
        · skip
          rw [c_284] at gP
          obtain ⟨hn0, hB⟩ := lp_t gP
          refine r_iconst C (nI 1) d_Mo_split_292 (by decide) ?_
          refine r_istore C (lv' := [(8, .int (nI 1)), (0, .ref m0), (1, .int (nI lv)), (2, .int (nI w)), (3, .int (nI (f.getD 0))), (4, .int (nI (s2.getD 0))), (5, .int (nI fr)), (6, .int (nI z)), (7, .int (nI gg)), (9, .int (nI k))]) d_Mo_split_293 (by decide) rfl ?_
          refine r_aload_n C 1 d_Mo_split_295 rfl rfl ?_
          refine r_iload_n C 2 d_Mo_split_296 rfl rfl ?_
          refine r_aload_n C 1 d_Mo_split_297 rfl rfl ?_
          refine r_get C 0 37 d_Mo_split_298 ci_Mo fi_Mo_68 rfl (by decide) rfl rfl ?_
          refine r_iload C 6 d_Mo_split_301 rfl ?_
          refine r_iload C 9 d_Mo_split_303 rfl ?_
          refine r_nadd C d_Mo_split_305 ?_
          refine r_nald C 1 0 d_Mo_split_306 rfl rfl (by omega) (by decide) ?_
          refine r_top (v' := nI (ST (fr + k))) (by first | rw [hfk] | rfl) ?_
          refine j_callV C (c_Mo_add g (xl x) (m0 := m0) (ad := ad) (qth := qth) (qsz := qsz) (qtk := qtk) (qde := qde) (qru := qru) (qat := qat) (qen := qen) (qto := qto) (qbe := qbe) (qva := qva) (qwr := qwr) (qop := qop) (qwi := nI uw) (qhe := nI uh) (qrw := qrw) (qma := nI md2) (qir := qir) (qiu := qiu) (lv := lv) (p := ST (fr + k)) (SB := SBd) (CH := CHd) (ST := STd) (by first | assumption | omega | rfl) (by first | assumption | omega | rfl) (by first | (rw [hB.2.2.1]; omega) | (rw [up_self, hnS]; omega))) (Sp.of (wr := [((ad 41), .inl (g.2.1 2, 256, .inl (zI HA))), ((ad 40), .inl (g.2.1 0, 41, .inl (aI (up DN lv 0))))]) [0, 2, 3, 1] [4, 5] rfl rfl rfl rfl (by decide)) d_Mo_split_307 lk_Mo_243 mw_Mo_add vw_Mo_add (q0 := 0) rfl rfl (fit_of hR (by first | decide | (simp only [rmk]; omega)) (by first | decide | (simp only [rmk]; omega)) (by first | decide | (simp only [rmk]; omega)) (by first | decide | (simp only [rmk]; omega))) rfl (cat8 (Nat.le_of_ble_eq_true rfl)) (As := [.int (nI lv), .int (nI (ST (fr + k)))]) (rest := []) rfl (fun r_307 w_307 hp_307 => ?_)
          obtain ⟨rfl, rfl⟩ := hp_307
          refine r_after (ws' := [(m0, .inr (9, MO ad qth qsz (bI qir) qtk qde qru qat qen qto qbe qva qwr qop (bI qiu) (nI uw) (nI uh) qrw (nI md2))), ((ad 37), .inl (g.2.1 0, 697000, .inl (aI (up STd (17000 * lv + SBd (616 * lv + CHd lv + 1)) (ST (fr + k)))))), ((ad 38), .inl (g.2.1 0, 25300, .inl (aI (up SBd (616 * lv + CHd lv + 1) (SBd (616 * lv + CHd lv + 1) + 1))))), ((ad 39), .inl (g.2.1 0, 41, .inl (aI CHd))), ((ad 41), .inl (g.2.1 2, 256, .inl (zI HA))), ((ad 40), .inl (g.2.1 0, 41, .inl (aI (up DN lv 0))))]) (st' := []) (n1 := 0) (n2 := 0) [2, 5, 3, 4, 0, 1] rfl rfl rfl rfl rfl ?_
          refine r_iinc C 9 (nI (k + 1)) (lv' := [(9, .int (nI (k + 1))), (8, .int (nI 1)), (0, .ref m0), (1, .int (nI lv)), (2, .int (nI w)), (3, .int (nI (f.getD 0))), (4, .int (nI (s2.getD 0))), (5, .int (nI fr)), (6, .int (nI z)), (7, .int (nI gg))]) d_Mo_split_310 rfl (nI_inc 1 _) (by decide) rfl ?_
          refine r_goto C 249 d_Mo_split_313 (by decide) ?_
          refine r_lv (lv' := [(0, .ref m0), (1, .int (nI lv)), (2, .int (nI w)), (3, .int (nI (f.getD 0))), (4, .int (nI (s2.getD 0))), (5, .int (nI fr)), (6, .int (nI z)), (7, .int (nI gg)), (8, .int (bI true)), (9, .int (nI (k + 1)))]) [2, 3, 4, 5, 6, 7, 8, 9, 1, 0] rfl ?_
          exact ih (k + 1) true (up STd (17000 * lv + SBd (616 * lv + CHd lv + 1)) (ST (fr + k))) (up SBd (616 * lv + CHd lv + 1) (SBd (616 * lv + CHd lv + 1) + 1)) CHd (hwv) (hKd) (by first | assumption | omega | rfl) (by first | assumption | omega | rfl) (gcl) (gct) (by rw [flt_t (f := (fun p => (grpN uw w (f.getD 0) (s2.getD 0)) p == gg)) (by omega) (beq_iff_eq.mpr c_276)]; exact Or.inr ⟨rfl, by simp, lb_add hB⟩) (gF.trans fb_add) (by omega)
        · skip
          rw [c_284] at gP
          obtain ⟨hn0, hnC, hnS⟩ := lp_f gP
          refine r_aload_n C 0 d_Mo_split_287 rfl rfl ?_
          refine r_iload_n C 1 d_Mo_split_288 rfl rfl ?_
          refine j_callV C (c_Mo_beginSet g (xl x) (m0 := m0) (ad := ad) (qth := qth) (qsz := qsz) (qtk := qtk) (qde := qde) (qru := qru) (qat := qat) (qen := qen) (qto := qto) (qbe := qbe) (qva := qva) (qwr := qwr) (qop := qop) (qwi := nI uw) (qhe := nI uh) (qrw := qrw) (qma := nI md2) (qir := qir) (qiu := qiu) (lv := lv) (SB := SBd) (CH := CHd) (by first | assumption | omega | rfl) (by first | assumption | omega | rfl)) (Sp.of (wr := [((ad 37), .inl (g.2.1 0, 697000, .inl (aI STd))), ((ad 41), .inl (g.2.1 2, 256, .inl (zI HA))), ((ad 40), .inl (g.2.1 0, 41, .inl (aI (up DN lv 0))))]) [0, 2, 3] [1, 4, 5] rfl rfl rfl rfl (by decide)) d_Mo_split_289 lk_Mo_240 mw_Mo_beginSet vw_Mo_beginSet (q0 := 0) rfl rfl (fit_of hR (by first | decide | (simp only [rmk]; omega)) (by first | decide | (simp only [rmk]; omega)) (by first | decide | (simp only [rmk]; omega)) (by first | decide | (simp only [rmk]; omega))) rfl (cat8 (Nat.le_of_ble_eq_true rfl)) (As := [.int (nI lv)]) (rest := []) rfl (fun r_289 w_289 hp_289 => ?_)
          obtain ⟨rfl, rfl⟩ := hp_289
          refine r_after (ws' := [(m0, .inr (9, MO ad qth qsz (bI qir) qtk qde qru qat qen qto qbe qva qwr qop (bI qiu) (nI uw) (nI uh) qrw (nI md2))), ((ad 37), .inl (g.2.1 0, 697000, .inl (aI STd))), ((ad 38), .inl (g.2.1 0, 25300, .inl (aI (up SBd (616 * lv + CHd lv + 1) (SBd (616 * lv + CHd lv)))))), ((ad 39), .inl (g.2.1 0, 41, .inl (aI CHd))), ((ad 41), .inl (g.2.1 2, 256, .inl (zI HA))), ((ad 40), .inl (g.2.1 0, 41, .inl (aI (up DN lv 0))))]) (st' := []) (n1 := 0) (n2 := 0) [3, 0, 4, 5, 1, 2] rfl rfl rfl rfl rfl ?_
          refine r_iconst C (nI 1) d_Mo_split_292 (by decide) ?_
          refine r_istore C (lv' := [(8, .int (nI 1)), (0, .ref m0), (1, .int (nI lv)), (2, .int (nI w)), (3, .int (nI (f.getD 0))), (4, .int (nI (s2.getD 0))), (5, .int (nI fr)), (6, .int (nI z)), (7, .int (nI gg)), (9, .int (nI k))]) d_Mo_split_293 (by decide) rfl ?_
          refine r_aload_n C 1 d_Mo_split_295 rfl rfl ?_
          refine r_iload_n C 2 d_Mo_split_296 rfl rfl ?_
          refine r_aload_n C 1 d_Mo_split_297 rfl rfl ?_
          refine r_get C 0 37 d_Mo_split_298 ci_Mo fi_Mo_68 rfl (by decide) rfl rfl ?_
          refine r_iload C 6 d_Mo_split_301 rfl ?_
          refine r_iload C 9 d_Mo_split_303 rfl ?_
          refine r_nadd C d_Mo_split_305 ?_
          refine r_nald C 1 0 d_Mo_split_306 rfl rfl (by omega) (by decide) ?_
          refine r_top (v' := nI (ST (fr + k))) (by first | rw [hfk] | rfl) ?_
          refine j_callV C (c_Mo_add g (xl x) (m0 := m0) (ad := ad) (qth := qth) (qsz := qsz) (qtk := qtk) (qde := qde) (qru := qru) (qat := qat) (qen := qen) (qto := qto) (qbe := qbe) (qva := qva) (qwr := qwr) (qop := qop) (qwi := nI uw) (qhe := nI uh) (qrw := qrw) (qma := nI md2) (qir := qir) (qiu := qiu) (lv := lv) (p := ST (fr + k)) (SB := up SBd (616 * lv + CHd lv + 1) (SBd (616 * lv + CHd lv))) (CH := CHd) (ST := STd) (by first | assumption | omega | rfl) (by first | assumption | omega | rfl) (by first | (rw [hB.2.2.1]; omega) | (rw [up_self, hnS]; omega))) (Sp.of (wr := [((ad 41), .inl (g.2.1 2, 256, .inl (zI HA))), ((ad 40), .inl (g.2.1 0, 41, .inl (aI (up DN lv 0))))]) [0, 2, 3, 1] [4, 5] rfl rfl rfl rfl (by decide)) d_Mo_split_307 lk_Mo_243 mw_Mo_add vw_Mo_add (q0 := 0) rfl rfl (fit_of hR (by first | decide | (simp only [rmk]; omega)) (by first | decide | (simp only [rmk]; omega)) (by first | decide | (simp only [rmk]; omega)) (by first | decide | (simp only [rmk]; omega))) rfl (cat8 (Nat.le_of_ble_eq_true rfl)) (As := [.int (nI lv), .int (nI (ST (fr + k)))]) (rest := []) rfl (fun r_307 w_307 hp_307 => ?_)
          obtain ⟨rfl, rfl⟩ := hp_307
          refine r_after (ws' := [(m0, .inr (9, MO ad qth qsz (bI qir) qtk qde qru qat qen qto qbe qva qwr qop (bI qiu) (nI uw) (nI uh) qrw (nI md2))), ((ad 37), .inl (g.2.1 0, 697000, .inl (aI (up STd (17000 * lv + (up SBd (616 * lv + CHd lv + 1) (SBd (616 * lv + CHd lv))) (616 * lv + CHd lv + 1)) (ST (fr + k)))))), ((ad 38), .inl (g.2.1 0, 25300, .inl (aI (up (up SBd (616 * lv + CHd lv + 1) (SBd (616 * lv + CHd lv))) (616 * lv + CHd lv + 1) ((up SBd (616 * lv + CHd lv + 1) (SBd (616 * lv + CHd lv))) (616 * lv + CHd lv + 1) + 1))))), ((ad 39), .inl (g.2.1 0, 41, .inl (aI CHd))), ((ad 41), .inl (g.2.1 2, 256, .inl (zI HA))), ((ad 40), .inl (g.2.1 0, 41, .inl (aI (up DN lv 0))))]) (st' := []) (n1 := 0) (n2 := 0) [2, 5, 3, 4, 0, 1] rfl rfl rfl rfl rfl ?_
          refine r_iinc C 9 (nI (k + 1)) (lv' := [(9, .int (nI (k + 1))), (8, .int (nI 1)), (0, .ref m0), (1, .int (nI lv)), (2, .int (nI w)), (3, .int (nI (f.getD 0))), (4, .int (nI (s2.getD 0))), (5, .int (nI fr)), (6, .int (nI z)), (7, .int (nI gg))]) d_Mo_split_310 rfl (nI_inc 1 _) (by decide) rfl ?_
          refine r_goto C 249 d_Mo_split_313 (by decide) ?_
          refine r_lv (lv' := [(0, .ref m0), (1, .int (nI lv)), (2, .int (nI w)), (3, .int (nI (f.getD 0))), (4, .int (nI (s2.getD 0))), (5, .int (nI fr)), (6, .int (nI z)), (7, .int (nI gg)), (8, .int (bI true)), (9, .int (nI (k + 1)))]) [2, 3, 4, 5, 6, 7, 8, 9, 1, 0] rfl ?_
          exact ih (k + 1) true (up STd (17000 * lv + (up SBd (616 * lv + CHd lv + 1) (SBd (616 * lv + CHd lv))) (616 * lv + CHd lv + 1)) (ST (fr + k))) (up (up SBd (616 * lv + CHd lv + 1) (SBd (616 * lv + CHd lv))) (616 * lv + CHd lv + 1) ((up SBd (616 * lv + CHd lv + 1) (SBd (616 * lv + CHd lv))) (616 * lv + CHd lv + 1) + 1)) CHd (hwv) (hKd) (by first | assumption | omega | rfl) (by first | assumption | omega | rfl) (gcl) (gct) (by rw [flt_t (f := (fun p => (grpN uw w (f.getD 0) (s2.getD 0)) p == gg)) (by omega) (beq_iff_eq.mpr c_276), hn0]; exact Or.inr ⟨rfl, by simp, lb_add (lb_beg hnC hnS)⟩) ((gF.trans fb_beg).trans fb_add) (by omega)
      · skip
        refine r_goto C 310 d_Mo_split_279 (by decide) ?_
        refine r_iinc C 9 (nI (k + 1)) (lv' := [(9, .int (nI (k + 1))), (0, .ref m0), (1, .int (nI lv)), (2, .int (nI w)), (3, .int (nI (f.getD 0))), (4, .int (nI (s2.getD 0))), (5, .int (nI fr)), (6, .int (nI z)), (7, .int (nI gg)), (8, .int (bI an))]) d_Mo_split_310 rfl (nI_inc 1 _) (by decide) rfl ?_
        refine r_goto C 249 d_Mo_split_313 (by decide) ?_
        refine r_lv (lv' := [(0, .ref m0), (1, .int (nI lv)), (2, .int (nI w)), (3, .int (nI (f.getD 0))), (4, .int (nI (s2.getD 0))), (5, .int (nI fr)), (6, .int (nI z)), (7, .int (nI gg)), (8, .int (bI an)), (9, .int (nI (k + 1)))]) [1, 2, 3, 4, 5, 6, 7, 8, 9, 0] rfl ?_
        exact ih (k + 1) an STd SBd CHd (hwv) (hKd) (by first | assumption | omega | rfl) (by first | assumption | omega | rfl) (gcl) (gct) (by rw [flt_f (f := (fun p => (grpN uw w (f.getD 0) (s2.getD 0)) p == gg)) (by omega) (beq_eq_false_iff_ne.mpr c_276)]; exact gP) (gF) (by omega)
set_option maxHeartbeats 4000000 in
set_option maxRecDepth 100000 in
theorem lp_Mo_split_235 (g : GG) {m0 : Nat} {ad : Nat → Nat} {qth : Int32} {qsz : Int32} {qtk : Int32} {qde : Int32} {qru : Int32} {qat : Int32} {qen : Int32} {qto : Int32} {qbe : Int32} {qva : Int32} {qwr : Int32} {qop : Int32} {qrw : Int32} {qir : Bool} {qiu : Bool} {lv : Nat} {fr : Nat} {z : Nat} {uw : Nat} {uh : Nat} {md : Nat} {w : Nat} {f : Option Nat} {s2 : Option Nat} {ST : Nat → Nat} {SB : Nat → Nat} {CH : Nat → Nat} {DN : Nat → Nat} {HA : Nat → Bool} (hw0 : 0 < uw) (hw1 : uw ≤ 16) (hh0 : 0 < uh) (hh1 : uh ≤ 16) (hl : 1 ≤ lv) (hl2 : lv ≤ 40) (hz : z ≤ 256) (hfr : fr + z ≤ 17000 * lv) (hset : SetOK uw uh (segL ST fr z)) (hok : LyOK (w + 1, f, s2)) {x : X0} {A : Nat → Prop} {Q : State → Prop}  (C : CX x g A R_Mo b_Mo_split 10) (E : RX x g A Q none (fun (r0 : Option Value) (w0 : va_W) => ∃ STc : Nat → Nat, ∃ SBc : Nat → Nat, ∃ CHc : Nat → Nat, ∃ H2 : Nat → Bool, r0 = none ∧ w0 = [(m0, .inr (9, MO ad qth qsz (bI qir) qtk qde qru qat qen qto qbe qva qwr qop (bI qiu) (nI uw) (nI uh) qrw (nI (md + (kids uw uh (w + 1, f, s2) (segL ST fr z)).length)))), ((ad 37), .inl (g.2.1 0, 697000, .inl (aI STc))), ((ad 38), .inl (g.2.1 0, 25300, .inl (aI SBc))), ((ad 39), .inl (g.2.1 0, 41, .inl (aI CHc))), ((ad 41), .inl (g.2.1 2, 256, .inl (zI H2))), ((ad 40), .inl (g.2.1 0, 41, .inl (aI (up DN lv 0))))] ∧ (LvC STc SBc CHc lv (kids uw uh (w + 1, f, s2) (segL ST fr z))) ∧ (LvF lv ST SB CH STc SBc CHc)) (rmk 2 0 0 50).cells (rmk 2 0 0 50).slots) (hR : xR x = (rmk 2 0 0 50)) : ∀ (fuel : Nat) (gg : Nat) (STc : Nat → Nat) (SBc : Nat → Nat) (CHc : Nat → Nat) (md2 : Nat) (Cs : List (List Nat)) (hwv : w = 1 ∨ w = 2 ∨ w = 3 ∨ w = 9 ∨ w = 10) (hKd : (kids uw uh (w + 1, f, s2) (segL ST fr z)) = partL (keyN uw (w + 1) f s2) (segL ST fr z)) (hgg : gg ≤ 272) (hCs : Cs = partG (grpN uw w (f.getD 0) (s2.getD 0)) (segL ST fr z) gg) (hC : LvC STc SBc CHc lv Cs) (hF : LvF lv ST SB CH STc SBc CHc) (hm2 : md2 = md + Cs.length) (hs2 : SBc (616 * lv + Cs.length) = ((segL ST fr z).filter fun p => decide ((grpN uw w (f.getD 0) (s2.getD 0)) p < gg)).length), 272 - gg < fuel → J x g A Q 10 ([(m0, .inr (9, MO ad qth qsz (bI qir) qtk qde qru qat qen qto qbe qva qwr qop (bI qiu) (nI uw) (nI uh) qrw (nI md2))), ((ad 37), .inl (g.2.1 0, 697000, .inl (aI STc))), ((ad 38), .inl (g.2.1 0, 25300, .inl (aI SBc))), ((ad 39), .inl (g.2.1 0, 41, .inl (aI CHc))), ((ad 41), .inl (g.2.1 2, 256, .inl (zI HA))), ((ad 40), .inl (g.2.1 0, 41, .inl (aI (up DN lv 0))))]) [(0, .ref m0), (1, .int (nI lv)), (2, .int (nI w)), (3, .int (nI (f.getD 0))), (4, .int (nI (s2.getD 0))), (5, .int (nI fr)), (6, .int (nI z)), (7, .int (nI gg))] 235 [] 0 0 := by
  intro fuel
  induction fuel with
  | zero =>
    intro gg STc SBc CHc md2 Cs hwv hKd hgg hCs hC hF hm2 hs2 hm
    exact absurd hm (Nat.not_lt_zero _)
  | succ fuel ih =>
    intro gg STc SBc CHc md2 Cs hwv hKd hgg hCs hC hF hm2 hs2 hm
    refine r_iload C 7 d_Mo_split_235 rfl ?_
    refine r_sipush C (nI 272) d_Mo_split_237 (by decide) ?_
    refine r_ncmp_ge C 332 d_Mo_split_240 (by decide) (by omega) (by omega) (fun c_240 => ?_) (fun c_240 => ?_)
    · skip
      refine r_vret C E d_Mo_split_332 (by first | decide | omega | (simp only [rmk]; omega)) (by first | decide | omega | (simp only [rmk]; omega)) ?_
      obtain rfl : gg = 272 := by omega
      rw [parts_eq hok rfl rfl hw0 hw1 hh1 hwv hset] at hCs
      rw [hKd, ← hCs]
      subst hm2
      exact ⟨_, _, _, _, rfl, rfl, hC, hF⟩
    · skip
      refine r_iconst C (nI 0) d_Mo_split_243 (by decide) ?_
      refine r_istore C (lv' := [(8, .int (nI 0)), (0, .ref m0), (1, .int (nI lv)), (2, .int (nI w)), (3, .int (nI (f.getD 0))), (4, .int (nI (s2.getD 0))), (5, .int (nI fr)), (6, .int (nI z)), (7, .int (nI gg))]) d_Mo_split_244 (by decide) rfl ?_
      refine r_iconst C (nI 0) d_Mo_split_246 (by decide) ?_
      refine r_istore C (lv' := [(9, .int (nI 0)), (8, .int (nI 0)), (0, .ref m0), (1, .int (nI lv)), (2, .int (nI w)), (3, .int (nI (f.getD 0))), (4, .int (nI (s2.getD 0))), (5, .int (nI fr)), (6, .int (nI z)), (7, .int (nI gg))]) d_Mo_split_247 (by decide) rfl ?_
      refine r_lv (lv' := [(0, .ref m0), (1, .int (nI lv)), (2, .int (nI w)), (3, .int (nI (f.getD 0))), (4, .int (nI (s2.getD 0))), (5, .int (nI fr)), (6, .int (nI z)), (7, .int (nI gg)), (8, .int (bI false)), (9, .int (nI 0))]) [2, 3, 4, 5, 6, 7, 8, 9, 1, 0] rfl ?_
      refine lp_Mo_split_249 g (m0 := m0) (ad := ad) (qth := qth) (qsz := qsz) (qtk := qtk) (qde := qde) (qru := qru) (qat := qat) (qen := qen) (qto := qto) (qbe := qbe) (qva := qva) (qwr := qwr) (qop := qop) (qrw := qrw) (qir := qir) (qiu := qiu) (lv := lv) (fr := fr) (z := z) (uw := uw) (uh := uh) (md := md) (w := w) (f := f) (s2 := s2) (ST := ST) (SB := SB) (CH := CH) (DN := DN) (HA := HA) hw0 hw1 hh0 hh1 hl hl2 hz hfr hset hok (gg := gg) (md2 := md2) (cnt := ((segL ST fr z).filter fun p => decide ((grpN uw w (f.getD 0) (s2.getD 0)) p < gg)).length) (Cs := Cs)  C E hR (fun k an STd SBd CHd hwv hKd ggl gk gcl gct gP gF hx => ?_) _ 0 false STc SBc CHc (hwv) (hKd) (by first | assumption | omega | rfl) (by first | assumption | omega | rfl) (by rw [hCs]; exact partG_len) (rfl) (by rw [List.take_zero]; exact Or.inl ⟨rfl, rfl, hC, by rw [hC.2]; exact hs2⟩) (hF) (Nat.lt_succ_self _)
      have hkz : k = z := by omega
      rw [List.take_of_length_le (by rw [segL_len]; omega)] at gP
      refine r_iload C 8 d_Mo_split_316 rfl ?_
      refine r_bif_eq C 326 d_Mo_split_318 (by decide) (fun c_318 => ?_) (fun c_318 => ?_)
      · skip
        rw [c_318] at gP
        obtain ⟨hz0, hB⟩ := lp_f gP
        have hne : ((segL ST fr z).filter (fun p => (grpN uw w (f.getD 0) (s2.getD 0)) p == gg)).isEmpty = true := by rw [hz0]; rfl
        have hz0 : ((segL ST fr z).filter (fun p => (grpN uw w (f.getD 0) (s2.getD 0)) p == gg)).length = 0 := by rw [hz0]; rfl
        refine r_iinc C 7 (nI (gg + 1)) (lv' := [(7, .int (nI (gg + 1))), (0, .ref m0), (1, .int (nI lv)), (2, .int (nI w)), (3, .int (nI (f.getD 0))), (4, .int (nI (s2.getD 0))), (5, .int (nI fr)), (6, .int (nI z)), (8, .int (bI an)), (9, .int (nI k))]) d_Mo_split_326 rfl (nI_inc 1 _) (by decide) rfl ?_
        refine r_goto C 235 d_Mo_split_329 (by decide) ?_
        refine r_lv (lv' := [(0, .ref m0), (1, .int (nI lv)), (2, .int (nI w)), (3, .int (nI (f.getD 0))), (4, .int (nI (s2.getD 0))), (5, .int (nI fr)), (6, .int (nI z)), (7, .int (nI (gg + 1)))]) [1, 2, 3, 4, 5, 6, 7, 0] rfl ?_
        exact ih (gg + 1) STd SBd CHd md2 Cs (hwv) (hKd) (by first | assumption | omega | rfl) (by rw [partG_s, hne, hCs]; exact (List.append_nil _).symm) (hB.1) (gF) (hm2) (by rw [cnt_s, hz0]; have := hB.2; rw [hB.1.2] at this; exact this) (by omega)
      · skip
        rw [c_318] at gP
        obtain ⟨hn0, hB⟩ := lp_t gP
        have hne : ((segL ST fr z).filter (fun p => (grpN uw w (f.getD 0) (s2.getD 0)) p == gg)).isEmpty = false := by cases e : (segL ST fr z).filter (fun p => (grpN uw w (f.getD 0) (s2.getD 0)) p == gg) with
          | nil => exact absurd e hn0
          | cons a b => rfl
        have hch := hB.2.1
        refine r_aload_n C 0 d_Mo_split_321 rfl rfl ?_
        refine r_iload_n C 1 d_Mo_split_322 rfl rfl ?_
        refine j_callV C (c_Mo_endSet g (xl x) (m0 := m0) (ad := ad) (qth := qth) (qsz := qsz) (qtk := qtk) (qde := qde) (qru := qru) (qat := qat) (qen := qen) (qto := qto) (qbe := qbe) (qva := qva) (qwr := qwr) (qop := qop) (qwi := nI uw) (qhe := nI uh) (qrw := qrw) (qir := qir) (qiu := qiu) (lv := lv) (md := md2) (CH := CHd) (by first | assumption | omega | rfl) (by first | assumption | omega | rfl)) (Sp.of (wr := [((ad 37), .inl (g.2.1 0, 697000, .inl (aI STd))), ((ad 38), .inl (g.2.1 0, 25300, .inl (aI SBd))), ((ad 41), .inl (g.2.1 2, 256, .inl (zI HA))), ((ad 40), .inl (g.2.1 0, 41, .inl (aI (up DN lv 0))))]) [0, 3] [1, 2, 4, 5] rfl rfl rfl rfl (by decide)) d_Mo_split_323 lk_Mo_247 mw_Mo_endSet vw_Mo_endSet (q0 := 0) rfl rfl (fit_of hR (by first | decide | (simp only [rmk]; omega)) (by first | decide | (simp only [rmk]; omega)) (by first | decide | (simp only [rmk]; omega)) (by first | decide | (simp only [rmk]; omega))) rfl (cat8 (Nat.le_of_ble_eq_true rfl)) (As := [.int (nI lv)]) (rest := []) rfl (fun r_323 w_323 hp_323 => ?_)
        obtain ⟨rfl, rfl⟩ := hp_323
        refine r_after (ws' := [(m0, .inr (9, MO ad qth qsz (bI qir) qtk qde qru qat qen qto qbe qva qwr qop (bI qiu) (nI uw) (nI uh) qrw (nI (md2 + 1)))), ((ad 37), .inl (g.2.1 0, 697000, .inl (aI STd))), ((ad 38), .inl (g.2.1 0, 25300, .inl (aI SBd))), ((ad 39), .inl (g.2.1 0, 41, .inl (aI (up CHd lv (CHd lv + 1))))), ((ad 41), .inl (g.2.1 2, 256, .inl (zI HA))), ((ad 40), .inl (g.2.1 0, 41, .inl (aI (up DN lv 0))))]) (st' := []) (n1 := 0) (n2 := 0) [4, 0, 1, 5, 2, 3] rfl rfl rfl rfl rfl ?_
        refine r_iinc C 7 (nI (gg + 1)) (lv' := [(7, .int (nI (gg + 1))), (0, .ref m0), (1, .int (nI lv)), (2, .int (nI w)), (3, .int (nI (f.getD 0))), (4, .int (nI (s2.getD 0))), (5, .int (nI fr)), (6, .int (nI z)), (8, .int (bI an)), (9, .int (nI k))]) d_Mo_split_326 rfl (nI_inc 1 _) (by decide) rfl ?_
        refine r_goto C 235 d_Mo_split_329 (by decide) ?_
        refine r_lv (lv' := [(0, .ref m0), (1, .int (nI lv)), (2, .int (nI w)), (3, .int (nI (f.getD 0))), (4, .int (nI (s2.getD 0))), (5, .int (nI fr)), (6, .int (nI z)), (7, .int (nI (gg + 1)))]) [1, 2, 3, 4, 5, 6, 7, 0] rfl ?_
        exact ih (gg + 1) STd SBd (up CHd lv (CHd lv + 1)) (md2 + 1) (Cs ++ [(segL ST fr z).filter (fun p => (grpN uw w (f.getD 0) (s2.getD 0)) p == gg)]) (hwv) (hKd) (by first | assumption | omega | rfl) (by rw [partG_s, hne, hCs]; rfl) ((lb_end hB).1) (gF.trans fb_end) (by rw [hm2, List.length_append]; rfl) (by have := (lb_end hB).2; rw [up_self, hB.2.1] at this; rw [List.length_append, cnt_s]; exact this) (by omega)
set_option maxHeartbeats 4000000 in
set_option maxRecDepth 100000 in
theorem c_Mo_split (g : GG) (l : Launch) {m0 : Nat} {ad : Nat → Nat} {qth : Int32} {qsz : Int32} {qtk : Int32} {qde : Int32} {qru : Int32} {qat : Int32} {qen : Int32} {qto : Int32} {qbe : Int32} {qva : Int32} {qwr : Int32} {qop : Int32} {qrw : Int32} {qir : Bool} {qiu : Bool} {lv : Nat} {fr : Nat} {z : Nat} {uw : Nat} {uh : Nat} {md : Nat} {w : Nat} {f : Option Nat} {s2 : Option Nat} {ST : Nat → Nat} {SB : Nat → Nat} {CH : Nat → Nat} {DN : Nat → Nat} {HA : Nat → Bool}  (hw0 : 0 < uw) (hw1 : uw ≤ 16) (hh0 : 0 < uh) (hh1 : uh ≤ 16) (hl : 1 ≤ lv) (hl2 : lv ≤ 40) (hz : z ≤ 256) (hfr : fr + z ≤ 17000 * lv) (hset : SetOK uw uh (segL ST fr z)) (hok : LyOK (w + 1, f, s2)) : Cn g l y_Mo_split b_Mo_split 10 none (rmk 2 0 0 50) [.ref m0, .int (nI lv), .int (nI w), .int (nI (f.getD 0)), .int (nI (s2.getD 0)), .int (nI fr), .int (nI z)] ([(m0, .inr (9, MO ad qth qsz (bI qir) qtk qde qru qat qen qto qbe qva qwr qop (bI qiu) (nI uw) (nI uh) qrw (nI md))), ((ad 37), .inl (g.2.1 0, 697000, .inl (aI ST))), ((ad 38), .inl (g.2.1 0, 25300, .inl (aI SB))), ((ad 39), .inl (g.2.1 0, 41, .inl (aI CH))), ((ad 41), .inl (g.2.1 2, 256, .inl (zI HA))), ((ad 40), .inl (g.2.1 0, 41, .inl (aI DN)))]) (fun (r0 : Option Value) (w0 : va_W) => ∃ STc : Nat → Nat, ∃ SBc : Nat → Nat, ∃ CHc : Nat → Nat, ∃ H2 : Nat → Bool, r0 = none ∧ w0 = [(m0, .inr (9, MO ad qth qsz (bI qir) qtk qde qru qat qen qto qbe qva qwr qop (bI qiu) (nI uw) (nI uh) qrw (nI (md + (kids uw uh (w + 1, f, s2) (segL ST fr z)).length)))), ((ad 37), .inl (g.2.1 0, 697000, .inl (aI STc))), ((ad 38), .inl (g.2.1 0, 25300, .inl (aI SBc))), ((ad 39), .inl (g.2.1 0, 41, .inl (aI CHc))), ((ad 41), .inl (g.2.1 2, 256, .inl (zI H2))), ((ad 40), .inl (g.2.1 0, 41, .inl (aI (up DN lv 0))))] ∧ (LvC STc SBc CHc lv (kids uw uh (w + 1, f, s2) (segL ST fr z))) ∧ (LvF lv ST SB CH STc SBc CHc)) := by
  refine Cn.of R_Mo [(0, .ref m0), (1, .int (nI lv)), (2, .int (nI w)), (3, .int (nI (f.getD 0))), (4, .int (nI (s2.getD 0))), (5, .int (nI fr)), (6, .int (nI z))] (by decide) rfl (Nat.le_of_ble_eq_true rfl) rfl ?_
  intro x A Q hR hXl hin C E
  subst hXl
  have hwx : w + 1 ≤ 15 := hok.1.2
  refine r_aload_n C 0 d_Mo_split_0 rfl rfl ?_
  refine r_get C 0 39 d_Mo_split_1 ci_Mo fi_Mo_74 rfl (by decide) rfl rfl ?_
  refine r_iload_n C 1 d_Mo_split_4 rfl rfl ?_
  refine r_iconst C (nI 0) d_Mo_split_5 (by decide) ?_
  refine r_nast C (ws' := [(m0, .inr (9, MO ad qth qsz (bI qir) qtk qde qru qat qen qto qbe qva qwr qop (bI qiu) (nI uw) (nI uh) qrw (nI md))), ((ad 37), .inl (g.2.1 0, 697000, .inl (aI ST))), ((ad 38), .inl (g.2.1 0, 25300, .inl (aI SB))), ((ad 39), .inl (g.2.1 0, 41, .inl (aI (up CH lv 0)))), ((ad 41), .inl (g.2.1 2, 256, .inl (zI HA))), ((ad 40), .inl (g.2.1 0, 41, .inl (aI DN)))]) 3 0 d_Mo_split_6 rfl rfl (by omega) (by decide) rfl ?_
  refine r_aload_n C 0 d_Mo_split_7 rfl rfl ?_
  refine r_get C 0 40 d_Mo_split_8 ci_Mo fi_Mo_77 rfl (by decide) rfl rfl ?_
  refine r_iload_n C 1 d_Mo_split_11 rfl rfl ?_
  refine r_iconst C (nI 0) d_Mo_split_12 (by decide) ?_
  refine r_nast C (ws' := [(m0, .inr (9, MO ad qth qsz (bI qir) qtk qde qru qat qen qto qbe qva qwr qop (bI qiu) (nI uw) (nI uh) qrw (nI md))), ((ad 37), .inl (g.2.1 0, 697000, .inl (aI ST))), ((ad 38), .inl (g.2.1 0, 25300, .inl (aI SB))), ((ad 39), .inl (g.2.1 0, 41, .inl (aI (up CH lv 0)))), ((ad 41), .inl (g.2.1 2, 256, .inl (zI HA))), ((ad 40), .inl (g.2.1 0, 41, .inl (aI (up DN lv 0))))]) 5 0 d_Mo_split_13 rfl rfl (by omega) (by decide) rfl ?_
  refine r_aload_n C 0 d_Mo_split_14 rfl rfl ?_
  refine r_get C 0 38 d_Mo_split_15 ci_Mo fi_Mo_71 rfl (by decide) rfl rfl ?_
  refine r_sipush C (nI 616) d_Mo_split_18 (by decide) ?_
  refine r_iload_n C 1 d_Mo_split_21 rfl rfl ?_
  refine r_nmul C d_Mo_split_22 ?_
  refine r_iconst C (nI 0) d_Mo_split_23 (by decide) ?_
  refine r_nast C (ws' := [(m0, .inr (9, MO ad qth qsz (bI qir) qtk qde qru qat qen qto qbe qva qwr qop (bI qiu) (nI uw) (nI uh) qrw (nI md))), ((ad 37), .inl (g.2.1 0, 697000, .inl (aI ST))), ((ad 38), .inl (g.2.1 0, 25300, .inl (aI (up SB (616 * lv) 0)))), ((ad 39), .inl (g.2.1 0, 41, .inl (aI (up CH lv 0)))), ((ad 41), .inl (g.2.1 2, 256, .inl (zI HA))), ((ad 40), .inl (g.2.1 0, 41, .inl (aI (up DN lv 0))))]) 2 0 d_Mo_split_24 rfl rfl (by omega) (by decide) rfl ?_
  refine r_iload_n C 2 d_Mo_split_25 rfl rfl ?_
  refine r_bipush C (nI 7) d_Mo_split_26 (by decide) ?_
  refine r_ncmp_ne C 43 d_Mo_split_28 (by decide) (by omega) (by omega) (fun c_28 => ?_) (fun c_28 => ?_)
  · skip
    refine r_iload_n C 2 d_Mo_split_43 rfl rfl ?_
    refine r_bipush C (nI 8) d_Mo_split_44 (by decide) ?_
    refine r_ncmp_ne C 61 d_Mo_split_46 (by decide) (by omega) (by omega) (fun c_46 => ?_) (fun c_46 => ?_)
    · skip
      refine r_iload_n C 2 d_Mo_split_61 rfl rfl ?_
      refine r_iconst C (nI 4) d_Mo_split_62 (by decide) ?_
      refine r_ncmp_eq C 77 d_Mo_split_63 (by decide) (by omega) (by omega) (fun c_63 => ?_) (fun c_63 => ?_)
      · skip
        refine r_iload_n C 2 d_Mo_split_77 rfl rfl ?_
        refine r_iconst C (nI 4) d_Mo_split_78 (by decide) ?_
        refine r_ncmp_ne C 86 d_Mo_split_79 (by decide) (by omega) (by omega) (fun c_79 => ?_) (fun c_79 => ?_)
        · skip
          refine r_iload_n C 2 d_Mo_split_86 rfl rfl ?_
          refine r_iconst C (nI 5) d_Mo_split_87 (by decide) ?_
          refine r_ncmp_ne C 95 d_Mo_split_88 (by decide) (by omega) (by omega) (fun c_88 => ?_) (fun c_88 => ?_)
          · skip
            refine r_iload_n C 3 d_Mo_split_95 rfl rfl ?_
            refine r_istore C (lv' := [(7, .int (nI (f.getD 0))), (0, .ref m0), (1, .int (nI lv)), (2, .int (nI w)), (3, .int (nI (f.getD 0))), (4, .int (nI (s2.getD 0))), (5, .int (nI fr)), (6, .int (nI z))]) d_Mo_split_96 (by decide) rfl ?_
            refine r_iconst C (nI 0) d_Mo_split_98 (by decide) ?_
            refine r_istore C (lv' := [(8, .int (nI 0)), (7, .int (nI (f.getD 0))), (0, .ref m0), (1, .int (nI lv)), (2, .int (nI w)), (3, .int (nI (f.getD 0))), (4, .int (nI (s2.getD 0))), (5, .int (nI fr)), (6, .int (nI z))]) d_Mo_split_99 (by decide) rfl ?_
            refine r_lv (lv' := [(0, .ref m0), (1, .int (nI lv)), (2, .int (nI w)), (3, .int (nI (f.getD 0))), (4, .int (nI (s2.getD 0))), (5, .int (nI fr)), (6, .int (nI z)), (7, .int (nI (f.getD 0))), (8, .int (nI 0))]) [2, 3, 4, 5, 6, 7, 8, 1, 0] rfl ?_
            exact lp_Mo_split_101 g (m0 := m0) (ad := ad) (qth := qth) (qsz := qsz) (qtk := qtk) (qde := qde) (qru := qru) (qat := qat) (qen := qen) (qto := qto) (qbe := qbe) (qva := qva) (qwr := qwr) (qop := qop) (qrw := qrw) (qir := qir) (qiu := qiu) (lv := lv) (fr := fr) (z := z) (uw := uw) (uh := uh) (md := md) (w := w) (f := f) (s2 := s2) (ST := ST) (SB := SB) (CH := CH) (DN := DN) (HA := HA) hw0 hw1 hh0 hh1 hl hl2 hz hfr hset hok  C E hR _ (f.getD 0) 0 ST (up SB (616 * lv) 0) (up CH lv 0) md ([]) ((kd_win (uw := uw) (uh := uh) (L := (segL ST fr z)) hok (by omega)).2) ((kd_win hok (by omega)).1) (lv_0) (fr_0) (rfl) (by first | assumption | omega | rfl) (rfl) (by rw [Nat.zero_mul]; exact up_self _ _ _) (rfl) (Nat.lt_succ_self _)
          · skip
            refine r_iconst C (nI 2) d_Mo_split_91 (by decide) ?_
            refine r_goto C 96 d_Mo_split_92 (by decide) ?_
            refine r_istore C (lv' := [(7, .int (nI 2)), (0, .ref m0), (1, .int (nI lv)), (2, .int (nI w)), (3, .int (nI (f.getD 0))), (4, .int (nI (s2.getD 0))), (5, .int (nI fr)), (6, .int (nI z))]) d_Mo_split_96 (by decide) rfl ?_
            refine r_iconst C (nI 0) d_Mo_split_98 (by decide) ?_
            refine r_istore C (lv' := [(8, .int (nI 0)), (7, .int (nI 2)), (0, .ref m0), (1, .int (nI lv)), (2, .int (nI w)), (3, .int (nI (f.getD 0))), (4, .int (nI (s2.getD 0))), (5, .int (nI fr)), (6, .int (nI z))]) d_Mo_split_99 (by decide) rfl ?_
            refine r_lv (lv' := [(0, .ref m0), (1, .int (nI lv)), (2, .int (nI w)), (3, .int (nI (f.getD 0))), (4, .int (nI (s2.getD 0))), (5, .int (nI fr)), (6, .int (nI z)), (7, .int (nI 2)), (8, .int (nI 0))]) [2, 3, 4, 5, 6, 7, 8, 1, 0] rfl ?_
            exact lp_Mo_split_101 g (m0 := m0) (ad := ad) (qth := qth) (qsz := qsz) (qtk := qtk) (qde := qde) (qru := qru) (qat := qat) (qen := qen) (qto := qto) (qbe := qbe) (qva := qva) (qwr := qwr) (qop := qop) (qrw := qrw) (qir := qir) (qiu := qiu) (lv := lv) (fr := fr) (z := z) (uw := uw) (uh := uh) (md := md) (w := w) (f := f) (s2 := s2) (ST := ST) (SB := SB) (CH := CH) (DN := DN) (HA := HA) hw0 hw1 hh0 hh1 hl hl2 hz hfr hset hok  C E hR _ 2 0 ST (up SB (616 * lv) 0) (up CH lv 0) md ([]) ((kd_win (uw := uw) (uh := uh) (L := (segL ST fr z)) hok (by omega)).2) ((kd_win hok (by omega)).1) (lv_0) (fr_0) (rfl) (by first | assumption | omega | rfl) (rfl) (by rw [Nat.zero_mul]; exact up_self _ _ _) (rfl) (Nat.lt_succ_self _)
        · skip
          refine r_iconst C (nI 1) d_Mo_split_82 (by decide) ?_
          refine r_goto C 96 d_Mo_split_83 (by decide) ?_
          refine r_istore C (lv' := [(7, .int (nI 1)), (0, .ref m0), (1, .int (nI lv)), (2, .int (nI w)), (3, .int (nI (f.getD 0))), (4, .int (nI (s2.getD 0))), (5, .int (nI fr)), (6, .int (nI z))]) d_Mo_split_96 (by decide) rfl ?_
          refine r_iconst C (nI 0) d_Mo_split_98 (by decide) ?_
          refine r_istore C (lv' := [(8, .int (nI 0)), (7, .int (nI 1)), (0, .ref m0), (1, .int (nI lv)), (2, .int (nI w)), (3, .int (nI (f.getD 0))), (4, .int (nI (s2.getD 0))), (5, .int (nI fr)), (6, .int (nI z))]) d_Mo_split_99 (by decide) rfl ?_
          refine r_lv (lv' := [(0, .ref m0), (1, .int (nI lv)), (2, .int (nI w)), (3, .int (nI (f.getD 0))), (4, .int (nI (s2.getD 0))), (5, .int (nI fr)), (6, .int (nI z)), (7, .int (nI 1)), (8, .int (nI 0))]) [2, 3, 4, 5, 6, 7, 8, 1, 0] rfl ?_
          exact lp_Mo_split_101 g (m0 := m0) (ad := ad) (qth := qth) (qsz := qsz) (qtk := qtk) (qde := qde) (qru := qru) (qat := qat) (qen := qen) (qto := qto) (qbe := qbe) (qva := qva) (qwr := qwr) (qop := qop) (qrw := qrw) (qir := qir) (qiu := qiu) (lv := lv) (fr := fr) (z := z) (uw := uw) (uh := uh) (md := md) (w := w) (f := f) (s2 := s2) (ST := ST) (SB := SB) (CH := CH) (DN := DN) (HA := HA) hw0 hw1 hh0 hh1 hl hl2 hz hfr hset hok  C E hR _ 1 0 ST (up SB (616 * lv) 0) (up CH lv 0) md ([]) ((kd_win (uw := uw) (uh := uh) (L := (segL ST fr z)) hok (by omega)).2) ((kd_win hok (by omega)).1) (lv_0) (fr_0) (rfl) (by first | assumption | omega | rfl) (rfl) (by rw [Nat.zero_mul]; exact up_self _ _ _) (rfl) (Nat.lt_succ_self _)
      · skip
        refine r_iload_n C 2 d_Mo_split_66 rfl rfl ?_
        refine r_iconst C (nI 5) d_Mo_split_67 (by decide) ?_
        refine r_ncmp_eq C 77 d_Mo_split_68 (by decide) (by omega) (by omega) (fun c_68 => ?_) (fun c_68 => ?_)
        · skip
          refine r_iload_n C 2 d_Mo_split_77 rfl rfl ?_
          refine r_iconst C (nI 4) d_Mo_split_78 (by decide) ?_
          refine r_ncmp_ne C 86 d_Mo_split_79 (by decide) (by omega) (by omega) (fun c_79 => ?_) (fun c_79 => ?_)
          · skip
            refine r_iload_n C 2 d_Mo_split_86 rfl rfl ?_
            refine r_iconst C (nI 5) d_Mo_split_87 (by decide) ?_
            refine r_ncmp_ne C 95 d_Mo_split_88 (by decide) (by omega) (by omega) (fun c_88 => ?_) (fun c_88 => ?_)
            · skip
              refine r_iload_n C 3 d_Mo_split_95 rfl rfl ?_
              refine r_istore C (lv' := [(7, .int (nI (f.getD 0))), (0, .ref m0), (1, .int (nI lv)), (2, .int (nI w)), (3, .int (nI (f.getD 0))), (4, .int (nI (s2.getD 0))), (5, .int (nI fr)), (6, .int (nI z))]) d_Mo_split_96 (by decide) rfl ?_
              refine r_iconst C (nI 0) d_Mo_split_98 (by decide) ?_
              refine r_istore C (lv' := [(8, .int (nI 0)), (7, .int (nI (f.getD 0))), (0, .ref m0), (1, .int (nI lv)), (2, .int (nI w)), (3, .int (nI (f.getD 0))), (4, .int (nI (s2.getD 0))), (5, .int (nI fr)), (6, .int (nI z))]) d_Mo_split_99 (by decide) rfl ?_
              refine r_lv (lv' := [(0, .ref m0), (1, .int (nI lv)), (2, .int (nI w)), (3, .int (nI (f.getD 0))), (4, .int (nI (s2.getD 0))), (5, .int (nI fr)), (6, .int (nI z)), (7, .int (nI (f.getD 0))), (8, .int (nI 0))]) [2, 3, 4, 5, 6, 7, 8, 1, 0] rfl ?_
              exact lp_Mo_split_101 g (m0 := m0) (ad := ad) (qth := qth) (qsz := qsz) (qtk := qtk) (qde := qde) (qru := qru) (qat := qat) (qen := qen) (qto := qto) (qbe := qbe) (qva := qva) (qwr := qwr) (qop := qop) (qrw := qrw) (qir := qir) (qiu := qiu) (lv := lv) (fr := fr) (z := z) (uw := uw) (uh := uh) (md := md) (w := w) (f := f) (s2 := s2) (ST := ST) (SB := SB) (CH := CH) (DN := DN) (HA := HA) hw0 hw1 hh0 hh1 hl hl2 hz hfr hset hok  C E hR _ (f.getD 0) 0 ST (up SB (616 * lv) 0) (up CH lv 0) md ([]) ((kd_win (uw := uw) (uh := uh) (L := (segL ST fr z)) hok (by omega)).2) ((kd_win hok (by omega)).1) (lv_0) (fr_0) (rfl) (by first | assumption | omega | rfl) (rfl) (by rw [Nat.zero_mul]; exact up_self _ _ _) (rfl) (Nat.lt_succ_self _)
            · skip
              refine r_iconst C (nI 2) d_Mo_split_91 (by decide) ?_
              refine r_goto C 96 d_Mo_split_92 (by decide) ?_
              refine r_istore C (lv' := [(7, .int (nI 2)), (0, .ref m0), (1, .int (nI lv)), (2, .int (nI w)), (3, .int (nI (f.getD 0))), (4, .int (nI (s2.getD 0))), (5, .int (nI fr)), (6, .int (nI z))]) d_Mo_split_96 (by decide) rfl ?_
              refine r_iconst C (nI 0) d_Mo_split_98 (by decide) ?_
              refine r_istore C (lv' := [(8, .int (nI 0)), (7, .int (nI 2)), (0, .ref m0), (1, .int (nI lv)), (2, .int (nI w)), (3, .int (nI (f.getD 0))), (4, .int (nI (s2.getD 0))), (5, .int (nI fr)), (6, .int (nI z))]) d_Mo_split_99 (by decide) rfl ?_
              refine r_lv (lv' := [(0, .ref m0), (1, .int (nI lv)), (2, .int (nI w)), (3, .int (nI (f.getD 0))), (4, .int (nI (s2.getD 0))), (5, .int (nI fr)), (6, .int (nI z)), (7, .int (nI 2)), (8, .int (nI 0))]) [2, 3, 4, 5, 6, 7, 8, 1, 0] rfl ?_
              exact lp_Mo_split_101 g (m0 := m0) (ad := ad) (qth := qth) (qsz := qsz) (qtk := qtk) (qde := qde) (qru := qru) (qat := qat) (qen := qen) (qto := qto) (qbe := qbe) (qva := qva) (qwr := qwr) (qop := qop) (qrw := qrw) (qir := qir) (qiu := qiu) (lv := lv) (fr := fr) (z := z) (uw := uw) (uh := uh) (md := md) (w := w) (f := f) (s2 := s2) (ST := ST) (SB := SB) (CH := CH) (DN := DN) (HA := HA) hw0 hw1 hh0 hh1 hl hl2 hz hfr hset hok  C E hR _ 2 0 ST (up SB (616 * lv) 0) (up CH lv 0) md ([]) ((kd_win (uw := uw) (uh := uh) (L := (segL ST fr z)) hok (by omega)).2) ((kd_win hok (by omega)).1) (lv_0) (fr_0) (rfl) (by first | assumption | omega | rfl) (rfl) (by rw [Nat.zero_mul]; exact up_self _ _ _) (rfl) (Nat.lt_succ_self _)
          · skip
            refine r_iconst C (nI 1) d_Mo_split_82 (by decide) ?_
            refine r_goto C 96 d_Mo_split_83 (by decide) ?_
            refine r_istore C (lv' := [(7, .int (nI 1)), (0, .ref m0), (1, .int (nI lv)), (2, .int (nI w)), (3, .int (nI (f.getD 0))), (4, .int (nI (s2.getD 0))), (5, .int (nI fr)), (6, .int (nI z))]) d_Mo_split_96 (by decide) rfl ?_
            refine r_iconst C (nI 0) d_Mo_split_98 (by decide) ?_
            refine r_istore C (lv' := [(8, .int (nI 0)), (7, .int (nI 1)), (0, .ref m0), (1, .int (nI lv)), (2, .int (nI w)), (3, .int (nI (f.getD 0))), (4, .int (nI (s2.getD 0))), (5, .int (nI fr)), (6, .int (nI z))]) d_Mo_split_99 (by decide) rfl ?_
            refine r_lv (lv' := [(0, .ref m0), (1, .int (nI lv)), (2, .int (nI w)), (3, .int (nI (f.getD 0))), (4, .int (nI (s2.getD 0))), (5, .int (nI fr)), (6, .int (nI z)), (7, .int (nI 1)), (8, .int (nI 0))]) [2, 3, 4, 5, 6, 7, 8, 1, 0] rfl ?_
            exact lp_Mo_split_101 g (m0 := m0) (ad := ad) (qth := qth) (qsz := qsz) (qtk := qtk) (qde := qde) (qru := qru) (qat := qat) (qen := qen) (qto := qto) (qbe := qbe) (qva := qva) (qwr := qwr) (qop := qop) (qrw := qrw) (qir := qir) (qiu := qiu) (lv := lv) (fr := fr) (z := z) (uw := uw) (uh := uh) (md := md) (w := w) (f := f) (s2 := s2) (ST := ST) (SB := SB) (CH := CH) (DN := DN) (HA := HA) hw0 hw1 hh0 hh1 hl hl2 hz hfr hset hok  C E hR _ 1 0 ST (up SB (616 * lv) 0) (up CH lv 0) md ([]) ((kd_win (uw := uw) (uh := uh) (L := (segL ST fr z)) hok (by omega)).2) ((kd_win hok (by omega)).1) (lv_0) (fr_0) (rfl) (by first | assumption | omega | rfl) (rfl) (by rw [Nat.zero_mul]; exact up_self _ _ _) (rfl) (Nat.lt_succ_self _)
        · skip
          refine r_iload_n C 2 d_Mo_split_71 rfl rfl ?_
          refine r_bipush C (nI 6) d_Mo_split_72 (by decide) ?_
          refine r_ncmp_ne C 164 d_Mo_split_74 (by decide) (by omega) (by omega) (fun c_74 => ?_) (fun c_74 => ?_)
          · skip
            refine r_iload_n C 2 d_Mo_split_164 rfl rfl ?_
            refine r_bipush C (nI 11) d_Mo_split_165 (by decide) ?_
            refine r_ncmp_lt C 232 d_Mo_split_167 (by decide) (by omega) (by omega) (fun c_167 => ?_) (fun c_167 => ?_)
            · skip
              refine r_iconst C (nI 0) d_Mo_split_232 (by decide) ?_
              refine r_istore C (lv' := [(7, .int (nI 0)), (0, .ref m0), (1, .int (nI lv)), (2, .int (nI w)), (3, .int (nI (f.getD 0))), (4, .int (nI (s2.getD 0))), (5, .int (nI fr)), (6, .int (nI z))]) d_Mo_split_233 (by decide) rfl ?_
              refine r_lv (lv' := [(0, .ref m0), (1, .int (nI lv)), (2, .int (nI w)), (3, .int (nI (f.getD 0))), (4, .int (nI (s2.getD 0))), (5, .int (nI fr)), (6, .int (nI z)), (7, .int (nI 0))]) [1, 2, 3, 4, 5, 6, 7, 0] rfl ?_
              exact lp_Mo_split_235 g (m0 := m0) (ad := ad) (qth := qth) (qsz := qsz) (qtk := qtk) (qde := qde) (qru := qru) (qat := qat) (qen := qen) (qto := qto) (qbe := qbe) (qva := qva) (qwr := qwr) (qop := qop) (qrw := qrw) (qir := qir) (qiu := qiu) (lv := lv) (fr := fr) (z := z) (uw := uw) (uh := uh) (md := md) (w := w) (f := f) (s2 := s2) (ST := ST) (SB := SB) (CH := CH) (DN := DN) (HA := HA) hw0 hw1 hh0 hh1 hl hl2 hz hfr hset hok  C E hR _ 0 ST (up SB (616 * lv) 0) (up CH lv 0) md ([]) ((kd_part (uw := uw) (uh := uh) (L := []) hok (by omega) (by omega) (by omega) (by omega) (by omega) (by omega)).2) ((kd_part hok (by omega) (by omega) (by omega) (by omega) (by omega) (by omega)).1) (by first | assumption | omega | rfl) (rfl) (lv_0) (fr_0) (rfl) (by rw [cnt_0]; exact up_self _ _ _) (Nat.lt_succ_self _)
            · skip
              have hch : up CH lv 0 lv ≤ 614 := by rw [up_self]; omega
              refine r_aload_n C 0 d_Mo_split_170 rfl rfl ?_
              refine r_iload_n C 1 d_Mo_split_171 rfl rfl ?_
              refine j_callV C (c_Mo_beginSet g (xl x) (m0 := m0) (ad := ad) (qth := qth) (qsz := qsz) (qtk := qtk) (qde := qde) (qru := qru) (qat := qat) (qen := qen) (qto := qto) (qbe := qbe) (qva := qva) (qwr := qwr) (qop := qop) (qwi := nI uw) (qhe := nI uh) (qrw := qrw) (qma := nI md) (qir := qir) (qiu := qiu) (lv := lv) (SB := up SB (616 * lv) 0) (CH := up CH lv 0) (by first | assumption | omega | rfl) (by first | assumption | omega | rfl)) (Sp.of (wr := [((ad 37), .inl (g.2.1 0, 697000, .inl (aI ST))), ((ad 41), .inl (g.2.1 2, 256, .inl (zI HA))), ((ad 40), .inl (g.2.1 0, 41, .inl (aI (up DN lv 0))))]) [0, 2, 3] [1, 4, 5] rfl rfl rfl rfl (by decide)) d_Mo_split_172 lk_Mo_240 mw_Mo_beginSet vw_Mo_beginSet (q0 := 0) rfl rfl (fit_of hR (by first | decide | (simp only [rmk]; omega)) (by first | decide | (simp only [rmk]; omega)) (by first | decide | (simp only [rmk]; omega)) (by first | decide | (simp only [rmk]; omega))) rfl (cat8 (Nat.le_of_ble_eq_true rfl)) (As := [.int (nI lv)]) (rest := []) rfl (fun r_172 w_172 hp_172 => ?_)
              obtain ⟨rfl, rfl⟩ := hp_172
              refine r_after (ws' := [(m0, .inr (9, MO ad qth qsz (bI qir) qtk qde qru qat qen qto qbe qva qwr qop (bI qiu) (nI uw) (nI uh) qrw (nI md))), ((ad 37), .inl (g.2.1 0, 697000, .inl (aI ST))), ((ad 38), .inl (g.2.1 0, 25300, .inl (aI (up (up SB (616 * lv) 0) (616 * lv + (up CH lv 0) lv + 1) ((up SB (616 * lv) 0) (616 * lv + (up CH lv 0) lv)))))), ((ad 39), .inl (g.2.1 0, 41, .inl (aI (up CH lv 0)))), ((ad 41), .inl (g.2.1 2, 256, .inl (zI HA))), ((ad 40), .inl (g.2.1 0, 41, .inl (aI (up DN lv 0))))]) (st' := []) (n1 := 0) (n2 := 0) [3, 0, 4, 5, 1, 2] rfl rfl rfl rfl rfl ?_
              refine r_iconst C (nI 0) d_Mo_split_175 (by decide) ?_
              refine r_istore C (lv' := [(7, .int (nI 0)), (0, .ref m0), (1, .int (nI lv)), (2, .int (nI w)), (3, .int (nI (f.getD 0))), (4, .int (nI (s2.getD 0))), (5, .int (nI fr)), (6, .int (nI z))]) d_Mo_split_176 (by decide) rfl ?_
              refine r_lv (lv' := [(0, .ref m0), (1, .int (nI lv)), (2, .int (nI w)), (3, .int (nI (f.getD 0))), (4, .int (nI (s2.getD 0))), (5, .int (nI fr)), (6, .int (nI z)), (7, .int (nI 0))]) [1, 2, 3, 4, 5, 6, 7, 0] rfl ?_
              exact lp_Mo_split_178 g (m0 := m0) (ad := ad) (qth := qth) (qsz := qsz) (qtk := qtk) (qde := qde) (qru := qru) (qat := qat) (qen := qen) (qto := qto) (qbe := qbe) (qva := qva) (qwr := qwr) (qop := qop) (qrw := qrw) (qir := qir) (qiu := qiu) (lv := lv) (fr := fr) (z := z) (uw := uw) (uh := uh) (md := md) (w := w) (f := f) (s2 := s2) (ST := ST) (SB := SB) (CH := CH) (DN := DN) (HA := HA) hw0 hw1 hh0 hh1 hl hl2 hz hfr hset hok  C E hR _ 0 ST (up (up SB (616 * lv) 0) (616 * lv + (up CH lv 0) lv + 1) ((up SB (616 * lv) 0) (616 * lv + (up CH lv 0) lv))) (up CH lv 0) (by first | assumption | omega | rfl) ((kd_flt (uw := uw) (uh := uh) (L := []) hok c_167).2) ((kd_flt hok c_167).1) (by rw [List.take_zero]; exact lb_beg lv_0 (by rw [up_self]; exact up_self _ _ _)) (fr_0.trans fb_beg) (Nat.lt_succ_self _)
          · skip
            refine r_iload_n C 2 d_Mo_split_77 rfl rfl ?_
            refine r_iconst C (nI 4) d_Mo_split_78 (by decide) ?_
            refine r_ncmp_ne C 86 d_Mo_split_79 (by decide) (by omega) (by omega) (fun c_79 => ?_) (fun c_79 => ?_)
            · skip
              refine r_iload_n C 2 d_Mo_split_86 rfl rfl ?_
              refine r_iconst C (nI 5) d_Mo_split_87 (by decide) ?_
              refine r_ncmp_ne C 95 d_Mo_split_88 (by decide) (by omega) (by omega) (fun c_88 => ?_) (fun c_88 => ?_)
              · skip
                refine r_iload_n C 3 d_Mo_split_95 rfl rfl ?_
                refine r_istore C (lv' := [(7, .int (nI (f.getD 0))), (0, .ref m0), (1, .int (nI lv)), (2, .int (nI w)), (3, .int (nI (f.getD 0))), (4, .int (nI (s2.getD 0))), (5, .int (nI fr)), (6, .int (nI z))]) d_Mo_split_96 (by decide) rfl ?_
                refine r_iconst C (nI 0) d_Mo_split_98 (by decide) ?_
                refine r_istore C (lv' := [(8, .int (nI 0)), (7, .int (nI (f.getD 0))), (0, .ref m0), (1, .int (nI lv)), (2, .int (nI w)), (3, .int (nI (f.getD 0))), (4, .int (nI (s2.getD 0))), (5, .int (nI fr)), (6, .int (nI z))]) d_Mo_split_99 (by decide) rfl ?_
                refine r_lv (lv' := [(0, .ref m0), (1, .int (nI lv)), (2, .int (nI w)), (3, .int (nI (f.getD 0))), (4, .int (nI (s2.getD 0))), (5, .int (nI fr)), (6, .int (nI z)), (7, .int (nI (f.getD 0))), (8, .int (nI 0))]) [2, 3, 4, 5, 6, 7, 8, 1, 0] rfl ?_
                exact lp_Mo_split_101 g (m0 := m0) (ad := ad) (qth := qth) (qsz := qsz) (qtk := qtk) (qde := qde) (qru := qru) (qat := qat) (qen := qen) (qto := qto) (qbe := qbe) (qva := qva) (qwr := qwr) (qop := qop) (qrw := qrw) (qir := qir) (qiu := qiu) (lv := lv) (fr := fr) (z := z) (uw := uw) (uh := uh) (md := md) (w := w) (f := f) (s2 := s2) (ST := ST) (SB := SB) (CH := CH) (DN := DN) (HA := HA) hw0 hw1 hh0 hh1 hl hl2 hz hfr hset hok  C E hR _ (f.getD 0) 0 ST (up SB (616 * lv) 0) (up CH lv 0) md ([]) ((kd_win (uw := uw) (uh := uh) (L := (segL ST fr z)) hok (by omega)).2) ((kd_win hok (by omega)).1) (lv_0) (fr_0) (rfl) (by first | assumption | omega | rfl) (rfl) (by rw [Nat.zero_mul]; exact up_self _ _ _) (rfl) (Nat.lt_succ_self _)
              · skip
                refine r_iconst C (nI 2) d_Mo_split_91 (by decide) ?_
                refine r_goto C 96 d_Mo_split_92 (by decide) ?_
                refine r_istore C (lv' := [(7, .int (nI 2)), (0, .ref m0), (1, .int (nI lv)), (2, .int (nI w)), (3, .int (nI (f.getD 0))), (4, .int (nI (s2.getD 0))), (5, .int (nI fr)), (6, .int (nI z))]) d_Mo_split_96 (by decide) rfl ?_
                refine r_iconst C (nI 0) d_Mo_split_98 (by decide) ?_
                refine r_istore C (lv' := [(8, .int (nI 0)), (7, .int (nI 2)), (0, .ref m0), (1, .int (nI lv)), (2, .int (nI w)), (3, .int (nI (f.getD 0))), (4, .int (nI (s2.getD 0))), (5, .int (nI fr)), (6, .int (nI z))]) d_Mo_split_99 (by decide) rfl ?_
                refine r_lv (lv' := [(0, .ref m0), (1, .int (nI lv)), (2, .int (nI w)), (3, .int (nI (f.getD 0))), (4, .int (nI (s2.getD 0))), (5, .int (nI fr)), (6, .int (nI z)), (7, .int (nI 2)), (8, .int (nI 0))]) [2, 3, 4, 5, 6, 7, 8, 1, 0] rfl ?_
                exact lp_Mo_split_101 g (m0 := m0) (ad := ad) (qth := qth) (qsz := qsz) (qtk := qtk) (qde := qde) (qru := qru) (qat := qat) (qen := qen) (qto := qto) (qbe := qbe) (qva := qva) (qwr := qwr) (qop := qop) (qrw := qrw) (qir := qir) (qiu := qiu) (lv := lv) (fr := fr) (z := z) (uw := uw) (uh := uh) (md := md) (w := w) (f := f) (s2 := s2) (ST := ST) (SB := SB) (CH := CH) (DN := DN) (HA := HA) hw0 hw1 hh0 hh1 hl hl2 hz hfr hset hok  C E hR _ 2 0 ST (up SB (616 * lv) 0) (up CH lv 0) md ([]) ((kd_win (uw := uw) (uh := uh) (L := (segL ST fr z)) hok (by omega)).2) ((kd_win hok (by omega)).1) (lv_0) (fr_0) (rfl) (by first | assumption | omega | rfl) (rfl) (by rw [Nat.zero_mul]; exact up_self _ _ _) (rfl) (Nat.lt_succ_self _)
            · skip
              refine r_iconst C (nI 1) d_Mo_split_82 (by decide) ?_
              refine r_goto C 96 d_Mo_split_83 (by decide) ?_
              refine r_istore C (lv' := [(7, .int (nI 1)), (0, .ref m0), (1, .int (nI lv)), (2, .int (nI w)), (3, .int (nI (f.getD 0))), (4, .int (nI (s2.getD 0))), (5, .int (nI fr)), (6, .int (nI z))]) d_Mo_split_96 (by decide) rfl ?_
              refine r_iconst C (nI 0) d_Mo_split_98 (by decide) ?_
              refine r_istore C (lv' := [(8, .int (nI 0)), (7, .int (nI 1)), (0, .ref m0), (1, .int (nI lv)), (2, .int (nI w)), (3, .int (nI (f.getD 0))), (4, .int (nI (s2.getD 0))), (5, .int (nI fr)), (6, .int (nI z))]) d_Mo_split_99 (by decide) rfl ?_
              refine r_lv (lv' := [(0, .ref m0), (1, .int (nI lv)), (2, .int (nI w)), (3, .int (nI (f.getD 0))), (4, .int (nI (s2.getD 0))), (5, .int (nI fr)), (6, .int (nI z)), (7, .int (nI 1)), (8, .int (nI 0))]) [2, 3, 4, 5, 6, 7, 8, 1, 0] rfl ?_
              exact lp_Mo_split_101 g (m0 := m0) (ad := ad) (qth := qth) (qsz := qsz) (qtk := qtk) (qde := qde) (qru := qru) (qat := qat) (qen := qen) (qto := qto) (qbe := qbe) (qva := qva) (qwr := qwr) (qop := qop) (qrw := qrw) (qir := qir) (qiu := qiu) (lv := lv) (fr := fr) (z := z) (uw := uw) (uh := uh) (md := md) (w := w) (f := f) (s2 := s2) (ST := ST) (SB := SB) (CH := CH) (DN := DN) (HA := HA) hw0 hw1 hh0 hh1 hl hl2 hz hfr hset hok  C E hR _ 1 0 ST (up SB (616 * lv) 0) (up CH lv 0) md ([]) ((kd_win (uw := uw) (uh := uh) (L := (segL ST fr z)) hok (by omega)).2) ((kd_win hok (by omega)).1) (lv_0) (fr_0) (rfl) (by first | assumption | omega | rfl) (rfl) (by rw [Nat.zero_mul]; exact up_self _ _ _) (rfl) (Nat.lt_succ_self _)
    · skip
      have hgr := gr_256 hw1 hh1
      have hLp : ∀ i, i < z → ST (fr + i) < uw * uh := fun i h => hset.2 _ (segL_mem.mpr ⟨i, h, rfl⟩)
      refine r_aload_n C 0 d_Mo_split_49 rfl rfl ?_
      refine r_iload_n C 1 d_Mo_split_50 rfl rfl ?_
      refine r_iload C 5 d_Mo_split_51 rfl ?_
      refine r_iload C 6 d_Mo_split_53 rfl ?_
      refine j_callV C (c_Mo_corners g (xl x) (m0 := m0) (ad := ad) (qth := qth) (qsz := qsz) (qtk := qtk) (qde := qde) (qru := qru) (qat := qat) (qen := qen) (qto := qto) (qbe := qbe) (qva := qva) (qwr := qwr) (qop := qop) (qrw := qrw) (qir := qir) (qiu := qiu) (lv := lv) (fr := fr) (z := z) (uw := uw) (uh := uh) (md := md) (ST := ST) (SB := up SB (616 * lv) 0) (CH := up CH lv 0) (HA := HA) (by first | assumption | omega | rfl) (by first | assumption | omega | rfl) (by first | assumption | omega | rfl) (by first | assumption | omega | rfl) (by first | assumption | omega | rfl) (by first | assumption | omega | rfl) (by first | assumption | omega | rfl) (by first | assumption | omega | rfl) (hLp) (lv_0) (by have := fm_len (cor_len (uw := uw) (L := (segL ST fr z))) (segL ST fr z); rw [segL_len] at this; omega)) (Sp.of (wr := [((ad 40), .inl (g.2.1 0, 41, .inl (aI (up DN lv 0))))]) [0, 1, 2, 3, 4] [5] rfl rfl rfl rfl (by decide)) d_Mo_split_55 lk_Mo_237 mw_Mo_corners vw_Mo_corners (q0 := 0) rfl rfl (fit_of hR (by first | decide | (simp only [rmk]; omega)) (by first | decide | (simp only [rmk]; omega)) (by first | decide | (simp only [rmk]; omega)) (by first | decide | (simp only [rmk]; omega))) rfl (cat8 (Nat.le_of_ble_eq_true rfl)) (As := [.int (nI lv), .int (nI fr), .int (nI z)]) (rest := []) rfl (fun r_55 w_55 hp_55 => ?_)
      obtain ⟨STc_55, SBc_55, CHc_55, H2_55, rfl, rfl, hC_55, hF_55⟩ := hp_55
      refine r_after (ws' := [(m0, .inr (9, MO ad qth qsz (bI qir) qtk qde qru qat qen qto qbe qva qwr qop (bI qiu) (nI uw) (nI uh) qrw (nI (md + ((segL ST fr z).flatMap (corP uw (segL ST fr z))).length)))), ((ad 37), .inl (g.2.1 0, 697000, .inl (aI STc_55))), ((ad 38), .inl (g.2.1 0, 25300, .inl (aI SBc_55))), ((ad 39), .inl (g.2.1 0, 41, .inl (aI CHc_55))), ((ad 41), .inl (g.2.1 2, 256, .inl (zI H2_55))), ((ad 40), .inl (g.2.1 0, 41, .inl (aI (up DN lv 0))))]) (st' := []) (n1 := 0) (n2 := 0) [1, 2, 3, 4, 5, 0] rfl rfl rfl rfl rfl ?_
      refine r_goto C 332 d_Mo_split_58 (by decide) ?_
      refine r_vret C E d_Mo_split_332 (by first | decide | omega | (simp only [rmk]; omega)) (by first | decide | omega | (simp only [rmk]; omega)) ?_
      rw [kd_cor c_46]
      exact ⟨_, _, _, _, rfl, rfl, hC_55, fr_0.trans hF_55⟩
  · skip
    have hgr := gr_256 hw1 hh1
    have hLp : ∀ i, i < z → ST (fr + i) < uw * uh := fun i h => hset.2 _ (segL_mem.mpr ⟨i, h, rfl⟩)
    refine r_aload_n C 0 d_Mo_split_31 rfl rfl ?_
    refine r_iload_n C 1 d_Mo_split_32 rfl rfl ?_
    refine r_iload C 5 d_Mo_split_33 rfl ?_
    refine r_iload C 6 d_Mo_split_35 rfl ?_
    refine j_callV C (c_Mo_sides g (xl x) (m0 := m0) (ad := ad) (qth := qth) (qsz := qsz) (qtk := qtk) (qde := qde) (qru := qru) (qat := qat) (qen := qen) (qto := qto) (qbe := qbe) (qva := qva) (qwr := qwr) (qop := qop) (qhe := nI uh) (qrw := qrw) (qir := qir) (qiu := qiu) (lv := lv) (fr := fr) (z := z) (uw := uw) (md := md) (ST := ST) (SB := up SB (616 * lv) 0) (CH := up CH lv 0) (by first | assumption | omega | rfl) (by first | assumption | omega | rfl) (by first | assumption | omega | rfl) (by first | assumption | omega | rfl) (by first | assumption | omega | rfl) (by first | assumption | omega | rfl) (fun i h => by have := hLp i h; omega) (lv_0) (by rw [sides_eq hw0 hw1 hh1 hset]; have := fm_len (side_len (uw := uw) (L := (segL ST fr z))) (segL ST fr z); rw [segL_len] at this; omega)) (Sp.of (wr := [((ad 41), .inl (g.2.1 2, 256, .inl (zI HA))), ((ad 40), .inl (g.2.1 0, 41, .inl (aI (up DN lv 0))))]) [0, 1, 2, 3] [4, 5] rfl rfl rfl rfl (by decide)) d_Mo_split_37 lk_Mo_234 mw_Mo_sides vw_Mo_sides (q0 := 0) rfl rfl (fit_of hR (by first | decide | (simp only [rmk]; omega)) (by first | decide | (simp only [rmk]; omega)) (by first | decide | (simp only [rmk]; omega)) (by first | decide | (simp only [rmk]; omega))) rfl (cat8 (Nat.le_of_ble_eq_true rfl)) (As := [.int (nI lv), .int (nI fr), .int (nI z)]) (rest := []) rfl (fun r_37 w_37 hp_37 => ?_)
    obtain ⟨STc_37, SBc_37, CHc_37, rfl, rfl, hC_37, hF_37⟩ := hp_37
    refine r_after (ws' := [(m0, .inr (9, MO ad qth qsz (bI qir) qtk qde qru qat qen qto qbe qva qwr qop (bI qiu) (nI uw) (nI uh) qrw (nI (md + (sidesR uw (segL ST fr z)).length)))), ((ad 37), .inl (g.2.1 0, 697000, .inl (aI STc_37))), ((ad 38), .inl (g.2.1 0, 25300, .inl (aI SBc_37))), ((ad 39), .inl (g.2.1 0, 41, .inl (aI CHc_37))), ((ad 41), .inl (g.2.1 2, 256, .inl (zI HA))), ((ad 40), .inl (g.2.1 0, 41, .inl (aI (up DN lv 0))))]) (st' := []) (n1 := 0) (n2 := 0) [2, 3, 4, 5, 0, 1] rfl rfl rfl rfl rfl ?_
    refine r_goto C 332 d_Mo_split_40 (by decide) ?_
    refine r_vret C E d_Mo_split_332 (by first | decide | omega | (simp only [rmk]; omega)) (by first | decide | omega | (simp only [rmk]; omega)) ?_
    rw [sides_eq hw0 hw1 hh1 hset] at hC_37 ⊢
    rw [kd_side c_28]
    exact ⟨_, _, _, _, rfl, rfl, hC_37, fr_0.trans hF_37⟩
