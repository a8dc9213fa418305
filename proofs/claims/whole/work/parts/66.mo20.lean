section MUR
variable {ST RR RB PL RR2 RB2 PL2 : Nat → Nat} {fr z ri rw_ rw2 k : Nat} {R : Rows} {c : List Nat}
theorem rm_t (h : RowM ST fr z ri RR RB PL rw_ (flat R).length true RR2 RB2 PL2 rw2) (hM : MAt RR RB PL rw_ R) (hc : segL ST fr z = c) (hl : R.length ≤ 4000 ∧ (flat R).length ≤ 30000) : MAt RR2 RB2 PL2 rw2 (R ++ tag ri (if c = [] then [] else [c])) ∧ (R ++ tag ri (if c = [] then [] else [c])).length ≤ 4000 ∧ (flat (R ++ tag ri (if c = [] then [] else [c]))).length ≤ 30000 := by
  have hz : c.length = z := by rw [← hc, segL_len]
  rcases h with ⟨h1, _, rfl, rfl, rfl, rfl⟩ | ⟨h1, h2, h3, _, rfl, rfl, rfl, h4⟩ | ⟨_, _, h, _⟩
  · have e : c = [] := List.eq_nil_of_length_eq_zero (by omega)
    rw [if_pos e]
    simp only [tag, List.map_nil, List.append_nil]
    exact ⟨hM, hl⟩
  · have e : ¬ c = [] := fun e => by rw [e] at hz; simp at hz; omega
    rw [if_neg e]
    have hm := mat_row (ri := ri) hM h4
    rw [hc] at hm
    have hr := hM.1.1
    refine ⟨hm, ?_, ?_⟩
    · rw [List.length_append]
      simp only [tag, List.map_cons, List.map_nil, List.length_cons, List.length_nil]
      omega
    · rw [flat_app, List.length_append]
      simp only [flat, tag, List.map_cons, List.map_nil, List.flatMap_cons, List.flatMap_nil, List.append_nil]
      simp only [flat] at h3
      omega
  · cases h
theorem rm_f (h : RowM ST fr z ri RR RB PL rw_ (flat R).length false RR2 RB2 PL2 rw2) (hM : MAt RR RB PL rw_ R) (hc : segL ST fr z = c) : c ≠ [] ∧ rw2 = rw_ ∧ ¬ inLim k (R ++ tag ri [c]) := by
  have hz : c.length = z := by rw [← hc, segL_len]
  rcases h with ⟨_, h, _⟩ | ⟨_, _, _, h, _⟩ | ⟨h1, h2, _, _, _, _, h3⟩
  · cases h
  · cases h
  · refine ⟨fun e => by rw [e] at hz; simp at hz; omega, h3, fun q => h2 ?_⟩
    have hr := hM.1.1
    have q1 := q.2.1
    have q2 := q.2.2
    rw [List.length_append] at q1
    rw [flat_app, List.length_append] at q2
    simp only [tag, List.map_cons, List.map_nil, List.length_cons, List.length_nil] at q1
    simp only [flat, tag, List.map_cons, List.map_nil, List.flatMap_cons, List.flatMap_nil, List.append_nil] at q2
    refine ⟨by omega, ?_⟩
    simp only [flat]
    omega
theorem tg_s {R2 X : Rows} {W V : List (List Nat)} {Y : List (List Nat)} (h : R2 ++ tag ri V = X) (e : V = Y ++ W) : R2 ++ tag ri Y ++ tag ri W = X := by rw [← h, e, tag_app, List.append_assoc]
end MUR

set_option maxRecDepth 100000 in
theorem lk_Mo_263 : LK R_Mo 263 y_Mo_addRow := Or.inl (gw (i := 1155) rfl rfl)
set_option maxRecDepth 100000 in
theorem lk_Mo_266 : LK R_Mo 266 y_Mo_split := Or.inl (gw (i := 1159) rfl rfl)
set_option maxRecDepth 100000 in
theorem mw_Mo_addRow : MW y_Mo_addRow b_Mo_addRow 5 (some .boolean) 3 := ⟨(gw (i := 1158) rfl rfl), (gw (i := 80) rfl rfl), by decide +kernel⟩
set_option maxRecDepth 100000 in
theorem mw_Mo_split : MW y_Mo_split b_Mo_split 10 none 6 := ⟨(gw (i := 1162) rfl rfl), (gw (i := 80) rfl rfl), by decide +kernel⟩
set_option maxRecDepth 100000 in
theorem vw_Mo_addRow : VW y_Mo_addRow := ⟨(gw (i := 1157) rfl rfl), (gw (i := 60) rfl rfl)⟩
set_option maxRecDepth 100000 in
theorem vw_Mo_split : VW y_Mo_split := ⟨(gw (i := 1161) rfl rfl), (gw (i := 61) rfl rfl)⟩
theorem d_Mo_unroll_0 : decode b_Mo_unroll 0 = .ok (.aload_n 0, 1) := by decide +kernel
theorem d_Mo_unroll_1 : decode b_Mo_unroll 1 = .ok (.getfield 37, 3) := by decide +kernel
theorem d_Mo_unroll_4 : decode b_Mo_unroll 4 = .ok (.iload_n 1, 1) := by decide +kernel
theorem d_Mo_unroll_5 : decode b_Mo_unroll 5 = .ok (.iaload, 1) := by decide +kernel
theorem d_Mo_unroll_6 : decode b_Mo_unroll 6 = .ok (.istore_n 2, 1) := by decide +kernel
theorem d_Mo_unroll_7 : decode b_Mo_unroll 7 = .ok (.aload_n 0, 1) := by decide +kernel
theorem d_Mo_unroll_8 : decode b_Mo_unroll 8 = .ok (.getfield 74, 3) := by decide +kernel
theorem d_Mo_unroll_11 : decode b_Mo_unroll 11 = .ok (.iconst 0, 1) := by decide +kernel
theorem d_Mo_unroll_12 : decode b_Mo_unroll 12 = .ok (.iconst 1, 1) := by decide +kernel
theorem d_Mo_unroll_13 : decode b_Mo_unroll 13 = .ok (.iastore, 1) := by decide +kernel
theorem d_Mo_unroll_14 : decode b_Mo_unroll 14 = .ok (.aload_n 0, 1) := by decide +kernel
theorem d_Mo_unroll_15 : decode b_Mo_unroll 15 = .ok (.getfield 77, 3) := by decide +kernel
theorem d_Mo_unroll_18 : decode b_Mo_unroll 18 = .ok (.iconst 0, 1) := by decide +kernel
theorem d_Mo_unroll_19 : decode b_Mo_unroll 19 = .ok (.iconst 0, 1) := by decide +kernel
theorem d_Mo_unroll_20 : decode b_Mo_unroll 20 = .ok (.iastore, 1) := by decide +kernel
theorem d_Mo_unroll_21 : decode b_Mo_unroll 21 = .ok (.aload_n 0, 1) := by decide +kernel
theorem d_Mo_unroll_22 : decode b_Mo_unroll 22 = .ok (.getfield 71, 3) := by decide +kernel
theorem d_Mo_unroll_25 : decode b_Mo_unroll 25 = .ok (.iconst 0, 1) := by decide +kernel
theorem d_Mo_unroll_26 : decode b_Mo_unroll 26 = .ok (.iconst 0, 1) := by decide +kernel
theorem d_Mo_unroll_27 : decode b_Mo_unroll 27 = .ok (.iastore, 1) := by decide +kernel
theorem d_Mo_unroll_28 : decode b_Mo_unroll 28 = .ok (.aload_n 0, 1) := by decide +kernel
theorem d_Mo_unroll_29 : decode b_Mo_unroll 29 = .ok (.getfield 71, 3) := by decide +kernel
theorem d_Mo_unroll_32 : decode b_Mo_unroll 32 = .ok (.iconst 1, 1) := by decide +kernel
theorem d_Mo_unroll_33 : decode b_Mo_unroll 33 = .ok (.aload_n 0, 1) := by decide +kernel
theorem d_Mo_unroll_34 : decode b_Mo_unroll 34 = .ok (.getfield 218, 3) := by decide +kernel
theorem d_Mo_unroll_37 : decode b_Mo_unroll 37 = .ok (.aload_n 0, 1) := by decide +kernel
theorem d_Mo_unroll_38 : decode b_Mo_unroll 38 = .ok (.getfield 231, 3) := by decide +kernel
theorem d_Mo_unroll_41 : decode b_Mo_unroll 41 = .ok (.imul, 1) := by decide +kernel
theorem d_Mo_unroll_42 : decode b_Mo_unroll 42 = .ok (.iastore, 1) := by decide +kernel
theorem d_Mo_unroll_43 : decode b_Mo_unroll 43 = .ok (.iconst 0, 1) := by decide +kernel
theorem d_Mo_unroll_44 : decode b_Mo_unroll 44 = .ok (.istore_n 3, 1) := by decide +kernel
theorem d_Mo_unroll_45 : decode b_Mo_unroll 45 = .ok (.iload_n 3, 1) := by decide +kernel
theorem d_Mo_unroll_46 : decode b_Mo_unroll 46 = .ok (.aload_n 0, 1) := by decide +kernel
theorem d_Mo_unroll_47 : decode b_Mo_unroll 47 = .ok (.getfield 218, 3) := by decide +kernel
theorem d_Mo_unroll_50 : decode b_Mo_unroll 50 = .ok (.aload_n 0, 1) := by decide +kernel
theorem d_Mo_unroll_51 : decode b_Mo_unroll 51 = .ok (.getfield 231, 3) := by decide +kernel
theorem d_Mo_unroll_54 : decode b_Mo_unroll 54 = .ok (.imul, 1) := by decide +kernel
theorem d_Mo_unroll_55 : decode b_Mo_unroll 55 = .ok (.if_icmp .ge 16, 3) := by decide +kernel
theorem d_Mo_unroll_58 : decode b_Mo_unroll 58 = .ok (.aload_n 0, 1) := by decide +kernel
theorem d_Mo_unroll_59 : decode b_Mo_unroll 59 = .ok (.getfield 68, 3) := by decide +kernel
theorem d_Mo_unroll_62 : decode b_Mo_unroll 62 = .ok (.iload_n 3, 1) := by decide +kernel
theorem d_Mo_unroll_63 : decode b_Mo_unroll 63 = .ok (.iload_n 3, 1) := by decide +kernel
theorem d_Mo_unroll_64 : decode b_Mo_unroll 64 = .ok (.iastore, 1) := by decide +kernel
theorem d_Mo_unroll_65 : decode b_Mo_unroll 65 = .ok (.iinc 3 1, 3) := by decide +kernel
theorem d_Mo_unroll_68 : decode b_Mo_unroll 68 = .ok (.goto (-23), 3) := by decide +kernel
theorem d_Mo_unroll_71 : decode b_Mo_unroll 71 = .ok (.iconst 0, 1) := by decide +kernel
theorem d_Mo_unroll_72 : decode b_Mo_unroll 72 = .ok (.istore_n 3, 1) := by decide +kernel
theorem d_Mo_unroll_73 : decode b_Mo_unroll 73 = .ok (.iload_n 3, 1) := by decide +kernel
theorem d_Mo_unroll_74 : decode b_Mo_unroll 74 = .ok (.ifCond .lt 157, 3) := by decide +kernel
theorem d_Mo_unroll_77 : decode b_Mo_unroll 77 = .ok (.aload_n 0, 1) := by decide +kernel
theorem d_Mo_unroll_78 : decode b_Mo_unroll 78 = .ok (.getfield 221, 3) := by decide +kernel
theorem d_Mo_unroll_81 : decode b_Mo_unroll 81 = .ok (.sipush 6000, 3) := by decide +kernel
theorem d_Mo_unroll_84 : decode b_Mo_unroll 84 = .ok (.if_icmp .le 5, 3) := by decide +kernel
theorem d_Mo_unroll_87 : decode b_Mo_unroll 87 = .ok (.iconst 0, 1) := by decide +kernel
theorem d_Mo_unroll_88 : decode b_Mo_unroll 88 = .ok (.ireturn, 1) := by decide +kernel
theorem d_Mo_unroll_89 : decode b_Mo_unroll 89 = .ok (.aload_n 0, 1) := by decide +kernel
theorem d_Mo_unroll_90 : decode b_Mo_unroll 90 = .ok (.getfield 77, 3) := by decide +kernel
theorem d_Mo_unroll_93 : decode b_Mo_unroll 93 = .ok (.iload_n 3, 1) := by decide +kernel
theorem d_Mo_unroll_94 : decode b_Mo_unroll 94 = .ok (.iaload, 1) := by decide +kernel
theorem d_Mo_unroll_95 : decode b_Mo_unroll 95 = .ok (.aload_n 0, 1) := by decide +kernel
theorem d_Mo_unroll_96 : decode b_Mo_unroll 96 = .ok (.getfield 74, 3) := by decide +kernel
theorem d_Mo_unroll_99 : decode b_Mo_unroll 99 = .ok (.iload_n 3, 1) := by decide +kernel
theorem d_Mo_unroll_100 : decode b_Mo_unroll 100 = .ok (.iaload, 1) := by decide +kernel
theorem d_Mo_unroll_101 : decode b_Mo_unroll 101 = .ok (.if_icmp .ne 9, 3) := by decide +kernel
theorem d_Mo_unroll_104 : decode b_Mo_unroll 104 = .ok (.iinc 3 (-1), 3) := by decide +kernel
theorem d_Mo_unroll_107 : decode b_Mo_unroll 107 = .ok (.goto (-34), 3) := by decide +kernel
theorem d_Mo_unroll_110 : decode b_Mo_unroll 110 = .ok (.sipush 616, 3) := by decide +kernel
theorem d_Mo_unroll_113 : decode b_Mo_unroll 113 = .ok (.iload_n 3, 1) := by decide +kernel
theorem d_Mo_unroll_114 : decode b_Mo_unroll 114 = .ok (.imul, 1) := by decide +kernel
theorem d_Mo_unroll_115 : decode b_Mo_unroll 115 = .ok (.aload_n 0, 1) := by decide +kernel
theorem d_Mo_unroll_116 : decode b_Mo_unroll 116 = .ok (.getfield 77, 3) := by decide +kernel
theorem d_Mo_unroll_119 : decode b_Mo_unroll 119 = .ok (.iload_n 3, 1) := by decide +kernel
theorem d_Mo_unroll_120 : decode b_Mo_unroll 120 = .ok (.iaload, 1) := by decide +kernel
theorem d_Mo_unroll_121 : decode b_Mo_unroll 121 = .ok (.iadd, 1) := by decide +kernel
theorem d_Mo_unroll_122 : decode b_Mo_unroll 122 = .ok (.istore 4, 2) := by decide +kernel
theorem d_Mo_unroll_124 : decode b_Mo_unroll 124 = .ok (.sipush 17000, 3) := by decide +kernel
theorem d_Mo_unroll_127 : decode b_Mo_unroll 127 = .ok (.iload_n 3, 1) := by decide +kernel
theorem d_Mo_unroll_128 : decode b_Mo_unroll 128 = .ok (.imul, 1) := by decide +kernel
theorem d_Mo_unroll_129 : decode b_Mo_unroll 129 = .ok (.aload_n 0, 1) := by decide +kernel
theorem d_Mo_unroll_130 : decode b_Mo_unroll 130 = .ok (.getfield 71, 3) := by decide +kernel
theorem d_Mo_unroll_133 : decode b_Mo_unroll 133 = .ok (.iload 4, 2) := by decide +kernel
theorem d_Mo_unroll_135 : decode b_Mo_unroll 135 = .ok (.iaload, 1) := by decide +kernel
theorem d_Mo_unroll_136 : decode b_Mo_unroll 136 = .ok (.iadd, 1) := by decide +kernel
theorem d_Mo_unroll_137 : decode b_Mo_unroll 137 = .ok (.istore 5, 2) := by decide +kernel
theorem d_Mo_unroll_139 : decode b_Mo_unroll 139 = .ok (.aload_n 0, 1) := by decide +kernel
theorem d_Mo_unroll_140 : decode b_Mo_unroll 140 = .ok (.getfield 71, 3) := by decide +kernel
theorem d_Mo_unroll_143 : decode b_Mo_unroll 143 = .ok (.iload 4, 2) := by decide +kernel
theorem d_Mo_unroll_145 : decode b_Mo_unroll 145 = .ok (.iconst 1, 1) := by decide +kernel
theorem d_Mo_unroll_146 : decode b_Mo_unroll 146 = .ok (.iadd, 1) := by decide +kernel
theorem d_Mo_unroll_147 : decode b_Mo_unroll 147 = .ok (.iaload, 1) := by decide +kernel
theorem d_Mo_unroll_148 : decode b_Mo_unroll 148 = .ok (.aload_n 0, 1) := by decide +kernel
theorem d_Mo_unroll_149 : decode b_Mo_unroll 149 = .ok (.getfield 71, 3) := by decide +kernel
theorem d_Mo_unroll_152 : decode b_Mo_unroll 152 = .ok (.iload 4, 2) := by decide +kernel
theorem d_Mo_unroll_154 : decode b_Mo_unroll 154 = .ok (.iaload, 1) := by decide +kernel
theorem d_Mo_unroll_155 : decode b_Mo_unroll 155 = .ok (.isub, 1) := by decide +kernel
theorem d_Mo_unroll_156 : decode b_Mo_unroll 156 = .ok (.istore 6, 2) := by decide +kernel
theorem d_Mo_unroll_158 : decode b_Mo_unroll 158 = .ok (.aload_n 0, 1) := by decide +kernel
theorem d_Mo_unroll_159 : decode b_Mo_unroll 159 = .ok (.getfield 77, 3) := by decide +kernel
theorem d_Mo_unroll_162 : decode b_Mo_unroll 162 = .ok (.iload_n 3, 1) := by decide +kernel
theorem d_Mo_unroll_163 : decode b_Mo_unroll 163 = .ok (.dup2, 1) := by decide +kernel
theorem d_Mo_unroll_164 : decode b_Mo_unroll 164 = .ok (.iaload, 1) := by decide +kernel
theorem d_Mo_unroll_165 : decode b_Mo_unroll 165 = .ok (.iconst 1, 1) := by decide +kernel
theorem d_Mo_unroll_166 : decode b_Mo_unroll 166 = .ok (.iadd, 1) := by decide +kernel
theorem d_Mo_unroll_167 : decode b_Mo_unroll 167 = .ok (.iastore, 1) := by decide +kernel
theorem d_Mo_unroll_168 : decode b_Mo_unroll 168 = .ok (.iload_n 3, 1) := by decide +kernel
theorem d_Mo_unroll_169 : decode b_Mo_unroll 169 = .ok (.iload_n 2, 1) := by decide +kernel
theorem d_Mo_unroll_170 : decode b_Mo_unroll 170 = .ok (.if_icmp .ne 17, 3) := by decide +kernel
theorem d_Mo_unroll_173 : decode b_Mo_unroll 173 = .ok (.aload_n 0, 1) := by decide +kernel
theorem d_Mo_unroll_174 : decode b_Mo_unroll 174 = .ok (.iload_n 1, 1) := by decide +kernel
theorem d_Mo_unroll_175 : decode b_Mo_unroll 175 = .ok (.iload 5, 2) := by decide +kernel
theorem d_Mo_unroll_177 : decode b_Mo_unroll 177 = .ok (.iload 6, 2) := by decide +kernel
theorem d_Mo_unroll_179 : decode b_Mo_unroll 179 = .ok (.invokevirtual 263, 3) := by decide +kernel
theorem d_Mo_unroll_182 : decode b_Mo_unroll 182 = .ok (.ifCond .ne (-109), 3) := by decide +kernel
theorem d_Mo_unroll_185 : decode b_Mo_unroll 185 = .ok (.iconst 0, 1) := by decide +kernel
theorem d_Mo_unroll_186 : decode b_Mo_unroll 186 = .ok (.ireturn, 1) := by decide +kernel
theorem d_Mo_unroll_187 : decode b_Mo_unroll 187 = .ok (.bipush 40, 2) := by decide +kernel
theorem d_Mo_unroll_189 : decode b_Mo_unroll 189 = .ok (.iload_n 1, 1) := by decide +kernel
theorem d_Mo_unroll_190 : decode b_Mo_unroll 190 = .ok (.imul, 1) := by decide +kernel
theorem d_Mo_unroll_191 : decode b_Mo_unroll 191 = .ok (.iload_n 3, 1) := by decide +kernel
theorem d_Mo_unroll_192 : decode b_Mo_unroll 192 = .ok (.iadd, 1) := by decide +kernel
theorem d_Mo_unroll_193 : decode b_Mo_unroll 193 = .ok (.istore 7, 2) := by decide +kernel
theorem d_Mo_unroll_195 : decode b_Mo_unroll 195 = .ok (.iinc 3 1, 3) := by decide +kernel
theorem d_Mo_unroll_198 : decode b_Mo_unroll 198 = .ok (.aload_n 0, 1) := by decide +kernel
theorem d_Mo_unroll_199 : decode b_Mo_unroll 199 = .ok (.iload_n 3, 1) := by decide +kernel
theorem d_Mo_unroll_200 : decode b_Mo_unroll 200 = .ok (.aload_n 0, 1) := by decide +kernel
theorem d_Mo_unroll_201 : decode b_Mo_unroll 201 = .ok (.getfield 40, 3) := by decide +kernel
theorem d_Mo_unroll_204 : decode b_Mo_unroll 204 = .ok (.iload 7, 2) := by decide +kernel
theorem d_Mo_unroll_206 : decode b_Mo_unroll 206 = .ok (.iaload, 1) := by decide +kernel
theorem d_Mo_unroll_207 : decode b_Mo_unroll 207 = .ok (.aload_n 0, 1) := by decide +kernel
theorem d_Mo_unroll_208 : decode b_Mo_unroll 208 = .ok (.getfield 43, 3) := by decide +kernel
theorem d_Mo_unroll_211 : decode b_Mo_unroll 211 = .ok (.iload 7, 2) := by decide +kernel
theorem d_Mo_unroll_213 : decode b_Mo_unroll 213 = .ok (.iaload, 1) := by decide +kernel
theorem d_Mo_unroll_214 : decode b_Mo_unroll 214 = .ok (.aload_n 0, 1) := by decide +kernel
theorem d_Mo_unroll_215 : decode b_Mo_unroll 215 = .ok (.getfield 46, 3) := by decide +kernel
theorem d_Mo_unroll_218 : decode b_Mo_unroll 218 = .ok (.iload 7, 2) := by decide +kernel
theorem d_Mo_unroll_220 : decode b_Mo_unroll 220 = .ok (.iaload, 1) := by decide +kernel
theorem d_Mo_unroll_221 : decode b_Mo_unroll 221 = .ok (.iload 5, 2) := by decide +kernel
theorem d_Mo_unroll_223 : decode b_Mo_unroll 223 = .ok (.iload 6, 2) := by decide +kernel
theorem d_Mo_unroll_225 : decode b_Mo_unroll 225 = .ok (.invokevirtual 266, 3) := by decide +kernel
theorem d_Mo_unroll_228 : decode b_Mo_unroll 228 = .ok (.goto (-155), 3) := by decide +kernel
theorem d_Mo_unroll_231 : decode b_Mo_unroll 231 = .ok (.iconst 1, 1) := by decide +kernel
theorem d_Mo_unroll_232 : decode b_Mo_unroll 232 = .ok (.ireturn, 1) := by decide +kernel
set_option maxHeartbeats 4000000 in
set_option maxRecDepth 100000 in
theorem lp_Mo_unroll_73 (g : GG) {m0 : Nat} {ad : Nat → Nat} {qth : Int32} {qsz : Int32} {qtk : Int32} {qde : Int32} {qru : Int32} {qat : Int32} {qen : Int32} {qto : Int32} {qbe : Int32} {qva : Int32} {qwr : Int32} {qop : Int32} {qir : Bool} {qiu : Bool} {uw : Nat} {uh : Nat} {md : Nat} {rw_ : Nat} {ri : Nat} {lr : List LayerV} {R : Rows} {ST : Nat → Nat} {SB : Nat → Nat} {CH : Nat → Nat} {DN : Nat → Nat} {AR : Nat → Nat} {WH : Nat → Nat} {FI : Nat → Nat} {SE : Nat → Nat} {RR : Nat → Nat} {RB : Nat → Nat} {PL : Nat → Nat} {HA : Nat → Bool} (hw0 : 0 < uw) (hw1 : uw ≤ 16) (hh0 : 0 < uh) (hh1 : uh ≤ 16) (hri : ri < 500) (har : AR ri = lr.length) (hlk : lr.length ≤ 40) (hly : ∀ l ∈ lr, LyOK l) (hwh : ∀ (j : Nat) (l : LayerV), lr[j]? = some l → WH (40 * ri + j) = l.1 - 1 ∧ FI (40 * ri + j) = l.2.1.getD 0 ∧ SE (40 * ri + j) = l.2.2.getD 0) (hMt0 : MAt RR RB PL rw_ R) (hlm : inLim md R) {x : X0} {A : Nat → Prop} {Q : State → Prop}  (C : CX x g A R_Mo b_Mo_unroll 8) (E : RX x g A Q (some .boolean) (fun (r0 : Option Value) (w0 : va_W) => ∃ ok : Bool, ∃ md2 : Nat, ∃ rw2 : Nat, ∃ ST2 : Nat → Nat, ∃ SB2 : Nat → Nat, ∃ CH2 : Nat → Nat, ∃ DN2 : Nat → Nat, ∃ RR2 : Nat → Nat, ∃ RB2 : Nat → Nat, ∃ PL2 : Nat → Nat, ∃ HA2 : Nat → Bool, r0 = some (.int (bI ok)) ∧ w0 = [(m0, .inr (9, MO ad qth qsz (bI qir) qtk qde qru qat qen qto qbe qva qwr qop (bI qiu) (nI uw) (nI uh) (nI rw2) (nI md2))), ((ad 37), .inl (g.2.1 0, 697000, .inl (aI ST2))), ((ad 38), .inl (g.2.1 0, 25300, .inl (aI SB2))), ((ad 39), .inl (g.2.1 0, 41, .inl (aI CH2))), ((ad 41), .inl (g.2.1 2, 256, .inl (zI HA2))), ((ad 40), .inl (g.2.1 0, 41, .inl (aI DN2))), ((ad 15), .inl (g.2.1 0, 500, .inl (aI AR))), ((ad 16), .inl (g.2.1 0, 20000, .inl (aI WH))), ((ad 17), .inl (g.2.1 0, 20000, .inl (aI FI))), ((ad 18), .inl (g.2.1 0, 20000, .inl (aI SE))), ((ad 33), .inl (g.2.1 0, 4000, .inl (aI RR2))), ((ad 34), .inl (g.2.1 0, 4001, .inl (aI RB2))), ((ad 35), .inl (g.2.1 0, 30000, .inl (aI PL2)))] ∧ (MoA (lim ri (unr uw uh lr (List.range (uw * uh))) (some (md, R))) ok md2 rw2 RR2 RB2 PL2) ∧ (md2 ≤ 7000 ∧ rw2 ≤ 4000)) (rmk 3 0 0 79).cells (rmk 3 0 0 79).slots) (hR : xR x = (rmk 3 0 0 79)) : ∀ (fuel : Nat) (le : Int32) (m : Nat) (md2 : Nat) (rw2 : Nat) (STc : Nat → Nat) (SBc : Nat → Nat) (CHc : Nat → Nat) (DNc : Nat → Nat) (RRc : Nat → Nat) (RBc : Nat → Nat) (PLc : Nat → Nat) (HAc : Nat → Bool) (CS : Nat → List (List Nat)) (R2 : Rows) (hle : le = nI m - nI 1) (hm1 : m ≤ lr.length + 1) (hmd : md2 ≤ 7000) (hm0 : m = 0 → md2 ≤ 6000) (hL : Lvs uw uh STc SBc CHc DNc CS m) (hT1 : md2 + (wkS uw uh lr CS DNc m).1 = md + (unr uw uh lr (List.range (uw * uh))).1) (hT2 : R2 ++ tag ri (wkS uw uh lr CS DNc m).2 = R ++ tag ri (unr uw uh lr (List.range (uw * uh))).2) (hMt : MAt RRc RBc PLc rw2 R2) (hlim : R2.length ≤ 4000 ∧ (flat R2).length ≤ 30000), stS uw uh lr CS DNc m < fuel → J x g A Q 8 ([(m0, .inr (9, MO ad qth qsz (bI qir) qtk qde qru qat qen qto qbe qva qwr qop (bI qiu) (nI uw) (nI uh) (nI rw2) (nI md2))), ((ad 37), .inl (g.2.1 0, 697000, .inl (aI STc))), ((ad 38), .inl (g.2.1 0, 25300, .inl (aI SBc))), ((ad 39), .inl (g.2.1 0, 41, .inl (aI CHc))), ((ad 41), .inl (g.2.1 2, 256, .inl (zI HAc))), ((ad 40), .inl (g.2.1 0, 41, .inl (aI DNc))), ((ad 15), .inl (g.2.1 0, 500, .inl (aI AR))), ((ad 16), .inl (g.2.1 0, 20000, .inl (aI WH))), ((ad 17), .inl (g.2.1 0, 20000, .inl (aI FI))), ((ad 18), .inl (g.2.1 0, 20000, .inl (aI SE))), ((ad 33), .inl (g.2.1 0, 4000, .inl (aI RRc))), ((ad 34), .inl (g.2.1 0, 4001, .inl (aI RBc))), ((ad 35), .inl (g.2.1 0, 30000, .inl (aI PLc)))]) [(0, .ref m0), (1, .int (nI ri)), (2, .int (nI lr.length)), (3, .int le)] 73 [] 0 0 := by
  intro fuel
  induction fuel with
  | zero =>
    intro le m md2 rw2 STc SBc CHc DNc RRc RBc PLc HAc CS R2 hle hm1 hmd hm0 hL hT1 hT2 hMt hlim hm
    exact absurd hm (Nat.not_lt_zero _)
  | succ fuel ih =>
    intro le m md2 rw2 STc SBc CHc DNc RRc RBc PLc HAc CS R2 hle hm1 hmd hm0 hL hT1 hT2 hMt hlim hm
    refine r_iload_n C 3 d_Mo_unroll_73 rfl rfl ?_
    refine r_if_lt C 231 d_Mo_unroll_74 (by decide) (fun c_74 => ?_) (fun c_74 => ?_)
    · skip
      refine r_iconst C (nI 1) d_Mo_unroll_231 (by decide) ?_
      refine r_eqS (st' := [.int (bI true)]) rfl ?_
      refine r_bret C E d_Mo_unroll_232 (by first | decide | omega | (simp only [rmk]; omega)) (by first | decide | omega | (simp only [rmk]; omega)) ?_
      obtain rfl := le_m hle (by omega) c_74
      have hT4 : R2 = R ++ tag ri (unr uw uh lr (List.range (uw * uh))).2 := by rw [← hT2]; exact (List.append_nil _).symm
      exact ⟨_, _, _, _, _, _, _, _, _, _, _, rfl, rfl, by rw [lim_yes (k := md2) (by rw [← hT1]; rfl) hT4 ⟨hm0 rfl, hlim⟩]; exact ⟨rfl, rfl, ⟨hm0 rfl, hlim⟩, hMt⟩, hmd, by have := hMt.1.1; omega⟩
    · skip
      obtain ⟨lv, hlv, rfl⟩ := nI_of c_74
      obtain rfl := le_lv hle (by omega) hlv
      obtain ⟨hA, hch, hdn, hkd⟩ := hL lv (by omega)
      have hlb : lv ≤ lr.length := by omega
      have hc615 := hkd.2.1
      have hgr := gr_256 hw1 hh1
      refine r_aload_n C 0 d_Mo_unroll_77 rfl rfl ?_
      refine r_get C 0 36 d_Mo_unroll_78 ci_Mo fi_Mo_221 rfl (by decide) rfl rfl ?_
      refine r_sipush C (nI 6000) d_Mo_unroll_81 (by decide) ?_
      refine r_ncmp_le C 89 d_Mo_unroll_84 (by decide) (by omega) (by omega) (fun c_84 => ?_) (fun c_84 => ?_)
      · skip
        refine r_aload_n C 0 d_Mo_unroll_89 rfl rfl ?_
        refine r_get C 0 40 d_Mo_unroll_90 ci_Mo fi_Mo_77 rfl (by decide) rfl rfl ?_
        refine r_iload_n C 3 d_Mo_unroll_93 rfl rfl ?_
        refine r_nald C 5 0 d_Mo_unroll_94 rfl rfl (by omega) (by decide) ?_
        refine r_aload_n C 0 d_Mo_unroll_95 rfl rfl ?_
        refine r_get C 0 39 d_Mo_unroll_96 ci_Mo fi_Mo_74 rfl (by decide) rfl rfl ?_
        refine r_iload_n C 3 d_Mo_unroll_99 rfl rfl ?_
        refine r_nald C 3 0 d_Mo_unroll_100 rfl rfl (by omega) (by decide) ?_
        refine r_ncmp_ne C 110 d_Mo_unroll_101 (by decide) (by omega) (by omega) (fun c_101 => ?_) (fun c_101 => ?_)
        · skip
          obtain ⟨c, hc⟩ := ls_c hL c_101
          obtain ⟨b1, b2, b3, b4, b5, b6⟩ := ls_b hA hkd hgr hc
          refine r_sipush C (nI 616) d_Mo_unroll_110 (by decide) ?_
          refine r_iload_n C 3 d_Mo_unroll_113 rfl rfl ?_
          refine r_nmul C d_Mo_unroll_114 ?_
          refine r_aload_n C 0 d_Mo_unroll_115 rfl rfl ?_
          refine r_get C 0 40 d_Mo_unroll_116 ci_Mo fi_Mo_77 rfl (by decide) rfl rfl ?_
          refine r_iload_n C 3 d_Mo_unroll_119 rfl rfl ?_
          refine r_nald C 5 0 d_Mo_unroll_120 rfl rfl (by omega) (by decide) ?_
          refine r_nadd C d_Mo_unroll_121 ?_
          refine r_istore C (lv' := [(4, .int (nI ((616 * lv) + (DNc lv)))), (0, .ref m0), (1, .int (nI ri)), (2, .int (nI lr.length)), (3, .int (nI lv))]) d_Mo_unroll_122 (by decide) rfl ?_
          refine r_sipush C (nI 17000) d_Mo_unroll_124 (by decide) ?_
          refine r_iload_n C 4 d_Mo_unroll_127 rfl rfl ?_
          refine r_nmul C d_Mo_unroll_128 ?_
          refine r_aload_n C 1 d_Mo_unroll_129 rfl rfl ?_
          refine r_get C 0 38 d_Mo_unroll_130 ci_Mo fi_Mo_71 rfl (by decide) rfl rfl ?_
          refine r_iload C 0 d_Mo_unroll_133 rfl ?_
          refine r_nald C 2 0 d_Mo_unroll_135 rfl rfl (by omega) (by decide) ?_
          refine r_nadd C d_Mo_unroll_136 ?_
          refine r_istore C (lv' := [(5, .int (nI ((17000 * lv) + (SBc ((616 * lv) + (DNc lv)))))), (4, .int (nI ((616 * lv) + (DNc lv)))), (0, .ref m0), (1, .int (nI ri)), (2, .int (nI lr.length)), (3, .int (nI lv))]) d_Mo_unroll_137 (by decide) rfl ?_
          refine r_aload_n C 2 d_Mo_unroll_139 rfl rfl ?_
          refine r_get C 0 38 d_Mo_unroll_140 ci_Mo fi_Mo_71 rfl (by decide) rfl rfl ?_
          refine r_iload C 1 d_Mo_unroll_143 rfl ?_
          refine r_iconst C (nI 1) d_Mo_unroll_145 (by decide) ?_
          refine r_nadd C d_Mo_unroll_146 ?_
          refine r_nald C 2 0 d_Mo_unroll_147 rfl rfl (by omega) (by decide) ?_
          refine r_aload_n C 2 d_Mo_unroll_148 rfl rfl ?_
          refine r_get C 0 38 d_Mo_unroll_149 ci_Mo fi_Mo_71 rfl (by decide) rfl rfl ?_
          refine r_iload C 1 d_Mo_unroll_152 rfl ?_
          refine r_nald C 2 0 d_Mo_unroll_154 rfl rfl (by omega) (by decide) ?_
          refine r_nsub C d_Mo_unroll_155 (by omega) ?_
          refine r_istore C (lv' := [(6, .int (nI ((SBc (((616 * lv) + (DNc lv)) + 1)) - (SBc ((616 * lv) + (DNc lv)))))), (5, .int (nI ((17000 * lv) + (SBc ((616 * lv) + (DNc lv)))))), (4, .int (nI ((616 * lv) + (DNc lv)))), (0, .ref m0), (1, .int (nI ri)), (2, .int (nI lr.length)), (3, .int (nI lv))]) d_Mo_unroll_156 (by decide) rfl ?_
          refine r_aload_n C 3 d_Mo_unroll_158 rfl rfl ?_
          refine r_get C 0 40 d_Mo_unroll_159 ci_Mo fi_Mo_77 rfl (by decide) rfl rfl ?_
          refine r_iload_n C 6 d_Mo_unroll_162 rfl rfl ?_
          refine r_dup2 C d_Mo_unroll_163 rfl rfl ?_
          refine r_nald C 5 0 d_Mo_unroll_164 rfl rfl (by omega) (by decide) ?_
          refine r_iconst C (nI 1) d_Mo_unroll_165 (by decide) ?_
          refine r_nadd C d_Mo_unroll_166 ?_
          refine r_nast C (ws' := [(m0, .inr (9, MO ad qth qsz (bI qir) qtk qde qru qat qen qto qbe qva qwr qop (bI qiu) (nI uw) (nI uh) (nI rw2) (nI md2))), ((ad 37), .inl (g.2.1 0, 697000, .inl (aI STc))), ((ad 38), .inl (g.2.1 0, 25300, .inl (aI SBc))), ((ad 39), .inl (g.2.1 0, 41, .inl (aI CHc))), ((ad 41), .inl (g.2.1 2, 256, .inl (zI HAc))), ((ad 40), .inl (g.2.1 0, 41, .inl (aI (up DNc lv ((DNc lv) + 1))))), ((ad 15), .inl (g.2.1 0, 500, .inl (aI AR))), ((ad 16), .inl (g.2.1 0, 20000, .inl (aI WH))), ((ad 17), .inl (g.2.1 0, 20000, .inl (aI FI))), ((ad 18), .inl (g.2.1 0, 20000, .inl (aI SE))), ((ad 33), .inl (g.2.1 0, 4000, .inl (aI RRc))), ((ad 34), .inl (g.2.1 0, 4001, .inl (aI RBc))), ((ad 35), .inl (g.2.1 0, 30000, .inl (aI PLc)))]) 5 0 d_Mo_unroll_167 rfl rfl (by omega) (by decide) rfl ?_
          refine r_iload_n C 6 d_Mo_unroll_168 rfl rfl ?_
          refine r_iload_n C 5 d_Mo_unroll_169 rfl rfl ?_
          refine r_ncmp_ne C 187 d_Mo_unroll_170 (by decide) (by omega) (by omega) (fun c_170 => ?_) (fun c_170 => ?_)
          · skip
            obtain ⟨⟨w1, f, s2⟩, hl1⟩ : ∃ l, lr[lv]? = some l := ⟨_, List.getElem?_eq_getElem (by omega)⟩
            have hok1 := hly _ (List.mem_of_getElem? hl1)
            obtain ⟨w, rfl⟩ : ∃ w, w1 = w + 1 := ⟨w1 - 1, by have h2 : 2 ≤ w1 := hok1.1.1; omega⟩
            obtain ⟨hw3, hw4, hw5⟩ : WH (40 * ri + lv) = w ∧ FI (40 * ri + lv) = f.getD 0 ∧ SE (40 * ri + lv) = s2.getD 0 := hwh lv _ hl1
            have hkk := kids_kd hok1 hw0 hgr b4
            have hsp := wk_spl (uw := uw) (uh := uh) hc hl1
            refine r_bipush C (nI 40) d_Mo_unroll_187 (by decide) ?_
            refine r_iload_n C 4 d_Mo_unroll_189 rfl rfl ?_
            refine r_nmul C d_Mo_unroll_190 ?_
            refine r_iload_n C 6 d_Mo_unroll_191 rfl rfl ?_
            refine r_nadd C d_Mo_unroll_192 ?_
            refine r_istore C (lv' := [(7, .int (nI ((40 * ri) + lv))), (6, .int (nI ((SBc (((616 * lv) + (DNc lv)) + 1)) - (SBc ((616 * lv) + (DNc lv)))))), (5, .int (nI ((17000 * lv) + (SBc ((616 * lv) + (DNc lv)))))), (4, .int (nI ((616 * lv) + (DNc lv)))), (0, .ref m0), (1, .int (nI ri)), (2, .int (nI lr.length)), (3, .int (nI lv))]) d_Mo_unroll_193 (by decide) rfl ?_
            refine r_iinc C 7 (nI (lv + 1)) (lv' := [(3, .int (nI (lv + 1))), (7, .int (nI ((40 * ri) + lv))), (6, .int (nI ((SBc (((616 * lv) + (DNc lv)) + 1)) - (SBc ((616 * lv) + (DNc lv)))))), (5, .int (nI ((17000 * lv) + (SBc ((616 * lv) + (DNc lv)))))), (4, .int (nI ((616 * lv) + (DNc lv)))), (0, .ref m0), (1, .int (nI ri)), (2, .int (nI lr.length))]) d_Mo_unroll_195 rfl (nI_inc 1 _) (by decide) rfl ?_
            refine r_aload_n C 5 d_Mo_unroll_198 rfl rfl ?_
            refine r_iload_n C 0 d_Mo_unroll_199 rfl rfl ?_
            refine r_aload_n C 5 d_Mo_unroll_200 rfl rfl ?_
            refine r_get C 0 16 d_Mo_unroll_201 ci_Mo fi_Mo_40 rfl (by decide) rfl rfl ?_
            refine r_iload C 1 d_Mo_unroll_204 rfl ?_
            refine r_nald C 7 0 d_Mo_unroll_206 rfl rfl (by omega) (by decide) ?_
            refine r_top (v' := nI w) (by rw [hw3]) ?_
            refine r_aload_n C 5 d_Mo_unroll_207 rfl rfl ?_
            refine r_get C 0 17 d_Mo_unroll_208 ci_Mo fi_Mo_43 rfl (by decide) rfl rfl ?_
            refine r_iload C 1 d_Mo_unroll_211 rfl ?_
            refine r_nald C 8 0 d_Mo_unroll_213 rfl rfl (by omega) (by decide) ?_
            refine r_top (v' := nI (f.getD 0)) (by rw [hw4]) ?_
            refine r_aload_n C 5 d_Mo_unroll_214 rfl rfl ?_
            refine r_get C 0 18 d_Mo_unroll_215 ci_Mo fi_Mo_46 rfl (by decide) rfl rfl ?_
            refine r_iload C 1 d_Mo_unroll_218 rfl ?_
            refine r_nald C 9 0 d_Mo_unroll_220 rfl rfl (by omega) (by decide) ?_
            refine r_top (v' := nI (s2.getD 0)) (by rw [hw5]) ?_
            refine r_iload C 3 d_Mo_unroll_221 rfl ?_
            refine r_iload C 2 d_Mo_unroll_223 rfl ?_
            refine j_callV C (c_Mo_split g (xl x) (m0 := m0) (ad := ad) (qth := qth) (qsz := qsz) (qtk := qtk) (qde := qde) (qru := qru) (qat := qat) (qen := qen) (qto := qto) (qbe := qbe) (qva := qva) (qwr := qwr) (qop := qop) (qrw := nI rw2) (qir := qir) (qiu := qiu) (lv := lv + 1) (fr := (17000 * lv) + (SBc ((616 * lv) + (DNc lv)))) (z := (SBc (((616 * lv) + (DNc lv)) + 1)) - (SBc ((616 * lv) + (DNc lv)))) (uw := uw) (uh := uh) (md := md2) (w := w) (f := f) (s2 := s2) (ST := STc) (SB := SBc) (CH := CHc) (DN := up DNc lv ((DNc lv) + 1)) (HA := HAc) (by first | assumption | omega | rfl) (by first | assumption | omega | rfl) (by first | assumption | omega | rfl) (by first | assumption | omega | rfl) (by first | assumption | omega | rfl) (by first | assumption | omega | rfl) (by first | assumption | omega | rfl) (by first | assumption | omega | rfl) (by rw [b5]; exact b4) (hok1)) (Sp.of (wr := [((ad 15), .inl (g.2.1 0, 500, .inl (aI AR))), ((ad 16), .inl (g.2.1 0, 20000, .inl (aI WH))), ((ad 17), .inl (g.2.1 0, 20000, .inl (aI FI))), ((ad 18), .inl (g.2.1 0, 20000, .inl (aI SE))), ((ad 33), .inl (g.2.1 0, 4000, .inl (aI RRc))), ((ad 34), .inl (g.2.1 0, 4001, .inl (aI RBc))), ((ad 35), .inl (g.2.1 0, 30000, .inl (aI PLc)))]) [0, 1, 2, 3, 4, 5] [6, 7, 8, 9, 10, 11, 12] rfl rfl rfl rfl (by decide)) d_Mo_unroll_225 lk_Mo_266 mw_Mo_split vw_Mo_split (q0 := 0) rfl rfl (fit_of hR (by first | decide | (simp only [rmk]; omega)) (by first | decide | (simp only [rmk]; omega)) (by first | decide | (simp only [rmk]; omega)) (by first | decide | (simp only [rmk]; omega))) rfl (cat8 (Nat.le_of_ble_eq_true rfl)) (As := [.int (nI (lv + 1)), .int (nI w), .int (nI (f.getD 0)), .int (nI (s2.getD 0)), .int (nI ((17000 * lv) + (SBc ((616 * lv) + (DNc lv))))), .int (nI ((SBc (((616 * lv) + (DNc lv)) + 1)) - (SBc ((616 * lv) + (DNc lv)))))]) (rest := []) rfl (fun r_225 w_225 hp_225 => ?_)
            obtain ⟨STc_225, SBc_225, CHc_225, H2_225, rfl, rfl, hC_225, hF_225⟩ := hp_225
            refine r_after (ws' := [(m0, .inr (9, MO ad qth qsz (bI qir) qtk qde qru qat qen qto qbe qva qwr qop (bI qiu) (nI uw) (nI uh) (nI rw2) (nI (md2 + (kids uw uh (w + 1, f, s2) (segL STc ((17000 * lv) + (SBc ((616 * lv) + (DNc lv)))) ((SBc (((616 * lv) + (DNc lv)) + 1)) - (SBc ((616 * lv) + (DNc lv)))))).length)))), ((ad 37), .inl (g.2.1 0, 697000, .inl (aI STc_225))), ((ad 38), .inl (g.2.1 0, 25300, .inl (aI SBc_225))), ((ad 39), .inl (g.2.1 0, 41, .inl (aI CHc_225))), ((ad 41), .inl (g.2.1 2, 256, .inl (zI H2_225))), ((ad 40), .inl (g.2.1 0, 41, .inl (aI (up (up DNc lv ((DNc lv) + 1)) (lv + 1) 0)))), ((ad 15), .inl (g.2.1 0, 500, .inl (aI AR))), ((ad 16), .inl (g.2.1 0, 20000, .inl (aI WH))), ((ad 17), .inl (g.2.1 0, 20000, .inl (aI FI))), ((ad 18), .inl (g.2.1 0, 20000, .inl (aI SE))), ((ad 33), .inl (g.2.1 0, 4000, .inl (aI RRc))), ((ad 34), .inl (g.2.1 0, 4001, .inl (aI RBc))), ((ad 35), .inl (g.2.1 0, 30000, .inl (aI PLc)))]) (st' := []) (n1 := 0) (n2 := 0) [7, 8, 9, 10, 11, 12, 0, 1, 2, 3, 4, 5, 6] rfl rfl rfl rfl rfl ?_
            refine r_goto C 73 d_Mo_unroll_228 (by decide) ?_
            refine r_lv (lv' := [(0, .ref m0), (1, .int (nI ri)), (2, .int (nI lr.length)), (3, .int (nI (lv + 1)))]) [5, 6, 7, 0] rfl ?_
            exact ih (nI (lv + 1)) (lv + 1 + 1) (md2 + (kids uw uh (w + 1, f, s2) (segL STc ((17000 * lv) + (SBc ((616 * lv) + (DNc lv)))) ((SBc (((616 * lv) + (DNc lv)) + 1)) - (SBc ((616 * lv) + (DNc lv)))))).length) rw2 STc_225 SBc_225 CHc_225 (up (up DNc lv ((DNc lv) + 1)) (lv + 1) 0) RRc RBc PLc H2_225 (up CS (lv + 1) (kids uw uh (w + 1, f, s2) c)) R2 ((nI_1p _).symm) (by omega) (by have := hkk.2.1; rw [b5]; omega) (fun h => absurd h (by omega)) (ls_spl hL c_101 hkk (b5 ▸ hC_225) hF_225) (by rw [b5]; have := hsp.1; omega) (by rw [← hsp.2.1]; exact hT2) (hMt) (hlim) (by have := hsp.2.2; omega)
          · skip
            have hlf := wk_leaf (uw := uw) (uh := uh) hc c_170
            have hr4 := hMt.1.1
            refine r_aload_n C 3 d_Mo_unroll_173 rfl rfl ?_
            refine r_iload_n C 4 d_Mo_unroll_174 rfl rfl ?_
            refine r_iload C 1 d_Mo_unroll_175 rfl ?_
            refine r_iload C 0 d_Mo_unroll_177 rfl ?_
            refine j_callV C (c_Mo_addRow g (xl x) (m0 := m0) (ad := ad) (qth := qth) (qsz := qsz) (qtk := qtk) (qde := qde) (qru := qru) (qat := qat) (qen := qen) (qto := qto) (qbe := qbe) (qva := qva) (qwr := qwr) (qop := qop) (qwi := nI uw) (qhe := nI uh) (qma := nI md2) (qir := qir) (qiu := qiu) (rw_ := rw2) (pn := (flat R2).length) (rl := ri) (fr := (17000 * lv) + (SBc ((616 * lv) + (DNc lv)))) (z := (SBc (((616 * lv) + (DNc lv)) + 1)) - (SBc ((616 * lv) + (DNc lv)))) (RR := RRc) (RB := RBc) (PL := PLc) (ST := STc) (by first | assumption | omega | rfl) (hMt.2) (hlim.2) (by first | assumption | omega | rfl) (by first | assumption | omega | rfl) (by first | assumption | omega | rfl) (fun i h => by have := b4.2 _ (b5 ▸ segL_mem.mpr ⟨i, h, rfl⟩); omega)) (Sp.of (wr := [((ad 38), .inl (g.2.1 0, 25300, .inl (aI SBc))), ((ad 39), .inl (g.2.1 0, 41, .inl (aI CHc))), ((ad 41), .inl (g.2.1 2, 256, .inl (zI HAc))), ((ad 40), .inl (g.2.1 0, 41, .inl (aI (up DNc lv ((DNc lv) + 1))))), ((ad 15), .inl (g.2.1 0, 500, .inl (aI AR))), ((ad 16), .inl (g.2.1 0, 20000, .inl (aI WH))), ((ad 17), .inl (g.2.1 0, 20000, .inl (aI FI))), ((ad 18), .inl (g.2.1 0, 20000, .inl (aI SE)))]) [0, 10, 11, 12, 1] [2, 3, 4, 5, 6, 7, 8, 9] rfl rfl rfl rfl (by decide)) d_Mo_unroll_179 lk_Mo_263 mw_Mo_addRow vw_Mo_addRow (q0 := 0) rfl rfl (fit_of hR (by first | decide | (simp only [rmk]; omega)) (by first | decide | (simp only [rmk]; omega)) (by first | decide | (simp only [rmk]; omega)) (by first | decide | (simp only [rmk]; omega))) rfl (cat8 (Nat.le_of_ble_eq_true rfl)) (As := [.int (nI ri), .int (nI ((17000 * lv) + (SBc ((616 * lv) + (DNc lv))))), .int (nI ((SBc (((616 * lv) + (DNc lv)) + 1)) - (SBc ((616 * lv) + (DNc lv)))))]) (rest := []) rfl (fun r_179 w_179 hp_179 => ?_)
            obtain ⟨ok_179, rw2_179, RR2_179, RB2_179, PL2_179, rfl, rfl, hrm_179⟩ := hp_179
            refine r_after (ws' := [(m0, .inr (9, MO ad qth qsz (bI qir) qtk qde qru qat qen qto qbe qva qwr qop (bI qiu) (nI uw) (nI uh) (nI rw2_179) (nI md2))), ((ad 37), .inl (g.2.1 0, 697000, .inl (aI STc))), ((ad 38), .inl (g.2.1 0, 25300, .inl (aI SBc))), ((ad 39), .inl (g.2.1 0, 41, .inl (aI CHc))), ((ad 41), .inl (g.2.1 2, 256, .inl (zI HAc))), ((ad 40), .inl (g.2.1 0, 41, .inl (aI (up DNc lv ((DNc lv) + 1))))), ((ad 15), .inl (g.2.1 0, 500, .inl (aI AR))), ((ad 16), .inl (g.2.1 0, 20000, .inl (aI WH))), ((ad 17), .inl (g.2.1 0, 20000, .inl (aI FI))), ((ad 18), .inl (g.2.1 0, 20000, .inl (aI SE))), ((ad 33), .inl (g.2.1 0, 4000, .inl (aI RR2_179))), ((ad 34), .inl (g.2.1 0, 4001, .inl (aI RB2_179))), ((ad 35), .inl (g.2.1 0, 30000, .inl (aI PL2_179)))]) (st' := [.int (bI ok_179)]) (n1 := 0) (n2 := 0) [8, 12, 0, 1, 2, 3, 4, 5, 6, 7, 9, 10, 11] rfl rfl rfl rfl rfl ?_
            refine r_bif_ne C 73 d_Mo_unroll_182 (by decide) (fun c_182 => ?_) (fun c_182 => ?_)
            · skip
              refine r_lv (lv' := [(0, .ref m0), (1, .int (nI ri)), (2, .int (nI lr.length)), (3, .int (nI lv))]) [3, 4, 5, 6] rfl ?_
              exact ih (nI lv) (lv + 1) md2 rw2_179 STc SBc CHc (up DNc lv ((DNc lv) + 1)) RR2_179 RB2_179 PL2_179 HAc CS (R2 ++ tag ri (if c = [] then [] else [c])) ((nI_1p _).symm) (by omega) (hmd) (fun h => absurd h (by omega)) (ls_leaf hL c_101) (by rw [← hlf.1]; exact hT1) (tg_s hT2 hlf.2.1) ((rm_t (by rw [c_182] at hrm_179; exact hrm_179) hMt b5 hlim).1) ((rm_t (by rw [c_182] at hrm_179; exact hrm_179) hMt b5 hlim).2) (by have := hlf.2.2; omega)
            · skip
              refine r_iconst C (nI 0) d_Mo_unroll_185 (by decide) ?_
              refine r_eqS (st' := [.int (bI false)]) rfl ?_
              refine r_bret C E d_Mo_unroll_186 (by first | decide | omega | (simp only [rmk]; omega)) (by first | decide | omega | (simp only [rmk]; omega)) ?_
              rw [c_182] at hrm_179
              obtain ⟨hne, hr5, hnl⟩ := rm_f (k := md2) hrm_179 hMt b5
              have hT3 := tg_s hT2 hlf.2.1
              rw [if_neg hne] at hT3
              exact ⟨_, _, _, _, _, _, _, _, _, _, _, rfl, rfl, by rw [lim_no (k := md2) (by omega) hT3 hnl]; rfl, hmd, by omega⟩
        · skip
          have hpp := wk_pop (uw := uw) (uh := uh) (lr := lr) (CS := CS) (DN := DNc) (lv := lv) (by omega)
          refine r_iinc C 3 (nI lv - nI 1) (lv' := [(3, .int (nI lv - nI 1)), (0, .ref m0), (1, .int (nI ri)), (2, .int (nI lr.length))]) d_Mo_unroll_104 rfl (nI_m1 _) (by decide) rfl ?_
          refine r_goto C 73 d_Mo_unroll_107 (by decide) ?_
          refine r_lv (lv' := [(0, .ref m0), (1, .int (nI ri)), (2, .int (nI lr.length)), (3, .int (nI lv - nI 1))]) [1, 2, 3, 0] rfl ?_
          exact ih (nI lv - nI 1) lv md2 rw2 STc SBc CHc DNc RRc RBc PLc HAc CS R2 (rfl) (by omega) (hmd) (fun _ => c_84) (hL.le (by omega)) (by rw [← hpp.1]; exact hT1) (by rw [← hpp.1]; exact hT2) (hMt) (hlim) (by have := hpp.2; omega)
      · skip
        refine r_iconst C (nI 0) d_Mo_unroll_87 (by decide) ?_
        refine r_eqS (st' := [.int (bI false)]) rfl ?_
        refine r_bret C E d_Mo_unroll_88 (by first | decide | omega | (simp only [rmk]; omega)) (by first | decide | omega | (simp only [rmk]; omega)) ?_
        exact ⟨_, _, _, _, _, _, _, _, _, _, _, rfl, rfl, by rw [lim_no (k := md2) (R2 := R2) (by omega) hT2 (fun q => by have := q.1; omega)]; rfl, hmd, by have := hMt.1.1; omega⟩
set_option maxHeartbeats 4000000 in
set_option maxRecDepth 100000 in
theorem lp_Mo_unroll_45 (g : GG) {m0 : Nat} {ad : Nat → Nat} {qth : Int32} {qsz : Int32} {qtk : Int32} {qde : Int32} {qru : Int32} {qat : Int32} {qen : Int32} {qto : Int32} {qbe : Int32} {qva : Int32} {qwr : Int32} {qop : Int32} {qir : Bool} {qiu : Bool} {uw : Nat} {uh : Nat} {md : Nat} {rw_ : Nat} {ri : Nat} {lr : List LayerV} {R : Rows} {ST : Nat → Nat} {SB : Nat → Nat} {CH : Nat → Nat} {DN : Nat → Nat} {AR : Nat → Nat} {WH : Nat → Nat} {FI : Nat → Nat} {SE : Nat → Nat} {RR : Nat → Nat} {RB : Nat → Nat} {PL : Nat → Nat} {HA : Nat → Bool} (hw0 : 0 < uw) (hw1 : uw ≤ 16) (hh0 : 0 < uh) (hh1 : uh ≤ 16) (hri : ri < 500) (har : AR ri = lr.length) (hlk : lr.length ≤ 40) (hly : ∀ l ∈ lr, LyOK l) (hwh : ∀ (j : Nat) (l : LayerV), lr[j]? = some l → WH (40 * ri + j) = l.1 - 1 ∧ FI (40 * ri + j) = l.2.1.getD 0 ∧ SE (40 * ri + j) = l.2.2.getD 0) (hMt0 : MAt RR RB PL rw_ R) (hlm : inLim md R) {x : X0} {A : Nat → Prop} {Q : State → Prop}  (C : CX x g A R_Mo b_Mo_unroll 8) (E : RX x g A Q (some .boolean) (fun (r0 : Option Value) (w0 : va_W) => ∃ ok : Bool, ∃ md2 : Nat, ∃ rw2 : Nat, ∃ ST2 : Nat → Nat, ∃ SB2 : Nat → Nat, ∃ CH2 : Nat → Nat, ∃ DN2 : Nat → Nat, ∃ RR2 : Nat → Nat, ∃ RB2 : Nat → Nat, ∃ PL2 : Nat → Nat, ∃ HA2 : Nat → Bool, r0 = some (.int (bI ok)) ∧ w0 = [(m0, .inr (9, MO ad qth qsz (bI qir) qtk qde qru qat qen qto qbe qva qwr qop (bI qiu) (nI uw) (nI uh) (nI rw2) (nI md2))), ((ad 37), .inl (g.2.1 0, 697000, .inl (aI ST2))), ((ad 38), .inl (g.2.1 0, 25300, .inl (aI SB2))), ((ad 39), .inl (g.2.1 0, 41, .inl (aI CH2))), ((ad 41), .inl (g.2.1 2, 256, .inl (zI HA2))), ((ad 40), .inl (g.2.1 0, 41, .inl (aI DN2))), ((ad 15), .inl (g.2.1 0, 500, .inl (aI AR))), ((ad 16), .inl (g.2.1 0, 20000, .inl (aI WH))), ((ad 17), .inl (g.2.1 0, 20000, .inl (aI FI))), ((ad 18), .inl (g.2.1 0, 20000, .inl (aI SE))), ((ad 33), .inl (g.2.1 0, 4000, .inl (aI RR2))), ((ad 34), .inl (g.2.1 0, 4001, .inl (aI RB2))), ((ad 35), .inl (g.2.1 0, 30000, .inl (aI PL2)))] ∧ (MoA (lim ri (unr uw uh lr (List.range (uw * uh))) (some (md, R))) ok md2 rw2 RR2 RB2 PL2) ∧ (md2 ≤ 7000 ∧ rw2 ≤ 4000)) (rmk 3 0 0 79).cells (rmk 3 0 0 79).slots) (hR : xR x = (rmk 3 0 0 79)) : ∀ (fuel : Nat) (i : Nat) (STc : Nat → Nat) (hgr : uw * uh ≤ 256) (hi : i ≤ uw * uh) (hid : ∀ t, t < i → STc t = t), uw * uh - i < fuel → J x g A Q 8 ([(m0, .inr (9, MO ad qth qsz (bI qir) qtk qde qru qat qen qto qbe qva qwr qop (bI qiu) (nI uw) (nI uh) (nI rw_) (nI md))), ((ad 37), .inl (g.2.1 0, 697000, .inl (aI STc))), ((ad 38), .inl (g.2.1 0, 25300, .inl (aI (up (up SB 0 0) 1 (uw * uh))))), ((ad 39), .inl (g.2.1 0, 41, .inl (aI (up CH 0 1)))), ((ad 41), .inl (g.2.1 2, 256, .inl (zI HA))), ((ad 40), .inl (g.2.1 0, 41, .inl (aI (up DN 0 0)))), ((ad 15), .inl (g.2.1 0, 500, .inl (aI AR))), ((ad 16), .inl (g.2.1 0, 20000, .inl (aI WH))), ((ad 17), .inl (g.2.1 0, 20000, .inl (aI FI))), ((ad 18), .inl (g.2.1 0, 20000, .inl (aI SE))), ((ad 33), .inl (g.2.1 0, 4000, .inl (aI RR))), ((ad 34), .inl (g.2.1 0, 4001, .inl (aI RB))), ((ad 35), .inl (g.2.1 0, 30000, .inl (aI PL)))]) [(0, .ref m0), (1, .int (nI ri)), (2, .int (nI lr.length)), (3, .int (nI i))] 45 [] 0 0 := by
  intro fuel
  induction fuel with
  | zero =>
    intro i STc hgr hi hid hm
    exact absurd hm (Nat.not_lt_zero _)
  | succ fuel ih =>
    intro i STc hgr hi hid hm
    refine r_iload_n C 3 d_Mo_unroll_45 rfl rfl ?_
    refine r_aload_n C 0 d_Mo_unroll_46 rfl rfl ?_
    refine r_get C 0 30 d_Mo_unroll_47 ci_Mo fi_Mo_218 rfl (by decide) rfl rfl ?_
    refine r_aload_n C 0 d_Mo_unroll_50 rfl rfl ?_
    refine r_get C 0 31 d_Mo_unroll_51 ci_Mo fi_Mo_231 rfl (by decide) rfl rfl ?_
    refine r_nmul C d_Mo_unroll_54 ?_
    refine r_ncmp_ge C 71 d_Mo_unroll_55 (by decide) (by omega) (by omega) (fun c_55 => ?_) (fun c_55 => ?_)
    · skip
      refine r_iconst C (nI 0) d_Mo_unroll_71 (by decide) ?_
      refine r_istore_n C (lv' := [(3, .int (nI 0)), (0, .ref m0), (1, .int (nI ri)), (2, .int (nI lr.length))]) d_Mo_unroll_72 rfl (by decide) rfl ?_
      refine r_lv (lv' := [(0, .ref m0), (1, .int (nI ri)), (2, .int (nI lr.length)), (3, .int (nI 0))]) [1, 2, 3, 0] rfl ?_
      exact lp_Mo_unroll_73 g (m0 := m0) (ad := ad) (qth := qth) (qsz := qsz) (qtk := qtk) (qde := qde) (qru := qru) (qat := qat) (qen := qen) (qto := qto) (qbe := qbe) (qva := qva) (qwr := qwr) (qop := qop) (qir := qir) (qiu := qiu) (uw := uw) (uh := uh) (md := md) (rw_ := rw_) (ri := ri) (lr := lr) (R := R) (ST := ST) (SB := SB) (CH := CH) (DN := DN) (AR := AR) (WH := WH) (FI := FI) (SE := SE) (RR := RR) (RB := RB) (PL := PL) (HA := HA) hw0 hw1 hh0 hh1 hri har hlk hly hwh hMt0 hlm  C E hR _ (nI 0) 1 md rw_ STc (up (up SB 0 0) 1 (uw * uh)) (up CH 0 1) (up DN 0 0) RR RB PL HA (fun _ => [List.range (uw * uh)]) R (by decide) (by omega) (Nat.le_trans hlm.1 (by decide)) (fun h => absurd h (by decide)) (ls_0 hgr fun t h => hid t (by omega)) (by rw [(st_0 (l0 := List.range (uw * uh)) rfl (up_self _ _ _)).2]) (by rw [(st_0 (l0 := List.range (uw * uh)) rfl (up_self _ _ _)).2]) (hMt0) (hlm.2) (Nat.lt_succ_self _)
    · skip
      refine r_aload_n C 0 d_Mo_unroll_58 rfl rfl ?_
      refine r_get C 0 37 d_Mo_unroll_59 ci_Mo fi_Mo_68 rfl (by decide) rfl rfl ?_
      refine r_iload_n C 3 d_Mo_unroll_62 rfl rfl ?_
      refine r_iload_n C 3 d_Mo_unroll_63 rfl rfl ?_
      refine r_nast C (ws' := [(m0, .inr (9, MO ad qth qsz (bI qir) qtk qde qru qat qen qto qbe qva qwr qop (bI qiu) (nI uw) (nI uh) (nI rw_) (nI md))), ((ad 37), .inl (g.2.1 0, 697000, .inl (aI (up STc i i)))), ((ad 38), .inl (g.2.1 0, 25300, .inl (aI (up (up SB 0 0) 1 (uw * uh))))), ((ad 39), .inl (g.2.1 0, 41, .inl (aI (up CH 0 1)))), ((ad 41), .inl (g.2.1 2, 256, .inl (zI HA))), ((ad 40), .inl (g.2.1 0, 41, .inl (aI (up DN 0 0)))), ((ad 15), .inl (g.2.1 0, 500, .inl (aI AR))), ((ad 16), .inl (g.2.1 0, 20000, .inl (aI WH))), ((ad 17), .inl (g.2.1 0, 20000, .inl (aI FI))), ((ad 18), .inl (g.2.1 0, 20000, .inl (aI SE))), ((ad 33), .inl (g.2.1 0, 4000, .inl (aI RR))), ((ad 34), .inl (g.2.1 0, 4001, .inl (aI RB))), ((ad 35), .inl (g.2.1 0, 30000, .inl (aI PL)))]) 1 0 d_Mo_unroll_64 rfl rfl (by omega) (by decide) rfl ?_
      refine r_iinc C 3 (nI (i + 1)) (lv' := [(3, .int (nI (i + 1))), (0, .ref m0), (1, .int (nI ri)), (2, .int (nI lr.length))]) d_Mo_unroll_65 rfl (nI_inc 1 _) (by decide) rfl ?_
      refine r_goto C 45 d_Mo_unroll_68 (by decide) ?_
      refine r_lv (lv' := [(0, .ref m0), (1, .int (nI ri)), (2, .int (nI lr.length)), (3, .int (nI (i + 1)))]) [1, 2, 3, 0] rfl ?_
      exact ih (i + 1) (up STc i i) (by first | assumption | omega | rfl) (by first | assumption | omega | rfl) (fun t h => by
                by_cases q : t = i
                · rw [q, up_self]
                · rw [up_ne _ _ q]; exact hid t (by omega)) (by omega)
set_option maxHeartbeats 4000000 in
set_option maxRecDepth 100000 in
theorem c_Mo_unroll (g : GG) (l : Launch) {m0 : Nat} {ad : Nat → Nat} {qth : Int32} {qsz : Int32} {qtk : Int32} {qde : Int32} {qru : Int32} {qat : Int32} {qen : Int32} {qto : Int32} {qbe : Int32} {qva : Int32} {qwr : Int32} {qop : Int32} {qir : Bool} {qiu : Bool} {uw : Nat} {uh : Nat} {md : Nat} {rw_ : Nat} {ri : Nat} {lr : List LayerV} {R : Rows} {ST : Nat → Nat} {SB : Nat → Nat} {CH : Nat → Nat} {DN : Nat → Nat} {AR : Nat → Nat} {WH : Nat → Nat} {FI : Nat → Nat} {SE : Nat → Nat} {RR : Nat → Nat} {RB : Nat → Nat} {PL : Nat → Nat} {HA : Nat → Bool}  (hw0 : 0 < uw) (hw1 : uw ≤ 16) (hh0 : 0 < uh) (hh1 : uh ≤ 16) (hri : ri < 500) (har : AR ri = lr.length) (hlk : lr.length ≤ 40) (hly : ∀ l ∈ lr, LyOK l) (hwh : ∀ (j : Nat) (l : LayerV), lr[j]? = some l → WH (40 * ri + j) = l.1 - 1 ∧ FI (40 * ri + j) = l.2.1.getD 0 ∧ SE (40 * ri + j) = l.2.2.getD 0) (hMt0 : MAt RR RB PL rw_ R) (hlm : inLim md R) : Cn g l y_Mo_unroll b_Mo_unroll 8 (some .boolean) (rmk 3 0 0 79) [.ref m0, .int (nI ri)] ([(m0, .inr (9, MO ad qth qsz (bI qir) qtk qde qru qat qen qto qbe qva qwr qop (bI qiu) (nI uw) (nI uh) (nI rw_) (nI md))), ((ad 37), .inl (g.2.1 0, 697000, .inl (aI ST))), ((ad 38), .inl (g.2.1 0, 25300, .inl (aI SB))), ((ad 39), .inl (g.2.1 0, 41, .inl (aI CH))), ((ad 41), .inl (g.2.1 2, 256, .inl (zI HA))), ((ad 40), .inl (g.2.1 0, 41, .inl (aI DN))), ((ad 15), .inl (g.2.1 0, 500, .inl (aI AR))), ((ad 16), .inl (g.2.1 0, 20000, .inl (aI WH))), ((ad 17), .inl (g.2.1 0, 20000, .inl (aI FI))), ((ad 18), .inl (g.2.1 0, 20000, .inl (aI SE))), ((ad 33), .inl (g.2.1 0, 4000, .inl (aI RR))), ((ad 34), .inl (g.2.1 0, 4001, .inl (aI RB))), ((ad 35), .inl (g.2.1 0, 30000, .inl (aI PL)))]) (fun (r0 : Option Value) (w0 : va_W) => ∃ ok : Bool, ∃ md2 : Nat, ∃ rw2 : Nat, ∃ ST2 : Nat → Nat, ∃ SB2 : Nat → Nat, ∃ CH2 : Nat → Nat, ∃ DN2 : Nat → Nat, ∃ RR2 : Nat → Nat, ∃ RB2 : Nat → Nat, ∃ PL2 : Nat → Nat, ∃ HA2 : Nat → Bool, r0 = some (.int (bI ok)) ∧ w0 = [(m0, .inr (9, MO ad qth qsz (bI qir) qtk qde qru qat qen qto qbe qva qwr qop (bI qiu) (nI uw) (nI uh) (nI rw2) (nI md2))), ((ad 37), .inl (g.2.1 0, 697000, .inl (aI ST2))), ((ad 38), .inl (g.2.1 0, 25300, .inl (aI SB2))), ((ad 39), .inl (g.2.1 0, 41, .inl (aI CH2))), ((ad 41), .inl (g.2.1 2, 256, .inl (zI HA2))), ((ad 40), .inl (g.2.1 0, 41, .inl (aI DN2))), ((ad 15), .inl (g.2.1 0, 500, .inl (aI AR))), ((ad 16), .inl (g.2.1 0, 20000, .inl (aI WH))), ((ad 17), .inl (g.2.1 0, 20000, .inl (aI FI))), ((ad 18), .inl (g.2.1 0, 20000, .inl (aI SE))), ((ad 33), .inl (g.2.1 0, 4000, .inl (aI RR2))), ((ad 34), .inl (g.2.1 0, 4001, .inl (aI RB2))), ((ad 35), .inl (g.2.1 0, 30000, .inl (aI PL2)))] ∧ (MoA (lim ri (unr uw uh lr (List.range (uw * uh))) (some (md, R))) ok md2 rw2 RR2 RB2 PL2) ∧ (md2 ≤ 7000 ∧ rw2 ≤ 4000)) := by
  refine Cn.of R_Mo [(0, .ref m0), (1, .int (nI ri))] (by decide) rfl (Nat.le_of_ble_eq_true rfl) rfl ?_
  intro x A Q hR hXl hin C E
  subst hXl
  have hgr := gr_256 hw1 hh1
  refine r_aload_n C 0 d_Mo_unroll_0 rfl rfl ?_
  refine r_get C 0 15 d_Mo_unroll_1 ci_Mo fi_Mo_37 rfl (by decide) rfl rfl ?_
  refine r_iload_n C 1 d_Mo_unroll_4 rfl rfl ?_
  refine r_nald C 6 0 d_Mo_unroll_5 rfl rfl (by omega) (by decide) ?_
  refine r_top (v' := nI lr.length) (by rw [har]) ?_
  refine r_istore_n C (lv' := [(2, .int (nI lr.length)), (0, .ref m0), (1, .int (nI ri))]) d_Mo_unroll_6 rfl (by decide) rfl ?_
  refine r_aload_n C 1 d_Mo_unroll_7 rfl rfl ?_
  refine r_get C 0 39 d_Mo_unroll_8 ci_Mo fi_Mo_74 rfl (by decide) rfl rfl ?_
  refine r_iconst C (nI 0) d_Mo_unroll_11 (by decide) ?_
  refine r_iconst C (nI 1) d_Mo_unroll_12 (by decide) ?_
  refine r_nast C (ws' := [(m0, .inr (9, MO ad qth qsz (bI qir) qtk qde qru qat qen qto qbe qva qwr qop (bI qiu) (nI uw) (nI uh) (nI rw_) (nI md))), ((ad 37), .inl (g.2.1 0, 697000, .inl (aI ST))), ((ad 38), .inl (g.2.1 0, 25300, .inl (aI SB))), ((ad 39), .inl (g.2.1 0, 41, .inl (aI (up CH 0 1)))), ((ad 41), .inl (g.2.1 2, 256, .inl (zI HA))), ((ad 40), .inl (g.2.1 0, 41, .inl (aI DN))), ((ad 15), .inl (g.2.1 0, 500, .inl (aI AR))), ((ad 16), .inl (g.2.1 0, 20000, .inl (aI WH))), ((ad 17), .inl (g.2.1 0, 20000, .inl (aI FI))), ((ad 18), .inl (g.2.1 0, 20000, .inl (aI SE))), ((ad 33), .inl (g.2.1 0, 4000, .inl (aI RR))), ((ad 34), .inl (g.2.1 0, 4001, .inl (aI RB))), ((ad 35), .inl (g.2.1 0, 30000, .inl (aI PL)))]) 3 0 d_Mo_unroll_13 rfl rfl (by omega) (by decide) rfl ?_
  refine r_aload_n C 1 d_Mo_unroll_14 rfl rfl ?_
  refine r_get C 0 40 d_Mo_unroll_15 ci_Mo fi_Mo_77 rfl (by decide) rfl rfl ?_
  refine r_iconst C (nI 0) d_Mo_unroll_18 (by decide) ?_
  refine r_iconst C (nI 0) d_Mo_unroll_19 (by decide) ?_
  refine r_nast C (ws' := [(m0, .inr (9, MO ad qth qsz (bI qir) qtk qde qru qat qen qto qbe qva qwr qop (bI qiu) (nI uw) (nI uh) (nI rw_) (nI md))), ((ad 37), .inl (g.2.1 0, 697000, .inl (aI ST))), ((ad 38), .inl (g.2.1 0, 25300, .inl (aI SB))), ((ad 39), .inl (g.2.1 0, 41, .inl (aI (up CH 0 1)))), ((ad 41), .inl (g.2.1 2, 256, .inl (zI HA))), ((ad 40), .inl (g.2.1 0, 41, .inl (aI (up DN 0 0)))), ((ad 15), .inl (g.2.1 0, 500, .inl (aI AR))), ((ad 16), .inl (g.2.1 0, 20000, .inl (aI WH))), ((ad 17), .inl (g.2.1 0, 20000, .inl (aI FI))), ((ad 18), .inl (g.2.1 0, 20000, .inl (aI SE))), ((ad 33), .inl (g.2.1 0, 4000, .inl (aI RR))), ((ad 34), .inl (g.2.1 0, 4001, .inl (aI RB))), ((ad 35), .inl (g.2.1 0, 30000, .inl (aI PL)))]) 5 0 d_Mo_unroll_20 rfl rfl (by omega) (by decide) rfl ?_
  refine r_aload_n C 1 d_Mo_unroll_21 rfl rfl ?_
  refine r_get C 0 38 d_Mo_unroll_22 ci_Mo fi_Mo_71 rfl (by decide) rfl rfl ?_
  refine r_iconst C (nI 0) d_Mo_unroll_25 (by decide) ?_
  refine r_iconst C (nI 0) d_Mo_unroll_26 (by decide) ?_
  refine r_nast C (ws' := [(m0, .inr (9, MO ad qth qsz (bI qir) qtk qde qru qat qen qto qbe qva qwr qop (bI qiu) (nI uw) (nI uh) (nI rw_) (nI md))), ((ad 37), .inl (g.2.1 0, 697000, .inl (aI ST))), ((ad 38), .inl (g.2.1 0, 25300, .inl (aI (up SB 0 0)))), ((ad 39), .inl (g.2.1 0, 41, .inl (aI (up CH 0 1)))), ((ad 41), .inl (g.2.1 2, 256, .inl (zI HA))), ((ad 40), .inl (g.2.1 0, 41, .inl (aI (up DN 0 0)))), ((ad 15), .inl (g.2.1 0, 500, .inl (aI AR))), ((ad 16), .inl (g.2.1 0, 20000, .inl (aI WH))), ((ad 17), .inl (g.2.1 0, 20000, .inl (aI FI))), ((ad 18), .inl (g.2.1 0, 20000, .inl (aI SE))), ((ad 33), .inl (g.2.1 0, 4000, .inl (aI RR))), ((ad 34), .inl (g.2.1 0, 4001, .inl (aI RB))), ((ad 35), .inl (g.2.1 0, 30000, .inl (aI PL)))]) 2 0 d_Mo_unroll_27 rfl rfl (by omega) (by decide) rfl ?_
  refine r_aload_n C 1 d_Mo_unroll_28 rfl rfl ?_
  refine r_get C 0 38 d_Mo_unroll_29 ci_Mo fi_Mo_71 rfl (by decide) rfl rfl ?_
  refine r_iconst C (nI 1) d_Mo_unroll_32 (by decide) ?_
  refine r_aload_n C 1 d_Mo_unroll_33 rfl rfl ?_
  refine r_get C 0 30 d_Mo_unroll_34 ci_Mo fi_Mo_218 rfl (by decide) rfl rfl ?_
  refine r_aload_n C 1 d_Mo_unroll_37 rfl rfl ?_
  refine r_get C 0 31 d_Mo_unroll_38 ci_Mo fi_Mo_231 rfl (by decide) rfl rfl ?_
  refine r_nmul C d_Mo_unroll_41 ?_
  refine r_nast C (ws' := [(m0, .inr (9, MO ad qth qsz (bI qir) qtk qde qru qat qen qto qbe qva qwr qop (bI qiu) (nI uw) (nI uh) (nI rw_) (nI md))), ((ad 37), .inl (g.2.1 0, 697000, .inl (aI ST))), ((ad 38), .inl (g.2.1 0, 25300, .inl (aI (up (up SB 0 0) 1 (uw * uh))))), ((ad 39), .inl (g.2.1 0, 41, .inl (aI (up CH 0 1)))), ((ad 41), .inl (g.2.1 2, 256, .inl (zI HA))), ((ad 40), .inl (g.2.1 0, 41, .inl (aI (up DN 0 0)))), ((ad 15), .inl (g.2.1 0, 500, .inl (aI AR))), ((ad 16), .inl (g.2.1 0, 20000, .inl (aI WH))), ((ad 17), .inl (g.2.1 0, 20000, .inl (aI FI))), ((ad 18), .inl (g.2.1 0, 20000, .inl (aI SE))), ((ad 33), .inl (g.2.1 0, 4000, .inl (aI RR))), ((ad 34), .inl (g.2.1 0, 4001, .inl (aI RB))), ((ad 35), .inl (g.2.1 0, 30000, .inl (aI PL)))]) 2 0 d_Mo_unroll_42 rfl rfl (by omega) (by decide) rfl ?_
  refine r_iconst C (nI 0) d_Mo_unroll_43 (by decide) ?_
  refine r_istore_n C (lv' := [(3, .int (nI 0)), (2, .int (nI lr.length)), (0, .ref m0), (1, .int (nI ri))]) d_Mo_unroll_44 rfl (by decide) rfl ?_
  refine r_lv (lv' := [(0, .ref m0), (1, .int (nI ri)), (2, .int (nI lr.length)), (3, .int (nI 0))]) [2, 3, 1, 0] rfl ?_
  exact lp_Mo_unroll_45 g (m0 := m0) (ad := ad) (qth := qth) (qsz := qsz) (qtk := qtk) (qde := qde) (qru := qru) (qat := qat) (qen := qen) (qto := qto) (qbe := qbe) (qva := qva) (qwr := qwr) (qop := qop) (qir := qir) (qiu := qiu) (uw := uw) (uh := uh) (md := md) (rw_ := rw_) (ri := ri) (lr := lr) (R := R) (ST := ST) (SB := SB) (CH := CH) (DN := DN) (AR := AR) (WH := WH) (FI := FI) (SE := SE) (RR := RR) (RB := RB) (PL := PL) (HA := HA) hw0 hw1 hh0 hh1 hri har hlk hly hwh hMt0 hlm  C E hR _ 0 ST (by first | assumption | omega | rfl) (by first | assumption | omega | rfl) (fun t h => absurd h (Nat.not_lt_zero _)) (Nat.lt_succ_self _)
