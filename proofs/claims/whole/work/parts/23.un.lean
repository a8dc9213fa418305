set_option maxRecDepth 100000 in
theorem or_1 : GoodIn GW (va_wsU R_Unroller 105 R_Word "java/lang/Enum" ⟨"RuleReader$Word", "ordinal", "()I"⟩ y_Enum_ordinal (WSy y_Enum_ordinal b_Enum_ordinal 1 (some .int))) := by
  intro w hw
  have hm : w ∈ GW := by
    unfold va_wsU at hw
    rcases List.mem_append.mp hw with hw | hw
    · simp only [List.mem_cons, List.not_mem_nil, or_false] at hw
      rcases hw with rfl | rfl | rfl | rfl | rfl
      · exact (gw (i := 750) rfl rfl)
      · exact (gw (i := 751) rfl rfl)
      · exact (gw (i := 753) rfl rfl)
      · exact (gw (i := 754) rfl rfl)
      · exact (gw (i := 81) rfl rfl)
    · rcases List.mem_cons.mp hw with rfl | hw
      · exact (gw (i := 755) rfl rfl)
      · exact hw
  exact ⟨hm, gw_good _ hm⟩
section JO
variable {x : X0} {g : GG} {A : Nat → Prop} {Q : State → Prop} {cc : ByteArray} {nL pc cl sl : Nat} {ws : va_W} {lv : List (Nat × Value)} {st : List Value}
/-- Word.ordinal(), inherited from Enum -/
theorem j_ord (C : CX x g A R_Unroller cc nL) {u : Nat} (hu : u < 23) (hd : decode cc pc = .ok (.invokevirtual 105, 3)) (hf : Fit x (rmk 0 0 0 0) 1 cl sl) (hW : (st.map fun v => v.category).sum ≤ 8) (k : J x g A Q nL ws lv (pc + 3) (.int (nI u) :: st) cl sl) : J x g A Q nL ws lv pc (.ref (g.2.2.1 u) :: st) cl sl := fun H locs ls a b c d => by
  have sp : Sp ws [] ws := (Sp.of (ws := []) (wc := []) (wr := []) [] [] rfl rfl rfl rfl (by simp)).keep ws
  have hpre := pre_at C sp a b c [.ref (g.2.2.1 u)]
  have hrecv : ∃ cell : Cell, H[g.2.2.1 u]? = some cell ∧ cell.vm.isStatics = false ∧ (xs x).vm.findClass R_Word = some cell.cls := by
    obtain ⟨cell, q1, q2, q3, q4⟩ := (C.2.2.2.2.2.2.2.1.1.1 u hu).2.1
    exact ⟨cell, by rw [c.2.1 _ (Array.getElem?_eq_some_iff.mp q1).1 q4]; exact q1, q2, q3⟩
  have hfx : CallFix x.1 (xm x) (xc x) cc nL (xs x) (xa x) GW R_Unroller := ⟨C.1, C.2.1, C.2.2.1, C.2.2.2.1, C.2.2.2.2.1⟩
  refine j_tail C sp a b c d (va_runU (C := R_Word) (owner := "java/lang/Enum") (n := 0) (As := []) (rest := st) hfx (c_Enum_ordinal g (xl x) hu H.size) (va_cwU 0 C.2.2.2.2.1 or_1 rfl rfl rfl rfl (by decide +kernel) hf.1) ⟨pre_blind _ _ _, hrecv, hpre⟩ rfl rfl d.1 rfl (by simpa using hW) hd hf.2) (fun r ws1 hp => ?_)
  obtain ⟨rfl, rfl⟩ := hp
  rw [List.append_nil]
  exact k
end JO
/-- does c stand among the rising places from j to before e -/
def hld (SS : Nat → Nat) (j e c : Nat) : Bool := decide (run (fun v => decide (v < c)) SS e j < e ∧ SS (run (fun v => decide (v < c)) SS e j) = c)
/-- what the places of one part have in common -/
def keyN (uw w : Nat) (f s : Option Nat) (c : Nat) : Nat := if w = 2 then c / uw else if w = 3 then c % uw else if w = 10 then c % uw + 15 - c / uw else if w = 11 then c % uw + c / uw else c / uw / s.getD 1 * 16 + c % uw / f.getD 1
def passB (uw uh w c : Nat) : Bool := if w = 12 then decide ((c % uw + c / uw) % 2 = 1) else if w = 13 then decide (¬ (c % uw + c / uw) % 2 = 1) else if w = 14 then decide (c % uw = 0 ∨ c / uw = 0 ∨ c % uw = uw - 1 ∨ c / uw = uh - 1) else decide (¬ (c % uw = 0 ∨ c / uw = 0 ∨ c % uw = uw - 1 ∨ c / uw = uh - 1))
theorem kfin {a b : Nat} (h : a ≤ 255) (e : a = b) : some (Value.int (nI (max 0 (min a 255)))) = some (Value.int (nI b)) := by subst e; rw [Nat.min_eq_left h, Nat.max_eq_right (Nat.zero_le _)]
theorem dia_eq {a b : Nat} (h : b ≤ a + 15) : nI a - nI b + nI 16 - nI 1 = nI (a + 15 - b) := by
  rw [← pk_sub h, ← nI_add, Int32.sub_eq_add_neg, Int32.sub_eq_add_neg, Int32.sub_eq_add_neg, Int32.add_assoc (nI a + -nI b), show nI 16 + -nI 1 = nI 15 by decide, Int32.add_assoc, Int32.add_comm (-nI b), ← Int32.add_assoc]

set_option maxRecDepth 100000 in
theorem fi_Unroller_115 : FI R_Unroller 115 R_Layer F_Layer 1 := Or.inr ⟨"RuleReader", (nw (i := 541) rfl rfl)⟩
set_option maxRecDepth 100000 in
theorem fi_Unroller_181 : FI R_Unroller 181 R_Layer F_Layer 2 := Or.inr ⟨"RuleReader", (nw (i := 543) rfl rfl)⟩
set_option maxRecDepth 100000 in
theorem fi_Unroller_28 : FI R_Unroller 28 R_Unroller F_Unroller 5 := Or.inl (gw (i := 263) rfl rfl)
set_option maxRecDepth 100000 in
theorem fi_Unroller_32 : FI R_Unroller 32 R_Unroller F_Unroller 6 := Or.inl (gw (i := 264) rfl rfl)
set_option maxRecDepth 100000 in
theorem fi_Unroller_9 : FI R_Unroller 9 R_Unroller F_Unroller 1 := Or.inl (gw (i := 259) rfl rfl)
set_option maxRecDepth 100000 in
theorem fi_Unroller_96 : FI R_Unroller 96 R_Layer F_Layer 0 := Or.inr ⟨"RuleReader", (nw (i := 539) rfl rfl)⟩
set_option maxRecDepth 100000 in
theorem fs_Unroller_100 : Cond.fieldLink R_Unroller 100 "RuleReader$1" "$SwitchMap$RuleReader$Word" "[I" ∈ GW := (gw (i := 748) rfl rfl)
set_option maxRecDepth 100000 in
theorem lk_Unroller_136 : LK R_Unroller 136 y_Unroller_at := Or.inl (gw (i := 740) rfl rfl)
set_option maxRecDepth 100000 in
theorem lk_Unroller_164 : LK R_Unroller 164 y_Unroller_xOf := Or.inl (gw (i := 772) rfl rfl)
set_option maxRecDepth 100000 in
theorem lk_Unroller_167 : LK R_Unroller 167 y_Unroller_yOf := Or.inl (gw (i := 799) rfl rfl)
set_option maxRecDepth 100000 in
theorem lk_Unroller_184 : LK R_Unroller 184 y_Unroller_wholePart := Or.inl (gw (i := 815) rfl rfl)
set_option maxRecDepth 100000 in
theorem ma_min : MA Lib.Math.min.name Lib.Math.min.code := ⟨(gw (i := 726) rfl rfl), (gw (i := 88) rfl rfl), (gw (i := 727) rfl rfl)⟩
set_option maxRecDepth 100000 in
theorem ml_Unroller_178 : Cond.methodLink R_Unroller 178 Lib.Math.max.name ∈ GW := (gw (i := 818) rfl rfl)
set_option maxRecDepth 100000 in
theorem ml_Unroller_81 : Cond.methodLink R_Unroller 81 Lib.Math.min.name ∈ GW := (gw (i := 725) rfl rfl)
set_option maxRecDepth 100000 in
theorem mw_Unroller_at : MW y_Unroller_at b_Unroller_at 2 (some .int) 1 := ⟨(gw (i := 743) rfl rfl), (gw (i := 79) rfl rfl), by decide +kernel⟩
set_option maxRecDepth 100000 in
theorem mw_Unroller_wholePart : MW y_Unroller_wholePart b_Unroller_wholePart 2 (some .int) 2 := ⟨(gw (i := 817) rfl rfl), (gw (i := 79) rfl rfl), by decide +kernel⟩
set_option maxRecDepth 100000 in
theorem mw_Unroller_xOf : MW y_Unroller_xOf b_Unroller_xOf 2 (some .int) 1 := ⟨(gw (i := 775) rfl rfl), (gw (i := 79) rfl rfl), by decide +kernel⟩
set_option maxRecDepth 100000 in
theorem mw_Unroller_yOf : MW y_Unroller_yOf b_Unroller_yOf 2 (some .int) 1 := ⟨(gw (i := 802) rfl rfl), (gw (i := 79) rfl rfl), by decide +kernel⟩
set_option maxRecDepth 100000 in
theorem st_Unroller_wholePart : Cond.static y_Unroller_wholePart ∈ GW := (gw (i := 816) rfl rfl)
set_option maxRecDepth 100000 in
theorem vw_Unroller_at : VW y_Unroller_at := ⟨(gw (i := 742) rfl rfl), (gw (i := 21) rfl rfl)⟩
set_option maxRecDepth 100000 in
theorem vw_Unroller_xOf : VW y_Unroller_xOf := ⟨(gw (i := 774) rfl rfl), (gw (i := 26) rfl rfl)⟩
set_option maxRecDepth 100000 in
theorem vw_Unroller_yOf : VW y_Unroller_yOf := ⟨(gw (i := 801) rfl rfl), (gw (i := 32) rfl rfl)⟩
theorem d_Unroller_at_0 : decode b_Unroller_at 0 = .ok (.iload_n 1, 1) := by decide +kernel
theorem d_Unroller_at_1 : decode b_Unroller_at 1 = .ok (.ifCond .lt 21, 3) := by decide +kernel
theorem d_Unroller_at_4 : decode b_Unroller_at 4 = .ok (.iload_n 1, 1) := by decide +kernel
theorem d_Unroller_at_5 : decode b_Unroller_at 5 = .ok (.aload_n 0, 1) := by decide +kernel
theorem d_Unroller_at_6 : decode b_Unroller_at 6 = .ok (.getfield 9, 3) := by decide +kernel
theorem d_Unroller_at_9 : decode b_Unroller_at 9 = .ok (.arraylength, 1) := by decide +kernel
theorem d_Unroller_at_10 : decode b_Unroller_at 10 = .ok (.if_icmp .ge 12, 3) := by decide +kernel
theorem d_Unroller_at_13 : decode b_Unroller_at 13 = .ok (.aload_n 0, 1) := by decide +kernel
theorem d_Unroller_at_14 : decode b_Unroller_at 14 = .ok (.getfield 9, 3) := by decide +kernel
theorem d_Unroller_at_17 : decode b_Unroller_at 17 = .ok (.iload_n 1, 1) := by decide +kernel
theorem d_Unroller_at_18 : decode b_Unroller_at 18 = .ok (.iaload, 1) := by decide +kernel
theorem d_Unroller_at_19 : decode b_Unroller_at 19 = .ok (.goto 4, 3) := by decide +kernel
theorem d_Unroller_at_22 : decode b_Unroller_at 22 = .ok (.iconst 0, 1) := by decide +kernel
theorem d_Unroller_at_23 : decode b_Unroller_at 23 = .ok (.ireturn, 1) := by decide +kernel
theorem d_Unroller_put_0 : decode b_Unroller_put 0 = .ok (.iload_n 1, 1) := by decide +kernel
theorem d_Unroller_put_1 : decode b_Unroller_put 1 = .ok (.ifCond .lt 19, 3) := by decide +kernel
theorem d_Unroller_put_4 : decode b_Unroller_put 4 = .ok (.iload_n 1, 1) := by decide +kernel
theorem d_Unroller_put_5 : decode b_Unroller_put 5 = .ok (.aload_n 0, 1) := by decide +kernel
theorem d_Unroller_put_6 : decode b_Unroller_put 6 = .ok (.getfield 9, 3) := by decide +kernel
theorem d_Unroller_put_9 : decode b_Unroller_put 9 = .ok (.arraylength, 1) := by decide +kernel
theorem d_Unroller_put_10 : decode b_Unroller_put 10 = .ok (.if_icmp .ge 10, 3) := by decide +kernel
theorem d_Unroller_put_13 : decode b_Unroller_put 13 = .ok (.aload_n 0, 1) := by decide +kernel
theorem d_Unroller_put_14 : decode b_Unroller_put 14 = .ok (.getfield 9, 3) := by decide +kernel
theorem d_Unroller_put_17 : decode b_Unroller_put 17 = .ok (.iload_n 1, 1) := by decide +kernel
theorem d_Unroller_put_18 : decode b_Unroller_put 18 = .ok (.iload_n 2, 1) := by decide +kernel
theorem d_Unroller_put_19 : decode b_Unroller_put 19 = .ok (.iastore, 1) := by decide +kernel
theorem d_Unroller_put_20 : decode b_Unroller_put 20 = .ok (.return_, 1) := by decide +kernel
theorem d_Unroller_xOf_0 : decode b_Unroller_xOf 0 = .ok (.aload_n 0, 1) := by decide +kernel
theorem d_Unroller_xOf_1 : decode b_Unroller_xOf 1 = .ok (.getfield 28, 3) := by decide +kernel
theorem d_Unroller_xOf_4 : decode b_Unroller_xOf 4 = .ok (.ifCond .le 12, 3) := by decide +kernel
theorem d_Unroller_xOf_7 : decode b_Unroller_xOf 7 = .ok (.iload_n 1, 1) := by decide +kernel
theorem d_Unroller_xOf_8 : decode b_Unroller_xOf 8 = .ok (.aload_n 0, 1) := by decide +kernel
theorem d_Unroller_xOf_9 : decode b_Unroller_xOf 9 = .ok (.getfield 28, 3) := by decide +kernel
theorem d_Unroller_xOf_12 : decode b_Unroller_xOf 12 = .ok (.irem, 1) := by decide +kernel
theorem d_Unroller_xOf_13 : decode b_Unroller_xOf 13 = .ok (.goto 4, 3) := by decide +kernel
theorem d_Unroller_xOf_16 : decode b_Unroller_xOf 16 = .ok (.iconst 0, 1) := by decide +kernel
theorem d_Unroller_xOf_17 : decode b_Unroller_xOf 17 = .ok (.ireturn, 1) := by decide +kernel
theorem d_Unroller_yOf_0 : decode b_Unroller_yOf 0 = .ok (.aload_n 0, 1) := by decide +kernel
theorem d_Unroller_yOf_1 : decode b_Unroller_yOf 1 = .ok (.getfield 28, 3) := by decide +kernel
theorem d_Unroller_yOf_4 : decode b_Unroller_yOf 4 = .ok (.ifCond .le 12, 3) := by decide +kernel
theorem d_Unroller_yOf_7 : decode b_Unroller_yOf 7 = .ok (.iload_n 1, 1) := by decide +kernel
theorem d_Unroller_yOf_8 : decode b_Unroller_yOf 8 = .ok (.aload_n 0, 1) := by decide +kernel
theorem d_Unroller_yOf_9 : decode b_Unroller_yOf 9 = .ok (.getfield 28, 3) := by decide +kernel
theorem d_Unroller_yOf_12 : decode b_Unroller_yOf 12 = .ok (.idiv, 1) := by decide +kernel
theorem d_Unroller_yOf_13 : decode b_Unroller_yOf 13 = .ok (.goto 4, 3) := by decide +kernel
theorem d_Unroller_yOf_16 : decode b_Unroller_yOf 16 = .ok (.iconst 0, 1) := by decide +kernel
theorem d_Unroller_yOf_17 : decode b_Unroller_yOf 17 = .ok (.ireturn, 1) := by decide +kernel
theorem d_Unroller_wholePart_0 : decode b_Unroller_wholePart 0 = .ok (.iload_n 1, 1) := by decide +kernel
theorem d_Unroller_wholePart_1 : decode b_Unroller_wholePart 1 = .ok (.ifCond .le 9, 3) := by decide +kernel
theorem d_Unroller_wholePart_4 : decode b_Unroller_wholePart 4 = .ok (.iload_n 0, 1) := by decide +kernel
theorem d_Unroller_wholePart_5 : decode b_Unroller_wholePart 5 = .ok (.iload_n 1, 1) := by decide +kernel
theorem d_Unroller_wholePart_6 : decode b_Unroller_wholePart 6 = .ok (.idiv, 1) := by decide +kernel
theorem d_Unroller_wholePart_7 : decode b_Unroller_wholePart 7 = .ok (.goto 4, 3) := by decide +kernel
theorem d_Unroller_wholePart_10 : decode b_Unroller_wholePart 10 = .ok (.iconst 0, 1) := by decide +kernel
theorem d_Unroller_wholePart_11 : decode b_Unroller_wholePart 11 = .ok (.ireturn, 1) := by decide +kernel
theorem d_Unroller_hasRight_0 : decode b_Unroller_hasRight 0 = .ok (.aload_n 0, 1) := by decide +kernel
theorem d_Unroller_hasRight_1 : decode b_Unroller_hasRight 1 = .ok (.iload_n 1, 1) := by decide +kernel
theorem d_Unroller_hasRight_2 : decode b_Unroller_hasRight 2 = .ok (.invokevirtual 164, 3) := by decide +kernel
theorem d_Unroller_hasRight_5 : decode b_Unroller_hasRight 5 = .ok (.iconst 1, 1) := by decide +kernel
theorem d_Unroller_hasRight_6 : decode b_Unroller_hasRight 6 = .ok (.iadd, 1) := by decide +kernel
theorem d_Unroller_hasRight_7 : decode b_Unroller_hasRight 7 = .ok (.aload_n 0, 1) := by decide +kernel
theorem d_Unroller_hasRight_8 : decode b_Unroller_hasRight 8 = .ok (.getfield 28, 3) := by decide +kernel
theorem d_Unroller_hasRight_11 : decode b_Unroller_hasRight 11 = .ok (.if_icmp .ge 7, 3) := by decide +kernel
theorem d_Unroller_hasRight_14 : decode b_Unroller_hasRight 14 = .ok (.iconst 1, 1) := by decide +kernel
theorem d_Unroller_hasRight_15 : decode b_Unroller_hasRight 15 = .ok (.goto 4, 3) := by decide +kernel
theorem d_Unroller_hasRight_18 : decode b_Unroller_hasRight 18 = .ok (.iconst 0, 1) := by decide +kernel
theorem d_Unroller_hasRight_19 : decode b_Unroller_hasRight 19 = .ok (.ireturn, 1) := by decide +kernel
theorem d_Unroller_roomBehind_0 : decode b_Unroller_roomBehind 0 = .ok (.iload_n 0, 1) := by decide +kernel
theorem d_Unroller_roomBehind_1 : decode b_Unroller_roomBehind 1 = .ok (.iconst 1, 1) := by decide +kernel
theorem d_Unroller_roomBehind_2 : decode b_Unroller_roomBehind 2 = .ok (.iadd, 1) := by decide +kernel
theorem d_Unroller_roomBehind_3 : decode b_Unroller_roomBehind 3 = .ok (.sipush 256, 3) := by decide +kernel
theorem d_Unroller_roomBehind_6 : decode b_Unroller_roomBehind 6 = .ok (.imul, 1) := by decide +kernel
theorem d_Unroller_roomBehind_7 : decode b_Unroller_roomBehind 7 = .ok (.ireturn, 1) := by decide +kernel
theorem d_Unroller_holds_0 : decode b_Unroller_holds 0 = .ok (.iload_n 1, 1) := by decide +kernel
theorem d_Unroller_holds_1 : decode b_Unroller_holds 1 = .ok (.istore 4, 2) := by decide +kernel
theorem d_Unroller_holds_3 : decode b_Unroller_holds 3 = .ok (.iload 4, 2) := by decide +kernel
theorem d_Unroller_holds_5 : decode b_Unroller_holds 5 = .ok (.iload_n 2, 1) := by decide +kernel
theorem d_Unroller_holds_6 : decode b_Unroller_holds 6 = .ok (.if_icmp .ge 19, 3) := by decide +kernel
theorem d_Unroller_holds_9 : decode b_Unroller_holds 9 = .ok (.aload_n 0, 1) := by decide +kernel
theorem d_Unroller_holds_10 : decode b_Unroller_holds 10 = .ok (.iload 4, 2) := by decide +kernel
theorem d_Unroller_holds_12 : decode b_Unroller_holds 12 = .ok (.invokevirtual 136, 3) := by decide +kernel
theorem d_Unroller_holds_15 : decode b_Unroller_holds 15 = .ok (.iload_n 3, 1) := by decide +kernel
theorem d_Unroller_holds_16 : decode b_Unroller_holds 16 = .ok (.if_icmp .ge 9, 3) := by decide +kernel
theorem d_Unroller_holds_19 : decode b_Unroller_holds 19 = .ok (.iinc 4 1, 3) := by decide +kernel
theorem d_Unroller_holds_22 : decode b_Unroller_holds 22 = .ok (.goto (-19), 3) := by decide +kernel
theorem d_Unroller_holds_25 : decode b_Unroller_holds 25 = .ok (.iload 4, 2) := by decide +kernel
theorem d_Unroller_holds_27 : decode b_Unroller_holds 27 = .ok (.iload_n 2, 1) := by decide +kernel
theorem d_Unroller_holds_28 : decode b_Unroller_holds 28 = .ok (.if_icmp .ge 17, 3) := by decide +kernel
theorem d_Unroller_holds_31 : decode b_Unroller_holds 31 = .ok (.aload_n 0, 1) := by decide +kernel
theorem d_Unroller_holds_32 : decode b_Unroller_holds 32 = .ok (.iload 4, 2) := by decide +kernel
theorem d_Unroller_holds_34 : decode b_Unroller_holds 34 = .ok (.invokevirtual 136, 3) := by decide +kernel
theorem d_Unroller_holds_37 : decode b_Unroller_holds 37 = .ok (.iload_n 3, 1) := by decide +kernel
theorem d_Unroller_holds_38 : decode b_Unroller_holds 38 = .ok (.if_icmp .ne 7, 3) := by decide +kernel
theorem d_Unroller_holds_41 : decode b_Unroller_holds 41 = .ok (.iconst 1, 1) := by decide +kernel
theorem d_Unroller_holds_42 : decode b_Unroller_holds 42 = .ok (.goto 4, 3) := by decide +kernel
theorem d_Unroller_holds_45 : decode b_Unroller_holds 45 = .ok (.iconst 0, 1) := by decide +kernel
theorem d_Unroller_holds_46 : decode b_Unroller_holds 46 = .ok (.ireturn, 1) := by decide +kernel
theorem d_Unroller_keyOf_0 : decode b_Unroller_keyOf 0 = .ok (.aload_n 0, 1) := by decide +kernel
theorem d_Unroller_keyOf_1 : decode b_Unroller_keyOf 1 = .ok (.iload_n 2, 1) := by decide +kernel
theorem d_Unroller_keyOf_2 : decode b_Unroller_keyOf 2 = .ok (.invokevirtual 164, 3) := by decide +kernel
theorem d_Unroller_keyOf_5 : decode b_Unroller_keyOf 5 = .ok (.istore_n 3, 1) := by decide +kernel
theorem d_Unroller_keyOf_6 : decode b_Unroller_keyOf 6 = .ok (.aload_n 0, 1) := by decide +kernel
theorem d_Unroller_keyOf_7 : decode b_Unroller_keyOf 7 = .ok (.iload_n 2, 1) := by decide +kernel
theorem d_Unroller_keyOf_8 : decode b_Unroller_keyOf 8 = .ok (.invokevirtual 167, 3) := by decide +kernel
theorem d_Unroller_keyOf_11 : decode b_Unroller_keyOf 11 = .ok (.istore 4, 2) := by decide +kernel
theorem d_Unroller_keyOf_13 : decode b_Unroller_keyOf 13 = .ok (.getstatic 100, 3) := by decide +kernel
theorem d_Unroller_keyOf_16 : decode b_Unroller_keyOf 16 = .ok (.aload_n 1, 1) := by decide +kernel
theorem d_Unroller_keyOf_17 : decode b_Unroller_keyOf 17 = .ok (.getfield 96, 3) := by decide +kernel
theorem d_Unroller_keyOf_20 : decode b_Unroller_keyOf 20 = .ok (.invokevirtual 105, 3) := by decide +kernel
theorem d_Unroller_keyOf_23 : decode b_Unroller_keyOf 23 = .ok (.iaload, 1) := by decide +kernel
theorem d_Unroller_keyOf_24 : decode b_Unroller_keyOf 24 = .ok (.tableswitch 68 10 13 #[32, 39, 45, 59], 32) := by decide +kernel
theorem d_Unroller_keyOf_56 : decode b_Unroller_keyOf 56 = .ok (.iload 4, 2) := by decide +kernel
theorem d_Unroller_keyOf_58 : decode b_Unroller_keyOf 58 = .ok (.istore 5, 2) := by decide +kernel
theorem d_Unroller_keyOf_60 : decode b_Unroller_keyOf 60 = .ok (.goto 55, 3) := by decide +kernel
theorem d_Unroller_keyOf_63 : decode b_Unroller_keyOf 63 = .ok (.iload_n 3, 1) := by decide +kernel
theorem d_Unroller_keyOf_64 : decode b_Unroller_keyOf 64 = .ok (.istore 5, 2) := by decide +kernel
theorem d_Unroller_keyOf_66 : decode b_Unroller_keyOf 66 = .ok (.goto 49, 3) := by decide +kernel
theorem d_Unroller_keyOf_69 : decode b_Unroller_keyOf 69 = .ok (.iload_n 3, 1) := by decide +kernel
theorem d_Unroller_keyOf_70 : decode b_Unroller_keyOf 70 = .ok (.iload 4, 2) := by decide +kernel
theorem d_Unroller_keyOf_72 : decode b_Unroller_keyOf 72 = .ok (.isub, 1) := by decide +kernel
theorem d_Unroller_keyOf_73 : decode b_Unroller_keyOf 73 = .ok (.bipush 16, 2) := by decide +kernel
theorem d_Unroller_keyOf_75 : decode b_Unroller_keyOf 75 = .ok (.iadd, 1) := by decide +kernel
theorem d_Unroller_keyOf_76 : decode b_Unroller_keyOf 76 = .ok (.iconst 1, 1) := by decide +kernel
theorem d_Unroller_keyOf_77 : decode b_Unroller_keyOf 77 = .ok (.isub, 1) := by decide +kernel
theorem d_Unroller_keyOf_78 : decode b_Unroller_keyOf 78 = .ok (.istore 5, 2) := by decide +kernel
theorem d_Unroller_keyOf_80 : decode b_Unroller_keyOf 80 = .ok (.goto 35, 3) := by decide +kernel
theorem d_Unroller_keyOf_83 : decode b_Unroller_keyOf 83 = .ok (.iload_n 3, 1) := by decide +kernel
theorem d_Unroller_keyOf_84 : decode b_Unroller_keyOf 84 = .ok (.iload 4, 2) := by decide +kernel
theorem d_Unroller_keyOf_86 : decode b_Unroller_keyOf 86 = .ok (.iadd, 1) := by decide +kernel
theorem d_Unroller_keyOf_87 : decode b_Unroller_keyOf 87 = .ok (.istore 5, 2) := by decide +kernel
theorem d_Unroller_keyOf_89 : decode b_Unroller_keyOf 89 = .ok (.goto 26, 3) := by decide +kernel
theorem d_Unroller_keyOf_92 : decode b_Unroller_keyOf 92 = .ok (.iload 4, 2) := by decide +kernel
theorem d_Unroller_keyOf_94 : decode b_Unroller_keyOf 94 = .ok (.aload_n 1, 1) := by decide +kernel
theorem d_Unroller_keyOf_95 : decode b_Unroller_keyOf 95 = .ok (.getfield 181, 3) := by decide +kernel
theorem d_Unroller_keyOf_98 : decode b_Unroller_keyOf 98 = .ok (.invokestatic 184, 3) := by decide +kernel
theorem d_Unroller_keyOf_101 : decode b_Unroller_keyOf 101 = .ok (.bipush 16, 2) := by decide +kernel
theorem d_Unroller_keyOf_103 : decode b_Unroller_keyOf 103 = .ok (.imul, 1) := by decide +kernel
theorem d_Unroller_keyOf_104 : decode b_Unroller_keyOf 104 = .ok (.iload_n 3, 1) := by decide +kernel
theorem d_Unroller_keyOf_105 : decode b_Unroller_keyOf 105 = .ok (.aload_n 1, 1) := by decide +kernel
theorem d_Unroller_keyOf_106 : decode b_Unroller_keyOf 106 = .ok (.getfield 115, 3) := by decide +kernel
theorem d_Unroller_keyOf_109 : decode b_Unroller_keyOf 109 = .ok (.invokestatic 184, 3) := by decide +kernel
theorem d_Unroller_keyOf_112 : decode b_Unroller_keyOf 112 = .ok (.iadd, 1) := by decide +kernel
theorem d_Unroller_keyOf_113 : decode b_Unroller_keyOf 113 = .ok (.istore 5, 2) := by decide +kernel
theorem d_Unroller_keyOf_115 : decode b_Unroller_keyOf 115 = .ok (.iconst 0, 1) := by decide +kernel
theorem d_Unroller_keyOf_116 : decode b_Unroller_keyOf 116 = .ok (.iload 5, 2) := by decide +kernel
theorem d_Unroller_keyOf_118 : decode b_Unroller_keyOf 118 = .ok (.sipush 255, 3) := by decide +kernel
theorem d_Unroller_keyOf_121 : decode b_Unroller_keyOf 121 = .ok (.invokestatic 81, 3) := by decide +kernel
theorem d_Unroller_keyOf_124 : decode b_Unroller_keyOf 124 = .ok (.invokestatic 178, 3) := by decide +kernel
theorem d_Unroller_keyOf_127 : decode b_Unroller_keyOf 127 = .ok (.ireturn, 1) := by decide +kernel
theorem d_Unroller_passes_0 : decode b_Unroller_passes 0 = .ok (.aload_n 0, 1) := by decide +kernel
theorem d_Unroller_passes_1 : decode b_Unroller_passes 1 = .ok (.iload_n 2, 1) := by decide +kernel
theorem d_Unroller_passes_2 : decode b_Unroller_passes 2 = .ok (.invokevirtual 164, 3) := by decide +kernel
theorem d_Unroller_passes_5 : decode b_Unroller_passes 5 = .ok (.istore_n 3, 1) := by decide +kernel
theorem d_Unroller_passes_6 : decode b_Unroller_passes 6 = .ok (.aload_n 0, 1) := by decide +kernel
theorem d_Unroller_passes_7 : decode b_Unroller_passes 7 = .ok (.iload_n 2, 1) := by decide +kernel
theorem d_Unroller_passes_8 : decode b_Unroller_passes 8 = .ok (.invokevirtual 167, 3) := by decide +kernel
theorem d_Unroller_passes_11 : decode b_Unroller_passes 11 = .ok (.istore 4, 2) := by decide +kernel
theorem d_Unroller_passes_13 : decode b_Unroller_passes 13 = .ok (.iload_n 3, 1) := by decide +kernel
theorem d_Unroller_passes_14 : decode b_Unroller_passes 14 = .ok (.iload 4, 2) := by decide +kernel
theorem d_Unroller_passes_16 : decode b_Unroller_passes 16 = .ok (.iadd, 1) := by decide +kernel
theorem d_Unroller_passes_17 : decode b_Unroller_passes 17 = .ok (.iconst 2, 1) := by decide +kernel
theorem d_Unroller_passes_18 : decode b_Unroller_passes 18 = .ok (.irem, 1) := by decide +kernel
theorem d_Unroller_passes_19 : decode b_Unroller_passes 19 = .ok (.iconst 1, 1) := by decide +kernel
theorem d_Unroller_passes_20 : decode b_Unroller_passes 20 = .ok (.if_icmp .ne 7, 3) := by decide +kernel
theorem d_Unroller_passes_23 : decode b_Unroller_passes 23 = .ok (.iconst 1, 1) := by decide +kernel
theorem d_Unroller_passes_24 : decode b_Unroller_passes 24 = .ok (.goto 4, 3) := by decide +kernel
theorem d_Unroller_passes_27 : decode b_Unroller_passes 27 = .ok (.iconst 0, 1) := by decide +kernel
theorem d_Unroller_passes_28 : decode b_Unroller_passes 28 = .ok (.istore 5, 2) := by decide +kernel
theorem d_Unroller_passes_30 : decode b_Unroller_passes 30 = .ok (.iload_n 3, 1) := by decide +kernel
theorem d_Unroller_passes_31 : decode b_Unroller_passes 31 = .ok (.ifCond .eq 29, 3) := by decide +kernel
theorem d_Unroller_passes_34 : decode b_Unroller_passes 34 = .ok (.iload 4, 2) := by decide +kernel
theorem d_Unroller_passes_36 : decode b_Unroller_passes 36 = .ok (.ifCond .eq 24, 3) := by decide +kernel
theorem d_Unroller_passes_39 : decode b_Unroller_passes 39 = .ok (.iload_n 3, 1) := by decide +kernel
theorem d_Unroller_passes_40 : decode b_Unroller_passes 40 = .ok (.aload_n 0, 1) := by decide +kernel
theorem d_Unroller_passes_41 : decode b_Unroller_passes 41 = .ok (.getfield 28, 3) := by decide +kernel
theorem d_Unroller_passes_44 : decode b_Unroller_passes 44 = .ok (.iconst 1, 1) := by decide +kernel
theorem d_Unroller_passes_45 : decode b_Unroller_passes 45 = .ok (.isub, 1) := by decide +kernel
theorem d_Unroller_passes_46 : decode b_Unroller_passes 46 = .ok (.if_icmp .eq 14, 3) := by decide +kernel
theorem d_Unroller_passes_49 : decode b_Unroller_passes 49 = .ok (.iload 4, 2) := by decide +kernel
theorem d_Unroller_passes_51 : decode b_Unroller_passes 51 = .ok (.aload_n 0, 1) := by decide +kernel
theorem d_Unroller_passes_52 : decode b_Unroller_passes 52 = .ok (.getfield 32, 3) := by decide +kernel
theorem d_Unroller_passes_55 : decode b_Unroller_passes 55 = .ok (.iconst 1, 1) := by decide +kernel
theorem d_Unroller_passes_56 : decode b_Unroller_passes 56 = .ok (.isub, 1) := by decide +kernel
theorem d_Unroller_passes_57 : decode b_Unroller_passes 57 = .ok (.if_icmp .ne 7, 3) := by decide +kernel
theorem d_Unroller_passes_60 : decode b_Unroller_passes 60 = .ok (.iconst 1, 1) := by decide +kernel
theorem d_Unroller_passes_61 : decode b_Unroller_passes 61 = .ok (.goto 4, 3) := by decide +kernel
theorem d_Unroller_passes_64 : decode b_Unroller_passes 64 = .ok (.iconst 0, 1) := by decide +kernel
theorem d_Unroller_passes_65 : decode b_Unroller_passes 65 = .ok (.istore 6, 2) := by decide +kernel
theorem d_Unroller_passes_67 : decode b_Unroller_passes 67 = .ok (.getstatic 100, 3) := by decide +kernel
theorem d_Unroller_passes_70 : decode b_Unroller_passes 70 = .ok (.aload_n 1, 1) := by decide +kernel
theorem d_Unroller_passes_71 : decode b_Unroller_passes 71 = .ok (.invokevirtual 105, 3) := by decide +kernel
theorem d_Unroller_passes_74 : decode b_Unroller_passes 74 = .ok (.iaload, 1) := by decide +kernel
theorem d_Unroller_passes_75 : decode b_Unroller_passes 75 = .ok (.tableswitch 42 6 8 #[25, 28, 39], 25) := by decide +kernel
theorem d_Unroller_passes_100 : decode b_Unroller_passes 100 = .ok (.iload 5, 2) := by decide +kernel
theorem d_Unroller_passes_102 : decode b_Unroller_passes 102 = .ok (.ireturn, 1) := by decide +kernel
theorem d_Unroller_passes_103 : decode b_Unroller_passes 103 = .ok (.iload 5, 2) := by decide +kernel
theorem d_Unroller_passes_105 : decode b_Unroller_passes 105 = .ok (.ifCond .ne 7, 3) := by decide +kernel
theorem d_Unroller_passes_108 : decode b_Unroller_passes 108 = .ok (.iconst 1, 1) := by decide +kernel
theorem d_Unroller_passes_109 : decode b_Unroller_passes 109 = .ok (.goto 4, 3) := by decide +kernel
theorem d_Unroller_passes_112 : decode b_Unroller_passes 112 = .ok (.iconst 0, 1) := by decide +kernel
theorem d_Unroller_passes_113 : decode b_Unroller_passes 113 = .ok (.ireturn, 1) := by decide +kernel
theorem d_Unroller_passes_114 : decode b_Unroller_passes 114 = .ok (.iload 6, 2) := by decide +kernel
theorem d_Unroller_passes_116 : decode b_Unroller_passes 116 = .ok (.ireturn, 1) := by decide +kernel
theorem d_Unroller_passes_117 : decode b_Unroller_passes 117 = .ok (.iload 6, 2) := by decide +kernel
theorem d_Unroller_passes_119 : decode b_Unroller_passes 119 = .ok (.ifCond .ne 7, 3) := by decide +kernel
theorem d_Unroller_passes_122 : decode b_Unroller_passes 122 = .ok (.iconst 1, 1) := by decide +kernel
theorem d_Unroller_passes_123 : decode b_Unroller_passes 123 = .ok (.goto 4, 3) := by decide +kernel
theorem d_Unroller_passes_126 : decode b_Unroller_passes 126 = .ok (.iconst 0, 1) := by decide +kernel
theorem d_Unroller_passes_127 : decode b_Unroller_passes 127 = .ok (.ireturn, 1) := by decide +kernel
set_option maxHeartbeats 4000000 in
set_option maxRecDepth 100000 in
theorem c_Unroller_at (g : GG) (l : Launch) {u : Nat} {s : Nat} {ss : Nat} {la : Nat} {ke : Nat} {lc : Nat} {uw : Nat} {uh : Nat} {ri : Nat} {mi : Int32} {tm : Bool} {j : Nat} {SS : Nat → Nat}  (hj : j < 10496) : Cn g l y_Unroller_at b_Unroller_at 2 (some .int) (rmk 0 0 0 0) [.ref u, .int (nI j)] ([(u, .inr (8, [.ref s, .ref ss, .ref la, .ref ke, .int (nI lc), .int (nI uw), .int (nI uh), .int (nI ri), .int mi, .int (bI tm)])), (ss, .inl (g.2.1 0, 10496, .inl (aI SS)))]) (fun (r0 : Option Value) (w0 : va_W) => r0 = some (.int (nI (SS j))) ∧ w0 = [(u, .inr (8, [.ref s, .ref ss, .ref la, .ref ke, .int (nI lc), .int (nI uw), .int (nI uh), .int (nI ri), .int mi, .int (bI tm)])), (ss, .inl (g.2.1 0, 10496, .inl (aI SS)))]) := by
  refine Cn.of R_Unroller [(0, .ref u), (1, .int (nI j))] (by decide) rfl (Nat.le_of_ble_eq_true rfl) rfl ?_
  intro x A Q hR hXl hin C E
  subst hXl
  refine r_iload_n C 1 d_Unroller_at_0 rfl rfl ?_
  refine r_nif_lt C 22 d_Unroller_at_1 (by decide) (by omega) (fun c_1 => ?_) (fun c_1 => ?_)
  · exact absurd c_1 (by omega)
  · skip
    refine r_iload_n C 1 d_Unroller_at_4 rfl rfl ?_
    refine r_aload_n C 0 d_Unroller_at_5 rfl rfl ?_
    refine r_get C 0 1 d_Unroller_at_6 ci_Unroller fi_Unroller_9 rfl (by decide) rfl rfl ?_
    refine r_alen C 1 0 d_Unroller_at_9 rfl rfl ?_
    refine r_ncmp_ge C 22 d_Unroller_at_10 (by decide) (by omega) (by omega) (fun c_10 => ?_) (fun c_10 => ?_)
    · exact absurd c_10 (by omega)
    · skip
      refine r_aload_n C 0 d_Unroller_at_13 rfl rfl ?_
      refine r_get C 0 1 d_Unroller_at_14 ci_Unroller fi_Unroller_9 rfl (by decide) rfl rfl ?_
      refine r_iload_n C 1 d_Unroller_at_17 rfl rfl ?_
      refine r_nald C 1 0 d_Unroller_at_18 rfl rfl (by omega) (by decide) ?_
      refine r_goto C 23 d_Unroller_at_19 (by decide) ?_
      refine r_iret C E d_Unroller_at_23 (by first | decide | omega | (simp only [rmk]; omega)) (by first | decide | omega | (simp only [rmk]; omega)) ?_
      exact ⟨rfl, rfl⟩

set_option maxHeartbeats 4000000 in
set_option maxRecDepth 100000 in
theorem c_Unroller_put (g : GG) (l : Launch) {u : Nat} {s : Nat} {ss : Nat} {la : Nat} {ke : Nat} {lc : Nat} {uw : Nat} {uh : Nat} {ri : Nat} {mi : Int32} {tm : Bool} {j : Nat} {c : Nat} {SS : Nat → Nat}  (hj : j < 10496) : Cn g l y_Unroller_put b_Unroller_put 3 none (rmk 0 0 0 0) [.ref u, .int (nI j), .int (nI c)] ([(u, .inr (8, [.ref s, .ref ss, .ref la, .ref ke, .int (nI lc), .int (nI uw), .int (nI uh), .int (nI ri), .int mi, .int (bI tm)])), (ss, .inl (g.2.1 0, 10496, .inl (aI SS)))]) (fun (r0 : Option Value) (w0 : va_W) => r0 = none ∧ w0 = [(u, .inr (8, [.ref s, .ref ss, .ref la, .ref ke, .int (nI lc), .int (nI uw), .int (nI uh), .int (nI ri), .int mi, .int (bI tm)])), (ss, .inl (g.2.1 0, 10496, .inl (aI (up SS j c))))]) := by
  refine Cn.of R_Unroller [(0, .ref u), (1, .int (nI j)), (2, .int (nI c))] (by decide) rfl (Nat.le_of_ble_eq_true rfl) rfl ?_
  intro x A Q hR hXl hin C E
  subst hXl
  refine r_iload_n C 1 d_Unroller_put_0 rfl rfl ?_
  refine r_nif_lt C 20 d_Unroller_put_1 (by decide) (by omega) (fun c_1 => ?_) (fun c_1 => ?_)
  · exact absurd c_1 (by omega)
  · skip
    refine r_iload_n C 1 d_Unroller_put_4 rfl rfl ?_
    refine r_aload_n C 0 d_Unroller_put_5 rfl rfl ?_
    refine r_get C 0 1 d_Unroller_put_6 ci_Unroller fi_Unroller_9 rfl (by decide) rfl rfl ?_
    refine r_alen C 1 0 d_Unroller_put_9 rfl rfl ?_
    refine r_ncmp_ge C 20 d_Unroller_put_10 (by decide) (by omega) (by omega) (fun c_10 => ?_) (fun c_10 => ?_)
    · exact absurd c_10 (by omega)
    · skip
      refine r_aload_n C 0 d_Unroller_put_13 rfl rfl ?_
      refine r_get C 0 1 d_Unroller_put_14 ci_Unroller fi_Unroller_9 rfl (by decide) rfl rfl ?_
      refine r_iload_n C 1 d_Unroller_put_17 rfl rfl ?_
      refine r_iload_n C 2 d_Unroller_put_18 rfl rfl ?_
      refine r_nast C (ws' := [(u, .inr (8, [.ref s, .ref ss, .ref la, .ref ke, .int (nI lc), .int (nI uw), .int (nI uh), .int (nI ri), .int mi, .int (bI tm)])), (ss, .inl (g.2.1 0, 10496, .inl (aI (up SS j c))))]) 1 0 d_Unroller_put_19 rfl rfl (by omega) (by decide) rfl ?_
      refine r_vret C E d_Unroller_put_20 (by first | decide | omega | (simp only [rmk]; omega)) (by first | decide | omega | (simp only [rmk]; omega)) ?_
      exact ⟨rfl, rfl⟩

set_option maxHeartbeats 4000000 in
set_option maxRecDepth 100000 in
theorem c_Unroller_xOf (g : GG) (l : Launch) {u : Nat} {s : Nat} {ss : Nat} {la : Nat} {ke : Nat} {lc : Nat} {uw : Nat} {uh : Nat} {ri : Nat} {mi : Int32} {tm : Bool} {c : Nat}  (hw0 : 0 < uw) (hw1 : uw ≤ 16) (hc : c < 2 ^ 31) : Cn g l y_Unroller_xOf b_Unroller_xOf 2 (some .int) (rmk 0 0 0 0) [.ref u, .int (nI c)] ([(u, .inr (8, [.ref s, .ref ss, .ref la, .ref ke, .int (nI lc), .int (nI uw), .int (nI uh), .int (nI ri), .int mi, .int (bI tm)]))]) (fun (r0 : Option Value) (w0 : va_W) => r0 = some (.int (nI (c % uw))) ∧ w0 = [(u, .inr (8, [.ref s, .ref ss, .ref la, .ref ke, .int (nI lc), .int (nI uw), .int (nI uh), .int (nI ri), .int mi, .int (bI tm)]))]) := by
  refine Cn.of R_Unroller [(0, .ref u), (1, .int (nI c))] (by decide) rfl (Nat.le_of_ble_eq_true rfl) rfl ?_
  intro x A Q hR hXl hin C E
  subst hXl
  refine r_aload_n C 0 d_Unroller_xOf_0 rfl rfl ?_
  refine r_get C 0 5 d_Unroller_xOf_1 ci_Unroller fi_Unroller_28 rfl (by decide) rfl rfl ?_
  refine r_nif_le C 16 d_Unroller_xOf_4 (by decide) (by omega) (fun c_4 => ?_) (fun c_4 => ?_)
  · exact absurd c_4 (by omega)
  · skip
    refine r_iload_n C 1 d_Unroller_xOf_7 rfl rfl ?_
    refine r_aload_n C 0 d_Unroller_xOf_8 rfl rfl ?_
    refine r_get C 0 5 d_Unroller_xOf_9 ci_Unroller fi_Unroller_28 rfl (by decide) rfl rfl ?_
    refine r_nrem C d_Unroller_xOf_12 (by omega) (by omega) (by omega) ?_
    refine r_goto C 17 d_Unroller_xOf_13 (by decide) ?_
    refine r_iret C E d_Unroller_xOf_17 (by first | decide | omega | (simp only [rmk]; omega)) (by first | decide | omega | (simp only [rmk]; omega)) ?_
    exact ⟨rfl, rfl⟩

set_option maxHeartbeats 4000000 in
set_option maxRecDepth 100000 in
theorem c_Unroller_yOf (g : GG) (l : Launch) {u : Nat} {s : Nat} {ss : Nat} {la : Nat} {ke : Nat} {lc : Nat} {uw : Nat} {uh : Nat} {ri : Nat} {mi : Int32} {tm : Bool} {c : Nat}  (hw0 : 0 < uw) (hw1 : uw ≤ 16) (hc : c < 2 ^ 31) : Cn g l y_Unroller_yOf b_Unroller_yOf 2 (some .int) (rmk 0 0 0 0) [.ref u, .int (nI c)] ([(u, .inr (8, [.ref s, .ref ss, .ref la, .ref ke, .int (nI lc), .int (nI uw), .int (nI uh), .int (nI ri), .int mi, .int (bI tm)]))]) (fun (r0 : Option Value) (w0 : va_W) => r0 = some (.int (nI (c / uw))) ∧ w0 = [(u, .inr (8, [.ref s, .ref ss, .ref la, .ref ke, .int (nI lc), .int (nI uw), .int (nI uh), .int (nI ri), .int mi, .int (bI tm)]))]) := by
  refine Cn.of R_Unroller [(0, .ref u), (1, .int (nI c))] (by decide) rfl (Nat.le_of_ble_eq_true rfl) rfl ?_
  intro x A Q hR hXl hin C E
  subst hXl
  refine r_aload_n C 0 d_Unroller_yOf_0 rfl rfl ?_
  refine r_get C 0 5 d_Unroller_yOf_1 ci_Unroller fi_Unroller_28 rfl (by decide) rfl rfl ?_
  refine r_nif_le C 16 d_Unroller_yOf_4 (by decide) (by omega) (fun c_4 => ?_) (fun c_4 => ?_)
  · exact absurd c_4 (by omega)
  · skip
    refine r_iload_n C 1 d_Unroller_yOf_7 rfl rfl ?_
    refine r_aload_n C 0 d_Unroller_yOf_8 rfl rfl ?_
    refine r_get C 0 5 d_Unroller_yOf_9 ci_Unroller fi_Unroller_28 rfl (by decide) rfl rfl ?_
    refine r_ndiv C d_Unroller_yOf_12 (by omega) (by omega) (by omega) ?_
    refine r_goto C 17 d_Unroller_yOf_13 (by decide) ?_
    refine r_iret C E d_Unroller_yOf_17 (by first | decide | omega | (simp only [rmk]; omega)) (by first | decide | omega | (simp only [rmk]; omega)) ?_
    exact ⟨rfl, rfl⟩

set_option maxHeartbeats 4000000 in
set_option maxRecDepth 100000 in
theorem c_Unroller_wholePart (g : GG) (l : Launch) {c : Nat} {d : Nat}  (hc : c < 2 ^ 31) (hd : 0 < d) (hd2 : d < 2 ^ 31) : Cn g l y_Unroller_wholePart b_Unroller_wholePart 2 (some .int) (rmk 0 0 0 0) [.int (nI c), .int (nI d)] ([]) (fun (r0 : Option Value) (w0 : va_W) => r0 = some (.int (nI (c / d))) ∧ w0 = []) := by
  refine Cn.of R_Unroller [(0, .int (nI c)), (1, .int (nI d))] (by decide) rfl (Nat.le_of_ble_eq_true rfl) rfl ?_
  intro x A Q hR hXl hin C E
  subst hXl
  refine r_iload_n C 1 d_Unroller_wholePart_0 rfl rfl ?_
  refine r_nif_le C 10 d_Unroller_wholePart_1 (by decide) (by omega) (fun c_1 => ?_) (fun c_1 => ?_)
  · exact absurd c_1 (by omega)
  · skip
    refine r_iload_n C 0 d_Unroller_wholePart_4 rfl rfl ?_
    refine r_iload_n C 1 d_Unroller_wholePart_5 rfl rfl ?_
    refine r_ndiv C d_Unroller_wholePart_6 (by omega) (by omega) (by omega) ?_
    refine r_goto C 11 d_Unroller_wholePart_7 (by decide) ?_
    refine r_iret C E d_Unroller_wholePart_11 (by first | decide | omega | (simp only [rmk]; omega)) (by first | decide | omega | (simp only [rmk]; omega)) ?_
    exact ⟨rfl, rfl⟩

set_option maxHeartbeats 4000000 in
set_option maxRecDepth 100000 in
theorem c_Unroller_hasRight (g : GG) (l : Launch) {u : Nat} {s : Nat} {ss : Nat} {la : Nat} {ke : Nat} {lc : Nat} {uw : Nat} {uh : Nat} {ri : Nat} {mi : Int32} {tm : Bool} {c : Nat}  (hw0 : 0 < uw) (hw1 : uw ≤ 16) (hc : c < 2 ^ 31) : Cn g l y_Unroller_hasRight b_Unroller_hasRight 2 (some .boolean) (rmk 1 0 0 21) [.ref u, .int (nI c)] ([(u, .inr (8, [.ref s, .ref ss, .ref la, .ref ke, .int (nI lc), .int (nI uw), .int (nI uh), .int (nI ri), .int mi, .int (bI tm)]))]) (fun (r0 : Option Value) (w0 : va_W) => r0 = some (.int (bI (decide (c % uw + 1 < uw)))) ∧ w0 = [(u, .inr (8, [.ref s, .ref ss, .ref la, .ref ke, .int (nI lc), .int (nI uw), .int (nI uh), .int (nI ri), .int mi, .int (bI tm)]))]) := by
  refine Cn.of R_Unroller [(0, .ref u), (1, .int (nI c))] (by decide) rfl (Nat.le_of_ble_eq_true rfl) rfl ?_
  intro x A Q hR hXl hin C E
  subst hXl
  refine r_aload_n C 0 d_Unroller_hasRight_0 rfl rfl ?_
  refine r_iload_n C 1 d_Unroller_hasRight_1 rfl rfl ?_
  refine j_callV C (c_Unroller_xOf g (xl x) (u := u) (s := s) (ss := ss) (la := la) (ke := ke) (lc := lc) (uw := uw) (uh := uh) (ri := ri) (mi := mi) (tm := tm) (c := c) (by first | assumption | rfl | omega) (by first | assumption | rfl | omega) (by first | assumption | rfl | omega)) (Sp.of (wr := []) [0] [] rfl rfl rfl rfl (by decide)) d_Unroller_hasRight_2 lk_Unroller_164 mw_Unroller_xOf vw_Unroller_xOf (q0 := 0) rfl rfl (fit_of hR (by first | decide | (simp only [rmk]; omega)) (by first | decide | (simp only [rmk]; omega)) (by first | decide | (simp only [rmk]; omega)) (by first | decide | (simp only [rmk]; omega))) rfl (cat8 (Nat.le_of_ble_eq_true rfl)) (As := [.int (nI c)]) (rest := []) rfl (fun r_2 w_2 hp_2 => ?_)
  obtain ⟨rfl, rfl⟩ := hp_2
  refine r_after (ws' := [(u, .inr (8, [.ref s, .ref ss, .ref la, .ref ke, .int (nI lc), .int (nI uw), .int (nI uh), .int (nI ri), .int mi, .int (bI tm)]))]) (st' := [.int (nI (c % uw))]) (n1 := 0) (n2 := 0) [0] rfl rfl rfl rfl rfl ?_
  have hmod := Nat.mod_lt c hw0
  refine r_iconst C (nI 1) d_Unroller_hasRight_5 (by decide) ?_
  refine r_nadd C d_Unroller_hasRight_6 ?_
  refine r_aload_n C 0 d_Unroller_hasRight_7 rfl rfl ?_
  refine r_get C 0 5 d_Unroller_hasRight_8 ci_Unroller fi_Unroller_28 rfl (by decide) rfl rfl ?_
  refine r_ncmp_ge C 18 d_Unroller_hasRight_11 (by decide) (by omega) (by omega) (fun c_11 => ?_) (fun c_11 => ?_)
  · skip
    refine r_iconst C (nI 0) d_Unroller_hasRight_18 (by decide) ?_
    refine r_eqS (st' := [.int (bI false)]) rfl ?_
    refine r_bret C E d_Unroller_hasRight_19 (by first | decide | omega | (simp only [rmk]; omega)) (by first | decide | omega | (simp only [rmk]; omega)) ?_
    exact ⟨bsome (by symm; simp; omega), rfl⟩
  · skip
    refine r_iconst C (nI 1) d_Unroller_hasRight_14 (by decide) ?_
    refine r_goto C 19 d_Unroller_hasRight_15 (by decide) ?_
    refine r_eqS (st' := [.int (bI true)]) rfl ?_
    refine r_bret C E d_Unroller_hasRight_19 (by first | decide | omega | (simp only [rmk]; omega)) (by first | decide | omega | (simp only [rmk]; omega)) ?_
    exact ⟨bsome (by symm; simp; omega), rfl⟩

set_option maxHeartbeats 4000000 in
set_option maxRecDepth 100000 in
theorem c_Unroller_roomBehind (g : GG) (l : Launch) {d : Nat}   : Cn g l y_Unroller_roomBehind b_Unroller_roomBehind 1 (some .int) (rmk 0 0 0 0) [.int (nI d)] ([]) (fun (r0 : Option Value) (w0 : va_W) => r0 = some (.int (nI ((d + 1) * 256))) ∧ w0 = []) := by
  refine Cn.of R_Unroller [(0, .int (nI d))] (by decide) rfl (Nat.le_of_ble_eq_true rfl) rfl ?_
  intro x A Q hR hXl hin C E
  subst hXl
  refine r_iload_n C 0 d_Unroller_roomBehind_0 rfl rfl ?_
  refine r_iconst C (nI 1) d_Unroller_roomBehind_1 (by decide) ?_
  refine r_nadd C d_Unroller_roomBehind_2 ?_
  refine r_sipush C (nI 256) d_Unroller_roomBehind_3 (by decide) ?_
  refine r_nmul C d_Unroller_roomBehind_6 ?_
  refine r_iret C E d_Unroller_roomBehind_7 (by first | decide | omega | (simp only [rmk]; omega)) (by first | decide | omega | (simp only [rmk]; omega)) ?_
  exact ⟨rfl, rfl⟩

set_option maxHeartbeats 4000000 in
set_option maxRecDepth 100000 in
theorem lp_Unroller_holds_3 (g : GG) {u : Nat} {s : Nat} {ss : Nat} {la : Nat} {ke : Nat} {lc : Nat} {uw : Nat} {uh : Nat} {ri : Nat} {mi : Int32} {tm : Bool} {j : Nat} {e : Nat} {c : Nat} {SS : Nat → Nat} (hj : j ≤ e) (he : e ≤ 10496) (hc : c < 2 ^ 31) (hS : ∀ i, SS i < 2 ^ 31) {x : X0} {A : Nat → Prop} {Q : State → Prop}  (C : CX x g A R_Unroller b_Unroller_holds 5) (E : RX x g A Q (some .boolean) (fun (r0 : Option Value) (w0 : va_W) => r0 = some (.int (bI (hld SS j e c))) ∧ w0 = [(u, .inr (8, [.ref s, .ref ss, .ref la, .ref ke, .int (nI lc), .int (nI uw), .int (nI uh), .int (nI ri), .int mi, .int (bI tm)])), (ss, .inl (g.2.1 0, 10496, .inl (aI SS)))]) (rmk 1 0 0 21).cells (rmk 1 0 0 21).slots) (hR : xR x = (rmk 1 0 0 21)) : ∀ (fuel : Nat) (i : Nat) (h1 : j ≤ i) (h2 : i ≤ e) (hr : run (fun v => decide (v < c)) SS e i = run (fun v => decide (v < c)) SS e j), e - i < fuel → J x g A Q 5 ([(u, .inr (8, [.ref s, .ref ss, .ref la, .ref ke, .int (nI lc), .int (nI uw), .int (nI uh), .int (nI ri), .int mi, .int (bI tm)])), (ss, .inl (g.2.1 0, 10496, .inl (aI SS)))]) [(0, .ref u), (1, .int (nI j)), (2, .int (nI e)), (3, .int (nI c)), (4, .int (nI i))] 3 [] 0 0 := by
  intro fuel
  induction fuel with
  | zero =>
    intro i h1 h2 hr hm
    exact absurd hm (Nat.not_lt_zero _)
  | succ fuel ih =>
    intro i h1 h2 hr hm
    refine r_iload C 4 d_Unroller_holds_3 rfl ?_
    refine r_iload_n C 2 d_Unroller_holds_5 rfl rfl ?_
    refine r_ncmp_ge C 25 d_Unroller_holds_6 (by decide) (by omega) (by omega) (fun c_6 => ?_) (fun c_6 => ?_)
    · skip
      refine r_iload C 4 d_Unroller_holds_25 rfl ?_
      refine r_iload_n C 2 d_Unroller_holds_27 rfl rfl ?_
      refine r_ncmp_ge C 45 d_Unroller_holds_28 (by decide) (by omega) (by omega) (fun c_28 => ?_) (fun c_28 => ?_)
      · skip
        refine r_iconst C (nI 0) d_Unroller_holds_45 (by decide) ?_
        refine r_eqS (st' := [.int (bI false)]) rfl ?_
        refine r_bret C E d_Unroller_holds_46 (by first | decide | omega | (simp only [rmk]; omega)) (by first | decide | omega | (simp only [rmk]; omega)) ?_
        exact ⟨bsome (by rw [hld, ← hr, run_stop (by first | omega | (simp; omega))]; symm; simp; omega), rfl⟩
      · skip
        have hSi2 := hS i
        refine r_aload_n C 0 d_Unroller_holds_31 rfl rfl ?_
        refine r_iload C 4 d_Unroller_holds_32 rfl ?_
        refine j_callV C (c_Unroller_at g (xl x) (u := u) (s := s) (ss := ss) (la := la) (ke := ke) (lc := lc) (uw := uw) (uh := uh) (ri := ri) (mi := mi) (tm := tm) (j := i) (SS := SS) (by first | assumption | rfl | omega)) (Sp.of (wr := []) [0, 1] [] rfl rfl rfl rfl (by decide)) d_Unroller_holds_34 lk_Unroller_136 mw_Unroller_at vw_Unroller_at (q0 := 0) rfl rfl (fit_of hR (by first | decide | (simp only [rmk]; omega)) (by first | decide | (simp only [rmk]; omega)) (by first | decide | (simp only [rmk]; omega)) (by first | decide | (simp only [rmk]; omega))) rfl (cat8 (Nat.le_of_ble_eq_true rfl)) (As := [.int (nI i)]) (rest := []) rfl (fun r_34 w_34 hp_34 => ?_)
        obtain ⟨rfl, rfl⟩ := hp_34
        refine r_after (ws' := [(u, .inr (8, [.ref s, .ref ss, .ref la, .ref ke, .int (nI lc), .int (nI uw), .int (nI uh), .int (nI ri), .int mi, .int (bI tm)])), (ss, .inl (g.2.1 0, 10496, .inl (aI SS)))]) (st' := [.int (nI (SS i))]) (n1 := 0) (n2 := 0) [0, 1] rfl rfl rfl rfl rfl ?_
        refine r_iload_n C 3 d_Unroller_holds_37 rfl rfl ?_
        refine r_ncmp_ne C 45 d_Unroller_holds_38 (by decide) (by omega) (by omega) (fun c_38 => ?_) (fun c_38 => ?_)
        · skip
          refine r_iconst C (nI 0) d_Unroller_holds_45 (by decide) ?_
          refine r_eqS (st' := [.int (bI false)]) rfl ?_
          refine r_bret C E d_Unroller_holds_46 (by first | decide | omega | (simp only [rmk]; omega)) (by first | decide | omega | (simp only [rmk]; omega)) ?_
          exact ⟨bsome (by rw [hld, ← hr, run_stop (by first | omega | (simp; omega))]; symm; simp; omega), rfl⟩
        · skip
          refine r_iconst C (nI 1) d_Unroller_holds_41 (by decide) ?_
          refine r_goto C 46 d_Unroller_holds_42 (by decide) ?_
          refine r_eqS (st' := [.int (bI true)]) rfl ?_
          refine r_bret C E d_Unroller_holds_46 (by first | decide | omega | (simp only [rmk]; omega)) (by first | decide | omega | (simp only [rmk]; omega)) ?_
          exact ⟨bsome (by rw [hld, ← hr, run_stop (by first | omega | (simp; omega))]; symm; simp; omega), rfl⟩
    · skip
      have hSi := hS i
      refine r_aload_n C 0 d_Unroller_holds_9 rfl rfl ?_
      refine r_iload C 4 d_Unroller_holds_10 rfl ?_
      refine j_callV C (c_Unroller_at g (xl x) (u := u) (s := s) (ss := ss) (la := la) (ke := ke) (lc := lc) (uw := uw) (uh := uh) (ri := ri) (mi := mi) (tm := tm) (j := i) (SS := SS) (by first | assumption | rfl | omega)) (Sp.of (wr := []) [0, 1] [] rfl rfl rfl rfl (by decide)) d_Unroller_holds_12 lk_Unroller_136 mw_Unroller_at vw_Unroller_at (q0 := 0) rfl rfl (fit_of hR (by first | decide | (simp only [rmk]; omega)) (by first | decide | (simp only [rmk]; omega)) (by first | decide | (simp only [rmk]; omega)) (by first | decide | (simp only [rmk]; omega))) rfl (cat8 (Nat.le_of_ble_eq_true rfl)) (As := [.int (nI i)]) (rest := []) rfl (fun r_12 w_12 hp_12 => ?_)
      obtain ⟨rfl, rfl⟩ := hp_12
      refine r_after (ws' := [(u, .inr (8, [.ref s, .ref ss, .ref la, .ref ke, .int (nI lc), .int (nI uw), .int (nI uh), .int (nI ri), .int mi, .int (bI tm)])), (ss, .inl (g.2.1 0, 10496, .inl (aI SS)))]) (st' := [.int (nI (SS i))]) (n1 := 0) (n2 := 0) [0, 1] rfl rfl rfl rfl rfl ?_
      refine r_iload_n C 3 d_Unroller_holds_15 rfl rfl ?_
      refine r_ncmp_ge C 25 d_Unroller_holds_16 (by decide) (by omega) (by omega) (fun c_16 => ?_) (fun c_16 => ?_)
      · skip
        refine r_iload C 4 d_Unroller_holds_25 rfl ?_
        refine r_iload_n C 2 d_Unroller_holds_27 rfl rfl ?_
        refine r_ncmp_ge C 45 d_Unroller_holds_28 (by decide) (by omega) (by omega) (fun c_28 => ?_) (fun c_28 => ?_)
        · skip
          refine r_iconst C (nI 0) d_Unroller_holds_45 (by decide) ?_
          refine r_eqS (st' := [.int (bI false)]) rfl ?_
          refine r_bret C E d_Unroller_holds_46 (by first | decide | omega | (simp only [rmk]; omega)) (by first | decide | omega | (simp only [rmk]; omega)) ?_
          exact ⟨bsome (by rw [hld, ← hr, run_stop (by first | omega | (simp; omega))]; symm; simp; omega), rfl⟩
        · skip
          have hSi2 := hS i
          refine r_aload_n C 0 d_Unroller_holds_31 rfl rfl ?_
          refine r_iload C 4 d_Unroller_holds_32 rfl ?_
          refine j_callV C (c_Unroller_at g (xl x) (u := u) (s := s) (ss := ss) (la := la) (ke := ke) (lc := lc) (uw := uw) (uh := uh) (ri := ri) (mi := mi) (tm := tm) (j := i) (SS := SS) (by first | assumption | rfl | omega)) (Sp.of (wr := []) [0, 1] [] rfl rfl rfl rfl (by decide)) d_Unroller_holds_34 lk_Unroller_136 mw_Unroller_at vw_Unroller_at (q0 := 0) rfl rfl (fit_of hR (by first | decide | (simp only [rmk]; omega)) (by first | decide | (simp only [rmk]; omega)) (by first | decide | (simp only [rmk]; omega)) (by first | decide | (simp only [rmk]; omega))) rfl (cat8 (Nat.le_of_ble_eq_true rfl)) (As := [.int (nI i)]) (rest := []) rfl (fun r_34 w_34 hp_34 => ?_)
          obtain ⟨rfl, rfl⟩ := hp_34
          refine r_after (ws' := [(u, .inr (8, [.ref s, .ref ss, .ref la, .ref ke, .int (nI lc), .int (nI uw), .int (nI uh), .int (nI ri), .int mi, .int (bI tm)])), (ss, .inl (g.2.1 0, 10496, .inl (aI SS)))]) (st' := [.int (nI (SS i))]) (n1 := 0) (n2 := 0) [0, 1] rfl rfl rfl rfl rfl ?_
          refine r_iload_n C 3 d_Unroller_holds_37 rfl rfl ?_
          refine r_ncmp_ne C 45 d_Unroller_holds_38 (by decide) (by omega) (by omega) (fun c_38 => ?_) (fun c_38 => ?_)
          · skip
            refine r_iconst C (nI 0) d_Unroller_holds_45 (by decide) ?_
            refine r_eqS (st' := [.int (bI false)]) rfl ?_
            refine r_bret C E d_Unroller_holds_46 (by first | decide | omega | (simp only [rmk]; omega)) (by first | decide | omega | (simp only [rmk]; omega)) ?_
            exact ⟨bsome (by rw [hld, ← hr, run_stop (by first | omega | (simp; omega))]; symm; simp; omega), rfl⟩
          · skip
            refine r_iconst C (nI 1) d_Unroller_holds_41 (by decide) ?_
            refine r_goto C 46 d_Unroller_holds_42 (by decide) ?_
            refine r_eqS (st' := [.int (bI true)]) rfl ?_
            refine r_bret C E d_Unroller_holds_46 (by first | decide | omega | (simp only [rmk]; omega)) (by first | decide | omega | (simp only [rmk]; omega)) ?_
            exact ⟨bsome (by rw [hld, ← hr, run_stop (by first | omega | (simp; omega))]; symm; simp; omega), rfl⟩
      · skip
        refine r_iinc C 4 (nI (i + 1)) (lv' := [(4, .int (nI (i + 1))), (0, .ref u), (1, .int (nI j)), (2, .int (nI e)), (3, .int (nI c))]) d_Unroller_holds_19 rfl (nI_inc 1 _) (by decide) rfl ?_
        refine r_goto C 3 d_Unroller_holds_22 (by decide) ?_
        refine r_lv (lv' := [(0, .ref u), (1, .int (nI j)), (2, .int (nI e)), (3, .int (nI c)), (4, .int (nI (i + 1)))]) [1, 2, 3, 4, 0] rfl ?_
        exact ih (i + 1) (by first | assumption | rfl | omega) (by first | assumption | rfl | omega) (by rw [← hr]; exact (run_go (by omega) (by simp; omega)).symm) (by omega)
set_option maxHeartbeats 4000000 in
set_option maxRecDepth 100000 in
theorem c_Unroller_holds (g : GG) (l : Launch) {u : Nat} {s : Nat} {ss : Nat} {la : Nat} {ke : Nat} {lc : Nat} {uw : Nat} {uh : Nat} {ri : Nat} {mi : Int32} {tm : Bool} {j : Nat} {e : Nat} {c : Nat} {SS : Nat → Nat}  (hj : j ≤ e) (he : e ≤ 10496) (hc : c < 2 ^ 31) (hS : ∀ i, SS i < 2 ^ 31) : Cn g l y_Unroller_holds b_Unroller_holds 5 (some .boolean) (rmk 1 0 0 21) [.ref u, .int (nI j), .int (nI e), .int (nI c)] ([(u, .inr (8, [.ref s, .ref ss, .ref la, .ref ke, .int (nI lc), .int (nI uw), .int (nI uh), .int (nI ri), .int mi, .int (bI tm)])), (ss, .inl (g.2.1 0, 10496, .inl (aI SS)))]) (fun (r0 : Option Value) (w0 : va_W) => r0 = some (.int (bI (hld SS j e c))) ∧ w0 = [(u, .inr (8, [.ref s, .ref ss, .ref la, .ref ke, .int (nI lc), .int (nI uw), .int (nI uh), .int (nI ri), .int mi, .int (bI tm)])), (ss, .inl (g.2.1 0, 10496, .inl (aI SS)))]) := by
  refine Cn.of R_Unroller [(0, .ref u), (1, .int (nI j)), (2, .int (nI e)), (3, .int (nI c))] (by decide) rfl (Nat.le_of_ble_eq_true rfl) rfl ?_
  intro x A Q hR hXl hin C E
  subst hXl
  refine r_iload_n C 1 d_Unroller_holds_0 rfl rfl ?_
  refine r_istore C (lv' := [(4, .int (nI j)), (0, .ref u), (1, .int (nI j)), (2, .int (nI e)), (3, .int (nI c))]) d_Unroller_holds_1 (by decide) rfl ?_
  refine r_lv (lv' := [(0, .ref u), (1, .int (nI j)), (2, .int (nI e)), (3, .int (nI c)), (4, .int (nI j))]) [1, 2, 3, 4, 0] rfl ?_
  exact lp_Unroller_holds_3 g (u := u) (s := s) (ss := ss) (la := la) (ke := ke) (lc := lc) (uw := uw) (uh := uh) (ri := ri) (mi := mi) (tm := tm) (j := j) (e := e) (c := c) (SS := SS) hj he hc hS  C E hR _ j (by first | assumption | rfl | omega) (by first | assumption | rfl | omega) (by first | assumption | rfl | omega) (Nat.lt_succ_self _)

set_option maxHeartbeats 4000000 in
set_option maxRecDepth 100000 in
theorem c_Unroller_keyOf (g : GG) (l : Launch) {u : Nat} {s : Nat} {ss : Nat} {la : Nat} {ke : Nat} {lc : Nat} {uw : Nat} {uh : Nat} {ri : Nat} {mi : Int32} {tm : Bool} {y : Nat} {c : Nat} {w : Nat} {lev : Nat} {f : Option Nat} {s2 : Option Nat} {ou : Option Nat} {PP : va_W}  (hw0 : 0 < uw) (hw1 : uw ≤ 16) (hc : c < 2 ^ 31) (hY : c / uw ≤ 15) (hmem : (y, .inr (3, [.ref (g.2.2.1 w), .int (oI f), .int (oI s2), va_rf ou, .int (nI lev)])) ∈ PP) (hwv : w = 2 ∨ w = 3 ∨ w = 4 ∨ w = 10 ∨ w = 11) (hbl : w = 4 → ∃ f0 s0, f = some f0 ∧ s2 = some s0 ∧ 0 < f0 ∧ 0 < s0 ∧ f0 ≤ 16 ∧ s0 ≤ 16) : Cn g l y_Unroller_keyOf b_Unroller_keyOf 6 (some .int) (rmk 1 0 0 21) [.ref u, .ref y, .int (nI c)] ([(u, .inr (8, [.ref s, .ref ss, .ref la, .ref ke, .int (nI lc), .int (nI uw), .int (nI uh), .int (nI ri), .int mi, .int (bI tm)]))] ++ PP) (fun (r0 : Option Value) (w0 : va_W) => r0 = some (.int (nI (keyN uw w f s2 c))) ∧ w0 = [(u, .inr (8, [.ref s, .ref ss, .ref la, .ref ke, .int (nI lc), .int (nI uw), .int (nI uh), .int (nI ri), .int mi, .int (bI tm)]))] ++ PP) := by
  refine Cn.of R_Unroller [(0, .ref u), (1, .ref y), (2, .int (nI c))] (by decide) rfl (Nat.le_of_ble_eq_true rfl) rfl ?_
  intro x A Q hR hXl hin C E
  subst hXl
  refine r_aload_n C 0 d_Unroller_keyOf_0 rfl rfl ?_
  refine r_iload_n C 2 d_Unroller_keyOf_1 rfl rfl ?_
  refine j_callV C (c_Unroller_xOf g (xl x) (u := u) (s := s) (ss := ss) (la := la) (ke := ke) (lc := lc) (uw := uw) (uh := uh) (ri := ri) (mi := mi) (tm := tm) (c := c) (by first | assumption | rfl | omega) (by first | assumption | rfl | omega) (by first | assumption | rfl | omega)) (Sp.keep (Sp.of (wr := []) [0] [] rfl rfl rfl rfl (by decide)) PP) d_Unroller_keyOf_2 lk_Unroller_164 mw_Unroller_xOf vw_Unroller_xOf (q0 := 0) rfl rfl (fit_of hR (by first | decide | (simp only [rmk]; omega)) (by first | decide | (simp only [rmk]; omega)) (by first | decide | (simp only [rmk]; omega)) (by first | decide | (simp only [rmk]; omega))) rfl (cat8 (Nat.le_of_ble_eq_true rfl)) (As := [.int (nI c)]) (rest := []) rfl (fun r_2 w_2 hp_2 => ?_)
  obtain ⟨rfl, rfl⟩ := hp_2
  refine r_swap ?_
  refine r_afterP (X := [(u, .inr (8, [.ref s, .ref ss, .ref la, .ref ke, .int (nI lc), .int (nI uw), .int (nI uh), .int (nI ri), .int mi, .int (bI tm)]))]) (X' := [(u, .inr (8, [.ref s, .ref ss, .ref la, .ref ke, .int (nI lc), .int (nI uw), .int (nI uh), .int (nI ri), .int mi, .int (bI tm)]))]) (pl := PP) (st' := [.int (nI (c % uw))]) (n1 := 0) (n2 := 0) [0] rfl rfl rfl rfl rfl rfl ?_
  refine r_istore_n C (lv' := [(3, .int (nI (c % uw))), (0, .ref u), (1, .ref y), (2, .int (nI c))]) d_Unroller_keyOf_5 rfl (by decide) rfl ?_
  refine r_aload_n C 1 d_Unroller_keyOf_6 rfl rfl ?_
  refine r_iload_n C 3 d_Unroller_keyOf_7 rfl rfl ?_
  refine j_callV C (c_Unroller_yOf g (xl x) (u := u) (s := s) (ss := ss) (la := la) (ke := ke) (lc := lc) (uw := uw) (uh := uh) (ri := ri) (mi := mi) (tm := tm) (c := c) (by first | assumption | rfl | omega) (by first | assumption | rfl | omega) (by first | assumption | rfl | omega)) (Sp.keep (Sp.of (wr := []) [0] [] rfl rfl rfl rfl (by decide)) PP) d_Unroller_keyOf_8 lk_Unroller_167 mw_Unroller_yOf vw_Unroller_yOf (q0 := 0) rfl rfl (fit_of hR (by first | decide | (simp only [rmk]; omega)) (by first | decide | (simp only [rmk]; omega)) (by first | decide | (simp only [rmk]; omega)) (by first | decide | (simp only [rmk]; omega))) rfl (cat8 (Nat.le_of_ble_eq_true rfl)) (As := [.int (nI c)]) (rest := []) rfl (fun r_8 w_8 hp_8 => ?_)
  obtain ⟨rfl, rfl⟩ := hp_8
  refine r_swap ?_
  refine r_afterP (X := [(u, .inr (8, [.ref s, .ref ss, .ref la, .ref ke, .int (nI lc), .int (nI uw), .int (nI uh), .int (nI ri), .int mi, .int (bI tm)]))]) (X' := [(u, .inr (8, [.ref s, .ref ss, .ref la, .ref ke, .int (nI lc), .int (nI uw), .int (nI uh), .int (nI ri), .int mi, .int (bI tm)]))]) (pl := PP) (st' := [.int (nI (c / uw))]) (n1 := 0) (n2 := 0) [0] rfl rfl rfl rfl rfl rfl ?_
  refine r_istore C (lv' := [(4, .int (nI (c / uw))), (3, .int (nI (c % uw))), (0, .ref u), (1, .ref y), (2, .int (nI c))]) d_Unroller_keyOf_11 (by decide) rfl ?_
  have hX : c % uw ≤ 15 := by have := Nat.mod_lt c hw0; omega
  have hdia : c % uw + 15 - c / uw ≤ 30 := Nat.le_trans (Nat.sub_le _ _) (by omega)
  rcases hwv with rfl | rfl | rfl | rfl | rfl
  · skip
    obtain ⟨tW, hZW, hTW⟩ := C.2.2.2.2.2.2.2.1.2.2.2.2.1
    refine r_gets C d_Unroller_keyOf_13 hZW fs_Unroller_100 ?_
    refine r_aload_n C 3 d_Unroller_keyOf_16 rfl rfl ?_
    refine r_getM C 0 d_Unroller_keyOf_17 ci_Layer fi_Unroller_96 rfl (by decide) (List.mem_append_right _ hmem) rfl ?_
    refine j_ord C (u := 2) (by first | decide | omega) d_Unroller_keyOf_20 (fit_of hR (by first | decide | (simp only [rmk]; omega)) (by first | decide | (simp only [rmk]; omega)) (by first | decide | (simp only [rmk]; omega)) (by first | decide | (simp only [rmk]; omega))) (cat8 (Nat.le_of_ble_eq_true rfl)) ?_
    refine r_ti C d_Unroller_keyOf_23 hTW (by first | decide | omega) (by decide) ?_
    refine r_eqS (st' := [.int (wSw.getD 2 0)]) rfl ?_
    refine r_tableIn C 56 d_Unroller_keyOf_24 (by decide) (by decide) rfl (by decide) ?_
    refine r_iload C 0 d_Unroller_keyOf_56 rfl ?_
    refine r_istore C (lv' := [(5, .int (nI (c / uw))), (4, .int (nI (c / uw))), (3, .int (nI (c % uw))), (0, .ref u), (1, .ref y), (2, .int (nI c))]) d_Unroller_keyOf_58 (by decide) rfl ?_
    refine r_goto C 115 d_Unroller_keyOf_60 (by decide) ?_
    refine r_iconst C (nI 0) d_Unroller_keyOf_115 (by decide) ?_
    refine r_iload C 0 d_Unroller_keyOf_116 rfl ?_
    refine r_sipush C (nI 255) d_Unroller_keyOf_118 (by decide) ?_
    refine r_nmin C d_Unroller_keyOf_121 ml_Unroller_81 ma_min (by rw [hR]; first | decide | (simp only [rmk]; omega)) (by rw [hR]; exact Nat.le_trans (Nat.add_le_add_right (cat8 (Nat.le_of_ble_eq_true rfl)) 13) (by first | decide | (simp only [rmk]; omega))) (by rw [hR]; first | decide | (simp only [rmk]; omega)) (by rw [hR]; first | decide | (simp only [rmk]; omega)) (by omega) (by omega) ?_
    refine r_nmax C d_Unroller_keyOf_124 ml_Unroller_178 ma_max (by rw [hR]; first | decide | (simp only [rmk]; omega)) (by rw [hR]; exact Nat.le_trans (Nat.add_le_add_right (cat8 (Nat.le_of_ble_eq_true rfl)) 13) (by first | decide | (simp only [rmk]; omega))) (by rw [hR]; first | decide | (simp only [rmk]; omega)) (by rw [hR]; first | decide | (simp only [rmk]; omega)) (by omega) (by omega) ?_
    refine r_iret C E d_Unroller_keyOf_127 (by first | decide | omega | (simp only [rmk]; omega)) (by first | decide | omega | (simp only [rmk]; omega)) ?_
    exact ⟨kfin (by omega) (by first | (simp [keyN]; done) | (simp [keyN, hf, hs2]; done)), rfl⟩
  · skip
    obtain ⟨tW, hZW, hTW⟩ := C.2.2.2.2.2.2.2.1.2.2.2.2.1
    refine r_gets C d_Unroller_keyOf_13 hZW fs_Unroller_100 ?_
    refine r_aload_n C 3 d_Unroller_keyOf_16 rfl rfl ?_
    refine r_getM C 0 d_Unroller_keyOf_17 ci_Layer fi_Unroller_96 rfl (by decide) (List.mem_append_right _ hmem) rfl ?_
    refine j_ord C (u := 3) (by first | decide | omega) d_Unroller_keyOf_20 (fit_of hR (by first | decide | (simp only [rmk]; omega)) (by first | decide | (simp only [rmk]; omega)) (by first | decide | (simp only [rmk]; omega)) (by first | decide | (simp only [rmk]; omega))) (cat8 (Nat.le_of_ble_eq_true rfl)) ?_
    refine r_ti C d_Unroller_keyOf_23 hTW (by first | decide | omega) (by decide) ?_
    refine r_eqS (st' := [.int (wSw.getD 3 0)]) rfl ?_
    refine r_tableIn C 63 d_Unroller_keyOf_24 (by decide) (by decide) rfl (by decide) ?_
    refine r_iload_n C 1 d_Unroller_keyOf_63 rfl rfl ?_
    refine r_istore C (lv' := [(5, .int (nI (c % uw))), (4, .int (nI (c / uw))), (3, .int (nI (c % uw))), (0, .ref u), (1, .ref y), (2, .int (nI c))]) d_Unroller_keyOf_64 (by decide) rfl ?_
    refine r_goto C 115 d_Unroller_keyOf_66 (by decide) ?_
    refine r_iconst C (nI 0) d_Unroller_keyOf_115 (by decide) ?_
    refine r_iload C 0 d_Unroller_keyOf_116 rfl ?_
    refine r_sipush C (nI 255) d_Unroller_keyOf_118 (by decide) ?_
    refine r_nmin C d_Unroller_keyOf_121 ml_Unroller_81 ma_min (by rw [hR]; first | decide | (simp only [rmk]; omega)) (by rw [hR]; exact Nat.le_trans (Nat.add_le_add_right (cat8 (Nat.le_of_ble_eq_true rfl)) 13) (by first | decide | (simp only [rmk]; omega))) (by rw [hR]; first | decide | (simp only [rmk]; omega)) (by rw [hR]; first | decide | (simp only [rmk]; omega)) (by omega) (by omega) ?_
    refine r_nmax C d_Unroller_keyOf_124 ml_Unroller_178 ma_max (by rw [hR]; first | decide | (simp only [rmk]; omega)) (by rw [hR]; exact Nat.le_trans (Nat.add_le_add_right (cat8 (Nat.le_of_ble_eq_true rfl)) 13) (by first | decide | (simp only [rmk]; omega))) (by rw [hR]; first | decide | (simp only [rmk]; omega)) (by rw [hR]; first | decide | (simp only [rmk]; omega)) (by omega) (by omega) ?_
    refine r_iret C E d_Unroller_keyOf_127 (by first | decide | omega | (simp only [rmk]; omega)) (by first | decide | omega | (simp only [rmk]; omega)) ?_
    exact ⟨kfin (by omega) (by first | (simp [keyN]; done) | (simp [keyN, hf, hs2]; done)), rfl⟩
  · skip
    obtain ⟨f0, s20, hf, hs2, hf1, hs1, hf2, hs3⟩ := hbl rfl
    have hk1 : c % uw / f0 ≤ 15 := Nat.le_trans (Nat.div_le_self _ _) hX
    have hk2 : c / uw / s20 ≤ 15 := Nat.le_trans (Nat.div_le_self _ _) hY
    obtain ⟨tW, hZW, hTW⟩ := C.2.2.2.2.2.2.2.1.2.2.2.2.1
    refine r_gets C d_Unroller_keyOf_13 hZW fs_Unroller_100 ?_
    refine r_aload_n C 3 d_Unroller_keyOf_16 rfl rfl ?_
    refine r_getM C 0 d_Unroller_keyOf_17 ci_Layer fi_Unroller_96 rfl (by decide) (List.mem_append_right _ hmem) rfl ?_
    refine j_ord C (u := 4) (by first | decide | omega) d_Unroller_keyOf_20 (fit_of hR (by first | decide | (simp only [rmk]; omega)) (by first | decide | (simp only [rmk]; omega)) (by first | decide | (simp only [rmk]; omega)) (by first | decide | (simp only [rmk]; omega))) (cat8 (Nat.le_of_ble_eq_true rfl)) ?_
    refine r_ti C d_Unroller_keyOf_23 hTW (by first | decide | omega) (by decide) ?_
    refine r_eqS (st' := [.int (wSw.getD 4 0)]) rfl ?_
    refine r_tableOut C 92 d_Unroller_keyOf_24 (by decide) (by decide) ?_
    refine r_iload C 0 d_Unroller_keyOf_92 rfl ?_
    refine r_aload_n C 3 d_Unroller_keyOf_94 rfl rfl ?_
    refine r_getM C 2 d_Unroller_keyOf_95 ci_Layer fi_Unroller_181 rfl (by decide) (List.mem_append_right _ hmem) rfl ?_
    refine r_top (v' := nI s20) (by rw [hs2]; rfl) ?_
    refine j_callS C (c_Unroller_wholePart g (xl x) (c := c / uw) (d := s20) (by first | assumption | rfl | omega) (by first | assumption | rfl | omega) (by first | assumption | rfl | omega)) (Sp.keep (Sp.of (wr := [(u, .inr (8, [.ref s, .ref ss, .ref la, .ref ke, .int (nI lc), .int (nI uw), .int (nI uh), .int (nI ri), .int mi, .int (bI tm)]))]) [] [0] rfl rfl rfl rfl (by decide)) PP) d_Unroller_keyOf_98 lk_Unroller_184 mw_Unroller_wholePart st_Unroller_wholePart (fit_of hR (by first | decide | (simp only [rmk]; omega)) (by first | decide | (simp only [rmk]; omega)) (by first | decide | (simp only [rmk]; omega)) (by first | decide | (simp only [rmk]; omega))) rfl (cat8 (Nat.le_of_ble_eq_true rfl)) (As := [.int (nI (c / uw)), .int (nI s20)]) (rest := []) rfl (fun r_98 w_98 hp_98 => ?_)
    obtain ⟨rfl, rfl⟩ := hp_98
    refine r_swap ?_
    refine r_afterP (X := [(u, .inr (8, [.ref s, .ref ss, .ref la, .ref ke, .int (nI lc), .int (nI uw), .int (nI uh), .int (nI ri), .int mi, .int (bI tm)]))]) (X' := [(u, .inr (8, [.ref s, .ref ss, .ref la, .ref ke, .int (nI lc), .int (nI uw), .int (nI uh), .int (nI ri), .int mi, .int (bI tm)]))]) (pl := PP) (st' := [.int (nI ((c / uw) / s20))]) (n1 := 0) (n2 := 0) [0] rfl rfl rfl rfl rfl rfl ?_
    refine r_bipush C (nI 16) d_Unroller_keyOf_101 (by decide) ?_
    refine r_nmul C d_Unroller_keyOf_103 ?_
    refine r_iload_n C 1 d_Unroller_keyOf_104 rfl rfl ?_
    refine r_aload_n C 3 d_Unroller_keyOf_105 rfl rfl ?_
    refine r_getM C 1 d_Unroller_keyOf_106 ci_Layer fi_Unroller_115 rfl (by decide) (List.mem_append_right _ hmem) rfl ?_
    refine r_top (v' := nI f0) (by rw [hf]; rfl) ?_
    refine j_callS C (c_Unroller_wholePart g (xl x) (c := c % uw) (d := f0) (by first | assumption | rfl | omega) (by first | assumption | rfl | omega) (by first | assumption | rfl | omega)) (Sp.keep (Sp.of (wr := [(u, .inr (8, [.ref s, .ref ss, .ref la, .ref ke, .int (nI lc), .int (nI uw), .int (nI uh), .int (nI ri), .int mi, .int (bI tm)]))]) [] [0] rfl rfl rfl rfl (by decide)) PP) d_Unroller_keyOf_109 lk_Unroller_184 mw_Unroller_wholePart st_Unroller_wholePart (fit_of hR (by first | decide | (simp only [rmk]; omega)) (by first | decide | (simp only [rmk]; omega)) (by first | decide | (simp only [rmk]; omega)) (by first | decide | (simp only [rmk]; omega))) rfl (cat8 (Nat.le_of_ble_eq_true rfl)) (As := [.int (nI (c % uw)), .int (nI f0)]) (rest := [.int (nI (((c / uw) / s20) * 16))]) rfl (fun r_109 w_109 hp_109 => ?_)
    obtain ⟨rfl, rfl⟩ := hp_109
    refine r_swap ?_
    refine r_afterP (X := [(u, .inr (8, [.ref s, .ref ss, .ref la, .ref ke, .int (nI lc), .int (nI uw), .int (nI uh), .int (nI ri), .int mi, .int (bI tm)]))]) (X' := [(u, .inr (8, [.ref s, .ref ss, .ref la, .ref ke, .int (nI lc), .int (nI uw), .int (nI uh), .int (nI ri), .int mi, .int (bI tm)]))]) (pl := PP) (st' := [.int (nI ((c % uw) / f0)), .int (nI (((c / uw) / s20) * 16))]) (n1 := 0) (n2 := 0) [0] rfl rfl rfl rfl rfl rfl ?_
    refine r_nadd C d_Unroller_keyOf_112 ?_
    refine r_istore C (lv' := [(5, .int (nI ((((c / uw) / s20) * 16) + ((c % uw) / f0)))), (4, .int (nI (c / uw))), (3, .int (nI (c % uw))), (0, .ref u), (1, .ref y), (2, .int (nI c))]) d_Unroller_keyOf_113 (by decide) rfl ?_
    refine r_iconst C (nI 0) d_Unroller_keyOf_115 (by decide) ?_
    refine r_iload C 0 d_Unroller_keyOf_116 rfl ?_
    refine r_sipush C (nI 255) d_Unroller_keyOf_118 (by decide) ?_
    refine r_nmin C d_Unroller_keyOf_121 ml_Unroller_81 ma_min (by rw [hR]; first | decide | (simp only [rmk]; omega)) (by rw [hR]; exact Nat.le_trans (Nat.add_le_add_right (cat8 (Nat.le_of_ble_eq_true rfl)) 13) (by first | decide | (simp only [rmk]; omega))) (by rw [hR]; first | decide | (simp only [rmk]; omega)) (by rw [hR]; first | decide | (simp only [rmk]; omega)) (by omega) (by omega) ?_
    refine r_nmax C d_Unroller_keyOf_124 ml_Unroller_178 ma_max (by rw [hR]; first | decide | (simp only [rmk]; omega)) (by rw [hR]; exact Nat.le_trans (Nat.add_le_add_right (cat8 (Nat.le_of_ble_eq_true rfl)) 13) (by first | decide | (simp only [rmk]; omega))) (by rw [hR]; first | decide | (simp only [rmk]; omega)) (by rw [hR]; first | decide | (simp only [rmk]; omega)) (by omega) (by omega) ?_
    refine r_iret C E d_Unroller_keyOf_127 (by first | decide | omega | (simp only [rmk]; omega)) (by first | decide | omega | (simp only [rmk]; omega)) ?_
    exact ⟨kfin (by omega) (by first | (simp [keyN]; done) | (simp [keyN, hf, hs2]; done)), rfl⟩
  · skip
    obtain ⟨tW, hZW, hTW⟩ := C.2.2.2.2.2.2.2.1.2.2.2.2.1
    refine r_gets C d_Unroller_keyOf_13 hZW fs_Unroller_100 ?_
    refine r_aload_n C 3 d_Unroller_keyOf_16 rfl rfl ?_
    refine r_getM C 0 d_Unroller_keyOf_17 ci_Layer fi_Unroller_96 rfl (by decide) (List.mem_append_right _ hmem) rfl ?_
    refine j_ord C (u := 10) (by first | decide | omega) d_Unroller_keyOf_20 (fit_of hR (by first | decide | (simp only [rmk]; omega)) (by first | decide | (simp only [rmk]; omega)) (by first | decide | (simp only [rmk]; omega)) (by first | decide | (simp only [rmk]; omega))) (cat8 (Nat.le_of_ble_eq_true rfl)) ?_
    refine r_ti C d_Unroller_keyOf_23 hTW (by first | decide | omega) (by decide) ?_
    refine r_eqS (st' := [.int (wSw.getD 10 0)]) rfl ?_
    refine r_tableIn C 69 d_Unroller_keyOf_24 (by decide) (by decide) rfl (by decide) ?_
    refine r_iload_n C 1 d_Unroller_keyOf_69 rfl rfl ?_
    refine r_iload C 0 d_Unroller_keyOf_70 rfl ?_
    refine r_isub C d_Unroller_keyOf_72 ?_
    refine r_bipush C (nI 16) d_Unroller_keyOf_73 (by decide) ?_
    refine r_iadd C d_Unroller_keyOf_75 ?_
    refine r_iconst C (nI 1) d_Unroller_keyOf_76 (by decide) ?_
    refine r_isub C d_Unroller_keyOf_77 ?_
    refine r_top (v' := nI (c % uw + 15 - c / uw)) (dia_eq (by omega)) ?_
    refine r_istore C (lv' := [(5, .int (nI (c % uw + 15 - c / uw))), (4, .int (nI (c / uw))), (3, .int (nI (c % uw))), (0, .ref u), (1, .ref y), (2, .int (nI c))]) d_Unroller_keyOf_78 (by decide) rfl ?_
    refine r_goto C 115 d_Unroller_keyOf_80 (by decide) ?_
    refine r_iconst C (nI 0) d_Unroller_keyOf_115 (by decide) ?_
    refine r_iload C 0 d_Unroller_keyOf_116 rfl ?_
    refine r_sipush C (nI 255) d_Unroller_keyOf_118 (by decide) ?_
    refine r_nmin C d_Unroller_keyOf_121 ml_Unroller_81 ma_min (by rw [hR]; first | decide | (simp only [rmk]; omega)) (by rw [hR]; exact Nat.le_trans (Nat.add_le_add_right (cat8 (Nat.le_of_ble_eq_true rfl)) 13) (by first | decide | (simp only [rmk]; omega))) (by rw [hR]; first | decide | (simp only [rmk]; omega)) (by rw [hR]; first | decide | (simp only [rmk]; omega)) (by omega) (by omega) ?_
    refine r_nmax C d_Unroller_keyOf_124 ml_Unroller_178 ma_max (by rw [hR]; first | decide | (simp only [rmk]; omega)) (by rw [hR]; exact Nat.le_trans (Nat.add_le_add_right (cat8 (Nat.le_of_ble_eq_true rfl)) 13) (by first | decide | (simp only [rmk]; omega))) (by rw [hR]; first | decide | (simp only [rmk]; omega)) (by rw [hR]; first | decide | (simp only [rmk]; omega)) (by omega) (by omega) ?_
    refine r_iret C E d_Unroller_keyOf_127 (by first | decide | omega | (simp only [rmk]; omega)) (by first | decide | omega | (simp only [rmk]; omega)) ?_
    exact ⟨kfin (by omega) (by first | (simp [keyN]; done) | (simp [keyN, hf, hs2]; done)), rfl⟩
  · skip
    obtain ⟨tW, hZW, hTW⟩ := C.2.2.2.2.2.2.2.1.2.2.2.2.1
    refine r_gets C d_Unroller_keyOf_13 hZW fs_Unroller_100 ?_
    refine r_aload_n C 3 d_Unroller_keyOf_16 rfl rfl ?_
    refine r_getM C 0 d_Unroller_keyOf_17 ci_Layer fi_Unroller_96 rfl (by decide) (List.mem_append_right _ hmem) rfl ?_
    refine j_ord C (u := 11) (by first | decide | omega) d_Unroller_keyOf_20 (fit_of hR (by first | decide | (simp only [rmk]; omega)) (by first | decide | (simp only [rmk]; omega)) (by first | decide | (simp only [rmk]; omega)) (by first | decide | (simp only [rmk]; omega))) (cat8 (Nat.le_of_ble_eq_true rfl)) ?_
    refine r_ti C d_Unroller_keyOf_23 hTW (by first | decide | omega) (by decide) ?_
    refine r_eqS (st' := [.int (wSw.getD 11 0)]) rfl ?_
    refine r_tableIn C 83 d_Unroller_keyOf_24 (by decide) (by decide) rfl (by decide) ?_
    refine r_iload_n C 1 d_Unroller_keyOf_83 rfl rfl ?_
    refine r_iload C 0 d_Unroller_keyOf_84 rfl ?_
    refine r_nadd C d_Unroller_keyOf_86 ?_
    refine r_istore C (lv' := [(5, .int (nI ((c % uw) + (c / uw)))), (4, .int (nI (c / uw))), (3, .int (nI (c % uw))), (0, .ref u), (1, .ref y), (2, .int (nI c))]) d_Unroller_keyOf_87 (by decide) rfl ?_
    refine r_goto C 115 d_Unroller_keyOf_89 (by decide) ?_
    refine r_iconst C (nI 0) d_Unroller_keyOf_115 (by decide) ?_
    refine r_iload C 0 d_Unroller_keyOf_116 rfl ?_
    refine r_sipush C (nI 255) d_Unroller_keyOf_118 (by decide) ?_
    refine r_nmin C d_Unroller_keyOf_121 ml_Unroller_81 ma_min (by rw [hR]; first | decide | (simp only [rmk]; omega)) (by rw [hR]; exact Nat.le_trans (Nat.add_le_add_right (cat8 (Nat.le_of_ble_eq_true rfl)) 13) (by first | decide | (simp only [rmk]; omega))) (by rw [hR]; first | decide | (simp only [rmk]; omega)) (by rw [hR]; first | decide | (simp only [rmk]; omega)) (by omega) (by omega) ?_
    refine r_nmax C d_Unroller_keyOf_124 ml_Unroller_178 ma_max (by rw [hR]; first | decide | (simp only [rmk]; omega)) (by rw [hR]; exact Nat.le_trans (Nat.add_le_add_right (cat8 (Nat.le_of_ble_eq_true rfl)) 13) (by first | decide | (simp only [rmk]; omega))) (by rw [hR]; first | decide | (simp only [rmk]; omega)) (by rw [hR]; first | decide | (simp only [rmk]; omega)) (by omega) (by omega) ?_
    refine r_iret C E d_Unroller_keyOf_127 (by first | decide | omega | (simp only [rmk]; omega)) (by first | decide | omega | (simp only [rmk]; omega)) ?_
    exact ⟨kfin (by omega) (by first | (simp [keyN]; done) | (simp [keyN, hf, hs2]; done)), rfl⟩

set_option maxHeartbeats 4000000 in
set_option maxRecDepth 100000 in
theorem c_Unroller_passes (g : GG) (l : Launch) {u : Nat} {s : Nat} {ss : Nat} {la : Nat} {ke : Nat} {lc : Nat} {uw : Nat} {uh : Nat} {ri : Nat} {mi : Int32} {tm : Bool} {c : Nat} {w : Nat}  (hw0 : 0 < uw) (hw1 : uw ≤ 16) (hc : c < 2 ^ 31) (hh0 : 0 < uh) (hh1 : uh ≤ 16) (hY : c / uw ≤ 15) (hwv : w = 12 ∨ w = 13 ∨ w = 14 ∨ w = 15) : Cn g l y_Unroller_passes b_Unroller_passes 7 (some .boolean) (rmk 1 0 0 21) [.ref u, .ref (g.2.2.1 w), .int (nI c)] ([(u, .inr (8, [.ref s, .ref ss, .ref la, .ref ke, .int (nI lc), .int (nI uw), .int (nI uh), .int (nI ri), .int mi, .int (bI tm)]))]) (fun (r0 : Option Value) (w0 : va_W) => r0 = some (.int (bI (passB uw uh w c))) ∧ w0 = [(u, .inr (8, [.ref s, .ref ss, .ref la, .ref ke, .int (nI lc), .int (nI uw), .int (nI uh), .int (nI ri), .int mi, .int (bI tm)]))]) := by
  refine Cn.of R_Unroller [(0, .ref u), (1, .ref (g.2.2.1 w)), (2, .int (nI c))] (by decide) rfl (Nat.le_of_ble_eq_true rfl) rfl ?_
  intro x A Q hR hXl hin C E
  subst hXl
  have hX : c % uw ≤ 15 := by have := Nat.mod_lt c hw0; omega
  rcases hwv with rfl | rfl | rfl | rfl
  · skip
    refine r_aload_n C 0 d_Unroller_passes_0 rfl rfl ?_
    refine r_iload_n C 2 d_Unroller_passes_1 rfl rfl ?_
    refine j_callV C (c_Unroller_xOf g (xl x) (u := u) (s := s) (ss := ss) (la := la) (ke := ke) (lc := lc) (uw := uw) (uh := uh) (ri := ri) (mi := mi) (tm := tm) (c := c) (by first | assumption | rfl | omega) (by first | assumption | rfl | omega) (by first | assumption | rfl | omega)) (Sp.of (wr := []) [0] [] rfl rfl rfl rfl (by decide)) d_Unroller_passes_2 lk_Unroller_164 mw_Unroller_xOf vw_Unroller_xOf (q0 := 0) rfl rfl (fit_of hR (by first | decide | (simp only [rmk]; omega)) (by first | decide | (simp only [rmk]; omega)) (by first | decide | (simp only [rmk]; omega)) (by first | decide | (simp only [rmk]; omega))) rfl (cat8 (Nat.le_of_ble_eq_true rfl)) (As := [.int (nI c)]) (rest := []) rfl (fun r_2 w_2 hp_2 => ?_)
    obtain ⟨rfl, rfl⟩ := hp_2
    refine r_after (ws' := [(u, .inr (8, [.ref s, .ref ss, .ref la, .ref ke, .int (nI lc), .int (nI uw), .int (nI uh), .int (nI ri), .int mi, .int (bI tm)]))]) (st' := [.int (nI (c % uw))]) (n1 := 0) (n2 := 0) [0] rfl rfl rfl rfl rfl ?_
    refine r_istore_n C (lv' := [(3, .int (nI (c % uw))), (0, .ref u), (1, .ref (g.2.2.1 12)), (2, .int (nI c))]) d_Unroller_passes_5 rfl (by decide) rfl ?_
    refine r_aload_n C 1 d_Unroller_passes_6 rfl rfl ?_
    refine r_iload_n C 3 d_Unroller_passes_7 rfl rfl ?_
    refine j_callV C (c_Unroller_yOf g (xl x) (u := u) (s := s) (ss := ss) (la := la) (ke := ke) (lc := lc) (uw := uw) (uh := uh) (ri := ri) (mi := mi) (tm := tm) (c := c) (by first | assumption | rfl | omega) (by first | assumption | rfl | omega) (by first | assumption | rfl | omega)) (Sp.of (wr := []) [0] [] rfl rfl rfl rfl (by decide)) d_Unroller_passes_8 lk_Unroller_167 mw_Unroller_yOf vw_Unroller_yOf (q0 := 0) rfl rfl (fit_of hR (by first | decide | (simp only [rmk]; omega)) (by first | decide | (simp only [rmk]; omega)) (by first | decide | (simp only [rmk]; omega)) (by first | decide | (simp only [rmk]; omega))) rfl (cat8 (Nat.le_of_ble_eq_true rfl)) (As := [.int (nI c)]) (rest := []) rfl (fun r_8 w_8 hp_8 => ?_)
    obtain ⟨rfl, rfl⟩ := hp_8
    refine r_after (ws' := [(u, .inr (8, [.ref s, .ref ss, .ref la, .ref ke, .int (nI lc), .int (nI uw), .int (nI uh), .int (nI ri), .int mi, .int (bI tm)]))]) (st' := [.int (nI (c / uw))]) (n1 := 0) (n2 := 0) [0] rfl rfl rfl rfl rfl ?_
    refine r_istore C (lv' := [(4, .int (nI (c / uw))), (3, .int (nI (c % uw))), (0, .ref u), (1, .ref (g.2.2.1 12)), (2, .int (nI c))]) d_Unroller_passes_11 (by decide) rfl ?_
    refine r_iload_n C 1 d_Unroller_passes_13 rfl rfl ?_
    refine r_iload C 0 d_Unroller_passes_14 rfl ?_
    refine r_nadd C d_Unroller_passes_16 ?_
    refine r_iconst C (nI 2) d_Unroller_passes_17 (by decide) ?_
    refine r_nrem C d_Unroller_passes_18 (by omega) (by omega) (by omega) ?_
    refine r_iconst C (nI 1) d_Unroller_passes_19 (by decide) ?_
    refine r_ncmp_ne C 27 d_Unroller_passes_20 (by decide) (by omega) (by omega) (fun c_20 => ?_) (fun c_20 => ?_)
    · skip
      refine r_iconst C (nI 0) d_Unroller_passes_27 (by decide) ?_
      refine r_istore C (lv' := [(5, .int (nI 0)), (4, .int (nI (c / uw))), (3, .int (nI (c % uw))), (0, .ref u), (1, .ref (g.2.2.1 12)), (2, .int (nI c))]) d_Unroller_passes_28 (by decide) rfl ?_
      refine r_iload_n C 2 d_Unroller_passes_30 rfl rfl ?_
      refine r_nif_eq C 60 d_Unroller_passes_31 (by decide) (by omega) (fun c_31 => ?_) (fun c_31 => ?_)
      · skip
        refine r_iconst C (nI 1) d_Unroller_passes_60 (by decide) ?_
        refine r_goto C 65 d_Unroller_passes_61 (by decide) ?_
        refine r_istore C (lv' := [(6, .int (nI 1)), (5, .int (nI 0)), (4, .int (nI (c / uw))), (3, .int (nI (c % uw))), (0, .ref u), (1, .ref (g.2.2.1 12)), (2, .int (nI c))]) d_Unroller_passes_65 (by decide) rfl ?_
        obtain ⟨tW, hZW, hTW⟩ := C.2.2.2.2.2.2.2.1.2.2.2.2.1
        refine r_gets C d_Unroller_passes_67 hZW fs_Unroller_100 ?_
        refine r_aload_n C 5 d_Unroller_passes_70 rfl rfl ?_
        refine j_ord C (u := 12) (by first | decide | omega) d_Unroller_passes_71 (fit_of hR (by first | decide | (simp only [rmk]; omega)) (by first | decide | (simp only [rmk]; omega)) (by first | decide | (simp only [rmk]; omega)) (by first | decide | (simp only [rmk]; omega))) (cat8 (Nat.le_of_ble_eq_true rfl)) ?_
        refine r_ti C d_Unroller_passes_74 hTW (by first | decide | omega) (by decide) ?_
        refine r_eqS (st' := [.int (wSw.getD 12 0)]) rfl ?_
        refine r_tableIn C 100 d_Unroller_passes_75 (by decide) (by decide) rfl (by decide) ?_
        refine r_iload C 1 d_Unroller_passes_100 rfl ?_
        refine r_eqS (st' := [.int (bI false)]) rfl ?_
        refine r_bret C E d_Unroller_passes_102 (by first | decide | omega | (simp only [rmk]; omega)) (by first | decide | omega | (simp only [rmk]; omega)) ?_
        exact ⟨bsome (by symm; show decide ((c % uw + c / uw) % 2 = 1) = false; exact decide_eq_false (by omega)), rfl⟩
      · skip
        refine r_iload C 1 d_Unroller_passes_34 rfl ?_
        refine r_nif_eq C 60 d_Unroller_passes_36 (by decide) (by omega) (fun c_36 => ?_) (fun c_36 => ?_)
        · skip
          refine r_iconst C (nI 1) d_Unroller_passes_60 (by decide) ?_
          refine r_goto C 65 d_Unroller_passes_61 (by decide) ?_
          refine r_istore C (lv' := [(6, .int (nI 1)), (5, .int (nI 0)), (4, .int (nI (c / uw))), (3, .int (nI (c % uw))), (0, .ref u), (1, .ref (g.2.2.1 12)), (2, .int (nI c))]) d_Unroller_passes_65 (by decide) rfl ?_
          obtain ⟨tW, hZW, hTW⟩ := C.2.2.2.2.2.2.2.1.2.2.2.2.1
          refine r_gets C d_Unroller_passes_67 hZW fs_Unroller_100 ?_
          refine r_aload_n C 5 d_Unroller_passes_70 rfl rfl ?_
          refine j_ord C (u := 12) (by first | decide | omega) d_Unroller_passes_71 (fit_of hR (by first | decide | (simp only [rmk]; omega)) (by first | decide | (simp only [rmk]; omega)) (by first | decide | (simp only [rmk]; omega)) (by first | decide | (simp only [rmk]; omega))) (cat8 (Nat.le_of_ble_eq_true rfl)) ?_
          refine r_ti C d_Unroller_passes_74 hTW (by first | decide | omega) (by decide) ?_
          refine r_eqS (st' := [.int (wSw.getD 12 0)]) rfl ?_
          refine r_tableIn C 100 d_Unroller_passes_75 (by decide) (by decide) rfl (by decide) ?_
          refine r_iload C 1 d_Unroller_passes_100 rfl ?_
          refine r_eqS (st' := [.int (bI false)]) rfl ?_
          refine r_bret C E d_Unroller_passes_102 (by first | decide | omega | (simp only [rmk]; omega)) (by first | decide | omega | (simp only [rmk]; omega)) ?_
          exact ⟨bsome (by symm; show decide ((c % uw + c / uw) % 2 = 1) = false; exact decide_eq_false (by omega)), rfl⟩
        · skip
          refine r_iload_n C 2 d_Unroller_passes_39 rfl rfl ?_
          refine r_aload_n C 3 d_Unroller_passes_40 rfl rfl ?_
          refine r_get C 0 5 d_Unroller_passes_41 ci_Unroller fi_Unroller_28 rfl (by decide) rfl rfl ?_
          refine r_iconst C (nI 1) d_Unroller_passes_44 (by decide) ?_
          refine r_nsub C d_Unroller_passes_45 (by omega) ?_
          refine r_ncmp_eq C 60 d_Unroller_passes_46 (by decide) (by omega) (by omega) (fun c_46 => ?_) (fun c_46 => ?_)
          · skip
            refine r_iconst C (nI 1) d_Unroller_passes_60 (by decide) ?_
            refine r_goto C 65 d_Unroller_passes_61 (by decide) ?_
            refine r_istore C (lv' := [(6, .int (nI 1)), (5, .int (nI 0)), (4, .int (nI (c / uw))), (3, .int (nI (c % uw))), (0, .ref u), (1, .ref (g.2.2.1 12)), (2, .int (nI c))]) d_Unroller_passes_65 (by decide) rfl ?_
            obtain ⟨tW, hZW, hTW⟩ := C.2.2.2.2.2.2.2.1.2.2.2.2.1
            refine r_gets C d_Unroller_passes_67 hZW fs_Unroller_100 ?_
            refine r_aload_n C 5 d_Unroller_passes_70 rfl rfl ?_
            refine j_ord C (u := 12) (by first | decide | omega) d_Unroller_passes_71 (fit_of hR (by first | decide | (simp only [rmk]; omega)) (by first | decide | (simp only [rmk]; omega)) (by first | decide | (simp only [rmk]; omega)) (by first | decide | (simp only [rmk]; omega))) (cat8 (Nat.le_of_ble_eq_true rfl)) ?_
            refine r_ti C d_Unroller_passes_74 hTW (by first | decide | omega) (by decide) ?_
            refine r_eqS (st' := [.int (wSw.getD 12 0)]) rfl ?_
            refine r_tableIn C 100 d_Unroller_passes_75 (by decide) (by decide) rfl (by decide) ?_
            refine r_iload C 1 d_Unroller_passes_100 rfl ?_
            refine r_eqS (st' := [.int (bI false)]) rfl ?_
            refine r_bret C E d_Unroller_passes_102 (by first | decide | omega | (simp only [rmk]; omega)) (by first | decide | omega | (simp only [rmk]; omega)) ?_
            exact ⟨bsome (by symm; show decide ((c % uw + c / uw) % 2 = 1) = false; exact decide_eq_false (by omega)), rfl⟩
          · skip
            refine r_iload C 1 d_Unroller_passes_49 rfl ?_
            refine r_aload_n C 3 d_Unroller_passes_51 rfl rfl ?_
            refine r_get C 0 6 d_Unroller_passes_52 ci_Unroller fi_Unroller_32 rfl (by decide) rfl rfl ?_
            refine r_iconst C (nI 1) d_Unroller_passes_55 (by decide) ?_
            refine r_nsub C d_Unroller_passes_56 (by omega) ?_
            refine r_ncmp_ne C 64 d_Unroller_passes_57 (by decide) (by omega) (by omega) (fun c_57 => ?_) (fun c_57 => ?_)
            · skip
              refine r_iconst C (nI 0) d_Unroller_passes_64 (by decide) ?_
              refine r_istore C (lv' := [(6, .int (nI 0)), (5, .int (nI 0)), (4, .int (nI (c / uw))), (3, .int (nI (c % uw))), (0, .ref u), (1, .ref (g.2.2.1 12)), (2, .int (nI c))]) d_Unroller_passes_65 (by decide) rfl ?_
              obtain ⟨tW, hZW, hTW⟩ := C.2.2.2.2.2.2.2.1.2.2.2.2.1
              refine r_gets C d_Unroller_passes_67 hZW fs_Unroller_100 ?_
              refine r_aload_n C 5 d_Unroller_passes_70 rfl rfl ?_
              refine j_ord C (u := 12) (by first | decide | omega) d_Unroller_passes_71 (fit_of hR (by first | decide | (simp only [rmk]; omega)) (by first | decide | (simp only [rmk]; omega)) (by first | decide | (simp only [rmk]; omega)) (by first | decide | (simp only [rmk]; omega))) (cat8 (Nat.le_of_ble_eq_true rfl)) ?_
              refine r_ti C d_Unroller_passes_74 hTW (by first | decide | omega) (by decide) ?_
              refine r_eqS (st' := [.int (wSw.getD 12 0)]) rfl ?_
              refine r_tableIn C 100 d_Unroller_passes_75 (by decide) (by decide) rfl (by decide) ?_
              refine r_iload C 1 d_Unroller_passes_100 rfl ?_
              refine r_eqS (st' := [.int (bI false)]) rfl ?_
              refine r_bret C E d_Unroller_passes_102 (by first | decide | omega | (simp only [rmk]; omega)) (by first | decide | omega | (simp only [rmk]; omega)) ?_
              exact ⟨bsome (by symm; show decide ((c % uw + c / uw) % 2 = 1) = false; exact decide_eq_false (by omega)), rfl⟩
            · skip
              refine r_iconst C (nI 1) d_Unroller_passes_60 (by decide) ?_
              refine r_goto C 65 d_Unroller_passes_61 (by decide) ?_
              refine r_istore C (lv' := [(6, .int (nI 1)), (5, .int (nI 0)), (4, .int (nI (c / uw))), (3, .int (nI (c % uw))), (0, .ref u), (1, .ref (g.2.2.1 12)), (2, .int (nI c))]) d_Unroller_passes_65 (by decide) rfl ?_
              obtain ⟨tW, hZW, hTW⟩ := C.2.2.2.2.2.2.2.1.2.2.2.2.1
              refine r_gets C d_Unroller_passes_67 hZW fs_Unroller_100 ?_
              refine r_aload_n C 5 d_Unroller_passes_70 rfl rfl ?_
              refine j_ord C (u := 12) (by first | decide | omega) d_Unroller_passes_71 (fit_of hR (by first | decide | (simp only [rmk]; omega)) (by first | decide | (simp only [rmk]; omega)) (by first | decide | (simp only [rmk]; omega)) (by first | decide | (simp only [rmk]; omega))) (cat8 (Nat.le_of_ble_eq_true rfl)) ?_
              refine r_ti C d_Unroller_passes_74 hTW (by first | decide | omega) (by decide) ?_
              refine r_eqS (st' := [.int (wSw.getD 12 0)]) rfl ?_
              refine r_tableIn C 100 d_Unroller_passes_75 (by decide) (by decide) rfl (by decide) ?_
              refine r_iload C 1 d_Unroller_passes_100 rfl ?_
              refine r_eqS (st' := [.int (bI false)]) rfl ?_
              refine r_bret C E d_Unroller_passes_102 (by first | decide | omega | (simp only [rmk]; omega)) (by first | decide | omega | (simp only [rmk]; omega)) ?_
              exact ⟨bsome (by symm; show decide ((c % uw + c / uw) % 2 = 1) = false; exact decide_eq_false (by omega)), rfl⟩
    · skip
      refine r_iconst C (nI 1) d_Unroller_passes_23 (by decide) ?_
      refine r_goto C 28 d_Unroller_passes_24 (by decide) ?_
      refine r_istore C (lv' := [(5, .int (nI 1)), (4, .int (nI (c / uw))), (3, .int (nI (c % uw))), (0, .ref u), (1, .ref (g.2.2.1 12)), (2, .int (nI c))]) d_Unroller_passes_28 (by decide) rfl ?_
      refine r_iload_n C 2 d_Unroller_passes_30 rfl rfl ?_
      refine r_nif_eq C 60 d_Unroller_passes_31 (by decide) (by omega) (fun c_31 => ?_) (fun c_31 => ?_)
      · skip
        refine r_iconst C (nI 1) d_Unroller_passes_60 (by decide) ?_
        refine r_goto C 65 d_Unroller_passes_61 (by decide) ?_
        refine r_istore C (lv' := [(6, .int (nI 1)), (5, .int (nI 1)), (4, .int (nI (c / uw))), (3, .int (nI (c % uw))), (0, .ref u), (1, .ref (g.2.2.1 12)), (2, .int (nI c))]) d_Unroller_passes_65 (by decide) rfl ?_
        obtain ⟨tW, hZW, hTW⟩ := C.2.2.2.2.2.2.2.1.2.2.2.2.1
        refine r_gets C d_Unroller_passes_67 hZW fs_Unroller_100 ?_
        refine r_aload_n C 5 d_Unroller_passes_70 rfl rfl ?_
        refine j_ord C (u := 12) (by first | decide | omega) d_Unroller_passes_71 (fit_of hR (by first | decide | (simp only [rmk]; omega)) (by first | decide | (simp only [rmk]; omega)) (by first | decide | (simp only [rmk]; omega)) (by first | decide | (simp only [rmk]; omega))) (cat8 (Nat.le_of_ble_eq_true rfl)) ?_
        refine r_ti C d_Unroller_passes_74 hTW (by first | decide | omega) (by decide) ?_
        refine r_eqS (st' := [.int (wSw.getD 12 0)]) rfl ?_
        refine r_tableIn C 100 d_Unroller_passes_75 (by decide) (by decide) rfl (by decide) ?_
        refine r_iload C 1 d_Unroller_passes_100 rfl ?_
        refine r_eqS (st' := [.int (bI true)]) rfl ?_
        refine r_bret C E d_Unroller_passes_102 (by first | decide | omega | (simp only [rmk]; omega)) (by first | decide | omega | (simp only [rmk]; omega)) ?_
        exact ⟨bsome (by symm; show decide ((c % uw + c / uw) % 2 = 1) = true; exact decide_eq_true (by omega)), rfl⟩
      · skip
        refine r_iload C 1 d_Unroller_passes_34 rfl ?_
        refine r_nif_eq C 60 d_Unroller_passes_36 (by decide) (by omega) (fun c_36 => ?_) (fun c_36 => ?_)
        · skip
          refine r_iconst C (nI 1) d_Unroller_passes_60 (by decide) ?_
          refine r_goto C 65 d_Unroller_passes_61 (by decide) ?_
          refine r_istore C (lv' := [(6, .int (nI 1)), (5, .int (nI 1)), (4, .int (nI (c / uw))), (3, .int (nI (c % uw))), (0, .ref u), (1, .ref (g.2.2.1 12)), (2, .int (nI c))]) d_Unroller_passes_65 (by decide) rfl ?_
          obtain ⟨tW, hZW, hTW⟩ := C.2.2.2.2.2.2.2.1.2.2.2.2.1
          refine r_gets C d_Unroller_passes_67 hZW fs_Unroller_100 ?_
          refine r_aload_n C 5 d_Unroller_passes_70 rfl rfl ?_
          refine j_ord C (u := 12) (by first | decide | omega) d_Unroller_passes_71 (fit_of hR (by first | decide | (simp only [rmk]; omega)) (by first | decide | (simp only [rmk]; omega)) (by first | decide | (simp only [rmk]; omega)) (by first | decide | (simp only [rmk]; omega))) (cat8 (Nat.le_of_ble_eq_true rfl)) ?_
          refine r_ti C d_Unroller_passes_74 hTW (by first | decide | omega) (by decide) ?_
          refine r_eqS (st' := [.int (wSw.getD 12 0)]) rfl ?_
          refine r_tableIn C 100 d_Unroller_passes_75 (by decide) (by decide) rfl (by decide) ?_
          refine r_iload C 1 d_Unroller_passes_100 rfl ?_
          refine r_eqS (st' := [.int (bI true)]) rfl ?_
          refine r_bret C E d_Unroller_passes_102 (by first | decide | omega | (simp only [rmk]; omega)) (by first | decide | omega | (simp only [rmk]; omega)) ?_
          exact ⟨bsome (by symm; show decide ((c % uw + c / uw) % 2 = 1) = true; exact decide_eq_true (by omega)), rfl⟩
        · skip
          refine r_iload_n C 2 d_Unroller_passes_39 rfl rfl ?_
          refine r_aload_n C 3 d_Unroller_passes_40 rfl rfl ?_
          refine r_get C 0 5 d_Unroller_passes_41 ci_Unroller fi_Unroller_28 rfl (by decide) rfl rfl ?_
          refine r_iconst C (nI 1) d_Unroller_passes_44 (by decide) ?_
          refine r_nsub C d_Unroller_passes_45 (by omega) ?_
          refine r_ncmp_eq C 60 d_Unroller_passes_46 (by decide) (by omega) (by omega) (fun c_46 => ?_) (fun c_46 => ?_)
          · skip
            refine r_iconst C (nI 1) d_Unroller_passes_60 (by decide) ?_
            refine r_goto C 65 d_Unroller_passes_61 (by decide) ?_
            refine r_istore C (lv' := [(6, .int (nI 1)), (5, .int (nI 1)), (4, .int (nI (c / uw))), (3, .int (nI (c % uw))), (0, .ref u), (1, .ref (g.2.2.1 12)), (2, .int (nI c))]) d_Unroller_passes_65 (by decide) rfl ?_
            obtain ⟨tW, hZW, hTW⟩ := C.2.2.2.2.2.2.2.1.2.2.2.2.1
            refine r_gets C d_Unroller_passes_67 hZW fs_Unroller_100 ?_
            refine r_aload_n C 5 d_Unroller_passes_70 rfl rfl ?_
            refine j_ord C (u := 12) (by first | decide | omega) d_Unroller_passes_71 (fit_of hR (by first | decide | (simp only [rmk]; omega)) (by first | decide | (simp only [rmk]; omega)) (by first | decide | (simp only [rmk]; omega)) (by first | decide | (simp only [rmk]; omega))) (cat8 (Nat.le_of_ble_eq_true rfl)) ?_
            refine r_ti C d_Unroller_passes_74 hTW (by first | decide | omega) (by decide) ?_
            refine r_eqS (st' := [.int (wSw.getD 12 0)]) rfl ?_
            refine r_tableIn C 100 d_Unroller_passes_75 (by decide) (by decide) rfl (by decide) ?_
            refine r_iload C 1 d_Unroller_passes_100 rfl ?_
            refine r_eqS (st' := [.int (bI true)]) rfl ?_
            refine r_bret C E d_Unroller_passes_102 (by first | decide | omega | (simp only [rmk]; omega)) (by first | decide | omega | (simp only [rmk]; omega)) ?_
            exact ⟨bsome (by symm; show decide ((c % uw + c / uw) % 2 = 1) = true; exact decide_eq_true (by omega)), rfl⟩
          · skip
            refine r_iload C 1 d_Unroller_passes_49 rfl ?_
            refine r_aload_n C 3 d_Unroller_passes_51 rfl rfl ?_
            refine r_get C 0 6 d_Unroller_passes_52 ci_Unroller fi_Unroller_32 rfl (by decide) rfl rfl ?_
            refine r_iconst C (nI 1) d_Unroller_passes_55 (by decide) ?_
            refine r_nsub C d_Unroller_passes_56 (by omega) ?_
            refine r_ncmp_ne C 64 d_Unroller_passes_57 (by decide) (by omega) (by omega) (fun c_57 => ?_) (fun c_57 => ?_)
            · skip
              refine r_iconst C (nI 0) d_Unroller_passes_64 (by decide) ?_
              refine r_istore C (lv' := [(6, .int (nI 0)), (5, .int (nI 1)), (4, .int (nI (c / uw))), (3, .int (nI (c % uw))), (0, .ref u), (1, .ref (g.2.2.1 12)), (2, .int (nI c))]) d_Unroller_passes_65 (by decide) rfl ?_
              obtain ⟨tW, hZW, hTW⟩ := C.2.2.2.2.2.2.2.1.2.2.2.2.1
              refine r_gets C d_Unroller_passes_67 hZW fs_Unroller_100 ?_
              refine r_aload_n C 5 d_Unroller_passes_70 rfl rfl ?_
              refine j_ord C (u := 12) (by first | decide | omega) d_Unroller_passes_71 (fit_of hR (by first | decide | (simp only [rmk]; omega)) (by first | decide | (simp only [rmk]; omega)) (by first | decide | (simp only [rmk]; omega)) (by first | decide | (simp only [rmk]; omega))) (cat8 (Nat.le_of_ble_eq_true rfl)) ?_
              refine r_ti C d_Unroller_passes_74 hTW (by first | decide | omega) (by decide) ?_
              refine r_eqS (st' := [.int (wSw.getD 12 0)]) rfl ?_
              refine r_tableIn C 100 d_Unroller_passes_75 (by decide) (by decide) rfl (by decide) ?_
              refine r_iload C 1 d_Unroller_passes_100 rfl ?_
              refine r_eqS (st' := [.int (bI true)]) rfl ?_
              refine r_bret C E d_Unroller_passes_102 (by first | decide | omega | (simp only [rmk]; omega)) (by first | decide | omega | (simp only [rmk]; omega)) ?_
              exact ⟨bsome (by symm; show decide ((c % uw + c / uw) % 2 = 1) = true; exact decide_eq_true (by omega)), rfl⟩
            · skip
              refine r_iconst C (nI 1) d_Unroller_passes_60 (by decide) ?_
              refine r_goto C 65 d_Unroller_passes_61 (by decide) ?_
              refine r_istore C (lv' := [(6, .int (nI 1)), (5, .int (nI 1)), (4, .int (nI (c / uw))), (3, .int (nI (c % uw))), (0, .ref u), (1, .ref (g.2.2.1 12)), (2, .int (nI c))]) d_Unroller_passes_65 (by decide) rfl ?_
              obtain ⟨tW, hZW, hTW⟩ := C.2.2.2.2.2.2.2.1.2.2.2.2.1
              refine r_gets C d_Unroller_passes_67 hZW fs_Unroller_100 ?_
              refine r_aload_n C 5 d_Unroller_passes_70 rfl rfl ?_
              refine j_ord C (u := 12) (by first | decide | omega) d_Unroller_passes_71 (fit_of hR (by first | decide | (simp only [rmk]; omega)) (by first | decide | (simp only [rmk]; omega)) (by first | decide | (simp only [rmk]; omega)) (by first | decide | (simp only [rmk]; omega))) (cat8 (Nat.le_of_ble_eq_true rfl)) ?_
              refine r_ti C d_Unroller_passes_74 hTW (by first | decide | omega) (by decide) ?_
              refine r_eqS (st' := [.int (wSw.getD 12 0)]) rfl ?_
              refine r_tableIn C 100 d_Unroller_passes_75 (by decide) (by decide) rfl (by decide) ?_
              refine r_iload C 1 d_Unroller_passes_100 rfl ?_
              refine r_eqS (st' := [.int (bI true)]) rfl ?_
              refine r_bret C E d_Unroller_passes_102 (by first | decide | omega | (simp only [rmk]; omega)) (by first | decide | omega | (simp only [rmk]; omega)) ?_
              exact ⟨bsome (by symm; show decide ((c % uw + c / uw) % 2 = 1) = true; exact decide_eq_true (by omega)), rfl⟩
  · skip
    refine r_aload_n C 0 d_Unroller_passes_0 rfl rfl ?_
    refine r_iload_n C 2 d_Unroller_passes_1 rfl rfl ?_
    refine j_callV C (c_Unroller_xOf g (xl x) (u := u) (s := s) (ss := ss) (la := la) (ke := ke) (lc := lc) (uw := uw) (uh := uh) (ri := ri) (mi := mi) (tm := tm) (c := c) (by first | assumption | rfl | omega) (by first | assumption | rfl | omega) (by first | assumption | rfl | omega)) (Sp.of (wr := []) [0] [] rfl rfl rfl rfl (by decide)) d_Unroller_passes_2 lk_Unroller_164 mw_Unroller_xOf vw_Unroller_xOf (q0 := 0) rfl rfl (fit_of hR (by first | decide | (simp only [rmk]; omega)) (by first | decide | (simp only [rmk]; omega)) (by first | decide | (simp only [rmk]; omega)) (by first | decide | (simp only [rmk]; omega))) rfl (cat8 (Nat.le_of_ble_eq_true rfl)) (As := [.int (nI c)]) (rest := []) rfl (fun r_2 w_2 hp_2 => ?_)
    obtain ⟨rfl, rfl⟩ := hp_2
    refine r_after (ws' := [(u, .inr (8, [.ref s, .ref ss, .ref la, .ref ke, .int (nI lc), .int (nI uw), .int (nI uh), .int (nI ri), .int mi, .int (bI tm)]))]) (st' := [.int (nI (c % uw))]) (n1 := 0) (n2 := 0) [0] rfl rfl rfl rfl rfl ?_
    refine r_istore_n C (lv' := [(3, .int (nI (c % uw))), (0, .ref u), (1, .ref (g.2.2.1 13)), (2, .int (nI c))]) d_Unroller_passes_5 rfl (by decide) rfl ?_
    refine r_aload_n C 1 d_Unroller_passes_6 rfl rfl ?_
    refine r_iload_n C 3 d_Unroller_passes_7 rfl rfl ?_
    refine j_callV C (c_Unroller_yOf g (xl x) (u := u) (s := s) (ss := ss) (la := la) (ke := ke) (lc := lc) (uw := uw) (uh := uh) (ri := ri) (mi := mi) (tm := tm) (c := c) (by first | assumption | rfl | omega) (by first | assumption | rfl | omega) (by first | assumption | rfl | omega)) (Sp.of (wr := []) [0] [] rfl rfl rfl rfl (by decide)) d_Unroller_passes_8 lk_Unroller_167 mw_Unroller_yOf vw_Unroller_yOf (q0 := 0) rfl rfl (fit_of hR (by first | decide | (simp only [rmk]; omega)) (by first | decide | (simp only [rmk]; omega)) (by first | decide | (simp only [rmk]; omega)) (by first | decide | (simp only [rmk]; omega))) rfl (cat8 (Nat.le_of_ble_eq_true rfl)) (As := [.int (nI c)]) (rest := []) rfl (fun r_8 w_8 hp_8 => ?_)
    obtain ⟨rfl, rfl⟩ := hp_8
    refine r_after (ws' := [(u, .inr (8, [.ref s, .ref ss, .ref la, .ref ke, .int (nI lc), .int (nI uw), .int (nI uh), .int (nI ri), .int mi, .int (bI tm)]))]) (st' := [.int (nI (c / uw))]) (n1 := 0) (n2 := 0) [0] rfl rfl rfl rfl rfl ?_
    refine r_istore C (lv' := [(4, .int (nI (c / uw))), (3, .int (nI (c % uw))), (0, .ref u), (1, .ref (g.2.2.1 13)), (2, .int (nI c))]) d_Unroller_passes_11 (by decide) rfl ?_
    refine r_iload_n C 1 d_Unroller_passes_13 rfl rfl ?_
    refine r_iload C 0 d_Unroller_passes_14 rfl ?_
    refine r_nadd C d_Unroller_passes_16 ?_
    refine r_iconst C (nI 2) d_Unroller_passes_17 (by decide) ?_
    refine r_nrem C d_Unroller_passes_18 (by omega) (by omega) (by omega) ?_
    refine r_iconst C (nI 1) d_Unroller_passes_19 (by decide) ?_
    refine r_ncmp_ne C 27 d_Unroller_passes_20 (by decide) (by omega) (by omega) (fun c_20 => ?_) (fun c_20 => ?_)
    · skip
      refine r_iconst C (nI 0) d_Unroller_passes_27 (by decide) ?_
      refine r_istore C (lv' := [(5, .int (nI 0)), (4, .int (nI (c / uw))), (3, .int (nI (c % uw))), (0, .ref u), (1, .ref (g.2.2.1 13)), (2, .int (nI c))]) d_Unroller_passes_28 (by decide) rfl ?_
      refine r_iload_n C 2 d_Unroller_passes_30 rfl rfl ?_
      refine r_nif_eq C 60 d_Unroller_passes_31 (by decide) (by omega) (fun c_31 => ?_) (fun c_31 => ?_)
      · skip
        refine r_iconst C (nI 1) d_Unroller_passes_60 (by decide) ?_
        refine r_goto C 65 d_Unroller_passes_61 (by decide) ?_
        refine r_istore C (lv' := [(6, .int (nI 1)), (5, .int (nI 0)), (4, .int (nI (c / uw))), (3, .int (nI (c % uw))), (0, .ref u), (1, .ref (g.2.2.1 13)), (2, .int (nI c))]) d_Unroller_passes_65 (by decide) rfl ?_
        obtain ⟨tW, hZW, hTW⟩ := C.2.2.2.2.2.2.2.1.2.2.2.2.1
        refine r_gets C d_Unroller_passes_67 hZW fs_Unroller_100 ?_
        refine r_aload_n C 5 d_Unroller_passes_70 rfl rfl ?_
        refine j_ord C (u := 13) (by first | decide | omega) d_Unroller_passes_71 (fit_of hR (by first | decide | (simp only [rmk]; omega)) (by first | decide | (simp only [rmk]; omega)) (by first | decide | (simp only [rmk]; omega)) (by first | decide | (simp only [rmk]; omega))) (cat8 (Nat.le_of_ble_eq_true rfl)) ?_
        refine r_ti C d_Unroller_passes_74 hTW (by first | decide | omega) (by decide) ?_
        refine r_eqS (st' := [.int (wSw.getD 13 0)]) rfl ?_
        refine r_tableIn C 103 d_Unroller_passes_75 (by decide) (by decide) rfl (by decide) ?_
        refine r_iload C 1 d_Unroller_passes_103 rfl ?_
        refine r_nif_ne C 112 d_Unroller_passes_105 (by decide) (by omega) (fun c_105 => ?_) (fun c_105 => ?_)
        · exact absurd c_105 (by decide)
        refine r_iconst C (nI 1) d_Unroller_passes_108 (by decide) ?_
        refine r_goto C 113 d_Unroller_passes_109 (by decide) ?_
        refine r_eqS (st' := [.int (bI true)]) rfl ?_
        refine r_bret C E d_Unroller_passes_113 (by first | decide | omega | (simp only [rmk]; omega)) (by first | decide | omega | (simp only [rmk]; omega)) ?_
        exact ⟨bsome (by symm; show decide (¬ (c % uw + c / uw) % 2 = 1) = true; exact decide_eq_true (by omega)), rfl⟩
      · skip
        refine r_iload C 1 d_Unroller_passes_34 rfl ?_
        refine r_nif_eq C 60 d_Unroller_passes_36 (by decide) (by omega) (fun c_36 => ?_) (fun c_36 => ?_)
        · skip
          refine r_iconst C (nI 1) d_Unroller_passes_60 (by decide) ?_
          refine r_goto C 65 d_Unroller_passes_61 (by decide) ?_
          refine r_istore C (lv' := [(6, .int (nI 1)), (5, .int (nI 0)), (4, .int (nI (c / uw))), (3, .int (nI (c % uw))), (0, .ref u), (1, .ref (g.2.2.1 13)), (2, .int (nI c))]) d_Unroller_passes_65 (by decide) rfl ?_
          obtain ⟨tW, hZW, hTW⟩ := C.2.2.2.2.2.2.2.1.2.2.2.2.1
          refine r_gets C d_Unroller_passes_67 hZW fs_Unroller_100 ?_
          refine r_aload_n C 5 d_Unroller_passes_70 rfl rfl ?_
          refine j_ord C (u := 13) (by first | decide | omega) d_Unroller_passes_71 (fit_of hR (by first | decide | (simp only [rmk]; omega)) (by first | decide | (simp only [rmk]; omega)) (by first | decide | (simp only [rmk]; omega)) (by first | decide | (simp only [rmk]; omega))) (cat8 (Nat.le_of_ble_eq_true rfl)) ?_
          refine r_ti C d_Unroller_passes_74 hTW (by first | decide | omega) (by decide) ?_
          refine r_eqS (st' := [.int (wSw.getD 13 0)]) rfl ?_
          refine r_tableIn C 103 d_Unroller_passes_75 (by decide) (by decide) rfl (by decide) ?_
          refine r_iload C 1 d_Unroller_passes_103 rfl ?_
          refine r_nif_ne C 112 d_Unroller_passes_105 (by decide) (by omega) (fun c_105 => ?_) (fun c_105 => ?_)
          · exact absurd c_105 (by decide)
          refine r_iconst C (nI 1) d_Unroller_passes_108 (by decide) ?_
          refine r_goto C 113 d_Unroller_passes_109 (by decide) ?_
          refine r_eqS (st' := [.int (bI true)]) rfl ?_
          refine r_bret C E d_Unroller_passes_113 (by first | decide | omega | (simp only [rmk]; omega)) (by first | decide | omega | (simp only [rmk]; omega)) ?_
          exact ⟨bsome (by symm; show decide (¬ (c % uw + c / uw) % 2 = 1) = true; exact decide_eq_true (by omega)), rfl⟩
        · skip
          refine r_iload_n C 2 d_Unroller_passes_39 rfl rfl ?_
          refine r_aload_n C 3 d_Unroller_passes_40 rfl rfl ?_
          refine r_get C 0 5 d_Unroller_passes_41 ci_Unroller fi_Unroller_28 rfl (by decide) rfl rfl ?_
          refine r_iconst C (nI 1) d_Unroller_passes_44 (by decide) ?_
          refine r_nsub C d_Unroller_passes_45 (by omega) ?_
          refine r_ncmp_eq C 60 d_Unroller_passes_46 (by decide) (by omega) (by omega) (fun c_46 => ?_) (fun c_46 => ?_)
          · skip
            refine r_iconst C (nI 1) d_Unroller_passes_60 (by decide) ?_
            refine r_goto C 65 d_Unroller_passes_61 (by decide) ?_
            refine r_istore C (lv' := [(6, .int (nI 1)), (5, .int (nI 0)), (4, .int (nI (c / uw))), (3, .int (nI (c % uw))), (0, .ref u), (1, .ref (g.2.2.1 13)), (2, .int (nI c))]) d_Unroller_passes_65 (by decide) rfl ?_
            obtain ⟨tW, hZW, hTW⟩ := C.2.2.2.2.2.2.2.1.2.2.2.2.1
            refine r_gets C d_Unroller_passes_67 hZW fs_Unroller_100 ?_
            refine r_aload_n C 5 d_Unroller_passes_70 rfl rfl ?_
            refine j_ord C (u := 13) (by first | decide | omega) d_Unroller_passes_71 (fit_of hR (by first | decide | (simp only [rmk]; omega)) (by first | decide | (simp only [rmk]; omega)) (by first | decide | (simp only [rmk]; omega)) (by first | decide | (simp only [rmk]; omega))) (cat8 (Nat.le_of_ble_eq_true rfl)) ?_
            refine r_ti C d_Unroller_passes_74 hTW (by first | decide | omega) (by decide) ?_
            refine r_eqS (st' := [.int (wSw.getD 13 0)]) rfl ?_
            refine r_tableIn C 103 d_Unroller_passes_75 (by decide) (by decide) rfl (by decide) ?_
            refine r_iload C 1 d_Unroller_passes_103 rfl ?_
            refine r_nif_ne C 112 d_Unroller_passes_105 (by decide) (by omega) (fun c_105 => ?_) (fun c_105 => ?_)
            · exact absurd c_105 (by decide)
            refine r_iconst C (nI 1) d_Unroller_passes_108 (by decide) ?_
            refine r_goto C 113 d_Unroller_passes_109 (by decide) ?_
            refine r_eqS (st' := [.int (bI true)]) rfl ?_
            refine r_bret C E d_Unroller_passes_113 (by first | decide | omega | (simp only [rmk]; omega)) (by first | decide | omega | (simp only [rmk]; omega)) ?_
            exact ⟨bsome (by symm; show decide (¬ (c % uw + c / uw) % 2 = 1) = true; exact decide_eq_true (by omega)), rfl⟩
          · skip
            refine r_iload C 1 d_Unroller_passes_49 rfl ?_
            refine r_aload_n C 3 d_Unroller_passes_51 rfl rfl ?_
            refine r_get C 0 6 d_Unroller_passes_52 ci_Unroller fi_Unroller_32 rfl (by decide) rfl rfl ?_
            refine r_iconst C (nI 1) d_Unroller_passes_55 (by decide) ?_
            refine r_nsub C d_Unroller_passes_56 (by omega) ?_
            refine r_ncmp_ne C 64 d_Unroller_passes_57 (by decide) (by omega) (by omega) (fun c_57 => ?_) (fun c_57 => ?_)
            · skip
              refine r_iconst C (nI 0) d_Unroller_passes_64 (by decide) ?_
              refine r_istore C (lv' := [(6, .int (nI 0)), (5, .int (nI 0)), (4, .int (nI (c / uw))), (3, .int (nI (c % uw))), (0, .ref u), (1, .ref (g.2.2.1 13)), (2, .int (nI c))]) d_Unroller_passes_65 (by decide) rfl ?_
              obtain ⟨tW, hZW, hTW⟩ := C.2.2.2.2.2.2.2.1.2.2.2.2.1
              refine r_gets C d_Unroller_passes_67 hZW fs_Unroller_100 ?_
              refine r_aload_n C 5 d_Unroller_passes_70 rfl rfl ?_
              refine j_ord C (u := 13) (by first | decide | omega) d_Unroller_passes_71 (fit_of hR (by first | decide | (simp only [rmk]; omega)) (by first | decide | (simp only [rmk]; omega)) (by first | decide | (simp only [rmk]; omega)) (by first | decide | (simp only [rmk]; omega))) (cat8 (Nat.le_of_ble_eq_true rfl)) ?_
              refine r_ti C d_Unroller_passes_74 hTW (by first | decide | omega) (by decide) ?_
              refine r_eqS (st' := [.int (wSw.getD 13 0)]) rfl ?_
              refine r_tableIn C 103 d_Unroller_passes_75 (by decide) (by decide) rfl (by decide) ?_
              refine r_iload C 1 d_Unroller_passes_103 rfl ?_
              refine r_nif_ne C 112 d_Unroller_passes_105 (by decide) (by omega) (fun c_105 => ?_) (fun c_105 => ?_)
              · exact absurd c_105 (by decide)
              refine r_iconst C (nI 1) d_Unroller_passes_108 (by decide) ?_
              refine r_goto C 113 d_Unroller_passes_109 (by decide) ?_
              refine r_eqS (st' := [.int (bI true)]) rfl ?_
              refine r_bret C E d_Unroller_passes_113 (by first | decide | omega | (simp only [rmk]; omega)) (by first | decide | omega | (simp only [rmk]; omega)) ?_
              exact ⟨bsome (by symm; show decide (¬ (c % uw + c / uw) % 2 = 1) = true; exact decide_eq_true (by omega)), rfl⟩
            · skip
              refine r_iconst C (nI 1) d_Unroller_passes_60 (by decide) ?_
              refine r_goto C 65 d_Unroller_passes_61 (by decide) ?_
              refine r_istore C (lv' := [(6, .int (nI 1)), (5, .int (nI 0)), (4, .int (nI (c / uw))), (3, .int (nI (c % uw))), (0, .ref u), (1, .ref (g.2.2.1 13)), (2, .int (nI c))]) d_Unroller_passes_65 (by decide) rfl ?_
              obtain ⟨tW, hZW, hTW⟩ := C.2.2.2.2.2.2.2.1.2.2.2.2.1
              refine r_gets C d_Unroller_passes_67 hZW fs_Unroller_100 ?_
              refine r_aload_n C 5 d_Unroller_passes_70 rfl rfl ?_
              refine j_ord C (u := 13) (by first | decide | omega) d_Unroller_passes_71 (fit_of hR (by first | decide | (simp only [rmk]; omega)) (by first | decide | (simp only [rmk]; omega)) (by first | decide | (simp only [rmk]; omega)) (by first | decide | (simp only [rmk]; omega))) (cat8 (Nat.le_of_ble_eq_true rfl)) ?_
              refine r_ti C d_Unroller_passes_74 hTW (by first | decide | omega) (by decide) ?_
              refine r_eqS (st' := [.int (wSw.getD 13 0)]) rfl ?_
              refine r_tableIn C 103 d_Unroller_passes_75 (by decide) (by decide) rfl (by decide) ?_
              refine r_iload C 1 d_Unroller_passes_103 rfl ?_
              refine r_nif_ne C 112 d_Unroller_passes_105 (by decide) (by omega) (fun c_105 => ?_) (fun c_105 => ?_)
              · exact absurd c_105 (by decide)
              refine r_iconst C (nI 1) d_Unroller_passes_108 (by decide) ?_
              refine r_goto C 113 d_Unroller_passes_109 (by decide) ?_
              refine r_eqS (st' := [.int (bI true)]) rfl ?_
              refine r_bret C E d_Unroller_passes_113 (by first | decide | omega | (simp only [rmk]; omega)) (by first | decide | omega | (simp only [rmk]; omega)) ?_
              exact ⟨bsome (by symm; show decide (¬ (c % uw + c / uw) % 2 = 1) = true; exact decide_eq_true (by omega)), rfl⟩
    · skip
      refine r_iconst C (nI 1) d_Unroller_passes_23 (by decide) ?_
      refine r_goto C 28 d_Unroller_passes_24 (by decide) ?_
      refine r_istore C (lv' := [(5, .int (nI 1)), (4, .int (nI (c / uw))), (3, .int (nI (c % uw))), (0, .ref u), (1, .ref (g.2.2.1 13)), (2, .int (nI c))]) d_Unroller_passes_28 (by decide) rfl ?_
      refine r_iload_n C 2 d_Unroller_passes_30 rfl rfl ?_
      refine r_nif_eq C 60 d_Unroller_passes_31 (by decide) (by omega) (fun c_31 => ?_) (fun c_31 => ?_)
      · skip
        refine r_iconst C (nI 1) d_Unroller_passes_60 (by decide) ?_
        refine r_goto C 65 d_Unroller_passes_61 (by decide) ?_
        refine r_istore C (lv' := [(6, .int (nI 1)), (5, .int (nI 1)), (4, .int (nI (c / uw))), (3, .int (nI (c % uw))), (0, .ref u), (1, .ref (g.2.2.1 13)), (2, .int (nI c))]) d_Unroller_passes_65 (by decide) rfl ?_
        obtain ⟨tW, hZW, hTW⟩ := C.2.2.2.2.2.2.2.1.2.2.2.2.1
        refine r_gets C d_Unroller_passes_67 hZW fs_Unroller_100 ?_
        refine r_aload_n C 5 d_Unroller_passes_70 rfl rfl ?_
        refine j_ord C (u := 13) (by first | decide | omega) d_Unroller_passes_71 (fit_of hR (by first | decide | (simp only [rmk]; omega)) (by first | decide | (simp only [rmk]; omega)) (by first | decide | (simp only [rmk]; omega)) (by first | decide | (simp only [rmk]; omega))) (cat8 (Nat.le_of_ble_eq_true rfl)) ?_
        refine r_ti C d_Unroller_passes_74 hTW (by first | decide | omega) (by decide) ?_
        refine r_eqS (st' := [.int (wSw.getD 13 0)]) rfl ?_
        refine r_tableIn C 103 d_Unroller_passes_75 (by decide) (by decide) rfl (by decide) ?_
        refine r_iload C 1 d_Unroller_passes_103 rfl ?_
        refine r_nif_ne C 112 d_Unroller_passes_105 (by decide) (by omega) (fun c_105 => ?_) (fun c_105 => ?_)
        rotate_left
        · exact absurd c_105 (by decide)
        refine r_iconst C (nI 0) d_Unroller_passes_112 (by decide) ?_
        refine r_eqS (st' := [.int (bI false)]) rfl ?_
        refine r_bret C E d_Unroller_passes_113 (by first | decide | omega | (simp only [rmk]; omega)) (by first | decide | omega | (simp only [rmk]; omega)) ?_
        exact ⟨bsome (by symm; show decide (¬ (c % uw + c / uw) % 2 = 1) = false; exact decide_eq_false (by omega)), rfl⟩
      · skip
        refine r_iload C 1 d_Unroller_passes_34 rfl ?_
        refine r_nif_eq C 60 d_Unroller_passes_36 (by decide) (by omega) (fun c_36 => ?_) (fun c_36 => ?_)
        · skip
          refine r_iconst C (nI 1) d_Unroller_passes_60 (by decide) ?_
          refine r_goto C 65 d_Unroller_passes_61 (by decide) ?_
          refine r_istore C (lv' := [(6, .int (nI 1)), (5, .int (nI 1)), (4, .int (nI (c / uw))), (3, .int (nI (c % uw))), (0, .ref u), (1, .ref (g.2.2.1 13)), (2, .int (nI c))]) d_Unroller_passes_65 (by decide) rfl ?_
          obtain ⟨tW, hZW, hTW⟩ := C.2.2.2.2.2.2.2.1.2.2.2.2.1
          refine r_gets C d_Unroller_passes_67 hZW fs_Unroller_100 ?_
          refine r_aload_n C 5 d_Unroller_passes_70 rfl rfl ?_
          refine j_ord C (u := 13) (by first | decide | omega) d_Unroller_passes_71 (fit_of hR (by first | decide | (simp only [rmk]; omega)) (by first | decide | (simp only [rmk]; omega)) (by first | decide | (simp only [rmk]; omega)) (by first | decide | (simp only [rmk]; omega))) (cat8 (Nat.le_of_ble_eq_true rfl)) ?_
          refine r_ti C d_Unroller_passes_74 hTW (by first | decide | omega) (by decide) ?_
          refine r_eqS (st' := [.int (wSw.getD 13 0)]) rfl ?_
          refine r_tableIn C 103 d_Unroller_passes_75 (by decide) (by decide) rfl (by decide) ?_
          refine r_iload C 1 d_Unroller_passes_103 rfl ?_
          refine r_nif_ne C 112 d_Unroller_passes_105 (by decide) (by omega) (fun c_105 => ?_) (fun c_105 => ?_)
          rotate_left
          · exact absurd c_105 (by decide)
          refine r_iconst C (nI 0) d_Unroller_passes_112 (by decide) ?_
          refine r_eqS (st' := [.int (bI false)]) rfl ?_
          refine r_bret C E d_Unroller_passes_113 (by first | decide | omega | (simp only [rmk]; omega)) (by first | decide | omega | (simp only [rmk]; omega)) ?_
          exact ⟨bsome (by symm; show decide (¬ (c % uw + c / uw) % 2 = 1) = false; exact decide_eq_false (by omega)), rfl⟩
        · skip
          refine r_iload_n C 2 d_Unroller_passes_39 rfl rfl ?_
          refine r_aload_n C 3 d_Unroller_passes_40 rfl rfl ?_
          refine r_get C 0 5 d_Unroller_passes_41 ci_Unroller fi_Unroller_28 rfl (by decide) rfl rfl ?_
          refine r_iconst C (nI 1) d_Unroller_passes_44 (by decide) ?_
          refine r_nsub C d_Unroller_passes_45 (by omega) ?_
          refine r_ncmp_eq C 60 d_Unroller_passes_46 (by decide) (by omega) (by omega) (fun c_46 => ?_) (fun c_46 => ?_)
          · skip
            refine r_iconst C (nI 1) d_Unroller_passes_60 (by decide) ?_
            refine r_goto C 65 d_Unroller_passes_61 (by decide) ?_
            refine r_istore C (lv' := [(6, .int (nI 1)), (5, .int (nI 1)), (4, .int (nI (c / uw))), (3, .int (nI (c % uw))), (0, .ref u), (1, .ref (g.2.2.1 13)), (2, .int (nI c))]) d_Unroller_passes_65 (by decide) rfl ?_
            obtain ⟨tW, hZW, hTW⟩ := C.2.2.2.2.2.2.2.1.2.2.2.2.1
            refine r_gets C d_Unroller_passes_67 hZW fs_Unroller_100 ?_
            refine r_aload_n C 5 d_Unroller_passes_70 rfl rfl ?_
            refine j_ord C (u := 13) (by first | decide | omega) d_Unroller_passes_71 (fit_of hR (by first | decide | (simp only [rmk]; omega)) (by first | decide | (simp only [rmk]; omega)) (by first | decide | (simp only [rmk]; omega)) (by first | decide | (simp only [rmk]; omega))) (cat8 (Nat.le_of_ble_eq_true rfl)) ?_
            refine r_ti C d_Unroller_passes_74 hTW (by first | decide | omega) (by decide) ?_
            refine r_eqS (st' := [.int (wSw.getD 13 0)]) rfl ?_
            refine r_tableIn C 103 d_Unroller_passes_75 (by decide) (by decide) rfl (by decide) ?_
            refine r_iload C 1 d_Unroller_passes_103 rfl ?_
            refine r_nif_ne C 112 d_Unroller_passes_105 (by decide) (by omega) (fun c_105 => ?_) (fun c_105 => ?_)
            rotate_left
            · exact absurd c_105 (by decide)
            refine r_iconst C (nI 0) d_Unroller_passes_112 (by decide) ?_
            refine r_eqS (st' := [.int (bI false)]) rfl ?_
            refine r_bret C E d_Unroller_passes_113 (by first | decide | omega | (simp only [rmk]; omega)) (by first | decide | omega | (simp only [rmk]; omega)) ?_
            exact ⟨bsome (by symm; show decide (¬ (c % uw + c / uw) % 2 = 1) = false; exact decide_eq_false (by omega)), rfl⟩
          · skip
            refine r_iload C 1 d_Unroller_passes_49 rfl ?_
            refine r_aload_n C 3 d_Unroller_passes_51 rfl rfl ?_
            refine r_get C 0 6 d_Unroller_passes_52 ci_Unroller fi_Unroller_32 rfl (by decide) rfl rfl ?_
            refine r_iconst C (nI 1) d_Unroller_passes_55 (by decide) ?_
            refine r_nsub C d_Unroller_passes_56 (by omega) ?_
            refine r_ncmp_ne C 64 d_Unroller_passes_57 (by decide) (by omega) (by omega) (fun c_57 => ?_) (fun c_57 => ?_)
            · skip
              refine r_iconst C (nI 0) d_Unroller_passes_64 (by decide) ?_
              refine r_istore C (lv' := [(6, .int (nI 0)), (5, .int (nI 1)), (4, .int (nI (c / uw))), (3, .int (nI (c % uw))), (0, .ref u), (1, .ref (g.2.2.1 13)), (2, .int (nI c))]) d_Unroller_passes_65 (by decide) rfl ?_
              obtain ⟨tW, hZW, hTW⟩ := C.2.2.2.2.2.2.2.1.2.2.2.2.1
              refine r_gets C d_Unroller_passes_67 hZW fs_Unroller_100 ?_
              refine r_aload_n C 5 d_Unroller_passes_70 rfl rfl ?_
              refine j_ord C (u := 13) (by first | decide | omega) d_Unroller_passes_71 (fit_of hR (by first | decide | (simp only [rmk]; omega)) (by first | decide | (simp only [rmk]; omega)) (by first | decide | (simp only [rmk]; omega)) (by first | decide | (simp only [rmk]; omega))) (cat8 (Nat.le_of_ble_eq_true rfl)) ?_
              refine r_ti C d_Unroller_passes_74 hTW (by first | decide | omega) (by decide) ?_
              refine r_eqS (st' := [.int (wSw.getD 13 0)]) rfl ?_
              refine r_tableIn C 103 d_Unroller_passes_75 (by decide) (by decide) rfl (by decide) ?_
              refine r_iload C 1 d_Unroller_passes_103 rfl ?_
              refine r_nif_ne C 112 d_Unroller_passes_105 (by decide) (by omega) (fun c_105 => ?_) (fun c_105 => ?_)
              rotate_left
              · exact absurd c_105 (by decide)
              refine r_iconst C (nI 0) d_Unroller_passes_112 (by decide) ?_
              refine r_eqS (st' := [.int (bI false)]) rfl ?_
              refine r_bret C E d_Unroller_passes_113 (by first | decide | omega | (simp only [rmk]; omega)) (by first | decide | omega | (simp only [rmk]; omega)) ?_
              exact ⟨bsome (by symm; show decide (¬ (c % uw + c / uw) % 2 = 1) = false; exact decide_eq_false (by omega)), rfl⟩
            · skip
              refine r_iconst C (nI 1) d_Unroller_passes_60 (by decide) ?_
              refine r_goto C 65 d_Unroller_passes_61 (by decide) ?_
              refine r_istore C (lv' := [(6, .int (nI 1)), (5, .int (nI 1)), (4, .int (nI (c / uw))), (3, .int (nI (c % uw))), (0, .ref u), (1, .ref (g.2.2.1 13)), (2, .int (nI c))]) d_Unroller_passes_65 (by decide) rfl ?_
              obtain ⟨tW, hZW, hTW⟩ := C.2.2.2.2.2.2.2.1.2.2.2.2.1
              refine r_gets C d_Unroller_passes_67 hZW fs_Unroller_100 ?_
              refine r_aload_n C 5 d_Unroller_passes_70 rfl rfl ?_
              refine j_ord C (u := 13) (by first | decide | omega) d_Unroller_passes_71 (fit_of hR (by first | decide | (simp only [rmk]; omega)) (by first | decide | (simp only [rmk]; omega)) (by first | decide | (simp only [rmk]; omega)) (by first | decide | (simp only [rmk]; omega))) (cat8 (Nat.le_of_ble_eq_true rfl)) ?_
              refine r_ti C d_Unroller_passes_74 hTW (by first | decide | omega) (by decide) ?_
              refine r_eqS (st' := [.int (wSw.getD 13 0)]) rfl ?_
              refine r_tableIn C 103 d_Unroller_passes_75 (by decide) (by decide) rfl (by decide) ?_
              refine r_iload C 1 d_Unroller_passes_103 rfl ?_
              refine r_nif_ne C 112 d_Unroller_passes_105 (by decide) (by omega) (fun c_105 => ?_) (fun c_105 => ?_)
              rotate_left
              · exact absurd c_105 (by decide)
              refine r_iconst C (nI 0) d_Unroller_passes_112 (by decide) ?_
              refine r_eqS (st' := [.int (bI false)]) rfl ?_
              refine r_bret C E d_Unroller_passes_113 (by first | decide | omega | (simp only [rmk]; omega)) (by first | decide | omega | (simp only [rmk]; omega)) ?_
              exact ⟨bsome (by symm; show decide (¬ (c % uw + c / uw) % 2 = 1) = false; exact decide_eq_false (by omega)), rfl⟩
  · skip
    refine r_aload_n C 0 d_Unroller_passes_0 rfl rfl ?_
    refine r_iload_n C 2 d_Unroller_passes_1 rfl rfl ?_
    refine j_callV C (c_Unroller_xOf g (xl x) (u := u) (s := s) (ss := ss) (la := la) (ke := ke) (lc := lc) (uw := uw) (uh := uh) (ri := ri) (mi := mi) (tm := tm) (c := c) (by first | assumption | rfl | omega) (by first | assumption | rfl | omega) (by first | assumption | rfl | omega)) (Sp.of (wr := []) [0] [] rfl rfl rfl rfl (by decide)) d_Unroller_passes_2 lk_Unroller_164 mw_Unroller_xOf vw_Unroller_xOf (q0 := 0) rfl rfl (fit_of hR (by first | decide | (simp only [rmk]; omega)) (by first | decide | (simp only [rmk]; omega)) (by first | decide | (simp only [rmk]; omega)) (by first | decide | (simp only [rmk]; omega))) rfl (cat8 (Nat.le_of_ble_eq_true rfl)) (As := [.int (nI c)]) (rest := []) rfl (fun r_2 w_2 hp_2 => ?_)
    obtain ⟨rfl, rfl⟩ := hp_2
    refine r_after (ws' := [(u, .inr (8, [.ref s, .ref ss, .ref la, .ref ke, .int (nI lc), .int (nI uw), .int (nI uh), .int (nI ri), .int mi, .int (bI tm)]))]) (st' := [.int (nI (c % uw))]) (n1 := 0) (n2 := 0) [0] rfl rfl rfl rfl rfl ?_
    refine r_istore_n C (lv' := [(3, .int (nI (c % uw))), (0, .ref u), (1, .ref (g.2.2.1 14)), (2, .int (nI c))]) d_Unroller_passes_5 rfl (by decide) rfl ?_
    refine r_aload_n C 1 d_Unroller_passes_6 rfl rfl ?_
    refine r_iload_n C 3 d_Unroller_passes_7 rfl rfl ?_
    refine j_callV C (c_Unroller_yOf g (xl x) (u := u) (s := s) (ss := ss) (la := la) (ke := ke) (lc := lc) (uw := uw) (uh := uh) (ri := ri) (mi := mi) (tm := tm) (c := c) (by first | assumption | rfl | omega) (by first | assumption | rfl | omega) (by first | assumption | rfl | omega)) (Sp.of (wr := []) [0] [] rfl rfl rfl rfl (by decide)) d_Unroller_passes_8 lk_Unroller_167 mw_Unroller_yOf vw_Unroller_yOf (q0 := 0) rfl rfl (fit_of hR (by first | decide | (simp only [rmk]; omega)) (by first | decide | (simp only [rmk]; omega)) (by first | decide | (simp only [rmk]; omega)) (by first | decide | (simp only [rmk]; omega))) rfl (cat8 (Nat.le_of_ble_eq_true rfl)) (As := [.int (nI c)]) (rest := []) rfl (fun r_8 w_8 hp_8 => ?_)
    obtain ⟨rfl, rfl⟩ := hp_8
    refine r_after (ws' := [(u, .inr (8, [.ref s, .ref ss, .ref la, .ref ke, .int (nI lc), .int (nI uw), .int (nI uh), .int (nI ri), .int mi, .int (bI tm)]))]) (st' := [.int (nI (c / uw))]) (n1 := 0) (n2 := 0) [0] rfl rfl rfl rfl rfl ?_
    refine r_istore C (lv' := [(4, .int (nI (c / uw))), (3, .int (nI (c % uw))), (0, .ref u), (1, .ref (g.2.2.1 14)), (2, .int (nI c))]) d_Unroller_passes_11 (by decide) rfl ?_
    refine r_iload_n C 1 d_Unroller_passes_13 rfl rfl ?_
    refine r_iload C 0 d_Unroller_passes_14 rfl ?_
    refine r_nadd C d_Unroller_passes_16 ?_
    refine r_iconst C (nI 2) d_Unroller_passes_17 (by decide) ?_
    refine r_nrem C d_Unroller_passes_18 (by omega) (by omega) (by omega) ?_
    refine r_iconst C (nI 1) d_Unroller_passes_19 (by decide) ?_
    refine r_ncmp_ne C 27 d_Unroller_passes_20 (by decide) (by omega) (by omega) (fun c_20 => ?_) (fun c_20 => ?_)
    · skip
      refine r_iconst C (nI 0) d_Unroller_passes_27 (by decide) ?_
      refine r_istore C (lv' := [(5, .int (nI 0)), (4, .int (nI (c / uw))), (3, .int (nI (c % uw))), (0, .ref u), (1, .ref (g.2.2.1 14)), (2, .int (nI c))]) d_Unroller_passes_28 (by decide) rfl ?_
      refine r_iload_n C 2 d_Unroller_passes_30 rfl rfl ?_
      refine r_nif_eq C 60 d_Unroller_passes_31 (by decide) (by omega) (fun c_31 => ?_) (fun c_31 => ?_)
      · skip
        refine r_iconst C (nI 1) d_Unroller_passes_60 (by decide) ?_
        refine r_goto C 65 d_Unroller_passes_61 (by decide) ?_
        refine r_istore C (lv' := [(6, .int (nI 1)), (5, .int (nI 0)), (4, .int (nI (c / uw))), (3, .int (nI (c % uw))), (0, .ref u), (1, .ref (g.2.2.1 14)), (2, .int (nI c))]) d_Unroller_passes_65 (by decide) rfl ?_
        obtain ⟨tW, hZW, hTW⟩ := C.2.2.2.2.2.2.2.1.2.2.2.2.1
        refine r_gets C d_Unroller_passes_67 hZW fs_Unroller_100 ?_
        refine r_aload_n C 5 d_Unroller_passes_70 rfl rfl ?_
        refine j_ord C (u := 14) (by first | decide | omega) d_Unroller_passes_71 (fit_of hR (by first | decide | (simp only [rmk]; omega)) (by first | decide | (simp only [rmk]; omega)) (by first | decide | (simp only [rmk]; omega)) (by first | decide | (simp only [rmk]; omega))) (cat8 (Nat.le_of_ble_eq_true rfl)) ?_
        refine r_ti C d_Unroller_passes_74 hTW (by first | decide | omega) (by decide) ?_
        refine r_eqS (st' := [.int (wSw.getD 14 0)]) rfl ?_
        refine r_tableIn C 114 d_Unroller_passes_75 (by decide) (by decide) rfl (by decide) ?_
        refine r_iload C 0 d_Unroller_passes_114 rfl ?_
        refine r_eqS (st' := [.int (bI true)]) rfl ?_
        refine r_bret C E d_Unroller_passes_116 (by first | decide | omega | (simp only [rmk]; omega)) (by first | decide | omega | (simp only [rmk]; omega)) ?_
        exact ⟨bsome (by symm; show decide (c % uw = 0 ∨ c / uw = 0 ∨ c % uw = uw - 1 ∨ c / uw = uh - 1) = true; exact decide_eq_true (by omega)), rfl⟩
      · skip
        refine r_iload C 1 d_Unroller_passes_34 rfl ?_
        refine r_nif_eq C 60 d_Unroller_passes_36 (by decide) (by omega) (fun c_36 => ?_) (fun c_36 => ?_)
        · skip
          refine r_iconst C (nI 1) d_Unroller_passes_60 (by decide) ?_
          refine r_goto C 65 d_Unroller_passes_61 (by decide) ?_
          refine r_istore C (lv' := [(6, .int (nI 1)), (5, .int (nI 0)), (4, .int (nI (c / uw))), (3, .int (nI (c % uw))), (0, .ref u), (1, .ref (g.2.2.1 14)), (2, .int (nI c))]) d_Unroller_passes_65 (by decide) rfl ?_
          obtain ⟨tW, hZW, hTW⟩ := C.2.2.2.2.2.2.2.1.2.2.2.2.1
          refine r_gets C d_Unroller_passes_67 hZW fs_Unroller_100 ?_
          refine r_aload_n C 5 d_Unroller_passes_70 rfl rfl ?_
          refine j_ord C (u := 14) (by first | decide | omega) d_Unroller_passes_71 (fit_of hR (by first | decide | (simp only [rmk]; omega)) (by first | decide | (simp only [rmk]; omega)) (by first | decide | (simp only [rmk]; omega)) (by first | decide | (simp only [rmk]; omega))) (cat8 (Nat.le_of_ble_eq_true rfl)) ?_
          refine r_ti C d_Unroller_passes_74 hTW (by first | decide | omega) (by decide) ?_
          refine r_eqS (st' := [.int (wSw.getD 14 0)]) rfl ?_
          refine r_tableIn C 114 d_Unroller_passes_75 (by decide) (by decide) rfl (by decide) ?_
          refine r_iload C 0 d_Unroller_passes_114 rfl ?_
          refine r_eqS (st' := [.int (bI true)]) rfl ?_
          refine r_bret C E d_Unroller_passes_116 (by first | decide | omega | (simp only [rmk]; omega)) (by first | decide | omega | (simp only [rmk]; omega)) ?_
          exact ⟨bsome (by symm; show decide (c % uw = 0 ∨ c / uw = 0 ∨ c % uw = uw - 1 ∨ c / uw = uh - 1) = true; exact decide_eq_true (by omega)), rfl⟩
        · skip
          refine r_iload_n C 2 d_Unroller_passes_39 rfl rfl ?_
          refine r_aload_n C 3 d_Unroller_passes_40 rfl rfl ?_
          refine r_get C 0 5 d_Unroller_passes_41 ci_Unroller fi_Unroller_28 rfl (by decide) rfl rfl ?_
          refine r_iconst C (nI 1) d_Unroller_passes_44 (by decide) ?_
          refine r_nsub C d_Unroller_passes_45 (by omega) ?_
          refine r_ncmp_eq C 60 d_Unroller_passes_46 (by decide) (by omega) (by omega) (fun c_46 => ?_) (fun c_46 => ?_)
          · skip
            refine r_iconst C (nI 1) d_Unroller_passes_60 (by decide) ?_
            refine r_goto C 65 d_Unroller_passes_61 (by decide) ?_
            refine r_istore C (lv' := [(6, .int (nI 1)), (5, .int (nI 0)), (4, .int (nI (c / uw))), (3, .int (nI (c % uw))), (0, .ref u), (1, .ref (g.2.2.1 14)), (2, .int (nI c))]) d_Unroller_passes_65 (by decide) rfl ?_
            obtain ⟨tW, hZW, hTW⟩ := C.2.2.2.2.2.2.2.1.2.2.2.2.1
            refine r_gets C d_Unroller_passes_67 hZW fs_Unroller_100 ?_
            refine r_aload_n C 5 d_Unroller_passes_70 rfl rfl ?_
            refine j_ord C (u := 14) (by first | decide | omega) d_Unroller_passes_71 (fit_of hR (by first | decide | (simp only [rmk]; omega)) (by first | decide | (simp only [rmk]; omega)) (by first | decide | (simp only [rmk]; omega)) (by first | decide | (simp only [rmk]; omega))) (cat8 (Nat.le_of_ble_eq_true rfl)) ?_
            refine r_ti C d_Unroller_passes_74 hTW (by first | decide | omega) (by decide) ?_
            refine r_eqS (st' := [.int (wSw.getD 14 0)]) rfl ?_
            refine r_tableIn C 114 d_Unroller_passes_75 (by decide) (by decide) rfl (by decide) ?_
            refine r_iload C 0 d_Unroller_passes_114 rfl ?_
            refine r_eqS (st' := [.int (bI true)]) rfl ?_
            refine r_bret C E d_Unroller_passes_116 (by first | decide | omega | (simp only [rmk]; omega)) (by first | decide | omega | (simp only [rmk]; omega)) ?_
            exact ⟨bsome (by symm; show decide (c % uw = 0 ∨ c / uw = 0 ∨ c % uw = uw - 1 ∨ c / uw = uh - 1) = true; exact decide_eq_true (by omega)), rfl⟩
          · skip
            refine r_iload C 1 d_Unroller_passes_49 rfl ?_
            refine r_aload_n C 3 d_Unroller_passes_51 rfl rfl ?_
            refine r_get C 0 6 d_Unroller_passes_52 ci_Unroller fi_Unroller_32 rfl (by decide) rfl rfl ?_
            refine r_iconst C (nI 1) d_Unroller_passes_55 (by decide) ?_
            refine r_nsub C d_Unroller_passes_56 (by omega) ?_
            refine r_ncmp_ne C 64 d_Unroller_passes_57 (by decide) (by omega) (by omega) (fun c_57 => ?_) (fun c_57 => ?_)
            · skip
              refine r_iconst C (nI 0) d_Unroller_passes_64 (by decide) ?_
              refine r_istore C (lv' := [(6, .int (nI 0)), (5, .int (nI 0)), (4, .int (nI (c / uw))), (3, .int (nI (c % uw))), (0, .ref u), (1, .ref (g.2.2.1 14)), (2, .int (nI c))]) d_Unroller_passes_65 (by decide) rfl ?_
              obtain ⟨tW, hZW, hTW⟩ := C.2.2.2.2.2.2.2.1.2.2.2.2.1
              refine r_gets C d_Unroller_passes_67 hZW fs_Unroller_100 ?_
              refine r_aload_n C 5 d_Unroller_passes_70 rfl rfl ?_
              refine j_ord C (u := 14) (by first | decide | omega) d_Unroller_passes_71 (fit_of hR (by first | decide | (simp only [rmk]; omega)) (by first | decide | (simp only [rmk]; omega)) (by first | decide | (simp only [rmk]; omega)) (by first | decide | (simp only [rmk]; omega))) (cat8 (Nat.le_of_ble_eq_true rfl)) ?_
              refine r_ti C d_Unroller_passes_74 hTW (by first | decide | omega) (by decide) ?_
              refine r_eqS (st' := [.int (wSw.getD 14 0)]) rfl ?_
              refine r_tableIn C 114 d_Unroller_passes_75 (by decide) (by decide) rfl (by decide) ?_
              refine r_iload C 0 d_Unroller_passes_114 rfl ?_
              refine r_eqS (st' := [.int (bI false)]) rfl ?_
              refine r_bret C E d_Unroller_passes_116 (by first | decide | omega | (simp only [rmk]; omega)) (by first | decide | omega | (simp only [rmk]; omega)) ?_
              exact ⟨bsome (by symm; show decide (c % uw = 0 ∨ c / uw = 0 ∨ c % uw = uw - 1 ∨ c / uw = uh - 1) = false; exact decide_eq_false (by omega)), rfl⟩
            · skip
              refine r_iconst C (nI 1) d_Unroller_passes_60 (by decide) ?_
              refine r_goto C 65 d_Unroller_passes_61 (by decide) ?_
              refine r_istore C (lv' := [(6, .int (nI 1)), (5, .int (nI 0)), (4, .int (nI (c / uw))), (3, .int (nI (c % uw))), (0, .ref u), (1, .ref (g.2.2.1 14)), (2, .int (nI c))]) d_Unroller_passes_65 (by decide) rfl ?_
              obtain ⟨tW, hZW, hTW⟩ := C.2.2.2.2.2.2.2.1.2.2.2.2.1
              refine r_gets C d_Unroller_passes_67 hZW fs_Unroller_100 ?_
              refine r_aload_n C 5 d_Unroller_passes_70 rfl rfl ?_
              refine j_ord C (u := 14) (by first | decide | omega) d_Unroller_passes_71 (fit_of hR (by first | decide | (simp only [rmk]; omega)) (by first | decide | (simp only [rmk]; omega)) (by first | decide | (simp only [rmk]; omega)) (by first | decide | (simp only [rmk]; omega))) (cat8 (Nat.le_of_ble_eq_true rfl)) ?_
              refine r_ti C d_Unroller_passes_74 hTW (by first | decide | omega) (by decide) ?_
              refine r_eqS (st' := [.int (wSw.getD 14 0)]) rfl ?_
              refine r_tableIn C 114 d_Unroller_passes_75 (by decide) (by decide) rfl (by decide) ?_
              refine r_iload C 0 d_Unroller_passes_114 rfl ?_
              refine r_eqS (st' := [.int (bI true)]) rfl ?_
              refine r_bret C E d_Unroller_passes_116 (by first | decide | omega | (simp only [rmk]; omega)) (by first | decide | omega | (simp only [rmk]; omega)) ?_
              exact ⟨bsome (by symm; show decide (c % uw = 0 ∨ c / uw = 0 ∨ c % uw = uw - 1 ∨ c / uw = uh - 1) = true; exact decide_eq_true (by omega)), rfl⟩
    · skip
      refine r_iconst C (nI 1) d_Unroller_passes_23 (by decide) ?_
      refine r_goto C 28 d_Unroller_passes_24 (by decide) ?_
      refine r_istore C (lv' := [(5, .int (nI 1)), (4, .int (nI (c / uw))), (3, .int (nI (c % uw))), (0, .ref u), (1, .ref (g.2.2.1 14)), (2, .int (nI c))]) d_Unroller_passes_28 (by decide) rfl ?_
      refine r_iload_n C 2 d_Unroller_passes_30 rfl rfl ?_
      refine r_nif_eq C 60 d_Unroller_passes_31 (by decide) (by omega) (fun c_31 => ?_) (fun c_31 => ?_)
      · skip
        refine r_iconst C (nI 1) d_Unroller_passes_60 (by decide) ?_
        refine r_goto C 65 d_Unroller_passes_61 (by decide) ?_
        refine r_istore C (lv' := [(6, .int (nI 1)), (5, .int (nI 1)), (4, .int (nI (c / uw))), (3, .int (nI (c % uw))), (0, .ref u), (1, .ref (g.2.2.1 14)), (2, .int (nI c))]) d_Unroller_passes_65 (by decide) rfl ?_
        obtain ⟨tW, hZW, hTW⟩ := C.2.2.2.2.2.2.2.1.2.2.2.2.1
        refine r_gets C d_Unroller_passes_67 hZW fs_Unroller_100 ?_
        refine r_aload_n C 5 d_Unroller_passes_70 rfl rfl ?_
        refine j_ord C (u := 14) (by first | decide | omega) d_Unroller_passes_71 (fit_of hR (by first | decide | (simp only [rmk]; omega)) (by first | decide | (simp only [rmk]; omega)) (by first | decide | (simp only [rmk]; omega)) (by first | decide | (simp only [rmk]; omega))) (cat8 (Nat.le_of_ble_eq_true rfl)) ?_
        refine r_ti C d_Unroller_passes_74 hTW (by first | decide | omega) (by decide) ?_
        refine r_eqS (st' := [.int (wSw.getD 14 0)]) rfl ?_
        refine r_tableIn C 114 d_Unroller_passes_75 (by decide) (by decide) rfl (by decide) ?_
        refine r_iload C 0 d_Unroller_passes_114 rfl ?_
        refine r_eqS (st' := [.int (bI true)]) rfl ?_
        refine r_bret C E d_Unroller_passes_116 (by first | decide | omega | (simp only [rmk]; omega)) (by first | decide | omega | (simp only [rmk]; omega)) ?_
        exact ⟨bsome (by symm; show decide (c % uw = 0 ∨ c / uw = 0 ∨ c % uw = uw - 1 ∨ c / uw = uh - 1) = true; exact decide_eq_true (by omega)), rfl⟩
      · skip
        refine r_iload C 1 d_Unroller_passes_34 rfl ?_
        refine r_nif_eq C 60 d_Unroller_passes_36 (by decide) (by omega) (fun c_36 => ?_) (fun c_36 => ?_)
        · skip
          refine r_iconst C (nI 1) d_Unroller_passes_60 (by decide) ?_
          refine r_goto C 65 d_Unroller_passes_61 (by decide) ?_
          refine r_istore C (lv' := [(6, .int (nI 1)), (5, .int (nI 1)), (4, .int (nI (c / uw))), (3, .int (nI (c % uw))), (0, .ref u), (1, .ref (g.2.2.1 14)), (2, .int (nI c))]) d_Unroller_passes_65 (by decide) rfl ?_
          obtain ⟨tW, hZW, hTW⟩ := C.2.2.2.2.2.2.2.1.2.2.2.2.1
          refine r_gets C d_Unroller_passes_67 hZW fs_Unroller_100 ?_
          refine r_aload_n C 5 d_Unroller_passes_70 rfl rfl ?_
          refine j_ord C (u := 14) (by first | decide | omega) d_Unroller_passes_71 (fit_of hR (by first | decide | (simp only [rmk]; omega)) (by first | decide | (simp only [rmk]; omega)) (by first | decide | (simp only [rmk]; omega)) (by first | decide | (simp only [rmk]; omega))) (cat8 (Nat.le_of_ble_eq_true rfl)) ?_
          refine r_ti C d_Unroller_passes_74 hTW (by first | decide | omega) (by decide) ?_
          refine r_eqS (st' := [.int (wSw.getD 14 0)]) rfl ?_
          refine r_tableIn C 114 d_Unroller_passes_75 (by decide) (by decide) rfl (by decide) ?_
          refine r_iload C 0 d_Unroller_passes_114 rfl ?_
          refine r_eqS (st' := [.int (bI true)]) rfl ?_
          refine r_bret C E d_Unroller_passes_116 (by first | decide | omega | (simp only [rmk]; omega)) (by first | decide | omega | (simp only [rmk]; omega)) ?_
          exact ⟨bsome (by symm; show decide (c % uw = 0 ∨ c / uw = 0 ∨ c % uw = uw - 1 ∨ c / uw = uh - 1) = true; exact decide_eq_true (by omega)), rfl⟩
        · skip
          refine r_iload_n C 2 d_Unroller_passes_39 rfl rfl ?_
          refine r_aload_n C 3 d_Unroller_passes_40 rfl rfl ?_
          refine r_get C 0 5 d_Unroller_passes_41 ci_Unroller fi_Unroller_28 rfl (by decide) rfl rfl ?_
          refine r_iconst C (nI 1) d_Unroller_passes_44 (by decide) ?_
          refine r_nsub C d_Unroller_passes_45 (by omega) ?_
          refine r_ncmp_eq C 60 d_Unroller_passes_46 (by decide) (by omega) (by omega) (fun c_46 => ?_) (fun c_46 => ?_)
          · skip
            refine r_iconst C (nI 1) d_Unroller_passes_60 (by decide) ?_
            refine r_goto C 65 d_Unroller_passes_61 (by decide) ?_
            refine r_istore C (lv' := [(6, .int (nI 1)), (5, .int (nI 1)), (4, .int (nI (c / uw))), (3, .int (nI (c % uw))), (0, .ref u), (1, .ref (g.2.2.1 14)), (2, .int (nI c))]) d_Unroller_passes_65 (by decide) rfl ?_
            obtain ⟨tW, hZW, hTW⟩ := C.2.2.2.2.2.2.2.1.2.2.2.2.1
            refine r_gets C d_Unroller_passes_67 hZW fs_Unroller_100 ?_
            refine r_aload_n C 5 d_Unroller_passes_70 rfl rfl ?_
            refine j_ord C (u := 14) (by first | decide | omega) d_Unroller_passes_71 (fit_of hR (by first | decide | (simp only [rmk]; omega)) (by first | decide | (simp only [rmk]; omega)) (by first | decide | (simp only [rmk]; omega)) (by first | decide | (simp only [rmk]; omega))) (cat8 (Nat.le_of_ble_eq_true rfl)) ?_
            refine r_ti C d_Unroller_passes_74 hTW (by first | decide | omega) (by decide) ?_
            refine r_eqS (st' := [.int (wSw.getD 14 0)]) rfl ?_
            refine r_tableIn C 114 d_Unroller_passes_75 (by decide) (by decide) rfl (by decide) ?_
            refine r_iload C 0 d_Unroller_passes_114 rfl ?_
            refine r_eqS (st' := [.int (bI true)]) rfl ?_
            refine r_bret C E d_Unroller_passes_116 (by first | decide | omega | (simp only [rmk]; omega)) (by first | decide | omega | (simp only [rmk]; omega)) ?_
            exact ⟨bsome (by symm; show decide (c % uw = 0 ∨ c / uw = 0 ∨ c % uw = uw - 1 ∨ c / uw = uh - 1) = true; exact decide_eq_true (by omega)), rfl⟩
          · skip
            refine r_iload C 1 d_Unroller_passes_49 rfl ?_
            refine r_aload_n C 3 d_Unroller_passes_51 rfl rfl ?_
            refine r_get C 0 6 d_Unroller_passes_52 ci_Unroller fi_Unroller_32 rfl (by decide) rfl rfl ?_
            refine r_iconst C (nI 1) d_Unroller_passes_55 (by decide) ?_
            refine r_nsub C d_Unroller_passes_56 (by omega) ?_
            refine r_ncmp_ne C 64 d_Unroller_passes_57 (by decide) (by omega) (by omega) (fun c_57 => ?_) (fun c_57 => ?_)
            · skip
              refine r_iconst C (nI 0) d_Unroller_passes_64 (by decide) ?_
              refine r_istore C (lv' := [(6, .int (nI 0)), (5, .int (nI 1)), (4, .int (nI (c / uw))), (3, .int (nI (c % uw))), (0, .ref u), (1, .ref (g.2.2.1 14)), (2, .int (nI c))]) d_Unroller_passes_65 (by decide) rfl ?_
              obtain ⟨tW, hZW, hTW⟩ := C.2.2.2.2.2.2.2.1.2.2.2.2.1
              refine r_gets C d_Unroller_passes_67 hZW fs_Unroller_100 ?_
              refine r_aload_n C 5 d_Unroller_passes_70 rfl rfl ?_
              refine j_ord C (u := 14) (by first | decide | omega) d_Unroller_passes_71 (fit_of hR (by first | decide | (simp only [rmk]; omega)) (by first | decide | (simp only [rmk]; omega)) (by first | decide | (simp only [rmk]; omega)) (by first | decide | (simp only [rmk]; omega))) (cat8 (Nat.le_of_ble_eq_true rfl)) ?_
              refine r_ti C d_Unroller_passes_74 hTW (by first | decide | omega) (by decide) ?_
              refine r_eqS (st' := [.int (wSw.getD 14 0)]) rfl ?_
              refine r_tableIn C 114 d_Unroller_passes_75 (by decide) (by decide) rfl (by decide) ?_
              refine r_iload C 0 d_Unroller_passes_114 rfl ?_
              refine r_eqS (st' := [.int (bI false)]) rfl ?_
              refine r_bret C E d_Unroller_passes_116 (by first | decide | omega | (simp only [rmk]; omega)) (by first | decide | omega | (simp only [rmk]; omega)) ?_
              exact ⟨bsome (by symm; show decide (c % uw = 0 ∨ c / uw = 0 ∨ c % uw = uw - 1 ∨ c / uw = uh - 1) = false; exact decide_eq_false (by omega)), rfl⟩
            · skip
              refine r_iconst C (nI 1) d_Unroller_passes_60 (by decide) ?_
              refine r_goto C 65 d_Unroller_passes_61 (by decide) ?_
              refine r_istore C (lv' := [(6, .int (nI 1)), (5, .int (nI 1)), (4, .int (nI (c / uw))), (3, .int (nI (c % uw))), (0, .ref u), (1, .ref (g.2.2.1 14)), (2, .int (nI c))]) d_Unroller_passes_65 (by decide) rfl ?_
              obtain ⟨tW, hZW, hTW⟩ := C.2.2.2.2.2.2.2.1.2.2.2.2.1
              refine r_gets C d_Unroller_passes_67 hZW fs_Unroller_100 ?_
              refine r_aload_n C 5 d_Unroller_passes_70 rfl rfl ?_
              refine j_ord C (u := 14) (by first | decide | omega) d_Unroller_passes_71 (fit_of hR (by first | decide | (simp only [rmk]; omega)) (by first | decide | (simp only [rmk]; omega)) (by first | decide | (simp only [rmk]; omega)) (by first | decide | (simp only [rmk]; omega))) (cat8 (Nat.le_of_ble_eq_true rfl)) ?_
              refine r_ti C d_Unroller_passes_74 hTW (by first | decide | omega) (by decide) ?_
              refine r_eqS (st' := [.int (wSw.getD 14 0)]) rfl ?_
              refine r_tableIn C 114 d_Unroller_passes_75 (by decide) (by decide) rfl (by decide) ?_
              refine r_iload C 0 d_Unroller_passes_114 rfl ?_
              refine r_eqS (st' := [.int (bI true)]) rfl ?_
              refine r_bret C E d_Unroller_passes_116 (by first | decide | omega | (simp only [rmk]; omega)) (by first | decide | omega | (simp only [rmk]; omega)) ?_
              exact ⟨bsome (by symm; show decide (c % uw = 0 ∨ c / uw = 0 ∨ c % uw = uw - 1 ∨ c / uw = uh - 1) = true; exact decide_eq_true (by omega)), rfl⟩
  · skip
    refine r_aload_n C 0 d_Unroller_passes_0 rfl rfl ?_
    refine r_iload_n C 2 d_Unroller_passes_1 rfl rfl ?_
    refine j_callV C (c_Unroller_xOf g (xl x) (u := u) (s := s) (ss := ss) (la := la) (ke := ke) (lc := lc) (uw := uw) (uh := uh) (ri := ri) (mi := mi) (tm := tm) (c := c) (by first | assumption | rfl | omega) (by first | assumption | rfl | omega) (by first | assumption | rfl | omega)) (Sp.of (wr := []) [0] [] rfl rfl rfl rfl (by decide)) d_Unroller_passes_2 lk_Unroller_164 mw_Unroller_xOf vw_Unroller_xOf (q0 := 0) rfl rfl (fit_of hR (by first | decide | (simp only [rmk]; omega)) (by first | decide | (simp only [rmk]; omega)) (by first | decide | (simp only [rmk]; omega)) (by first | decide | (simp only [rmk]; omega))) rfl (cat8 (Nat.le_of_ble_eq_true rfl)) (As := [.int (nI c)]) (rest := []) rfl (fun r_2 w_2 hp_2 => ?_)
    obtain ⟨rfl, rfl⟩ := hp_2
    refine r_after (ws' := [(u, .inr (8, [.ref s, .ref ss, .ref la, .ref ke, .int (nI lc), .int (nI uw), .int (nI uh), .int (nI ri), .int mi, .int (bI tm)]))]) (st' := [.int (nI (c % uw))]) (n1 := 0) (n2 := 0) [0] rfl rfl rfl rfl rfl ?_
    refine r_istore_n C (lv' := [(3, .int (nI (c % uw))), (0, .ref u), (1, .ref (g.2.2.1 15)), (2, .int (nI c))]) d_Unroller_passes_5 rfl (by decide) rfl ?_
    refine r_aload_n C 1 d_Unroller_passes_6 rfl rfl ?_
    refine r_iload_n C 3 d_Unroller_passes_7 rfl rfl ?_
    refine j_callV C (c_Unroller_yOf g (xl x) (u := u) (s := s) (ss := ss) (la := la) (ke := ke) (lc := lc) (uw := uw) (uh := uh) (ri := ri) (mi := mi) (tm := tm) (c := c) (by first | assumption | rfl | omega) (by first | assumption | rfl | omega) (by first | assumption | rfl | omega)) (Sp.of (wr := []) [0] [] rfl rfl rfl rfl (by decide)) d_Unroller_passes_8 lk_Unroller_167 mw_Unroller_yOf vw_Unroller_yOf (q0 := 0) rfl rfl (fit_of hR (by first | decide | (simp only [rmk]; omega)) (by first | decide | (simp only [rmk]; omega)) (by first | decide | (simp only [rmk]; omega)) (by first | decide | (simp only [rmk]; omega))) rfl (cat8 (Nat.le_of_ble_eq_true rfl)) (As := [.int (nI c)]) (rest := []) rfl (fun r_8 w_8 hp_8 => ?_)
    obtain ⟨rfl, rfl⟩ := hp_8
    refine r_after (ws' := [(u, .inr (8, [.ref s, .ref ss, .ref la, .ref ke, .int (nI lc), .int (nI uw), .int (nI uh), .int (nI ri), .int mi, .int (bI tm)]))]) (st' := [.int (nI (c / uw))]) (n1 := 0) (n2 := 0) [0] rfl rfl rfl rfl rfl ?_
    refine r_istore C (lv' := [(4, .int (nI (c / uw))), (3, .int (nI (c % uw))), (0, .ref u), (1, .ref (g.2.2.1 15)), (2, .int (nI c))]) d_Unroller_passes_11 (by decide) rfl ?_
    refine r_iload_n C 1 d_Unroller_passes_13 rfl rfl ?_
    refine r_iload C 0 d_Unroller_passes_14 rfl ?_
    refine r_nadd C d_Unroller_passes_16 ?_
    refine r_iconst C (nI 2) d_Unroller_passes_17 (by decide) ?_
    refine r_nrem C d_Unroller_passes_18 (by omega) (by omega) (by omega) ?_
    refine r_iconst C (nI 1) d_Unroller_passes_19 (by decide) ?_
    refine r_ncmp_ne C 27 d_Unroller_passes_20 (by decide) (by omega) (by omega) (fun c_20 => ?_) (fun c_20 => ?_)
    · skip
      refine r_iconst C (nI 0) d_Unroller_passes_27 (by decide) ?_
      refine r_istore C (lv' := [(5, .int (nI 0)), (4, .int (nI (c / uw))), (3, .int (nI (c % uw))), (0, .ref u), (1, .ref (g.2.2.1 15)), (2, .int (nI c))]) d_Unroller_passes_28 (by decide) rfl ?_
      refine r_iload_n C 2 d_Unroller_passes_30 rfl rfl ?_
      refine r_nif_eq C 60 d_Unroller_passes_31 (by decide) (by omega) (fun c_31 => ?_) (fun c_31 => ?_)
      · skip
        refine r_iconst C (nI 1) d_Unroller_passes_60 (by decide) ?_
        refine r_goto C 65 d_Unroller_passes_61 (by decide) ?_
        refine r_istore C (lv' := [(6, .int (nI 1)), (5, .int (nI 0)), (4, .int (nI (c / uw))), (3, .int (nI (c % uw))), (0, .ref u), (1, .ref (g.2.2.1 15)), (2, .int (nI c))]) d_Unroller_passes_65 (by decide) rfl ?_
        obtain ⟨tW, hZW, hTW⟩ := C.2.2.2.2.2.2.2.1.2.2.2.2.1
        refine r_gets C d_Unroller_passes_67 hZW fs_Unroller_100 ?_
        refine r_aload_n C 5 d_Unroller_passes_70 rfl rfl ?_
        refine j_ord C (u := 15) (by first | decide | omega) d_Unroller_passes_71 (fit_of hR (by first | decide | (simp only [rmk]; omega)) (by first | decide | (simp only [rmk]; omega)) (by first | decide | (simp only [rmk]; omega)) (by first | decide | (simp only [rmk]; omega))) (cat8 (Nat.le_of_ble_eq_true rfl)) ?_
        refine r_ti C d_Unroller_passes_74 hTW (by first | decide | omega) (by decide) ?_
        refine r_eqS (st' := [.int (wSw.getD 15 0)]) rfl ?_
        refine r_tableOut C 117 d_Unroller_passes_75 (by decide) (by decide) ?_
        refine r_iload C 0 d_Unroller_passes_117 rfl ?_
        refine r_nif_ne C 126 d_Unroller_passes_119 (by decide) (by omega) (fun c_119 => ?_) (fun c_119 => ?_)
        rotate_left
        · exact absurd c_119 (by decide)
        refine r_iconst C (nI 0) d_Unroller_passes_126 (by decide) ?_
        refine r_eqS (st' := [.int (bI false)]) rfl ?_
        refine r_bret C E d_Unroller_passes_127 (by first | decide | omega | (simp only [rmk]; omega)) (by first | decide | omega | (simp only [rmk]; omega)) ?_
        exact ⟨bsome (by symm; show decide (¬ (c % uw = 0 ∨ c / uw = 0 ∨ c % uw = uw - 1 ∨ c / uw = uh - 1)) = false; exact decide_eq_false (by omega)), rfl⟩
      · skip
        refine r_iload C 1 d_Unroller_passes_34 rfl ?_
        refine r_nif_eq C 60 d_Unroller_passes_36 (by decide) (by omega) (fun c_36 => ?_) (fun c_36 => ?_)
        · skip
          refine r_iconst C (nI 1) d_Unroller_passes_60 (by decide) ?_
          refine r_goto C 65 d_Unroller_passes_61 (by decide) ?_
          refine r_istore C (lv' := [(6, .int (nI 1)), (5, .int (nI 0)), (4, .int (nI (c / uw))), (3, .int (nI (c % uw))), (0, .ref u), (1, .ref (g.2.2.1 15)), (2, .int (nI c))]) d_Unroller_passes_65 (by decide) rfl ?_
          obtain ⟨tW, hZW, hTW⟩ := C.2.2.2.2.2.2.2.1.2.2.2.2.1
          refine r_gets C d_Unroller_passes_67 hZW fs_Unroller_100 ?_
          refine r_aload_n C 5 d_Unroller_passes_70 rfl rfl ?_
          refine j_ord C (u := 15) (by first | decide | omega) d_Unroller_passes_71 (fit_of hR (by first | decide | (simp only [rmk]; omega)) (by first | decide | (simp only [rmk]; omega)) (by first | decide | (simp only [rmk]; omega)) (by first | decide | (simp only [rmk]; omega))) (cat8 (Nat.le_of_ble_eq_true rfl)) ?_
          refine r_ti C d_Unroller_passes_74 hTW (by first | decide | omega) (by decide) ?_
          refine r_eqS (st' := [.int (wSw.getD 15 0)]) rfl ?_
          refine r_tableOut C 117 d_Unroller_passes_75 (by decide) (by decide) ?_
          refine r_iload C 0 d_Unroller_passes_117 rfl ?_
          refine r_nif_ne C 126 d_Unroller_passes_119 (by decide) (by omega) (fun c_119 => ?_) (fun c_119 => ?_)
          rotate_left
          · exact absurd c_119 (by decide)
          refine r_iconst C (nI 0) d_Unroller_passes_126 (by decide) ?_
          refine r_eqS (st' := [.int (bI false)]) rfl ?_
          refine r_bret C E d_Unroller_passes_127 (by first | decide | omega | (simp only [rmk]; omega)) (by first | decide | omega | (simp only [rmk]; omega)) ?_
          exact ⟨bsome (by symm; show decide (¬ (c % uw = 0 ∨ c / uw = 0 ∨ c % uw = uw - 1 ∨ c / uw = uh - 1)) = false; exact decide_eq_false (by omega)), rfl⟩
        · skip
          refine r_iload_n C 2 d_Unroller_passes_39 rfl rfl ?_
          refine r_aload_n C 3 d_Unroller_passes_40 rfl rfl ?_
          refine r_get C 0 5 d_Unroller_passes_41 ci_Unroller fi_Unroller_28 rfl (by decide) rfl rfl ?_
          refine r_iconst C (nI 1) d_Unroller_passes_44 (by decide) ?_
          refine r_nsub C d_Unroller_passes_45 (by omega) ?_
          refine r_ncmp_eq C 60 d_Unroller_passes_46 (by decide) (by omega) (by omega) (fun c_46 => ?_) (fun c_46 => ?_)
          · skip
            refine r_iconst C (nI 1) d_Unroller_passes_60 (by decide) ?_
            refine r_goto C 65 d_Unroller_passes_61 (by decide) ?_
            refine r_istore C (lv' := [(6, .int (nI 1)), (5, .int (nI 0)), (4, .int (nI (c / uw))), (3, .int (nI (c % uw))), (0, .ref u), (1, .ref (g.2.2.1 15)), (2, .int (nI c))]) d_Unroller_passes_65 (by decide) rfl ?_
            obtain ⟨tW, hZW, hTW⟩ := C.2.2.2.2.2.2.2.1.2.2.2.2.1
            refine r_gets C d_Unroller_passes_67 hZW fs_Unroller_100 ?_
            refine r_aload_n C 5 d_Unroller_passes_70 rfl rfl ?_
            refine j_ord C (u := 15) (by first | decide | omega) d_Unroller_passes_71 (fit_of hR (by first | decide | (simp only [rmk]; omega)) (by first | decide | (simp only [rmk]; omega)) (by first | decide | (simp only [rmk]; omega)) (by first | decide | (simp only [rmk]; omega))) (cat8 (Nat.le_of_ble_eq_true rfl)) ?_
            refine r_ti C d_Unroller_passes_74 hTW (by first | decide | omega) (by decide) ?_
            refine r_eqS (st' := [.int (wSw.getD 15 0)]) rfl ?_
            refine r_tableOut C 117 d_Unroller_passes_75 (by decide) (by decide) ?_
            refine r_iload C 0 d_Unroller_passes_117 rfl ?_
            refine r_nif_ne C 126 d_Unroller_passes_119 (by decide) (by omega) (fun c_119 => ?_) (fun c_119 => ?_)
            rotate_left
            · exact absurd c_119 (by decide)
            refine r_iconst C (nI 0) d_Unroller_passes_126 (by decide) ?_
            refine r_eqS (st' := [.int (bI false)]) rfl ?_
            refine r_bret C E d_Unroller_passes_127 (by first | decide | omega | (simp only [rmk]; omega)) (by first | decide | omega | (simp only [rmk]; omega)) ?_
            exact ⟨bsome (by symm; show decide (¬ (c % uw = 0 ∨ c / uw = 0 ∨ c % uw = uw - 1 ∨ c / uw = uh - 1)) = false; exact decide_eq_false (by omega)), rfl⟩
          · skip
            refine r_iload C 1 d_Unroller_passes_49 rfl ?_
            refine r_aload_n C 3 d_Unroller_passes_51 rfl rfl ?_
            refine r_get C 0 6 d_Unroller_passes_52 ci_Unroller fi_Unroller_32 rfl (by decide) rfl rfl ?_
            refine r_iconst C (nI 1) d_Unroller_passes_55 (by decide) ?_
            refine r_nsub C d_Unroller_passes_56 (by omega) ?_
            refine r_ncmp_ne C 64 d_Unroller_passes_57 (by decide) (by omega) (by omega) (fun c_57 => ?_) (fun c_57 => ?_)
            · skip
              refine r_iconst C (nI 0) d_Unroller_passes_64 (by decide) ?_
              refine r_istore C (lv' := [(6, .int (nI 0)), (5, .int (nI 0)), (4, .int (nI (c / uw))), (3, .int (nI (c % uw))), (0, .ref u), (1, .ref (g.2.2.1 15)), (2, .int (nI c))]) d_Unroller_passes_65 (by decide) rfl ?_
              obtain ⟨tW, hZW, hTW⟩ := C.2.2.2.2.2.2.2.1.2.2.2.2.1
              refine r_gets C d_Unroller_passes_67 hZW fs_Unroller_100 ?_
              refine r_aload_n C 5 d_Unroller_passes_70 rfl rfl ?_
              refine j_ord C (u := 15) (by first | decide | omega) d_Unroller_passes_71 (fit_of hR (by first | decide | (simp only [rmk]; omega)) (by first | decide | (simp only [rmk]; omega)) (by first | decide | (simp only [rmk]; omega)) (by first | decide | (simp only [rmk]; omega))) (cat8 (Nat.le_of_ble_eq_true rfl)) ?_
              refine r_ti C d_Unroller_passes_74 hTW (by first | decide | omega) (by decide) ?_
              refine r_eqS (st' := [.int (wSw.getD 15 0)]) rfl ?_
              refine r_tableOut C 117 d_Unroller_passes_75 (by decide) (by decide) ?_
              refine r_iload C 0 d_Unroller_passes_117 rfl ?_
              refine r_nif_ne C 126 d_Unroller_passes_119 (by decide) (by omega) (fun c_119 => ?_) (fun c_119 => ?_)
              · exact absurd c_119 (by decide)
              refine r_iconst C (nI 1) d_Unroller_passes_122 (by decide) ?_
              refine r_goto C 127 d_Unroller_passes_123 (by decide) ?_
              refine r_eqS (st' := [.int (bI true)]) rfl ?_
              refine r_bret C E d_Unroller_passes_127 (by first | decide | omega | (simp only [rmk]; omega)) (by first | decide | omega | (simp only [rmk]; omega)) ?_
              exact ⟨bsome (by symm; show decide (¬ (c % uw = 0 ∨ c / uw = 0 ∨ c % uw = uw - 1 ∨ c / uw = uh - 1)) = true; exact decide_eq_true (by omega)), rfl⟩
            · skip
              refine r_iconst C (nI 1) d_Unroller_passes_60 (by decide) ?_
              refine r_goto C 65 d_Unroller_passes_61 (by decide) ?_
              refine r_istore C (lv' := [(6, .int (nI 1)), (5, .int (nI 0)), (4, .int (nI (c / uw))), (3, .int (nI (c % uw))), (0, .ref u), (1, .ref (g.2.2.1 15)), (2, .int (nI c))]) d_Unroller_passes_65 (by decide) rfl ?_
              obtain ⟨tW, hZW, hTW⟩ := C.2.2.2.2.2.2.2.1.2.2.2.2.1
              refine r_gets C d_Unroller_passes_67 hZW fs_Unroller_100 ?_
              refine r_aload_n C 5 d_Unroller_passes_70 rfl rfl ?_
              refine j_ord C (u := 15) (by first | decide | omega) d_Unroller_passes_71 (fit_of hR (by first | decide | (simp only [rmk]; omega)) (by first | decide | (simp only [rmk]; omega)) (by first | decide | (simp only [rmk]; omega)) (by first | decide | (simp only [rmk]; omega))) (cat8 (Nat.le_of_ble_eq_true rfl)) ?_
              refine r_ti C d_Unroller_passes_74 hTW (by first | decide | omega) (by decide) ?_
              refine r_eqS (st' := [.int (wSw.getD 15 0)]) rfl ?_
              refine r_tableOut C 117 d_Unroller_passes_75 (by decide) (by decide) ?_
              refine r_iload C 0 d_Unroller_passes_117 rfl ?_
              refine r_nif_ne C 126 d_Unroller_passes_119 (by decide) (by omega) (fun c_119 => ?_) (fun c_119 => ?_)
              rotate_left
              · exact absurd c_119 (by decide)
              refine r_iconst C (nI 0) d_Unroller_passes_126 (by decide) ?_
              refine r_eqS (st' := [.int (bI false)]) rfl ?_
              refine r_bret C E d_Unroller_passes_127 (by first | decide | omega | (simp only [rmk]; omega)) (by first | decide | omega | (simp only [rmk]; omega)) ?_
              exact ⟨bsome (by symm; show decide (¬ (c % uw = 0 ∨ c / uw = 0 ∨ c % uw = uw - 1 ∨ c / uw = uh - 1)) = false; exact decide_eq_false (by omega)), rfl⟩
    · skip
      refine r_iconst C (nI 1) d_Unroller_passes_23 (by decide) ?_
      refine r_goto C 28 d_Unroller_passes_24 (by decide) ?_
      refine r_istore C (lv' := [(5, .int (nI 1)), (4, .int (nI (c / uw))), (3, .int (nI (c % uw))), (0, .ref u), (1, .ref (g.2.2.1 15)), (2, .int (nI c))]) d_Unroller_passes_28 (by decide) rfl ?_
      refine r_iload_n C 2 d_Unroller_passes_30 rfl rfl ?_
      refine r_nif_eq C 60 d_Unroller_passes_31 (by decide) (by omega) (fun c_31 => ?_) (fun c_31 => ?_)
      · skip
        refine r_iconst C (nI 1) d_Unroller_passes_60 (by decide) ?_
        refine r_goto C 65 d_Unroller_passes_61 (by decide) ?_
        refine r_istore C (lv' := [(6, .int (nI 1)), (5, .int (nI 1)), (4, .int (nI (c / uw))), (3, .int (nI (c % uw))), (0, .ref u), (1, .ref (g.2.2.1 15)), (2, .int (nI c))]) d_Unroller_passes_65 (by decide) rfl ?_
        obtain ⟨tW, hZW, hTW⟩ := C.2.2.2.2.2.2.2.1.2.2.2.2.1
        refine r_gets C d_Unroller_passes_67 hZW fs_Unroller_100 ?_
        refine r_aload_n C 5 d_Unroller_passes_70 rfl rfl ?_
        refine j_ord C (u := 15) (by first | decide | omega) d_Unroller_passes_71 (fit_of hR (by first | decide | (simp only [rmk]; omega)) (by first | decide | (simp only [rmk]; omega)) (by first | decide | (simp only [rmk]; omega)) (by first | decide | (simp only [rmk]; omega))) (cat8 (Nat.le_of_ble_eq_true rfl)) ?_
        refine r_ti C d_Unroller_passes_74 hTW (by first | decide | omega) (by decide) ?_
        refine r_eqS (st' := [.int (wSw.getD 15 0)]) rfl ?_
        refine r_tableOut C 117 d_Unroller_passes_75 (by decide) (by decide) ?_
        refine r_iload C 0 d_Unroller_passes_117 rfl ?_
        refine r_nif_ne C 126 d_Unroller_passes_119 (by decide) (by omega) (fun c_119 => ?_) (fun c_119 => ?_)
        rotate_left
        · exact absurd c_119 (by decide)
        refine r_iconst C (nI 0) d_Unroller_passes_126 (by decide) ?_
        refine r_eqS (st' := [.int (bI false)]) rfl ?_
        refine r_bret C E d_Unroller_passes_127 (by first | decide | omega | (simp only [rmk]; omega)) (by first | decide | omega | (simp only [rmk]; omega)) ?_
        exact ⟨bsome (by symm; show decide (¬ (c % uw = 0 ∨ c / uw = 0 ∨ c % uw = uw - 1 ∨ c / uw = uh - 1)) = false; exact decide_eq_false (by omega)), rfl⟩
      · skip
        refine r_iload C 1 d_Unroller_passes_34 rfl ?_
        refine r_nif_eq C 60 d_Unroller_passes_36 (by decide) (by omega) (fun c_36 => ?_) (fun c_36 => ?_)
        · skip
          refine r_iconst C (nI 1) d_Unroller_passes_60 (by decide) ?_
          refine r_goto C 65 d_Unroller_passes_61 (by decide) ?_
          refine r_istore C (lv' := [(6, .int (nI 1)), (5, .int (nI 1)), (4, .int (nI (c / uw))), (3, .int (nI (c % uw))), (0, .ref u), (1, .ref (g.2.2.1 15)), (2, .int (nI c))]) d_Unroller_passes_65 (by decide) rfl ?_
          obtain ⟨tW, hZW, hTW⟩ := C.2.2.2.2.2.2.2.1.2.2.2.2.1
          refine r_gets C d_Unroller_passes_67 hZW fs_Unroller_100 ?_
          refine r_aload_n C 5 d_Unroller_passes_70 rfl rfl ?_
          refine j_ord C (u := 15) (by first | decide | omega) d_Unroller_passes_71 (fit_of hR (by first | decide | (simp only [rmk]; omega)) (by first | decide | (simp only [rmk]; omega)) (by first | decide | (simp only [rmk]; omega)) (by first | decide | (simp only [rmk]; omega))) (cat8 (Nat.le_of_ble_eq_true rfl)) ?_
          refine r_ti C d_Unroller_passes_74 hTW (by first | decide | omega) (by decide) ?_
          refine r_eqS (st' := [.int (wSw.getD 15 0)]) rfl ?_
          refine r_tableOut C 117 d_Unroller_passes_75 (by decide) (by decide) ?_
          refine r_iload C 0 d_Unroller_passes_117 rfl ?_
          refine r_nif_ne C 126 d_Unroller_passes_119 (by decide) (by omega) (fun c_119 => ?_) (fun c_119 => ?_)
          rotate_left
          · exact absurd c_119 (by decide)
          refine r_iconst C (nI 0) d_Unroller_passes_126 (by decide) ?_
          refine r_eqS (st' := [.int (bI false)]) rfl ?_
          refine r_bret C E d_Unroller_passes_127 (by first | decide | omega | (simp only [rmk]; omega)) (by first | decide | omega | (simp only [rmk]; omega)) ?_
          exact ⟨bsome (by symm; show decide (¬ (c % uw = 0 ∨ c / uw = 0 ∨ c % uw = uw - 1 ∨ c / uw = uh - 1)) = false; exact decide_eq_false (by omega)), rfl⟩
        · skip
          refine r_iload_n C 2 d_Unroller_passes_39 rfl rfl ?_
          refine r_aload_n C 3 d_Unroller_passes_40 rfl rfl ?_
          refine r_get C 0 5 d_Unroller_passes_41 ci_Unroller fi_Unroller_28 rfl (by decide) rfl rfl ?_
          refine r_iconst C (nI 1) d_Unroller_passes_44 (by decide) ?_
          refine r_nsub C d_Unroller_passes_45 (by omega) ?_
          refine r_ncmp_eq C 60 d_Unroller_passes_46 (by decide) (by omega) (by omega) (fun c_46 => ?_) (fun c_46 => ?_)
          · skip
            refine r_iconst C (nI 1) d_Unroller_passes_60 (by decide) ?_
            refine r_goto C 65 d_Unroller_passes_61 (by decide) ?_
            refine r_istore C (lv' := [(6, .int (nI 1)), (5, .int (nI 1)), (4, .int (nI (c / uw))), (3, .int (nI (c % uw))), (0, .ref u), (1, .ref (g.2.2.1 15)), (2, .int (nI c))]) d_Unroller_passes_65 (by decide) rfl ?_
            obtain ⟨tW, hZW, hTW⟩ := C.2.2.2.2.2.2.2.1.2.2.2.2.1
            refine r_gets C d_Unroller_passes_67 hZW fs_Unroller_100 ?_
            refine r_aload_n C 5 d_Unroller_passes_70 rfl rfl ?_
            refine j_ord C (u := 15) (by first | decide | omega) d_Unroller_passes_71 (fit_of hR (by first | decide | (simp only [rmk]; omega)) (by first | decide | (simp only [rmk]; omega)) (by first | decide | (simp only [rmk]; omega)) (by first | decide | (simp only [rmk]; omega))) (cat8 (Nat.le_of_ble_eq_true rfl)) ?_
            refine r_ti C d_Unroller_passes_74 hTW (by first | decide | omega) (by decide) ?_
            refine r_eqS (st' := [.int (wSw.getD 15 0)]) rfl ?_
            refine r_tableOut C 117 d_Unroller_passes_75 (by decide) (by decide) ?_
            refine r_iload C 0 d_Unroller_passes_117 rfl ?_
            refine r_nif_ne C 126 d_Unroller_passes_119 (by decide) (by omega) (fun c_119 => ?_) (fun c_119 => ?_)
            rotate_left
            · exact absurd c_119 (by decide)
            refine r_iconst C (nI 0) d_Unroller_passes_126 (by decide) ?_
            refine r_eqS (st' := [.int (bI false)]) rfl ?_
            refine r_bret C E d_Unroller_passes_127 (by first | decide | omega | (simp only [rmk]; omega)) (by first | decide | omega | (simp only [rmk]; omega)) ?_
            exact ⟨bsome (by symm; show decide (¬ (c % uw = 0 ∨ c / uw = 0 ∨ c % uw = uw - 1 ∨ c / uw = uh - 1)) = false; exact decide_eq_false (by omega)), rfl⟩
          · skip
            refine r_iload C 1 d_Unroller_passes_49 rfl ?_
            refine r_aload_n C 3 d_Unroller_passes_51 rfl rfl ?_
            refine r_get C 0 6 d_Unroller_passes_52 ci_Unroller fi_Unroller_32 rfl (by decide) rfl rfl ?_
            refine r_iconst C (nI 1) d_Unroller_passes_55 (by decide) ?_
            refine r_nsub C d_Unroller_passes_56 (by omega) ?_
            refine r_ncmp_ne C 64 d_Unroller_passes_57 (by decide) (by omega) (by omega) (fun c_57 => ?_) (fun c_57 => ?_)
            · skip
              refine r_iconst C (nI 0) d_Unroller_passes_64 (by decide) ?_
              refine r_istore C (lv' := [(6, .int (nI 0)), (5, .int (nI 1)), (4, .int (nI (c / uw))), (3, .int (nI (c % uw))), (0, .ref u), (1, .ref (g.2.2.1 15)), (2, .int (nI c))]) d_Unroller_passes_65 (by decide) rfl ?_
              obtain ⟨tW, hZW, hTW⟩ := C.2.2.2.2.2.2.2.1.2.2.2.2.1
              refine r_gets C d_Unroller_passes_67 hZW fs_Unroller_100 ?_
              refine r_aload_n C 5 d_Unroller_passes_70 rfl rfl ?_
              refine j_ord C (u := 15) (by first | decide | omega) d_Unroller_passes_71 (fit_of hR (by first | decide | (simp only [rmk]; omega)) (by first | decide | (simp only [rmk]; omega)) (by first | decide | (simp only [rmk]; omega)) (by first | decide | (simp only [rmk]; omega))) (cat8 (Nat.le_of_ble_eq_true rfl)) ?_
              refine r_ti C d_Unroller_passes_74 hTW (by first | decide | omega) (by decide) ?_
              refine r_eqS (st' := [.int (wSw.getD 15 0)]) rfl ?_
              refine r_tableOut C 117 d_Unroller_passes_75 (by decide) (by decide) ?_
              refine r_iload C 0 d_Unroller_passes_117 rfl ?_
              refine r_nif_ne C 126 d_Unroller_passes_119 (by decide) (by omega) (fun c_119 => ?_) (fun c_119 => ?_)
              · exact absurd c_119 (by decide)
              refine r_iconst C (nI 1) d_Unroller_passes_122 (by decide) ?_
              refine r_goto C 127 d_Unroller_passes_123 (by decide) ?_
              refine r_eqS (st' := [.int (bI true)]) rfl ?_
              refine r_bret C E d_Unroller_passes_127 (by first | decide | omega | (simp only [rmk]; omega)) (by first | decide | omega | (simp only [rmk]; omega)) ?_
              exact ⟨bsome (by symm; show decide (¬ (c % uw = 0 ∨ c / uw = 0 ∨ c % uw = uw - 1 ∨ c / uw = uh - 1)) = true; exact decide_eq_true (by omega)), rfl⟩
            · skip
              refine r_iconst C (nI 1) d_Unroller_passes_60 (by decide) ?_
              refine r_goto C 65 d_Unroller_passes_61 (by decide) ?_
              refine r_istore C (lv' := [(6, .int (nI 1)), (5, .int (nI 1)), (4, .int (nI (c / uw))), (3, .int (nI (c % uw))), (0, .ref u), (1, .ref (g.2.2.1 15)), (2, .int (nI c))]) d_Unroller_passes_65 (by decide) rfl ?_
              obtain ⟨tW, hZW, hTW⟩ := C.2.2.2.2.2.2.2.1.2.2.2.2.1
              refine r_gets C d_Unroller_passes_67 hZW fs_Unroller_100 ?_
              refine r_aload_n C 5 d_Unroller_passes_70 rfl rfl ?_
              refine j_ord C (u := 15) (by first | decide | omega) d_Unroller_passes_71 (fit_of hR (by first | decide | (simp only [rmk]; omega)) (by first | decide | (simp only [rmk]; omega)) (by first | decide | (simp only [rmk]; omega)) (by first | decide | (simp only [rmk]; omega))) (cat8 (Nat.le_of_ble_eq_true rfl)) ?_
              refine r_ti C d_Unroller_passes_74 hTW (by first | decide | omega) (by decide) ?_
              refine r_eqS (st' := [.int (wSw.getD 15 0)]) rfl ?_
              refine r_tableOut C 117 d_Unroller_passes_75 (by decide) (by decide) ?_
              refine r_iload C 0 d_Unroller_passes_117 rfl ?_
              refine r_nif_ne C 126 d_Unroller_passes_119 (by decide) (by omega) (fun c_119 => ?_) (fun c_119 => ?_)
              rotate_left
              · exact absurd c_119 (by decide)
              refine r_iconst C (nI 0) d_Unroller_passes_126 (by decide) ?_
              refine r_eqS (st' := [.int (bI false)]) rfl ?_
              refine r_bret C E d_Unroller_passes_127 (by first | decide | omega | (simp only [rmk]; omega)) (by first | decide | omega | (simp only [rmk]; omega)) ?_
              exact ⟨bsome (by symm; show decide (¬ (c % uw = 0 ∨ c / uw = 0 ∨ c % uw = uw - 1 ∨ c / uw = uh - 1)) = false; exact decide_eq_false (by omega)), rfl⟩
