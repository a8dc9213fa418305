/-- what the places of one part have in common, as the reference counts it -/
def grpN (uw w a b c : Nat) : Nat := if w = 1 then c / uw else if w = 2 then c % uw else if w = 3 then 16 * (c / uw / b) + c % uw / a else if w = 9 then c % uw + 16 - c / uw else c % uw + c / uw
theorem nI_s16 {a b : Nat} (h : b ≤ a + 16) : nI a - nI b + nI 16 = nI (a + 16 - b) := by
  rw [← pk_sub h, ← nI_add, Int32.sub_eq_add_neg, Int32.sub_eq_add_neg, Int32.add_assoc, Int32.add_comm (-nI b), ← Int32.add_assoc]
/-- a row more in the reference's arrays -/
def RowM (ST : Nat → Nat) (fr z rl : Nat) (RR RB PL : Nat → Nat) (rw pn : Nat) (ok : Bool) (RR2 RB2 PL2 : Nat → Nat) (rw2 : Nat) : Prop :=
  (z = 0 ∧ ok = true ∧ RR2 = RR ∧ RB2 = RB ∧ PL2 = PL ∧ rw2 = rw) ∨
  (0 < z ∧ rw < 4000 ∧ pn + z ≤ 30000 ∧ ok = true ∧ RR2 = up RR rw rl ∧ RB2 = up RB (rw + 1) (pn + z) ∧ rw2 = rw + 1 ∧ ∀ t, PL2 t = if pn ≤ t ∧ t < pn + z then ST (fr + (t - pn)) else PL t) ∨
  (0 < z ∧ ¬ (rw < 4000 ∧ pn + z ≤ 30000) ∧ ok = false ∧ RR2 = RR ∧ RB2 = RB ∧ PL2 = PL ∧ rw2 = rw)

set_option maxRecDepth 100000 in
theorem fi_Mo_221 : FI R_Mo 221 R_Mo F_Mo 36 := Or.inl (gw (i := 936) rfl rfl)
set_option maxRecDepth 100000 in
theorem fi_Mo_68 : FI R_Mo 68 R_Mo F_Mo 37 := Or.inl (gw (i := 937) rfl rfl)
set_option maxRecDepth 100000 in
theorem fi_Mo_71 : FI R_Mo 71 R_Mo F_Mo 38 := Or.inl (gw (i := 938) rfl rfl)
set_option maxRecDepth 100000 in
theorem fi_Mo_74 : FI R_Mo 74 R_Mo F_Mo 39 := Or.inl (gw (i := 939) rfl rfl)
set_option maxRecDepth 100000 in
theorem lk_Mo_224 : LK R_Mo 224 y_Mo_y := Or.inl (gw (i := 1171) rfl rfl)
set_option maxRecDepth 100000 in
theorem lk_Mo_228 : LK R_Mo 228 y_Mo_x := Or.inl (gw (i := 1167) rfl rfl)
set_option maxRecDepth 100000 in
theorem mw_Mo_x : MW y_Mo_x b_Mo_x 2 (some .int) 1 := ⟨(gw (i := 1170) rfl rfl), (gw (i := 80) rfl rfl), by decide +kernel⟩
set_option maxRecDepth 100000 in
theorem mw_Mo_y : MW y_Mo_y b_Mo_y 2 (some .int) 1 := ⟨(gw (i := 1174) rfl rfl), (gw (i := 80) rfl rfl), by decide +kernel⟩
set_option maxRecDepth 100000 in
theorem vw_Mo_x : VW y_Mo_x := ⟨(gw (i := 1169) rfl rfl), (gw (i := 63) rfl rfl)⟩
set_option maxRecDepth 100000 in
theorem vw_Mo_y : VW y_Mo_y := ⟨(gw (i := 1173) rfl rfl), (gw (i := 64) rfl rfl)⟩
theorem d_Mo_beginSet_0 : decode b_Mo_beginSet 0 = .ok (.aload_n 0, 1) := by decide +kernel
theorem d_Mo_beginSet_1 : decode b_Mo_beginSet 1 = .ok (.getfield 71, 3) := by decide +kernel
theorem d_Mo_beginSet_4 : decode b_Mo_beginSet 4 = .ok (.sipush 616, 3) := by decide +kernel
theorem d_Mo_beginSet_7 : decode b_Mo_beginSet 7 = .ok (.iload_n 1, 1) := by decide +kernel
theorem d_Mo_beginSet_8 : decode b_Mo_beginSet 8 = .ok (.imul, 1) := by decide +kernel
theorem d_Mo_beginSet_9 : decode b_Mo_beginSet 9 = .ok (.aload_n 0, 1) := by decide +kernel
theorem d_Mo_beginSet_10 : decode b_Mo_beginSet 10 = .ok (.getfield 74, 3) := by decide +kernel
theorem d_Mo_beginSet_13 : decode b_Mo_beginSet 13 = .ok (.iload_n 1, 1) := by decide +kernel
theorem d_Mo_beginSet_14 : decode b_Mo_beginSet 14 = .ok (.iaload, 1) := by decide +kernel
theorem d_Mo_beginSet_15 : decode b_Mo_beginSet 15 = .ok (.iadd, 1) := by decide +kernel
theorem d_Mo_beginSet_16 : decode b_Mo_beginSet 16 = .ok (.iconst 1, 1) := by decide +kernel
theorem d_Mo_beginSet_17 : decode b_Mo_beginSet 17 = .ok (.iadd, 1) := by decide +kernel
theorem d_Mo_beginSet_18 : decode b_Mo_beginSet 18 = .ok (.aload_n 0, 1) := by decide +kernel
theorem d_Mo_beginSet_19 : decode b_Mo_beginSet 19 = .ok (.getfield 71, 3) := by decide +kernel
theorem d_Mo_beginSet_22 : decode b_Mo_beginSet 22 = .ok (.sipush 616, 3) := by decide +kernel
theorem d_Mo_beginSet_25 : decode b_Mo_beginSet 25 = .ok (.iload_n 1, 1) := by decide +kernel
theorem d_Mo_beginSet_26 : decode b_Mo_beginSet 26 = .ok (.imul, 1) := by decide +kernel
theorem d_Mo_beginSet_27 : decode b_Mo_beginSet 27 = .ok (.aload_n 0, 1) := by decide +kernel
theorem d_Mo_beginSet_28 : decode b_Mo_beginSet 28 = .ok (.getfield 74, 3) := by decide +kernel
theorem d_Mo_beginSet_31 : decode b_Mo_beginSet 31 = .ok (.iload_n 1, 1) := by decide +kernel
theorem d_Mo_beginSet_32 : decode b_Mo_beginSet 32 = .ok (.iaload, 1) := by decide +kernel
theorem d_Mo_beginSet_33 : decode b_Mo_beginSet 33 = .ok (.iadd, 1) := by decide +kernel
theorem d_Mo_beginSet_34 : decode b_Mo_beginSet 34 = .ok (.iaload, 1) := by decide +kernel
theorem d_Mo_beginSet_35 : decode b_Mo_beginSet 35 = .ok (.iastore, 1) := by decide +kernel
theorem d_Mo_beginSet_36 : decode b_Mo_beginSet 36 = .ok (.return_, 1) := by decide +kernel
theorem d_Mo_add_0 : decode b_Mo_add 0 = .ok (.sipush 616, 3) := by decide +kernel
theorem d_Mo_add_3 : decode b_Mo_add 3 = .ok (.iload_n 1, 1) := by decide +kernel
theorem d_Mo_add_4 : decode b_Mo_add 4 = .ok (.imul, 1) := by decide +kernel
theorem d_Mo_add_5 : decode b_Mo_add 5 = .ok (.aload_n 0, 1) := by decide +kernel
theorem d_Mo_add_6 : decode b_Mo_add 6 = .ok (.getfield 74, 3) := by decide +kernel
theorem d_Mo_add_9 : decode b_Mo_add 9 = .ok (.iload_n 1, 1) := by decide +kernel
theorem d_Mo_add_10 : decode b_Mo_add 10 = .ok (.iaload, 1) := by decide +kernel
theorem d_Mo_add_11 : decode b_Mo_add 11 = .ok (.iadd, 1) := by decide +kernel
theorem d_Mo_add_12 : decode b_Mo_add 12 = .ok (.iconst 1, 1) := by decide +kernel
theorem d_Mo_add_13 : decode b_Mo_add 13 = .ok (.iadd, 1) := by decide +kernel
theorem d_Mo_add_14 : decode b_Mo_add 14 = .ok (.istore_n 3, 1) := by decide +kernel
theorem d_Mo_add_15 : decode b_Mo_add 15 = .ok (.aload_n 0, 1) := by decide +kernel
theorem d_Mo_add_16 : decode b_Mo_add 16 = .ok (.getfield 68, 3) := by decide +kernel
theorem d_Mo_add_19 : decode b_Mo_add 19 = .ok (.sipush 17000, 3) := by decide +kernel
theorem d_Mo_add_22 : decode b_Mo_add 22 = .ok (.iload_n 1, 1) := by decide +kernel
theorem d_Mo_add_23 : decode b_Mo_add 23 = .ok (.imul, 1) := by decide +kernel
theorem d_Mo_add_24 : decode b_Mo_add 24 = .ok (.aload_n 0, 1) := by decide +kernel
theorem d_Mo_add_25 : decode b_Mo_add 25 = .ok (.getfield 71, 3) := by decide +kernel
theorem d_Mo_add_28 : decode b_Mo_add 28 = .ok (.iload_n 3, 1) := by decide +kernel
theorem d_Mo_add_29 : decode b_Mo_add 29 = .ok (.iaload, 1) := by decide +kernel
theorem d_Mo_add_30 : decode b_Mo_add 30 = .ok (.iadd, 1) := by decide +kernel
theorem d_Mo_add_31 : decode b_Mo_add 31 = .ok (.iload_n 2, 1) := by decide +kernel
theorem d_Mo_add_32 : decode b_Mo_add 32 = .ok (.iastore, 1) := by decide +kernel
theorem d_Mo_add_33 : decode b_Mo_add 33 = .ok (.aload_n 0, 1) := by decide +kernel
theorem d_Mo_add_34 : decode b_Mo_add 34 = .ok (.getfield 71, 3) := by decide +kernel
theorem d_Mo_add_37 : decode b_Mo_add 37 = .ok (.iload_n 3, 1) := by decide +kernel
theorem d_Mo_add_38 : decode b_Mo_add 38 = .ok (.dup2, 1) := by decide +kernel
theorem d_Mo_add_39 : decode b_Mo_add 39 = .ok (.iaload, 1) := by decide +kernel
theorem d_Mo_add_40 : decode b_Mo_add 40 = .ok (.iconst 1, 1) := by decide +kernel
theorem d_Mo_add_41 : decode b_Mo_add 41 = .ok (.iadd, 1) := by decide +kernel
theorem d_Mo_add_42 : decode b_Mo_add 42 = .ok (.iastore, 1) := by decide +kernel
theorem d_Mo_add_43 : decode b_Mo_add 43 = .ok (.return_, 1) := by decide +kernel
theorem d_Mo_endSet_0 : decode b_Mo_endSet 0 = .ok (.aload_n 0, 1) := by decide +kernel
theorem d_Mo_endSet_1 : decode b_Mo_endSet 1 = .ok (.getfield 74, 3) := by decide +kernel
theorem d_Mo_endSet_4 : decode b_Mo_endSet 4 = .ok (.iload_n 1, 1) := by decide +kernel
theorem d_Mo_endSet_5 : decode b_Mo_endSet 5 = .ok (.dup2, 1) := by decide +kernel
theorem d_Mo_endSet_6 : decode b_Mo_endSet 6 = .ok (.iaload, 1) := by decide +kernel
theorem d_Mo_endSet_7 : decode b_Mo_endSet 7 = .ok (.iconst 1, 1) := by decide +kernel
theorem d_Mo_endSet_8 : decode b_Mo_endSet 8 = .ok (.iadd, 1) := by decide +kernel
theorem d_Mo_endSet_9 : decode b_Mo_endSet 9 = .ok (.iastore, 1) := by decide +kernel
theorem d_Mo_endSet_10 : decode b_Mo_endSet 10 = .ok (.aload_n 0, 1) := by decide +kernel
theorem d_Mo_endSet_11 : decode b_Mo_endSet 11 = .ok (.dup, 1) := by decide +kernel
theorem d_Mo_endSet_12 : decode b_Mo_endSet 12 = .ok (.getfield 221, 3) := by decide +kernel
theorem d_Mo_endSet_15 : decode b_Mo_endSet 15 = .ok (.iconst 1, 1) := by decide +kernel
theorem d_Mo_endSet_16 : decode b_Mo_endSet 16 = .ok (.iadd, 1) := by decide +kernel
theorem d_Mo_endSet_17 : decode b_Mo_endSet 17 = .ok (.putfield 221, 3) := by decide +kernel
theorem d_Mo_endSet_20 : decode b_Mo_endSet 20 = .ok (.return_, 1) := by decide +kernel
theorem d_Mo_groupOf_0 : decode b_Mo_groupOf 0 = .ok (.iload_n 1, 1) := by decide +kernel
theorem d_Mo_groupOf_1 : decode b_Mo_groupOf 1 = .ok (.iconst 1, 1) := by decide +kernel
theorem d_Mo_groupOf_2 : decode b_Mo_groupOf 2 = .ok (.if_icmp .ne 10, 3) := by decide +kernel
theorem d_Mo_groupOf_5 : decode b_Mo_groupOf 5 = .ok (.aload_n 0, 1) := by decide +kernel
theorem d_Mo_groupOf_6 : decode b_Mo_groupOf 6 = .ok (.iload 4, 2) := by decide +kernel
theorem d_Mo_groupOf_8 : decode b_Mo_groupOf 8 = .ok (.invokevirtual 224, 3) := by decide +kernel
theorem d_Mo_groupOf_11 : decode b_Mo_groupOf 11 = .ok (.ireturn, 1) := by decide +kernel
theorem d_Mo_groupOf_12 : decode b_Mo_groupOf 12 = .ok (.iload_n 1, 1) := by decide +kernel
theorem d_Mo_groupOf_13 : decode b_Mo_groupOf 13 = .ok (.iconst 2, 1) := by decide +kernel
theorem d_Mo_groupOf_14 : decode b_Mo_groupOf 14 = .ok (.if_icmp .ne 10, 3) := by decide +kernel
theorem d_Mo_groupOf_17 : decode b_Mo_groupOf 17 = .ok (.aload_n 0, 1) := by decide +kernel
theorem d_Mo_groupOf_18 : decode b_Mo_groupOf 18 = .ok (.iload 4, 2) := by decide +kernel
theorem d_Mo_groupOf_20 : decode b_Mo_groupOf 20 = .ok (.invokevirtual 228, 3) := by decide +kernel
theorem d_Mo_groupOf_23 : decode b_Mo_groupOf 23 = .ok (.ireturn, 1) := by decide +kernel
theorem d_Mo_groupOf_24 : decode b_Mo_groupOf 24 = .ok (.iload_n 1, 1) := by decide +kernel
theorem d_Mo_groupOf_25 : decode b_Mo_groupOf 25 = .ok (.iconst 3, 1) := by decide +kernel
theorem d_Mo_groupOf_26 : decode b_Mo_groupOf 26 = .ok (.if_icmp .ne 24, 3) := by decide +kernel
theorem d_Mo_groupOf_29 : decode b_Mo_groupOf 29 = .ok (.bipush 16, 2) := by decide +kernel
theorem d_Mo_groupOf_31 : decode b_Mo_groupOf 31 = .ok (.aload_n 0, 1) := by decide +kernel
theorem d_Mo_groupOf_32 : decode b_Mo_groupOf 32 = .ok (.iload 4, 2) := by decide +kernel
theorem d_Mo_groupOf_34 : decode b_Mo_groupOf 34 = .ok (.invokevirtual 224, 3) := by decide +kernel
theorem d_Mo_groupOf_37 : decode b_Mo_groupOf 37 = .ok (.iload_n 3, 1) := by decide +kernel
theorem d_Mo_groupOf_38 : decode b_Mo_groupOf 38 = .ok (.idiv, 1) := by decide +kernel
theorem d_Mo_groupOf_39 : decode b_Mo_groupOf 39 = .ok (.imul, 1) := by decide +kernel
theorem d_Mo_groupOf_40 : decode b_Mo_groupOf 40 = .ok (.aload_n 0, 1) := by decide +kernel
theorem d_Mo_groupOf_41 : decode b_Mo_groupOf 41 = .ok (.iload 4, 2) := by decide +kernel
theorem d_Mo_groupOf_43 : decode b_Mo_groupOf 43 = .ok (.invokevirtual 228, 3) := by decide +kernel
theorem d_Mo_groupOf_46 : decode b_Mo_groupOf 46 = .ok (.iload_n 2, 1) := by decide +kernel
theorem d_Mo_groupOf_47 : decode b_Mo_groupOf 47 = .ok (.idiv, 1) := by decide +kernel
theorem d_Mo_groupOf_48 : decode b_Mo_groupOf 48 = .ok (.iadd, 1) := by decide +kernel
theorem d_Mo_groupOf_49 : decode b_Mo_groupOf 49 = .ok (.ireturn, 1) := by decide +kernel
theorem d_Mo_groupOf_50 : decode b_Mo_groupOf 50 = .ok (.iload_n 1, 1) := by decide +kernel
theorem d_Mo_groupOf_51 : decode b_Mo_groupOf 51 = .ok (.bipush 9, 2) := by decide +kernel
theorem d_Mo_groupOf_53 : decode b_Mo_groupOf 53 = .ok (.if_icmp .ne 22, 3) := by decide +kernel
theorem d_Mo_groupOf_56 : decode b_Mo_groupOf 56 = .ok (.aload_n 0, 1) := by decide +kernel
theorem d_Mo_groupOf_57 : decode b_Mo_groupOf 57 = .ok (.iload 4, 2) := by decide +kernel
theorem d_Mo_groupOf_59 : decode b_Mo_groupOf 59 = .ok (.invokevirtual 228, 3) := by decide +kernel
theorem d_Mo_groupOf_62 : decode b_Mo_groupOf 62 = .ok (.aload_n 0, 1) := by decide +kernel
theorem d_Mo_groupOf_63 : decode b_Mo_groupOf 63 = .ok (.iload 4, 2) := by decide +kernel
theorem d_Mo_groupOf_65 : decode b_Mo_groupOf 65 = .ok (.invokevirtual 224, 3) := by decide +kernel
theorem d_Mo_groupOf_68 : decode b_Mo_groupOf 68 = .ok (.isub, 1) := by decide +kernel
theorem d_Mo_groupOf_69 : decode b_Mo_groupOf 69 = .ok (.bipush 16, 2) := by decide +kernel
theorem d_Mo_groupOf_71 : decode b_Mo_groupOf 71 = .ok (.iadd, 1) := by decide +kernel
theorem d_Mo_groupOf_72 : decode b_Mo_groupOf 72 = .ok (.goto 16, 3) := by decide +kernel
theorem d_Mo_groupOf_75 : decode b_Mo_groupOf 75 = .ok (.aload_n 0, 1) := by decide +kernel
theorem d_Mo_groupOf_76 : decode b_Mo_groupOf 76 = .ok (.iload 4, 2) := by decide +kernel
theorem d_Mo_groupOf_78 : decode b_Mo_groupOf 78 = .ok (.invokevirtual 228, 3) := by decide +kernel
theorem d_Mo_groupOf_81 : decode b_Mo_groupOf 81 = .ok (.aload_n 0, 1) := by decide +kernel
theorem d_Mo_groupOf_82 : decode b_Mo_groupOf 82 = .ok (.iload 4, 2) := by decide +kernel
theorem d_Mo_groupOf_84 : decode b_Mo_groupOf 84 = .ok (.invokevirtual 224, 3) := by decide +kernel
theorem d_Mo_groupOf_87 : decode b_Mo_groupOf 87 = .ok (.iadd, 1) := by decide +kernel
theorem d_Mo_groupOf_88 : decode b_Mo_groupOf 88 = .ok (.ireturn, 1) := by decide +kernel
theorem d_Mo_isBySide_0 : decode b_Mo_isBySide 0 = .ok (.iload_n 0, 1) := by decide +kernel
theorem d_Mo_isBySide_1 : decode b_Mo_isBySide 1 = .ok (.iload_n 0, 1) := by decide +kernel
theorem d_Mo_isBySide_2 : decode b_Mo_isBySide 2 = .ok (.imul, 1) := by decide +kernel
theorem d_Mo_isBySide_3 : decode b_Mo_isBySide 3 = .ok (.iload_n 1, 1) := by decide +kernel
theorem d_Mo_isBySide_4 : decode b_Mo_isBySide 4 = .ok (.iload_n 1, 1) := by decide +kernel
theorem d_Mo_isBySide_5 : decode b_Mo_isBySide 5 = .ok (.imul, 1) := by decide +kernel
theorem d_Mo_isBySide_6 : decode b_Mo_isBySide 6 = .ok (.iadd, 1) := by decide +kernel
theorem d_Mo_isBySide_7 : decode b_Mo_isBySide 7 = .ok (.iconst 1, 1) := by decide +kernel
theorem d_Mo_isBySide_8 : decode b_Mo_isBySide 8 = .ok (.if_icmp .ne 7, 3) := by decide +kernel
theorem d_Mo_isBySide_11 : decode b_Mo_isBySide 11 = .ok (.iconst 1, 1) := by decide +kernel
theorem d_Mo_isBySide_12 : decode b_Mo_isBySide 12 = .ok (.goto 4, 3) := by decide +kernel
theorem d_Mo_isBySide_15 : decode b_Mo_isBySide 15 = .ok (.iconst 0, 1) := by decide +kernel
theorem d_Mo_isBySide_16 : decode b_Mo_isBySide 16 = .ok (.ireturn, 1) := by decide +kernel
theorem d_Mo_passes_0 : decode b_Mo_passes 0 = .ok (.iload_n 1, 1) := by decide +kernel
theorem d_Mo_passes_1 : decode b_Mo_passes 1 = .ok (.bipush 11, 2) := by decide +kernel
theorem d_Mo_passes_3 : decode b_Mo_passes 3 = .ok (.if_icmp .eq 9, 3) := by decide +kernel
theorem d_Mo_passes_6 : decode b_Mo_passes 6 = .ok (.iload_n 1, 1) := by decide +kernel
theorem d_Mo_passes_7 : decode b_Mo_passes 7 = .ok (.bipush 12, 2) := by decide +kernel
theorem d_Mo_passes_9 : decode b_Mo_passes 9 = .ok (.if_icmp .ne 36, 3) := by decide +kernel
theorem d_Mo_passes_12 : decode b_Mo_passes 12 = .ok (.aload_n 0, 1) := by decide +kernel
theorem d_Mo_passes_13 : decode b_Mo_passes 13 = .ok (.iload_n 2, 1) := by decide +kernel
theorem d_Mo_passes_14 : decode b_Mo_passes 14 = .ok (.invokevirtual 228, 3) := by decide +kernel
theorem d_Mo_passes_17 : decode b_Mo_passes 17 = .ok (.aload_n 0, 1) := by decide +kernel
theorem d_Mo_passes_18 : decode b_Mo_passes 18 = .ok (.iload_n 2, 1) := by decide +kernel
theorem d_Mo_passes_19 : decode b_Mo_passes 19 = .ok (.invokevirtual 224, 3) := by decide +kernel
theorem d_Mo_passes_22 : decode b_Mo_passes 22 = .ok (.iadd, 1) := by decide +kernel
theorem d_Mo_passes_23 : decode b_Mo_passes 23 = .ok (.iconst 2, 1) := by decide +kernel
theorem d_Mo_passes_24 : decode b_Mo_passes 24 = .ok (.irem, 1) := by decide +kernel
theorem d_Mo_passes_25 : decode b_Mo_passes 25 = .ok (.iload_n 1, 1) := by decide +kernel
theorem d_Mo_passes_26 : decode b_Mo_passes 26 = .ok (.bipush 11, 2) := by decide +kernel
theorem d_Mo_passes_28 : decode b_Mo_passes 28 = .ok (.if_icmp .ne 7, 3) := by decide +kernel
theorem d_Mo_passes_31 : decode b_Mo_passes 31 = .ok (.iconst 1, 1) := by decide +kernel
theorem d_Mo_passes_32 : decode b_Mo_passes 32 = .ok (.goto 4, 3) := by decide +kernel
theorem d_Mo_passes_35 : decode b_Mo_passes 35 = .ok (.iconst 0, 1) := by decide +kernel
theorem d_Mo_passes_36 : decode b_Mo_passes 36 = .ok (.if_icmp .ne 7, 3) := by decide +kernel
theorem d_Mo_passes_39 : decode b_Mo_passes 39 = .ok (.iconst 1, 1) := by decide +kernel
theorem d_Mo_passes_40 : decode b_Mo_passes 40 = .ok (.goto 4, 3) := by decide +kernel
theorem d_Mo_passes_43 : decode b_Mo_passes 43 = .ok (.iconst 0, 1) := by decide +kernel
theorem d_Mo_passes_44 : decode b_Mo_passes 44 = .ok (.ireturn, 1) := by decide +kernel
theorem d_Mo_passes_45 : decode b_Mo_passes 45 = .ok (.aload_n 0, 1) := by decide +kernel
theorem d_Mo_passes_46 : decode b_Mo_passes 46 = .ok (.iload_n 2, 1) := by decide +kernel
theorem d_Mo_passes_47 : decode b_Mo_passes 47 = .ok (.invokevirtual 228, 3) := by decide +kernel
theorem d_Mo_passes_50 : decode b_Mo_passes 50 = .ok (.ifCond .eq 39, 3) := by decide +kernel
theorem d_Mo_passes_53 : decode b_Mo_passes 53 = .ok (.aload_n 0, 1) := by decide +kernel
theorem d_Mo_passes_54 : decode b_Mo_passes 54 = .ok (.iload_n 2, 1) := by decide +kernel
theorem d_Mo_passes_55 : decode b_Mo_passes 55 = .ok (.invokevirtual 224, 3) := by decide +kernel
theorem d_Mo_passes_58 : decode b_Mo_passes 58 = .ok (.ifCond .eq 31, 3) := by decide +kernel
theorem d_Mo_passes_61 : decode b_Mo_passes 61 = .ok (.aload_n 0, 1) := by decide +kernel
theorem d_Mo_passes_62 : decode b_Mo_passes 62 = .ok (.iload_n 2, 1) := by decide +kernel
theorem d_Mo_passes_63 : decode b_Mo_passes 63 = .ok (.invokevirtual 228, 3) := by decide +kernel
theorem d_Mo_passes_66 : decode b_Mo_passes 66 = .ok (.aload_n 0, 1) := by decide +kernel
theorem d_Mo_passes_67 : decode b_Mo_passes 67 = .ok (.getfield 218, 3) := by decide +kernel
theorem d_Mo_passes_70 : decode b_Mo_passes 70 = .ok (.iconst 1, 1) := by decide +kernel
theorem d_Mo_passes_71 : decode b_Mo_passes 71 = .ok (.isub, 1) := by decide +kernel
theorem d_Mo_passes_72 : decode b_Mo_passes 72 = .ok (.if_icmp .eq 17, 3) := by decide +kernel
theorem d_Mo_passes_75 : decode b_Mo_passes 75 = .ok (.aload_n 0, 1) := by decide +kernel
theorem d_Mo_passes_76 : decode b_Mo_passes 76 = .ok (.iload_n 2, 1) := by decide +kernel
theorem d_Mo_passes_77 : decode b_Mo_passes 77 = .ok (.invokevirtual 224, 3) := by decide +kernel
theorem d_Mo_passes_80 : decode b_Mo_passes 80 = .ok (.aload_n 0, 1) := by decide +kernel
theorem d_Mo_passes_81 : decode b_Mo_passes 81 = .ok (.getfield 231, 3) := by decide +kernel
theorem d_Mo_passes_84 : decode b_Mo_passes 84 = .ok (.iconst 1, 1) := by decide +kernel
theorem d_Mo_passes_85 : decode b_Mo_passes 85 = .ok (.isub, 1) := by decide +kernel
theorem d_Mo_passes_86 : decode b_Mo_passes 86 = .ok (.if_icmp .ne 7, 3) := by decide +kernel
theorem d_Mo_passes_89 : decode b_Mo_passes 89 = .ok (.iconst 1, 1) := by decide +kernel
theorem d_Mo_passes_90 : decode b_Mo_passes 90 = .ok (.goto 4, 3) := by decide +kernel
theorem d_Mo_passes_93 : decode b_Mo_passes 93 = .ok (.iconst 0, 1) := by decide +kernel
theorem d_Mo_passes_94 : decode b_Mo_passes 94 = .ok (.istore_n 3, 1) := by decide +kernel
theorem d_Mo_passes_95 : decode b_Mo_passes 95 = .ok (.iload_n 3, 1) := by decide +kernel
theorem d_Mo_passes_96 : decode b_Mo_passes 96 = .ok (.iload_n 1, 1) := by decide +kernel
theorem d_Mo_passes_97 : decode b_Mo_passes 97 = .ok (.bipush 13, 2) := by decide +kernel
theorem d_Mo_passes_99 : decode b_Mo_passes 99 = .ok (.if_icmp .ne 7, 3) := by decide +kernel
theorem d_Mo_passes_102 : decode b_Mo_passes 102 = .ok (.iconst 1, 1) := by decide +kernel
theorem d_Mo_passes_103 : decode b_Mo_passes 103 = .ok (.goto 4, 3) := by decide +kernel
theorem d_Mo_passes_106 : decode b_Mo_passes 106 = .ok (.iconst 0, 1) := by decide +kernel
theorem d_Mo_passes_107 : decode b_Mo_passes 107 = .ok (.if_icmp .ne 7, 3) := by decide +kernel
theorem d_Mo_passes_110 : decode b_Mo_passes 110 = .ok (.iconst 1, 1) := by decide +kernel
theorem d_Mo_passes_111 : decode b_Mo_passes 111 = .ok (.goto 4, 3) := by decide +kernel
theorem d_Mo_passes_114 : decode b_Mo_passes 114 = .ok (.iconst 0, 1) := by decide +kernel
theorem d_Mo_passes_115 : decode b_Mo_passes 115 = .ok (.ireturn, 1) := by decide +kernel
theorem d_Mo_addRow_0 : decode b_Mo_addRow 0 = .ok (.iload_n 3, 1) := by decide +kernel
theorem d_Mo_addRow_1 : decode b_Mo_addRow 1 = .ok (.ifCond .ne 5, 3) := by decide +kernel
theorem d_Mo_addRow_4 : decode b_Mo_addRow 4 = .ok (.iconst 1, 1) := by decide +kernel
theorem d_Mo_addRow_5 : decode b_Mo_addRow 5 = .ok (.ireturn, 1) := by decide +kernel
theorem d_Mo_addRow_6 : decode b_Mo_addRow 6 = .ok (.aload_n 0, 1) := by decide +kernel
theorem d_Mo_addRow_7 : decode b_Mo_addRow 7 = .ok (.getfield 260, 3) := by decide +kernel
theorem d_Mo_addRow_10 : decode b_Mo_addRow 10 = .ok (.sipush 4000, 3) := by decide +kernel
theorem d_Mo_addRow_13 : decode b_Mo_addRow 13 = .ok (.if_icmp .eq 20, 3) := by decide +kernel
theorem d_Mo_addRow_16 : decode b_Mo_addRow 16 = .ok (.aload_n 0, 1) := by decide +kernel
theorem d_Mo_addRow_17 : decode b_Mo_addRow 17 = .ok (.getfield 61, 3) := by decide +kernel
theorem d_Mo_addRow_20 : decode b_Mo_addRow 20 = .ok (.aload_n 0, 1) := by decide +kernel
theorem d_Mo_addRow_21 : decode b_Mo_addRow 21 = .ok (.getfield 260, 3) := by decide +kernel
theorem d_Mo_addRow_24 : decode b_Mo_addRow 24 = .ok (.iaload, 1) := by decide +kernel
theorem d_Mo_addRow_25 : decode b_Mo_addRow 25 = .ok (.iload_n 3, 1) := by decide +kernel
theorem d_Mo_addRow_26 : decode b_Mo_addRow 26 = .ok (.iadd, 1) := by decide +kernel
theorem d_Mo_addRow_27 : decode b_Mo_addRow 27 = .ok (.sipush 30000, 3) := by decide +kernel
theorem d_Mo_addRow_30 : decode b_Mo_addRow 30 = .ok (.if_icmp .le 5, 3) := by decide +kernel
theorem d_Mo_addRow_33 : decode b_Mo_addRow 33 = .ok (.iconst 0, 1) := by decide +kernel
theorem d_Mo_addRow_34 : decode b_Mo_addRow 34 = .ok (.ireturn, 1) := by decide +kernel
theorem d_Mo_addRow_35 : decode b_Mo_addRow 35 = .ok (.aload_n 0, 1) := by decide +kernel
theorem d_Mo_addRow_36 : decode b_Mo_addRow 36 = .ok (.getfield 58, 3) := by decide +kernel
theorem d_Mo_addRow_39 : decode b_Mo_addRow 39 = .ok (.aload_n 0, 1) := by decide +kernel
theorem d_Mo_addRow_40 : decode b_Mo_addRow 40 = .ok (.getfield 260, 3) := by decide +kernel
theorem d_Mo_addRow_43 : decode b_Mo_addRow 43 = .ok (.iload_n 1, 1) := by decide +kernel
theorem d_Mo_addRow_44 : decode b_Mo_addRow 44 = .ok (.iastore, 1) := by decide +kernel
theorem d_Mo_addRow_45 : decode b_Mo_addRow 45 = .ok (.iconst 0, 1) := by decide +kernel
theorem d_Mo_addRow_46 : decode b_Mo_addRow 46 = .ok (.istore 4, 2) := by decide +kernel
theorem d_Mo_addRow_48 : decode b_Mo_addRow 48 = .ok (.iload 4, 2) := by decide +kernel
theorem d_Mo_addRow_50 : decode b_Mo_addRow 50 = .ok (.iload_n 3, 1) := by decide +kernel
theorem d_Mo_addRow_51 : decode b_Mo_addRow 51 = .ok (.if_icmp .ge 35, 3) := by decide +kernel
theorem d_Mo_addRow_54 : decode b_Mo_addRow 54 = .ok (.aload_n 0, 1) := by decide +kernel
theorem d_Mo_addRow_55 : decode b_Mo_addRow 55 = .ok (.getfield 64, 3) := by decide +kernel
theorem d_Mo_addRow_58 : decode b_Mo_addRow 58 = .ok (.aload_n 0, 1) := by decide +kernel
theorem d_Mo_addRow_59 : decode b_Mo_addRow 59 = .ok (.getfield 61, 3) := by decide +kernel
theorem d_Mo_addRow_62 : decode b_Mo_addRow 62 = .ok (.aload_n 0, 1) := by decide +kernel
theorem d_Mo_addRow_63 : decode b_Mo_addRow 63 = .ok (.getfield 260, 3) := by decide +kernel
theorem d_Mo_addRow_66 : decode b_Mo_addRow 66 = .ok (.iaload, 1) := by decide +kernel
theorem d_Mo_addRow_67 : decode b_Mo_addRow 67 = .ok (.iload 4, 2) := by decide +kernel
theorem d_Mo_addRow_69 : decode b_Mo_addRow 69 = .ok (.iadd, 1) := by decide +kernel
theorem d_Mo_addRow_70 : decode b_Mo_addRow 70 = .ok (.aload_n 0, 1) := by decide +kernel
theorem d_Mo_addRow_71 : decode b_Mo_addRow 71 = .ok (.getfield 68, 3) := by decide +kernel
theorem d_Mo_addRow_74 : decode b_Mo_addRow 74 = .ok (.iload_n 2, 1) := by decide +kernel
theorem d_Mo_addRow_75 : decode b_Mo_addRow 75 = .ok (.iload 4, 2) := by decide +kernel
theorem d_Mo_addRow_77 : decode b_Mo_addRow 77 = .ok (.iadd, 1) := by decide +kernel
theorem d_Mo_addRow_78 : decode b_Mo_addRow 78 = .ok (.iaload, 1) := by decide +kernel
theorem d_Mo_addRow_79 : decode b_Mo_addRow 79 = .ok (.iastore, 1) := by decide +kernel
theorem d_Mo_addRow_80 : decode b_Mo_addRow 80 = .ok (.iinc 4 1, 3) := by decide +kernel
theorem d_Mo_addRow_83 : decode b_Mo_addRow 83 = .ok (.goto (-35), 3) := by decide +kernel
theorem d_Mo_addRow_86 : decode b_Mo_addRow 86 = .ok (.aload_n 0, 1) := by decide +kernel
theorem d_Mo_addRow_87 : decode b_Mo_addRow 87 = .ok (.getfield 61, 3) := by decide +kernel
theorem d_Mo_addRow_90 : decode b_Mo_addRow 90 = .ok (.aload_n 0, 1) := by decide +kernel
theorem d_Mo_addRow_91 : decode b_Mo_addRow 91 = .ok (.getfield 260, 3) := by decide +kernel
theorem d_Mo_addRow_94 : decode b_Mo_addRow 94 = .ok (.iconst 1, 1) := by decide +kernel
theorem d_Mo_addRow_95 : decode b_Mo_addRow 95 = .ok (.iadd, 1) := by decide +kernel
theorem d_Mo_addRow_96 : decode b_Mo_addRow 96 = .ok (.aload_n 0, 1) := by decide +kernel
theorem d_Mo_addRow_97 : decode b_Mo_addRow 97 = .ok (.getfield 61, 3) := by decide +kernel
theorem d_Mo_addRow_100 : decode b_Mo_addRow 100 = .ok (.aload_n 0, 1) := by decide +kernel
theorem d_Mo_addRow_101 : decode b_Mo_addRow 101 = .ok (.getfield 260, 3) := by decide +kernel
theorem d_Mo_addRow_104 : decode b_Mo_addRow 104 = .ok (.iaload, 1) := by decide +kernel
theorem d_Mo_addRow_105 : decode b_Mo_addRow 105 = .ok (.iload_n 3, 1) := by decide +kernel
theorem d_Mo_addRow_106 : decode b_Mo_addRow 106 = .ok (.iadd, 1) := by decide +kernel
theorem d_Mo_addRow_107 : decode b_Mo_addRow 107 = .ok (.iastore, 1) := by decide +kernel
theorem d_Mo_addRow_108 : decode b_Mo_addRow 108 = .ok (.aload_n 0, 1) := by decide +kernel
theorem d_Mo_addRow_109 : decode b_Mo_addRow 109 = .ok (.dup, 1) := by decide +kernel
theorem d_Mo_addRow_110 : decode b_Mo_addRow 110 = .ok (.getfield 260, 3) := by decide +kernel
theorem d_Mo_addRow_113 : decode b_Mo_addRow 113 = .ok (.iconst 1, 1) := by decide +kernel
theorem d_Mo_addRow_114 : decode b_Mo_addRow 114 = .ok (.iadd, 1) := by decide +kernel
theorem d_Mo_addRow_115 : decode b_Mo_addRow 115 = .ok (.putfield 260, 3) := by decide +kernel
theorem d_Mo_addRow_118 : decode b_Mo_addRow 118 = .ok (.iconst 1, 1) := by decide +kernel
theorem d_Mo_addRow_119 : decode b_Mo_addRow 119 = .ok (.ireturn, 1) := by decide +kernel
set_option maxHeartbeats 4000000 in
set_option maxRecDepth 100000 in
theorem c_Mo_beginSet (g : GG) (l : Launch) {m0 : Nat} {ad : Nat → Nat} {qth : Int32} {qsz : Int32} {qtk : Int32} {qde : Int32} {qru : Int32} {qat : Int32} {qen : Int32} {qto : Int32} {qbe : Int32} {qva : Int32} {qwr : Int32} {qop : Int32} {qwi : Int32} {qhe : Int32} {qrw : Int32} {qma : Int32} {qir : Bool} {qiu : Bool} {lv : Nat} {SB : Nat → Nat} {CH : Nat → Nat}  (hl : lv ≤ 40) (hc : CH lv ≤ 614) : Cn g l y_Mo_beginSet b_Mo_beginSet 2 none (rmk 0 0 0 0) [.ref m0, .int (nI lv)] ([(m0, .inr (9, MO ad qth qsz (bI qir) qtk qde qru qat qen qto qbe qva qwr qop (bI qiu) qwi qhe qrw qma)), ((ad 38), .inl (g.2.1 0, 25300, .inl (aI SB))), ((ad 39), .inl (g.2.1 0, 41, .inl (aI CH)))]) (fun (r0 : Option Value) (w0 : va_W) => r0 = none ∧ w0 = [(m0, .inr (9, MO ad qth qsz (bI qir) qtk qde qru qat qen qto qbe qva qwr qop (bI qiu) qwi qhe qrw qma)), ((ad 38), .inl (g.2.1 0, 25300, .inl (aI (up SB (616 * lv + CH lv + 1) (SB (616 * lv + CH lv)))))), ((ad 39), .inl (g.2.1 0, 41, .inl (aI CH)))]) := by
  refine Cn.of R_Mo [(0, .ref m0), (1, .int (nI lv))] (by decide) rfl (Nat.le_of_ble_eq_true rfl) rfl ?_
  intro x A Q hR hXl hin C E
  subst hXl
  refine r_aload_n C 0 d_Mo_beginSet_0 rfl rfl ?_
  refine r_get C 0 38 d_Mo_beginSet_1 ci_Mo fi_Mo_71 rfl (by decide) rfl rfl ?_
  refine r_sipush C (nI 616) d_Mo_beginSet_4 (by decide) ?_
  refine r_iload_n C 1 d_Mo_beginSet_7 rfl rfl ?_
  refine r_nmul C d_Mo_beginSet_8 ?_
  refine r_aload_n C 0 d_Mo_beginSet_9 rfl rfl ?_
  refine r_get C 0 39 d_Mo_beginSet_10 ci_Mo fi_Mo_74 rfl (by decide) rfl rfl ?_
  refine r_iload_n C 1 d_Mo_beginSet_13 rfl rfl ?_
  refine r_nald C 2 0 d_Mo_beginSet_14 rfl rfl (by omega) (by decide) ?_
  refine r_nadd C d_Mo_beginSet_15 ?_
  refine r_iconst C (nI 1) d_Mo_beginSet_16 (by decide) ?_
  refine r_nadd C d_Mo_beginSet_17 ?_
  refine r_aload_n C 0 d_Mo_beginSet_18 rfl rfl ?_
  refine r_get C 0 38 d_Mo_beginSet_19 ci_Mo fi_Mo_71 rfl (by decide) rfl rfl ?_
  refine r_sipush C (nI 616) d_Mo_beginSet_22 (by decide) ?_
  refine r_iload_n C 1 d_Mo_beginSet_25 rfl rfl ?_
  refine r_nmul C d_Mo_beginSet_26 ?_
  refine r_aload_n C 0 d_Mo_beginSet_27 rfl rfl ?_
  refine r_get C 0 39 d_Mo_beginSet_28 ci_Mo fi_Mo_74 rfl (by decide) rfl rfl ?_
  refine r_iload_n C 1 d_Mo_beginSet_31 rfl rfl ?_
  refine r_nald C 2 0 d_Mo_beginSet_32 rfl rfl (by omega) (by decide) ?_
  refine r_nadd C d_Mo_beginSet_33 ?_
  refine r_nald C 1 0 d_Mo_beginSet_34 rfl rfl (by omega) (by decide) ?_
  refine r_nast C (ws' := [(m0, .inr (9, MO ad qth qsz (bI qir) qtk qde qru qat qen qto qbe qva qwr qop (bI qiu) qwi qhe qrw qma)), ((ad 38), .inl (g.2.1 0, 25300, .inl (aI (up SB (((616 * lv) + (CH lv)) + 1) (SB ((616 * lv) + (CH lv))))))), ((ad 39), .inl (g.2.1 0, 41, .inl (aI CH)))]) 1 0 d_Mo_beginSet_35 rfl rfl (by omega) (by decide) rfl ?_
  refine r_vret C E d_Mo_beginSet_36 (by first | decide | omega | (simp only [rmk]; omega)) (by first | decide | omega | (simp only [rmk]; omega)) ?_
  exact ⟨rfl, rfl⟩

set_option maxHeartbeats 4000000 in
set_option maxRecDepth 100000 in
theorem c_Mo_add (g : GG) (l : Launch) {m0 : Nat} {ad : Nat → Nat} {qth : Int32} {qsz : Int32} {qtk : Int32} {qde : Int32} {qru : Int32} {qat : Int32} {qen : Int32} {qto : Int32} {qbe : Int32} {qva : Int32} {qwr : Int32} {qop : Int32} {qwi : Int32} {qhe : Int32} {qrw : Int32} {qma : Int32} {qir : Bool} {qiu : Bool} {lv : Nat} {p : Nat} {SB : Nat → Nat} {CH : Nat → Nat} {ST : Nat → Nat}  (hl : lv ≤ 40) (hc : CH lv ≤ 614) (hs : SB (616 * lv + CH lv + 1) < 17000) : Cn g l y_Mo_add b_Mo_add 4 none (rmk 0 0 0 0) [.ref m0, .int (nI lv), .int (nI p)] ([(m0, .inr (9, MO ad qth qsz (bI qir) qtk qde qru qat qen qto qbe qva qwr qop (bI qiu) qwi qhe qrw qma)), ((ad 38), .inl (g.2.1 0, 25300, .inl (aI SB))), ((ad 39), .inl (g.2.1 0, 41, .inl (aI CH))), ((ad 37), .inl (g.2.1 0, 697000, .inl (aI ST)))]) (fun (r0 : Option Value) (w0 : va_W) => r0 = none ∧ w0 = [(m0, .inr (9, MO ad qth qsz (bI qir) qtk qde qru qat qen qto qbe qva qwr qop (bI qiu) qwi qhe qrw qma)), ((ad 38), .inl (g.2.1 0, 25300, .inl (aI (up SB (616 * lv + CH lv + 1) (SB (616 * lv + CH lv + 1) + 1))))), ((ad 39), .inl (g.2.1 0, 41, .inl (aI CH))), ((ad 37), .inl (g.2.1 0, 697000, .inl (aI (up ST (17000 * lv + SB (616 * lv + CH lv + 1)) p))))]) := by
  refine Cn.of R_Mo [(0, .ref m0), (1, .int (nI lv)), (2, .int (nI p))] (by decide) rfl (Nat.le_of_ble_eq_true rfl) rfl ?_
  intro x A Q hR hXl hin C E
  subst hXl
  refine r_sipush C (nI 616) d_Mo_add_0 (by decide) ?_
  refine r_iload_n C 1 d_Mo_add_3 rfl rfl ?_
  refine r_nmul C d_Mo_add_4 ?_
  refine r_aload_n C 0 d_Mo_add_5 rfl rfl ?_
  refine r_get C 0 39 d_Mo_add_6 ci_Mo fi_Mo_74 rfl (by decide) rfl rfl ?_
  refine r_iload_n C 1 d_Mo_add_9 rfl rfl ?_
  refine r_nald C 2 0 d_Mo_add_10 rfl rfl (by omega) (by decide) ?_
  refine r_nadd C d_Mo_add_11 ?_
  refine r_iconst C (nI 1) d_Mo_add_12 (by decide) ?_
  refine r_nadd C d_Mo_add_13 ?_
  refine r_istore_n C (lv' := [(3, .int (nI (((616 * lv) + (CH lv)) + 1))), (0, .ref m0), (1, .int (nI lv)), (2, .int (nI p))]) d_Mo_add_14 rfl (by decide) rfl ?_
  refine r_aload_n C 1 d_Mo_add_15 rfl rfl ?_
  refine r_get C 0 37 d_Mo_add_16 ci_Mo fi_Mo_68 rfl (by decide) rfl rfl ?_
  refine r_sipush C (nI 17000) d_Mo_add_19 (by decide) ?_
  refine r_iload_n C 2 d_Mo_add_22 rfl rfl ?_
  refine r_nmul C d_Mo_add_23 ?_
  refine r_aload_n C 1 d_Mo_add_24 rfl rfl ?_
  refine r_get C 0 38 d_Mo_add_25 ci_Mo fi_Mo_71 rfl (by decide) rfl rfl ?_
  refine r_iload_n C 0 d_Mo_add_28 rfl rfl ?_
  refine r_nald C 1 0 d_Mo_add_29 rfl rfl (by omega) (by decide) ?_
  refine r_nadd C d_Mo_add_30 ?_
  refine r_iload_n C 3 d_Mo_add_31 rfl rfl ?_
  refine r_nast C (ws' := [(m0, .inr (9, MO ad qth qsz (bI qir) qtk qde qru qat qen qto qbe qva qwr qop (bI qiu) qwi qhe qrw qma)), ((ad 38), .inl (g.2.1 0, 25300, .inl (aI SB))), ((ad 39), .inl (g.2.1 0, 41, .inl (aI CH))), ((ad 37), .inl (g.2.1 0, 697000, .inl (aI (up ST ((17000 * lv) + (SB (((616 * lv) + (CH lv)) + 1))) p))))]) 3 0 d_Mo_add_32 rfl rfl (by omega) (by decide) rfl ?_
  refine r_aload_n C 1 d_Mo_add_33 rfl rfl ?_
  refine r_get C 0 38 d_Mo_add_34 ci_Mo fi_Mo_71 rfl (by decide) rfl rfl ?_
  refine r_iload_n C 0 d_Mo_add_37 rfl rfl ?_
  refine r_dup2 C d_Mo_add_38 rfl rfl ?_
  refine r_nald C 1 0 d_Mo_add_39 rfl rfl (by omega) (by decide) ?_
  refine r_iconst C (nI 1) d_Mo_add_40 (by decide) ?_
  refine r_nadd C d_Mo_add_41 ?_
  refine r_nast C (ws' := [(m0, .inr (9, MO ad qth qsz (bI qir) qtk qde qru qat qen qto qbe qva qwr qop (bI qiu) qwi qhe qrw qma)), ((ad 38), .inl (g.2.1 0, 25300, .inl (aI (up SB (((616 * lv) + (CH lv)) + 1) ((SB (((616 * lv) + (CH lv)) + 1)) + 1))))), ((ad 39), .inl (g.2.1 0, 41, .inl (aI CH))), ((ad 37), .inl (g.2.1 0, 697000, .inl (aI (up ST ((17000 * lv) + (SB (((616 * lv) + (CH lv)) + 1))) p))))]) 1 0 d_Mo_add_42 rfl rfl (by omega) (by decide) rfl ?_
  refine r_vret C E d_Mo_add_43 (by first | decide | omega | (simp only [rmk]; omega)) (by first | decide | omega | (simp only [rmk]; omega)) ?_
  exact ⟨rfl, rfl⟩

set_option maxHeartbeats 4000000 in
set_option maxRecDepth 100000 in
theorem c_Mo_endSet (g : GG) (l : Launch) {m0 : Nat} {ad : Nat → Nat} {qth : Int32} {qsz : Int32} {qtk : Int32} {qde : Int32} {qru : Int32} {qat : Int32} {qen : Int32} {qto : Int32} {qbe : Int32} {qva : Int32} {qwr : Int32} {qop : Int32} {qwi : Int32} {qhe : Int32} {qrw : Int32} {qir : Bool} {qiu : Bool} {lv : Nat} {md : Nat} {CH : Nat → Nat}  (hl : lv ≤ 40) (hc : CH lv ≤ 614) : Cn g l y_Mo_endSet b_Mo_endSet 2 none (rmk 0 0 0 0) [.ref m0, .int (nI lv)] ([(m0, .inr (9, MO ad qth qsz (bI qir) qtk qde qru qat qen qto qbe qva qwr qop (bI qiu) qwi qhe qrw (nI md))), ((ad 39), .inl (g.2.1 0, 41, .inl (aI CH)))]) (fun (r0 : Option Value) (w0 : va_W) => r0 = none ∧ w0 = [(m0, .inr (9, MO ad qth qsz (bI qir) qtk qde qru qat qen qto qbe qva qwr qop (bI qiu) qwi qhe qrw (nI (md + 1)))), ((ad 39), .inl (g.2.1 0, 41, .inl (aI (up CH lv (CH lv + 1)))))]) := by
  refine Cn.of R_Mo [(0, .ref m0), (1, .int (nI lv))] (by decide) rfl (Nat.le_of_ble_eq_true rfl) rfl ?_
  intro x A Q hR hXl hin C E
  subst hXl
  refine r_aload_n C 0 d_Mo_endSet_0 rfl rfl ?_
  refine r_get C 0 39 d_Mo_endSet_1 ci_Mo fi_Mo_74 rfl (by decide) rfl rfl ?_
  refine r_iload_n C 1 d_Mo_endSet_4 rfl rfl ?_
  refine r_dup2 C d_Mo_endSet_5 rfl rfl ?_
  refine r_nald C 1 0 d_Mo_endSet_6 rfl rfl (by omega) (by decide) ?_
  refine r_iconst C (nI 1) d_Mo_endSet_7 (by decide) ?_
  refine r_nadd C d_Mo_endSet_8 ?_
  refine r_nast C (ws' := [(m0, .inr (9, MO ad qth qsz (bI qir) qtk qde qru qat qen qto qbe qva qwr qop (bI qiu) qwi qhe qrw (nI md))), ((ad 39), .inl (g.2.1 0, 41, .inl (aI (up CH lv ((CH lv) + 1)))))]) 1 0 d_Mo_endSet_9 rfl rfl (by omega) (by decide) rfl ?_
  refine r_aload_n C 0 d_Mo_endSet_10 rfl rfl ?_
  refine r_dup C d_Mo_endSet_11 rfl ?_
  refine r_get C 0 36 d_Mo_endSet_12 ci_Mo fi_Mo_221 rfl (by decide) rfl rfl ?_
  refine r_iconst C (nI 1) d_Mo_endSet_15 (by decide) ?_
  refine r_nadd C d_Mo_endSet_16 ?_
  refine r_put C (ws' := [(m0, .inr (9, MO ad qth qsz (bI qir) qtk qde qru qat qen qto qbe qva qwr qop (bI qiu) qwi qhe qrw (nI (md + 1)))), ((ad 39), .inl (g.2.1 0, 41, .inl (aI (up CH lv ((CH lv) + 1)))))]) 0 36 d_Mo_endSet_17 ci_Mo fi_Mo_221 rfl (by decide) rfl rfl (rfl) (rfl) (by simp) rfl ?_
  refine r_vret C E d_Mo_endSet_20 (by first | decide | omega | (simp only [rmk]; omega)) (by first | decide | omega | (simp only [rmk]; omega)) ?_
  exact ⟨rfl, rfl⟩

set_option maxHeartbeats 4000000 in
set_option maxRecDepth 100000 in
theorem c_Mo_groupOf (g : GG) (l : Launch) {m0 : Nat} {ad : Nat → Nat} {qth : Int32} {qsz : Int32} {qtk : Int32} {qde : Int32} {qru : Int32} {qat : Int32} {qen : Int32} {qto : Int32} {qbe : Int32} {qva : Int32} {qwr : Int32} {qop : Int32} {qhe : Int32} {qrw : Int32} {qma : Int32} {qir : Bool} {qiu : Bool} {uw : Nat} {w : Nat} {a : Nat} {b_ : Nat} {c : Nat}  (hw0 : 0 < uw) (hw1 : uw ≤ 16) (hc2 : c < 256) (hY : c / uw ≤ 15) (hwv : w = 1 ∨ w = 2 ∨ w = 3 ∨ w = 9 ∨ w = 10) (hab : w = 3 → 0 < a ∧ a ≤ 16 ∧ 0 < b_ ∧ b_ ≤ 16) : Cn g l y_Mo_groupOf b_Mo_groupOf 5 (some .int) (rmk 1 0 0 21) [.ref m0, .int (nI w), .int (nI a), .int (nI b_), .int (nI c)] ([(m0, .inr (9, MO ad qth qsz (bI qir) qtk qde qru qat qen qto qbe qva qwr qop (bI qiu) (nI uw) qhe qrw qma))]) (fun (r0 : Option Value) (w0 : va_W) => r0 = some (.int (nI (grpN uw w a b_ c))) ∧ w0 = [(m0, .inr (9, MO ad qth qsz (bI qir) qtk qde qru qat qen qto qbe qva qwr qop (bI qiu) (nI uw) qhe qrw qma))]) := by
  refine Cn.of R_Mo [(0, .ref m0), (1, .int (nI w)), (2, .int (nI a)), (3, .int (nI b_)), (4, .int (nI c))] (by decide) rfl (Nat.le_of_ble_eq_true rfl) rfl ?_
  intro x A Q hR hXl hin C E
  subst hXl
  have hX : c % uw ≤ 15 := by have := Nat.mod_lt c hw0; omega
  rcases hwv with rfl | rfl | rfl | rfl | rfl
  · skip
    refine r_iload_n C 1 d_Mo_groupOf_0 rfl rfl ?_
    refine r_iconst C (nI 1) d_Mo_groupOf_1 (by decide) ?_
    refine r_ncmp_ne C 12 d_Mo_groupOf_2 (by decide) (by omega) (by omega) (fun c_2 => ?_) (fun c_2 => ?_)
    · exact absurd c_2 (by decide)
    refine r_aload_n C 0 d_Mo_groupOf_5 rfl rfl ?_
    refine r_iload C 4 d_Mo_groupOf_6 rfl ?_
    refine j_callV C (c_Mo_y g (xl x) (m0 := m0) (ad := ad) (qth := qth) (qsz := qsz) (qtk := qtk) (qde := qde) (qru := qru) (qat := qat) (qen := qen) (qto := qto) (qbe := qbe) (qva := qva) (qwr := qwr) (qop := qop) (qhe := qhe) (qrw := qrw) (qma := qma) (qir := qir) (qiu := qiu) (uw := uw) (c := c) (by first | assumption | omega | rfl) (by first | assumption | omega | rfl) (by first | assumption | omega | rfl)) (Sp.of (wr := []) [0] [] rfl rfl rfl rfl (by decide)) d_Mo_groupOf_8 lk_Mo_224 mw_Mo_y vw_Mo_y (q0 := 0) rfl rfl (fit_of hR (by first | decide | (simp only [rmk]; omega)) (by first | decide | (simp only [rmk]; omega)) (by first | decide | (simp only [rmk]; omega)) (by first | decide | (simp only [rmk]; omega))) rfl (cat8 (Nat.le_of_ble_eq_true rfl)) (As := [.int (nI c)]) (rest := []) rfl (fun r_8 w_8 hp_8 => ?_)
    obtain ⟨rfl, rfl⟩ := hp_8
    refine r_after (ws' := [(m0, .inr (9, MO ad qth qsz (bI qir) qtk qde qru qat qen qto qbe qva qwr qop (bI qiu) (nI uw) qhe qrw qma))]) (st' := [.int (nI (c / uw))]) (n1 := 0) (n2 := 0) [0] rfl rfl rfl rfl rfl ?_
    refine r_iret C E d_Mo_groupOf_11 (by first | decide | omega | (simp only [rmk]; omega)) (by first | decide | omega | (simp only [rmk]; omega)) ?_
    exact ⟨rfl, rfl⟩
  · skip
    refine r_iload_n C 1 d_Mo_groupOf_0 rfl rfl ?_
    refine r_iconst C (nI 1) d_Mo_groupOf_1 (by decide) ?_
    refine r_ncmp_ne C 12 d_Mo_groupOf_2 (by decide) (by omega) (by omega) (fun c_2 => ?_) (fun c_2 => ?_)
    rotate_left
    · exact absurd c_2 (by decide)
    refine r_iload_n C 1 d_Mo_groupOf_12 rfl rfl ?_
    refine r_iconst C (nI 2) d_Mo_groupOf_13 (by decide) ?_
    refine r_ncmp_ne C 24 d_Mo_groupOf_14 (by decide) (by omega) (by omega) (fun c_14 => ?_) (fun c_14 => ?_)
    · exact absurd c_14 (by decide)
    refine r_aload_n C 0 d_Mo_groupOf_17 rfl rfl ?_
    refine r_iload C 4 d_Mo_groupOf_18 rfl ?_
    refine j_callV C (c_Mo_x g (xl x) (m0 := m0) (ad := ad) (qth := qth) (qsz := qsz) (qtk := qtk) (qde := qde) (qru := qru) (qat := qat) (qen := qen) (qto := qto) (qbe := qbe) (qva := qva) (qwr := qwr) (qop := qop) (qhe := qhe) (qrw := qrw) (qma := qma) (qir := qir) (qiu := qiu) (uw := uw) (c := c) (by first | assumption | omega | rfl) (by first | assumption | omega | rfl) (by first | assumption | omega | rfl)) (Sp.of (wr := []) [0] [] rfl rfl rfl rfl (by decide)) d_Mo_groupOf_20 lk_Mo_228 mw_Mo_x vw_Mo_x (q0 := 0) rfl rfl (fit_of hR (by first | decide | (simp only [rmk]; omega)) (by first | decide | (simp only [rmk]; omega)) (by first | decide | (simp only [rmk]; omega)) (by first | decide | (simp only [rmk]; omega))) rfl (cat8 (Nat.le_of_ble_eq_true rfl)) (As := [.int (nI c)]) (rest := []) rfl (fun r_20 w_20 hp_20 => ?_)
    obtain ⟨rfl, rfl⟩ := hp_20
    refine r_after (ws' := [(m0, .inr (9, MO ad qth qsz (bI qir) qtk qde qru qat qen qto qbe qva qwr qop (bI qiu) (nI uw) qhe qrw qma))]) (st' := [.int (nI (c % uw))]) (n1 := 0) (n2 := 0) [0] rfl rfl rfl rfl rfl ?_
    refine r_iret C E d_Mo_groupOf_23 (by first | decide | omega | (simp only [rmk]; omega)) (by first | decide | omega | (simp only [rmk]; omega)) ?_
    exact ⟨rfl, rfl⟩
  · skip
    refine r_iload_n C 1 d_Mo_groupOf_0 rfl rfl ?_
    refine r_iconst C (nI 1) d_Mo_groupOf_1 (by decide) ?_
    refine r_ncmp_ne C 12 d_Mo_groupOf_2 (by decide) (by omega) (by omega) (fun c_2 => ?_) (fun c_2 => ?_)
    rotate_left
    · exact absurd c_2 (by decide)
    refine r_iload_n C 1 d_Mo_groupOf_12 rfl rfl ?_
    refine r_iconst C (nI 2) d_Mo_groupOf_13 (by decide) ?_
    refine r_ncmp_ne C 24 d_Mo_groupOf_14 (by decide) (by omega) (by omega) (fun c_14 => ?_) (fun c_14 => ?_)
    rotate_left
    · exact absurd c_14 (by decide)
    refine r_iload_n C 1 d_Mo_groupOf_24 rfl rfl ?_
    refine r_iconst C (nI 3) d_Mo_groupOf_25 (by decide) ?_
    refine r_ncmp_ne C 50 d_Mo_groupOf_26 (by decide) (by omega) (by omega) (fun c_26 => ?_) (fun c_26 => ?_)
    · exact absurd c_26 (by decide)
    obtain ⟨ha1, ha2, hb1, hb2⟩ := hab rfl
    have hq1 : c / uw / b_ ≤ 15 := Nat.le_trans (Nat.div_le_self _ _) hY
    refine r_bipush C (nI 16) d_Mo_groupOf_29 (by decide) ?_
    refine r_aload_n C 0 d_Mo_groupOf_31 rfl rfl ?_
    refine r_iload C 4 d_Mo_groupOf_32 rfl ?_
    refine j_callV C (c_Mo_y g (xl x) (m0 := m0) (ad := ad) (qth := qth) (qsz := qsz) (qtk := qtk) (qde := qde) (qru := qru) (qat := qat) (qen := qen) (qto := qto) (qbe := qbe) (qva := qva) (qwr := qwr) (qop := qop) (qhe := qhe) (qrw := qrw) (qma := qma) (qir := qir) (qiu := qiu) (uw := uw) (c := c) (by first | assumption | omega | rfl) (by first | assumption | omega | rfl) (by first | assumption | omega | rfl)) (Sp.of (wr := []) [0] [] rfl rfl rfl rfl (by decide)) d_Mo_groupOf_34 lk_Mo_224 mw_Mo_y vw_Mo_y (q0 := 0) rfl rfl (fit_of hR (by first | decide | (simp only [rmk]; omega)) (by first | decide | (simp only [rmk]; omega)) (by first | decide | (simp only [rmk]; omega)) (by first | decide | (simp only [rmk]; omega))) rfl (cat8 (Nat.le_of_ble_eq_true rfl)) (As := [.int (nI c)]) (rest := [.int (nI 16)]) rfl (fun r_34 w_34 hp_34 => ?_)
    obtain ⟨rfl, rfl⟩ := hp_34
    refine r_after (ws' := [(m0, .inr (9, MO ad qth qsz (bI qir) qtk qde qru qat qen qto qbe qva qwr qop (bI qiu) (nI uw) qhe qrw qma))]) (st' := [.int (nI (c / uw)), .int (nI 16)]) (n1 := 0) (n2 := 0) [0] rfl rfl rfl rfl rfl ?_
    refine r_iload_n C 3 d_Mo_groupOf_37 rfl rfl ?_
    refine r_ndiv C d_Mo_groupOf_38 (by omega) (by omega) (by omega) ?_
    refine r_nmul C d_Mo_groupOf_39 ?_
    refine r_aload_n C 0 d_Mo_groupOf_40 rfl rfl ?_
    refine r_iload C 4 d_Mo_groupOf_41 rfl ?_
    refine j_callV C (c_Mo_x g (xl x) (m0 := m0) (ad := ad) (qth := qth) (qsz := qsz) (qtk := qtk) (qde := qde) (qru := qru) (qat := qat) (qen := qen) (qto := qto) (qbe := qbe) (qva := qva) (qwr := qwr) (qop := qop) (qhe := qhe) (qrw := qrw) (qma := qma) (qir := qir) (qiu := qiu) (uw := uw) (c := c) (by first | assumption | omega | rfl) (by first | assumption | omega | rfl) (by first | assumption | omega | rfl)) (Sp.of (wr := []) [0] [] rfl rfl rfl rfl (by decide)) d_Mo_groupOf_43 lk_Mo_228 mw_Mo_x vw_Mo_x (q0 := 0) rfl rfl (fit_of hR (by first | decide | (simp only [rmk]; omega)) (by first | decide | (simp only [rmk]; omega)) (by first | decide | (simp only [rmk]; omega)) (by first | decide | (simp only [rmk]; omega))) rfl (cat8 (Nat.le_of_ble_eq_true rfl)) (As := [.int (nI c)]) (rest := [.int (nI (16 * ((c / uw) / b_)))]) rfl (fun r_43 w_43 hp_43 => ?_)
    obtain ⟨rfl, rfl⟩ := hp_43
    refine r_after (ws' := [(m0, .inr (9, MO ad qth qsz (bI qir) qtk qde qru qat qen qto qbe qva qwr qop (bI qiu) (nI uw) qhe qrw qma))]) (st' := [.int (nI (c % uw)), .int (nI (16 * ((c / uw) / b_)))]) (n1 := 0) (n2 := 0) [0] rfl rfl rfl rfl rfl ?_
    refine r_iload_n C 2 d_Mo_groupOf_46 rfl rfl ?_
    refine r_ndiv C d_Mo_groupOf_47 (by omega) (by omega) (by omega) ?_
    refine r_nadd C d_Mo_groupOf_48 ?_
    refine r_iret C E d_Mo_groupOf_49 (by first | decide | omega | (simp only [rmk]; omega)) (by first | decide | omega | (simp only [rmk]; omega)) ?_
    exact ⟨rfl, rfl⟩
  · skip
    refine r_iload_n C 1 d_Mo_groupOf_0 rfl rfl ?_
    refine r_iconst C (nI 1) d_Mo_groupOf_1 (by decide) ?_
    refine r_ncmp_ne C 12 d_Mo_groupOf_2 (by decide) (by omega) (by omega) (fun c_2 => ?_) (fun c_2 => ?_)
    rotate_left
    · exact absurd c_2 (by decide)
    refine r_iload_n C 1 d_Mo_groupOf_12 rfl rfl ?_
    refine r_iconst C (nI 2) d_Mo_groupOf_13 (by decide) ?_
    refine r_ncmp_ne C 24 d_Mo_groupOf_14 (by decide) (by omega) (by omega) (fun c_14 => ?_) (fun c_14 => ?_)
    rotate_left
    · exact absurd c_14 (by decide)
    refine r_iload_n C 1 d_Mo_groupOf_24 rfl rfl ?_
    refine r_iconst C (nI 3) d_Mo_groupOf_25 (by decide) ?_
    refine r_ncmp_ne C 50 d_Mo_groupOf_26 (by decide) (by omega) (by omega) (fun c_26 => ?_) (fun c_26 => ?_)
    rotate_left
    · exact absurd c_26 (by decide)
    refine r_iload_n C 1 d_Mo_groupOf_50 rfl rfl ?_
    refine r_bipush C (nI 9) d_Mo_groupOf_51 (by decide) ?_
    refine r_ncmp_ne C 75 d_Mo_groupOf_53 (by decide) (by omega) (by omega) (fun c_53 => ?_) (fun c_53 => ?_)
    · exact absurd c_53 (by decide)
    refine r_aload_n C 0 d_Mo_groupOf_56 rfl rfl ?_
    refine r_iload C 4 d_Mo_groupOf_57 rfl ?_
    refine j_callV C (c_Mo_x g (xl x) (m0 := m0) (ad := ad) (qth := qth) (qsz := qsz) (qtk := qtk) (qde := qde) (qru := qru) (qat := qat) (qen := qen) (qto := qto) (qbe := qbe) (qva := qva) (qwr := qwr) (qop := qop) (qhe := qhe) (qrw := qrw) (qma := qma) (qir := qir) (qiu := qiu) (uw := uw) (c := c) (by first | assumption | omega | rfl) (by first | assumption | omega | rfl) (by first | assumption | omega | rfl)) (Sp.of (wr := []) [0] [] rfl rfl rfl rfl (by decide)) d_Mo_groupOf_59 lk_Mo_228 mw_Mo_x vw_Mo_x (q0 := 0) rfl rfl (fit_of hR (by first | decide | (simp only [rmk]; omega)) (by first | decide | (simp only [rmk]; omega)) (by first | decide | (simp only [rmk]; omega)) (by first | decide | (simp only [rmk]; omega))) rfl (cat8 (Nat.le_of_ble_eq_true rfl)) (As := [.int (nI c)]) (rest := []) rfl (fun r_59 w_59 hp_59 => ?_)
    obtain ⟨rfl, rfl⟩ := hp_59
    refine r_after (ws' := [(m0, .inr (9, MO ad qth qsz (bI qir) qtk qde qru qat qen qto qbe qva qwr qop (bI qiu) (nI uw) qhe qrw qma))]) (st' := [.int (nI (c % uw))]) (n1 := 0) (n2 := 0) [0] rfl rfl rfl rfl rfl ?_
    refine r_aload_n C 0 d_Mo_groupOf_62 rfl rfl ?_
    refine r_iload C 4 d_Mo_groupOf_63 rfl ?_
    refine j_callV C (c_Mo_y g (xl x) (m0 := m0) (ad := ad) (qth := qth) (qsz := qsz) (qtk := qtk) (qde := qde) (qru := qru) (qat := qat) (qen := qen) (qto := qto) (qbe := qbe) (qva := qva) (qwr := qwr) (qop := qop) (qhe := qhe) (qrw := qrw) (qma := qma) (qir := qir) (qiu := qiu) (uw := uw) (c := c) (by first | assumption | omega | rfl) (by first | assumption | omega | rfl) (by first | assumption | omega | rfl)) (Sp.of (wr := []) [0] [] rfl rfl rfl rfl (by decide)) d_Mo_groupOf_65 lk_Mo_224 mw_Mo_y vw_Mo_y (q0 := 0) rfl rfl (fit_of hR (by first | decide | (simp only [rmk]; omega)) (by first | decide | (simp only [rmk]; omega)) (by first | decide | (simp only [rmk]; omega)) (by first | decide | (simp only [rmk]; omega))) rfl (cat8 (Nat.le_of_ble_eq_true rfl)) (As := [.int (nI c)]) (rest := [.int (nI (c % uw))]) rfl (fun r_65 w_65 hp_65 => ?_)
    obtain ⟨rfl, rfl⟩ := hp_65
    refine r_after (ws' := [(m0, .inr (9, MO ad qth qsz (bI qir) qtk qde qru qat qen qto qbe qva qwr qop (bI qiu) (nI uw) qhe qrw qma))]) (st' := [.int (nI (c / uw)), .int (nI (c % uw))]) (n1 := 0) (n2 := 0) [0] rfl rfl rfl rfl rfl ?_
    refine r_isub C d_Mo_groupOf_68 ?_
    refine r_bipush C (nI 16) d_Mo_groupOf_69 (by decide) ?_
    refine r_iadd C d_Mo_groupOf_71 ?_
    refine r_top (v' := nI (c % uw + 16 - c / uw)) (nI_s16 (by omega)) ?_
    refine r_goto C 88 d_Mo_groupOf_72 (by decide) ?_
    refine r_iret C E d_Mo_groupOf_88 (by first | decide | omega | (simp only [rmk]; omega)) (by first | decide | omega | (simp only [rmk]; omega)) ?_
    exact ⟨rfl, rfl⟩
  · skip
    refine r_iload_n C 1 d_Mo_groupOf_0 rfl rfl ?_
    refine r_iconst C (nI 1) d_Mo_groupOf_1 (by decide) ?_
    refine r_ncmp_ne C 12 d_Mo_groupOf_2 (by decide) (by omega) (by omega) (fun c_2 => ?_) (fun c_2 => ?_)
    rotate_left
    · exact absurd c_2 (by decide)
    refine r_iload_n C 1 d_Mo_groupOf_12 rfl rfl ?_
    refine r_iconst C (nI 2) d_Mo_groupOf_13 (by decide) ?_
    refine r_ncmp_ne C 24 d_Mo_groupOf_14 (by decide) (by omega) (by omega) (fun c_14 => ?_) (fun c_14 => ?_)
    rotate_left
    · exact absurd c_14 (by decide)
    refine r_iload_n C 1 d_Mo_groupOf_24 rfl rfl ?_
    refine r_iconst C (nI 3) d_Mo_groupOf_25 (by decide) ?_
    refine r_ncmp_ne C 50 d_Mo_groupOf_26 (by decide) (by omega) (by omega) (fun c_26 => ?_) (fun c_26 => ?_)
    rotate_left
    · exact absurd c_26 (by decide)
    refine r_iload_n C 1 d_Mo_groupOf_50 rfl rfl ?_
    refine r_bipush C (nI 9) d_Mo_groupOf_51 (by decide) ?_
    refine r_ncmp_ne C 75 d_Mo_groupOf_53 (by decide) (by omega) (by omega) (fun c_53 => ?_) (fun c_53 => ?_)
    rotate_left
    · exact absurd c_53 (by decide)
    refine r_aload_n C 0 d_Mo_groupOf_75 rfl rfl ?_
    refine r_iload C 4 d_Mo_groupOf_76 rfl ?_
    refine j_callV C (c_Mo_x g (xl x) (m0 := m0) (ad := ad) (qth := qth) (qsz := qsz) (qtk := qtk) (qde := qde) (qru := qru) (qat := qat) (qen := qen) (qto := qto) (qbe := qbe) (qva := qva) (qwr := qwr) (qop := qop) (qhe := qhe) (qrw := qrw) (qma := qma) (qir := qir) (qiu := qiu) (uw := uw) (c := c) (by first | assumption | omega | rfl) (by first | assumption | omega | rfl) (by first | assumption | omega | rfl)) (Sp.of (wr := []) [0] [] rfl rfl rfl rfl (by decide)) d_Mo_groupOf_78 lk_Mo_228 mw_Mo_x vw_Mo_x (q0 := 0) rfl rfl (fit_of hR (by first | decide | (simp only [rmk]; omega)) (by first | decide | (simp only [rmk]; omega)) (by first | decide | (simp only [rmk]; omega)) (by first | decide | (simp only [rmk]; omega))) rfl (cat8 (Nat.le_of_ble_eq_true rfl)) (As := [.int (nI c)]) (rest := []) rfl (fun r_78 w_78 hp_78 => ?_)
    obtain ⟨rfl, rfl⟩ := hp_78
    refine r_after (ws' := [(m0, .inr (9, MO ad qth qsz (bI qir) qtk qde qru qat qen qto qbe qva qwr qop (bI qiu) (nI uw) qhe qrw qma))]) (st' := [.int (nI (c % uw))]) (n1 := 0) (n2 := 0) [0] rfl rfl rfl rfl rfl ?_
    refine r_aload_n C 0 d_Mo_groupOf_81 rfl rfl ?_
    refine r_iload C 4 d_Mo_groupOf_82 rfl ?_
    refine j_callV C (c_Mo_y g (xl x) (m0 := m0) (ad := ad) (qth := qth) (qsz := qsz) (qtk := qtk) (qde := qde) (qru := qru) (qat := qat) (qen := qen) (qto := qto) (qbe := qbe) (qva := qva) (qwr := qwr) (qop := qop) (qhe := qhe) (qrw := qrw) (qma := qma) (qir := qir) (qiu := qiu) (uw := uw) (c := c) (by first | assumption | omega | rfl) (by first | assumption | omega | rfl) (by first | assumption | omega | rfl)) (Sp.of (wr := []) [0] [] rfl rfl rfl rfl (by decide)) d_Mo_groupOf_84 lk_Mo_224 mw_Mo_y vw_Mo_y (q0 := 0) rfl rfl (fit_of hR (by first | decide | (simp only [rmk]; omega)) (by first | decide | (simp only [rmk]; omega)) (by first | decide | (simp only [rmk]; omega)) (by first | decide | (simp only [rmk]; omega))) rfl (cat8 (Nat.le_of_ble_eq_true rfl)) (As := [.int (nI c)]) (rest := [.int (nI (c % uw))]) rfl (fun r_84 w_84 hp_84 => ?_)
    obtain ⟨rfl, rfl⟩ := hp_84
    refine r_after (ws' := [(m0, .inr (9, MO ad qth qsz (bI qir) qtk qde qru qat qen qto qbe qva qwr qop (bI qiu) (nI uw) qhe qrw qma))]) (st' := [.int (nI (c / uw)), .int (nI (c % uw))]) (n1 := 0) (n2 := 0) [0] rfl rfl rfl rfl rfl ?_
    refine r_nadd C d_Mo_groupOf_87 ?_
    refine r_iret C E d_Mo_groupOf_88 (by first | decide | omega | (simp only [rmk]; omega)) (by first | decide | omega | (simp only [rmk]; omega)) ?_
    exact ⟨rfl, rfl⟩

set_option maxHeartbeats 4000000 in
set_option maxRecDepth 100000 in
theorem c_Mo_isBySide (g : GG) (l : Launch) {dx : Int32} {dy : Int32}   : Cn g l y_Mo_isBySide b_Mo_isBySide 2 (some .boolean) (rmk 0 0 0 0) [.int dx, .int dy] ([]) (fun (r0 : Option Value) (w0 : va_W) => r0 = some (.int (bI (decide (dx * dx + dy * dy = nI 1)))) ∧ w0 = []) := by
  refine Cn.of R_Mo [(0, .int dx), (1, .int dy)] (by decide) rfl (Nat.le_of_ble_eq_true rfl) rfl ?_
  intro x A Q hR hXl hin C E
  subst hXl
  refine r_iload_n C 0 d_Mo_isBySide_0 rfl rfl ?_
  refine r_iload_n C 0 d_Mo_isBySide_1 rfl rfl ?_
  refine r_imul C d_Mo_isBySide_2 ?_
  refine r_iload_n C 1 d_Mo_isBySide_3 rfl rfl ?_
  refine r_iload_n C 1 d_Mo_isBySide_4 rfl rfl ?_
  refine r_imul C d_Mo_isBySide_5 ?_
  refine r_iadd C d_Mo_isBySide_6 ?_
  refine r_iconst C (nI 1) d_Mo_isBySide_7 (by decide) ?_
  refine r_icmp_ne C 15 d_Mo_isBySide_8 (by decide) (fun c_8 => ?_) (fun c_8 => ?_)
  · skip
    refine r_iconst C (nI 0) d_Mo_isBySide_15 (by decide) ?_
    refine r_eqS (st' := [.int (bI false)]) rfl ?_
    refine r_bret C E d_Mo_isBySide_16 (by first | decide | omega | (simp only [rmk]; omega)) (by first | decide | omega | (simp only [rmk]; omega)) ?_
    exact ⟨bsome (decide_eq_false c_8).symm, rfl⟩
  · skip
    refine r_iconst C (nI 1) d_Mo_isBySide_11 (by decide) ?_
    refine r_goto C 16 d_Mo_isBySide_12 (by decide) ?_
    refine r_eqS (st' := [.int (bI true)]) rfl ?_
    refine r_bret C E d_Mo_isBySide_16 (by first | decide | omega | (simp only [rmk]; omega)) (by first | decide | omega | (simp only [rmk]; omega)) ?_
    exact ⟨bsome (decide_eq_true c_8).symm, rfl⟩

set_option maxHeartbeats 4000000 in
set_option maxRecDepth 100000 in
theorem c_Mo_passes (g : GG) (l : Launch) {m0 : Nat} {ad : Nat → Nat} {qth : Int32} {qsz : Int32} {qtk : Int32} {qde : Int32} {qru : Int32} {qat : Int32} {qen : Int32} {qto : Int32} {qbe : Int32} {qva : Int32} {qwr : Int32} {qop : Int32} {qrw : Int32} {qma : Int32} {qir : Bool} {qiu : Bool} {uw : Nat} {uh : Nat} {w : Nat} {c : Nat}  (hw0 : 0 < uw) (hw1 : uw ≤ 16) (hc2 : c < 256) (hY : c / uw ≤ 15) (hh0 : 0 < uh) (hh1 : uh ≤ 16) (hwv : w = 11 ∨ w = 12 ∨ w = 13 ∨ w = 14) : Cn g l y_Mo_passes b_Mo_passes 4 (some .boolean) (rmk 1 0 0 21) [.ref m0, .int (nI w), .int (nI c)] ([(m0, .inr (9, MO ad qth qsz (bI qir) qtk qde qru qat qen qto qbe qva qwr qop (bI qiu) (nI uw) (nI uh) qrw qma))]) (fun (r0 : Option Value) (w0 : va_W) => r0 = some (.int (bI (passB uw uh (w + 1) c))) ∧ w0 = [(m0, .inr (9, MO ad qth qsz (bI qir) qtk qde qru qat qen qto qbe qva qwr qop (bI qiu) (nI uw) (nI uh) qrw qma))]) := by
  refine Cn.of R_Mo [(0, .ref m0), (1, .int (nI w)), (2, .int (nI c))] (by decide) rfl (Nat.le_of_ble_eq_true rfl) rfl ?_
  intro x A Q hR hXl hin C E
  subst hXl
  have hX : c % uw ≤ 15 := by have := Nat.mod_lt c hw0; omega
  rcases hwv with rfl | rfl | rfl | rfl
  · skip
    refine r_iload_n C 1 d_Mo_passes_0 rfl rfl ?_
    refine r_bipush C (nI 11) d_Mo_passes_1 (by decide) ?_
    refine r_ncmp_eq C 12 d_Mo_passes_3 (by decide) (by omega) (by omega) (fun c_3 => ?_) (fun c_3 => ?_)
    rotate_left
    · exact absurd c_3 (by decide)
    refine r_aload_n C 0 d_Mo_passes_12 rfl rfl ?_
    refine r_iload_n C 2 d_Mo_passes_13 rfl rfl ?_
    refine j_callV C (c_Mo_x g (xl x) (m0 := m0) (ad := ad) (qth := qth) (qsz := qsz) (qtk := qtk) (qde := qde) (qru := qru) (qat := qat) (qen := qen) (qto := qto) (qbe := qbe) (qva := qva) (qwr := qwr) (qop := qop) (qhe := nI uh) (qrw := qrw) (qma := qma) (qir := qir) (qiu := qiu) (uw := uw) (c := c) (by first | assumption | omega | rfl) (by first | assumption | omega | rfl) (by first | assumption | omega | rfl)) (Sp.of (wr := []) [0] [] rfl rfl rfl rfl (by decide)) d_Mo_passes_14 lk_Mo_228 mw_Mo_x vw_Mo_x (q0 := 0) rfl rfl (fit_of hR (by first | decide | (simp only [rmk]; omega)) (by first | decide | (simp only [rmk]; omega)) (by first | decide | (simp only [rmk]; omega)) (by first | decide | (simp only [rmk]; omega))) rfl (cat8 (Nat.le_of_ble_eq_true rfl)) (As := [.int (nI c)]) (rest := []) rfl (fun r_14 w_14 hp_14 => ?_)
    obtain ⟨rfl, rfl⟩ := hp_14
    refine r_after (ws' := [(m0, .inr (9, MO ad qth qsz (bI qir) qtk qde qru qat qen qto qbe qva qwr qop (bI qiu) (nI uw) (nI uh) qrw qma))]) (st' := [.int (nI (c % uw))]) (n1 := 0) (n2 := 0) [0] rfl rfl rfl rfl rfl ?_
    refine r_aload_n C 0 d_Mo_passes_17 rfl rfl ?_
    refine r_iload_n C 2 d_Mo_passes_18 rfl rfl ?_
    refine j_callV C (c_Mo_y g (xl x) (m0 := m0) (ad := ad) (qth := qth) (qsz := qsz) (qtk := qtk) (qde := qde) (qru := qru) (qat := qat) (qen := qen) (qto := qto) (qbe := qbe) (qva := qva) (qwr := qwr) (qop := qop) (qhe := nI uh) (qrw := qrw) (qma := qma) (qir := qir) (qiu := qiu) (uw := uw) (c := c) (by first | assumption | omega | rfl) (by first | assumption | omega | rfl) (by first | assumption | omega | rfl)) (Sp.of (wr := []) [0] [] rfl rfl rfl rfl (by decide)) d_Mo_passes_19 lk_Mo_224 mw_Mo_y vw_Mo_y (q0 := 0) rfl rfl (fit_of hR (by first | decide | (simp only [rmk]; omega)) (by first | decide | (simp only [rmk]; omega)) (by first | decide | (simp only [rmk]; omega)) (by first | decide | (simp only [rmk]; omega))) rfl (cat8 (Nat.le_of_ble_eq_true rfl)) (As := [.int (nI c)]) (rest := [.int (nI (c % uw))]) rfl (fun r_19 w_19 hp_19 => ?_)
    obtain ⟨rfl, rfl⟩ := hp_19
    refine r_after (ws' := [(m0, .inr (9, MO ad qth qsz (bI qir) qtk qde qru qat qen qto qbe qva qwr qop (bI qiu) (nI uw) (nI uh) qrw qma))]) (st' := [.int (nI (c / uw)), .int (nI (c % uw))]) (n1 := 0) (n2 := 0) [0] rfl rfl rfl rfl rfl ?_
    refine r_nadd C d_Mo_passes_22 ?_
    refine r_iconst C (nI 2) d_Mo_passes_23 (by decide) ?_
    refine r_nrem C d_Mo_passes_24 (by omega) (by omega) (by omega) ?_
    refine r_iload_n C 1 d_Mo_passes_25 rfl rfl ?_
    refine r_bipush C (nI 11) d_Mo_passes_26 (by decide) ?_
    refine r_ncmp_ne C 35 d_Mo_passes_28 (by decide) (by omega) (by omega) (fun c_28 => ?_) (fun c_28 => ?_)
    · exact absurd c_28 (by decide)
    refine r_iconst C (nI 1) d_Mo_passes_31 (by decide) ?_
    refine r_goto C 36 d_Mo_passes_32 (by decide) ?_
    refine r_ncmp_ne C 43 d_Mo_passes_36 (by decide) (by omega) (by omega) (fun c_36 => ?_) (fun c_36 => ?_)
    · skip
      refine r_iconst C (nI 0) d_Mo_passes_43 (by decide) ?_
      refine r_eqS (st' := [.int (bI false)]) rfl ?_
      refine r_bret C E d_Mo_passes_44 (by first | decide | omega | (simp only [rmk]; omega)) (by first | decide | omega | (simp only [rmk]; omega)) ?_
      exact ⟨bsome (by symm; show decide ((c % uw + c / uw) % 2 = 1) = false; exact decide_eq_false (by omega)), rfl⟩
    · skip
      refine r_iconst C (nI 1) d_Mo_passes_39 (by decide) ?_
      refine r_goto C 44 d_Mo_passes_40 (by decide) ?_
      refine r_eqS (st' := [.int (bI true)]) rfl ?_
      refine r_bret C E d_Mo_passes_44 (by first | decide | omega | (simp only [rmk]; omega)) (by first | decide | omega | (simp only [rmk]; omega)) ?_
      exact ⟨bsome (by symm; show decide ((c % uw + c / uw) % 2 = 1) = true; exact decide_eq_true (by omega)), rfl⟩
  · skip
    refine r_iload_n C 1 d_Mo_passes_0 rfl rfl ?_
    refine r_bipush C (nI 11) d_Mo_passes_1 (by decide) ?_
    refine r_ncmp_eq C 12 d_Mo_passes_3 (by decide) (by omega) (by omega) (fun c_3 => ?_) (fun c_3 => ?_)
    · exact absurd c_3 (by decide)
    refine r_iload_n C 1 d_Mo_passes_6 rfl rfl ?_
    refine r_bipush C (nI 12) d_Mo_passes_7 (by decide) ?_
    refine r_ncmp_ne C 45 d_Mo_passes_9 (by decide) (by omega) (by omega) (fun c_9 => ?_) (fun c_9 => ?_)
    · exact absurd c_9 (by decide)
    refine r_aload_n C 0 d_Mo_passes_12 rfl rfl ?_
    refine r_iload_n C 2 d_Mo_passes_13 rfl rfl ?_
    refine j_callV C (c_Mo_x g (xl x) (m0 := m0) (ad := ad) (qth := qth) (qsz := qsz) (qtk := qtk) (qde := qde) (qru := qru) (qat := qat) (qen := qen) (qto := qto) (qbe := qbe) (qva := qva) (qwr := qwr) (qop := qop) (qhe := nI uh) (qrw := qrw) (qma := qma) (qir := qir) (qiu := qiu) (uw := uw) (c := c) (by first | assumption | omega | rfl) (by first | assumption | omega | rfl) (by first | assumption | omega | rfl)) (Sp.of (wr := []) [0] [] rfl rfl rfl rfl (by decide)) d_Mo_passes_14 lk_Mo_228 mw_Mo_x vw_Mo_x (q0 := 0) rfl rfl (fit_of hR (by first | decide | (simp only [rmk]; omega)) (by first | decide | (simp only [rmk]; omega)) (by first | decide | (simp only [rmk]; omega)) (by first | decide | (simp only [rmk]; omega))) rfl (cat8 (Nat.le_of_ble_eq_true rfl)) (As := [.int (nI c)]) (rest := []) rfl (fun r_14 w_14 hp_14 => ?_)
    obtain ⟨rfl, rfl⟩ := hp_14
    refine r_after (ws' := [(m0, .inr (9, MO ad qth qsz (bI qir) qtk qde qru qat qen qto qbe qva qwr qop (bI qiu) (nI uw) (nI uh) qrw qma))]) (st' := [.int (nI (c % uw))]) (n1 := 0) (n2 := 0) [0] rfl rfl rfl rfl rfl ?_
    refine r_aload_n C 0 d_Mo_passes_17 rfl rfl ?_
    refine r_iload_n C 2 d_Mo_passes_18 rfl rfl ?_
    refine j_callV C (c_Mo_y g (xl x) (m0 := m0) (ad := ad) (qth := qth) (qsz := qsz) (qtk := qtk) (qde := qde) (qru := qru) (qat := qat) (qen := qen) (qto := qto) (qbe := qbe) (qva := qva) (qwr := qwr) (qop := qop) (qhe := nI uh) (qrw := qrw) (qma := qma) (qir := qir) (qiu := qiu) (uw := uw) (c := c) (by first | assumption | omega | rfl) (by first | assumption | omega | rfl) (by first | assumption | omega | rfl)) (Sp.of (wr := []) [0] [] rfl rfl rfl rfl (by decide)) d_Mo_passes_19 lk_Mo_224 mw_Mo_y vw_Mo_y (q0 := 0) rfl rfl (fit_of hR (by first | decide | (simp only [rmk]; omega)) (by first | decide | (simp only [rmk]; omega)) (by first | decide | (simp only [rmk]; omega)) (by first | decide | (simp only [rmk]; omega))) rfl (cat8 (Nat.le_of_ble_eq_true rfl)) (As := [.int (nI c)]) (rest := [.int (nI (c % uw))]) rfl (fun r_19 w_19 hp_19 => ?_)
    obtain ⟨rfl, rfl⟩ := hp_19
    refine r_after (ws' := [(m0, .inr (9, MO ad qth qsz (bI qir) qtk qde qru qat qen qto qbe qva qwr qop (bI qiu) (nI uw) (nI uh) qrw qma))]) (st' := [.int (nI (c / uw)), .int (nI (c % uw))]) (n1 := 0) (n2 := 0) [0] rfl rfl rfl rfl rfl ?_
    refine r_nadd C d_Mo_passes_22 ?_
    refine r_iconst C (nI 2) d_Mo_passes_23 (by decide) ?_
    refine r_nrem C d_Mo_passes_24 (by omega) (by omega) (by omega) ?_
    refine r_iload_n C 1 d_Mo_passes_25 rfl rfl ?_
    refine r_bipush C (nI 11) d_Mo_passes_26 (by decide) ?_
    refine r_ncmp_ne C 35 d_Mo_passes_28 (by decide) (by omega) (by omega) (fun c_28 => ?_) (fun c_28 => ?_)
    rotate_left
    · exact absurd c_28 (by decide)
    refine r_iconst C (nI 0) d_Mo_passes_35 (by decide) ?_
    refine r_ncmp_ne C 43 d_Mo_passes_36 (by decide) (by omega) (by omega) (fun c_36 => ?_) (fun c_36 => ?_)
    · skip
      refine r_iconst C (nI 0) d_Mo_passes_43 (by decide) ?_
      refine r_eqS (st' := [.int (bI false)]) rfl ?_
      refine r_bret C E d_Mo_passes_44 (by first | decide | omega | (simp only [rmk]; omega)) (by first | decide | omega | (simp only [rmk]; omega)) ?_
      exact ⟨bsome (by symm; show decide (¬ (c % uw + c / uw) % 2 = 1) = false; exact decide_eq_false (by omega)), rfl⟩
    · skip
      refine r_iconst C (nI 1) d_Mo_passes_39 (by decide) ?_
      refine r_goto C 44 d_Mo_passes_40 (by decide) ?_
      refine r_eqS (st' := [.int (bI true)]) rfl ?_
      refine r_bret C E d_Mo_passes_44 (by first | decide | omega | (simp only [rmk]; omega)) (by first | decide | omega | (simp only [rmk]; omega)) ?_
      exact ⟨bsome (by symm; show decide (¬ (c % uw + c / uw) % 2 = 1) = true; exact decide_eq_true (by omega)), rfl⟩
  · skip
    refine r_iload_n C 1 d_Mo_passes_0 rfl rfl ?_
    refine r_bipush C (nI 11) d_Mo_passes_1 (by decide) ?_
    refine r_ncmp_eq C 12 d_Mo_passes_3 (by decide) (by omega) (by omega) (fun c_3 => ?_) (fun c_3 => ?_)
    · exact absurd c_3 (by decide)
    refine r_iload_n C 1 d_Mo_passes_6 rfl rfl ?_
    refine r_bipush C (nI 12) d_Mo_passes_7 (by decide) ?_
    refine r_ncmp_ne C 45 d_Mo_passes_9 (by decide) (by omega) (by omega) (fun c_9 => ?_) (fun c_9 => ?_)
    rotate_left
    · exact absurd c_9 (by decide)
    refine r_aload_n C 0 d_Mo_passes_45 rfl rfl ?_
    refine r_iload_n C 2 d_Mo_passes_46 rfl rfl ?_
    refine j_callV C (c_Mo_x g (xl x) (m0 := m0) (ad := ad) (qth := qth) (qsz := qsz) (qtk := qtk) (qde := qde) (qru := qru) (qat := qat) (qen := qen) (qto := qto) (qbe := qbe) (qva := qva) (qwr := qwr) (qop := qop) (qhe := nI uh) (qrw := qrw) (qma := qma) (qir := qir) (qiu := qiu) (uw := uw) (c := c) (by first | assumption | omega | rfl) (by first | assumption | omega | rfl) (by first | assumption | omega | rfl)) (Sp.of (wr := []) [0] [] rfl rfl rfl rfl (by decide)) d_Mo_passes_47 lk_Mo_228 mw_Mo_x vw_Mo_x (q0 := 0) rfl rfl (fit_of hR (by first | decide | (simp only [rmk]; omega)) (by first | decide | (simp only [rmk]; omega)) (by first | decide | (simp only [rmk]; omega)) (by first | decide | (simp only [rmk]; omega))) rfl (cat8 (Nat.le_of_ble_eq_true rfl)) (As := [.int (nI c)]) (rest := []) rfl (fun r_47 w_47 hp_47 => ?_)
    obtain ⟨rfl, rfl⟩ := hp_47
    refine r_after (ws' := [(m0, .inr (9, MO ad qth qsz (bI qir) qtk qde qru qat qen qto qbe qva qwr qop (bI qiu) (nI uw) (nI uh) qrw qma))]) (st' := [.int (nI (c % uw))]) (n1 := 0) (n2 := 0) [0] rfl rfl rfl rfl rfl ?_
    refine r_nif_eq C 89 d_Mo_passes_50 (by decide) (by omega) (fun c_50 => ?_) (fun c_50 => ?_)
    · skip
      refine r_iconst C (nI 1) d_Mo_passes_89 (by decide) ?_
      refine r_goto C 94 d_Mo_passes_90 (by decide) ?_
      refine r_istore_n C (lv' := [(3, .int (nI 1)), (0, .ref m0), (1, .int (nI 13)), (2, .int (nI c))]) d_Mo_passes_94 rfl (by decide) rfl ?_
      refine r_iload_n C 0 d_Mo_passes_95 rfl rfl ?_
      refine r_iload_n C 2 d_Mo_passes_96 rfl rfl ?_
      refine r_bipush C (nI 13) d_Mo_passes_97 (by decide) ?_
      refine r_ncmp_ne C 106 d_Mo_passes_99 (by decide) (by omega) (by omega) (fun c_99 => ?_) (fun c_99 => ?_)
      · exact absurd c_99 (by decide)
      refine r_iconst C (nI 1) d_Mo_passes_102 (by decide) ?_
      refine r_goto C 107 d_Mo_passes_103 (by decide) ?_
      refine r_ncmp_ne C 114 d_Mo_passes_107 (by decide) (by omega) (by omega) (fun c_107 => ?_) (fun c_107 => ?_)
      · exact absurd c_107 (by decide)
      refine r_iconst C (nI 1) d_Mo_passes_110 (by decide) ?_
      refine r_goto C 115 d_Mo_passes_111 (by decide) ?_
      refine r_eqS (st' := [.int (bI true)]) rfl ?_
      refine r_bret C E d_Mo_passes_115 (by first | decide | omega | (simp only [rmk]; omega)) (by first | decide | omega | (simp only [rmk]; omega)) ?_
      exact ⟨bsome (by symm; show decide (c % uw = 0 ∨ c / uw = 0 ∨ c % uw = uw - 1 ∨ c / uw = uh - 1) = true; exact decide_eq_true (by omega)), rfl⟩
    · skip
      refine r_aload_n C 0 d_Mo_passes_53 rfl rfl ?_
      refine r_iload_n C 2 d_Mo_passes_54 rfl rfl ?_
      refine j_callV C (c_Mo_y g (xl x) (m0 := m0) (ad := ad) (qth := qth) (qsz := qsz) (qtk := qtk) (qde := qde) (qru := qru) (qat := qat) (qen := qen) (qto := qto) (qbe := qbe) (qva := qva) (qwr := qwr) (qop := qop) (qhe := nI uh) (qrw := qrw) (qma := qma) (qir := qir) (qiu := qiu) (uw := uw) (c := c) (by first | assumption | omega | rfl) (by first | assumption | omega | rfl) (by first | assumption | omega | rfl)) (Sp.of (wr := []) [0] [] rfl rfl rfl rfl (by decide)) d_Mo_passes_55 lk_Mo_224 mw_Mo_y vw_Mo_y (q0 := 0) rfl rfl (fit_of hR (by first | decide | (simp only [rmk]; omega)) (by first | decide | (simp only [rmk]; omega)) (by first | decide | (simp only [rmk]; omega)) (by first | decide | (simp only [rmk]; omega))) rfl (cat8 (Nat.le_of_ble_eq_true rfl)) (As := [.int (nI c)]) (rest := []) rfl (fun r_55 w_55 hp_55 => ?_)
      obtain ⟨rfl, rfl⟩ := hp_55
      refine r_after (ws' := [(m0, .inr (9, MO ad qth qsz (bI qir) qtk qde qru qat qen qto qbe qva qwr qop (bI qiu) (nI uw) (nI uh) qrw qma))]) (st' := [.int (nI (c / uw))]) (n1 := 0) (n2 := 0) [0] rfl rfl rfl rfl rfl ?_
      refine r_nif_eq C 89 d_Mo_passes_58 (by decide) (by omega) (fun c_58 => ?_) (fun c_58 => ?_)
      · skip
        refine r_iconst C (nI 1) d_Mo_passes_89 (by decide) ?_
        refine r_goto C 94 d_Mo_passes_90 (by decide) ?_
        refine r_istore_n C (lv' := [(3, .int (nI 1)), (0, .ref m0), (1, .int (nI 13)), (2, .int (nI c))]) d_Mo_passes_94 rfl (by decide) rfl ?_
        refine r_iload_n C 0 d_Mo_passes_95 rfl rfl ?_
        refine r_iload_n C 2 d_Mo_passes_96 rfl rfl ?_
        refine r_bipush C (nI 13) d_Mo_passes_97 (by decide) ?_
        refine r_ncmp_ne C 106 d_Mo_passes_99 (by decide) (by omega) (by omega) (fun c_99 => ?_) (fun c_99 => ?_)
        · exact absurd c_99 (by decide)
        refine r_iconst C (nI 1) d_Mo_passes_102 (by decide) ?_
        refine r_goto C 107 d_Mo_passes_103 (by decide) ?_
        refine r_ncmp_ne C 114 d_Mo_passes_107 (by decide) (by omega) (by omega) (fun c_107 => ?_) (fun c_107 => ?_)
        · exact absurd c_107 (by decide)
        refine r_iconst C (nI 1) d_Mo_passes_110 (by decide) ?_
        refine r_goto C 115 d_Mo_passes_111 (by decide) ?_
        refine r_eqS (st' := [.int (bI true)]) rfl ?_
        refine r_bret C E d_Mo_passes_115 (by first | decide | omega | (simp only [rmk]; omega)) (by first | decide | omega | (simp only [rmk]; omega)) ?_
        exact ⟨bsome (by symm; show decide (c % uw = 0 ∨ c / uw = 0 ∨ c % uw = uw - 1 ∨ c / uw = uh - 1) = true; exact decide_eq_true (by omega)), rfl⟩
      · skip
        refine r_aload_n C 0 d_Mo_passes_61 rfl rfl ?_
        refine r_iload_n C 2 d_Mo_passes_62 rfl rfl ?_
        refine j_callV C (c_Mo_x g (xl x) (m0 := m0) (ad := ad) (qth := qth) (qsz := qsz) (qtk := qtk) (qde := qde) (qru := qru) (qat := qat) (qen := qen) (qto := qto) (qbe := qbe) (qva := qva) (qwr := qwr) (qop := qop) (qhe := nI uh) (qrw := qrw) (qma := qma) (qir := qir) (qiu := qiu) (uw := uw) (c := c) (by first | assumption | omega | rfl) (by first | assumption | omega | rfl) (by first | assumption | omega | rfl)) (Sp.of (wr := []) [0] [] rfl rfl rfl rfl (by decide)) d_Mo_passes_63 lk_Mo_228 mw_Mo_x vw_Mo_x (q0 := 0) rfl rfl (fit_of hR (by first | decide | (simp only [rmk]; omega)) (by first | decide | (simp only [rmk]; omega)) (by first | decide | (simp only [rmk]; omega)) (by first | decide | (simp only [rmk]; omega))) rfl (cat8 (Nat.le_of_ble_eq_true rfl)) (As := [.int (nI c)]) (rest := []) rfl (fun r_63 w_63 hp_63 => ?_)
        obtain ⟨rfl, rfl⟩ := hp_63
        refine r_after (ws' := [(m0, .inr (9, MO ad qth qsz (bI qir) qtk qde qru qat qen qto qbe qva qwr qop (bI qiu) (nI uw) (nI uh) qrw qma))]) (st' := [.int (nI (c % uw))]) (n1 := 0) (n2 := 0) [0] rfl rfl rfl rfl rfl ?_
        refine r_aload_n C 0 d_Mo_passes_66 rfl rfl ?_
        refine r_get C 0 30 d_Mo_passes_67 ci_Mo fi_Mo_218 rfl (by decide) rfl rfl ?_
        refine r_iconst C (nI 1) d_Mo_passes_70 (by decide) ?_
        refine r_nsub C d_Mo_passes_71 (by omega) ?_
        refine r_ncmp_eq C 89 d_Mo_passes_72 (by decide) (by omega) (by omega) (fun c_72 => ?_) (fun c_72 => ?_)
        · skip
          refine r_iconst C (nI 1) d_Mo_passes_89 (by decide) ?_
          refine r_goto C 94 d_Mo_passes_90 (by decide) ?_
          refine r_istore_n C (lv' := [(3, .int (nI 1)), (0, .ref m0), (1, .int (nI 13)), (2, .int (nI c))]) d_Mo_passes_94 rfl (by decide) rfl ?_
          refine r_iload_n C 0 d_Mo_passes_95 rfl rfl ?_
          refine r_iload_n C 2 d_Mo_passes_96 rfl rfl ?_
          refine r_bipush C (nI 13) d_Mo_passes_97 (by decide) ?_
          refine r_ncmp_ne C 106 d_Mo_passes_99 (by decide) (by omega) (by omega) (fun c_99 => ?_) (fun c_99 => ?_)
          · exact absurd c_99 (by decide)
          refine r_iconst C (nI 1) d_Mo_passes_102 (by decide) ?_
          refine r_goto C 107 d_Mo_passes_103 (by decide) ?_
          refine r_ncmp_ne C 114 d_Mo_passes_107 (by decide) (by omega) (by omega) (fun c_107 => ?_) (fun c_107 => ?_)
          · exact absurd c_107 (by decide)
          refine r_iconst C (nI 1) d_Mo_passes_110 (by decide) ?_
          refine r_goto C 115 d_Mo_passes_111 (by decide) ?_
          refine r_eqS (st' := [.int (bI true)]) rfl ?_
          refine r_bret C E d_Mo_passes_115 (by first | decide | omega | (simp only [rmk]; omega)) (by first | decide | omega | (simp only [rmk]; omega)) ?_
          exact ⟨bsome (by symm; show decide (c % uw = 0 ∨ c / uw = 0 ∨ c % uw = uw - 1 ∨ c / uw = uh - 1) = true; exact decide_eq_true (by omega)), rfl⟩
        · skip
          refine r_aload_n C 0 d_Mo_passes_75 rfl rfl ?_
          refine r_iload_n C 2 d_Mo_passes_76 rfl rfl ?_
          refine j_callV C (c_Mo_y g (xl x) (m0 := m0) (ad := ad) (qth := qth) (qsz := qsz) (qtk := qtk) (qde := qde) (qru := qru) (qat := qat) (qen := qen) (qto := qto) (qbe := qbe) (qva := qva) (qwr := qwr) (qop := qop) (qhe := nI uh) (qrw := qrw) (qma := qma) (qir := qir) (qiu := qiu) (uw := uw) (c := c) (by first | assumption | omega | rfl) (by first | assumption | omega | rfl) (by first | assumption | omega | rfl)) (Sp.of (wr := []) [0] [] rfl rfl rfl rfl (by decide)) d_Mo_passes_77 lk_Mo_224 mw_Mo_y vw_Mo_y (q0 := 0) rfl rfl (fit_of hR (by first | decide | (simp only [rmk]; omega)) (by first | decide | (simp only [rmk]; omega)) (by first | decide | (simp only [rmk]; omega)) (by first | decide | (simp only [rmk]; omega))) rfl (cat8 (Nat.le_of_ble_eq_true rfl)) (As := [.int (nI c)]) (rest := []) rfl (fun r_77 w_77 hp_77 => ?_)
          obtain ⟨rfl, rfl⟩ := hp_77
          refine r_after (ws' := [(m0, .inr (9, MO ad qth qsz (bI qir) qtk qde qru qat qen qto qbe qva qwr qop (bI qiu) (nI uw) (nI uh) qrw qma))]) (st' := [.int (nI (c / uw))]) (n1 := 0) (n2 := 0) [0] rfl rfl rfl rfl rfl ?_
          refine r_aload_n C 0 d_Mo_passes_80 rfl rfl ?_
          refine r_get C 0 31 d_Mo_passes_81 ci_Mo fi_Mo_231 rfl (by decide) rfl rfl ?_
          refine r_iconst C (nI 1) d_Mo_passes_84 (by decide) ?_
          refine r_nsub C d_Mo_passes_85 (by omega) ?_
          refine r_ncmp_ne C 93 d_Mo_passes_86 (by decide) (by omega) (by omega) (fun c_86 => ?_) (fun c_86 => ?_)
          · skip
            refine r_iconst C (nI 0) d_Mo_passes_93 (by decide) ?_
            refine r_istore_n C (lv' := [(3, .int (nI 0)), (0, .ref m0), (1, .int (nI 13)), (2, .int (nI c))]) d_Mo_passes_94 rfl (by decide) rfl ?_
            refine r_iload_n C 0 d_Mo_passes_95 rfl rfl ?_
            refine r_iload_n C 2 d_Mo_passes_96 rfl rfl ?_
            refine r_bipush C (nI 13) d_Mo_passes_97 (by decide) ?_
            refine r_ncmp_ne C 106 d_Mo_passes_99 (by decide) (by omega) (by omega) (fun c_99 => ?_) (fun c_99 => ?_)
            · exact absurd c_99 (by decide)
            refine r_iconst C (nI 1) d_Mo_passes_102 (by decide) ?_
            refine r_goto C 107 d_Mo_passes_103 (by decide) ?_
            refine r_ncmp_ne C 114 d_Mo_passes_107 (by decide) (by omega) (by omega) (fun c_107 => ?_) (fun c_107 => ?_)
            rotate_left
            · exact absurd c_107 (by decide)
            refine r_iconst C (nI 0) d_Mo_passes_114 (by decide) ?_
            refine r_eqS (st' := [.int (bI false)]) rfl ?_
            refine r_bret C E d_Mo_passes_115 (by first | decide | omega | (simp only [rmk]; omega)) (by first | decide | omega | (simp only [rmk]; omega)) ?_
            exact ⟨bsome (by symm; show decide (c % uw = 0 ∨ c / uw = 0 ∨ c % uw = uw - 1 ∨ c / uw = uh - 1) = false; exact decide_eq_false (by omega)), rfl⟩
          · skip
            refine r_iconst C (nI 1) d_Mo_passes_89 (by decide) ?_
            refine r_goto C 94 d_Mo_passes_90 (by decide) ?_
            refine r_istore_n C (lv' := [(3, .int (nI 1)), (0, .ref m0), (1, .int (nI 13)), (2, .int (nI c))]) d_Mo_passes_94 rfl (by decide) rfl ?_
            refine r_iload_n C 0 d_Mo_passes_95 rfl rfl ?_
            refine r_iload_n C 2 d_Mo_passes_96 rfl rfl ?_
            refine r_bipush C (nI 13) d_Mo_passes_97 (by decide) ?_
            refine r_ncmp_ne C 106 d_Mo_passes_99 (by decide) (by omega) (by omega) (fun c_99 => ?_) (fun c_99 => ?_)
            · exact absurd c_99 (by decide)
            refine r_iconst C (nI 1) d_Mo_passes_102 (by decide) ?_
            refine r_goto C 107 d_Mo_passes_103 (by decide) ?_
            refine r_ncmp_ne C 114 d_Mo_passes_107 (by decide) (by omega) (by omega) (fun c_107 => ?_) (fun c_107 => ?_)
            · exact absurd c_107 (by decide)
            refine r_iconst C (nI 1) d_Mo_passes_110 (by decide) ?_
            refine r_goto C 115 d_Mo_passes_111 (by decide) ?_
            refine r_eqS (st' := [.int (bI true)]) rfl ?_
            refine r_bret C E d_Mo_passes_115 (by first | decide | omega | (simp only [rmk]; omega)) (by first | decide | omega | (simp only [rmk]; omega)) ?_
            exact ⟨bsome (by symm; show decide (c % uw = 0 ∨ c / uw = 0 ∨ c % uw = uw - 1 ∨ c / uw = uh - 1) = true; exact decide_eq_true (by omega)), rfl⟩
  · skip
    refine r_iload_n C 1 d_Mo_passes_0 rfl rfl ?_
    refine r_bipush C (nI 11) d_Mo_passes_1 (by decide) ?_
    refine r_ncmp_eq C 12 d_Mo_passes_3 (by decide) (by omega) (by omega) (fun c_3 => ?_) (fun c_3 => ?_)
    · exact absurd c_3 (by decide)
    refine r_iload_n C 1 d_Mo_passes_6 rfl rfl ?_
    refine r_bipush C (nI 12) d_Mo_passes_7 (by decide) ?_
    refine r_ncmp_ne C 45 d_Mo_passes_9 (by decide) (by omega) (by omega) (fun c_9 => ?_) (fun c_9 => ?_)
    rotate_left
    · exact absurd c_9 (by decide)
    refine r_aload_n C 0 d_Mo_passes_45 rfl rfl ?_
    refine r_iload_n C 2 d_Mo_passes_46 rfl rfl ?_
    refine j_callV C (c_Mo_x g (xl x) (m0 := m0) (ad := ad) (qth := qth) (qsz := qsz) (qtk := qtk) (qde := qde) (qru := qru) (qat := qat) (qen := qen) (qto := qto) (qbe := qbe) (qva := qva) (qwr := qwr) (qop := qop) (qhe := nI uh) (qrw := qrw) (qma := qma) (qir := qir) (qiu := qiu) (uw := uw) (c := c) (by first | assumption | omega | rfl) (by first | assumption | omega | rfl) (by first | assumption | omega | rfl)) (Sp.of (wr := []) [0] [] rfl rfl rfl rfl (by decide)) d_Mo_passes_47 lk_Mo_228 mw_Mo_x vw_Mo_x (q0 := 0) rfl rfl (fit_of hR (by first | decide | (simp only [rmk]; omega)) (by first | decide | (simp only [rmk]; omega)) (by first | decide | (simp only [rmk]; omega)) (by first | decide | (simp only [rmk]; omega))) rfl (cat8 (Nat.le_of_ble_eq_true rfl)) (As := [.int (nI c)]) (rest := []) rfl (fun r_47 w_47 hp_47 => ?_)
    obtain ⟨rfl, rfl⟩ := hp_47
    refine r_after (ws' := [(m0, .inr (9, MO ad qth qsz (bI qir) qtk qde qru qat qen qto qbe qva qwr qop (bI qiu) (nI uw) (nI uh) qrw qma))]) (st' := [.int (nI (c % uw))]) (n1 := 0) (n2 := 0) [0] rfl rfl rfl rfl rfl ?_
    refine r_nif_eq C 89 d_Mo_passes_50 (by decide) (by omega) (fun c_50 => ?_) (fun c_50 => ?_)
    · skip
      refine r_iconst C (nI 1) d_Mo_passes_89 (by decide) ?_
      refine r_goto C 94 d_Mo_passes_90 (by decide) ?_
      refine r_istore_n C (lv' := [(3, .int (nI 1)), (0, .ref m0), (1, .int (nI 14)), (2, .int (nI c))]) d_Mo_passes_94 rfl (by decide) rfl ?_
      refine r_iload_n C 0 d_Mo_passes_95 rfl rfl ?_
      refine r_iload_n C 2 d_Mo_passes_96 rfl rfl ?_
      refine r_bipush C (nI 13) d_Mo_passes_97 (by decide) ?_
      refine r_ncmp_ne C 106 d_Mo_passes_99 (by decide) (by omega) (by omega) (fun c_99 => ?_) (fun c_99 => ?_)
      rotate_left
      · exact absurd c_99 (by decide)
      refine r_iconst C (nI 0) d_Mo_passes_106 (by decide) ?_
      refine r_ncmp_ne C 114 d_Mo_passes_107 (by decide) (by omega) (by omega) (fun c_107 => ?_) (fun c_107 => ?_)
      rotate_left
      · exact absurd c_107 (by decide)
      refine r_iconst C (nI 0) d_Mo_passes_114 (by decide) ?_
      refine r_eqS (st' := [.int (bI false)]) rfl ?_
      refine r_bret C E d_Mo_passes_115 (by first | decide | omega | (simp only [rmk]; omega)) (by first | decide | omega | (simp only [rmk]; omega)) ?_
      exact ⟨bsome (by symm; show decide (¬ (c % uw = 0 ∨ c / uw = 0 ∨ c % uw = uw - 1 ∨ c / uw = uh - 1)) = false; exact decide_eq_false (by omega)), rfl⟩
    · skip
      refine r_aload_n C 0 d_Mo_passes_53 rfl rfl ?_
      refine r_iload_n C 2 d_Mo_passes_54 rfl rfl ?_
      refine j_callV C (c_Mo_y g (xl x) (m0 := m0) (ad := ad) (qth := qth) (qsz := qsz) (qtk := qtk) (qde := qde) (qru := qru) (qat := qat) (qen := qen) (qto := qto) (qbe := qbe) (qva := qva) (qwr := qwr) (qop := qop) (qhe := nI uh) (qrw := qrw) (qma := qma) (qir := qir) (qiu := qiu) (uw := uw) (c := c) (by first | assumption | omega | rfl) (by first | assumption | omega | rfl) (by first | assumption | omega | rfl)) (Sp.of (wr := []) [0] [] rfl rfl rfl rfl (by decide)) d_Mo_passes_55 lk_Mo_224 mw_Mo_y vw_Mo_y (q0 := 0) rfl rfl (fit_of hR (by first | decide | (simp only [rmk]; omega)) (by first | decide | (simp only [rmk]; omega)) (by first | decide | (simp only [rmk]; omega)) (by first | decide | (simp only [rmk]; omega))) rfl (cat8 (Nat.le_of_ble_eq_true rfl)) (As := [.int (nI c)]) (rest := []) rfl (fun r_55 w_55 hp_55 => ?_)
      obtain ⟨rfl, rfl⟩ := hp_55
      refine r_after (ws' := [(m0, .inr (9, MO ad qth qsz (bI qir) qtk qde qru qat qen qto qbe qva qwr qop (bI qiu) (nI uw) (nI uh) qrw qma))]) (st' := [.int (nI (c / uw))]) (n1 := 0) (n2 := 0) [0] rfl rfl rfl rfl rfl ?_
      refine r_nif_eq C 89 d_Mo_passes_58 (by decide) (by omega) (fun c_58 => ?_) (fun c_58 => ?_)
      · skip
        refine r_iconst C (nI 1) d_Mo_passes_89 (by decide) ?_
        refine r_goto C 94 d_Mo_passes_90 (by decide) ?_
        refine r_istore_n C (lv' := [(3, .int (nI 1)), (0, .ref m0), (1, .int (nI 14)), (2, .int (nI c))]) d_Mo_passes_94 rfl (by decide) rfl ?_
        refine r_iload_n C 0 d_Mo_passes_95 rfl rfl ?_
        refine r_iload_n C 2 d_Mo_passes_96 rfl rfl ?_
        refine r_bipush C (nI 13) d_Mo_passes_97 (by decide) ?_
        refine r_ncmp_ne C 106 d_Mo_passes_99 (by decide) (by omega) (by omega) (fun c_99 => ?_) (fun c_99 => ?_)
        rotate_left
        · exact absurd c_99 (by decide)
        refine r_iconst C (nI 0) d_Mo_passes_106 (by decide) ?_
        refine r_ncmp_ne C 114 d_Mo_passes_107 (by decide) (by omega) (by omega) (fun c_107 => ?_) (fun c_107 => ?_)
        rotate_left
        · exact absurd c_107 (by decide)
        refine r_iconst C (nI 0) d_Mo_passes_114 (by decide) ?_
        refine r_eqS (st' := [.int (bI false)]) rfl ?_
        refine r_bret C E d_Mo_passes_115 (by first | decide | omega | (simp only [rmk]; omega)) (by first | decide | omega | (simp only [rmk]; omega)) ?_
        exact ⟨bsome (by symm; show decide (¬ (c % uw = 0 ∨ c / uw = 0 ∨ c % uw = uw - 1 ∨ c / uw = uh - 1)) = false; exact decide_eq_false (by omega)), rfl⟩
      · skip
        refine r_aload_n C 0 d_Mo_passes_61 rfl rfl ?_
        refine r_iload_n C 2 d_Mo_passes_62 rfl rfl ?_
        refine j_callV C (c_Mo_x g (xl x) (m0 := m0) (ad := ad) (qth := qth) (qsz := qsz) (qtk := qtk) (qde := qde) (qru := qru) (qat := qat) (qen := qen) (qto := qto) (qbe := qbe) (qva := qva) (qwr := qwr) (qop := qop) (qhe := nI uh) (qrw := qrw) (qma := qma) (qir := qir) (qiu := qiu) (uw := uw) (c := c) (by first | assumption | omega | rfl) (by first | assumption | omega | rfl) (by first | assumption | omega | rfl)) (Sp.of (wr := []) [0] [] rfl rfl rfl rfl (by decide)) d_Mo_passes_63 lk_Mo_228 mw_Mo_x vw_Mo_x (q0 := 0) rfl rfl (fit_of hR (by first | decide | (simp only [rmk]; omega)) (by first | decide | (simp only [rmk]; omega)) (by first | decide | (simp only [rmk]; omega)) (by first | decide | (simp only [rmk]; omega))) rfl (cat8 (Nat.le_of_ble_eq_true rfl)) (As := [.int (nI c)]) (rest := []) rfl (fun r_63 w_63 hp_63 => ?_)
        obtain ⟨rfl, rfl⟩ := hp_63
        refine r_after (ws' := [(m0, .inr (9, MO ad qth qsz (bI qir) qtk qde qru qat qen qto qbe qva qwr qop (bI qiu) (nI uw) (nI uh) qrw qma))]) (st' := [.int (nI (c % uw))]) (n1 := 0) (n2 := 0) [0] rfl rfl rfl rfl rfl ?_
        refine r_aload_n C 0 d_Mo_passes_66 rfl rfl ?_
        refine r_get C 0 30 d_Mo_passes_67 ci_Mo fi_Mo_218 rfl (by decide) rfl rfl ?_
        refine r_iconst C (nI 1) d_Mo_passes_70 (by decide) ?_
        refine r_nsub C d_Mo_passes_71 (by omega) ?_
        refine r_ncmp_eq C 89 d_Mo_passes_72 (by decide) (by omega) (by omega) (fun c_72 => ?_) (fun c_72 => ?_)
        · skip
          refine r_iconst C (nI 1) d_Mo_passes_89 (by decide) ?_
          refine r_goto C 94 d_Mo_passes_90 (by decide) ?_
          refine r_istore_n C (lv' := [(3, .int (nI 1)), (0, .ref m0), (1, .int (nI 14)), (2, .int (nI c))]) d_Mo_passes_94 rfl (by decide) rfl ?_
          refine r_iload_n C 0 d_Mo_passes_95 rfl rfl ?_
          refine r_iload_n C 2 d_Mo_passes_96 rfl rfl ?_
          refine r_bipush C (nI 13) d_Mo_passes_97 (by decide) ?_
          refine r_ncmp_ne C 106 d_Mo_passes_99 (by decide) (by omega) (by omega) (fun c_99 => ?_) (fun c_99 => ?_)
          rotate_left
          · exact absurd c_99 (by decide)
          refine r_iconst C (nI 0) d_Mo_passes_106 (by decide) ?_
          refine r_ncmp_ne C 114 d_Mo_passes_107 (by decide) (by omega) (by omega) (fun c_107 => ?_) (fun c_107 => ?_)
          rotate_left
          · exact absurd c_107 (by decide)
          refine r_iconst C (nI 0) d_Mo_passes_114 (by decide) ?_
          refine r_eqS (st' := [.int (bI false)]) rfl ?_
          refine r_bret C E d_Mo_passes_115 (by first | decide | omega | (simp only [rmk]; omega)) (by first | decide | omega | (simp only [rmk]; omega)) ?_
          exact ⟨bsome (by symm; show decide (¬ (c % uw = 0 ∨ c / uw = 0 ∨ c % uw = uw - 1 ∨ c / uw = uh - 1)) = false; exact decide_eq_false (by omega)), rfl⟩
        · skip
          refine r_aload_n C 0 d_Mo_passes_75 rfl rfl ?_
          refine r_iload_n C 2 d_Mo_passes_76 rfl rfl ?_
          refine j_callV C (c_Mo_y g (xl x) (m0 := m0) (ad := ad) (qth := qth) (qsz := qsz) (qtk := qtk) (qde := qde) (qru := qru) (qat := qat) (qen := qen) (qto := qto) (qbe := qbe) (qva := qva) (qwr := qwr) (qop := qop) (qhe := nI uh) (qrw := qrw) (qma := qma) (qir := qir) (qiu := qiu) (uw := uw) (c := c) (by first | assumption | omega | rfl) (by first | assumption | omega | rfl) (by first | assumption | omega | rfl)) (Sp.of (wr := []) [0] [] rfl rfl rfl rfl (by decide)) d_Mo_passes_77 lk_Mo_224 mw_Mo_y vw_Mo_y (q0 := 0) rfl rfl (fit_of hR (by first | decide | (simp only [rmk]; omega)) (by first | decide | (simp only [rmk]; omega)) (by first | decide | (simp only [rmk]; omega)) (by first | decide | (simp only [rmk]; omega))) rfl (cat8 (Nat.le_of_ble_eq_true rfl)) (As := [.int (nI c)]) (rest := []) rfl (fun r_77 w_77 hp_77 => ?_)
          obtain ⟨rfl, rfl⟩ := hp_77
          refine r_after (ws' := [(m0, .inr (9, MO ad qth qsz (bI qir) qtk qde qru qat qen qto qbe qva qwr qop (bI qiu) (nI uw) (nI uh) qrw qma))]) (st' := [.int (nI (c / uw))]) (n1 := 0) (n2 := 0) [0] rfl rfl rfl rfl rfl ?_
          refine r_aload_n C 0 d_Mo_passes_80 rfl rfl ?_
          refine r_get C 0 31 d_Mo_passes_81 ci_Mo fi_Mo_231 rfl (by decide) rfl rfl ?_
          refine r_iconst C (nI 1) d_Mo_passes_84 (by decide) ?_
          refine r_nsub C d_Mo_passes_85 (by omega) ?_
          refine r_ncmp_ne C 93 d_Mo_passes_86 (by decide) (by omega) (by omega) (fun c_86 => ?_) (fun c_86 => ?_)
          · skip
            refine r_iconst C (nI 0) d_Mo_passes_93 (by decide) ?_
            refine r_istore_n C (lv' := [(3, .int (nI 0)), (0, .ref m0), (1, .int (nI 14)), (2, .int (nI c))]) d_Mo_passes_94 rfl (by decide) rfl ?_
            refine r_iload_n C 0 d_Mo_passes_95 rfl rfl ?_
            refine r_iload_n C 2 d_Mo_passes_96 rfl rfl ?_
            refine r_bipush C (nI 13) d_Mo_passes_97 (by decide) ?_
            refine r_ncmp_ne C 106 d_Mo_passes_99 (by decide) (by omega) (by omega) (fun c_99 => ?_) (fun c_99 => ?_)
            rotate_left
            · exact absurd c_99 (by decide)
            refine r_iconst C (nI 0) d_Mo_passes_106 (by decide) ?_
            refine r_ncmp_ne C 114 d_Mo_passes_107 (by decide) (by omega) (by omega) (fun c_107 => ?_) (fun c_107 => ?_)
            · exact absurd c_107 (by decide)
            refine r_iconst C (nI 1) d_Mo_passes_110 (by decide) ?_
            refine r_goto C 115 d_Mo_passes_111 (by decide) ?_
            refine r_eqS (st' := [.int (bI true)]) rfl ?_
            refine r_bret C E d_Mo_passes_115 (by first | decide | omega | (simp only [rmk]; omega)) (by first | decide | omega | (simp only [rmk]; omega)) ?_
            exact ⟨bsome (by symm; show decide (¬ (c % uw = 0 ∨ c / uw = 0 ∨ c % uw = uw - 1 ∨ c / uw = uh - 1)) = true; exact decide_eq_true (by omega)), rfl⟩
          · skip
            refine r_iconst C (nI 1) d_Mo_passes_89 (by decide) ?_
            refine r_goto C 94 d_Mo_passes_90 (by decide) ?_
            refine r_istore_n C (lv' := [(3, .int (nI 1)), (0, .ref m0), (1, .int (nI 14)), (2, .int (nI c))]) d_Mo_passes_94 rfl (by decide) rfl ?_
            refine r_iload_n C 0 d_Mo_passes_95 rfl rfl ?_
            refine r_iload_n C 2 d_Mo_passes_96 rfl rfl ?_
            refine r_bipush C (nI 13) d_Mo_passes_97 (by decide) ?_
            refine r_ncmp_ne C 106 d_Mo_passes_99 (by decide) (by omega) (by omega) (fun c_99 => ?_) (fun c_99 => ?_)
            rotate_left
            · exact absurd c_99 (by decide)
            refine r_iconst C (nI 0) d_Mo_passes_106 (by decide) ?_
            refine r_ncmp_ne C 114 d_Mo_passes_107 (by decide) (by omega) (by omega) (fun c_107 => ?_) (fun c_107 => ?_)
            rotate_left
            · exact absurd c_107 (by decide)
            refine r_iconst C (nI 0) d_Mo_passes_114 (by decide) ?_
            refine r_eqS (st' := [.int (bI false)]) rfl ?_
            refine r_bret C E d_Mo_passes_115 (by first | decide | omega | (simp only [rmk]; omega)) (by first | decide | omega | (simp only [rmk]; omega)) ?_
            exact ⟨bsome (by symm; show decide (¬ (c % uw = 0 ∨ c / uw = 0 ∨ c % uw = uw - 1 ∨ c / uw = uh - 1)) = false; exact decide_eq_false (by omega)), rfl⟩

set_option maxHeartbeats 4000000 in
set_option maxRecDepth 100000 in
theorem lp_Mo_addRow_48 (g : GG) {m0 : Nat} {ad : Nat → Nat} {qth : Int32} {qsz : Int32} {qtk : Int32} {qde : Int32} {qru : Int32} {qat : Int32} {qen : Int32} {qto : Int32} {qbe : Int32} {qva : Int32} {qwr : Int32} {qop : Int32} {qwi : Int32} {qhe : Int32} {qma : Int32} {qir : Bool} {qiu : Bool} {rw_ : Nat} {pn : Nat} {rl : Nat} {fr : Nat} {z : Nat} {RR : Nat → Nat} {RB : Nat → Nat} {PL : Nat → Nat} {ST : Nat → Nat} (h1 : rw_ ≤ 4000) (hrb : RB rw_ = pn) (h2 : pn ≤ 30000) (h3 : z ≤ 256) (h4 : rl < 2 ^ 31) (h5 : fr + z ≤ 697000) (h6 : ∀ i, i < z → ST (fr + i) < 2 ^ 31) {x : X0} {A : Nat → Prop} {Q : State → Prop}  (C : CX x g A R_Mo b_Mo_addRow 5) (E : RX x g A Q (some .boolean) (fun (r0 : Option Value) (w0 : va_W) => ∃ ok : Bool, ∃ rw2 : Nat, ∃ RR2 : Nat → Nat, ∃ RB2 : Nat → Nat, ∃ PL2 : Nat → Nat, r0 = some (.int (bI ok)) ∧ w0 = [(m0, .inr (9, MO ad qth qsz (bI qir) qtk qde qru qat qen qto qbe qva qwr qop (bI qiu) qwi qhe (nI rw2) qma)), ((ad 33), .inl (g.2.1 0, 4000, .inl (aI RR2))), ((ad 34), .inl (g.2.1 0, 4001, .inl (aI RB2))), ((ad 35), .inl (g.2.1 0, 30000, .inl (aI PL2))), ((ad 37), .inl (g.2.1 0, 697000, .inl (aI ST)))] ∧ (RowM ST fr z rl RR RB PL rw_ pn ok RR2 RB2 PL2 rw2)) (rmk 0 0 0 0).cells (rmk 0 0 0 0).slots) (hR : xR x = (rmk 0 0 0 0)) : ∀ (fuel : Nat) (c : Nat) (PC : Nat → Nat) (hz0 : 0 < z) (hl : rw_ < 4000) (hp : pn + z ≤ 30000) (hc : c ≤ z) (hP : ∀ t, PC t = if pn ≤ t ∧ t < pn + c then ST (fr + (t - pn)) else PL t), z - c < fuel → J x g A Q 5 ([(m0, .inr (9, MO ad qth qsz (bI qir) qtk qde qru qat qen qto qbe qva qwr qop (bI qiu) qwi qhe (nI rw_) qma)), ((ad 33), .inl (g.2.1 0, 4000, .inl (aI (up RR rw_ rl)))), ((ad 34), .inl (g.2.1 0, 4001, .inl (aI RB))), ((ad 35), .inl (g.2.1 0, 30000, .inl (aI PC))), ((ad 37), .inl (g.2.1 0, 697000, .inl (aI ST)))]) [(0, .ref m0), (1, .int (nI rl)), (2, .int (nI fr)), (3, .int (nI z)), (4, .int (nI c))] 48 [] 0 0 := by
  intro fuel
  induction fuel with
  | zero =>
    intro c PC hz0 hl hp hc hP hm
    exact absurd hm (Nat.not_lt_zero _)
  | succ fuel ih =>
    intro c PC hz0 hl hp hc hP hm
    refine r_iload C 4 d_Mo_addRow_48 rfl ?_
    refine r_iload_n C 3 d_Mo_addRow_50 rfl rfl ?_
    refine r_ncmp_ge C 86 d_Mo_addRow_51 (by decide) (by omega) (by omega) (fun c_51 => ?_) (fun c_51 => ?_)
    · skip
      refine r_aload_n C 0 d_Mo_addRow_86 rfl rfl ?_
      refine r_get C 0 34 d_Mo_addRow_87 ci_Mo fi_Mo_61 rfl (by decide) rfl rfl ?_
      refine r_aload_n C 0 d_Mo_addRow_90 rfl rfl ?_
      refine r_get C 0 32 d_Mo_addRow_91 ci_Mo fi_Mo_260 rfl (by decide) rfl rfl ?_
      refine r_iconst C (nI 1) d_Mo_addRow_94 (by decide) ?_
      refine r_nadd C d_Mo_addRow_95 ?_
      refine r_aload_n C 0 d_Mo_addRow_96 rfl rfl ?_
      refine r_get C 0 34 d_Mo_addRow_97 ci_Mo fi_Mo_61 rfl (by decide) rfl rfl ?_
      refine r_aload_n C 0 d_Mo_addRow_100 rfl rfl ?_
      refine r_get C 0 32 d_Mo_addRow_101 ci_Mo fi_Mo_260 rfl (by decide) rfl rfl ?_
      refine r_nald C 2 0 d_Mo_addRow_104 rfl rfl (by omega) (by decide) ?_
      refine r_iload_n C 3 d_Mo_addRow_105 rfl rfl ?_
      refine r_nadd C d_Mo_addRow_106 ?_
      refine r_nast C (ws' := [(m0, .inr (9, MO ad qth qsz (bI qir) qtk qde qru qat qen qto qbe qva qwr qop (bI qiu) qwi qhe (nI rw_) qma)), ((ad 33), .inl (g.2.1 0, 4000, .inl (aI (up RR rw_ rl)))), ((ad 34), .inl (g.2.1 0, 4001, .inl (aI (up RB (rw_ + 1) ((RB rw_) + z))))), ((ad 35), .inl (g.2.1 0, 30000, .inl (aI PC))), ((ad 37), .inl (g.2.1 0, 697000, .inl (aI ST)))]) 2 0 d_Mo_addRow_107 rfl rfl (by omega) (by decide) rfl ?_
      refine r_aload_n C 0 d_Mo_addRow_108 rfl rfl ?_
      refine r_dup C d_Mo_addRow_109 rfl ?_
      refine r_get C 0 32 d_Mo_addRow_110 ci_Mo fi_Mo_260 rfl (by decide) rfl rfl ?_
      refine r_iconst C (nI 1) d_Mo_addRow_113 (by decide) ?_
      refine r_nadd C d_Mo_addRow_114 ?_
      refine r_put C (ws' := [(m0, .inr (9, MO ad qth qsz (bI qir) qtk qde qru qat qen qto qbe qva qwr qop (bI qiu) qwi qhe (nI (rw_ + 1)) qma)), ((ad 33), .inl (g.2.1 0, 4000, .inl (aI (up RR rw_ rl)))), ((ad 34), .inl (g.2.1 0, 4001, .inl (aI (up RB (rw_ + 1) ((RB rw_) + z))))), ((ad 35), .inl (g.2.1 0, 30000, .inl (aI PC))), ((ad 37), .inl (g.2.1 0, 697000, .inl (aI ST)))]) 0 32 d_Mo_addRow_115 ci_Mo fi_Mo_260 rfl (by decide) rfl rfl (rfl) (rfl) (by simp) rfl ?_
      refine r_iconst C (nI 1) d_Mo_addRow_118 (by decide) ?_
      refine r_eqS (st' := [.int (bI true)]) rfl ?_
      refine r_bret C E d_Mo_addRow_119 (by first | decide | omega | (simp only [rmk]; omega)) (by first | decide | omega | (simp only [rmk]; omega)) ?_
      obtain rfl : c = z := by omega
      rw [hrb]
      exact ⟨_, _, _, _, _, rfl, rfl, Or.inr (Or.inl ⟨hz0, hl, hp, rfl, rfl, rfl, rfl, hP⟩)⟩
    · skip
      refine r_aload_n C 0 d_Mo_addRow_54 rfl rfl ?_
      refine r_get C 0 35 d_Mo_addRow_55 ci_Mo fi_Mo_64 rfl (by decide) rfl rfl ?_
      refine r_aload_n C 0 d_Mo_addRow_58 rfl rfl ?_
      refine r_get C 0 34 d_Mo_addRow_59 ci_Mo fi_Mo_61 rfl (by decide) rfl rfl ?_
      refine r_aload_n C 0 d_Mo_addRow_62 rfl rfl ?_
      refine r_get C 0 32 d_Mo_addRow_63 ci_Mo fi_Mo_260 rfl (by decide) rfl rfl ?_
      refine r_nald C 2 0 d_Mo_addRow_66 rfl rfl (by omega) (by decide) ?_
      refine r_iload C 4 d_Mo_addRow_67 rfl ?_
      refine r_nadd C d_Mo_addRow_69 ?_
      refine r_aload_n C 0 d_Mo_addRow_70 rfl rfl ?_
      refine r_get C 0 37 d_Mo_addRow_71 ci_Mo fi_Mo_68 rfl (by decide) rfl rfl ?_
      refine r_iload_n C 2 d_Mo_addRow_74 rfl rfl ?_
      refine r_iload C 4 d_Mo_addRow_75 rfl ?_
      refine r_nadd C d_Mo_addRow_77 ?_
      refine r_nald C 4 0 d_Mo_addRow_78 rfl rfl (by omega) (by decide) ?_
      refine r_nast C (ws' := [(m0, .inr (9, MO ad qth qsz (bI qir) qtk qde qru qat qen qto qbe qva qwr qop (bI qiu) qwi qhe (nI rw_) qma)), ((ad 33), .inl (g.2.1 0, 4000, .inl (aI (up RR rw_ rl)))), ((ad 34), .inl (g.2.1 0, 4001, .inl (aI RB))), ((ad 35), .inl (g.2.1 0, 30000, .inl (aI (up PC ((RB rw_) + c) (ST (fr + c)))))), ((ad 37), .inl (g.2.1 0, 697000, .inl (aI ST)))]) 3 0 d_Mo_addRow_79 rfl rfl (by omega) (by decide) rfl ?_
      refine r_iinc C 4 (nI (c + 1)) (lv' := [(4, .int (nI (c + 1))), (0, .ref m0), (1, .int (nI rl)), (2, .int (nI fr)), (3, .int (nI z))]) d_Mo_addRow_80 rfl (nI_inc 1 _) (by decide) rfl ?_
      refine r_goto C 48 d_Mo_addRow_83 (by decide) ?_
      refine r_lv (lv' := [(0, .ref m0), (1, .int (nI rl)), (2, .int (nI fr)), (3, .int (nI z)), (4, .int (nI (c + 1)))]) [1, 2, 3, 4, 0] rfl ?_
      exact ih (c + 1) (up PC ((RB rw_) + c) (ST (fr + c))) (by first | assumption | omega | rfl) (by first | assumption | omega | rfl) (by first | assumption | omega | rfl) (by first | assumption | omega | rfl) (fun t => by rw [hrb]; exact row_pl rfl (hP t)) (by omega)
set_option maxHeartbeats 4000000 in
set_option maxRecDepth 100000 in
theorem c_Mo_addRow (g : GG) (l : Launch) {m0 : Nat} {ad : Nat → Nat} {qth : Int32} {qsz : Int32} {qtk : Int32} {qde : Int32} {qru : Int32} {qat : Int32} {qen : Int32} {qto : Int32} {qbe : Int32} {qva : Int32} {qwr : Int32} {qop : Int32} {qwi : Int32} {qhe : Int32} {qma : Int32} {qir : Bool} {qiu : Bool} {rw_ : Nat} {pn : Nat} {rl : Nat} {fr : Nat} {z : Nat} {RR : Nat → Nat} {RB : Nat → Nat} {PL : Nat → Nat} {ST : Nat → Nat}  (h1 : rw_ ≤ 4000) (hrb : RB rw_ = pn) (h2 : pn ≤ 30000) (h3 : z ≤ 256) (h4 : rl < 2 ^ 31) (h5 : fr + z ≤ 697000) (h6 : ∀ i, i < z → ST (fr + i) < 2 ^ 31) : Cn g l y_Mo_addRow b_Mo_addRow 5 (some .boolean) (rmk 0 0 0 0) [.ref m0, .int (nI rl), .int (nI fr), .int (nI z)] ([(m0, .inr (9, MO ad qth qsz (bI qir) qtk qde qru qat qen qto qbe qva qwr qop (bI qiu) qwi qhe (nI rw_) qma)), ((ad 33), .inl (g.2.1 0, 4000, .inl (aI RR))), ((ad 34), .inl (g.2.1 0, 4001, .inl (aI RB))), ((ad 35), .inl (g.2.1 0, 30000, .inl (aI PL))), ((ad 37), .inl (g.2.1 0, 697000, .inl (aI ST)))]) (fun (r0 : Option Value) (w0 : va_W) => ∃ ok : Bool, ∃ rw2 : Nat, ∃ RR2 : Nat → Nat, ∃ RB2 : Nat → Nat, ∃ PL2 : Nat → Nat, r0 = some (.int (bI ok)) ∧ w0 = [(m0, .inr (9, MO ad qth qsz (bI qir) qtk qde qru qat qen qto qbe qva qwr qop (bI qiu) qwi qhe (nI rw2) qma)), ((ad 33), .inl (g.2.1 0, 4000, .inl (aI RR2))), ((ad 34), .inl (g.2.1 0, 4001, .inl (aI RB2))), ((ad 35), .inl (g.2.1 0, 30000, .inl (aI PL2))), ((ad 37), .inl (g.2.1 0, 697000, .inl (aI ST)))] ∧ (RowM ST fr z rl RR RB PL rw_ pn ok RR2 RB2 PL2 rw2)) := by
  refine Cn.of R_Mo [(0, .ref m0), (1, .int (nI rl)), (2, .int (nI fr)), (3, .int (nI z))] (by decide) rfl (Nat.le_of_ble_eq_true rfl) rfl ?_
  intro x A Q hR hXl hin C E
  subst hXl
  refine r_iload_n C 3 d_Mo_addRow_0 rfl rfl ?_
  refine r_nif_ne C 6 d_Mo_addRow_1 (by decide) (by omega) (fun c_1 => ?_) (fun c_1 => ?_)
  · skip
    refine r_aload_n C 0 d_Mo_addRow_6 rfl rfl ?_
    refine r_get C 0 32 d_Mo_addRow_7 ci_Mo fi_Mo_260 rfl (by decide) rfl rfl ?_
    refine r_sipush C (nI 4000) d_Mo_addRow_10 (by decide) ?_
    refine r_ncmp_eq C 33 d_Mo_addRow_13 (by decide) (by omega) (by omega) (fun c_13 => ?_) (fun c_13 => ?_)
    · skip
      refine r_iconst C (nI 0) d_Mo_addRow_33 (by decide) ?_
      refine r_eqS (st' := [.int (bI false)]) rfl ?_
      refine r_bret C E d_Mo_addRow_34 (by first | decide | omega | (simp only [rmk]; omega)) (by first | decide | omega | (simp only [rmk]; omega)) ?_
      exact ⟨_, _, _, _, _, rfl, rfl, Or.inr (Or.inr ⟨by omega, by omega, rfl, rfl, rfl, rfl, rfl⟩)⟩
    · skip
      refine r_aload_n C 0 d_Mo_addRow_16 rfl rfl ?_
      refine r_get C 0 34 d_Mo_addRow_17 ci_Mo fi_Mo_61 rfl (by decide) rfl rfl ?_
      refine r_aload_n C 0 d_Mo_addRow_20 rfl rfl ?_
      refine r_get C 0 32 d_Mo_addRow_21 ci_Mo fi_Mo_260 rfl (by decide) rfl rfl ?_
      refine r_nald C 2 0 d_Mo_addRow_24 rfl rfl (by omega) (by decide) ?_
      refine r_iload_n C 3 d_Mo_addRow_25 rfl rfl ?_
      refine r_nadd C d_Mo_addRow_26 ?_
      refine r_sipush C (nI 30000) d_Mo_addRow_27 (by decide) ?_
      refine r_ncmp_le C 35 d_Mo_addRow_30 (by decide) (by omega) (by omega) (fun c_30 => ?_) (fun c_30 => ?_)
      · skip
        refine r_aload_n C 0 d_Mo_addRow_35 rfl rfl ?_
        refine r_get C 0 33 d_Mo_addRow_36 ci_Mo fi_Mo_58 rfl (by decide) rfl rfl ?_
        refine r_aload_n C 0 d_Mo_addRow_39 rfl rfl ?_
        refine r_get C 0 32 d_Mo_addRow_40 ci_Mo fi_Mo_260 rfl (by decide) rfl rfl ?_
        refine r_iload_n C 1 d_Mo_addRow_43 rfl rfl ?_
        refine r_nast C (ws' := [(m0, .inr (9, MO ad qth qsz (bI qir) qtk qde qru qat qen qto qbe qva qwr qop (bI qiu) qwi qhe (nI rw_) qma)), ((ad 33), .inl (g.2.1 0, 4000, .inl (aI (up RR rw_ rl)))), ((ad 34), .inl (g.2.1 0, 4001, .inl (aI RB))), ((ad 35), .inl (g.2.1 0, 30000, .inl (aI PL))), ((ad 37), .inl (g.2.1 0, 697000, .inl (aI ST)))]) 1 0 d_Mo_addRow_44 rfl rfl (by omega) (by decide) rfl ?_
        refine r_iconst C (nI 0) d_Mo_addRow_45 (by decide) ?_
        refine r_istore C (lv' := [(4, .int (nI 0)), (0, .ref m0), (1, .int (nI rl)), (2, .int (nI fr)), (3, .int (nI z))]) d_Mo_addRow_46 (by decide) rfl ?_
        refine r_lv (lv' := [(0, .ref m0), (1, .int (nI rl)), (2, .int (nI fr)), (3, .int (nI z)), (4, .int (nI 0))]) [1, 2, 3, 4, 0] rfl ?_
        exact lp_Mo_addRow_48 g (m0 := m0) (ad := ad) (qth := qth) (qsz := qsz) (qtk := qtk) (qde := qde) (qru := qru) (qat := qat) (qen := qen) (qto := qto) (qbe := qbe) (qva := qva) (qwr := qwr) (qop := qop) (qwi := qwi) (qhe := qhe) (qma := qma) (qir := qir) (qiu := qiu) (rw_ := rw_) (pn := pn) (rl := rl) (fr := fr) (z := z) (RR := RR) (RB := RB) (PL := PL) (ST := ST) h1 hrb h2 h3 h4 h5 h6  C E hR _ 0 PL (by first | assumption | omega | rfl) (by first | assumption | omega | rfl) (by first | assumption | omega | rfl) (by first | assumption | omega | rfl) (fun t => by rw [if_neg (by omega)]) (Nat.lt_succ_self _)
      · skip
        refine r_iconst C (nI 0) d_Mo_addRow_33 (by decide) ?_
        refine r_eqS (st' := [.int (bI false)]) rfl ?_
        refine r_bret C E d_Mo_addRow_34 (by first | decide | omega | (simp only [rmk]; omega)) (by first | decide | omega | (simp only [rmk]; omega)) ?_
        exact ⟨_, _, _, _, _, rfl, rfl, Or.inr (Or.inr ⟨by omega, by omega, rfl, rfl, rfl, rfl, rfl⟩)⟩
  · skip
    refine r_iconst C (nI 1) d_Mo_addRow_4 (by decide) ?_
    refine r_eqS (st' := [.int (bI true)]) rfl ?_
    refine r_bret C E d_Mo_addRow_5 (by first | decide | omega | (simp only [rmk]; omega)) (by first | decide | omega | (simp only [rmk]; omega)) ?_
    exact ⟨_, _, _, _, _, rfl, rfl, Or.inl ⟨by omega, rfl, rfl, rfl, rfl, rfl⟩⟩
