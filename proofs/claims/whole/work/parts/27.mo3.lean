def shapeM (T : Nat → Nat) (so sta en : Nat) : Option Nat := if isWm T so sta en (cod 0 0 0 (114 - 96) (111 - 96) (119 - 96)) 0 = true then some 1 else if isWm T so sta en (cod (99 - 96) (111 - 96) (108 - 96) (117 - 96) (109 - 96) (110 - 96)) 0 = true then some 2 else if isWm T so sta en (cod 0 (98 - 96) (108 - 96) (111 - 96) (99 - 96) (107 - 96)) 0 = true then some 3 else if isWm T so sta en (cod 0 0 (99 - 96) (101 - 96) (108 - 96) (108 - 96)) 0 = true then some 4 else if isWm T so sta en (cod 0 0 (112 - 96) (97 - 96) (105 - 96) (114 - 96)) 0 = true then some 5 else if isWm T so sta en (cod (119 - 96) (105 - 96) (110 - 96) (100 - 96) (111 - 96) (119 - 96)) 0 = true then some 6 else if isWm T so sta en (cod 0 0 (115 - 96) (105 - 96) (100 - 96) (101 - 96)) 0 = true then some 7 else if isWm T so sta en (cod (99 - 96) (111 - 96) (114 - 96) (110 - 96) (101 - 96) (114 - 96)) 0 = true then some 8 else if isWm T so sta en (cod (100 - 96) (105 - 96) (97 - 96) (103 - 96) (111 - 96) (110 - 96)) 44 = true then some 9 else if isWm T so sta en (cod 0 0 (97 - 96) (110 - 96) (116 - 96) (105 - 96)) 0 = true then some 10 else none
def filterM (T : Nat → Nat) (so sta en : Nat) : Option Nat := if isWm T so sta en (cod 0 0 0 (111 - 96) (100 - 96) (100 - 96)) 0 = true then some 11 else if isWm T so sta en (cod 0 0 (101 - 96) (118 - 96) (101 - 96) (110 - 96)) 0 = true then some 12 else if isWm T so sta en (cod (98 - 96) (111 - 96) (114 - 96) (100 - 96) (101 - 96) (114 - 96)) 0 = true then some 13 else if isWm T so sta en (cod 0 (105 - 96) (110 - 96) (110 - 96) (101 - 96) (114 - 96)) 0 = true then some 14 else none
def kindM (T : Nat → Nat) (so sta en : Nat) : Option Nat := if isWm T so sta en (cod (117 - 96) (110 - 96) (108 - 96) (105 - 96) (107 - 96) (101 - 96)) 0 = true then some 0 else if isWm T so sta en (cod 0 (101 - 96) (113 - 96) (117 - 96) (97 - 96) (108 - 96)) 0 = true then some 1 else if isWm T so sta en (cod (114 - 96) (105 - 96) (115 - 96) (105 - 96) (110 - 96) (103 - 96)) 0 = true then some 2 else if isWm T so sta en (cod (102 - 96) (97 - 96) (108 - 96) (108 - 96) (105 - 96) (110 - 96)) 7 = true then some 3 else if isWm T so sta en (cod 0 0 0 (115 - 96) (117 - 96) (109 - 96)) 0 = true then some 4 else if isWm T so sta en (cod 0 (99 - 96) (111 - 96) (117 - 96) (110 - 96) (116 - 96)) 0 = true then some 5 else if isWm T so sta en (cod 0 (103 - 96) (105 - 96) (118 - 96) (101 - 96) (110 - 96)) 0 = true then some 6 else none

set_option maxRecDepth 100000 in
theorem lk_Mo_137 : LK R_Mo 137 y_Mo_is3 := Or.inl (gw (i := 1106) rfl rfl)
set_option maxRecDepth 100000 in
theorem lk_Mo_141 : LK R_Mo 141 y_Mo_is6 := Or.inl (gw (i := 1110) rfl rfl)
set_option maxRecDepth 100000 in
theorem lk_Mo_145 : LK R_Mo 145 y_Mo_is5 := Or.inl (gw (i := 1094) rfl rfl)
set_option maxRecDepth 100000 in
theorem lk_Mo_149 : LK R_Mo 149 y_Mo_is4 := Or.inl (gw (i := 1083) rfl rfl)
set_option maxRecDepth 100000 in
theorem mw_Mo_is3 : MW y_Mo_is3 b_Mo_is3 4 (some .boolean) 3 := ⟨(gw (i := 1109) rfl rfl), (gw (i := 80) rfl rfl), by decide +kernel⟩
set_option maxRecDepth 100000 in
theorem mw_Mo_is4 : MW y_Mo_is4 b_Mo_is4 5 (some .boolean) 4 := ⟨(gw (i := 1086) rfl rfl), (gw (i := 80) rfl rfl), by decide +kernel⟩
set_option maxRecDepth 100000 in
theorem mw_Mo_is5 : MW y_Mo_is5 b_Mo_is5 6 (some .boolean) 5 := ⟨(gw (i := 1097) rfl rfl), (gw (i := 80) rfl rfl), by decide +kernel⟩
set_option maxRecDepth 100000 in
theorem mw_Mo_is6 : MW y_Mo_is6 b_Mo_is6 8 (some .boolean) 7 := ⟨(gw (i := 1113) rfl rfl), (gw (i := 80) rfl rfl), by decide +kernel⟩
set_option maxRecDepth 100000 in
theorem vw_Mo_is3 : VW y_Mo_is3 := ⟨(gw (i := 1108) rfl rfl), (gw (i := 49) rfl rfl)⟩
set_option maxRecDepth 100000 in
theorem vw_Mo_is4 : VW y_Mo_is4 := ⟨(gw (i := 1085) rfl rfl), (gw (i := 44) rfl rfl)⟩
set_option maxRecDepth 100000 in
theorem vw_Mo_is5 : VW y_Mo_is5 := ⟨(gw (i := 1096) rfl rfl), (gw (i := 46) rfl rfl)⟩
set_option maxRecDepth 100000 in
theorem vw_Mo_is6 : VW y_Mo_is6 := ⟨(gw (i := 1112) rfl rfl), (gw (i := 50) rfl rfl)⟩
theorem d_Mo_shape_0 : decode b_Mo_shape 0 = .ok (.aload_n 0, 1) := by decide +kernel
theorem d_Mo_shape_1 : decode b_Mo_shape 1 = .ok (.bipush 114, 2) := by decide +kernel
theorem d_Mo_shape_3 : decode b_Mo_shape 3 = .ok (.bipush 111, 2) := by decide +kernel
theorem d_Mo_shape_5 : decode b_Mo_shape 5 = .ok (.bipush 119, 2) := by decide +kernel
theorem d_Mo_shape_7 : decode b_Mo_shape 7 = .ok (.invokevirtual 137, 3) := by decide +kernel
theorem d_Mo_shape_10 : decode b_Mo_shape 10 = .ok (.ifCond .eq 5, 3) := by decide +kernel
theorem d_Mo_shape_13 : decode b_Mo_shape 13 = .ok (.iconst 1, 1) := by decide +kernel
theorem d_Mo_shape_14 : decode b_Mo_shape 14 = .ok (.ireturn, 1) := by decide +kernel
theorem d_Mo_shape_15 : decode b_Mo_shape 15 = .ok (.aload_n 0, 1) := by decide +kernel
theorem d_Mo_shape_16 : decode b_Mo_shape 16 = .ok (.bipush 99, 2) := by decide +kernel
theorem d_Mo_shape_18 : decode b_Mo_shape 18 = .ok (.bipush 111, 2) := by decide +kernel
theorem d_Mo_shape_20 : decode b_Mo_shape 20 = .ok (.bipush 108, 2) := by decide +kernel
theorem d_Mo_shape_22 : decode b_Mo_shape 22 = .ok (.bipush 117, 2) := by decide +kernel
theorem d_Mo_shape_24 : decode b_Mo_shape 24 = .ok (.bipush 109, 2) := by decide +kernel
theorem d_Mo_shape_26 : decode b_Mo_shape 26 = .ok (.bipush 110, 2) := by decide +kernel
theorem d_Mo_shape_28 : decode b_Mo_shape 28 = .ok (.iconst 0, 1) := by decide +kernel
theorem d_Mo_shape_29 : decode b_Mo_shape 29 = .ok (.invokevirtual 141, 3) := by decide +kernel
theorem d_Mo_shape_32 : decode b_Mo_shape 32 = .ok (.ifCond .eq 5, 3) := by decide +kernel
theorem d_Mo_shape_35 : decode b_Mo_shape 35 = .ok (.iconst 2, 1) := by decide +kernel
theorem d_Mo_shape_36 : decode b_Mo_shape 36 = .ok (.ireturn, 1) := by decide +kernel
theorem d_Mo_shape_37 : decode b_Mo_shape 37 = .ok (.aload_n 0, 1) := by decide +kernel
theorem d_Mo_shape_38 : decode b_Mo_shape 38 = .ok (.bipush 98, 2) := by decide +kernel
theorem d_Mo_shape_40 : decode b_Mo_shape 40 = .ok (.bipush 108, 2) := by decide +kernel
theorem d_Mo_shape_42 : decode b_Mo_shape 42 = .ok (.bipush 111, 2) := by decide +kernel
theorem d_Mo_shape_44 : decode b_Mo_shape 44 = .ok (.bipush 99, 2) := by decide +kernel
theorem d_Mo_shape_46 : decode b_Mo_shape 46 = .ok (.bipush 107, 2) := by decide +kernel
theorem d_Mo_shape_48 : decode b_Mo_shape 48 = .ok (.invokevirtual 145, 3) := by decide +kernel
theorem d_Mo_shape_51 : decode b_Mo_shape 51 = .ok (.ifCond .eq 5, 3) := by decide +kernel
theorem d_Mo_shape_54 : decode b_Mo_shape 54 = .ok (.iconst 3, 1) := by decide +kernel
theorem d_Mo_shape_55 : decode b_Mo_shape 55 = .ok (.ireturn, 1) := by decide +kernel
theorem d_Mo_shape_56 : decode b_Mo_shape 56 = .ok (.aload_n 0, 1) := by decide +kernel
theorem d_Mo_shape_57 : decode b_Mo_shape 57 = .ok (.bipush 99, 2) := by decide +kernel
theorem d_Mo_shape_59 : decode b_Mo_shape 59 = .ok (.bipush 101, 2) := by decide +kernel
theorem d_Mo_shape_61 : decode b_Mo_shape 61 = .ok (.bipush 108, 2) := by decide +kernel
theorem d_Mo_shape_63 : decode b_Mo_shape 63 = .ok (.bipush 108, 2) := by decide +kernel
theorem d_Mo_shape_65 : decode b_Mo_shape 65 = .ok (.invokevirtual 149, 3) := by decide +kernel
theorem d_Mo_shape_68 : decode b_Mo_shape 68 = .ok (.ifCond .eq 5, 3) := by decide +kernel
theorem d_Mo_shape_71 : decode b_Mo_shape 71 = .ok (.iconst 4, 1) := by decide +kernel
theorem d_Mo_shape_72 : decode b_Mo_shape 72 = .ok (.ireturn, 1) := by decide +kernel
theorem d_Mo_shape_73 : decode b_Mo_shape 73 = .ok (.aload_n 0, 1) := by decide +kernel
theorem d_Mo_shape_74 : decode b_Mo_shape 74 = .ok (.bipush 112, 2) := by decide +kernel
theorem d_Mo_shape_76 : decode b_Mo_shape 76 = .ok (.bipush 97, 2) := by decide +kernel
theorem d_Mo_shape_78 : decode b_Mo_shape 78 = .ok (.bipush 105, 2) := by decide +kernel
theorem d_Mo_shape_80 : decode b_Mo_shape 80 = .ok (.bipush 114, 2) := by decide +kernel
theorem d_Mo_shape_82 : decode b_Mo_shape 82 = .ok (.invokevirtual 149, 3) := by decide +kernel
theorem d_Mo_shape_85 : decode b_Mo_shape 85 = .ok (.ifCond .eq 5, 3) := by decide +kernel
theorem d_Mo_shape_88 : decode b_Mo_shape 88 = .ok (.iconst 5, 1) := by decide +kernel
theorem d_Mo_shape_89 : decode b_Mo_shape 89 = .ok (.ireturn, 1) := by decide +kernel
theorem d_Mo_shape_90 : decode b_Mo_shape 90 = .ok (.aload_n 0, 1) := by decide +kernel
theorem d_Mo_shape_91 : decode b_Mo_shape 91 = .ok (.bipush 119, 2) := by decide +kernel
theorem d_Mo_shape_93 : decode b_Mo_shape 93 = .ok (.bipush 105, 2) := by decide +kernel
theorem d_Mo_shape_95 : decode b_Mo_shape 95 = .ok (.bipush 110, 2) := by decide +kernel
theorem d_Mo_shape_97 : decode b_Mo_shape 97 = .ok (.bipush 100, 2) := by decide +kernel
theorem d_Mo_shape_99 : decode b_Mo_shape 99 = .ok (.bipush 111, 2) := by decide +kernel
theorem d_Mo_shape_101 : decode b_Mo_shape 101 = .ok (.bipush 119, 2) := by decide +kernel
theorem d_Mo_shape_103 : decode b_Mo_shape 103 = .ok (.iconst 0, 1) := by decide +kernel
theorem d_Mo_shape_104 : decode b_Mo_shape 104 = .ok (.invokevirtual 141, 3) := by decide +kernel
theorem d_Mo_shape_107 : decode b_Mo_shape 107 = .ok (.ifCond .eq 6, 3) := by decide +kernel
theorem d_Mo_shape_110 : decode b_Mo_shape 110 = .ok (.bipush 6, 2) := by decide +kernel
theorem d_Mo_shape_112 : decode b_Mo_shape 112 = .ok (.ireturn, 1) := by decide +kernel
theorem d_Mo_shape_113 : decode b_Mo_shape 113 = .ok (.aload_n 0, 1) := by decide +kernel
theorem d_Mo_shape_114 : decode b_Mo_shape 114 = .ok (.bipush 115, 2) := by decide +kernel
theorem d_Mo_shape_116 : decode b_Mo_shape 116 = .ok (.bipush 105, 2) := by decide +kernel
theorem d_Mo_shape_118 : decode b_Mo_shape 118 = .ok (.bipush 100, 2) := by decide +kernel
theorem d_Mo_shape_120 : decode b_Mo_shape 120 = .ok (.bipush 101, 2) := by decide +kernel
theorem d_Mo_shape_122 : decode b_Mo_shape 122 = .ok (.invokevirtual 149, 3) := by decide +kernel
theorem d_Mo_shape_125 : decode b_Mo_shape 125 = .ok (.ifCond .eq 6, 3) := by decide +kernel
theorem d_Mo_shape_128 : decode b_Mo_shape 128 = .ok (.bipush 7, 2) := by decide +kernel
theorem d_Mo_shape_130 : decode b_Mo_shape 130 = .ok (.ireturn, 1) := by decide +kernel
theorem d_Mo_shape_131 : decode b_Mo_shape 131 = .ok (.aload_n 0, 1) := by decide +kernel
theorem d_Mo_shape_132 : decode b_Mo_shape 132 = .ok (.bipush 99, 2) := by decide +kernel
theorem d_Mo_shape_134 : decode b_Mo_shape 134 = .ok (.bipush 111, 2) := by decide +kernel
theorem d_Mo_shape_136 : decode b_Mo_shape 136 = .ok (.bipush 114, 2) := by decide +kernel
theorem d_Mo_shape_138 : decode b_Mo_shape 138 = .ok (.bipush 110, 2) := by decide +kernel
theorem d_Mo_shape_140 : decode b_Mo_shape 140 = .ok (.bipush 101, 2) := by decide +kernel
theorem d_Mo_shape_142 : decode b_Mo_shape 142 = .ok (.bipush 114, 2) := by decide +kernel
theorem d_Mo_shape_144 : decode b_Mo_shape 144 = .ok (.iconst 0, 1) := by decide +kernel
theorem d_Mo_shape_145 : decode b_Mo_shape 145 = .ok (.invokevirtual 141, 3) := by decide +kernel
theorem d_Mo_shape_148 : decode b_Mo_shape 148 = .ok (.ifCond .eq 6, 3) := by decide +kernel
theorem d_Mo_shape_151 : decode b_Mo_shape 151 = .ok (.bipush 8, 2) := by decide +kernel
theorem d_Mo_shape_153 : decode b_Mo_shape 153 = .ok (.ireturn, 1) := by decide +kernel
theorem d_Mo_shape_154 : decode b_Mo_shape 154 = .ok (.aload_n 0, 1) := by decide +kernel
theorem d_Mo_shape_155 : decode b_Mo_shape 155 = .ok (.bipush 100, 2) := by decide +kernel
theorem d_Mo_shape_157 : decode b_Mo_shape 157 = .ok (.bipush 105, 2) := by decide +kernel
theorem d_Mo_shape_159 : decode b_Mo_shape 159 = .ok (.bipush 97, 2) := by decide +kernel
theorem d_Mo_shape_161 : decode b_Mo_shape 161 = .ok (.bipush 103, 2) := by decide +kernel
theorem d_Mo_shape_163 : decode b_Mo_shape 163 = .ok (.bipush 111, 2) := by decide +kernel
theorem d_Mo_shape_165 : decode b_Mo_shape 165 = .ok (.bipush 110, 2) := by decide +kernel
theorem d_Mo_shape_167 : decode b_Mo_shape 167 = .ok (.bipush 44, 2) := by decide +kernel
theorem d_Mo_shape_169 : decode b_Mo_shape 169 = .ok (.invokevirtual 141, 3) := by decide +kernel
theorem d_Mo_shape_172 : decode b_Mo_shape 172 = .ok (.ifCond .eq 6, 3) := by decide +kernel
theorem d_Mo_shape_175 : decode b_Mo_shape 175 = .ok (.bipush 9, 2) := by decide +kernel
theorem d_Mo_shape_177 : decode b_Mo_shape 177 = .ok (.ireturn, 1) := by decide +kernel
theorem d_Mo_shape_178 : decode b_Mo_shape 178 = .ok (.aload_n 0, 1) := by decide +kernel
theorem d_Mo_shape_179 : decode b_Mo_shape 179 = .ok (.bipush 97, 2) := by decide +kernel
theorem d_Mo_shape_181 : decode b_Mo_shape 181 = .ok (.bipush 110, 2) := by decide +kernel
theorem d_Mo_shape_183 : decode b_Mo_shape 183 = .ok (.bipush 116, 2) := by decide +kernel
theorem d_Mo_shape_185 : decode b_Mo_shape 185 = .ok (.bipush 105, 2) := by decide +kernel
theorem d_Mo_shape_187 : decode b_Mo_shape 187 = .ok (.invokevirtual 149, 3) := by decide +kernel
theorem d_Mo_shape_190 : decode b_Mo_shape 190 = .ok (.ifCond .eq 8, 3) := by decide +kernel
theorem d_Mo_shape_193 : decode b_Mo_shape 193 = .ok (.bipush 10, 2) := by decide +kernel
theorem d_Mo_shape_195 : decode b_Mo_shape 195 = .ok (.goto 4, 3) := by decide +kernel
theorem d_Mo_shape_198 : decode b_Mo_shape 198 = .ok (.iconst (-1), 1) := by decide +kernel
theorem d_Mo_shape_199 : decode b_Mo_shape 199 = .ok (.ireturn, 1) := by decide +kernel
theorem d_Mo_filter_0 : decode b_Mo_filter 0 = .ok (.aload_n 0, 1) := by decide +kernel
theorem d_Mo_filter_1 : decode b_Mo_filter 1 = .ok (.bipush 111, 2) := by decide +kernel
theorem d_Mo_filter_3 : decode b_Mo_filter 3 = .ok (.bipush 100, 2) := by decide +kernel
theorem d_Mo_filter_5 : decode b_Mo_filter 5 = .ok (.bipush 100, 2) := by decide +kernel
theorem d_Mo_filter_7 : decode b_Mo_filter 7 = .ok (.invokevirtual 137, 3) := by decide +kernel
theorem d_Mo_filter_10 : decode b_Mo_filter 10 = .ok (.ifCond .eq 6, 3) := by decide +kernel
theorem d_Mo_filter_13 : decode b_Mo_filter 13 = .ok (.bipush 11, 2) := by decide +kernel
theorem d_Mo_filter_15 : decode b_Mo_filter 15 = .ok (.ireturn, 1) := by decide +kernel
theorem d_Mo_filter_16 : decode b_Mo_filter 16 = .ok (.aload_n 0, 1) := by decide +kernel
theorem d_Mo_filter_17 : decode b_Mo_filter 17 = .ok (.bipush 101, 2) := by decide +kernel
theorem d_Mo_filter_19 : decode b_Mo_filter 19 = .ok (.bipush 118, 2) := by decide +kernel
theorem d_Mo_filter_21 : decode b_Mo_filter 21 = .ok (.bipush 101, 2) := by decide +kernel
theorem d_Mo_filter_23 : decode b_Mo_filter 23 = .ok (.bipush 110, 2) := by decide +kernel
theorem d_Mo_filter_25 : decode b_Mo_filter 25 = .ok (.invokevirtual 149, 3) := by decide +kernel
theorem d_Mo_filter_28 : decode b_Mo_filter 28 = .ok (.ifCond .eq 6, 3) := by decide +kernel
theorem d_Mo_filter_31 : decode b_Mo_filter 31 = .ok (.bipush 12, 2) := by decide +kernel
theorem d_Mo_filter_33 : decode b_Mo_filter 33 = .ok (.ireturn, 1) := by decide +kernel
theorem d_Mo_filter_34 : decode b_Mo_filter 34 = .ok (.aload_n 0, 1) := by decide +kernel
theorem d_Mo_filter_35 : decode b_Mo_filter 35 = .ok (.bipush 98, 2) := by decide +kernel
theorem d_Mo_filter_37 : decode b_Mo_filter 37 = .ok (.bipush 111, 2) := by decide +kernel
theorem d_Mo_filter_39 : decode b_Mo_filter 39 = .ok (.bipush 114, 2) := by decide +kernel
theorem d_Mo_filter_41 : decode b_Mo_filter 41 = .ok (.bipush 100, 2) := by decide +kernel
theorem d_Mo_filter_43 : decode b_Mo_filter 43 = .ok (.bipush 101, 2) := by decide +kernel
theorem d_Mo_filter_45 : decode b_Mo_filter 45 = .ok (.bipush 114, 2) := by decide +kernel
theorem d_Mo_filter_47 : decode b_Mo_filter 47 = .ok (.iconst 0, 1) := by decide +kernel
theorem d_Mo_filter_48 : decode b_Mo_filter 48 = .ok (.invokevirtual 141, 3) := by decide +kernel
theorem d_Mo_filter_51 : decode b_Mo_filter 51 = .ok (.ifCond .eq 6, 3) := by decide +kernel
theorem d_Mo_filter_54 : decode b_Mo_filter 54 = .ok (.bipush 13, 2) := by decide +kernel
theorem d_Mo_filter_56 : decode b_Mo_filter 56 = .ok (.ireturn, 1) := by decide +kernel
theorem d_Mo_filter_57 : decode b_Mo_filter 57 = .ok (.aload_n 0, 1) := by decide +kernel
theorem d_Mo_filter_58 : decode b_Mo_filter 58 = .ok (.bipush 105, 2) := by decide +kernel
theorem d_Mo_filter_60 : decode b_Mo_filter 60 = .ok (.bipush 110, 2) := by decide +kernel
theorem d_Mo_filter_62 : decode b_Mo_filter 62 = .ok (.bipush 110, 2) := by decide +kernel
theorem d_Mo_filter_64 : decode b_Mo_filter 64 = .ok (.bipush 101, 2) := by decide +kernel
theorem d_Mo_filter_66 : decode b_Mo_filter 66 = .ok (.bipush 114, 2) := by decide +kernel
theorem d_Mo_filter_68 : decode b_Mo_filter 68 = .ok (.invokevirtual 145, 3) := by decide +kernel
theorem d_Mo_filter_71 : decode b_Mo_filter 71 = .ok (.ifCond .eq 8, 3) := by decide +kernel
theorem d_Mo_filter_74 : decode b_Mo_filter 74 = .ok (.bipush 14, 2) := by decide +kernel
theorem d_Mo_filter_76 : decode b_Mo_filter 76 = .ok (.goto 4, 3) := by decide +kernel
theorem d_Mo_filter_79 : decode b_Mo_filter 79 = .ok (.iconst (-1), 1) := by decide +kernel
theorem d_Mo_filter_80 : decode b_Mo_filter 80 = .ok (.ireturn, 1) := by decide +kernel
theorem d_Mo_ruleKind_0 : decode b_Mo_ruleKind 0 = .ok (.aload_n 0, 1) := by decide +kernel
theorem d_Mo_ruleKind_1 : decode b_Mo_ruleKind 1 = .ok (.bipush 117, 2) := by decide +kernel
theorem d_Mo_ruleKind_3 : decode b_Mo_ruleKind 3 = .ok (.bipush 110, 2) := by decide +kernel
theorem d_Mo_ruleKind_5 : decode b_Mo_ruleKind 5 = .ok (.bipush 108, 2) := by decide +kernel
theorem d_Mo_ruleKind_7 : decode b_Mo_ruleKind 7 = .ok (.bipush 105, 2) := by decide +kernel
theorem d_Mo_ruleKind_9 : decode b_Mo_ruleKind 9 = .ok (.bipush 107, 2) := by decide +kernel
theorem d_Mo_ruleKind_11 : decode b_Mo_ruleKind 11 = .ok (.bipush 101, 2) := by decide +kernel
theorem d_Mo_ruleKind_13 : decode b_Mo_ruleKind 13 = .ok (.iconst 0, 1) := by decide +kernel
theorem d_Mo_ruleKind_14 : decode b_Mo_ruleKind 14 = .ok (.invokevirtual 141, 3) := by decide +kernel
theorem d_Mo_ruleKind_17 : decode b_Mo_ruleKind 17 = .ok (.ifCond .eq 5, 3) := by decide +kernel
theorem d_Mo_ruleKind_20 : decode b_Mo_ruleKind 20 = .ok (.iconst 0, 1) := by decide +kernel
theorem d_Mo_ruleKind_21 : decode b_Mo_ruleKind 21 = .ok (.ireturn, 1) := by decide +kernel
theorem d_Mo_ruleKind_22 : decode b_Mo_ruleKind 22 = .ok (.aload_n 0, 1) := by decide +kernel
theorem d_Mo_ruleKind_23 : decode b_Mo_ruleKind 23 = .ok (.bipush 101, 2) := by decide +kernel
theorem d_Mo_ruleKind_25 : decode b_Mo_ruleKind 25 = .ok (.bipush 113, 2) := by decide +kernel
theorem d_Mo_ruleKind_27 : decode b_Mo_ruleKind 27 = .ok (.bipush 117, 2) := by decide +kernel
theorem d_Mo_ruleKind_29 : decode b_Mo_ruleKind 29 = .ok (.bipush 97, 2) := by decide +kernel
theorem d_Mo_ruleKind_31 : decode b_Mo_ruleKind 31 = .ok (.bipush 108, 2) := by decide +kernel
theorem d_Mo_ruleKind_33 : decode b_Mo_ruleKind 33 = .ok (.invokevirtual 145, 3) := by decide +kernel
theorem d_Mo_ruleKind_36 : decode b_Mo_ruleKind 36 = .ok (.ifCond .eq 5, 3) := by decide +kernel
theorem d_Mo_ruleKind_39 : decode b_Mo_ruleKind 39 = .ok (.iconst 1, 1) := by decide +kernel
theorem d_Mo_ruleKind_40 : decode b_Mo_ruleKind 40 = .ok (.ireturn, 1) := by decide +kernel
theorem d_Mo_ruleKind_41 : decode b_Mo_ruleKind 41 = .ok (.aload_n 0, 1) := by decide +kernel
theorem d_Mo_ruleKind_42 : decode b_Mo_ruleKind 42 = .ok (.bipush 114, 2) := by decide +kernel
theorem d_Mo_ruleKind_44 : decode b_Mo_ruleKind 44 = .ok (.bipush 105, 2) := by decide +kernel
theorem d_Mo_ruleKind_46 : decode b_Mo_ruleKind 46 = .ok (.bipush 115, 2) := by decide +kernel
theorem d_Mo_ruleKind_48 : decode b_Mo_ruleKind 48 = .ok (.bipush 105, 2) := by decide +kernel
theorem d_Mo_ruleKind_50 : decode b_Mo_ruleKind 50 = .ok (.bipush 110, 2) := by decide +kernel
theorem d_Mo_ruleKind_52 : decode b_Mo_ruleKind 52 = .ok (.bipush 103, 2) := by decide +kernel
theorem d_Mo_ruleKind_54 : decode b_Mo_ruleKind 54 = .ok (.iconst 0, 1) := by decide +kernel
theorem d_Mo_ruleKind_55 : decode b_Mo_ruleKind 55 = .ok (.invokevirtual 141, 3) := by decide +kernel
theorem d_Mo_ruleKind_58 : decode b_Mo_ruleKind 58 = .ok (.ifCond .eq 5, 3) := by decide +kernel
theorem d_Mo_ruleKind_61 : decode b_Mo_ruleKind 61 = .ok (.iconst 2, 1) := by decide +kernel
theorem d_Mo_ruleKind_62 : decode b_Mo_ruleKind 62 = .ok (.ireturn, 1) := by decide +kernel
theorem d_Mo_ruleKind_63 : decode b_Mo_ruleKind 63 = .ok (.aload_n 0, 1) := by decide +kernel
theorem d_Mo_ruleKind_64 : decode b_Mo_ruleKind 64 = .ok (.bipush 102, 2) := by decide +kernel
theorem d_Mo_ruleKind_66 : decode b_Mo_ruleKind 66 = .ok (.bipush 97, 2) := by decide +kernel
theorem d_Mo_ruleKind_68 : decode b_Mo_ruleKind 68 = .ok (.bipush 108, 2) := by decide +kernel
theorem d_Mo_ruleKind_70 : decode b_Mo_ruleKind 70 = .ok (.bipush 108, 2) := by decide +kernel
theorem d_Mo_ruleKind_72 : decode b_Mo_ruleKind 72 = .ok (.bipush 105, 2) := by decide +kernel
theorem d_Mo_ruleKind_74 : decode b_Mo_ruleKind 74 = .ok (.bipush 110, 2) := by decide +kernel
theorem d_Mo_ruleKind_76 : decode b_Mo_ruleKind 76 = .ok (.bipush 7, 2) := by decide +kernel
theorem d_Mo_ruleKind_78 : decode b_Mo_ruleKind 78 = .ok (.invokevirtual 141, 3) := by decide +kernel
theorem d_Mo_ruleKind_81 : decode b_Mo_ruleKind 81 = .ok (.ifCond .eq 5, 3) := by decide +kernel
theorem d_Mo_ruleKind_84 : decode b_Mo_ruleKind 84 = .ok (.iconst 3, 1) := by decide +kernel
theorem d_Mo_ruleKind_85 : decode b_Mo_ruleKind 85 = .ok (.ireturn, 1) := by decide +kernel
theorem d_Mo_ruleKind_86 : decode b_Mo_ruleKind 86 = .ok (.aload_n 0, 1) := by decide +kernel
theorem d_Mo_ruleKind_87 : decode b_Mo_ruleKind 87 = .ok (.bipush 115, 2) := by decide +kernel
theorem d_Mo_ruleKind_89 : decode b_Mo_ruleKind 89 = .ok (.bipush 117, 2) := by decide +kernel
theorem d_Mo_ruleKind_91 : decode b_Mo_ruleKind 91 = .ok (.bipush 109, 2) := by decide +kernel
theorem d_Mo_ruleKind_93 : decode b_Mo_ruleKind 93 = .ok (.invokevirtual 137, 3) := by decide +kernel
theorem d_Mo_ruleKind_96 : decode b_Mo_ruleKind 96 = .ok (.ifCond .eq 5, 3) := by decide +kernel
theorem d_Mo_ruleKind_99 : decode b_Mo_ruleKind 99 = .ok (.iconst 4, 1) := by decide +kernel
theorem d_Mo_ruleKind_100 : decode b_Mo_ruleKind 100 = .ok (.ireturn, 1) := by decide +kernel
theorem d_Mo_ruleKind_101 : decode b_Mo_ruleKind 101 = .ok (.aload_n 0, 1) := by decide +kernel
theorem d_Mo_ruleKind_102 : decode b_Mo_ruleKind 102 = .ok (.bipush 99, 2) := by decide +kernel
theorem d_Mo_ruleKind_104 : decode b_Mo_ruleKind 104 = .ok (.bipush 111, 2) := by decide +kernel
theorem d_Mo_ruleKind_106 : decode b_Mo_ruleKind 106 = .ok (.bipush 117, 2) := by decide +kernel
theorem d_Mo_ruleKind_108 : decode b_Mo_ruleKind 108 = .ok (.bipush 110, 2) := by decide +kernel
theorem d_Mo_ruleKind_110 : decode b_Mo_ruleKind 110 = .ok (.bipush 116, 2) := by decide +kernel
theorem d_Mo_ruleKind_112 : decode b_Mo_ruleKind 112 = .ok (.invokevirtual 145, 3) := by decide +kernel
theorem d_Mo_ruleKind_115 : decode b_Mo_ruleKind 115 = .ok (.ifCond .eq 5, 3) := by decide +kernel
theorem d_Mo_ruleKind_118 : decode b_Mo_ruleKind 118 = .ok (.iconst 5, 1) := by decide +kernel
theorem d_Mo_ruleKind_119 : decode b_Mo_ruleKind 119 = .ok (.ireturn, 1) := by decide +kernel
theorem d_Mo_ruleKind_120 : decode b_Mo_ruleKind 120 = .ok (.aload_n 0, 1) := by decide +kernel
theorem d_Mo_ruleKind_121 : decode b_Mo_ruleKind 121 = .ok (.bipush 103, 2) := by decide +kernel
theorem d_Mo_ruleKind_123 : decode b_Mo_ruleKind 123 = .ok (.bipush 105, 2) := by decide +kernel
theorem d_Mo_ruleKind_125 : decode b_Mo_ruleKind 125 = .ok (.bipush 118, 2) := by decide +kernel
theorem d_Mo_ruleKind_127 : decode b_Mo_ruleKind 127 = .ok (.bipush 101, 2) := by decide +kernel
theorem d_Mo_ruleKind_129 : decode b_Mo_ruleKind 129 = .ok (.bipush 110, 2) := by decide +kernel
theorem d_Mo_ruleKind_131 : decode b_Mo_ruleKind 131 = .ok (.invokevirtual 145, 3) := by decide +kernel
theorem d_Mo_ruleKind_134 : decode b_Mo_ruleKind 134 = .ok (.ifCond .eq 8, 3) := by decide +kernel
theorem d_Mo_ruleKind_137 : decode b_Mo_ruleKind 137 = .ok (.bipush 6, 2) := by decide +kernel
theorem d_Mo_ruleKind_139 : decode b_Mo_ruleKind 139 = .ok (.goto 4, 3) := by decide +kernel
theorem d_Mo_ruleKind_142 : decode b_Mo_ruleKind 142 = .ok (.iconst (-1), 1) := by decide +kernel
theorem d_Mo_ruleKind_143 : decode b_Mo_ruleKind 143 = .ok (.ireturn, 1) := by decide +kernel
set_option maxHeartbeats 4000000 in
set_option maxRecDepth 100000 in
theorem c_Mo_shape (g : GG) (l : Launch) {m0 : Nat} {ad : Nat → Nat} {qth : Int32} {qsz : Int32} {qtk : Int32} {qde : Int32} {qru : Int32} {qat : Int32} {qva : Int32} {qwr : Int32} {qop : Int32} {qwi : Int32} {qhe : Int32} {qrw : Int32} {qma : Int32} {qir : Bool} {qiu : Bool} {so : Nat} {sta : Nat} {en : Nat} {T : Nat → Nat}  (hT : ∀ j, T j < 256) (hso : so < 2 ^ 31) (h1 : so = 1 → sta ≤ en ∧ en ≤ 2000 ∧ ∀ i, sta ≤ i → i < en → 97 ≤ T i ∧ T i ≤ 122) : Cn g l y_Mo_shape b_Mo_shape 1 (some .int) (rmk 2 0 0 52) [.ref m0] ([(m0, .inr (9, MO ad qth qsz (bI qir) qtk qde qru qat (nI en) (nI so) (nI sta) qva qwr qop (bI qiu) qwi qhe qrw qma)), ((ad 2), .inl (g.2.1 0, 2000, .inl (aI T)))]) (fun (r0 : Option Value) (w0 : va_W) => r0 = some (.int (oI (shapeM T so sta en))) ∧ w0 = [(m0, .inr (9, MO ad qth qsz (bI qir) qtk qde qru qat (nI en) (nI so) (nI sta) qva qwr qop (bI qiu) qwi qhe qrw qma)), ((ad 2), .inl (g.2.1 0, 2000, .inl (aI T)))]) := by
  refine Cn.of R_Mo [(0, .ref m0)] (by decide) rfl (Nat.le_of_ble_eq_true rfl) rfl ?_
  intro x A Q hR hXl hin C E
  subst hXl
  refine r_aload_n C 0 d_Mo_shape_0 rfl rfl ?_
  refine r_bipush C (nI 114) d_Mo_shape_1 (by decide) ?_
  refine r_bipush C (nI 111) d_Mo_shape_3 (by decide) ?_
  refine r_bipush C (nI 119) d_Mo_shape_5 (by decide) ?_
  refine j_callV C (c_Mo_is3 g (xl x) (m0 := m0) (ad := ad) (qth := qth) (qsz := qsz) (qtk := qtk) (qde := qde) (qru := qru) (qat := qat) (qva := qva) (qwr := qwr) (qop := qop) (qwi := qwi) (qhe := qhe) (qrw := qrw) (qma := qma) (qir := qir) (qiu := qiu) (so := so) (sta := sta) (en := en) (T := T) (a := 114) (b := 111) (c := 119) (by first | assumption | rfl | omega) (by first | assumption | rfl | omega) (by first | assumption | rfl | omega) (by first | assumption | rfl | omega) (by first | assumption | rfl | omega) (by first | assumption | rfl | omega)) (Sp.of (wr := []) [0, 1] [] rfl rfl rfl rfl (by decide)) d_Mo_shape_7 lk_Mo_137 mw_Mo_is3 vw_Mo_is3 (q0 := 0) rfl rfl (fit_of hR (by first | decide | (simp only [rmk]; omega)) (by first | decide | (simp only [rmk]; omega)) (by first | decide | (simp only [rmk]; omega)) (by first | decide | (simp only [rmk]; omega))) rfl (cat8 (Nat.le_of_ble_eq_true rfl)) (As := [.int (nI 114), .int (nI 111), .int (nI 119)]) (rest := []) rfl (fun r_7 w_7 hp_7 => ?_)
  obtain ⟨rfl, rfl⟩ := hp_7
  refine r_after (ws' := [(m0, .inr (9, MO ad qth qsz (bI qir) qtk qde qru qat (nI en) (nI so) (nI sta) qva qwr qop (bI qiu) qwi qhe qrw qma)), ((ad 2), .inl (g.2.1 0, 2000, .inl (aI T)))]) (st' := [.int (bI (isWm T so sta en (cod 0 0 0 (114 - 96) (111 - 96) (119 - 96)) 0))]) (n1 := 0) (n2 := 0) [0, 1] rfl rfl rfl rfl rfl ?_
  refine r_bif_eq C 15 d_Mo_shape_10 (by decide) (fun c_10 => ?_) (fun c_10 => ?_)
  · skip
    refine r_aload_n C 0 d_Mo_shape_15 rfl rfl ?_
    refine r_bipush C (nI 99) d_Mo_shape_16 (by decide) ?_
    refine r_bipush C (nI 111) d_Mo_shape_18 (by decide) ?_
    refine r_bipush C (nI 108) d_Mo_shape_20 (by decide) ?_
    refine r_bipush C (nI 117) d_Mo_shape_22 (by decide) ?_
    refine r_bipush C (nI 109) d_Mo_shape_24 (by decide) ?_
    refine r_bipush C (nI 110) d_Mo_shape_26 (by decide) ?_
    refine r_iconst C (nI 0) d_Mo_shape_28 (by decide) ?_
    refine j_callV C (c_Mo_is6 g (xl x) (m0 := m0) (ad := ad) (qth := qth) (qsz := qsz) (qtk := qtk) (qde := qde) (qru := qru) (qat := qat) (qva := qva) (qwr := qwr) (qop := qop) (qwi := qwi) (qhe := qhe) (qrw := qrw) (qma := qma) (qir := qir) (qiu := qiu) (so := so) (sta := sta) (en := en) (T := T) (a := 99) (b := 111) (c := 108) (d := 117) (e := 109) (f := 110) (lo := 0) (by first | assumption | rfl | omega) (by first | assumption | rfl | omega) (by first | assumption | rfl | omega) (by first | assumption | rfl | omega) (by first | assumption | rfl | omega) (by first | assumption | rfl | omega) (by first | assumption | rfl | omega) (by first | assumption | rfl | omega) (by first | assumption | rfl | omega) (by first | assumption | rfl | omega)) (Sp.of (wr := []) [0, 1] [] rfl rfl rfl rfl (by decide)) d_Mo_shape_29 lk_Mo_141 mw_Mo_is6 vw_Mo_is6 (q0 := 0) rfl rfl (fit_of hR (by first | decide | (simp only [rmk]; omega)) (by first | decide | (simp only [rmk]; omega)) (by first | decide | (simp only [rmk]; omega)) (by first | decide | (simp only [rmk]; omega))) rfl (cat8 (Nat.le_of_ble_eq_true rfl)) (As := [.int (nI 99), .int (nI 111), .int (nI 108), .int (nI 117), .int (nI 109), .int (nI 110), .int (nI 0)]) (rest := []) rfl (fun r_29 w_29 hp_29 => ?_)
    obtain ⟨rfl, rfl⟩ := hp_29
    refine r_after (ws' := [(m0, .inr (9, MO ad qth qsz (bI qir) qtk qde qru qat (nI en) (nI so) (nI sta) qva qwr qop (bI qiu) qwi qhe qrw qma)), ((ad 2), .inl (g.2.1 0, 2000, .inl (aI T)))]) (st' := [.int (bI (isWm T so sta en (cod (99 - 96) (111 - 96) (108 - 96) (117 - 96) (109 - 96) (110 - 96)) 0))]) (n1 := 0) (n2 := 0) [0, 1] rfl rfl rfl rfl rfl ?_
    refine r_bif_eq C 37 d_Mo_shape_32 (by decide) (fun c_32 => ?_) (fun c_32 => ?_)
    · skip
      refine r_aload_n C 0 d_Mo_shape_37 rfl rfl ?_
      refine r_bipush C (nI 98) d_Mo_shape_38 (by decide) ?_
      refine r_bipush C (nI 108) d_Mo_shape_40 (by decide) ?_
      refine r_bipush C (nI 111) d_Mo_shape_42 (by decide) ?_
      refine r_bipush C (nI 99) d_Mo_shape_44 (by decide) ?_
      refine r_bipush C (nI 107) d_Mo_shape_46 (by decide) ?_
      refine j_callV C (c_Mo_is5 g (xl x) (m0 := m0) (ad := ad) (qth := qth) (qsz := qsz) (qtk := qtk) (qde := qde) (qru := qru) (qat := qat) (qva := qva) (qwr := qwr) (qop := qop) (qwi := qwi) (qhe := qhe) (qrw := qrw) (qma := qma) (qir := qir) (qiu := qiu) (so := so) (sta := sta) (en := en) (T := T) (a := 98) (b := 108) (c := 111) (d := 99) (e := 107) (by first | assumption | rfl | omega) (by first | assumption | rfl | omega) (by first | assumption | rfl | omega) (by first | assumption | rfl | omega) (by first | assumption | rfl | omega) (by first | assumption | rfl | omega) (by first | assumption | rfl | omega) (by first | assumption | rfl | omega)) (Sp.of (wr := []) [0, 1] [] rfl rfl rfl rfl (by decide)) d_Mo_shape_48 lk_Mo_145 mw_Mo_is5 vw_Mo_is5 (q0 := 0) rfl rfl (fit_of hR (by first | decide | (simp only [rmk]; omega)) (by first | decide | (simp only [rmk]; omega)) (by first | decide | (simp only [rmk]; omega)) (by first | decide | (simp only [rmk]; omega))) rfl (cat8 (Nat.le_of_ble_eq_true rfl)) (As := [.int (nI 98), .int (nI 108), .int (nI 111), .int (nI 99), .int (nI 107)]) (rest := []) rfl (fun r_48 w_48 hp_48 => ?_)
      obtain ⟨rfl, rfl⟩ := hp_48
      refine r_after (ws' := [(m0, .inr (9, MO ad qth qsz (bI qir) qtk qde qru qat (nI en) (nI so) (nI sta) qva qwr qop (bI qiu) qwi qhe qrw qma)), ((ad 2), .inl (g.2.1 0, 2000, .inl (aI T)))]) (st' := [.int (bI (isWm T so sta en (cod 0 (98 - 96) (108 - 96) (111 - 96) (99 - 96) (107 - 96)) 0))]) (n1 := 0) (n2 := 0) [0, 1] rfl rfl rfl rfl rfl ?_
      refine r_bif_eq C 56 d_Mo_shape_51 (by decide) (fun c_51 => ?_) (fun c_51 => ?_)
      · skip
        refine r_aload_n C 0 d_Mo_shape_56 rfl rfl ?_
        refine r_bipush C (nI 99) d_Mo_shape_57 (by decide) ?_
        refine r_bipush C (nI 101) d_Mo_shape_59 (by decide) ?_
        refine r_bipush C (nI 108) d_Mo_shape_61 (by decide) ?_
        refine r_bipush C (nI 108) d_Mo_shape_63 (by decide) ?_
        refine j_callV C (c_Mo_is4 g (xl x) (m0 := m0) (ad := ad) (qth := qth) (qsz := qsz) (qtk := qtk) (qde := qde) (qru := qru) (qat := qat) (qva := qva) (qwr := qwr) (qop := qop) (qwi := qwi) (qhe := qhe) (qrw := qrw) (qma := qma) (qir := qir) (qiu := qiu) (so := so) (sta := sta) (en := en) (T := T) (a := 99) (b := 101) (c := 108) (d := 108) (by first | assumption | rfl | omega) (by first | assumption | rfl | omega) (by first | assumption | rfl | omega) (by first | assumption | rfl | omega) (by first | assumption | rfl | omega) (by first | assumption | rfl | omega) (by first | assumption | rfl | omega)) (Sp.of (wr := []) [0, 1] [] rfl rfl rfl rfl (by decide)) d_Mo_shape_65 lk_Mo_149 mw_Mo_is4 vw_Mo_is4 (q0 := 0) rfl rfl (fit_of hR (by first | decide | (simp only [rmk]; omega)) (by first | decide | (simp only [rmk]; omega)) (by first | decide | (simp only [rmk]; omega)) (by first | decide | (simp only [rmk]; omega))) rfl (cat8 (Nat.le_of_ble_eq_true rfl)) (As := [.int (nI 99), .int (nI 101), .int (nI 108), .int (nI 108)]) (rest := []) rfl (fun r_65 w_65 hp_65 => ?_)
        obtain ⟨rfl, rfl⟩ := hp_65
        refine r_after (ws' := [(m0, .inr (9, MO ad qth qsz (bI qir) qtk qde qru qat (nI en) (nI so) (nI sta) qva qwr qop (bI qiu) qwi qhe qrw qma)), ((ad 2), .inl (g.2.1 0, 2000, .inl (aI T)))]) (st' := [.int (bI (isWm T so sta en (cod 0 0 (99 - 96) (101 - 96) (108 - 96) (108 - 96)) 0))]) (n1 := 0) (n2 := 0) [0, 1] rfl rfl rfl rfl rfl ?_
        refine r_bif_eq C 73 d_Mo_shape_68 (by decide) (fun c_68 => ?_) (fun c_68 => ?_)
        · skip
          refine r_aload_n C 0 d_Mo_shape_73 rfl rfl ?_
          refine r_bipush C (nI 112) d_Mo_shape_74 (by decide) ?_
          refine r_bipush C (nI 97) d_Mo_shape_76 (by decide) ?_
          refine r_bipush C (nI 105) d_Mo_shape_78 (by decide) ?_
          refine r_bipush C (nI 114) d_Mo_shape_80 (by decide) ?_
          refine j_callV C (c_Mo_is4 g (xl x) (m0 := m0) (ad := ad) (qth := qth) (qsz := qsz) (qtk := qtk) (qde := qde) (qru := qru) (qat := qat) (qva := qva) (qwr := qwr) (qop := qop) (qwi := qwi) (qhe := qhe) (qrw := qrw) (qma := qma) (qir := qir) (qiu := qiu) (so := so) (sta := sta) (en := en) (T := T) (a := 112) (b := 97) (c := 105) (d := 114) (by first | assumption | rfl | omega) (by first | assumption | rfl | omega) (by first | assumption | rfl | omega) (by first | assumption | rfl | omega) (by first | assumption | rfl | omega) (by first | assumption | rfl | omega) (by first | assumption | rfl | omega)) (Sp.of (wr := []) [0, 1] [] rfl rfl rfl rfl (by decide)) d_Mo_shape_82 lk_Mo_149 mw_Mo_is4 vw_Mo_is4 (q0 := 0) rfl rfl (fit_of hR (by first | decide | (simp only [rmk]; omega)) (by first | decide | (simp only [rmk]; omega)) (by first | decide | (simp only [rmk]; omega)) (by first | decide | (simp only [rmk]; omega))) rfl (cat8 (Nat.le_of_ble_eq_true rfl)) (As := [.int (nI 112), .int (nI 97), .int (nI 105), .int (nI 114)]) (rest := []) rfl (fun r_82 w_82 hp_82 => ?_)
          obtain ⟨rfl, rfl⟩ := hp_82
          refine r_after (ws' := [(m0, .inr (9, MO ad qth qsz (bI qir) qtk qde qru qat (nI en) (nI so) (nI sta) qva qwr qop (bI qiu) qwi qhe qrw qma)), ((ad 2), .inl (g.2.1 0, 2000, .inl (aI T)))]) (st' := [.int (bI (isWm T so sta en (cod 0 0 (112 - 96) (97 - 96) (105 - 96) (114 - 96)) 0))]) (n1 := 0) (n2 := 0) [0, 1] rfl rfl rfl rfl rfl ?_
          refine r_bif_eq C 90 d_Mo_shape_85 (by decide) (fun c_85 => ?_) (fun c_85 => ?_)
          · skip
            refine r_aload_n C 0 d_Mo_shape_90 rfl rfl ?_
            refine r_bipush C (nI 119) d_Mo_shape_91 (by decide) ?_
            refine r_bipush C (nI 105) d_Mo_shape_93 (by decide) ?_
            refine r_bipush C (nI 110) d_Mo_shape_95 (by decide) ?_
            refine r_bipush C (nI 100) d_Mo_shape_97 (by decide) ?_
            refine r_bipush C (nI 111) d_Mo_shape_99 (by decide) ?_
            refine r_bipush C (nI 119) d_Mo_shape_101 (by decide) ?_
            refine r_iconst C (nI 0) d_Mo_shape_103 (by decide) ?_
            refine j_callV C (c_Mo_is6 g (xl x) (m0 := m0) (ad := ad) (qth := qth) (qsz := qsz) (qtk := qtk) (qde := qde) (qru := qru) (qat := qat) (qva := qva) (qwr := qwr) (qop := qop) (qwi := qwi) (qhe := qhe) (qrw := qrw) (qma := qma) (qir := qir) (qiu := qiu) (so := so) (sta := sta) (en := en) (T := T) (a := 119) (b := 105) (c := 110) (d := 100) (e := 111) (f := 119) (lo := 0) (by first | assumption | rfl | omega) (by first | assumption | rfl | omega) (by first | assumption | rfl | omega) (by first | assumption | rfl | omega) (by first | assumption | rfl | omega) (by first | assumption | rfl | omega) (by first | assumption | rfl | omega) (by first | assumption | rfl | omega) (by first | assumption | rfl | omega) (by first | assumption | rfl | omega)) (Sp.of (wr := []) [0, 1] [] rfl rfl rfl rfl (by decide)) d_Mo_shape_104 lk_Mo_141 mw_Mo_is6 vw_Mo_is6 (q0 := 0) rfl rfl (fit_of hR (by first | decide | (simp only [rmk]; omega)) (by first | decide | (simp only [rmk]; omega)) (by first | decide | (simp only [rmk]; omega)) (by first | decide | (simp only [rmk]; omega))) rfl (cat8 (Nat.le_of_ble_eq_true rfl)) (As := [.int (nI 119), .int (nI 105), .int (nI 110), .int (nI 100), .int (nI 111), .int (nI 119), .int (nI 0)]) (rest := []) rfl (fun r_104 w_104 hp_104 => ?_)
            obtain ⟨rfl, rfl⟩ := hp_104
            refine r_after (ws' := [(m0, .inr (9, MO ad qth qsz (bI qir) qtk qde qru qat (nI en) (nI so) (nI sta) qva qwr qop (bI qiu) qwi qhe qrw qma)), ((ad 2), .inl (g.2.1 0, 2000, .inl (aI T)))]) (st' := [.int (bI (isWm T so sta en (cod (119 - 96) (105 - 96) (110 - 96) (100 - 96) (111 - 96) (119 - 96)) 0))]) (n1 := 0) (n2 := 0) [0, 1] rfl rfl rfl rfl rfl ?_
            refine r_bif_eq C 113 d_Mo_shape_107 (by decide) (fun c_107 => ?_) (fun c_107 => ?_)
            · skip
              refine r_aload_n C 0 d_Mo_shape_113 rfl rfl ?_
              refine r_bipush C (nI 115) d_Mo_shape_114 (by decide) ?_
              refine r_bipush C (nI 105) d_Mo_shape_116 (by decide) ?_
              refine r_bipush C (nI 100) d_Mo_shape_118 (by decide) ?_
              refine r_bipush C (nI 101) d_Mo_shape_120 (by decide) ?_
              refine j_callV C (c_Mo_is4 g (xl x) (m0 := m0) (ad := ad) (qth := qth) (qsz := qsz) (qtk := qtk) (qde := qde) (qru := qru) (qat := qat) (qva := qva) (qwr := qwr) (qop := qop) (qwi := qwi) (qhe := qhe) (qrw := qrw) (qma := qma) (qir := qir) (qiu := qiu) (so := so) (sta := sta) (en := en) (T := T) (a := 115) (b := 105) (c := 100) (d := 101) (by first | assumption | rfl | omega) (by first | assumption | rfl | omega) (by first | assumption | rfl | omega) (by first | assumption | rfl | omega) (by first | assumption | rfl | omega) (by first | assumption | rfl | omega) (by first | assumption | rfl | omega)) (Sp.of (wr := []) [0, 1] [] rfl rfl rfl rfl (by decide)) d_Mo_shape_122 lk_Mo_149 mw_Mo_is4 vw_Mo_is4 (q0 := 0) rfl rfl (fit_of hR (by first | decide | (simp only [rmk]; omega)) (by first | decide | (simp only [rmk]; omega)) (by first | decide | (simp only [rmk]; omega)) (by first | decide | (simp only [rmk]; omega))) rfl (cat8 (Nat.le_of_ble_eq_true rfl)) (As := [.int (nI 115), .int (nI 105), .int (nI 100), .int (nI 101)]) (rest := []) rfl (fun r_122 w_122 hp_122 => ?_)
              obtain ⟨rfl, rfl⟩ := hp_122
              refine r_after (ws' := [(m0, .inr (9, MO ad qth qsz (bI qir) qtk qde qru qat (nI en) (nI so) (nI sta) qva qwr qop (bI qiu) qwi qhe qrw qma)), ((ad 2), .inl (g.2.1 0, 2000, .inl (aI T)))]) (st' := [.int (bI (isWm T so sta en (cod 0 0 (115 - 96) (105 - 96) (100 - 96) (101 - 96)) 0))]) (n1 := 0) (n2 := 0) [0, 1] rfl rfl rfl rfl rfl ?_
              refine r_bif_eq C 131 d_Mo_shape_125 (by decide) (fun c_125 => ?_) (fun c_125 => ?_)
              · skip
                refine r_aload_n C 0 d_Mo_shape_131 rfl rfl ?_
                refine r_bipush C (nI 99) d_Mo_shape_132 (by decide) ?_
                refine r_bipush C (nI 111) d_Mo_shape_134 (by decide) ?_
                refine r_bipush C (nI 114) d_Mo_shape_136 (by decide) ?_
                refine r_bipush C (nI 110) d_Mo_shape_138 (by decide) ?_
                refine r_bipush C (nI 101) d_Mo_shape_140 (by decide) ?_
                refine r_bipush C (nI 114) d_Mo_shape_142 (by decide) ?_
                refine r_iconst C (nI 0) d_Mo_shape_144 (by decide) ?_
                refine j_callV C (c_Mo_is6 g (xl x) (m0 := m0) (ad := ad) (qth := qth) (qsz := qsz) (qtk := qtk) (qde := qde) (qru := qru) (qat := qat) (qva := qva) (qwr := qwr) (qop := qop) (qwi := qwi) (qhe := qhe) (qrw := qrw) (qma := qma) (qir := qir) (qiu := qiu) (so := so) (sta := sta) (en := en) (T := T) (a := 99) (b := 111) (c := 114) (d := 110) (e := 101) (f := 114) (lo := 0) (by first | assumption | rfl | omega) (by first | assumption | rfl | omega) (by first | assumption | rfl | omega) (by first | assumption | rfl | omega) (by first | assumption | rfl | omega) (by first | assumption | rfl | omega) (by first | assumption | rfl | omega) (by first | assumption | rfl | omega) (by first | assumption | rfl | omega) (by first | assumption | rfl | omega)) (Sp.of (wr := []) [0, 1] [] rfl rfl rfl rfl (by decide)) d_Mo_shape_145 lk_Mo_141 mw_Mo_is6 vw_Mo_is6 (q0 := 0) rfl rfl (fit_of hR (by first | decide | (simp only [rmk]; omega)) (by first | decide | (simp only [rmk]; omega)) (by first | decide | (simp only [rmk]; omega)) (by first | decide | (simp only [rmk]; omega))) rfl (cat8 (Nat.le_of_ble_eq_true rfl)) (As := [.int (nI 99), .int (nI 111), .int (nI 114), .int (nI 110), .int (nI 101), .int (nI 114), .int (nI 0)]) (rest := []) rfl (fun r_145 w_145 hp_145 => ?_)
                obtain ⟨rfl, rfl⟩ := hp_145
                refine r_after (ws' := [(m0, .inr (9, MO ad qth qsz (bI qir) qtk qde qru qat (nI en) (nI so) (nI sta) qva qwr qop (bI qiu) qwi qhe qrw qma)), ((ad 2), .inl (g.2.1 0, 2000, .inl (aI T)))]) (st' := [.int (bI (isWm T so sta en (cod (99 - 96) (111 - 96) (114 - 96) (110 - 96) (101 - 96) (114 - 96)) 0))]) (n1 := 0) (n2 := 0) [0, 1] rfl rfl rfl rfl rfl ?_
                refine r_bif_eq C 154 d_Mo_shape_148 (by decide) (fun c_148 => ?_) (fun c_148 => ?_)
                · skip
                  refine r_aload_n C 0 d_Mo_shape_154 rfl rfl ?_
                  refine r_bipush C (nI 100) d_Mo_shape_155 (by decide) ?_
                  refine r_bipush C (nI 105) d_Mo_shape_157 (by decide) ?_
                  refine r_bipush C (nI 97) d_Mo_shape_159 (by decide) ?_
                  refine r_bipush C (nI 103) d_Mo_shape_161 (by decide) ?_
                  refine r_bipush C (nI 111) d_Mo_shape_163 (by decide) ?_
                  refine r_bipush C (nI 110) d_Mo_shape_165 (by decide) ?_
                  refine r_bipush C (nI 44) d_Mo_shape_167 (by decide) ?_
                  refine j_callV C (c_Mo_is6 g (xl x) (m0 := m0) (ad := ad) (qth := qth) (qsz := qsz) (qtk := qtk) (qde := qde) (qru := qru) (qat := qat) (qva := qva) (qwr := qwr) (qop := qop) (qwi := qwi) (qhe := qhe) (qrw := qrw) (qma := qma) (qir := qir) (qiu := qiu) (so := so) (sta := sta) (en := en) (T := T) (a := 100) (b := 105) (c := 97) (d := 103) (e := 111) (f := 110) (lo := 44) (by first | assumption | rfl | omega) (by first | assumption | rfl | omega) (by first | assumption | rfl | omega) (by first | assumption | rfl | omega) (by first | assumption | rfl | omega) (by first | assumption | rfl | omega) (by first | assumption | rfl | omega) (by first | assumption | rfl | omega) (by first | assumption | rfl | omega) (by first | assumption | rfl | omega)) (Sp.of (wr := []) [0, 1] [] rfl rfl rfl rfl (by decide)) d_Mo_shape_169 lk_Mo_141 mw_Mo_is6 vw_Mo_is6 (q0 := 0) rfl rfl (fit_of hR (by first | decide | (simp only [rmk]; omega)) (by first | decide | (simp only [rmk]; omega)) (by first | decide | (simp only [rmk]; omega)) (by first | decide | (simp only [rmk]; omega))) rfl (cat8 (Nat.le_of_ble_eq_true rfl)) (As := [.int (nI 100), .int (nI 105), .int (nI 97), .int (nI 103), .int (nI 111), .int (nI 110), .int (nI 44)]) (rest := []) rfl (fun r_169 w_169 hp_169 => ?_)
                  obtain ⟨rfl, rfl⟩ := hp_169
                  refine r_after (ws' := [(m0, .inr (9, MO ad qth qsz (bI qir) qtk qde qru qat (nI en) (nI so) (nI sta) qva qwr qop (bI qiu) qwi qhe qrw qma)), ((ad 2), .inl (g.2.1 0, 2000, .inl (aI T)))]) (st' := [.int (bI (isWm T so sta en (cod (100 - 96) (105 - 96) (97 - 96) (103 - 96) (111 - 96) (110 - 96)) 44))]) (n1 := 0) (n2 := 0) [0, 1] rfl rfl rfl rfl rfl ?_
                  refine r_bif_eq C 178 d_Mo_shape_172 (by decide) (fun c_172 => ?_) (fun c_172 => ?_)
                  · skip
                    refine r_aload_n C 0 d_Mo_shape_178 rfl rfl ?_
                    refine r_bipush C (nI 97) d_Mo_shape_179 (by decide) ?_
                    refine r_bipush C (nI 110) d_Mo_shape_181 (by decide) ?_
                    refine r_bipush C (nI 116) d_Mo_shape_183 (by decide) ?_
                    refine r_bipush C (nI 105) d_Mo_shape_185 (by decide) ?_
                    refine j_callV C (c_Mo_is4 g (xl x) (m0 := m0) (ad := ad) (qth := qth) (qsz := qsz) (qtk := qtk) (qde := qde) (qru := qru) (qat := qat) (qva := qva) (qwr := qwr) (qop := qop) (qwi := qwi) (qhe := qhe) (qrw := qrw) (qma := qma) (qir := qir) (qiu := qiu) (so := so) (sta := sta) (en := en) (T := T) (a := 97) (b := 110) (c := 116) (d := 105) (by first | assumption | rfl | omega) (by first | assumption | rfl | omega) (by first | assumption | rfl | omega) (by first | assumption | rfl | omega) (by first | assumption | rfl | omega) (by first | assumption | rfl | omega) (by first | assumption | rfl | omega)) (Sp.of (wr := []) [0, 1] [] rfl rfl rfl rfl (by decide)) d_Mo_shape_187 lk_Mo_149 mw_Mo_is4 vw_Mo_is4 (q0 := 0) rfl rfl (fit_of hR (by first | decide | (simp only [rmk]; omega)) (by first | decide | (simp only [rmk]; omega)) (by first | decide | (simp only [rmk]; omega)) (by first | decide | (simp only [rmk]; omega))) rfl (cat8 (Nat.le_of_ble_eq_true rfl)) (As := [.int (nI 97), .int (nI 110), .int (nI 116), .int (nI 105)]) (rest := []) rfl (fun r_187 w_187 hp_187 => ?_)
                    obtain ⟨rfl, rfl⟩ := hp_187
                    refine r_after (ws' := [(m0, .inr (9, MO ad qth qsz (bI qir) qtk qde qru qat (nI en) (nI so) (nI sta) qva qwr qop (bI qiu) qwi qhe qrw qma)), ((ad 2), .inl (g.2.1 0, 2000, .inl (aI T)))]) (st' := [.int (bI (isWm T so sta en (cod 0 0 (97 - 96) (110 - 96) (116 - 96) (105 - 96)) 0))]) (n1 := 0) (n2 := 0) [0, 1] rfl rfl rfl rfl rfl ?_
                    refine r_bif_eq C 198 d_Mo_shape_190 (by decide) (fun c_190 => ?_) (fun c_190 => ?_)
                    · skip
                      refine r_iconst C ((-1)) d_Mo_shape_198 (by decide) ?_
                      refine r_iret C E d_Mo_shape_199 (by first | decide | omega | (simp only [rmk]; omega)) (by first | decide | omega | (simp only [rmk]; omega)) ?_
                      exact ⟨by simp only [shapeM, c_10, c_32, c_51, c_68, c_85, c_107, c_125, c_148, c_172, c_190, Bool.false_eq_true, if_true, if_false]; rfl, rfl⟩
                    · skip
                      refine r_bipush C (nI 10) d_Mo_shape_193 (by decide) ?_
                      refine r_goto C 199 d_Mo_shape_195 (by decide) ?_
                      refine r_iret C E d_Mo_shape_199 (by first | decide | omega | (simp only [rmk]; omega)) (by first | decide | omega | (simp only [rmk]; omega)) ?_
                      exact ⟨by simp only [shapeM, c_10, c_32, c_51, c_68, c_85, c_107, c_125, c_148, c_172, c_190, Bool.false_eq_true, if_true, if_false]; rfl, rfl⟩
                  · skip
                    refine r_bipush C (nI 9) d_Mo_shape_175 (by decide) ?_
                    refine r_iret C E d_Mo_shape_177 (by first | decide | omega | (simp only [rmk]; omega)) (by first | decide | omega | (simp only [rmk]; omega)) ?_
                    exact ⟨by simp only [shapeM, c_10, c_32, c_51, c_68, c_85, c_107, c_125, c_148, c_172, Bool.false_eq_true, if_true, if_false]; rfl, rfl⟩
                · skip
                  refine r_bipush C (nI 8) d_Mo_shape_151 (by decide) ?_
                  refine r_iret C E d_Mo_shape_153 (by first | decide | omega | (simp only [rmk]; omega)) (by first | decide | omega | (simp only [rmk]; omega)) ?_
                  exact ⟨by simp only [shapeM, c_10, c_32, c_51, c_68, c_85, c_107, c_125, c_148, Bool.false_eq_true, if_true, if_false]; rfl, rfl⟩
              · skip
                refine r_bipush C (nI 7) d_Mo_shape_128 (by decide) ?_
                refine r_iret C E d_Mo_shape_130 (by first | decide | omega | (simp only [rmk]; omega)) (by first | decide | omega | (simp only [rmk]; omega)) ?_
                exact ⟨by simp only [shapeM, c_10, c_32, c_51, c_68, c_85, c_107, c_125, Bool.false_eq_true, if_true, if_false]; rfl, rfl⟩
            · skip
              refine r_bipush C (nI 6) d_Mo_shape_110 (by decide) ?_
              refine r_iret C E d_Mo_shape_112 (by first | decide | omega | (simp only [rmk]; omega)) (by first | decide | omega | (simp only [rmk]; omega)) ?_
              exact ⟨by simp only [shapeM, c_10, c_32, c_51, c_68, c_85, c_107, Bool.false_eq_true, if_true, if_false]; rfl, rfl⟩
          · skip
            refine r_iconst C (nI 5) d_Mo_shape_88 (by decide) ?_
            refine r_iret C E d_Mo_shape_89 (by first | decide | omega | (simp only [rmk]; omega)) (by first | decide | omega | (simp only [rmk]; omega)) ?_
            exact ⟨by simp only [shapeM, c_10, c_32, c_51, c_68, c_85, Bool.false_eq_true, if_true, if_false]; rfl, rfl⟩
        · skip
          refine r_iconst C (nI 4) d_Mo_shape_71 (by decide) ?_
          refine r_iret C E d_Mo_shape_72 (by first | decide | omega | (simp only [rmk]; omega)) (by first | decide | omega | (simp only [rmk]; omega)) ?_
          exact ⟨by simp only [shapeM, c_10, c_32, c_51, c_68, Bool.false_eq_true, if_true, if_false]; rfl, rfl⟩
      · skip
        refine r_iconst C (nI 3) d_Mo_shape_54 (by decide) ?_
        refine r_iret C E d_Mo_shape_55 (by first | decide | omega | (simp only [rmk]; omega)) (by first | decide | omega | (simp only [rmk]; omega)) ?_
        exact ⟨by simp only [shapeM, c_10, c_32, c_51, Bool.false_eq_true, if_true, if_false]; rfl, rfl⟩
    · skip
      refine r_iconst C (nI 2) d_Mo_shape_35 (by decide) ?_
      refine r_iret C E d_Mo_shape_36 (by first | decide | omega | (simp only [rmk]; omega)) (by first | decide | omega | (simp only [rmk]; omega)) ?_
      exact ⟨by simp only [shapeM, c_10, c_32, Bool.false_eq_true, if_true, if_false]; rfl, rfl⟩
  · skip
    refine r_iconst C (nI 1) d_Mo_shape_13 (by decide) ?_
    refine r_iret C E d_Mo_shape_14 (by first | decide | omega | (simp only [rmk]; omega)) (by first | decide | omega | (simp only [rmk]; omega)) ?_
    exact ⟨by simp only [shapeM, c_10, Bool.false_eq_true, if_true, if_false]; rfl, rfl⟩

set_option maxHeartbeats 4000000 in
set_option maxRecDepth 100000 in
theorem c_Mo_filter (g : GG) (l : Launch) {m0 : Nat} {ad : Nat → Nat} {qth : Int32} {qsz : Int32} {qtk : Int32} {qde : Int32} {qru : Int32} {qat : Int32} {qva : Int32} {qwr : Int32} {qop : Int32} {qwi : Int32} {qhe : Int32} {qrw : Int32} {qma : Int32} {qir : Bool} {qiu : Bool} {so : Nat} {sta : Nat} {en : Nat} {T : Nat → Nat}  (hT : ∀ j, T j < 256) (hso : so < 2 ^ 31) (h1 : so = 1 → sta ≤ en ∧ en ≤ 2000 ∧ ∀ i, sta ≤ i → i < en → 97 ≤ T i ∧ T i ≤ 122) : Cn g l y_Mo_filter b_Mo_filter 1 (some .int) (rmk 2 0 0 52) [.ref m0] ([(m0, .inr (9, MO ad qth qsz (bI qir) qtk qde qru qat (nI en) (nI so) (nI sta) qva qwr qop (bI qiu) qwi qhe qrw qma)), ((ad 2), .inl (g.2.1 0, 2000, .inl (aI T)))]) (fun (r0 : Option Value) (w0 : va_W) => r0 = some (.int (oI (filterM T so sta en))) ∧ w0 = [(m0, .inr (9, MO ad qth qsz (bI qir) qtk qde qru qat (nI en) (nI so) (nI sta) qva qwr qop (bI qiu) qwi qhe qrw qma)), ((ad 2), .inl (g.2.1 0, 2000, .inl (aI T)))]) := by
  refine Cn.of R_Mo [(0, .ref m0)] (by decide) rfl (Nat.le_of_ble_eq_true rfl) rfl ?_
  intro x A Q hR hXl hin C E
  subst hXl
  refine r_aload_n C 0 d_Mo_filter_0 rfl rfl ?_
  refine r_bipush C (nI 111) d_Mo_filter_1 (by decide) ?_
  refine r_bipush C (nI 100) d_Mo_filter_3 (by decide) ?_
  refine r_bipush C (nI 100) d_Mo_filter_5 (by decide) ?_
  refine j_callV C (c_Mo_is3 g (xl x) (m0 := m0) (ad := ad) (qth := qth) (qsz := qsz) (qtk := qtk) (qde := qde) (qru := qru) (qat := qat) (qva := qva) (qwr := qwr) (qop := qop) (qwi := qwi) (qhe := qhe) (qrw := qrw) (qma := qma) (qir := qir) (qiu := qiu) (so := so) (sta := sta) (en := en) (T := T) (a := 111) (b := 100) (c := 100) (by first | assumption | rfl | omega) (by first | assumption | rfl | omega) (by first | assumption | rfl | omega) (by first | assumption | rfl | omega) (by first | assumption | rfl | omega) (by first | assumption | rfl | omega)) (Sp.of (wr := []) [0, 1] [] rfl rfl rfl rfl (by decide)) d_Mo_filter_7 lk_Mo_137 mw_Mo_is3 vw_Mo_is3 (q0 := 0) rfl rfl (fit_of hR (by first | decide | (simp only [rmk]; omega)) (by first | decide | (simp only [rmk]; omega)) (by first | decide | (simp only [rmk]; omega)) (by first | decide | (simp only [rmk]; omega))) rfl (cat8 (Nat.le_of_ble_eq_true rfl)) (As := [.int (nI 111), .int (nI 100), .int (nI 100)]) (rest := []) rfl (fun r_7 w_7 hp_7 => ?_)
  obtain ⟨rfl, rfl⟩ := hp_7
  refine r_after (ws' := [(m0, .inr (9, MO ad qth qsz (bI qir) qtk qde qru qat (nI en) (nI so) (nI sta) qva qwr qop (bI qiu) qwi qhe qrw qma)), ((ad 2), .inl (g.2.1 0, 2000, .inl (aI T)))]) (st' := [.int (bI (isWm T so sta en (cod 0 0 0 (111 - 96) (100 - 96) (100 - 96)) 0))]) (n1 := 0) (n2 := 0) [0, 1] rfl rfl rfl rfl rfl ?_
  refine r_bif_eq C 16 d_Mo_filter_10 (by decide) (fun c_10 => ?_) (fun c_10 => ?_)
  · skip
    refine r_aload_n C 0 d_Mo_filter_16 rfl rfl ?_
    refine r_bipush C (nI 101) d_Mo_filter_17 (by decide) ?_
    refine r_bipush C (nI 118) d_Mo_filter_19 (by decide) ?_
    refine r_bipush C (nI 101) d_Mo_filter_21 (by decide) ?_
    refine r_bipush C (nI 110) d_Mo_filter_23 (by decide) ?_
    refine j_callV C (c_Mo_is4 g (xl x) (m0 := m0) (ad := ad) (qth := qth) (qsz := qsz) (qtk := qtk) (qde := qde) (qru := qru) (qat := qat) (qva := qva) (qwr := qwr) (qop := qop) (qwi := qwi) (qhe := qhe) (qrw := qrw) (qma := qma) (qir := qir) (qiu := qiu) (so := so) (sta := sta) (en := en) (T := T) (a := 101) (b := 118) (c := 101) (d := 110) (by first | assumption | rfl | omega) (by first | assumption | rfl | omega) (by first | assumption | rfl | omega) (by first | assumption | rfl | omega) (by first | assumption | rfl | omega) (by first | assumption | rfl | omega) (by first | assumption | rfl | omega)) (Sp.of (wr := []) [0, 1] [] rfl rfl rfl rfl (by decide)) d_Mo_filter_25 lk_Mo_149 mw_Mo_is4 vw_Mo_is4 (q0 := 0) rfl rfl (fit_of hR (by first | decide | (simp only [rmk]; omega)) (by first | decide | (simp only [rmk]; omega)) (by first | decide | (simp only [rmk]; omega)) (by first | decide | (simp only [rmk]; omega))) rfl (cat8 (Nat.le_of_ble_eq_true rfl)) (As := [.int (nI 101), .int (nI 118), .int (nI 101), .int (nI 110)]) (rest := []) rfl (fun r_25 w_25 hp_25 => ?_)
    obtain ⟨rfl, rfl⟩ := hp_25
    refine r_after (ws' := [(m0, .inr (9, MO ad qth qsz (bI qir) qtk qde qru qat (nI en) (nI so) (nI sta) qva qwr qop (bI qiu) qwi qhe qrw qma)), ((ad 2), .inl (g.2.1 0, 2000, .inl (aI T)))]) (st' := [.int (bI (isWm T so sta en (cod 0 0 (101 - 96) (118 - 96) (101 - 96) (110 - 96)) 0))]) (n1 := 0) (n2 := 0) [0, 1] rfl rfl rfl rfl rfl ?_
    refine r_bif_eq C 34 d_Mo_filter_28 (by decide) (fun c_28 => ?_) (fun c_28 => ?_)
    · skip
      refine r_aload_n C 0 d_Mo_filter_34 rfl rfl ?_
      refine r_bipush C (nI 98) d_Mo_filter_35 (by decide) ?_
      refine r_bipush C (nI 111) d_Mo_filter_37 (by decide) ?_
      refine r_bipush C (nI 114) d_Mo_filter_39 (by decide) ?_
      refine r_bipush C (nI 100) d_Mo_filter_41 (by decide) ?_
      refine r_bipush C (nI 101) d_Mo_filter_43 (by decide) ?_
      refine r_bipush C (nI 114) d_Mo_filter_45 (by decide) ?_
      refine r_iconst C (nI 0) d_Mo_filter_47 (by decide) ?_
      refine j_callV C (c_Mo_is6 g (xl x) (m0 := m0) (ad := ad) (qth := qth) (qsz := qsz) (qtk := qtk) (qde := qde) (qru := qru) (qat := qat) (qva := qva) (qwr := qwr) (qop := qop) (qwi := qwi) (qhe := qhe) (qrw := qrw) (qma := qma) (qir := qir) (qiu := qiu) (so := so) (sta := sta) (en := en) (T := T) (a := 98) (b := 111) (c := 114) (d := 100) (e := 101) (f := 114) (lo := 0) (by first | assumption | rfl | omega) (by first | assumption | rfl | omega) (by first | assumption | rfl | omega) (by first | assumption | rfl | omega) (by first | assumption | rfl | omega) (by first | assumption | rfl | omega) (by first | assumption | rfl | omega) (by first | assumption | rfl | omega) (by first | assumption | rfl | omega) (by first | assumption | rfl | omega)) (Sp.of (wr := []) [0, 1] [] rfl rfl rfl rfl (by decide)) d_Mo_filter_48 lk_Mo_141 mw_Mo_is6 vw_Mo_is6 (q0 := 0) rfl rfl (fit_of hR (by first | decide | (simp only [rmk]; omega)) (by first | decide | (simp only [rmk]; omega)) (by first | decide | (simp only [rmk]; omega)) (by first | decide | (simp only [rmk]; omega))) rfl (cat8 (Nat.le_of_ble_eq_true rfl)) (As := [.int (nI 98), .int (nI 111), .int (nI 114), .int (nI 100), .int (nI 101), .int (nI 114), .int (nI 0)]) (rest := []) rfl (fun r_48 w_48 hp_48 => ?_)
      obtain ⟨rfl, rfl⟩ := hp_48
      refine r_after (ws' := [(m0, .inr (9, MO ad qth qsz (bI qir) qtk qde qru qat (nI en) (nI so) (nI sta) qva qwr qop (bI qiu) qwi qhe qrw qma)), ((ad 2), .inl (g.2.1 0, 2000, .inl (aI T)))]) (st' := [.int (bI (isWm T so sta en (cod (98 - 96) (111 - 96) (114 - 96) (100 - 96) (101 - 96) (114 - 96)) 0))]) (n1 := 0) (n2 := 0) [0, 1] rfl rfl rfl rfl rfl ?_
      refine r_bif_eq C 57 d_Mo_filter_51 (by decide) (fun c_51 => ?_) (fun c_51 => ?_)
      · skip
        refine r_aload_n C 0 d_Mo_filter_57 rfl rfl ?_
        refine r_bipush C (nI 105) d_Mo_filter_58 (by decide) ?_
        refine r_bipush C (nI 110) d_Mo_filter_60 (by decide) ?_
        refine r_bipush C (nI 110) d_Mo_filter_62 (by decide) ?_
        refine r_bipush C (nI 101) d_Mo_filter_64 (by decide) ?_
        refine r_bipush C (nI 114) d_Mo_filter_66 (by decide) ?_
        refine j_callV C (c_Mo_is5 g (xl x) (m0 := m0) (ad := ad) (qth := qth) (qsz := qsz) (qtk := qtk) (qde := qde) (qru := qru) (qat := qat) (qva := qva) (qwr := qwr) (qop := qop) (qwi := qwi) (qhe := qhe) (qrw := qrw) (qma := qma) (qir := qir) (qiu := qiu) (so := so) (sta := sta) (en := en) (T := T) (a := 105) (b := 110) (c := 110) (d := 101) (e := 114) (by first | assumption | rfl | omega) (by first | assumption | rfl | omega) (by first | assumption | rfl | omega) (by first | assumption | rfl | omega) (by first | assumption | rfl | omega) (by first | assumption | rfl | omega) (by first | assumption | rfl | omega) (by first | assumption | rfl | omega)) (Sp.of (wr := []) [0, 1] [] rfl rfl rfl rfl (by decide)) d_Mo_filter_68 lk_Mo_145 mw_Mo_is5 vw_Mo_is5 (q0 := 0) rfl rfl (fit_of hR (by first | decide | (simp only [rmk]; omega)) (by first | decide | (simp only [rmk]; omega)) (by first | decide | (simp only [rmk]; omega)) (by first | decide | (simp only [rmk]; omega))) rfl (cat8 (Nat.le_of_ble_eq_true rfl)) (As := [.int (nI 105), .int (nI 110), .int (nI 110), .int (nI 101), .int (nI 114)]) (rest := []) rfl (fun r_68 w_68 hp_68 => ?_)
        obtain ⟨rfl, rfl⟩ := hp_68
        refine r_after (ws' := [(m0, .inr (9, MO ad qth qsz (bI qir) qtk qde qru qat (nI en) (nI so) (nI sta) qva qwr qop (bI qiu) qwi qhe qrw qma)), ((ad 2), .inl (g.2.1 0, 2000, .inl (aI T)))]) (st' := [.int (bI (isWm T so sta en (cod 0 (105 - 96) (110 - 96) (110 - 96) (101 - 96) (114 - 96)) 0))]) (n1 := 0) (n2 := 0) [0, 1] rfl rfl rfl rfl rfl ?_
        refine r_bif_eq C 79 d_Mo_filter_71 (by decide) (fun c_71 => ?_) (fun c_71 => ?_)
        · skip
          refine r_iconst C ((-1)) d_Mo_filter_79 (by decide) ?_
          refine r_iret C E d_Mo_filter_80 (by first | decide | omega | (simp only [rmk]; omega)) (by first | decide | omega | (simp only [rmk]; omega)) ?_
          exact ⟨by simp only [filterM, c_10, c_28, c_51, c_71, Bool.false_eq_true, if_true, if_false]; rfl, rfl⟩
        · skip
          refine r_bipush C (nI 14) d_Mo_filter_74 (by decide) ?_
          refine r_goto C 80 d_Mo_filter_76 (by decide) ?_
          refine r_iret C E d_Mo_filter_80 (by first | decide | omega | (simp only [rmk]; omega)) (by first | decide | omega | (simp only [rmk]; omega)) ?_
          exact ⟨by simp only [filterM, c_10, c_28, c_51, c_71, Bool.false_eq_true, if_true, if_false]; rfl, rfl⟩
      · skip
        refine r_bipush C (nI 13) d_Mo_filter_54 (by decide) ?_
        refine r_iret C E d_Mo_filter_56 (by first | decide | omega | (simp only [rmk]; omega)) (by first | decide | omega | (simp only [rmk]; omega)) ?_
        exact ⟨by simp only [filterM, c_10, c_28, c_51, Bool.false_eq_true, if_true, if_false]; rfl, rfl⟩
    · skip
      refine r_bipush C (nI 12) d_Mo_filter_31 (by decide) ?_
      refine r_iret C E d_Mo_filter_33 (by first | decide | omega | (simp only [rmk]; omega)) (by first | decide | omega | (simp only [rmk]; omega)) ?_
      exact ⟨by simp only [filterM, c_10, c_28, Bool.false_eq_true, if_true, if_false]; rfl, rfl⟩
  · skip
    refine r_bipush C (nI 11) d_Mo_filter_13 (by decide) ?_
    refine r_iret C E d_Mo_filter_15 (by first | decide | omega | (simp only [rmk]; omega)) (by first | decide | omega | (simp only [rmk]; omega)) ?_
    exact ⟨by simp only [filterM, c_10, Bool.false_eq_true, if_true, if_false]; rfl, rfl⟩

set_option maxHeartbeats 4000000 in
set_option maxRecDepth 100000 in
theorem c_Mo_ruleKind (g : GG) (l : Launch) {m0 : Nat} {ad : Nat → Nat} {qth : Int32} {qsz : Int32} {qtk : Int32} {qde : Int32} {qru : Int32} {qat : Int32} {qva : Int32} {qwr : Int32} {qop : Int32} {qwi : Int32} {qhe : Int32} {qrw : Int32} {qma : Int32} {qir : Bool} {qiu : Bool} {so : Nat} {sta : Nat} {en : Nat} {T : Nat → Nat}  (hT : ∀ j, T j < 256) (hso : so < 2 ^ 31) (h1 : so = 1 → sta ≤ en ∧ en ≤ 2000 ∧ ∀ i, sta ≤ i → i < en → 97 ≤ T i ∧ T i ≤ 122) : Cn g l y_Mo_ruleKind b_Mo_ruleKind 1 (some .int) (rmk 2 0 0 52) [.ref m0] ([(m0, .inr (9, MO ad qth qsz (bI qir) qtk qde qru qat (nI en) (nI so) (nI sta) qva qwr qop (bI qiu) qwi qhe qrw qma)), ((ad 2), .inl (g.2.1 0, 2000, .inl (aI T)))]) (fun (r0 : Option Value) (w0 : va_W) => r0 = some (.int (oI (kindM T so sta en))) ∧ w0 = [(m0, .inr (9, MO ad qth qsz (bI qir) qtk qde qru qat (nI en) (nI so) (nI sta) qva qwr qop (bI qiu) qwi qhe qrw qma)), ((ad 2), .inl (g.2.1 0, 2000, .inl (aI T)))]) := by
  refine Cn.of R_Mo [(0, .ref m0)] (by decide) rfl (Nat.le_of_ble_eq_true rfl) rfl ?_
  intro x A Q hR hXl hin C E
  subst hXl
  refine r_aload_n C 0 d_Mo_ruleKind_0 rfl rfl ?_
  refine r_bipush C (nI 117) d_Mo_ruleKind_1 (by decide) ?_
  refine r_bipush C (nI 110) d_Mo_ruleKind_3 (by decide) ?_
  refine r_bipush C (nI 108) d_Mo_ruleKind_5 (by decide) ?_
  refine r_bipush C (nI 105) d_Mo_ruleKind_7 (by decide) ?_
  refine r_bipush C (nI 107) d_Mo_ruleKind_9 (by decide) ?_
  refine r_bipush C (nI 101) d_Mo_ruleKind_11 (by decide) ?_
  refine r_iconst C (nI 0) d_Mo_ruleKind_13 (by decide) ?_
  refine j_callV C (c_Mo_is6 g (xl x) (m0 := m0) (ad := ad) (qth := qth) (qsz := qsz) (qtk := qtk) (qde := qde) (qru := qru) (qat := qat) (qva := qva) (qwr := qwr) (qop := qop) (qwi := qwi) (qhe := qhe) (qrw := qrw) (qma := qma) (qir := qir) (qiu := qiu) (so := so) (sta := sta) (en := en) (T := T) (a := 117) (b := 110) (c := 108) (d := 105) (e := 107) (f := 101) (lo := 0) (by first | assumption | rfl | omega) (by first | assumption | rfl | omega) (by first | assumption | rfl | omega) (by first | assumption | rfl | omega) (by first | assumption | rfl | omega) (by first | assumption | rfl | omega) (by first | assumption | rfl | omega) (by first | assumption | rfl | omega) (by first | assumption | rfl | omega) (by first | assumption | rfl | omega)) (Sp.of (wr := []) [0, 1] [] rfl rfl rfl rfl (by decide)) d_Mo_ruleKind_14 lk_Mo_141 mw_Mo_is6 vw_Mo_is6 (q0 := 0) rfl rfl (fit_of hR (by first | decide | (simp only [rmk]; omega)) (by first | decide | (simp only [rmk]; omega)) (by first | decide | (simp only [rmk]; omega)) (by first | decide | (simp only [rmk]; omega))) rfl (cat8 (Nat.le_of_ble_eq_true rfl)) (As := [.int (nI 117), .int (nI 110), .int (nI 108), .int (nI 105), .int (nI 107), .int (nI 101), .int (nI 0)]) (rest := []) rfl (fun r_14 w_14 hp_14 => ?_)
  obtain ⟨rfl, rfl⟩ := hp_14
  refine r_after (ws' := [(m0, .inr (9, MO ad qth qsz (bI qir) qtk qde qru qat (nI en) (nI so) (nI sta) qva qwr qop (bI qiu) qwi qhe qrw qma)), ((ad 2), .inl (g.2.1 0, 2000, .inl (aI T)))]) (st' := [.int (bI (isWm T so sta en (cod (117 - 96) (110 - 96) (108 - 96) (105 - 96) (107 - 96) (101 - 96)) 0))]) (n1 := 0) (n2 := 0) [0, 1] rfl rfl rfl rfl rfl ?_
  refine r_bif_eq C 22 d_Mo_ruleKind_17 (by decide) (fun c_17 => ?_) (fun c_17 => ?_)
  · skip
    refine r_aload_n C 0 d_Mo_ruleKind_22 rfl rfl ?_
    refine r_bipush C (nI 101) d_Mo_ruleKind_23 (by decide) ?_
    refine r_bipush C (nI 113) d_Mo_ruleKind_25 (by decide) ?_
    refine r_bipush C (nI 117) d_Mo_ruleKind_27 (by decide) ?_
    refine r_bipush C (nI 97) d_Mo_ruleKind_29 (by decide) ?_
    refine r_bipush C (nI 108) d_Mo_ruleKind_31 (by decide) ?_
    refine j_callV C (c_Mo_is5 g (xl x) (m0 := m0) (ad := ad) (qth := qth) (qsz := qsz) (qtk := qtk) (qde := qde) (qru := qru) (qat := qat) (qva := qva) (qwr := qwr) (qop := qop) (qwi := qwi) (qhe := qhe) (qrw := qrw) (qma := qma) (qir := qir) (qiu := qiu) (so := so) (sta := sta) (en := en) (T := T) (a := 101) (b := 113) (c := 117) (d := 97) (e := 108) (by first | assumption | rfl | omega) (by first | assumption | rfl | omega) (by first | assumption | rfl | omega) (by first | assumption | rfl | omega) (by first | assumption | rfl | omega) (by first | assumption | rfl | omega) (by first | assumption | rfl | omega) (by first | assumption | rfl | omega)) (Sp.of (wr := []) [0, 1] [] rfl rfl rfl rfl (by decide)) d_Mo_ruleKind_33 lk_Mo_145 mw_Mo_is5 vw_Mo_is5 (q0 := 0) rfl rfl (fit_of hR (by first | decide | (simp only [rmk]; omega)) (by first | decide | (simp only [rmk]; omega)) (by first | decide | (simp only [rmk]; omega)) (by first | decide | (simp only [rmk]; omega))) rfl (cat8 (Nat.le_of_ble_eq_true rfl)) (As := [.int (nI 101), .int (nI 113), .int (nI 117), .int (nI 97), .int (nI 108)]) (rest := []) rfl (fun r_33 w_33 hp_33 => ?_)
    obtain ⟨rfl, rfl⟩ := hp_33
    refine r_after (ws' := [(m0, .inr (9, MO ad qth qsz (bI qir) qtk qde qru qat (nI en) (nI so) (nI sta) qva qwr qop (bI qiu) qwi qhe qrw qma)), ((ad 2), .inl (g.2.1 0, 2000, .inl (aI T)))]) (st' := [.int (bI (isWm T so sta en (cod 0 (101 - 96) (113 - 96) (117 - 96) (97 - 96) (108 - 96)) 0))]) (n1 := 0) (n2 := 0) [0, 1] rfl rfl rfl rfl rfl ?_
    refine r_bif_eq C 41 d_Mo_ruleKind_36 (by decide) (fun c_36 => ?_) (fun c_36 => ?_)
    · skip
      refine r_aload_n C 0 d_Mo_ruleKind_41 rfl rfl ?_
      refine r_bipush C (nI 114) d_Mo_ruleKind_42 (by decide) ?_
      refine r_bipush C (nI 105) d_Mo_ruleKind_44 (by decide) ?_
      refine r_bipush C (nI 115) d_Mo_ruleKind_46 (by decide) ?_
      refine r_bipush C (nI 105) d_Mo_ruleKind_48 (by decide) ?_
      refine r_bipush C (nI 110) d_Mo_ruleKind_50 (by decide) ?_
      refine r_bipush C (nI 103) d_Mo_ruleKind_52 (by decide) ?_
      refine r_iconst C (nI 0) d_Mo_ruleKind_54 (by decide) ?_
      refine j_callV C (c_Mo_is6 g (xl x) (m0 := m0) (ad := ad) (qth := qth) (qsz := qsz) (qtk := qtk) (qde := qde) (qru := qru) (qat := qat) (qva := qva) (qwr := qwr) (qop := qop) (qwi := qwi) (qhe := qhe) (qrw := qrw) (qma := qma) (qir := qir) (qiu := qiu) (so := so) (sta := sta) (en := en) (T := T) (a := 114) (b := 105) (c := 115) (d := 105) (e := 110) (f := 103) (lo := 0) (by first | assumption | rfl | omega) (by first | assumption | rfl | omega) (by first | assumption | rfl | omega) (by first | assumption | rfl | omega) (by first | assumption | rfl | omega) (by first | assumption | rfl | omega) (by first | assumption | rfl | omega) (by first | assumption | rfl | omega) (by first | assumption | rfl | omega) (by first | assumption | rfl | omega)) (Sp.of (wr := []) [0, 1] [] rfl rfl rfl rfl (by decide)) d_Mo_ruleKind_55 lk_Mo_141 mw_Mo_is6 vw_Mo_is6 (q0 := 0) rfl rfl (fit_of hR (by first | decide | (simp only [rmk]; omega)) (by first | decide | (simp only [rmk]; omega)) (by first | decide | (simp only [rmk]; omega)) (by first | decide | (simp only [rmk]; omega))) rfl (cat8 (Nat.le_of_ble_eq_true rfl)) (As := [.int (nI 114), .int (nI 105), .int (nI 115), .int (nI 105), .int (nI 110), .int (nI 103), .int (nI 0)]) (rest := []) rfl (fun r_55 w_55 hp_55 => ?_)
      obtain ⟨rfl, rfl⟩ := hp_55
      refine r_after (ws' := [(m0, .inr (9, MO ad qth qsz (bI qir) qtk qde qru qat (nI en) (nI so) (nI sta) qva qwr qop (bI qiu) qwi qhe qrw qma)), ((ad 2), .inl (g.2.1 0, 2000, .inl (aI T)))]) (st' := [.int (bI (isWm T so sta en (cod (114 - 96) (105 - 96) (115 - 96) (105 - 96) (110 - 96) (103 - 96)) 0))]) (n1 := 0) (n2 := 0) [0, 1] rfl rfl rfl rfl rfl ?_
      refine r_bif_eq C 63 d_Mo_ruleKind_58 (by decide) (fun c_58 => ?_) (fun c_58 => ?_)
      · skip
        refine r_aload_n C 0 d_Mo_ruleKind_63 rfl rfl ?_
        refine r_bipush C (nI 102) d_Mo_ruleKind_64 (by decide) ?_
        refine r_bipush C (nI 97) d_Mo_ruleKind_66 (by decide) ?_
        refine r_bipush C (nI 108) d_Mo_ruleKind_68 (by decide) ?_
        refine r_bipush C (nI 108) d_Mo_ruleKind_70 (by decide) ?_
        refine r_bipush C (nI 105) d_Mo_ruleKind_72 (by decide) ?_
        refine r_bipush C (nI 110) d_Mo_ruleKind_74 (by decide) ?_
        refine r_bipush C (nI 7) d_Mo_ruleKind_76 (by decide) ?_
        refine j_callV C (c_Mo_is6 g (xl x) (m0 := m0) (ad := ad) (qth := qth) (qsz := qsz) (qtk := qtk) (qde := qde) (qru := qru) (qat := qat) (qva := qva) (qwr := qwr) (qop := qop) (qwi := qwi) (qhe := qhe) (qrw := qrw) (qma := qma) (qir := qir) (qiu := qiu) (so := so) (sta := sta) (en := en) (T := T) (a := 102) (b := 97) (c := 108) (d := 108) (e := 105) (f := 110) (lo := 7) (by first | assumption | rfl | omega) (by first | assumption | rfl | omega) (by first | assumption | rfl | omega) (by first | assumption | rfl | omega) (by first | assumption | rfl | omega) (by first | assumption | rfl | omega) (by first | assumption | rfl | omega) (by first | assumption | rfl | omega) (by first | assumption | rfl | omega) (by first | assumption | rfl | omega)) (Sp.of (wr := []) [0, 1] [] rfl rfl rfl rfl (by decide)) d_Mo_ruleKind_78 lk_Mo_141 mw_Mo_is6 vw_Mo_is6 (q0 := 0) rfl rfl (fit_of hR (by first | decide | (simp only [rmk]; omega)) (by first | decide | (simp only [rmk]; omega)) (by first | decide | (simp only [rmk]; omega)) (by first | decide | (simp only [rmk]; omega))) rfl (cat8 (Nat.le_of_ble_eq_true rfl)) (As := [.int (nI 102), .int (nI 97), .int (nI 108), .int (nI 108), .int (nI 105), .int (nI 110), .int (nI 7)]) (rest := []) rfl (fun r_78 w_78 hp_78 => ?_)
        obtain ⟨rfl, rfl⟩ := hp_78
        refine r_after (ws' := [(m0, .inr (9, MO ad qth qsz (bI qir) qtk qde qru qat (nI en) (nI so) (nI sta) qva qwr qop (bI qiu) qwi qhe qrw qma)), ((ad 2), .inl (g.2.1 0, 2000, .inl (aI T)))]) (st' := [.int (bI (isWm T so sta en (cod (102 - 96) (97 - 96) (108 - 96) (108 - 96) (105 - 96) (110 - 96)) 7))]) (n1 := 0) (n2 := 0) [0, 1] rfl rfl rfl rfl rfl ?_
        refine r_bif_eq C 86 d_Mo_ruleKind_81 (by decide) (fun c_81 => ?_) (fun c_81 => ?_)
        · skip
          refine r_aload_n C 0 d_Mo_ruleKind_86 rfl rfl ?_
          refine r_bipush C (nI 115) d_Mo_ruleKind_87 (by decide) ?_
          refine r_bipush C (nI 117) d_Mo_ruleKind_89 (by decide) ?_
          refine r_bipush C (nI 109) d_Mo_ruleKind_91 (by decide) ?_
          refine j_callV C (c_Mo_is3 g (xl x) (m0 := m0) (ad := ad) (qth := qth) (qsz := qsz) (qtk := qtk) (qde := qde) (qru := qru) (qat := qat) (qva := qva) (qwr := qwr) (qop := qop) (qwi := qwi) (qhe := qhe) (qrw := qrw) (qma := qma) (qir := qir) (qiu := qiu) (so := so) (sta := sta) (en := en) (T := T) (a := 115) (b := 117) (c := 109) (by first | assumption | rfl | omega) (by first | assumption | rfl | omega) (by first | assumption | rfl | omega) (by first | assumption | rfl | omega) (by first | assumption | rfl | omega) (by first | assumption | rfl | omega)) (Sp.of (wr := []) [0, 1] [] rfl rfl rfl rfl (by decide)) d_Mo_ruleKind_93 lk_Mo_137 mw_Mo_is3 vw_Mo_is3 (q0 := 0) rfl rfl (fit_of hR (by first | decide | (simp only [rmk]; omega)) (by first | decide | (simp only [rmk]; omega)) (by first | decide | (simp only [rmk]; omega)) (by first | decide | (simp only [rmk]; omega))) rfl (cat8 (Nat.le_of_ble_eq_true rfl)) (As := [.int (nI 115), .int (nI 117), .int (nI 109)]) (rest := []) rfl (fun r_93 w_93 hp_93 => ?_)
          obtain ⟨rfl, rfl⟩ := hp_93
          refine r_after (ws' := [(m0, .inr (9, MO ad qth qsz (bI qir) qtk qde qru qat (nI en) (nI so) (nI sta) qva qwr qop (bI qiu) qwi qhe qrw qma)), ((ad 2), .inl (g.2.1 0, 2000, .inl (aI T)))]) (st' := [.int (bI (isWm T so sta en (cod 0 0 0 (115 - 96) (117 - 96) (109 - 96)) 0))]) (n1 := 0) (n2 := 0) [0, 1] rfl rfl rfl rfl rfl ?_
          refine r_bif_eq C 101 d_Mo_ruleKind_96 (by decide) (fun c_96 => ?_) (fun c_96 => ?_)
          · skip
            refine r_aload_n C 0 d_Mo_ruleKind_101 rfl rfl ?_
            refine r_bipush C (nI 99) d_Mo_ruleKind_102 (by decide) ?_
            refine r_bipush C (nI 111) d_Mo_ruleKind_104 (by decide) ?_
            refine r_bipush C (nI 117) d_Mo_ruleKind_106 (by decide) ?_
            refine r_bipush C (nI 110) d_Mo_ruleKind_108 (by decide) ?_
            refine r_bipush C (nI 116) d_Mo_ruleKind_110 (by decide) ?_
            refine j_callV C (c_Mo_is5 g (xl x) (m0 := m0) (ad := ad) (qth := qth) (qsz := qsz) (qtk := qtk) (qde := qde) (qru := qru) (qat := qat) (qva := qva) (qwr := qwr) (qop := qop) (qwi := qwi) (qhe := qhe) (qrw := qrw) (qma := qma) (qir := qir) (qiu := qiu) (so := so) (sta := sta) (en := en) (T := T) (a := 99) (b := 111) (c := 117) (d := 110) (e := 116) (by first | assumption | rfl | omega) (by first | assumption | rfl | omega) (by first | assumption | rfl | omega) (by first | assumption | rfl | omega) (by first | assumption | rfl | omega) (by first | assumption | rfl | omega) (by first | assumption | rfl | omega) (by first | assumption | rfl | omega)) (Sp.of (wr := []) [0, 1] [] rfl rfl rfl rfl (by decide)) d_Mo_ruleKind_112 lk_Mo_145 mw_Mo_is5 vw_Mo_is5 (q0 := 0) rfl rfl (fit_of hR (by first | decide | (simp only [rmk]; omega)) (by first | decide | (simp only [rmk]; omega)) (by first | decide | (simp only [rmk]; omega)) (by first | decide | (simp only [rmk]; omega))) rfl (cat8 (Nat.le_of_ble_eq_true rfl)) (As := [.int (nI 99), .int (nI 111), .int (nI 117), .int (nI 110), .int (nI 116)]) (rest := []) rfl (fun r_112 w_112 hp_112 => ?_)
            obtain ⟨rfl, rfl⟩ := hp_112
            refine r_after (ws' := [(m0, .inr (9, MO ad qth qsz (bI qir) qtk qde qru qat (nI en) (nI so) (nI sta) qva qwr qop (bI qiu) qwi qhe qrw qma)), ((ad 2), .inl (g.2.1 0, 2000, .inl (aI T)))]) (st' := [.int (bI (isWm T so sta en (cod 0 (99 - 96) (111 - 96) (117 - 96) (110 - 96) (116 - 96)) 0))]) (n1 := 0) (n2 := 0) [0, 1] rfl rfl rfl rfl rfl ?_
            refine r_bif_eq C 120 d_Mo_ruleKind_115 (by decide) (fun c_115 => ?_) (fun c_115 => ?_)
            · skip
              refine r_aload_n C 0 d_Mo_ruleKind_120 rfl rfl ?_
              refine r_bipush C (nI 103) d_Mo_ruleKind_121 (by decide) ?_
              refine r_bipush C (nI 105) d_Mo_ruleKind_123 (by decide) ?_
              refine r_bipush C (nI 118) d_Mo_ruleKind_125 (by decide) ?_
              refine r_bipush C (nI 101) d_Mo_ruleKind_127 (by decide) ?_
              refine r_bipush C (nI 110) d_Mo_ruleKind_129 (by decide) ?_
              refine j_callV C (c_Mo_is5 g (xl x) (m0 := m0) (ad := ad) (qth := qth) (qsz := qsz) (qtk := qtk) (qde := qde) (qru := qru) (qat := qat) (qva := qva) (qwr := qwr) (qop := qop) (qwi := qwi) (qhe := qhe) (qrw := qrw) (qma := qma) (qir := qir) (qiu := qiu) (so := so) (sta := sta) (en := en) (T := T) (a := 103) (b := 105) (c := 118) (d := 101) (e := 110) (by first | assumption | rfl | omega) (by first | assumption | rfl | omega) (by first | assumption | rfl | omega) (by first | assumption | rfl | omega) (by first | assumption | rfl | omega) (by first | assumption | rfl | omega) (by first | assumption | rfl | omega) (by first | assumption | rfl | omega)) (Sp.of (wr := []) [0, 1] [] rfl rfl rfl rfl (by decide)) d_Mo_ruleKind_131 lk_Mo_145 mw_Mo_is5 vw_Mo_is5 (q0 := 0) rfl rfl (fit_of hR (by first | decide | (simp only [rmk]; omega)) (by first | decide | (simp only [rmk]; omega)) (by first | decide | (simp only [rmk]; omega)) (by first | decide | (simp only [rmk]; omega))) rfl (cat8 (Nat.le_of_ble_eq_true rfl)) (As := [.int (nI 103), .int (nI 105), .int (nI 118), .int (nI 101), .int (nI 110)]) (rest := []) rfl (fun r_131 w_131 hp_131 => ?_)
              obtain ⟨rfl, rfl⟩ := hp_131
              refine r_after (ws' := [(m0, .inr (9, MO ad qth qsz (bI qir) qtk qde qru qat (nI en) (nI so) (nI sta) qva qwr qop (bI qiu) qwi qhe qrw qma)), ((ad 2), .inl (g.2.1 0, 2000, .inl (aI T)))]) (st' := [.int (bI (isWm T so sta en (cod 0 (103 - 96) (105 - 96) (118 - 96) (101 - 96) (110 - 96)) 0))]) (n1 := 0) (n2 := 0) [0, 1] rfl rfl rfl rfl rfl ?_
              refine r_bif_eq C 142 d_Mo_ruleKind_134 (by decide) (fun c_134 => ?_) (fun c_134 => ?_)
              · skip
                refine r_iconst C ((-1)) d_Mo_ruleKind_142 (by decide) ?_
                refine r_iret C E d_Mo_ruleKind_143 (by first | decide | omega | (simp only [rmk]; omega)) (by first | decide | omega | (simp only [rmk]; omega)) ?_
                exact ⟨by simp only [kindM, c_17, c_36, c_58, c_81, c_96, c_115, c_134, Bool.false_eq_true, if_true, if_false]; rfl, rfl⟩
              · skip
                refine r_bipush C (nI 6) d_Mo_ruleKind_137 (by decide) ?_
                refine r_goto C 143 d_Mo_ruleKind_139 (by decide) ?_
                refine r_iret C E d_Mo_ruleKind_143 (by first | decide | omega | (simp only [rmk]; omega)) (by first | decide | omega | (simp only [rmk]; omega)) ?_
                exact ⟨by simp only [kindM, c_17, c_36, c_58, c_81, c_96, c_115, c_134, Bool.false_eq_true, if_true, if_false]; rfl, rfl⟩
            · skip
              refine r_iconst C (nI 5) d_Mo_ruleKind_118 (by decide) ?_
              refine r_iret C E d_Mo_ruleKind_119 (by first | decide | omega | (simp only [rmk]; omega)) (by first | decide | omega | (simp only [rmk]; omega)) ?_
              exact ⟨by simp only [kindM, c_17, c_36, c_58, c_81, c_96, c_115, Bool.false_eq_true, if_true, if_false]; rfl, rfl⟩
          · skip
            refine r_iconst C (nI 4) d_Mo_ruleKind_99 (by decide) ?_
            refine r_iret C E d_Mo_ruleKind_100 (by first | decide | omega | (simp only [rmk]; omega)) (by first | decide | omega | (simp only [rmk]; omega)) ?_
            exact ⟨by simp only [kindM, c_17, c_36, c_58, c_81, c_96, Bool.false_eq_true, if_true, if_false]; rfl, rfl⟩
        · skip
          refine r_iconst C (nI 3) d_Mo_ruleKind_84 (by decide) ?_
          refine r_iret C E d_Mo_ruleKind_85 (by first | decide | omega | (simp only [rmk]; omega)) (by first | decide | omega | (simp only [rmk]; omega)) ?_
          exact ⟨by simp only [kindM, c_17, c_36, c_58, c_81, Bool.false_eq_true, if_true, if_false]; rfl, rfl⟩
      · skip
        refine r_iconst C (nI 2) d_Mo_ruleKind_61 (by decide) ?_
        refine r_iret C E d_Mo_ruleKind_62 (by first | decide | omega | (simp only [rmk]; omega)) (by first | decide | omega | (simp only [rmk]; omega)) ?_
        exact ⟨by simp only [kindM, c_17, c_36, c_58, Bool.false_eq_true, if_true, if_false]; rfl, rfl⟩
    · skip
      refine r_iconst C (nI 1) d_Mo_ruleKind_39 (by decide) ?_
      refine r_iret C E d_Mo_ruleKind_40 (by first | decide | omega | (simp only [rmk]; omega)) (by first | decide | omega | (simp only [rmk]; omega)) ?_
      exact ⟨by simp only [kindM, c_17, c_36, Bool.false_eq_true, if_true, if_false]; rfl, rfl⟩
  · skip
    refine r_iconst C (nI 0) d_Mo_ruleKind_20 (by decide) ?_
    refine r_iret C E d_Mo_ruleKind_21 (by first | decide | omega | (simp only [rmk]; omega)) (by first | decide | omega | (simp only [rmk]; omega)) ?_
    exact ⟨by simp only [kindM, c_17, Bool.false_eq_true, if_true, if_false]; rfl, rfl⟩
