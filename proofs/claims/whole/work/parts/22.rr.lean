/-- the whole text is read -/
def parseP (T : Nat → Nat) (k : Nat) : Bool × PSt × Nat := pG (pS T k 40 []) T k ([], 0, tokAt T k 0 0, [])
def ReadRes (ok : Bool) (rules : List RuleV) (dp : Nat) (tk : Tok) (ou : List Nat) (rv : Int32) (pr : Bool) (rb pb db : Nat) : Prop :=
  (ok = true ∧ rv = nI rules.length ∧ pr = true ∧ rb = rules.length ∧ pb = ou.length ∧ db = dp) ∨ (ok = false ∧ rv = (-1) - nI tk.2.1 ∧ pr = false ∧ rb = 0 ∧ pb = 0 ∧ db = 0)

set_option maxRecDepth 100000 in
theorem ao_Layer : Cond.arrayOver (.object R_Layer) ∈ NW := (nw (i := 257) rfl rfl)
set_option maxRecDepth 100000 in
theorem ci_RR : CI 0 R_RR F_RR 5 t_RR := ⟨rfl, ui 5 (by decide +kernel), by decide +kernel, by decide +kernel⟩
set_option maxRecDepth 100000 in
theorem ci_Unroller : CI 8 R_Unroller F_Unroller 10 t_Unroller := ⟨rfl, ui 10 (by decide +kernel), by decide +kernel, by decide +kernel⟩
set_option maxRecDepth 100000 in
theorem cl_RR_16 : Cond.classLink R_RR 16 R_Book ∈ GW := (gw (i := 122) rfl rfl)
set_option maxRecDepth 100000 in
theorem cl_RR_23 : Cond.classLink R_RR 23 R_Parser ∈ GW := (gw (i := 154) rfl rfl)
set_option maxRecDepth 100000 in
theorem cl_RR_32 : Cond.classLink R_RR 32 R_RowStore ∈ GW := (gw (i := 220) rfl rfl)
set_option maxRecDepth 100000 in
theorem cl_RR_39 : Cond.classLink R_RR 39 R_Unroller ∈ GW := (gw (i := 250) rfl rfl)
set_option maxRecDepth 100000 in
theorem cl_RR_9 : Cond.classLink R_RR 9 R_Text ∈ GW := (gw (i := 106) rfl rfl)
set_option maxRecDepth 100000 in
theorem cl_Unroller_15 : Cond.classLink R_Unroller 15 R_Layer ∈ GW := (gw (i := 256) rfl rfl)
set_option maxRecDepth 100000 in
theorem fi_RR_12 : FI R_RR 12 R_RR F_RR 0 := Or.inl (gw (i := 289) rfl rfl)
set_option maxRecDepth 100000 in
theorem fi_RR_146 : FI R_RR 146 R_Book F_Book 5 := Or.inr ⟨"RuleReader", (nw (i := 140) rfl rfl)⟩
set_option maxRecDepth 100000 in
theorem fi_RR_149 : FI R_RR 149 R_Text F_Text 1 := Or.inr ⟨"RuleReader", (nw (i := 115) rfl rfl)⟩
set_option maxRecDepth 100000 in
theorem fi_RR_19 : FI R_RR 19 R_RR F_RR 1 := Or.inl (gw (i := 290) rfl rfl)
set_option maxRecDepth 100000 in
theorem fi_RR_28 : FI R_RR 28 R_RR F_RR 2 := Or.inl (gw (i := 291) rfl rfl)
set_option maxRecDepth 100000 in
theorem fi_RR_35 : FI R_RR 35 R_RR F_RR 3 := Or.inl (gw (i := 292) rfl rfl)
set_option maxRecDepth 100000 in
theorem fi_RR_64 : FI R_RR 64 R_Book F_Book 2 := Or.inr ⟨"RuleReader", (nw (i := 133) rfl rfl)⟩
set_option maxRecDepth 100000 in
theorem fi_RR_68 : FI R_RR 68 R_Book F_Book 3 := Or.inr ⟨"RuleReader", (nw (i := 136) rfl rfl)⟩
set_option maxRecDepth 100000 in
theorem fl_RR_12 : Cond.fieldLink R_RR 12 R_RR (F_RR 0).2.1 (F_RR 0).2.2.1 ∈ GW := (gw (i := 289) rfl rfl)
set_option maxRecDepth 100000 in
theorem fl_RR_19 : Cond.fieldLink R_RR 19 R_RR (F_RR 1).2.1 (F_RR 1).2.2.1 ∈ GW := (gw (i := 290) rfl rfl)
set_option maxRecDepth 100000 in
theorem fl_RR_28 : Cond.fieldLink R_RR 28 R_RR (F_RR 2).2.1 (F_RR 2).2.2.1 ∈ GW := (gw (i := 291) rfl rfl)
set_option maxRecDepth 100000 in
theorem fl_RR_35 : Cond.fieldLink R_RR 35 R_RR (F_RR 3).2.1 (F_RR 3).2.2.1 ∈ GW := (gw (i := 292) rfl rfl)
set_option maxRecDepth 100000 in
theorem fl_RR_44 : Cond.fieldLink R_RR 44 R_RR (F_RR 4).2.1 (F_RR 4).2.2.1 ∈ GW := (gw (i := 293) rfl rfl)
set_option maxRecDepth 100000 in
theorem fl_Unroller_17 : Cond.fieldLink R_Unroller 17 R_Unroller (F_Unroller 2).2.1 (F_Unroller 2).2.2.1 ∈ GW := (gw (i := 260) rfl rfl)
set_option maxRecDepth 100000 in
theorem fl_Unroller_21 : Cond.fieldLink R_Unroller 21 R_Unroller (F_Unroller 3).2.1 (F_Unroller 3).2.2.1 ∈ GW := (gw (i := 261) rfl rfl)
set_option maxRecDepth 100000 in
theorem fl_Unroller_24 : Cond.fieldLink R_Unroller 24 R_Unroller (F_Unroller 0).2.1 (F_Unroller 0).2.2.1 ∈ GW := (gw (i := 258) rfl rfl)
set_option maxRecDepth 100000 in
theorem fl_Unroller_9 : Cond.fieldLink R_Unroller 9 R_Unroller (F_Unroller 1).2.1 (F_Unroller 1).2.2.1 ∈ GW := (gw (i := 259) rfl rfl)
set_option maxRecDepth 100000 in
theorem im_Book_init : Cond.instanceMethod y_Book_init ∈ GW := (gw (i := 125) rfl rfl)
set_option maxRecDepth 100000 in
theorem im_Parser_init : Cond.instanceMethod y_Parser_init ∈ GW := (gw (i := 157) rfl rfl)
set_option maxRecDepth 100000 in
theorem im_RowStore_init : Cond.instanceMethod y_RowStore_init ∈ GW := (gw (i := 223) rfl rfl)
set_option maxRecDepth 100000 in
theorem im_Text_init : Cond.instanceMethod y_Text_init ∈ GW := (gw (i := 109) rfl rfl)
set_option maxRecDepth 100000 in
theorem im_Unroller_init : Cond.instanceMethod y_Unroller_init ∈ GW := (gw (i := 253) rfl rfl)
set_option maxRecDepth 100000 in
theorem in_Book : Cond.instantiable R_Book 6 ∈ GW := (gw (i := 123) rfl rfl)
set_option maxRecDepth 100000 in
theorem in_Parser : Cond.instantiable R_Parser 2 ∈ GW := (gw (i := 155) rfl rfl)
set_option maxRecDepth 100000 in
theorem in_RowStore : Cond.instantiable R_RowStore 7 ∈ GW := (gw (i := 221) rfl rfl)
set_option maxRecDepth 100000 in
theorem in_Text : Cond.instantiable R_Text 2 ∈ GW := (gw (i := 107) rfl rfl)
set_option maxRecDepth 100000 in
theorem in_Unroller : Cond.instantiable R_Unroller 10 ∈ GW := (gw (i := 251) rfl rfl)
set_option maxRecDepth 100000 in
theorem iz_Book : Cond.initialized R_Book ∈ GW := (gw (i := 75) rfl rfl)
set_option maxRecDepth 100000 in
theorem iz_Parser : Cond.initialized R_Parser ∈ GW := (gw (i := 76) rfl rfl)
set_option maxRecDepth 100000 in
theorem iz_RowStore : Cond.initialized R_RowStore ∈ GW := (gw (i := 78) rfl rfl)
set_option maxRecDepth 100000 in
theorem iz_Text : Cond.initialized R_Text ∈ GW := (gw (i := 74) rfl rfl)
set_option maxRecDepth 100000 in
theorem iz_Unroller : Cond.initialized R_Unroller ∈ GW := (gw (i := 79) rfl rfl)
set_option maxRecDepth 100000 in
theorem lk_Parser_24 : LK R_Parser 24 y_Tokens_cut := Or.inl (gw (i := 329) rfl rfl)
set_option maxRecDepth 100000 in
theorem lk_Parser_35 : LK R_Parser 35 y_Tokens_printTo := Or.inl (gw (i := 559) rfl rfl)
set_option maxRecDepth 100000 in
theorem lk_RR_11 : LK R_RR 11 y_Text_init := Or.inr ⟨"RuleReader", (nw (i := 108) rfl rfl)⟩
set_option maxRecDepth 100000 in
theorem lk_RR_132 : LK R_RR 132 y_RowStore_untouched := Or.inl (gw (i := 580) rfl rfl)
set_option maxRecDepth 100000 in
theorem lk_RR_135 : LK R_RR 135 y_Book_countGiven := Or.inl (gw (i := 588) rfl rfl)
set_option maxRecDepth 100000 in
theorem lk_RR_143 : LK R_RR 143 y_Book_printedAt := Or.inl (gw (i := 600) rfl rfl)
set_option maxRecDepth 100000 in
theorem lk_RR_18 : LK R_RR 18 y_Book_init := Or.inr ⟨"RuleReader", (nw (i := 124) rfl rfl)⟩
set_option maxRecDepth 100000 in
theorem lk_RR_25 : LK R_RR 25 y_Parser_init := Or.inl (gw (i := 156) rfl rfl)
set_option maxRecDepth 100000 in
theorem lk_RR_34 : LK R_RR 34 y_RowStore_init := Or.inr ⟨"RuleReader", (nw (i := 222) rfl rfl)⟩
set_option maxRecDepth 100000 in
theorem lk_RR_41 : LK R_RR 41 y_Unroller_init := Or.inl (gw (i := 252) rfl rfl)
set_option maxRecDepth 100000 in
theorem lk_RR_48 : LK R_RR 48 y_Text_append := Or.inl (gw (i := 309) rfl rfl)
set_option maxRecDepth 100000 in
theorem lk_RR_52 : LK R_RR 52 y_RowStore_drop := Or.inl (gw (i := 317) rfl rfl)
set_option maxRecDepth 100000 in
theorem lk_RR_55 : LK R_RR 55 y_Book_drop := Or.inl (gw (i := 321) rfl rfl)
set_option maxRecDepth 100000 in
theorem lk_RR_56 : LK R_RR 56 y_Parser_parse := Or.inl (gw (i := 325) rfl rfl)
set_option maxRecDepth 100000 in
theorem lk_RR_60 : LK R_RR 60 y_Parser_refusedAt := Or.inl (gw (i := 572) rfl rfl)
set_option maxRecDepth 100000 in
theorem ml_RR_3 : Cond.methodLink R_RR 3 objectInit ∈ GW := (gw (i := 103) rfl rfl)
set_option maxRecDepth 100000 in
theorem ml_Unroller_3 : Cond.methodLink R_Unroller 3 objectInit ∈ GW := (gw (i := 255) rfl rfl)
set_option maxRecDepth 100000 in
theorem mw_Book_countGiven : MW y_Book_countGiven b_Book_countGiven 5 (some .int) 1 := ⟨(gw (i := 591) rfl rfl), (gw (i := 75) rfl rfl), by decide +kernel⟩
set_option maxRecDepth 100000 in
theorem mw_Book_drop : MW y_Book_drop b_Book_drop 1 none 0 := ⟨(gw (i := 324) rfl rfl), (gw (i := 75) rfl rfl), by decide +kernel⟩
set_option maxRecDepth 100000 in
theorem mw_Book_init : MW y_Book_init b_Book_init 1 none 0 := ⟨(gw (i := 126) rfl rfl), (gw (i := 75) rfl rfl), by decide +kernel⟩
set_option maxRecDepth 100000 in
theorem mw_Book_printedAt : MW y_Book_printedAt b_Book_printedAt 2 (some .int) 1 := ⟨(gw (i := 603) rfl rfl), (gw (i := 75) rfl rfl), by decide +kernel⟩
set_option maxRecDepth 100000 in
theorem mw_Parser_init : MW y_Parser_init b_Parser_init 3 none 2 := ⟨(gw (i := 158) rfl rfl), (gw (i := 76) rfl rfl), by decide +kernel⟩
set_option maxRecDepth 100000 in
theorem mw_Parser_parse : MW y_Parser_parse b_Parser_parse 1 (some .boolean) 0 := ⟨(gw (i := 328) rfl rfl), (gw (i := 76) rfl rfl), by decide +kernel⟩
set_option maxRecDepth 100000 in
theorem mw_Parser_refusedAt : MW y_Parser_refusedAt b_Parser_refusedAt 1 (some .int) 0 := ⟨(gw (i := 575) rfl rfl), (gw (i := 76) rfl rfl), by decide +kernel⟩
set_option maxRecDepth 100000 in
theorem mw_RowStore_init : MW y_RowStore_init b_RowStore_init 1 none 0 := ⟨(gw (i := 224) rfl rfl), (gw (i := 78) rfl rfl), by decide +kernel⟩
set_option maxRecDepth 100000 in
theorem mw_RowStore_untouched : MW y_RowStore_untouched b_RowStore_untouched 4 (some .int) 1 := ⟨(gw (i := 583) rfl rfl), (gw (i := 78) rfl rfl), by decide +kernel⟩
set_option maxRecDepth 100000 in
theorem mw_Text_append : MW y_Text_append b_Text_append 2 (some .boolean) 1 := ⟨(gw (i := 312) rfl rfl), (gw (i := 74) rfl rfl), by decide +kernel⟩
set_option maxRecDepth 100000 in
theorem mw_Text_init : MW y_Text_init b_Text_init 1 none 0 := ⟨(gw (i := 110) rfl rfl), (gw (i := 74) rfl rfl), by decide +kernel⟩
set_option maxRecDepth 100000 in
theorem mw_Tokens_cut : MW y_Tokens_cut b_Tokens_cut 2 none 0 := ⟨(gw (i := 332) rfl rfl), (gw (i := 77) rfl rfl), by decide +kernel⟩
set_option maxRecDepth 100000 in
theorem mw_Tokens_printTo : MW y_Tokens_printTo b_Tokens_printTo 3 none 1 := ⟨(gw (i := 562) rfl rfl), (gw (i := 77) rfl rfl), by decide +kernel⟩
set_option maxRecDepth 100000 in
theorem mw_Unroller_init : MW y_Unroller_init b_Unroller_init 2 none 1 := ⟨(gw (i := 254) rfl rfl), (gw (i := 79) rfl rfl), by decide +kernel⟩
set_option maxRecDepth 100000 in
theorem vw_Book_countGiven : VW y_Book_countGiven := ⟨(gw (i := 589) rfl rfl), (gw (i := 590) rfl rfl)⟩
set_option maxRecDepth 100000 in
theorem vw_Book_drop : VW y_Book_drop := ⟨(gw (i := 322) rfl rfl), (gw (i := 323) rfl rfl)⟩
set_option maxRecDepth 100000 in
theorem vw_Book_printedAt : VW y_Book_printedAt := ⟨(gw (i := 601) rfl rfl), (gw (i := 602) rfl rfl)⟩
set_option maxRecDepth 100000 in
theorem vw_Parser_parse : VW y_Parser_parse := ⟨(gw (i := 326) rfl rfl), (gw (i := 327) rfl rfl)⟩
set_option maxRecDepth 100000 in
theorem vw_Parser_refusedAt : VW y_Parser_refusedAt := ⟨(gw (i := 573) rfl rfl), (gw (i := 574) rfl rfl)⟩
set_option maxRecDepth 100000 in
theorem vw_RowStore_untouched : VW y_RowStore_untouched := ⟨(gw (i := 581) rfl rfl), (gw (i := 582) rfl rfl)⟩
set_option maxRecDepth 100000 in
theorem vw_Text_append : VW y_Text_append := ⟨(gw (i := 310) rfl rfl), (gw (i := 311) rfl rfl)⟩
set_option maxRecDepth 100000 in
theorem vw_Tokens_cut : VW y_Tokens_cut := ⟨(gw (i := 330) rfl rfl), (gw (i := 331) rfl rfl)⟩
set_option maxRecDepth 100000 in
theorem vw_Tokens_printTo : VW y_Tokens_printTo := ⟨(gw (i := 560) rfl rfl), (gw (i := 561) rfl rfl)⟩
theorem d_Parser_parse_0 : decode b_Parser_parse 0 = .ok (.aload_n 0, 1) := by decide +kernel
theorem d_Parser_parse_1 : decode b_Parser_parse 1 = .ok (.getfield 20, 3) := by decide +kernel
theorem d_Parser_parse_4 : decode b_Parser_parse 4 = .ok (.invokevirtual 24, 3) := by decide +kernel
theorem d_Parser_parse_7 : decode b_Parser_parse 7 = .ok (.aload_n 0, 1) := by decide +kernel
theorem d_Parser_parse_8 : decode b_Parser_parse 8 = .ok (.iconst 0, 1) := by decide +kernel
theorem d_Parser_parse_9 : decode b_Parser_parse 9 = .ok (.aconst_null, 1) := by decide +kernel
theorem d_Parser_parse_10 : decode b_Parser_parse 10 = .ok (.invokevirtual 27, 3) := by decide +kernel
theorem d_Parser_parse_13 : decode b_Parser_parse 13 = .ok (.ifCond .eq 13, 3) := by decide +kernel
theorem d_Parser_parse_16 : decode b_Parser_parse 16 = .ok (.aload_n 0, 1) := by decide +kernel
theorem d_Parser_parse_17 : decode b_Parser_parse 17 = .ok (.getfield 20, 3) := by decide +kernel
theorem d_Parser_parse_20 : decode b_Parser_parse 20 = .ok (.getfield 31, 3) := by decide +kernel
theorem d_Parser_parse_23 : decode b_Parser_parse 23 = .ok (.ifCond .eq 5, 3) := by decide +kernel
theorem d_Parser_parse_26 : decode b_Parser_parse 26 = .ok (.iconst 0, 1) := by decide +kernel
theorem d_Parser_parse_27 : decode b_Parser_parse 27 = .ok (.ireturn, 1) := by decide +kernel
theorem d_Parser_parse_28 : decode b_Parser_parse 28 = .ok (.aload_n 0, 1) := by decide +kernel
theorem d_Parser_parse_29 : decode b_Parser_parse 29 = .ok (.getfield 20, 3) := by decide +kernel
theorem d_Parser_parse_32 : decode b_Parser_parse 32 = .ok (.aload_n 0, 1) := by decide +kernel
theorem d_Parser_parse_33 : decode b_Parser_parse 33 = .ok (.getfield 9, 3) := by decide +kernel
theorem d_Parser_parse_36 : decode b_Parser_parse 36 = .ok (.invokevirtual 35, 3) := by decide +kernel
theorem d_Parser_parse_39 : decode b_Parser_parse 39 = .ok (.iconst 1, 1) := by decide +kernel
theorem d_Parser_parse_40 : decode b_Parser_parse 40 = .ok (.ireturn, 1) := by decide +kernel
theorem d_Parser_refusedAt_0 : decode b_Parser_refusedAt 0 = .ok (.aload_n 0, 1) := by decide +kernel
theorem d_Parser_refusedAt_1 : decode b_Parser_refusedAt 1 = .ok (.getfield 20, 3) := by decide +kernel
theorem d_Parser_refusedAt_4 : decode b_Parser_refusedAt 4 = .ok (.getfield 39, 3) := by decide +kernel
theorem d_Parser_refusedAt_7 : decode b_Parser_refusedAt 7 = .ok (.ireturn, 1) := by decide +kernel
theorem d_Unroller_init_0 : decode b_Unroller_init 0 = .ok (.aload_n 0, 1) := by decide +kernel
theorem d_Unroller_init_1 : decode b_Unroller_init 1 = .ok (.invokespecial 3, 3) := by decide +kernel
theorem d_Unroller_init_4 : decode b_Unroller_init 4 = .ok (.aload_n 0, 1) := by decide +kernel
theorem d_Unroller_init_5 : decode b_Unroller_init 5 = .ok (.sipush 10496, 3) := by decide +kernel
theorem d_Unroller_init_8 : decode b_Unroller_init 8 = .ok (.newarray .int, 2) := by decide +kernel
theorem d_Unroller_init_10 : decode b_Unroller_init 10 = .ok (.putfield 9, 3) := by decide +kernel
theorem d_Unroller_init_13 : decode b_Unroller_init 13 = .ok (.aload_n 0, 1) := by decide +kernel
theorem d_Unroller_init_14 : decode b_Unroller_init 14 = .ok (.bipush 40, 2) := by decide +kernel
theorem d_Unroller_init_16 : decode b_Unroller_init 16 = .ok (.anewarray 15, 3) := by decide +kernel
theorem d_Unroller_init_19 : decode b_Unroller_init 19 = .ok (.putfield 17, 3) := by decide +kernel
theorem d_Unroller_init_22 : decode b_Unroller_init 22 = .ok (.aload_n 0, 1) := by decide +kernel
theorem d_Unroller_init_23 : decode b_Unroller_init 23 = .ok (.sipush 256, 3) := by decide +kernel
theorem d_Unroller_init_26 : decode b_Unroller_init 26 = .ok (.newarray .int, 2) := by decide +kernel
theorem d_Unroller_init_28 : decode b_Unroller_init 28 = .ok (.putfield 21, 3) := by decide +kernel
theorem d_Unroller_init_31 : decode b_Unroller_init 31 = .ok (.aload_n 0, 1) := by decide +kernel
theorem d_Unroller_init_32 : decode b_Unroller_init 32 = .ok (.aload_n 1, 1) := by decide +kernel
theorem d_Unroller_init_33 : decode b_Unroller_init 33 = .ok (.putfield 24, 3) := by decide +kernel
theorem d_Unroller_init_36 : decode b_Unroller_init 36 = .ok (.return_, 1) := by decide +kernel
theorem d_RR_init_0 : decode b_RR_init 0 = .ok (.aload_n 0, 1) := by decide +kernel
theorem d_RR_init_1 : decode b_RR_init 1 = .ok (.invokespecial 3, 3) := by decide +kernel
theorem d_RR_init_4 : decode b_RR_init 4 = .ok (.aload_n 0, 1) := by decide +kernel
theorem d_RR_init_5 : decode b_RR_init 5 = .ok (.new 9, 3) := by decide +kernel
theorem d_RR_init_8 : decode b_RR_init 8 = .ok (.dup, 1) := by decide +kernel
theorem d_RR_init_9 : decode b_RR_init 9 = .ok (.invokespecial 11, 3) := by decide +kernel
theorem d_RR_init_12 : decode b_RR_init 12 = .ok (.putfield 12, 3) := by decide +kernel
theorem d_RR_init_15 : decode b_RR_init 15 = .ok (.aload_n 0, 1) := by decide +kernel
theorem d_RR_init_16 : decode b_RR_init 16 = .ok (.new 16, 3) := by decide +kernel
theorem d_RR_init_19 : decode b_RR_init 19 = .ok (.dup, 1) := by decide +kernel
theorem d_RR_init_20 : decode b_RR_init 20 = .ok (.invokespecial 18, 3) := by decide +kernel
theorem d_RR_init_23 : decode b_RR_init 23 = .ok (.putfield 19, 3) := by decide +kernel
theorem d_RR_init_26 : decode b_RR_init 26 = .ok (.aload_n 0, 1) := by decide +kernel
theorem d_RR_init_27 : decode b_RR_init 27 = .ok (.new 23, 3) := by decide +kernel
theorem d_RR_init_30 : decode b_RR_init 30 = .ok (.dup, 1) := by decide +kernel
theorem d_RR_init_31 : decode b_RR_init 31 = .ok (.aload_n 0, 1) := by decide +kernel
theorem d_RR_init_32 : decode b_RR_init 32 = .ok (.getfield 12, 3) := by decide +kernel
theorem d_RR_init_35 : decode b_RR_init 35 = .ok (.aload_n 0, 1) := by decide +kernel
theorem d_RR_init_36 : decode b_RR_init 36 = .ok (.getfield 19, 3) := by decide +kernel
theorem d_RR_init_39 : decode b_RR_init 39 = .ok (.invokespecial 25, 3) := by decide +kernel
theorem d_RR_init_42 : decode b_RR_init 42 = .ok (.putfield 28, 3) := by decide +kernel
theorem d_RR_init_45 : decode b_RR_init 45 = .ok (.aload_n 0, 1) := by decide +kernel
theorem d_RR_init_46 : decode b_RR_init 46 = .ok (.new 32, 3) := by decide +kernel
theorem d_RR_init_49 : decode b_RR_init 49 = .ok (.dup, 1) := by decide +kernel
theorem d_RR_init_50 : decode b_RR_init 50 = .ok (.invokespecial 34, 3) := by decide +kernel
theorem d_RR_init_53 : decode b_RR_init 53 = .ok (.putfield 35, 3) := by decide +kernel
theorem d_RR_init_56 : decode b_RR_init 56 = .ok (.aload_n 0, 1) := by decide +kernel
theorem d_RR_init_57 : decode b_RR_init 57 = .ok (.new 39, 3) := by decide +kernel
theorem d_RR_init_60 : decode b_RR_init 60 = .ok (.dup, 1) := by decide +kernel
theorem d_RR_init_61 : decode b_RR_init 61 = .ok (.aload_n 0, 1) := by decide +kernel
theorem d_RR_init_62 : decode b_RR_init 62 = .ok (.getfield 35, 3) := by decide +kernel
theorem d_RR_init_65 : decode b_RR_init 65 = .ok (.invokespecial 41, 3) := by decide +kernel
theorem d_RR_init_68 : decode b_RR_init 68 = .ok (.putfield 44, 3) := by decide +kernel
theorem d_RR_init_71 : decode b_RR_init 71 = .ok (.return_, 1) := by decide +kernel
theorem d_RR_unit_0 : decode b_RR_unit 0 = .ok (.aload_n 0, 1) := by decide +kernel
theorem d_RR_unit_1 : decode b_RR_unit 1 = .ok (.getfield 12, 3) := by decide +kernel
theorem d_RR_unit_4 : decode b_RR_unit 4 = .ok (.iload_n 1, 1) := by decide +kernel
theorem d_RR_unit_5 : decode b_RR_unit 5 = .ok (.invokevirtual 48, 3) := by decide +kernel
theorem d_RR_unit_8 : decode b_RR_unit 8 = .ok (.ireturn, 1) := by decide +kernel
theorem d_RR_free_0 : decode b_RR_free 0 = .ok (.aload_n 0, 1) := by decide +kernel
theorem d_RR_free_1 : decode b_RR_free 1 = .ok (.getfield 35, 3) := by decide +kernel
theorem d_RR_free_4 : decode b_RR_free 4 = .ok (.iload_n 1, 1) := by decide +kernel
theorem d_RR_free_5 : decode b_RR_free 5 = .ok (.invokevirtual 132, 3) := by decide +kernel
theorem d_RR_free_8 : decode b_RR_free 8 = .ok (.ireturn, 1) := by decide +kernel
theorem d_RR_write_0 : decode b_RR_write 0 = .ok (.aload_n 0, 1) := by decide +kernel
theorem d_RR_write_1 : decode b_RR_write 1 = .ok (.getfield 19, 3) := by decide +kernel
theorem d_RR_write_4 : decode b_RR_write 4 = .ok (.iload_n 1, 1) := by decide +kernel
theorem d_RR_write_5 : decode b_RR_write 5 = .ok (.invokevirtual 143, 3) := by decide +kernel
theorem d_RR_write_8 : decode b_RR_write 8 = .ok (.ireturn, 1) := by decide +kernel
theorem d_RR_depth_0 : decode b_RR_depth 0 = .ok (.aload_n 0, 1) := by decide +kernel
theorem d_RR_depth_1 : decode b_RR_depth 1 = .ok (.getfield 19, 3) := by decide +kernel
theorem d_RR_depth_4 : decode b_RR_depth 4 = .ok (.getfield 146, 3) := by decide +kernel
theorem d_RR_depth_7 : decode b_RR_depth 7 = .ok (.ireturn, 1) := by decide +kernel
theorem d_RR_clear_0 : decode b_RR_clear 0 = .ok (.aload_n 0, 1) := by decide +kernel
theorem d_RR_clear_1 : decode b_RR_clear 1 = .ok (.getfield 12, 3) := by decide +kernel
theorem d_RR_clear_4 : decode b_RR_clear 4 = .ok (.iconst 0, 1) := by decide +kernel
theorem d_RR_clear_5 : decode b_RR_clear 5 = .ok (.putfield 149, 3) := by decide +kernel
theorem d_RR_clear_8 : decode b_RR_clear 8 = .ok (.return_, 1) := by decide +kernel
theorem d_RR_given_0 : decode b_RR_given 0 = .ok (.aload_n 0, 1) := by decide +kernel
theorem d_RR_given_1 : decode b_RR_given 1 = .ok (.getfield 19, 3) := by decide +kernel
theorem d_RR_given_4 : decode b_RR_given 4 = .ok (.iload_n 1, 1) := by decide +kernel
theorem d_RR_given_5 : decode b_RR_given 5 = .ok (.invokevirtual 135, 3) := by decide +kernel
theorem d_RR_given_8 : decode b_RR_given 8 = .ok (.ireturn, 1) := by decide +kernel
theorem d_RR_read_0 : decode b_RR_read 0 = .ok (.aload_n 0, 1) := by decide +kernel
theorem d_RR_read_1 : decode b_RR_read 1 = .ok (.getfield 35, 3) := by decide +kernel
theorem d_RR_read_4 : decode b_RR_read 4 = .ok (.invokevirtual 52, 3) := by decide +kernel
theorem d_RR_read_7 : decode b_RR_read 7 = .ok (.aload_n 0, 1) := by decide +kernel
theorem d_RR_read_8 : decode b_RR_read 8 = .ok (.getfield 19, 3) := by decide +kernel
theorem d_RR_read_11 : decode b_RR_read 11 = .ok (.invokevirtual 55, 3) := by decide +kernel
theorem d_RR_read_14 : decode b_RR_read 14 = .ok (.aload_n 0, 1) := by decide +kernel
theorem d_RR_read_15 : decode b_RR_read 15 = .ok (.getfield 28, 3) := by decide +kernel
theorem d_RR_read_18 : decode b_RR_read 18 = .ok (.invokevirtual 56, 3) := by decide +kernel
theorem d_RR_read_21 : decode b_RR_read 21 = .ok (.ifCond .ne 20, 3) := by decide +kernel
theorem d_RR_read_24 : decode b_RR_read 24 = .ok (.aload_n 0, 1) := by decide +kernel
theorem d_RR_read_25 : decode b_RR_read 25 = .ok (.getfield 19, 3) := by decide +kernel
theorem d_RR_read_28 : decode b_RR_read 28 = .ok (.invokevirtual 55, 3) := by decide +kernel
theorem d_RR_read_31 : decode b_RR_read 31 = .ok (.iconst (-1), 1) := by decide +kernel
theorem d_RR_read_32 : decode b_RR_read 32 = .ok (.aload_n 0, 1) := by decide +kernel
theorem d_RR_read_33 : decode b_RR_read 33 = .ok (.getfield 28, 3) := by decide +kernel
theorem d_RR_read_36 : decode b_RR_read 36 = .ok (.invokevirtual 60, 3) := by decide +kernel
theorem d_RR_read_39 : decode b_RR_read 39 = .ok (.isub, 1) := by decide +kernel
theorem d_RR_read_40 : decode b_RR_read 40 = .ok (.ireturn, 1) := by decide +kernel
theorem d_RR_read_41 : decode b_RR_read 41 = .ok (.aload_n 0, 1) := by decide +kernel
theorem d_RR_read_42 : decode b_RR_read 42 = .ok (.getfield 19, 3) := by decide +kernel
theorem d_RR_read_45 : decode b_RR_read 45 = .ok (.iconst 1, 1) := by decide +kernel
theorem d_RR_read_46 : decode b_RR_read 46 = .ok (.putfield 64, 3) := by decide +kernel
theorem d_RR_read_49 : decode b_RR_read 49 = .ok (.aload_n 0, 1) := by decide +kernel
theorem d_RR_read_50 : decode b_RR_read 50 = .ok (.getfield 19, 3) := by decide +kernel
theorem d_RR_read_53 : decode b_RR_read 53 = .ok (.getfield 68, 3) := by decide +kernel
theorem d_RR_read_56 : decode b_RR_read 56 = .ok (.ireturn, 1) := by decide +kernel
set_option maxHeartbeats 4000000 in
set_option maxRecDepth 100000 in
theorem c_Parser_parse (g : GG) (l : Launch) {p : Nat} {bk : Nat} {ra : Nat} {pa : Nat} {tb : Nat} {k : Nat} {so : Nat} {sta : Nat} {en : Nat} {a : Nat} {t : Nat} {zs : Nat} {zb : Nat} {ze : Nat} {zv : Nat} {zw : Nat} {cnt : Nat} {nx : Nat} {T : Nat → Nat} {ZS : Nat → Nat} {ZB : Nat → Nat} {ZE : Nat → Nat} {ZV : Nat → Option Nat} {ZW : Nat → Option Nat} {PA : Nat → Nat} {v : Option Nat} {wd : Option Nat} {pr : Bool} {PP : va_W} {RA : Nat → Option Nat}  (hk : k ≤ 2000) (hT : ∀ j, T j < 256) : Cn g l y_Parser_parse b_Parser_parse 1 (some .boolean) (rmk 160 ((parseP T k).2.2) (6 * (parseP T k).2.2) 4000) [.ref p] ([(p, .inr (6, [.ref bk, .ref a])), (a, .inr (2, [.ref t, .ref zs, .ref zb, .ref ze, .ref zv, .ref zw, .int (nI cnt), .int (nI nx), .int (nI so), .int (nI sta), .int (nI en), .int (oI v), va_rf (wR g wd)])), (t, .inr (1, [.ref tb, .int (nI k)])), (tb, .inl (g.2.1 1, 2000, .inl (aI T))), (zs, .inl (g.2.1 0, 2001, .inl (aI ZS))), (zb, .inl (g.2.1 0, 2001, .inl (aI ZB))), (ze, .inl (g.2.1 0, 2001, .inl (aI ZE))), (zv, .inl (g.2.1 0, 2001, .inl (oA ZV))), (zw, .inl (g.2.1 6, 2001, .inr (.inr (.inr (.inr ZW))))), (bk, .inr (5, [.ref ra, .ref pa, .int (bI pr), .int (nI 0), .int (nI 0), .int (nI 0)])), (pa, .inl (g.2.1 1, 4000, .inl (aI PA))), (ra, .inl (g.2.1 3, 400, .inr (.inr (.inr (.inr RA)))))] ++ PP) (fun (r0 : Option Value) (w0 : va_W) => ∃ ok0 : Bool, ∃ rules2 : List RuleV, ∃ dp2 : Nat, ∃ RA2 : Nat → Option Nat, ∃ PP2 : va_W, ∃ tk : Tok, ∃ ou : List Nat, ∃ PB : Nat → Nat, ∃ cnt2 : Nat, ∃ nx2 : Nat, ∃ ee2 : Nat, ∃ ZS2 : Nat → Nat, ∃ ZB2 : Nat → Nat, ∃ ZE2 : Nat → Nat, ∃ ZV2 : Nat → Option Nat, ∃ ZW2 : Nat → Option Nat, ∃ pn2 : Nat, r0 = some (.int (bI (ok0 && decide (tk.1 = 0)))) ∧ w0 = [(p, .inr (6, [.ref bk, .ref a])), (a, .inr (2, [.ref t, .ref zs, .ref zb, .ref ze, .ref zv, .ref zw, .int (nI cnt2), .int (nI nx2), .int (nI tk.1), .int (nI tk.2.1), .int (nI ee2), .int (oI tk.2.2.2.1), va_rf (wR g tk.2.2.2.2)])), (t, .inr (1, [.ref tb, .int (nI k)])), (tb, .inl (g.2.1 1, 2000, .inl (aI T))), (zs, .inl (g.2.1 0, 2001, .inl (aI ZS2))), (zb, .inl (g.2.1 0, 2001, .inl (aI ZB2))), (ze, .inl (g.2.1 0, 2001, .inl (aI ZE2))), (zv, .inl (g.2.1 0, 2001, .inl (oA ZV2))), (zw, .inl (g.2.1 6, 2001, .inr (.inr (.inr (.inr ZW2))))), (bk, .inr (5, [.ref ra, .ref pa, .int (bI pr), .int (nI rules2.length), .int (nI pn2), .int (nI dp2)])), (pa, .inl (g.2.1 1, 4000, .inl (aI PB))), (ra, .inl (g.2.1 3, 400, .inr (.inr (.inr (.inr RA2)))))] ++ PP2 ∧ ((ok0, (rules2, dp2, tk, ou)) = BP (parseP T k)) ∧ (RulesAt g PP2 RA2 rules2) ∧ (∀ q ∈ PP, q ∈ PP2) ∧ (TokOK k tk) ∧ (ou.length ≤ 2 * tk.2.1) ∧ ((ok0 && decide (tk.1 = 0)) = true → OutAt PB ou ∧ pn2 = ou.length) ∧ (rules2.length ≤ 400) ∧ (dp2 ≤ 40)) := by
  refine Cn.of R_Parser [(0, .ref p)] (by decide) rfl (Nat.le_of_ble_eq_true rfl) rfl ?_
  intro x A Q hR hXl hin C E
  subst hXl
  refine r_aload_n C 0 d_Parser_parse_0 rfl rfl ?_
  refine r_get C 0 1 d_Parser_parse_1 ci_Parser fi_Parser_20 rfl (by decide) rfl rfl ?_
  refine j_callV C (c_Tokens_cut g (xl x) (a := a) (t := t) (zs := zs) (zb := zb) (ze := ze) (zv := zv) (zw := zw) (cnt := cnt) (nx := nx) (tb := tb) (k := k) (so := so) (sta := sta) (en := en) (T := T) (v := v) (wd := wd) (ZS := ZS) (ZB := ZB) (ZE := ZE) (ZV := ZV) (ZW := ZW) (by first | assumption | rfl | omega) (by first | assumption | rfl | omega)) (Sp.keep (Sp.of (wr := [(p, .inr (6, [.ref bk, .ref a])), (bk, .inr (5, [.ref ra, .ref pa, .int (bI pr), .int (nI 0), .int (nI 0), .int (nI 0)])), (pa, .inl (g.2.1 1, 4000, .inl (aI PA))), (ra, .inl (g.2.1 3, 400, .inr (.inr (.inr (.inr RA)))))]) [1, 2, 3, 4, 5, 6, 7, 8] [0, 9, 10, 11] rfl rfl rfl rfl (by decide)) PP) d_Parser_parse_4 lk_Parser_24 mw_Tokens_cut vw_Tokens_cut (q0 := 0) rfl rfl (fit_of hR (by first | decide | (simp only [rmk]; omega)) (by first | decide | (simp only [rmk]; omega)) (by first | decide | (simp only [rmk]; omega)) (by first | decide | (simp only [rmk]; omega))) rfl (cat8 (Nat.le_of_ble_eq_true rfl)) (As := []) (rest := []) rfl (fun r_4 w_4 hp_4 => ?_)
  obtain ⟨tk_4, cnt2_4, ee2_4, ZS2_4, ZB2_4, ZE2_4, ZV2_4, ZW2_4, rfl, rfl, htk_4, hA_4⟩ := hp_4
  refine r_swap ?_
  refine r_afterP (X := [(p, .inr (6, [.ref bk, .ref a])), (bk, .inr (5, [.ref ra, .ref pa, .int (bI pr), .int (nI 0), .int (nI 0), .int (nI 0)])), (pa, .inl (g.2.1 1, 4000, .inl (aI PA))), (ra, .inl (g.2.1 3, 400, .inr (.inr (.inr (.inr RA))))), (a, .inr (2, [.ref t, .ref zs, .ref zb, .ref ze, .ref zv, .ref zw, .int (nI cnt2_4), .int (nI 0), .int (nI tk_4.1), .int (nI tk_4.2.1), .int (nI ee2_4), .int (oI tk_4.2.2.2.1), va_rf (wR g tk_4.2.2.2.2)])), (t, .inr (1, [.ref tb, .int (nI k)])), (tb, .inl (g.2.1 1, 2000, .inl (aI T))), (zs, .inl (g.2.1 0, 2001, .inl (aI ZS2_4))), (zb, .inl (g.2.1 0, 2001, .inl (aI ZB2_4))), (ze, .inl (g.2.1 0, 2001, .inl (aI ZE2_4))), (zv, .inl (g.2.1 0, 2001, .inl (oA ZV2_4))), (zw, .inl (g.2.1 6, 2001, .inr (.inr (.inr (.inr ZW2_4)))))]) (X' := [(p, .inr (6, [.ref bk, .ref a])), (a, .inr (2, [.ref t, .ref zs, .ref zb, .ref ze, .ref zv, .ref zw, .int (nI cnt2_4), .int (nI 0), .int (nI tk_4.1), .int (nI tk_4.2.1), .int (nI ee2_4), .int (oI tk_4.2.2.2.1), va_rf (wR g tk_4.2.2.2.2)])), (t, .inr (1, [.ref tb, .int (nI k)])), (tb, .inl (g.2.1 1, 2000, .inl (aI T))), (zs, .inl (g.2.1 0, 2001, .inl (aI ZS2_4))), (zb, .inl (g.2.1 0, 2001, .inl (aI ZB2_4))), (ze, .inl (g.2.1 0, 2001, .inl (aI ZE2_4))), (zv, .inl (g.2.1 0, 2001, .inl (oA ZV2_4))), (zw, .inl (g.2.1 6, 2001, .inr (.inr (.inr (.inr ZW2_4))))), (bk, .inr (5, [.ref ra, .ref pa, .int (bI pr), .int (nI 0), .int (nI 0), .int (nI 0)])), (pa, .inl (g.2.1 1, 4000, .inl (aI PA))), (ra, .inl (g.2.1 3, 400, .inr (.inr (.inr (.inr RA)))))]) (pl := PP) (st' := []) (n1 := 0) (n2 := 0) [0, 4, 5, 6, 7, 8, 9, 10, 11, 1, 2, 3] rfl rfl rfl rfl rfl rfl ?_
  have htk : tk_4 = tokAt T k 0 0 := htk_4
  have hO4 : TokOK k tk_4 := by rw [htk_4]; exact nth_ok hT 0
  have hN4 : nth T k 0 = (tk_4, []) := by rw [htk_4]; rfl
  have hcP : (parseP T k).2.2 = (pG (pS T k 40 []) T k ([], 0, (tk_4.1, tk_4.2.1, tk_4.2.2.1, tk_4.2.2.2.1, tk_4.2.2.2.2), [])).2.2 := by rw [parseP, ← htk]
  refine r_aload_n C 0 d_Parser_parse_7 rfl rfl ?_
  refine r_iconst C (nI 0) d_Parser_parse_8 (by decide) ?_
  refine r_null C d_Parser_parse_9 ?_
  refine j_callV C (c_Parser_takeGroup g (xl x) (p := p) (bk := bk) (ra := ra) (pa := pa) (k := k) (so := tk_4.1) (sta := tk_4.2.1) (en := tk_4.2.2.1) (ee := ee2_4) (dp := 0) (dep := 0) (d := 40) (a := a) (t := t) (zs := zs) (zb := zb) (ze := ze) (zv := zv) (zw := zw) (cnt := cnt2_4) (nx := 0) (T := T) (ZS := ZS2_4) (ZB := ZB2_4) (ZE := ZE2_4) (ZV := ZV2_4) (ZW := ZW2_4) (v := tk_4.2.2.2.1) (wd := tk_4.2.2.2.2) (ar := none) (pr := pr) (out := []) (ls := []) (PP := PP) (RA := RA) (rules := []) (by first | assumption | rfl | omega) (by first | assumption | rfl | omega) (hO4) (by first | assumption | rfl | omega) (hN4) (hA_4.1) (rfl) (fun i r h => by simp at h) (by decide) (by first | assumption | rfl | omega) (by decide)) (Sp.pool (Sp.of (wr := [(t, .inr (1, [.ref tb, .int (nI k)])), (tb, .inl (g.2.1 1, 2000, .inl (aI T))), (pa, .inl (g.2.1 1, 4000, .inl (aI PA)))]) [0, 1, 4, 5, 6, 7, 8, 9, 11] [2, 3, 10] rfl rfl rfl rfl (by decide)) PP) d_Parser_parse_10 lk_Parser_27 mw_Parser_takeGroup vw_Parser_takeGroup (q0 := 0) rfl rfl (fit_of hR (by first | decide | (simp only [rmk]; omega)) (by first | decide | (simp only [rmk]; omega)) (by first | decide | (simp only [rmk]; omega)) (by first | decide | (simp only [rmk]; omega))) rfl (cat8 (Nat.le_of_ble_eq_true rfl)) (As := [.int (nI 0), .null]) (rest := []) rfl (fun r_10 w_10 hp_10 => ?_)
  obtain ⟨ok_10, rules2_10, dp2_10, RA2_10, PP2_10, tk_10, ou_10, nx2_10, rfl, rfl, hx_10, hR2_10, hs_10, hO2_10, hc2_10, ho2_10, h42_10, hd2_10⟩ := hp_10
  refine r_afterP (X := [(t, .inr (1, [.ref tb, .int (nI k)])), (tb, .inl (g.2.1 1, 2000, .inl (aI T))), (pa, .inl (g.2.1 1, 4000, .inl (aI PA))), (p, .inr (6, [.ref bk, .ref a])), (a, .inr (2, [.ref t, .ref zs, .ref zb, .ref ze, .ref zv, .ref zw, .int (nI cnt2_4), .int (nI nx2_10), .int (nI tk_10.1), .int (nI tk_10.2.1), .int (nI ee2_4), .int (oI tk_10.2.2.2.1), va_rf (wR g tk_10.2.2.2.2)])), (zs, .inl (g.2.1 0, 2001, .inl (aI ZS2_4))), (zb, .inl (g.2.1 0, 2001, .inl (aI ZB2_4))), (ze, .inl (g.2.1 0, 2001, .inl (aI ZE2_4))), (zv, .inl (g.2.1 0, 2001, .inl (oA ZV2_4))), (zw, .inl (g.2.1 6, 2001, .inr (.inr (.inr (.inr ZW2_4))))), (bk, .inr (5, [.ref ra, .ref pa, .int (bI pr), .int (nI rules2_10.length), .int (nI 0), .int (nI dp2_10)])), (ra, .inl (g.2.1 3, 400, .inr (.inr (.inr (.inr RA2_10)))))]) (X' := [(p, .inr (6, [.ref bk, .ref a])), (a, .inr (2, [.ref t, .ref zs, .ref zb, .ref ze, .ref zv, .ref zw, .int (nI cnt2_4), .int (nI nx2_10), .int (nI tk_10.1), .int (nI tk_10.2.1), .int (nI ee2_4), .int (oI tk_10.2.2.2.1), va_rf (wR g tk_10.2.2.2.2)])), (t, .inr (1, [.ref tb, .int (nI k)])), (tb, .inl (g.2.1 1, 2000, .inl (aI T))), (zs, .inl (g.2.1 0, 2001, .inl (aI ZS2_4))), (zb, .inl (g.2.1 0, 2001, .inl (aI ZB2_4))), (ze, .inl (g.2.1 0, 2001, .inl (aI ZE2_4))), (zv, .inl (g.2.1 0, 2001, .inl (oA ZV2_4))), (zw, .inl (g.2.1 6, 2001, .inr (.inr (.inr (.inr ZW2_4))))), (bk, .inr (5, [.ref ra, .ref pa, .int (bI pr), .int (nI rules2_10.length), .int (nI 0), .int (nI dp2_10)])), (pa, .inl (g.2.1 1, 4000, .inl (aI PA))), (ra, .inl (g.2.1 3, 400, .inr (.inr (.inr (.inr RA2_10)))))]) (pl := PP2_10) (st' := [.int (bI ok_10)]) (n1 := 0 + ((pG (pS T k 40 ([])) T k (([]), 0, (tk_4.1, tk_4.2.1, tk_4.2.2.1, tk_4.2.2.2.1, tk_4.2.2.2.2), ([]))).2.2)) (n2 := 0 + (6 * (pG (pS T k 40 ([])) T k (([]), 0, (tk_4.1, tk_4.2.1, tk_4.2.2.1, tk_4.2.2.2.1, tk_4.2.2.2.2), ([]))).2.2)) [3, 4, 0, 1, 5, 6, 7, 8, 9, 10, 2, 11] rfl rfl rfl rfl rfl rfl ?_
  refine r_bif_eq C 26 d_Parser_parse_13 (by decide) (fun c_13 => ?_) (fun c_13 => ?_)
  · skip
    refine r_iconst C (nI 0) d_Parser_parse_26 (by decide) ?_
    refine r_eqS (st' := [.int (bI false)]) rfl ?_
    refine r_bret C E d_Parser_parse_27 (by first | decide | omega | (simp only [rmk]; omega)) (by first | decide | omega | (simp only [rmk]; omega)) ?_
    subst c_13
    exact ⟨false, rules2_10, dp2_10, RA2_10, PP2_10, tk_10, ou_10, _, _, _, _, _, _, _, _, _, _, rfl, rfl, by rw [parseP, ← htk]; exact hx_10, hR2_10, hs_10, hO2_10, cap_of hT hA_4 hc2_10 ho2_10, fun h => absurd h (by simp), h42_10, hd2_10⟩
  · skip
    have hso10 := hO2_10.so
    refine r_aload_n C 0 d_Parser_parse_16 rfl rfl ?_
    refine r_get C 0 1 d_Parser_parse_17 ci_Parser fi_Parser_20 rfl (by decide) rfl rfl ?_
    refine r_get C 1 8 d_Parser_parse_20 ci_Tokens fi_Parser_31 rfl (by decide) rfl rfl ?_
    refine r_nif_eq C 28 d_Parser_parse_23 (by decide) (by omega) (fun c_23 => ?_) (fun c_23 => ?_)
    · skip
      have hL := last_of hA_4 hc2_10 ho2_10 c_23
      refine r_aload_n C 0 d_Parser_parse_28 rfl rfl ?_
      refine r_get C 0 1 d_Parser_parse_29 ci_Parser fi_Parser_20 rfl (by decide) rfl rfl ?_
      refine r_aload_n C 0 d_Parser_parse_32 rfl rfl ?_
      refine r_get C 0 0 d_Parser_parse_33 ci_Parser fi_Parser_9 rfl (by decide) rfl rfl ?_
      refine j_callV C (c_Tokens_printTo g (xl x) (a := a) (t := t) (zs := zs) (zb := zb) (ze := ze) (zv := zv) (zw := zw) (cnt := cnt2_4) (nx := nx2_10) (tb := tb) (k := k) (so := tk_10.1) (sta := tk_10.2.1) (en := ee2_4) (T := T) (v := tk_10.2.2.2.1) (wd := tk_10.2.2.2.2) (ZS := ZS2_4) (ZB := ZB2_4) (ZE := ZE2_4) (ZV := ZV2_4) (ZW := ZW2_4) (bk := bk) (ra := ra) (pa := pa) (rc := rules2_10.length) (dp := dp2_10) (PA := PA) (pr := pr) (by first | assumption | rfl | omega) (by first | assumption | rfl | omega) (by first | assumption | rfl | omega)) (Sp.keep (Sp.of (wr := [(p, .inr (6, [.ref bk, .ref a])), (ra, .inl (g.2.1 3, 400, .inr (.inr (.inr (.inr RA2_10)))))]) [1, 2, 3, 4, 5, 6, 7, 8, 9, 10] [0, 11] rfl rfl rfl rfl (by decide)) PP2_10) d_Parser_parse_36 lk_Parser_35 mw_Tokens_printTo vw_Tokens_printTo (q0 := 0) rfl rfl (fit_of hR (by first | decide | (simp only [rmk]; omega)) (by first | decide | (simp only [rmk]; omega)) (by first | decide | (simp only [rmk]; omega)) (by first | decide | (simp only [rmk]; omega))) rfl (cat8 (Nat.le_of_ble_eq_true rfl)) (As := [.ref bk]) (rest := []) rfl (fun r_36 w_36 hp_36 => ?_)
      obtain ⟨PB_36, rfl, rfl, ho2_36⟩ := hp_36
      refine r_swap ?_
      refine r_afterP (X := [(p, .inr (6, [.ref bk, .ref a])), (ra, .inl (g.2.1 3, 400, .inr (.inr (.inr (.inr RA2_10))))), (a, .inr (2, [.ref t, .ref zs, .ref zb, .ref ze, .ref zv, .ref zw, .int (nI cnt2_4), .int (nI nx2_10), .int (nI tk_10.1), .int (nI tk_10.2.1), .int (nI ee2_4), .int (oI tk_10.2.2.2.1), va_rf (wR g tk_10.2.2.2.2)])), (t, .inr (1, [.ref tb, .int (nI k)])), (tb, .inl (g.2.1 1, 2000, .inl (aI T))), (zs, .inl (g.2.1 0, 2001, .inl (aI ZS2_4))), (zb, .inl (g.2.1 0, 2001, .inl (aI ZB2_4))), (ze, .inl (g.2.1 0, 2001, .inl (aI ZE2_4))), (zv, .inl (g.2.1 0, 2001, .inl (oA ZV2_4))), (zw, .inl (g.2.1 6, 2001, .inr (.inr (.inr (.inr ZW2_4))))), (bk, .inr (5, [.ref ra, .ref pa, .int (bI pr), .int (nI rules2_10.length), .int (nI ((nth T k (cnt2_4 - 1)).2.length)), .int (nI dp2_10)])), (pa, .inl (g.2.1 1, 4000, .inl (aI PB_36)))]) (X' := [(p, .inr (6, [.ref bk, .ref a])), (a, .inr (2, [.ref t, .ref zs, .ref zb, .ref ze, .ref zv, .ref zw, .int (nI cnt2_4), .int (nI nx2_10), .int (nI tk_10.1), .int (nI tk_10.2.1), .int (nI ee2_4), .int (oI tk_10.2.2.2.1), va_rf (wR g tk_10.2.2.2.2)])), (t, .inr (1, [.ref tb, .int (nI k)])), (tb, .inl (g.2.1 1, 2000, .inl (aI T))), (zs, .inl (g.2.1 0, 2001, .inl (aI ZS2_4))), (zb, .inl (g.2.1 0, 2001, .inl (aI ZB2_4))), (ze, .inl (g.2.1 0, 2001, .inl (aI ZE2_4))), (zv, .inl (g.2.1 0, 2001, .inl (oA ZV2_4))), (zw, .inl (g.2.1 6, 2001, .inr (.inr (.inr (.inr ZW2_4))))), (bk, .inr (5, [.ref ra, .ref pa, .int (bI pr), .int (nI rules2_10.length), .int (nI ((nth T k (cnt2_4 - 1)).2.length)), .int (nI dp2_10)])), (pa, .inl (g.2.1 1, 4000, .inl (aI PB_36))), (ra, .inl (g.2.1 3, 400, .inr (.inr (.inr (.inr RA2_10)))))]) (pl := PP2_10) (st' := []) (n1 := 0 + ((pG (pS T k 40 ([])) T k (([]), 0, (tk_4.1, tk_4.2.1, tk_4.2.2.1, tk_4.2.2.2.1, tk_4.2.2.2.2), ([]))).2.2)) (n2 := 0 + (6 * (pG (pS T k 40 ([])) T k (([]), 0, (tk_4.1, tk_4.2.1, tk_4.2.2.1, tk_4.2.2.2.1, tk_4.2.2.2.2), ([]))).2.2)) [0, 2, 3, 4, 5, 6, 7, 8, 9, 10, 11, 1] rfl rfl rfl rfl rfl rfl ?_
      refine r_iconst C (nI 1) d_Parser_parse_39 (by decide) ?_
      refine r_eqS (st' := [.int (bI true)]) rfl ?_
      refine r_bret C E d_Parser_parse_40 (by first | decide | omega | (simp only [rmk]; omega)) (by first | decide | omega | (simp only [rmk]; omega)) ?_
      subst c_13
      exact ⟨true, rules2_10, dp2_10, RA2_10, PP2_10, tk_10, ou_10, _, _, _, _, _, _, _, _, _, _, by rw [decide_eq_true c_23]; rfl, rfl, by rw [parseP, ← htk]; exact hx_10, hR2_10, hs_10, hO2_10, cap_of hT hA_4 hc2_10 ho2_10, fun _ => ⟨by have h9 := ho2_36; rw [hL] at h9; exact h9, by rw [hL]⟩, h42_10, hd2_10⟩
    · skip
      refine r_iconst C (nI 0) d_Parser_parse_26 (by decide) ?_
      refine r_eqS (st' := [.int (bI false)]) rfl ?_
      refine r_bret C E d_Parser_parse_27 (by first | decide | omega | (simp only [rmk]; omega)) (by first | decide | omega | (simp only [rmk]; omega)) ?_
      subst c_13
      exact ⟨true, rules2_10, dp2_10, RA2_10, PP2_10, tk_10, ou_10, _, _, _, _, _, _, _, _, _, _, by rw [decide_eq_false c_23]; rfl, rfl, by rw [parseP, ← htk]; exact hx_10, hR2_10, hs_10, hO2_10, cap_of hT hA_4 hc2_10 ho2_10, fun h => by rw [decide_eq_false c_23] at h; exact absurd h (by decide), h42_10, hd2_10⟩

set_option maxHeartbeats 4000000 in
set_option maxRecDepth 100000 in
theorem c_Parser_refusedAt (g : GG) (l : Launch) {p : Nat} {bk : Nat} {so : Nat} {sta : Nat} {en : Nat} {a : Nat} {t : Nat} {zs : Nat} {zb : Nat} {ze : Nat} {zv : Nat} {zw : Nat} {cnt : Nat} {nx : Nat} {v : Option Nat} {wd : Option Nat}   : Cn g l y_Parser_refusedAt b_Parser_refusedAt 1 (some .int) (rmk 0 0 0 0) [.ref p] ([(p, .inr (6, [.ref bk, .ref a])), (a, .inr (2, [.ref t, .ref zs, .ref zb, .ref ze, .ref zv, .ref zw, .int (nI cnt), .int (nI nx), .int (nI so), .int (nI sta), .int (nI en), .int (oI v), va_rf (wR g wd)]))]) (fun (r0 : Option Value) (w0 : va_W) => r0 = some (.int (nI sta)) ∧ w0 = [(p, .inr (6, [.ref bk, .ref a])), (a, .inr (2, [.ref t, .ref zs, .ref zb, .ref ze, .ref zv, .ref zw, .int (nI cnt), .int (nI nx), .int (nI so), .int (nI sta), .int (nI en), .int (oI v), va_rf (wR g wd)]))]) := by
  refine Cn.of R_Parser [(0, .ref p)] (by decide) rfl (Nat.le_of_ble_eq_true rfl) rfl ?_
  intro x A Q hR hXl hin C E
  subst hXl
  refine r_aload_n C 0 d_Parser_refusedAt_0 rfl rfl ?_
  refine r_get C 0 1 d_Parser_refusedAt_1 ci_Parser fi_Parser_20 rfl (by decide) rfl rfl ?_
  refine r_get C 1 9 d_Parser_refusedAt_4 ci_Tokens fi_Parser_39 rfl (by decide) rfl rfl ?_
  refine r_iret C E d_Parser_refusedAt_7 (by first | decide | omega | (simp only [rmk]; omega)) (by first | decide | omega | (simp only [rmk]; omega)) ?_
  exact ⟨rfl, rfl⟩

set_option maxHeartbeats 4000000 in
set_option maxRecDepth 100000 in
theorem c_Unroller_init (g : GG) (l : Launch) {u : Nat} {s : Nat}   : Cn g l y_Unroller_init b_Unroller_init 2 none (rmk 1 3 10792 12) [.ref u, .ref s] ([(u, .inr (8, [.null, .null, .null, .null, .int (nI 0), .int (nI 0), .int (nI 0), .int (nI 0), .int (nI 0), .int (bI false)]))]) (fun (r0 : Option Value) (w0 : va_W) => ∃ ss : Nat, ∃ la : Nat, ∃ ke : Nat, r0 = none ∧ w0 = [(u, .inr (8, [.ref s, .ref ss, .ref la, .ref ke, .int (nI 0), .int (nI 0), .int (nI 0), .int (nI 0), .int (nI 0), .int (bI false)])), (ss, .inl (g.2.1 0, 10496, .inl (aI (fun _ => 0)))), (la, .inl (g.2.1 4, 40, .inr (.inr (.inr (.inr (fun _ => none)))))), (ke, .inl (g.2.1 0, 256, .inl (aI (fun _ => 0))))]) := by
  refine Cn.of R_Unroller [(0, .ref u), (1, .ref s)] (by decide) rfl (Nat.le_of_ble_eq_true rfl) rfl ?_
  intro x A Q hR hXl hin C E
  subst hXl
  refine r_aload_n C 0 d_Unroller_init_0 rfl rfl ?_
  refine r_objInit C d_Unroller_init_1 ml_Unroller_3 oi_1 oi_2 (by rw [hR]; decide) (by rw [hR]; decide) ?_
  refine r_aload_n C 0 d_Unroller_init_4 rfl rfl ?_
  refine r_sipush C (nI 10496) d_Unroller_init_5 (by decide) ?_
  refine r_newn C 0 d_Unroller_init_8 rfl ac_int rfl (fun _ => rfl) (by decide) (by decide) (by rw [hR]; decide) (by rw [hR]; decide) (fun q_8 => ?_)
  refine r_norm (ws' := [(u, .inr (8, [.null, .null, .null, .null, .int (nI 0), .int (nI 0), .int (nI 0), .int (nI 0), .int (nI 0), .int (bI false)])), (q_8, .inl (g.2.1 0, 10496, .inl (aI (fun _ => 0))))]) (st' := [.ref q_8, .ref u]) (n1 := 0 + 1) (n2 := 0 + 10496) rfl rfl rfl rfl ?_
  refine r_putF C hin (ws' := [(u, .inr (8, [.null, .ref q_8, .null, .null, .int (nI 0), .int (nI 0), .int (nI 0), .int (nI 0), .int (nI 0), .int (bI false)])), (q_8, .inl (g.2.1 0, 10496, .inl (aI (fun _ => 0))))]) 0 1 d_Unroller_init_10 ci_Unroller fl_Unroller_9 rfl rfl (by decide) rfl rfl (rfl) (rfl) (by simp) rfl ?_
  refine r_aload_n C 0 d_Unroller_init_13 rfl rfl ?_
  refine r_bipush C (nI 40) d_Unroller_init_14 (by decide) ?_
  refine r_newq C 4 d_Unroller_init_16 cl_Unroller_15 ao_Layer rfl (by decide) (by decide) (by rw [hR]; decide) (by rw [hR]; decide) (fun q_16 => ?_)
  refine r_norm (ws' := [(u, .inr (8, [.null, .ref q_8, .null, .null, .int (nI 0), .int (nI 0), .int (nI 0), .int (nI 0), .int (nI 0), .int (bI false)])), (q_8, .inl (g.2.1 0, 10496, .inl (aI (fun _ => 0)))), (q_16, .inl (g.2.1 4, 40, .inr (.inr (.inr (.inr (fun _ => none))))))]) (st' := [.ref q_16, .ref u]) (n1 := 0 + 1 + 1) (n2 := 0 + 10496 + 40) rfl rfl rfl rfl ?_
  refine r_putF C hin (ws' := [(u, .inr (8, [.null, .ref q_8, .ref q_16, .null, .int (nI 0), .int (nI 0), .int (nI 0), .int (nI 0), .int (nI 0), .int (bI false)])), (q_8, .inl (g.2.1 0, 10496, .inl (aI (fun _ => 0)))), (q_16, .inl (g.2.1 4, 40, .inr (.inr (.inr (.inr (fun _ => none))))))]) 0 2 d_Unroller_init_19 ci_Unroller fl_Unroller_17 rfl rfl (by decide) rfl rfl (rfl) (rfl) (by simp) rfl ?_
  refine r_aload_n C 0 d_Unroller_init_22 rfl rfl ?_
  refine r_sipush C (nI 256) d_Unroller_init_23 (by decide) ?_
  refine r_newn C 0 d_Unroller_init_26 rfl ac_int rfl (fun _ => rfl) (by decide) (by decide) (by rw [hR]; decide) (by rw [hR]; decide) (fun q_26 => ?_)
  refine r_norm (ws' := [(u, .inr (8, [.null, .ref q_8, .ref q_16, .null, .int (nI 0), .int (nI 0), .int (nI 0), .int (nI 0), .int (nI 0), .int (bI false)])), (q_8, .inl (g.2.1 0, 10496, .inl (aI (fun _ => 0)))), (q_16, .inl (g.2.1 4, 40, .inr (.inr (.inr (.inr (fun _ => none)))))), (q_26, .inl (g.2.1 0, 256, .inl (aI (fun _ => 0))))]) (st' := [.ref q_26, .ref u]) (n1 := 0 + 1 + 1 + 1) (n2 := 0 + 10496 + 40 + 256) rfl rfl rfl rfl ?_
  refine r_putF C hin (ws' := [(u, .inr (8, [.null, .ref q_8, .ref q_16, .ref q_26, .int (nI 0), .int (nI 0), .int (nI 0), .int (nI 0), .int (nI 0), .int (bI false)])), (q_8, .inl (g.2.1 0, 10496, .inl (aI (fun _ => 0)))), (q_16, .inl (g.2.1 4, 40, .inr (.inr (.inr (.inr (fun _ => none)))))), (q_26, .inl (g.2.1 0, 256, .inl (aI (fun _ => 0))))]) 0 3 d_Unroller_init_28 ci_Unroller fl_Unroller_21 rfl rfl (by decide) rfl rfl (rfl) (rfl) (by simp) rfl ?_
  refine r_aload_n C 0 d_Unroller_init_31 rfl rfl ?_
  refine r_aload_n C 1 d_Unroller_init_32 rfl rfl ?_
  refine r_putF C hin (ws' := [(u, .inr (8, [.ref s, .ref q_8, .ref q_16, .ref q_26, .int (nI 0), .int (nI 0), .int (nI 0), .int (nI 0), .int (nI 0), .int (bI false)])), (q_8, .inl (g.2.1 0, 10496, .inl (aI (fun _ => 0)))), (q_16, .inl (g.2.1 4, 40, .inr (.inr (.inr (.inr (fun _ => none)))))), (q_26, .inl (g.2.1 0, 256, .inl (aI (fun _ => 0))))]) 0 0 d_Unroller_init_33 ci_Unroller fl_Unroller_24 rfl rfl (by decide) rfl rfl (rfl) (rfl) (by simp) rfl ?_
  refine r_vret C E d_Unroller_init_36 (by first | decide | omega | (simp only [rmk]; omega)) (by first | decide | omega | (simp only [rmk]; omega)) ?_
  exact ⟨_, _, _, rfl, rfl⟩

set_option maxHeartbeats 4000000 in
set_option maxRecDepth 100000 in
theorem c_RR_init (g : GG) (l : Launch) {x0 : Nat}   : Cn g l y_RR_init b_RR_init 1 none (rmk 3 21 65496 55) [.ref x0] ([(x0, .inr (0, [.null, .null, .null, .null, .null]))]) (fun (r0 : Option Value) (w0 : va_W) => ∃ t : Nat, ∃ tb : Nat, ∃ bk : Nat, ∃ ra : Nat, ∃ pa : Nat, ∃ p : Nat, ∃ a : Nat, ∃ zs : Nat, ∃ zb : Nat, ∃ ze : Nat, ∃ zv : Nat, ∃ zw : Nat, ∃ s : Nat, ∃ ru : Nat, ∃ sa : Nat, ∃ ps : Nat, ∃ to : Nat, ∃ u : Nat, ∃ ss : Nat, ∃ la : Nat, ∃ ke : Nat, r0 = none ∧ w0 = [(x0, .inr (0, [.ref t, .ref bk, .ref p, .ref s, .ref u])), (t, .inr (1, [.ref tb, .int (nI 0)])), (tb, .inl (g.2.1 1, 2000, .inl (aI (fun _ => 0)))), (bk, .inr (5, [.ref ra, .ref pa, .int (bI false), .int (nI 0), .int (nI 0), .int (nI 0)])), (ra, .inl (g.2.1 3, 400, .inr (.inr (.inr (.inr (fun _ => none)))))), (pa, .inl (g.2.1 1, 4000, .inl (aI (fun _ => 0)))), (p, .inr (6, [.ref bk, .ref a])), (a, .inr (2, [.ref t, .ref zs, .ref zb, .ref ze, .ref zv, .ref zw, .int (nI 0), .int (nI 0), .int (nI 0), .int (nI 0), .int (nI 0), .int (nI 0), .null])), (zs, .inl (g.2.1 0, 2001, .inl (aI (fun _ => 0)))), (zb, .inl (g.2.1 0, 2001, .inl (aI (fun _ => 0)))), (ze, .inl (g.2.1 0, 2001, .inl (aI (fun _ => 0)))), (zv, .inl (g.2.1 0, 2001, .inl (oA (fun _ => some 0)))), (zw, .inl (g.2.1 6, 2001, .inr (.inr (.inr (.inr (fun _ => none)))))), (s, .inr (7, [.ref ru, .ref sa, .ref ps, .ref to, .int (nI 0), .int (nI 0), .int (nI 0)])), (ru, .inl (g.2.1 0, 4000, .inl (aI (fun _ => 0)))), (sa, .inl (g.2.1 0, 4001, .inl (aI (fun _ => 0)))), (ps, .inl (g.2.1 0, 30000, .inl (aI (fun _ => 0)))), (to, .inl (g.2.1 2, 256, .inl (zI (fun _ => false)))), (u, .inr (8, [.ref s, .ref ss, .ref la, .ref ke, .int (nI 0), .int (nI 0), .int (nI 0), .int (nI 0), .int (nI 0), .int (bI false)])), (ss, .inl (g.2.1 0, 10496, .inl (aI (fun _ => 0)))), (la, .inl (g.2.1 4, 40, .inr (.inr (.inr (.inr (fun _ => none)))))), (ke, .inl (g.2.1 0, 256, .inl (aI (fun _ => 0))))]) := by
  refine Cn.of R_RR [(0, .ref x0)] (by decide) rfl (Nat.le_of_ble_eq_true rfl) rfl ?_
  intro x A Q hR hXl hin C E
  subst hXl
  refine r_aload_n C 0 d_RR_init_0 rfl rfl ?_
  refine r_objInit C d_RR_init_1 ml_RR_3 oi_1 oi_2 (by rw [hR]; decide) (by rw [hR]; decide) ?_
  refine r_aload_n C 0 d_RR_init_4 rfl rfl ?_
  refine r_new C d_RR_init_5 ci_Text cl_RR_9 in_Text iz_Text (fs := [.null, .int (nI 0)]) (by intro j hj; rcases (show j = 0 ∨ j = 1 by omega) with rfl | rfl <;> rfl) (by rw [hR]; decide) (by rw [hR]; decide) (fun q_5 => ?_)
  refine r_norm (ws' := [(x0, .inr (0, [.null, .null, .null, .null, .null])), (q_5, .inr (1, [.null, .int (nI 0)]))]) (st' := [.ref q_5, .ref x0]) (n1 := 0 + 1) (n2 := 0 + 2) rfl rfl rfl rfl ?_
  refine r_dup C d_RR_init_8 rfl ?_
  refine j_callI C (c_Text_init g (xl x) (t := q_5) ) (Sp.of (wr := [(x0, .inr (0, [.null, .null, .null, .null, .null]))]) [1] [0] rfl rfl rfl rfl (by decide)) d_RR_init_9 lk_RR_11 mw_Text_init rfl im_Text_init (fit_of hR (by first | decide | (simp only [rmk]; omega)) (by first | decide | (simp only [rmk]; omega)) (by first | decide | (simp only [rmk]; omega)) (by first | decide | (simp only [rmk]; omega))) rfl (cat8 (Nat.le_of_ble_eq_true rfl)) (As := []) (rest := [.ref q_5, .ref x0]) rfl (fun r_9 w_9 hp_9 => ?_)
  obtain ⟨tb_9, rfl, rfl⟩ := hp_9
  refine r_after (ws' := [(x0, .inr (0, [.null, .null, .null, .null, .null])), (q_5, .inr (1, [.ref tb_9, .int (nI 0)])), (tb_9, .inl (g.2.1 1, 2000, .inl (aI (fun _ => 0))))]) (st' := [.ref q_5, .ref x0]) (n1 := 0 + 1 + 1) (n2 := 0 + 2 + 2000) [0, 1, 2] rfl rfl rfl rfl rfl ?_
  refine r_putF C hin (ws' := [(x0, .inr (0, [.ref q_5, .null, .null, .null, .null])), (q_5, .inr (1, [.ref tb_9, .int (nI 0)])), (tb_9, .inl (g.2.1 1, 2000, .inl (aI (fun _ => 0))))]) 0 0 d_RR_init_12 ci_RR fl_RR_12 rfl rfl (by decide) rfl rfl (rfl) (rfl) (by simp) rfl ?_
  refine r_aload_n C 0 d_RR_init_15 rfl rfl ?_
  refine r_new C d_RR_init_16 ci_Book cl_RR_16 in_Book iz_Book (fs := [.null, .null, .int (bI false), .int (nI 0), .int (nI 0), .int (nI 0)]) (by intro j hj; rcases (show j = 0 ∨ j = 1 ∨ j = 2 ∨ j = 3 ∨ j = 4 ∨ j = 5 by omega) with rfl | rfl | rfl | rfl | rfl | rfl <;> rfl) (by rw [hR]; decide) (by rw [hR]; decide) (fun q_16 => ?_)
  refine r_norm (ws' := [(x0, .inr (0, [.ref q_5, .null, .null, .null, .null])), (q_5, .inr (1, [.ref tb_9, .int (nI 0)])), (tb_9, .inl (g.2.1 1, 2000, .inl (aI (fun _ => 0)))), (q_16, .inr (5, [.null, .null, .int (bI false), .int (nI 0), .int (nI 0), .int (nI 0)]))]) (st' := [.ref q_16, .ref x0]) (n1 := 0 + 1 + 1 + 1) (n2 := 0 + 2 + 2000 + 6) rfl rfl rfl rfl ?_
  refine r_dup C d_RR_init_19 rfl ?_
  refine j_callI C (c_Book_init g (xl x) (bk := q_16) ) (Sp.of (wr := [(x0, .inr (0, [.ref q_5, .null, .null, .null, .null])), (q_5, .inr (1, [.ref tb_9, .int (nI 0)])), (tb_9, .inl (g.2.1 1, 2000, .inl (aI (fun _ => 0))))]) [3] [0, 1, 2] rfl rfl rfl rfl (by decide)) d_RR_init_20 lk_RR_18 mw_Book_init rfl im_Book_init (fit_of hR (by first | decide | (simp only [rmk]; omega)) (by first | decide | (simp only [rmk]; omega)) (by first | decide | (simp only [rmk]; omega)) (by first | decide | (simp only [rmk]; omega))) rfl (cat8 (Nat.le_of_ble_eq_true rfl)) (As := []) (rest := [.ref q_16, .ref x0]) rfl (fun r_20 w_20 hp_20 => ?_)
  obtain ⟨ra_20, pa_20, rfl, rfl⟩ := hp_20
  refine r_after (ws' := [(x0, .inr (0, [.ref q_5, .null, .null, .null, .null])), (q_5, .inr (1, [.ref tb_9, .int (nI 0)])), (tb_9, .inl (g.2.1 1, 2000, .inl (aI (fun _ => 0)))), (q_16, .inr (5, [.ref ra_20, .ref pa_20, .int (bI false), .int (nI 0), .int (nI 0), .int (nI 0)])), (ra_20, .inl (g.2.1 3, 400, .inr (.inr (.inr (.inr (fun _ => none)))))), (pa_20, .inl (g.2.1 1, 4000, .inl (aI (fun _ => 0))))]) (st' := [.ref q_16, .ref x0]) (n1 := 0 + 1 + 1 + 1 + 2) (n2 := 0 + 2 + 2000 + 6 + 4400) [0, 1, 2, 3, 4, 5] rfl rfl rfl rfl rfl ?_
  refine r_putF C hin (ws' := [(x0, .inr (0, [.ref q_5, .ref q_16, .null, .null, .null])), (q_5, .inr (1, [.ref tb_9, .int (nI 0)])), (tb_9, .inl (g.2.1 1, 2000, .inl (aI (fun _ => 0)))), (q_16, .inr (5, [.ref ra_20, .ref pa_20, .int (bI false), .int (nI 0), .int (nI 0), .int (nI 0)])), (ra_20, .inl (g.2.1 3, 400, .inr (.inr (.inr (.inr (fun _ => none)))))), (pa_20, .inl (g.2.1 1, 4000, .inl (aI (fun _ => 0))))]) 0 1 d_RR_init_23 ci_RR fl_RR_19 rfl rfl (by decide) rfl rfl (rfl) (rfl) (by simp) rfl ?_
  refine r_aload_n C 0 d_RR_init_26 rfl rfl ?_
  refine r_new C d_RR_init_27 ci_Parser cl_RR_23 in_Parser iz_Parser (fs := [.null, .null]) (by intro j hj; rcases (show j = 0 ∨ j = 1 by omega) with rfl | rfl <;> rfl) (by rw [hR]; decide) (by rw [hR]; decide) (fun q_27 => ?_)
  refine r_norm (ws' := [(x0, .inr (0, [.ref q_5, .ref q_16, .null, .null, .null])), (q_5, .inr (1, [.ref tb_9, .int (nI 0)])), (tb_9, .inl (g.2.1 1, 2000, .inl (aI (fun _ => 0)))), (q_16, .inr (5, [.ref ra_20, .ref pa_20, .int (bI false), .int (nI 0), .int (nI 0), .int (nI 0)])), (ra_20, .inl (g.2.1 3, 400, .inr (.inr (.inr (.inr (fun _ => none)))))), (pa_20, .inl (g.2.1 1, 4000, .inl (aI (fun _ => 0)))), (q_27, .inr (6, [.null, .null]))]) (st' := [.ref q_27, .ref x0]) (n1 := 0 + 1 + 1 + 1 + 2 + 1) (n2 := 0 + 2 + 2000 + 6 + 4400 + 2) rfl rfl rfl rfl ?_
  refine r_dup C d_RR_init_30 rfl ?_
  refine r_aload_n C 0 d_RR_init_31 rfl rfl ?_
  refine r_get C 0 0 d_RR_init_32 ci_RR fi_RR_12 rfl (by decide) rfl rfl ?_
  refine r_aload_n C 0 d_RR_init_35 rfl rfl ?_
  refine r_get C 0 1 d_RR_init_36 ci_RR fi_RR_19 rfl (by decide) rfl rfl ?_
  refine j_callI C (c_Parser_init g (xl x) (p := q_27) (t := q_5) (bk := q_16) ) (Sp.of (wr := [(x0, .inr (0, [.ref q_5, .ref q_16, .null, .null, .null])), (q_5, .inr (1, [.ref tb_9, .int (nI 0)])), (tb_9, .inl (g.2.1 1, 2000, .inl (aI (fun _ => 0)))), (q_16, .inr (5, [.ref ra_20, .ref pa_20, .int (bI false), .int (nI 0), .int (nI 0), .int (nI 0)])), (ra_20, .inl (g.2.1 3, 400, .inr (.inr (.inr (.inr (fun _ => none)))))), (pa_20, .inl (g.2.1 1, 4000, .inl (aI (fun _ => 0))))]) [6] [0, 1, 2, 3, 4, 5] rfl rfl rfl rfl (by decide)) d_RR_init_39 lk_RR_25 mw_Parser_init rfl im_Parser_init (fit_of hR (by first | decide | (simp only [rmk]; omega)) (by first | decide | (simp only [rmk]; omega)) (by first | decide | (simp only [rmk]; omega)) (by first | decide | (simp only [rmk]; omega))) rfl (cat8 (Nat.le_of_ble_eq_true rfl)) (As := [.ref q_5, .ref q_16]) (rest := [.ref q_27, .ref x0]) rfl (fun r_39 w_39 hp_39 => ?_)
  obtain ⟨a_39, zs_39, zb_39, ze_39, zv_39, zw_39, rfl, rfl⟩ := hp_39
  refine r_after (ws' := [(x0, .inr (0, [.ref q_5, .ref q_16, .null, .null, .null])), (q_5, .inr (1, [.ref tb_9, .int (nI 0)])), (tb_9, .inl (g.2.1 1, 2000, .inl (aI (fun _ => 0)))), (q_16, .inr (5, [.ref ra_20, .ref pa_20, .int (bI false), .int (nI 0), .int (nI 0), .int (nI 0)])), (ra_20, .inl (g.2.1 3, 400, .inr (.inr (.inr (.inr (fun _ => none)))))), (pa_20, .inl (g.2.1 1, 4000, .inl (aI (fun _ => 0)))), (q_27, .inr (6, [.ref q_16, .ref a_39])), (a_39, .inr (2, [.ref q_5, .ref zs_39, .ref zb_39, .ref ze_39, .ref zv_39, .ref zw_39, .int (nI 0), .int (nI 0), .int (nI 0), .int (nI 0), .int (nI 0), .int (nI 0), .null])), (zs_39, .inl (g.2.1 0, 2001, .inl (aI (fun _ => 0)))), (zb_39, .inl (g.2.1 0, 2001, .inl (aI (fun _ => 0)))), (ze_39, .inl (g.2.1 0, 2001, .inl (aI (fun _ => 0)))), (zv_39, .inl (g.2.1 0, 2001, .inl (oA (fun _ => some 0)))), (zw_39, .inl (g.2.1 6, 2001, .inr (.inr (.inr (.inr (fun _ => none))))))]) (st' := [.ref q_27, .ref x0]) (n1 := 0 + 1 + 1 + 1 + 2 + 1 + 6) (n2 := 0 + 2 + 2000 + 6 + 4400 + 2 + 10018) [0, 1, 2, 3, 4, 5, 6, 7, 8, 9, 10, 11, 12] rfl rfl rfl rfl rfl ?_
  refine r_putF C hin (ws' := [(x0, .inr (0, [.ref q_5, .ref q_16, .ref q_27, .null, .null])), (q_5, .inr (1, [.ref tb_9, .int (nI 0)])), (tb_9, .inl (g.2.1 1, 2000, .inl (aI (fun _ => 0)))), (q_16, .inr (5, [.ref ra_20, .ref pa_20, .int (bI false), .int (nI 0), .int (nI 0), .int (nI 0)])), (ra_20, .inl (g.2.1 3, 400, .inr (.inr (.inr (.inr (fun _ => none)))))), (pa_20, .inl (g.2.1 1, 4000, .inl (aI (fun _ => 0)))), (q_27, .inr (6, [.ref q_16, .ref a_39])), (a_39, .inr (2, [.ref q_5, .ref zs_39, .ref zb_39, .ref ze_39, .ref zv_39, .ref zw_39, .int (nI 0), .int (nI 0), .int (nI 0), .int (nI 0), .int (nI 0), .int (nI 0), .null])), (zs_39, .inl (g.2.1 0, 2001, .inl (aI (fun _ => 0)))), (zb_39, .inl (g.2.1 0, 2001, .inl (aI (fun _ => 0)))), (ze_39, .inl (g.2.1 0, 2001, .inl (aI (fun _ => 0)))), (zv_39, .inl (g.2.1 0, 2001, .inl (oA (fun _ => some 0)))), (zw_39, .inl (g.2.1 6, 2001, .inr (.inr (.inr (.inr (fun _ => none))))))]) 0 2 d_RR_init_42 ci_RR fl_RR_28 rfl rfl (by decide) rfl rfl (rfl) (rfl) (by simp) rfl ?_
  refine r_aload_n C 0 d_RR_init_45 rfl rfl ?_
  refine r_new C d_RR_init_46 ci_RowStore cl_RR_32 in_RowStore iz_RowStore (fs := [.null, .null, .null, .null, .int (nI 0), .int (nI 0), .int (nI 0)]) (by intro j hj; rcases (show j = 0 ∨ j = 1 ∨ j = 2 ∨ j = 3 ∨ j = 4 ∨ j = 5 ∨ j = 6 by omega) with rfl | rfl | rfl | rfl | rfl | rfl | rfl <;> rfl) (by rw [hR]; decide) (by rw [hR]; decide) (fun q_46 => ?_)
  refine r_norm (ws' := [(x0, .inr (0, [.ref q_5, .ref q_16, .ref q_27, .null, .null])), (q_5, .inr (1, [.ref tb_9, .int (nI 0)])), (tb_9, .inl (g.2.1 1, 2000, .inl (aI (fun _ => 0)))), (q_16, .inr (5, [.ref ra_20, .ref pa_20, .int (bI false), .int (nI 0), .int (nI 0), .int (nI 0)])), (ra_20, .inl (g.2.1 3, 400, .inr (.inr (.inr (.inr (fun _ => none)))))), (pa_20, .inl (g.2.1 1, 4000, .inl (aI (fun _ => 0)))), (q_27, .inr (6, [.ref q_16, .ref a_39])), (a_39, .inr (2, [.ref q_5, .ref zs_39, .ref zb_39, .ref ze_39, .ref zv_39, .ref zw_39, .int (nI 0), .int (nI 0), .int (nI 0), .int (nI 0), .int (nI 0), .int (nI 0), .null])), (zs_39, .inl (g.2.1 0, 2001, .inl (aI (fun _ => 0)))), (zb_39, .inl (g.2.1 0, 2001, .inl (aI (fun _ => 0)))), (ze_39, .inl (g.2.1 0, 2001, .inl (aI (fun _ => 0)))), (zv_39, .inl (g.2.1 0, 2001, .inl (oA (fun _ => some 0)))), (zw_39, .inl (g.2.1 6, 2001, .inr (.inr (.inr (.inr (fun _ => none)))))), (q_46, .inr (7, [.null, .null, .null, .null, .int (nI 0), .int (nI 0), .int (nI 0)]))]) (st' := [.ref q_46, .ref x0]) (n1 := 0 + 1 + 1 + 1 + 2 + 1 + 6 + 1) (n2 := 0 + 2 + 2000 + 6 + 4400 + 2 + 10018 + 7) rfl rfl rfl rfl ?_
  refine r_dup C d_RR_init_49 rfl ?_
  refine j_callI C (c_RowStore_init g (xl x) (s := q_46) ) (Sp.of (wr := [(x0, .inr (0, [.ref q_5, .ref q_16, .ref q_27, .null, .null])), (q_5, .inr (1, [.ref tb_9, .int (nI 0)])), (tb_9, .inl (g.2.1 1, 2000, .inl (aI (fun _ => 0)))), (q_16, .inr (5, [.ref ra_20, .ref pa_20, .int (bI false), .int (nI 0), .int (nI 0), .int (nI 0)])), (ra_20, .inl (g.2.1 3, 400, .inr (.inr (.inr (.inr (fun _ => none)))))), (pa_20, .inl (g.2.1 1, 4000, .inl (aI (fun _ => 0)))), (q_27, .inr (6, [.ref q_16, .ref a_39])), (a_39, .inr (2, [.ref q_5, .ref zs_39, .ref zb_39, .ref ze_39, .ref zv_39, .ref zw_39, .int (nI 0), .int (nI 0), .int (nI 0), .int (nI 0), .int (nI 0), .int (nI 0), .null])), (zs_39, .inl (g.2.1 0, 2001, .inl (aI (fun _ => 0)))), (zb_39, .inl (g.2.1 0, 2001, .inl (aI (fun _ => 0)))), (ze_39, .inl (g.2.1 0, 2001, .inl (aI (fun _ => 0)))), (zv_39, .inl (g.2.1 0, 2001, .inl (oA (fun _ => some 0)))), (zw_39, .inl (g.2.1 6, 2001, .inr (.inr (.inr (.inr (fun _ => none))))))]) [13] [0, 1, 2, 3, 4, 5, 6, 7, 8, 9, 10, 11, 12] rfl rfl rfl rfl (by decide)) d_RR_init_50 lk_RR_34 mw_RowStore_init rfl im_RowStore_init (fit_of hR (by first | decide | (simp only [rmk]; omega)) (by first | decide | (simp only [rmk]; omega)) (by first | decide | (simp only [rmk]; omega)) (by first | decide | (simp only [rmk]; omega))) rfl (cat8 (Nat.le_of_ble_eq_true rfl)) (As := []) (rest := [.ref q_46, .ref x0]) rfl (fun r_50 w_50 hp_50 => ?_)
  obtain ⟨ru_50, sa_50, ps_50, to_50, rfl, rfl⟩ := hp_50
  refine r_after (ws' := [(x0, .inr (0, [.ref q_5, .ref q_16, .ref q_27, .null, .null])), (q_5, .inr (1, [.ref tb_9, .int (nI 0)])), (tb_9, .inl (g.2.1 1, 2000, .inl (aI (fun _ => 0)))), (q_16, .inr (5, [.ref ra_20, .ref pa_20, .int (bI false), .int (nI 0), .int (nI 0), .int (nI 0)])), (ra_20, .inl (g.2.1 3, 400, .inr (.inr (.inr (.inr (fun _ => none)))))), (pa_20, .inl (g.2.1 1, 4000, .inl (aI (fun _ => 0)))), (q_27, .inr (6, [.ref q_16, .ref a_39])), (a_39, .inr (2, [.ref q_5, .ref zs_39, .ref zb_39, .ref ze_39, .ref zv_39, .ref zw_39, .int (nI 0), .int (nI 0), .int (nI 0), .int (nI 0), .int (nI 0), .int (nI 0), .null])), (zs_39, .inl (g.2.1 0, 2001, .inl (aI (fun _ => 0)))), (zb_39, .inl (g.2.1 0, 2001, .inl (aI (fun _ => 0)))), (ze_39, .inl (g.2.1 0, 2001, .inl (aI (fun _ => 0)))), (zv_39, .inl (g.2.1 0, 2001, .inl (oA (fun _ => some 0)))), (zw_39, .inl (g.2.1 6, 2001, .inr (.inr (.inr (.inr (fun _ => none)))))), (q_46, .inr (7, [.ref ru_50, .ref sa_50, .ref ps_50, .ref to_50, .int (nI 0), .int (nI 0), .int (nI 0)])), (ru_50, .inl (g.2.1 0, 4000, .inl (aI (fun _ => 0)))), (sa_50, .inl (g.2.1 0, 4001, .inl (aI (fun _ => 0)))), (ps_50, .inl (g.2.1 0, 30000, .inl (aI (fun _ => 0)))), (to_50, .inl (g.2.1 2, 256, .inl (zI (fun _ => false))))]) (st' := [.ref q_46, .ref x0]) (n1 := 0 + 1 + 1 + 1 + 2 + 1 + 6 + 1 + 4) (n2 := 0 + 2 + 2000 + 6 + 4400 + 2 + 10018 + 7 + 38257) [0, 1, 2, 3, 4, 5, 6, 7, 8, 9, 10, 11, 12, 13, 14, 15, 16, 17] rfl rfl rfl rfl rfl ?_
  refine r_putF C hin (ws' := [(x0, .inr (0, [.ref q_5, .ref q_16, .ref q_27, .ref q_46, .null])), (q_5, .inr (1, [.ref tb_9, .int (nI 0)])), (tb_9, .inl (g.2.1 1, 2000, .inl (aI (fun _ => 0)))), (q_16, .inr (5, [.ref ra_20, .ref pa_20, .int (bI false), .int (nI 0), .int (nI 0), .int (nI 0)])), (ra_20, .inl (g.2.1 3, 400, .inr (.inr (.inr (.inr (fun _ => none)))))), (pa_20, .inl (g.2.1 1, 4000, .inl (aI (fun _ => 0)))), (q_27, .inr (6, [.ref q_16, .ref a_39])), (a_39, .inr (2, [.ref q_5, .ref zs_39, .ref zb_39, .ref ze_39, .ref zv_39, .ref zw_39, .int (nI 0), .int (nI 0), .int (nI 0), .int (nI 0), .int (nI 0), .int (nI 0), .null])), (zs_39, .inl (g.2.1 0, 2001, .inl (aI (fun _ => 0)))), (zb_39, .inl (g.2.1 0, 2001, .inl (aI (fun _ => 0)))), (ze_39, .inl (g.2.1 0, 2001, .inl (aI (fun _ => 0)))), (zv_39, .inl (g.2.1 0, 2001, .inl (oA (fun _ => some 0)))), (zw_39, .inl (g.2.1 6, 2001, .inr (.inr (.inr (.inr (fun _ => none)))))), (q_46, .inr (7, [.ref ru_50, .ref sa_50, .ref ps_50, .ref to_50, .int (nI 0), .int (nI 0), .int (nI 0)])), (ru_50, .inl (g.2.1 0, 4000, .inl (aI (fun _ => 0)))), (sa_50, .inl (g.2.1 0, 4001, .inl (aI (fun _ => 0)))), (ps_50, .inl (g.2.1 0, 30000, .inl (aI (fun _ => 0)))), (to_50, .inl (g.2.1 2, 256, .inl (zI (fun _ => false))))]) 0 3 d_RR_init_53 ci_RR fl_RR_35 rfl rfl (by decide) rfl rfl (rfl) (rfl) (by simp) rfl ?_
  refine r_aload_n C 0 d_RR_init_56 rfl rfl ?_
  refine r_new C d_RR_init_57 ci_Unroller cl_RR_39 in_Unroller iz_Unroller (fs := [.null, .null, .null, .null, .int (nI 0), .int (nI 0), .int (nI 0), .int (nI 0), .int (nI 0), .int (bI false)]) (by intro j hj; rcases (show j = 0 ∨ j = 1 ∨ j = 2 ∨ j = 3 ∨ j = 4 ∨ j = 5 ∨ j = 6 ∨ j = 7 ∨ j = 8 ∨ j = 9 by omega) with rfl | rfl | rfl | rfl | rfl | rfl | rfl | rfl | rfl | rfl <;> rfl) (by rw [hR]; decide) (by rw [hR]; decide) (fun q_57 => ?_)
  refine r_norm (ws' := [(x0, .inr (0, [.ref q_5, .ref q_16, .ref q_27, .ref q_46, .null])), (q_5, .inr (1, [.ref tb_9, .int (nI 0)])), (tb_9, .inl (g.2.1 1, 2000, .inl (aI (fun _ => 0)))), (q_16, .inr (5, [.ref ra_20, .ref pa_20, .int (bI false), .int (nI 0), .int (nI 0), .int (nI 0)])), (ra_20, .inl (g.2.1 3, 400, .inr (.inr (.inr (.inr (fun _ => none)))))), (pa_20, .inl (g.2.1 1, 4000, .inl (aI (fun _ => 0)))), (q_27, .inr (6, [.ref q_16, .ref a_39])), (a_39, .inr (2, [.ref q_5, .ref zs_39, .ref zb_39, .ref ze_39, .ref zv_39, .ref zw_39, .int (nI 0), .int (nI 0), .int (nI 0), .int (nI 0), .int (nI 0), .int (nI 0), .null])), (zs_39, .inl (g.2.1 0, 2001, .inl (aI (fun _ => 0)))), (zb_39, .inl (g.2.1 0, 2001, .inl (aI (fun _ => 0)))), (ze_39, .inl (g.2.1 0, 2001, .inl (aI (fun _ => 0)))), (zv_39, .inl (g.2.1 0, 2001, .inl (oA (fun _ => some 0)))), (zw_39, .inl (g.2.1 6, 2001, .inr (.inr (.inr (.inr (fun _ => none)))))), (q_46, .inr (7, [.ref ru_50, .ref sa_50, .ref ps_50, .ref to_50, .int (nI 0), .int (nI 0), .int (nI 0)])), (ru_50, .inl (g.2.1 0, 4000, .inl (aI (fun _ => 0)))), (sa_50, .inl (g.2.1 0, 4001, .inl (aI (fun _ => 0)))), (ps_50, .inl (g.2.1 0, 30000, .inl (aI (fun _ => 0)))), (to_50, .inl (g.2.1 2, 256, .inl (zI (fun _ => false)))), (q_57, .inr (8, [.null, .null, .null, .null, .int (nI 0), .int (nI 0), .int (nI 0), .int (nI 0), .int (nI 0), .int (bI false)]))]) (st' := [.ref q_57, .ref x0]) (n1 := 0 + 1 + 1 + 1 + 2 + 1 + 6 + 1 + 4 + 1) (n2 := 0 + 2 + 2000 + 6 + 4400 + 2 + 10018 + 7 + 38257 + 10) rfl rfl rfl rfl ?_
  refine r_dup C d_RR_init_60 rfl ?_
  refine r_aload_n C 0 d_RR_init_61 rfl rfl ?_
  refine r_get C 0 3 d_RR_init_62 ci_RR fi_RR_35 rfl (by decide) rfl rfl ?_
  refine j_callI C (c_Unroller_init g (xl x) (u := q_57) (s := q_46) ) (Sp.of (wr := [(x0, .inr (0, [.ref q_5, .ref q_16, .ref q_27, .ref q_46, .null])), (q_5, .inr (1, [.ref tb_9, .int (nI 0)])), (tb_9, .inl (g.2.1 1, 2000, .inl (aI (fun _ => 0)))), (q_16, .inr (5, [.ref ra_20, .ref pa_20, .int (bI false), .int (nI 0), .int (nI 0), .int (nI 0)])), (ra_20, .inl (g.2.1 3, 400, .inr (.inr (.inr (.inr (fun _ => none)))))), (pa_20, .inl (g.2.1 1, 4000, .inl (aI (fun _ => 0)))), (q_27, .inr (6, [.ref q_16, .ref a_39])), (a_39, .inr (2, [.ref q_5, .ref zs_39, .ref zb_39, .ref ze_39, .ref zv_39, .ref zw_39, .int (nI 0), .int (nI 0), .int (nI 0), .int (nI 0), .int (nI 0), .int (nI 0), .null])), (zs_39, .inl (g.2.1 0, 2001, .inl (aI (fun _ => 0)))), (zb_39, .inl (g.2.1 0, 2001, .inl (aI (fun _ => 0)))), (ze_39, .inl (g.2.1 0, 2001, .inl (aI (fun _ => 0)))), (zv_39, .inl (g.2.1 0, 2001, .inl (oA (fun _ => some 0)))), (zw_39, .inl (g.2.1 6, 2001, .inr (.inr (.inr (.inr (fun _ => none)))))), (q_46, .inr (7, [.ref ru_50, .ref sa_50, .ref ps_50, .ref to_50, .int (nI 0), .int (nI 0), .int (nI 0)])), (ru_50, .inl (g.2.1 0, 4000, .inl (aI (fun _ => 0)))), (sa_50, .inl (g.2.1 0, 4001, .inl (aI (fun _ => 0)))), (ps_50, .inl (g.2.1 0, 30000, .inl (aI (fun _ => 0)))), (to_50, .inl (g.2.1 2, 256, .inl (zI (fun _ => false))))]) [18] [0, 1, 2, 3, 4, 5, 6, 7, 8, 9, 10, 11, 12, 13, 14, 15, 16, 17] rfl rfl rfl rfl (by decide)) d_RR_init_65 lk_RR_41 mw_Unroller_init rfl im_Unroller_init (fit_of hR (by first | decide | (simp only [rmk]; omega)) (by first | decide | (simp only [rmk]; omega)) (by first | decide | (simp only [rmk]; omega)) (by first | decide | (simp only [rmk]; omega))) rfl (cat8 (Nat.le_of_ble_eq_true rfl)) (As := [.ref q_46]) (rest := [.ref q_57, .ref x0]) rfl (fun r_65 w_65 hp_65 => ?_)
  obtain ⟨ss_65, la_65, ke_65, rfl, rfl⟩ := hp_65
  refine r_after (ws' := [(x0, .inr (0, [.ref q_5, .ref q_16, .ref q_27, .ref q_46, .null])), (q_5, .inr (1, [.ref tb_9, .int (nI 0)])), (tb_9, .inl (g.2.1 1, 2000, .inl (aI (fun _ => 0)))), (q_16, .inr (5, [.ref ra_20, .ref pa_20, .int (bI false), .int (nI 0), .int (nI 0), .int (nI 0)])), (ra_20, .inl (g.2.1 3, 400, .inr (.inr (.inr (.inr (fun _ => none)))))), (pa_20, .inl (g.2.1 1, 4000, .inl (aI (fun _ => 0)))), (q_27, .inr (6, [.ref q_16, .ref a_39])), (a_39, .inr (2, [.ref q_5, .ref zs_39, .ref zb_39, .ref ze_39, .ref zv_39, .ref zw_39, .int (nI 0), .int (nI 0), .int (nI 0), .int (nI 0), .int (nI 0), .int (nI 0), .null])), (zs_39, .inl (g.2.1 0, 2001, .inl (aI (fun _ => 0)))), (zb_39, .inl (g.2.1 0, 2001, .inl (aI (fun _ => 0)))), (ze_39, .inl (g.2.1 0, 2001, .inl (aI (fun _ => 0)))), (zv_39, .inl (g.2.1 0, 2001, .inl (oA (fun _ => some 0)))), (zw_39, .inl (g.2.1 6, 2001, .inr (.inr (.inr (.inr (fun _ => none)))))), (q_46, .inr (7, [.ref ru_50, .ref sa_50, .ref ps_50, .ref to_50, .int (nI 0), .int (nI 0), .int (nI 0)])), (ru_50, .inl (g.2.1 0, 4000, .inl (aI (fun _ => 0)))), (sa_50, .inl (g.2.1 0, 4001, .inl (aI (fun _ => 0)))), (ps_50, .inl (g.2.1 0, 30000, .inl (aI (fun _ => 0)))), (to_50, .inl (g.2.1 2, 256, .inl (zI (fun _ => false)))), (q_57, .inr (8, [.ref q_46, .ref ss_65, .ref la_65, .ref ke_65, .int (nI 0), .int (nI 0), .int (nI 0), .int (nI 0), .int (nI 0), .int (bI false)])), (ss_65, .inl (g.2.1 0, 10496, .inl (aI (fun _ => 0)))), (la_65, .inl (g.2.1 4, 40, .inr (.inr (.inr (.inr (fun _ => none)))))), (ke_65, .inl (g.2.1 0, 256, .inl (aI (fun _ => 0))))]) (st' := [.ref q_57, .ref x0]) (n1 := 0 + 1 + 1 + 1 + 2 + 1 + 6 + 1 + 4 + 1 + 3) (n2 := 0 + 2 + 2000 + 6 + 4400 + 2 + 10018 + 7 + 38257 + 10 + 10792) [0, 1, 2, 3, 4, 5, 6, 7, 8, 9, 10, 11, 12, 13, 14, 15, 16, 17, 18, 19, 20, 21] rfl rfl rfl rfl rfl ?_
  refine r_putF C hin (ws' := [(x0, .inr (0, [.ref q_5, .ref q_16, .ref q_27, .ref q_46, .ref q_57])), (q_5, .inr (1, [.ref tb_9, .int (nI 0)])), (tb_9, .inl (g.2.1 1, 2000, .inl (aI (fun _ => 0)))), (q_16, .inr (5, [.ref ra_20, .ref pa_20, .int (bI false), .int (nI 0), .int (nI 0), .int (nI 0)])), (ra_20, .inl (g.2.1 3, 400, .inr (.inr (.inr (.inr (fun _ => none)))))), (pa_20, .inl (g.2.1 1, 4000, .inl (aI (fun _ => 0)))), (q_27, .inr (6, [.ref q_16, .ref a_39])), (a_39, .inr (2, [.ref q_5, .ref zs_39, .ref zb_39, .ref ze_39, .ref zv_39, .ref zw_39, .int (nI 0), .int (nI 0), .int (nI 0), .int (nI 0), .int (nI 0), .int (nI 0), .null])), (zs_39, .inl (g.2.1 0, 2001, .inl (aI (fun _ => 0)))), (zb_39, .inl (g.2.1 0, 2001, .inl (aI (fun _ => 0)))), (ze_39, .inl (g.2.1 0, 2001, .inl (aI (fun _ => 0)))), (zv_39, .inl (g.2.1 0, 2001, .inl (oA (fun _ => some 0)))), (zw_39, .inl (g.2.1 6, 2001, .inr (.inr (.inr (.inr (fun _ => none)))))), (q_46, .inr (7, [.ref ru_50, .ref sa_50, .ref ps_50, .ref to_50, .int (nI 0), .int (nI 0), .int (nI 0)])), (ru_50, .inl (g.2.1 0, 4000, .inl (aI (fun _ => 0)))), (sa_50, .inl (g.2.1 0, 4001, .inl (aI (fun _ => 0)))), (ps_50, .inl (g.2.1 0, 30000, .inl (aI (fun _ => 0)))), (to_50, .inl (g.2.1 2, 256, .inl (zI (fun _ => false)))), (q_57, .inr (8, [.ref q_46, .ref ss_65, .ref la_65, .ref ke_65, .int (nI 0), .int (nI 0), .int (nI 0), .int (nI 0), .int (nI 0), .int (bI false)])), (ss_65, .inl (g.2.1 0, 10496, .inl (aI (fun _ => 0)))), (la_65, .inl (g.2.1 4, 40, .inr (.inr (.inr (.inr (fun _ => none)))))), (ke_65, .inl (g.2.1 0, 256, .inl (aI (fun _ => 0))))]) 0 4 d_RR_init_68 ci_RR fl_RR_44 rfl rfl (by decide) rfl rfl (rfl) (rfl) (by simp) rfl ?_
  refine r_vret C E d_RR_init_71 (by first | decide | omega | (simp only [rmk]; omega)) (by first | decide | omega | (simp only [rmk]; omega)) ?_
  exact ⟨_, _, _, _, _, _, _, _, _, _, _, _, _, _, _, _, _, _, _, _, _, rfl, rfl⟩

set_option maxHeartbeats 4000000 in
set_option maxRecDepth 100000 in
theorem c_RR_unit (g : GG) (l : Launch) {x0 : Nat} {t : Nat} {bk : Nat} {p : Nat} {s : Nat} {u : Nat} {tb : Nat} {k : Nat} {T : Nat → Nat} {z : Int32}  (hk : k ≤ 2000) : Cn g l y_RR_unit b_RR_unit 2 (some .boolean) (rmk 1 0 0 21) [.ref x0, .int z] ([(x0, .inr (0, [.ref t, .ref bk, .ref p, .ref s, .ref u])), (t, .inr (1, [.ref tb, .int (nI k)])), (tb, .inl (g.2.1 1, 2000, .inl (aI T)))]) (fun (r0 : Option Value) (w0 : va_W) => ∃ ok : Bool, ∃ k2 : Nat, ∃ T2 : Nat → Nat, r0 = some (.int (bI ok)) ∧ w0 = [(x0, .inr (0, [.ref t, .ref bk, .ref p, .ref s, .ref u])), (t, .inr (1, [.ref tb, .int (nI k2)])), (tb, .inl (g.2.1 1, 2000, .inl (aI T2)))] ∧ (Appended T k z ok T2 k2)) := by
  refine Cn.of R_RR [(0, .ref x0), (1, .int z)] (by decide) rfl (Nat.le_of_ble_eq_true rfl) rfl ?_
  intro x A Q hR hXl hin C E
  subst hXl
  refine r_aload_n C 0 d_RR_unit_0 rfl rfl ?_
  refine r_get C 0 0 d_RR_unit_1 ci_RR fi_RR_12 rfl (by decide) rfl rfl ?_
  refine r_iload_n C 1 d_RR_unit_4 rfl rfl ?_
  refine j_callV C (c_Text_append g (xl x) (t := t) (tb := tb) (k := k) (T := T) (u := z) (by first | assumption | rfl | omega)) (Sp.of (wr := [(x0, .inr (0, [.ref t, .ref bk, .ref p, .ref s, .ref u]))]) [1, 2] [0] rfl rfl rfl rfl (by decide)) d_RR_unit_5 lk_RR_48 mw_Text_append vw_Text_append (q0 := 0) rfl rfl (fit_of hR (by first | decide | (simp only [rmk]; omega)) (by first | decide | (simp only [rmk]; omega)) (by first | decide | (simp only [rmk]; omega)) (by first | decide | (simp only [rmk]; omega))) rfl (cat8 (Nat.le_of_ble_eq_true rfl)) (As := [.int z]) (rest := []) rfl (fun r_5 w_5 hp_5 => ?_)
  obtain ⟨ok_5, k2_5, T2_5, rfl, rfl, hap_5⟩ := hp_5
  refine r_after (ws' := [(x0, .inr (0, [.ref t, .ref bk, .ref p, .ref s, .ref u])), (t, .inr (1, [.ref tb, .int (nI k2_5)])), (tb, .inl (g.2.1 1, 2000, .inl (aI T2_5)))]) (st' := [.int (bI ok_5)]) (n1 := 0) (n2 := 0) [0, 1, 2] rfl rfl rfl rfl rfl ?_
  refine r_bret C E d_RR_unit_8 (by first | decide | omega | (simp only [rmk]; omega)) (by first | decide | omega | (simp only [rmk]; omega)) ?_
  exact ⟨_, _, _, rfl, rfl, hap_5⟩

set_option maxHeartbeats 4000000 in
set_option maxRecDepth 100000 in
theorem c_RR_free (g : GG) (l : Launch) {x0 : Nat} {t : Nat} {bk : Nat} {p : Nat} {s : Nat} {u : Nat} {ru : Nat} {sa : Nat} {ps : Nat} {to : Nat} {gs : Nat} {rc : Nat} {pn : Nat} {z : Int32} {TO : Nat → Bool}  (h1 : gs ≤ 256) : Cn g l y_RR_free b_RR_free 2 (some .int) (rmk 1 0 0 23) [.ref x0, .int z] ([(x0, .inr (0, [.ref t, .ref bk, .ref p, .ref s, .ref u])), (s, .inr (7, [.ref ru, .ref sa, .ref ps, .ref to, .int (nI gs), .int (nI rc), .int (nI pn)])), (to, .inl (g.2.1 2, 256, .inl (zI TO)))]) (fun (r0 : Option Value) (w0 : va_W) => r0 = some (.int (oI (freeK TO gs (inN z)))) ∧ w0 = [(x0, .inr (0, [.ref t, .ref bk, .ref p, .ref s, .ref u])), (s, .inr (7, [.ref ru, .ref sa, .ref ps, .ref to, .int (nI gs), .int (nI rc), .int (nI pn)])), (to, .inl (g.2.1 2, 256, .inl (zI TO)))]) := by
  refine Cn.of R_RR [(0, .ref x0), (1, .int z)] (by decide) rfl (Nat.le_of_ble_eq_true rfl) rfl ?_
  intro x A Q hR hXl hin C E
  subst hXl
  refine r_aload_n C 0 d_RR_free_0 rfl rfl ?_
  refine r_get C 0 3 d_RR_free_1 ci_RR fi_RR_35 rfl (by decide) rfl rfl ?_
  refine r_iload_n C 1 d_RR_free_4 rfl rfl ?_
  refine j_callV C (c_RowStore_untouched g (xl x) (s := s) (ru := ru) (sa := sa) (ps := ps) (to := to) (gs := gs) (rc := rc) (pn := pn) (z := z) (TO := TO) (by first | assumption | rfl | omega)) (Sp.of (wr := [(x0, .inr (0, [.ref t, .ref bk, .ref p, .ref s, .ref u]))]) [1, 2] [0] rfl rfl rfl rfl (by decide)) d_RR_free_5 lk_RR_132 mw_RowStore_untouched vw_RowStore_untouched (q0 := 0) rfl rfl (fit_of hR (by first | decide | (simp only [rmk]; omega)) (by first | decide | (simp only [rmk]; omega)) (by first | decide | (simp only [rmk]; omega)) (by first | decide | (simp only [rmk]; omega))) rfl (cat8 (Nat.le_of_ble_eq_true rfl)) (As := [.int z]) (rest := []) rfl (fun r_5 w_5 hp_5 => ?_)
  obtain ⟨rfl, rfl⟩ := hp_5
  refine r_after (ws' := [(x0, .inr (0, [.ref t, .ref bk, .ref p, .ref s, .ref u])), (s, .inr (7, [.ref ru, .ref sa, .ref ps, .ref to, .int (nI gs), .int (nI rc), .int (nI pn)])), (to, .inl (g.2.1 2, 256, .inl (zI TO)))]) (st' := [.int (oI (freeK TO gs (inN z)))]) (n1 := 0) (n2 := 0) [0, 1, 2] rfl rfl rfl rfl rfl ?_
  refine r_iret C E d_RR_free_8 (by first | decide | omega | (simp only [rmk]; omega)) (by first | decide | omega | (simp only [rmk]; omega)) ?_
  exact ⟨rfl, rfl⟩

set_option maxHeartbeats 4000000 in
set_option maxRecDepth 100000 in
theorem c_RR_write (g : GG) (l : Launch) {x0 : Nat} {t : Nat} {bk : Nat} {p : Nat} {s : Nat} {u : Nat} {ra : Nat} {pa : Nat} {rb : Nat} {pb : Nat} {db : Nat} {pr : Bool} {z : Int32} {PA : Nat → Nat}  (h1 : pb ≤ 4000) : Cn g l y_RR_write b_RR_write 2 (some .int) (rmk 1 0 0 21) [.ref x0, .int z] ([(x0, .inr (0, [.ref t, .ref bk, .ref p, .ref s, .ref u])), (bk, .inr (5, [.ref ra, .ref pa, .int (bI pr), .int (nI rb), .int (nI pb), .int (nI db)])), (pa, .inl (g.2.1 1, 4000, .inl (aI PA)))]) (fun (r0 : Option Value) (w0 : va_W) => r0 = some (.int (oI (ruleK PA pb (inN z)))) ∧ w0 = [(x0, .inr (0, [.ref t, .ref bk, .ref p, .ref s, .ref u])), (bk, .inr (5, [.ref ra, .ref pa, .int (bI pr), .int (nI rb), .int (nI pb), .int (nI db)])), (pa, .inl (g.2.1 1, 4000, .inl (aI PA)))]) := by
  refine Cn.of R_RR [(0, .ref x0), (1, .int z)] (by decide) rfl (Nat.le_of_ble_eq_true rfl) rfl ?_
  intro x A Q hR hXl hin C E
  subst hXl
  refine r_aload_n C 0 d_RR_write_0 rfl rfl ?_
  refine r_get C 0 1 d_RR_write_1 ci_RR fi_RR_19 rfl (by decide) rfl rfl ?_
  refine r_iload_n C 1 d_RR_write_4 rfl rfl ?_
  refine j_callV C (c_Book_printedAt g (xl x) (bk := bk) (ra := ra) (pa := pa) (rc := rb) (pn := pb) (dp := db) (pr := pr) (z := z) (PA := PA) (by first | assumption | rfl | omega)) (Sp.of (wr := [(x0, .inr (0, [.ref t, .ref bk, .ref p, .ref s, .ref u]))]) [1, 2] [0] rfl rfl rfl rfl (by decide)) d_RR_write_5 lk_RR_143 mw_Book_printedAt vw_Book_printedAt (q0 := 0) rfl rfl (fit_of hR (by first | decide | (simp only [rmk]; omega)) (by first | decide | (simp only [rmk]; omega)) (by first | decide | (simp only [rmk]; omega)) (by first | decide | (simp only [rmk]; omega))) rfl (cat8 (Nat.le_of_ble_eq_true rfl)) (As := [.int z]) (rest := []) rfl (fun r_5 w_5 hp_5 => ?_)
  obtain ⟨rfl, rfl⟩ := hp_5
  refine r_after (ws' := [(x0, .inr (0, [.ref t, .ref bk, .ref p, .ref s, .ref u])), (bk, .inr (5, [.ref ra, .ref pa, .int (bI pr), .int (nI rb), .int (nI pb), .int (nI db)])), (pa, .inl (g.2.1 1, 4000, .inl (aI PA)))]) (st' := [.int (oI (ruleK PA pb (inN z)))]) (n1 := 0) (n2 := 0) [0, 1, 2] rfl rfl rfl rfl rfl ?_
  refine r_iret C E d_RR_write_8 (by first | decide | omega | (simp only [rmk]; omega)) (by first | decide | omega | (simp only [rmk]; omega)) ?_
  exact ⟨rfl, rfl⟩

set_option maxHeartbeats 4000000 in
set_option maxRecDepth 100000 in
theorem c_RR_depth (g : GG) (l : Launch) {x0 : Nat} {t : Nat} {bk : Nat} {p : Nat} {s : Nat} {u : Nat} {ra : Nat} {pa : Nat} {rb : Nat} {pb : Nat} {db : Nat} {pr : Bool}   : Cn g l y_RR_depth b_RR_depth 1 (some .int) (rmk 0 0 0 0) [.ref x0] ([(x0, .inr (0, [.ref t, .ref bk, .ref p, .ref s, .ref u])), (bk, .inr (5, [.ref ra, .ref pa, .int (bI pr), .int (nI rb), .int (nI pb), .int (nI db)]))]) (fun (r0 : Option Value) (w0 : va_W) => r0 = some (.int (nI db)) ∧ w0 = [(x0, .inr (0, [.ref t, .ref bk, .ref p, .ref s, .ref u])), (bk, .inr (5, [.ref ra, .ref pa, .int (bI pr), .int (nI rb), .int (nI pb), .int (nI db)]))]) := by
  refine Cn.of R_RR [(0, .ref x0)] (by decide) rfl (Nat.le_of_ble_eq_true rfl) rfl ?_
  intro x A Q hR hXl hin C E
  subst hXl
  refine r_aload_n C 0 d_RR_depth_0 rfl rfl ?_
  refine r_get C 0 1 d_RR_depth_1 ci_RR fi_RR_19 rfl (by decide) rfl rfl ?_
  refine r_get C 1 5 d_RR_depth_4 ci_Book fi_RR_146 rfl (by decide) rfl rfl ?_
  refine r_iret C E d_RR_depth_7 (by first | decide | omega | (simp only [rmk]; omega)) (by first | decide | omega | (simp only [rmk]; omega)) ?_
  exact ⟨rfl, rfl⟩

set_option maxHeartbeats 4000000 in
set_option maxRecDepth 100000 in
theorem c_RR_clear (g : GG) (l : Launch) {x0 : Nat} {t : Nat} {bk : Nat} {p : Nat} {s : Nat} {u : Nat} {tb : Nat} {k : Nat} {T : Nat → Nat}   : Cn g l y_RR_clear b_RR_clear 1 none (rmk 0 0 0 0) [.ref x0] ([(x0, .inr (0, [.ref t, .ref bk, .ref p, .ref s, .ref u])), (t, .inr (1, [.ref tb, .int (nI k)])), (tb, .inl (g.2.1 1, 2000, .inl (aI T)))]) (fun (r0 : Option Value) (w0 : va_W) => r0 = none ∧ w0 = [(x0, .inr (0, [.ref t, .ref bk, .ref p, .ref s, .ref u])), (t, .inr (1, [.ref tb, .int (nI 0)])), (tb, .inl (g.2.1 1, 2000, .inl (aI T)))]) := by
  refine Cn.of R_RR [(0, .ref x0)] (by decide) rfl (Nat.le_of_ble_eq_true rfl) rfl ?_
  intro x A Q hR hXl hin C E
  subst hXl
  refine r_aload_n C 0 d_RR_clear_0 rfl rfl ?_
  refine r_get C 0 0 d_RR_clear_1 ci_RR fi_RR_12 rfl (by decide) rfl rfl ?_
  refine r_iconst C (nI 0) d_RR_clear_4 (by decide) ?_
  refine r_put C (ws' := [(x0, .inr (0, [.ref t, .ref bk, .ref p, .ref s, .ref u])), (t, .inr (1, [.ref tb, .int (nI 0)])), (tb, .inl (g.2.1 1, 2000, .inl (aI T)))]) 1 1 d_RR_clear_5 ci_Text fi_RR_149 rfl (by decide) rfl rfl (rfl) (rfl) (by simp) rfl ?_
  refine r_vret C E d_RR_clear_8 (by first | decide | omega | (simp only [rmk]; omega)) (by first | decide | omega | (simp only [rmk]; omega)) ?_
  exact ⟨rfl, rfl⟩

set_option maxHeartbeats 4000000 in
set_option maxRecDepth 100000 in
theorem c_RR_given (g : GG) (l : Launch) {x0 : Nat} {t : Nat} {bk : Nat} {p : Nat} {s : Nat} {u : Nat} {ra : Nat} {pa : Nat} {pn : Nat} {dp : Nat} {pr : Bool} {z : Int32} {RA : Nat → Option Nat} {rules : List RuleV} {PP : va_W}  (h1 : rules.length ≤ 400) (hRA : RulesAt g PP RA rules) (hki : ∀ r ∈ rules, r.1 < 2 ^ 31) : Cn g l y_RR_given b_RR_given 2 (some .int) (rmk 2 0 0 45) [.ref x0, .int z] ([(x0, .inr (0, [.ref t, .ref bk, .ref p, .ref s, .ref u])), (bk, .inr (5, [.ref ra, .ref pa, .int (bI pr), .int (nI rules.length), .int (nI pn), .int (nI dp)])), (ra, .inl (g.2.1 3, 400, .inr (.inr (.inr (.inr RA)))))] ++ PP) (fun (r0 : Option Value) (w0 : va_W) => r0 = some (.int (nI (givenN rules z rules.length))) ∧ w0 = [(x0, .inr (0, [.ref t, .ref bk, .ref p, .ref s, .ref u])), (bk, .inr (5, [.ref ra, .ref pa, .int (bI pr), .int (nI rules.length), .int (nI pn), .int (nI dp)])), (ra, .inl (g.2.1 3, 400, .inr (.inr (.inr (.inr RA)))))] ++ PP) := by
  refine Cn.of R_RR [(0, .ref x0), (1, .int z)] (by decide) rfl (Nat.le_of_ble_eq_true rfl) rfl ?_
  intro x A Q hR hXl hin C E
  subst hXl
  refine r_aload_n C 0 d_RR_given_0 rfl rfl ?_
  refine r_get C 0 1 d_RR_given_1 ci_RR fi_RR_19 rfl (by decide) rfl rfl ?_
  refine r_iload_n C 1 d_RR_given_4 rfl rfl ?_
  refine j_callV C (c_Book_countGiven g (xl x) (bk := bk) (ra := ra) (pa := pa) (pn := pn) (dp := dp) (pr := pr) (z := z) (RA := RA) (rules := rules) (PP := PP) (by first | assumption | rfl | omega) (by first | assumption | rfl | omega) (by first | assumption | rfl | omega)) (Sp.pool (Sp.of (wr := [(x0, .inr (0, [.ref t, .ref bk, .ref p, .ref s, .ref u]))]) [1, 2] [0] rfl rfl rfl rfl (by decide)) PP) d_RR_given_5 lk_RR_135 mw_Book_countGiven vw_Book_countGiven (q0 := 0) rfl rfl (fit_of hR (by first | decide | (simp only [rmk]; omega)) (by first | decide | (simp only [rmk]; omega)) (by first | decide | (simp only [rmk]; omega)) (by first | decide | (simp only [rmk]; omega))) rfl (cat8 (Nat.le_of_ble_eq_true rfl)) (As := [.int z]) (rest := []) rfl (fun r_5 w_5 hp_5 => ?_)
  obtain ⟨rfl, rfl⟩ := hp_5
  refine r_afterP (X := [(x0, .inr (0, [.ref t, .ref bk, .ref p, .ref s, .ref u])), (bk, .inr (5, [.ref ra, .ref pa, .int (bI pr), .int (nI rules.length), .int (nI pn), .int (nI dp)])), (ra, .inl (g.2.1 3, 400, .inr (.inr (.inr (.inr RA)))))]) (X' := [(x0, .inr (0, [.ref t, .ref bk, .ref p, .ref s, .ref u])), (bk, .inr (5, [.ref ra, .ref pa, .int (bI pr), .int (nI rules.length), .int (nI pn), .int (nI dp)])), (ra, .inl (g.2.1 3, 400, .inr (.inr (.inr (.inr RA)))))]) (pl := PP) (st' := [.int (nI (givenN rules z rules.length))]) (n1 := 0) (n2 := 0) [0, 1, 2] rfl rfl rfl rfl rfl rfl ?_
  refine r_iret C E d_RR_given_8 (by first | decide | omega | (simp only [rmk]; omega)) (by first | decide | omega | (simp only [rmk]; omega)) ?_
  exact ⟨rfl, rfl⟩

set_option maxHeartbeats 4000000 in
set_option maxRecDepth 100000 in
theorem c_RR_read (g : GG) (l : Launch) {x0 : Nat} {bk : Nat} {p : Nat} {s : Nat} {u : Nat} {tb : Nat} {ra : Nat} {pa : Nat} {k : Nat} {so : Nat} {sta : Nat} {en : Nat} {ru : Nat} {sa : Nat} {ps : Nat} {to : Nat} {gs : Nat} {rc : Nat} {pn : Nat} {rb : Nat} {pb : Nat} {db : Nat} {a : Nat} {t : Nat} {zs : Nat} {zb : Nat} {ze : Nat} {zv : Nat} {zw : Nat} {cnt : Nat} {nx : Nat} {T : Nat → Nat} {ZS : Nat → Nat} {ZB : Nat → Nat} {ZE : Nat → Nat} {ZV : Nat → Option Nat} {ZW : Nat → Option Nat} {PA : Nat → Nat} {v : Option Nat} {wd : Option Nat} {pr : Bool} {PP : va_W} {RA : Nat → Option Nat}  (hk : k ≤ 2000) (hT : ∀ j, T j < 256) : Cn g l y_RR_read b_RR_read 1 (some .int) (rmk 161 ((parseP T k).2.2) (6 * (parseP T k).2.2) 4020) [.ref x0] ([(x0, .inr (0, [.ref t, .ref bk, .ref p, .ref s, .ref u])), (s, .inr (7, [.ref ru, .ref sa, .ref ps, .ref to, .int (nI gs), .int (nI rc), .int (nI pn)])), (bk, .inr (5, [.ref ra, .ref pa, .int (bI pr), .int (nI rb), .int (nI pb), .int (nI db)])), (p, .inr (6, [.ref bk, .ref a])), (a, .inr (2, [.ref t, .ref zs, .ref zb, .ref ze, .ref zv, .ref zw, .int (nI cnt), .int (nI nx), .int (nI so), .int (nI sta), .int (nI en), .int (oI v), va_rf (wR g wd)])), (t, .inr (1, [.ref tb, .int (nI k)])), (tb, .inl (g.2.1 1, 2000, .inl (aI T))), (zs, .inl (g.2.1 0, 2001, .inl (aI ZS))), (zb, .inl (g.2.1 0, 2001, .inl (aI ZB))), (ze, .inl (g.2.1 0, 2001, .inl (aI ZE))), (zv, .inl (g.2.1 0, 2001, .inl (oA ZV))), (zw, .inl (g.2.1 6, 2001, .inr (.inr (.inr (.inr ZW))))), (pa, .inl (g.2.1 1, 4000, .inl (aI PA))), (ra, .inl (g.2.1 3, 400, .inr (.inr (.inr (.inr RA)))))] ++ PP) (fun (r0 : Option Value) (w0 : va_W) => ∃ rv : Int32, ∃ pr2 : Bool, ∃ rb2 : Nat, ∃ pb2 : Nat, ∃ db2 : Nat, ∃ ok0 : Bool, ∃ rules2 : List RuleV, ∃ dp2 : Nat, ∃ RA2 : Nat → Option Nat, ∃ PP2 : va_W, ∃ tk : Tok, ∃ ou : List Nat, ∃ PB : Nat → Nat, ∃ cnt2 : Nat, ∃ nx2 : Nat, ∃ ee2 : Nat, ∃ ZS2 : Nat → Nat, ∃ ZB2 : Nat → Nat, ∃ ZE2 : Nat → Nat, ∃ ZV2 : Nat → Option Nat, ∃ ZW2 : Nat → Option Nat, r0 = some (.int rv) ∧ w0 = [(x0, .inr (0, [.ref t, .ref bk, .ref p, .ref s, .ref u])), (s, .inr (7, [.ref ru, .ref sa, .ref ps, .ref to, .int (nI 0), .int (nI 0), .int (nI 0)])), (bk, .inr (5, [.ref ra, .ref pa, .int (bI pr2), .int (nI rb2), .int (nI pb2), .int (nI db2)])), (p, .inr (6, [.ref bk, .ref a])), (a, .inr (2, [.ref t, .ref zs, .ref zb, .ref ze, .ref zv, .ref zw, .int (nI cnt2), .int (nI nx2), .int (nI tk.1), .int (nI tk.2.1), .int (nI ee2), .int (oI tk.2.2.2.1), va_rf (wR g tk.2.2.2.2)])), (t, .inr (1, [.ref tb, .int (nI k)])), (tb, .inl (g.2.1 1, 2000, .inl (aI T))), (zs, .inl (g.2.1 0, 2001, .inl (aI ZS2))), (zb, .inl (g.2.1 0, 2001, .inl (aI ZB2))), (ze, .inl (g.2.1 0, 2001, .inl (aI ZE2))), (zv, .inl (g.2.1 0, 2001, .inl (oA ZV2))), (zw, .inl (g.2.1 6, 2001, .inr (.inr (.inr (.inr ZW2))))), (pa, .inl (g.2.1 1, 4000, .inl (aI PB))), (ra, .inl (g.2.1 3, 400, .inr (.inr (.inr (.inr RA2)))))] ++ PP2 ∧ ((ok0, (rules2, dp2, tk, ou)) = BP (parseP T k)) ∧ (RulesAt g PP2 RA2 rules2) ∧ (∀ q ∈ PP, q ∈ PP2) ∧ (TokOK k tk) ∧ (ou.length ≤ 2 * tk.2.1) ∧ ((ok0 && decide (tk.1 = 0)) = true → OutAt PB ou) ∧ (rules2.length ≤ 400) ∧ (dp2 ≤ 40) ∧ (ReadRes (ok0 && decide (tk.1 = 0)) rules2 dp2 tk ou rv pr2 rb2 pb2 db2)) := by
  refine Cn.of R_RR [(0, .ref x0)] (by decide) rfl (Nat.le_of_ble_eq_true rfl) rfl ?_
  intro x A Q hR hXl hin C E
  subst hXl
  refine r_aload_n C 0 d_RR_read_0 rfl rfl ?_
  refine r_get C 0 3 d_RR_read_1 ci_RR fi_RR_35 rfl (by decide) rfl rfl ?_
  refine j_callV C (c_RowStore_drop g (xl x) (s := s) (ru := ru) (sa := sa) (ps := ps) (to := to) (gs := gs) (rc := rc) (pn := pn) ) (Sp.keep (Sp.of (wr := [(x0, .inr (0, [.ref t, .ref bk, .ref p, .ref s, .ref u])), (bk, .inr (5, [.ref ra, .ref pa, .int (bI pr), .int (nI rb), .int (nI pb), .int (nI db)])), (p, .inr (6, [.ref bk, .ref a])), (a, .inr (2, [.ref t, .ref zs, .ref zb, .ref ze, .ref zv, .ref zw, .int (nI cnt), .int (nI nx), .int (nI so), .int (nI sta), .int (nI en), .int (oI v), va_rf (wR g wd)])), (t, .inr (1, [.ref tb, .int (nI k)])), (tb, .inl (g.2.1 1, 2000, .inl (aI T))), (zs, .inl (g.2.1 0, 2001, .inl (aI ZS))), (zb, .inl (g.2.1 0, 2001, .inl (aI ZB))), (ze, .inl (g.2.1 0, 2001, .inl (aI ZE))), (zv, .inl (g.2.1 0, 2001, .inl (oA ZV))), (zw, .inl (g.2.1 6, 2001, .inr (.inr (.inr (.inr ZW))))), (pa, .inl (g.2.1 1, 4000, .inl (aI PA))), (ra, .inl (g.2.1 3, 400, .inr (.inr (.inr (.inr RA)))))]) [1] [0, 2, 3, 4, 5, 6, 7, 8, 9, 10, 11, 12, 13] rfl rfl rfl rfl (by decide)) PP) d_RR_read_4 lk_RR_52 mw_RowStore_drop vw_RowStore_drop (q0 := 0) rfl rfl (fit_of hR (by first | decide | (simp only [rmk]; omega)) (by first | decide | (simp only [rmk]; omega)) (by first | decide | (simp only [rmk]; omega)) (by first | decide | (simp only [rmk]; omega))) rfl (cat8 (Nat.le_of_ble_eq_true rfl)) (As := []) (rest := []) rfl (fun r_4 w_4 hp_4 => ?_)
  obtain ⟨rfl, rfl⟩ := hp_4
  refine r_swap ?_
  refine r_afterP (X := [(x0, .inr (0, [.ref t, .ref bk, .ref p, .ref s, .ref u])), (bk, .inr (5, [.ref ra, .ref pa, .int (bI pr), .int (nI rb), .int (nI pb), .int (nI db)])), (p, .inr (6, [.ref bk, .ref a])), (a, .inr (2, [.ref t, .ref zs, .ref zb, .ref ze, .ref zv, .ref zw, .int (nI cnt), .int (nI nx), .int (nI so), .int (nI sta), .int (nI en), .int (oI v), va_rf (wR g wd)])), (t, .inr (1, [.ref tb, .int (nI k)])), (tb, .inl (g.2.1 1, 2000, .inl (aI T))), (zs, .inl (g.2.1 0, 2001, .inl (aI ZS))), (zb, .inl (g.2.1 0, 2001, .inl (aI ZB))), (ze, .inl (g.2.1 0, 2001, .inl (aI ZE))), (zv, .inl (g.2.1 0, 2001, .inl (oA ZV))), (zw, .inl (g.2.1 6, 2001, .inr (.inr (.inr (.inr ZW))))), (pa, .inl (g.2.1 1, 4000, .inl (aI PA))), (ra, .inl (g.2.1 3, 400, .inr (.inr (.inr (.inr RA))))), (s, .inr (7, [.ref ru, .ref sa, .ref ps, .ref to, .int (nI 0), .int (nI 0), .int (nI 0)]))]) (X' := [(x0, .inr (0, [.ref t, .ref bk, .ref p, .ref s, .ref u])), (s, .inr (7, [.ref ru, .ref sa, .ref ps, .ref to, .int (nI 0), .int (nI 0), .int (nI 0)])), (bk, .inr (5, [.ref ra, .ref pa, .int (bI pr), .int (nI rb), .int (nI pb), .int (nI db)])), (p, .inr (6, [.ref bk, .ref a])), (a, .inr (2, [.ref t, .ref zs, .ref zb, .ref ze, .ref zv, .ref zw, .int (nI cnt), .int (nI nx), .int (nI so), .int (nI sta), .int (nI en), .int (oI v), va_rf (wR g wd)])), (t, .inr (1, [.ref tb, .int (nI k)])), (tb, .inl (g.2.1 1, 2000, .inl (aI T))), (zs, .inl (g.2.1 0, 2001, .inl (aI ZS))), (zb, .inl (g.2.1 0, 2001, .inl (aI ZB))), (ze, .inl (g.2.1 0, 2001, .inl (aI ZE))), (zv, .inl (g.2.1 0, 2001, .inl (oA ZV))), (zw, .inl (g.2.1 6, 2001, .inr (.inr (.inr (.inr ZW))))), (pa, .inl (g.2.1 1, 4000, .inl (aI PA))), (ra, .inl (g.2.1 3, 400, .inr (.inr (.inr (.inr RA)))))]) (pl := PP) (st' := []) (n1 := 0) (n2 := 0) [0, 13, 1, 2, 3, 4, 5, 6, 7, 8, 9, 10, 11, 12] rfl rfl rfl rfl rfl rfl ?_
  refine r_aload_n C 0 d_RR_read_7 rfl rfl ?_
  refine r_get C 0 1 d_RR_read_8 ci_RR fi_RR_19 rfl (by decide) rfl rfl ?_
  refine j_callV C (c_Book_drop g (xl x) (bk := bk) (ra := ra) (pa := pa) (rc := rb) (pn := pb) (dp := db) (pr := pr) ) (Sp.keep (Sp.of (wr := [(x0, .inr (0, [.ref t, .ref bk, .ref p, .ref s, .ref u])), (s, .inr (7, [.ref ru, .ref sa, .ref ps, .ref to, .int (nI 0), .int (nI 0), .int (nI 0)])), (p, .inr (6, [.ref bk, .ref a])), (a, .inr (2, [.ref t, .ref zs, .ref zb, .ref ze, .ref zv, .ref zw, .int (nI cnt), .int (nI nx), .int (nI so), .int (nI sta), .int (nI en), .int (oI v), va_rf (wR g wd)])), (t, .inr (1, [.ref tb, .int (nI k)])), (tb, .inl (g.2.1 1, 2000, .inl (aI T))), (zs, .inl (g.2.1 0, 2001, .inl (aI ZS))), (zb, .inl (g.2.1 0, 2001, .inl (aI ZB))), (ze, .inl (g.2.1 0, 2001, .inl (aI ZE))), (zv, .inl (g.2.1 0, 2001, .inl (oA ZV))), (zw, .inl (g.2.1 6, 2001, .inr (.inr (.inr (.inr ZW))))), (pa, .inl (g.2.1 1, 4000, .inl (aI PA))), (ra, .inl (g.2.1 3, 400, .inr (.inr (.inr (.inr RA)))))]) [2] [0, 1, 3, 4, 5, 6, 7, 8, 9, 10, 11, 12, 13] rfl rfl rfl rfl (by decide)) PP) d_RR_read_11 lk_RR_55 mw_Book_drop vw_Book_drop (q0 := 0) rfl rfl (fit_of hR (by first | decide | (simp only [rmk]; omega)) (by first | decide | (simp only [rmk]; omega)) (by first | decide | (simp only [rmk]; omega)) (by first | decide | (simp only [rmk]; omega))) rfl (cat8 (Nat.le_of_ble_eq_true rfl)) (As := []) (rest := []) rfl (fun r_11 w_11 hp_11 => ?_)
  obtain ⟨rfl, rfl⟩ := hp_11
  refine r_swap ?_
  refine r_afterP (X := [(x0, .inr (0, [.ref t, .ref bk, .ref p, .ref s, .ref u])), (s, .inr (7, [.ref ru, .ref sa, .ref ps, .ref to, .int (nI 0), .int (nI 0), .int (nI 0)])), (p, .inr (6, [.ref bk, .ref a])), (a, .inr (2, [.ref t, .ref zs, .ref zb, .ref ze, .ref zv, .ref zw, .int (nI cnt), .int (nI nx), .int (nI so), .int (nI sta), .int (nI en), .int (oI v), va_rf (wR g wd)])), (t, .inr (1, [.ref tb, .int (nI k)])), (tb, .inl (g.2.1 1, 2000, .inl (aI T))), (zs, .inl (g.2.1 0, 2001, .inl (aI ZS))), (zb, .inl (g.2.1 0, 2001, .inl (aI ZB))), (ze, .inl (g.2.1 0, 2001, .inl (aI ZE))), (zv, .inl (g.2.1 0, 2001, .inl (oA ZV))), (zw, .inl (g.2.1 6, 2001, .inr (.inr (.inr (.inr ZW))))), (pa, .inl (g.2.1 1, 4000, .inl (aI PA))), (ra, .inl (g.2.1 3, 400, .inr (.inr (.inr (.inr RA))))), (bk, .inr (5, [.ref ra, .ref pa, .int (bI false), .int (nI 0), .int (nI 0), .int (nI 0)]))]) (X' := [(x0, .inr (0, [.ref t, .ref bk, .ref p, .ref s, .ref u])), (s, .inr (7, [.ref ru, .ref sa, .ref ps, .ref to, .int (nI 0), .int (nI 0), .int (nI 0)])), (bk, .inr (5, [.ref ra, .ref pa, .int (bI false), .int (nI 0), .int (nI 0), .int (nI 0)])), (p, .inr (6, [.ref bk, .ref a])), (a, .inr (2, [.ref t, .ref zs, .ref zb, .ref ze, .ref zv, .ref zw, .int (nI cnt), .int (nI nx), .int (nI so), .int (nI sta), .int (nI en), .int (oI v), va_rf (wR g wd)])), (t, .inr (1, [.ref tb, .int (nI k)])), (tb, .inl (g.2.1 1, 2000, .inl (aI T))), (zs, .inl (g.2.1 0, 2001, .inl (aI ZS))), (zb, .inl (g.2.1 0, 2001, .inl (aI ZB))), (ze, .inl (g.2.1 0, 2001, .inl (aI ZE))), (zv, .inl (g.2.1 0, 2001, .inl (oA ZV))), (zw, .inl (g.2.1 6, 2001, .inr (.inr (.inr (.inr ZW))))), (pa, .inl (g.2.1 1, 4000, .inl (aI PA))), (ra, .inl (g.2.1 3, 400, .inr (.inr (.inr (.inr RA)))))]) (pl := PP) (st' := []) (n1 := 0) (n2 := 0) [0, 1, 13, 2, 3, 4, 5, 6, 7, 8, 9, 10, 11, 12] rfl rfl rfl rfl rfl rfl ?_
  refine r_aload_n C 0 d_RR_read_14 rfl rfl ?_
  refine r_get C 0 2 d_RR_read_15 ci_RR fi_RR_28 rfl (by decide) rfl rfl ?_
  refine j_callV C (c_Parser_parse g (xl x) (p := p) (bk := bk) (ra := ra) (pa := pa) (tb := tb) (k := k) (so := so) (sta := sta) (en := en) (a := a) (t := t) (zs := zs) (zb := zb) (ze := ze) (zv := zv) (zw := zw) (cnt := cnt) (nx := nx) (T := T) (ZS := ZS) (ZB := ZB) (ZE := ZE) (ZV := ZV) (ZW := ZW) (PA := PA) (v := v) (wd := wd) (pr := false) (PP := PP) (RA := RA) (by first | assumption | rfl | omega) (by first | assumption | rfl | omega)) (Sp.pool (Sp.of (wr := [(x0, .inr (0, [.ref t, .ref bk, .ref p, .ref s, .ref u])), (s, .inr (7, [.ref ru, .ref sa, .ref ps, .ref to, .int (nI 0), .int (nI 0), .int (nI 0)]))]) [3, 4, 5, 6, 7, 8, 9, 10, 11, 2, 12, 13] [0, 1] rfl rfl rfl rfl (by decide)) PP) d_RR_read_18 lk_RR_56 mw_Parser_parse vw_Parser_parse (q0 := 0) rfl rfl (fit_of hR (by first | decide | (simp only [rmk]; omega)) (by first | decide | (simp only [rmk]; omega)) (by first | decide | (simp only [rmk]; omega)) (by first | decide | (simp only [rmk]; omega))) rfl (cat8 (Nat.le_of_ble_eq_true rfl)) (As := []) (rest := []) rfl (fun r_18 w_18 hp_18 => ?_)
  obtain ⟨ok0_18, rules2_18, dp2_18, RA2_18, PP2_18, tk_18, ou_18, PB_18, cnt2_18, nx2_18, ee2_18, ZS2_18, ZB2_18, ZE2_18, ZV2_18, ZW2_18, pn2_18, rfl, rfl, hx_18, hR2_18, hs_18, hO2_18, hc2_18, ho2_18, h42_18, hd2_18⟩ := hp_18
  refine r_afterP (X := [(x0, .inr (0, [.ref t, .ref bk, .ref p, .ref s, .ref u])), (s, .inr (7, [.ref ru, .ref sa, .ref ps, .ref to, .int (nI 0), .int (nI 0), .int (nI 0)])), (p, .inr (6, [.ref bk, .ref a])), (a, .inr (2, [.ref t, .ref zs, .ref zb, .ref ze, .ref zv, .ref zw, .int (nI cnt2_18), .int (nI nx2_18), .int (nI tk_18.1), .int (nI tk_18.2.1), .int (nI ee2_18), .int (oI tk_18.2.2.2.1), va_rf (wR g tk_18.2.2.2.2)])), (t, .inr (1, [.ref tb, .int (nI k)])), (tb, .inl (g.2.1 1, 2000, .inl (aI T))), (zs, .inl (g.2.1 0, 2001, .inl (aI ZS2_18))), (zb, .inl (g.2.1 0, 2001, .inl (aI ZB2_18))), (ze, .inl (g.2.1 0, 2001, .inl (aI ZE2_18))), (zv, .inl (g.2.1 0, 2001, .inl (oA ZV2_18))), (zw, .inl (g.2.1 6, 2001, .inr (.inr (.inr (.inr ZW2_18))))), (bk, .inr (5, [.ref ra, .ref pa, .int (bI false), .int (nI rules2_18.length), .int (nI pn2_18), .int (nI dp2_18)])), (pa, .inl (g.2.1 1, 4000, .inl (aI PB_18))), (ra, .inl (g.2.1 3, 400, .inr (.inr (.inr (.inr RA2_18)))))]) (X' := [(x0, .inr (0, [.ref t, .ref bk, .ref p, .ref s, .ref u])), (s, .inr (7, [.ref ru, .ref sa, .ref ps, .ref to, .int (nI 0), .int (nI 0), .int (nI 0)])), (bk, .inr (5, [.ref ra, .ref pa, .int (bI false), .int (nI rules2_18.length), .int (nI pn2_18), .int (nI dp2_18)])), (p, .inr (6, [.ref bk, .ref a])), (a, .inr (2, [.ref t, .ref zs, .ref zb, .ref ze, .ref zv, .ref zw, .int (nI cnt2_18), .int (nI nx2_18), .int (nI tk_18.1), .int (nI tk_18.2.1), .int (nI ee2_18), .int (oI tk_18.2.2.2.1), va_rf (wR g tk_18.2.2.2.2)])), (t, .inr (1, [.ref tb, .int (nI k)])), (tb, .inl (g.2.1 1, 2000, .inl (aI T))), (zs, .inl (g.2.1 0, 2001, .inl (aI ZS2_18))), (zb, .inl (g.2.1 0, 2001, .inl (aI ZB2_18))), (ze, .inl (g.2.1 0, 2001, .inl (aI ZE2_18))), (zv, .inl (g.2.1 0, 2001, .inl (oA ZV2_18))), (zw, .inl (g.2.1 6, 2001, .inr (.inr (.inr (.inr ZW2_18))))), (pa, .inl (g.2.1 1, 4000, .inl (aI PB_18))), (ra, .inl (g.2.1 3, 400, .inr (.inr (.inr (.inr RA2_18)))))]) (pl := PP2_18) (st' := [.int (bI (ok0_18 && decide (tk_18.1 = 0)))]) (n1 := 0 + ((parseP T k).2.2)) (n2 := 0 + (6 * (parseP T k).2.2)) [0, 1, 11, 2, 3, 4, 5, 6, 7, 8, 9, 10, 12, 13] rfl rfl rfl rfl rfl rfl ?_
  refine r_bif_ne C 41 d_RR_read_21 (by decide) (fun c_21 => ?_) (fun c_21 => ?_)
  · skip
    refine r_aload_n C 0 d_RR_read_41 rfl rfl ?_
    refine r_get C 0 1 d_RR_read_42 ci_RR fi_RR_19 rfl (by decide) rfl rfl ?_
    refine r_iconst C (nI 1) d_RR_read_45 (by decide) ?_
    refine r_eqS (st' := [.int (bI true), .ref bk]) rfl ?_
    refine r_put C (ws' := [(x0, .inr (0, [.ref t, .ref bk, .ref p, .ref s, .ref u])), (s, .inr (7, [.ref ru, .ref sa, .ref ps, .ref to, .int (nI 0), .int (nI 0), .int (nI 0)])), (bk, .inr (5, [.ref ra, .ref pa, .int (bI true), .int (nI rules2_18.length), .int (nI pn2_18), .int (nI dp2_18)])), (p, .inr (6, [.ref bk, .ref a])), (a, .inr (2, [.ref t, .ref zs, .ref zb, .ref ze, .ref zv, .ref zw, .int (nI cnt2_18), .int (nI nx2_18), .int (nI tk_18.1), .int (nI tk_18.2.1), .int (nI ee2_18), .int (oI tk_18.2.2.2.1), va_rf (wR g tk_18.2.2.2.2)])), (t, .inr (1, [.ref tb, .int (nI k)])), (tb, .inl (g.2.1 1, 2000, .inl (aI T))), (zs, .inl (g.2.1 0, 2001, .inl (aI ZS2_18))), (zb, .inl (g.2.1 0, 2001, .inl (aI ZB2_18))), (ze, .inl (g.2.1 0, 2001, .inl (aI ZE2_18))), (zv, .inl (g.2.1 0, 2001, .inl (oA ZV2_18))), (zw, .inl (g.2.1 6, 2001, .inr (.inr (.inr (.inr ZW2_18))))), (pa, .inl (g.2.1 1, 4000, .inl (aI PB_18))), (ra, .inl (g.2.1 3, 400, .inr (.inr (.inr (.inr RA2_18)))))] ++ PP2_18) 2 2 d_RR_read_46 ci_Book fi_RR_64 rfl (by decide) rfl rfl (bI_nar _) (bI_fit _) (by simp) rfl ?_
    refine r_aload_n C 0 d_RR_read_49 rfl rfl ?_
    refine r_get C 0 1 d_RR_read_50 ci_RR fi_RR_19 rfl (by decide) rfl rfl ?_
    refine r_get C 2 3 d_RR_read_53 ci_Book fi_RR_68 rfl (by decide) rfl rfl ?_
    refine r_iret C E d_RR_read_56 (by first | decide | omega | (simp only [rmk]; omega)) (by first | decide | omega | (simp only [rmk]; omega)) ?_
    exact ⟨_, _, _, _, _, ok0_18, rules2_18, dp2_18, RA2_18, PP2_18, tk_18, ou_18, PB_18, _, _, _, _, _, _, _, _, rfl, rfl, hx_18, hR2_18, hs_18, hO2_18, hc2_18, fun h => (ho2_18 h).1, h42_18, hd2_18, Or.inl ⟨c_21, rfl, rfl, rfl, (ho2_18 c_21).2, rfl⟩⟩
  · skip
    refine r_aload_n C 0 d_RR_read_24 rfl rfl ?_
    refine r_get C 0 1 d_RR_read_25 ci_RR fi_RR_19 rfl (by decide) rfl rfl ?_
    refine j_callV C (c_Book_drop g (xl x) (bk := bk) (ra := ra) (pa := pa) (rc := rules2_18.length) (pn := pn2_18) (dp := dp2_18) (pr := false) ) (Sp.keep (Sp.of (wr := [(x0, .inr (0, [.ref t, .ref bk, .ref p, .ref s, .ref u])), (s, .inr (7, [.ref ru, .ref sa, .ref ps, .ref to, .int (nI 0), .int (nI 0), .int (nI 0)])), (p, .inr (6, [.ref bk, .ref a])), (a, .inr (2, [.ref t, .ref zs, .ref zb, .ref ze, .ref zv, .ref zw, .int (nI cnt2_18), .int (nI nx2_18), .int (nI tk_18.1), .int (nI tk_18.2.1), .int (nI ee2_18), .int (oI tk_18.2.2.2.1), va_rf (wR g tk_18.2.2.2.2)])), (t, .inr (1, [.ref tb, .int (nI k)])), (tb, .inl (g.2.1 1, 2000, .inl (aI T))), (zs, .inl (g.2.1 0, 2001, .inl (aI ZS2_18))), (zb, .inl (g.2.1 0, 2001, .inl (aI ZB2_18))), (ze, .inl (g.2.1 0, 2001, .inl (aI ZE2_18))), (zv, .inl (g.2.1 0, 2001, .inl (oA ZV2_18))), (zw, .inl (g.2.1 6, 2001, .inr (.inr (.inr (.inr ZW2_18))))), (pa, .inl (g.2.1 1, 4000, .inl (aI PB_18))), (ra, .inl (g.2.1 3, 400, .inr (.inr (.inr (.inr RA2_18)))))]) [2] [0, 1, 3, 4, 5, 6, 7, 8, 9, 10, 11, 12, 13] rfl rfl rfl rfl (by decide)) PP2_18) d_RR_read_28 lk_RR_55 mw_Book_drop vw_Book_drop (q0 := 0) rfl rfl (fit_of hR (by first | decide | (simp only [rmk]; omega)) (by first | decide | (simp only [rmk]; omega)) (by first | decide | (simp only [rmk]; omega)) (by first | decide | (simp only [rmk]; omega))) rfl (cat8 (Nat.le_of_ble_eq_true rfl)) (As := []) (rest := []) rfl (fun r_28 w_28 hp_28 => ?_)
    obtain ⟨rfl, rfl⟩ := hp_28
    refine r_swap ?_
    refine r_afterP (X := [(x0, .inr (0, [.ref t, .ref bk, .ref p, .ref s, .ref u])), (s, .inr (7, [.ref ru, .ref sa, .ref ps, .ref to, .int (nI 0), .int (nI 0), .int (nI 0)])), (p, .inr (6, [.ref bk, .ref a])), (a, .inr (2, [.ref t, .ref zs, .ref zb, .ref ze, .ref zv, .ref zw, .int (nI cnt2_18), .int (nI nx2_18), .int (nI tk_18.1), .int (nI tk_18.2.1), .int (nI ee2_18), .int (oI tk_18.2.2.2.1), va_rf (wR g tk_18.2.2.2.2)])), (t, .inr (1, [.ref tb, .int (nI k)])), (tb, .inl (g.2.1 1, 2000, .inl (aI T))), (zs, .inl (g.2.1 0, 2001, .inl (aI ZS2_18))), (zb, .inl (g.2.1 0, 2001, .inl (aI ZB2_18))), (ze, .inl (g.2.1 0, 2001, .inl (aI ZE2_18))), (zv, .inl (g.2.1 0, 2001, .inl (oA ZV2_18))), (zw, .inl (g.2.1 6, 2001, .inr (.inr (.inr (.inr ZW2_18))))), (pa, .inl (g.2.1 1, 4000, .inl (aI PB_18))), (ra, .inl (g.2.1 3, 400, .inr (.inr (.inr (.inr RA2_18))))), (bk, .inr (5, [.ref ra, .ref pa, .int (bI false), .int (nI 0), .int (nI 0), .int (nI 0)]))]) (X' := [(x0, .inr (0, [.ref t, .ref bk, .ref p, .ref s, .ref u])), (s, .inr (7, [.ref ru, .ref sa, .ref ps, .ref to, .int (nI 0), .int (nI 0), .int (nI 0)])), (bk, .inr (5, [.ref ra, .ref pa, .int (bI false), .int (nI 0), .int (nI 0), .int (nI 0)])), (p, .inr (6, [.ref bk, .ref a])), (a, .inr (2, [.ref t, .ref zs, .ref zb, .ref ze, .ref zv, .ref zw, .int (nI cnt2_18), .int (nI nx2_18), .int (nI tk_18.1), .int (nI tk_18.2.1), .int (nI ee2_18), .int (oI tk_18.2.2.2.1), va_rf (wR g tk_18.2.2.2.2)])), (t, .inr (1, [.ref tb, .int (nI k)])), (tb, .inl (g.2.1 1, 2000, .inl (aI T))), (zs, .inl (g.2.1 0, 2001, .inl (aI ZS2_18))), (zb, .inl (g.2.1 0, 2001, .inl (aI ZB2_18))), (ze, .inl (g.2.1 0, 2001, .inl (aI ZE2_18))), (zv, .inl (g.2.1 0, 2001, .inl (oA ZV2_18))), (zw, .inl (g.2.1 6, 2001, .inr (.inr (.inr (.inr ZW2_18))))), (pa, .inl (g.2.1 1, 4000, .inl (aI PB_18))), (ra, .inl (g.2.1 3, 400, .inr (.inr (.inr (.inr RA2_18)))))]) (pl := PP2_18) (st' := []) (n1 := 0 + ((parseP T k).2.2)) (n2 := 0 + (6 * (parseP T k).2.2)) [0, 1, 13, 2, 3, 4, 5, 6, 7, 8, 9, 10, 11, 12] rfl rfl rfl rfl rfl rfl ?_
    refine r_iconst C ((-1)) d_RR_read_31 (by decide) ?_
    refine r_aload_n C 0 d_RR_read_32 rfl rfl ?_
    refine r_get C 0 2 d_RR_read_33 ci_RR fi_RR_28 rfl (by decide) rfl rfl ?_
    refine j_callV C (c_Parser_refusedAt g (xl x) (p := p) (bk := bk) (so := tk_18.1) (sta := tk_18.2.1) (en := ee2_18) (a := a) (t := t) (zs := zs) (zb := zb) (ze := ze) (zv := zv) (zw := zw) (cnt := cnt2_18) (nx := nx2_18) (v := tk_18.2.2.2.1) (wd := tk_18.2.2.2.2) ) (Sp.keep (Sp.of (wr := [(x0, .inr (0, [.ref t, .ref bk, .ref p, .ref s, .ref u])), (s, .inr (7, [.ref ru, .ref sa, .ref ps, .ref to, .int (nI 0), .int (nI 0), .int (nI 0)])), (bk, .inr (5, [.ref ra, .ref pa, .int (bI false), .int (nI 0), .int (nI 0), .int (nI 0)])), (t, .inr (1, [.ref tb, .int (nI k)])), (tb, .inl (g.2.1 1, 2000, .inl (aI T))), (zs, .inl (g.2.1 0, 2001, .inl (aI ZS2_18))), (zb, .inl (g.2.1 0, 2001, .inl (aI ZB2_18))), (ze, .inl (g.2.1 0, 2001, .inl (aI ZE2_18))), (zv, .inl (g.2.1 0, 2001, .inl (oA ZV2_18))), (zw, .inl (g.2.1 6, 2001, .inr (.inr (.inr (.inr ZW2_18))))), (pa, .inl (g.2.1 1, 4000, .inl (aI PB_18))), (ra, .inl (g.2.1 3, 400, .inr (.inr (.inr (.inr RA2_18)))))]) [3, 4] [0, 1, 2, 5, 6, 7, 8, 9, 10, 11, 12, 13] rfl rfl rfl rfl (by decide)) PP2_18) d_RR_read_36 lk_RR_60 mw_Parser_refusedAt vw_Parser_refusedAt (q0 := 0) rfl rfl (fit_of hR (by first | decide | (simp only [rmk]; omega)) (by first | decide | (simp only [rmk]; omega)) (by first | decide | (simp only [rmk]; omega)) (by first | decide | (simp only [rmk]; omega))) rfl (cat8 (Nat.le_of_ble_eq_true rfl)) (As := []) (rest := [.int (-1)]) rfl (fun r_36 w_36 hp_36 => ?_)
    obtain ⟨rfl, rfl⟩ := hp_36
    refine r_swap ?_
    refine r_afterP (X := [(x0, .inr (0, [.ref t, .ref bk, .ref p, .ref s, .ref u])), (s, .inr (7, [.ref ru, .ref sa, .ref ps, .ref to, .int (nI 0), .int (nI 0), .int (nI 0)])), (bk, .inr (5, [.ref ra, .ref pa, .int (bI false), .int (nI 0), .int (nI 0), .int (nI 0)])), (t, .inr (1, [.ref tb, .int (nI k)])), (tb, .inl (g.2.1 1, 2000, .inl (aI T))), (zs, .inl (g.2.1 0, 2001, .inl (aI ZS2_18))), (zb, .inl (g.2.1 0, 2001, .inl (aI ZB2_18))), (ze, .inl (g.2.1 0, 2001, .inl (aI ZE2_18))), (zv, .inl (g.2.1 0, 2001, .inl (oA ZV2_18))), (zw, .inl (g.2.1 6, 2001, .inr (.inr (.inr (.inr ZW2_18))))), (pa, .inl (g.2.1 1, 4000, .inl (aI PB_18))), (ra, .inl (g.2.1 3, 400, .inr (.inr (.inr (.inr RA2_18))))), (p, .inr (6, [.ref bk, .ref a])), (a, .inr (2, [.ref t, .ref zs, .ref zb, .ref ze, .ref zv, .ref zw, .int (nI cnt2_18), .int (nI nx2_18), .int (nI tk_18.1), .int (nI tk_18.2.1), .int (nI ee2_18), .int (oI tk_18.2.2.2.1), va_rf (wR g tk_18.2.2.2.2)]))]) (X' := [(x0, .inr (0, [.ref t, .ref bk, .ref p, .ref s, .ref u])), (s, .inr (7, [.ref ru, .ref sa, .ref ps, .ref to, .int (nI 0), .int (nI 0), .int (nI 0)])), (bk, .inr (5, [.ref ra, .ref pa, .int (bI false), .int (nI 0), .int (nI 0), .int (nI 0)])), (p, .inr (6, [.ref bk, .ref a])), (a, .inr (2, [.ref t, .ref zs, .ref zb, .ref ze, .ref zv, .ref zw, .int (nI cnt2_18), .int (nI nx2_18), .int (nI tk_18.1), .int (nI tk_18.2.1), .int (nI ee2_18), .int (oI tk_18.2.2.2.1), va_rf (wR g tk_18.2.2.2.2)])), (t, .inr (1, [.ref tb, .int (nI k)])), (tb, .inl (g.2.1 1, 2000, .inl (aI T))), (zs, .inl (g.2.1 0, 2001, .inl (aI ZS2_18))), (zb, .inl (g.2.1 0, 2001, .inl (aI ZB2_18))), (ze, .inl (g.2.1 0, 2001, .inl (aI ZE2_18))), (zv, .inl (g.2.1 0, 2001, .inl (oA ZV2_18))), (zw, .inl (g.2.1 6, 2001, .inr (.inr (.inr (.inr ZW2_18))))), (pa, .inl (g.2.1 1, 4000, .inl (aI PB_18))), (ra, .inl (g.2.1 3, 400, .inr (.inr (.inr (.inr RA2_18)))))]) (pl := PP2_18) (st' := [.int (nI tk_18.2.1), .int (-1)]) (n1 := 0 + ((parseP T k).2.2)) (n2 := 0 + (6 * (parseP T k).2.2)) [0, 1, 2, 12, 13, 3, 4, 5, 6, 7, 8, 9, 10, 11] rfl rfl rfl rfl rfl rfl ?_
    refine r_isub C d_RR_read_39 ?_
    refine r_iret C E d_RR_read_40 (by first | decide | omega | (simp only [rmk]; omega)) (by first | decide | omega | (simp only [rmk]; omega)) ?_
    exact ⟨_, _, _, _, _, ok0_18, rules2_18, dp2_18, RA2_18, PP2_18, tk_18, ou_18, PB_18, _, _, _, _, _, _, _, _, rfl, rfl, hx_18, hR2_18, hs_18, hO2_18, hc2_18, fun h => (ho2_18 h).1, h42_18, hd2_18, Or.inr ⟨c_21, rfl, rfl, rfl, rfl, rfl⟩⟩
