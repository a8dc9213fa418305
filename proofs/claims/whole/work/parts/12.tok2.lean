/-- a token: its sort (0 the end, 1 a word, 2 a number, 3 a sign, 4 wrong), its place, its end, a number's value, which word -/
abbrev Tok : Type := Nat × Nat × Nat × Option Nat × Option Nat
/-- the token whose first byte is at s -/
def tok0 (T : Nat → Nat) (k s : Nat) : Tok :=
  if k ≤ s then (0, s, s, none, none)
  else if isLet (T s) = true then (1, s, run isLet T k s, none, wordAt T s (run isLet T k s))
  else if isDig (T s) = true then (if 6 < run isDig T k s - s then 4 else 2, s, run isDig T k s, some (val T s (min (run isDig T k s - s) 6)), none)
  else (if isSgn (T s) = true then 3 else 4, s, s + 1, some (T s), none)
/-- the token behind place e, where one of sort so ended -/
def tokAt (T : Nat → Nat) (k so e : Nat) : Tok :=
  if run isBlk T k e = e ∧ noTouch so (tok0 T k (run isBlk T k e)).1 = true then (4, (tok0 T k (run isBlk T k e)).2) else tok0 T k (run isBlk T k e)
theorem tok0_end {T : Nat → Nat} {k s : Nat} (h : k ≤ s) : tok0 T k s = (0, s, s, none, none) := by rw [tok0, if_pos h]
theorem tok0_word {T : Nat → Nat} {k s : Nat} (h : s < k) (h1 : isLet (T s) = true) : tok0 T k s = (1, s, run isLet T k s, none, wordAt T s (run isLet T k s)) := by rw [tok0, if_neg (by omega), if_pos h1]
theorem tok0_num {T : Nat → Nat} {k s : Nat} (h : s < k) (h1 : isLet (T s) = false) (h2 : isDig (T s) = true) : tok0 T k s = (if 6 < run isDig T k s - s then 4 else 2, s, run isDig T k s, some (val T s (min (run isDig T k s - s) 6)), none) := by rw [tok0, if_neg (by omega), if_neg (by rw [h1]; decide), if_pos h2]
theorem tok0_sgn {T : Nat → Nat} {k s : Nat} (h : s < k) (h1 : isLet (T s) = false) (h2 : isDig (T s) = false) (h3 : isSgn (T s) = true) : tok0 T k s = (3, s, s + 1, some (T s), none) := by rw [tok0, if_neg (by omega), if_neg (by rw [h1]; decide), if_neg (by rw [h2]; decide), if_pos h3]
theorem tok0_bad {T : Nat → Nat} {k s : Nat} (h : s < k) (h1 : isLet (T s) = false) (h2 : isDig (T s) = false) (h3 : isSgn (T s) = false) : tok0 T k s = (4, s, s + 1, some (T s), none) := by rw [tok0, if_neg (by omega), if_neg (by rw [h1]; decide), if_neg (by rw [h2]; decide), if_neg (by rw [h3]; decide)]
theorem tokAt_t {T : Nat → Nat} {k so e : Nat} {t : Tok} (h0 : tok0 T k (run isBlk T k e) = t) (h1 : run isBlk T k e = e) (h2 : noTouch so t.1 = true) : tokAt T k so e = (4, t.2) := by rw [tokAt, h0, if_pos ⟨h1, h2⟩]
theorem tokAt_f1 {T : Nat → Nat} {k so e : Nat} {t : Tok} (h0 : tok0 T k (run isBlk T k e) = t) (h1 : run isBlk T k e ≠ e) : tokAt T k so e = t := by rw [tokAt, h0, if_neg (fun q => h1 q.1)]
theorem tokAt_f2 {T : Nat → Nat} {k so e : Nat} {t : Tok} (h0 : tok0 T k (run isBlk T k e) = t) (h2 : noTouch so t.1 = false) : tokAt T k so e = t := by rw [tokAt, h0, if_neg (fun q => by rw [h2] at q; exact absurd q.2 (by decide))]

set_option maxRecDepth 100000 in
theorem fi_Tokens_63 : FI R_Tokens 63 R_Tokens F_Tokens 12 := Or.inl (gw (i := 183) rfl rfl)
set_option maxRecDepth 100000 in
theorem lk_Tokens_101 : LK R_Tokens 101 y_Tokens_isSign := Or.inl (gw (i := 418) rfl rfl)
set_option maxRecDepth 100000 in
theorem lk_Tokens_104 : LK R_Tokens 104 y_Tokens_mayNotTouch := Or.inl (gw (i := 421) rfl rfl)
set_option maxRecDepth 100000 in
theorem lk_Tokens_108 : LK R_Tokens 108 y_Word_find := Or.inl (gw (i := 352) rfl rfl)
set_option maxRecDepth 100000 in
theorem lk_Tokens_76 : LK R_Tokens 76 y_Tokens_behindBlanks := Or.inl (gw (i := 337) rfl rfl)
set_option maxRecDepth 100000 in
theorem lk_Tokens_88 : LK R_Tokens 88 y_Tokens_isLetter := Or.inl (gw (i := 345) rfl rfl)
set_option maxRecDepth 100000 in
theorem lk_Tokens_92 : LK R_Tokens 92 y_Tokens_scanWord := Or.inl (gw (i := 348) rfl rfl)
set_option maxRecDepth 100000 in
theorem lk_Tokens_98 : LK R_Tokens 98 y_Tokens_scanNumber := Or.inl (gw (i := 414) rfl rfl)
set_option maxRecDepth 100000 in
theorem mw_Tokens_behindBlanks : MW y_Tokens_behindBlanks b_Tokens_behindBlanks 3 (some .int) 1 := ⟨(gw (i := 340) rfl rfl), (gw (i := 77) rfl rfl), by decide +kernel⟩
set_option maxRecDepth 100000 in
theorem mw_Tokens_isLetter : MW y_Tokens_isLetter b_Tokens_isLetter 1 (some .boolean) 1 := ⟨(gw (i := 347) rfl rfl), (gw (i := 77) rfl rfl), by decide +kernel⟩
set_option maxRecDepth 100000 in
theorem mw_Tokens_isSign : MW y_Tokens_isSign b_Tokens_isSign 1 (some .boolean) 1 := ⟨(gw (i := 420) rfl rfl), (gw (i := 77) rfl rfl), by decide +kernel⟩
set_option maxRecDepth 100000 in
theorem mw_Tokens_mayNotTouch : MW y_Tokens_mayNotTouch b_Tokens_mayNotTouch 2 (some .boolean) 2 := ⟨(gw (i := 423) rfl rfl), (gw (i := 77) rfl rfl), by decide +kernel⟩
set_option maxRecDepth 100000 in
theorem mw_Tokens_scanNumber : MW y_Tokens_scanNumber b_Tokens_scanNumber 1 none 0 := ⟨(gw (i := 417) rfl rfl), (gw (i := 77) rfl rfl), by decide +kernel⟩
set_option maxRecDepth 100000 in
theorem mw_Tokens_scanWord : MW y_Tokens_scanWord b_Tokens_scanWord 1 none 0 := ⟨(gw (i := 351) rfl rfl), (gw (i := 77) rfl rfl), by decide +kernel⟩
set_option maxRecDepth 100000 in
theorem mw_Word_find : MW y_Word_find b_Word_find 4 (some (.object "RuleReader$Word")) 3 := ⟨(gw (i := 354) rfl rfl), (gw (i := 82) rfl rfl), by decide +kernel⟩
set_option maxRecDepth 100000 in
theorem st_Tokens_isLetter : Cond.static y_Tokens_isLetter ∈ GW := (gw (i := 346) rfl rfl)
set_option maxRecDepth 100000 in
theorem st_Tokens_isSign : Cond.static y_Tokens_isSign ∈ GW := (gw (i := 419) rfl rfl)
set_option maxRecDepth 100000 in
theorem st_Tokens_mayNotTouch : Cond.static y_Tokens_mayNotTouch ∈ GW := (gw (i := 422) rfl rfl)
set_option maxRecDepth 100000 in
theorem st_Word_find : Cond.static y_Word_find ∈ GW := (gw (i := 353) rfl rfl)
set_option maxRecDepth 100000 in
theorem vw_Tokens_behindBlanks : VW y_Tokens_behindBlanks := ⟨(gw (i := 339) rfl rfl), (gw (i := 1) rfl rfl)⟩
set_option maxRecDepth 100000 in
theorem vw_Tokens_scanNumber : VW y_Tokens_scanNumber := ⟨(gw (i := 416) rfl rfl), (gw (i := 4) rfl rfl)⟩
set_option maxRecDepth 100000 in
theorem vw_Tokens_scanWord : VW y_Tokens_scanWord := ⟨(gw (i := 350) rfl rfl), (gw (i := 2) rfl rfl)⟩
theorem d_Tokens_scanWord_0 : decode b_Tokens_scanWord 0 = .ok (.aload_n 0, 1) := by decide +kernel
theorem d_Tokens_scanWord_1 : decode b_Tokens_scanWord 1 = .ok (.aload_n 0, 1) := by decide +kernel
theorem d_Tokens_scanWord_2 : decode b_Tokens_scanWord 2 = .ok (.getfield 57, 3) := by decide +kernel
theorem d_Tokens_scanWord_5 : decode b_Tokens_scanWord 5 = .ok (.putfield 41, 3) := by decide +kernel
theorem d_Tokens_scanWord_8 : decode b_Tokens_scanWord 8 = .ok (.aload_n 0, 1) := by decide +kernel
theorem d_Tokens_scanWord_9 : decode b_Tokens_scanWord 9 = .ok (.getfield 41, 3) := by decide +kernel
theorem d_Tokens_scanWord_12 : decode b_Tokens_scanWord 12 = .ok (.aload_n 0, 1) := by decide +kernel
theorem d_Tokens_scanWord_13 : decode b_Tokens_scanWord 13 = .ok (.getfield 30, 3) := by decide +kernel
theorem d_Tokens_scanWord_16 : decode b_Tokens_scanWord 16 = .ok (.getfield 85, 3) := by decide +kernel
theorem d_Tokens_scanWord_19 : decode b_Tokens_scanWord 19 = .ok (.if_icmp .ge 33, 3) := by decide +kernel
theorem d_Tokens_scanWord_22 : decode b_Tokens_scanWord 22 = .ok (.aload_n 0, 1) := by decide +kernel
theorem d_Tokens_scanWord_23 : decode b_Tokens_scanWord 23 = .ok (.getfield 30, 3) := by decide +kernel
theorem d_Tokens_scanWord_26 : decode b_Tokens_scanWord 26 = .ok (.aload_n 0, 1) := by decide +kernel
theorem d_Tokens_scanWord_27 : decode b_Tokens_scanWord 27 = .ok (.getfield 41, 3) := by decide +kernel
theorem d_Tokens_scanWord_30 : decode b_Tokens_scanWord 30 = .ok (.invokevirtual 80, 3) := by decide +kernel
theorem d_Tokens_scanWord_33 : decode b_Tokens_scanWord 33 = .ok (.invokestatic 88, 3) := by decide +kernel
theorem d_Tokens_scanWord_36 : decode b_Tokens_scanWord 36 = .ok (.ifCond .eq 16, 3) := by decide +kernel
theorem d_Tokens_scanWord_39 : decode b_Tokens_scanWord 39 = .ok (.aload_n 0, 1) := by decide +kernel
theorem d_Tokens_scanWord_40 : decode b_Tokens_scanWord 40 = .ok (.dup, 1) := by decide +kernel
theorem d_Tokens_scanWord_41 : decode b_Tokens_scanWord 41 = .ok (.getfield 41, 3) := by decide +kernel
theorem d_Tokens_scanWord_44 : decode b_Tokens_scanWord 44 = .ok (.iconst 1, 1) := by decide +kernel
theorem d_Tokens_scanWord_45 : decode b_Tokens_scanWord 45 = .ok (.iadd, 1) := by decide +kernel
theorem d_Tokens_scanWord_46 : decode b_Tokens_scanWord 46 = .ok (.putfield 41, 3) := by decide +kernel
theorem d_Tokens_scanWord_49 : decode b_Tokens_scanWord 49 = .ok (.goto (-41), 3) := by decide +kernel
theorem d_Tokens_scanWord_52 : decode b_Tokens_scanWord 52 = .ok (.aload_n 0, 1) := by decide +kernel
theorem d_Tokens_scanWord_53 : decode b_Tokens_scanWord 53 = .ok (.iconst 1, 1) := by decide +kernel
theorem d_Tokens_scanWord_54 : decode b_Tokens_scanWord 54 = .ok (.putfield 38, 3) := by decide +kernel
theorem d_Tokens_scanWord_57 : decode b_Tokens_scanWord 57 = .ok (.aload_n 0, 1) := by decide +kernel
theorem d_Tokens_scanWord_58 : decode b_Tokens_scanWord 58 = .ok (.aload_n 0, 1) := by decide +kernel
theorem d_Tokens_scanWord_59 : decode b_Tokens_scanWord 59 = .ok (.getfield 30, 3) := by decide +kernel
theorem d_Tokens_scanWord_62 : decode b_Tokens_scanWord 62 = .ok (.aload_n 0, 1) := by decide +kernel
theorem d_Tokens_scanWord_63 : decode b_Tokens_scanWord 63 = .ok (.getfield 57, 3) := by decide +kernel
theorem d_Tokens_scanWord_66 : decode b_Tokens_scanWord 66 = .ok (.aload_n 0, 1) := by decide +kernel
theorem d_Tokens_scanWord_67 : decode b_Tokens_scanWord 67 = .ok (.getfield 41, 3) := by decide +kernel
theorem d_Tokens_scanWord_70 : decode b_Tokens_scanWord 70 = .ok (.invokestatic 108, 3) := by decide +kernel
theorem d_Tokens_scanWord_73 : decode b_Tokens_scanWord 73 = .ok (.putfield 63, 3) := by decide +kernel
theorem d_Tokens_scanWord_76 : decode b_Tokens_scanWord 76 = .ok (.return_, 1) := by decide +kernel
theorem d_Tokens_scan_0 : decode b_Tokens_scan 0 = .ok (.aload_n 0, 1) := by decide +kernel
theorem d_Tokens_scan_1 : decode b_Tokens_scan 1 = .ok (.getfield 38, 3) := by decide +kernel
theorem d_Tokens_scan_4 : decode b_Tokens_scan 4 = .ok (.istore_n 1, 1) := by decide +kernel
theorem d_Tokens_scan_5 : decode b_Tokens_scan 5 = .ok (.aload_n 0, 1) := by decide +kernel
theorem d_Tokens_scan_6 : decode b_Tokens_scan 6 = .ok (.getfield 41, 3) := by decide +kernel
theorem d_Tokens_scan_9 : decode b_Tokens_scan 9 = .ok (.istore_n 2, 1) := by decide +kernel
theorem d_Tokens_scan_10 : decode b_Tokens_scan 10 = .ok (.aload_n 0, 1) := by decide +kernel
theorem d_Tokens_scan_11 : decode b_Tokens_scan 11 = .ok (.aload_n 0, 1) := by decide +kernel
theorem d_Tokens_scan_12 : decode b_Tokens_scan 12 = .ok (.iload_n 2, 1) := by decide +kernel
theorem d_Tokens_scan_13 : decode b_Tokens_scan 13 = .ok (.invokevirtual 76, 3) := by decide +kernel
theorem d_Tokens_scan_16 : decode b_Tokens_scan 16 = .ok (.putfield 57, 3) := by decide +kernel
theorem d_Tokens_scan_19 : decode b_Tokens_scan 19 = .ok (.aload_n 0, 1) := by decide +kernel
theorem d_Tokens_scan_20 : decode b_Tokens_scan 20 = .ok (.iconst (-1), 1) := by decide +kernel
theorem d_Tokens_scan_21 : decode b_Tokens_scan 21 = .ok (.putfield 60, 3) := by decide +kernel
theorem d_Tokens_scan_24 : decode b_Tokens_scan 24 = .ok (.aload_n 0, 1) := by decide +kernel
theorem d_Tokens_scan_25 : decode b_Tokens_scan 25 = .ok (.aconst_null, 1) := by decide +kernel
theorem d_Tokens_scan_26 : decode b_Tokens_scan 26 = .ok (.putfield 63, 3) := by decide +kernel
theorem d_Tokens_scan_29 : decode b_Tokens_scan 29 = .ok (.aload_n 0, 1) := by decide +kernel
theorem d_Tokens_scan_30 : decode b_Tokens_scan 30 = .ok (.getfield 30, 3) := by decide +kernel
theorem d_Tokens_scan_33 : decode b_Tokens_scan 33 = .ok (.aload_n 0, 1) := by decide +kernel
theorem d_Tokens_scan_34 : decode b_Tokens_scan 34 = .ok (.getfield 57, 3) := by decide +kernel
theorem d_Tokens_scan_37 : decode b_Tokens_scan 37 = .ok (.invokevirtual 80, 3) := by decide +kernel
theorem d_Tokens_scan_40 : decode b_Tokens_scan 40 = .ok (.istore_n 3, 1) := by decide +kernel
theorem d_Tokens_scan_41 : decode b_Tokens_scan 41 = .ok (.aload_n 0, 1) := by decide +kernel
theorem d_Tokens_scan_42 : decode b_Tokens_scan 42 = .ok (.getfield 57, 3) := by decide +kernel
theorem d_Tokens_scan_45 : decode b_Tokens_scan 45 = .ok (.aload_n 0, 1) := by decide +kernel
theorem d_Tokens_scan_46 : decode b_Tokens_scan 46 = .ok (.getfield 30, 3) := by decide +kernel
theorem d_Tokens_scan_49 : decode b_Tokens_scan 49 = .ok (.getfield 85, 3) := by decide +kernel
theorem d_Tokens_scan_52 : decode b_Tokens_scan 52 = .ok (.if_icmp .lt 19, 3) := by decide +kernel
theorem d_Tokens_scan_55 : decode b_Tokens_scan 55 = .ok (.aload_n 0, 1) := by decide +kernel
theorem d_Tokens_scan_56 : decode b_Tokens_scan 56 = .ok (.iconst 0, 1) := by decide +kernel
theorem d_Tokens_scan_57 : decode b_Tokens_scan 57 = .ok (.putfield 38, 3) := by decide +kernel
theorem d_Tokens_scan_60 : decode b_Tokens_scan 60 = .ok (.aload_n 0, 1) := by decide +kernel
theorem d_Tokens_scan_61 : decode b_Tokens_scan 61 = .ok (.aload_n 0, 1) := by decide +kernel
theorem d_Tokens_scan_62 : decode b_Tokens_scan 62 = .ok (.getfield 57, 3) := by decide +kernel
theorem d_Tokens_scan_65 : decode b_Tokens_scan 65 = .ok (.putfield 41, 3) := by decide +kernel
theorem d_Tokens_scan_68 : decode b_Tokens_scan 68 = .ok (.goto 62, 3) := by decide +kernel
theorem d_Tokens_scan_71 : decode b_Tokens_scan 71 = .ok (.iload_n 3, 1) := by decide +kernel
theorem d_Tokens_scan_72 : decode b_Tokens_scan 72 = .ok (.invokestatic 88, 3) := by decide +kernel
theorem d_Tokens_scan_75 : decode b_Tokens_scan 75 = .ok (.ifCond .eq 10, 3) := by decide +kernel
theorem d_Tokens_scan_78 : decode b_Tokens_scan 78 = .ok (.aload_n 0, 1) := by decide +kernel
theorem d_Tokens_scan_79 : decode b_Tokens_scan 79 = .ok (.invokevirtual 92, 3) := by decide +kernel
theorem d_Tokens_scan_82 : decode b_Tokens_scan 82 = .ok (.goto 48, 3) := by decide +kernel
theorem d_Tokens_scan_85 : decode b_Tokens_scan 85 = .ok (.iload_n 3, 1) := by decide +kernel
theorem d_Tokens_scan_86 : decode b_Tokens_scan 86 = .ok (.invokestatic 95, 3) := by decide +kernel
theorem d_Tokens_scan_89 : decode b_Tokens_scan 89 = .ok (.ifCond .eq 10, 3) := by decide +kernel
theorem d_Tokens_scan_92 : decode b_Tokens_scan 92 = .ok (.aload_n 0, 1) := by decide +kernel
theorem d_Tokens_scan_93 : decode b_Tokens_scan 93 = .ok (.invokevirtual 98, 3) := by decide +kernel
theorem d_Tokens_scan_96 : decode b_Tokens_scan 96 = .ok (.goto 34, 3) := by decide +kernel
theorem d_Tokens_scan_99 : decode b_Tokens_scan 99 = .ok (.aload_n 0, 1) := by decide +kernel
theorem d_Tokens_scan_100 : decode b_Tokens_scan 100 = .ok (.iload_n 3, 1) := by decide +kernel
theorem d_Tokens_scan_101 : decode b_Tokens_scan 101 = .ok (.invokestatic 101, 3) := by decide +kernel
theorem d_Tokens_scan_104 : decode b_Tokens_scan 104 = .ok (.ifCond .eq 7, 3) := by decide +kernel
theorem d_Tokens_scan_107 : decode b_Tokens_scan 107 = .ok (.iconst 3, 1) := by decide +kernel
theorem d_Tokens_scan_108 : decode b_Tokens_scan 108 = .ok (.goto 4, 3) := by decide +kernel
theorem d_Tokens_scan_111 : decode b_Tokens_scan 111 = .ok (.iconst 4, 1) := by decide +kernel
theorem d_Tokens_scan_112 : decode b_Tokens_scan 112 = .ok (.putfield 38, 3) := by decide +kernel
theorem d_Tokens_scan_115 : decode b_Tokens_scan 115 = .ok (.aload_n 0, 1) := by decide +kernel
theorem d_Tokens_scan_116 : decode b_Tokens_scan 116 = .ok (.iload_n 3, 1) := by decide +kernel
theorem d_Tokens_scan_117 : decode b_Tokens_scan 117 = .ok (.putfield 60, 3) := by decide +kernel
theorem d_Tokens_scan_120 : decode b_Tokens_scan 120 = .ok (.aload_n 0, 1) := by decide +kernel
theorem d_Tokens_scan_121 : decode b_Tokens_scan 121 = .ok (.aload_n 0, 1) := by decide +kernel
theorem d_Tokens_scan_122 : decode b_Tokens_scan 122 = .ok (.getfield 57, 3) := by decide +kernel
theorem d_Tokens_scan_125 : decode b_Tokens_scan 125 = .ok (.iconst 1, 1) := by decide +kernel
theorem d_Tokens_scan_126 : decode b_Tokens_scan 126 = .ok (.iadd, 1) := by decide +kernel
theorem d_Tokens_scan_127 : decode b_Tokens_scan 127 = .ok (.putfield 41, 3) := by decide +kernel
theorem d_Tokens_scan_130 : decode b_Tokens_scan 130 = .ok (.aload_n 0, 1) := by decide +kernel
theorem d_Tokens_scan_131 : decode b_Tokens_scan 131 = .ok (.getfield 57, 3) := by decide +kernel
theorem d_Tokens_scan_134 : decode b_Tokens_scan 134 = .ok (.iload_n 2, 1) := by decide +kernel
theorem d_Tokens_scan_135 : decode b_Tokens_scan 135 = .ok (.if_icmp .ne 19, 3) := by decide +kernel
theorem d_Tokens_scan_138 : decode b_Tokens_scan 138 = .ok (.iload_n 1, 1) := by decide +kernel
theorem d_Tokens_scan_139 : decode b_Tokens_scan 139 = .ok (.aload_n 0, 1) := by decide +kernel
theorem d_Tokens_scan_140 : decode b_Tokens_scan 140 = .ok (.getfield 38, 3) := by decide +kernel
theorem d_Tokens_scan_143 : decode b_Tokens_scan 143 = .ok (.invokestatic 104, 3) := by decide +kernel
theorem d_Tokens_scan_146 : decode b_Tokens_scan 146 = .ok (.ifCond .eq 8, 3) := by decide +kernel
theorem d_Tokens_scan_149 : decode b_Tokens_scan 149 = .ok (.aload_n 0, 1) := by decide +kernel
theorem d_Tokens_scan_150 : decode b_Tokens_scan 150 = .ok (.iconst 4, 1) := by decide +kernel
theorem d_Tokens_scan_151 : decode b_Tokens_scan 151 = .ok (.putfield 38, 3) := by decide +kernel
theorem d_Tokens_scan_154 : decode b_Tokens_scan 154 = .ok (.return_, 1) := by decide +kernel
set_option maxHeartbeats 4000000 in
set_option maxRecDepth 100000 in
theorem lp_Tokens_scanWord_8 (g : GG) {a : Nat} {t : Nat} {zs : Nat} {zb : Nat} {ze : Nat} {zv : Nat} {zw : Nat} {cnt : Nat} {nx : Nat} {tb : Nat} {k : Nat} {so : Nat} {sta : Nat} {en : Nat} {T : Nat → Nat} {v : Option Nat} {wd : Option Nat} (hk : k ≤ 2000) (hT : ∀ j, T j < 256) (hs : sta ≤ k) {x : X0} {A : Nat → Prop} {Q : State → Prop}  (C : CX x g A R_Tokens b_Tokens_scanWord 1) (E : RX x g A Q none (fun (r0 : Option Value) (w0 : va_W) => r0 = none ∧ w0 = [(a, .inr (2, [.ref t, .ref zs, .ref zb, .ref ze, .ref zv, .ref zw, .int (nI cnt), .int (nI nx), .int (nI 1), .int (nI sta), .int (nI (run isLet T k sta)), .int (oI v), va_rf (wR g (wordAt T sta (run isLet T k sta)))])), (t, .inr (1, [.ref tb, .int (nI k)])), (tb, .inl (g.2.1 1, 2000, .inl (aI T)))]) (rmk 6 0 0 132).cells (rmk 6 0 0 132).slots) (hR : xR x = (rmk 6 0 0 132)) : ∀ (fuel : Nat) (e : Nat) (h1 : sta ≤ e) (h2 : e ≤ k) (he : run isLet T k e = run isLet T k sta), k - e < fuel → J x g A Q 1 ([(a, .inr (2, [.ref t, .ref zs, .ref zb, .ref ze, .ref zv, .ref zw, .int (nI cnt), .int (nI nx), .int (nI so), .int (nI sta), .int (nI e), .int (oI v), va_rf (wR g wd)])), (t, .inr (1, [.ref tb, .int (nI k)])), (tb, .inl (g.2.1 1, 2000, .inl (aI T)))]) [(0, .ref a)] 8 [] 0 0 := by
  intro fuel
  induction fuel with
  | zero =>
    intro e h1 h2 he hm
    exact absurd hm (Nat.not_lt_zero _)
  | succ fuel ih =>
    intro e h1 h2 he hm
    refine r_aload_n C 0 d_Tokens_scanWord_8 rfl rfl ?_
    refine r_get C 0 10 d_Tokens_scanWord_9 ci_Tokens fi_Tokens_41 rfl (by decide) rfl rfl ?_
    refine r_aload_n C 0 d_Tokens_scanWord_12 rfl rfl ?_
    refine r_get C 0 0 d_Tokens_scanWord_13 ci_Tokens fi_Tokens_30 rfl (by decide) rfl rfl ?_
    refine r_get C 1 1 d_Tokens_scanWord_16 ci_Text fi_Tokens_85 rfl (by decide) rfl rfl ?_
    refine r_ncmp_ge C 52 d_Tokens_scanWord_19 (by decide) (by omega) (by omega) (fun c_19 => ?_) (fun c_19 => ?_)
    · skip
      refine r_aload_n C 0 d_Tokens_scanWord_52 rfl rfl ?_
      refine r_iconst C (nI 1) d_Tokens_scanWord_53 (by decide) ?_
      refine r_put C (ws' := [(a, .inr (2, [.ref t, .ref zs, .ref zb, .ref ze, .ref zv, .ref zw, .int (nI cnt), .int (nI nx), .int (nI 1), .int (nI sta), .int (nI e), .int (oI v), va_rf (wR g wd)])), (t, .inr (1, [.ref tb, .int (nI k)])), (tb, .inl (g.2.1 1, 2000, .inl (aI T)))]) 0 8 d_Tokens_scanWord_54 ci_Tokens fi_Tokens_38 rfl (by decide) rfl rfl (rfl) (rfl) (by simp) rfl ?_
      refine r_aload_n C 0 d_Tokens_scanWord_57 rfl rfl ?_
      refine r_aload_n C 0 d_Tokens_scanWord_58 rfl rfl ?_
      refine r_get C 0 0 d_Tokens_scanWord_59 ci_Tokens fi_Tokens_30 rfl (by decide) rfl rfl ?_
      refine r_aload_n C 0 d_Tokens_scanWord_62 rfl rfl ?_
      refine r_get C 0 9 d_Tokens_scanWord_63 ci_Tokens fi_Tokens_57 rfl (by decide) rfl rfl ?_
      refine r_aload_n C 0 d_Tokens_scanWord_66 rfl rfl ?_
      refine r_get C 0 10 d_Tokens_scanWord_67 ci_Tokens fi_Tokens_41 rfl (by decide) rfl rfl ?_
      refine j_callS C (c_Word_find g (xl x) (t := t) (tb := tb) (k := k) (s := sta) (e := e) (T := T) (by first | assumption | rfl | omega) (by first | assumption | rfl | omega) (by first | assumption | rfl | omega) (by first | assumption | rfl | omega)) (Sp.of (wr := [(a, .inr (2, [.ref t, .ref zs, .ref zb, .ref ze, .ref zv, .ref zw, .int (nI cnt), .int (nI nx), .int (nI 1), .int (nI sta), .int (nI e), .int (oI v), va_rf (wR g wd)]))]) [1, 2] [0] rfl rfl rfl rfl (by decide)) d_Tokens_scanWord_70 lk_Tokens_108 mw_Word_find st_Word_find (fit_of hR (by first | decide | (simp only [rmk]; omega)) (by first | decide | (simp only [rmk]; omega)) (by first | decide | (simp only [rmk]; omega)) (by first | decide | (simp only [rmk]; omega))) rfl (cat8 (Nat.le_of_ble_eq_true rfl)) (As := [.ref t, .int (nI sta), .int (nI e)]) (rest := [.ref a]) rfl (fun r_70 w_70 hp_70 => ?_)
      obtain ⟨rfl, rfl⟩ := hp_70
      refine r_after (ws' := [(a, .inr (2, [.ref t, .ref zs, .ref zb, .ref ze, .ref zv, .ref zw, .int (nI cnt), .int (nI nx), .int (nI 1), .int (nI sta), .int (nI e), .int (oI v), va_rf (wR g wd)])), (t, .inr (1, [.ref tb, .int (nI k)])), (tb, .inl (g.2.1 1, 2000, .inl (aI T)))]) (st' := [va_rf (wR g (wordAt T sta e)), .ref a]) (n1 := 0) (n2 := 0) [0, 1, 2] rfl rfl rfl rfl rfl ?_
      refine r_put C (ws' := [(a, .inr (2, [.ref t, .ref zs, .ref zb, .ref ze, .ref zv, .ref zw, .int (nI cnt), .int (nI nx), .int (nI 1), .int (nI sta), .int (nI e), .int (oI v), va_rf (wR g (wordAt T sta e))])), (t, .inr (1, [.ref tb, .int (nI k)])), (tb, .inl (g.2.1 1, 2000, .inl (aI T)))]) 0 12 d_Tokens_scanWord_73 ci_Tokens fi_Tokens_63 rfl (by decide) rfl rfl (rf_nar _ _) (rf_fit _ _) (by simp) rfl ?_
      refine r_vret C E d_Tokens_scanWord_76 (by first | decide | omega | (simp only [rmk]; omega)) (by first | decide | omega | (simp only [rmk]; omega)) ?_
      have hrun : run isLet T k sta = e := by rw [← he, run_stop (by first | omega | simp [c_36])]
      rw [hrun]; exact ⟨rfl, rfl⟩
    · skip
      refine r_aload_n C 0 d_Tokens_scanWord_22 rfl rfl ?_
      refine r_get C 0 0 d_Tokens_scanWord_23 ci_Tokens fi_Tokens_30 rfl (by decide) rfl rfl ?_
      refine r_aload_n C 0 d_Tokens_scanWord_26 rfl rfl ?_
      refine r_get C 0 10 d_Tokens_scanWord_27 ci_Tokens fi_Tokens_41 rfl (by decide) rfl rfl ?_
      refine j_callV C (c_Text_at g (xl x) (t := t) (tb := tb) (k := k) (j := e) (T := T) (by first | assumption | rfl | omega) (by first | assumption | rfl | omega)) (Sp.of (wr := [(a, .inr (2, [.ref t, .ref zs, .ref zb, .ref ze, .ref zv, .ref zw, .int (nI cnt), .int (nI nx), .int (nI so), .int (nI sta), .int (nI e), .int (oI v), va_rf (wR g wd)]))]) [1, 2] [0] rfl rfl rfl rfl (by decide)) d_Tokens_scanWord_30 lk_Tokens_80 mw_Text_at vw_Text_at (q0 := 0) rfl rfl (fit_of hR (by first | decide | (simp only [rmk]; omega)) (by first | decide | (simp only [rmk]; omega)) (by first | decide | (simp only [rmk]; omega)) (by first | decide | (simp only [rmk]; omega))) rfl (cat8 (Nat.le_of_ble_eq_true rfl)) (As := [.int (nI e)]) (rest := []) rfl (fun r_30 w_30 hp_30 => ?_)
      obtain ⟨rfl, rfl⟩ := hp_30
      refine r_after (ws' := [(a, .inr (2, [.ref t, .ref zs, .ref zb, .ref ze, .ref zv, .ref zw, .int (nI cnt), .int (nI nx), .int (nI so), .int (nI sta), .int (nI e), .int (oI v), va_rf (wR g wd)])), (t, .inr (1, [.ref tb, .int (nI k)])), (tb, .inl (g.2.1 1, 2000, .inl (aI T)))]) (st' := [.int (oI (atO T k e))]) (n1 := 0) (n2 := 0) [0, 1, 2] rfl rfl rfl rfl rfl ?_
      have hTe := hT e
      refine r_top (v' := nI (T e)) (oI_at (by omega)) ?_
      refine j_callS C (c_Tokens_isLetter g (xl x) (c := T e) (by first | assumption | rfl | omega)) (Sp.of (wr := [(a, .inr (2, [.ref t, .ref zs, .ref zb, .ref ze, .ref zv, .ref zw, .int (nI cnt), .int (nI nx), .int (nI so), .int (nI sta), .int (nI e), .int (oI v), va_rf (wR g wd)])), (t, .inr (1, [.ref tb, .int (nI k)])), (tb, .inl (g.2.1 1, 2000, .inl (aI T)))]) [] [0, 1, 2] rfl rfl rfl rfl (by decide)) d_Tokens_scanWord_33 lk_Tokens_88 mw_Tokens_isLetter st_Tokens_isLetter (fit_of hR (by first | decide | (simp only [rmk]; omega)) (by first | decide | (simp only [rmk]; omega)) (by first | decide | (simp only [rmk]; omega)) (by first | decide | (simp only [rmk]; omega))) rfl (cat8 (Nat.le_of_ble_eq_true rfl)) (As := [.int (nI (T e))]) (rest := []) rfl (fun r_33 w_33 hp_33 => ?_)
      obtain ⟨rfl, rfl⟩ := hp_33
      refine r_after (ws' := [(a, .inr (2, [.ref t, .ref zs, .ref zb, .ref ze, .ref zv, .ref zw, .int (nI cnt), .int (nI nx), .int (nI so), .int (nI sta), .int (nI e), .int (oI v), va_rf (wR g wd)])), (t, .inr (1, [.ref tb, .int (nI k)])), (tb, .inl (g.2.1 1, 2000, .inl (aI T)))]) (st' := [.int (bI (isLet (T e)))]) (n1 := 0) (n2 := 0) [0, 1, 2] rfl rfl rfl rfl rfl ?_
      refine r_bif_eq C 52 d_Tokens_scanWord_36 (by decide) (fun c_36 => ?_) (fun c_36 => ?_)
      · skip
        refine r_aload_n C 0 d_Tokens_scanWord_52 rfl rfl ?_
        refine r_iconst C (nI 1) d_Tokens_scanWord_53 (by decide) ?_
        refine r_put C (ws' := [(a, .inr (2, [.ref t, .ref zs, .ref zb, .ref ze, .ref zv, .ref zw, .int (nI cnt), .int (nI nx), .int (nI 1), .int (nI sta), .int (nI e), .int (oI v), va_rf (wR g wd)])), (t, .inr (1, [.ref tb, .int (nI k)])), (tb, .inl (g.2.1 1, 2000, .inl (aI T)))]) 0 8 d_Tokens_scanWord_54 ci_Tokens fi_Tokens_38 rfl (by decide) rfl rfl (rfl) (rfl) (by simp) rfl ?_
        refine r_aload_n C 0 d_Tokens_scanWord_57 rfl rfl ?_
        refine r_aload_n C 0 d_Tokens_scanWord_58 rfl rfl ?_
        refine r_get C 0 0 d_Tokens_scanWord_59 ci_Tokens fi_Tokens_30 rfl (by decide) rfl rfl ?_
        refine r_aload_n C 0 d_Tokens_scanWord_62 rfl rfl ?_
        refine r_get C 0 9 d_Tokens_scanWord_63 ci_Tokens fi_Tokens_57 rfl (by decide) rfl rfl ?_
        refine r_aload_n C 0 d_Tokens_scanWord_66 rfl rfl ?_
        refine r_get C 0 10 d_Tokens_scanWord_67 ci_Tokens fi_Tokens_41 rfl (by decide) rfl rfl ?_
        refine j_callS C (c_Word_find g (xl x) (t := t) (tb := tb) (k := k) (s := sta) (e := e) (T := T) (by first | assumption | rfl | omega) (by first | assumption | rfl | omega) (by first | assumption | rfl | omega) (by first | assumption | rfl | omega)) (Sp.of (wr := [(a, .inr (2, [.ref t, .ref zs, .ref zb, .ref ze, .ref zv, .ref zw, .int (nI cnt), .int (nI nx), .int (nI 1), .int (nI sta), .int (nI e), .int (oI v), va_rf (wR g wd)]))]) [1, 2] [0] rfl rfl rfl rfl (by decide)) d_Tokens_scanWord_70 lk_Tokens_108 mw_Word_find st_Word_find (fit_of hR (by first | decide | (simp only [rmk]; omega)) (by first | decide | (simp only [rmk]; omega)) (by first | decide | (simp only [rmk]; omega)) (by first | decide | (simp only [rmk]; omega))) rfl (cat8 (Nat.le_of_ble_eq_true rfl)) (As := [.ref t, .int (nI sta), .int (nI e)]) (rest := [.ref a]) rfl (fun r_70 w_70 hp_70 => ?_)
        obtain ⟨rfl, rfl⟩ := hp_70
        refine r_after (ws' := [(a, .inr (2, [.ref t, .ref zs, .ref zb, .ref ze, .ref zv, .ref zw, .int (nI cnt), .int (nI nx), .int (nI 1), .int (nI sta), .int (nI e), .int (oI v), va_rf (wR g wd)])), (t, .inr (1, [.ref tb, .int (nI k)])), (tb, .inl (g.2.1 1, 2000, .inl (aI T)))]) (st' := [va_rf (wR g (wordAt T sta e)), .ref a]) (n1 := 0) (n2 := 0) [0, 1, 2] rfl rfl rfl rfl rfl ?_
        refine r_put C (ws' := [(a, .inr (2, [.ref t, .ref zs, .ref zb, .ref ze, .ref zv, .ref zw, .int (nI cnt), .int (nI nx), .int (nI 1), .int (nI sta), .int (nI e), .int (oI v), va_rf (wR g (wordAt T sta e))])), (t, .inr (1, [.ref tb, .int (nI k)])), (tb, .inl (g.2.1 1, 2000, .inl (aI T)))]) 0 12 d_Tokens_scanWord_73 ci_Tokens fi_Tokens_63 rfl (by decide) rfl rfl (rf_nar _ _) (rf_fit _ _) (by simp) rfl ?_
        refine r_vret C E d_Tokens_scanWord_76 (by first | decide | omega | (simp only [rmk]; omega)) (by first | decide | omega | (simp only [rmk]; omega)) ?_
        have hrun : run isLet T k sta = e := by rw [← he, run_stop (by first | omega | simp [c_36])]
        rw [hrun]; exact ⟨rfl, rfl⟩
      · skip
        refine r_aload_n C 0 d_Tokens_scanWord_39 rfl rfl ?_
        refine r_dup C d_Tokens_scanWord_40 rfl ?_
        refine r_get C 0 10 d_Tokens_scanWord_41 ci_Tokens fi_Tokens_41 rfl (by decide) rfl rfl ?_
        refine r_iconst C (nI 1) d_Tokens_scanWord_44 (by decide) ?_
        refine r_nadd C d_Tokens_scanWord_45 ?_
        refine r_put C (ws' := [(a, .inr (2, [.ref t, .ref zs, .ref zb, .ref ze, .ref zv, .ref zw, .int (nI cnt), .int (nI nx), .int (nI so), .int (nI sta), .int (nI (e + 1)), .int (oI v), va_rf (wR g wd)])), (t, .inr (1, [.ref tb, .int (nI k)])), (tb, .inl (g.2.1 1, 2000, .inl (aI T)))]) 0 10 d_Tokens_scanWord_46 ci_Tokens fi_Tokens_41 rfl (by decide) rfl rfl (rfl) (rfl) (by simp) rfl ?_
        refine r_goto C 8 d_Tokens_scanWord_49 (by decide) ?_
        refine r_lv (lv' := [(0, .ref a)]) [0] rfl ?_
        exact ih (e + 1) (by first | assumption | rfl | omega) (by first | assumption | rfl | omega) (by rw [← he]; exact (run_go (by omega) c_36).symm) (by omega)
set_option maxHeartbeats 4000000 in
set_option maxRecDepth 100000 in
theorem c_Tokens_scanWord (g : GG) (l : Launch) {a : Nat} {t : Nat} {zs : Nat} {zb : Nat} {ze : Nat} {zv : Nat} {zw : Nat} {cnt : Nat} {nx : Nat} {tb : Nat} {k : Nat} {so : Nat} {sta : Nat} {en : Nat} {T : Nat → Nat} {v : Option Nat} {wd : Option Nat}  (hk : k ≤ 2000) (hT : ∀ j, T j < 256) (hs : sta ≤ k) : Cn g l y_Tokens_scanWord b_Tokens_scanWord 1 none (rmk 6 0 0 132) [.ref a] ([(a, .inr (2, [.ref t, .ref zs, .ref zb, .ref ze, .ref zv, .ref zw, .int (nI cnt), .int (nI nx), .int (nI so), .int (nI sta), .int (nI en), .int (oI v), va_rf (wR g wd)])), (t, .inr (1, [.ref tb, .int (nI k)])), (tb, .inl (g.2.1 1, 2000, .inl (aI T)))]) (fun (r0 : Option Value) (w0 : va_W) => r0 = none ∧ w0 = [(a, .inr (2, [.ref t, .ref zs, .ref zb, .ref ze, .ref zv, .ref zw, .int (nI cnt), .int (nI nx), .int (nI 1), .int (nI sta), .int (nI (run isLet T k sta)), .int (oI v), va_rf (wR g (wordAt T sta (run isLet T k sta)))])), (t, .inr (1, [.ref tb, .int (nI k)])), (tb, .inl (g.2.1 1, 2000, .inl (aI T)))]) := by
  refine Cn.of R_Tokens [(0, .ref a)] (by decide) rfl (Nat.le_of_ble_eq_true rfl) rfl ?_
  intro x A Q hR hXl hin C E
  subst hXl
  refine r_aload_n C 0 d_Tokens_scanWord_0 rfl rfl ?_
  refine r_aload_n C 0 d_Tokens_scanWord_1 rfl rfl ?_
  refine r_get C 0 9 d_Tokens_scanWord_2 ci_Tokens fi_Tokens_57 rfl (by decide) rfl rfl ?_
  refine r_put C (ws' := [(a, .inr (2, [.ref t, .ref zs, .ref zb, .ref ze, .ref zv, .ref zw, .int (nI cnt), .int (nI nx), .int (nI so), .int (nI sta), .int (nI sta), .int (oI v), va_rf (wR g wd)])), (t, .inr (1, [.ref tb, .int (nI k)])), (tb, .inl (g.2.1 1, 2000, .inl (aI T)))]) 0 10 d_Tokens_scanWord_5 ci_Tokens fi_Tokens_41 rfl (by decide) rfl rfl (rfl) (rfl) (by simp) rfl ?_
  refine r_lv (lv' := [(0, .ref a)]) [0] rfl ?_
  exact lp_Tokens_scanWord_8 g (a := a) (t := t) (zs := zs) (zb := zb) (ze := ze) (zv := zv) (zw := zw) (cnt := cnt) (nx := nx) (tb := tb) (k := k) (so := so) (sta := sta) (en := en) (T := T) (v := v) (wd := wd) hk hT hs  C E hR _ sta (by first | assumption | rfl | omega) (by first | assumption | rfl | omega) (by first | assumption | rfl | omega) (Nat.lt_succ_self _)

set_option maxHeartbeats 4000000 in
set_option maxRecDepth 100000 in
theorem c_Tokens_scan (g : GG) (l : Launch) {a : Nat} {t : Nat} {zs : Nat} {zb : Nat} {ze : Nat} {zv : Nat} {zw : Nat} {cnt : Nat} {nx : Nat} {tb : Nat} {k : Nat} {so : Nat} {sta : Nat} {en : Nat} {T : Nat → Nat} {v : Option Nat} {wd : Option Nat}  (hk : k ≤ 2000) (hT : ∀ j, T j < 256) (hso : so < 2 ^ 31) (he : en ≤ k) : Cn g l y_Tokens_scan b_Tokens_scan 4 none (rmk 7 0 0 152) [.ref a] ([(a, .inr (2, [.ref t, .ref zs, .ref zb, .ref ze, .ref zv, .ref zw, .int (nI cnt), .int (nI nx), .int (nI so), .int (nI sta), .int (nI en), .int (oI v), va_rf (wR g wd)])), (t, .inr (1, [.ref tb, .int (nI k)])), (tb, .inl (g.2.1 1, 2000, .inl (aI T)))]) (fun (r0 : Option Value) (w0 : va_W) => ∃ tk : Tok, r0 = none ∧ w0 = [(a, .inr (2, [.ref t, .ref zs, .ref zb, .ref ze, .ref zv, .ref zw, .int (nI cnt), .int (nI nx), .int (nI tk.1), .int (nI tk.2.1), .int (nI tk.2.2.1), .int (oI tk.2.2.2.1), va_rf (wR g tk.2.2.2.2)])), (t, .inr (1, [.ref tb, .int (nI k)])), (tb, .inl (g.2.1 1, 2000, .inl (aI T)))] ∧ (tk = tokAt T k so en)) := by
  refine Cn.of R_Tokens [(0, .ref a)] (by decide) rfl (Nat.le_of_ble_eq_true rfl) rfl ?_
  intro x A Q hR hXl hin C E
  subst hXl
  refine r_aload_n C 0 d_Tokens_scan_0 rfl rfl ?_
  refine r_get C 0 8 d_Tokens_scan_1 ci_Tokens fi_Tokens_38 rfl (by decide) rfl rfl ?_
  refine r_istore_n C (lv' := [(1, .int (nI so)), (0, .ref a)]) d_Tokens_scan_4 rfl (by decide) rfl ?_
  refine r_aload_n C 1 d_Tokens_scan_5 rfl rfl ?_
  refine r_get C 0 10 d_Tokens_scan_6 ci_Tokens fi_Tokens_41 rfl (by decide) rfl rfl ?_
  refine r_istore_n C (lv' := [(2, .int (nI en)), (1, .int (nI so)), (0, .ref a)]) d_Tokens_scan_9 rfl (by decide) rfl ?_
  refine r_aload_n C 2 d_Tokens_scan_10 rfl rfl ?_
  refine r_aload_n C 2 d_Tokens_scan_11 rfl rfl ?_
  refine r_iload_n C 0 d_Tokens_scan_12 rfl rfl ?_
  refine j_callV C (c_Tokens_behindBlanks g (xl x) (a := a) (t := t) (zs := zs) (zb := zb) (ze := ze) (zv := zv) (zw := zw) (cnt := cnt) (nx := nx) (tb := tb) (k := k) (so := so) (sta := sta) (en := en) (T := T) (v := v) (wd := wd) (j := en) (by first | assumption | rfl | omega) (by first | assumption | rfl | omega) (by first | assumption | rfl | omega)) (Sp.of (wr := []) [0, 1, 2] [] rfl rfl rfl rfl (by decide)) d_Tokens_scan_13 lk_Tokens_76 mw_Tokens_behindBlanks vw_Tokens_behindBlanks (q0 := 0) rfl rfl (fit_of hR (by first | decide | (simp only [rmk]; omega)) (by first | decide | (simp only [rmk]; omega)) (by first | decide | (simp only [rmk]; omega)) (by first | decide | (simp only [rmk]; omega))) rfl (cat8 (Nat.le_of_ble_eq_true rfl)) (As := [.int (nI en)]) (rest := [.ref a]) rfl (fun r_13 w_13 hp_13 => ?_)
  obtain ⟨rfl, rfl⟩ := hp_13
  refine r_after (ws' := [(a, .inr (2, [.ref t, .ref zs, .ref zb, .ref ze, .ref zv, .ref zw, .int (nI cnt), .int (nI nx), .int (nI so), .int (nI sta), .int (nI en), .int (oI v), va_rf (wR g wd)])), (t, .inr (1, [.ref tb, .int (nI k)])), (tb, .inl (g.2.1 1, 2000, .inl (aI T)))]) (st' := [.int (nI (run isBlk T k en)), .ref a]) (n1 := 0) (n2 := 0) [0, 1, 2] rfl rfl rfl rfl rfl ?_
  refine r_put C (ws' := [(a, .inr (2, [.ref t, .ref zs, .ref zb, .ref ze, .ref zv, .ref zw, .int (nI cnt), .int (nI nx), .int (nI so), .int (nI (run isBlk T k en)), .int (nI en), .int (oI v), va_rf (wR g wd)])), (t, .inr (1, [.ref tb, .int (nI k)])), (tb, .inl (g.2.1 1, 2000, .inl (aI T)))]) 0 9 d_Tokens_scan_16 ci_Tokens fi_Tokens_57 rfl (by decide) rfl rfl (rfl) (rfl) (by simp) rfl ?_
  have hb := run_in (p := isBlk) (T := T) (k := k) (k - en) en rfl he
  refine r_aload_n C 2 d_Tokens_scan_19 rfl rfl ?_
  refine r_iconst C ((-1)) d_Tokens_scan_20 (by decide) ?_
  refine r_put C (ws' := [(a, .inr (2, [.ref t, .ref zs, .ref zb, .ref ze, .ref zv, .ref zw, .int (nI cnt), .int (nI nx), .int (nI so), .int (nI (run isBlk T k en)), .int (nI en), .int (-1), va_rf (wR g wd)])), (t, .inr (1, [.ref tb, .int (nI k)])), (tb, .inl (g.2.1 1, 2000, .inl (aI T)))]) 0 11 d_Tokens_scan_21 ci_Tokens fi_Tokens_60 rfl (by decide) rfl rfl (rfl) (rfl) (by simp) rfl ?_
  refine r_aload_n C 2 d_Tokens_scan_24 rfl rfl ?_
  refine r_null C d_Tokens_scan_25 ?_
  refine r_put C (ws' := [(a, .inr (2, [.ref t, .ref zs, .ref zb, .ref ze, .ref zv, .ref zw, .int (nI cnt), .int (nI nx), .int (nI so), .int (nI (run isBlk T k en)), .int (nI en), .int (-1), .null])), (t, .inr (1, [.ref tb, .int (nI k)])), (tb, .inl (g.2.1 1, 2000, .inl (aI T)))]) 0 12 d_Tokens_scan_26 ci_Tokens fi_Tokens_63 rfl (by decide) rfl rfl (rfl) (rfl) (by simp) rfl ?_
  refine r_aload_n C 2 d_Tokens_scan_29 rfl rfl ?_
  refine r_get C 0 0 d_Tokens_scan_30 ci_Tokens fi_Tokens_30 rfl (by decide) rfl rfl ?_
  refine r_aload_n C 2 d_Tokens_scan_33 rfl rfl ?_
  refine r_get C 0 9 d_Tokens_scan_34 ci_Tokens fi_Tokens_57 rfl (by decide) rfl rfl ?_
  refine j_callV C (c_Text_at g (xl x) (t := t) (tb := tb) (k := k) (j := run isBlk T k en) (T := T) (by first | assumption | rfl | omega) (by first | assumption | rfl | omega)) (Sp.of (wr := [(a, .inr (2, [.ref t, .ref zs, .ref zb, .ref ze, .ref zv, .ref zw, .int (nI cnt), .int (nI nx), .int (nI so), .int (nI (run isBlk T k en)), .int (nI en), .int (-1), .null]))]) [1, 2] [0] rfl rfl rfl rfl (by decide)) d_Tokens_scan_37 lk_Tokens_80 mw_Text_at vw_Text_at (q0 := 0) rfl rfl (fit_of hR (by first | decide | (simp only [rmk]; omega)) (by first | decide | (simp only [rmk]; omega)) (by first | decide | (simp only [rmk]; omega)) (by first | decide | (simp only [rmk]; omega))) rfl (cat8 (Nat.le_of_ble_eq_true rfl)) (As := [.int (nI (run isBlk T k en))]) (rest := []) rfl (fun r_37 w_37 hp_37 => ?_)
  obtain ⟨rfl, rfl⟩ := hp_37
  refine r_after (ws' := [(a, .inr (2, [.ref t, .ref zs, .ref zb, .ref ze, .ref zv, .ref zw, .int (nI cnt), .int (nI nx), .int (nI so), .int (nI (run isBlk T k en)), .int (nI en), .int (-1), .null])), (t, .inr (1, [.ref tb, .int (nI k)])), (tb, .inl (g.2.1 1, 2000, .inl (aI T)))]) (st' := [.int (oI (atO T k (run isBlk T k en)))]) (n1 := 0) (n2 := 0) [0, 1, 2] rfl rfl rfl rfl rfl ?_
  refine r_istore_n C (lv' := [(3, .int (oI (atO T k (run isBlk T k en)))), (2, .int (nI en)), (1, .int (nI so)), (0, .ref a)]) d_Tokens_scan_40 rfl (by decide) rfl ?_
  refine r_aload_n C 3 d_Tokens_scan_41 rfl rfl ?_
  refine r_get C 0 9 d_Tokens_scan_42 ci_Tokens fi_Tokens_57 rfl (by decide) rfl rfl ?_
  refine r_aload_n C 3 d_Tokens_scan_45 rfl rfl ?_
  refine r_get C 0 0 d_Tokens_scan_46 ci_Tokens fi_Tokens_30 rfl (by decide) rfl rfl ?_
  refine r_get C 1 1 d_Tokens_scan_49 ci_Text fi_Tokens_85 rfl (by decide) rfl rfl ?_
  refine r_ncmp_lt C 71 d_Tokens_scan_52 (by decide) (by omega) (by omega) (fun c_52 => ?_) (fun c_52 => ?_)
  · skip
    have hs1 : run isBlk T k en < k := c_52
    have hTs := hT (run isBlk T k en)
    refine r_eqL (lv' := [(3, .int (nI (T (run isBlk T k en)))), (2, .int (nI en)), (1, .int (nI so)), (0, .ref a)]) (by rw [oI_at hs1]) ?_
    refine r_iload_n C 0 d_Tokens_scan_71 rfl rfl ?_
    refine j_callS C (c_Tokens_isLetter g (xl x) (c := T (run isBlk T k en)) (by first | assumption | rfl | omega)) (Sp.of (wr := [(a, .inr (2, [.ref t, .ref zs, .ref zb, .ref ze, .ref zv, .ref zw, .int (nI cnt), .int (nI nx), .int (nI so), .int (nI (run isBlk T k en)), .int (nI en), .int (-1), .null])), (t, .inr (1, [.ref tb, .int (nI k)])), (tb, .inl (g.2.1 1, 2000, .inl (aI T)))]) [] [0, 1, 2] rfl rfl rfl rfl (by decide)) d_Tokens_scan_72 lk_Tokens_88 mw_Tokens_isLetter st_Tokens_isLetter (fit_of hR (by first | decide | (simp only [rmk]; omega)) (by first | decide | (simp only [rmk]; omega)) (by first | decide | (simp only [rmk]; omega)) (by first | decide | (simp only [rmk]; omega))) rfl (cat8 (Nat.le_of_ble_eq_true rfl)) (As := [.int (nI (T (run isBlk T k en)))]) (rest := []) rfl (fun r_72 w_72 hp_72 => ?_)
    obtain ⟨rfl, rfl⟩ := hp_72
    refine r_after (ws' := [(a, .inr (2, [.ref t, .ref zs, .ref zb, .ref ze, .ref zv, .ref zw, .int (nI cnt), .int (nI nx), .int (nI so), .int (nI (run isBlk T k en)), .int (nI en), .int (-1), .null])), (t, .inr (1, [.ref tb, .int (nI k)])), (tb, .inl (g.2.1 1, 2000, .inl (aI T)))]) (st' := [.int (bI (isLet (T (run isBlk T k en))))]) (n1 := 0) (n2 := 0) [0, 1, 2] rfl rfl rfl rfl rfl ?_
    refine r_bif_eq C 85 d_Tokens_scan_75 (by decide) (fun c_75 => ?_) (fun c_75 => ?_)
    · skip
      refine r_iload_n C 0 d_Tokens_scan_85 rfl rfl ?_
      refine j_callS C (c_Tokens_isDigit g (xl x) (c := T (run isBlk T k en)) (by first | assumption | rfl | omega)) (Sp.of (wr := [(a, .inr (2, [.ref t, .ref zs, .ref zb, .ref ze, .ref zv, .ref zw, .int (nI cnt), .int (nI nx), .int (nI so), .int (nI (run isBlk T k en)), .int (nI en), .int (-1), .null])), (t, .inr (1, [.ref tb, .int (nI k)])), (tb, .inl (g.2.1 1, 2000, .inl (aI T)))]) [] [0, 1, 2] rfl rfl rfl rfl (by decide)) d_Tokens_scan_86 lk_Tokens_95 mw_Tokens_isDigit st_Tokens_isDigit (fit_of hR (by first | decide | (simp only [rmk]; omega)) (by first | decide | (simp only [rmk]; omega)) (by first | decide | (simp only [rmk]; omega)) (by first | decide | (simp only [rmk]; omega))) rfl (cat8 (Nat.le_of_ble_eq_true rfl)) (As := [.int (nI (T (run isBlk T k en)))]) (rest := []) rfl (fun r_86 w_86 hp_86 => ?_)
      obtain ⟨rfl, rfl⟩ := hp_86
      refine r_after (ws' := [(a, .inr (2, [.ref t, .ref zs, .ref zb, .ref ze, .ref zv, .ref zw, .int (nI cnt), .int (nI nx), .int (nI so), .int (nI (run isBlk T k en)), .int (nI en), .int (-1), .null])), (t, .inr (1, [.ref tb, .int (nI k)])), (tb, .inl (g.2.1 1, 2000, .inl (aI T)))]) (st' := [.int (bI (isDig (T (run isBlk T k en))))]) (n1 := 0) (n2 := 0) [0, 1, 2] rfl rfl rfl rfl rfl ?_
      refine r_bif_eq C 99 d_Tokens_scan_89 (by decide) (fun c_89 => ?_) (fun c_89 => ?_)
      · skip
        refine r_aload_n C 3 d_Tokens_scan_99 rfl rfl ?_
        refine r_iload_n C 0 d_Tokens_scan_100 rfl rfl ?_
        refine j_callS C (c_Tokens_isSign g (xl x) (c := T (run isBlk T k en)) (by first | assumption | rfl | omega)) (Sp.of (wr := [(a, .inr (2, [.ref t, .ref zs, .ref zb, .ref ze, .ref zv, .ref zw, .int (nI cnt), .int (nI nx), .int (nI so), .int (nI (run isBlk T k en)), .int (nI en), .int (-1), .null])), (t, .inr (1, [.ref tb, .int (nI k)])), (tb, .inl (g.2.1 1, 2000, .inl (aI T)))]) [] [0, 1, 2] rfl rfl rfl rfl (by decide)) d_Tokens_scan_101 lk_Tokens_101 mw_Tokens_isSign st_Tokens_isSign (fit_of hR (by first | decide | (simp only [rmk]; omega)) (by first | decide | (simp only [rmk]; omega)) (by first | decide | (simp only [rmk]; omega)) (by first | decide | (simp only [rmk]; omega))) rfl (cat8 (Nat.le_of_ble_eq_true rfl)) (As := [.int (nI (T (run isBlk T k en)))]) (rest := [.ref a]) rfl (fun r_101 w_101 hp_101 => ?_)
        obtain ⟨rfl, rfl⟩ := hp_101
        refine r_after (ws' := [(a, .inr (2, [.ref t, .ref zs, .ref zb, .ref ze, .ref zv, .ref zw, .int (nI cnt), .int (nI nx), .int (nI so), .int (nI (run isBlk T k en)), .int (nI en), .int (-1), .null])), (t, .inr (1, [.ref tb, .int (nI k)])), (tb, .inl (g.2.1 1, 2000, .inl (aI T)))]) (st' := [.int (bI (isSgn (T (run isBlk T k en)))), .ref a]) (n1 := 0) (n2 := 0) [0, 1, 2] rfl rfl rfl rfl rfl ?_
        refine r_bif_eq C 111 d_Tokens_scan_104 (by decide) (fun c_104 => ?_) (fun c_104 => ?_)
        · skip
          refine r_iconst C (nI 4) d_Tokens_scan_111 (by decide) ?_
          refine r_put C (ws' := [(a, .inr (2, [.ref t, .ref zs, .ref zb, .ref ze, .ref zv, .ref zw, .int (nI cnt), .int (nI nx), .int (nI 4), .int (nI (run isBlk T k en)), .int (nI en), .int (-1), .null])), (t, .inr (1, [.ref tb, .int (nI k)])), (tb, .inl (g.2.1 1, 2000, .inl (aI T)))]) 0 8 d_Tokens_scan_112 ci_Tokens fi_Tokens_38 rfl (by decide) rfl rfl (rfl) (rfl) (by simp) rfl ?_
          refine r_aload_n C 3 d_Tokens_scan_115 rfl rfl ?_
          refine r_iload_n C 0 d_Tokens_scan_116 rfl rfl ?_
          refine r_put C (ws' := [(a, .inr (2, [.ref t, .ref zs, .ref zb, .ref ze, .ref zv, .ref zw, .int (nI cnt), .int (nI nx), .int (nI 4), .int (nI (run isBlk T k en)), .int (nI en), .int (nI (T (run isBlk T k en))), .null])), (t, .inr (1, [.ref tb, .int (nI k)])), (tb, .inl (g.2.1 1, 2000, .inl (aI T)))]) 0 11 d_Tokens_scan_117 ci_Tokens fi_Tokens_60 rfl (by decide) rfl rfl (rfl) (rfl) (by simp) rfl ?_
          refine r_aload_n C 3 d_Tokens_scan_120 rfl rfl ?_
          refine r_aload_n C 3 d_Tokens_scan_121 rfl rfl ?_
          refine r_get C 0 9 d_Tokens_scan_122 ci_Tokens fi_Tokens_57 rfl (by decide) rfl rfl ?_
          refine r_iconst C (nI 1) d_Tokens_scan_125 (by decide) ?_
          refine r_nadd C d_Tokens_scan_126 ?_
          refine r_put C (ws' := [(a, .inr (2, [.ref t, .ref zs, .ref zb, .ref ze, .ref zv, .ref zw, .int (nI cnt), .int (nI nx), .int (nI 4), .int (nI (run isBlk T k en)), .int (nI ((run isBlk T k en) + 1)), .int (nI (T (run isBlk T k en))), .null])), (t, .inr (1, [.ref tb, .int (nI k)])), (tb, .inl (g.2.1 1, 2000, .inl (aI T)))]) 0 10 d_Tokens_scan_127 ci_Tokens fi_Tokens_41 rfl (by decide) rfl rfl (rfl) (rfl) (by simp) rfl ?_
          refine r_aload_n C 3 d_Tokens_scan_130 rfl rfl ?_
          refine r_get C 0 9 d_Tokens_scan_131 ci_Tokens fi_Tokens_57 rfl (by decide) rfl rfl ?_
          refine r_iload_n C 1 d_Tokens_scan_134 rfl rfl ?_
          refine r_ncmp_ne C 154 d_Tokens_scan_135 (by decide) (by omega) (by omega) (fun c_135 => ?_) (fun c_135 => ?_)
          · skip
            refine r_vret C E d_Tokens_scan_154 (by first | decide | omega | (simp only [rmk]; omega)) (by first | decide | omega | (simp only [rmk]; omega)) ?_
            exact ⟨(4, run isBlk T k en, (run isBlk T k en) + 1, some (T (run isBlk T k en)), none), rfl, rfl, by first | exact (tokAt_t (tok0_sgn c_52 c_75 c_89 c_104) c_135 c_146).symm | exact (tokAt_f2 (tok0_sgn c_52 c_75 c_89 c_104) c_146).symm | exact (tokAt_f1 (tok0_sgn c_52 c_75 c_89 c_104) c_135).symm | exact (tokAt_t (tok0_bad c_52 c_75 c_89 c_104) c_135 c_146).symm | exact (tokAt_f2 (tok0_bad c_52 c_75 c_89 c_104) c_146).symm | exact (tokAt_f1 (tok0_bad c_52 c_75 c_89 c_104) c_135).symm⟩
          · skip
            refine r_iload_n C 2 d_Tokens_scan_138 rfl rfl ?_
            refine r_aload_n C 3 d_Tokens_scan_139 rfl rfl ?_
            refine r_get C 0 8 d_Tokens_scan_140 ci_Tokens fi_Tokens_38 rfl (by decide) rfl rfl ?_
            refine j_callS C (c_Tokens_mayNotTouch g (xl x) (c := so) (d := 4) (by first | assumption | rfl | omega) (by first | omega | (split <;> decide))) (Sp.of (wr := [(a, .inr (2, [.ref t, .ref zs, .ref zb, .ref ze, .ref zv, .ref zw, .int (nI cnt), .int (nI nx), .int (nI 4), .int (nI (run isBlk T k en)), .int (nI ((run isBlk T k en) + 1)), .int (nI (T (run isBlk T k en))), .null])), (t, .inr (1, [.ref tb, .int (nI k)])), (tb, .inl (g.2.1 1, 2000, .inl (aI T)))]) [] [0, 1, 2] rfl rfl rfl rfl (by decide)) d_Tokens_scan_143 lk_Tokens_104 mw_Tokens_mayNotTouch st_Tokens_mayNotTouch (fit_of hR (by first | decide | (simp only [rmk]; omega)) (by first | decide | (simp only [rmk]; omega)) (by first | decide | (simp only [rmk]; omega)) (by first | decide | (simp only [rmk]; omega))) rfl (cat8 (Nat.le_of_ble_eq_true rfl)) (As := [.int (nI so), .int (nI 4)]) (rest := []) rfl (fun r_143 w_143 hp_143 => ?_)
            obtain ⟨rfl, rfl⟩ := hp_143
            refine r_after (ws' := [(a, .inr (2, [.ref t, .ref zs, .ref zb, .ref ze, .ref zv, .ref zw, .int (nI cnt), .int (nI nx), .int (nI 4), .int (nI (run isBlk T k en)), .int (nI ((run isBlk T k en) + 1)), .int (nI (T (run isBlk T k en))), .null])), (t, .inr (1, [.ref tb, .int (nI k)])), (tb, .inl (g.2.1 1, 2000, .inl (aI T)))]) (st' := [.int (bI (noTouch so 4))]) (n1 := 0) (n2 := 0) [0, 1, 2] rfl rfl rfl rfl rfl ?_
            refine r_bif_eq C 154 d_Tokens_scan_146 (by decide) (fun c_146 => ?_) (fun c_146 => ?_)
            · skip
              refine r_vret C E d_Tokens_scan_154 (by first | decide | omega | (simp only [rmk]; omega)) (by first | decide | omega | (simp only [rmk]; omega)) ?_
              exact ⟨(4, run isBlk T k en, (run isBlk T k en) + 1, some (T (run isBlk T k en)), none), rfl, rfl, by first | exact (tokAt_t (tok0_sgn c_52 c_75 c_89 c_104) c_135 c_146).symm | exact (tokAt_f2 (tok0_sgn c_52 c_75 c_89 c_104) c_146).symm | exact (tokAt_f1 (tok0_sgn c_52 c_75 c_89 c_104) c_135).symm | exact (tokAt_t (tok0_bad c_52 c_75 c_89 c_104) c_135 c_146).symm | exact (tokAt_f2 (tok0_bad c_52 c_75 c_89 c_104) c_146).symm | exact (tokAt_f1 (tok0_bad c_52 c_75 c_89 c_104) c_135).symm⟩
            · skip
              refine r_aload_n C 3 d_Tokens_scan_149 rfl rfl ?_
              refine r_iconst C (nI 4) d_Tokens_scan_150 (by decide) ?_
              refine r_put C (ws' := [(a, .inr (2, [.ref t, .ref zs, .ref zb, .ref ze, .ref zv, .ref zw, .int (nI cnt), .int (nI nx), .int (nI 4), .int (nI (run isBlk T k en)), .int (nI ((run isBlk T k en) + 1)), .int (nI (T (run isBlk T k en))), .null])), (t, .inr (1, [.ref tb, .int (nI k)])), (tb, .inl (g.2.1 1, 2000, .inl (aI T)))]) 0 8 d_Tokens_scan_151 ci_Tokens fi_Tokens_38 rfl (by decide) rfl rfl (rfl) (rfl) (by simp) rfl ?_
              refine r_vret C E d_Tokens_scan_154 (by first | decide | omega | (simp only [rmk]; omega)) (by first | decide | omega | (simp only [rmk]; omega)) ?_
              exact ⟨(4, run isBlk T k en, (run isBlk T k en) + 1, some (T (run isBlk T k en)), none), rfl, rfl, by first | exact (tokAt_t (tok0_sgn c_52 c_75 c_89 c_104) c_135 c_146).symm | exact (tokAt_f2 (tok0_sgn c_52 c_75 c_89 c_104) c_146).symm | exact (tokAt_f1 (tok0_sgn c_52 c_75 c_89 c_104) c_135).symm | exact (tokAt_t (tok0_bad c_52 c_75 c_89 c_104) c_135 c_146).symm | exact (tokAt_f2 (tok0_bad c_52 c_75 c_89 c_104) c_146).symm | exact (tokAt_f1 (tok0_bad c_52 c_75 c_89 c_104) c_135).symm⟩
        · skip
          refine r_iconst C (nI 3) d_Tokens_scan_107 (by decide) ?_
          refine r_goto C 112 d_Tokens_scan_108 (by decide) ?_
          refine r_put C (ws' := [(a, .inr (2, [.ref t, .ref zs, .ref zb, .ref ze, .ref zv, .ref zw, .int (nI cnt), .int (nI nx), .int (nI 3), .int (nI (run isBlk T k en)), .int (nI en), .int (-1), .null])), (t, .inr (1, [.ref tb, .int (nI k)])), (tb, .inl (g.2.1 1, 2000, .inl (aI T)))]) 0 8 d_Tokens_scan_112 ci_Tokens fi_Tokens_38 rfl (by decide) rfl rfl (rfl) (rfl) (by simp) rfl ?_
          refine r_aload_n C 3 d_Tokens_scan_115 rfl rfl ?_
          refine r_iload_n C 0 d_Tokens_scan_116 rfl rfl ?_
          refine r_put C (ws' := [(a, .inr (2, [.ref t, .ref zs, .ref zb, .ref ze, .ref zv, .ref zw, .int (nI cnt), .int (nI nx), .int (nI 3), .int (nI (run isBlk T k en)), .int (nI en), .int (nI (T (run isBlk T k en))), .null])), (t, .inr (1, [.ref tb, .int (nI k)])), (tb, .inl (g.2.1 1, 2000, .inl (aI T)))]) 0 11 d_Tokens_scan_117 ci_Tokens fi_Tokens_60 rfl (by decide) rfl rfl (rfl) (rfl) (by simp) rfl ?_
          refine r_aload_n C 3 d_Tokens_scan_120 rfl rfl ?_
          refine r_aload_n C 3 d_Tokens_scan_121 rfl rfl ?_
          refine r_get C 0 9 d_Tokens_scan_122 ci_Tokens fi_Tokens_57 rfl (by decide) rfl rfl ?_
          refine r_iconst C (nI 1) d_Tokens_scan_125 (by decide) ?_
          refine r_nadd C d_Tokens_scan_126 ?_
          refine r_put C (ws' := [(a, .inr (2, [.ref t, .ref zs, .ref zb, .ref ze, .ref zv, .ref zw, .int (nI cnt), .int (nI nx), .int (nI 3), .int (nI (run isBlk T k en)), .int (nI ((run isBlk T k en) + 1)), .int (nI (T (run isBlk T k en))), .null])), (t, .inr (1, [.ref tb, .int (nI k)])), (tb, .inl (g.2.1 1, 2000, .inl (aI T)))]) 0 10 d_Tokens_scan_127 ci_Tokens fi_Tokens_41 rfl (by decide) rfl rfl (rfl) (rfl) (by simp) rfl ?_
          refine r_aload_n C 3 d_Tokens_scan_130 rfl rfl ?_
          refine r_get C 0 9 d_Tokens_scan_131 ci_Tokens fi_Tokens_57 rfl (by decide) rfl rfl ?_
          refine r_iload_n C 1 d_Tokens_scan_134 rfl rfl ?_
          refine r_ncmp_ne C 154 d_Tokens_scan_135 (by decide) (by omega) (by omega) (fun c_135 => ?_) (fun c_135 => ?_)
          · skip
            refine r_vret C E d_Tokens_scan_154 (by first | decide | omega | (simp only [rmk]; omega)) (by first | decide | omega | (simp only [rmk]; omega)) ?_
            exact ⟨(3, run isBlk T k en, (run isBlk T k en) + 1, some (T (run isBlk T k en)), none), rfl, rfl, by first | exact (tokAt_t (tok0_sgn c_52 c_75 c_89 c_104) c_135 c_146).symm | exact (tokAt_f2 (tok0_sgn c_52 c_75 c_89 c_104) c_146).symm | exact (tokAt_f1 (tok0_sgn c_52 c_75 c_89 c_104) c_135).symm | exact (tokAt_t (tok0_bad c_52 c_75 c_89 c_104) c_135 c_146).symm | exact (tokAt_f2 (tok0_bad c_52 c_75 c_89 c_104) c_146).symm | exact (tokAt_f1 (tok0_bad c_52 c_75 c_89 c_104) c_135).symm⟩
          · skip
            refine r_iload_n C 2 d_Tokens_scan_138 rfl rfl ?_
            refine r_aload_n C 3 d_Tokens_scan_139 rfl rfl ?_
            refine r_get C 0 8 d_Tokens_scan_140 ci_Tokens fi_Tokens_38 rfl (by decide) rfl rfl ?_
            refine j_callS C (c_Tokens_mayNotTouch g (xl x) (c := so) (d := 3) (by first | assumption | rfl | omega) (by first | omega | (split <;> decide))) (Sp.of (wr := [(a, .inr (2, [.ref t, .ref zs, .ref zb, .ref ze, .ref zv, .ref zw, .int (nI cnt), .int (nI nx), .int (nI 3), .int (nI (run isBlk T k en)), .int (nI ((run isBlk T k en) + 1)), .int (nI (T (run isBlk T k en))), .null])), (t, .inr (1, [.ref tb, .int (nI k)])), (tb, .inl (g.2.1 1, 2000, .inl (aI T)))]) [] [0, 1, 2] rfl rfl rfl rfl (by decide)) d_Tokens_scan_143 lk_Tokens_104 mw_Tokens_mayNotTouch st_Tokens_mayNotTouch (fit_of hR (by first | decide | (simp only [rmk]; omega)) (by first | decide | (simp only [rmk]; omega)) (by first | decide | (simp only [rmk]; omega)) (by first | decide | (simp only [rmk]; omega))) rfl (cat8 (Nat.le_of_ble_eq_true rfl)) (As := [.int (nI so), .int (nI 3)]) (rest := []) rfl (fun r_143 w_143 hp_143 => ?_)
            obtain ⟨rfl, rfl⟩ := hp_143
            refine r_after (ws' := [(a, .inr (2, [.ref t, .ref zs, .ref zb, .ref ze, .ref zv, .ref zw, .int (nI cnt), .int (nI nx), .int (nI 3), .int (nI (run isBlk T k en)), .int (nI ((run isBlk T k en) + 1)), .int (nI (T (run isBlk T k en))), .null])), (t, .inr (1, [.ref tb, .int (nI k)])), (tb, .inl (g.2.1 1, 2000, .inl (aI T)))]) (st' := [.int (bI (noTouch so 3))]) (n1 := 0) (n2 := 0) [0, 1, 2] rfl rfl rfl rfl rfl ?_
            refine r_bif_eq C 154 d_Tokens_scan_146 (by decide) (fun c_146 => ?_) (fun c_146 => ?_)
            · skip
              refine r_vret C E d_Tokens_scan_154 (by first | decide | omega | (simp only [rmk]; omega)) (by first | decide | omega | (simp only [rmk]; omega)) ?_
              exact ⟨(3, run isBlk T k en, (run isBlk T k en) + 1, some (T (run isBlk T k en)), none), rfl, rfl, by first | exact (tokAt_t (tok0_sgn c_52 c_75 c_89 c_104) c_135 c_146).symm | exact (tokAt_f2 (tok0_sgn c_52 c_75 c_89 c_104) c_146).symm | exact (tokAt_f1 (tok0_sgn c_52 c_75 c_89 c_104) c_135).symm | exact (tokAt_t (tok0_bad c_52 c_75 c_89 c_104) c_135 c_146).symm | exact (tokAt_f2 (tok0_bad c_52 c_75 c_89 c_104) c_146).symm | exact (tokAt_f1 (tok0_bad c_52 c_75 c_89 c_104) c_135).symm⟩
            · skip
              refine r_aload_n C 3 d_Tokens_scan_149 rfl rfl ?_
              refine r_iconst C (nI 4) d_Tokens_scan_150 (by decide) ?_
              refine r_put C (ws' := [(a, .inr (2, [.ref t, .ref zs, .ref zb, .ref ze, .ref zv, .ref zw, .int (nI cnt), .int (nI nx), .int (nI 4), .int (nI (run isBlk T k en)), .int (nI ((run isBlk T k en) + 1)), .int (nI (T (run isBlk T k en))), .null])), (t, .inr (1, [.ref tb, .int (nI k)])), (tb, .inl (g.2.1 1, 2000, .inl (aI T)))]) 0 8 d_Tokens_scan_151 ci_Tokens fi_Tokens_38 rfl (by decide) rfl rfl (rfl) (rfl) (by simp) rfl ?_
              refine r_vret C E d_Tokens_scan_154 (by first | decide | omega | (simp only [rmk]; omega)) (by first | decide | omega | (simp only [rmk]; omega)) ?_
              exact ⟨(4, run isBlk T k en, (run isBlk T k en) + 1, some (T (run isBlk T k en)), none), rfl, rfl, by first | exact (tokAt_t (tok0_sgn c_52 c_75 c_89 c_104) c_135 c_146).symm | exact (tokAt_f2 (tok0_sgn c_52 c_75 c_89 c_104) c_146).symm | exact (tokAt_f1 (tok0_sgn c_52 c_75 c_89 c_104) c_135).symm | exact (tokAt_t (tok0_bad c_52 c_75 c_89 c_104) c_135 c_146).symm | exact (tokAt_f2 (tok0_bad c_52 c_75 c_89 c_104) c_146).symm | exact (tokAt_f1 (tok0_bad c_52 c_75 c_89 c_104) c_135).symm⟩
      · skip
        refine r_aload_n C 3 d_Tokens_scan_92 rfl rfl ?_
        refine j_callV C (c_Tokens_scanNumber g (xl x) (a := a) (t := t) (zs := zs) (zb := zb) (ze := ze) (zv := zv) (zw := zw) (cnt := cnt) (nx := nx) (tb := tb) (k := k) (so := so) (sta := run isBlk T k en) (en := en) (T := T) (v := none) (wd := none) (by first | assumption | rfl | omega) (by first | assumption | rfl | omega) (by first | assumption | rfl | omega)) (Sp.of (wr := []) [0, 1, 2] [] rfl rfl rfl rfl (by decide)) d_Tokens_scan_93 lk_Tokens_98 mw_Tokens_scanNumber vw_Tokens_scanNumber (q0 := 0) rfl rfl (fit_of hR (by first | decide | (simp only [rmk]; omega)) (by first | decide | (simp only [rmk]; omega)) (by first | decide | (simp only [rmk]; omega)) (by first | decide | (simp only [rmk]; omega))) rfl (cat8 (Nat.le_of_ble_eq_true rfl)) (As := []) (rest := []) rfl (fun r_93 w_93 hp_93 => ?_)
        obtain ⟨rfl, rfl⟩ := hp_93
        refine r_after (ws' := [(a, .inr (2, [.ref t, .ref zs, .ref zb, .ref ze, .ref zv, .ref zw, .int (nI cnt), .int (nI nx), .int (nI (if 6 < run isDig T k (run isBlk T k en) - (run isBlk T k en) then 4 else 2)), .int (nI (run isBlk T k en)), .int (nI (run isDig T k (run isBlk T k en))), .int (oI (some (val T (run isBlk T k en) (min (run isDig T k (run isBlk T k en) - (run isBlk T k en)) 6)))), va_rf (wR g none)])), (t, .inr (1, [.ref tb, .int (nI k)])), (tb, .inl (g.2.1 1, 2000, .inl (aI T)))]) (st' := []) (n1 := 0) (n2 := 0) [0, 1, 2] rfl rfl rfl rfl rfl ?_
        refine r_goto C 130 d_Tokens_scan_96 (by decide) ?_
        refine r_aload_n C 3 d_Tokens_scan_130 rfl rfl ?_
        refine r_get C 0 9 d_Tokens_scan_131 ci_Tokens fi_Tokens_57 rfl (by decide) rfl rfl ?_
        refine r_iload_n C 1 d_Tokens_scan_134 rfl rfl ?_
        refine r_ncmp_ne C 154 d_Tokens_scan_135 (by decide) (by omega) (by omega) (fun c_135 => ?_) (fun c_135 => ?_)
        · skip
          refine r_vret C E d_Tokens_scan_154 (by first | decide | omega | (simp only [rmk]; omega)) (by first | decide | omega | (simp only [rmk]; omega)) ?_
          exact ⟨(if 6 < run isDig T k (run isBlk T k en) - (run isBlk T k en) then 4 else 2, (run isBlk T k en), run isDig T k (run isBlk T k en), some (val T (run isBlk T k en) (min (run isDig T k (run isBlk T k en) - (run isBlk T k en)) 6)), none), rfl, rfl, by first | exact (tokAt_t (tok0_num c_52 c_75 c_89) c_135 c_146).symm | exact (tokAt_f2 (tok0_num c_52 c_75 c_89) c_146).symm | exact (tokAt_f1 (tok0_num c_52 c_75 c_89) c_135).symm⟩
        · skip
          refine r_iload_n C 2 d_Tokens_scan_138 rfl rfl ?_
          refine r_aload_n C 3 d_Tokens_scan_139 rfl rfl ?_
          refine r_get C 0 8 d_Tokens_scan_140 ci_Tokens fi_Tokens_38 rfl (by decide) rfl rfl ?_
          refine j_callS C (c_Tokens_mayNotTouch g (xl x) (c := so) (d := if 6 < run isDig T k (run isBlk T k en) - (run isBlk T k en) then 4 else 2) (by first | assumption | rfl | omega) (by first | omega | (split <;> decide))) (Sp.of (wr := [(a, .inr (2, [.ref t, .ref zs, .ref zb, .ref ze, .ref zv, .ref zw, .int (nI cnt), .int (nI nx), .int (nI (if 6 < run isDig T k (run isBlk T k en) - (run isBlk T k en) then 4 else 2)), .int (nI (run isBlk T k en)), .int (nI (run isDig T k (run isBlk T k en))), .int (oI (some (val T (run isBlk T k en) (min (run isDig T k (run isBlk T k en) - (run isBlk T k en)) 6)))), va_rf (wR g none)])), (t, .inr (1, [.ref tb, .int (nI k)])), (tb, .inl (g.2.1 1, 2000, .inl (aI T)))]) [] [0, 1, 2] rfl rfl rfl rfl (by decide)) d_Tokens_scan_143 lk_Tokens_104 mw_Tokens_mayNotTouch st_Tokens_mayNotTouch (fit_of hR (by first | decide | (simp only [rmk]; omega)) (by first | decide | (simp only [rmk]; omega)) (by first | decide | (simp only [rmk]; omega)) (by first | decide | (simp only [rmk]; omega))) rfl (cat8 (Nat.le_of_ble_eq_true rfl)) (As := [.int (nI so), .int (nI (if 6 < run isDig T k (run isBlk T k en) - (run isBlk T k en) then 4 else 2))]) (rest := []) rfl (fun r_143 w_143 hp_143 => ?_)
          obtain ⟨rfl, rfl⟩ := hp_143
          refine r_after (ws' := [(a, .inr (2, [.ref t, .ref zs, .ref zb, .ref ze, .ref zv, .ref zw, .int (nI cnt), .int (nI nx), .int (nI (if 6 < run isDig T k (run isBlk T k en) - (run isBlk T k en) then 4 else 2)), .int (nI (run isBlk T k en)), .int (nI (run isDig T k (run isBlk T k en))), .int (oI (some (val T (run isBlk T k en) (min (run isDig T k (run isBlk T k en) - (run isBlk T k en)) 6)))), va_rf (wR g none)])), (t, .inr (1, [.ref tb, .int (nI k)])), (tb, .inl (g.2.1 1, 2000, .inl (aI T)))]) (st' := [.int (bI (noTouch so (if 6 < run isDig T k (run isBlk T k en) - (run isBlk T k en) then 4 else 2)))]) (n1 := 0) (n2 := 0) [0, 1, 2] rfl rfl rfl rfl rfl ?_
          refine r_bif_eq C 154 d_Tokens_scan_146 (by decide) (fun c_146 => ?_) (fun c_146 => ?_)
          · skip
            refine r_vret C E d_Tokens_scan_154 (by first | decide | omega | (simp only [rmk]; omega)) (by first | decide | omega | (simp only [rmk]; omega)) ?_
            exact ⟨(if 6 < run isDig T k (run isBlk T k en) - (run isBlk T k en) then 4 else 2, (run isBlk T k en), run isDig T k (run isBlk T k en), some (val T (run isBlk T k en) (min (run isDig T k (run isBlk T k en) - (run isBlk T k en)) 6)), none), rfl, rfl, by first | exact (tokAt_t (tok0_num c_52 c_75 c_89) c_135 c_146).symm | exact (tokAt_f2 (tok0_num c_52 c_75 c_89) c_146).symm | exact (tokAt_f1 (tok0_num c_52 c_75 c_89) c_135).symm⟩
          · skip
            refine r_aload_n C 3 d_Tokens_scan_149 rfl rfl ?_
            refine r_iconst C (nI 4) d_Tokens_scan_150 (by decide) ?_
            refine r_put C (ws' := [(a, .inr (2, [.ref t, .ref zs, .ref zb, .ref ze, .ref zv, .ref zw, .int (nI cnt), .int (nI nx), .int (nI 4), .int (nI (run isBlk T k en)), .int (nI (run isDig T k (run isBlk T k en))), .int (oI (some (val T (run isBlk T k en) (min (run isDig T k (run isBlk T k en) - (run isBlk T k en)) 6)))), va_rf (wR g none)])), (t, .inr (1, [.ref tb, .int (nI k)])), (tb, .inl (g.2.1 1, 2000, .inl (aI T)))]) 0 8 d_Tokens_scan_151 ci_Tokens fi_Tokens_38 rfl (by decide) rfl rfl (rfl) (rfl) (by simp) rfl ?_
            refine r_vret C E d_Tokens_scan_154 (by first | decide | omega | (simp only [rmk]; omega)) (by first | decide | omega | (simp only [rmk]; omega)) ?_
            exact ⟨(4, (run isBlk T k en), run isDig T k (run isBlk T k en), some (val T (run isBlk T k en) (min (run isDig T k (run isBlk T k en) - (run isBlk T k en)) 6)), none), rfl, rfl, by first | exact (tokAt_t (tok0_num c_52 c_75 c_89) c_135 c_146).symm | exact (tokAt_f2 (tok0_num c_52 c_75 c_89) c_146).symm | exact (tokAt_f1 (tok0_num c_52 c_75 c_89) c_135).symm⟩
    · skip
      refine r_aload_n C 3 d_Tokens_scan_78 rfl rfl ?_
      refine j_callV C (c_Tokens_scanWord g (xl x) (a := a) (t := t) (zs := zs) (zb := zb) (ze := ze) (zv := zv) (zw := zw) (cnt := cnt) (nx := nx) (tb := tb) (k := k) (so := so) (sta := run isBlk T k en) (en := en) (T := T) (v := none) (wd := none) (by first | assumption | rfl | omega) (by first | assumption | rfl | omega) (by first | assumption | rfl | omega)) (Sp.of (wr := []) [0, 1, 2] [] rfl rfl rfl rfl (by decide)) d_Tokens_scan_79 lk_Tokens_92 mw_Tokens_scanWord vw_Tokens_scanWord (q0 := 0) rfl rfl (fit_of hR (by first | decide | (simp only [rmk]; omega)) (by first | decide | (simp only [rmk]; omega)) (by first | decide | (simp only [rmk]; omega)) (by first | decide | (simp only [rmk]; omega))) rfl (cat8 (Nat.le_of_ble_eq_true rfl)) (As := []) (rest := []) rfl (fun r_79 w_79 hp_79 => ?_)
      obtain ⟨rfl, rfl⟩ := hp_79
      refine r_after (ws' := [(a, .inr (2, [.ref t, .ref zs, .ref zb, .ref ze, .ref zv, .ref zw, .int (nI cnt), .int (nI nx), .int (nI 1), .int (nI (run isBlk T k en)), .int (nI (run isLet T k (run isBlk T k en))), .int (oI none), va_rf (wR g (wordAt T (run isBlk T k en) (run isLet T k (run isBlk T k en))))])), (t, .inr (1, [.ref tb, .int (nI k)])), (tb, .inl (g.2.1 1, 2000, .inl (aI T)))]) (st' := []) (n1 := 0) (n2 := 0) [0, 1, 2] rfl rfl rfl rfl rfl ?_
      refine r_goto C 130 d_Tokens_scan_82 (by decide) ?_
      refine r_aload_n C 3 d_Tokens_scan_130 rfl rfl ?_
      refine r_get C 0 9 d_Tokens_scan_131 ci_Tokens fi_Tokens_57 rfl (by decide) rfl rfl ?_
      refine r_iload_n C 1 d_Tokens_scan_134 rfl rfl ?_
      refine r_ncmp_ne C 154 d_Tokens_scan_135 (by decide) (by omega) (by omega) (fun c_135 => ?_) (fun c_135 => ?_)
      · skip
        refine r_vret C E d_Tokens_scan_154 (by first | decide | omega | (simp only [rmk]; omega)) (by first | decide | omega | (simp only [rmk]; omega)) ?_
        exact ⟨(1, (run isBlk T k en), run isLet T k (run isBlk T k en), none, (wordAt T (run isBlk T k en) (run isLet T k (run isBlk T k en)))), rfl, rfl, by first | exact (tokAt_t (tok0_word c_52 c_75) c_135 c_146).symm | exact (tokAt_f2 (tok0_word c_52 c_75) c_146).symm | exact (tokAt_f1 (tok0_word c_52 c_75) c_135).symm⟩
      · skip
        refine r_iload_n C 2 d_Tokens_scan_138 rfl rfl ?_
        refine r_aload_n C 3 d_Tokens_scan_139 rfl rfl ?_
        refine r_get C 0 8 d_Tokens_scan_140 ci_Tokens fi_Tokens_38 rfl (by decide) rfl rfl ?_
        refine j_callS C (c_Tokens_mayNotTouch g (xl x) (c := so) (d := 1) (by first | assumption | rfl | omega) (by first | omega | (split <;> decide))) (Sp.of (wr := [(a, .inr (2, [.ref t, .ref zs, .ref zb, .ref ze, .ref zv, .ref zw, .int (nI cnt), .int (nI nx), .int (nI 1), .int (nI (run isBlk T k en)), .int (nI (run isLet T k (run isBlk T k en))), .int (oI none), va_rf (wR g (wordAt T (run isBlk T k en) (run isLet T k (run isBlk T k en))))])), (t, .inr (1, [.ref tb, .int (nI k)])), (tb, .inl (g.2.1 1, 2000, .inl (aI T)))]) [] [0, 1, 2] rfl rfl rfl rfl (by decide)) d_Tokens_scan_143 lk_Tokens_104 mw_Tokens_mayNotTouch st_Tokens_mayNotTouch (fit_of hR (by first | decide | (simp only [rmk]; omega)) (by first | decide | (simp only [rmk]; omega)) (by first | decide | (simp only [rmk]; omega)) (by first | decide | (simp only [rmk]; omega))) rfl (cat8 (Nat.le_of_ble_eq_true rfl)) (As := [.int (nI so), .int (nI 1)]) (rest := []) rfl (fun r_143 w_143 hp_143 => ?_)
        obtain ⟨rfl, rfl⟩ := hp_143
        refine r_after (ws' := [(a, .inr (2, [.ref t, .ref zs, .ref zb, .ref ze, .ref zv, .ref zw, .int (nI cnt), .int (nI nx), .int (nI 1), .int (nI (run isBlk T k en)), .int (nI (run isLet T k (run isBlk T k en))), .int (oI none), va_rf (wR g (wordAt T (run isBlk T k en) (run isLet T k (run isBlk T k en))))])), (t, .inr (1, [.ref tb, .int (nI k)])), (tb, .inl (g.2.1 1, 2000, .inl (aI T)))]) (st' := [.int (bI (noTouch so 1))]) (n1 := 0) (n2 := 0) [0, 1, 2] rfl rfl rfl rfl rfl ?_
        refine r_bif_eq C 154 d_Tokens_scan_146 (by decide) (fun c_146 => ?_) (fun c_146 => ?_)
        · skip
          refine r_vret C E d_Tokens_scan_154 (by first | decide | omega | (simp only [rmk]; omega)) (by first | decide | omega | (simp only [rmk]; omega)) ?_
          exact ⟨(1, (run isBlk T k en), run isLet T k (run isBlk T k en), none, (wordAt T (run isBlk T k en) (run isLet T k (run isBlk T k en)))), rfl, rfl, by first | exact (tokAt_t (tok0_word c_52 c_75) c_135 c_146).symm | exact (tokAt_f2 (tok0_word c_52 c_75) c_146).symm | exact (tokAt_f1 (tok0_word c_52 c_75) c_135).symm⟩
        · skip
          refine r_aload_n C 3 d_Tokens_scan_149 rfl rfl ?_
          refine r_iconst C (nI 4) d_Tokens_scan_150 (by decide) ?_
          refine r_put C (ws' := [(a, .inr (2, [.ref t, .ref zs, .ref zb, .ref ze, .ref zv, .ref zw, .int (nI cnt), .int (nI nx), .int (nI 4), .int (nI (run isBlk T k en)), .int (nI (run isLet T k (run isBlk T k en))), .int (oI none), va_rf (wR g (wordAt T (run isBlk T k en) (run isLet T k (run isBlk T k en))))])), (t, .inr (1, [.ref tb, .int (nI k)])), (tb, .inl (g.2.1 1, 2000, .inl (aI T)))]) 0 8 d_Tokens_scan_151 ci_Tokens fi_Tokens_38 rfl (by decide) rfl rfl (rfl) (rfl) (by simp) rfl ?_
          refine r_vret C E d_Tokens_scan_154 (by first | decide | omega | (simp only [rmk]; omega)) (by first | decide | omega | (simp only [rmk]; omega)) ?_
          exact ⟨(4, (run isBlk T k en), run isLet T k (run isBlk T k en), none, (wordAt T (run isBlk T k en) (run isLet T k (run isBlk T k en)))), rfl, rfl, by first | exact (tokAt_t (tok0_word c_52 c_75) c_135 c_146).symm | exact (tokAt_f2 (tok0_word c_52 c_75) c_146).symm | exact (tokAt_f1 (tok0_word c_52 c_75) c_135).symm⟩
  · skip
    refine r_aload_n C 3 d_Tokens_scan_55 rfl rfl ?_
    refine r_iconst C (nI 0) d_Tokens_scan_56 (by decide) ?_
    refine r_put C (ws' := [(a, .inr (2, [.ref t, .ref zs, .ref zb, .ref ze, .ref zv, .ref zw, .int (nI cnt), .int (nI nx), .int (nI 0), .int (nI (run isBlk T k en)), .int (nI en), .int (-1), .null])), (t, .inr (1, [.ref tb, .int (nI k)])), (tb, .inl (g.2.1 1, 2000, .inl (aI T)))]) 0 8 d_Tokens_scan_57 ci_Tokens fi_Tokens_38 rfl (by decide) rfl rfl (rfl) (rfl) (by simp) rfl ?_
    refine r_aload_n C 3 d_Tokens_scan_60 rfl rfl ?_
    refine r_aload_n C 3 d_Tokens_scan_61 rfl rfl ?_
    refine r_get C 0 9 d_Tokens_scan_62 ci_Tokens fi_Tokens_57 rfl (by decide) rfl rfl ?_
    refine r_put C (ws' := [(a, .inr (2, [.ref t, .ref zs, .ref zb, .ref ze, .ref zv, .ref zw, .int (nI cnt), .int (nI nx), .int (nI 0), .int (nI (run isBlk T k en)), .int (nI (run isBlk T k en)), .int (-1), .null])), (t, .inr (1, [.ref tb, .int (nI k)])), (tb, .inl (g.2.1 1, 2000, .inl (aI T)))]) 0 10 d_Tokens_scan_65 ci_Tokens fi_Tokens_41 rfl (by decide) rfl rfl (rfl) (rfl) (by simp) rfl ?_
    refine r_goto C 130 d_Tokens_scan_68 (by decide) ?_
    refine r_aload_n C 3 d_Tokens_scan_130 rfl rfl ?_
    refine r_get C 0 9 d_Tokens_scan_131 ci_Tokens fi_Tokens_57 rfl (by decide) rfl rfl ?_
    refine r_iload_n C 1 d_Tokens_scan_134 rfl rfl ?_
    refine r_ncmp_ne C 154 d_Tokens_scan_135 (by decide) (by omega) (by omega) (fun c_135 => ?_) (fun c_135 => ?_)
    · skip
      refine r_vret C E d_Tokens_scan_154 (by first | decide | omega | (simp only [rmk]; omega)) (by first | decide | omega | (simp only [rmk]; omega)) ?_
      exact ⟨(0, run isBlk T k en, run isBlk T k en, none, none), rfl, rfl, by first | exact (tokAt_t (tok0_end c_52) c_135 c_146).symm | exact (tokAt_f2 (tok0_end c_52) c_146).symm | exact (tokAt_f1 (tok0_end c_52) c_135).symm⟩
    · skip
      refine r_iload_n C 2 d_Tokens_scan_138 rfl rfl ?_
      refine r_aload_n C 3 d_Tokens_scan_139 rfl rfl ?_
      refine r_get C 0 8 d_Tokens_scan_140 ci_Tokens fi_Tokens_38 rfl (by decide) rfl rfl ?_
      refine j_callS C (c_Tokens_mayNotTouch g (xl x) (c := so) (d := 0) (by first | assumption | rfl | omega) (by first | omega | (split <;> decide))) (Sp.of (wr := [(a, .inr (2, [.ref t, .ref zs, .ref zb, .ref ze, .ref zv, .ref zw, .int (nI cnt), .int (nI nx), .int (nI 0), .int (nI (run isBlk T k en)), .int (nI (run isBlk T k en)), .int (-1), .null])), (t, .inr (1, [.ref tb, .int (nI k)])), (tb, .inl (g.2.1 1, 2000, .inl (aI T)))]) [] [0, 1, 2] rfl rfl rfl rfl (by decide)) d_Tokens_scan_143 lk_Tokens_104 mw_Tokens_mayNotTouch st_Tokens_mayNotTouch (fit_of hR (by first | decide | (simp only [rmk]; omega)) (by first | decide | (simp only [rmk]; omega)) (by first | decide | (simp only [rmk]; omega)) (by first | decide | (simp only [rmk]; omega))) rfl (cat8 (Nat.le_of_ble_eq_true rfl)) (As := [.int (nI so), .int (nI 0)]) (rest := []) rfl (fun r_143 w_143 hp_143 => ?_)
      obtain ⟨rfl, rfl⟩ := hp_143
      refine r_after (ws' := [(a, .inr (2, [.ref t, .ref zs, .ref zb, .ref ze, .ref zv, .ref zw, .int (nI cnt), .int (nI nx), .int (nI 0), .int (nI (run isBlk T k en)), .int (nI (run isBlk T k en)), .int (-1), .null])), (t, .inr (1, [.ref tb, .int (nI k)])), (tb, .inl (g.2.1 1, 2000, .inl (aI T)))]) (st' := [.int (bI (noTouch so 0))]) (n1 := 0) (n2 := 0) [0, 1, 2] rfl rfl rfl rfl rfl ?_
      refine r_bif_eq C 154 d_Tokens_scan_146 (by decide) (fun c_146 => ?_) (fun c_146 => ?_)
      · skip
        refine r_vret C E d_Tokens_scan_154 (by first | decide | omega | (simp only [rmk]; omega)) (by first | decide | omega | (simp only [rmk]; omega)) ?_
        exact ⟨(0, run isBlk T k en, run isBlk T k en, none, none), rfl, rfl, by first | exact (tokAt_t (tok0_end c_52) c_135 c_146).symm | exact (tokAt_f2 (tok0_end c_52) c_146).symm | exact (tokAt_f1 (tok0_end c_52) c_135).symm⟩
      · skip
        refine r_aload_n C 3 d_Tokens_scan_149 rfl rfl ?_
        refine r_iconst C (nI 4) d_Tokens_scan_150 (by decide) ?_
        refine r_put C (ws' := [(a, .inr (2, [.ref t, .ref zs, .ref zb, .ref ze, .ref zv, .ref zw, .int (nI cnt), .int (nI nx), .int (nI 4), .int (nI (run isBlk T k en)), .int (nI (run isBlk T k en)), .int (-1), .null])), (t, .inr (1, [.ref tb, .int (nI k)])), (tb, .inl (g.2.1 1, 2000, .inl (aI T)))]) 0 8 d_Tokens_scan_151 ci_Tokens fi_Tokens_38 rfl (by decide) rfl rfl (rfl) (rfl) (by simp) rfl ?_
        refine r_vret C E d_Tokens_scan_154 (by first | decide | omega | (simp only [rmk]; omega)) (by first | decide | omega | (simp only [rmk]; omega)) ?_
        exact ⟨(4, run isBlk T k en, run isBlk T k en, none, none), rfl, rfl, by first | exact (tokAt_t (tok0_end c_52) c_135 c_146).symm | exact (tokAt_f2 (tok0_end c_52) c_146).symm | exact (tokAt_f1 (tok0_end c_52) c_135).symm⟩
