/-- a token: its sort (0 the end, 1 a word, 2 a number, 3 a sign, 4 wrong), its place, its end, a number's value, which word -/
abbrev Tok : Type := Nat × Nat × Nat × Option Nat × Option Nat
/-- the token whose first byte is at s -/
def tok0 (T : Nat → Nat) (k s : Nat) : Tok :=
  if k ≤ s then (0, s, s, none, none)
  else if isLet (T s) = true then (1, s, run isLet T k s, none, wordAt T s (run isLet T k s))
  else if isDig (T s) = true then (if 6 < run isDig T k s - s then 4 else 2, s, run isDig T k s, some (val T s (min (run isDig T k s - s) 6)), none)
  else (if isSgn (T s) = true then 3 else 4, s, s + 1, none, none)
/-- the token behind place e, where one of sort so ended -/
def tokAt (T : Nat → Nat) (k so e : Nat) : Tok :=
  if run isBlk T k e = e ∧ noTouch so (tok0 T k (run isBlk T k e)).1 = true then (4, (tok0 T k (run isBlk T k e)).2) else tok0 T k (run isBlk T k e)
theorem tok0_end {T : Nat → Nat} {k s : Nat} (h : k ≤ s) : tok0 T k s = (0, s, s, none, none) := by rw [tok0, if_pos h]
theorem tok0_word {T : Nat → Nat} {k s : Nat} (h : s < k) (h1 : isLet (T s) = true) : tok0 T k s = (1, s, run isLet T k s, none, wordAt T s (run isLet T k s)) := by rw [tok0, if_neg (by omega), if_pos h1]
theorem tok0_num {T : Nat → Nat} {k s : Nat} (h : s < k) (h1 : isLet (T s) = false) (h2 : isDig (T s) = true) : tok0 T k s = (if 6 < run isDig T k s - s then 4 else 2, s, run isDig T k s, some (val T s (min (run isDig T k s - s) 6)), none) := by rw [tok0, if_neg (by omega), if_neg (by rw [h1]; decide), if_pos h2]
theorem tok0_sgn {T : Nat → Nat} {k s : Nat} (h : s < k) (h1 : isLet (T s) = false) (h2 : isDig (T s) = false) (h3 : isSgn (T s) = true) : tok0 T k s = (3, s, s + 1, none, none) := by rw [tok0, if_neg (by omega), if_neg (by rw [h1]; decide), if_neg (by rw [h2]; decide), if_pos h3]
theorem tok0_bad {T : Nat → Nat} {k s : Nat} (h : s < k) (h1 : isLet (T s) = false) (h2 : isDig (T s) = false) (h3 : isSgn (T s) = false) : tok0 T k s = (4, s, s + 1, none, none) := by rw [tok0, if_neg (by omega), if_neg (by rw [h1]; decide), if_neg (by rw [h2]; decide), if_neg (by rw [h3]; decide)]
theorem tokAt_t {T : Nat → Nat} {k so e : Nat} {t : Tok} (h0 : tok0 T k (run isBlk T k e) = t) (h1 : run isBlk T k e = e) (h2 : noTouch so t.1 = true) : tokAt T k so e = (4, t.2) := by rw [tokAt, h0, if_pos ⟨h1, h2⟩]
theorem tokAt_f1 {T : Nat → Nat} {k so e : Nat} {t : Tok} (h0 : tok0 T k (run isBlk T k e) = t) (h1 : run isBlk T k e ≠ e) : tokAt T k so e = t := by rw [tokAt, h0, if_neg (fun q => h1 q.1)]
theorem tokAt_f2 {T : Nat → Nat} {k so e : Nat} {t : Tok} (h0 : tok0 T k (run isBlk T k e) = t) (h2 : noTouch so t.1 = false) : tokAt T k so e = t := by rw [tokAt, h0, if_neg (fun q => by rw [h2] at q; exact absurd q.2 (by decide))]

set_option maxRecDepth 100000 in
theorem fi_Tokens_35 : FI R_Tokens 35 R_Tokens F_Tokens 5 := Or.inl (gw (i := 175) rfl rfl)
set_option maxRecDepth 100000 in
theorem lk_Tokens_25 : LK R_Tokens 25 y_Tokens_behindBlanks := Or.inl (gw (i := 318) rfl rfl)
set_option maxRecDepth 100000 in
theorem lk_Tokens_47 : LK R_Tokens 47 y_Tokens_isLetter := Or.inl (gw (i := 326) rfl rfl)
set_option maxRecDepth 100000 in
theorem lk_Tokens_51 : LK R_Tokens 51 y_Tokens_scanWord := Or.inl (gw (i := 329) rfl rfl)
set_option maxRecDepth 100000 in
theorem lk_Tokens_57 : LK R_Tokens 57 y_Tokens_scanNumber := Or.inl (gw (i := 395) rfl rfl)
set_option maxRecDepth 100000 in
theorem lk_Tokens_60 : LK R_Tokens 60 y_Tokens_isSign := Or.inl (gw (i := 399) rfl rfl)
set_option maxRecDepth 100000 in
theorem lk_Tokens_63 : LK R_Tokens 63 y_Tokens_mayNotTouch := Or.inl (gw (i := 402) rfl rfl)
set_option maxRecDepth 100000 in
theorem lk_Tokens_72 : LK R_Tokens 72 y_Word_find := Or.inl (gw (i := 333) rfl rfl)
set_option maxRecDepth 100000 in
theorem mw_Tokens_behindBlanks : MW y_Tokens_behindBlanks b_Tokens_behindBlanks 3 (some .int) 1 := ⟨(gw (i := 321) rfl rfl), (gw (i := 77) rfl rfl), by decide +kernel⟩
set_option maxRecDepth 100000 in
theorem mw_Tokens_isLetter : MW y_Tokens_isLetter b_Tokens_isLetter 1 (some .boolean) 1 := ⟨(gw (i := 328) rfl rfl), (gw (i := 77) rfl rfl), by decide +kernel⟩
set_option maxRecDepth 100000 in
theorem mw_Tokens_isSign : MW y_Tokens_isSign b_Tokens_isSign 1 (some .boolean) 1 := ⟨(gw (i := 401) rfl rfl), (gw (i := 77) rfl rfl), by decide +kernel⟩
set_option maxRecDepth 100000 in
theorem mw_Tokens_mayNotTouch : MW y_Tokens_mayNotTouch b_Tokens_mayNotTouch 2 (some .boolean) 2 := ⟨(gw (i := 404) rfl rfl), (gw (i := 77) rfl rfl), by decide +kernel⟩
set_option maxRecDepth 100000 in
theorem mw_Tokens_scanNumber : MW y_Tokens_scanNumber b_Tokens_scanNumber 1 none 0 := ⟨(gw (i := 398) rfl rfl), (gw (i := 77) rfl rfl), by decide +kernel⟩
set_option maxRecDepth 100000 in
theorem mw_Tokens_scanWord : MW y_Tokens_scanWord b_Tokens_scanWord 1 none 0 := ⟨(gw (i := 332) rfl rfl), (gw (i := 77) rfl rfl), by decide +kernel⟩
set_option maxRecDepth 100000 in
theorem mw_Word_find : MW y_Word_find b_Word_find 4 (some (.object "RuleReader$Word")) 3 := ⟨(gw (i := 335) rfl rfl), (gw (i := 82) rfl rfl), by decide +kernel⟩
set_option maxRecDepth 100000 in
theorem st_Tokens_isLetter : Cond.static y_Tokens_isLetter ∈ GW := (gw (i := 327) rfl rfl)
set_option maxRecDepth 100000 in
theorem st_Tokens_isSign : Cond.static y_Tokens_isSign ∈ GW := (gw (i := 400) rfl rfl)
set_option maxRecDepth 100000 in
theorem st_Tokens_mayNotTouch : Cond.static y_Tokens_mayNotTouch ∈ GW := (gw (i := 403) rfl rfl)
set_option maxRecDepth 100000 in
theorem st_Word_find : Cond.static y_Word_find ∈ GW := (gw (i := 334) rfl rfl)
set_option maxRecDepth 100000 in
theorem vw_Tokens_behindBlanks : VW y_Tokens_behindBlanks := ⟨(gw (i := 320) rfl rfl), (gw (i := 0) rfl rfl)⟩
set_option maxRecDepth 100000 in
theorem vw_Tokens_scanNumber : VW y_Tokens_scanNumber := ⟨(gw (i := 397) rfl rfl), (gw (i := 3) rfl rfl)⟩
set_option maxRecDepth 100000 in
theorem vw_Tokens_scanWord : VW y_Tokens_scanWord := ⟨(gw (i := 331) rfl rfl), (gw (i := 1) rfl rfl)⟩
theorem d_Tokens_scanWord_0 : decode b_Tokens_scanWord 0 = .ok (.aload_n 0, 1) := by decide +kernel
theorem d_Tokens_scanWord_1 : decode b_Tokens_scanWord 1 = .ok (.aload_n 0, 1) := by decide +kernel
theorem d_Tokens_scanWord_2 : decode b_Tokens_scanWord 2 = .ok (.getfield 29, 3) := by decide +kernel
theorem d_Tokens_scanWord_5 : decode b_Tokens_scanWord 5 = .ok (.putfield 19, 3) := by decide +kernel
theorem d_Tokens_scanWord_8 : decode b_Tokens_scanWord 8 = .ok (.aload_n 0, 1) := by decide +kernel
theorem d_Tokens_scanWord_9 : decode b_Tokens_scanWord 9 = .ok (.getfield 19, 3) := by decide +kernel
theorem d_Tokens_scanWord_12 : decode b_Tokens_scanWord 12 = .ok (.aload_n 0, 1) := by decide +kernel
theorem d_Tokens_scanWord_13 : decode b_Tokens_scanWord 13 = .ok (.getfield 9, 3) := by decide +kernel
theorem d_Tokens_scanWord_16 : decode b_Tokens_scanWord 16 = .ok (.getfield 44, 3) := by decide +kernel
theorem d_Tokens_scanWord_19 : decode b_Tokens_scanWord 19 = .ok (.if_icmp .ge 33, 3) := by decide +kernel
theorem d_Tokens_scanWord_22 : decode b_Tokens_scanWord 22 = .ok (.aload_n 0, 1) := by decide +kernel
theorem d_Tokens_scanWord_23 : decode b_Tokens_scanWord 23 = .ok (.getfield 9, 3) := by decide +kernel
theorem d_Tokens_scanWord_26 : decode b_Tokens_scanWord 26 = .ok (.aload_n 0, 1) := by decide +kernel
theorem d_Tokens_scanWord_27 : decode b_Tokens_scanWord 27 = .ok (.getfield 19, 3) := by decide +kernel
theorem d_Tokens_scanWord_30 : decode b_Tokens_scanWord 30 = .ok (.invokevirtual 39, 3) := by decide +kernel
theorem d_Tokens_scanWord_33 : decode b_Tokens_scanWord 33 = .ok (.invokestatic 47, 3) := by decide +kernel
theorem d_Tokens_scanWord_36 : decode b_Tokens_scanWord 36 = .ok (.ifCond .eq 16, 3) := by decide +kernel
theorem d_Tokens_scanWord_39 : decode b_Tokens_scanWord 39 = .ok (.aload_n 0, 1) := by decide +kernel
theorem d_Tokens_scanWord_40 : decode b_Tokens_scanWord 40 = .ok (.dup, 1) := by decide +kernel
theorem d_Tokens_scanWord_41 : decode b_Tokens_scanWord 41 = .ok (.getfield 19, 3) := by decide +kernel
theorem d_Tokens_scanWord_44 : decode b_Tokens_scanWord 44 = .ok (.iconst 1, 1) := by decide +kernel
theorem d_Tokens_scanWord_45 : decode b_Tokens_scanWord 45 = .ok (.iadd, 1) := by decide +kernel
theorem d_Tokens_scanWord_46 : decode b_Tokens_scanWord 46 = .ok (.putfield 19, 3) := by decide +kernel
theorem d_Tokens_scanWord_49 : decode b_Tokens_scanWord 49 = .ok (.goto (-41), 3) := by decide +kernel
theorem d_Tokens_scanWord_52 : decode b_Tokens_scanWord 52 = .ok (.aload_n 0, 1) := by decide +kernel
theorem d_Tokens_scanWord_53 : decode b_Tokens_scanWord 53 = .ok (.iconst 1, 1) := by decide +kernel
theorem d_Tokens_scanWord_54 : decode b_Tokens_scanWord 54 = .ok (.putfield 15, 3) := by decide +kernel
theorem d_Tokens_scanWord_57 : decode b_Tokens_scanWord 57 = .ok (.aload_n 0, 1) := by decide +kernel
theorem d_Tokens_scanWord_58 : decode b_Tokens_scanWord 58 = .ok (.aload_n 0, 1) := by decide +kernel
theorem d_Tokens_scanWord_59 : decode b_Tokens_scanWord 59 = .ok (.getfield 9, 3) := by decide +kernel
theorem d_Tokens_scanWord_62 : decode b_Tokens_scanWord 62 = .ok (.aload_n 0, 1) := by decide +kernel
theorem d_Tokens_scanWord_63 : decode b_Tokens_scanWord 63 = .ok (.getfield 29, 3) := by decide +kernel
theorem d_Tokens_scanWord_66 : decode b_Tokens_scanWord 66 = .ok (.aload_n 0, 1) := by decide +kernel
theorem d_Tokens_scanWord_67 : decode b_Tokens_scanWord 67 = .ok (.getfield 19, 3) := by decide +kernel
theorem d_Tokens_scanWord_70 : decode b_Tokens_scanWord 70 = .ok (.invokestatic 72, 3) := by decide +kernel
theorem d_Tokens_scanWord_73 : decode b_Tokens_scanWord 73 = .ok (.putfield 35, 3) := by decide +kernel
theorem d_Tokens_scanWord_76 : decode b_Tokens_scanWord 76 = .ok (.return_, 1) := by decide +kernel
theorem d_Tokens_advance_0 : decode b_Tokens_advance 0 = .ok (.aload_n 0, 1) := by decide +kernel
theorem d_Tokens_advance_1 : decode b_Tokens_advance 1 = .ok (.getfield 15, 3) := by decide +kernel
theorem d_Tokens_advance_4 : decode b_Tokens_advance 4 = .ok (.istore_n 1, 1) := by decide +kernel
theorem d_Tokens_advance_5 : decode b_Tokens_advance 5 = .ok (.aload_n 0, 1) := by decide +kernel
theorem d_Tokens_advance_6 : decode b_Tokens_advance 6 = .ok (.getfield 19, 3) := by decide +kernel
theorem d_Tokens_advance_9 : decode b_Tokens_advance 9 = .ok (.istore_n 2, 1) := by decide +kernel
theorem d_Tokens_advance_10 : decode b_Tokens_advance 10 = .ok (.aload_n 0, 1) := by decide +kernel
theorem d_Tokens_advance_11 : decode b_Tokens_advance 11 = .ok (.aload_n 0, 1) := by decide +kernel
theorem d_Tokens_advance_12 : decode b_Tokens_advance 12 = .ok (.iload_n 2, 1) := by decide +kernel
theorem d_Tokens_advance_13 : decode b_Tokens_advance 13 = .ok (.invokevirtual 25, 3) := by decide +kernel
theorem d_Tokens_advance_16 : decode b_Tokens_advance 16 = .ok (.putfield 29, 3) := by decide +kernel
theorem d_Tokens_advance_19 : decode b_Tokens_advance 19 = .ok (.aload_n 0, 1) := by decide +kernel
theorem d_Tokens_advance_20 : decode b_Tokens_advance 20 = .ok (.iconst (-1), 1) := by decide +kernel
theorem d_Tokens_advance_21 : decode b_Tokens_advance 21 = .ok (.putfield 32, 3) := by decide +kernel
theorem d_Tokens_advance_24 : decode b_Tokens_advance 24 = .ok (.aload_n 0, 1) := by decide +kernel
theorem d_Tokens_advance_25 : decode b_Tokens_advance 25 = .ok (.aconst_null, 1) := by decide +kernel
theorem d_Tokens_advance_26 : decode b_Tokens_advance 26 = .ok (.putfield 35, 3) := by decide +kernel
theorem d_Tokens_advance_29 : decode b_Tokens_advance 29 = .ok (.aload_n 0, 1) := by decide +kernel
theorem d_Tokens_advance_30 : decode b_Tokens_advance 30 = .ok (.getfield 9, 3) := by decide +kernel
theorem d_Tokens_advance_33 : decode b_Tokens_advance 33 = .ok (.aload_n 0, 1) := by decide +kernel
theorem d_Tokens_advance_34 : decode b_Tokens_advance 34 = .ok (.getfield 29, 3) := by decide +kernel
theorem d_Tokens_advance_37 : decode b_Tokens_advance 37 = .ok (.invokevirtual 39, 3) := by decide +kernel
theorem d_Tokens_advance_40 : decode b_Tokens_advance 40 = .ok (.istore_n 3, 1) := by decide +kernel
theorem d_Tokens_advance_41 : decode b_Tokens_advance 41 = .ok (.aload_n 0, 1) := by decide +kernel
theorem d_Tokens_advance_42 : decode b_Tokens_advance 42 = .ok (.getfield 29, 3) := by decide +kernel
theorem d_Tokens_advance_45 : decode b_Tokens_advance 45 = .ok (.aload_n 0, 1) := by decide +kernel
theorem d_Tokens_advance_46 : decode b_Tokens_advance 46 = .ok (.getfield 9, 3) := by decide +kernel
theorem d_Tokens_advance_49 : decode b_Tokens_advance 49 = .ok (.getfield 44, 3) := by decide +kernel
theorem d_Tokens_advance_52 : decode b_Tokens_advance 52 = .ok (.if_icmp .lt 19, 3) := by decide +kernel
theorem d_Tokens_advance_55 : decode b_Tokens_advance 55 = .ok (.aload_n 0, 1) := by decide +kernel
theorem d_Tokens_advance_56 : decode b_Tokens_advance 56 = .ok (.iconst 0, 1) := by decide +kernel
theorem d_Tokens_advance_57 : decode b_Tokens_advance 57 = .ok (.putfield 15, 3) := by decide +kernel
theorem d_Tokens_advance_60 : decode b_Tokens_advance 60 = .ok (.aload_n 0, 1) := by decide +kernel
theorem d_Tokens_advance_61 : decode b_Tokens_advance 61 = .ok (.aload_n 0, 1) := by decide +kernel
theorem d_Tokens_advance_62 : decode b_Tokens_advance 62 = .ok (.getfield 29, 3) := by decide +kernel
theorem d_Tokens_advance_65 : decode b_Tokens_advance 65 = .ok (.putfield 19, 3) := by decide +kernel
theorem d_Tokens_advance_68 : decode b_Tokens_advance 68 = .ok (.goto 57, 3) := by decide +kernel
theorem d_Tokens_advance_71 : decode b_Tokens_advance 71 = .ok (.iload_n 3, 1) := by decide +kernel
theorem d_Tokens_advance_72 : decode b_Tokens_advance 72 = .ok (.invokestatic 47, 3) := by decide +kernel
theorem d_Tokens_advance_75 : decode b_Tokens_advance 75 = .ok (.ifCond .eq 10, 3) := by decide +kernel
theorem d_Tokens_advance_78 : decode b_Tokens_advance 78 = .ok (.aload_n 0, 1) := by decide +kernel
theorem d_Tokens_advance_79 : decode b_Tokens_advance 79 = .ok (.invokevirtual 51, 3) := by decide +kernel
theorem d_Tokens_advance_82 : decode b_Tokens_advance 82 = .ok (.goto 43, 3) := by decide +kernel
theorem d_Tokens_advance_85 : decode b_Tokens_advance 85 = .ok (.iload_n 3, 1) := by decide +kernel
theorem d_Tokens_advance_86 : decode b_Tokens_advance 86 = .ok (.invokestatic 54, 3) := by decide +kernel
theorem d_Tokens_advance_89 : decode b_Tokens_advance 89 = .ok (.ifCond .eq 10, 3) := by decide +kernel
theorem d_Tokens_advance_92 : decode b_Tokens_advance 92 = .ok (.aload_n 0, 1) := by decide +kernel
theorem d_Tokens_advance_93 : decode b_Tokens_advance 93 = .ok (.invokevirtual 57, 3) := by decide +kernel
theorem d_Tokens_advance_96 : decode b_Tokens_advance 96 = .ok (.goto 29, 3) := by decide +kernel
theorem d_Tokens_advance_99 : decode b_Tokens_advance 99 = .ok (.aload_n 0, 1) := by decide +kernel
theorem d_Tokens_advance_100 : decode b_Tokens_advance 100 = .ok (.iload_n 3, 1) := by decide +kernel
theorem d_Tokens_advance_101 : decode b_Tokens_advance 101 = .ok (.invokestatic 60, 3) := by decide +kernel
theorem d_Tokens_advance_104 : decode b_Tokens_advance 104 = .ok (.ifCond .eq 7, 3) := by decide +kernel
theorem d_Tokens_advance_107 : decode b_Tokens_advance 107 = .ok (.iconst 3, 1) := by decide +kernel
theorem d_Tokens_advance_108 : decode b_Tokens_advance 108 = .ok (.goto 4, 3) := by decide +kernel
theorem d_Tokens_advance_111 : decode b_Tokens_advance 111 = .ok (.iconst 4, 1) := by decide +kernel
theorem d_Tokens_advance_112 : decode b_Tokens_advance 112 = .ok (.putfield 15, 3) := by decide +kernel
theorem d_Tokens_advance_115 : decode b_Tokens_advance 115 = .ok (.aload_n 0, 1) := by decide +kernel
theorem d_Tokens_advance_116 : decode b_Tokens_advance 116 = .ok (.aload_n 0, 1) := by decide +kernel
theorem d_Tokens_advance_117 : decode b_Tokens_advance 117 = .ok (.getfield 29, 3) := by decide +kernel
theorem d_Tokens_advance_120 : decode b_Tokens_advance 120 = .ok (.iconst 1, 1) := by decide +kernel
theorem d_Tokens_advance_121 : decode b_Tokens_advance 121 = .ok (.iadd, 1) := by decide +kernel
theorem d_Tokens_advance_122 : decode b_Tokens_advance 122 = .ok (.putfield 19, 3) := by decide +kernel
theorem d_Tokens_advance_125 : decode b_Tokens_advance 125 = .ok (.aload_n 0, 1) := by decide +kernel
theorem d_Tokens_advance_126 : decode b_Tokens_advance 126 = .ok (.getfield 29, 3) := by decide +kernel
theorem d_Tokens_advance_129 : decode b_Tokens_advance 129 = .ok (.iload_n 2, 1) := by decide +kernel
theorem d_Tokens_advance_130 : decode b_Tokens_advance 130 = .ok (.if_icmp .ne 19, 3) := by decide +kernel
theorem d_Tokens_advance_133 : decode b_Tokens_advance 133 = .ok (.iload_n 1, 1) := by decide +kernel
theorem d_Tokens_advance_134 : decode b_Tokens_advance 134 = .ok (.aload_n 0, 1) := by decide +kernel
theorem d_Tokens_advance_135 : decode b_Tokens_advance 135 = .ok (.getfield 15, 3) := by decide +kernel
theorem d_Tokens_advance_138 : decode b_Tokens_advance 138 = .ok (.invokestatic 63, 3) := by decide +kernel
theorem d_Tokens_advance_141 : decode b_Tokens_advance 141 = .ok (.ifCond .eq 8, 3) := by decide +kernel
theorem d_Tokens_advance_144 : decode b_Tokens_advance 144 = .ok (.aload_n 0, 1) := by decide +kernel
theorem d_Tokens_advance_145 : decode b_Tokens_advance 145 = .ok (.iconst 4, 1) := by decide +kernel
theorem d_Tokens_advance_146 : decode b_Tokens_advance 146 = .ok (.putfield 15, 3) := by decide +kernel
theorem d_Tokens_advance_149 : decode b_Tokens_advance 149 = .ok (.return_, 1) := by decide +kernel
set_option maxHeartbeats 4000000 in
set_option maxRecDepth 100000 in
theorem lp_Tokens_scanWord_8 (g : GG) {a : Nat} {t : Nat} {tb : Nat} {k : Nat} {so : Nat} {sta : Nat} {en : Nat} {T : Nat → Nat} {v : Option Nat} {wd : Option Nat} (hk : k ≤ 2000) (hT : ∀ j, T j < 256) (hs : sta ≤ k) {x : X0} {A : Nat → Prop} {Q : State → Prop}  (C : CX x g A R_Tokens b_Tokens_scanWord 1) (E : RX x g A Q none (fun (r0 : Option Value) (w0 : va_W) => r0 = none ∧ w0 = [(a, .inr (2, [.ref t, .int (nI 1), .int (nI sta), .int (nI (run isLet T k sta)), .int (oI v), va_rf (wR g (wordAt T sta (run isLet T k sta)))])), (t, .inr (1, [.ref tb, .int (nI k)])), (tb, .inl (g.2.1 1, 2000, .inl (aI T)))]) (rmk 6 0 0 132).cells (rmk 6 0 0 132).slots) (hR : xR x = (rmk 6 0 0 132)) : ∀ (fuel : Nat) (e : Nat) (h1 : sta ≤ e) (h2 : e ≤ k) (he : run isLet T k e = run isLet T k sta), k - e < fuel → J x g A Q 1 ([(a, .inr (2, [.ref t, .int (nI so), .int (nI sta), .int (nI e), .int (oI v), va_rf (wR g wd)])), (t, .inr (1, [.ref tb, .int (nI k)])), (tb, .inl (g.2.1 1, 2000, .inl (aI T)))]) [(0, .ref a)] 8 [] 0 0 := by
  intro fuel
  induction fuel with
  | zero =>
    intro e h1 h2 he hm
    exact absurd hm (Nat.not_lt_zero _)
  | succ fuel ih =>
    intro e h1 h2 he hm
    refine r_aload_n C 0 d_Tokens_scanWord_8 rfl rfl ?_
    refine r_get C 0 3 d_Tokens_scanWord_9 ci_Tokens fi_Tokens_19 rfl (by decide) rfl rfl ?_
    refine r_aload_n C 0 d_Tokens_scanWord_12 rfl rfl ?_
    refine r_get C 0 0 d_Tokens_scanWord_13 ci_Tokens fi_Tokens_9 rfl (by decide) rfl rfl ?_
    refine r_get C 1 1 d_Tokens_scanWord_16 ci_Text fi_Tokens_44 rfl (by decide) rfl rfl ?_
    refine r_ncmp_ge C 52 d_Tokens_scanWord_19 (by decide) (by omega) (by omega) (fun c_19 => ?_) (fun c_19 => ?_)
    · skip
      refine r_aload_n C 0 d_Tokens_scanWord_52 rfl rfl ?_
      refine r_iconst C (nI 1) d_Tokens_scanWord_53 (by decide) ?_
      refine r_put C (ws' := [(a, .inr (2, [.ref t, .int (nI 1), .int (nI sta), .int (nI e), .int (oI v), va_rf (wR g wd)])), (t, .inr (1, [.ref tb, .int (nI k)])), (tb, .inl (g.2.1 1, 2000, .inl (aI T)))]) 0 1 d_Tokens_scanWord_54 ci_Tokens fi_Tokens_15 rfl (by decide) rfl rfl (rfl) (rfl) (by simp) rfl ?_
      refine r_aload_n C 0 d_Tokens_scanWord_57 rfl rfl ?_
      refine r_aload_n C 0 d_Tokens_scanWord_58 rfl rfl ?_
      refine r_get C 0 0 d_Tokens_scanWord_59 ci_Tokens fi_Tokens_9 rfl (by decide) rfl rfl ?_
      refine r_aload_n C 0 d_Tokens_scanWord_62 rfl rfl ?_
      refine r_get C 0 2 d_Tokens_scanWord_63 ci_Tokens fi_Tokens_29 rfl (by decide) rfl rfl ?_
      refine r_aload_n C 0 d_Tokens_scanWord_66 rfl rfl ?_
      refine r_get C 0 3 d_Tokens_scanWord_67 ci_Tokens fi_Tokens_19 rfl (by decide) rfl rfl ?_
      refine j_callS C (c_Word_find g (xl x) (t := t) (tb := tb) (k := k) (s := sta) (e := e) (T := T) (by first | assumption | rfl | omega) (by first | assumption | rfl | omega) (by first | assumption | rfl | omega) (by first | assumption | rfl | omega)) (Sp.of (wr := [(a, .inr (2, [.ref t, .int (nI 1), .int (nI sta), .int (nI e), .int (oI v), va_rf (wR g wd)]))]) [1, 2] [0] rfl rfl rfl rfl (by decide)) d_Tokens_scanWord_70 lk_Tokens_72 mw_Word_find st_Word_find (fit_of hR (by first | decide | (simp only [rmk]; omega)) (by first | decide | (simp only [rmk]; omega)) (by first | decide | (simp only [rmk]; omega)) (by first | decide | (simp only [rmk]; omega))) rfl (cat8 (Nat.le_of_ble_eq_true rfl)) (As := [.ref t, .int (nI sta), .int (nI e)]) (rest := [.ref a]) rfl (fun r_70 w_70 hp_70 => ?_)
      obtain ⟨rfl, rfl⟩ := hp_70
      refine r_after (ws' := [(a, .inr (2, [.ref t, .int (nI 1), .int (nI sta), .int (nI e), .int (oI v), va_rf (wR g wd)])), (t, .inr (1, [.ref tb, .int (nI k)])), (tb, .inl (g.2.1 1, 2000, .inl (aI T)))]) (st' := [va_rf (wR g (wordAt T sta e)), .ref a]) (n1 := 0) (n2 := 0) [0, 1, 2] rfl rfl rfl rfl rfl ?_
      refine r_put C (ws' := [(a, .inr (2, [.ref t, .int (nI 1), .int (nI sta), .int (nI e), .int (oI v), va_rf (wR g (wordAt T sta e))])), (t, .inr (1, [.ref tb, .int (nI k)])), (tb, .inl (g.2.1 1, 2000, .inl (aI T)))]) 0 5 d_Tokens_scanWord_73 ci_Tokens fi_Tokens_35 rfl (by decide) rfl rfl (rf_nar _ _) (rf_fit _ _) (by simp) rfl ?_
      refine r_vret C E d_Tokens_scanWord_76 (by first | decide | omega | (simp only [rmk]; omega)) (by first | decide | omega | (simp only [rmk]; omega)) ?_
      have hrun : run isLet T k sta = e := by rw [← he, run_stop (by first | omega | simp [c_36])]
      rw [hrun]; exact ⟨rfl, rfl⟩
    · skip
      refine r_aload_n C 0 d_Tokens_scanWord_22 rfl rfl ?_
      refine r_get C 0 0 d_Tokens_scanWord_23 ci_Tokens fi_Tokens_9 rfl (by decide) rfl rfl ?_
      refine r_aload_n C 0 d_Tokens_scanWord_26 rfl rfl ?_
      refine r_get C 0 3 d_Tokens_scanWord_27 ci_Tokens fi_Tokens_19 rfl (by decide) rfl rfl ?_
      refine j_callV C (c_Text_at g (xl x) (t := t) (tb := tb) (k := k) (j := e) (T := T) (by first | assumption | rfl | omega) (by first | assumption | rfl | omega)) (Sp.of (wr := [(a, .inr (2, [.ref t, .int (nI so), .int (nI sta), .int (nI e), .int (oI v), va_rf (wR g wd)]))]) [1, 2] [0] rfl rfl rfl rfl (by decide)) d_Tokens_scanWord_30 lk_Tokens_39 mw_Text_at vw_Text_at (q0 := 0) rfl rfl (fit_of hR (by first | decide | (simp only [rmk]; omega)) (by first | decide | (simp only [rmk]; omega)) (by first | decide | (simp only [rmk]; omega)) (by first | decide | (simp only [rmk]; omega))) rfl (cat8 (Nat.le_of_ble_eq_true rfl)) (As := [.int (nI e)]) (rest := []) rfl (fun r_30 w_30 hp_30 => ?_)
      obtain ⟨rfl, rfl⟩ := hp_30
      refine r_after (ws' := [(a, .inr (2, [.ref t, .int (nI so), .int (nI sta), .int (nI e), .int (oI v), va_rf (wR g wd)])), (t, .inr (1, [.ref tb, .int (nI k)])), (tb, .inl (g.2.1 1, 2000, .inl (aI T)))]) (st' := [.int (oI (atO T k e))]) (n1 := 0) (n2 := 0) [0, 1, 2] rfl rfl rfl rfl rfl ?_
      have hTe := hT e
      refine r_top (v' := nI (T e)) (oI_at (by omega)) ?_
      refine j_callS C (c_Tokens_isLetter g (xl x) (c := T e) (by first | assumption | rfl | omega)) (Sp.of (wr := [(a, .inr (2, [.ref t, .int (nI so), .int (nI sta), .int (nI e), .int (oI v), va_rf (wR g wd)])), (t, .inr (1, [.ref tb, .int (nI k)])), (tb, .inl (g.2.1 1, 2000, .inl (aI T)))]) [] [0, 1, 2] rfl rfl rfl rfl (by decide)) d_Tokens_scanWord_33 lk_Tokens_47 mw_Tokens_isLetter st_Tokens_isLetter (fit_of hR (by first | decide | (simp only [rmk]; omega)) (by first | decide | (simp only [rmk]; omega)) (by first | decide | (simp only [rmk]; omega)) (by first | decide | (simp only [rmk]; omega))) rfl (cat8 (Nat.le_of_ble_eq_true rfl)) (As := [.int (nI (T e))]) (rest := []) rfl (fun r_33 w_33 hp_33 => ?_)
      obtain ⟨rfl, rfl⟩ := hp_33
      refine r_after (ws' := [(a, .inr (2, [.ref t, .int (nI so), .int (nI sta), .int (nI e), .int (oI v), va_rf (wR g wd)])), (t, .inr (1, [.ref tb, .int (nI k)])), (tb, .inl (g.2.1 1, 2000, .inl (aI T)))]) (st' := [.int (bI (isLet (T e)))]) (n1 := 0) (n2 := 0) [0, 1, 2] rfl rfl rfl rfl rfl ?_
      refine r_bif_eq C 52 d_Tokens_scanWord_36 (by decide) (fun c_36 => ?_) (fun c_36 => ?_)
      · skip
        refine r_aload_n C 0 d_Tokens_scanWord_52 rfl rfl ?_
        refine r_iconst C (nI 1) d_Tokens_scanWord_53 (by decide) ?_
        refine r_put C (ws' := [(a, .inr (2, [.ref t, .int (nI 1), .int (nI sta), .int (nI e), .int (oI v), va_rf (wR g wd)])), (t, .inr (1, [.ref tb, .int (nI k)])), (tb, .inl (g.2.1 1, 2000, .inl (aI T)))]) 0 1 d_Tokens_scanWord_54 ci_Tokens fi_Tokens_15 rfl (by decide) rfl rfl (rfl) (rfl) (by simp) rfl ?_
        refine r_aload_n C 0 d_Tokens_scanWord_57 rfl rfl ?_
        refine r_aload_n C 0 d_Tokens_scanWord_58 rfl rfl ?_
        refine r_get C 0 0 d_Tokens_scanWord_59 ci_Tokens fi_Tokens_9 rfl (by decide) rfl rfl ?_
        refine r_aload_n C 0 d_Tokens_scanWord_62 rfl rfl ?_
        refine r_get C 0 2 d_Tokens_scanWord_63 ci_Tokens fi_Tokens_29 rfl (by decide) rfl rfl ?_
        refine r_aload_n C 0 d_Tokens_scanWord_66 rfl rfl ?_
        refine r_get C 0 3 d_Tokens_scanWord_67 ci_Tokens fi_Tokens_19 rfl (by decide) rfl rfl ?_
        refine j_callS C (c_Word_find g (xl x) (t := t) (tb := tb) (k := k) (s := sta) (e := e) (T := T) (by first | assumption | rfl | omega) (by first | assumption | rfl | omega) (by first | assumption | rfl | omega) (by first | assumption | rfl | omega)) (Sp.of (wr := [(a, .inr (2, [.ref t, .int (nI 1), .int (nI sta), .int (nI e), .int (oI v), va_rf (wR g wd)]))]) [1, 2] [0] rfl rfl rfl rfl (by decide)) d_Tokens_scanWord_70 lk_Tokens_72 mw_Word_find st_Word_find (fit_of hR (by first | decide | (simp only [rmk]; omega)) (by first | decide | (simp only [rmk]; omega)) (by first | decide | (simp only [rmk]; omega)) (by first | decide | (simp only [rmk]; omega))) rfl (cat8 (Nat.le_of_ble_eq_true rfl)) (As := [.ref t, .int (nI sta), .int (nI e)]) (rest := [.ref a]) rfl (fun r_70 w_70 hp_70 => ?_)
        obtain ⟨rfl, rfl⟩ := hp_70
        refine r_after (ws' := [(a, .inr (2, [.ref t, .int (nI 1), .int (nI sta), .int (nI e), .int (oI v), va_rf (wR g wd)])), (t, .inr (1, [.ref tb, .int (nI k)])), (tb, .inl (g.2.1 1, 2000, .inl (aI T)))]) (st' := [va_rf (wR g (wordAt T sta e)), .ref a]) (n1 := 0) (n2 := 0) [0, 1, 2] rfl rfl rfl rfl rfl ?_
        refine r_put C (ws' := [(a, .inr (2, [.ref t, .int (nI 1), .int (nI sta), .int (nI e), .int (oI v), va_rf (wR g (wordAt T sta e))])), (t, .inr (1, [.ref tb, .int (nI k)])), (tb, .inl (g.2.1 1, 2000, .inl (aI T)))]) 0 5 d_Tokens_scanWord_73 ci_Tokens fi_Tokens_35 rfl (by decide) rfl rfl (rf_nar _ _) (rf_fit _ _) (by simp) rfl ?_
        refine r_vret C E d_Tokens_scanWord_76 (by first | decide | omega | (simp only [rmk]; omega)) (by first | decide | omega | (simp only [rmk]; omega)) ?_
        have hrun : run isLet T k sta = e := by rw [← he, run_stop (by first | omega | simp [c_36])]
        rw [hrun]; exact ⟨rfl, rfl⟩
      · skip
        refine r_aload_n C 0 d_Tokens_scanWord_39 rfl rfl ?_
        refine r_dup C d_Tokens_scanWord_40 rfl ?_
        refine r_get C 0 3 d_Tokens_scanWord_41 ci_Tokens fi_Tokens_19 rfl (by decide) rfl rfl ?_
        refine r_iconst C (nI 1) d_Tokens_scanWord_44 (by decide) ?_
        refine r_nadd C d_Tokens_scanWord_45 ?_
        refine r_put C (ws' := [(a, .inr (2, [.ref t, .int (nI so), .int (nI sta), .int (nI (e + 1)), .int (oI v), va_rf (wR g wd)])), (t, .inr (1, [.ref tb, .int (nI k)])), (tb, .inl (g.2.1 1, 2000, .inl (aI T)))]) 0 3 d_Tokens_scanWord_46 ci_Tokens fi_Tokens_19 rfl (by decide) rfl rfl (rfl) (rfl) (by simp) rfl ?_
        refine r_goto C 8 d_Tokens_scanWord_49 (by decide) ?_
        refine r_lv (lv' := [(0, .ref a)]) [0] rfl ?_
        exact ih (e + 1) (by first | assumption | rfl | omega) (by first | assumption | rfl | omega) (by rw [← he]; exact (run_go (by omega) c_36).symm) (by omega)
set_option maxHeartbeats 4000000 in
set_option maxRecDepth 100000 in
theorem c_Tokens_scanWord (g : GG) (l : Launch) {a : Nat} {t : Nat} {tb : Nat} {k : Nat} {so : Nat} {sta : Nat} {en : Nat} {T : Nat → Nat} {v : Option Nat} {wd : Option Nat}  (hk : k ≤ 2000) (hT : ∀ j, T j < 256) (hs : sta ≤ k) : Cn g l y_Tokens_scanWord b_Tokens_scanWord 1 none (rmk 6 0 0 132) [.ref a] ([(a, .inr (2, [.ref t, .int (nI so), .int (nI sta), .int (nI en), .int (oI v), va_rf (wR g wd)])), (t, .inr (1, [.ref tb, .int (nI k)])), (tb, .inl (g.2.1 1, 2000, .inl (aI T)))]) (fun (r0 : Option Value) (w0 : va_W) => r0 = none ∧ w0 = [(a, .inr (2, [.ref t, .int (nI 1), .int (nI sta), .int (nI (run isLet T k sta)), .int (oI v), va_rf (wR g (wordAt T sta (run isLet T k sta)))])), (t, .inr (1, [.ref tb, .int (nI k)])), (tb, .inl (g.2.1 1, 2000, .inl (aI T)))]) := by
  refine Cn.of R_Tokens [(0, .ref a)] (by decide) rfl (Nat.le_of_ble_eq_true rfl) rfl ?_
  intro x A Q hR hXl hin C E
  subst hXl
  refine r_aload_n C 0 d_Tokens_scanWord_0 rfl rfl ?_
  refine r_aload_n C 0 d_Tokens_scanWord_1 rfl rfl ?_
  refine r_get C 0 2 d_Tokens_scanWord_2 ci_Tokens fi_Tokens_29 rfl (by decide) rfl rfl ?_
  refine r_put C (ws' := [(a, .inr (2, [.ref t, .int (nI so), .int (nI sta), .int (nI sta), .int (oI v), va_rf (wR g wd)])), (t, .inr (1, [.ref tb, .int (nI k)])), (tb, .inl (g.2.1 1, 2000, .inl (aI T)))]) 0 3 d_Tokens_scanWord_5 ci_Tokens fi_Tokens_19 rfl (by decide) rfl rfl (rfl) (rfl) (by simp) rfl ?_
  refine r_lv (lv' := [(0, .ref a)]) [0] rfl ?_
  exact lp_Tokens_scanWord_8 g (a := a) (t := t) (tb := tb) (k := k) (so := so) (sta := sta) (en := en) (T := T) (v := v) (wd := wd) hk hT hs  C E hR _ sta (by first | assumption | rfl | omega) (by first | assumption | rfl | omega) (by first | assumption | rfl | omega) (Nat.lt_succ_self _)

set_option maxHeartbeats 4000000 in
set_option maxRecDepth 100000 in
theorem c_Tokens_advance (g : GG) (l : Launch) {a : Nat} {t : Nat} {tb : Nat} {k : Nat} {so : Nat} {sta : Nat} {en : Nat} {T : Nat → Nat} {v : Option Nat} {wd : Option Nat}  (hk : k ≤ 2000) (hT : ∀ j, T j < 256) (hso : so < 2 ^ 31) (he : en ≤ k) : Cn g l y_Tokens_advance b_Tokens_advance 4 none (rmk 7 0 0 152) [.ref a] ([(a, .inr (2, [.ref t, .int (nI so), .int (nI sta), .int (nI en), .int (oI v), va_rf (wR g wd)])), (t, .inr (1, [.ref tb, .int (nI k)])), (tb, .inl (g.2.1 1, 2000, .inl (aI T)))]) (fun (r0 : Option Value) (w0 : va_W) => ∃ tk : Tok, r0 = none ∧ w0 = [(a, .inr (2, [.ref t, .int (nI tk.1), .int (nI tk.2.1), .int (nI tk.2.2.1), .int (oI tk.2.2.2.1), va_rf (wR g tk.2.2.2.2)])), (t, .inr (1, [.ref tb, .int (nI k)])), (tb, .inl (g.2.1 1, 2000, .inl (aI T)))] ∧ (tk = tokAt T k so en)) := by
  refine Cn.of R_Tokens [(0, .ref a)] (by decide) rfl (Nat.le_of_ble_eq_true rfl) rfl ?_
  intro x A Q hR hXl hin C E
  subst hXl
  refine r_aload_n C 0 d_Tokens_advance_0 rfl rfl ?_
  refine r_get C 0 1 d_Tokens_advance_1 ci_Tokens fi_Tokens_15 rfl (by decide) rfl rfl ?_
  refine r_istore_n C (lv' := [(1, .int (nI so)), (0, .ref a)]) d_Tokens_advance_4 rfl (by decide) rfl ?_
  refine r_aload_n C 1 d_Tokens_advance_5 rfl rfl ?_
  refine r_get C 0 3 d_Tokens_advance_6 ci_Tokens fi_Tokens_19 rfl (by decide) rfl rfl ?_
  refine r_istore_n C (lv' := [(2, .int (nI en)), (1, .int (nI so)), (0, .ref a)]) d_Tokens_advance_9 rfl (by decide) rfl ?_
  refine r_aload_n C 2 d_Tokens_advance_10 rfl rfl ?_
  refine r_aload_n C 2 d_Tokens_advance_11 rfl rfl ?_
  refine r_iload_n C 0 d_Tokens_advance_12 rfl rfl ?_
  refine j_callV C (c_Tokens_behindBlanks g (xl x) (a := a) (t := t) (tb := tb) (k := k) (so := so) (sta := sta) (en := en) (T := T) (v := v) (wd := wd) (j := en) (by first | assumption | rfl | omega) (by first | assumption | rfl | omega) (by first | assumption | rfl | omega)) (Sp.of (wr := []) [0, 1, 2] [] rfl rfl rfl rfl (by decide)) d_Tokens_advance_13 lk_Tokens_25 mw_Tokens_behindBlanks vw_Tokens_behindBlanks (q0 := 0) rfl rfl (fit_of hR (by first | decide | (simp only [rmk]; omega)) (by first | decide | (simp only [rmk]; omega)) (by first | decide | (simp only [rmk]; omega)) (by first | decide | (simp only [rmk]; omega))) rfl (cat8 (Nat.le_of_ble_eq_true rfl)) (As := [.int (nI en)]) (rest := [.ref a]) rfl (fun r_13 w_13 hp_13 => ?_)
  obtain ⟨rfl, rfl⟩ := hp_13
  refine r_after (ws' := [(a, .inr (2, [.ref t, .int (nI so), .int (nI sta), .int (nI en), .int (oI v), va_rf (wR g wd)])), (t, .inr (1, [.ref tb, .int (nI k)])), (tb, .inl (g.2.1 1, 2000, .inl (aI T)))]) (st' := [.int (nI (run isBlk T k en)), .ref a]) (n1 := 0) (n2 := 0) [0, 1, 2] rfl rfl rfl rfl rfl ?_
  refine r_put C (ws' := [(a, .inr (2, [.ref t, .int (nI so), .int (nI (run isBlk T k en)), .int (nI en), .int (oI v), va_rf (wR g wd)])), (t, .inr (1, [.ref tb, .int (nI k)])), (tb, .inl (g.2.1 1, 2000, .inl (aI T)))]) 0 2 d_Tokens_advance_16 ci_Tokens fi_Tokens_29 rfl (by decide) rfl rfl (rfl) (rfl) (by simp) rfl ?_
  have hb := run_in (p := isBlk) (T := T) (k := k) (k - en) en rfl he
  refine r_aload_n C 2 d_Tokens_advance_19 rfl rfl ?_
  refine r_iconst C ((-1)) d_Tokens_advance_20 (by decide) ?_
  refine r_put C (ws' := [(a, .inr (2, [.ref t, .int (nI so), .int (nI (run isBlk T k en)), .int (nI en), .int (-1), va_rf (wR g wd)])), (t, .inr (1, [.ref tb, .int (nI k)])), (tb, .inl (g.2.1 1, 2000, .inl (aI T)))]) 0 4 d_Tokens_advance_21 ci_Tokens fi_Tokens_32 rfl (by decide) rfl rfl (rfl) (rfl) (by simp) rfl ?_
  refine r_aload_n C 2 d_Tokens_advance_24 rfl rfl ?_
  refine r_null C d_Tokens_advance_25 ?_
  refine r_put C (ws' := [(a, .inr (2, [.ref t, .int (nI so), .int (nI (run isBlk T k en)), .int (nI en), .int (-1), .null])), (t, .inr (1, [.ref tb, .int (nI k)])), (tb, .inl (g.2.1 1, 2000, .inl (aI T)))]) 0 5 d_Tokens_advance_26 ci_Tokens fi_Tokens_35 rfl (by decide) rfl rfl (rfl) (rfl) (by simp) rfl ?_
  refine r_aload_n C 2 d_Tokens_advance_29 rfl rfl ?_
  refine r_get C 0 0 d_Tokens_advance_30 ci_Tokens fi_Tokens_9 rfl (by decide) rfl rfl ?_
  refine r_aload_n C 2 d_Tokens_advance_33 rfl rfl ?_
  refine r_get C 0 2 d_Tokens_advance_34 ci_Tokens fi_Tokens_29 rfl (by decide) rfl rfl ?_
  refine j_callV C (c_Text_at g (xl x) (t := t) (tb := tb) (k := k) (j := run isBlk T k en) (T := T) (by first | assumption | rfl | omega) (by first | assumption | rfl | omega)) (Sp.of (wr := [(a, .inr (2, [.ref t, .int (nI so), .int (nI (run isBlk T k en)), .int (nI en), .int (-1), .null]))]) [1, 2] [0] rfl rfl rfl rfl (by decide)) d_Tokens_advance_37 lk_Tokens_39 mw_Text_at vw_Text_at (q0 := 0) rfl rfl (fit_of hR (by first | decide | (simp only [rmk]; omega)) (by first | decide | (simp only [rmk]; omega)) (by first | decide | (simp only [rmk]; omega)) (by first | decide | (simp only [rmk]; omega))) rfl (cat8 (Nat.le_of_ble_eq_true rfl)) (As := [.int (nI (run isBlk T k en))]) (rest := []) rfl (fun r_37 w_37 hp_37 => ?_)
  obtain ⟨rfl, rfl⟩ := hp_37
  refine r_after (ws' := [(a, .inr (2, [.ref t, .int (nI so), .int (nI (run isBlk T k en)), .int (nI en), .int (-1), .null])), (t, .inr (1, [.ref tb, .int (nI k)])), (tb, .inl (g.2.1 1, 2000, .inl (aI T)))]) (st' := [.int (oI (atO T k (run isBlk T k en)))]) (n1 := 0) (n2 := 0) [0, 1, 2] rfl rfl rfl rfl rfl ?_
  refine r_istore_n C (lv' := [(3, .int (oI (atO T k (run isBlk T k en)))), (2, .int (nI en)), (1, .int (nI so)), (0, .ref a)]) d_Tokens_advance_40 rfl (by decide) rfl ?_
  refine r_aload_n C 3 d_Tokens_advance_41 rfl rfl ?_
  refine r_get C 0 2 d_Tokens_advance_42 ci_Tokens fi_Tokens_29 rfl (by decide) rfl rfl ?_
  refine r_aload_n C 3 d_Tokens_advance_45 rfl rfl ?_
  refine r_get C 0 0 d_Tokens_advance_46 ci_Tokens fi_Tokens_9 rfl (by decide) rfl rfl ?_
  refine r_get C 1 1 d_Tokens_advance_49 ci_Text fi_Tokens_44 rfl (by decide) rfl rfl ?_
  refine r_ncmp_lt C 71 d_Tokens_advance_52 (by decide) (by omega) (by omega) (fun c_52 => ?_) (fun c_52 => ?_)
  · skip
    have hs1 : run isBlk T k en < k := c_52
    have hTs := hT (run isBlk T k en)
    refine r_eqL (lv' := [(3, .int (nI (T (run isBlk T k en)))), (2, .int (nI en)), (1, .int (nI so)), (0, .ref a)]) (by rw [oI_at hs1]) ?_
    refine r_iload_n C 0 d_Tokens_advance_71 rfl rfl ?_
    refine j_callS C (c_Tokens_isLetter g (xl x) (c := T (run isBlk T k en)) (by first | assumption | rfl | omega)) (Sp.of (wr := [(a, .inr (2, [.ref t, .int (nI so), .int (nI (run isBlk T k en)), .int (nI en), .int (-1), .null])), (t, .inr (1, [.ref tb, .int (nI k)])), (tb, .inl (g.2.1 1, 2000, .inl (aI T)))]) [] [0, 1, 2] rfl rfl rfl rfl (by decide)) d_Tokens_advance_72 lk_Tokens_47 mw_Tokens_isLetter st_Tokens_isLetter (fit_of hR (by first | decide | (simp only [rmk]; omega)) (by first | decide | (simp only [rmk]; omega)) (by first | decide | (simp only [rmk]; omega)) (by first | decide | (simp only [rmk]; omega))) rfl (cat8 (Nat.le_of_ble_eq_true rfl)) (As := [.int (nI (T (run isBlk T k en)))]) (rest := []) rfl (fun r_72 w_72 hp_72 => ?_)
    obtain ⟨rfl, rfl⟩ := hp_72
    refine r_after (ws' := [(a, .inr (2, [.ref t, .int (nI so), .int (nI (run isBlk T k en)), .int (nI en), .int (-1), .null])), (t, .inr (1, [.ref tb, .int (nI k)])), (tb, .inl (g.2.1 1, 2000, .inl (aI T)))]) (st' := [.int (bI (isLet (T (run isBlk T k en))))]) (n1 := 0) (n2 := 0) [0, 1, 2] rfl rfl rfl rfl rfl ?_
    refine r_bif_eq C 85 d_Tokens_advance_75 (by decide) (fun c_75 => ?_) (fun c_75 => ?_)
    · skip
      refine r_iload_n C 0 d_Tokens_advance_85 rfl rfl ?_
      refine j_callS C (c_Tokens_isDigit g (xl x) (c := T (run isBlk T k en)) (by first | assumption | rfl | omega)) (Sp.of (wr := [(a, .inr (2, [.ref t, .int (nI so), .int (nI (run isBlk T k en)), .int (nI en), .int (-1), .null])), (t, .inr (1, [.ref tb, .int (nI k)])), (tb, .inl (g.2.1 1, 2000, .inl (aI T)))]) [] [0, 1, 2] rfl rfl rfl rfl (by decide)) d_Tokens_advance_86 lk_Tokens_54 mw_Tokens_isDigit st_Tokens_isDigit (fit_of hR (by first | decide | (simp only [rmk]; omega)) (by first | decide | (simp only [rmk]; omega)) (by first | decide | (simp only [rmk]; omega)) (by first | decide | (simp only [rmk]; omega))) rfl (cat8 (Nat.le_of_ble_eq_true rfl)) (As := [.int (nI (T (run isBlk T k en)))]) (rest := []) rfl (fun r_86 w_86 hp_86 => ?_)
      obtain ⟨rfl, rfl⟩ := hp_86
      refine r_after (ws' := [(a, .inr (2, [.ref t, .int (nI so), .int (nI (run isBlk T k en)), .int (nI en), .int (-1), .null])), (t, .inr (1, [.ref tb, .int (nI k)])), (tb, .inl (g.2.1 1, 2000, .inl (aI T)))]) (st' := [.int (bI (isDig (T (run isBlk T k en))))]) (n1 := 0) (n2 := 0) [0, 1, 2] rfl rfl rfl rfl rfl ?_
      refine r_bif_eq C 99 d_Tokens_advance_89 (by decide) (fun c_89 => ?_) (fun c_89 => ?_)
      · skip
        refine r_aload_n C 3 d_Tokens_advance_99 rfl rfl ?_
        refine r_iload_n C 0 d_Tokens_advance_100 rfl rfl ?_
        refine j_callS C (c_Tokens_isSign g (xl x) (c := T (run isBlk T k en)) (by first | assumption | rfl | omega)) (Sp.of (wr := [(a, .inr (2, [.ref t, .int (nI so), .int (nI (run isBlk T k en)), .int (nI en), .int (-1), .null])), (t, .inr (1, [.ref tb, .int (nI k)])), (tb, .inl (g.2.1 1, 2000, .inl (aI T)))]) [] [0, 1, 2] rfl rfl rfl rfl (by decide)) d_Tokens_advance_101 lk_Tokens_60 mw_Tokens_isSign st_Tokens_isSign (fit_of hR (by first | decide | (simp only [rmk]; omega)) (by first | decide | (simp only [rmk]; omega)) (by first | decide | (simp only [rmk]; omega)) (by first | decide | (simp only [rmk]; omega))) rfl (cat8 (Nat.le_of_ble_eq_true rfl)) (As := [.int (nI (T (run isBlk T k en)))]) (rest := [.ref a]) rfl (fun r_101 w_101 hp_101 => ?_)
        obtain ⟨rfl, rfl⟩ := hp_101
        refine r_after (ws' := [(a, .inr (2, [.ref t, .int (nI so), .int (nI (run isBlk T k en)), .int (nI en), .int (-1), .null])), (t, .inr (1, [.ref tb, .int (nI k)])), (tb, .inl (g.2.1 1, 2000, .inl (aI T)))]) (st' := [.int (bI (isSgn (T (run isBlk T k en)))), .ref a]) (n1 := 0) (n2 := 0) [0, 1, 2] rfl rfl rfl rfl rfl ?_
        refine r_bif_eq C 111 d_Tokens_advance_104 (by decide) (fun c_104 => ?_) (fun c_104 => ?_)
        · skip
          refine r_iconst C (nI 4) d_Tokens_advance_111 (by decide) ?_
          refine r_put C (ws' := [(a, .inr (2, [.ref t, .int (nI 4), .int (nI (run isBlk T k en)), .int (nI en), .int (-1), .null])), (t, .inr (1, [.ref tb, .int (nI k)])), (tb, .inl (g.2.1 1, 2000, .inl (aI T)))]) 0 1 d_Tokens_advance_112 ci_Tokens fi_Tokens_15 rfl (by decide) rfl rfl (rfl) (rfl) (by simp) rfl ?_
          refine r_aload_n C 3 d_Tokens_advance_115 rfl rfl ?_
          refine r_aload_n C 3 d_Tokens_advance_116 rfl rfl ?_
          refine r_get C 0 2 d_Tokens_advance_117 ci_Tokens fi_Tokens_29 rfl (by decide) rfl rfl ?_
          refine r_iconst C (nI 1) d_Tokens_advance_120 (by decide) ?_
          refine r_nadd C d_Tokens_advance_121 ?_
          refine r_put C (ws' := [(a, .inr (2, [.ref t, .int (nI 4), .int (nI (run isBlk T k en)), .int (nI ((run isBlk T k en) + 1)), .int (-1), .null])), (t, .inr (1, [.ref tb, .int (nI k)])), (tb, .inl (g.2.1 1, 2000, .inl (aI T)))]) 0 3 d_Tokens_advance_122 ci_Tokens fi_Tokens_19 rfl (by decide) rfl rfl (rfl) (rfl) (by simp) rfl ?_
          refine r_aload_n C 3 d_Tokens_advance_125 rfl rfl ?_
          refine r_get C 0 2 d_Tokens_advance_126 ci_Tokens fi_Tokens_29 rfl (by decide) rfl rfl ?_
          refine r_iload_n C 1 d_Tokens_advance_129 rfl rfl ?_
          refine r_ncmp_ne C 149 d_Tokens_advance_130 (by decide) (by omega) (by omega) (fun c_130 => ?_) (fun c_130 => ?_)
          · skip
            refine r_vret C E d_Tokens_advance_149 (by first | decide | omega | (simp only [rmk]; omega)) (by first | decide | omega | (simp only [rmk]; omega)) ?_
            exact ⟨(4, run isBlk T k en, (run isBlk T k en) + 1, none, none), rfl, rfl, by first | exact (tokAt_t (tok0_sgn c_52 c_75 c_89 c_104) c_130 c_141).symm | exact (tokAt_f2 (tok0_sgn c_52 c_75 c_89 c_104) c_141).symm | exact (tokAt_f1 (tok0_sgn c_52 c_75 c_89 c_104) c_130).symm | exact (tokAt_t (tok0_bad c_52 c_75 c_89 c_104) c_130 c_141).symm | exact (tokAt_f2 (tok0_bad c_52 c_75 c_89 c_104) c_141).symm | exact (tokAt_f1 (tok0_bad c_52 c_75 c_89 c_104) c_130).symm⟩
          · skip
            refine r_iload_n C 2 d_Tokens_advance_133 rfl rfl ?_
            refine r_aload_n C 3 d_Tokens_advance_134 rfl rfl ?_
            refine r_get C 0 1 d_Tokens_advance_135 ci_Tokens fi_Tokens_15 rfl (by decide) rfl rfl ?_
            refine j_callS C (c_Tokens_mayNotTouch g (xl x) (c := so) (d := 4) (by first | assumption | rfl | omega) (by first | omega | (split <;> decide))) (Sp.of (wr := [(a, .inr (2, [.ref t, .int (nI 4), .int (nI (run isBlk T k en)), .int (nI ((run isBlk T k en) + 1)), .int (-1), .null])), (t, .inr (1, [.ref tb, .int (nI k)])), (tb, .inl (g.2.1 1, 2000, .inl (aI T)))]) [] [0, 1, 2] rfl rfl rfl rfl (by decide)) d_Tokens_advance_138 lk_Tokens_63 mw_Tokens_mayNotTouch st_Tokens_mayNotTouch (fit_of hR (by first | decide | (simp only [rmk]; omega)) (by first | decide | (simp only [rmk]; omega)) (by first | decide | (simp only [rmk]; omega)) (by first | decide | (simp only [rmk]; omega))) rfl (cat8 (Nat.le_of_ble_eq_true rfl)) (As := [.int (nI so), .int (nI 4)]) (rest := []) rfl (fun r_138 w_138 hp_138 => ?_)
            obtain ⟨rfl, rfl⟩ := hp_138
            refine r_after (ws' := [(a, .inr (2, [.ref t, .int (nI 4), .int (nI (run isBlk T k en)), .int (nI ((run isBlk T k en) + 1)), .int (-1), .null])), (t, .inr (1, [.ref tb, .int (nI k)])), (tb, .inl (g.2.1 1, 2000, .inl (aI T)))]) (st' := [.int (bI (noTouch so 4))]) (n1 := 0) (n2 := 0) [0, 1, 2] rfl rfl rfl rfl rfl ?_
            refine r_bif_eq C 149 d_Tokens_advance_141 (by decide) (fun c_141 => ?_) (fun c_141 => ?_)
            · skip
              refine r_vret C E d_Tokens_advance_149 (by first | decide | omega | (simp only [rmk]; omega)) (by first | decide | omega | (simp only [rmk]; omega)) ?_
              exact ⟨(4, run isBlk T k en, (run isBlk T k en) + 1, none, none), rfl, rfl, by first | exact (tokAt_t (tok0_sgn c_52 c_75 c_89 c_104) c_130 c_141).symm | exact (tokAt_f2 (tok0_sgn c_52 c_75 c_89 c_104) c_141).symm | exact (tokAt_f1 (tok0_sgn c_52 c_75 c_89 c_104) c_130).symm | exact (tokAt_t (tok0_bad c_52 c_75 c_89 c_104) c_130 c_141).symm | exact (tokAt_f2 (tok0_bad c_52 c_75 c_89 c_104) c_141).symm | exact (tokAt_f1 (tok0_bad c_52 c_75 c_89 c_104) c_130).symm⟩
            · skip
              refine r_aload_n C 3 d_Tokens_advance_144 rfl rfl ?_
              refine r_iconst C (nI 4) d_Tokens_advance_145 (by decide) ?_
              refine r_put C (ws' := [(a, .inr (2, [.ref t, .int (nI 4), .int (nI (run isBlk T k en)), .int (nI ((run isBlk T k en) + 1)), .int (-1), .null])), (t, .inr (1, [.ref tb, .int (nI k)])), (tb, .inl (g.2.1 1, 2000, .inl (aI T)))]) 0 1 d_Tokens_advance_146 ci_Tokens fi_Tokens_15 rfl (by decide) rfl rfl (rfl) (rfl) (by simp) rfl ?_
              refine r_vret C E d_Tokens_advance_149 (by first | decide | omega | (simp only [rmk]; omega)) (by first | decide | omega | (simp only [rmk]; omega)) ?_
              exact ⟨(4, run isBlk T k en, (run isBlk T k en) + 1, none, none), rfl, rfl, by first | exact (tokAt_t (tok0_sgn c_52 c_75 c_89 c_104) c_130 c_141).symm | exact (tokAt_f2 (tok0_sgn c_52 c_75 c_89 c_104) c_141).symm | exact (tokAt_f1 (tok0_sgn c_52 c_75 c_89 c_104) c_130).symm | exact (tokAt_t (tok0_bad c_52 c_75 c_89 c_104) c_130 c_141).symm | exact (tokAt_f2 (tok0_bad c_52 c_75 c_89 c_104) c_141).symm | exact (tokAt_f1 (tok0_bad c_52 c_75 c_89 c_104) c_130).symm⟩
        · skip
          refine r_iconst C (nI 3) d_Tokens_advance_107 (by decide) ?_
          refine r_goto C 112 d_Tokens_advance_108 (by decide) ?_
          refine r_put C (ws' := [(a, .inr (2, [.ref t, .int (nI 3), .int (nI (run isBlk T k en)), .int (nI en), .int (-1), .null])), (t, .inr (1, [.ref tb, .int (nI k)])), (tb, .inl (g.2.1 1, 2000, .inl (aI T)))]) 0 1 d_Tokens_advance_112 ci_Tokens fi_Tokens_15 rfl (by decide) rfl rfl (rfl) (rfl) (by simp) rfl ?_
          refine r_aload_n C 3 d_Tokens_advance_115 rfl rfl ?_
          refine r_aload_n C 3 d_Tokens_advance_116 rfl rfl ?_
          refine r_get C 0 2 d_Tokens_advance_117 ci_Tokens fi_Tokens_29 rfl (by decide) rfl rfl ?_
          refine r_iconst C (nI 1) d_Tokens_advance_120 (by decide) ?_
          refine r_nadd C d_Tokens_advance_121 ?_
          refine r_put C (ws' := [(a, .inr (2, [.ref t, .int (nI 3), .int (nI (run isBlk T k en)), .int (nI ((run isBlk T k en) + 1)), .int (-1), .null])), (t, .inr (1, [.ref tb, .int (nI k)])), (tb, .inl (g.2.1 1, 2000, .inl (aI T)))]) 0 3 d_Tokens_advance_122 ci_Tokens fi_Tokens_19 rfl (by decide) rfl rfl (rfl) (rfl) (by simp) rfl ?_
          refine r_aload_n C 3 d_Tokens_advance_125 rfl rfl ?_
          refine r_get C 0 2 d_Tokens_advance_126 ci_Tokens fi_Tokens_29 rfl (by decide) rfl rfl ?_
          refine r_iload_n C 1 d_Tokens_advance_129 rfl rfl ?_
          refine r_ncmp_ne C 149 d_Tokens_advance_130 (by decide) (by omega) (by omega) (fun c_130 => ?_) (fun c_130 => ?_)
          · skip
            refine r_vret C E d_Tokens_advance_149 (by first | decide | omega | (simp only [rmk]; omega)) (by first | decide | omega | (simp only [rmk]; omega)) ?_
            exact ⟨(3, run isBlk T k en, (run isBlk T k en) + 1, none, none), rfl, rfl, by first | exact (tokAt_t (tok0_sgn c_52 c_75 c_89 c_104) c_130 c_141).symm | exact (tokAt_f2 (tok0_sgn c_52 c_75 c_89 c_104) c_141).symm | exact (tokAt_f1 (tok0_sgn c_52 c_75 c_89 c_104) c_130).symm | exact (tokAt_t (tok0_bad c_52 c_75 c_89 c_104) c_130 c_141).symm | exact (tokAt_f2 (tok0_bad c_52 c_75 c_89 c_104) c_141).symm | exact (tokAt_f1 (tok0_bad c_52 c_75 c_89 c_104) c_130).symm⟩
          · skip
            refine r_iload_n C 2 d_Tokens_advance_133 rfl rfl ?_
            refine r_aload_n C 3 d_Tokens_advance_134 rfl rfl ?_
            refine r_get C 0 1 d_Tokens_advance_135 ci_Tokens fi_Tokens_15 rfl (by decide) rfl rfl ?_
            refine j_callS C (c_Tokens_mayNotTouch g (xl x) (c := so) (d := 3) (by first | assumption | rfl | omega) (by first | omega | (split <;> decide))) (Sp.of (wr := [(a, .inr (2, [.ref t, .int (nI 3), .int (nI (run isBlk T k en)), .int (nI ((run isBlk T k en) + 1)), .int (-1), .null])), (t, .inr (1, [.ref tb, .int (nI k)])), (tb, .inl (g.2.1 1, 2000, .inl (aI T)))]) [] [0, 1, 2] rfl rfl rfl rfl (by decide)) d_Tokens_advance_138 lk_Tokens_63 mw_Tokens_mayNotTouch st_Tokens_mayNotTouch (fit_of hR (by first | decide | (simp only [rmk]; omega)) (by first | decide | (simp only [rmk]; omega)) (by first | decide | (simp only [rmk]; omega)) (by first | decide | (simp only [rmk]; omega))) rfl (cat8 (Nat.le_of_ble_eq_true rfl)) (As := [.int (nI so), .int (nI 3)]) (rest := []) rfl (fun r_138 w_138 hp_138 => ?_)
            obtain ⟨rfl, rfl⟩ := hp_138
            refine r_after (ws' := [(a, .inr (2, [.ref t, .int (nI 3), .int (nI (run isBlk T k en)), .int (nI ((run isBlk T k en) + 1)), .int (-1), .null])), (t, .inr (1, [.ref tb, .int (nI k)])), (tb, .inl (g.2.1 1, 2000, .inl (aI T)))]) (st' := [.int (bI (noTouch so 3))]) (n1 := 0) (n2 := 0) [0, 1, 2] rfl rfl rfl rfl rfl ?_
            refine r_bif_eq C 149 d_Tokens_advance_141 (by decide) (fun c_141 => ?_) (fun c_141 => ?_)
            · skip
              refine r_vret C E d_Tokens_advance_149 (by first | decide | omega | (simp only [rmk]; omega)) (by first | decide | omega | (simp only [rmk]; omega)) ?_
              exact ⟨(3, run isBlk T k en, (run isBlk T k en) + 1, none, none), rfl, rfl, by first | exact (tokAt_t (tok0_sgn c_52 c_75 c_89 c_104) c_130 c_141).symm | exact (tokAt_f2 (tok0_sgn c_52 c_75 c_89 c_104) c_141).symm | exact (tokAt_f1 (tok0_sgn c_52 c_75 c_89 c_104) c_130).symm | exact (tokAt_t (tok0_bad c_52 c_75 c_89 c_104) c_130 c_141).symm | exact (tokAt_f2 (tok0_bad c_52 c_75 c_89 c_104) c_141).symm | exact (tokAt_f1 (tok0_bad c_52 c_75 c_89 c_104) c_130).symm⟩
            · skip
              refine r_aload_n C 3 d_Tokens_advance_144 rfl rfl ?_
              refine r_iconst C (nI 4) d_Tokens_advance_145 (by decide) ?_
              refine r_put C (ws' := [(a, .inr (2, [.ref t, .int (nI 4), .int (nI (run isBlk T k en)), .int (nI ((run isBlk T k en) + 1)), .int (-1), .null])), (t, .inr (1, [.ref tb, .int (nI k)])), (tb, .inl (g.2.1 1, 2000, .inl (aI T)))]) 0 1 d_Tokens_advance_146 ci_Tokens fi_Tokens_15 rfl (by decide) rfl rfl (rfl) (rfl) (by simp) rfl ?_
              refine r_vret C E d_Tokens_advance_149 (by first | decide | omega | (simp only [rmk]; omega)) (by first | decide | omega | (simp only [rmk]; omega)) ?_
              exact ⟨(4, run isBlk T k en, (run isBlk T k en) + 1, none, none), rfl, rfl, by first | exact (tokAt_t (tok0_sgn c_52 c_75 c_89 c_104) c_130 c_141).symm | exact (tokAt_f2 (tok0_sgn c_52 c_75 c_89 c_104) c_141).symm | exact (tokAt_f1 (tok0_sgn c_52 c_75 c_89 c_104) c_130).symm | exact (tokAt_t (tok0_bad c_52 c_75 c_89 c_104) c_130 c_141).symm | exact (tokAt_f2 (tok0_bad c_52 c_75 c_89 c_104) c_141).symm | exact (tokAt_f1 (tok0_bad c_52 c_75 c_89 c_104) c_130).symm⟩
      · skip
        refine r_aload_n C 3 d_Tokens_advance_92 rfl rfl ?_
        refine j_callV C (c_Tokens_scanNumber g (xl x) (a := a) (t := t) (tb := tb) (k := k) (so := so) (sta := run isBlk T k en) (en := en) (T := T) (v := none) (wd := none) (by first | assumption | rfl | omega) (by first | assumption | rfl | omega) (by first | assumption | rfl | omega)) (Sp.of (wr := []) [0, 1, 2] [] rfl rfl rfl rfl (by decide)) d_Tokens_advance_93 lk_Tokens_57 mw_Tokens_scanNumber vw_Tokens_scanNumber (q0 := 0) rfl rfl (fit_of hR (by first | decide | (simp only [rmk]; omega)) (by first | decide | (simp only [rmk]; omega)) (by first | decide | (simp only [rmk]; omega)) (by first | decide | (simp only [rmk]; omega))) rfl (cat8 (Nat.le_of_ble_eq_true rfl)) (As := []) (rest := []) rfl (fun r_93 w_93 hp_93 => ?_)
        obtain ⟨rfl, rfl⟩ := hp_93
        refine r_after (ws' := [(a, .inr (2, [.ref t, .int (nI (if 6 < run isDig T k (run isBlk T k en) - (run isBlk T k en) then 4 else 2)), .int (nI (run isBlk T k en)), .int (nI (run isDig T k (run isBlk T k en))), .int (oI (some (val T (run isBlk T k en) (min (run isDig T k (run isBlk T k en) - (run isBlk T k en)) 6)))), va_rf (wR g none)])), (t, .inr (1, [.ref tb, .int (nI k)])), (tb, .inl (g.2.1 1, 2000, .inl (aI T)))]) (st' := []) (n1 := 0) (n2 := 0) [0, 1, 2] rfl rfl rfl rfl rfl ?_
        refine r_goto C 125 d_Tokens_advance_96 (by decide) ?_
        refine r_aload_n C 3 d_Tokens_advance_125 rfl rfl ?_
        refine r_get C 0 2 d_Tokens_advance_126 ci_Tokens fi_Tokens_29 rfl (by decide) rfl rfl ?_
        refine r_iload_n C 1 d_Tokens_advance_129 rfl rfl ?_
        refine r_ncmp_ne C 149 d_Tokens_advance_130 (by decide) (by omega) (by omega) (fun c_130 => ?_) (fun c_130 => ?_)
        · skip
          refine r_vret C E d_Tokens_advance_149 (by first | decide | omega | (simp only [rmk]; omega)) (by first | decide | omega | (simp only [rmk]; omega)) ?_
          exact ⟨(if 6 < run isDig T k (run isBlk T k en) - (run isBlk T k en) then 4 else 2, (run isBlk T k en), run isDig T k (run isBlk T k en), some (val T (run isBlk T k en) (min (run isDig T k (run isBlk T k en) - (run isBlk T k en)) 6)), none), rfl, rfl, by first | exact (tokAt_t (tok0_num c_52 c_75 c_89) c_130 c_141).symm | exact (tokAt_f2 (tok0_num c_52 c_75 c_89) c_141).symm | exact (tokAt_f1 (tok0_num c_52 c_75 c_89) c_130).symm⟩
        · skip
          refine r_iload_n C 2 d_Tokens_advance_133 rfl rfl ?_
          refine r_aload_n C 3 d_Tokens_advance_134 rfl rfl ?_
          refine r_get C 0 1 d_Tokens_advance_135 ci_Tokens fi_Tokens_15 rfl (by decide) rfl rfl ?_
          refine j_callS C (c_Tokens_mayNotTouch g (xl x) (c := so) (d := if 6 < run isDig T k (run isBlk T k en) - (run isBlk T k en) then 4 else 2) (by first | assumption | rfl | omega) (by first | omega | (split <;> decide))) (Sp.of (wr := [(a, .inr (2, [.ref t, .int (nI (if 6 < run isDig T k (run isBlk T k en) - (run isBlk T k en) then 4 else 2)), .int (nI (run isBlk T k en)), .int (nI (run isDig T k (run isBlk T k en))), .int (oI (some (val T (run isBlk T k en) (min (run isDig T k (run isBlk T k en) - (run isBlk T k en)) 6)))), va_rf (wR g none)])), (t, .inr (1, [.ref tb, .int (nI k)])), (tb, .inl (g.2.1 1, 2000, .inl (aI T)))]) [] [0, 1, 2] rfl rfl rfl rfl (by decide)) d_Tokens_advance_138 lk_Tokens_63 mw_Tokens_mayNotTouch st_Tokens_mayNotTouch (fit_of hR (by first | decide | (simp only [rmk]; omega)) (by first | decide | (simp only [rmk]; omega)) (by first | decide | (simp only [rmk]; omega)) (by first | decide | (simp only [rmk]; omega))) rfl (cat8 (Nat.le_of_ble_eq_true rfl)) (As := [.int (nI so), .int (nI (if 6 < run isDig T k (run isBlk T k en) - (run isBlk T k en) then 4 else 2))]) (rest := []) rfl (fun r_138 w_138 hp_138 => ?_)
          obtain ⟨rfl, rfl⟩ := hp_138
          refine r_after (ws' := [(a, .inr (2, [.ref t, .int (nI (if 6 < run isDig T k (run isBlk T k en) - (run isBlk T k en) then 4 else 2)), .int (nI (run isBlk T k en)), .int (nI (run isDig T k (run isBlk T k en))), .int (oI (some (val T (run isBlk T k en) (min (run isDig T k (run isBlk T k en) - (run isBlk T k en)) 6)))), va_rf (wR g none)])), (t, .inr (1, [.ref tb, .int (nI k)])), (tb, .inl (g.2.1 1, 2000, .inl (aI T)))]) (st' := [.int (bI (noTouch so (if 6 < run isDig T k (run isBlk T k en) - (run isBlk T k en) then 4 else 2)))]) (n1 := 0) (n2 := 0) [0, 1, 2] rfl rfl rfl rfl rfl ?_
          refine r_bif_eq C 149 d_Tokens_advance_141 (by decide) (fun c_141 => ?_) (fun c_141 => ?_)
          · skip
            refine r_vret C E d_Tokens_advance_149 (by first | decide | omega | (simp only [rmk]; omega)) (by first | decide | omega | (simp only [rmk]; omega)) ?_
            exact ⟨(if 6 < run isDig T k (run isBlk T k en) - (run isBlk T k en) then 4 else 2, (run isBlk T k en), run isDig T k (run isBlk T k en), some (val T (run isBlk T k en) (min (run isDig T k (run isBlk T k en) - (run isBlk T k en)) 6)), none), rfl, rfl, by first | exact (tokAt_t (tok0_num c_52 c_75 c_89) c_130 c_141).symm | exact (tokAt_f2 (tok0_num c_52 c_75 c_89) c_141).symm | exact (tokAt_f1 (tok0_num c_52 c_75 c_89) c_130).symm⟩
          · skip
            refine r_aload_n C 3 d_Tokens_advance_144 rfl rfl ?_
            refine r_iconst C (nI 4) d_Tokens_advance_145 (by decide) ?_
            refine r_put C (ws' := [(a, .inr (2, [.ref t, .int (nI 4), .int (nI (run isBlk T k en)), .int (nI (run isDig T k (run isBlk T k en))), .int (oI (some (val T (run isBlk T k en) (min (run isDig T k (run isBlk T k en) - (run isBlk T k en)) 6)))), va_rf (wR g none)])), (t, .inr (1, [.ref tb, .int (nI k)])), (tb, .inl (g.2.1 1, 2000, .inl (aI T)))]) 0 1 d_Tokens_advance_146 ci_Tokens fi_Tokens_15 rfl (by decide) rfl rfl (rfl) (rfl) (by simp) rfl ?_
            refine r_vret C E d_Tokens_advance_149 (by first | decide | omega | (simp only [rmk]; omega)) (by first | decide | omega | (simp only [rmk]; omega)) ?_
            exact ⟨(4, (run isBlk T k en), run isDig T k (run isBlk T k en), some (val T (run isBlk T k en) (min (run isDig T k (run isBlk T k en) - (run isBlk T k en)) 6)), none), rfl, rfl, by first | exact (tokAt_t (tok0_num c_52 c_75 c_89) c_130 c_141).symm | exact (tokAt_f2 (tok0_num c_52 c_75 c_89) c_141).symm | exact (tokAt_f1 (tok0_num c_52 c_75 c_89) c_130).symm⟩
    · skip
      refine r_aload_n C 3 d_Tokens_advance_78 rfl rfl ?_
      refine j_callV C (c_Tokens_scanWord g (xl x) (a := a) (t := t) (tb := tb) (k := k) (so := so) (sta := run isBlk T k en) (en := en) (T := T) (v := none) (wd := none) (by first | assumption | rfl | omega) (by first | assumption | rfl | omega) (by first | assumption | rfl | omega)) (Sp.of (wr := []) [0, 1, 2] [] rfl rfl rfl rfl (by decide)) d_Tokens_advance_79 lk_Tokens_51 mw_Tokens_scanWord vw_Tokens_scanWord (q0 := 0) rfl rfl (fit_of hR (by first | decide | (simp only [rmk]; omega)) (by first | decide | (simp only [rmk]; omega)) (by first | decide | (simp only [rmk]; omega)) (by first | decide | (simp only [rmk]; omega))) rfl (cat8 (Nat.le_of_ble_eq_true rfl)) (As := []) (rest := []) rfl (fun r_79 w_79 hp_79 => ?_)
      obtain ⟨rfl, rfl⟩ := hp_79
      refine r_after (ws' := [(a, .inr (2, [.ref t, .int (nI 1), .int (nI (run isBlk T k en)), .int (nI (run isLet T k (run isBlk T k en))), .int (oI none), va_rf (wR g (wordAt T (run isBlk T k en) (run isLet T k (run isBlk T k en))))])), (t, .inr (1, [.ref tb, .int (nI k)])), (tb, .inl (g.2.1 1, 2000, .inl (aI T)))]) (st' := []) (n1 := 0) (n2 := 0) [0, 1, 2] rfl rfl rfl rfl rfl ?_
      refine r_goto C 125 d_Tokens_advance_82 (by decide) ?_
      refine r_aload_n C 3 d_Tokens_advance_125 rfl rfl ?_
      refine r_get C 0 2 d_Tokens_advance_126 ci_Tokens fi_Tokens_29 rfl (by decide) rfl rfl ?_
      refine r_iload_n C 1 d_Tokens_advance_129 rfl rfl ?_
      refine r_ncmp_ne C 149 d_Tokens_advance_130 (by decide) (by omega) (by omega) (fun c_130 => ?_) (fun c_130 => ?_)
      · skip
        refine r_vret C E d_Tokens_advance_149 (by first | decide | omega | (simp only [rmk]; omega)) (by first | decide | omega | (simp only [rmk]; omega)) ?_
        exact ⟨(1, (run isBlk T k en), run isLet T k (run isBlk T k en), none, (wordAt T (run isBlk T k en) (run isLet T k (run isBlk T k en)))), rfl, rfl, by first | exact (tokAt_t (tok0_word c_52 c_75) c_130 c_141).symm | exact (tokAt_f2 (tok0_word c_52 c_75) c_141).symm | exact (tokAt_f1 (tok0_word c_52 c_75) c_130).symm⟩
      · skip
        refine r_iload_n C 2 d_Tokens_advance_133 rfl rfl ?_
        refine r_aload_n C 3 d_Tokens_advance_134 rfl rfl ?_
        refine r_get C 0 1 d_Tokens_advance_135 ci_Tokens fi_Tokens_15 rfl (by decide) rfl rfl ?_
        refine j_callS C (c_Tokens_mayNotTouch g (xl x) (c := so) (d := 1) (by first | assumption | rfl | omega) (by first | omega | (split <;> decide))) (Sp.of (wr := [(a, .inr (2, [.ref t, .int (nI 1), .int (nI (run isBlk T k en)), .int (nI (run isLet T k (run isBlk T k en))), .int (oI none), va_rf (wR g (wordAt T (run isBlk T k en) (run isLet T k (run isBlk T k en))))])), (t, .inr (1, [.ref tb, .int (nI k)])), (tb, .inl (g.2.1 1, 2000, .inl (aI T)))]) [] [0, 1, 2] rfl rfl rfl rfl (by decide)) d_Tokens_advance_138 lk_Tokens_63 mw_Tokens_mayNotTouch st_Tokens_mayNotTouch (fit_of hR (by first | decide | (simp only [rmk]; omega)) (by first | decide | (simp only [rmk]; omega)) (by first | decide | (simp only [rmk]; omega)) (by first | decide | (simp only [rmk]; omega))) rfl (cat8 (Nat.le_of_ble_eq_true rfl)) (As := [.int (nI so), .int (nI 1)]) (rest := []) rfl (fun r_138 w_138 hp_138 => ?_)
        obtain ⟨rfl, rfl⟩ := hp_138
        refine r_after (ws' := [(a, .inr (2, [.ref t, .int (nI 1), .int (nI (run isBlk T k en)), .int (nI (run isLet T k (run isBlk T k en))), .int (oI none), va_rf (wR g (wordAt T (run isBlk T k en) (run isLet T k (run isBlk T k en))))])), (t, .inr (1, [.ref tb, .int (nI k)])), (tb, .inl (g.2.1 1, 2000, .inl (aI T)))]) (st' := [.int (bI (noTouch so 1))]) (n1 := 0) (n2 := 0) [0, 1, 2] rfl rfl rfl rfl rfl ?_
        refine r_bif_eq C 149 d_Tokens_advance_141 (by decide) (fun c_141 => ?_) (fun c_141 => ?_)
        · skip
          refine r_vret C E d_Tokens_advance_149 (by first | decide | omega | (simp only [rmk]; omega)) (by first | decide | omega | (simp only [rmk]; omega)) ?_
          exact ⟨(1, (run isBlk T k en), run isLet T k (run isBlk T k en), none, (wordAt T (run isBlk T k en) (run isLet T k (run isBlk T k en)))), rfl, rfl, by first | exact (tokAt_t (tok0_word c_52 c_75) c_130 c_141).symm | exact (tokAt_f2 (tok0_word c_52 c_75) c_141).symm | exact (tokAt_f1 (tok0_word c_52 c_75) c_130).symm⟩
        · skip
          refine r_aload_n C 3 d_Tokens_advance_144 rfl rfl ?_
          refine r_iconst C (nI 4) d_Tokens_advance_145 (by decide) ?_
          refine r_put C (ws' := [(a, .inr (2, [.ref t, .int (nI 4), .int (nI (run isBlk T k en)), .int (nI (run isLet T k (run isBlk T k en))), .int (oI none), va_rf (wR g (wordAt T (run isBlk T k en) (run isLet T k (run isBlk T k en))))])), (t, .inr (1, [.ref tb, .int (nI k)])), (tb, .inl (g.2.1 1, 2000, .inl (aI T)))]) 0 1 d_Tokens_advance_146 ci_Tokens fi_Tokens_15 rfl (by decide) rfl rfl (rfl) (rfl) (by simp) rfl ?_
          refine r_vret C E d_Tokens_advance_149 (by first | decide | omega | (simp only [rmk]; omega)) (by first | decide | omega | (simp only [rmk]; omega)) ?_
          exact ⟨(4, (run isBlk T k en), run isLet T k (run isBlk T k en), none, (wordAt T (run isBlk T k en) (run isLet T k (run isBlk T k en)))), rfl, rfl, by first | exact (tokAt_t (tok0_word c_52 c_75) c_130 c_141).symm | exact (tokAt_f2 (tok0_word c_52 c_75) c_141).symm | exact (tokAt_f1 (tok0_word c_52 c_75) c_130).symm⟩
  · skip
    refine r_aload_n C 3 d_Tokens_advance_55 rfl rfl ?_
    refine r_iconst C (nI 0) d_Tokens_advance_56 (by decide) ?_
    refine r_put C (ws' := [(a, .inr (2, [.ref t, .int (nI 0), .int (nI (run isBlk T k en)), .int (nI en), .int (-1), .null])), (t, .inr (1, [.ref tb, .int (nI k)])), (tb, .inl (g.2.1 1, 2000, .inl (aI T)))]) 0 1 d_Tokens_advance_57 ci_Tokens fi_Tokens_15 rfl (by decide) rfl rfl (rfl) (rfl) (by simp) rfl ?_
    refine r_aload_n C 3 d_Tokens_advance_60 rfl rfl ?_
    refine r_aload_n C 3 d_Tokens_advance_61 rfl rfl ?_
    refine r_get C 0 2 d_Tokens_advance_62 ci_Tokens fi_Tokens_29 rfl (by decide) rfl rfl ?_
    refine r_put C (ws' := [(a, .inr (2, [.ref t, .int (nI 0), .int (nI (run isBlk T k en)), .int (nI (run isBlk T k en)), .int (-1), .null])), (t, .inr (1, [.ref tb, .int (nI k)])), (tb, .inl (g.2.1 1, 2000, .inl (aI T)))]) 0 3 d_Tokens_advance_65 ci_Tokens fi_Tokens_19 rfl (by decide) rfl rfl (rfl) (rfl) (by simp) rfl ?_
    refine r_goto C 125 d_Tokens_advance_68 (by decide) ?_
    refine r_aload_n C 3 d_Tokens_advance_125 rfl rfl ?_
    refine r_get C 0 2 d_Tokens_advance_126 ci_Tokens fi_Tokens_29 rfl (by decide) rfl rfl ?_
    refine r_iload_n C 1 d_Tokens_advance_129 rfl rfl ?_
    refine r_ncmp_ne C 149 d_Tokens_advance_130 (by decide) (by omega) (by omega) (fun c_130 => ?_) (fun c_130 => ?_)
    · skip
      refine r_vret C E d_Tokens_advance_149 (by first | decide | omega | (simp only [rmk]; omega)) (by first | decide | omega | (simp only [rmk]; omega)) ?_
      exact ⟨(0, run isBlk T k en, run isBlk T k en, none, none), rfl, rfl, by first | exact (tokAt_t (tok0_end c_52) c_130 c_141).symm | exact (tokAt_f2 (tok0_end c_52) c_141).symm | exact (tokAt_f1 (tok0_end c_52) c_130).symm⟩
    · skip
      refine r_iload_n C 2 d_Tokens_advance_133 rfl rfl ?_
      refine r_aload_n C 3 d_Tokens_advance_134 rfl rfl ?_
      refine r_get C 0 1 d_Tokens_advance_135 ci_Tokens fi_Tokens_15 rfl (by decide) rfl rfl ?_
      refine j_callS C (c_Tokens_mayNotTouch g (xl x) (c := so) (d := 0) (by first | assumption | rfl | omega) (by first | omega | (split <;> decide))) (Sp.of (wr := [(a, .inr (2, [.ref t, .int (nI 0), .int (nI (run isBlk T k en)), .int (nI (run isBlk T k en)), .int (-1), .null])), (t, .inr (1, [.ref tb, .int (nI k)])), (tb, .inl (g.2.1 1, 2000, .inl (aI T)))]) [] [0, 1, 2] rfl rfl rfl rfl (by decide)) d_Tokens_advance_138 lk_Tokens_63 mw_Tokens_mayNotTouch st_Tokens_mayNotTouch (fit_of hR (by first | decide | (simp only [rmk]; omega)) (by first | decide | (simp only [rmk]; omega)) (by first | decide | (simp only [rmk]; omega)) (by first | decide | (simp only [rmk]; omega))) rfl (cat8 (Nat.le_of_ble_eq_true rfl)) (As := [.int (nI so), .int (nI 0)]) (rest := []) rfl (fun r_138 w_138 hp_138 => ?_)
      obtain ⟨rfl, rfl⟩ := hp_138
      refine r_after (ws' := [(a, .inr (2, [.ref t, .int (nI 0), .int (nI (run isBlk T k en)), .int (nI (run isBlk T k en)), .int (-1), .null])), (t, .inr (1, [.ref tb, .int (nI k)])), (tb, .inl (g.2.1 1, 2000, .inl (aI T)))]) (st' := [.int (bI (noTouch so 0))]) (n1 := 0) (n2 := 0) [0, 1, 2] rfl rfl rfl rfl rfl ?_
      refine r_bif_eq C 149 d_Tokens_advance_141 (by decide) (fun c_141 => ?_) (fun c_141 => ?_)
      · skip
        refine r_vret C E d_Tokens_advance_149 (by first | decide | omega | (simp only [rmk]; omega)) (by first | decide | omega | (simp only [rmk]; omega)) ?_
        exact ⟨(0, run isBlk T k en, run isBlk T k en, none, none), rfl, rfl, by first | exact (tokAt_t (tok0_end c_52) c_130 c_141).symm | exact (tokAt_f2 (tok0_end c_52) c_141).symm | exact (tokAt_f1 (tok0_end c_52) c_130).symm⟩
      · skip
        refine r_aload_n C 3 d_Tokens_advance_144 rfl rfl ?_
        refine r_iconst C (nI 4) d_Tokens_advance_145 (by decide) ?_
        refine r_put C (ws' := [(a, .inr (2, [.ref t, .int (nI 4), .int (nI (run isBlk T k en)), .int (nI (run isBlk T k en)), .int (-1), .null])), (t, .inr (1, [.ref tb, .int (nI k)])), (tb, .inl (g.2.1 1, 2000, .inl (aI T)))]) 0 1 d_Tokens_advance_146 ci_Tokens fi_Tokens_15 rfl (by decide) rfl rfl (rfl) (rfl) (by simp) rfl ?_
        refine r_vret C E d_Tokens_advance_149 (by first | decide | omega | (simp only [rmk]; omega)) (by first | decide | omega | (simp only [rmk]; omega)) ?_
        exact ⟨(4, run isBlk T k en, run isBlk T k en, none, none), rfl, rfl, by first | exact (tokAt_t (tok0_end c_52) c_130 c_141).symm | exact (tokAt_f2 (tok0_end c_52) c_141).symm | exact (tokAt_f1 (tok0_end c_52) c_130).symm⟩
