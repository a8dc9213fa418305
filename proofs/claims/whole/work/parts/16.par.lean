abbrev TO : Type := Tok × List Nat
/-- what holds of every token -/
def TokOK (k : Nat) (x : Tok) : Prop := x.2.1 ≤ x.2.2.1 ∧ x.2.2.1 ≤ k ∧ (x.1 ≠ 0 → x.2.1 < x.2.2.1) ∧ x.1 ≤ 4 ∧ (x.1 = 2 → ∃ z, x.2.2.2.1 = some z) ∧ (∀ z, x.2.2.2.1 = some z → z < 2 ^ 31) ∧ (∀ w, x.2.2.2.2 = some w → w < 23)
theorem TokOK.so {k so sta en : Nat} {v wd : Option Nat} (h : TokOK k (so, sta, en, v, wd)) : so < 2 ^ 31 := by have := h.2.2.2.1; simp only [] at this; omega
theorem TokOK.sta {k so sta en : Nat} {v wd : Option Nat} (h : TokOK k (so, sta, en, v, wd)) (hk : k ≤ 2000) : sta < 2 ^ 31 := by obtain ⟨h1, h2, -⟩ := h; simp only [] at h1 h2; omega
theorem TokOK.sign {k so sta en : Nat} {v wd : Option Nat} (h : TokOK k (so, sta, en, v, wd)) : so = 3 → sta < k := by obtain ⟨h1, h2, h3, -⟩ := h; simp only [] at h1 h2 h3; intro e; have := h3 (by omega); omega
theorem TokOK.num {k so sta en : Nat} {v wd : Option Nat} (h : TokOK k (so, sta, en, v, wd)) (e : so = 2) : ∃ z, v = some z := h.2.2.2.2.1 e
theorem TokOK.val {k so sta en : Nat} {v wd : Option Nat} (h : TokOK k (so, sta, en, v, wd)) : ∀ z, v = some z → z < 2 ^ 31 := h.2.2.2.2.2.1
theorem TokOK.word {k so sta en : Nat} {v wd : Option Nat} (h : TokOK k (so, sta, en, v, wd)) : ∀ w, wd = some w → w < 23 := h.2.2.2.2.2.2
theorem fw_lt {p : Nat → Bool} : ∀ (f j w : Nat), fw p f j = some w → w < j + f := by
  intro f
  induction f with
  | zero => intro j w h; cases h
  | succ f ih =>
    intro j w h
    rw [fw] at h
    split at h
    · cases h; omega
    · have := ih (j + 1) w h; omega
theorem tok0_ok {T : Nat → Nat} {k s : Nat} (hT : ∀ j, T j < 256) (hs : s ≤ k) : TokOK k (tok0 T k s) := by
  by_cases h : k ≤ s
  · rw [tok0_end h]
    exact ⟨Nat.le_refl _, hs, fun e => absurd rfl e, Nat.le_of_ble_eq_true rfl, (fun e => by cases e), (fun _ e => by cases e), (fun _ e => by cases e)⟩
  · have hk : s < k := by omega
    cases h1 : isLet (T s) with
    | true =>
      rw [tok0_word hk h1]
      have r1 := run_in (p := isLet) (T := T) (k := k) _ s rfl hs
      have r2 := run_in (p := isLet) (T := T) (k := k) _ (s + 1) rfl (by omega)
      have r3 := run_go hk h1
      refine ⟨r1.1, r1.2, fun _ => ?_, Nat.le_of_ble_eq_true rfl, (fun e => by cases e), (fun _ e => by cases e), fun w e => ?_⟩
      · show s < run isLet T k s
        rw [r3]; omega
      · have := fw_lt _ _ _ e
        omega
    | false =>
      cases h2 : isDig (T s) with
      | true =>
        rw [tok0_num hk h1 h2]
        have r1 := run_in (p := isDig) (T := T) (k := k) _ s rfl hs
        have r2 := run_in (p := isDig) (T := T) (k := k) _ (s + 1) rfl (by omega)
        have r3 := run_go hk h2
        refine ⟨r1.1, r1.2, fun _ => ?_, ?_, fun _ => ⟨_, rfl⟩, fun z e => ?_, (fun _ e => by cases e)⟩
        · show s < run isDig T k s
          rw [r3]; omega
        · show (if 6 < run isDig T k s - s then 4 else 2) ≤ 4
          split <;> decide
        · cases e
          exact val_lt hT _ (by omega)
      | false =>
        cases h3 : isSgn (T s) with
        | true =>
          rw [tok0_sgn hk h1 h2 h3]
          exact ⟨by show s ≤ s + 1; omega, by show s + 1 ≤ k; omega, fun _ => by show s < s + 1; omega, Nat.le_of_ble_eq_true rfl, (fun e => by cases e), (fun _ e => by cases e), (fun _ e => by cases e)⟩
        | false =>
          rw [tok0_bad hk h1 h2 h3]
          exact ⟨by show s ≤ s + 1; omega, by show s + 1 ≤ k; omega, fun _ => by show s < s + 1; omega, Nat.le_of_ble_eq_true rfl, (fun e => by cases e), (fun _ e => by cases e), (fun _ e => by cases e)⟩
theorem tok0_sta (T : Nat → Nat) (k s : Nat) : (tok0 T k s).2.1 = s := by
  unfold tok0
  split
  · rfl
  · split
    · rfl
    · split <;> rfl
theorem noTouch_0 (so : Nat) : noTouch so 0 = false := by simp [noTouch]
theorem tokAt_ok {T : Nat → Nat} {k so e : Nat} (hT : ∀ j, T j < 256) (he : e ≤ k) : TokOK k (tokAt T k so e) := by
  have r1 := run_in (p := isBlk) (T := T) (k := k) _ e rfl he
  have h := tok0_ok (T := T) hT r1.2
  unfold tokAt
  split
  · rename_i q
    obtain ⟨h1, h2, h3, h4, h5, h6, h7⟩ := h
    have hn : (tok0 T k (run isBlk T k e)).1 ≠ 0 := fun z => by rw [z, noTouch_0] at q; cases q.2
    exact ⟨h1, h2, fun _ => h3 hn, Nat.le_of_ble_eq_true rfl, (fun e => by cases e), h6, h7⟩
  · exact h
theorem tokAt_sta {T : Nat → Nat} {k so e : Nat} : (tokAt T k so e).2.1 = run isBlk T k e := by
  unfold tokAt
  split <;> exact tok0_sta _ _ _
def tTake (T : Nat → Nat) (k : Nat) (x : TO) : TO := (tokAt T k x.1.1 x.1.2.2.1, prt T x.1.2.1 x.1.2.2.1 x.2)
theorem take_cap {T : Nat → Nat} {k so sta en : Nat} {out : List Nat} (he : en ≤ k) (h : sta < en) (hc : out.length ≤ 2 * sta) : (prt T sta en out).length ≤ 2 * (tokAt T k so en).2.1 := by
  rw [tokAt_sta]
  have r1 := run_in (p := isBlk) (T := T) (k := k) _ en rfl he
  have : (prt T sta en out).length ≤ out.length + 1 + (en - sta) := by
    unfold prt
    split <;> simp <;> omega
  omega
def pNum (T : Nat → Nat) (k lo hi : Nat) (x : TO) : Option Nat × TO := match x.1.2.2.2.1 with
  | none => (none, x)
  | some z => if x.1.1 = 2 ∧ lo ≤ z ∧ z ≤ hi then (some z, tTake T k x) else (none, x)
theorem pNum_sort {T : Nat → Nat} {k lo hi so sta en : Nat} {v wd : Option Nat} {out : List Nat} (h : so ≠ 2) : pNum T k lo hi ((so, sta, en, v, wd), out) = (none, (so, sta, en, v, wd), out) := by
  cases v with
  | none => rfl
  | some z => exact if_neg (fun q => h q.1)
theorem pNum_no {T : Nat → Nat} {k lo hi so sta en z : Nat} {wd : Option Nat} {out : List Nat} (h : ¬ (lo ≤ z ∧ z ≤ hi)) : pNum T k lo hi ((so, sta, en, some z, wd), out) = (none, (so, sta, en, some z, wd), out) := if_neg (fun q => h q.2)
theorem pNum_yes {T : Nat → Nat} {k lo hi so sta en z : Nat} {wd : Option Nat} {out : List Nat} (h : so = 2) (h1 : lo ≤ z) (h2 : z ≤ hi) : pNum T k lo hi ((so, sta, en, some z, wd), out) = (some z, tTake T k ((so, sta, en, some z, wd), out)) := if_pos ⟨h, h1, h2⟩
/-- which comparison stands there: 0 =, 1 <, 2 > -/
def cmpN (T : Nat → Nat) (x : Tok) : Option Nat := if isSg T x.1 x.2.1 61 = true then some 0 else if isSg T x.1 x.2.1 60 = true then some 1 else if isSg T x.1 x.2.1 62 = true then some 2 else none
theorem cmpN_0 {T : Nat → Nat} {so sta en : Nat} {v wd : Option Nat} (h : isSg T so sta 61 = true) : cmpN T (so, sta, en, v, wd) = some 0 := if_pos h
theorem cmpN_1 {T : Nat → Nat} {so sta en : Nat} {v wd : Option Nat} (h : isSg T so sta 61 = false) (h1 : isSg T so sta 60 = true) : cmpN T (so, sta, en, v, wd) = some 1 := by simp [cmpN, h, h1]
theorem cmpN_2 {T : Nat → Nat} {so sta en : Nat} {v wd : Option Nat} (h : isSg T so sta 61 = false) (h1 : isSg T so sta 60 = false) (h2 : isSg T so sta 62 = true) : cmpN T (so, sta, en, v, wd) = some 2 := by simp [cmpN, h, h1, h2]
theorem cmpN_n {T : Nat → Nat} {so sta en : Nat} {v wd : Option Nat} (h : isSg T so sta 61 = false) (h1 : isSg T so sta 60 = false) (h2 : isSg T so sta 62 = false) : cmpN T (so, sta, en, v, wd) = none := by simp [cmpN, h, h1, h2]

set_option maxRecDepth 100000 in
theorem ci_Parser : CI 6 R_Parser F_Parser 3 t_Parser := ⟨rfl, ui 3 (by decide +kernel), by decide +kernel, by decide +kernel⟩
set_option maxRecDepth 100000 in
theorem cl_Parser_19 : Cond.classLink R_Parser 19 R_Tokens ∈ GW := (gw (i := 160) rfl rfl)
set_option maxRecDepth 100000 in
theorem fi_Parser_15 : FI R_Parser 15 R_Parser F_Parser 1 := Or.inl (gw (i := 191) rfl rfl)
set_option maxRecDepth 100000 in
theorem fi_Parser_153 : FI R_Parser 153 R_Tokens F_Tokens 4 := Or.inr ⟨"RuleReader", (nw (i := 174) rfl rfl)⟩
set_option maxRecDepth 100000 in
theorem fi_Parser_24 : FI R_Parser 24 R_Parser F_Parser 2 := Or.inl (gw (i := 192) rfl rfl)
set_option maxRecDepth 100000 in
theorem fi_Parser_35 : FI R_Parser 35 R_Tokens F_Tokens 1 := Or.inr ⟨"RuleReader", (nw (i := 168) rfl rfl)⟩
set_option maxRecDepth 100000 in
theorem fi_Parser_39 : FI R_Parser 39 R_Tokens F_Tokens 2 := Or.inr ⟨"RuleReader", (nw (i := 169) rfl rfl)⟩
set_option maxRecDepth 100000 in
theorem fi_Parser_42 : FI R_Parser 42 R_Tokens F_Tokens 3 := Or.inr ⟨"RuleReader", (nw (i := 172) rfl rfl)⟩
set_option maxRecDepth 100000 in
theorem fi_Parser_9 : FI R_Parser 9 R_Parser F_Parser 0 := Or.inl (gw (i := 190) rfl rfl)
set_option maxRecDepth 100000 in
theorem fl_Parser_15 : Cond.fieldLink R_Parser 15 R_Parser (F_Parser 1).2.1 (F_Parser 1).2.2.1 ∈ GW := (gw (i := 191) rfl rfl)
set_option maxRecDepth 100000 in
theorem fl_Parser_24 : Cond.fieldLink R_Parser 24 R_Parser (F_Parser 2).2.1 (F_Parser 2).2.2.1 ∈ GW := (gw (i := 192) rfl rfl)
set_option maxRecDepth 100000 in
theorem fl_Parser_9 : Cond.fieldLink R_Parser 9 R_Parser (F_Parser 0).2.1 (F_Parser 0).2.2.1 ∈ GW := (gw (i := 190) rfl rfl)
set_option maxRecDepth 100000 in
theorem im_Tokens_init : Cond.instanceMethod y_Tokens_init ∈ GW := (gw (i := 163) rfl rfl)
set_option maxRecDepth 100000 in
theorem in_Tokens : Cond.instantiable R_Tokens 6 ∈ GW := (gw (i := 161) rfl rfl)
set_option maxRecDepth 100000 in
theorem iz_Tokens : Cond.initialized R_Tokens ∈ GW := (gw (i := 77) rfl rfl)
set_option maxRecDepth 100000 in
theorem lk_Parser_21 : LK R_Parser 21 y_Tokens_init := Or.inl (gw (i := 162) rfl rfl)
set_option maxRecDepth 100000 in
theorem lk_Parser_45 : LK R_Parser 45 y_Book_print := Or.inl (gw (i := 466) rfl rfl)
set_option maxRecDepth 100000 in
theorem lk_Parser_51 : LK R_Parser 51 y_Tokens_advance := Or.inl (gw (i := 475) rfl rfl)
set_option maxRecDepth 100000 in
theorem lk_Parser_54 : LK R_Parser 54 y_Tokens_isTheSign := Or.inl (gw (i := 409) rfl rfl)
set_option maxRecDepth 100000 in
theorem lk_Parser_61 : LK R_Parser 61 y_Parser_take := Or.inl (gw (i := 462) rfl rfl)
set_option maxRecDepth 100000 in
theorem ml_Parser_3 : Cond.methodLink R_Parser 3 objectInit ∈ GW := (gw (i := 159) rfl rfl)
set_option maxRecDepth 100000 in
theorem mw_Book_print : MW y_Book_print b_Book_print 5 none 3 := ⟨(gw (i := 469) rfl rfl), (gw (i := 75) rfl rfl), by decide +kernel⟩
set_option maxRecDepth 100000 in
theorem mw_Parser_take : MW y_Parser_take b_Parser_take 1 none 0 := ⟨(gw (i := 465) rfl rfl), (gw (i := 76) rfl rfl), by decide +kernel⟩
set_option maxRecDepth 100000 in
theorem mw_Tokens_init : MW y_Tokens_init b_Tokens_init 2 none 1 := ⟨(gw (i := 164) rfl rfl), (gw (i := 77) rfl rfl), by decide +kernel⟩
set_option maxRecDepth 100000 in
theorem mw_Tokens_isTheSign : MW y_Tokens_isTheSign b_Tokens_isTheSign 2 (some .boolean) 1 := ⟨(gw (i := 412) rfl rfl), (gw (i := 77) rfl rfl), by decide +kernel⟩
set_option maxRecDepth 100000 in
theorem vw_Book_print : VW y_Book_print := ⟨(gw (i := 467) rfl rfl), (gw (i := 468) rfl rfl)⟩
set_option maxRecDepth 100000 in
theorem vw_Parser_take : VW y_Parser_take := ⟨(gw (i := 464) rfl rfl), (gw (i := 7) rfl rfl)⟩
set_option maxRecDepth 100000 in
theorem vw_Tokens_isTheSign : VW y_Tokens_isTheSign := ⟨(gw (i := 410) rfl rfl), (gw (i := 411) rfl rfl)⟩
theorem d_Parser_init_0 : decode b_Parser_init 0 = .ok (.aload_n 0, 1) := by decide +kernel
theorem d_Parser_init_1 : decode b_Parser_init 1 = .ok (.invokespecial 3, 3) := by decide +kernel
theorem d_Parser_init_4 : decode b_Parser_init 4 = .ok (.aload_n 0, 1) := by decide +kernel
theorem d_Parser_init_5 : decode b_Parser_init 5 = .ok (.aload_n 1, 1) := by decide +kernel
theorem d_Parser_init_6 : decode b_Parser_init 6 = .ok (.putfield 9, 3) := by decide +kernel
theorem d_Parser_init_9 : decode b_Parser_init 9 = .ok (.aload_n 0, 1) := by decide +kernel
theorem d_Parser_init_10 : decode b_Parser_init 10 = .ok (.aload_n 2, 1) := by decide +kernel
theorem d_Parser_init_11 : decode b_Parser_init 11 = .ok (.putfield 15, 3) := by decide +kernel
theorem d_Parser_init_14 : decode b_Parser_init 14 = .ok (.aload_n 0, 1) := by decide +kernel
theorem d_Parser_init_15 : decode b_Parser_init 15 = .ok (.new 19, 3) := by decide +kernel
theorem d_Parser_init_18 : decode b_Parser_init 18 = .ok (.dup, 1) := by decide +kernel
theorem d_Parser_init_19 : decode b_Parser_init 19 = .ok (.aload_n 1, 1) := by decide +kernel
theorem d_Parser_init_20 : decode b_Parser_init 20 = .ok (.invokespecial 21, 3) := by decide +kernel
theorem d_Parser_init_23 : decode b_Parser_init 23 = .ok (.putfield 24, 3) := by decide +kernel
theorem d_Parser_init_26 : decode b_Parser_init 26 = .ok (.return_, 1) := by decide +kernel
theorem d_Parser_take_0 : decode b_Parser_take 0 = .ok (.aload_n 0, 1) := by decide +kernel
theorem d_Parser_take_1 : decode b_Parser_take 1 = .ok (.getfield 15, 3) := by decide +kernel
theorem d_Parser_take_4 : decode b_Parser_take 4 = .ok (.aload_n 0, 1) := by decide +kernel
theorem d_Parser_take_5 : decode b_Parser_take 5 = .ok (.getfield 9, 3) := by decide +kernel
theorem d_Parser_take_8 : decode b_Parser_take 8 = .ok (.aload_n 0, 1) := by decide +kernel
theorem d_Parser_take_9 : decode b_Parser_take 9 = .ok (.getfield 24, 3) := by decide +kernel
theorem d_Parser_take_12 : decode b_Parser_take 12 = .ok (.getfield 39, 3) := by decide +kernel
theorem d_Parser_take_15 : decode b_Parser_take 15 = .ok (.aload_n 0, 1) := by decide +kernel
theorem d_Parser_take_16 : decode b_Parser_take 16 = .ok (.getfield 24, 3) := by decide +kernel
theorem d_Parser_take_19 : decode b_Parser_take 19 = .ok (.getfield 42, 3) := by decide +kernel
theorem d_Parser_take_22 : decode b_Parser_take 22 = .ok (.invokevirtual 45, 3) := by decide +kernel
theorem d_Parser_take_25 : decode b_Parser_take 25 = .ok (.aload_n 0, 1) := by decide +kernel
theorem d_Parser_take_26 : decode b_Parser_take 26 = .ok (.getfield 24, 3) := by decide +kernel
theorem d_Parser_take_29 : decode b_Parser_take 29 = .ok (.invokevirtual 51, 3) := by decide +kernel
theorem d_Parser_take_32 : decode b_Parser_take 32 = .ok (.return_, 1) := by decide +kernel
theorem d_Parser_comparisonNext_0 : decode b_Parser_comparisonNext 0 = .ok (.aload_n 0, 1) := by decide +kernel
theorem d_Parser_comparisonNext_1 : decode b_Parser_comparisonNext 1 = .ok (.getfield 24, 3) := by decide +kernel
theorem d_Parser_comparisonNext_4 : decode b_Parser_comparisonNext 4 = .ok (.bipush 61, 2) := by decide +kernel
theorem d_Parser_comparisonNext_6 : decode b_Parser_comparisonNext 6 = .ok (.invokevirtual 54, 3) := by decide +kernel
theorem d_Parser_comparisonNext_9 : decode b_Parser_comparisonNext 9 = .ok (.ifCond .eq 5, 3) := by decide +kernel
theorem d_Parser_comparisonNext_12 : decode b_Parser_comparisonNext 12 = .ok (.iconst 0, 1) := by decide +kernel
theorem d_Parser_comparisonNext_13 : decode b_Parser_comparisonNext 13 = .ok (.ireturn, 1) := by decide +kernel
theorem d_Parser_comparisonNext_14 : decode b_Parser_comparisonNext 14 = .ok (.aload_n 0, 1) := by decide +kernel
theorem d_Parser_comparisonNext_15 : decode b_Parser_comparisonNext 15 = .ok (.getfield 24, 3) := by decide +kernel
theorem d_Parser_comparisonNext_18 : decode b_Parser_comparisonNext 18 = .ok (.bipush 60, 2) := by decide +kernel
theorem d_Parser_comparisonNext_20 : decode b_Parser_comparisonNext 20 = .ok (.invokevirtual 54, 3) := by decide +kernel
theorem d_Parser_comparisonNext_23 : decode b_Parser_comparisonNext 23 = .ok (.ifCond .eq 5, 3) := by decide +kernel
theorem d_Parser_comparisonNext_26 : decode b_Parser_comparisonNext 26 = .ok (.iconst 1, 1) := by decide +kernel
theorem d_Parser_comparisonNext_27 : decode b_Parser_comparisonNext 27 = .ok (.ireturn, 1) := by decide +kernel
theorem d_Parser_comparisonNext_28 : decode b_Parser_comparisonNext 28 = .ok (.aload_n 0, 1) := by decide +kernel
theorem d_Parser_comparisonNext_29 : decode b_Parser_comparisonNext 29 = .ok (.getfield 24, 3) := by decide +kernel
theorem d_Parser_comparisonNext_32 : decode b_Parser_comparisonNext 32 = .ok (.bipush 62, 2) := by decide +kernel
theorem d_Parser_comparisonNext_34 : decode b_Parser_comparisonNext 34 = .ok (.invokevirtual 54, 3) := by decide +kernel
theorem d_Parser_comparisonNext_37 : decode b_Parser_comparisonNext 37 = .ok (.ifCond .eq 7, 3) := by decide +kernel
theorem d_Parser_comparisonNext_40 : decode b_Parser_comparisonNext 40 = .ok (.iconst 2, 1) := by decide +kernel
theorem d_Parser_comparisonNext_41 : decode b_Parser_comparisonNext 41 = .ok (.goto 4, 3) := by decide +kernel
theorem d_Parser_comparisonNext_44 : decode b_Parser_comparisonNext 44 = .ok (.iconst (-1), 1) := by decide +kernel
theorem d_Parser_comparisonNext_45 : decode b_Parser_comparisonNext 45 = .ok (.ireturn, 1) := by decide +kernel
theorem d_Parser_takeNumber_0 : decode b_Parser_takeNumber 0 = .ok (.aload_n 0, 1) := by decide +kernel
theorem d_Parser_takeNumber_1 : decode b_Parser_takeNumber 1 = .ok (.getfield 24, 3) := by decide +kernel
theorem d_Parser_takeNumber_4 : decode b_Parser_takeNumber 4 = .ok (.getfield 153, 3) := by decide +kernel
theorem d_Parser_takeNumber_7 : decode b_Parser_takeNumber 7 = .ok (.istore_n 3, 1) := by decide +kernel
theorem d_Parser_takeNumber_8 : decode b_Parser_takeNumber 8 = .ok (.aload_n 0, 1) := by decide +kernel
theorem d_Parser_takeNumber_9 : decode b_Parser_takeNumber 9 = .ok (.getfield 24, 3) := by decide +kernel
theorem d_Parser_takeNumber_12 : decode b_Parser_takeNumber 12 = .ok (.getfield 35, 3) := by decide +kernel
theorem d_Parser_takeNumber_15 : decode b_Parser_takeNumber 15 = .ok (.iconst 2, 1) := by decide +kernel
theorem d_Parser_takeNumber_16 : decode b_Parser_takeNumber 16 = .ok (.if_icmp .ne 13, 3) := by decide +kernel
theorem d_Parser_takeNumber_19 : decode b_Parser_takeNumber 19 = .ok (.iload_n 3, 1) := by decide +kernel
theorem d_Parser_takeNumber_20 : decode b_Parser_takeNumber 20 = .ok (.iload_n 1, 1) := by decide +kernel
theorem d_Parser_takeNumber_21 : decode b_Parser_takeNumber 21 = .ok (.if_icmp .lt 8, 3) := by decide +kernel
theorem d_Parser_takeNumber_24 : decode b_Parser_takeNumber 24 = .ok (.iload_n 3, 1) := by decide +kernel
theorem d_Parser_takeNumber_25 : decode b_Parser_takeNumber 25 = .ok (.iload_n 2, 1) := by decide +kernel
theorem d_Parser_takeNumber_26 : decode b_Parser_takeNumber 26 = .ok (.if_icmp .le 5, 3) := by decide +kernel
theorem d_Parser_takeNumber_29 : decode b_Parser_takeNumber 29 = .ok (.iconst (-1), 1) := by decide +kernel
theorem d_Parser_takeNumber_30 : decode b_Parser_takeNumber 30 = .ok (.ireturn, 1) := by decide +kernel
theorem d_Parser_takeNumber_31 : decode b_Parser_takeNumber 31 = .ok (.aload_n 0, 1) := by decide +kernel
theorem d_Parser_takeNumber_32 : decode b_Parser_takeNumber 32 = .ok (.invokevirtual 61, 3) := by decide +kernel
theorem d_Parser_takeNumber_35 : decode b_Parser_takeNumber 35 = .ok (.iload_n 3, 1) := by decide +kernel
theorem d_Parser_takeNumber_36 : decode b_Parser_takeNumber 36 = .ok (.ireturn, 1) := by decide +kernel
set_option maxHeartbeats 4000000 in
set_option maxRecDepth 100000 in
theorem c_Parser_init (g : GG) (l : Launch) {p : Nat} {t : Nat} {bk : Nat}   : Cn g l y_Parser_init b_Parser_init 3 none (rmk 2 1 6 33) [.ref p, .ref t, .ref bk] ([(p, .inr (6, [.null, .null, .null]))]) (fun (r0 : Option Value) (w0 : va_W) => ∃ a : Nat, r0 = none ∧ w0 = [(p, .inr (6, [.ref t, .ref bk, .ref a])), (a, .inr (2, [.ref t, .int (nI 0), .int (nI 0), .int (nI 0), .int (nI 0), .null]))]) := by
  refine Cn.of R_Parser [(0, .ref p), (1, .ref t), (2, .ref bk)] (by decide) rfl (Nat.le_of_ble_eq_true rfl) rfl ?_
  intro x A Q hR hXl hin C E
  subst hXl
  refine r_aload_n C 0 d_Parser_init_0 rfl rfl ?_
  refine r_objInit C d_Parser_init_1 ml_Parser_3 oi_1 oi_2 (by rw [hR]; decide) (by rw [hR]; decide) ?_
  refine r_aload_n C 0 d_Parser_init_4 rfl rfl ?_
  refine r_aload_n C 1 d_Parser_init_5 rfl rfl ?_
  refine r_putF C hin (ws' := [(p, .inr (6, [.ref t, .null, .null]))]) 0 0 d_Parser_init_6 ci_Parser fl_Parser_9 rfl rfl (by decide) rfl rfl (rfl) (rfl) (by simp) rfl ?_
  refine r_aload_n C 0 d_Parser_init_9 rfl rfl ?_
  refine r_aload_n C 2 d_Parser_init_10 rfl rfl ?_
  refine r_putF C hin (ws' := [(p, .inr (6, [.ref t, .ref bk, .null]))]) 0 1 d_Parser_init_11 ci_Parser fl_Parser_15 rfl rfl (by decide) rfl rfl (rfl) (rfl) (by simp) rfl ?_
  refine r_aload_n C 0 d_Parser_init_14 rfl rfl ?_
  refine r_new C d_Parser_init_15 ci_Tokens cl_Parser_19 in_Tokens iz_Tokens (fs := [.null, .int (nI 0), .int (nI 0), .int (nI 0), .int (nI 0), .null]) (by intro j hj; rcases (show j = 0 ∨ j = 1 ∨ j = 2 ∨ j = 3 ∨ j = 4 ∨ j = 5 by omega) with rfl | rfl | rfl | rfl | rfl | rfl <;> rfl) (by rw [hR]; decide) (by rw [hR]; decide) (fun q_15 => ?_)
  refine r_norm (ws' := [(p, .inr (6, [.ref t, .ref bk, .null])), (q_15, .inr (2, [.null, .int (nI 0), .int (nI 0), .int (nI 0), .int (nI 0), .null]))]) (st' := [.ref q_15, .ref p]) (n1 := 0 + 1) (n2 := 0 + 6) rfl rfl rfl rfl ?_
  refine r_dup C d_Parser_init_18 rfl ?_
  refine r_aload_n C 1 d_Parser_init_19 rfl rfl ?_
  refine j_callI C (c_Tokens_init g (xl x) (a := q_15) (t := t) ) (Sp.of (wr := [(p, .inr (6, [.ref t, .ref bk, .null]))]) [1] [0] rfl rfl rfl rfl (by decide)) d_Parser_init_20 lk_Parser_21 mw_Tokens_init rfl im_Tokens_init (fit_of hR (by first | decide | (simp only [rmk]; omega)) (by first | decide | (simp only [rmk]; omega)) (by first | decide | (simp only [rmk]; omega)) (by first | decide | (simp only [rmk]; omega))) rfl (cat8 (Nat.le_of_ble_eq_true rfl)) (As := [.ref t]) (rest := [.ref q_15, .ref p]) rfl (fun r_20 w_20 hp_20 => ?_)
  obtain ⟨rfl, rfl⟩ := hp_20
  refine r_after (ws' := [(p, .inr (6, [.ref t, .ref bk, .null])), (q_15, .inr (2, [.ref t, .int (nI 0), .int (nI 0), .int (nI 0), .int (nI 0), .null]))]) (st' := [.ref q_15, .ref p]) (n1 := 0 + 1) (n2 := 0 + 6) [0, 1] rfl rfl rfl rfl rfl ?_
  refine r_putF C hin (ws' := [(p, .inr (6, [.ref t, .ref bk, .ref q_15])), (q_15, .inr (2, [.ref t, .int (nI 0), .int (nI 0), .int (nI 0), .int (nI 0), .null]))]) 0 2 d_Parser_init_23 ci_Parser fl_Parser_24 rfl rfl (by decide) rfl rfl (rfl) (rfl) (by simp) rfl ?_
  refine r_vret C E d_Parser_init_26 (by first | decide | omega | (simp only [rmk]; omega)) (by first | decide | omega | (simp only [rmk]; omega)) ?_
  exact ⟨_, rfl, rfl⟩

set_option maxHeartbeats 4000000 in
set_option maxRecDepth 100000 in
theorem c_Parser_take (g : GG) (l : Launch) {p : Nat} {a : Nat} {t : Nat} {tb : Nat} {bk : Nat} {ra : Nat} {pa : Nat} {k : Nat} {so : Nat} {sta : Nat} {en : Nat} {rc : Nat} {dp : Nat} {T : Nat → Nat} {PA : Nat → Nat} {v : Option Nat} {wd : Option Nat} {pr : Bool} {out : List Nat}  (hk : k ≤ 2000) (hT : ∀ j, T j < 256) (hO : TokOK k (so, sta, en, v, wd)) (hcap : out.length ≤ 2 * sta) (ho : OutAt PA out) (h0 : so ≠ 0) : Cn g l y_Parser_take b_Parser_take 1 none (rmk 8 0 0 175) [.ref p] ([(p, .inr (6, [.ref t, .ref bk, .ref a])), (a, .inr (2, [.ref t, .int (nI so), .int (nI sta), .int (nI en), .int (oI v), va_rf (wR g wd)])), (t, .inr (1, [.ref tb, .int (nI k)])), (tb, .inl (g.2.1 1, 2000, .inl (aI T))), (bk, .inr (5, [.ref ra, .ref pa, .int (bI pr), .int (nI rc), .int (nI out.length), .int (nI dp)])), (pa, .inl (g.2.1 1, 4000, .inl (aI PA)))]) (fun (r0 : Option Value) (w0 : va_W) => ∃ tk : Tok, ∃ ou : List Nat, ∃ PB : Nat → Nat, r0 = none ∧ w0 = [(p, .inr (6, [.ref t, .ref bk, .ref a])), (a, .inr (2, [.ref t, .int (nI tk.1), .int (nI tk.2.1), .int (nI tk.2.2.1), .int (oI tk.2.2.2.1), va_rf (wR g tk.2.2.2.2)])), (t, .inr (1, [.ref tb, .int (nI k)])), (tb, .inl (g.2.1 1, 2000, .inl (aI T))), (bk, .inr (5, [.ref ra, .ref pa, .int (bI pr), .int (nI rc), .int (nI ou.length), .int (nI dp)])), (pa, .inl (g.2.1 1, 4000, .inl (aI PB)))] ∧ ((tk, ou) = tTake T k ((so, sta, en, v, wd), out)) ∧ (TokOK k tk) ∧ (ou.length ≤ 2 * tk.2.1) ∧ (OutAt PB ou)) := by
  refine Cn.of R_Parser [(0, .ref p)] (by decide) rfl (Nat.le_of_ble_eq_true rfl) rfl ?_
  intro x A Q hR hXl hin C E
  subst hXl
  obtain ⟨b1, b2, b3, b4⟩ := id hO
  have b3 := b3 h0
  simp only [] at b1 b2 b3
  refine r_aload_n C 0 d_Parser_take_0 rfl rfl ?_
  refine r_get C 0 1 d_Parser_take_1 ci_Parser fi_Parser_15 rfl (by decide) rfl rfl ?_
  refine r_aload_n C 0 d_Parser_take_4 rfl rfl ?_
  refine r_get C 0 0 d_Parser_take_5 ci_Parser fi_Parser_9 rfl (by decide) rfl rfl ?_
  refine r_aload_n C 0 d_Parser_take_8 rfl rfl ?_
  refine r_get C 0 2 d_Parser_take_9 ci_Parser fi_Parser_24 rfl (by decide) rfl rfl ?_
  refine r_get C 1 2 d_Parser_take_12 ci_Tokens fi_Parser_39 rfl (by decide) rfl rfl ?_
  refine r_aload_n C 0 d_Parser_take_15 rfl rfl ?_
  refine r_get C 0 2 d_Parser_take_16 ci_Parser fi_Parser_24 rfl (by decide) rfl rfl ?_
  refine r_get C 1 3 d_Parser_take_19 ci_Tokens fi_Parser_42 rfl (by decide) rfl rfl ?_
  refine j_callV C (c_Book_print g (xl x) (bk := bk) (ra := ra) (pa := pa) (rc := rc) (dp := dp) (t := t) (tb := tb) (k := k) (s := sta) (e := en) (pr := pr) (T := T) (PA := PA) (out := out) (by first | assumption | rfl | omega) (by first | assumption | rfl | omega) (by first | assumption | rfl | omega) (by first | assumption | rfl | omega) (by first | assumption | rfl | omega) (by first | assumption | rfl | omega)) (Sp.of (wr := [(p, .inr (6, [.ref t, .ref bk, .ref a])), (a, .inr (2, [.ref t, .int (nI so), .int (nI sta), .int (nI en), .int (oI v), va_rf (wR g wd)]))]) [4, 5, 2, 3] [0, 1] rfl rfl rfl rfl (by decide)) d_Parser_take_22 lk_Parser_45 mw_Book_print vw_Book_print (q0 := 0) rfl rfl (fit_of hR (by first | decide | (simp only [rmk]; omega)) (by first | decide | (simp only [rmk]; omega)) (by first | decide | (simp only [rmk]; omega)) (by first | decide | (simp only [rmk]; omega))) rfl (cat8 (Nat.le_of_ble_eq_true rfl)) (As := [.ref t, .int (nI sta), .int (nI en)]) (rest := []) rfl (fun r_22 w_22 hp_22 => ?_)
  obtain ⟨PA2_22, rfl, rfl, ho2_22⟩ := hp_22
  refine r_after (ws' := [(p, .inr (6, [.ref t, .ref bk, .ref a])), (a, .inr (2, [.ref t, .int (nI so), .int (nI sta), .int (nI en), .int (oI v), va_rf (wR g wd)])), (t, .inr (1, [.ref tb, .int (nI k)])), (tb, .inl (g.2.1 1, 2000, .inl (aI T))), (bk, .inr (5, [.ref ra, .ref pa, .int (bI pr), .int (nI rc), .int (nI ((prt T sta en out).length)), .int (nI dp)])), (pa, .inl (g.2.1 1, 4000, .inl (aI PA2_22)))]) (st' := []) (n1 := 0) (n2 := 0) [0, 1, 4, 5, 2, 3] rfl rfl rfl rfl rfl ?_
  refine r_aload_n C 0 d_Parser_take_25 rfl rfl ?_
  refine r_get C 0 2 d_Parser_take_26 ci_Parser fi_Parser_24 rfl (by decide) rfl rfl ?_
  refine j_callV C (c_Tokens_advance g (xl x) (a := a) (t := t) (tb := tb) (k := k) (so := so) (sta := sta) (en := en) (T := T) (v := v) (wd := wd) (by first | assumption | rfl | omega) (by first | assumption | rfl | omega) (by first | assumption | rfl | omega) (by first | assumption | rfl | omega)) (Sp.of (wr := [(p, .inr (6, [.ref t, .ref bk, .ref a])), (bk, .inr (5, [.ref ra, .ref pa, .int (bI pr), .int (nI rc), .int (nI ((prt T sta en out).length)), .int (nI dp)])), (pa, .inl (g.2.1 1, 4000, .inl (aI PA2_22)))]) [1, 2, 3] [0, 4, 5] rfl rfl rfl rfl (by decide)) d_Parser_take_29 lk_Parser_51 mw_Tokens_advance vw_Tokens_advance (q0 := 0) rfl rfl (fit_of hR (by first | decide | (simp only [rmk]; omega)) (by first | decide | (simp only [rmk]; omega)) (by first | decide | (simp only [rmk]; omega)) (by first | decide | (simp only [rmk]; omega))) rfl (cat8 (Nat.le_of_ble_eq_true rfl)) (As := []) (rest := []) rfl (fun r_29 w_29 hp_29 => ?_)
  obtain ⟨tk_29, rfl, rfl, htk_29⟩ := hp_29
  refine r_after (ws' := [(p, .inr (6, [.ref t, .ref bk, .ref a])), (a, .inr (2, [.ref t, .int (nI tk_29.1), .int (nI tk_29.2.1), .int (nI tk_29.2.2.1), .int (oI tk_29.2.2.2.1), va_rf (wR g tk_29.2.2.2.2)])), (t, .inr (1, [.ref tb, .int (nI k)])), (tb, .inl (g.2.1 1, 2000, .inl (aI T))), (bk, .inr (5, [.ref ra, .ref pa, .int (bI pr), .int (nI rc), .int (nI ((prt T sta en out).length)), .int (nI dp)])), (pa, .inl (g.2.1 1, 4000, .inl (aI PA2_22)))]) (st' := []) (n1 := 0) (n2 := 0) [0, 3, 4, 5, 1, 2] rfl rfl rfl rfl rfl ?_
  refine r_vret C E d_Parser_take_32 (by first | decide | omega | (simp only [rmk]; omega)) (by first | decide | omega | (simp only [rmk]; omega)) ?_
  exact ⟨_, _, _, rfl, rfl, by rw [htk_29]; rfl, by rw [htk_29]; exact tokAt_ok hT b2, by rw [htk_29]; exact take_cap b2 (by omega) hcap, ho2_22⟩

set_option maxHeartbeats 4000000 in
set_option maxRecDepth 100000 in
theorem c_Parser_comparisonNext (g : GG) (l : Launch) {p : Nat} {a : Nat} {t : Nat} {tb : Nat} {bk : Nat} {k : Nat} {so : Nat} {sta : Nat} {en : Nat} {T : Nat → Nat} {v : Option Nat} {wd : Option Nat}  (hk : k ≤ 2000) (hT : ∀ j, T j < 256) (hO : TokOK k (so, sta, en, v, wd)) : Cn g l y_Parser_comparisonNext b_Parser_comparisonNext 1 (some .int) (rmk 2 0 0 42) [.ref p] ([(p, .inr (6, [.ref t, .ref bk, .ref a])), (a, .inr (2, [.ref t, .int (nI so), .int (nI sta), .int (nI en), .int (oI v), va_rf (wR g wd)])), (t, .inr (1, [.ref tb, .int (nI k)])), (tb, .inl (g.2.1 1, 2000, .inl (aI T)))]) (fun (r0 : Option Value) (w0 : va_W) => ∃ nc : Option Nat, r0 = some (.int (oI nc)) ∧ w0 = [(p, .inr (6, [.ref t, .ref bk, .ref a])), (a, .inr (2, [.ref t, .int (nI so), .int (nI sta), .int (nI en), .int (oI v), va_rf (wR g wd)])), (t, .inr (1, [.ref tb, .int (nI k)])), (tb, .inl (g.2.1 1, 2000, .inl (aI T)))] ∧ (nc = cmpN T (so, sta, en, v, wd)) ∧ (∀ z, nc = some z → z < 2 ^ 31)) := by
  refine Cn.of R_Parser [(0, .ref p)] (by decide) rfl (Nat.le_of_ble_eq_true rfl) rfl ?_
  intro x A Q hR hXl hin C E
  subst hXl
  refine r_aload_n C 0 d_Parser_comparisonNext_0 rfl rfl ?_
  refine r_get C 0 2 d_Parser_comparisonNext_1 ci_Parser fi_Parser_24 rfl (by decide) rfl rfl ?_
  refine r_bipush C (nI 61) d_Parser_comparisonNext_4 (by decide) ?_
  refine j_callV C (c_Tokens_isTheSign g (xl x) (a := a) (t := t) (tb := tb) (k := k) (so := so) (sta := sta) (en := en) (T := T) (v := v) (wd := wd) (c := 61) (by first | assumption | rfl | omega) (by first | assumption | rfl | omega) (hO.so) (hO.sign) (by first | assumption | rfl | omega) (hO.sta hk)) (Sp.of (wr := [(p, .inr (6, [.ref t, .ref bk, .ref a]))]) [1, 2, 3] [0] rfl rfl rfl rfl (by decide)) d_Parser_comparisonNext_6 lk_Parser_54 mw_Tokens_isTheSign vw_Tokens_isTheSign (q0 := 0) rfl rfl (fit_of hR (by first | decide | (simp only [rmk]; omega)) (by first | decide | (simp only [rmk]; omega)) (by first | decide | (simp only [rmk]; omega)) (by first | decide | (simp only [rmk]; omega))) rfl (cat8 (Nat.le_of_ble_eq_true rfl)) (As := [.int (nI 61)]) (rest := []) rfl (fun r_6 w_6 hp_6 => ?_)
  obtain ⟨rfl, rfl⟩ := hp_6
  refine r_after (ws' := [(p, .inr (6, [.ref t, .ref bk, .ref a])), (a, .inr (2, [.ref t, .int (nI so), .int (nI sta), .int (nI en), .int (oI v), va_rf (wR g wd)])), (t, .inr (1, [.ref tb, .int (nI k)])), (tb, .inl (g.2.1 1, 2000, .inl (aI T)))]) (st' := [.int (bI (isSg T so sta 61))]) (n1 := 0) (n2 := 0) [0, 1, 2, 3] rfl rfl rfl rfl rfl ?_
  refine r_bif_eq C 14 d_Parser_comparisonNext_9 (by decide) (fun c_9 => ?_) (fun c_9 => ?_)
  · skip
    refine r_aload_n C 0 d_Parser_comparisonNext_14 rfl rfl ?_
    refine r_get C 0 2 d_Parser_comparisonNext_15 ci_Parser fi_Parser_24 rfl (by decide) rfl rfl ?_
    refine r_bipush C (nI 60) d_Parser_comparisonNext_18 (by decide) ?_
    refine j_callV C (c_Tokens_isTheSign g (xl x) (a := a) (t := t) (tb := tb) (k := k) (so := so) (sta := sta) (en := en) (T := T) (v := v) (wd := wd) (c := 60) (by first | assumption | rfl | omega) (by first | assumption | rfl | omega) (hO.so) (hO.sign) (by first | assumption | rfl | omega) (hO.sta hk)) (Sp.of (wr := [(p, .inr (6, [.ref t, .ref bk, .ref a]))]) [1, 2, 3] [0] rfl rfl rfl rfl (by decide)) d_Parser_comparisonNext_20 lk_Parser_54 mw_Tokens_isTheSign vw_Tokens_isTheSign (q0 := 0) rfl rfl (fit_of hR (by first | decide | (simp only [rmk]; omega)) (by first | decide | (simp only [rmk]; omega)) (by first | decide | (simp only [rmk]; omega)) (by first | decide | (simp only [rmk]; omega))) rfl (cat8 (Nat.le_of_ble_eq_true rfl)) (As := [.int (nI 60)]) (rest := []) rfl (fun r_20 w_20 hp_20 => ?_)
    obtain ⟨rfl, rfl⟩ := hp_20
    refine r_after (ws' := [(p, .inr (6, [.ref t, .ref bk, .ref a])), (a, .inr (2, [.ref t, .int (nI so), .int (nI sta), .int (nI en), .int (oI v), va_rf (wR g wd)])), (t, .inr (1, [.ref tb, .int (nI k)])), (tb, .inl (g.2.1 1, 2000, .inl (aI T)))]) (st' := [.int (bI (isSg T so sta 60))]) (n1 := 0) (n2 := 0) [0, 1, 2, 3] rfl rfl rfl rfl rfl ?_
    refine r_bif_eq C 28 d_Parser_comparisonNext_23 (by decide) (fun c_23 => ?_) (fun c_23 => ?_)
    · skip
      refine r_aload_n C 0 d_Parser_comparisonNext_28 rfl rfl ?_
      refine r_get C 0 2 d_Parser_comparisonNext_29 ci_Parser fi_Parser_24 rfl (by decide) rfl rfl ?_
      refine r_bipush C (nI 62) d_Parser_comparisonNext_32 (by decide) ?_
      refine j_callV C (c_Tokens_isTheSign g (xl x) (a := a) (t := t) (tb := tb) (k := k) (so := so) (sta := sta) (en := en) (T := T) (v := v) (wd := wd) (c := 62) (by first | assumption | rfl | omega) (by first | assumption | rfl | omega) (hO.so) (hO.sign) (by first | assumption | rfl | omega) (hO.sta hk)) (Sp.of (wr := [(p, .inr (6, [.ref t, .ref bk, .ref a]))]) [1, 2, 3] [0] rfl rfl rfl rfl (by decide)) d_Parser_comparisonNext_34 lk_Parser_54 mw_Tokens_isTheSign vw_Tokens_isTheSign (q0 := 0) rfl rfl (fit_of hR (by first | decide | (simp only [rmk]; omega)) (by first | decide | (simp only [rmk]; omega)) (by first | decide | (simp only [rmk]; omega)) (by first | decide | (simp only [rmk]; omega))) rfl (cat8 (Nat.le_of_ble_eq_true rfl)) (As := [.int (nI 62)]) (rest := []) rfl (fun r_34 w_34 hp_34 => ?_)
      obtain ⟨rfl, rfl⟩ := hp_34
      refine r_after (ws' := [(p, .inr (6, [.ref t, .ref bk, .ref a])), (a, .inr (2, [.ref t, .int (nI so), .int (nI sta), .int (nI en), .int (oI v), va_rf (wR g wd)])), (t, .inr (1, [.ref tb, .int (nI k)])), (tb, .inl (g.2.1 1, 2000, .inl (aI T)))]) (st' := [.int (bI (isSg T so sta 62))]) (n1 := 0) (n2 := 0) [0, 1, 2, 3] rfl rfl rfl rfl rfl ?_
      refine r_bif_eq C 44 d_Parser_comparisonNext_37 (by decide) (fun c_37 => ?_) (fun c_37 => ?_)
      · skip
        refine r_iconst C ((-1)) d_Parser_comparisonNext_44 (by decide) ?_
        refine r_iret C E d_Parser_comparisonNext_45 (by first | decide | omega | (simp only [rmk]; omega)) (by first | decide | omega | (simp only [rmk]; omega)) ?_
        exact ⟨none, rfl, rfl, (cmpN_n c_9 c_23 c_37).symm, fun z h => by cases h⟩
      · skip
        refine r_iconst C (nI 2) d_Parser_comparisonNext_40 (by decide) ?_
        refine r_goto C 45 d_Parser_comparisonNext_41 (by decide) ?_
        refine r_iret C E d_Parser_comparisonNext_45 (by first | decide | omega | (simp only [rmk]; omega)) (by first | decide | omega | (simp only [rmk]; omega)) ?_
        exact ⟨some 2, rfl, rfl, (cmpN_2 c_9 c_23 c_37).symm, fun z h => by cases h; decide⟩
    · skip
      refine r_iconst C (nI 1) d_Parser_comparisonNext_26 (by decide) ?_
      refine r_iret C E d_Parser_comparisonNext_27 (by first | decide | omega | (simp only [rmk]; omega)) (by first | decide | omega | (simp only [rmk]; omega)) ?_
      exact ⟨some 1, rfl, rfl, (cmpN_1 c_9 c_23).symm, fun z h => by cases h; decide⟩
  · skip
    refine r_iconst C (nI 0) d_Parser_comparisonNext_12 (by decide) ?_
    refine r_iret C E d_Parser_comparisonNext_13 (by first | decide | omega | (simp only [rmk]; omega)) (by first | decide | omega | (simp only [rmk]; omega)) ?_
    exact ⟨some 0, rfl, rfl, (cmpN_0 c_9).symm, fun z h => by cases h; decide⟩

set_option maxHeartbeats 4000000 in
set_option maxRecDepth 100000 in
theorem c_Parser_takeNumber (g : GG) (l : Launch) {p : Nat} {a : Nat} {t : Nat} {tb : Nat} {bk : Nat} {ra : Nat} {pa : Nat} {k : Nat} {so : Nat} {sta : Nat} {en : Nat} {rc : Nat} {dp : Nat} {T : Nat → Nat} {PA : Nat → Nat} {v : Option Nat} {wd : Option Nat} {pr : Bool} {out : List Nat} {lo : Nat} {hi : Nat}  (hk : k ≤ 2000) (hT : ∀ j, T j < 256) (hO : TokOK k (so, sta, en, v, wd)) (hcap : out.length ≤ 2 * sta) (ho : OutAt PA out) (hlo : lo < 2 ^ 31) (hhi : hi < 2 ^ 31) : Cn g l y_Parser_takeNumber b_Parser_takeNumber 4 (some .int) (rmk 9 0 0 195) [.ref p, .int (nI lo), .int (nI hi)] ([(p, .inr (6, [.ref t, .ref bk, .ref a])), (a, .inr (2, [.ref t, .int (nI so), .int (nI sta), .int (nI en), .int (oI v), va_rf (wR g wd)])), (t, .inr (1, [.ref tb, .int (nI k)])), (tb, .inl (g.2.1 1, 2000, .inl (aI T))), (bk, .inr (5, [.ref ra, .ref pa, .int (bI pr), .int (nI rc), .int (nI out.length), .int (nI dp)])), (pa, .inl (g.2.1 1, 4000, .inl (aI PA)))]) (fun (r0 : Option Value) (w0 : va_W) => ∃ nr : Option Nat, ∃ tk : Tok, ∃ ou : List Nat, ∃ PB : Nat → Nat, r0 = some (.int (oI nr)) ∧ w0 = [(p, .inr (6, [.ref t, .ref bk, .ref a])), (a, .inr (2, [.ref t, .int (nI tk.1), .int (nI tk.2.1), .int (nI tk.2.2.1), .int (oI tk.2.2.2.1), va_rf (wR g tk.2.2.2.2)])), (t, .inr (1, [.ref tb, .int (nI k)])), (tb, .inl (g.2.1 1, 2000, .inl (aI T))), (bk, .inr (5, [.ref ra, .ref pa, .int (bI pr), .int (nI rc), .int (nI ou.length), .int (nI dp)])), (pa, .inl (g.2.1 1, 4000, .inl (aI PB)))] ∧ ((nr, tk, ou) = pNum T k lo hi ((so, sta, en, v, wd), out)) ∧ (∀ z, nr = some z → z < 2 ^ 31) ∧ (TokOK k tk) ∧ (ou.length ≤ 2 * tk.2.1) ∧ (OutAt PB ou)) := by
  refine Cn.of R_Parser [(0, .ref p), (1, .int (nI lo)), (2, .int (nI hi))] (by decide) rfl (Nat.le_of_ble_eq_true rfl) rfl ?_
  intro x A Q hR hXl hin C E
  subst hXl
  have bso := hO.so
  refine r_aload_n C 0 d_Parser_takeNumber_0 rfl rfl ?_
  refine r_get C 0 2 d_Parser_takeNumber_1 ci_Parser fi_Parser_24 rfl (by decide) rfl rfl ?_
  refine r_get C 1 4 d_Parser_takeNumber_4 ci_Tokens fi_Parser_153 rfl (by decide) rfl rfl ?_
  refine r_istore_n C (lv' := [(3, .int (oI v)), (0, .ref p), (1, .int (nI lo)), (2, .int (nI hi))]) d_Parser_takeNumber_7 rfl (by decide) rfl ?_
  refine r_aload_n C 1 d_Parser_takeNumber_8 rfl rfl ?_
  refine r_get C 0 2 d_Parser_takeNumber_9 ci_Parser fi_Parser_24 rfl (by decide) rfl rfl ?_
  refine r_get C 1 1 d_Parser_takeNumber_12 ci_Tokens fi_Parser_35 rfl (by decide) rfl rfl ?_
  refine r_iconst C (nI 2) d_Parser_takeNumber_15 (by decide) ?_
  refine r_ncmp_ne C 29 d_Parser_takeNumber_16 (by decide) (by omega) (by omega) (fun c_16 => ?_) (fun c_16 => ?_)
  · skip
    refine r_iconst C ((-1)) d_Parser_takeNumber_29 (by decide) ?_
    refine r_iret C E d_Parser_takeNumber_30 (by first | decide | omega | (simp only [rmk]; omega)) (by first | decide | omega | (simp only [rmk]; omega)) ?_
    exact ⟨none, (so, sta, en, v, wd), _, _, rfl, rfl, (pNum_sort c_16).symm, (fun _ h => by cases h), hO, hcap, ho⟩
  · skip
    obtain ⟨z, rfl⟩ := hO.num c_16
    have hz := hO.val z rfl
    refine r_norm2 (ws' := [(p, .inr (6, [.ref t, .ref bk, .ref a])), (a, .inr (2, [.ref t, .int (nI so), .int (nI sta), .int (nI en), .int (nI z), va_rf (wR g wd)])), (t, .inr (1, [.ref tb, .int (nI k)])), (tb, .inl (g.2.1 1, 2000, .inl (aI T))), (bk, .inr (5, [.ref ra, .ref pa, .int (bI pr), .int (nI rc), .int (nI out.length), .int (nI dp)])), (pa, .inl (g.2.1 1, 4000, .inl (aI PA)))]) (st' := []) (lv' := [(3, .int (nI z)), (0, .ref p), (1, .int (nI lo)), (2, .int (nI hi))]) rfl rfl rfl ?_
    refine r_iload_n C 0 d_Parser_takeNumber_19 rfl rfl ?_
    refine r_iload_n C 2 d_Parser_takeNumber_20 rfl rfl ?_
    refine r_ncmp_lt C 29 d_Parser_takeNumber_21 (by decide) (by omega) (by omega) (fun c_21 => ?_) (fun c_21 => ?_)
    · skip
      refine r_iconst C ((-1)) d_Parser_takeNumber_29 (by decide) ?_
      refine r_iret C E d_Parser_takeNumber_30 (by first | decide | omega | (simp only [rmk]; omega)) (by first | decide | omega | (simp only [rmk]; omega)) ?_
      exact ⟨none, (so, sta, en, some z, wd), _, _, rfl, rfl, (pNum_no (by omega)).symm, (fun _ h => by cases h), hO, hcap, ho⟩
    · skip
      refine r_iload_n C 0 d_Parser_takeNumber_24 rfl rfl ?_
      refine r_iload_n C 3 d_Parser_takeNumber_25 rfl rfl ?_
      refine r_ncmp_le C 31 d_Parser_takeNumber_26 (by decide) (by omega) (by omega) (fun c_26 => ?_) (fun c_26 => ?_)
      · skip
        refine r_aload_n C 1 d_Parser_takeNumber_31 rfl rfl ?_
        refine j_callV C (c_Parser_take g (xl x) (p := p) (a := a) (t := t) (tb := tb) (bk := bk) (ra := ra) (pa := pa) (k := k) (so := so) (sta := sta) (en := en) (rc := rc) (dp := dp) (T := T) (PA := PA) (v := some z) (wd := wd) (pr := pr) (out := out) (by first | assumption | rfl | omega) (by first | assumption | rfl | omega) (by first | assumption | rfl | omega) (by first | assumption | rfl | omega) (by first | assumption | rfl | omega) (by first | assumption | rfl | omega)) (Sp.of (wr := []) [0, 1, 2, 3, 4, 5] [] rfl rfl rfl rfl (by decide)) d_Parser_takeNumber_32 lk_Parser_61 mw_Parser_take vw_Parser_take (q0 := 0) rfl rfl (fit_of hR (by first | decide | (simp only [rmk]; omega)) (by first | decide | (simp only [rmk]; omega)) (by first | decide | (simp only [rmk]; omega)) (by first | decide | (simp only [rmk]; omega))) rfl (cat8 (Nat.le_of_ble_eq_true rfl)) (As := []) (rest := []) rfl (fun r_32 w_32 hp_32 => ?_)
        obtain ⟨tk_32, ou_32, PB_32, rfl, rfl, hx_32, hO2_32, hc2_32, ho2_32⟩ := hp_32
        refine r_after (ws' := [(p, .inr (6, [.ref t, .ref bk, .ref a])), (a, .inr (2, [.ref t, .int (nI tk_32.1), .int (nI tk_32.2.1), .int (nI tk_32.2.2.1), .int (oI tk_32.2.2.2.1), va_rf (wR g tk_32.2.2.2.2)])), (t, .inr (1, [.ref tb, .int (nI k)])), (tb, .inl (g.2.1 1, 2000, .inl (aI T))), (bk, .inr (5, [.ref ra, .ref pa, .int (bI pr), .int (nI rc), .int (nI ou_32.length), .int (nI dp)])), (pa, .inl (g.2.1 1, 4000, .inl (aI PB_32)))]) (st' := []) (n1 := 0) (n2 := 0) [0, 1, 2, 3, 4, 5] rfl rfl rfl rfl rfl ?_
        refine r_iload_n C 0 d_Parser_takeNumber_35 rfl rfl ?_
        refine r_iret C E d_Parser_takeNumber_36 (by first | decide | omega | (simp only [rmk]; omega)) (by first | decide | omega | (simp only [rmk]; omega)) ?_
        exact ⟨some z, _, _, _, rfl, rfl, by rw [pNum_yes c_16 (by omega) (by omega), ← hx_32], (fun _ h => by cases h; exact hz), hO2_32, hc2_32, ho2_32⟩
      · skip
        refine r_iconst C ((-1)) d_Parser_takeNumber_29 (by decide) ?_
        refine r_iret C E d_Parser_takeNumber_30 (by first | decide | omega | (simp only [rmk]; omega)) (by first | decide | omega | (simp only [rmk]; omega)) ?_
        exact ⟨none, (so, sta, en, some z, wd), _, _, rfl, rfl, (pNum_no (by omega)).symm, (fun _ h => by cases h), hO, hcap, ho⟩
