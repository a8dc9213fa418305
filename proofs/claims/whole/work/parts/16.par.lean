abbrev TO : Type := Tok × List Nat
/-- what holds of every token -/
def TokOK (k : Nat) (x : Tok) : Prop := x.2.1 ≤ x.2.2.1 ∧ x.2.2.1 ≤ k ∧ (x.1 ≠ 0 → x.2.1 < x.2.2.1) ∧ x.1 ≤ 4 ∧ (x.1 = 2 → ∃ z, x.2.2.2.1 = some z) ∧ (∀ z, x.2.2.2.1 = some z → z < 2 ^ 31) ∧ (∀ w, x.2.2.2.2 = some w → w < 23)
theorem TokOK.so {k so sta en : Nat} {v wd : Option Nat} (h : TokOK k (so, sta, en, v, wd)) : so < 2 ^ 31 := by have := h.2.2.2.1; simp only [] at this; omega
theorem TokOK.sta {k so sta en : Nat} {v wd : Option Nat} (h : TokOK k (so, sta, en, v, wd)) (hk : k ≤ 2000) : sta < 2 ^ 31 := by obtain ⟨h1, h2, -⟩ := h; simp only [] at h1 h2; omega
theorem TokOK.sign {k so sta en : Nat} {v wd : Option Nat} (h : TokOK k (so, sta, en, v, wd)) : so = 3 → sta < k := by obtain ⟨h1, h2, h3, -⟩ := h; simp only [] at h1 h2 h3; intro e; have := h3 (by omega); omega
theorem TokOK.num {k so sta en : Nat} {v wd : Option Nat} (h : TokOK k (so, sta, en, v, wd)) (e : so = 2) : ∃ z, v = some z := h.2.2.2.2.1 e
theorem TokOK.val {k so sta en : Nat} {v wd : Option Nat} (h : TokOK k (so, sta, en, v, wd)) : ∀ z, v = some z → z < 2 ^ 31 := h.2.2.2.2.2.1
theorem TokOK.word {k so sta en : Nat} {v wd : Option Nat} (h : TokOK k (so, sta, en, v, wd)) : ∀ w, wd = some w → w < 23 := h.2.2.2.2.2.2
theorem fw_lt {p : Nat → Bool} : ∀ (f j w : Nat), fw p f j = some w → w < j + f := by
  intro f
  induction f with
  | zero => intro j w h; cases h
  | succ f ih =>
    intro j w h
    rw [fw] at h
    split at h
    · cases h; omega
    · have := ih (j + 1) w h; omega
theorem tok0_ok {T : Nat → Nat} {k s : Nat} (hT : ∀ j, T j < 256) (hs : s ≤ k) : TokOK k (tok0 T k s) := by
  by_cases h : k ≤ s
  · rw [tok0_end h]
    exact ⟨Nat.le_refl _, hs, fun e => absurd rfl e, Nat.le_of_ble_eq_true rfl, (fun e => by cases e), (fun _ e => by cases e), (fun _ e => by cases e)⟩
  · have hk : s < k := by omega
    cases h1 : isLet (T s) with
    | true =>
      rw [tok0_word hk h1]
      have r1 := run_in (p := isLet) (T := T) (k := k) _ s rfl hs
      have r2 := run_in (p := isLet) (T := T) (k := k) _ (s + 1) rfl (by omega)
      have r3 := run_go hk h1
      refine ⟨r1.1, r1.2, fun _ => ?_, Nat.le_of_ble_eq_true rfl, (fun e => by cases e), (fun _ e => by cases e), fun w e => ?_⟩
      · show s < run isLet T k s
        rw [r3]; omega
      · have := fw_lt _ _ _ e
        omega
    | false =>
      cases h2 : isDig (T s) with
      | true =>
        rw [tok0_num hk h1 h2]
        have r1 := run_in (p := isDig) (T := T) (k := k) _ s rfl hs
        have r2 := run_in (p := isDig) (T := T) (k := k) _ (s + 1) rfl (by omega)
        have r3 := run_go hk h2
        refine ⟨r1.1, r1.2, fun _ => ?_, ?_, fun _ => ⟨_, rfl⟩, fun z e => ?_, (fun _ e => by cases e)⟩
        · show s < run isDig T k s
          rw [r3]; omega
        · show (if 6 < run isDig T k s - s then 4 else 2) ≤ 4
          split <;> decide
        · cases e
          exact val_lt hT _ (by omega)
      | false =>
        cases h3 : isSgn (T s) with
        | true =>
          rw [tok0_sgn hk h1 h2 h3]
          exact ⟨by show s ≤ s + 1; omega, by show s + 1 ≤ k; omega, fun _ => by show s < s + 1; omega, Nat.le_of_ble_eq_true rfl, (fun e => by cases e), (fun z e => by cases e; have := hT s; omega), (fun _ e => by cases e)⟩
        | false =>
          rw [tok0_bad hk h1 h2 h3]
          exact ⟨by show s ≤ s + 1; omega, by show s + 1 ≤ k; omega, fun _ => by show s < s + 1; omega, Nat.le_of_ble_eq_true rfl, (fun e => by cases e), (fun z e => by cases e; have := hT s; omega), (fun _ e => by cases e)⟩
theorem tok0_sta (T : Nat → Nat) (k s : Nat) : (tok0 T k s).2.1 = s := by
  unfold tok0
  split
  · rfl
  · split
    · rfl
    · split <;> rfl
theorem noTouch_0 (so : Nat) : noTouch so 0 = false := by simp [noTouch]
theorem tokAt_ok {T : Nat → Nat} {k so e : Nat} (hT : ∀ j, T j < 256) (he : e ≤ k) : TokOK k (tokAt T k so e) := by
  have r1 := run_in (p := isBlk) (T := T) (k := k) _ e rfl he
  have h := tok0_ok (T := T) hT r1.2
  unfold tokAt
  split
  · rename_i q
    obtain ⟨h1, h2, h3, h4, h5, h6, h7⟩ := h
    have hn : (tok0 T k (run isBlk T k e)).1 ≠ 0 := fun z => by rw [z, noTouch_0] at q; cases q.2
    exact ⟨h1, h2, fun _ => h3 hn, Nat.le_of_ble_eq_true rfl, (fun e => by cases e), h6, h7⟩
  · exact h
theorem tokAt_sta {T : Nat → Nat} {k so e : Nat} : (tokAt T k so e).2.1 = run isBlk T k e := by
  unfold tokAt
  split <;> exact tok0_sta _ _ _
def tTake (T : Nat → Nat) (k : Nat) (x : TO) : TO := (tokAt T k x.1.1 x.1.2.2.1, prt T x.1.2.1 x.1.2.2.1 x.2)
theorem take_cap {T : Nat → Nat} {k so sta en : Nat} {out : List Nat} (he : en ≤ k) (h : sta < en) (hc : out.length ≤ 2 * sta) : (prt T sta en out).length ≤ 2 * (tokAt T k so en).2.1 := by
  rw [tokAt_sta]
  have r1 := run_in (p := isBlk) (T := T) (k := k) _ en rfl he
  have : (prt T sta en out).length ≤ out.length + 1 + (en - sta) := by
    unfold prt
    split <;> simp <;> omega
  omega
def pNum (T : Nat → Nat) (k lo hi : Nat) (x : TO) : Option Nat × TO := match x.1.2.2.2.1 with
  | none => (none, x)
  | some z => if x.1.1 = 2 ∧ lo ≤ z ∧ z ≤ hi then (some z, tTake T k x) else (none, x)
theorem pNum_sort {T : Nat → Nat} {k lo hi so sta en : Nat} {v wd : Option Nat} {out : List Nat} (h : so ≠ 2) : pNum T k lo hi ((so, sta, en, v, wd), out) = (none, (so, sta, en, v, wd), out) := by
  cases v with
  | none => rfl
  | some z => exact if_neg (fun q => h q.1)
theorem pNum_no {T : Nat → Nat} {k lo hi so sta en z : Nat} {wd : Option Nat} {out : List Nat} (h : ¬ (lo ≤ z ∧ z ≤ hi)) : pNum T k lo hi ((so, sta, en, some z, wd), out) = (none, (so, sta, en, some z, wd), out) := if_neg (fun q => h q.2)
theorem pNum_yes {T : Nat → Nat} {k lo hi so sta en z : Nat} {wd : Option Nat} {out : List Nat} (h : so = 2) (h1 : lo ≤ z) (h2 : z ≤ hi) : pNum T k lo hi ((so, sta, en, some z, wd), out) = (some z, tTake T k ((so, sta, en, some z, wd), out)) := if_pos ⟨h, h1, h2⟩
/-- which comparison stands there: 0 =, 1 <, 2 > -/
def cmpN (T : Nat → Nat) (x : Tok) : Option Nat := if isSg T x.1 x.2.1 61 = true then some 0 else if isSg T x.1 x.2.1 60 = true then some 1 else if isSg T x.1 x.2.1 62 = true then some 2 else none
theorem cmpN_0 {T : Nat → Nat} {so sta en : Nat} {v wd : Option Nat} (h : isSg T so sta 61 = true) : cmpN T (so, sta, en, v, wd) = some 0 := if_pos h
theorem cmpN_1 {T : Nat → Nat} {so sta en : Nat} {v wd : Option Nat} (h : isSg T so sta 61 = false) (h1 : isSg T so sta 60 = true) : cmpN T (so, sta, en, v, wd) = some 1 := by simp [cmpN, h, h1]
theorem cmpN_2 {T : Nat → Nat} {so sta en : Nat} {v wd : Option Nat} (h : isSg T so sta 61 = false) (h1 : isSg T so sta 60 = false) (h2 : isSg T so sta 62 = true) : cmpN T (so, sta, en, v, wd) = some 2 := by simp [cmpN, h, h1, h2]
theorem cmpN_n {T : Nat → Nat} {so sta en : Nat} {v wd : Option Nat} (h : isSg T so sta 61 = false) (h1 : isSg T so sta 60 = false) (h2 : isSg T so sta 62 = false) : cmpN T (so, sta, en, v, wd) = none := by simp [cmpN, h, h1, h2]
theorem tok_30 {T : Nat → Nat} {k : Nat} : tokAt T k 3 0 = tokAt T k 0 0 := by
  have h : ∀ d, noTouch 3 d = noTouch 0 d := fun d => by simp [noTouch]
  unfold tokAt
  rw [h]
/-- the i-th token, and what is printed before it -/
def nth (T : Nat → Nat) (k : Nat) : Nat → TO
  | 0 => (tokAt T k 0 0, [])
  | i + 1 => tTake T k (nth T k i)
theorem nth_ok {T : Nat → Nat} {k : Nat} (hT : ∀ j, T j < 256) (i : Nat) : TokOK k (nth T k i).1 := by
  induction i with
  | zero => exact tokAt_ok hT (Nat.zero_le _)
  | succ i ih => exact tokAt_ok hT ih.2.1
theorem tok0_sg {T : Nat → Nat} {k s : Nat} (h : (tok0 T k s).1 = 3) : (tok0 T k s).2.2.2.1 = some (T s) := by
  by_cases h0 : k ≤ s
  · rw [tok0_end h0] at h
    simp at h
  · have hk : s < k := by omega
    cases h1 : isLet (T s) with
    | true => rw [tok0_word hk h1] at h; simp at h
    | false =>
      cases h2 : isDig (T s) with
      | true =>
        rw [tok0_num hk h1 h2] at h
        simp only [] at h
        split at h <;> cases h
      | false =>
        cases h3 : isSgn (T s) with
        | true => rw [tok0_sgn hk h1 h2 h3]
        | false => rw [tok0_bad hk h1 h2 h3] at h; simp at h
theorem tokAt_sg {T : Nat → Nat} {k so e : Nat} (h : (tokAt T k so e).1 = 3) : (tokAt T k so e).2.2.2.1 = some (T (tokAt T k so e).2.1) := by
  rw [tokAt_sta]
  unfold tokAt at h ⊢
  split at h
  · simp at h
  · rename_i q
    rw [if_neg q]
    exact tok0_sg h
theorem nth_sg {T : Nat → Nat} {k i : Nat} : (nth T k i).1.1 = 3 → (nth T k i).1.2.2.2.1 = some (T (nth T k i).1.2.1) := by
  cases i <;> exact tokAt_sg
theorem sg_of {T : Nat → Nat} {k nx : Nat} {tk : Tok} {ou : List Nat} (h : nth T k nx = (tk, ou)) : tk.1 = 3 → tk.2.2.2.1 = some (T tk.2.1) := by
  have := nth_sg (T := T) (k := k) (i := nx)
  rw [h] at this
  exact this
theorem nth_cap {T : Nat → Nat} {k : Nat} (hT : ∀ j, T j < 256) : ∀ i, (∀ j, j < i → (nth T k j).1.1 ≠ 0) → (nth T k i).2.length ≤ 2 * (nth T k i).1.2.1 := by
  intro i
  induction i with
  | zero => intro _; exact Nat.zero_le _
  | succ i ih =>
    intro h
    obtain ⟨b1, b2, b3, -⟩ := nth_ok (k := k) hT i
    exact take_cap b2 (b3 (h i (Nat.lt_succ_self _))) (ih fun j q => h j (Nat.lt_succ_of_lt q))
/-- the rows of the tokens hold the first c -/
def TokA (g : GG) (T : Nat → Nat) (k c : Nat) (ZS ZB ZE : Nat → Nat) (ZV ZW : Nat → Option Nat) : Prop := ∀ i, i < c → ZS i = (nth T k i).1.1 ∧ ZB i = (nth T k i).1.2.1 ∧ ZE i = (nth T k i).1.2.2.1 ∧ ZV i = (nth T k i).1.2.2.2.1 ∧ ZW i = wR g (nth T k i).1.2.2.2.2
/-- the text is cut: the last token, and it alone, is the end or wrong -/
def CutA (g : GG) (T : Nat → Nat) (k c : Nat) (ZS ZB ZE : Nat → Nat) (ZV ZW : Nat → Option Nat) : Prop := 0 < c ∧ c ≤ 2001 ∧ TokA g T k c ZS ZB ZE ZV ZW ∧ (∀ i, i + 1 < c → (nth T k i).1.1 ≠ 0 ∧ (nth T k i).1.1 ≠ 4) ∧ ¬ ((nth T k (c - 1)).1.1 ≠ 0 ∧ (nth T k (c - 1)).1.1 ≠ 4)
section CUT
variable {g : GG} {T : Nat → Nat} {k c cnt nx so : Nat} {ZS ZB ZE : Nat → Nat} {ZV ZW : Nat → Option Nat} {tk : Tok} {ou : List Nat}
theorem cut_push (h : TokA g T k c ZS ZB ZE ZV ZW) (htk : tk = (nth T k c).1) : TokA g T k (c + 1) (up ZS c tk.1) (up ZB c tk.2.1) (up ZE c tk.2.2.1) (up ZV c tk.2.2.2.1) (va_up ZW c (wR g tk.2.2.2.2)) := by
  intro i hi
  by_cases e : i = c
  · subst e
    subst htk
    rw [up_self, up_self, up_self, up_self, va_up_self]
    exact ⟨rfl, rfl, rfl, rfl, rfl⟩
  · rw [up_ne _ _ e, up_ne _ _ e, up_ne _ _ e, up_ne _ _ e, va_up_ne _ _ e]
    exact h i (by omega)
theorem cut_live (hl : ∀ i, i + 1 < c → (nth T k i).1.1 ≠ 0 ∧ (nth T k i).1.1 ≠ 4) (hla : c ≠ 0 → so = (nth T k (c - 1)).1.1) (h0 : so ≠ 0) (h4 : so ≠ 4) : ∀ i, i + 1 < c + 1 → (nth T k i).1.1 ≠ 0 ∧ (nth T k i).1.1 ≠ 4 := by
  intro i h
  by_cases q : i + 1 < c
  · exact hl i q
  · have e : c - 1 = i := by omega
    have := hla (by omega)
    rw [e] at this
    rw [← this]
    exact ⟨h0, h4⟩
theorem cut_done (hc : c ≤ 2001) (hz : so = 0 ∨ so = 4) (h3 : c = 0 → so = 3) (hZ : TokA g T k c ZS ZB ZE ZV ZW) (hl : ∀ i, i + 1 < c → (nth T k i).1.1 ≠ 0 ∧ (nth T k i).1.1 ≠ 4) (hla : c ≠ 0 → so = (nth T k (c - 1)).1.1) : CutA g T k c ZS ZB ZE ZV ZW := by
  have h0 : c ≠ 0 := fun h => by have := h3 h; omega
  refine ⟨by omega, hc, hZ, hl, ?_⟩
  rw [← hla h0]
  omega
theorem adv_in (hA : CutA g T k cnt ZS ZB ZE ZV ZW) (hn : nth T k nx = (tk, ou)) (hl : nx < cnt) (h0 : tk.1 ≠ 0 ∧ tk.1 ≠ 4) : nx + 1 < cnt := by
  obtain ⟨a, b, c, d, e⟩ := hA
  by_cases q : nx + 1 < cnt
  · exact q
  · rw [show cnt - 1 = nx by omega, hn] at e
    exact absurd h0 e
theorem last_of (hA : CutA g T k cnt ZS ZB ZE ZV ZW) (hn : nth T k nx = (tk, ou)) (hl : nx < cnt) (h0 : tk.1 = 0) : nth T k (cnt - 1) = (tk, ou) := by
  by_cases q : nx + 1 < cnt
  · have := (hA.2.2.2.1 nx q).1
    rw [hn] at this
    exact absurd h0 this
  · rw [show cnt - 1 = nx by omega, hn]
theorem cap_of (hT : ∀ j, T j < 256) (hA : CutA g T k cnt ZS ZB ZE ZV ZW) (hn : nth T k nx = (tk, ou)) (hl : nx < cnt) : ou.length ≤ 2 * tk.2.1 := by
  have := nth_cap (k := k) hT nx (fun j hj => (hA.2.2.2.1 j (by omega)).1)
  rw [hn] at this
  exact this
end CUT

set_option maxRecDepth 100000 in
theorem ci_Parser : CI 6 R_Parser F_Parser 2 t_Parser := ⟨rfl, ui 2 (by decide +kernel), by decide +kernel, by decide +kernel⟩
set_option maxRecDepth 100000 in
theorem cl_Parser_15 : Cond.classLink R_Parser 15 R_Tokens ∈ GW := (gw (i := 160) rfl rfl)
set_option maxRecDepth 100000 in
theorem fi_Parser_140 : FI R_Parser 140 R_Tokens F_Tokens 11 := Or.inr ⟨"RuleReader", (nw (i := 182) rfl rfl)⟩
set_option maxRecDepth 100000 in
theorem fi_Parser_20 : FI R_Parser 20 R_Parser F_Parser 1 := Or.inl (gw (i := 214) rfl rfl)
set_option maxRecDepth 100000 in
theorem fi_Parser_31 : FI R_Parser 31 R_Tokens F_Tokens 8 := Or.inr ⟨"RuleReader", (nw (i := 177) rfl rfl)⟩
set_option maxRecDepth 100000 in
theorem fi_Tokens_51 : FI R_Tokens 51 R_Tokens F_Tokens 7 := Or.inl (gw (i := 175) rfl rfl)
set_option maxRecDepth 100000 in
theorem fl_Parser_20 : Cond.fieldLink R_Parser 20 R_Parser (F_Parser 1).2.1 (F_Parser 1).2.2.1 ∈ GW := (gw (i := 214) rfl rfl)
set_option maxRecDepth 100000 in
theorem fl_Parser_9 : Cond.fieldLink R_Parser 9 R_Parser (F_Parser 0).2.1 (F_Parser 0).2.2.1 ∈ GW := (gw (i := 213) rfl rfl)
set_option maxRecDepth 100000 in
theorem im_Tokens_init : Cond.instanceMethod y_Tokens_init ∈ GW := (gw (i := 163) rfl rfl)
set_option maxRecDepth 100000 in
theorem in_Tokens : Cond.instantiable R_Tokens 13 ∈ GW := (gw (i := 161) rfl rfl)
set_option maxRecDepth 100000 in
theorem iz_Tokens : Cond.initialized R_Tokens ∈ GW := (gw (i := 77) rfl rfl)
set_option maxRecDepth 100000 in
theorem lk_Parser_17 : LK R_Parser 17 y_Tokens_init := Or.inl (gw (i := 162) rfl rfl)
set_option maxRecDepth 100000 in
theorem lk_Parser_42 : LK R_Parser 42 y_Tokens_isTheSign := Or.inl (gw (i := 436) rfl rfl)
set_option maxRecDepth 100000 in
theorem lk_Parser_49 : LK R_Parser 49 y_Tokens_advance := Or.inl (gw (i := 489) rfl rfl)
set_option maxRecDepth 100000 in
theorem lk_Tokens_44 : LK R_Tokens 44 y_Tokens_scan := Or.inl (gw (i := 333) rfl rfl)
set_option maxRecDepth 100000 in
theorem lk_Tokens_47 : LK R_Tokens 47 y_Tokens_keep := Or.inl (gw (i := 424) rfl rfl)
set_option maxRecDepth 100000 in
theorem lk_Tokens_54 : LK R_Tokens 54 y_Tokens_advance := Or.inl (gw (i := 428) rfl rfl)
set_option maxRecDepth 100000 in
theorem lk_Tokens_67 : LK R_Tokens 67 y_Book_print := Or.inl (gw (i := 563) rfl rfl)
set_option maxRecDepth 100000 in
theorem ml_Parser_3 : Cond.methodLink R_Parser 3 objectInit ∈ GW := (gw (i := 159) rfl rfl)
set_option maxRecDepth 100000 in
theorem mw_Book_print : MW y_Book_print b_Book_print 5 none 3 := ⟨(gw (i := 566) rfl rfl), (gw (i := 75) rfl rfl), by decide +kernel⟩
set_option maxRecDepth 100000 in
theorem mw_Tokens_advance : MW y_Tokens_advance b_Tokens_advance 2 none 0 := ⟨(gw (i := 431) rfl rfl), (gw (i := 77) rfl rfl), by decide +kernel⟩
set_option maxRecDepth 100000 in
theorem mw_Tokens_init : MW y_Tokens_init b_Tokens_init 2 none 1 := ⟨(gw (i := 164) rfl rfl), (gw (i := 77) rfl rfl), by decide +kernel⟩
set_option maxRecDepth 100000 in
theorem mw_Tokens_isTheSign : MW y_Tokens_isTheSign b_Tokens_isTheSign 2 (some .boolean) 1 := ⟨(gw (i := 439) rfl rfl), (gw (i := 77) rfl rfl), by decide +kernel⟩
set_option maxRecDepth 100000 in
theorem mw_Tokens_keep : MW y_Tokens_keep b_Tokens_keep 2 none 1 := ⟨(gw (i := 427) rfl rfl), (gw (i := 77) rfl rfl), by decide +kernel⟩
set_option maxRecDepth 100000 in
theorem mw_Tokens_scan : MW y_Tokens_scan b_Tokens_scan 4 none 0 := ⟨(gw (i := 336) rfl rfl), (gw (i := 77) rfl rfl), by decide +kernel⟩
set_option maxRecDepth 100000 in
theorem vw_Book_print : VW y_Book_print := ⟨(gw (i := 564) rfl rfl), (gw (i := 565) rfl rfl)⟩
set_option maxRecDepth 100000 in
theorem vw_Tokens_advance : VW y_Tokens_advance := ⟨(gw (i := 429) rfl rfl), (gw (i := 430) rfl rfl)⟩
set_option maxRecDepth 100000 in
theorem vw_Tokens_isTheSign : VW y_Tokens_isTheSign := ⟨(gw (i := 437) rfl rfl), (gw (i := 438) rfl rfl)⟩
set_option maxRecDepth 100000 in
theorem vw_Tokens_keep : VW y_Tokens_keep := ⟨(gw (i := 426) rfl rfl), (gw (i := 5) rfl rfl)⟩
set_option maxRecDepth 100000 in
theorem vw_Tokens_scan : VW y_Tokens_scan := ⟨(gw (i := 335) rfl rfl), (gw (i := 0) rfl rfl)⟩
theorem d_Tokens_advance_0 : decode b_Tokens_advance 0 = .ok (.aload_n 0, 1) := by decide +kernel
theorem d_Tokens_advance_1 : decode b_Tokens_advance 1 = .ok (.getfield 51, 3) := by decide +kernel
theorem d_Tokens_advance_4 : decode b_Tokens_advance 4 = .ok (.iconst 1, 1) := by decide +kernel
theorem d_Tokens_advance_5 : decode b_Tokens_advance 5 = .ok (.iadd, 1) := by decide +kernel
theorem d_Tokens_advance_6 : decode b_Tokens_advance 6 = .ok (.istore_n 1, 1) := by decide +kernel
theorem d_Tokens_advance_7 : decode b_Tokens_advance 7 = .ok (.iload_n 1, 1) := by decide +kernel
theorem d_Tokens_advance_8 : decode b_Tokens_advance 8 = .ok (.ifCond .lt 18, 3) := by decide +kernel
theorem d_Tokens_advance_11 : decode b_Tokens_advance 11 = .ok (.iload_n 1, 1) := by decide +kernel
theorem d_Tokens_advance_12 : decode b_Tokens_advance 12 = .ok (.aload_n 0, 1) := by decide +kernel
theorem d_Tokens_advance_13 : decode b_Tokens_advance 13 = .ok (.getfield 34, 3) := by decide +kernel
theorem d_Tokens_advance_16 : decode b_Tokens_advance 16 = .ok (.if_icmp .ge 10, 3) := by decide +kernel
theorem d_Tokens_advance_19 : decode b_Tokens_advance 19 = .ok (.iload_n 1, 1) := by decide +kernel
theorem d_Tokens_advance_20 : decode b_Tokens_advance 20 = .ok (.sipush 2001, 3) := by decide +kernel
theorem d_Tokens_advance_23 : decode b_Tokens_advance 23 = .ok (.if_icmp .lt 4, 3) := by decide +kernel
theorem d_Tokens_advance_26 : decode b_Tokens_advance 26 = .ok (.return_, 1) := by decide +kernel
theorem d_Tokens_advance_27 : decode b_Tokens_advance 27 = .ok (.aload_n 0, 1) := by decide +kernel
theorem d_Tokens_advance_28 : decode b_Tokens_advance 28 = .ok (.iload_n 1, 1) := by decide +kernel
theorem d_Tokens_advance_29 : decode b_Tokens_advance 29 = .ok (.putfield 51, 3) := by decide +kernel
theorem d_Tokens_advance_32 : decode b_Tokens_advance 32 = .ok (.aload_n 0, 1) := by decide +kernel
theorem d_Tokens_advance_33 : decode b_Tokens_advance 33 = .ok (.aload_n 0, 1) := by decide +kernel
theorem d_Tokens_advance_34 : decode b_Tokens_advance 34 = .ok (.getfield 9, 3) := by decide +kernel
theorem d_Tokens_advance_37 : decode b_Tokens_advance 37 = .ok (.iload_n 1, 1) := by decide +kernel
theorem d_Tokens_advance_38 : decode b_Tokens_advance 38 = .ok (.iaload, 1) := by decide +kernel
theorem d_Tokens_advance_39 : decode b_Tokens_advance 39 = .ok (.putfield 38, 3) := by decide +kernel
theorem d_Tokens_advance_42 : decode b_Tokens_advance 42 = .ok (.aload_n 0, 1) := by decide +kernel
theorem d_Tokens_advance_43 : decode b_Tokens_advance 43 = .ok (.aload_n 0, 1) := by decide +kernel
theorem d_Tokens_advance_44 : decode b_Tokens_advance 44 = .ok (.getfield 15, 3) := by decide +kernel
theorem d_Tokens_advance_47 : decode b_Tokens_advance 47 = .ok (.iload_n 1, 1) := by decide +kernel
theorem d_Tokens_advance_48 : decode b_Tokens_advance 48 = .ok (.iaload, 1) := by decide +kernel
theorem d_Tokens_advance_49 : decode b_Tokens_advance 49 = .ok (.putfield 57, 3) := by decide +kernel
theorem d_Tokens_advance_52 : decode b_Tokens_advance 52 = .ok (.aload_n 0, 1) := by decide +kernel
theorem d_Tokens_advance_53 : decode b_Tokens_advance 53 = .ok (.aload_n 0, 1) := by decide +kernel
theorem d_Tokens_advance_54 : decode b_Tokens_advance 54 = .ok (.getfield 21, 3) := by decide +kernel
theorem d_Tokens_advance_57 : decode b_Tokens_advance 57 = .ok (.iload_n 1, 1) := by decide +kernel
theorem d_Tokens_advance_58 : decode b_Tokens_advance 58 = .ok (.iaload, 1) := by decide +kernel
theorem d_Tokens_advance_59 : decode b_Tokens_advance 59 = .ok (.putfield 60, 3) := by decide +kernel
theorem d_Tokens_advance_62 : decode b_Tokens_advance 62 = .ok (.aload_n 0, 1) := by decide +kernel
theorem d_Tokens_advance_63 : decode b_Tokens_advance 63 = .ok (.aload_n 0, 1) := by decide +kernel
theorem d_Tokens_advance_64 : decode b_Tokens_advance 64 = .ok (.getfield 26, 3) := by decide +kernel
theorem d_Tokens_advance_67 : decode b_Tokens_advance 67 = .ok (.iload_n 1, 1) := by decide +kernel
theorem d_Tokens_advance_68 : decode b_Tokens_advance 68 = .ok (.aaload, 1) := by decide +kernel
theorem d_Tokens_advance_69 : decode b_Tokens_advance 69 = .ok (.putfield 63, 3) := by decide +kernel
theorem d_Tokens_advance_72 : decode b_Tokens_advance 72 = .ok (.return_, 1) := by decide +kernel
theorem d_Tokens_cut_0 : decode b_Tokens_cut 0 = .ok (.aload_n 0, 1) := by decide +kernel
theorem d_Tokens_cut_1 : decode b_Tokens_cut 1 = .ok (.iconst 0, 1) := by decide +kernel
theorem d_Tokens_cut_2 : decode b_Tokens_cut 2 = .ok (.putfield 34, 3) := by decide +kernel
theorem d_Tokens_cut_5 : decode b_Tokens_cut 5 = .ok (.aload_n 0, 1) := by decide +kernel
theorem d_Tokens_cut_6 : decode b_Tokens_cut 6 = .ok (.iconst 3, 1) := by decide +kernel
theorem d_Tokens_cut_7 : decode b_Tokens_cut 7 = .ok (.putfield 38, 3) := by decide +kernel
theorem d_Tokens_cut_10 : decode b_Tokens_cut 10 = .ok (.aload_n 0, 1) := by decide +kernel
theorem d_Tokens_cut_11 : decode b_Tokens_cut 11 = .ok (.iconst 0, 1) := by decide +kernel
theorem d_Tokens_cut_12 : decode b_Tokens_cut 12 = .ok (.putfield 41, 3) := by decide +kernel
theorem d_Tokens_cut_15 : decode b_Tokens_cut 15 = .ok (.iconst 0, 1) := by decide +kernel
theorem d_Tokens_cut_16 : decode b_Tokens_cut 16 = .ok (.istore_n 1, 1) := by decide +kernel
theorem d_Tokens_cut_17 : decode b_Tokens_cut 17 = .ok (.iload_n 1, 1) := by decide +kernel
theorem d_Tokens_cut_18 : decode b_Tokens_cut 18 = .ok (.sipush 2001, 3) := by decide +kernel
theorem d_Tokens_cut_21 : decode b_Tokens_cut 21 = .ok (.if_icmp .ge 33, 3) := by decide +kernel
theorem d_Tokens_cut_24 : decode b_Tokens_cut 24 = .ok (.aload_n 0, 1) := by decide +kernel
theorem d_Tokens_cut_25 : decode b_Tokens_cut 25 = .ok (.getfield 38, 3) := by decide +kernel
theorem d_Tokens_cut_28 : decode b_Tokens_cut 28 = .ok (.ifCond .eq 26, 3) := by decide +kernel
theorem d_Tokens_cut_31 : decode b_Tokens_cut 31 = .ok (.aload_n 0, 1) := by decide +kernel
theorem d_Tokens_cut_32 : decode b_Tokens_cut 32 = .ok (.getfield 38, 3) := by decide +kernel
theorem d_Tokens_cut_35 : decode b_Tokens_cut 35 = .ok (.iconst 4, 1) := by decide +kernel
theorem d_Tokens_cut_36 : decode b_Tokens_cut 36 = .ok (.if_icmp .eq 18, 3) := by decide +kernel
theorem d_Tokens_cut_39 : decode b_Tokens_cut 39 = .ok (.aload_n 0, 1) := by decide +kernel
theorem d_Tokens_cut_40 : decode b_Tokens_cut 40 = .ok (.invokevirtual 44, 3) := by decide +kernel
theorem d_Tokens_cut_43 : decode b_Tokens_cut 43 = .ok (.aload_n 0, 1) := by decide +kernel
theorem d_Tokens_cut_44 : decode b_Tokens_cut 44 = .ok (.iload_n 1, 1) := by decide +kernel
theorem d_Tokens_cut_45 : decode b_Tokens_cut 45 = .ok (.invokevirtual 47, 3) := by decide +kernel
theorem d_Tokens_cut_48 : decode b_Tokens_cut 48 = .ok (.iinc 1 1, 3) := by decide +kernel
theorem d_Tokens_cut_51 : decode b_Tokens_cut 51 = .ok (.goto (-34), 3) := by decide +kernel
theorem d_Tokens_cut_54 : decode b_Tokens_cut 54 = .ok (.aload_n 0, 1) := by decide +kernel
theorem d_Tokens_cut_55 : decode b_Tokens_cut 55 = .ok (.iconst (-1), 1) := by decide +kernel
theorem d_Tokens_cut_56 : decode b_Tokens_cut 56 = .ok (.putfield 51, 3) := by decide +kernel
theorem d_Tokens_cut_59 : decode b_Tokens_cut 59 = .ok (.aload_n 0, 1) := by decide +kernel
theorem d_Tokens_cut_60 : decode b_Tokens_cut 60 = .ok (.invokevirtual 54, 3) := by decide +kernel
theorem d_Tokens_cut_63 : decode b_Tokens_cut 63 = .ok (.return_, 1) := by decide +kernel
theorem d_Tokens_printTo_0 : decode b_Tokens_printTo 0 = .ok (.iconst 0, 1) := by decide +kernel
theorem d_Tokens_printTo_1 : decode b_Tokens_printTo 1 = .ok (.istore_n 2, 1) := by decide +kernel
theorem d_Tokens_printTo_2 : decode b_Tokens_printTo 2 = .ok (.iload_n 2, 1) := by decide +kernel
theorem d_Tokens_printTo_3 : decode b_Tokens_printTo 3 = .ok (.aload_n 0, 1) := by decide +kernel
theorem d_Tokens_printTo_4 : decode b_Tokens_printTo 4 = .ok (.getfield 34, 3) := by decide +kernel
theorem d_Tokens_printTo_7 : decode b_Tokens_printTo 7 = .ok (.iconst 1, 1) := by decide +kernel
theorem d_Tokens_printTo_8 : decode b_Tokens_printTo 8 = .ok (.isub, 1) := by decide +kernel
theorem d_Tokens_printTo_9 : decode b_Tokens_printTo 9 = .ok (.if_icmp .ge 36, 3) := by decide +kernel
theorem d_Tokens_printTo_12 : decode b_Tokens_printTo 12 = .ok (.iload_n 2, 1) := by decide +kernel
theorem d_Tokens_printTo_13 : decode b_Tokens_printTo 13 = .ok (.sipush 2001, 3) := by decide +kernel
theorem d_Tokens_printTo_16 : decode b_Tokens_printTo 16 = .ok (.if_icmp .ge 29, 3) := by decide +kernel
theorem d_Tokens_printTo_19 : decode b_Tokens_printTo 19 = .ok (.aload_n 1, 1) := by decide +kernel
theorem d_Tokens_printTo_20 : decode b_Tokens_printTo 20 = .ok (.aload_n 0, 1) := by decide +kernel
theorem d_Tokens_printTo_21 : decode b_Tokens_printTo 21 = .ok (.getfield 30, 3) := by decide +kernel
theorem d_Tokens_printTo_24 : decode b_Tokens_printTo 24 = .ok (.aload_n 0, 1) := by decide +kernel
theorem d_Tokens_printTo_25 : decode b_Tokens_printTo 25 = .ok (.getfield 15, 3) := by decide +kernel
theorem d_Tokens_printTo_28 : decode b_Tokens_printTo 28 = .ok (.iload_n 2, 1) := by decide +kernel
theorem d_Tokens_printTo_29 : decode b_Tokens_printTo 29 = .ok (.iaload, 1) := by decide +kernel
theorem d_Tokens_printTo_30 : decode b_Tokens_printTo 30 = .ok (.aload_n 0, 1) := by decide +kernel
theorem d_Tokens_printTo_31 : decode b_Tokens_printTo 31 = .ok (.getfield 18, 3) := by decide +kernel
theorem d_Tokens_printTo_34 : decode b_Tokens_printTo 34 = .ok (.iload_n 2, 1) := by decide +kernel
theorem d_Tokens_printTo_35 : decode b_Tokens_printTo 35 = .ok (.iaload, 1) := by decide +kernel
theorem d_Tokens_printTo_36 : decode b_Tokens_printTo 36 = .ok (.invokevirtual 67, 3) := by decide +kernel
theorem d_Tokens_printTo_39 : decode b_Tokens_printTo 39 = .ok (.iinc 2 1, 3) := by decide +kernel
theorem d_Tokens_printTo_42 : decode b_Tokens_printTo 42 = .ok (.goto (-40), 3) := by decide +kernel
theorem d_Tokens_printTo_45 : decode b_Tokens_printTo 45 = .ok (.return_, 1) := by decide +kernel
theorem d_Parser_init_0 : decode b_Parser_init 0 = .ok (.aload_n 0, 1) := by decide +kernel
theorem d_Parser_init_1 : decode b_Parser_init 1 = .ok (.invokespecial 3, 3) := by decide +kernel
theorem d_Parser_init_4 : decode b_Parser_init 4 = .ok (.aload_n 0, 1) := by decide +kernel
theorem d_Parser_init_5 : decode b_Parser_init 5 = .ok (.aload_n 2, 1) := by decide +kernel
theorem d_Parser_init_6 : decode b_Parser_init 6 = .ok (.putfield 9, 3) := by decide +kernel
theorem d_Parser_init_9 : decode b_Parser_init 9 = .ok (.aload_n 0, 1) := by decide +kernel
theorem d_Parser_init_10 : decode b_Parser_init 10 = .ok (.new 15, 3) := by decide +kernel
theorem d_Parser_init_13 : decode b_Parser_init 13 = .ok (.dup, 1) := by decide +kernel
theorem d_Parser_init_14 : decode b_Parser_init 14 = .ok (.aload_n 1, 1) := by decide +kernel
theorem d_Parser_init_15 : decode b_Parser_init 15 = .ok (.invokespecial 17, 3) := by decide +kernel
theorem d_Parser_init_18 : decode b_Parser_init 18 = .ok (.putfield 20, 3) := by decide +kernel
theorem d_Parser_init_21 : decode b_Parser_init 21 = .ok (.return_, 1) := by decide +kernel
theorem d_Parser_comparisonNext_0 : decode b_Parser_comparisonNext 0 = .ok (.aload_n 0, 1) := by decide +kernel
theorem d_Parser_comparisonNext_1 : decode b_Parser_comparisonNext 1 = .ok (.getfield 20, 3) := by decide +kernel
theorem d_Parser_comparisonNext_4 : decode b_Parser_comparisonNext 4 = .ok (.bipush 61, 2) := by decide +kernel
theorem d_Parser_comparisonNext_6 : decode b_Parser_comparisonNext 6 = .ok (.invokevirtual 42, 3) := by decide +kernel
theorem d_Parser_comparisonNext_9 : decode b_Parser_comparisonNext 9 = .ok (.ifCond .eq 5, 3) := by decide +kernel
theorem d_Parser_comparisonNext_12 : decode b_Parser_comparisonNext 12 = .ok (.iconst 0, 1) := by decide +kernel
theorem d_Parser_comparisonNext_13 : decode b_Parser_comparisonNext 13 = .ok (.ireturn, 1) := by decide +kernel
theorem d_Parser_comparisonNext_14 : decode b_Parser_comparisonNext 14 = .ok (.aload_n 0, 1) := by decide +kernel
theorem d_Parser_comparisonNext_15 : decode b_Parser_comparisonNext 15 = .ok (.getfield 20, 3) := by decide +kernel
theorem d_Parser_comparisonNext_18 : decode b_Parser_comparisonNext 18 = .ok (.bipush 60, 2) := by decide +kernel
theorem d_Parser_comparisonNext_20 : decode b_Parser_comparisonNext 20 = .ok (.invokevirtual 42, 3) := by decide +kernel
theorem d_Parser_comparisonNext_23 : decode b_Parser_comparisonNext 23 = .ok (.ifCond .eq 5, 3) := by decide +kernel
theorem d_Parser_comparisonNext_26 : decode b_Parser_comparisonNext 26 = .ok (.iconst 1, 1) := by decide +kernel
theorem d_Parser_comparisonNext_27 : decode b_Parser_comparisonNext 27 = .ok (.ireturn, 1) := by decide +kernel
theorem d_Parser_comparisonNext_28 : decode b_Parser_comparisonNext 28 = .ok (.aload_n 0, 1) := by decide +kernel
theorem d_Parser_comparisonNext_29 : decode b_Parser_comparisonNext 29 = .ok (.getfield 20, 3) := by decide +kernel
theorem d_Parser_comparisonNext_32 : decode b_Parser_comparisonNext 32 = .ok (.bipush 62, 2) := by decide +kernel
theorem d_Parser_comparisonNext_34 : decode b_Parser_comparisonNext 34 = .ok (.invokevirtual 42, 3) := by decide +kernel
theorem d_Parser_comparisonNext_37 : decode b_Parser_comparisonNext 37 = .ok (.ifCond .eq 7, 3) := by decide +kernel
theorem d_Parser_comparisonNext_40 : decode b_Parser_comparisonNext 40 = .ok (.iconst 2, 1) := by decide +kernel
theorem d_Parser_comparisonNext_41 : decode b_Parser_comparisonNext 41 = .ok (.goto 4, 3) := by decide +kernel
theorem d_Parser_comparisonNext_44 : decode b_Parser_comparisonNext 44 = .ok (.iconst (-1), 1) := by decide +kernel
theorem d_Parser_comparisonNext_45 : decode b_Parser_comparisonNext 45 = .ok (.ireturn, 1) := by decide +kernel
theorem d_Parser_takeNumber_0 : decode b_Parser_takeNumber 0 = .ok (.aload_n 0, 1) := by decide +kernel
theorem d_Parser_takeNumber_1 : decode b_Parser_takeNumber 1 = .ok (.getfield 20, 3) := by decide +kernel
theorem d_Parser_takeNumber_4 : decode b_Parser_takeNumber 4 = .ok (.getfield 140, 3) := by decide +kernel
theorem d_Parser_takeNumber_7 : decode b_Parser_takeNumber 7 = .ok (.istore_n 3, 1) := by decide +kernel
theorem d_Parser_takeNumber_8 : decode b_Parser_takeNumber 8 = .ok (.aload_n 0, 1) := by decide +kernel
theorem d_Parser_takeNumber_9 : decode b_Parser_takeNumber 9 = .ok (.getfield 20, 3) := by decide +kernel
theorem d_Parser_takeNumber_12 : decode b_Parser_takeNumber 12 = .ok (.getfield 31, 3) := by decide +kernel
theorem d_Parser_takeNumber_15 : decode b_Parser_takeNumber 15 = .ok (.iconst 2, 1) := by decide +kernel
theorem d_Parser_takeNumber_16 : decode b_Parser_takeNumber 16 = .ok (.if_icmp .ne 13, 3) := by decide +kernel
theorem d_Parser_takeNumber_19 : decode b_Parser_takeNumber 19 = .ok (.iload_n 3, 1) := by decide +kernel
theorem d_Parser_takeNumber_20 : decode b_Parser_takeNumber 20 = .ok (.iload_n 1, 1) := by decide +kernel
theorem d_Parser_takeNumber_21 : decode b_Parser_takeNumber 21 = .ok (.if_icmp .lt 8, 3) := by decide +kernel
theorem d_Parser_takeNumber_24 : decode b_Parser_takeNumber 24 = .ok (.iload_n 3, 1) := by decide +kernel
theorem d_Parser_takeNumber_25 : decode b_Parser_takeNumber 25 = .ok (.iload_n 2, 1) := by decide +kernel
theorem d_Parser_takeNumber_26 : decode b_Parser_takeNumber 26 = .ok (.if_icmp .le 5, 3) := by decide +kernel
theorem d_Parser_takeNumber_29 : decode b_Parser_takeNumber 29 = .ok (.iconst (-1), 1) := by decide +kernel
theorem d_Parser_takeNumber_30 : decode b_Parser_takeNumber 30 = .ok (.ireturn, 1) := by decide +kernel
theorem d_Parser_takeNumber_31 : decode b_Parser_takeNumber 31 = .ok (.aload_n 0, 1) := by decide +kernel
theorem d_Parser_takeNumber_32 : decode b_Parser_takeNumber 32 = .ok (.getfield 20, 3) := by decide +kernel
theorem d_Parser_takeNumber_35 : decode b_Parser_takeNumber 35 = .ok (.invokevirtual 49, 3) := by decide +kernel
theorem d_Parser_takeNumber_38 : decode b_Parser_takeNumber 38 = .ok (.iload_n 3, 1) := by decide +kernel
theorem d_Parser_takeNumber_39 : decode b_Parser_takeNumber 39 = .ok (.ireturn, 1) := by decide +kernel
set_option maxHeartbeats 4000000 in
set_option maxRecDepth 100000 in
theorem c_Tokens_advance (g : GG) (l : Launch) {k : Nat} {so : Nat} {sta : Nat} {en : Nat} {ee : Nat} {a : Nat} {t : Nat} {zs : Nat} {zb : Nat} {ze : Nat} {zv : Nat} {zw : Nat} {cnt : Nat} {nx : Nat} {T : Nat → Nat} {ZS : Nat → Nat} {ZB : Nat → Nat} {ZE : Nat → Nat} {ZV : Nat → Option Nat} {ZW : Nat → Option Nat} {v : Option Nat} {wd : Option Nat} {out : List Nat}  (hT : ∀ j, T j < 256) (hA : CutA g T k cnt ZS ZB ZE ZV ZW) (hcap : nth T k nx = ((so, sta, en, v, wd), out)) (ho : nx < cnt) (h0 : so ≠ 0 ∧ so ≠ 4) : Cn g l y_Tokens_advance b_Tokens_advance 2 none (rmk 0 0 0 0) [.ref a] ([(a, .inr (2, [.ref t, .ref zs, .ref zb, .ref ze, .ref zv, .ref zw, .int (nI cnt), .int (nI nx), .int (nI so), .int (nI sta), .int (nI ee), .int (oI v), va_rf (wR g wd)])), (zs, .inl (g.2.1 0, 2001, .inl (aI ZS))), (zb, .inl (g.2.1 0, 2001, .inl (aI ZB))), (ze, .inl (g.2.1 0, 2001, .inl (aI ZE))), (zv, .inl (g.2.1 0, 2001, .inl (oA ZV))), (zw, .inl (g.2.1 6, 2001, .inr (.inr (.inr (.inr ZW)))))]) (fun (r0 : Option Value) (w0 : va_W) => ∃ tk : Tok, ∃ ou : List Nat, ∃ nx2 : Nat, r0 = none ∧ w0 = [(a, .inr (2, [.ref t, .ref zs, .ref zb, .ref ze, .ref zv, .ref zw, .int (nI cnt), .int (nI nx2), .int (nI tk.1), .int (nI tk.2.1), .int (nI ee), .int (oI tk.2.2.2.1), va_rf (wR g tk.2.2.2.2)])), (zs, .inl (g.2.1 0, 2001, .inl (aI ZS))), (zb, .inl (g.2.1 0, 2001, .inl (aI ZB))), (ze, .inl (g.2.1 0, 2001, .inl (aI ZE))), (zv, .inl (g.2.1 0, 2001, .inl (oA ZV))), (zw, .inl (g.2.1 6, 2001, .inr (.inr (.inr (.inr ZW)))))] ∧ ((tk, ou) = tTake T k ((so, sta, en, v, wd), out)) ∧ (TokOK k tk) ∧ (nth T k nx2 = (tk, ou)) ∧ (nx2 < cnt)) := by
  refine Cn.of R_Tokens [(0, .ref a)] (by decide) rfl (Nat.le_of_ble_eq_true rfl) rfl ?_
  intro x A Q hR hXl hin C E
  subst hXl
  have hn1 := adv_in hA hcap ho h0
  have hn2 := hA.2.1
  obtain ⟨q1, q2, q3, q4, q5⟩ := hA.2.2.1 (nx + 1) hn1
  refine r_aload_n C 0 d_Tokens_advance_0 rfl rfl ?_
  refine r_get C 0 7 d_Tokens_advance_1 ci_Tokens fi_Tokens_51 rfl (by decide) rfl rfl ?_
  refine r_iconst C (nI 1) d_Tokens_advance_4 (by decide) ?_
  refine r_nadd C d_Tokens_advance_5 ?_
  refine r_istore_n C (lv' := [(1, .int (nI (nx + 1))), (0, .ref a)]) d_Tokens_advance_6 rfl (by decide) rfl ?_
  refine r_iload_n C 0 d_Tokens_advance_7 rfl rfl ?_
  refine r_nif_lt C 26 d_Tokens_advance_8 (by decide) (by omega) (fun c_8 => ?_) (fun c_8 => ?_)
  · exact absurd c_8 (by omega)
  · skip
    refine r_iload_n C 0 d_Tokens_advance_11 rfl rfl ?_
    refine r_aload_n C 1 d_Tokens_advance_12 rfl rfl ?_
    refine r_get C 0 6 d_Tokens_advance_13 ci_Tokens fi_Tokens_34 rfl (by decide) rfl rfl ?_
    refine r_ncmp_ge C 26 d_Tokens_advance_16 (by decide) (by omega) (by omega) (fun c_16 => ?_) (fun c_16 => ?_)
    · exact absurd c_16 (by omega)
    · skip
      refine r_iload_n C 0 d_Tokens_advance_19 rfl rfl ?_
      refine r_sipush C (nI 2001) d_Tokens_advance_20 (by decide) ?_
      refine r_ncmp_lt C 27 d_Tokens_advance_23 (by decide) (by omega) (by omega) (fun c_23 => ?_) (fun c_23 => ?_)
      · skip
        refine r_aload_n C 1 d_Tokens_advance_27 rfl rfl ?_
        refine r_iload_n C 0 d_Tokens_advance_28 rfl rfl ?_
        refine r_put C (ws' := [(a, .inr (2, [.ref t, .ref zs, .ref zb, .ref ze, .ref zv, .ref zw, .int (nI cnt), .int (nI (nx + 1)), .int (nI so), .int (nI sta), .int (nI ee), .int (oI v), va_rf (wR g wd)])), (zs, .inl (g.2.1 0, 2001, .inl (aI ZS))), (zb, .inl (g.2.1 0, 2001, .inl (aI ZB))), (ze, .inl (g.2.1 0, 2001, .inl (aI ZE))), (zv, .inl (g.2.1 0, 2001, .inl (oA ZV))), (zw, .inl (g.2.1 6, 2001, .inr (.inr (.inr (.inr ZW)))))]) 0 7 d_Tokens_advance_29 ci_Tokens fi_Tokens_51 rfl (by decide) rfl rfl (rfl) (rfl) (by simp) rfl ?_
        refine r_aload_n C 1 d_Tokens_advance_32 rfl rfl ?_
        refine r_aload_n C 1 d_Tokens_advance_33 rfl rfl ?_
        refine r_get C 0 1 d_Tokens_advance_34 ci_Tokens fi_Tokens_9 rfl (by decide) rfl rfl ?_
        refine r_iload_n C 0 d_Tokens_advance_37 rfl rfl ?_
        refine r_nald C 1 0 d_Tokens_advance_38 rfl rfl (by omega) (by decide) ?_
        refine r_put C (ws' := [(a, .inr (2, [.ref t, .ref zs, .ref zb, .ref ze, .ref zv, .ref zw, .int (nI cnt), .int (nI (nx + 1)), .int (nI (ZS (nx + 1))), .int (nI sta), .int (nI ee), .int (oI v), va_rf (wR g wd)])), (zs, .inl (g.2.1 0, 2001, .inl (aI ZS))), (zb, .inl (g.2.1 0, 2001, .inl (aI ZB))), (ze, .inl (g.2.1 0, 2001, .inl (aI ZE))), (zv, .inl (g.2.1 0, 2001, .inl (oA ZV))), (zw, .inl (g.2.1 6, 2001, .inr (.inr (.inr (.inr ZW)))))]) 0 8 d_Tokens_advance_39 ci_Tokens fi_Tokens_38 rfl (by decide) rfl rfl (rfl) (rfl) (by simp) rfl ?_
        refine r_aload_n C 1 d_Tokens_advance_42 rfl rfl ?_
        refine r_aload_n C 1 d_Tokens_advance_43 rfl rfl ?_
        refine r_get C 0 2 d_Tokens_advance_44 ci_Tokens fi_Tokens_15 rfl (by decide) rfl rfl ?_
        refine r_iload_n C 0 d_Tokens_advance_47 rfl rfl ?_
        refine r_nald C 2 0 d_Tokens_advance_48 rfl rfl (by omega) (by decide) ?_
        refine r_put C (ws' := [(a, .inr (2, [.ref t, .ref zs, .ref zb, .ref ze, .ref zv, .ref zw, .int (nI cnt), .int (nI (nx + 1)), .int (nI (ZS (nx + 1))), .int (nI (ZB (nx + 1))), .int (nI ee), .int (oI v), va_rf (wR g wd)])), (zs, .inl (g.2.1 0, 2001, .inl (aI ZS))), (zb, .inl (g.2.1 0, 2001, .inl (aI ZB))), (ze, .inl (g.2.1 0, 2001, .inl (aI ZE))), (zv, .inl (g.2.1 0, 2001, .inl (oA ZV))), (zw, .inl (g.2.1 6, 2001, .inr (.inr (.inr (.inr ZW)))))]) 0 9 d_Tokens_advance_49 ci_Tokens fi_Tokens_57 rfl (by decide) rfl rfl (rfl) (rfl) (by simp) rfl ?_
        refine r_aload_n C 1 d_Tokens_advance_52 rfl rfl ?_
        refine r_aload_n C 1 d_Tokens_advance_53 rfl rfl ?_
        refine r_get C 0 4 d_Tokens_advance_54 ci_Tokens fi_Tokens_21 rfl (by decide) rfl rfl ?_
        refine r_iload_n C 0 d_Tokens_advance_57 rfl rfl ?_
        refine r_oald C 4 0 d_Tokens_advance_58 rfl rfl (by omega) (by decide) ?_
        refine r_put C (ws' := [(a, .inr (2, [.ref t, .ref zs, .ref zb, .ref ze, .ref zv, .ref zw, .int (nI cnt), .int (nI (nx + 1)), .int (nI (ZS (nx + 1))), .int (nI (ZB (nx + 1))), .int (nI ee), .int (oI (ZV (nx + 1))), va_rf (wR g wd)])), (zs, .inl (g.2.1 0, 2001, .inl (aI ZS))), (zb, .inl (g.2.1 0, 2001, .inl (aI ZB))), (ze, .inl (g.2.1 0, 2001, .inl (aI ZE))), (zv, .inl (g.2.1 0, 2001, .inl (oA ZV))), (zw, .inl (g.2.1 6, 2001, .inr (.inr (.inr (.inr ZW)))))]) 0 11 d_Tokens_advance_59 ci_Tokens fi_Tokens_60 rfl (by decide) rfl rfl (rfl) (rfl) (by simp) rfl ?_
        refine r_aload_n C 1 d_Tokens_advance_62 rfl rfl ?_
        refine r_aload_n C 1 d_Tokens_advance_63 rfl rfl ?_
        refine r_get C 0 5 d_Tokens_advance_64 ci_Tokens fi_Tokens_26 rfl (by decide) rfl rfl ?_
        refine r_iload_n C 0 d_Tokens_advance_67 rfl rfl ?_
        refine r_aald C 5 6 d_Tokens_advance_68 rfl rfl (by omega) (by decide) ?_
        refine r_put C (ws' := [(a, .inr (2, [.ref t, .ref zs, .ref zb, .ref ze, .ref zv, .ref zw, .int (nI cnt), .int (nI (nx + 1)), .int (nI (ZS (nx + 1))), .int (nI (ZB (nx + 1))), .int (nI ee), .int (oI (ZV (nx + 1))), va_rf (ZW (nx + 1))])), (zs, .inl (g.2.1 0, 2001, .inl (aI ZS))), (zb, .inl (g.2.1 0, 2001, .inl (aI ZB))), (ze, .inl (g.2.1 0, 2001, .inl (aI ZE))), (zv, .inl (g.2.1 0, 2001, .inl (oA ZV))), (zw, .inl (g.2.1 6, 2001, .inr (.inr (.inr (.inr ZW)))))]) 0 12 d_Tokens_advance_69 ci_Tokens fi_Tokens_63 rfl (by decide) rfl rfl (rf_nar _ _) (rf_fit _ _) (by simp) rfl ?_
        refine r_vret C E d_Tokens_advance_72 (by first | decide | omega | (simp only [rmk]; omega)) (by first | decide | omega | (simp only [rmk]; omega)) ?_
        exact ⟨(nth T k (nx + 1)).1, (nth T k (nx + 1)).2, nx + 1, rfl, by rw [q1, q2, q4, q5], by rw [← hcap]; rfl, nth_ok hT _, rfl, hn1⟩
      · exact absurd c_23 (by omega)

set_option maxHeartbeats 4000000 in
set_option maxRecDepth 100000 in
theorem c_Tokens_advance0 (g : GG) (l : Launch) {k : Nat} {so : Nat} {sta : Nat} {ee : Nat} {a : Nat} {t : Nat} {zs : Nat} {zb : Nat} {ze : Nat} {zv : Nat} {zw : Nat} {cnt : Nat} {T : Nat → Nat} {ZS : Nat → Nat} {ZB : Nat → Nat} {ZE : Nat → Nat} {ZV : Nat → Option Nat} {ZW : Nat → Option Nat} {v : Option Nat} {wd : Option Nat}  (hA : CutA g T k cnt ZS ZB ZE ZV ZW) : Cn g l y_Tokens_advance b_Tokens_advance 2 none (rmk 0 0 0 0) [.ref a] ([(a, .inr (2, [.ref t, .ref zs, .ref zb, .ref ze, .ref zv, .ref zw, .int (nI cnt), .int (-1), .int (nI so), .int (nI sta), .int (nI ee), .int (oI v), va_rf (wR g wd)])), (zs, .inl (g.2.1 0, 2001, .inl (aI ZS))), (zb, .inl (g.2.1 0, 2001, .inl (aI ZB))), (ze, .inl (g.2.1 0, 2001, .inl (aI ZE))), (zv, .inl (g.2.1 0, 2001, .inl (oA ZV))), (zw, .inl (g.2.1 6, 2001, .inr (.inr (.inr (.inr ZW)))))]) (fun (r0 : Option Value) (w0 : va_W) => ∃ tk : Tok, r0 = none ∧ w0 = [(a, .inr (2, [.ref t, .ref zs, .ref zb, .ref ze, .ref zv, .ref zw, .int (nI cnt), .int (nI 0), .int (nI tk.1), .int (nI tk.2.1), .int (nI ee), .int (oI tk.2.2.2.1), va_rf (wR g tk.2.2.2.2)])), (zs, .inl (g.2.1 0, 2001, .inl (aI ZS))), (zb, .inl (g.2.1 0, 2001, .inl (aI ZB))), (ze, .inl (g.2.1 0, 2001, .inl (aI ZE))), (zv, .inl (g.2.1 0, 2001, .inl (oA ZV))), (zw, .inl (g.2.1 6, 2001, .inr (.inr (.inr (.inr ZW)))))] ∧ (tk = (nth T k 0).1)) := by
  refine Cn.of R_Tokens [(0, .ref a)] (by decide) rfl (Nat.le_of_ble_eq_true rfl) rfl ?_
  intro x A Q hR hXl hin C E
  subst hXl
  obtain ⟨hn1, hn2, hn3, -⟩ := id hA
  obtain ⟨q1, q2, q3, q4, q5⟩ := hn3 0 hn1
  refine r_aload_n C 0 d_Tokens_advance_0 rfl rfl ?_
  refine r_get C 0 7 d_Tokens_advance_1 ci_Tokens fi_Tokens_51 rfl (by decide) rfl rfl ?_
  refine r_iconst C (nI 1) d_Tokens_advance_4 (by decide) ?_
  refine r_iadd C d_Tokens_advance_5 ?_
  refine r_top (v' := nI 0) (by decide) ?_
  refine r_istore_n C (lv' := [(1, .int (nI 0)), (0, .ref a)]) d_Tokens_advance_6 rfl (by decide) rfl ?_
  refine r_iload_n C 0 d_Tokens_advance_7 rfl rfl ?_
  refine r_nif_lt C 26 d_Tokens_advance_8 (by decide) (by omega) (fun c_8 => ?_) (fun c_8 => ?_)
  · exact absurd c_8 (by decide)
  refine r_iload_n C 0 d_Tokens_advance_11 rfl rfl ?_
  refine r_aload_n C 1 d_Tokens_advance_12 rfl rfl ?_
  refine r_get C 0 6 d_Tokens_advance_13 ci_Tokens fi_Tokens_34 rfl (by decide) rfl rfl ?_
  refine r_ncmp_ge C 26 d_Tokens_advance_16 (by decide) (by omega) (by omega) (fun c_16 => ?_) (fun c_16 => ?_)
  · exact absurd c_16 (by omega)
  · skip
    refine r_iload_n C 0 d_Tokens_advance_19 rfl rfl ?_
    refine r_sipush C (nI 2001) d_Tokens_advance_20 (by decide) ?_
    refine r_ncmp_lt C 27 d_Tokens_advance_23 (by decide) (by omega) (by omega) (fun c_23 => ?_) (fun c_23 => ?_)
    · skip
      refine r_aload_n C 1 d_Tokens_advance_27 rfl rfl ?_
      refine r_iload_n C 0 d_Tokens_advance_28 rfl rfl ?_
      refine r_put C (ws' := [(a, .inr (2, [.ref t, .ref zs, .ref zb, .ref ze, .ref zv, .ref zw, .int (nI cnt), .int (nI 0), .int (nI so), .int (nI sta), .int (nI ee), .int (oI v), va_rf (wR g wd)])), (zs, .inl (g.2.1 0, 2001, .inl (aI ZS))), (zb, .inl (g.2.1 0, 2001, .inl (aI ZB))), (ze, .inl (g.2.1 0, 2001, .inl (aI ZE))), (zv, .inl (g.2.1 0, 2001, .inl (oA ZV))), (zw, .inl (g.2.1 6, 2001, .inr (.inr (.inr (.inr ZW)))))]) 0 7 d_Tokens_advance_29 ci_Tokens fi_Tokens_51 rfl (by decide) rfl rfl (rfl) (rfl) (by simp) rfl ?_
      refine r_aload_n C 1 d_Tokens_advance_32 rfl rfl ?_
      refine r_aload_n C 1 d_Tokens_advance_33 rfl rfl ?_
      refine r_get C 0 1 d_Tokens_advance_34 ci_Tokens fi_Tokens_9 rfl (by decide) rfl rfl ?_
      refine r_iload_n C 0 d_Tokens_advance_37 rfl rfl ?_
      refine r_nald C 1 0 d_Tokens_advance_38 rfl rfl (by omega) (by decide) ?_
      refine r_put C (ws' := [(a, .inr (2, [.ref t, .ref zs, .ref zb, .ref ze, .ref zv, .ref zw, .int (nI cnt), .int (nI 0), .int (nI (ZS 0)), .int (nI sta), .int (nI ee), .int (oI v), va_rf (wR g wd)])), (zs, .inl (g.2.1 0, 2001, .inl (aI ZS))), (zb, .inl (g.2.1 0, 2001, .inl (aI ZB))), (ze, .inl (g.2.1 0, 2001, .inl (aI ZE))), (zv, .inl (g.2.1 0, 2001, .inl (oA ZV))), (zw, .inl (g.2.1 6, 2001, .inr (.inr (.inr (.inr ZW)))))]) 0 8 d_Tokens_advance_39 ci_Tokens fi_Tokens_38 rfl (by decide) rfl rfl (rfl) (rfl) (by simp) rfl ?_
      refine r_aload_n C 1 d_Tokens_advance_42 rfl rfl ?_
      refine r_aload_n C 1 d_Tokens_advance_43 rfl rfl ?_
      refine r_get C 0 2 d_Tokens_advance_44 ci_Tokens fi_Tokens_15 rfl (by decide) rfl rfl ?_
      refine r_iload_n C 0 d_Tokens_advance_47 rfl rfl ?_
      refine r_nald C 2 0 d_Tokens_advance_48 rfl rfl (by omega) (by decide) ?_
      refine r_put C (ws' := [(a, .inr (2, [.ref t, .ref zs, .ref zb, .ref ze, .ref zv, .ref zw, .int (nI cnt), .int (nI 0), .int (nI (ZS 0)), .int (nI (ZB 0)), .int (nI ee), .int (oI v), va_rf (wR g wd)])), (zs, .inl (g.2.1 0, 2001, .inl (aI ZS))), (zb, .inl (g.2.1 0, 2001, .inl (aI ZB))), (ze, .inl (g.2.1 0, 2001, .inl (aI ZE))), (zv, .inl (g.2.1 0, 2001, .inl (oA ZV))), (zw, .inl (g.2.1 6, 2001, .inr (.inr (.inr (.inr ZW)))))]) 0 9 d_Tokens_advance_49 ci_Tokens fi_Tokens_57 rfl (by decide) rfl rfl (rfl) (rfl) (by simp) rfl ?_
      refine r_aload_n C 1 d_Tokens_advance_52 rfl rfl ?_
      refine r_aload_n C 1 d_Tokens_advance_53 rfl rfl ?_
      refine r_get C 0 4 d_Tokens_advance_54 ci_Tokens fi_Tokens_21 rfl (by decide) rfl rfl ?_
      refine r_iload_n C 0 d_Tokens_advance_57 rfl rfl ?_
      refine r_oald C 4 0 d_Tokens_advance_58 rfl rfl (by omega) (by decide) ?_
      refine r_put C (ws' := [(a, .inr (2, [.ref t, .ref zs, .ref zb, .ref ze, .ref zv, .ref zw, .int (nI cnt), .int (nI 0), .int (nI (ZS 0)), .int (nI (ZB 0)), .int (nI ee), .int (oI (ZV 0)), va_rf (wR g wd)])), (zs, .inl (g.2.1 0, 2001, .inl (aI ZS))), (zb, .inl (g.2.1 0, 2001, .inl (aI ZB))), (ze, .inl (g.2.1 0, 2001, .inl (aI ZE))), (zv, .inl (g.2.1 0, 2001, .inl (oA ZV))), (zw, .inl (g.2.1 6, 2001, .inr (.inr (.inr (.inr ZW)))))]) 0 11 d_Tokens_advance_59 ci_Tokens fi_Tokens_60 rfl (by decide) rfl rfl (rfl) (rfl) (by simp) rfl ?_
      refine r_aload_n C 1 d_Tokens_advance_62 rfl rfl ?_
      refine r_aload_n C 1 d_Tokens_advance_63 rfl rfl ?_
      refine r_get C 0 5 d_Tokens_advance_64 ci_Tokens fi_Tokens_26 rfl (by decide) rfl rfl ?_
      refine r_iload_n C 0 d_Tokens_advance_67 rfl rfl ?_
      refine r_aald C 5 6 d_Tokens_advance_68 rfl rfl (by omega) (by decide) ?_
      refine r_put C (ws' := [(a, .inr (2, [.ref t, .ref zs, .ref zb, .ref ze, .ref zv, .ref zw, .int (nI cnt), .int (nI 0), .int (nI (ZS 0)), .int (nI (ZB 0)), .int (nI ee), .int (oI (ZV 0)), va_rf (ZW 0)])), (zs, .inl (g.2.1 0, 2001, .inl (aI ZS))), (zb, .inl (g.2.1 0, 2001, .inl (aI ZB))), (ze, .inl (g.2.1 0, 2001, .inl (aI ZE))), (zv, .inl (g.2.1 0, 2001, .inl (oA ZV))), (zw, .inl (g.2.1 6, 2001, .inr (.inr (.inr (.inr ZW)))))]) 0 12 d_Tokens_advance_69 ci_Tokens fi_Tokens_63 rfl (by decide) rfl rfl (rf_nar _ _) (rf_fit _ _) (by simp) rfl ?_
      refine r_vret C E d_Tokens_advance_72 (by first | decide | omega | (simp only [rmk]; omega)) (by first | decide | omega | (simp only [rmk]; omega)) ?_
      exact ⟨(nth T k 0).1, rfl, by rw [q1, q2, q4, q5], rfl⟩
    · exact absurd c_23 (by omega)

set_option maxHeartbeats 4000000 in
set_option maxRecDepth 100000 in
theorem lp_Tokens_cut_17 (g : GG) {a : Nat} {t : Nat} {zs : Nat} {zb : Nat} {ze : Nat} {zv : Nat} {zw : Nat} {cnt : Nat} {nx : Nat} {tb : Nat} {k : Nat} {so : Nat} {sta : Nat} {en : Nat} {T : Nat → Nat} {v : Option Nat} {wd : Option Nat} {ZS : Nat → Nat} {ZB : Nat → Nat} {ZE : Nat → Nat} {ZV : Nat → Option Nat} {ZW : Nat → Option Nat} (hk : k ≤ 2000) (hT : ∀ j, T j < 256) {x : X0} {A : Nat → Prop} {Q : State → Prop}  (C : CX x g A R_Tokens b_Tokens_cut 2) (E : RX x g A Q none (fun (r0 : Option Value) (w0 : va_W) => ∃ tk : Tok, ∃ cnt2 : Nat, ∃ ee2 : Nat, ∃ ZS2 : Nat → Nat, ∃ ZB2 : Nat → Nat, ∃ ZE2 : Nat → Nat, ∃ ZV2 : Nat → Option Nat, ∃ ZW2 : Nat → Option Nat, r0 = none ∧ w0 = [(a, .inr (2, [.ref t, .ref zs, .ref zb, .ref ze, .ref zv, .ref zw, .int (nI cnt2), .int (nI 0), .int (nI tk.1), .int (nI tk.2.1), .int (nI ee2), .int (oI tk.2.2.2.1), va_rf (wR g tk.2.2.2.2)])), (t, .inr (1, [.ref tb, .int (nI k)])), (tb, .inl (g.2.1 1, 2000, .inl (aI T))), (zs, .inl (g.2.1 0, 2001, .inl (aI ZS2))), (zb, .inl (g.2.1 0, 2001, .inl (aI ZB2))), (ze, .inl (g.2.1 0, 2001, .inl (aI ZE2))), (zv, .inl (g.2.1 0, 2001, .inl (oA ZV2))), (zw, .inl (g.2.1 6, 2001, .inr (.inr (.inr (.inr ZW2)))))] ∧ (tk = (nth T k 0).1) ∧ (CutA g T k cnt2 ZS2 ZB2 ZE2 ZV2 ZW2)) (rmk 8 0 0 175).cells (rmk 8 0 0 175).slots) (hR : xR x = (rmk 8 0 0 175)) : ∀ (fuel : Nat) (c : Nat) (so1 : Nat) (sta1 : Nat) (en1 : Nat) (v1 : Option Nat) (wd1 : Option Nat) (ZS1 : Nat → Nat) (ZB1 : Nat → Nat) (ZE1 : Nat → Nat) (ZV1 : Nat → Option Nat) (ZW1 : Nat → Option Nat) (hc : c ≤ 2001) (hnx : tokAt T k so1 en1 = (nth T k c).1) (he : en1 ≤ k) (hs4 : so1 ≤ 4) (hge : so1 ≠ 0 → c ≤ en1) (hZ : TokA g T k c ZS1 ZB1 ZE1 ZV1 ZW1) (hl : ∀ i, i + 1 < c → (nth T k i).1.1 ≠ 0 ∧ (nth T k i).1.1 ≠ 4) (hla : c ≠ 0 → so1 = (nth T k (c - 1)).1.1) (h3 : c = 0 → so1 = 3), 2001 - c < fuel → J x g A Q 2 ([(a, .inr (2, [.ref t, .ref zs, .ref zb, .ref ze, .ref zv, .ref zw, .int (nI c), .int (nI nx), .int (nI so1), .int (nI sta1), .int (nI en1), .int (oI v1), va_rf (wR g wd1)])), (t, .inr (1, [.ref tb, .int (nI k)])), (tb, .inl (g.2.1 1, 2000, .inl (aI T))), (zs, .inl (g.2.1 0, 2001, .inl (aI ZS1))), (zb, .inl (g.2.1 0, 2001, .inl (aI ZB1))), (ze, .inl (g.2.1 0, 2001, .inl (aI ZE1))), (zv, .inl (g.2.1 0, 2001, .inl (oA ZV1))), (zw, .inl (g.2.1 6, 2001, .inr (.inr (.inr (.inr ZW1)))))]) [(0, .ref a), (1, .int (nI c))] 17 [] 0 0 := by
  intro fuel
  induction fuel with
  | zero =>
    intro c so1 sta1 en1 v1 wd1 ZS1 ZB1 ZE1 ZV1 ZW1 hc hnx he hs4 hge hZ hl hla h3 hm
    exact absurd hm (Nat.not_lt_zero _)
  | succ fuel ih =>
    intro c so1 sta1 en1 v1 wd1 ZS1 ZB1 ZE1 ZV1 ZW1 hc hnx he hs4 hge hZ hl hla h3 hm
    refine r_iload_n C 1 d_Tokens_cut_17 rfl rfl ?_
    refine r_sipush C (nI 2001) d_Tokens_cut_18 (by decide) ?_
    refine r_ncmp_ge C 54 d_Tokens_cut_21 (by decide) (by omega) (by omega) (fun c_21 => ?_) (fun c_21 => ?_)
    · skip
      have hz : so1 = 0 ∨ so1 = 4 := by omega
      have hCA := cut_done hc hz h3 hZ hl hla
      refine r_aload_n C 0 d_Tokens_cut_54 rfl rfl ?_
      refine r_iconst C ((-1)) d_Tokens_cut_55 (by decide) ?_
      refine r_put C (ws' := [(a, .inr (2, [.ref t, .ref zs, .ref zb, .ref ze, .ref zv, .ref zw, .int (nI c), .int (-1), .int (nI so1), .int (nI sta1), .int (nI en1), .int (oI v1), va_rf (wR g wd1)])), (t, .inr (1, [.ref tb, .int (nI k)])), (tb, .inl (g.2.1 1, 2000, .inl (aI T))), (zs, .inl (g.2.1 0, 2001, .inl (aI ZS1))), (zb, .inl (g.2.1 0, 2001, .inl (aI ZB1))), (ze, .inl (g.2.1 0, 2001, .inl (aI ZE1))), (zv, .inl (g.2.1 0, 2001, .inl (oA ZV1))), (zw, .inl (g.2.1 6, 2001, .inr (.inr (.inr (.inr ZW1)))))]) 0 7 d_Tokens_cut_56 ci_Tokens fi_Tokens_51 rfl (by decide) rfl rfl (rfl) (rfl) (by simp) rfl ?_
      refine r_aload_n C 0 d_Tokens_cut_59 rfl rfl ?_
      refine j_callV C (c_Tokens_advance0 g (xl x) (k := k) (so := so1) (sta := sta1) (ee := en1) (a := a) (t := t) (zs := zs) (zb := zb) (ze := ze) (zv := zv) (zw := zw) (cnt := c) (T := T) (ZS := ZS1) (ZB := ZB1) (ZE := ZE1) (ZV := ZV1) (ZW := ZW1) (v := v1) (wd := wd1) (by first | assumption | rfl | omega)) (Sp.of (wr := [(t, .inr (1, [.ref tb, .int (nI k)])), (tb, .inl (g.2.1 1, 2000, .inl (aI T)))]) [0, 3, 4, 5, 6, 7] [1, 2] rfl rfl rfl rfl (by decide)) d_Tokens_cut_60 lk_Tokens_54 mw_Tokens_advance vw_Tokens_advance (q0 := 0) rfl rfl (fit_of hR (by first | decide | (simp only [rmk]; omega)) (by first | decide | (simp only [rmk]; omega)) (by first | decide | (simp only [rmk]; omega)) (by first | decide | (simp only [rmk]; omega))) rfl (cat8 (Nat.le_of_ble_eq_true rfl)) (As := []) (rest := []) rfl (fun r_60 w_60 hp_60 => ?_)
      obtain ⟨tk_60, rfl, rfl, htk_60⟩ := hp_60
      refine r_after (ws' := [(a, .inr (2, [.ref t, .ref zs, .ref zb, .ref ze, .ref zv, .ref zw, .int (nI c), .int (nI 0), .int (nI tk_60.1), .int (nI tk_60.2.1), .int (nI en1), .int (oI tk_60.2.2.2.1), va_rf (wR g tk_60.2.2.2.2)])), (t, .inr (1, [.ref tb, .int (nI k)])), (tb, .inl (g.2.1 1, 2000, .inl (aI T))), (zs, .inl (g.2.1 0, 2001, .inl (aI ZS1))), (zb, .inl (g.2.1 0, 2001, .inl (aI ZB1))), (ze, .inl (g.2.1 0, 2001, .inl (aI ZE1))), (zv, .inl (g.2.1 0, 2001, .inl (oA ZV1))), (zw, .inl (g.2.1 6, 2001, .inr (.inr (.inr (.inr ZW1)))))]) (st' := []) (n1 := 0) (n2 := 0) [2, 0, 1, 3, 4, 5, 6, 7] rfl rfl rfl rfl rfl ?_
      refine r_vret C E d_Tokens_cut_63 (by first | decide | omega | (simp only [rmk]; omega)) (by first | decide | omega | (simp only [rmk]; omega)) ?_
      exact ⟨_, _, _, _, _, _, _, _, rfl, rfl, htk_60, hCA⟩
    · skip
      refine r_aload_n C 0 d_Tokens_cut_24 rfl rfl ?_
      refine r_get C 0 8 d_Tokens_cut_25 ci_Tokens fi_Tokens_38 rfl (by decide) rfl rfl ?_
      refine r_nif_eq C 54 d_Tokens_cut_28 (by decide) (by omega) (fun c_28 => ?_) (fun c_28 => ?_)
      · skip
        have hz : so1 = 0 ∨ so1 = 4 := by omega
        have hCA := cut_done hc hz h3 hZ hl hla
        refine r_aload_n C 0 d_Tokens_cut_54 rfl rfl ?_
        refine r_iconst C ((-1)) d_Tokens_cut_55 (by decide) ?_
        refine r_put C (ws' := [(a, .inr (2, [.ref t, .ref zs, .ref zb, .ref ze, .ref zv, .ref zw, .int (nI c), .int (-1), .int (nI so1), .int (nI sta1), .int (nI en1), .int (oI v1), va_rf (wR g wd1)])), (t, .inr (1, [.ref tb, .int (nI k)])), (tb, .inl (g.2.1 1, 2000, .inl (aI T))), (zs, .inl (g.2.1 0, 2001, .inl (aI ZS1))), (zb, .inl (g.2.1 0, 2001, .inl (aI ZB1))), (ze, .inl (g.2.1 0, 2001, .inl (aI ZE1))), (zv, .inl (g.2.1 0, 2001, .inl (oA ZV1))), (zw, .inl (g.2.1 6, 2001, .inr (.inr (.inr (.inr ZW1)))))]) 0 7 d_Tokens_cut_56 ci_Tokens fi_Tokens_51 rfl (by decide) rfl rfl (rfl) (rfl) (by simp) rfl ?_
        refine r_aload_n C 0 d_Tokens_cut_59 rfl rfl ?_
        refine j_callV C (c_Tokens_advance0 g (xl x) (k := k) (so := so1) (sta := sta1) (ee := en1) (a := a) (t := t) (zs := zs) (zb := zb) (ze := ze) (zv := zv) (zw := zw) (cnt := c) (T := T) (ZS := ZS1) (ZB := ZB1) (ZE := ZE1) (ZV := ZV1) (ZW := ZW1) (v := v1) (wd := wd1) (by first | assumption | rfl | omega)) (Sp.of (wr := [(t, .inr (1, [.ref tb, .int (nI k)])), (tb, .inl (g.2.1 1, 2000, .inl (aI T)))]) [0, 3, 4, 5, 6, 7] [1, 2] rfl rfl rfl rfl (by decide)) d_Tokens_cut_60 lk_Tokens_54 mw_Tokens_advance vw_Tokens_advance (q0 := 0) rfl rfl (fit_of hR (by first | decide | (simp only [rmk]; omega)) (by first | decide | (simp only [rmk]; omega)) (by first | decide | (simp only [rmk]; omega)) (by first | decide | (simp only [rmk]; omega))) rfl (cat8 (Nat.le_of_ble_eq_true rfl)) (As := []) (rest := []) rfl (fun r_60 w_60 hp_60 => ?_)
        obtain ⟨tk_60, rfl, rfl, htk_60⟩ := hp_60
        refine r_after (ws' := [(a, .inr (2, [.ref t, .ref zs, .ref zb, .ref ze, .ref zv, .ref zw, .int (nI c), .int (nI 0), .int (nI tk_60.1), .int (nI tk_60.2.1), .int (nI en1), .int (oI tk_60.2.2.2.1), va_rf (wR g tk_60.2.2.2.2)])), (t, .inr (1, [.ref tb, .int (nI k)])), (tb, .inl (g.2.1 1, 2000, .inl (aI T))), (zs, .inl (g.2.1 0, 2001, .inl (aI ZS1))), (zb, .inl (g.2.1 0, 2001, .inl (aI ZB1))), (ze, .inl (g.2.1 0, 2001, .inl (aI ZE1))), (zv, .inl (g.2.1 0, 2001, .inl (oA ZV1))), (zw, .inl (g.2.1 6, 2001, .inr (.inr (.inr (.inr ZW1)))))]) (st' := []) (n1 := 0) (n2 := 0) [2, 0, 1, 3, 4, 5, 6, 7] rfl rfl rfl rfl rfl ?_
        refine r_vret C E d_Tokens_cut_63 (by first | decide | omega | (simp only [rmk]; omega)) (by first | decide | omega | (simp only [rmk]; omega)) ?_
        exact ⟨_, _, _, _, _, _, _, _, rfl, rfl, htk_60, hCA⟩
      · skip
        refine r_aload_n C 0 d_Tokens_cut_31 rfl rfl ?_
        refine r_get C 0 8 d_Tokens_cut_32 ci_Tokens fi_Tokens_38 rfl (by decide) rfl rfl ?_
        refine r_iconst C (nI 4) d_Tokens_cut_35 (by decide) ?_
        refine r_ncmp_eq C 54 d_Tokens_cut_36 (by decide) (by omega) (by omega) (fun c_36 => ?_) (fun c_36 => ?_)
        · skip
          have hz : so1 = 0 ∨ so1 = 4 := by omega
          have hCA := cut_done hc hz h3 hZ hl hla
          refine r_aload_n C 0 d_Tokens_cut_54 rfl rfl ?_
          refine r_iconst C ((-1)) d_Tokens_cut_55 (by decide) ?_
          refine r_put C (ws' := [(a, .inr (2, [.ref t, .ref zs, .ref zb, .ref ze, .ref zv, .ref zw, .int (nI c), .int (-1), .int (nI so1), .int (nI sta1), .int (nI en1), .int (oI v1), va_rf (wR g wd1)])), (t, .inr (1, [.ref tb, .int (nI k)])), (tb, .inl (g.2.1 1, 2000, .inl (aI T))), (zs, .inl (g.2.1 0, 2001, .inl (aI ZS1))), (zb, .inl (g.2.1 0, 2001, .inl (aI ZB1))), (ze, .inl (g.2.1 0, 2001, .inl (aI ZE1))), (zv, .inl (g.2.1 0, 2001, .inl (oA ZV1))), (zw, .inl (g.2.1 6, 2001, .inr (.inr (.inr (.inr ZW1)))))]) 0 7 d_Tokens_cut_56 ci_Tokens fi_Tokens_51 rfl (by decide) rfl rfl (rfl) (rfl) (by simp) rfl ?_
          refine r_aload_n C 0 d_Tokens_cut_59 rfl rfl ?_
          refine j_callV C (c_Tokens_advance0 g (xl x) (k := k) (so := so1) (sta := sta1) (ee := en1) (a := a) (t := t) (zs := zs) (zb := zb) (ze := ze) (zv := zv) (zw := zw) (cnt := c) (T := T) (ZS := ZS1) (ZB := ZB1) (ZE := ZE1) (ZV := ZV1) (ZW := ZW1) (v := v1) (wd := wd1) (by first | assumption | rfl | omega)) (Sp.of (wr := [(t, .inr (1, [.ref tb, .int (nI k)])), (tb, .inl (g.2.1 1, 2000, .inl (aI T)))]) [0, 3, 4, 5, 6, 7] [1, 2] rfl rfl rfl rfl (by decide)) d_Tokens_cut_60 lk_Tokens_54 mw_Tokens_advance vw_Tokens_advance (q0 := 0) rfl rfl (fit_of hR (by first | decide | (simp only [rmk]; omega)) (by first | decide | (simp only [rmk]; omega)) (by first | decide | (simp only [rmk]; omega)) (by first | decide | (simp only [rmk]; omega))) rfl (cat8 (Nat.le_of_ble_eq_true rfl)) (As := []) (rest := []) rfl (fun r_60 w_60 hp_60 => ?_)
          obtain ⟨tk_60, rfl, rfl, htk_60⟩ := hp_60
          refine r_after (ws' := [(a, .inr (2, [.ref t, .ref zs, .ref zb, .ref ze, .ref zv, .ref zw, .int (nI c), .int (nI 0), .int (nI tk_60.1), .int (nI tk_60.2.1), .int (nI en1), .int (oI tk_60.2.2.2.1), va_rf (wR g tk_60.2.2.2.2)])), (t, .inr (1, [.ref tb, .int (nI k)])), (tb, .inl (g.2.1 1, 2000, .inl (aI T))), (zs, .inl (g.2.1 0, 2001, .inl (aI ZS1))), (zb, .inl (g.2.1 0, 2001, .inl (aI ZB1))), (ze, .inl (g.2.1 0, 2001, .inl (aI ZE1))), (zv, .inl (g.2.1 0, 2001, .inl (oA ZV1))), (zw, .inl (g.2.1 6, 2001, .inr (.inr (.inr (.inr ZW1)))))]) (st' := []) (n1 := 0) (n2 := 0) [2, 0, 1, 3, 4, 5, 6, 7] rfl rfl rfl rfl rfl ?_
          refine r_vret C E d_Tokens_cut_63 (by first | decide | omega | (simp only [rmk]; omega)) (by first | decide | omega | (simp only [rmk]; omega)) ?_
          exact ⟨_, _, _, _, _, _, _, _, rfl, rfl, htk_60, hCA⟩
        · skip
          refine r_aload_n C 0 d_Tokens_cut_39 rfl rfl ?_
          refine j_callV C (c_Tokens_scan g (xl x) (a := a) (t := t) (zs := zs) (zb := zb) (ze := ze) (zv := zv) (zw := zw) (cnt := c) (nx := nx) (tb := tb) (k := k) (so := so1) (sta := sta1) (en := en1) (T := T) (v := v1) (wd := wd1) (by first | assumption | rfl | omega) (by first | assumption | rfl | omega) (by first | assumption | rfl | omega) (by first | assumption | rfl | omega)) (Sp.of (wr := [(zs, .inl (g.2.1 0, 2001, .inl (aI ZS1))), (zb, .inl (g.2.1 0, 2001, .inl (aI ZB1))), (ze, .inl (g.2.1 0, 2001, .inl (aI ZE1))), (zv, .inl (g.2.1 0, 2001, .inl (oA ZV1))), (zw, .inl (g.2.1 6, 2001, .inr (.inr (.inr (.inr ZW1)))))]) [0, 1, 2] [3, 4, 5, 6, 7] rfl rfl rfl rfl (by decide)) d_Tokens_cut_40 lk_Tokens_44 mw_Tokens_scan vw_Tokens_scan (q0 := 0) rfl rfl (fit_of hR (by first | decide | (simp only [rmk]; omega)) (by first | decide | (simp only [rmk]; omega)) (by first | decide | (simp only [rmk]; omega)) (by first | decide | (simp only [rmk]; omega))) rfl (cat8 (Nat.le_of_ble_eq_true rfl)) (As := []) (rest := []) rfl (fun r_40 w_40 hp_40 => ?_)
          obtain ⟨tk_40, rfl, rfl, htk_40⟩ := hp_40
          refine r_after (ws' := [(a, .inr (2, [.ref t, .ref zs, .ref zb, .ref ze, .ref zv, .ref zw, .int (nI c), .int (nI nx), .int (nI tk_40.1), .int (nI tk_40.2.1), .int (nI tk_40.2.2.1), .int (oI tk_40.2.2.2.1), va_rf (wR g tk_40.2.2.2.2)])), (t, .inr (1, [.ref tb, .int (nI k)])), (tb, .inl (g.2.1 1, 2000, .inl (aI T))), (zs, .inl (g.2.1 0, 2001, .inl (aI ZS1))), (zb, .inl (g.2.1 0, 2001, .inl (aI ZB1))), (ze, .inl (g.2.1 0, 2001, .inl (aI ZE1))), (zv, .inl (g.2.1 0, 2001, .inl (oA ZV1))), (zw, .inl (g.2.1 6, 2001, .inr (.inr (.inr (.inr ZW1)))))]) (st' := []) (n1 := 0) (n2 := 0) [5, 6, 7, 0, 1, 2, 3, 4] rfl rfl rfl rfl rfl ?_
          have hN40 : tk_40 = (nth T k c).1 := htk_40.trans hnx
          have hO40 : TokOK k tk_40 := by rw [htk_40]; exact tokAt_ok hT he
          have hst40 : en1 ≤ tk_40.2.1 := by rw [htk_40, tokAt_sta]; exact (run_in (p := isBlk) (T := T) (k := k) _ en1 rfl he).1
          refine r_aload_n C 0 d_Tokens_cut_43 rfl rfl ?_
          refine r_iload_n C 1 d_Tokens_cut_44 rfl rfl ?_
          refine j_callV C (c_Tokens_keep g (xl x) (a := a) (t := t) (zs := zs) (zb := zb) (ze := ze) (zv := zv) (zw := zw) (cnt := c) (nx := nx) (so := tk_40.1) (sta := tk_40.2.1) (en := tk_40.2.2.1) (c := c) (v := tk_40.2.2.2.1) (wd := tk_40.2.2.2.2) (ZS := ZS1) (ZB := ZB1) (ZE := ZE1) (ZV := ZV1) (ZW := ZW1) (by first | assumption | rfl | omega) (hO40.2.2.2.2.2.2)) (Sp.of (wr := [(t, .inr (1, [.ref tb, .int (nI k)])), (tb, .inl (g.2.1 1, 2000, .inl (aI T)))]) [0, 3, 4, 5, 6, 7] [1, 2] rfl rfl rfl rfl (by decide)) d_Tokens_cut_45 lk_Tokens_47 mw_Tokens_keep vw_Tokens_keep (q0 := 0) rfl rfl (fit_of hR (by first | decide | (simp only [rmk]; omega)) (by first | decide | (simp only [rmk]; omega)) (by first | decide | (simp only [rmk]; omega)) (by first | decide | (simp only [rmk]; omega))) rfl (cat8 (Nat.le_of_ble_eq_true rfl)) (As := [.int (nI c)]) (rest := []) rfl (fun r_45 w_45 hp_45 => ?_)
          obtain ⟨rfl, rfl⟩ := hp_45
          refine r_after (ws' := [(a, .inr (2, [.ref t, .ref zs, .ref zb, .ref ze, .ref zv, .ref zw, .int (nI (c + 1)), .int (nI nx), .int (nI tk_40.1), .int (nI tk_40.2.1), .int (nI tk_40.2.2.1), .int (oI tk_40.2.2.2.1), va_rf (wR g tk_40.2.2.2.2)])), (t, .inr (1, [.ref tb, .int (nI k)])), (tb, .inl (g.2.1 1, 2000, .inl (aI T))), (zs, .inl (g.2.1 0, 2001, .inl (aI (up ZS1 c tk_40.1)))), (zb, .inl (g.2.1 0, 2001, .inl (aI (up ZB1 c tk_40.2.1)))), (ze, .inl (g.2.1 0, 2001, .inl (aI (up ZE1 c tk_40.2.2.1)))), (zv, .inl (g.2.1 0, 2001, .inl (oA (up ZV1 c tk_40.2.2.2.1)))), (zw, .inl (g.2.1 6, 2001, .inr (.inr (.inr (.inr (va_up ZW1 c (wR g tk_40.2.2.2.2)))))))]) (st' := []) (n1 := 0) (n2 := 0) [2, 0, 1, 3, 4, 5, 6, 7] rfl rfl rfl rfl rfl ?_
          refine r_iinc C 1 (nI (c + 1)) (lv' := [(1, .int (nI (c + 1))), (0, .ref a)]) d_Tokens_cut_48 rfl (nI_inc 1 _) (by decide) rfl ?_
          refine r_goto C 17 d_Tokens_cut_51 (by decide) ?_
          refine r_lv (lv' := [(0, .ref a), (1, .int (nI (c + 1)))]) [1, 0] rfl ?_
          exact ih (c + 1) tk_40.1 tk_40.2.1 tk_40.2.2.1 tk_40.2.2.2.1 tk_40.2.2.2.2 (up ZS1 c tk_40.1) (up ZB1 c tk_40.2.1) (up ZE1 c tk_40.2.2.1) (up ZV1 c tk_40.2.2.2.1) (va_up ZW1 c (wR g tk_40.2.2.2.2)) (by first | assumption | rfl | omega) (by rw [hN40]; rfl) (hO40.2.1) (hO40.2.2.2.1) (fun h => by have := hO40.2.2.1 h; have := hge c_28; omega) (cut_push hZ hN40) (cut_live hl hla c_28 c_36) (fun _ => by rw [Nat.add_sub_cancel, hN40]) (fun h => absurd h (by omega)) (by omega)
set_option maxHeartbeats 4000000 in
set_option maxRecDepth 100000 in
theorem c_Tokens_cut (g : GG) (l : Launch) {a : Nat} {t : Nat} {zs : Nat} {zb : Nat} {ze : Nat} {zv : Nat} {zw : Nat} {cnt : Nat} {nx : Nat} {tb : Nat} {k : Nat} {so : Nat} {sta : Nat} {en : Nat} {T : Nat → Nat} {v : Option Nat} {wd : Option Nat} {ZS : Nat → Nat} {ZB : Nat → Nat} {ZE : Nat → Nat} {ZV : Nat → Option Nat} {ZW : Nat → Option Nat}  (hk : k ≤ 2000) (hT : ∀ j, T j < 256) : Cn g l y_Tokens_cut b_Tokens_cut 2 none (rmk 8 0 0 175) [.ref a] ([(a, .inr (2, [.ref t, .ref zs, .ref zb, .ref ze, .ref zv, .ref zw, .int (nI cnt), .int (nI nx), .int (nI so), .int (nI sta), .int (nI en), .int (oI v), va_rf (wR g wd)])), (t, .inr (1, [.ref tb, .int (nI k)])), (tb, .inl (g.2.1 1, 2000, .inl (aI T))), (zs, .inl (g.2.1 0, 2001, .inl (aI ZS))), (zb, .inl (g.2.1 0, 2001, .inl (aI ZB))), (ze, .inl (g.2.1 0, 2001, .inl (aI ZE))), (zv, .inl (g.2.1 0, 2001, .inl (oA ZV))), (zw, .inl (g.2.1 6, 2001, .inr (.inr (.inr (.inr ZW)))))]) (fun (r0 : Option Value) (w0 : va_W) => ∃ tk : Tok, ∃ cnt2 : Nat, ∃ ee2 : Nat, ∃ ZS2 : Nat → Nat, ∃ ZB2 : Nat → Nat, ∃ ZE2 : Nat → Nat, ∃ ZV2 : Nat → Option Nat, ∃ ZW2 : Nat → Option Nat, r0 = none ∧ w0 = [(a, .inr (2, [.ref t, .ref zs, .ref zb, .ref ze, .ref zv, .ref zw, .int (nI cnt2), .int (nI 0), .int (nI tk.1), .int (nI tk.2.1), .int (nI ee2), .int (oI tk.2.2.2.1), va_rf (wR g tk.2.2.2.2)])), (t, .inr (1, [.ref tb, .int (nI k)])), (tb, .inl (g.2.1 1, 2000, .inl (aI T))), (zs, .inl (g.2.1 0, 2001, .inl (aI ZS2))), (zb, .inl (g.2.1 0, 2001, .inl (aI ZB2))), (ze, .inl (g.2.1 0, 2001, .inl (aI ZE2))), (zv, .inl (g.2.1 0, 2001, .inl (oA ZV2))), (zw, .inl (g.2.1 6, 2001, .inr (.inr (.inr (.inr ZW2)))))] ∧ (tk = (nth T k 0).1) ∧ (CutA g T k cnt2 ZS2 ZB2 ZE2 ZV2 ZW2)) := by
  refine Cn.of R_Tokens [(0, .ref a)] (by decide) rfl (Nat.le_of_ble_eq_true rfl) rfl ?_
  intro x A Q hR hXl hin C E
  subst hXl
  refine r_aload_n C 0 d_Tokens_cut_0 rfl rfl ?_
  refine r_iconst C (nI 0) d_Tokens_cut_1 (by decide) ?_
  refine r_put C (ws' := [(a, .inr (2, [.ref t, .ref zs, .ref zb, .ref ze, .ref zv, .ref zw, .int (nI 0), .int (nI nx), .int (nI so), .int (nI sta), .int (nI en), .int (oI v), va_rf (wR g wd)])), (t, .inr (1, [.ref tb, .int (nI k)])), (tb, .inl (g.2.1 1, 2000, .inl (aI T))), (zs, .inl (g.2.1 0, 2001, .inl (aI ZS))), (zb, .inl (g.2.1 0, 2001, .inl (aI ZB))), (ze, .inl (g.2.1 0, 2001, .inl (aI ZE))), (zv, .inl (g.2.1 0, 2001, .inl (oA ZV))), (zw, .inl (g.2.1 6, 2001, .inr (.inr (.inr (.inr ZW)))))]) 0 6 d_Tokens_cut_2 ci_Tokens fi_Tokens_34 rfl (by decide) rfl rfl (rfl) (rfl) (by simp) rfl ?_
  refine r_aload_n C 0 d_Tokens_cut_5 rfl rfl ?_
  refine r_iconst C (nI 3) d_Tokens_cut_6 (by decide) ?_
  refine r_put C (ws' := [(a, .inr (2, [.ref t, .ref zs, .ref zb, .ref ze, .ref zv, .ref zw, .int (nI 0), .int (nI nx), .int (nI 3), .int (nI sta), .int (nI en), .int (oI v), va_rf (wR g wd)])), (t, .inr (1, [.ref tb, .int (nI k)])), (tb, .inl (g.2.1 1, 2000, .inl (aI T))), (zs, .inl (g.2.1 0, 2001, .inl (aI ZS))), (zb, .inl (g.2.1 0, 2001, .inl (aI ZB))), (ze, .inl (g.2.1 0, 2001, .inl (aI ZE))), (zv, .inl (g.2.1 0, 2001, .inl (oA ZV))), (zw, .inl (g.2.1 6, 2001, .inr (.inr (.inr (.inr ZW)))))]) 0 8 d_Tokens_cut_7 ci_Tokens fi_Tokens_38 rfl (by decide) rfl rfl (rfl) (rfl) (by simp) rfl ?_
  refine r_aload_n C 0 d_Tokens_cut_10 rfl rfl ?_
  refine r_iconst C (nI 0) d_Tokens_cut_11 (by decide) ?_
  refine r_put C (ws' := [(a, .inr (2, [.ref t, .ref zs, .ref zb, .ref ze, .ref zv, .ref zw, .int (nI 0), .int (nI nx), .int (nI 3), .int (nI sta), .int (nI 0), .int (oI v), va_rf (wR g wd)])), (t, .inr (1, [.ref tb, .int (nI k)])), (tb, .inl (g.2.1 1, 2000, .inl (aI T))), (zs, .inl (g.2.1 0, 2001, .inl (aI ZS))), (zb, .inl (g.2.1 0, 2001, .inl (aI ZB))), (ze, .inl (g.2.1 0, 2001, .inl (aI ZE))), (zv, .inl (g.2.1 0, 2001, .inl (oA ZV))), (zw, .inl (g.2.1 6, 2001, .inr (.inr (.inr (.inr ZW)))))]) 0 10 d_Tokens_cut_12 ci_Tokens fi_Tokens_41 rfl (by decide) rfl rfl (rfl) (rfl) (by simp) rfl ?_
  refine r_iconst C (nI 0) d_Tokens_cut_15 (by decide) ?_
  refine r_istore_n C (lv' := [(1, .int (nI 0)), (0, .ref a)]) d_Tokens_cut_16 rfl (by decide) rfl ?_
  refine r_lv (lv' := [(0, .ref a), (1, .int (nI 0))]) [1, 0] rfl ?_
  exact lp_Tokens_cut_17 g (a := a) (t := t) (zs := zs) (zb := zb) (ze := ze) (zv := zv) (zw := zw) (cnt := cnt) (nx := nx) (tb := tb) (k := k) (so := so) (sta := sta) (en := en) (T := T) (v := v) (wd := wd) (ZS := ZS) (ZB := ZB) (ZE := ZE) (ZV := ZV) (ZW := ZW) hk hT  C E hR _ 0 3 sta 0 v wd ZS ZB ZE ZV ZW (by first | assumption | rfl | omega) (tok_30) (by first | assumption | rfl | omega) (by first | assumption | rfl | omega) (fun _ => Nat.zero_le _) (fun i h => absurd h (Nat.not_lt_zero _)) (fun i h => absurd h (Nat.not_lt_zero _)) (fun h => absurd rfl h) (fun _ => rfl) (Nat.lt_succ_self _)

set_option maxHeartbeats 4000000 in
set_option maxRecDepth 100000 in
theorem lp_Tokens_printTo_2 (g : GG) {a : Nat} {t : Nat} {zs : Nat} {zb : Nat} {ze : Nat} {zv : Nat} {zw : Nat} {cnt : Nat} {nx : Nat} {tb : Nat} {k : Nat} {so : Nat} {sta : Nat} {en : Nat} {T : Nat → Nat} {v : Option Nat} {wd : Option Nat} {ZS : Nat → Nat} {ZB : Nat → Nat} {ZE : Nat → Nat} {ZV : Nat → Option Nat} {ZW : Nat → Option Nat} {bk : Nat} {ra : Nat} {pa : Nat} {rc : Nat} {dp : Nat} {PA : Nat → Nat} {pr : Bool} (hk : k ≤ 2000) (hT : ∀ j, T j < 256) (hA : CutA g T k cnt ZS ZB ZE ZV ZW) {x : X0} {A : Nat → Prop} {Q : State → Prop}  (C : CX x g A R_Tokens b_Tokens_printTo 3) (E : RX x g A Q none (fun (r0 : Option Value) (w0 : va_W) => ∃ PB : Nat → Nat, r0 = none ∧ w0 = [(a, .inr (2, [.ref t, .ref zs, .ref zb, .ref ze, .ref zv, .ref zw, .int (nI cnt), .int (nI nx), .int (nI so), .int (nI sta), .int (nI en), .int (oI v), va_rf (wR g wd)])), (t, .inr (1, [.ref tb, .int (nI k)])), (tb, .inl (g.2.1 1, 2000, .inl (aI T))), (zs, .inl (g.2.1 0, 2001, .inl (aI ZS))), (zb, .inl (g.2.1 0, 2001, .inl (aI ZB))), (ze, .inl (g.2.1 0, 2001, .inl (aI ZE))), (zv, .inl (g.2.1 0, 2001, .inl (oA ZV))), (zw, .inl (g.2.1 6, 2001, .inr (.inr (.inr (.inr ZW))))), (bk, .inr (5, [.ref ra, .ref pa, .int (bI pr), .int (nI rc), .int (nI ((nth T k (cnt - 1)).2.length)), .int (nI dp)])), (pa, .inl (g.2.1 1, 4000, .inl (aI PB)))] ∧ (OutAt PB (nth T k (cnt - 1)).2)) (rmk 2 0 0 45).cells (rmk 2 0 0 45).slots) (hR : xR x = (rmk 2 0 0 45)) : ∀ (fuel : Nat) (c : Nat) (PC : Nat → Nat) (hc : c + 1 ≤ cnt) (hq : OutAt PC (nth T k c).2), cnt - c < fuel → J x g A Q 3 ([(a, .inr (2, [.ref t, .ref zs, .ref zb, .ref ze, .ref zv, .ref zw, .int (nI cnt), .int (nI nx), .int (nI so), .int (nI sta), .int (nI en), .int (oI v), va_rf (wR g wd)])), (t, .inr (1, [.ref tb, .int (nI k)])), (tb, .inl (g.2.1 1, 2000, .inl (aI T))), (zs, .inl (g.2.1 0, 2001, .inl (aI ZS))), (zb, .inl (g.2.1 0, 2001, .inl (aI ZB))), (ze, .inl (g.2.1 0, 2001, .inl (aI ZE))), (zv, .inl (g.2.1 0, 2001, .inl (oA ZV))), (zw, .inl (g.2.1 6, 2001, .inr (.inr (.inr (.inr ZW))))), (bk, .inr (5, [.ref ra, .ref pa, .int (bI pr), .int (nI rc), .int (nI ((nth T k c).2.length)), .int (nI dp)])), (pa, .inl (g.2.1 1, 4000, .inl (aI PC)))]) [(0, .ref a), (1, .ref bk), (2, .int (nI c))] 2 [] 0 0 := by
  intro fuel
  induction fuel with
  | zero =>
    intro c PC hc hq hm
    exact absurd hm (Nat.not_lt_zero _)
  | succ fuel ih =>
    intro c PC hc hq hm
    obtain ⟨hn1, hn2, hZ, hl, -⟩ := id hA
    refine r_iload_n C 2 d_Tokens_printTo_2 rfl rfl ?_
    refine r_aload_n C 0 d_Tokens_printTo_3 rfl rfl ?_
    refine r_get C 0 6 d_Tokens_printTo_4 ci_Tokens fi_Tokens_34 rfl (by decide) rfl rfl ?_
    refine r_iconst C (nI 1) d_Tokens_printTo_7 (by decide) ?_
    refine r_nsub C d_Tokens_printTo_8 (by omega) ?_
    refine r_ncmp_ge C 45 d_Tokens_printTo_9 (by decide) (by omega) (by omega) (fun c_9 => ?_) (fun c_9 => ?_)
    · skip
      refine r_vret C E d_Tokens_printTo_45 (by first | decide | omega | (simp only [rmk]; omega)) (by first | decide | omega | (simp only [rmk]; omega)) ?_
      have e1 : cnt - 1 = c := by omega
      rw [e1]
      exact ⟨_, rfl, rfl, hq⟩
    · skip
      refine r_iload_n C 2 d_Tokens_printTo_12 rfl rfl ?_
      refine r_sipush C (nI 2001) d_Tokens_printTo_13 (by decide) ?_
      refine r_ncmp_ge C 45 d_Tokens_printTo_16 (by decide) (by omega) (by omega) (fun c_16 => ?_) (fun c_16 => ?_)
      · exact absurd c_16 (by omega)
      · skip
        obtain ⟨o1, o2, o3, -⟩ := id (nth_ok (k := k) (T := T) hT c)
        have o5 := o3 (hl c (by omega)).1
        have hcp := nth_cap (k := k) (T := T) hT c (fun j h => (hl j (by omega)).1)
        refine r_aload_n C 1 d_Tokens_printTo_19 rfl rfl ?_
        refine r_aload_n C 0 d_Tokens_printTo_20 rfl rfl ?_
        refine r_get C 0 0 d_Tokens_printTo_21 ci_Tokens fi_Tokens_30 rfl (by decide) rfl rfl ?_
        refine r_aload_n C 0 d_Tokens_printTo_24 rfl rfl ?_
        refine r_get C 0 2 d_Tokens_printTo_25 ci_Tokens fi_Tokens_15 rfl (by decide) rfl rfl ?_
        refine r_iload_n C 2 d_Tokens_printTo_28 rfl rfl ?_
        refine r_nald C 4 0 d_Tokens_printTo_29 rfl rfl (by omega) (by decide) ?_
        refine r_top (v' := nI ((nth T k c).1.2.1)) (by rw [(hZ c (by omega)).2.1]) ?_
        refine r_aload_n C 0 d_Tokens_printTo_30 rfl rfl ?_
        refine r_get C 0 3 d_Tokens_printTo_31 ci_Tokens fi_Tokens_18 rfl (by decide) rfl rfl ?_
        refine r_iload_n C 2 d_Tokens_printTo_34 rfl rfl ?_
        refine r_nald C 5 0 d_Tokens_printTo_35 rfl rfl (by omega) (by decide) ?_
        refine r_top (v' := nI ((nth T k c).1.2.2.1)) (by rw [(hZ c (by omega)).2.2.1]) ?_
        refine j_callV C (c_Book_print g (xl x) (bk := bk) (ra := ra) (pa := pa) (rc := rc) (dp := dp) (t := t) (tb := tb) (k := k) (s := (nth T k c).1.2.1) (e := (nth T k c).1.2.2.1) (pr := pr) (T := T) (PA := PC) (out := (nth T k c).2) (by first | assumption | rfl | omega) (by first | assumption | rfl | omega) (by first | assumption | rfl | omega) (by first | assumption | rfl | omega) (by first | assumption | rfl | omega) (by first | assumption | rfl | omega)) (Sp.of (wr := [(a, .inr (2, [.ref t, .ref zs, .ref zb, .ref ze, .ref zv, .ref zw, .int (nI cnt), .int (nI nx), .int (nI so), .int (nI sta), .int (nI en), .int (oI v), va_rf (wR g wd)])), (zs, .inl (g.2.1 0, 2001, .inl (aI ZS))), (zb, .inl (g.2.1 0, 2001, .inl (aI ZB))), (ze, .inl (g.2.1 0, 2001, .inl (aI ZE))), (zv, .inl (g.2.1 0, 2001, .inl (oA ZV))), (zw, .inl (g.2.1 6, 2001, .inr (.inr (.inr (.inr ZW)))))]) [8, 9, 1, 2] [0, 3, 4, 5, 6, 7] rfl rfl rfl rfl (by decide)) d_Tokens_printTo_36 lk_Tokens_67 mw_Book_print vw_Book_print (q0 := 0) rfl rfl (fit_of hR (by first | decide | (simp only [rmk]; omega)) (by first | decide | (simp only [rmk]; omega)) (by first | decide | (simp only [rmk]; omega)) (by first | decide | (simp only [rmk]; omega))) rfl (cat8 (Nat.le_of_ble_eq_true rfl)) (As := [.ref t, .int (nI ((nth T k c).1.2.1)), .int (nI ((nth T k c).1.2.2.1))]) (rest := []) rfl (fun r_36 w_36 hp_36 => ?_)
        obtain ⟨PA2_36, rfl, rfl, ho2_36⟩ := hp_36
        refine r_after (ws' := [(a, .inr (2, [.ref t, .ref zs, .ref zb, .ref ze, .ref zv, .ref zw, .int (nI cnt), .int (nI nx), .int (nI so), .int (nI sta), .int (nI en), .int (oI v), va_rf (wR g wd)])), (t, .inr (1, [.ref tb, .int (nI k)])), (tb, .inl (g.2.1 1, 2000, .inl (aI T))), (zs, .inl (g.2.1 0, 2001, .inl (aI ZS))), (zb, .inl (g.2.1 0, 2001, .inl (aI ZB))), (ze, .inl (g.2.1 0, 2001, .inl (aI ZE))), (zv, .inl (g.2.1 0, 2001, .inl (oA ZV))), (zw, .inl (g.2.1 6, 2001, .inr (.inr (.inr (.inr ZW))))), (bk, .inr (5, [.ref ra, .ref pa, .int (bI pr), .int (nI rc), .int (nI ((prt T ((nth T k c).1.2.1) ((nth T k c).1.2.2.1) ((nth T k c).2)).length)), .int (nI dp)])), (pa, .inl (g.2.1 1, 4000, .inl (aI PA2_36)))]) (st' := []) (n1 := 0) (n2 := 0) [0, 8, 9, 1, 2, 3, 4, 5, 6, 7] rfl rfl rfl rfl rfl ?_
        refine r_iinc C 2 (nI (c + 1)) (lv' := [(2, .int (nI (c + 1))), (0, .ref a), (1, .ref bk)]) d_Tokens_printTo_39 rfl (nI_inc 1 _) (by decide) rfl ?_
        refine r_goto C 2 d_Tokens_printTo_42 (by decide) ?_
        refine r_lv (lv' := [(0, .ref a), (1, .ref bk), (2, .int (nI (c + 1)))]) [1, 2, 0] rfl ?_
        refine r_eqW (ws' := [(a, .inr (2, [.ref t, .ref zs, .ref zb, .ref ze, .ref zv, .ref zw, .int (nI cnt), .int (nI nx), .int (nI so), .int (nI sta), .int (nI en), .int (oI v), va_rf (wR g wd)])), (t, .inr (1, [.ref tb, .int (nI k)])), (tb, .inl (g.2.1 1, 2000, .inl (aI T))), (zs, .inl (g.2.1 0, 2001, .inl (aI ZS))), (zb, .inl (g.2.1 0, 2001, .inl (aI ZB))), (ze, .inl (g.2.1 0, 2001, .inl (aI ZE))), (zv, .inl (g.2.1 0, 2001, .inl (oA ZV))), (zw, .inl (g.2.1 6, 2001, .inr (.inr (.inr (.inr ZW))))), (bk, .inr (5, [.ref ra, .ref pa, .int (bI pr), .int (nI rc), .int (nI ((nth T k (c + 1)).2.length)), .int (nI dp)])), (pa, .inl (g.2.1 1, 4000, .inl (aI PA2_36)))]) (by first | rfl | simp) ?_
        exact ih (c + 1) PA2_36 (by first | assumption | rfl | omega) (ho2_36) (by omega)
set_option maxHeartbeats 4000000 in
set_option maxRecDepth 100000 in
theorem c_Tokens_printTo (g : GG) (l : Launch) {a : Nat} {t : Nat} {zs : Nat} {zb : Nat} {ze : Nat} {zv : Nat} {zw : Nat} {cnt : Nat} {nx : Nat} {tb : Nat} {k : Nat} {so : Nat} {sta : Nat} {en : Nat} {T : Nat → Nat} {v : Option Nat} {wd : Option Nat} {ZS : Nat → Nat} {ZB : Nat → Nat} {ZE : Nat → Nat} {ZV : Nat → Option Nat} {ZW : Nat → Option Nat} {bk : Nat} {ra : Nat} {pa : Nat} {rc : Nat} {dp : Nat} {PA : Nat → Nat} {pr : Bool}  (hk : k ≤ 2000) (hT : ∀ j, T j < 256) (hA : CutA g T k cnt ZS ZB ZE ZV ZW) : Cn g l y_Tokens_printTo b_Tokens_printTo 3 none (rmk 2 0 0 45) [.ref a, .ref bk] ([(a, .inr (2, [.ref t, .ref zs, .ref zb, .ref ze, .ref zv, .ref zw, .int (nI cnt), .int (nI nx), .int (nI so), .int (nI sta), .int (nI en), .int (oI v), va_rf (wR g wd)])), (t, .inr (1, [.ref tb, .int (nI k)])), (tb, .inl (g.2.1 1, 2000, .inl (aI T))), (zs, .inl (g.2.1 0, 2001, .inl (aI ZS))), (zb, .inl (g.2.1 0, 2001, .inl (aI ZB))), (ze, .inl (g.2.1 0, 2001, .inl (aI ZE))), (zv, .inl (g.2.1 0, 2001, .inl (oA ZV))), (zw, .inl (g.2.1 6, 2001, .inr (.inr (.inr (.inr ZW))))), (bk, .inr (5, [.ref ra, .ref pa, .int (bI pr), .int (nI rc), .int (nI 0), .int (nI dp)])), (pa, .inl (g.2.1 1, 4000, .inl (aI PA)))]) (fun (r0 : Option Value) (w0 : va_W) => ∃ PB : Nat → Nat, r0 = none ∧ w0 = [(a, .inr (2, [.ref t, .ref zs, .ref zb, .ref ze, .ref zv, .ref zw, .int (nI cnt), .int (nI nx), .int (nI so), .int (nI sta), .int (nI en), .int (oI v), va_rf (wR g wd)])), (t, .inr (1, [.ref tb, .int (nI k)])), (tb, .inl (g.2.1 1, 2000, .inl (aI T))), (zs, .inl (g.2.1 0, 2001, .inl (aI ZS))), (zb, .inl (g.2.1 0, 2001, .inl (aI ZB))), (ze, .inl (g.2.1 0, 2001, .inl (aI ZE))), (zv, .inl (g.2.1 0, 2001, .inl (oA ZV))), (zw, .inl (g.2.1 6, 2001, .inr (.inr (.inr (.inr ZW))))), (bk, .inr (5, [.ref ra, .ref pa, .int (bI pr), .int (nI rc), .int (nI ((nth T k (cnt - 1)).2.length)), .int (nI dp)])), (pa, .inl (g.2.1 1, 4000, .inl (aI PB)))] ∧ (OutAt PB (nth T k (cnt - 1)).2)) := by
  refine Cn.of R_Tokens [(0, .ref a), (1, .ref bk)] (by decide) rfl (Nat.le_of_ble_eq_true rfl) rfl ?_
  intro x A Q hR hXl hin C E
  subst hXl
  obtain ⟨hn1, hn2, hZ, hl, -⟩ := id hA
  refine r_iconst C (nI 0) d_Tokens_printTo_0 (by decide) ?_
  refine r_istore_n C (lv' := [(2, .int (nI 0)), (0, .ref a), (1, .ref bk)]) d_Tokens_printTo_1 rfl (by decide) rfl ?_
  refine r_lv (lv' := [(0, .ref a), (1, .ref bk), (2, .int (nI 0))]) [1, 2, 0] rfl ?_
  refine r_eqW (ws' := [(a, .inr (2, [.ref t, .ref zs, .ref zb, .ref ze, .ref zv, .ref zw, .int (nI cnt), .int (nI nx), .int (nI so), .int (nI sta), .int (nI en), .int (oI v), va_rf (wR g wd)])), (t, .inr (1, [.ref tb, .int (nI k)])), (tb, .inl (g.2.1 1, 2000, .inl (aI T))), (zs, .inl (g.2.1 0, 2001, .inl (aI ZS))), (zb, .inl (g.2.1 0, 2001, .inl (aI ZB))), (ze, .inl (g.2.1 0, 2001, .inl (aI ZE))), (zv, .inl (g.2.1 0, 2001, .inl (oA ZV))), (zw, .inl (g.2.1 6, 2001, .inr (.inr (.inr (.inr ZW))))), (bk, .inr (5, [.ref ra, .ref pa, .int (bI pr), .int (nI rc), .int (nI ((nth T k 0).2.length)), .int (nI dp)])), (pa, .inl (g.2.1 1, 4000, .inl (aI PA)))]) (by first | rfl | simp) ?_
  exact lp_Tokens_printTo_2 g (a := a) (t := t) (zs := zs) (zb := zb) (ze := ze) (zv := zv) (zw := zw) (cnt := cnt) (nx := nx) (tb := tb) (k := k) (so := so) (sta := sta) (en := en) (T := T) (v := v) (wd := wd) (ZS := ZS) (ZB := ZB) (ZE := ZE) (ZV := ZV) (ZW := ZW) (bk := bk) (ra := ra) (pa := pa) (rc := rc) (dp := dp) (PA := PA) (pr := pr) hk hT hA  C E hR _ 0 PA (by first | assumption | rfl | omega) (fun j v h => by simp [nth] at h) (Nat.lt_succ_self _)

set_option maxHeartbeats 4000000 in
set_option maxRecDepth 100000 in
theorem c_Parser_init (g : GG) (l : Launch) {p : Nat} {t : Nat} {bk : Nat}   : Cn g l y_Parser_init b_Parser_init 3 none (rmk 2 6 10018 33) [.ref p, .ref t, .ref bk] ([(p, .inr (6, [.null, .null]))]) (fun (r0 : Option Value) (w0 : va_W) => ∃ a : Nat, ∃ zs : Nat, ∃ zb : Nat, ∃ ze : Nat, ∃ zv : Nat, ∃ zw : Nat, r0 = none ∧ w0 = [(p, .inr (6, [.ref bk, .ref a])), (a, .inr (2, [.ref t, .ref zs, .ref zb, .ref ze, .ref zv, .ref zw, .int (nI 0), .int (nI 0), .int (nI 0), .int (nI 0), .int (nI 0), .int (nI 0), .null])), (zs, .inl (g.2.1 0, 2001, .inl (aI (fun _ => 0)))), (zb, .inl (g.2.1 0, 2001, .inl (aI (fun _ => 0)))), (ze, .inl (g.2.1 0, 2001, .inl (aI (fun _ => 0)))), (zv, .inl (g.2.1 0, 2001, .inl (oA (fun _ => some 0)))), (zw, .inl (g.2.1 6, 2001, .inr (.inr (.inr (.inr (fun _ => none))))))]) := by
  refine Cn.of R_Parser [(0, .ref p), (1, .ref t), (2, .ref bk)] (by decide) rfl (Nat.le_of_ble_eq_true rfl) rfl ?_
  intro x A Q hR hXl hin C E
  subst hXl
  refine r_aload_n C 0 d_Parser_init_0 rfl rfl ?_
  refine r_objInit C d_Parser_init_1 ml_Parser_3 oi_1 oi_2 (by rw [hR]; decide) (by rw [hR]; decide) ?_
  refine r_aload_n C 0 d_Parser_init_4 rfl rfl ?_
  refine r_aload_n C 2 d_Parser_init_5 rfl rfl ?_
  refine r_putF C hin (ws' := [(p, .inr (6, [.ref bk, .null]))]) 0 0 d_Parser_init_6 ci_Parser fl_Parser_9 rfl rfl (by decide) rfl rfl (rfl) (rfl) (by simp) rfl ?_
  refine r_aload_n C 0 d_Parser_init_9 rfl rfl ?_
  refine r_new C d_Parser_init_10 ci_Tokens cl_Parser_15 in_Tokens iz_Tokens (fs := [.null, .null, .null, .null, .null, .null, .int (nI 0), .int (nI 0), .int (nI 0), .int (nI 0), .int (nI 0), .int (nI 0), .null]) (by intro j hj; rcases (show j = 0 ∨ j = 1 ∨ j = 2 ∨ j = 3 ∨ j = 4 ∨ j = 5 ∨ j = 6 ∨ j = 7 ∨ j = 8 ∨ j = 9 ∨ j = 10 ∨ j = 11 ∨ j = 12 by omega) with rfl | rfl | rfl | rfl | rfl | rfl | rfl | rfl | rfl | rfl | rfl | rfl | rfl <;> rfl) (by rw [hR]; decide) (by rw [hR]; decide) (fun q_10 => ?_)
  refine r_norm (ws' := [(p, .inr (6, [.ref bk, .null])), (q_10, .inr (2, [.null, .null, .null, .null, .null, .null, .int (nI 0), .int (nI 0), .int (nI 0), .int (nI 0), .int (nI 0), .int (nI 0), .null]))]) (st' := [.ref q_10, .ref p]) (n1 := 0 + 1) (n2 := 0 + 13) rfl rfl rfl rfl ?_
  refine r_dup C d_Parser_init_13 rfl ?_
  refine r_aload_n C 1 d_Parser_init_14 rfl rfl ?_
  refine j_callI C (c_Tokens_init g (xl x) (a := q_10) (t := t) ) (Sp.of (wr := [(p, .inr (6, [.ref bk, .null]))]) [1] [0] rfl rfl rfl rfl (by decide)) d_Parser_init_15 lk_Parser_17 mw_Tokens_init rfl im_Tokens_init (fit_of hR (by first | decide | (simp only [rmk]; omega)) (by first | decide | (simp only [rmk]; omega)) (by first | decide | (simp only [rmk]; omega)) (by first | decide | (simp only [rmk]; omega))) rfl (cat8 (Nat.le_of_ble_eq_true rfl)) (As := [.ref t]) (rest := [.ref q_10, .ref p]) rfl (fun r_15 w_15 hp_15 => ?_)
  obtain ⟨zs_15, zb_15, ze_15, zv_15, zw_15, rfl, rfl⟩ := hp_15
  refine r_after (ws' := [(p, .inr (6, [.ref bk, .null])), (q_10, .inr (2, [.ref t, .ref zs_15, .ref zb_15, .ref ze_15, .ref zv_15, .ref zw_15, .int (nI 0), .int (nI 0), .int (nI 0), .int (nI 0), .int (nI 0), .int (nI 0), .null])), (zs_15, .inl (g.2.1 0, 2001, .inl (aI (fun _ => 0)))), (zb_15, .inl (g.2.1 0, 2001, .inl (aI (fun _ => 0)))), (ze_15, .inl (g.2.1 0, 2001, .inl (aI (fun _ => 0)))), (zv_15, .inl (g.2.1 0, 2001, .inl (oA (fun _ => some 0)))), (zw_15, .inl (g.2.1 6, 2001, .inr (.inr (.inr (.inr (fun _ => none))))))]) (st' := [.ref q_10, .ref p]) (n1 := 0 + 1 + 5) (n2 := 0 + 13 + 10005) [0, 1, 2, 3, 4, 5, 6] rfl rfl rfl rfl rfl ?_
  refine r_putF C hin (ws' := [(p, .inr (6, [.ref bk, .ref q_10])), (q_10, .inr (2, [.ref t, .ref zs_15, .ref zb_15, .ref ze_15, .ref zv_15, .ref zw_15, .int (nI 0), .int (nI 0), .int (nI 0), .int (nI 0), .int (nI 0), .int (nI 0), .null])), (zs_15, .inl (g.2.1 0, 2001, .inl (aI (fun _ => 0)))), (zb_15, .inl (g.2.1 0, 2001, .inl (aI (fun _ => 0)))), (ze_15, .inl (g.2.1 0, 2001, .inl (aI (fun _ => 0)))), (zv_15, .inl (g.2.1 0, 2001, .inl (oA (fun _ => some 0)))), (zw_15, .inl (g.2.1 6, 2001, .inr (.inr (.inr (.inr (fun _ => none))))))]) 0 1 d_Parser_init_18 ci_Parser fl_Parser_20 rfl rfl (by decide) rfl rfl (rfl) (rfl) (by simp) rfl ?_
  refine r_vret C E d_Parser_init_21 (by first | decide | omega | (simp only [rmk]; omega)) (by first | decide | omega | (simp only [rmk]; omega)) ?_
  exact ⟨_, _, _, _, _, _, rfl, rfl⟩

set_option maxHeartbeats 4000000 in
set_option maxRecDepth 100000 in
theorem c_Parser_comparisonNext (g : GG) (l : Launch) {p : Nat} {bk : Nat} {k : Nat} {so : Nat} {sta : Nat} {en : Nat} {ee : Nat} {a : Nat} {t : Nat} {zs : Nat} {zb : Nat} {ze : Nat} {zv : Nat} {zw : Nat} {cnt : Nat} {nx : Nat} {T : Nat → Nat} {v : Option Nat} {wd : Option Nat} {out : List Nat}  (hT : ∀ j, T j < 256) (hO : TokOK k (so, sta, en, v, wd)) (hcap : nth T k nx = ((so, sta, en, v, wd), out)) : Cn g l y_Parser_comparisonNext b_Parser_comparisonNext 1 (some .int) (rmk 1 0 0 21) [.ref p] ([(p, .inr (6, [.ref bk, .ref a])), (a, .inr (2, [.ref t, .ref zs, .ref zb, .ref ze, .ref zv, .ref zw, .int (nI cnt), .int (nI nx), .int (nI so), .int (nI sta), .int (nI ee), .int (oI v), va_rf (wR g wd)]))]) (fun (r0 : Option Value) (w0 : va_W) => ∃ nc : Option Nat, r0 = some (.int (oI nc)) ∧ w0 = [(p, .inr (6, [.ref bk, .ref a])), (a, .inr (2, [.ref t, .ref zs, .ref zb, .ref ze, .ref zv, .ref zw, .int (nI cnt), .int (nI nx), .int (nI so), .int (nI sta), .int (nI ee), .int (oI v), va_rf (wR g wd)]))] ∧ (nc = cmpN T (so, sta, en, v, wd)) ∧ (∀ z, nc = some z → z < 2 ^ 31)) := by
  refine Cn.of R_Parser [(0, .ref p)] (by decide) rfl (Nat.le_of_ble_eq_true rfl) rfl ?_
  intro x A Q hR hXl hin C E
  subst hXl
  refine r_aload_n C 0 d_Parser_comparisonNext_0 rfl rfl ?_
  refine r_get C 0 1 d_Parser_comparisonNext_1 ci_Parser fi_Parser_20 rfl (by decide) rfl rfl ?_
  refine r_bipush C (nI 61) d_Parser_comparisonNext_4 (by decide) ?_
  refine j_callV C (c_Tokens_isTheSign g (xl x) (a := a) (t := t) (zs := zs) (zb := zb) (ze := ze) (zv := zv) (zw := zw) (cnt := cnt) (nx := nx) (so := so) (sta := sta) (en := ee) (c := 61) (T := T) (v := v) (wd := wd) (by first | assumption | rfl | omega) (hO.so) (sg_of hcap) (by first | assumption | rfl | omega)) (Sp.of (wr := [(p, .inr (6, [.ref bk, .ref a]))]) [1] [0] rfl rfl rfl rfl (by decide)) d_Parser_comparisonNext_6 lk_Parser_42 mw_Tokens_isTheSign vw_Tokens_isTheSign (q0 := 0) rfl rfl (fit_of hR (by first | decide | (simp only [rmk]; omega)) (by first | decide | (simp only [rmk]; omega)) (by first | decide | (simp only [rmk]; omega)) (by first | decide | (simp only [rmk]; omega))) rfl (cat8 (Nat.le_of_ble_eq_true rfl)) (As := [.int (nI 61)]) (rest := []) rfl (fun r_6 w_6 hp_6 => ?_)
  obtain ⟨rfl, rfl⟩ := hp_6
  refine r_after (ws' := [(p, .inr (6, [.ref bk, .ref a])), (a, .inr (2, [.ref t, .ref zs, .ref zb, .ref ze, .ref zv, .ref zw, .int (nI cnt), .int (nI nx), .int (nI so), .int (nI sta), .int (nI ee), .int (oI v), va_rf (wR g wd)]))]) (st' := [.int (bI (isSg T so sta 61))]) (n1 := 0) (n2 := 0) [0, 1] rfl rfl rfl rfl rfl ?_
  refine r_bif_eq C 14 d_Parser_comparisonNext_9 (by decide) (fun c_9 => ?_) (fun c_9 => ?_)
  · skip
    refine r_aload_n C 0 d_Parser_comparisonNext_14 rfl rfl ?_
    refine r_get C 0 1 d_Parser_comparisonNext_15 ci_Parser fi_Parser_20 rfl (by decide) rfl rfl ?_
    refine r_bipush C (nI 60) d_Parser_comparisonNext_18 (by decide) ?_
    refine j_callV C (c_Tokens_isTheSign g (xl x) (a := a) (t := t) (zs := zs) (zb := zb) (ze := ze) (zv := zv) (zw := zw) (cnt := cnt) (nx := nx) (so := so) (sta := sta) (en := ee) (c := 60) (T := T) (v := v) (wd := wd) (by first | assumption | rfl | omega) (hO.so) (sg_of hcap) (by first | assumption | rfl | omega)) (Sp.of (wr := [(p, .inr (6, [.ref bk, .ref a]))]) [1] [0] rfl rfl rfl rfl (by decide)) d_Parser_comparisonNext_20 lk_Parser_42 mw_Tokens_isTheSign vw_Tokens_isTheSign (q0 := 0) rfl rfl (fit_of hR (by first | decide | (simp only [rmk]; omega)) (by first | decide | (simp only [rmk]; omega)) (by first | decide | (simp only [rmk]; omega)) (by first | decide | (simp only [rmk]; omega))) rfl (cat8 (Nat.le_of_ble_eq_true rfl)) (As := [.int (nI 60)]) (rest := []) rfl (fun r_20 w_20 hp_20 => ?_)
    obtain ⟨rfl, rfl⟩ := hp_20
    refine r_after (ws' := [(p, .inr (6, [.ref bk, .ref a])), (a, .inr (2, [.ref t, .ref zs, .ref zb, .ref ze, .ref zv, .ref zw, .int (nI cnt), .int (nI nx), .int (nI so), .int (nI sta), .int (nI ee), .int (oI v), va_rf (wR g wd)]))]) (st' := [.int (bI (isSg T so sta 60))]) (n1 := 0) (n2 := 0) [0, 1] rfl rfl rfl rfl rfl ?_
    refine r_bif_eq C 28 d_Parser_comparisonNext_23 (by decide) (fun c_23 => ?_) (fun c_23 => ?_)
    · skip
      refine r_aload_n C 0 d_Parser_comparisonNext_28 rfl rfl ?_
      refine r_get C 0 1 d_Parser_comparisonNext_29 ci_Parser fi_Parser_20 rfl (by decide) rfl rfl ?_
      refine r_bipush C (nI 62) d_Parser_comparisonNext_32 (by decide) ?_
      refine j_callV C (c_Tokens_isTheSign g (xl x) (a := a) (t := t) (zs := zs) (zb := zb) (ze := ze) (zv := zv) (zw := zw) (cnt := cnt) (nx := nx) (so := so) (sta := sta) (en := ee) (c := 62) (T := T) (v := v) (wd := wd) (by first | assumption | rfl | omega) (hO.so) (sg_of hcap) (by first | assumption | rfl | omega)) (Sp.of (wr := [(p, .inr (6, [.ref bk, .ref a]))]) [1] [0] rfl rfl rfl rfl (by decide)) d_Parser_comparisonNext_34 lk_Parser_42 mw_Tokens_isTheSign vw_Tokens_isTheSign (q0 := 0) rfl rfl (fit_of hR (by first | decide | (simp only [rmk]; omega)) (by first | decide | (simp only [rmk]; omega)) (by first | decide | (simp only [rmk]; omega)) (by first | decide | (simp only [rmk]; omega))) rfl (cat8 (Nat.le_of_ble_eq_true rfl)) (As := [.int (nI 62)]) (rest := []) rfl (fun r_34 w_34 hp_34 => ?_)
      obtain ⟨rfl, rfl⟩ := hp_34
      refine r_after (ws' := [(p, .inr (6, [.ref bk, .ref a])), (a, .inr (2, [.ref t, .ref zs, .ref zb, .ref ze, .ref zv, .ref zw, .int (nI cnt), .int (nI nx), .int (nI so), .int (nI sta), .int (nI ee), .int (oI v), va_rf (wR g wd)]))]) (st' := [.int (bI (isSg T so sta 62))]) (n1 := 0) (n2 := 0) [0, 1] rfl rfl rfl rfl rfl ?_
      refine r_bif_eq C 44 d_Parser_comparisonNext_37 (by decide) (fun c_37 => ?_) (fun c_37 => ?_)
      · skip
        refine r_iconst C ((-1)) d_Parser_comparisonNext_44 (by decide) ?_
        refine r_iret C E d_Parser_comparisonNext_45 (by first | decide | omega | (simp only [rmk]; omega)) (by first | decide | omega | (simp only [rmk]; omega)) ?_
        exact ⟨none, rfl, rfl, (cmpN_n c_9 c_23 c_37).symm, fun z h => by cases h⟩
      · skip
        refine r_iconst C (nI 2) d_Parser_comparisonNext_40 (by decide) ?_
        refine r_goto C 45 d_Parser_comparisonNext_41 (by decide) ?_
        refine r_iret C E d_Parser_comparisonNext_45 (by first | decide | omega | (simp only [rmk]; omega)) (by first | decide | omega | (simp only [rmk]; omega)) ?_
        exact ⟨some 2, rfl, rfl, (cmpN_2 c_9 c_23 c_37).symm, fun z h => by cases h; decide⟩
    · skip
      refine r_iconst C (nI 1) d_Parser_comparisonNext_26 (by decide) ?_
      refine r_iret C E d_Parser_comparisonNext_27 (by first | decide | omega | (simp only [rmk]; omega)) (by first | decide | omega | (simp only [rmk]; omega)) ?_
      exact ⟨some 1, rfl, rfl, (cmpN_1 c_9 c_23).symm, fun z h => by cases h; decide⟩
  · skip
    refine r_iconst C (nI 0) d_Parser_comparisonNext_12 (by decide) ?_
    refine r_iret C E d_Parser_comparisonNext_13 (by first | decide | omega | (simp only [rmk]; omega)) (by first | decide | omega | (simp only [rmk]; omega)) ?_
    exact ⟨some 0, rfl, rfl, (cmpN_0 c_9).symm, fun z h => by cases h; decide⟩

set_option maxHeartbeats 4000000 in
set_option maxRecDepth 100000 in
theorem c_Parser_takeNumber (g : GG) (l : Launch) {p : Nat} {bk : Nat} {ra : Nat} {pa : Nat} {k : Nat} {so : Nat} {sta : Nat} {en : Nat} {ee : Nat} {rc : Nat} {dp : Nat} {a : Nat} {t : Nat} {zs : Nat} {zb : Nat} {ze : Nat} {zv : Nat} {zw : Nat} {cnt : Nat} {nx : Nat} {T : Nat → Nat} {ZS : Nat → Nat} {ZB : Nat → Nat} {ZE : Nat → Nat} {ZV : Nat → Option Nat} {ZW : Nat → Option Nat} {v : Option Nat} {wd : Option Nat} {pr : Bool} {out : List Nat} {lo : Nat} {hi : Nat}  (hk : k ≤ 2000) (hT : ∀ j, T j < 256) (hO : TokOK k (so, sta, en, v, wd)) (hA : CutA g T k cnt ZS ZB ZE ZV ZW) (hcap : nth T k nx = ((so, sta, en, v, wd), out)) (ho : nx < cnt) (hlo : lo < 2 ^ 31) (hhi : hi < 2 ^ 31) : Cn g l y_Parser_takeNumber b_Parser_takeNumber 4 (some .int) (rmk 1 0 0 21) [.ref p, .int (nI lo), .int (nI hi)] ([(p, .inr (6, [.ref bk, .ref a])), (a, .inr (2, [.ref t, .ref zs, .ref zb, .ref ze, .ref zv, .ref zw, .int (nI cnt), .int (nI nx), .int (nI so), .int (nI sta), .int (nI ee), .int (oI v), va_rf (wR g wd)])), (zs, .inl (g.2.1 0, 2001, .inl (aI ZS))), (zb, .inl (g.2.1 0, 2001, .inl (aI ZB))), (ze, .inl (g.2.1 0, 2001, .inl (aI ZE))), (zv, .inl (g.2.1 0, 2001, .inl (oA ZV))), (zw, .inl (g.2.1 6, 2001, .inr (.inr (.inr (.inr ZW))))), (bk, .inr (5, [.ref ra, .ref pa, .int (bI pr), .int (nI rc), .int (nI 0), .int (nI dp)]))]) (fun (r0 : Option Value) (w0 : va_W) => ∃ nr : Option Nat, ∃ tk : Tok, ∃ ou : List Nat, ∃ nx2 : Nat, r0 = some (.int (oI nr)) ∧ w0 = [(p, .inr (6, [.ref bk, .ref a])), (a, .inr (2, [.ref t, .ref zs, .ref zb, .ref ze, .ref zv, .ref zw, .int (nI cnt), .int (nI nx2), .int (nI tk.1), .int (nI tk.2.1), .int (nI ee), .int (oI tk.2.2.2.1), va_rf (wR g tk.2.2.2.2)])), (zs, .inl (g.2.1 0, 2001, .inl (aI ZS))), (zb, .inl (g.2.1 0, 2001, .inl (aI ZB))), (ze, .inl (g.2.1 0, 2001, .inl (aI ZE))), (zv, .inl (g.2.1 0, 2001, .inl (oA ZV))), (zw, .inl (g.2.1 6, 2001, .inr (.inr (.inr (.inr ZW))))), (bk, .inr (5, [.ref ra, .ref pa, .int (bI pr), .int (nI rc), .int (nI 0), .int (nI dp)]))] ∧ ((nr, tk, ou) = pNum T k lo hi ((so, sta, en, v, wd), out)) ∧ (∀ z, nr = some z → z < 2 ^ 31) ∧ (TokOK k tk) ∧ (nth T k nx2 = (tk, ou)) ∧ (nx2 < cnt)) := by
  refine Cn.of R_Parser [(0, .ref p), (1, .int (nI lo)), (2, .int (nI hi))] (by decide) rfl (Nat.le_of_ble_eq_true rfl) rfl ?_
  intro x A Q hR hXl hin C E
  subst hXl
  have bso := hO.so
  refine r_aload_n C 0 d_Parser_takeNumber_0 rfl rfl ?_
  refine r_get C 0 1 d_Parser_takeNumber_1 ci_Parser fi_Parser_20 rfl (by decide) rfl rfl ?_
  refine r_get C 1 11 d_Parser_takeNumber_4 ci_Tokens fi_Parser_140 rfl (by decide) rfl rfl ?_
  refine r_istore_n C (lv' := [(3, .int (oI v)), (0, .ref p), (1, .int (nI lo)), (2, .int (nI hi))]) d_Parser_takeNumber_7 rfl (by decide) rfl ?_
  refine r_aload_n C 1 d_Parser_takeNumber_8 rfl rfl ?_
  refine r_get C 0 1 d_Parser_takeNumber_9 ci_Parser fi_Parser_20 rfl (by decide) rfl rfl ?_
  refine r_get C 1 8 d_Parser_takeNumber_12 ci_Tokens fi_Parser_31 rfl (by decide) rfl rfl ?_
  refine r_iconst C (nI 2) d_Parser_takeNumber_15 (by decide) ?_
  refine r_ncmp_ne C 29 d_Parser_takeNumber_16 (by decide) (by omega) (by omega) (fun c_16 => ?_) (fun c_16 => ?_)
  · skip
    refine r_iconst C ((-1)) d_Parser_takeNumber_29 (by decide) ?_
    refine r_iret C E d_Parser_takeNumber_30 (by first | decide | omega | (simp only [rmk]; omega)) (by first | decide | omega | (simp only [rmk]; omega)) ?_
    exact ⟨none, (so, sta, en, v, wd), _, _, rfl, rfl, (pNum_sort c_16).symm, (fun _ h => by cases h), hO, hcap, ho⟩
  · skip
    obtain ⟨z, rfl⟩ := hO.num c_16
    have hz := hO.val z rfl
    refine r_norm2 (ws' := [(p, .inr (6, [.ref bk, .ref a])), (a, .inr (2, [.ref t, .ref zs, .ref zb, .ref ze, .ref zv, .ref zw, .int (nI cnt), .int (nI nx), .int (nI so), .int (nI sta), .int (nI ee), .int (nI z), va_rf (wR g wd)])), (zs, .inl (g.2.1 0, 2001, .inl (aI ZS))), (zb, .inl (g.2.1 0, 2001, .inl (aI ZB))), (ze, .inl (g.2.1 0, 2001, .inl (aI ZE))), (zv, .inl (g.2.1 0, 2001, .inl (oA ZV))), (zw, .inl (g.2.1 6, 2001, .inr (.inr (.inr (.inr ZW))))), (bk, .inr (5, [.ref ra, .ref pa, .int (bI pr), .int (nI rc), .int (nI 0), .int (nI dp)]))]) (st' := []) (lv' := [(3, .int (nI z)), (0, .ref p), (1, .int (nI lo)), (2, .int (nI hi))]) rfl rfl rfl ?_
    refine r_iload_n C 0 d_Parser_takeNumber_19 rfl rfl ?_
    refine r_iload_n C 2 d_Parser_takeNumber_20 rfl rfl ?_
    refine r_ncmp_lt C 29 d_Parser_takeNumber_21 (by decide) (by omega) (by omega) (fun c_21 => ?_) (fun c_21 => ?_)
    · skip
      refine r_iconst C ((-1)) d_Parser_takeNumber_29 (by decide) ?_
      refine r_iret C E d_Parser_takeNumber_30 (by first | decide | omega | (simp only [rmk]; omega)) (by first | decide | omega | (simp only [rmk]; omega)) ?_
      exact ⟨none, (so, sta, en, some z, wd), _, _, rfl, rfl, (pNum_no (by omega)).symm, (fun _ h => by cases h), hO, hcap, ho⟩
    · skip
      refine r_iload_n C 0 d_Parser_takeNumber_24 rfl rfl ?_
      refine r_iload_n C 3 d_Parser_takeNumber_25 rfl rfl ?_
      refine r_ncmp_le C 31 d_Parser_takeNumber_26 (by decide) (by omega) (by omega) (fun c_26 => ?_) (fun c_26 => ?_)
      · skip
        refine r_aload_n C 1 d_Parser_takeNumber_31 rfl rfl ?_
        refine r_get C 0 1 d_Parser_takeNumber_32 ci_Parser fi_Parser_20 rfl (by decide) rfl rfl ?_
        refine j_callV C (c_Tokens_advance g (xl x) (k := k) (so := so) (sta := sta) (en := en) (ee := ee) (a := a) (t := t) (zs := zs) (zb := zb) (ze := ze) (zv := zv) (zw := zw) (cnt := cnt) (nx := nx) (T := T) (ZS := ZS) (ZB := ZB) (ZE := ZE) (ZV := ZV) (ZW := ZW) (v := some z) (wd := wd) (out := out) (by first | assumption | rfl | omega) (by first | assumption | rfl | omega) (by first | assumption | rfl | omega) (by first | assumption | rfl | omega) (by first | assumption | rfl | omega)) (Sp.of (wr := [(p, .inr (6, [.ref bk, .ref a])), (bk, .inr (5, [.ref ra, .ref pa, .int (bI pr), .int (nI rc), .int (nI 0), .int (nI dp)]))]) [1, 2, 3, 4, 5, 6] [0, 7] rfl rfl rfl rfl (by decide)) d_Parser_takeNumber_35 lk_Parser_49 mw_Tokens_advance vw_Tokens_advance (q0 := 0) rfl rfl (fit_of hR (by first | decide | (simp only [rmk]; omega)) (by first | decide | (simp only [rmk]; omega)) (by first | decide | (simp only [rmk]; omega)) (by first | decide | (simp only [rmk]; omega))) rfl (cat8 (Nat.le_of_ble_eq_true rfl)) (As := []) (rest := []) rfl (fun r_35 w_35 hp_35 => ?_)
        obtain ⟨tk_35, ou_35, nx2_35, rfl, rfl, hx_35, hO2_35, hc2_35, ho2_35⟩ := hp_35
        refine r_after (ws' := [(p, .inr (6, [.ref bk, .ref a])), (a, .inr (2, [.ref t, .ref zs, .ref zb, .ref ze, .ref zv, .ref zw, .int (nI cnt), .int (nI nx2_35), .int (nI tk_35.1), .int (nI tk_35.2.1), .int (nI ee), .int (oI tk_35.2.2.2.1), va_rf (wR g tk_35.2.2.2.2)])), (zs, .inl (g.2.1 0, 2001, .inl (aI ZS))), (zb, .inl (g.2.1 0, 2001, .inl (aI ZB))), (ze, .inl (g.2.1 0, 2001, .inl (aI ZE))), (zv, .inl (g.2.1 0, 2001, .inl (oA ZV))), (zw, .inl (g.2.1 6, 2001, .inr (.inr (.inr (.inr ZW))))), (bk, .inr (5, [.ref ra, .ref pa, .int (bI pr), .int (nI rc), .int (nI 0), .int (nI dp)]))]) (st' := []) (n1 := 0) (n2 := 0) [0, 2, 3, 4, 5, 6, 7, 1] rfl rfl rfl rfl rfl ?_
        refine r_iload_n C 0 d_Parser_takeNumber_38 rfl rfl ?_
        refine r_iret C E d_Parser_takeNumber_39 (by first | decide | omega | (simp only [rmk]; omega)) (by first | decide | omega | (simp only [rmk]; omega)) ?_
        exact ⟨some z, _, _, _, rfl, rfl, by rw [pNum_yes c_16 (by omega) (by omega), ← hx_35], (fun _ h => by cases h; exact hz), hO2_35, hc2_35, ho2_35⟩
      · skip
        refine r_iconst C ((-1)) d_Parser_takeNumber_29 (by decide) ?_
        refine r_iret C E d_Parser_takeNumber_30 (by first | decide | omega | (simp only [rmk]; omega)) (by first | decide | omega | (simp only [rmk]; omega)) ?_
        exact ⟨none, (so, sta, en, some z, wd), _, _, rfl, rfl, (pNum_no (by omega)).symm, (fun _ h => by cases h), hO, hcap, ho⟩
