section SIM
variable {T : Nat → Nat} {k : Nat}
/-- the reference's machine comes to R -/
def Runs (T : Nat → Nat) (k : Nat) (s : MSt) (R : MR) : Prop := ∃ F, mrun T k F s = some R
theorem runs_go {s s2 : MSt} {R : MR} (h : mstep T k s = some (.inr (false, s2))) (h2 : Runs T k s2 R) : Runs T k s R := by
  obtain ⟨F, hF⟩ := h2
  exact ⟨F + 1, by rw [mrun, h]; exact hF⟩
theorem runs_bad {s : MSt} {v : Nat} (h : mstep T k s = some (.inl v)) : Runs T k s (.inl v) := ⟨1, by rw [mrun, h]⟩
theorem runs_over {s s2 : MSt} (h : mstep T k s = some (.inr (true, s2))) : Runs T k s (.inr (s2.1, s2.2.1, s2.2.2.2.1.2)) := ⟨1, by rw [mrun, h]⟩
/-- a token of the text -/
def TXK (T : Nat → Nat) (k : Nat) (x : TO) : Prop := ∃ so e, e ≤ k ∧ x.1 = tokAt T k so e
end SIM
section SIM2
variable {T : Nat → Nat} {k : Nat} {x y : TO}
theorem txk_ok (hT : ∀ j, T j < 256) (h : TXK T k x) : TokOK k x.1 := by
  obtain ⟨so, e, he, q⟩ := h
  rw [q]
  exact tokAt_ok hT he
theorem txk_take (hT : ∀ j, T j < 256) (h : TXK T k x) : TXK T k (tTake T k x) ∧ x.1.2.2.1 ≤ (tTake T k x).1.2.1 := by
  have ho := txk_ok hT h
  refine ⟨⟨x.1.1, x.1.2.2.1, ho.2.1, rfl⟩, ?_⟩
  show x.1.2.2.1 ≤ (tokAt T k x.1.1 x.1.2.2.1).2.1
  rw [tokAt_sta]
  exact (run_in (p := isBlk) (T := T) (k := k) _ x.1.2.2.1 rfl ho.2.1).1
theorem txk_le (hT : ∀ j, T j < 256) (h : TXK T k x) : x.1.2.1 ≤ x.1.2.2.1 ∧ x.1.2.2.1 ≤ k := ⟨(txk_ok hT h).1, (txk_ok hT h).2.1⟩
/-- further on in the text -/
def Fw (T : Nat → Nat) (k : Nat) (x y : TO) : Prop := TXK T k y ∧ x.1.2.1 ≤ y.1.2.1
theorem Fw.trans {z : TO} (h : Fw T k x y) (h2 : Fw T k y z) : Fw T k x z := ⟨h2.1, Nat.le_trans h.2 h2.2⟩
theorem fw_rfl (h : TXK T k x) : Fw T k x x := ⟨h, Nat.le_refl _⟩
theorem fw_take (hT : ∀ j, T j < 256) (h : TXK T k x) : Fw T k x (tTake T k x) := ⟨(txk_take hT h).1, Nat.le_trans (txk_le hT h).1 (txk_take hT h).2⟩
theorem fw_num (hT : ∀ j, T j < 256) (h : TXK T k x) {lo hi : Nat} : Fw T k x (pNum T k lo hi x).2 := by
  unfold pNum
  cases q : x.1.2.2.2.1 with
  | none => exact fw_rfl h
  | some z =>
    simp only []
    by_cases c : x.1.1 = 2 ∧ lo ≤ z ∧ z ≤ hi
    · rw [if_pos c]; exact fw_take hT h
    · rw [if_neg c]; exact fw_rfl h
/-- a number read takes a byte -/
theorem num_1 (hT : ∀ j, T j < 256) (h : TXK T k x) {lo hi z : Nat} (q : pNum T k lo hi x = (some z, y)) : TXK T k y ∧ x.1.2.1 + 1 ≤ y.1.2.1 := by
  unfold pNum at q
  cases w : x.1.2.2.2.1 with
  | none => rw [w] at q; cases q
  | some v =>
    rw [w] at q
    simp only [] at q
    by_cases c : x.1.1 = 2 ∧ lo ≤ v ∧ v ≤ hi
    · rw [if_pos c] at q
      cases q
      have ht := txk_take hT h
      have := (txk_ok hT h).2.2.1 (by rw [c.1]; decide)
      exact ⟨ht.1, by have := ht.2; omega⟩
    · rw [if_neg c] at q; cases q
theorem take_1 (hT : ∀ j, T j < 256) (h : TXK T k x) (h0 : x.1.1 ≠ 0) : TXK T k (tTake T k x) ∧ x.1.2.1 + 1 ≤ (tTake T k x).1.2.1 := by
  have ht := txk_take hT h
  have := (txk_ok hT h).2.2.1 h0
  exact ⟨ht.1, by have := ht.2; omega⟩
theorem fw_lay (hT : ∀ j, T j < 256) (h : TXK T k x) {w : Nat} : Fw T k x (pLay T k w x).2 := by
  have h1 := fw_take hT h
  have h2 := fw_num hT h1.1 (lo := 1) (hi := 16)
  have h3 := fw_num hT h1.1 (lo := 1) (hi := 256)
  unfold pLay
  by_cases c : w = 4
  · rw [if_pos c]
    cases a : pNum T k 1 16 (tTake T k x) with
    | mk a1 a2 =>
      rw [a] at h2
      cases a1 with
      | none => exact h1.trans h2
      | some z =>
        simp only []
        have h4 := fw_num hT h2.1 (lo := 1) (hi := 16)
        cases b : pNum T k 1 16 a2 with
        | mk b1 b2 =>
          rw [b] at h4
          cases b1 <;> exact (h1.trans h2).trans h4
  · rw [if_neg c]
    by_cases d : w = 7
    · rw [if_pos d]
      cases a : pNum T k 1 256 (tTake T k x) with
      | mk a1 a2 =>
        rw [a] at h3
        cases a1 <;> exact h1.trans h3
    · rw [if_neg d]; exact h1
theorem fw_each (hT : ∀ j, T j < 256) (h : TXK T k x) {ro : Nat} : Fw T k x (pEach T k ro x).2 := by
  unfold pEach
  by_cases c : isRo x.1.1 x.1.2.2.2.2 ro = true
  · rw [if_pos c]; exact fw_lay hT h
  · rw [if_neg c]; exact fw_rfl h
theorem cmp_ne {c : Nat} (h : cmpN T x.1 = some c) : x.1.1 ≠ 0 := by
  intro q
  unfold cmpN at h
  rw [q] at h
  simp [isSg] at h
theorem fw_cmp (hT : ∀ j, T j < 256) (h : TXK T k x) : Fw T k x (pCmp T k none x).2.2.2 ∧ ((pCmp T k none x).1 = true → x.1.2.1 + 2 ≤ (pCmp T k none x).2.2.2.1.2.1) := by
  unfold pCmp
  cases q : cmpN T x.1 with
  | none => exact ⟨fw_rfl h, fun z => by cases z⟩
  | some c =>
    simp only []
    have h1 := take_1 hT h (cmp_ne q)
    have h2 := fw_num hT h1.1 (lo := 0) (hi := 999999)
    refine ⟨(fw_take hT h).trans h2, fun z => ?_⟩
    cases a : pNum T k 0 999999 (tTake T k x) with
    | mk a1 a2 =>
      rw [a] at z
      cases a1 with
      | none => cases z
      | some v =>
        have := num_1 hT h1.1 a
        show x.1.2.1 + 2 ≤ a2.1.2.1
        omega
theorem fw_nums (hT : ∀ j, T j < 256) (h : TXK T k x) {ki : Nat} : Fw T k x (pNums T k ki x).2.2.2.2 ∧ (ki = 4 → (pNums T k ki x).1 = true → x.1.2.1 + 2 ≤ (pNums T k ki x).2.2.2.2.1.2.1) := by
  unfold pNums
  by_cases c4 : ki = 4
  · rw [if_pos c4]
    exact ⟨(fw_cmp hT h).1, fun _ => (fw_cmp hT h).2⟩
  · rw [if_neg c4]
    refine ⟨?_, fun q => absurd q c4⟩
    by_cases c5 : ki = 5
    · rw [if_pos c5]
      have h2 := fw_num hT h (lo := 0) (hi := 999999)
      cases a : pNum T k 0 999999 x with
      | mk a1 a2 =>
        rw [a] at h2
        cases a1 with
        | none => exact h2
        | some z => exact h2.trans (fw_cmp hT h2.1).1
    · rw [if_neg c5]
      by_cases c6 : ki = 6
      · rw [if_pos c6]; exact fw_num hT h
      · rw [if_neg c6]; exact fw_rfl h
end SIM2
section SIM3
variable {T : Nat → Nat} {k dp : Nat} {x : TO} {rules : List RuleV} {stk : Stk} {wa ma : Bool}
abbrev NE (T : Nat → Nat) (stk : Stk) (x : TO) (ma : Bool) : Prop := ¬ (isSg T x.1.1 x.1.2.1 125 = true ∧ hasGS stk = true ∧ ma = true)
abbrev NV (stk : Stk) (x : TO) (ma : Bool) : Prop := ¬ (x.1.1 = 0 ∧ hasGS stk = false ∧ ma = true)
theorem mstep_4 (h : x.1.1 = 4) : mstep T k (rules, dp, stk, x, wa, ma) = some (.inl x.1.2.1) := by rw [mstep, if_pos h]
theorem mstep_b (h4 : x.1.1 ≠ 4) (hne : NE T stk x ma) (hnv : NV stk x ma) : mstep T k (rules, dp, stk, x, true, ma) = match begM T k x.1 rules dp stk (tTake T k x) with
    | none => none
    | some (.inl v) => some (.inl v)
    | some (.inr y) => some (.inr (false, (y.2.1, y.2.2.1, y.2.2.2.1, y.2.2.2.2, y.1, isSg T x.1.1 x.1.2.1 123))) := by
  rw [mstep, if_neg h4, if_neg (fun q => hne ⟨q.1, q.2.1, q.2.2.resolve_right (by simp)⟩), if_neg (fun q => hnv ⟨q.1, q.2.1, q.2.2.resolve_right (by simp)⟩), if_neg (by simp)]
  rfl
theorem mstep_e (h4 : x.1.1 ≠ 4) (h1 : isSg T x.1.1 x.1.2.1 125 = true) (h2 : hasGS stk = true) (h3 : ma = true ∨ wa = false) : mstep T k (rules, dp, stk, x, wa, ma) = some (.inr (false, (rules, dp, closeS stk.dropLast, tTake T k x, false, false))) := by rw [mstep, if_neg h4, if_pos ⟨h1, h2, h3⟩]
theorem mstep_o (h0 : x.1.1 = 0) (h2 : hasGS stk = false) (h3 : ma = true ∨ wa = false) : mstep T k (rules, dp, stk, x, wa, ma) = some (.inr (true, (rules, dp, stk, x, wa, ma))) := by rw [mstep, if_neg (by show ¬ x.1.1 = 4; rw [h0]; decide), if_neg (fun q => by have := q.2.1; rw [show hasGS stk = false from h2] at this; cases this), if_pos ⟨h0, h2, h3⟩]
theorem mstep_s (h4 : x.1.1 ≠ 4) (hne : ¬ (isSg T x.1.1 x.1.2.1 125 = true ∧ hasGS stk = true)) (hnv : ¬ (x.1.1 = 0 ∧ hasGS stk = false)) : mstep T k (rules, dp, stk, x, false, false) = if isSg T x.1.1 x.1.2.1 59 = true then some (.inr (false, (rules, dp, stk, tTake T k x, true, false))) else some (.inl x.1.2.1) := by
  rw [mstep, if_neg h4, if_neg (fun q => hne ⟨q.1, q.2.1⟩), if_neg (fun q => hnv ⟨q.1, q.2.1⟩), if_pos rfl]
/-- the class's part r of the text is the machine's way from s -/
def SimS (T : Nat → Nat) (k : Nat) (stk stk2 : Stk) (ma : Bool) (s : PSt) (r : Bool × PSt × Nat) (add : Nat) : Prop :=
  (r.1 = true → TXK T k r.2.1.2.2 ∧ s.2.2.1.2.1 + add ≤ r.2.1.2.2.1.2.1 ∧ 5 * r.2.1.1.length ≤ r.2.1.2.2.1.2.1 ∧ ∀ R, Runs T k (r.2.1.1, r.2.1.2.1, stk2, r.2.1.2.2, false, false) R → Runs T k (s.1, s.2.1, stk, s.2.2, true, ma) R) ∧ (r.1 = false → Runs T k (s.1, s.2.1, stk, s.2.2, true, ma) (.inl r.2.1.2.2.1.2.1))
theorem isWd_ro {so u ro : Nat} {wd : Option Nat} (h : isRo so wd ro = true) (hu : roleN u ≠ ro) : isWd so wd u = false := by
  cases wd with
  | none => simp [isWd]
  | some w =>
    have : so = 1 ∧ roleN w = ro := by simpa [isRo] using h
    simp only [isWd, decide_eq_false_iff_not]
    rintro ⟨-, q⟩
    cases q
    exact hu this.2
theorem ro_so {so ro : Nat} {wd : Option Nat} (h : isRo so wd ro = true) : so = 1 ∧ ∃ w, wd = some w ∧ roleN w = ro := by
  cases wd with
  | none => cases h
  | some w =>
    have : so = 1 ∧ roleN w = ro := by simpa [isRo] using h
    exact ⟨this.1, w, rfl, this.2⟩
theorem sg_so {so s c : Nat} (h : isSg T so s c = true) : so = 3 ∧ T s = c := by simpa [isSg] using h
theorem sg_1 {so s c : Nat} (h : so = 1) : isSg T so s c = false := by rw [h]; simp [isSg]
theorem wd_3 {so u : Nat} {wd : Option Nat} (h : so ≠ 1) : isWd so wd u = false := by simp [isWd, h]
theorem ro_3 {so ro : Nat} {wd : Option Nat} (h : so ≠ 1) : isRo so wd ro = false := by cases wd <;> simp [isRo, h]
theorem tx_word (h : TXK T k x) (h1 : x.1.1 = 1) : x.1.2.2.2.2 = wordAt T x.1.2.1 x.1.2.2.1 := by
  obtain ⟨so, e, he, q⟩ := h
  rw [q] at h1 ⊢
  unfold tokAt at h1 ⊢
  split at h1
  · cases h1
  · rename_i c
    rw [if_neg c]
    unfold tok0 at h1 ⊢
    split at h1
    · cases h1
    · rename_i c1
      rw [if_neg c1]
      split at h1
      · rename_i c2
        rw [if_pos c2]
      · rename_i c2
        rw [if_neg c2]
        split at h1
        · rename_i c3
          split at h1 <;> cases h1
        · split at h1 <;> cases h1
theorem wd_len (h : TXK T k x) (h1 : x.1.1 = 1) {w : Nat} (hw : x.1.2.2.2.2 = some w) : w < 23 ∧ x.1.2.2.1 - x.1.2.1 = wLen.getD w 0 := by
  have e := (tx_word h h1).symm.trans hw
  obtain ⟨a, -, c⟩ := fw_some 23 0 e
  simp only [stB, decide_eq_true_eq] at a
  exact ⟨by omega, a.1⟩
theorem wLen_3 : ∀ w, w < 23 → roleN w = 3 → (w = 20 ∧ wLen.getD w 0 = 3) ∨ (w ≠ 20 ∧ 5 ≤ wLen.getD w 0) := by decide
/-- a rule takes five bytes -/
theorem rule_5 (hT : ∀ j, T j < 256) (h : TXK T k x) (hr : isRo x.1.1 x.1.2.2.2.2 3 = true) : TXK T k (pNums T k (x.1.2.2.2.2.getD 0 - 16) (tTake T k x)).2.2.2.2 ∧ ((pNums T k (x.1.2.2.2.2.getD 0 - 16) (tTake T k x)).1 = true → x.1.2.1 + 5 ≤ (pNums T k (x.1.2.2.2.2.getD 0 - 16) (tTake T k x)).2.2.2.2.1.2.1) := by
  obtain ⟨h1, w, hw, hro⟩ := ro_so hr
  have ht := txk_take hT h
  have hn := fw_nums hT ht.1 (ki := x.1.2.2.2.2.getD 0 - 16)
  refine ⟨hn.1.1, fun q => ?_⟩
  obtain ⟨hl, hlen⟩ := wd_len h h1 hw
  have hle := txk_le hT h
  rcases wLen_3 w hl hro with ⟨a, b⟩ | ⟨a, b⟩
  · have := hn.2 (by rw [hw, a]; rfl) q
    have := ht.2
    omega
  · have := hn.1.2
    have := ht.2
    omega
end SIM3
section SIM4
variable {T : Nat → Nat} {k : Nat}
theorem closeS_idem_none {s : Stk} : closeS (s ++ [none]) = s ++ [none] := closeS_none
theorem layS_some {s : Stk} {l : LayerV} : layS (s ++ [some l]) = l :: layS s := by simp [layS]
theorem layS_none {s : Stk} : layS (s ++ [none]) = layS s := by simp [layS]
theorem hasGS_none {s : Stk} : hasGS (s ++ [none]) = true := by simp [hasGS]
/-- a rule -/
theorem sim_rule (hT : ∀ j, T j < 256) (hk : k ≤ 2000) {s : PSt} {stk : Stk} {ma : Bool} {ls : List LayerV} (hx : TXK T k s.2.2) (hl : layS stk = ls) (h5 : 5 * s.1.length ≤ s.2.2.1.2.1) (hne : NE T stk s.2.2 ma) (hnv : NV stk s.2.2 ma) (hr : rol 3 s = true) : SimS T k stk (closeS stk) ma s (pRl T k ls s) 1 := by
  obtain ⟨rules, dp, x⟩ := s
  have hr' : isRo x.1.1 x.1.2.2.2.2 3 = true := hr
  obtain ⟨h1, w, hw, hro⟩ := ro_so hr'
  obtain ⟨hy, hy5⟩ := rule_5 hT hx hr'
  have hyk := (txk_le hT hy)
  have hb : begM T k x.1 rules dp stk (tTake T k x) = (match pNums T k (x.1.2.2.2.2.getD 0 - 16) (tTake T k x) with
    | (true, c, n, w, y) => if rules.length < 400 then some (.inr (false, rules ++ [(x.1.2.2.2.2.getD 0 - 16, x.1.2.1, layS stk, c, n, w)], dp, closeS stk, y)) else none
    | (false, _, _, _, y) => some (.inl y.1.2.1)) := by
    unfold begM
    rw [isWd_ro hr' (by decide : roleN 0 ≠ 3), isWd_ro hr' (by decide : roleN 1 ≠ 3), sg_1 h1, if_neg (by simp), if_neg (by simp), if_neg (by simp), if_neg (by simp), if_pos hr']
    rfl
  have hm := mstep_b (T := T) (k := k) (rules := rules) (dp := dp) (x := x) (stk := stk) (ma := ma) (by rw [h1]; decide) hne hnv
  rw [hb] at hm
  unfold pRl pRule
  simp only []
  cases hp : pNums T k (x.1.2.2.2.2.getD 0 - 16) (tTake T k x) with
  | mk ok rest =>
    obtain ⟨c, n, wt, y⟩ := rest
    rw [hp] at hm hy hy5 hyk
    cases ok with
    | false =>
      simp only [] at hm
      rw [if_neg (by simp)]
      exact ⟨fun q => (by cases q), fun _ => runs_bad hm⟩
    | true =>
      have h5' := hy5 rfl
      have hlt : rules.length < 400 := by
        have : 5 * rules.length ≤ x.1.2.1 := h5
        simp only [] at h5' hyk
        omega
      simp only [] at hm
      rw [if_pos hlt] at hm
      rw [if_pos ⟨rfl, hlt⟩]
      refine ⟨fun _ => ⟨hy, ?_, ?_, fun R hR => ?_⟩, fun q => by cases q⟩
      · show x.1.2.1 + 1 ≤ y.1.2.1
        simp only [] at h5'
        omega
      · show 5 * (rules ++ [_]).length ≤ y.1.2.1
        have : 5 * rules.length ≤ x.1.2.1 := h5
        simp only [] at h5'
        rw [List.length_append]
        simp only [List.length_cons, List.length_nil]
        omega
      · have hsg : isSg T x.1.1 x.1.2.1 123 = false := sg_1 h1
        rw [hsg, hl] at hm
        exact runs_go hm hR
/-- no statement begins there -/
theorem sim_no (hT : ∀ j, T j < 256) {s : PSt} {stk : Stk} {ma : Bool} (hne : NE T stk s.2.2 ma) (hnv : NV stk s.2.2 ma) (h3 : rol 3 s = false) (hb : sgn T 123 s = false ∧ rol 0 s = false ∨ stk.length = 40) : SimS T k stk (closeS stk) ma s (false, s, 0) 1 := by
  obtain ⟨rules, dp, x⟩ := s
  refine ⟨fun q => (by cases q), fun _ => ?_⟩
  by_cases h4 : x.1.1 = 4
  · exact runs_bad (mstep_4 h4)
  · refine runs_bad ?_
    rw [mstep_b h4 hne hnv]
    have h3' : isRo x.1.1 x.1.2.2.2.2 3 = false := h3
    have hbm : begM T k x.1 rules dp stk (tTake T k x) = some (.inl x.1.2.1) := by
      unfold begM
      by_cases hd : (isWd x.1.1 x.1.2.2.2.2 0 || isWd x.1.1 x.1.2.2.2.2 1 || isSg T x.1.1 x.1.2.1 123) = true ∧ stk.length = 40
      · rw [if_pos hd]
      · rw [if_neg hd]
        have hall : (isWd x.1.1 x.1.2.2.2.2 0 || isWd x.1.1 x.1.2.2.2.2 1 || isSg T x.1.1 x.1.2.1 123) = false := by
          rcases hb with ⟨b1, b2⟩ | b
          · have b1' : isSg T x.1.1 x.1.2.1 123 = false := b1
            have b2' : isRo x.1.1 x.1.2.2.2.2 0 = false := b2
            have hw : ∀ u, roleN u = 0 → isWd x.1.1 x.1.2.2.2.2 u = false := fun u hu => by
              cases q : x.1.2.2.2.2 with
              | none => simp [isWd]
              | some w =>
                rw [q] at b2'
                simp only [isWd, decide_eq_false_iff_not]
                rintro ⟨z1, z2⟩
                cases z2
                simp [isRo, z1, hu] at b2'
            rw [hw 0 (by decide), hw 1 (by decide), b1']
            rfl
          · cases z : (isWd x.1.1 x.1.2.2.2.2 0 || isWd x.1.1 x.1.2.2.2.2 1 || isSg T x.1.1 x.1.2.1 123) with
            | false => rfl
            | true => exact absurd ⟨z, b⟩ hd
        simp only [Bool.or_eq_false_iff] at hall
        rw [if_neg (by rw [hall.1.1]; decide), if_neg (by rw [hall.1.2]; decide), if_neg (by rw [hall.2]; decide), if_neg (by rw [h3']; decide)]
    rw [hbm]
/-- each or where -/
theorem sim_ly (hT : ∀ j, T j < 256) {d : Nat} {s : PSt} {stk : Stk} {ma : Bool} {ls : List LayerV} (hd : d + 1 ≤ 40) (hst : stk.length = 40 - (d + 1)) (hx : TXK T k s.2.2) (hl : layS stk = ls) (h5 : 5 * s.1.length ≤ s.2.2.1.2.1) (hne : NE T stk s.2.2 ma) (hnv : NV stk s.2.2 ma) (h0 : rol 0 s = true)
    (ih : ∀ (l : LayerV) (y : TO), TXK T k y → s.2.2.1.2.1 ≤ y.1.2.1 → SimS T k (stk ++ [some l]) (closeS (stk ++ [some l])) false (s.1, max s.2.1 (40 - d), y) (pS T k d (l :: ls) (s.1, max s.2.1 (40 - d), y)) 1) : SimS T k stk (closeS stk) ma s (pLy (pS T k d) T k ls (s.1, max s.2.1 (40 - d), s.2.2)) 1 := by
  obtain ⟨rules, dp, x⟩ := s
  have h0' : isRo x.1.1 x.1.2.2.2.2 0 = true := h0
  obtain ⟨h1, w, hw, hro⟩ := ro_so h0'
  have ht := take_1 hT hx (show x.1.1 ≠ 0 by rw [h1]; decide)
  have hmx : max dp (stk.length + 1) = max dp (40 - d) := by rw [show stk.length + 1 = 40 - d by omega]
  have hw01 : w = 0 ∨ w = 1 := by
    unfold roleN at hro
    split at hro
    · omega
    · split at hro
      · cases hro
      · split at hro <;> cases hro
  have hm := mstep_b (T := T) (k := k) (rules := rules) (dp := dp) (x := x) (stk := stk) (ma := ma) (by rw [h1]; decide) hne hnv
  have hsg : isSg T x.1.1 x.1.2.1 123 = false := sg_1 h1
  obtain ⟨ro, hror, hbm⟩ : ∃ ro, ro = (if isWd x.1.1 x.1.2.2.2.2 0 = true then 1 else 2) ∧ begM T k x.1 rules dp stk (tTake T k x) = (match pEach T k ro (tTake T k x) with
    | (some l, y) => some (.inr (true, rules, max dp (stk.length + 1), stk ++ [some l], y))
    | (none, y) => some (.inl y.1.2.1)) := by
    unfold begM
    rw [if_neg (show ¬ ((isWd x.1.1 x.1.2.2.2.2 0 || isWd x.1.1 x.1.2.2.2.2 1 || isSg T x.1.1 x.1.2.1 123) = true ∧ stk.length = 40) from fun q => by have := q.2; omega)]
    rcases hw01 with rfl | rfl
    · have a : isWd x.1.1 x.1.2.2.2.2 0 = true := by rw [hw, h1]; decide
      exact ⟨1, by rw [if_pos a], by rw [if_pos a]; rfl⟩
    · have a : isWd x.1.1 x.1.2.2.2.2 0 = false := by rw [hw, h1]; decide
      have b : isWd x.1.1 x.1.2.2.2.2 1 = true := by rw [hw, h1]; decide
      exact ⟨2, by rw [if_neg (by rw [a]; decide)], by rw [if_neg (by rw [a]; decide), if_pos b]; rfl⟩
  rw [hbm] at hm
  have hE := fw_each hT ht.1 (ro := ro)
  unfold pLy
  simp only []
  rw [← hror]
  unfold pEach at hm hE
  by_cases hc : isRo (tTake T k x).1.1 (tTake T k x).1.2.2.2.2 ro = true
  · rw [if_pos hc] at hm hE
    rw [if_pos (show rol ro (pTk T k (rules, max dp (40 - d), x)) = true from hc)]
    show SimS T k stk (closeS stk) ma (rules, dp, x) (match pLay T k ((tTake T k x).1.2.2.2.2.getD 0) (tTake T k x) with
      | (none, y) => (false, (rules, max dp (40 - d), y), 1)
      | (some l, y) => ((pS T k d (l :: ls) (rules, max dp (40 - d), y)).1, (pS T k d (l :: ls) (rules, max dp (40 - d), y)).2.1, (pS T k d (l :: ls) (rules, max dp (40 - d), y)).2.2 + 1)) 1
    cases hp : pLay T k ((tTake T k x).1.2.2.2.2.getD 0) (tTake T k x) with
    | mk a y =>
      rw [hp] at hm hE
      cases a with
      | none => exact ⟨fun q => (by cases q), fun _ => runs_bad hm⟩
      | some l =>
        simp only [] at hm
        rw [hsg, hmx] at hm
        have t1 : x.1.2.1 + 1 ≤ (tTake T k x).1.2.1 := ht.2
        have t2 : (tTake T k x).1.2.1 ≤ y.1.2.1 := hE.2
        have hi := ih l y hE.1 (show x.1.2.1 ≤ y.1.2.1 by omega)
        rw [closeS_some] at hi
        refine ⟨fun q => ?_, fun q => runs_go hm (hi.2 q)⟩
        obtain ⟨a1, a2, a3, a4⟩ := hi.1 q
        refine ⟨a1, ?_, a3, fun R hR => runs_go hm (a4 R hR)⟩
        have t3 : y.1.2.1 + 1 ≤ (pS T k d (l :: ls) (rules, max dp (40 - d), y)).2.1.2.2.1.2.1 := a2
        show x.1.2.1 + 1 ≤ (pS T k d (l :: ls) (rules, max dp (40 - d), y)).2.1.2.2.1.2.1
        omega
  · rw [if_neg hc] at hm
    rw [if_neg (show ¬ rol ro (pTk T k (rules, max dp (40 - d), x)) = true from hc)]
    exact ⟨fun q => (by cases q), fun _ => runs_bad hm⟩
end SIM4
section SIM5
variable {T : Nat → Nat} {k : Nat}
abbrev SimF (T : Nat → Nat) (k : Nat) (stk : Stk) (f : PSt → Bool × PSt × Nat) : Prop := ∀ (s : PSt) (ma : Bool), TXK T k s.2.2 → 5 * s.1.length ≤ s.2.2.1.2.1 → NE T stk s.2.2 ma → NV stk s.2.2 ma → SimS T k stk (closeS stk) ma s (f s) 1
def SimG (T : Nat → Nat) (k : Nat) (stk : Stk) (ma : Bool) (s : PSt) (r : Bool × PSt × Nat) : Prop :=
  (r.1 = true → TXK T k r.2.1.2.2 ∧ s.2.2.1.2.1 ≤ r.2.1.2.2.1.2.1 ∧ 5 * r.2.1.1.length ≤ r.2.1.2.2.1.2.1 ∧ ∃ wa2 ma2 : Bool, (ma2 = true ∨ wa2 = false) ∧ (wa2 = true → r.2.1.2.2.1.1 = 0 ∨ isSg T r.2.1.2.2.1.1 r.2.1.2.2.1.2.1 125 = true) ∧ (wa2 = false → isSg T r.2.1.2.2.1.1 r.2.1.2.2.1.2.1 59 = false ∧ ma2 = false) ∧ ∀ R, Runs T k (r.2.1.1, r.2.1.2.1, stk, r.2.1.2.2, wa2, ma2) R → Runs T k (s.1, s.2.1, stk, s.2.2, true, ma) R) ∧ (r.1 = false → Runs T k (s.1, s.2.1, stk, s.2.2, true, ma) (.inl r.2.1.2.2.1.2.1))
theorem sim_loop (hT : ∀ j, T j < 256) (hk : k ≤ 2000) {stk : Stk} {f : PSt → Bool × PSt × Nat} (hcl : closeS stk = stk) (hf : SimF T k stk f) : ∀ (m : Nat) (s : PSt) (ma : Bool), m ≤ 2000 → 2 * (2000 - m) ≤ s.2.2.1.2.1 → TXK T k s.2.2 → 5 * s.1.length ≤ s.2.2.1.2.1 → NE T stk s.2.2 ma → NV stk s.2.2 ma → SimG T k stk ma s (pLoop f T k m s) := by
  intro m
  induction m with
  | zero =>
    intro s ma _ h2 hx _ _ _
    have := txk_le hT hx
    omega
  | succ m ih =>
    intro s ma hm h2 hx h5 hne hnv
    have hs := hf s ma hx h5 hne hnv
    rw [hcl] at hs
    rw [pLoop]
    cases q : (f s).1 with
    | false =>
      rw [if_neg (by decide)]
      exact ⟨fun z => (by cases z), fun _ => hs.2 q⟩
    | true =>
      rw [if_pos rfl]
      obtain ⟨a1, a2, a3, a4⟩ := hs.1 q
      cases c : sgn T 59 (f s).2.1 with
      | false =>
        rw [if_neg (by decide)]
        exact ⟨fun _ => ⟨a1, by show _ ≤ (f s).2.1.2.2.1.2.1; omega, a3, false, false, Or.inr rfl, fun z => (by cases z), fun _ => ⟨c, rfl⟩, a4⟩, fun z => by cases z⟩
      | true =>
        rw [if_pos rfl]
        have hsg := sg_so (show isSg T (f s).2.1.2.2.1.1 (f s).2.1.2.2.1.2.1 59 = true from c)
        have ht := take_1 hT a1 (by rw [hsg.1]; decide)
        have hgo : mstep T k ((f s).2.1.1, (f s).2.1.2.1, stk, (f s).2.1.2.2, false, false) = some (.inr (false, ((f s).2.1.1, (f s).2.1.2.1, stk, tTake T k (f s).2.1.2.2, true, false))) := by
          rw [mstep_s (by rw [hsg.1]; decide) (fun z => by have := (sg_so z.1).2; omega) (fun z => by rw [hsg.1] at z; exact absurd z.1 (by decide))]
          exact if_pos c
        have t1 : (f s).2.1.2.2.1.2.1 + 1 ≤ (pTk T k (f s).2.1).2.2.1.2.1 := ht.2
        have t2 : s.2.2.1.2.1 + 1 ≤ (f s).2.1.2.2.1.2.1 := a2
        have hi := ih (pTk T k (f s).2.1) false (by omega) (by omega) ht.1 (by show 5 * (f s).2.1.1.length ≤ _; omega) (fun z => by cases z.2.2) (fun z => by cases z.2.2)
        refine ⟨fun z => ?_, fun z => a4 _ (runs_go hgo (hi.2 z))⟩
        obtain ⟨b1, b2, b3, wa2, ma2, b4, b5, b6, b7⟩ := hi.1 z
        exact ⟨b1, by show s.2.2.1.2.1 ≤ _; exact Nat.le_trans (by omega) b2, b3, wa2, ma2, b4, b5, b6, fun R hR => a4 R (runs_go hgo (b7 R hR))⟩
theorem sim_grp (hT : ∀ j, T j < 256) (hk : k ≤ 2000) {stk : Stk} {f : PSt → Bool × PSt × Nat} (hcl : closeS stk = stk) (hf : SimF T k stk f) (s : PSt) (hx : TXK T k s.2.2) (h5 : 5 * s.1.length ≤ s.2.2.1.2.1) : SimG T k stk true s (pG f T k s) := by
  rw [pG]
  by_cases c : s.2.2.1.1 = 0 ∨ sgn T 125 s = true
  · rw [if_pos c]
    exact ⟨fun _ => ⟨hx, Nat.le_refl _, h5, true, true, Or.inl rfl, fun _ => c, fun z => (by cases z), fun R hR => hR⟩, fun z => by cases z⟩
  · rw [if_neg c]
    exact sim_loop hT hk hcl hf 2000 s true (Nat.le_refl _) (by omega) hx h5 (fun z => c (Or.inr z.1)) (fun z => c (Or.inl z.1))
theorem begM_125 {x : TO} {rules : List RuleV} {dp : Nat} {stk : Stk} {y : TO} (h : isSg T x.1.1 x.1.2.1 125 = true) : begM T k x.1 rules dp stk y = some (.inl x.1.2.1) := by
  obtain ⟨h1, h2⟩ := sg_so h
  have hn : x.1.1 ≠ 1 := by rw [h1]; decide
  have hb : isSg T x.1.1 x.1.2.1 123 = false := by
    cases q : isSg T x.1.1 x.1.2.1 123 with
    | false => rfl
    | true => have := (sg_so q).2; omega
  unfold begM
  rw [wd_3 hn, wd_3 hn, hb, ro_3 hn]
  simp
theorem grp_bad {x : TO} {rules : List RuleV} {dp : Nat} {stk : Stk} {wa ma : Bool} (hb : (hasGS stk = true ∧ isSg T x.1.1 x.1.2.1 125 = false) ∨ (hasGS stk = false ∧ x.1.1 ≠ 0)) (h1 : wa = true → x.1.1 = 0 ∨ isSg T x.1.1 x.1.2.1 125 = true) (h2 : wa = false → isSg T x.1.1 x.1.2.1 59 = false ∧ ma = false) : Runs T k (rules, dp, stk, x, wa, ma) (.inl x.1.2.1) := by
  by_cases h4 : x.1.1 = 4
  · exact runs_bad (mstep_4 h4)
  · have hne : ¬ (isSg T x.1.1 x.1.2.1 125 = true ∧ hasGS stk = true) := fun z => by
      rcases hb with ⟨b1, b2⟩ | ⟨b1, b2⟩
      · rw [b2] at z; cases z.1
      · rw [b1] at z; cases z.2
    have hnv : ¬ (x.1.1 = 0 ∧ hasGS stk = false) := fun z => by
      rcases hb with ⟨b1, b2⟩ | ⟨b1, b2⟩
      · rw [b1] at z; cases z.2
      · exact b2 z.1
    cases wa with
    | true =>
      refine runs_bad ?_
      rw [mstep_b h4 (fun z => hne ⟨z.1, z.2.1⟩) (fun z => hnv ⟨z.1, z.2.1⟩)]
      rcases h1 rfl with q | q
      · rw [begM_0 q]
      · rw [begM_125 q]
    | false =>
      obtain ⟨q1, rfl⟩ := h2 rfl
      refine runs_bad ?_
      rw [mstep_s h4 hne hnv, if_neg (by rw [q1]; decide)]
/-- a group in braces -/
theorem sim_br (hT : ∀ j, T j < 256) (hk : k ≤ 2000) {d : Nat} {s : PSt} {stk : Stk} {ma : Bool} {ls : List LayerV} (hd : d + 1 ≤ 40) (hst : stk.length = 40 - (d + 1)) (hx : TXK T k s.2.2) (h5 : 5 * s.1.length ≤ s.2.2.1.2.1) (hne : NE T stk s.2.2 ma) (hnv : NV stk s.2.2 ma) (h0 : sgn T 123 s = true) (ih : SimF T k (stk ++ [none]) (pS T k d ls)) : SimS T k stk (closeS stk) ma s (pBr (pS T k d ls) T k (s.1, max s.2.1 (40 - d), s.2.2)) 1 := by
  obtain ⟨rules, dp, x⟩ := s
  have h0' : isSg T x.1.1 x.1.2.1 123 = true := h0
  obtain ⟨h1, h2⟩ := sg_so h0'
  have hn : x.1.1 ≠ 1 := by rw [h1]; decide
  have ht := take_1 hT hx (show x.1.1 ≠ 0 by rw [h1]; decide)
  have t1 : x.1.2.1 + 1 ≤ (tTake T k x).1.2.1 := ht.2
  have hm := mstep_b (T := T) (k := k) (rules := rules) (dp := dp) (x := x) (stk := stk) (ma := ma) (by rw [h1]; decide) hne hnv
  have hbm : begM T k x.1 rules dp stk (tTake T k x) = some (.inr (true, rules, max dp (40 - d), stk ++ [none], tTake T k x)) := by
    unfold begM
    rw [wd_3 hn, wd_3 hn, h0', if_neg (show ¬ ((false || false || true) = true ∧ stk.length = 40) from fun q => by have := q.2; omega), if_neg (by decide), if_neg (by decide), if_pos rfl, show stk.length + 1 = 40 - d by omega]
  rw [hbm, h0'] at hm
  have hg := sim_grp hT hk (f := pS T k d ls) (closeS_none (s := stk)) ih (rules, max dp (40 - d), tTake T k x) ht.1 (by show 5 * rules.length ≤ (tTake T k x).1.2.1; have : 5 * rules.length ≤ x.1.2.1 := h5; omega)
  unfold pBr
  show SimS T k stk (closeS stk) ma (rules, dp, x) (if (pG (pS T k d ls) T k (rules, max dp (40 - d), tTake T k x)).1 = true ∧ sgn T 125 (pG (pS T k d ls) T k (rules, max dp (40 - d), tTake T k x)).2.1 = true then (true, pTk T k (pG (pS T k d ls) T k (rules, max dp (40 - d), tTake T k x)).2.1, (pG (pS T k d ls) T k (rules, max dp (40 - d), tTake T k x)).2.2) else (false, (pG (pS T k d ls) T k (rules, max dp (40 - d), tTake T k x)).2.1, (pG (pS T k d ls) T k (rules, max dp (40 - d), tTake T k x)).2.2)) 1
  generalize pG (pS T k d ls) T k (rules, max dp (40 - d), tTake T k x) = r at hg ⊢
  cases q : r.1 with
  | false =>
    rw [if_neg (by simp)]
    exact ⟨fun z => (by cases z), fun _ => runs_go hm (hg.2 q)⟩
  | true =>
    obtain ⟨b1, b2, b3, wa2, ma2, b4, b5, b6, b7⟩ := hg.1 q
    have t2 : (tTake T k x).1.2.1 ≤ r.2.1.2.2.1.2.1 := b2
    cases c : sgn T 125 r.2.1 with
    | false =>
      rw [if_neg (by simp)]
      exact ⟨fun z => (by cases z), fun _ => runs_go hm (b7 _ (grp_bad (Or.inl ⟨hasGS_none, c⟩) b5 b6))⟩
    | true =>
      rw [if_pos ⟨rfl, rfl⟩]
      have c' : isSg T r.2.1.2.2.1.1 r.2.1.2.2.1.2.1 125 = true := c
      have hso := (sg_so c').1
      have ht2 := take_1 hT b1 (show r.2.1.2.2.1.1 ≠ 0 by rw [hso]; decide)
      have t3 : r.2.1.2.2.1.2.1 + 1 ≤ (tTake T k r.2.1.2.2).1.2.1 := ht2.2
      have he := mstep_e (T := T) (k := k) (rules := r.2.1.1) (dp := r.2.1.2.1) (x := r.2.1.2.2) (stk := stk ++ [none]) (by rw [hso]; decide) c' hasGS_none b4
      rw [List.dropLast_concat] at he
      refine ⟨fun _ => ⟨ht2.1, ?_, ?_, fun R hR => runs_go hm (b7 R (runs_go he hR))⟩, fun z => by cases z⟩
      · show x.1.2.1 + 1 ≤ (tTake T k r.2.1.2.2).1.2.1
        omega
      · show 5 * r.2.1.1.length ≤ (tTake T k r.2.1.2.2).1.2.1
        omega
/-- a statement -/
theorem sim_S (hT : ∀ j, T j < 256) (hk : k ≤ 2000) : ∀ (d : Nat) (ls : List LayerV) (stk : Stk), d ≤ 40 → stk.length = 40 - d → layS stk = ls → SimF T k stk (pS T k d ls) := by
  intro d
  induction d with
  | zero =>
    intro ls stk _ hst hl s ma hx h5 hne hnv
    rw [pS]
    cases c : rol 3 s with
    | true => rw [if_pos rfl]; exact sim_rule hT hk hx hl h5 hne hnv c
    | false => rw [if_neg (by decide)]; exact sim_no hT hne hnv c (Or.inr (by omega))
  | succ d ih =>
    intro ls stk hd hst hl s ma hx h5 hne hnv
    rw [pS]
    cases c : rol 3 s with
    | true => rw [if_pos rfl]; exact sim_rule hT hk hx hl h5 hne hnv c
    | false =>
      rw [if_neg (by decide)]
      cases c2 : sgn T 123 s with
      | true =>
        rw [if_pos rfl]
        exact sim_br hT hk hd hst hx h5 hne hnv c2 (ih ls (stk ++ [none]) (by omega) (by rw [List.length_append]; simp only [List.length_cons, List.length_nil]; omega) (by rw [layS_none]; exact hl))
      | false =>
        rw [if_neg (by decide)]
        cases c3 : rol 0 s with
        | true =>
          rw [if_pos rfl]
          exact sim_ly hT hd hst hx hl h5 hne hnv c3 (fun l y hy hle => ih (l :: ls) (stk ++ [some l]) (by omega) (by rw [List.length_append]; simp only [List.length_cons, List.length_nil]; omega) (by rw [layS_some, hl]) _ false hy (by show 5 * s.1.length ≤ y.1.2.1; omega) (fun z => by cases z.2.2) (fun z => by cases z.2.2))
        | false => rw [if_neg (by decide)]; exact sim_no hT hne hnv c (Or.inl ⟨c2, c3⟩)
/-- the machine reads what the class reads -/
theorem sim_top (hT : ∀ j, T j < 256) (hk : k ≤ 2000) : Runs T k ([], 0, [], (tokAt T k 0 0, []), true, true) (if (parseP T k).1 = true ∧ (parseP T k).2.1.2.2.1.1 = 0 then .inr ((parseP T k).2.1.1, (parseP T k).2.1.2.1, (parseP T k).2.1.2.2.2) else .inl (parseP T k).2.1.2.2.1.2.1) := by
  have hg := sim_grp hT hk (stk := []) (f := pS T k 40 []) rfl (sim_S hT hk 40 [] [] (Nat.le_refl _) rfl rfl) ([], 0, (tokAt T k 0 0, [])) ⟨0, 0, Nat.zero_le _, rfl⟩ (Nat.zero_le _)
  have he : parseP T k = pG (pS T k 40 []) T k ([], 0, (tokAt T k 0 0, [])) := rfl
  rw [← he] at hg
  cases q : (parseP T k).1 with
  | false =>
    rw [if_neg (by simp)]
    exact hg.2 q
  | true =>
    obtain ⟨b1, b2, b3, wa2, ma2, b4, b5, b6, b7⟩ := hg.1 q
    by_cases c : (parseP T k).2.1.2.2.1.1 = 0
    · rw [if_pos ⟨rfl, c⟩]
      exact b7 _ (runs_over (mstep_o c rfl b4))
    · rw [if_neg (fun z => c z.2)]
      exact b7 _ (grp_bad (Or.inr ⟨rfl, c⟩) b5 b6)
end SIM5
