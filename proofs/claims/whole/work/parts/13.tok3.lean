def isSg (T : Nat → Nat) (so sta c : Nat) : Bool := decide (so = 3 ∧ T sta = c)
def isWd (so : Nat) (wd : Option Nat) (u : Nat) : Bool := decide (so = 1 ∧ wd = some u)
/-- 0 each, where; 1 a shape; 2 a filter; 3 a rule -/
def roleN (w : Nat) : Nat := if w < 2 then 0 else if w < 12 then 1 else if w < 16 then 2 else 3
def isRo (so : Nat) (wd : Option Nat) (ro : Nat) : Bool := match wd with
  | none => false
  | some w => decide (so = 1 ∧ roleN w = ro)
theorem roleN_lt (w : Nat) : roleN w < 2 ^ 31 := by
  unfold roleN
  split
  · decide
  · split
    · decide
    · split <;> decide
theorem wRole_eq {w : Nat} (h : w < 23) : wRole.getD w 0 = nI (roleN w) := by
  have : ∀ w, w < 23 → wRole.getD w 0 = nI (roleN w) := by decide +kernel
  exact this w h
theorem wR_some {g : GG} {wd : Option Nat} {a : Nat} (h : wR g wd = some a) : ∃ w, wd = some w := by
  cases wd with
  | none => cases h
  | some w => exact ⟨w, rfl⟩
theorem wR_none {g : GG} {wd : Option Nat} (h : wR g wd = none) : wd = none := by
  cases wd with
  | none => rfl
  | some w => cases h
theorem wR_inj {g : GG} (hj : ∀ i j, i < wNm.length → j < wNm.length → g.2.2.1 i = g.2.2.1 j → i = j) {wd : Option Nat} {u : Nat} (hw : ∀ w, wd = some w → w < 23) (hu : u < 23) (h : wR g wd = some (g.2.2.1 u)) : wd = some u := by
  cases wd with
  | none => cases h
  | some w => rw [hj w u (hw w rfl) hu (Option.some.inj h)]

set_option maxRecDepth 100000 in
theorem fo_Tokens_67 : FO R_Tokens 67 "RuleReader$Word" "role" "I" := Or.inr ⟨"RuleReader", (nw (i := 1216) rfl rfl)⟩
set_option maxRecDepth 100000 in
theorem lk_Tokens_22 : LK R_Tokens 22 y_Tokens_advance := Or.inl (gw (i := 314) rfl rfl)
set_option maxRecDepth 100000 in
theorem mw_Tokens_advance : MW y_Tokens_advance b_Tokens_advance 4 none 0 := ⟨(gw (i := 317) rfl rfl), (gw (i := 77) rfl rfl), by decide +kernel⟩
set_option maxRecDepth 100000 in
theorem vw_Tokens_advance : VW y_Tokens_advance := ⟨(gw (i := 315) rfl rfl), (gw (i := 316) rfl rfl)⟩
theorem d_Tokens_isTheSign_0 : decode b_Tokens_isTheSign 0 = .ok (.aload_n 0, 1) := by decide +kernel
theorem d_Tokens_isTheSign_1 : decode b_Tokens_isTheSign 1 = .ok (.getfield 15, 3) := by decide +kernel
theorem d_Tokens_isTheSign_4 : decode b_Tokens_isTheSign 4 = .ok (.iconst 3, 1) := by decide +kernel
theorem d_Tokens_isTheSign_5 : decode b_Tokens_isTheSign 5 = .ok (.if_icmp .ne 22, 3) := by decide +kernel
theorem d_Tokens_isTheSign_8 : decode b_Tokens_isTheSign 8 = .ok (.aload_n 0, 1) := by decide +kernel
theorem d_Tokens_isTheSign_9 : decode b_Tokens_isTheSign 9 = .ok (.getfield 9, 3) := by decide +kernel
theorem d_Tokens_isTheSign_12 : decode b_Tokens_isTheSign 12 = .ok (.aload_n 0, 1) := by decide +kernel
theorem d_Tokens_isTheSign_13 : decode b_Tokens_isTheSign 13 = .ok (.getfield 29, 3) := by decide +kernel
theorem d_Tokens_isTheSign_16 : decode b_Tokens_isTheSign 16 = .ok (.invokevirtual 39, 3) := by decide +kernel
theorem d_Tokens_isTheSign_19 : decode b_Tokens_isTheSign 19 = .ok (.iload_n 1, 1) := by decide +kernel
theorem d_Tokens_isTheSign_20 : decode b_Tokens_isTheSign 20 = .ok (.if_icmp .ne 7, 3) := by decide +kernel
theorem d_Tokens_isTheSign_23 : decode b_Tokens_isTheSign 23 = .ok (.iconst 1, 1) := by decide +kernel
theorem d_Tokens_isTheSign_24 : decode b_Tokens_isTheSign 24 = .ok (.goto 4, 3) := by decide +kernel
theorem d_Tokens_isTheSign_27 : decode b_Tokens_isTheSign 27 = .ok (.iconst 0, 1) := by decide +kernel
theorem d_Tokens_isTheSign_28 : decode b_Tokens_isTheSign 28 = .ok (.ireturn, 1) := by decide +kernel
theorem d_Tokens_isTheWord_0 : decode b_Tokens_isTheWord 0 = .ok (.aload_n 0, 1) := by decide +kernel
theorem d_Tokens_isTheWord_1 : decode b_Tokens_isTheWord 1 = .ok (.getfield 15, 3) := by decide +kernel
theorem d_Tokens_isTheWord_4 : decode b_Tokens_isTheWord 4 = .ok (.iconst 1, 1) := by decide +kernel
theorem d_Tokens_isTheWord_5 : decode b_Tokens_isTheWord 5 = .ok (.if_icmp .ne 15, 3) := by decide +kernel
theorem d_Tokens_isTheWord_8 : decode b_Tokens_isTheWord 8 = .ok (.aload_n 0, 1) := by decide +kernel
theorem d_Tokens_isTheWord_9 : decode b_Tokens_isTheWord 9 = .ok (.getfield 35, 3) := by decide +kernel
theorem d_Tokens_isTheWord_12 : decode b_Tokens_isTheWord 12 = .ok (.aload_n 1, 1) := by decide +kernel
theorem d_Tokens_isTheWord_13 : decode b_Tokens_isTheWord 13 = .ok (.if_acmp .ne 7, 3) := by decide +kernel
theorem d_Tokens_isTheWord_16 : decode b_Tokens_isTheWord 16 = .ok (.iconst 1, 1) := by decide +kernel
theorem d_Tokens_isTheWord_17 : decode b_Tokens_isTheWord 17 = .ok (.goto 4, 3) := by decide +kernel
theorem d_Tokens_isTheWord_20 : decode b_Tokens_isTheWord 20 = .ok (.iconst 0, 1) := by decide +kernel
theorem d_Tokens_isTheWord_21 : decode b_Tokens_isTheWord 21 = .ok (.ireturn, 1) := by decide +kernel
theorem d_Tokens_isWordOf_0 : decode b_Tokens_isWordOf 0 = .ok (.aload_n 0, 1) := by decide +kernel
theorem d_Tokens_isWordOf_1 : decode b_Tokens_isWordOf 1 = .ok (.getfield 15, 3) := by decide +kernel
theorem d_Tokens_isWordOf_4 : decode b_Tokens_isWordOf 4 = .ok (.iconst 1, 1) := by decide +kernel
theorem d_Tokens_isWordOf_5 : decode b_Tokens_isWordOf 5 = .ok (.if_icmp .ne 25, 3) := by decide +kernel
theorem d_Tokens_isWordOf_8 : decode b_Tokens_isWordOf 8 = .ok (.aload_n 0, 1) := by decide +kernel
theorem d_Tokens_isWordOf_9 : decode b_Tokens_isWordOf 9 = .ok (.getfield 35, 3) := by decide +kernel
theorem d_Tokens_isWordOf_12 : decode b_Tokens_isWordOf 12 = .ok (.ifnull 18, 3) := by decide +kernel
theorem d_Tokens_isWordOf_15 : decode b_Tokens_isWordOf 15 = .ok (.aload_n 0, 1) := by decide +kernel
theorem d_Tokens_isWordOf_16 : decode b_Tokens_isWordOf 16 = .ok (.getfield 35, 3) := by decide +kernel
theorem d_Tokens_isWordOf_19 : decode b_Tokens_isWordOf 19 = .ok (.getfield 67, 3) := by decide +kernel
theorem d_Tokens_isWordOf_22 : decode b_Tokens_isWordOf 22 = .ok (.iload_n 1, 1) := by decide +kernel
theorem d_Tokens_isWordOf_23 : decode b_Tokens_isWordOf 23 = .ok (.if_icmp .ne 7, 3) := by decide +kernel
theorem d_Tokens_isWordOf_26 : decode b_Tokens_isWordOf 26 = .ok (.iconst 1, 1) := by decide +kernel
theorem d_Tokens_isWordOf_27 : decode b_Tokens_isWordOf 27 = .ok (.goto 4, 3) := by decide +kernel
theorem d_Tokens_isWordOf_30 : decode b_Tokens_isWordOf 30 = .ok (.iconst 0, 1) := by decide +kernel
theorem d_Tokens_isWordOf_31 : decode b_Tokens_isWordOf 31 = .ok (.ireturn, 1) := by decide +kernel
theorem d_Tokens_restart_0 : decode b_Tokens_restart 0 = .ok (.aload_n 0, 1) := by decide +kernel
theorem d_Tokens_restart_1 : decode b_Tokens_restart 1 = .ok (.iconst 0, 1) := by decide +kernel
theorem d_Tokens_restart_2 : decode b_Tokens_restart 2 = .ok (.putfield 15, 3) := by decide +kernel
theorem d_Tokens_restart_5 : decode b_Tokens_restart 5 = .ok (.aload_n 0, 1) := by decide +kernel
theorem d_Tokens_restart_6 : decode b_Tokens_restart 6 = .ok (.iconst 0, 1) := by decide +kernel
theorem d_Tokens_restart_7 : decode b_Tokens_restart 7 = .ok (.putfield 19, 3) := by decide +kernel
theorem d_Tokens_restart_10 : decode b_Tokens_restart 10 = .ok (.aload_n 0, 1) := by decide +kernel
theorem d_Tokens_restart_11 : decode b_Tokens_restart 11 = .ok (.invokevirtual 22, 3) := by decide +kernel
theorem d_Tokens_restart_14 : decode b_Tokens_restart 14 = .ok (.return_, 1) := by decide +kernel
set_option maxHeartbeats 4000000 in
set_option maxRecDepth 100000 in
theorem c_Tokens_isTheSign (g : GG) (l : Launch) {a : Nat} {t : Nat} {tb : Nat} {k : Nat} {so : Nat} {sta : Nat} {en : Nat} {T : Nat → Nat} {v : Option Nat} {wd : Option Nat} {c : Nat}  (hk : k ≤ 2000) (hT : ∀ j, T j < 256) (hso : so < 2 ^ 31) (h3 : so = 3 → sta < k) (hc : c < 2 ^ 31) (hst : sta < 2 ^ 31) : Cn g l y_Tokens_isTheSign b_Tokens_isTheSign 2 (some .boolean) (rmk 1 0 0 21) [.ref a, .int (nI c)] ([(a, .inr (2, [.ref t, .int (nI so), .int (nI sta), .int (nI en), .int (oI v), va_rf (wR g wd)])), (t, .inr (1, [.ref tb, .int (nI k)])), (tb, .inl (g.2.1 1, 2000, .inl (aI T)))]) (fun (r0 : Option Value) (w0 : va_W) => r0 = some (.int (bI (isSg T so sta c))) ∧ w0 = [(a, .inr (2, [.ref t, .int (nI so), .int (nI sta), .int (nI en), .int (oI v), va_rf (wR g wd)])), (t, .inr (1, [.ref tb, .int (nI k)])), (tb, .inl (g.2.1 1, 2000, .inl (aI T)))]) := by
  refine Cn.of R_Tokens [(0, .ref a), (1, .int (nI c))] (by decide) rfl (Nat.le_of_ble_eq_true rfl) rfl ?_
  intro x A Q hR hXl hin C E
  subst hXl
  refine r_aload_n C 0 d_Tokens_isTheSign_0 rfl rfl ?_
  refine r_get C 0 1 d_Tokens_isTheSign_1 ci_Tokens fi_Tokens_15 rfl (by decide) rfl rfl ?_
  refine r_iconst C (nI 3) d_Tokens_isTheSign_4 (by decide) ?_
  refine r_ncmp_ne C 27 d_Tokens_isTheSign_5 (by decide) (by omega) (by omega) (fun c_5 => ?_) (fun c_5 => ?_)
  · skip
    refine r_iconst C (nI 0) d_Tokens_isTheSign_27 (by decide) ?_
    refine r_eqS (st' := [.int (bI false)]) rfl ?_
    refine r_bret C E d_Tokens_isTheSign_28 (by first | decide | omega | (simp only [rmk]; omega)) (by first | decide | omega | (simp only [rmk]; omega)) ?_
    exact ⟨bsome (by symm; simp [isSg]; omega), rfl⟩
  · skip
    refine r_aload_n C 0 d_Tokens_isTheSign_8 rfl rfl ?_
    refine r_get C 0 0 d_Tokens_isTheSign_9 ci_Tokens fi_Tokens_9 rfl (by decide) rfl rfl ?_
    refine r_aload_n C 0 d_Tokens_isTheSign_12 rfl rfl ?_
    refine r_get C 0 2 d_Tokens_isTheSign_13 ci_Tokens fi_Tokens_29 rfl (by decide) rfl rfl ?_
    refine j_callV C (c_Text_at g (xl x) (t := t) (tb := tb) (k := k) (j := sta) (T := T) (by first | assumption | rfl | omega) (by first | assumption | rfl | omega)) (Sp.of (wr := [(a, .inr (2, [.ref t, .int (nI so), .int (nI sta), .int (nI en), .int (oI v), va_rf (wR g wd)]))]) [1, 2] [0] rfl rfl rfl rfl (by decide)) d_Tokens_isTheSign_16 lk_Tokens_39 mw_Text_at vw_Text_at (q0 := 0) rfl rfl (fit_of hR (by first | decide | (simp only [rmk]; omega)) (by first | decide | (simp only [rmk]; omega)) (by first | decide | (simp only [rmk]; omega)) (by first | decide | (simp only [rmk]; omega))) rfl (cat8 (Nat.le_of_ble_eq_true rfl)) (As := [.int (nI sta)]) (rest := []) rfl (fun r_16 w_16 hp_16 => ?_)
    obtain ⟨rfl, rfl⟩ := hp_16
    refine r_after (ws' := [(a, .inr (2, [.ref t, .int (nI so), .int (nI sta), .int (nI en), .int (oI v), va_rf (wR g wd)])), (t, .inr (1, [.ref tb, .int (nI k)])), (tb, .inl (g.2.1 1, 2000, .inl (aI T)))]) (st' := [.int (oI (atO T k sta))]) (n1 := 0) (n2 := 0) [0, 1, 2] rfl rfl rfl rfl rfl ?_
    have hTs := hT sta
    refine r_top (v' := nI (T sta)) (oI_at (h3 c_5)) ?_
    refine r_iload_n C 1 d_Tokens_isTheSign_19 rfl rfl ?_
    refine r_ncmp_ne C 27 d_Tokens_isTheSign_20 (by decide) (by omega) (by omega) (fun c_20 => ?_) (fun c_20 => ?_)
    · skip
      refine r_iconst C (nI 0) d_Tokens_isTheSign_27 (by decide) ?_
      refine r_eqS (st' := [.int (bI false)]) rfl ?_
      refine r_bret C E d_Tokens_isTheSign_28 (by first | decide | omega | (simp only [rmk]; omega)) (by first | decide | omega | (simp only [rmk]; omega)) ?_
      exact ⟨bsome (by symm; simp [isSg]; omega), rfl⟩
    · skip
      refine r_iconst C (nI 1) d_Tokens_isTheSign_23 (by decide) ?_
      refine r_goto C 28 d_Tokens_isTheSign_24 (by decide) ?_
      refine r_eqS (st' := [.int (bI true)]) rfl ?_
      refine r_bret C E d_Tokens_isTheSign_28 (by first | decide | omega | (simp only [rmk]; omega)) (by first | decide | omega | (simp only [rmk]; omega)) ?_
      exact ⟨bsome (by symm; simp [isSg]; omega), rfl⟩

set_option maxHeartbeats 4000000 in
set_option maxRecDepth 100000 in
theorem c_Tokens_isTheWord (g : GG) (l : Launch) {a : Nat} {t : Nat} {so : Nat} {sta : Nat} {en : Nat} {u : Nat} {v : Option Nat} {wd : Option Nat}  (hso : so < 2 ^ 31) (hu : u < 23) (hw : ∀ w, wd = some w → w < 23) : Cn g l y_Tokens_isTheWord b_Tokens_isTheWord 2 (some .boolean) (rmk 0 0 0 0) [.ref a, .ref (g.2.2.1 u)] ([(a, .inr (2, [.ref t, .int (nI so), .int (nI sta), .int (nI en), .int (oI v), va_rf (wR g wd)]))]) (fun (r0 : Option Value) (w0 : va_W) => r0 = some (.int (bI (isWd so wd u))) ∧ w0 = [(a, .inr (2, [.ref t, .int (nI so), .int (nI sta), .int (nI en), .int (oI v), va_rf (wR g wd)]))]) := by
  refine Cn.of R_Tokens [(0, .ref a), (1, .ref (g.2.2.1 u))] (by decide) rfl (Nat.le_of_ble_eq_true rfl) rfl ?_
  intro x A Q hR hXl hin C E
  subst hXl
  refine r_aload_n C 0 d_Tokens_isTheWord_0 rfl rfl ?_
  refine r_get C 0 1 d_Tokens_isTheWord_1 ci_Tokens fi_Tokens_15 rfl (by decide) rfl rfl ?_
  refine r_iconst C (nI 1) d_Tokens_isTheWord_4 (by decide) ?_
  refine r_ncmp_ne C 20 d_Tokens_isTheWord_5 (by decide) (by omega) (by omega) (fun c_5 => ?_) (fun c_5 => ?_)
  · skip
    refine r_iconst C (nI 0) d_Tokens_isTheWord_20 (by decide) ?_
    refine r_eqS (st' := [.int (bI false)]) rfl ?_
    refine r_bret C E d_Tokens_isTheWord_21 (by first | decide | omega | (simp only [rmk]; omega)) (by first | decide | omega | (simp only [rmk]; omega)) ?_
    exact ⟨bsome (by symm; simp [isWd]; omega), rfl⟩
  · skip
    refine r_aload_n C 0 d_Tokens_isTheWord_8 rfl rfl ?_
    refine r_get C 0 5 d_Tokens_isTheWord_9 ci_Tokens fi_Tokens_35 rfl (by decide) rfl rfl ?_
    refine r_aload_n C 1 d_Tokens_isTheWord_12 rfl rfl ?_
    refine r_acmp_ne C (r1 := wR g wd) (r2 := some (g.2.2.1 u)) 20 d_Tokens_isTheWord_13 (by decide) (fun c_13 => ?_) (fun c_13 => ?_)
    · skip
      refine r_iconst C (nI 0) d_Tokens_isTheWord_20 (by decide) ?_
      refine r_eqS (st' := [.int (bI false)]) rfl ?_
      refine r_bret C E d_Tokens_isTheWord_21 (by first | decide | omega | (simp only [rmk]; omega)) (by first | decide | omega | (simp only [rmk]; omega)) ?_
      exact ⟨bsome (by symm; simp [isWd]; exact fun _ h => c_13 (by rw [h]; rfl)), rfl⟩
    · skip
      refine r_iconst C (nI 1) d_Tokens_isTheWord_16 (by decide) ?_
      refine r_goto C 21 d_Tokens_isTheWord_17 (by decide) ?_
      refine r_eqS (st' := [.int (bI true)]) rfl ?_
      refine r_bret C E d_Tokens_isTheWord_21 (by first | decide | omega | (simp only [rmk]; omega)) (by first | decide | omega | (simp only [rmk]; omega)) ?_
      exact ⟨bsome (by symm; simp [isWd]; exact ⟨c_5, wR_inj C.2.2.2.2.2.2.2.1.1.2 hw hu c_13⟩), rfl⟩

set_option maxHeartbeats 4000000 in
set_option maxRecDepth 100000 in
theorem c_Tokens_isWordOf (g : GG) (l : Launch) {a : Nat} {t : Nat} {so : Nat} {sta : Nat} {en : Nat} {ro : Nat} {v : Option Nat} {wd : Option Nat}  (hso : so < 2 ^ 31) (hro : ro < 2 ^ 31) (hw : ∀ w, wd = some w → w < 23) : Cn g l y_Tokens_isWordOf b_Tokens_isWordOf 2 (some .boolean) (rmk 0 0 0 0) [.ref a, .int (nI ro)] ([(a, .inr (2, [.ref t, .int (nI so), .int (nI sta), .int (nI en), .int (oI v), va_rf (wR g wd)]))]) (fun (r0 : Option Value) (w0 : va_W) => r0 = some (.int (bI (isRo so wd ro))) ∧ w0 = [(a, .inr (2, [.ref t, .int (nI so), .int (nI sta), .int (nI en), .int (oI v), va_rf (wR g wd)]))]) := by
  refine Cn.of R_Tokens [(0, .ref a), (1, .int (nI ro))] (by decide) rfl (Nat.le_of_ble_eq_true rfl) rfl ?_
  intro x A Q hR hXl hin C E
  subst hXl
  refine r_aload_n C 0 d_Tokens_isWordOf_0 rfl rfl ?_
  refine r_get C 0 1 d_Tokens_isWordOf_1 ci_Tokens fi_Tokens_15 rfl (by decide) rfl rfl ?_
  refine r_iconst C (nI 1) d_Tokens_isWordOf_4 (by decide) ?_
  refine r_ncmp_ne C 30 d_Tokens_isWordOf_5 (by decide) (by omega) (by omega) (fun c_5 => ?_) (fun c_5 => ?_)
  · skip
    refine r_iconst C (nI 0) d_Tokens_isWordOf_30 (by decide) ?_
    refine r_eqS (st' := [.int (bI false)]) rfl ?_
    refine r_bret C E d_Tokens_isWordOf_31 (by first | decide | omega | (simp only [rmk]; omega)) (by first | decide | omega | (simp only [rmk]; omega)) ?_
    exact ⟨bsome (by symm; cases wd <;> simp [isRo]; omega), rfl⟩
  · skip
    refine r_aload_n C 0 d_Tokens_isWordOf_8 rfl rfl ?_
    refine r_get C 0 5 d_Tokens_isWordOf_9 ci_Tokens fi_Tokens_35 rfl (by decide) rfl rfl ?_
    refine r_ifnullQ C 30 d_Tokens_isWordOf_12 (by decide) (fun e_12 => ?_) (fun a_12 e_12 => ?_)
    · skip
      refine r_iconst C (nI 0) d_Tokens_isWordOf_30 (by decide) ?_
      refine r_eqS (st' := [.int (bI false)]) rfl ?_
      refine r_bret C E d_Tokens_isWordOf_31 (by first | decide | omega | (simp only [rmk]; omega)) (by first | decide | omega | (simp only [rmk]; omega)) ?_
      exact ⟨bsome (by rw [wR_none e_12]; rfl), rfl⟩
    · skip
      obtain ⟨w, rfl⟩ := wR_some e_12
      refine r_eqW (ws' := [(a, .inr (2, [.ref t, .int (nI so), .int (nI sta), .int (nI en), .int (oI v), .ref (g.2.2.1 w)]))]) rfl ?_
      have hww := hw w rfl
      refine r_aload_n C 0 d_Tokens_isWordOf_15 rfl rfl ?_
      refine r_get C 0 5 d_Tokens_isWordOf_16 ci_Tokens fi_Tokens_35 rfl (by decide) rfl rfl ?_
      refine r_getO C d_Tokens_isWordOf_19 ((C.2.2.2.2.2.2.2.1.1.1 w (show w < wNm.length from hww)).2.2 ("RuleReader$Word", "role", "I", wRole) (by simp [wF])) fo_Tokens_67 ?_
      have hrw := roleN_lt w
      refine r_top (v' := nI (roleN w)) (wRole_eq hww) ?_
      refine r_iload_n C 1 d_Tokens_isWordOf_22 rfl rfl ?_
      refine r_ncmp_ne C 30 d_Tokens_isWordOf_23 (by decide) (by omega) (by omega) (fun c_23 => ?_) (fun c_23 => ?_)
      · skip
        refine r_iconst C (nI 0) d_Tokens_isWordOf_30 (by decide) ?_
        refine r_eqS (st' := [.int (bI false)]) rfl ?_
        refine r_bret C E d_Tokens_isWordOf_31 (by first | decide | omega | (simp only [rmk]; omega)) (by first | decide | omega | (simp only [rmk]; omega)) ?_
        exact ⟨bsome (by symm; simp [isRo]; omega), rfl⟩
      · skip
        refine r_iconst C (nI 1) d_Tokens_isWordOf_26 (by decide) ?_
        refine r_goto C 31 d_Tokens_isWordOf_27 (by decide) ?_
        refine r_eqS (st' := [.int (bI true)]) rfl ?_
        refine r_bret C E d_Tokens_isWordOf_31 (by first | decide | omega | (simp only [rmk]; omega)) (by first | decide | omega | (simp only [rmk]; omega)) ?_
        exact ⟨bsome (by symm; simp [isRo]; omega), rfl⟩

set_option maxHeartbeats 4000000 in
set_option maxRecDepth 100000 in
theorem c_Tokens_restart (g : GG) (l : Launch) {a : Nat} {t : Nat} {tb : Nat} {k : Nat} {so : Nat} {sta : Nat} {en : Nat} {T : Nat → Nat} {v : Option Nat} {wd : Option Nat}  (hk : k ≤ 2000) (hT : ∀ j, T j < 256) : Cn g l y_Tokens_restart b_Tokens_restart 1 none (rmk 8 0 0 175) [.ref a] ([(a, .inr (2, [.ref t, .int (nI so), .int (nI sta), .int (nI en), .int (oI v), va_rf (wR g wd)])), (t, .inr (1, [.ref tb, .int (nI k)])), (tb, .inl (g.2.1 1, 2000, .inl (aI T)))]) (fun (r0 : Option Value) (w0 : va_W) => ∃ tk : Tok, r0 = none ∧ w0 = [(a, .inr (2, [.ref t, .int (nI tk.1), .int (nI tk.2.1), .int (nI tk.2.2.1), .int (oI tk.2.2.2.1), va_rf (wR g tk.2.2.2.2)])), (t, .inr (1, [.ref tb, .int (nI k)])), (tb, .inl (g.2.1 1, 2000, .inl (aI T)))] ∧ (tk = tokAt T k 0 0)) := by
  refine Cn.of R_Tokens [(0, .ref a)] (by decide) rfl (Nat.le_of_ble_eq_true rfl) rfl ?_
  intro x A Q hR hXl hin C E
  subst hXl
  refine r_aload_n C 0 d_Tokens_restart_0 rfl rfl ?_
  refine r_iconst C (nI 0) d_Tokens_restart_1 (by decide) ?_
  refine r_put C (ws' := [(a, .inr (2, [.ref t, .int (nI 0), .int (nI sta), .int (nI en), .int (oI v), va_rf (wR g wd)])), (t, .inr (1, [.ref tb, .int (nI k)])), (tb, .inl (g.2.1 1, 2000, .inl (aI T)))]) 0 1 d_Tokens_restart_2 ci_Tokens fi_Tokens_15 rfl (by decide) rfl rfl (rfl) (rfl) (by simp) rfl ?_
  refine r_aload_n C 0 d_Tokens_restart_5 rfl rfl ?_
  refine r_iconst C (nI 0) d_Tokens_restart_6 (by decide) ?_
  refine r_put C (ws' := [(a, .inr (2, [.ref t, .int (nI 0), .int (nI sta), .int (nI 0), .int (oI v), va_rf (wR g wd)])), (t, .inr (1, [.ref tb, .int (nI k)])), (tb, .inl (g.2.1 1, 2000, .inl (aI T)))]) 0 3 d_Tokens_restart_7 ci_Tokens fi_Tokens_19 rfl (by decide) rfl rfl (rfl) (rfl) (by simp) rfl ?_
  refine r_aload_n C 0 d_Tokens_restart_10 rfl rfl ?_
  refine j_callV C (c_Tokens_advance g (xl x) (a := a) (t := t) (tb := tb) (k := k) (so := 0) (sta := sta) (en := 0) (T := T) (v := v) (wd := wd) (by first | assumption | rfl | omega) (by first | assumption | rfl | omega) (by first | assumption | rfl | omega) (by first | assumption | rfl | omega)) (Sp.of (wr := []) [0, 1, 2] [] rfl rfl rfl rfl (by decide)) d_Tokens_restart_11 lk_Tokens_22 mw_Tokens_advance vw_Tokens_advance (q0 := 0) rfl rfl (fit_of hR (by first | decide | (simp only [rmk]; omega)) (by first | decide | (simp only [rmk]; omega)) (by first | decide | (simp only [rmk]; omega)) (by first | decide | (simp only [rmk]; omega))) rfl (cat8 (Nat.le_of_ble_eq_true rfl)) (As := []) (rest := []) rfl (fun r_11 w_11 hp_11 => ?_)
  obtain ⟨tk_11, rfl, rfl, htk_11⟩ := hp_11
  refine r_after (ws' := [(a, .inr (2, [.ref t, .int (nI tk_11.1), .int (nI tk_11.2.1), .int (nI tk_11.2.2.1), .int (oI tk_11.2.2.2.1), va_rf (wR g tk_11.2.2.2.2)])), (t, .inr (1, [.ref tb, .int (nI k)])), (tb, .inl (g.2.1 1, 2000, .inl (aI T)))]) (st' := []) (n1 := 0) (n2 := 0) [0, 1, 2] rfl rfl rfl rfl rfl ?_
  refine r_vret C E d_Tokens_restart_14 (by first | decide | omega | (simp only [rmk]; omega)) (by first | decide | omega | (simp only [rmk]; omega)) ?_
  exact ⟨_, rfl, rfl, htk_11⟩
