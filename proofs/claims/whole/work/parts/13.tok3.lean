def isSg (T : Nat → Nat) (so sta c : Nat) : Bool := decide (so = 3 ∧ T sta = c)
def isWd (so : Nat) (wd : Option Nat) (u : Nat) : Bool := decide (so = 1 ∧ wd = some u)
/-- 0 each, where; 1 a shape; 2 a filter; 3 a rule -/
def roleN (w : Nat) : Nat := if w < 2 then 0 else if w < 12 then 1 else if w < 16 then 2 else 3
def isRo (so : Nat) (wd : Option Nat) (ro : Nat) : Bool := match wd with
  | none => false
  | some w => decide (so = 1 ∧ roleN w = ro)
theorem roleN_lt (w : Nat) : roleN w < 2 ^ 31 := by
  unfold roleN
  split
  · decide
  · split
    · decide
    · split <;> decide
theorem wRole_eq {w : Nat} (h : w < 23) : wRole.getD w 0 = nI (roleN w) := by
  have : ∀ w, w < 23 → wRole.getD w 0 = nI (roleN w) := by decide +kernel
  exact this w h
theorem wR_some {g : GG} {wd : Option Nat} {a : Nat} (h : wR g wd = some a) : ∃ w, wd = some w := by
  cases wd with
  | none => cases h
  | some w => exact ⟨w, rfl⟩
theorem wR_none {g : GG} {wd : Option Nat} (h : wR g wd = none) : wd = none := by
  cases wd with
  | none => rfl
  | some w => cases h
theorem wR_inj {g : GG} (hj : ∀ i j, i < wNm.length → j < wNm.length → g.2.2.1 i = g.2.2.1 j → i = j) {wd : Option Nat} {u : Nat} (hw : ∀ w, wd = some w → w < 23) (hu : u < 23) (h : wR g wd = some (g.2.2.1 u)) : wd = some u := by
  cases wd with
  | none => cases h
  | some w => rw [hj w u (hw w rfl) hu (Option.some.inj h)]

set_option maxRecDepth 100000 in
theorem fi_Tokens_15 : FI R_Tokens 15 R_Tokens F_Tokens 2 := Or.inl (gw (i := 170) rfl rfl)
set_option maxRecDepth 100000 in
theorem fi_Tokens_18 : FI R_Tokens 18 R_Tokens F_Tokens 3 := Or.inl (gw (i := 171) rfl rfl)
set_option maxRecDepth 100000 in
theorem fi_Tokens_21 : FI R_Tokens 21 R_Tokens F_Tokens 4 := Or.inl (gw (i := 172) rfl rfl)
set_option maxRecDepth 100000 in
theorem fi_Tokens_26 : FI R_Tokens 26 R_Tokens F_Tokens 5 := Or.inl (gw (i := 173) rfl rfl)
set_option maxRecDepth 100000 in
theorem fi_Tokens_34 : FI R_Tokens 34 R_Tokens F_Tokens 6 := Or.inl (gw (i := 174) rfl rfl)
set_option maxRecDepth 100000 in
theorem fi_Tokens_9 : FI R_Tokens 9 R_Tokens F_Tokens 1 := Or.inl (gw (i := 169) rfl rfl)
set_option maxRecDepth 100000 in
theorem fo_Tokens_73 : FO R_Tokens 73 "RuleReader$Word" "role" "I" := Or.inr ⟨"RuleReader", (nw (i := 1239) rfl rfl)⟩
theorem d_Tokens_isTheSign_0 : decode b_Tokens_isTheSign 0 = .ok (.aload_n 0, 1) := by decide +kernel
theorem d_Tokens_isTheSign_1 : decode b_Tokens_isTheSign 1 = .ok (.getfield 38, 3) := by decide +kernel
theorem d_Tokens_isTheSign_4 : decode b_Tokens_isTheSign 4 = .ok (.iconst 3, 1) := by decide +kernel
theorem d_Tokens_isTheSign_5 : decode b_Tokens_isTheSign 5 = .ok (.if_icmp .ne 15, 3) := by decide +kernel
theorem d_Tokens_isTheSign_8 : decode b_Tokens_isTheSign 8 = .ok (.aload_n 0, 1) := by decide +kernel
theorem d_Tokens_isTheSign_9 : decode b_Tokens_isTheSign 9 = .ok (.getfield 60, 3) := by decide +kernel
theorem d_Tokens_isTheSign_12 : decode b_Tokens_isTheSign 12 = .ok (.iload_n 1, 1) := by decide +kernel
theorem d_Tokens_isTheSign_13 : decode b_Tokens_isTheSign 13 = .ok (.if_icmp .ne 7, 3) := by decide +kernel
theorem d_Tokens_isTheSign_16 : decode b_Tokens_isTheSign 16 = .ok (.iconst 1, 1) := by decide +kernel
theorem d_Tokens_isTheSign_17 : decode b_Tokens_isTheSign 17 = .ok (.goto 4, 3) := by decide +kernel
theorem d_Tokens_isTheSign_20 : decode b_Tokens_isTheSign 20 = .ok (.iconst 0, 1) := by decide +kernel
theorem d_Tokens_isTheSign_21 : decode b_Tokens_isTheSign 21 = .ok (.ireturn, 1) := by decide +kernel
theorem d_Tokens_isTheWord_0 : decode b_Tokens_isTheWord 0 = .ok (.aload_n 0, 1) := by decide +kernel
theorem d_Tokens_isTheWord_1 : decode b_Tokens_isTheWord 1 = .ok (.getfield 38, 3) := by decide +kernel
theorem d_Tokens_isTheWord_4 : decode b_Tokens_isTheWord 4 = .ok (.iconst 1, 1) := by decide +kernel
theorem d_Tokens_isTheWord_5 : decode b_Tokens_isTheWord 5 = .ok (.if_icmp .ne 15, 3) := by decide +kernel
theorem d_Tokens_isTheWord_8 : decode b_Tokens_isTheWord 8 = .ok (.aload_n 0, 1) := by decide +kernel
theorem d_Tokens_isTheWord_9 : decode b_Tokens_isTheWord 9 = .ok (.getfield 63, 3) := by decide +kernel
theorem d_Tokens_isTheWord_12 : decode b_Tokens_isTheWord 12 = .ok (.aload_n 1, 1) := by decide +kernel
theorem d_Tokens_isTheWord_13 : decode b_Tokens_isTheWord 13 = .ok (.if_acmp .ne 7, 3) := by decide +kernel
theorem d_Tokens_isTheWord_16 : decode b_Tokens_isTheWord 16 = .ok (.iconst 1, 1) := by decide +kernel
theorem d_Tokens_isTheWord_17 : decode b_Tokens_isTheWord 17 = .ok (.goto 4, 3) := by decide +kernel
theorem d_Tokens_isTheWord_20 : decode b_Tokens_isTheWord 20 = .ok (.iconst 0, 1) := by decide +kernel
theorem d_Tokens_isTheWord_21 : decode b_Tokens_isTheWord 21 = .ok (.ireturn, 1) := by decide +kernel
theorem d_Tokens_isWordOf_0 : decode b_Tokens_isWordOf 0 = .ok (.aload_n 0, 1) := by decide +kernel
theorem d_Tokens_isWordOf_1 : decode b_Tokens_isWordOf 1 = .ok (.getfield 38, 3) := by decide +kernel
theorem d_Tokens_isWordOf_4 : decode b_Tokens_isWordOf 4 = .ok (.iconst 1, 1) := by decide +kernel
theorem d_Tokens_isWordOf_5 : decode b_Tokens_isWordOf 5 = .ok (.if_icmp .ne 25, 3) := by decide +kernel
theorem d_Tokens_isWordOf_8 : decode b_Tokens_isWordOf 8 = .ok (.aload_n 0, 1) := by decide +kernel
theorem d_Tokens_isWordOf_9 : decode b_Tokens_isWordOf 9 = .ok (.getfield 63, 3) := by decide +kernel
theorem d_Tokens_isWordOf_12 : decode b_Tokens_isWordOf 12 = .ok (.ifnull 18, 3) := by decide +kernel
theorem d_Tokens_isWordOf_15 : decode b_Tokens_isWordOf 15 = .ok (.aload_n 0, 1) := by decide +kernel
theorem d_Tokens_isWordOf_16 : decode b_Tokens_isWordOf 16 = .ok (.getfield 63, 3) := by decide +kernel
theorem d_Tokens_isWordOf_19 : decode b_Tokens_isWordOf 19 = .ok (.getfield 73, 3) := by decide +kernel
theorem d_Tokens_isWordOf_22 : decode b_Tokens_isWordOf 22 = .ok (.iload_n 1, 1) := by decide +kernel
theorem d_Tokens_isWordOf_23 : decode b_Tokens_isWordOf 23 = .ok (.if_icmp .ne 7, 3) := by decide +kernel
theorem d_Tokens_isWordOf_26 : decode b_Tokens_isWordOf 26 = .ok (.iconst 1, 1) := by decide +kernel
theorem d_Tokens_isWordOf_27 : decode b_Tokens_isWordOf 27 = .ok (.goto 4, 3) := by decide +kernel
theorem d_Tokens_isWordOf_30 : decode b_Tokens_isWordOf 30 = .ok (.iconst 0, 1) := by decide +kernel
theorem d_Tokens_isWordOf_31 : decode b_Tokens_isWordOf 31 = .ok (.ireturn, 1) := by decide +kernel
theorem d_Tokens_keep_0 : decode b_Tokens_keep 0 = .ok (.iload_n 1, 1) := by decide +kernel
theorem d_Tokens_keep_1 : decode b_Tokens_keep 1 = .ok (.ifCond .lt 10, 3) := by decide +kernel
theorem d_Tokens_keep_4 : decode b_Tokens_keep 4 = .ok (.iload_n 1, 1) := by decide +kernel
theorem d_Tokens_keep_5 : decode b_Tokens_keep 5 = .ok (.sipush 2001, 3) := by decide +kernel
theorem d_Tokens_keep_8 : decode b_Tokens_keep 8 = .ok (.if_icmp .lt 4, 3) := by decide +kernel
theorem d_Tokens_keep_11 : decode b_Tokens_keep 11 = .ok (.return_, 1) := by decide +kernel
theorem d_Tokens_keep_12 : decode b_Tokens_keep 12 = .ok (.aload_n 0, 1) := by decide +kernel
theorem d_Tokens_keep_13 : decode b_Tokens_keep 13 = .ok (.getfield 9, 3) := by decide +kernel
theorem d_Tokens_keep_16 : decode b_Tokens_keep 16 = .ok (.iload_n 1, 1) := by decide +kernel
theorem d_Tokens_keep_17 : decode b_Tokens_keep 17 = .ok (.aload_n 0, 1) := by decide +kernel
theorem d_Tokens_keep_18 : decode b_Tokens_keep 18 = .ok (.getfield 38, 3) := by decide +kernel
theorem d_Tokens_keep_21 : decode b_Tokens_keep 21 = .ok (.iastore, 1) := by decide +kernel
theorem d_Tokens_keep_22 : decode b_Tokens_keep 22 = .ok (.aload_n 0, 1) := by decide +kernel
theorem d_Tokens_keep_23 : decode b_Tokens_keep 23 = .ok (.getfield 15, 3) := by decide +kernel
theorem d_Tokens_keep_26 : decode b_Tokens_keep 26 = .ok (.iload_n 1, 1) := by decide +kernel
theorem d_Tokens_keep_27 : decode b_Tokens_keep 27 = .ok (.aload_n 0, 1) := by decide +kernel
theorem d_Tokens_keep_28 : decode b_Tokens_keep 28 = .ok (.getfield 57, 3) := by decide +kernel
theorem d_Tokens_keep_31 : decode b_Tokens_keep 31 = .ok (.iastore, 1) := by decide +kernel
theorem d_Tokens_keep_32 : decode b_Tokens_keep 32 = .ok (.aload_n 0, 1) := by decide +kernel
theorem d_Tokens_keep_33 : decode b_Tokens_keep 33 = .ok (.getfield 18, 3) := by decide +kernel
theorem d_Tokens_keep_36 : decode b_Tokens_keep 36 = .ok (.iload_n 1, 1) := by decide +kernel
theorem d_Tokens_keep_37 : decode b_Tokens_keep 37 = .ok (.aload_n 0, 1) := by decide +kernel
theorem d_Tokens_keep_38 : decode b_Tokens_keep 38 = .ok (.getfield 41, 3) := by decide +kernel
theorem d_Tokens_keep_41 : decode b_Tokens_keep 41 = .ok (.iastore, 1) := by decide +kernel
theorem d_Tokens_keep_42 : decode b_Tokens_keep 42 = .ok (.aload_n 0, 1) := by decide +kernel
theorem d_Tokens_keep_43 : decode b_Tokens_keep 43 = .ok (.getfield 21, 3) := by decide +kernel
theorem d_Tokens_keep_46 : decode b_Tokens_keep 46 = .ok (.iload_n 1, 1) := by decide +kernel
theorem d_Tokens_keep_47 : decode b_Tokens_keep 47 = .ok (.aload_n 0, 1) := by decide +kernel
theorem d_Tokens_keep_48 : decode b_Tokens_keep 48 = .ok (.getfield 60, 3) := by decide +kernel
theorem d_Tokens_keep_51 : decode b_Tokens_keep 51 = .ok (.iastore, 1) := by decide +kernel
theorem d_Tokens_keep_52 : decode b_Tokens_keep 52 = .ok (.aload_n 0, 1) := by decide +kernel
theorem d_Tokens_keep_53 : decode b_Tokens_keep 53 = .ok (.getfield 26, 3) := by decide +kernel
theorem d_Tokens_keep_56 : decode b_Tokens_keep 56 = .ok (.iload_n 1, 1) := by decide +kernel
theorem d_Tokens_keep_57 : decode b_Tokens_keep 57 = .ok (.aload_n 0, 1) := by decide +kernel
theorem d_Tokens_keep_58 : decode b_Tokens_keep 58 = .ok (.getfield 63, 3) := by decide +kernel
theorem d_Tokens_keep_61 : decode b_Tokens_keep 61 = .ok (.aastore, 1) := by decide +kernel
theorem d_Tokens_keep_62 : decode b_Tokens_keep 62 = .ok (.aload_n 0, 1) := by decide +kernel
theorem d_Tokens_keep_63 : decode b_Tokens_keep 63 = .ok (.iload_n 1, 1) := by decide +kernel
theorem d_Tokens_keep_64 : decode b_Tokens_keep 64 = .ok (.iconst 1, 1) := by decide +kernel
theorem d_Tokens_keep_65 : decode b_Tokens_keep 65 = .ok (.iadd, 1) := by decide +kernel
theorem d_Tokens_keep_66 : decode b_Tokens_keep 66 = .ok (.putfield 34, 3) := by decide +kernel
theorem d_Tokens_keep_69 : decode b_Tokens_keep 69 = .ok (.return_, 1) := by decide +kernel
set_option maxHeartbeats 4000000 in
set_option maxRecDepth 100000 in
theorem c_Tokens_isTheSign (g : GG) (l : Launch) {a : Nat} {t : Nat} {zs : Nat} {zb : Nat} {ze : Nat} {zv : Nat} {zw : Nat} {cnt : Nat} {nx : Nat} {so : Nat} {sta : Nat} {en : Nat} {c : Nat} {T : Nat → Nat} {v : Option Nat} {wd : Option Nat}  (hT : ∀ j, T j < 256) (hso : so < 2 ^ 31) (h3 : so = 3 → v = some (T sta)) (hc : c < 2 ^ 31) : Cn g l y_Tokens_isTheSign b_Tokens_isTheSign 2 (some .boolean) (rmk 0 0 0 0) [.ref a, .int (nI c)] ([(a, .inr (2, [.ref t, .ref zs, .ref zb, .ref ze, .ref zv, .ref zw, .int (nI cnt), .int (nI nx), .int (nI so), .int (nI sta), .int (nI en), .int (oI v), va_rf (wR g wd)]))]) (fun (r0 : Option Value) (w0 : va_W) => r0 = some (.int (bI (isSg T so sta c))) ∧ w0 = [(a, .inr (2, [.ref t, .ref zs, .ref zb, .ref ze, .ref zv, .ref zw, .int (nI cnt), .int (nI nx), .int (nI so), .int (nI sta), .int (nI en), .int (oI v), va_rf (wR g wd)]))]) := by
  refine Cn.of R_Tokens [(0, .ref a), (1, .int (nI c))] (by decide) rfl (Nat.le_of_ble_eq_true rfl) rfl ?_
  intro x A Q hR hXl hin C E
  subst hXl
  refine r_aload_n C 0 d_Tokens_isTheSign_0 rfl rfl ?_
  refine r_get C 0 8 d_Tokens_isTheSign_1 ci_Tokens fi_Tokens_38 rfl (by decide) rfl rfl ?_
  refine r_iconst C (nI 3) d_Tokens_isTheSign_4 (by decide) ?_
  refine r_ncmp_ne C 20 d_Tokens_isTheSign_5 (by decide) (by omega) (by omega) (fun c_5 => ?_) (fun c_5 => ?_)
  · skip
    refine r_iconst C (nI 0) d_Tokens_isTheSign_20 (by decide) ?_
    refine r_eqS (st' := [.int (bI false)]) rfl ?_
    refine r_bret C E d_Tokens_isTheSign_21 (by first | decide | omega | (simp only [rmk]; omega)) (by first | decide | omega | (simp only [rmk]; omega)) ?_
    exact ⟨bsome (by symm; simp [isSg]; omega), rfl⟩
  · skip
    refine r_aload_n C 0 d_Tokens_isTheSign_8 rfl rfl ?_
    refine r_get C 0 11 d_Tokens_isTheSign_9 ci_Tokens fi_Tokens_60 rfl (by decide) rfl rfl ?_
    have hTs := hT sta
    refine r_top (v' := nI (T sta)) (by rw [h3 c_5]; rfl) ?_
    refine r_iload_n C 1 d_Tokens_isTheSign_12 rfl rfl ?_
    refine r_ncmp_ne C 20 d_Tokens_isTheSign_13 (by decide) (by omega) (by omega) (fun c_13 => ?_) (fun c_13 => ?_)
    · skip
      refine r_iconst C (nI 0) d_Tokens_isTheSign_20 (by decide) ?_
      refine r_eqS (st' := [.int (bI false)]) rfl ?_
      refine r_bret C E d_Tokens_isTheSign_21 (by first | decide | omega | (simp only [rmk]; omega)) (by first | decide | omega | (simp only [rmk]; omega)) ?_
      exact ⟨bsome (by symm; simp [isSg]; omega), rfl⟩
    · skip
      refine r_iconst C (nI 1) d_Tokens_isTheSign_16 (by decide) ?_
      refine r_goto C 21 d_Tokens_isTheSign_17 (by decide) ?_
      refine r_eqS (st' := [.int (bI true)]) rfl ?_
      refine r_bret C E d_Tokens_isTheSign_21 (by first | decide | omega | (simp only [rmk]; omega)) (by first | decide | omega | (simp only [rmk]; omega)) ?_
      exact ⟨bsome (by symm; simp [isSg]; omega), rfl⟩

set_option maxHeartbeats 4000000 in
set_option maxRecDepth 100000 in
theorem c_Tokens_isTheWord (g : GG) (l : Launch) {a : Nat} {t : Nat} {zs : Nat} {zb : Nat} {ze : Nat} {zv : Nat} {zw : Nat} {cnt : Nat} {nx : Nat} {so : Nat} {sta : Nat} {en : Nat} {u : Nat} {v : Option Nat} {wd : Option Nat}  (hso : so < 2 ^ 31) (hu : u < 23) (hw : ∀ w, wd = some w → w < 23) : Cn g l y_Tokens_isTheWord b_Tokens_isTheWord 2 (some .boolean) (rmk 0 0 0 0) [.ref a, .ref (g.2.2.1 u)] ([(a, .inr (2, [.ref t, .ref zs, .ref zb, .ref ze, .ref zv, .ref zw, .int (nI cnt), .int (nI nx), .int (nI so), .int (nI sta), .int (nI en), .int (oI v), va_rf (wR g wd)]))]) (fun (r0 : Option Value) (w0 : va_W) => r0 = some (.int (bI (isWd so wd u))) ∧ w0 = [(a, .inr (2, [.ref t, .ref zs, .ref zb, .ref ze, .ref zv, .ref zw, .int (nI cnt), .int (nI nx), .int (nI so), .int (nI sta), .int (nI en), .int (oI v), va_rf (wR g wd)]))]) := by
  refine Cn.of R_Tokens [(0, .ref a), (1, .ref (g.2.2.1 u))] (by decide) rfl (Nat.le_of_ble_eq_true rfl) rfl ?_
  intro x A Q hR hXl hin C E
  subst hXl
  refine r_aload_n C 0 d_Tokens_isTheWord_0 rfl rfl ?_
  refine r_get C 0 8 d_Tokens_isTheWord_1 ci_Tokens fi_Tokens_38 rfl (by decide) rfl rfl ?_
  refine r_iconst C (nI 1) d_Tokens_isTheWord_4 (by decide) ?_
  refine r_ncmp_ne C 20 d_Tokens_isTheWord_5 (by decide) (by omega) (by omega) (fun c_5 => ?_) (fun c_5 => ?_)
  · skip
    refine r_iconst C (nI 0) d_Tokens_isTheWord_20 (by decide) ?_
    refine r_eqS (st' := [.int (bI false)]) rfl ?_
    refine r_bret C E d_Tokens_isTheWord_21 (by first | decide | omega | (simp only [rmk]; omega)) (by first | decide | omega | (simp only [rmk]; omega)) ?_
    exact ⟨bsome (by symm; simp [isWd]; omega), rfl⟩
  · skip
    refine r_aload_n C 0 d_Tokens_isTheWord_8 rfl rfl ?_
    refine r_get C 0 12 d_Tokens_isTheWord_9 ci_Tokens fi_Tokens_63 rfl (by decide) rfl rfl ?_
    refine r_aload_n C 1 d_Tokens_isTheWord_12 rfl rfl ?_
    refine r_acmp_ne C (r1 := wR g wd) (r2 := some (g.2.2.1 u)) 20 d_Tokens_isTheWord_13 (by decide) (fun c_13 => ?_) (fun c_13 => ?_)
    · skip
      refine r_iconst C (nI 0) d_Tokens_isTheWord_20 (by decide) ?_
      refine r_eqS (st' := [.int (bI false)]) rfl ?_
      refine r_bret C E d_Tokens_isTheWord_21 (by first | decide | omega | (simp only [rmk]; omega)) (by first | decide | omega | (simp only [rmk]; omega)) ?_
      exact ⟨bsome (by symm; simp [isWd]; exact fun _ h => c_13 (by rw [h]; rfl)), rfl⟩
    · skip
      refine r_iconst C (nI 1) d_Tokens_isTheWord_16 (by decide) ?_
      refine r_goto C 21 d_Tokens_isTheWord_17 (by decide) ?_
      refine r_eqS (st' := [.int (bI true)]) rfl ?_
      refine r_bret C E d_Tokens_isTheWord_21 (by first | decide | omega | (simp only [rmk]; omega)) (by first | decide | omega | (simp only [rmk]; omega)) ?_
      exact ⟨bsome (by symm; simp [isWd]; exact ⟨c_5, wR_inj C.2.2.2.2.2.2.2.1.1.2 hw hu c_13⟩), rfl⟩

set_option maxHeartbeats 4000000 in
set_option maxRecDepth 100000 in
theorem c_Tokens_isWordOf (g : GG) (l : Launch) {a : Nat} {t : Nat} {zs : Nat} {zb : Nat} {ze : Nat} {zv : Nat} {zw : Nat} {cnt : Nat} {nx : Nat} {so : Nat} {sta : Nat} {en : Nat} {ro : Nat} {v : Option Nat} {wd : Option Nat}  (hso : so < 2 ^ 31) (hro : ro < 2 ^ 31) (hw : ∀ w, wd = some w → w < 23) : Cn g l y_Tokens_isWordOf b_Tokens_isWordOf 2 (some .boolean) (rmk 0 0 0 0) [.ref a, .int (nI ro)] ([(a, .inr (2, [.ref t, .ref zs, .ref zb, .ref ze, .ref zv, .ref zw, .int (nI cnt), .int (nI nx), .int (nI so), .int (nI sta), .int (nI en), .int (oI v), va_rf (wR g wd)]))]) (fun (r0 : Option Value) (w0 : va_W) => r0 = some (.int (bI (isRo so wd ro))) ∧ w0 = [(a, .inr (2, [.ref t, .ref zs, .ref zb, .ref ze, .ref zv, .ref zw, .int (nI cnt), .int (nI nx), .int (nI so), .int (nI sta), .int (nI en), .int (oI v), va_rf (wR g wd)]))]) := by
  refine Cn.of R_Tokens [(0, .ref a), (1, .int (nI ro))] (by decide) rfl (Nat.le_of_ble_eq_true rfl) rfl ?_
  intro x A Q hR hXl hin C E
  subst hXl
  refine r_aload_n C 0 d_Tokens_isWordOf_0 rfl rfl ?_
  refine r_get C 0 8 d_Tokens_isWordOf_1 ci_Tokens fi_Tokens_38 rfl (by decide) rfl rfl ?_
  refine r_iconst C (nI 1) d_Tokens_isWordOf_4 (by decide) ?_
  refine r_ncmp_ne C 30 d_Tokens_isWordOf_5 (by decide) (by omega) (by omega) (fun c_5 => ?_) (fun c_5 => ?_)
  · skip
    refine r_iconst C (nI 0) d_Tokens_isWordOf_30 (by decide) ?_
    refine r_eqS (st' := [.int (bI false)]) rfl ?_
    refine r_bret C E d_Tokens_isWordOf_31 (by first | decide | omega | (simp only [rmk]; omega)) (by first | decide | omega | (simp only [rmk]; omega)) ?_
    exact ⟨bsome (by symm; cases wd <;> simp [isRo]; omega), rfl⟩
  · skip
    refine r_aload_n C 0 d_Tokens_isWordOf_8 rfl rfl ?_
    refine r_get C 0 12 d_Tokens_isWordOf_9 ci_Tokens fi_Tokens_63 rfl (by decide) rfl rfl ?_
    refine r_ifnullQ C 30 d_Tokens_isWordOf_12 (by decide) (fun e_12 => ?_) (fun a_12 e_12 => ?_)
    · skip
      refine r_iconst C (nI 0) d_Tokens_isWordOf_30 (by decide) ?_
      refine r_eqS (st' := [.int (bI false)]) rfl ?_
      refine r_bret C E d_Tokens_isWordOf_31 (by first | decide | omega | (simp only [rmk]; omega)) (by first | decide | omega | (simp only [rmk]; omega)) ?_
      exact ⟨bsome (by rw [wR_none e_12]; rfl), rfl⟩
    · skip
      obtain ⟨w, rfl⟩ := wR_some e_12
      refine r_eqW (ws' := [(a, .inr (2, [.ref t, .ref zs, .ref zb, .ref ze, .ref zv, .ref zw, .int (nI cnt), .int (nI nx), .int (nI so), .int (nI sta), .int (nI en), .int (oI v), .ref (g.2.2.1 w)]))]) rfl ?_
      have hww := hw w rfl
      refine r_aload_n C 0 d_Tokens_isWordOf_15 rfl rfl ?_
      refine r_get C 0 12 d_Tokens_isWordOf_16 ci_Tokens fi_Tokens_63 rfl (by decide) rfl rfl ?_
      refine r_getO C d_Tokens_isWordOf_19 ((C.2.2.2.2.2.2.2.1.1.1 w (show w < wNm.length from hww)).2.2 ("RuleReader$Word", "role", "I", wRole) (by simp [wF])) fo_Tokens_73 ?_
      have hrw := roleN_lt w
      refine r_top (v' := nI (roleN w)) (wRole_eq hww) ?_
      refine r_iload_n C 1 d_Tokens_isWordOf_22 rfl rfl ?_
      refine r_ncmp_ne C 30 d_Tokens_isWordOf_23 (by decide) (by omega) (by omega) (fun c_23 => ?_) (fun c_23 => ?_)
      · skip
        refine r_iconst C (nI 0) d_Tokens_isWordOf_30 (by decide) ?_
        refine r_eqS (st' := [.int (bI false)]) rfl ?_
        refine r_bret C E d_Tokens_isWordOf_31 (by first | decide | omega | (simp only [rmk]; omega)) (by first | decide | omega | (simp only [rmk]; omega)) ?_
        exact ⟨bsome (by symm; simp [isRo]; omega), rfl⟩
      · skip
        refine r_iconst C (nI 1) d_Tokens_isWordOf_26 (by decide) ?_
        refine r_goto C 31 d_Tokens_isWordOf_27 (by decide) ?_
        refine r_eqS (st' := [.int (bI true)]) rfl ?_
        refine r_bret C E d_Tokens_isWordOf_31 (by first | decide | omega | (simp only [rmk]; omega)) (by first | decide | omega | (simp only [rmk]; omega)) ?_
        exact ⟨bsome (by symm; simp [isRo]; omega), rfl⟩

set_option maxHeartbeats 4000000 in
set_option maxRecDepth 100000 in
theorem c_Tokens_keep (g : GG) (l : Launch) {a : Nat} {t : Nat} {zs : Nat} {zb : Nat} {ze : Nat} {zv : Nat} {zw : Nat} {cnt : Nat} {nx : Nat} {so : Nat} {sta : Nat} {en : Nat} {c : Nat} {v : Option Nat} {wd : Option Nat} {ZS : Nat → Nat} {ZB : Nat → Nat} {ZE : Nat → Nat} {ZV : Nat → Option Nat} {ZW : Nat → Option Nat}  (hc : c < 2001) (hw : ∀ w, wd = some w → w < 23) : Cn g l y_Tokens_keep b_Tokens_keep 2 none (rmk 0 0 0 0) [.ref a, .int (nI c)] ([(a, .inr (2, [.ref t, .ref zs, .ref zb, .ref ze, .ref zv, .ref zw, .int (nI cnt), .int (nI nx), .int (nI so), .int (nI sta), .int (nI en), .int (oI v), va_rf (wR g wd)])), (zs, .inl (g.2.1 0, 2001, .inl (aI ZS))), (zb, .inl (g.2.1 0, 2001, .inl (aI ZB))), (ze, .inl (g.2.1 0, 2001, .inl (aI ZE))), (zv, .inl (g.2.1 0, 2001, .inl (oA ZV))), (zw, .inl (g.2.1 6, 2001, .inr (.inr (.inr (.inr ZW)))))]) (fun (r0 : Option Value) (w0 : va_W) => r0 = none ∧ w0 = [(a, .inr (2, [.ref t, .ref zs, .ref zb, .ref ze, .ref zv, .ref zw, .int (nI (c + 1)), .int (nI nx), .int (nI so), .int (nI sta), .int (nI en), .int (oI v), va_rf (wR g wd)])), (zs, .inl (g.2.1 0, 2001, .inl (aI (up ZS c so)))), (zb, .inl (g.2.1 0, 2001, .inl (aI (up ZB c sta)))), (ze, .inl (g.2.1 0, 2001, .inl (aI (up ZE c en)))), (zv, .inl (g.2.1 0, 2001, .inl (oA (up ZV c v)))), (zw, .inl (g.2.1 6, 2001, .inr (.inr (.inr (.inr (va_up ZW c (wR g wd)))))))]) := by
  refine Cn.of R_Tokens [(0, .ref a), (1, .int (nI c))] (by decide) rfl (Nat.le_of_ble_eq_true rfl) rfl ?_
  intro x A Q hR hXl hin C E
  subst hXl
  refine r_iload_n C 1 d_Tokens_keep_0 rfl rfl ?_
  refine r_nif_lt C 11 d_Tokens_keep_1 (by decide) (by omega) (fun c_1 => ?_) (fun c_1 => ?_)
  · exact absurd c_1 (by omega)
  · skip
    refine r_iload_n C 1 d_Tokens_keep_4 rfl rfl ?_
    refine r_sipush C (nI 2001) d_Tokens_keep_5 (by decide) ?_
    refine r_ncmp_lt C 12 d_Tokens_keep_8 (by decide) (by omega) (by omega) (fun c_8 => ?_) (fun c_8 => ?_)
    · skip
      refine r_aload_n C 0 d_Tokens_keep_12 rfl rfl ?_
      refine r_get C 0 1 d_Tokens_keep_13 ci_Tokens fi_Tokens_9 rfl (by decide) rfl rfl ?_
      refine r_iload_n C 1 d_Tokens_keep_16 rfl rfl ?_
      refine r_aload_n C 0 d_Tokens_keep_17 rfl rfl ?_
      refine r_get C 0 8 d_Tokens_keep_18 ci_Tokens fi_Tokens_38 rfl (by decide) rfl rfl ?_
      refine r_nast C (ws' := [(a, .inr (2, [.ref t, .ref zs, .ref zb, .ref ze, .ref zv, .ref zw, .int (nI cnt), .int (nI nx), .int (nI so), .int (nI sta), .int (nI en), .int (oI v), va_rf (wR g wd)])), (zs, .inl (g.2.1 0, 2001, .inl (aI (up ZS c so)))), (zb, .inl (g.2.1 0, 2001, .inl (aI ZB))), (ze, .inl (g.2.1 0, 2001, .inl (aI ZE))), (zv, .inl (g.2.1 0, 2001, .inl (oA ZV))), (zw, .inl (g.2.1 6, 2001, .inr (.inr (.inr (.inr ZW)))))]) 1 0 d_Tokens_keep_21 rfl rfl (by omega) (by decide) rfl ?_
      refine r_aload_n C 0 d_Tokens_keep_22 rfl rfl ?_
      refine r_get C 0 2 d_Tokens_keep_23 ci_Tokens fi_Tokens_15 rfl (by decide) rfl rfl ?_
      refine r_iload_n C 1 d_Tokens_keep_26 rfl rfl ?_
      refine r_aload_n C 0 d_Tokens_keep_27 rfl rfl ?_
      refine r_get C 0 9 d_Tokens_keep_28 ci_Tokens fi_Tokens_57 rfl (by decide) rfl rfl ?_
      refine r_nast C (ws' := [(a, .inr (2, [.ref t, .ref zs, .ref zb, .ref ze, .ref zv, .ref zw, .int (nI cnt), .int (nI nx), .int (nI so), .int (nI sta), .int (nI en), .int (oI v), va_rf (wR g wd)])), (zs, .inl (g.2.1 0, 2001, .inl (aI (up ZS c so)))), (zb, .inl (g.2.1 0, 2001, .inl (aI (up ZB c sta)))), (ze, .inl (g.2.1 0, 2001, .inl (aI ZE))), (zv, .inl (g.2.1 0, 2001, .inl (oA ZV))), (zw, .inl (g.2.1 6, 2001, .inr (.inr (.inr (.inr ZW)))))]) 2 0 d_Tokens_keep_31 rfl rfl (by omega) (by decide) rfl ?_
      refine r_aload_n C 0 d_Tokens_keep_32 rfl rfl ?_
      refine r_get C 0 3 d_Tokens_keep_33 ci_Tokens fi_Tokens_18 rfl (by decide) rfl rfl ?_
      refine r_iload_n C 1 d_Tokens_keep_36 rfl rfl ?_
      refine r_aload_n C 0 d_Tokens_keep_37 rfl rfl ?_
      refine r_get C 0 10 d_Tokens_keep_38 ci_Tokens fi_Tokens_41 rfl (by decide) rfl rfl ?_
      refine r_nast C (ws' := [(a, .inr (2, [.ref t, .ref zs, .ref zb, .ref ze, .ref zv, .ref zw, .int (nI cnt), .int (nI nx), .int (nI so), .int (nI sta), .int (nI en), .int (oI v), va_rf (wR g wd)])), (zs, .inl (g.2.1 0, 2001, .inl (aI (up ZS c so)))), (zb, .inl (g.2.1 0, 2001, .inl (aI (up ZB c sta)))), (ze, .inl (g.2.1 0, 2001, .inl (aI (up ZE c en)))), (zv, .inl (g.2.1 0, 2001, .inl (oA ZV))), (zw, .inl (g.2.1 6, 2001, .inr (.inr (.inr (.inr ZW)))))]) 3 0 d_Tokens_keep_41 rfl rfl (by omega) (by decide) rfl ?_
      refine r_aload_n C 0 d_Tokens_keep_42 rfl rfl ?_
      refine r_get C 0 4 d_Tokens_keep_43 ci_Tokens fi_Tokens_21 rfl (by decide) rfl rfl ?_
      refine r_iload_n C 1 d_Tokens_keep_46 rfl rfl ?_
      refine r_aload_n C 0 d_Tokens_keep_47 rfl rfl ?_
      refine r_get C 0 11 d_Tokens_keep_48 ci_Tokens fi_Tokens_60 rfl (by decide) rfl rfl ?_
      refine r_eqS (st' := [.int (oI v), .int (nI c), .ref zv]) rfl ?_
      refine r_oast C (ws' := [(a, .inr (2, [.ref t, .ref zs, .ref zb, .ref ze, .ref zv, .ref zw, .int (nI cnt), .int (nI nx), .int (nI so), .int (nI sta), .int (nI en), .int (oI v), va_rf (wR g wd)])), (zs, .inl (g.2.1 0, 2001, .inl (aI (up ZS c so)))), (zb, .inl (g.2.1 0, 2001, .inl (aI (up ZB c sta)))), (ze, .inl (g.2.1 0, 2001, .inl (aI (up ZE c en)))), (zv, .inl (g.2.1 0, 2001, .inl (oA (up ZV c v)))), (zw, .inl (g.2.1 6, 2001, .inr (.inr (.inr (.inr ZW)))))]) 4 0 d_Tokens_keep_51 rfl rfl (by omega) (by decide) rfl ?_
      refine r_aload_n C 0 d_Tokens_keep_52 rfl rfl ?_
      refine r_get C 0 5 d_Tokens_keep_53 ci_Tokens fi_Tokens_26 rfl (by decide) rfl rfl ?_
      refine r_iload_n C 1 d_Tokens_keep_56 rfl rfl ?_
      refine r_aload_n C 0 d_Tokens_keep_57 rfl rfl ?_
      refine r_get C 0 12 d_Tokens_keep_58 ci_Tokens fi_Tokens_63 rfl (by decide) rfl rfl ?_
      refine r_aastW C (ws' := [(a, .inr (2, [.ref t, .ref zs, .ref zb, .ref ze, .ref zv, .ref zw, .int (nI cnt), .int (nI nx), .int (nI so), .int (nI sta), .int (nI en), .int (oI v), va_rf (wR g wd)])), (zs, .inl (g.2.1 0, 2001, .inl (aI (up ZS c so)))), (zb, .inl (g.2.1 0, 2001, .inl (aI (up ZB c sta)))), (ze, .inl (g.2.1 0, 2001, .inl (aI (up ZE c en)))), (zv, .inl (g.2.1 0, 2001, .inl (oA (up ZV c v)))), (zw, .inl (g.2.1 6, 2001, .inr (.inr (.inr (.inr (va_up ZW c (wR g wd)))))))]) 5 6 d_Tokens_keep_61 rfl rfl hw (by omega) (by decide) rfl ?_
      refine r_aload_n C 0 d_Tokens_keep_62 rfl rfl ?_
      refine r_iload_n C 1 d_Tokens_keep_63 rfl rfl ?_
      refine r_iconst C (nI 1) d_Tokens_keep_64 (by decide) ?_
      refine r_nadd C d_Tokens_keep_65 ?_
      refine r_put C (ws' := [(a, .inr (2, [.ref t, .ref zs, .ref zb, .ref ze, .ref zv, .ref zw, .int (nI (c + 1)), .int (nI nx), .int (nI so), .int (nI sta), .int (nI en), .int (oI v), va_rf (wR g wd)])), (zs, .inl (g.2.1 0, 2001, .inl (aI (up ZS c so)))), (zb, .inl (g.2.1 0, 2001, .inl (aI (up ZB c sta)))), (ze, .inl (g.2.1 0, 2001, .inl (aI (up ZE c en)))), (zv, .inl (g.2.1 0, 2001, .inl (oA (up ZV c v)))), (zw, .inl (g.2.1 6, 2001, .inr (.inr (.inr (.inr (va_up ZW c (wR g wd)))))))]) 0 6 d_Tokens_keep_66 ci_Tokens fi_Tokens_34 rfl (by decide) rfl rfl (rfl) (rfl) (by simp) rfl ?_
      refine r_vret C E d_Tokens_keep_69 (by first | decide | omega | (simp only [rmk]; omega)) (by first | decide | omega | (simp only [rmk]; omega)) ?_
      exact ⟨rfl, rfl⟩
    · exact absurd c_8 (by omega)
