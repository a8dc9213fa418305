/-- the value that the reference keeps: a number's, else 0 -/
def vaM (t2 : Nat) (tk : Tok) : Nat := if t2 = 2 then tk.2.2.2.1.getD 0 else 0
/-- what the reference's next finds -/
def NextR (T : Nat → Nat) (k so e : Nat) (wr : Option Nat) (tk : Tok) (t2 : Nat) (wr2 : Option Nat) : Prop := tk = tokAt T k so e ∧ t2 ≤ 3 ∧ (tk.1 = 4 → wr2 = wr.orElse fun _ => some tk.2.1) ∧ (tk.1 ≠ 4 → wr2 = wr ∧ t2 = tk.1) ∧ (t2 = 1 → ¬ (tk.2.2.1 < k ∧ isLet (T tk.2.2.1) = true)) ∧ (t2 = 2 → ¬ (tk.2.2.1 < k ∧ isDig (T tk.2.2.1) = true)) ∧ e ≤ tk.2.1 ∧ tk.2.1 ≤ tk.2.2.1 ∧ tk.2.2.1 ≤ k ∧ (t2 ≠ 0 → tk.2.1 < tk.2.2.1) ∧ (tk.1 = 4 → t2 = 3 → isSgn (T tk.2.1) = false) ∧ (t2 = 1 → tk.2.2.1 = run isLet T k tk.2.1 ∧ tk.2.2.2.2 = wordAt T tk.2.1 tk.2.2.1)
theorem run_idem {p : Nat → Bool} {T : Nat → Nat} {k s : Nat} (hs : s ≤ k) : ¬ (run p T k s < k ∧ p (T (run p T k s)) = true) := by
  have key : ∀ m s, k - s = m → s ≤ k → ¬ (run p T k s < k ∧ p (T (run p T k s)) = true) := by
    intro m
    induction m with
    | zero =>
      intro s e h
      rw [run_stop (by omega)]
      omega
    | succ m ih =>
      intro s e h
      by_cases q : s < k ∧ p (T s) = true
      · rw [run_go q.1 q.2]
        exact ih (s + 1) (by omega) (by omega)
      · rw [run_stop q]
        exact q
  exact key _ s rfl hs
def B2 (T : Nat → Nat) (k s t a v : Nat) (w2 wr : Option Nat) : Prop :=
  (t = 0 ∧ k ≤ s ∧ a = s ∧ v = 0 ∧ w2 = wr) ∨ (t = 1 ∧ s < k ∧ isLet (T s) = true ∧ a = run isLet T k s ∧ v = 0 ∧ w2 = wr) ∨ (t = 2 ∧ s < k ∧ isLet (T s) = false ∧ isDig (T s) = true ∧ run isDig T k a = run isDig T k s ∧ v = val T s (min (a - s) 6) ∧ w2 = wr) ∨ (t = 3 ∧ s < k ∧ isLet (T s) = false ∧ isDig (T s) = false ∧ a = s + 1 ∧ v = 0 ∧ w2 = if isSgn (T s) = true then wr else wr.orElse fun _ => some s)
def B1 (T : Nat → Nat) (k s t a : Nat) (w2 wr : Option Nat) : Prop :=
  (t = 0 ∧ k ≤ s ∧ a = s ∧ w2 = wr) ∨ (t = 1 ∧ s < k ∧ isLet (T s) = true ∧ run isLet T k a = run isLet T k s ∧ w2 = wr) ∨ (t = 2 ∧ s < k ∧ isLet (T s) = false ∧ isDig (T s) = true ∧ a = s ∧ w2 = wr) ∨ (t = 3 ∧ s < k ∧ isLet (T s) = false ∧ isDig (T s) = false ∧ a = s + 1 ∧ w2 = if isSgn (T s) = true then wr else wr.orElse fun _ => some s)
section NX
variable {T : Nat → Nat} {k so e s t a v : Nat} {w2 wr : Option Nat} {jo : Bool} {qe : Int32}
theorem B1_go (h : B1 T k s t a w2 wr) (h1 : t = 1) (h2 : a < k) (h3 : isLet (T a) = true) : B1 T k s t (a + 1) w2 wr := by
  subst h1
  rcases h with ⟨q, -⟩ | ⟨-, b, c, d, f⟩ | ⟨q, -⟩ | ⟨q, -⟩
  · omega
  · exact Or.inr (Or.inl ⟨rfl, b, c, by rw [← d]; exact (run_go h2 h3).symm, f⟩)
  · omega
  · omega
theorem B1_end (h : B1 T k s t a w2 wr) (h1 : t = 1 → ¬ (a < k ∧ isLet (T a) = true)) : B2 T k s t a 0 w2 wr := by
  rcases h with ⟨q, b, c, d⟩ | ⟨q, b, c, d, f⟩ | ⟨q, b, c, d, f, g⟩ | ⟨q, b, c, d, f, g⟩
  · exact Or.inl ⟨q, b, c, rfl, d⟩
  · exact Or.inr (Or.inl ⟨q, b, c, by rw [← d, run_stop (h1 q)], rfl, f⟩)
  · exact Or.inr (Or.inr (Or.inl ⟨q, b, c, d, by rw [f], by rw [f, Nat.sub_self]; rfl, g⟩))
  · exact Or.inr (Or.inr (Or.inr ⟨q, b, c, d, f, rfl, g⟩))
theorem B2_go (h : B2 T k s t a v w2 wr) (h1 : t = 2) (h2 : a < k) (h3 : isDig (T a) = true) (hs : s ≤ a) : B2 T k s t (a + 1) (if a - s < 6 then 10 * v + T a - 48 else v) w2 wr := by
  subst h1
  rcases h with ⟨q, -⟩ | ⟨q, -⟩ | ⟨-, b, c, d, f, g, i⟩ | ⟨q, -⟩
  · omega
  · omega
  · refine Or.inr (Or.inr (Or.inl ⟨rfl, b, c, d, by rw [← f]; exact (run_go h2 h3).symm, ?_, i⟩))
    have h48 : 48 ≤ T a := by simp [isDig] at h3; omega
    by_cases z : a - s < 6
    · rw [if_pos z, Nat.mul_comm]
      exact val_step ⟨hs, z⟩ h48 g
    · rw [if_neg z]
      exact val_stay (by omega) g
  · omega
theorem nt_f {so d : Nat} (h : ¬ (so = 1 ∧ d = 2 ∨ so = 2 ∧ d = 1)) : noTouch so d = false := decide_eq_false h
theorem nt_t {so d : Nat} (h : so = 1 ∧ d = 2 ∨ so = 2 ∧ d = 1) : noTouch so d = true := decide_eq_true h
theorem or2 {w : Option Nat} : ((w.orElse fun _ => some s).orElse fun _ => some s) = w.orElse fun _ => some s := by cases w <;> rfl
theorem nx0 (hs : run isBlk T k e = s) (he : e ≤ k) (hk : k ≤ s) (ha : a = s) (hw : w2 = wr) : NextR T k so e wr (0, s, a, none, none) 0 w2 := by
  have hb := run_in (p := isBlk) (T := T) (k := k) (k - e) e rfl he
  subst ha hs
  refine ⟨(tokAt_f2 (tok0_end hk) (nt_f (by omega))).symm, by decide, fun q => absurd (show (0 : Nat) = 4 from q) (by decide), fun _ => ⟨hw, rfl⟩, fun q => absurd q (by decide), fun q => absurd q (by decide), hb.1, Nat.le_refl _, hb.2, fun q => absurd rfl q, fun q => absurd (show (0 : Nat) = 4 from q) (by decide), fun q => absurd q (by decide)⟩
theorem nx1 (hs : run isBlk T k e = s) (he : e ≤ k) (hk : s < k) (h1 : isLet (T s) = true) (ha : a = run isLet T k s) (hw : w2 = wr) (hj : ¬ (s = e ∧ so = 2)) : NextR T k so e wr (1, s, a, none, wordAt T s a) 1 w2 := by
  have hb := run_in (p := isBlk) (T := T) (k := k) (k - e) e rfl he
  have hr := run_in (p := isLet) (T := T) (k := k) (k - s) s rfl (by omega)
  have hg := run_go hk h1
  have hr2 := run_in (p := isLet) (T := T) (k := k) (k - (s + 1)) (s + 1) rfl (by omega)
  subst hs ha
  refine ⟨?_, by decide, fun q => absurd (show (1 : Nat) = 4 from q) (by decide), fun _ => ⟨hw, rfl⟩, fun _ q => ?_, fun q => absurd q (by decide), hb.1, hr.1, hr.2, fun _ => by show run isBlk T k e < run isLet T k (run isBlk T k e); omega, fun q => absurd (show (1 : Nat) = 4 from q) (by decide), fun _ => ⟨rfl, rfl⟩⟩
  · by_cases z : run isBlk T k e = e
    · exact (tokAt_f2 (tok0_word hk h1) (nt_f (by show ¬ (so = 1 ∧ 1 = 2 ∨ so = 2 ∧ 1 = 1); omega))).symm
    · exact (tokAt_f1 (tok0_word hk h1) z).symm
  · have e2 := run_idem (p := isLet) (T := T) (k := k) (s := run isBlk T k e) (by omega)
    exact e2 q
theorem nx1j (hs : run isBlk T k e = s) (he : e ≤ k) (hk : s < k) (h1 : isLet (T s) = true) (ha : a = run isLet T k s) (hw : w2 = wr) (hj : s = e ∧ so = 2) : NextR T k so e wr (4, s, a, none, wordAt T s a) 1 (w2.orElse fun _ => some s) := by
  obtain ⟨n1, n2, n3, n4, n5, n6, n7, n8, n9, n10, -, n12⟩ := nx1 (so := 0) hs he hk h1 ha hw (by omega)
  refine ⟨?_, n2, fun _ => by rw [hw], fun q => absurd rfl q, n5, n6, n7, n8, n9, n10, fun _ q => absurd q (by decide), n12⟩
  subst hs ha
  exact (tokAt_t (tok0_word hk h1) hj.1 (nt_t (Or.inr ⟨hj.2, rfl⟩))).symm
theorem nx2 (hs : run isBlk T k e = s) (he : e ≤ k) (hk : s < k) (h1 : isLet (T s) = false) (h2 : isDig (T s) = true) (ha : a = run isDig T k s) (hv : v = val T s (min (a - s) 6)) (hw : w2 = wr) (h6 : ¬ 6 < a - s) (hj : ¬ (s = e ∧ so = 1)) : NextR T k so e wr (2, s, a, some v, none) 2 w2 := by
  have hb := run_in (p := isBlk) (T := T) (k := k) (k - e) e rfl he
  have hr := run_in (p := isDig) (T := T) (k := k) (k - s) s rfl (by omega)
  have hg := run_go hk h2
  have hr2 := run_in (p := isDig) (T := T) (k := k) (k - (s + 1)) (s + 1) rfl (by omega)
  subst hs ha hv
  refine ⟨?_, by decide, fun q => absurd (show (2 : Nat) = 4 from q) (by decide), fun _ => ⟨hw, rfl⟩, fun q => absurd q (by decide), fun _ q => ?_, hb.1, hr.1, hr.2, fun _ => by show run isBlk T k e < run isDig T k (run isBlk T k e); omega, fun q => absurd (show (2 : Nat) = 4 from q) (by decide), fun q => absurd q (by decide)⟩
  · have e1 := tok0_num hk h1 h2
    rw [if_neg h6] at e1
    by_cases z : run isBlk T k e = e
    · exact (tokAt_f2 e1 (nt_f (by show ¬ (so = 1 ∧ 2 = 2 ∨ so = 2 ∧ 2 = 1); omega))).symm
    · exact (tokAt_f1 e1 z).symm
  · have e2 := run_idem (p := isDig) (T := T) (k := k) (s := run isBlk T k e) (by omega)
    exact e2 q
theorem nx2j (hs : run isBlk T k e = s) (he : e ≤ k) (hk : s < k) (h1 : isLet (T s) = false) (h2 : isDig (T s) = true) (ha : a = run isDig T k s) (hv : v = val T s (min (a - s) 6)) (hw : w2 = wr.orElse fun _ => some s) (hj : 6 < a - s ∨ s = e ∧ so = 1) : NextR T k so e wr (4, s, a, some v, none) 2 w2 := by
  have hb := run_in (p := isBlk) (T := T) (k := k) (k - e) e rfl he
  have hr := run_in (p := isDig) (T := T) (k := k) (k - s) s rfl (by omega)
  have hg := run_go hk h2
  have hr2 := run_in (p := isDig) (T := T) (k := k) (k - (s + 1)) (s + 1) rfl (by omega)
  subst hs ha hv
  refine ⟨?_, by decide, fun _ => hw, fun q => absurd rfl q, fun q => absurd q (by decide), fun _ q => ?_, hb.1, hr.1, hr.2, fun _ => by show run isBlk T k e < run isDig T k (run isBlk T k e); omega, fun _ q => absurd q (by decide), fun q => absurd q (by decide)⟩
  · have e1 := tok0_num hk h1 h2
    by_cases h6 : 6 < run isDig T k (run isBlk T k e) - run isBlk T k e
    · rw [if_pos h6] at e1
      exact (tokAt_f2 e1 (nt_f (by show ¬ (so = 1 ∧ 4 = 2 ∨ so = 2 ∧ 4 = 1); omega))).symm
    · rw [if_neg h6] at e1
      obtain ⟨j1, j2⟩ := hj.resolve_left h6
      exact (tokAt_t e1 j1 (nt_t (Or.inl ⟨j2, rfl⟩))).symm
  · have e2 := run_idem (p := isDig) (T := T) (k := k) (s := run isBlk T k e) (by omega)
    exact e2 q
theorem nx3 (hs : run isBlk T k e = s) (he : e ≤ k) (hk : s < k) (h1 : isLet (T s) = false) (h2 : isDig (T s) = false) (ha : a = s + 1) (hw : w2 = if isSgn (T s) = true then wr else wr.orElse fun _ => some s) : NextR T k so e wr (if isSgn (T s) = true then 3 else 4, s, a, some (T s), none) 3 w2 := by
  have hb := run_in (p := isBlk) (T := T) (k := k) (k - e) e rfl he
  subst hs ha
  cases z : isSgn (T (run isBlk T k e)) with
  | true =>
    rw [z, if_pos rfl] at hw
    refine ⟨(tokAt_f2 (tok0_sgn hk h1 h2 z) (nt_f (by show ¬ (so = 1 ∧ 3 = 2 ∨ so = 2 ∧ 3 = 1); omega))).symm, by decide, fun q => absurd (show (3 : Nat) = 4 from q) (by decide), fun _ => ⟨hw, rfl⟩, fun q => absurd q (by decide), fun q => absurd q (by decide), hb.1, Nat.le_succ _, hk, fun _ => Nat.lt_succ_self _, fun q => absurd (show (3 : Nat) = 4 from q) (by decide), fun q => absurd q (by decide)⟩
  | false =>
    rw [z, if_neg (by decide)] at hw
    refine ⟨(tokAt_f2 (tok0_bad hk h1 h2 z) (nt_f (by show ¬ (so = 1 ∧ 4 = 2 ∨ so = 2 ∧ 4 = 1); omega))).symm, by decide, fun _ => hw, fun q => absurd rfl q, fun q => absurd q (by decide), fun q => absurd q (by decide), hb.1, Nat.le_succ _, hk, fun _ => Nat.lt_succ_self _, fun _ _ => z, fun q => absurd q (by decide)⟩
end NX
/-- a token is noted, unless it is the end or something is wrong -/
def NoteR (tk : Tok) (t2 : Nat) (wr2 : Option Nat) (tn : Nat) (BE EN : Nat → Nat) (tn2 : Nat) (BE2 EN2 : Nat → Nat) : Prop :=
  (t2 ≠ 0 ∧ wr2 = none ∧ tn2 = tn + 1 ∧ BE2 = up BE tn tk.2.1 ∧ EN2 = up EN tn tk.2.2.1) ∨ ((t2 = 0 ∨ ∃ z, wr2 = some z) ∧ tn2 = tn ∧ BE2 = BE ∧ EN2 = EN)
theorem oI_non {w : Option Nat} (hw : ∀ z, w = some z → z < 2 ^ 31) (h : oI w < 0) : w = none := oI_lt hw (Int32.not_le.mpr h)
theorem orb {w : Option Nat} {s : Nat} (hw : ∀ z, w = some z → z < 2 ^ 31) (hs : s < 2 ^ 31) : ∀ z, (w.orElse fun _ => some s) = some z → z < 2 ^ 31 := by
  intro z h
  cases w with
  | none => cases h; exact hs
  | some y => cases h; exact hw _ rfl
theorem oI_som {w : Option Nat} (h : ¬ oI w < 0) : ∃ z, w = some z := by
  cases w with
  | none => exact absurd (show oI none < 0 by decide) h
  | some z => exact ⟨z, rfl⟩

set_option maxRecDepth 100000 in
theorem fi_Mo_103 : FI R_Mo 103 R_Mo F_Mo 19 := Or.inl (gw (i := 919) rfl rfl)
set_option maxRecDepth 100000 in
theorem fi_Mo_123 : FI R_Mo 123 R_Mo F_Mo 23 := Or.inl (gw (i := 923) rfl rfl)
set_option maxRecDepth 100000 in
theorem fi_Mo_126 : FI R_Mo 126 R_Mo F_Mo 5 := Or.inl (gw (i := 905) rfl rfl)
set_option maxRecDepth 100000 in
theorem fi_Mo_16 : FI R_Mo 16 R_Mo F_Mo 6 := Or.inl (gw (i := 906) rfl rfl)
set_option maxRecDepth 100000 in
theorem fi_Mo_19 : FI R_Mo 19 R_Mo F_Mo 7 := Or.inl (gw (i := 907) rfl rfl)
set_option maxRecDepth 100000 in
theorem lk_Mo_109 : LK R_Mo 109 y_Mo_isLetter := Or.inl (gw (i := 1050) rfl rfl)
set_option maxRecDepth 100000 in
theorem lk_Mo_113 : LK R_Mo 113 y_Mo_isDigit := Or.inl (gw (i := 1053) rfl rfl)
set_option maxRecDepth 100000 in
theorem lk_Mo_116 : LK R_Mo 116 y_Mo_isSign := Or.inl (gw (i := 1056) rfl rfl)
set_option maxRecDepth 100000 in
theorem lk_Mo_119 : LK R_Mo 119 y_Mo_refuse := Or.inl (gw (i := 1059) rfl rfl)
set_option maxRecDepth 100000 in
theorem mw_Mo_isDigit : MW y_Mo_isDigit b_Mo_isDigit 1 (some .boolean) 1 := ⟨(gw (i := 1055) rfl rfl), (gw (i := 80) rfl rfl), by decide +kernel⟩
set_option maxRecDepth 100000 in
theorem mw_Mo_isLetter : MW y_Mo_isLetter b_Mo_isLetter 1 (some .boolean) 1 := ⟨(gw (i := 1052) rfl rfl), (gw (i := 80) rfl rfl), by decide +kernel⟩
set_option maxRecDepth 100000 in
theorem mw_Mo_isSign : MW y_Mo_isSign b_Mo_isSign 1 (some .boolean) 1 := ⟨(gw (i := 1058) rfl rfl), (gw (i := 80) rfl rfl), by decide +kernel⟩
set_option maxRecDepth 100000 in
theorem mw_Mo_refuse : MW y_Mo_refuse b_Mo_refuse 2 none 1 := ⟨(gw (i := 1062) rfl rfl), (gw (i := 80) rfl rfl), by decide +kernel⟩
set_option maxRecDepth 100000 in
theorem st_Mo_isDigit : Cond.static y_Mo_isDigit ∈ GW := (gw (i := 1054) rfl rfl)
set_option maxRecDepth 100000 in
theorem st_Mo_isLetter : Cond.static y_Mo_isLetter ∈ GW := (gw (i := 1051) rfl rfl)
set_option maxRecDepth 100000 in
theorem st_Mo_isSign : Cond.static y_Mo_isSign ∈ GW := (gw (i := 1057) rfl rfl)
set_option maxRecDepth 100000 in
theorem vw_Mo_refuse : VW y_Mo_refuse := ⟨(gw (i := 1061) rfl rfl), (gw (i := 38) rfl rfl)⟩
theorem d_Mo_next_0 : decode b_Mo_next 0 = .ok (.aload_n 0, 1) := by decide +kernel
theorem d_Mo_next_1 : decode b_Mo_next 1 = .ok (.getfield 97, 3) := by decide +kernel
theorem d_Mo_next_4 : decode b_Mo_next 4 = .ok (.istore_n 1, 1) := by decide +kernel
theorem d_Mo_next_5 : decode b_Mo_next 5 = .ok (.aload_n 0, 1) := by decide +kernel
theorem d_Mo_next_6 : decode b_Mo_next 6 = .ok (.getfield 100, 3) := by decide +kernel
theorem d_Mo_next_9 : decode b_Mo_next 9 = .ok (.iconst 1, 1) := by decide +kernel
theorem d_Mo_next_10 : decode b_Mo_next 10 = .ok (.if_icmp .eq 11, 3) := by decide +kernel
theorem d_Mo_next_13 : decode b_Mo_next 13 = .ok (.aload_n 0, 1) := by decide +kernel
theorem d_Mo_next_14 : decode b_Mo_next 14 = .ok (.getfield 100, 3) := by decide +kernel
theorem d_Mo_next_17 : decode b_Mo_next 17 = .ok (.iconst 2, 1) := by decide +kernel
theorem d_Mo_next_18 : decode b_Mo_next 18 = .ok (.if_icmp .ne 7, 3) := by decide +kernel
theorem d_Mo_next_21 : decode b_Mo_next 21 = .ok (.iconst 1, 1) := by decide +kernel
theorem d_Mo_next_22 : decode b_Mo_next 22 = .ok (.goto 4, 3) := by decide +kernel
theorem d_Mo_next_25 : decode b_Mo_next 25 = .ok (.iconst 0, 1) := by decide +kernel
theorem d_Mo_next_26 : decode b_Mo_next 26 = .ok (.istore_n 2, 1) := by decide +kernel
theorem d_Mo_next_27 : decode b_Mo_next 27 = .ok (.aload_n 0, 1) := by decide +kernel
theorem d_Mo_next_28 : decode b_Mo_next 28 = .ok (.getfield 103, 3) := by decide +kernel
theorem d_Mo_next_31 : decode b_Mo_next 31 = .ok (.aload_n 0, 1) := by decide +kernel
theorem d_Mo_next_32 : decode b_Mo_next 32 = .ok (.getfield 91, 3) := by decide +kernel
theorem d_Mo_next_35 : decode b_Mo_next 35 = .ok (.if_icmp .ge 44, 3) := by decide +kernel
theorem d_Mo_next_38 : decode b_Mo_next 38 = .ok (.aload_n 0, 1) := by decide +kernel
theorem d_Mo_next_39 : decode b_Mo_next 39 = .ok (.getfield 7, 3) := by decide +kernel
theorem d_Mo_next_42 : decode b_Mo_next 42 = .ok (.aload_n 0, 1) := by decide +kernel
theorem d_Mo_next_43 : decode b_Mo_next 43 = .ok (.getfield 103, 3) := by decide +kernel
theorem d_Mo_next_46 : decode b_Mo_next 46 = .ok (.iaload, 1) := by decide +kernel
theorem d_Mo_next_47 : decode b_Mo_next 47 = .ok (.bipush 32, 2) := by decide +kernel
theorem d_Mo_next_49 : decode b_Mo_next 49 = .ok (.if_icmp .eq 17, 3) := by decide +kernel
theorem d_Mo_next_52 : decode b_Mo_next 52 = .ok (.aload_n 0, 1) := by decide +kernel
theorem d_Mo_next_53 : decode b_Mo_next 53 = .ok (.getfield 7, 3) := by decide +kernel
theorem d_Mo_next_56 : decode b_Mo_next 56 = .ok (.aload_n 0, 1) := by decide +kernel
theorem d_Mo_next_57 : decode b_Mo_next 57 = .ok (.getfield 103, 3) := by decide +kernel
theorem d_Mo_next_60 : decode b_Mo_next 60 = .ok (.iaload, 1) := by decide +kernel
theorem d_Mo_next_61 : decode b_Mo_next 61 = .ok (.bipush 10, 2) := by decide +kernel
theorem d_Mo_next_63 : decode b_Mo_next 63 = .ok (.if_icmp .ne 16, 3) := by decide +kernel
theorem d_Mo_next_66 : decode b_Mo_next 66 = .ok (.aload_n 0, 1) := by decide +kernel
theorem d_Mo_next_67 : decode b_Mo_next 67 = .ok (.dup, 1) := by decide +kernel
theorem d_Mo_next_68 : decode b_Mo_next 68 = .ok (.getfield 103, 3) := by decide +kernel
theorem d_Mo_next_71 : decode b_Mo_next 71 = .ok (.iconst 1, 1) := by decide +kernel
theorem d_Mo_next_72 : decode b_Mo_next 72 = .ok (.iadd, 1) := by decide +kernel
theorem d_Mo_next_73 : decode b_Mo_next 73 = .ok (.putfield 103, 3) := by decide +kernel
theorem d_Mo_next_76 : decode b_Mo_next 76 = .ok (.goto (-49), 3) := by decide +kernel
theorem d_Mo_next_79 : decode b_Mo_next 79 = .ok (.aload_n 0, 1) := by decide +kernel
theorem d_Mo_next_80 : decode b_Mo_next 80 = .ok (.aload_n 0, 1) := by decide +kernel
theorem d_Mo_next_81 : decode b_Mo_next 81 = .ok (.getfield 103, 3) := by decide +kernel
theorem d_Mo_next_84 : decode b_Mo_next 84 = .ok (.putfield 106, 3) := by decide +kernel
theorem d_Mo_next_87 : decode b_Mo_next 87 = .ok (.aload_n 0, 1) := by decide +kernel
theorem d_Mo_next_88 : decode b_Mo_next 88 = .ok (.aload_n 0, 1) := by decide +kernel
theorem d_Mo_next_89 : decode b_Mo_next 89 = .ok (.getfield 103, 3) := by decide +kernel
theorem d_Mo_next_92 : decode b_Mo_next 92 = .ok (.aload_n 0, 1) := by decide +kernel
theorem d_Mo_next_93 : decode b_Mo_next 93 = .ok (.getfield 91, 3) := by decide +kernel
theorem d_Mo_next_96 : decode b_Mo_next 96 = .ok (.if_icmp .ne 7, 3) := by decide +kernel
theorem d_Mo_next_99 : decode b_Mo_next 99 = .ok (.iconst 0, 1) := by decide +kernel
theorem d_Mo_next_100 : decode b_Mo_next 100 = .ok (.goto 42, 3) := by decide +kernel
theorem d_Mo_next_103 : decode b_Mo_next 103 = .ok (.aload_n 0, 1) := by decide +kernel
theorem d_Mo_next_104 : decode b_Mo_next 104 = .ok (.getfield 7, 3) := by decide +kernel
theorem d_Mo_next_107 : decode b_Mo_next 107 = .ok (.aload_n 0, 1) := by decide +kernel
theorem d_Mo_next_108 : decode b_Mo_next 108 = .ok (.getfield 103, 3) := by decide +kernel
theorem d_Mo_next_111 : decode b_Mo_next 111 = .ok (.iaload, 1) := by decide +kernel
theorem d_Mo_next_112 : decode b_Mo_next 112 = .ok (.invokestatic 109, 3) := by decide +kernel
theorem d_Mo_next_115 : decode b_Mo_next 115 = .ok (.ifCond .eq 7, 3) := by decide +kernel
theorem d_Mo_next_118 : decode b_Mo_next 118 = .ok (.iconst 1, 1) := by decide +kernel
theorem d_Mo_next_119 : decode b_Mo_next 119 = .ok (.goto 23, 3) := by decide +kernel
theorem d_Mo_next_122 : decode b_Mo_next 122 = .ok (.aload_n 0, 1) := by decide +kernel
theorem d_Mo_next_123 : decode b_Mo_next 123 = .ok (.getfield 7, 3) := by decide +kernel
theorem d_Mo_next_126 : decode b_Mo_next 126 = .ok (.aload_n 0, 1) := by decide +kernel
theorem d_Mo_next_127 : decode b_Mo_next 127 = .ok (.getfield 103, 3) := by decide +kernel
theorem d_Mo_next_130 : decode b_Mo_next 130 = .ok (.iaload, 1) := by decide +kernel
theorem d_Mo_next_131 : decode b_Mo_next 131 = .ok (.invokestatic 113, 3) := by decide +kernel
theorem d_Mo_next_134 : decode b_Mo_next 134 = .ok (.ifCond .eq 7, 3) := by decide +kernel
theorem d_Mo_next_137 : decode b_Mo_next 137 = .ok (.iconst 2, 1) := by decide +kernel
theorem d_Mo_next_138 : decode b_Mo_next 138 = .ok (.goto 4, 3) := by decide +kernel
theorem d_Mo_next_141 : decode b_Mo_next 141 = .ok (.iconst 3, 1) := by decide +kernel
theorem d_Mo_next_142 : decode b_Mo_next 142 = .ok (.putfield 100, 3) := by decide +kernel
theorem d_Mo_next_145 : decode b_Mo_next 145 = .ok (.aload_n 0, 1) := by decide +kernel
theorem d_Mo_next_146 : decode b_Mo_next 146 = .ok (.getfield 100, 3) := by decide +kernel
theorem d_Mo_next_149 : decode b_Mo_next 149 = .ok (.iconst 3, 1) := by decide +kernel
theorem d_Mo_next_150 : decode b_Mo_next 150 = .ok (.if_icmp .ne 26, 3) := by decide +kernel
theorem d_Mo_next_153 : decode b_Mo_next 153 = .ok (.aload_n 0, 1) := by decide +kernel
theorem d_Mo_next_154 : decode b_Mo_next 154 = .ok (.getfield 7, 3) := by decide +kernel
theorem d_Mo_next_157 : decode b_Mo_next 157 = .ok (.aload_n 0, 1) := by decide +kernel
theorem d_Mo_next_158 : decode b_Mo_next 158 = .ok (.getfield 103, 3) := by decide +kernel
theorem d_Mo_next_161 : decode b_Mo_next 161 = .ok (.iaload, 1) := by decide +kernel
theorem d_Mo_next_162 : decode b_Mo_next 162 = .ok (.invokestatic 116, 3) := by decide +kernel
theorem d_Mo_next_165 : decode b_Mo_next 165 = .ok (.ifCond .ne 11, 3) := by decide +kernel
theorem d_Mo_next_168 : decode b_Mo_next 168 = .ok (.aload_n 0, 1) := by decide +kernel
theorem d_Mo_next_169 : decode b_Mo_next 169 = .ok (.aload_n 0, 1) := by decide +kernel
theorem d_Mo_next_170 : decode b_Mo_next 170 = .ok (.getfield 103, 3) := by decide +kernel
theorem d_Mo_next_173 : decode b_Mo_next 173 = .ok (.invokevirtual 119, 3) := by decide +kernel
theorem d_Mo_next_176 : decode b_Mo_next 176 = .ok (.aload_n 0, 1) := by decide +kernel
theorem d_Mo_next_177 : decode b_Mo_next 177 = .ok (.iconst 0, 1) := by decide +kernel
theorem d_Mo_next_178 : decode b_Mo_next 178 = .ok (.putfield 123, 3) := by decide +kernel
theorem d_Mo_next_181 : decode b_Mo_next 181 = .ok (.aload_n 0, 1) := by decide +kernel
theorem d_Mo_next_182 : decode b_Mo_next 182 = .ok (.getfield 100, 3) := by decide +kernel
theorem d_Mo_next_185 : decode b_Mo_next 185 = .ok (.iconst 3, 1) := by decide +kernel
theorem d_Mo_next_186 : decode b_Mo_next 186 = .ok (.if_icmp .ne 13, 3) := by decide +kernel
theorem d_Mo_next_189 : decode b_Mo_next 189 = .ok (.aload_n 0, 1) := by decide +kernel
theorem d_Mo_next_190 : decode b_Mo_next 190 = .ok (.dup, 1) := by decide +kernel
theorem d_Mo_next_191 : decode b_Mo_next 191 = .ok (.getfield 103, 3) := by decide +kernel
theorem d_Mo_next_194 : decode b_Mo_next 194 = .ok (.iconst 1, 1) := by decide +kernel
theorem d_Mo_next_195 : decode b_Mo_next 195 = .ok (.iadd, 1) := by decide +kernel
theorem d_Mo_next_196 : decode b_Mo_next 196 = .ok (.putfield 103, 3) := by decide +kernel
theorem d_Mo_next_199 : decode b_Mo_next 199 = .ok (.aload_n 0, 1) := by decide +kernel
theorem d_Mo_next_200 : decode b_Mo_next 200 = .ok (.getfield 100, 3) := by decide +kernel
theorem d_Mo_next_203 : decode b_Mo_next 203 = .ok (.iconst 1, 1) := by decide +kernel
theorem d_Mo_next_204 : decode b_Mo_next 204 = .ok (.if_icmp .ne 42, 3) := by decide +kernel
theorem d_Mo_next_207 : decode b_Mo_next 207 = .ok (.aload_n 0, 1) := by decide +kernel
theorem d_Mo_next_208 : decode b_Mo_next 208 = .ok (.getfield 103, 3) := by decide +kernel
theorem d_Mo_next_211 : decode b_Mo_next 211 = .ok (.aload_n 0, 1) := by decide +kernel
theorem d_Mo_next_212 : decode b_Mo_next 212 = .ok (.getfield 91, 3) := by decide +kernel
theorem d_Mo_next_215 : decode b_Mo_next 215 = .ok (.if_icmp .ge 31, 3) := by decide +kernel
theorem d_Mo_next_218 : decode b_Mo_next 218 = .ok (.aload_n 0, 1) := by decide +kernel
theorem d_Mo_next_219 : decode b_Mo_next 219 = .ok (.getfield 7, 3) := by decide +kernel
theorem d_Mo_next_222 : decode b_Mo_next 222 = .ok (.aload_n 0, 1) := by decide +kernel
theorem d_Mo_next_223 : decode b_Mo_next 223 = .ok (.getfield 103, 3) := by decide +kernel
theorem d_Mo_next_226 : decode b_Mo_next 226 = .ok (.iaload, 1) := by decide +kernel
theorem d_Mo_next_227 : decode b_Mo_next 227 = .ok (.invokestatic 109, 3) := by decide +kernel
theorem d_Mo_next_230 : decode b_Mo_next 230 = .ok (.ifCond .eq 16, 3) := by decide +kernel
theorem d_Mo_next_233 : decode b_Mo_next 233 = .ok (.aload_n 0, 1) := by decide +kernel
theorem d_Mo_next_234 : decode b_Mo_next 234 = .ok (.dup, 1) := by decide +kernel
theorem d_Mo_next_235 : decode b_Mo_next 235 = .ok (.getfield 103, 3) := by decide +kernel
theorem d_Mo_next_238 : decode b_Mo_next 238 = .ok (.iconst 1, 1) := by decide +kernel
theorem d_Mo_next_239 : decode b_Mo_next 239 = .ok (.iadd, 1) := by decide +kernel
theorem d_Mo_next_240 : decode b_Mo_next 240 = .ok (.putfield 103, 3) := by decide +kernel
theorem d_Mo_next_243 : decode b_Mo_next 243 = .ok (.goto (-44), 3) := by decide +kernel
theorem d_Mo_next_246 : decode b_Mo_next 246 = .ok (.aload_n 0, 1) := by decide +kernel
theorem d_Mo_next_247 : decode b_Mo_next 247 = .ok (.getfield 100, 3) := by decide +kernel
theorem d_Mo_next_250 : decode b_Mo_next 250 = .ok (.iconst 2, 1) := by decide +kernel
theorem d_Mo_next_251 : decode b_Mo_next 251 = .ok (.if_icmp .ne 87, 3) := by decide +kernel
theorem d_Mo_next_254 : decode b_Mo_next 254 = .ok (.aload_n 0, 1) := by decide +kernel
theorem d_Mo_next_255 : decode b_Mo_next 255 = .ok (.getfield 103, 3) := by decide +kernel
theorem d_Mo_next_258 : decode b_Mo_next 258 = .ok (.aload_n 0, 1) := by decide +kernel
theorem d_Mo_next_259 : decode b_Mo_next 259 = .ok (.getfield 91, 3) := by decide +kernel
theorem d_Mo_next_262 : decode b_Mo_next 262 = .ok (.if_icmp .ge 76, 3) := by decide +kernel
theorem d_Mo_next_265 : decode b_Mo_next 265 = .ok (.aload_n 0, 1) := by decide +kernel
theorem d_Mo_next_266 : decode b_Mo_next 266 = .ok (.getfield 7, 3) := by decide +kernel
theorem d_Mo_next_269 : decode b_Mo_next 269 = .ok (.aload_n 0, 1) := by decide +kernel
theorem d_Mo_next_270 : decode b_Mo_next 270 = .ok (.getfield 103, 3) := by decide +kernel
theorem d_Mo_next_273 : decode b_Mo_next 273 = .ok (.iaload, 1) := by decide +kernel
theorem d_Mo_next_274 : decode b_Mo_next 274 = .ok (.invokestatic 113, 3) := by decide +kernel
theorem d_Mo_next_277 : decode b_Mo_next 277 = .ok (.ifCond .eq 61, 3) := by decide +kernel
theorem d_Mo_next_280 : decode b_Mo_next 280 = .ok (.aload_n 0, 1) := by decide +kernel
theorem d_Mo_next_281 : decode b_Mo_next 281 = .ok (.aload_n 0, 1) := by decide +kernel
theorem d_Mo_next_282 : decode b_Mo_next 282 = .ok (.getfield 103, 3) := by decide +kernel
theorem d_Mo_next_285 : decode b_Mo_next 285 = .ok (.aload_n 0, 1) := by decide +kernel
theorem d_Mo_next_286 : decode b_Mo_next 286 = .ok (.getfield 106, 3) := by decide +kernel
theorem d_Mo_next_289 : decode b_Mo_next 289 = .ok (.isub, 1) := by decide +kernel
theorem d_Mo_next_290 : decode b_Mo_next 290 = .ok (.bipush 6, 2) := by decide +kernel
theorem d_Mo_next_292 : decode b_Mo_next 292 = .ok (.if_icmp .ge 26, 3) := by decide +kernel
theorem d_Mo_next_295 : decode b_Mo_next 295 = .ok (.bipush 10, 2) := by decide +kernel
theorem d_Mo_next_297 : decode b_Mo_next 297 = .ok (.aload_n 0, 1) := by decide +kernel
theorem d_Mo_next_298 : decode b_Mo_next 298 = .ok (.getfield 123, 3) := by decide +kernel
theorem d_Mo_next_301 : decode b_Mo_next 301 = .ok (.imul, 1) := by decide +kernel
theorem d_Mo_next_302 : decode b_Mo_next 302 = .ok (.aload_n 0, 1) := by decide +kernel
theorem d_Mo_next_303 : decode b_Mo_next 303 = .ok (.getfield 7, 3) := by decide +kernel
theorem d_Mo_next_306 : decode b_Mo_next 306 = .ok (.aload_n 0, 1) := by decide +kernel
theorem d_Mo_next_307 : decode b_Mo_next 307 = .ok (.getfield 103, 3) := by decide +kernel
theorem d_Mo_next_310 : decode b_Mo_next 310 = .ok (.iaload, 1) := by decide +kernel
theorem d_Mo_next_311 : decode b_Mo_next 311 = .ok (.iadd, 1) := by decide +kernel
theorem d_Mo_next_312 : decode b_Mo_next 312 = .ok (.bipush 48, 2) := by decide +kernel
theorem d_Mo_next_314 : decode b_Mo_next 314 = .ok (.isub, 1) := by decide +kernel
theorem d_Mo_next_315 : decode b_Mo_next 315 = .ok (.goto 7, 3) := by decide +kernel
theorem d_Mo_next_318 : decode b_Mo_next 318 = .ok (.aload_n 0, 1) := by decide +kernel
theorem d_Mo_next_319 : decode b_Mo_next 319 = .ok (.getfield 123, 3) := by decide +kernel
theorem d_Mo_next_322 : decode b_Mo_next 322 = .ok (.putfield 123, 3) := by decide +kernel
theorem d_Mo_next_325 : decode b_Mo_next 325 = .ok (.aload_n 0, 1) := by decide +kernel
theorem d_Mo_next_326 : decode b_Mo_next 326 = .ok (.dup, 1) := by decide +kernel
theorem d_Mo_next_327 : decode b_Mo_next 327 = .ok (.getfield 103, 3) := by decide +kernel
theorem d_Mo_next_330 : decode b_Mo_next 330 = .ok (.iconst 1, 1) := by decide +kernel
theorem d_Mo_next_331 : decode b_Mo_next 331 = .ok (.iadd, 1) := by decide +kernel
theorem d_Mo_next_332 : decode b_Mo_next 332 = .ok (.putfield 103, 3) := by decide +kernel
theorem d_Mo_next_335 : decode b_Mo_next 335 = .ok (.goto (-89), 3) := by decide +kernel
theorem d_Mo_next_338 : decode b_Mo_next 338 = .ok (.aload_n 0, 1) := by decide +kernel
theorem d_Mo_next_339 : decode b_Mo_next 339 = .ok (.aload_n 0, 1) := by decide +kernel
theorem d_Mo_next_340 : decode b_Mo_next 340 = .ok (.getfield 103, 3) := by decide +kernel
theorem d_Mo_next_343 : decode b_Mo_next 343 = .ok (.putfield 97, 3) := by decide +kernel
theorem d_Mo_next_346 : decode b_Mo_next 346 = .ok (.aload_n 0, 1) := by decide +kernel
theorem d_Mo_next_347 : decode b_Mo_next 347 = .ok (.getfield 100, 3) := by decide +kernel
theorem d_Mo_next_350 : decode b_Mo_next 350 = .ok (.iconst 2, 1) := by decide +kernel
theorem d_Mo_next_351 : decode b_Mo_next 351 = .ok (.if_icmp .ne 25, 3) := by decide +kernel
theorem d_Mo_next_354 : decode b_Mo_next 354 = .ok (.aload_n 0, 1) := by decide +kernel
theorem d_Mo_next_355 : decode b_Mo_next 355 = .ok (.getfield 97, 3) := by decide +kernel
theorem d_Mo_next_358 : decode b_Mo_next 358 = .ok (.aload_n 0, 1) := by decide +kernel
theorem d_Mo_next_359 : decode b_Mo_next 359 = .ok (.getfield 106, 3) := by decide +kernel
theorem d_Mo_next_362 : decode b_Mo_next 362 = .ok (.isub, 1) := by decide +kernel
theorem d_Mo_next_363 : decode b_Mo_next 363 = .ok (.bipush 6, 2) := by decide +kernel
theorem d_Mo_next_365 : decode b_Mo_next 365 = .ok (.if_icmp .le 11, 3) := by decide +kernel
theorem d_Mo_next_368 : decode b_Mo_next 368 = .ok (.aload_n 0, 1) := by decide +kernel
theorem d_Mo_next_369 : decode b_Mo_next 369 = .ok (.aload_n 0, 1) := by decide +kernel
theorem d_Mo_next_370 : decode b_Mo_next 370 = .ok (.getfield 106, 3) := by decide +kernel
theorem d_Mo_next_373 : decode b_Mo_next 373 = .ok (.invokevirtual 119, 3) := by decide +kernel
theorem d_Mo_next_376 : decode b_Mo_next 376 = .ok (.iload_n 2, 1) := by decide +kernel
theorem d_Mo_next_377 : decode b_Mo_next 377 = .ok (.ifCond .eq 35, 3) := by decide +kernel
theorem d_Mo_next_380 : decode b_Mo_next 380 = .ok (.aload_n 0, 1) := by decide +kernel
theorem d_Mo_next_381 : decode b_Mo_next 381 = .ok (.getfield 106, 3) := by decide +kernel
theorem d_Mo_next_384 : decode b_Mo_next 384 = .ok (.iload_n 1, 1) := by decide +kernel
theorem d_Mo_next_385 : decode b_Mo_next 385 = .ok (.if_icmp .ne 27, 3) := by decide +kernel
theorem d_Mo_next_388 : decode b_Mo_next 388 = .ok (.aload_n 0, 1) := by decide +kernel
theorem d_Mo_next_389 : decode b_Mo_next 389 = .ok (.getfield 100, 3) := by decide +kernel
theorem d_Mo_next_392 : decode b_Mo_next 392 = .ok (.iconst 1, 1) := by decide +kernel
theorem d_Mo_next_393 : decode b_Mo_next 393 = .ok (.if_icmp .eq 11, 3) := by decide +kernel
theorem d_Mo_next_396 : decode b_Mo_next 396 = .ok (.aload_n 0, 1) := by decide +kernel
theorem d_Mo_next_397 : decode b_Mo_next 397 = .ok (.getfield 100, 3) := by decide +kernel
theorem d_Mo_next_400 : decode b_Mo_next 400 = .ok (.iconst 2, 1) := by decide +kernel
theorem d_Mo_next_401 : decode b_Mo_next 401 = .ok (.if_icmp .ne 11, 3) := by decide +kernel
theorem d_Mo_next_404 : decode b_Mo_next 404 = .ok (.aload_n 0, 1) := by decide +kernel
theorem d_Mo_next_405 : decode b_Mo_next 405 = .ok (.aload_n 0, 1) := by decide +kernel
theorem d_Mo_next_406 : decode b_Mo_next 406 = .ok (.getfield 106, 3) := by decide +kernel
theorem d_Mo_next_409 : decode b_Mo_next 409 = .ok (.invokevirtual 119, 3) := by decide +kernel
theorem d_Mo_next_412 : decode b_Mo_next 412 = .ok (.aload_n 0, 1) := by decide +kernel
theorem d_Mo_next_413 : decode b_Mo_next 413 = .ok (.getfield 100, 3) := by decide +kernel
theorem d_Mo_next_416 : decode b_Mo_next 416 = .ok (.ifCond .eq 10, 3) := by decide +kernel
theorem d_Mo_next_419 : decode b_Mo_next 419 = .ok (.aload_n 0, 1) := by decide +kernel
theorem d_Mo_next_420 : decode b_Mo_next 420 = .ok (.getfield 94, 3) := by decide +kernel
theorem d_Mo_next_423 : decode b_Mo_next 423 = .ok (.ifCond .lt 4, 3) := by decide +kernel
theorem d_Mo_next_426 : decode b_Mo_next 426 = .ok (.return_, 1) := by decide +kernel
theorem d_Mo_next_427 : decode b_Mo_next 427 = .ok (.aload_n 0, 1) := by decide +kernel
theorem d_Mo_next_428 : decode b_Mo_next 428 = .ok (.getfield 16, 3) := by decide +kernel
theorem d_Mo_next_431 : decode b_Mo_next 431 = .ok (.aload_n 0, 1) := by decide +kernel
theorem d_Mo_next_432 : decode b_Mo_next 432 = .ok (.getfield 126, 3) := by decide +kernel
theorem d_Mo_next_435 : decode b_Mo_next 435 = .ok (.aload_n 0, 1) := by decide +kernel
theorem d_Mo_next_436 : decode b_Mo_next 436 = .ok (.getfield 106, 3) := by decide +kernel
theorem d_Mo_next_439 : decode b_Mo_next 439 = .ok (.iastore, 1) := by decide +kernel
theorem d_Mo_next_440 : decode b_Mo_next 440 = .ok (.aload_n 0, 1) := by decide +kernel
theorem d_Mo_next_441 : decode b_Mo_next 441 = .ok (.getfield 19, 3) := by decide +kernel
theorem d_Mo_next_444 : decode b_Mo_next 444 = .ok (.aload_n 0, 1) := by decide +kernel
theorem d_Mo_next_445 : decode b_Mo_next 445 = .ok (.getfield 126, 3) := by decide +kernel
theorem d_Mo_next_448 : decode b_Mo_next 448 = .ok (.aload_n 0, 1) := by decide +kernel
theorem d_Mo_next_449 : decode b_Mo_next 449 = .ok (.getfield 97, 3) := by decide +kernel
theorem d_Mo_next_452 : decode b_Mo_next 452 = .ok (.iastore, 1) := by decide +kernel
theorem d_Mo_next_453 : decode b_Mo_next 453 = .ok (.aload_n 0, 1) := by decide +kernel
theorem d_Mo_next_454 : decode b_Mo_next 454 = .ok (.dup, 1) := by decide +kernel
theorem d_Mo_next_455 : decode b_Mo_next 455 = .ok (.getfield 126, 3) := by decide +kernel
theorem d_Mo_next_458 : decode b_Mo_next 458 = .ok (.iconst 1, 1) := by decide +kernel
theorem d_Mo_next_459 : decode b_Mo_next 459 = .ok (.iadd, 1) := by decide +kernel
theorem d_Mo_next_460 : decode b_Mo_next 460 = .ok (.putfield 126, 3) := by decide +kernel
theorem d_Mo_next_463 : decode b_Mo_next 463 = .ok (.return_, 1) := by decide +kernel
set_option maxHeartbeats 4000000 in
set_option maxRecDepth 100000 in
theorem lp_Mo_next_246 (g : GG) {m0 : Nat} {ad : Nat → Nat} {qth : Int32} {qde : Int32} {qru : Int32} {qbe : Int32} {qva : Int32} {qop : Int32} {qwi : Int32} {qhe : Int32} {qrw : Int32} {qma : Int32} {qir : Bool} {qiu : Bool} {k : Nat} {so : Nat} {e : Nat} {tn : Nat} {qe : Int32} {wr : Option Nat} {T : Nat → Nat} {BE : Nat → Nat} {EN : Nat → Nat} (hk : k ≤ 2000) (hT : ∀ j, T j < 256) (hso : so ≤ 3) (he : e ≤ k) (hq : so = 1 ∨ so = 2 → qe = nI e) (hs1 : so = 1 → ¬ (e < k ∧ isLet (T e) = true)) (hs2 : so = 2 → ¬ (e < k ∧ isDig (T e) = true)) (htn : tn ≤ e) (hwr : ∀ z, wr = some z → z < 2 ^ 31) {x : X0} {A : Nat → Prop} {Q : State → Prop}  (C : CX x g A R_Mo b_Mo_next 3) (E : RX x g A Q none (fun (r0 : Option Value) (w0 : va_W) => ∃ tk : Tok, ∃ t2 : Nat, ∃ tn2 : Nat, ∃ wr2 : Option Nat, ∃ BE2 : Nat → Nat, ∃ EN2 : Nat → Nat, r0 = none ∧ w0 = [(m0, .inr (9, MO ad qth (nI k) (bI qir) (nI tn2) qde qru (nI tk.2.2.1) (nI tk.2.2.1) (nI t2) (nI tk.2.1) (nI (vaM t2 tk)) (oI wr2) qop (bI qiu) qwi qhe qrw qma)), ((ad 2), .inl (g.2.1 0, 2000, .inl (aI T))), ((ad 6), .inl (g.2.1 0, 2000, .inl (aI BE2))), ((ad 7), .inl (g.2.1 0, 2000, .inl (aI EN2)))] ∧ (NextR T k so e wr tk t2 wr2) ∧ (NoteR tk t2 wr2 tn BE EN tn2 BE2 EN2)) (rmk 1 0 0 21).cells (rmk 1 0 0 21).slots) (hR : xR x = (rmk 1 0 0 21)) : ∀ (fuel : Nat) (t : Nat) (a : Nat) (s : Nat) (v : Nat) (w2 : Option Nat) (jo : Bool) (ht : t ≤ 3) (hak : a ≤ k) (hsa : s ≤ a) (hes : e ≤ s) (hs : run isBlk T k e = s) (hw2 : ∀ z, w2 = some z → z < 2 ^ 31) (hjo : jo = decide (so = 1 ∨ so = 2)) (hB : B2 T k s t a v w2 wr), k - a < fuel → J x g A Q 3 ([(m0, .inr (9, MO ad qth (nI k) (bI qir) (nI tn) qde qru (nI a) qe (nI t) (nI s) (nI v) (oI w2) qop (bI qiu) qwi qhe qrw qma)), ((ad 2), .inl (g.2.1 0, 2000, .inl (aI T))), ((ad 6), .inl (g.2.1 0, 2000, .inl (aI BE))), ((ad 7), .inl (g.2.1 0, 2000, .inl (aI EN)))]) [(0, .ref m0), (1, .int qe), (2, .int (bI jo))] 246 [] 0 0 := by
  intro fuel
  induction fuel with
  | zero =>
    intro t a s v w2 jo ht hak hsa hes hs hw2 hjo hB hm
    exact absurd hm (Nat.not_lt_zero _)
  | succ fuel ih =>
    intro t a s v w2 jo ht hak hsa hes hs hw2 hjo hB hm
    refine r_aload_n C 0 d_Mo_next_246 rfl rfl ?_
    refine r_get C 0 21 d_Mo_next_247 ci_Mo fi_Mo_100 rfl (by decide) rfl rfl ?_
    refine r_iconst C (nI 2) d_Mo_next_250 (by decide) ?_
    refine r_ncmp_ne C 338 d_Mo_next_251 (by decide) (by omega) (by omega) (fun c_251 => ?_) (fun c_251 => ?_)
    · skip
      have hE : t = 2 → ¬ (a < k ∧ isDig (T a) = true) := fun q => absurd q c_251
      rcases hB with ⟨rfl, b1, b2, rfl, b3⟩ | ⟨rfl, b1, b2, b3, rfl, b4⟩ | ⟨rfl, b1, b2, b3, b4, b5, b6⟩ | ⟨rfl, b1, b2, b3, b4, rfl, b5⟩
      · skip
        refine r_aload_n C 0 d_Mo_next_338 rfl rfl ?_
        refine r_aload_n C 0 d_Mo_next_339 rfl rfl ?_
        refine r_get C 0 19 d_Mo_next_340 ci_Mo fi_Mo_103 rfl (by decide) rfl rfl ?_
        refine r_put C (ws' := [(m0, .inr (9, MO ad qth (nI k) (bI qir) (nI tn) qde qru (nI a) (nI a) (nI 0) (nI s) (nI 0) (oI w2) qop (bI qiu) qwi qhe qrw qma)), ((ad 2), .inl (g.2.1 0, 2000, .inl (aI T))), ((ad 6), .inl (g.2.1 0, 2000, .inl (aI BE))), ((ad 7), .inl (g.2.1 0, 2000, .inl (aI EN)))]) 0 20 d_Mo_next_343 ci_Mo fi_Mo_97 rfl (by decide) rfl rfl (rfl) (rfl) (by simp) rfl ?_
        refine r_aload_n C 0 d_Mo_next_346 rfl rfl ?_
        refine r_get C 0 21 d_Mo_next_347 ci_Mo fi_Mo_100 rfl (by decide) rfl rfl ?_
        refine r_iconst C (nI 2) d_Mo_next_350 (by decide) ?_
        refine r_ncmp_ne C 376 d_Mo_next_351 (by decide) (by omega) (by omega) (fun c_351 => ?_) (fun c_351 => ?_)
        rotate_left
        · exact absurd c_351 (by decide)
        refine r_iload_n C 2 d_Mo_next_376 rfl rfl ?_
        refine r_bif_eq C 412 d_Mo_next_377 (by decide) (fun c_377 => ?_) (fun c_377 => ?_)
        · skip
          refine r_aload_n C 0 d_Mo_next_412 rfl rfl ?_
          refine r_get C 0 21 d_Mo_next_413 ci_Mo fi_Mo_100 rfl (by decide) rfl rfl ?_
          refine r_nif_eq C 426 d_Mo_next_416 (by decide) (by omega) (fun c_416 => ?_) (fun c_416 => ?_)
          rotate_left
          · exact absurd c_416 (by decide)
          refine r_vret C E d_Mo_next_426 (by first | decide | omega | (simp only [rmk]; omega)) (by first | decide | omega | (simp only [rmk]; omega)) ?_
          exact ⟨(0, s, a, none, none), 0, _, _, _, _, rfl, rfl, nx0 hs he b1 b2 b3, Or.inr ⟨Or.inl rfl, rfl, rfl, rfl⟩⟩
        · skip
          refine r_aload_n C 0 d_Mo_next_380 rfl rfl ?_
          refine r_get C 0 22 d_Mo_next_381 ci_Mo fi_Mo_106 rfl (by decide) rfl rfl ?_
          refine r_iload_n C 1 d_Mo_next_384 rfl rfl ?_
          refine r_icmp_ne C 412 d_Mo_next_385 (by decide) (fun c_385 => ?_) (fun c_385 => ?_)
          · skip
            refine r_aload_n C 0 d_Mo_next_412 rfl rfl ?_
            refine r_get C 0 21 d_Mo_next_413 ci_Mo fi_Mo_100 rfl (by decide) rfl rfl ?_
            refine r_nif_eq C 426 d_Mo_next_416 (by decide) (by omega) (fun c_416 => ?_) (fun c_416 => ?_)
            rotate_left
            · exact absurd c_416 (by decide)
            refine r_vret C E d_Mo_next_426 (by first | decide | omega | (simp only [rmk]; omega)) (by first | decide | omega | (simp only [rmk]; omega)) ?_
            exact ⟨(0, s, a, none, none), 0, _, _, _, _, rfl, rfl, nx0 hs he b1 b2 b3, Or.inr ⟨Or.inl rfl, rfl, rfl, rfl⟩⟩
          · skip
            refine r_aload_n C 0 d_Mo_next_388 rfl rfl ?_
            refine r_get C 0 21 d_Mo_next_389 ci_Mo fi_Mo_100 rfl (by decide) rfl rfl ?_
            refine r_iconst C (nI 1) d_Mo_next_392 (by decide) ?_
            refine r_ncmp_eq C 404 d_Mo_next_393 (by decide) (by omega) (by omega) (fun c_393 => ?_) (fun c_393 => ?_)
            · exact absurd c_393 (by decide)
            refine r_aload_n C 0 d_Mo_next_396 rfl rfl ?_
            refine r_get C 0 21 d_Mo_next_397 ci_Mo fi_Mo_100 rfl (by decide) rfl rfl ?_
            refine r_iconst C (nI 2) d_Mo_next_400 (by decide) ?_
            refine r_ncmp_ne C 412 d_Mo_next_401 (by decide) (by omega) (by omega) (fun c_401 => ?_) (fun c_401 => ?_)
            rotate_left
            · exact absurd c_401 (by decide)
            refine r_aload_n C 0 d_Mo_next_412 rfl rfl ?_
            refine r_get C 0 21 d_Mo_next_413 ci_Mo fi_Mo_100 rfl (by decide) rfl rfl ?_
            refine r_nif_eq C 426 d_Mo_next_416 (by decide) (by omega) (fun c_416 => ?_) (fun c_416 => ?_)
            rotate_left
            · exact absurd c_416 (by decide)
            refine r_vret C E d_Mo_next_426 (by first | decide | omega | (simp only [rmk]; omega)) (by first | decide | omega | (simp only [rmk]; omega)) ?_
            exact ⟨(0, s, a, none, none), 0, _, _, _, _, rfl, rfl, nx0 hs he b1 b2 b3, Or.inr ⟨Or.inl rfl, rfl, rfl, rfl⟩⟩
      · skip
        refine r_aload_n C 0 d_Mo_next_338 rfl rfl ?_
        refine r_aload_n C 0 d_Mo_next_339 rfl rfl ?_
        refine r_get C 0 19 d_Mo_next_340 ci_Mo fi_Mo_103 rfl (by decide) rfl rfl ?_
        refine r_put C (ws' := [(m0, .inr (9, MO ad qth (nI k) (bI qir) (nI tn) qde qru (nI a) (nI a) (nI 1) (nI s) (nI 0) (oI w2) qop (bI qiu) qwi qhe qrw qma)), ((ad 2), .inl (g.2.1 0, 2000, .inl (aI T))), ((ad 6), .inl (g.2.1 0, 2000, .inl (aI BE))), ((ad 7), .inl (g.2.1 0, 2000, .inl (aI EN)))]) 0 20 d_Mo_next_343 ci_Mo fi_Mo_97 rfl (by decide) rfl rfl (rfl) (rfl) (by simp) rfl ?_
        refine r_aload_n C 0 d_Mo_next_346 rfl rfl ?_
        refine r_get C 0 21 d_Mo_next_347 ci_Mo fi_Mo_100 rfl (by decide) rfl rfl ?_
        refine r_iconst C (nI 2) d_Mo_next_350 (by decide) ?_
        refine r_ncmp_ne C 376 d_Mo_next_351 (by decide) (by omega) (by omega) (fun c_351 => ?_) (fun c_351 => ?_)
        rotate_left
        · exact absurd c_351 (by decide)
        refine r_iload_n C 2 d_Mo_next_376 rfl rfl ?_
        refine r_bif_eq C 412 d_Mo_next_377 (by decide) (fun c_377 => ?_) (fun c_377 => ?_)
        · skip
          refine r_aload_n C 0 d_Mo_next_412 rfl rfl ?_
          refine r_get C 0 21 d_Mo_next_413 ci_Mo fi_Mo_100 rfl (by decide) rfl rfl ?_
          refine r_nif_eq C 426 d_Mo_next_416 (by decide) (by omega) (fun c_416 => ?_) (fun c_416 => ?_)
          · exact absurd c_416 (by decide)
          refine r_aload_n C 0 d_Mo_next_419 rfl rfl ?_
          refine r_get C 0 24 d_Mo_next_420 ci_Mo fi_Mo_94 rfl (by decide) rfl rfl ?_
          refine r_if_lt C 427 d_Mo_next_423 (by decide) (fun c_423 => ?_) (fun c_423 => ?_)
          · skip
            refine r_aload_n C 0 d_Mo_next_427 rfl rfl ?_
            refine r_get C 0 6 d_Mo_next_428 ci_Mo fi_Mo_16 rfl (by decide) rfl rfl ?_
            refine r_aload_n C 0 d_Mo_next_431 rfl rfl ?_
            refine r_get C 0 5 d_Mo_next_432 ci_Mo fi_Mo_126 rfl (by decide) rfl rfl ?_
            refine r_aload_n C 0 d_Mo_next_435 rfl rfl ?_
            refine r_get C 0 22 d_Mo_next_436 ci_Mo fi_Mo_106 rfl (by decide) rfl rfl ?_
            refine r_nast C (ws' := [(m0, .inr (9, MO ad qth (nI k) (bI qir) (nI tn) qde qru (nI a) (nI a) (nI 1) (nI s) (nI 0) (oI w2) qop (bI qiu) qwi qhe qrw qma)), ((ad 2), .inl (g.2.1 0, 2000, .inl (aI T))), ((ad 6), .inl (g.2.1 0, 2000, .inl (aI (up BE tn s)))), ((ad 7), .inl (g.2.1 0, 2000, .inl (aI EN)))]) 2 0 d_Mo_next_439 rfl rfl (by omega) (by decide) rfl ?_
            refine r_aload_n C 0 d_Mo_next_440 rfl rfl ?_
            refine r_get C 0 7 d_Mo_next_441 ci_Mo fi_Mo_19 rfl (by decide) rfl rfl ?_
            refine r_aload_n C 0 d_Mo_next_444 rfl rfl ?_
            refine r_get C 0 5 d_Mo_next_445 ci_Mo fi_Mo_126 rfl (by decide) rfl rfl ?_
            refine r_aload_n C 0 d_Mo_next_448 rfl rfl ?_
            refine r_get C 0 20 d_Mo_next_449 ci_Mo fi_Mo_97 rfl (by decide) rfl rfl ?_
            refine r_nast C (ws' := [(m0, .inr (9, MO ad qth (nI k) (bI qir) (nI tn) qde qru (nI a) (nI a) (nI 1) (nI s) (nI 0) (oI w2) qop (bI qiu) qwi qhe qrw qma)), ((ad 2), .inl (g.2.1 0, 2000, .inl (aI T))), ((ad 6), .inl (g.2.1 0, 2000, .inl (aI (up BE tn s)))), ((ad 7), .inl (g.2.1 0, 2000, .inl (aI (up EN tn a))))]) 3 0 d_Mo_next_452 rfl rfl (by omega) (by decide) rfl ?_
            refine r_aload_n C 0 d_Mo_next_453 rfl rfl ?_
            refine r_dup C d_Mo_next_454 rfl ?_
            refine r_get C 0 5 d_Mo_next_455 ci_Mo fi_Mo_126 rfl (by decide) rfl rfl ?_
            refine r_iconst C (nI 1) d_Mo_next_458 (by decide) ?_
            refine r_nadd C d_Mo_next_459 ?_
            refine r_put C (ws' := [(m0, .inr (9, MO ad qth (nI k) (bI qir) (nI (tn + 1)) qde qru (nI a) (nI a) (nI 1) (nI s) (nI 0) (oI w2) qop (bI qiu) qwi qhe qrw qma)), ((ad 2), .inl (g.2.1 0, 2000, .inl (aI T))), ((ad 6), .inl (g.2.1 0, 2000, .inl (aI (up BE tn s)))), ((ad 7), .inl (g.2.1 0, 2000, .inl (aI (up EN tn a))))]) 0 5 d_Mo_next_460 ci_Mo fi_Mo_126 rfl (by decide) rfl rfl (rfl) (rfl) (by simp) rfl ?_
            refine r_vret C E d_Mo_next_463 (by first | decide | omega | (simp only [rmk]; omega)) (by first | decide | omega | (simp only [rmk]; omega)) ?_
            exact ⟨(1, s, a, none, wordAt T s a), 1, _, _, _, _, rfl, rfl, nx1 hs he b1 b2 b3 b4 (fun q => by have := hjo.symm.trans c_377; exact of_decide_eq_false this (Or.inr q.2)), Or.inl ⟨by decide, oI_non (by first | exact hw2 | exact orb hw2 (by omega) | exact orb (orb hw2 (by omega)) (by omega)) c_423, rfl, rfl, rfl⟩⟩
          · skip
            refine r_vret C E d_Mo_next_426 (by first | decide | omega | (simp only [rmk]; omega)) (by first | decide | omega | (simp only [rmk]; omega)) ?_
            exact ⟨(1, s, a, none, wordAt T s a), 1, _, _, _, _, rfl, rfl, nx1 hs he b1 b2 b3 b4 (fun q => by have := hjo.symm.trans c_377; exact of_decide_eq_false this (Or.inr q.2)), Or.inr ⟨Or.inr (oI_som c_423), rfl, rfl, rfl⟩⟩
        · skip
          refine r_aload_n C 0 d_Mo_next_380 rfl rfl ?_
          refine r_get C 0 22 d_Mo_next_381 ci_Mo fi_Mo_106 rfl (by decide) rfl rfl ?_
          refine r_iload_n C 1 d_Mo_next_384 rfl rfl ?_
          refine r_icmp_ne C 412 d_Mo_next_385 (by decide) (fun c_385 => ?_) (fun c_385 => ?_)
          · skip
            refine r_aload_n C 0 d_Mo_next_412 rfl rfl ?_
            refine r_get C 0 21 d_Mo_next_413 ci_Mo fi_Mo_100 rfl (by decide) rfl rfl ?_
            refine r_nif_eq C 426 d_Mo_next_416 (by decide) (by omega) (fun c_416 => ?_) (fun c_416 => ?_)
            · exact absurd c_416 (by decide)
            refine r_aload_n C 0 d_Mo_next_419 rfl rfl ?_
            refine r_get C 0 24 d_Mo_next_420 ci_Mo fi_Mo_94 rfl (by decide) rfl rfl ?_
            refine r_if_lt C 427 d_Mo_next_423 (by decide) (fun c_423 => ?_) (fun c_423 => ?_)
            · skip
              refine r_aload_n C 0 d_Mo_next_427 rfl rfl ?_
              refine r_get C 0 6 d_Mo_next_428 ci_Mo fi_Mo_16 rfl (by decide) rfl rfl ?_
              refine r_aload_n C 0 d_Mo_next_431 rfl rfl ?_
              refine r_get C 0 5 d_Mo_next_432 ci_Mo fi_Mo_126 rfl (by decide) rfl rfl ?_
              refine r_aload_n C 0 d_Mo_next_435 rfl rfl ?_
              refine r_get C 0 22 d_Mo_next_436 ci_Mo fi_Mo_106 rfl (by decide) rfl rfl ?_
              refine r_nast C (ws' := [(m0, .inr (9, MO ad qth (nI k) (bI qir) (nI tn) qde qru (nI a) (nI a) (nI 1) (nI s) (nI 0) (oI w2) qop (bI qiu) qwi qhe qrw qma)), ((ad 2), .inl (g.2.1 0, 2000, .inl (aI T))), ((ad 6), .inl (g.2.1 0, 2000, .inl (aI (up BE tn s)))), ((ad 7), .inl (g.2.1 0, 2000, .inl (aI EN)))]) 2 0 d_Mo_next_439 rfl rfl (by omega) (by decide) rfl ?_
              refine r_aload_n C 0 d_Mo_next_440 rfl rfl ?_
              refine r_get C 0 7 d_Mo_next_441 ci_Mo fi_Mo_19 rfl (by decide) rfl rfl ?_
              refine r_aload_n C 0 d_Mo_next_444 rfl rfl ?_
              refine r_get C 0 5 d_Mo_next_445 ci_Mo fi_Mo_126 rfl (by decide) rfl rfl ?_
              refine r_aload_n C 0 d_Mo_next_448 rfl rfl ?_
              refine r_get C 0 20 d_Mo_next_449 ci_Mo fi_Mo_97 rfl (by decide) rfl rfl ?_
              refine r_nast C (ws' := [(m0, .inr (9, MO ad qth (nI k) (bI qir) (nI tn) qde qru (nI a) (nI a) (nI 1) (nI s) (nI 0) (oI w2) qop (bI qiu) qwi qhe qrw qma)), ((ad 2), .inl (g.2.1 0, 2000, .inl (aI T))), ((ad 6), .inl (g.2.1 0, 2000, .inl (aI (up BE tn s)))), ((ad 7), .inl (g.2.1 0, 2000, .inl (aI (up EN tn a))))]) 3 0 d_Mo_next_452 rfl rfl (by omega) (by decide) rfl ?_
              refine r_aload_n C 0 d_Mo_next_453 rfl rfl ?_
              refine r_dup C d_Mo_next_454 rfl ?_
              refine r_get C 0 5 d_Mo_next_455 ci_Mo fi_Mo_126 rfl (by decide) rfl rfl ?_
              refine r_iconst C (nI 1) d_Mo_next_458 (by decide) ?_
              refine r_nadd C d_Mo_next_459 ?_
              refine r_put C (ws' := [(m0, .inr (9, MO ad qth (nI k) (bI qir) (nI (tn + 1)) qde qru (nI a) (nI a) (nI 1) (nI s) (nI 0) (oI w2) qop (bI qiu) qwi qhe qrw qma)), ((ad 2), .inl (g.2.1 0, 2000, .inl (aI T))), ((ad 6), .inl (g.2.1 0, 2000, .inl (aI (up BE tn s)))), ((ad 7), .inl (g.2.1 0, 2000, .inl (aI (up EN tn a))))]) 0 5 d_Mo_next_460 ci_Mo fi_Mo_126 rfl (by decide) rfl rfl (rfl) (rfl) (by simp) rfl ?_
              refine r_vret C E d_Mo_next_463 (by first | decide | omega | (simp only [rmk]; omega)) (by first | decide | omega | (simp only [rmk]; omega)) ?_
              exact ⟨(1, s, a, none, wordAt T s a), 1, _, _, _, _, rfl, rfl, nx1 hs he b1 b2 b3 b4 (fun q => c_385 (by rw [hq (Or.inr q.2), q.1])), Or.inl ⟨by decide, oI_non (by first | exact hw2 | exact orb hw2 (by omega) | exact orb (orb hw2 (by omega)) (by omega)) c_423, rfl, rfl, rfl⟩⟩
            · skip
              refine r_vret C E d_Mo_next_426 (by first | decide | omega | (simp only [rmk]; omega)) (by first | decide | omega | (simp only [rmk]; omega)) ?_
              exact ⟨(1, s, a, none, wordAt T s a), 1, _, _, _, _, rfl, rfl, nx1 hs he b1 b2 b3 b4 (fun q => c_385 (by rw [hq (Or.inr q.2), q.1])), Or.inr ⟨Or.inr (oI_som c_423), rfl, rfl, rfl⟩⟩
          · skip
            refine r_aload_n C 0 d_Mo_next_388 rfl rfl ?_
            refine r_get C 0 21 d_Mo_next_389 ci_Mo fi_Mo_100 rfl (by decide) rfl rfl ?_
            refine r_iconst C (nI 1) d_Mo_next_392 (by decide) ?_
            refine r_ncmp_eq C 404 d_Mo_next_393 (by decide) (by omega) (by omega) (fun c_393 => ?_) (fun c_393 => ?_)
            rotate_left
            · exact absurd c_393 (by decide)
            refine r_aload_n C 0 d_Mo_next_404 rfl rfl ?_
            refine r_aload_n C 0 d_Mo_next_405 rfl rfl ?_
            refine r_get C 0 22 d_Mo_next_406 ci_Mo fi_Mo_106 rfl (by decide) rfl rfl ?_
            refine j_callV C (c_Mo_refuse g (xl x) (m0 := m0) (ad := ad) (qth := qth) (qsz := nI k) (qtk := nI tn) (qde := qde) (qru := qru) (qat := nI a) (qen := nI a) (qto := nI 1) (qbe := nI s) (qva := nI 0) (qop := qop) (qwi := qwi) (qhe := qhe) (qrw := qrw) (qma := qma) (qir := qir) (qiu := qiu) (wr := w2) (c := s) (by first | assumption | omega | rfl) (by first | exact hw2 | exact hwr | exact orb hw2 (by omega))) (Sp.of (wr := [((ad 2), .inl (g.2.1 0, 2000, .inl (aI T))), ((ad 6), .inl (g.2.1 0, 2000, .inl (aI BE))), ((ad 7), .inl (g.2.1 0, 2000, .inl (aI EN)))]) [0] [1, 2, 3] rfl rfl rfl rfl (by decide)) d_Mo_next_409 lk_Mo_119 mw_Mo_refuse vw_Mo_refuse (q0 := 0) rfl rfl (fit_of hR (by first | decide | (simp only [rmk]; omega)) (by first | decide | (simp only [rmk]; omega)) (by first | decide | (simp only [rmk]; omega)) (by first | decide | (simp only [rmk]; omega))) rfl (cat8 (Nat.le_of_ble_eq_true rfl)) (As := [.int (nI s)]) (rest := []) rfl (fun r_409 w_409 hp_409 => ?_)
            obtain ⟨rfl, rfl⟩ := hp_409
            refine r_after (ws' := [(m0, .inr (9, MO ad qth (nI k) (bI qir) (nI tn) qde qru (nI a) (nI a) (nI 1) (nI s) (nI 0) (oI (w2.orElse fun _ => some s)) qop (bI qiu) qwi qhe qrw qma)), ((ad 2), .inl (g.2.1 0, 2000, .inl (aI T))), ((ad 6), .inl (g.2.1 0, 2000, .inl (aI BE))), ((ad 7), .inl (g.2.1 0, 2000, .inl (aI EN)))]) (st' := []) (n1 := 0) (n2 := 0) [3, 0, 1, 2] rfl rfl rfl rfl rfl ?_
            refine r_aload_n C 0 d_Mo_next_412 rfl rfl ?_
            refine r_get C 0 21 d_Mo_next_413 ci_Mo fi_Mo_100 rfl (by decide) rfl rfl ?_
            refine r_nif_eq C 426 d_Mo_next_416 (by decide) (by omega) (fun c_416 => ?_) (fun c_416 => ?_)
            · exact absurd c_416 (by decide)
            refine r_aload_n C 0 d_Mo_next_419 rfl rfl ?_
            refine r_get C 0 24 d_Mo_next_420 ci_Mo fi_Mo_94 rfl (by decide) rfl rfl ?_
            refine r_if_lt C 427 d_Mo_next_423 (by decide) (fun c_423 => ?_) (fun c_423 => ?_)
            · skip
              refine r_aload_n C 0 d_Mo_next_427 rfl rfl ?_
              refine r_get C 0 6 d_Mo_next_428 ci_Mo fi_Mo_16 rfl (by decide) rfl rfl ?_
              refine r_aload_n C 0 d_Mo_next_431 rfl rfl ?_
              refine r_get C 0 5 d_Mo_next_432 ci_Mo fi_Mo_126 rfl (by decide) rfl rfl ?_
              refine r_aload_n C 0 d_Mo_next_435 rfl rfl ?_
              refine r_get C 0 22 d_Mo_next_436 ci_Mo fi_Mo_106 rfl (by decide) rfl rfl ?_
              refine r_nast C (ws' := [(m0, .inr (9, MO ad qth (nI k) (bI qir) (nI tn) qde qru (nI a) (nI a) (nI 1) (nI s) (nI 0) (oI (w2.orElse fun _ => some s)) qop (bI qiu) qwi qhe qrw qma)), ((ad 2), .inl (g.2.1 0, 2000, .inl (aI T))), ((ad 6), .inl (g.2.1 0, 2000, .inl (aI (up BE tn s)))), ((ad 7), .inl (g.2.1 0, 2000, .inl (aI EN)))]) 2 0 d_Mo_next_439 rfl rfl (by omega) (by decide) rfl ?_
              refine r_aload_n C 0 d_Mo_next_440 rfl rfl ?_
              refine r_get C 0 7 d_Mo_next_441 ci_Mo fi_Mo_19 rfl (by decide) rfl rfl ?_
              refine r_aload_n C 0 d_Mo_next_444 rfl rfl ?_
              refine r_get C 0 5 d_Mo_next_445 ci_Mo fi_Mo_126 rfl (by decide) rfl rfl ?_
              refine r_aload_n C 0 d_Mo_next_448 rfl rfl ?_
              refine r_get C 0 20 d_Mo_next_449 ci_Mo fi_Mo_97 rfl (by decide) rfl rfl ?_
              refine r_nast C (ws' := [(m0, .inr (9, MO ad qth (nI k) (bI qir) (nI tn) qde qru (nI a) (nI a) (nI 1) (nI s) (nI 0) (oI (w2.orElse fun _ => some s)) qop (bI qiu) qwi qhe qrw qma)), ((ad 2), .inl (g.2.1 0, 2000, .inl (aI T))), ((ad 6), .inl (g.2.1 0, 2000, .inl (aI (up BE tn s)))), ((ad 7), .inl (g.2.1 0, 2000, .inl (aI (up EN tn a))))]) 3 0 d_Mo_next_452 rfl rfl (by omega) (by decide) rfl ?_
              refine r_aload_n C 0 d_Mo_next_453 rfl rfl ?_
              refine r_dup C d_Mo_next_454 rfl ?_
              refine r_get C 0 5 d_Mo_next_455 ci_Mo fi_Mo_126 rfl (by decide) rfl rfl ?_
              refine r_iconst C (nI 1) d_Mo_next_458 (by decide) ?_
              refine r_nadd C d_Mo_next_459 ?_
              refine r_put C (ws' := [(m0, .inr (9, MO ad qth (nI k) (bI qir) (nI (tn + 1)) qde qru (nI a) (nI a) (nI 1) (nI s) (nI 0) (oI (w2.orElse fun _ => some s)) qop (bI qiu) qwi qhe qrw qma)), ((ad 2), .inl (g.2.1 0, 2000, .inl (aI T))), ((ad 6), .inl (g.2.1 0, 2000, .inl (aI (up BE tn s)))), ((ad 7), .inl (g.2.1 0, 2000, .inl (aI (up EN tn a))))]) 0 5 d_Mo_next_460 ci_Mo fi_Mo_126 rfl (by decide) rfl rfl (rfl) (rfl) (by simp) rfl ?_
              refine r_vret C E d_Mo_next_463 (by first | decide | omega | (simp only [rmk]; omega)) (by first | decide | omega | (simp only [rmk]; omega)) ?_
              exact ⟨(4, s, a, none, wordAt T s a), 1, _, _, _, _, rfl, rfl, nx1j hs he b1 b2 b3 b4 (by have hj1 := of_decide_eq_true (hjo.symm.trans c_377); rw [hq hj1] at c_385; have hj2 := (nI_eq (by omega) (by omega)).mp c_385; refine ⟨hj2, hj1.resolve_left fun q => hs1 q ⟨by omega, by rw [← hj2]; exact b2⟩⟩), Or.inl ⟨by decide, oI_non (by first | exact hw2 | exact orb hw2 (by omega) | exact orb (orb hw2 (by omega)) (by omega)) c_423, rfl, rfl, rfl⟩⟩
            · skip
              refine r_vret C E d_Mo_next_426 (by first | decide | omega | (simp only [rmk]; omega)) (by first | decide | omega | (simp only [rmk]; omega)) ?_
              exact ⟨(4, s, a, none, wordAt T s a), 1, _, _, _, _, rfl, rfl, nx1j hs he b1 b2 b3 b4 (by have hj1 := of_decide_eq_true (hjo.symm.trans c_377); rw [hq hj1] at c_385; have hj2 := (nI_eq (by omega) (by omega)).mp c_385; refine ⟨hj2, hj1.resolve_left fun q => hs1 q ⟨by omega, by rw [← hj2]; exact b2⟩⟩), Or.inr ⟨Or.inr (oI_som c_423), rfl, rfl, rfl⟩⟩
      · skip
        have ba : a = run isDig T k s := by rw [← b4, run_stop (hE rfl)]
        refine r_aload_n C 0 d_Mo_next_338 rfl rfl ?_
        refine r_aload_n C 0 d_Mo_next_339 rfl rfl ?_
        refine r_get C 0 19 d_Mo_next_340 ci_Mo fi_Mo_103 rfl (by decide) rfl rfl ?_
        refine r_put C (ws' := [(m0, .inr (9, MO ad qth (nI k) (bI qir) (nI tn) qde qru (nI a) (nI a) (nI 2) (nI s) (nI v) (oI w2) qop (bI qiu) qwi qhe qrw qma)), ((ad 2), .inl (g.2.1 0, 2000, .inl (aI T))), ((ad 6), .inl (g.2.1 0, 2000, .inl (aI BE))), ((ad 7), .inl (g.2.1 0, 2000, .inl (aI EN)))]) 0 20 d_Mo_next_343 ci_Mo fi_Mo_97 rfl (by decide) rfl rfl (rfl) (rfl) (by simp) rfl ?_
        refine r_aload_n C 0 d_Mo_next_346 rfl rfl ?_
        refine r_get C 0 21 d_Mo_next_347 ci_Mo fi_Mo_100 rfl (by decide) rfl rfl ?_
        refine r_iconst C (nI 2) d_Mo_next_350 (by decide) ?_
        refine r_ncmp_ne C 376 d_Mo_next_351 (by decide) (by omega) (by omega) (fun c_351 => ?_) (fun c_351 => ?_)
        · exact absurd c_351 (by decide)
        refine r_aload_n C 0 d_Mo_next_354 rfl rfl ?_
        refine r_get C 0 20 d_Mo_next_355 ci_Mo fi_Mo_97 rfl (by decide) rfl rfl ?_
        refine r_aload_n C 0 d_Mo_next_358 rfl rfl ?_
        refine r_get C 0 22 d_Mo_next_359 ci_Mo fi_Mo_106 rfl (by decide) rfl rfl ?_
        refine r_nsub C d_Mo_next_362 (by omega) ?_
        refine r_bipush C (nI 6) d_Mo_next_363 (by decide) ?_
        refine r_ncmp_le C 376 d_Mo_next_365 (by decide) (by omega) (by omega) (fun c_365 => ?_) (fun c_365 => ?_)
        · skip
          refine r_iload_n C 2 d_Mo_next_376 rfl rfl ?_
          refine r_bif_eq C 412 d_Mo_next_377 (by decide) (fun c_377 => ?_) (fun c_377 => ?_)
          · skip
            refine r_aload_n C 0 d_Mo_next_412 rfl rfl ?_
            refine r_get C 0 21 d_Mo_next_413 ci_Mo fi_Mo_100 rfl (by decide) rfl rfl ?_
            refine r_nif_eq C 426 d_Mo_next_416 (by decide) (by omega) (fun c_416 => ?_) (fun c_416 => ?_)
            · exact absurd c_416 (by decide)
            refine r_aload_n C 0 d_Mo_next_419 rfl rfl ?_
            refine r_get C 0 24 d_Mo_next_420 ci_Mo fi_Mo_94 rfl (by decide) rfl rfl ?_
            refine r_if_lt C 427 d_Mo_next_423 (by decide) (fun c_423 => ?_) (fun c_423 => ?_)
            · skip
              refine r_aload_n C 0 d_Mo_next_427 rfl rfl ?_
              refine r_get C 0 6 d_Mo_next_428 ci_Mo fi_Mo_16 rfl (by decide) rfl rfl ?_
              refine r_aload_n C 0 d_Mo_next_431 rfl rfl ?_
              refine r_get C 0 5 d_Mo_next_432 ci_Mo fi_Mo_126 rfl (by decide) rfl rfl ?_
              refine r_aload_n C 0 d_Mo_next_435 rfl rfl ?_
              refine r_get C 0 22 d_Mo_next_436 ci_Mo fi_Mo_106 rfl (by decide) rfl rfl ?_
              refine r_nast C (ws' := [(m0, .inr (9, MO ad qth (nI k) (bI qir) (nI tn) qde qru (nI a) (nI a) (nI 2) (nI s) (nI v) (oI w2) qop (bI qiu) qwi qhe qrw qma)), ((ad 2), .inl (g.2.1 0, 2000, .inl (aI T))), ((ad 6), .inl (g.2.1 0, 2000, .inl (aI (up BE tn s)))), ((ad 7), .inl (g.2.1 0, 2000, .inl (aI EN)))]) 2 0 d_Mo_next_439 rfl rfl (by omega) (by decide) rfl ?_
              refine r_aload_n C 0 d_Mo_next_440 rfl rfl ?_
              refine r_get C 0 7 d_Mo_next_441 ci_Mo fi_Mo_19 rfl (by decide) rfl rfl ?_
              refine r_aload_n C 0 d_Mo_next_444 rfl rfl ?_
              refine r_get C 0 5 d_Mo_next_445 ci_Mo fi_Mo_126 rfl (by decide) rfl rfl ?_
              refine r_aload_n C 0 d_Mo_next_448 rfl rfl ?_
              refine r_get C 0 20 d_Mo_next_449 ci_Mo fi_Mo_97 rfl (by decide) rfl rfl ?_
              refine r_nast C (ws' := [(m0, .inr (9, MO ad qth (nI k) (bI qir) (nI tn) qde qru (nI a) (nI a) (nI 2) (nI s) (nI v) (oI w2) qop (bI qiu) qwi qhe qrw qma)), ((ad 2), .inl (g.2.1 0, 2000, .inl (aI T))), ((ad 6), .inl (g.2.1 0, 2000, .inl (aI (up BE tn s)))), ((ad 7), .inl (g.2.1 0, 2000, .inl (aI (up EN tn a))))]) 3 0 d_Mo_next_452 rfl rfl (by omega) (by decide) rfl ?_
              refine r_aload_n C 0 d_Mo_next_453 rfl rfl ?_
              refine r_dup C d_Mo_next_454 rfl ?_
              refine r_get C 0 5 d_Mo_next_455 ci_Mo fi_Mo_126 rfl (by decide) rfl rfl ?_
              refine r_iconst C (nI 1) d_Mo_next_458 (by decide) ?_
              refine r_nadd C d_Mo_next_459 ?_
              refine r_put C (ws' := [(m0, .inr (9, MO ad qth (nI k) (bI qir) (nI (tn + 1)) qde qru (nI a) (nI a) (nI 2) (nI s) (nI v) (oI w2) qop (bI qiu) qwi qhe qrw qma)), ((ad 2), .inl (g.2.1 0, 2000, .inl (aI T))), ((ad 6), .inl (g.2.1 0, 2000, .inl (aI (up BE tn s)))), ((ad 7), .inl (g.2.1 0, 2000, .inl (aI (up EN tn a))))]) 0 5 d_Mo_next_460 ci_Mo fi_Mo_126 rfl (by decide) rfl rfl (rfl) (rfl) (by simp) rfl ?_
              refine r_vret C E d_Mo_next_463 (by first | decide | omega | (simp only [rmk]; omega)) (by first | decide | omega | (simp only [rmk]; omega)) ?_
              exact ⟨(2, s, a, some v, none), 2, _, _, _, _, rfl, rfl, nx2 hs he b1 b2 b3 ba b5 b6 (by omega) (fun q => by have := hjo.symm.trans c_377; exact of_decide_eq_false this (Or.inl q.2)), Or.inl ⟨by decide, oI_non (by first | exact hw2 | exact orb hw2 (by omega) | exact orb (orb hw2 (by omega)) (by omega)) c_423, rfl, rfl, rfl⟩⟩
            · skip
              refine r_vret C E d_Mo_next_426 (by first | decide | omega | (simp only [rmk]; omega)) (by first | decide | omega | (simp only [rmk]; omega)) ?_
              exact ⟨(2, s, a, some v, none), 2, _, _, _, _, rfl, rfl, nx2 hs he b1 b2 b3 ba b5 b6 (by omega) (fun q => by have := hjo.symm.trans c_377; exact of_decide_eq_false this (Or.inl q.2)), Or.inr ⟨Or.inr (oI_som c_423), rfl, rfl, rfl⟩⟩
          · skip
            refine r_aload_n C 0 d_Mo_next_380 rfl rfl ?_
            refine r_get C 0 22 d_Mo_next_381 ci_Mo fi_Mo_106 rfl (by decide) rfl rfl ?_
            refine r_iload_n C 1 d_Mo_next_384 rfl rfl ?_
            refine r_icmp_ne C 412 d_Mo_next_385 (by decide) (fun c_385 => ?_) (fun c_385 => ?_)
            · skip
              refine r_aload_n C 0 d_Mo_next_412 rfl rfl ?_
              refine r_get C 0 21 d_Mo_next_413 ci_Mo fi_Mo_100 rfl (by decide) rfl rfl ?_
              refine r_nif_eq C 426 d_Mo_next_416 (by decide) (by omega) (fun c_416 => ?_) (fun c_416 => ?_)
              · exact absurd c_416 (by decide)
              refine r_aload_n C 0 d_Mo_next_419 rfl rfl ?_
              refine r_get C 0 24 d_Mo_next_420 ci_Mo fi_Mo_94 rfl (by decide) rfl rfl ?_
              refine r_if_lt C 427 d_Mo_next_423 (by decide) (fun c_423 => ?_) (fun c_423 => ?_)
              · skip
                refine r_aload_n C 0 d_Mo_next_427 rfl rfl ?_
                refine r_get C 0 6 d_Mo_next_428 ci_Mo fi_Mo_16 rfl (by decide) rfl rfl ?_
                refine r_aload_n C 0 d_Mo_next_431 rfl rfl ?_
                refine r_get C 0 5 d_Mo_next_432 ci_Mo fi_Mo_126 rfl (by decide) rfl rfl ?_
                refine r_aload_n C 0 d_Mo_next_435 rfl rfl ?_
                refine r_get C 0 22 d_Mo_next_436 ci_Mo fi_Mo_106 rfl (by decide) rfl rfl ?_
                refine r_nast C (ws' := [(m0, .inr (9, MO ad qth (nI k) (bI qir) (nI tn) qde qru (nI a) (nI a) (nI 2) (nI s) (nI v) (oI w2) qop (bI qiu) qwi qhe qrw qma)), ((ad 2), .inl (g.2.1 0, 2000, .inl (aI T))), ((ad 6), .inl (g.2.1 0, 2000, .inl (aI (up BE tn s)))), ((ad 7), .inl (g.2.1 0, 2000, .inl (aI EN)))]) 2 0 d_Mo_next_439 rfl rfl (by omega) (by decide) rfl ?_
                refine r_aload_n C 0 d_Mo_next_440 rfl rfl ?_
                refine r_get C 0 7 d_Mo_next_441 ci_Mo fi_Mo_19 rfl (by decide) rfl rfl ?_
                refine r_aload_n C 0 d_Mo_next_444 rfl rfl ?_
                refine r_get C 0 5 d_Mo_next_445 ci_Mo fi_Mo_126 rfl (by decide) rfl rfl ?_
                refine r_aload_n C 0 d_Mo_next_448 rfl rfl ?_
                refine r_get C 0 20 d_Mo_next_449 ci_Mo fi_Mo_97 rfl (by decide) rfl rfl ?_
                refine r_nast C (ws' := [(m0, .inr (9, MO ad qth (nI k) (bI qir) (nI tn) qde qru (nI a) (nI a) (nI 2) (nI s) (nI v) (oI w2) qop (bI qiu) qwi qhe qrw qma)), ((ad 2), .inl (g.2.1 0, 2000, .inl (aI T))), ((ad 6), .inl (g.2.1 0, 2000, .inl (aI (up BE tn s)))), ((ad 7), .inl (g.2.1 0, 2000, .inl (aI (up EN tn a))))]) 3 0 d_Mo_next_452 rfl rfl (by omega) (by decide) rfl ?_
                refine r_aload_n C 0 d_Mo_next_453 rfl rfl ?_
                refine r_dup C d_Mo_next_454 rfl ?_
                refine r_get C 0 5 d_Mo_next_455 ci_Mo fi_Mo_126 rfl (by decide) rfl rfl ?_
                refine r_iconst C (nI 1) d_Mo_next_458 (by decide) ?_
                refine r_nadd C d_Mo_next_459 ?_
                refine r_put C (ws' := [(m0, .inr (9, MO ad qth (nI k) (bI qir) (nI (tn + 1)) qde qru (nI a) (nI a) (nI 2) (nI s) (nI v) (oI w2) qop (bI qiu) qwi qhe qrw qma)), ((ad 2), .inl (g.2.1 0, 2000, .inl (aI T))), ((ad 6), .inl (g.2.1 0, 2000, .inl (aI (up BE tn s)))), ((ad 7), .inl (g.2.1 0, 2000, .inl (aI (up EN tn a))))]) 0 5 d_Mo_next_460 ci_Mo fi_Mo_126 rfl (by decide) rfl rfl (rfl) (rfl) (by simp) rfl ?_
                refine r_vret C E d_Mo_next_463 (by first | decide | omega | (simp only [rmk]; omega)) (by first | decide | omega | (simp only [rmk]; omega)) ?_
                exact ⟨(2, s, a, some v, none), 2, _, _, _, _, rfl, rfl, nx2 hs he b1 b2 b3 ba b5 b6 (by omega) (fun q => c_385 (by rw [hq (Or.inl q.2), q.1])), Or.inl ⟨by decide, oI_non (by first | exact hw2 | exact orb hw2 (by omega) | exact orb (orb hw2 (by omega)) (by omega)) c_423, rfl, rfl, rfl⟩⟩
              · skip
                refine r_vret C E d_Mo_next_426 (by first | decide | omega | (simp only [rmk]; omega)) (by first | decide | omega | (simp only [rmk]; omega)) ?_
                exact ⟨(2, s, a, some v, none), 2, _, _, _, _, rfl, rfl, nx2 hs he b1 b2 b3 ba b5 b6 (by omega) (fun q => c_385 (by rw [hq (Or.inl q.2), q.1])), Or.inr ⟨Or.inr (oI_som c_423), rfl, rfl, rfl⟩⟩
            · skip
              refine r_aload_n C 0 d_Mo_next_388 rfl rfl ?_
              refine r_get C 0 21 d_Mo_next_389 ci_Mo fi_Mo_100 rfl (by decide) rfl rfl ?_
              refine r_iconst C (nI 1) d_Mo_next_392 (by decide) ?_
              refine r_ncmp_eq C 404 d_Mo_next_393 (by decide) (by omega) (by omega) (fun c_393 => ?_) (fun c_393 => ?_)
              · exact absurd c_393 (by decide)
              refine r_aload_n C 0 d_Mo_next_396 rfl rfl ?_
              refine r_get C 0 21 d_Mo_next_397 ci_Mo fi_Mo_100 rfl (by decide) rfl rfl ?_
              refine r_iconst C (nI 2) d_Mo_next_400 (by decide) ?_
              refine r_ncmp_ne C 412 d_Mo_next_401 (by decide) (by omega) (by omega) (fun c_401 => ?_) (fun c_401 => ?_)
              · exact absurd c_401 (by decide)
              refine r_aload_n C 0 d_Mo_next_404 rfl rfl ?_
              refine r_aload_n C 0 d_Mo_next_405 rfl rfl ?_
              refine r_get C 0 22 d_Mo_next_406 ci_Mo fi_Mo_106 rfl (by decide) rfl rfl ?_
              refine j_callV C (c_Mo_refuse g (xl x) (m0 := m0) (ad := ad) (qth := qth) (qsz := nI k) (qtk := nI tn) (qde := qde) (qru := qru) (qat := nI a) (qen := nI a) (qto := nI 2) (qbe := nI s) (qva := nI v) (qop := qop) (qwi := qwi) (qhe := qhe) (qrw := qrw) (qma := qma) (qir := qir) (qiu := qiu) (wr := w2) (c := s) (by first | assumption | omega | rfl) (by first | exact hw2 | exact hwr | exact orb hw2 (by omega))) (Sp.of (wr := [((ad 2), .inl (g.2.1 0, 2000, .inl (aI T))), ((ad 6), .inl (g.2.1 0, 2000, .inl (aI BE))), ((ad 7), .inl (g.2.1 0, 2000, .inl (aI EN)))]) [0] [1, 2, 3] rfl rfl rfl rfl (by decide)) d_Mo_next_409 lk_Mo_119 mw_Mo_refuse vw_Mo_refuse (q0 := 0) rfl rfl (fit_of hR (by first | decide | (simp only [rmk]; omega)) (by first | decide | (simp only [rmk]; omega)) (by first | decide | (simp only [rmk]; omega)) (by first | decide | (simp only [rmk]; omega))) rfl (cat8 (Nat.le_of_ble_eq_true rfl)) (As := [.int (nI s)]) (rest := []) rfl (fun r_409 w_409 hp_409 => ?_)
              obtain ⟨rfl, rfl⟩ := hp_409
              refine r_after (ws' := [(m0, .inr (9, MO ad qth (nI k) (bI qir) (nI tn) qde qru (nI a) (nI a) (nI 2) (nI s) (nI v) (oI (w2.orElse fun _ => some s)) qop (bI qiu) qwi qhe qrw qma)), ((ad 2), .inl (g.2.1 0, 2000, .inl (aI T))), ((ad 6), .inl (g.2.1 0, 2000, .inl (aI BE))), ((ad 7), .inl (g.2.1 0, 2000, .inl (aI EN)))]) (st' := []) (n1 := 0) (n2 := 0) [3, 0, 1, 2] rfl rfl rfl rfl rfl ?_
              refine r_aload_n C 0 d_Mo_next_412 rfl rfl ?_
              refine r_get C 0 21 d_Mo_next_413 ci_Mo fi_Mo_100 rfl (by decide) rfl rfl ?_
              refine r_nif_eq C 426 d_Mo_next_416 (by decide) (by omega) (fun c_416 => ?_) (fun c_416 => ?_)
              · exact absurd c_416 (by decide)
              refine r_aload_n C 0 d_Mo_next_419 rfl rfl ?_
              refine r_get C 0 24 d_Mo_next_420 ci_Mo fi_Mo_94 rfl (by decide) rfl rfl ?_
              refine r_if_lt C 427 d_Mo_next_423 (by decide) (fun c_423 => ?_) (fun c_423 => ?_)
              · skip
                refine r_aload_n C 0 d_Mo_next_427 rfl rfl ?_
                refine r_get C 0 6 d_Mo_next_428 ci_Mo fi_Mo_16 rfl (by decide) rfl rfl ?_
                refine r_aload_n C 0 d_Mo_next_431 rfl rfl ?_
                refine r_get C 0 5 d_Mo_next_432 ci_Mo fi_Mo_126 rfl (by decide) rfl rfl ?_
                refine r_aload_n C 0 d_Mo_next_435 rfl rfl ?_
                refine r_get C 0 22 d_Mo_next_436 ci_Mo fi_Mo_106 rfl (by decide) rfl rfl ?_
                refine r_nast C (ws' := [(m0, .inr (9, MO ad qth (nI k) (bI qir) (nI tn) qde qru (nI a) (nI a) (nI 2) (nI s) (nI v) (oI (w2.orElse fun _ => some s)) qop (bI qiu) qwi qhe qrw qma)), ((ad 2), .inl (g.2.1 0, 2000, .inl (aI T))), ((ad 6), .inl (g.2.1 0, 2000, .inl (aI (up BE tn s)))), ((ad 7), .inl (g.2.1 0, 2000, .inl (aI EN)))]) 2 0 d_Mo_next_439 rfl rfl (by omega) (by decide) rfl ?_
                refine r_aload_n C 0 d_Mo_next_440 rfl rfl ?_
                refine r_get C 0 7 d_Mo_next_441 ci_Mo fi_Mo_19 rfl (by decide) rfl rfl ?_
                refine r_aload_n C 0 d_Mo_next_444 rfl rfl ?_
                refine r_get C 0 5 d_Mo_next_445 ci_Mo fi_Mo_126 rfl (by decide) rfl rfl ?_
                refine r_aload_n C 0 d_Mo_next_448 rfl rfl ?_
                refine r_get C 0 20 d_Mo_next_449 ci_Mo fi_Mo_97 rfl (by decide) rfl rfl ?_
                refine r_nast C (ws' := [(m0, .inr (9, MO ad qth (nI k) (bI qir) (nI tn) qde qru (nI a) (nI a) (nI 2) (nI s) (nI v) (oI (w2.orElse fun _ => some s)) qop (bI qiu) qwi qhe qrw qma)), ((ad 2), .inl (g.2.1 0, 2000, .inl (aI T))), ((ad 6), .inl (g.2.1 0, 2000, .inl (aI (up BE tn s)))), ((ad 7), .inl (g.2.1 0, 2000, .inl (aI (up EN tn a))))]) 3 0 d_Mo_next_452 rfl rfl (by omega) (by decide) rfl ?_
                refine r_aload_n C 0 d_Mo_next_453 rfl rfl ?_
                refine r_dup C d_Mo_next_454 rfl ?_
                refine r_get C 0 5 d_Mo_next_455 ci_Mo fi_Mo_126 rfl (by decide) rfl rfl ?_
                refine r_iconst C (nI 1) d_Mo_next_458 (by decide) ?_
                refine r_nadd C d_Mo_next_459 ?_
                refine r_put C (ws' := [(m0, .inr (9, MO ad qth (nI k) (bI qir) (nI (tn + 1)) qde qru (nI a) (nI a) (nI 2) (nI s) (nI v) (oI (w2.orElse fun _ => some s)) qop (bI qiu) qwi qhe qrw qma)), ((ad 2), .inl (g.2.1 0, 2000, .inl (aI T))), ((ad 6), .inl (g.2.1 0, 2000, .inl (aI (up BE tn s)))), ((ad 7), .inl (g.2.1 0, 2000, .inl (aI (up EN tn a))))]) 0 5 d_Mo_next_460 ci_Mo fi_Mo_126 rfl (by decide) rfl rfl (rfl) (rfl) (by simp) rfl ?_
                refine r_vret C E d_Mo_next_463 (by first | decide | omega | (simp only [rmk]; omega)) (by first | decide | omega | (simp only [rmk]; omega)) ?_
                exact ⟨(4, s, a, some v, none), 2, _, _, _, _, rfl, rfl, nx2j hs he b1 b2 b3 ba b5 (by rw [b6]) (by first | exact Or.inl (by omega) | exact (by have hj1 := of_decide_eq_true (hjo.symm.trans c_377); rw [hq hj1] at c_385; have hj2 := (nI_eq (by omega) (by omega)).mp c_385; exact Or.inr ⟨hj2, hj1.resolve_right fun q => hs2 q ⟨by omega, by rw [← hj2]; exact b3⟩⟩)), Or.inl ⟨by decide, oI_non (by first | exact hw2 | exact orb hw2 (by omega) | exact orb (orb hw2 (by omega)) (by omega)) c_423, rfl, rfl, rfl⟩⟩
              · skip
                refine r_vret C E d_Mo_next_426 (by first | decide | omega | (simp only [rmk]; omega)) (by first | decide | omega | (simp only [rmk]; omega)) ?_
                exact ⟨(4, s, a, some v, none), 2, _, _, _, _, rfl, rfl, nx2j hs he b1 b2 b3 ba b5 (by rw [b6]) (by first | exact Or.inl (by omega) | exact (by have hj1 := of_decide_eq_true (hjo.symm.trans c_377); rw [hq hj1] at c_385; have hj2 := (nI_eq (by omega) (by omega)).mp c_385; exact Or.inr ⟨hj2, hj1.resolve_right fun q => hs2 q ⟨by omega, by rw [← hj2]; exact b3⟩⟩)), Or.inr ⟨Or.inr (oI_som c_423), rfl, rfl, rfl⟩⟩
        · skip
          refine r_aload_n C 0 d_Mo_next_368 rfl rfl ?_
          refine r_aload_n C 0 d_Mo_next_369 rfl rfl ?_
          refine r_get C 0 22 d_Mo_next_370 ci_Mo fi_Mo_106 rfl (by decide) rfl rfl ?_
          refine j_callV C (c_Mo_refuse g (xl x) (m0 := m0) (ad := ad) (qth := qth) (qsz := nI k) (qtk := nI tn) (qde := qde) (qru := qru) (qat := nI a) (qen := nI a) (qto := nI 2) (qbe := nI s) (qva := nI v) (qop := qop) (qwi := qwi) (qhe := qhe) (qrw := qrw) (qma := qma) (qir := qir) (qiu := qiu) (wr := w2) (c := s) (by first | assumption | omega | rfl) (by first | exact hw2 | exact hwr | exact orb hw2 (by omega))) (Sp.of (wr := [((ad 2), .inl (g.2.1 0, 2000, .inl (aI T))), ((ad 6), .inl (g.2.1 0, 2000, .inl (aI BE))), ((ad 7), .inl (g.2.1 0, 2000, .inl (aI EN)))]) [0] [1, 2, 3] rfl rfl rfl rfl (by decide)) d_Mo_next_373 lk_Mo_119 mw_Mo_refuse vw_Mo_refuse (q0 := 0) rfl rfl (fit_of hR (by first | decide | (simp only [rmk]; omega)) (by first | decide | (simp only [rmk]; omega)) (by first | decide | (simp only [rmk]; omega)) (by first | decide | (simp only [rmk]; omega))) rfl (cat8 (Nat.le_of_ble_eq_true rfl)) (As := [.int (nI s)]) (rest := []) rfl (fun r_373 w_373 hp_373 => ?_)
          obtain ⟨rfl, rfl⟩ := hp_373
          refine r_after (ws' := [(m0, .inr (9, MO ad qth (nI k) (bI qir) (nI tn) qde qru (nI a) (nI a) (nI 2) (nI s) (nI v) (oI (w2.orElse fun _ => some s)) qop (bI qiu) qwi qhe qrw qma)), ((ad 2), .inl (g.2.1 0, 2000, .inl (aI T))), ((ad 6), .inl (g.2.1 0, 2000, .inl (aI BE))), ((ad 7), .inl (g.2.1 0, 2000, .inl (aI EN)))]) (st' := []) (n1 := 0) (n2 := 0) [3, 0, 1, 2] rfl rfl rfl rfl rfl ?_
          refine r_iload_n C 2 d_Mo_next_376 rfl rfl ?_
          refine r_bif_eq C 412 d_Mo_next_377 (by decide) (fun c_377 => ?_) (fun c_377 => ?_)
          · skip
            refine r_aload_n C 0 d_Mo_next_412 rfl rfl ?_
            refine r_get C 0 21 d_Mo_next_413 ci_Mo fi_Mo_100 rfl (by decide) rfl rfl ?_
            refine r_nif_eq C 426 d_Mo_next_416 (by decide) (by omega) (fun c_416 => ?_) (fun c_416 => ?_)
            · exact absurd c_416 (by decide)
            refine r_aload_n C 0 d_Mo_next_419 rfl rfl ?_
            refine r_get C 0 24 d_Mo_next_420 ci_Mo fi_Mo_94 rfl (by decide) rfl rfl ?_
            refine r_if_lt C 427 d_Mo_next_423 (by decide) (fun c_423 => ?_) (fun c_423 => ?_)
            · skip
              refine r_aload_n C 0 d_Mo_next_427 rfl rfl ?_
              refine r_get C 0 6 d_Mo_next_428 ci_Mo fi_Mo_16 rfl (by decide) rfl rfl ?_
              refine r_aload_n C 0 d_Mo_next_431 rfl rfl ?_
              refine r_get C 0 5 d_Mo_next_432 ci_Mo fi_Mo_126 rfl (by decide) rfl rfl ?_
              refine r_aload_n C 0 d_Mo_next_435 rfl rfl ?_
              refine r_get C 0 22 d_Mo_next_436 ci_Mo fi_Mo_106 rfl (by decide) rfl rfl ?_
              refine r_nast C (ws' := [(m0, .inr (9, MO ad qth (nI k) (bI qir) (nI tn) qde qru (nI a) (nI a) (nI 2) (nI s) (nI v) (oI (w2.orElse fun _ => some s)) qop (bI qiu) qwi qhe qrw qma)), ((ad 2), .inl (g.2.1 0, 2000, .inl (aI T))), ((ad 6), .inl (g.2.1 0, 2000, .inl (aI (up BE tn s)))), ((ad 7), .inl (g.2.1 0, 2000, .inl (aI EN)))]) 2 0 d_Mo_next_439 rfl rfl (by omega) (by decide) rfl ?_
              refine r_aload_n C 0 d_Mo_next_440 rfl rfl ?_
              refine r_get C 0 7 d_Mo_next_441 ci_Mo fi_Mo_19 rfl (by decide) rfl rfl ?_
              refine r_aload_n C 0 d_Mo_next_444 rfl rfl ?_
              refine r_get C 0 5 d_Mo_next_445 ci_Mo fi_Mo_126 rfl (by decide) rfl rfl ?_
              refine r_aload_n C 0 d_Mo_next_448 rfl rfl ?_
              refine r_get C 0 20 d_Mo_next_449 ci_Mo fi_Mo_97 rfl (by decide) rfl rfl ?_
              refine r_nast C (ws' := [(m0, .inr (9, MO ad qth (nI k) (bI qir) (nI tn) qde qru (nI a) (nI a) (nI 2) (nI s) (nI v) (oI (w2.orElse fun _ => some s)) qop (bI qiu) qwi qhe qrw qma)), ((ad 2), .inl (g.2.1 0, 2000, .inl (aI T))), ((ad 6), .inl (g.2.1 0, 2000, .inl (aI (up BE tn s)))), ((ad 7), .inl (g.2.1 0, 2000, .inl (aI (up EN tn a))))]) 3 0 d_Mo_next_452 rfl rfl (by omega) (by decide) rfl ?_
              refine r_aload_n C 0 d_Mo_next_453 rfl rfl ?_
              refine r_dup C d_Mo_next_454 rfl ?_
              refine r_get C 0 5 d_Mo_next_455 ci_Mo fi_Mo_126 rfl (by decide) rfl rfl ?_
              refine r_iconst C (nI 1) d_Mo_next_458 (by decide) ?_
              refine r_nadd C d_Mo_next_459 ?_
              refine r_put C (ws' := [(m0, .inr (9, MO ad qth (nI k) (bI qir) (nI (tn + 1)) qde qru (nI a) (nI a) (nI 2) (nI s) (nI v) (oI (w2.orElse fun _ => some s)) qop (bI qiu) qwi qhe qrw qma)), ((ad 2), .inl (g.2.1 0, 2000, .inl (aI T))), ((ad 6), .inl (g.2.1 0, 2000, .inl (aI (up BE tn s)))), ((ad 7), .inl (g.2.1 0, 2000, .inl (aI (up EN tn a))))]) 0 5 d_Mo_next_460 ci_Mo fi_Mo_126 rfl (by decide) rfl rfl (rfl) (rfl) (by simp) rfl ?_
              refine r_vret C E d_Mo_next_463 (by first | decide | omega | (simp only [rmk]; omega)) (by first | decide | omega | (simp only [rmk]; omega)) ?_
              exact ⟨(4, s, a, some v, none), 2, _, _, _, _, rfl, rfl, nx2j hs he b1 b2 b3 ba b5 (by rw [b6]) (by first | exact Or.inl (by omega) | exact (by have hj1 := of_decide_eq_true (hjo.symm.trans c_377); rw [hq hj1] at c_385; have hj2 := (nI_eq (by omega) (by omega)).mp c_385; exact Or.inr ⟨hj2, hj1.resolve_right fun q => hs2 q ⟨by omega, by rw [← hj2]; exact b3⟩⟩)), Or.inl ⟨by decide, oI_non (by first | exact hw2 | exact orb hw2 (by omega) | exact orb (orb hw2 (by omega)) (by omega)) c_423, rfl, rfl, rfl⟩⟩
            · skip
              refine r_vret C E d_Mo_next_426 (by first | decide | omega | (simp only [rmk]; omega)) (by first | decide | omega | (simp only [rmk]; omega)) ?_
              exact ⟨(4, s, a, some v, none), 2, _, _, _, _, rfl, rfl, nx2j hs he b1 b2 b3 ba b5 (by rw [b6]) (by first | exact Or.inl (by omega) | exact (by have hj1 := of_decide_eq_true (hjo.symm.trans c_377); rw [hq hj1] at c_385; have hj2 := (nI_eq (by omega) (by omega)).mp c_385; exact Or.inr ⟨hj2, hj1.resolve_right fun q => hs2 q ⟨by omega, by rw [← hj2]; exact b3⟩⟩)), Or.inr ⟨Or.inr (oI_som c_423), rfl, rfl, rfl⟩⟩
          · skip
            refine r_aload_n C 0 d_Mo_next_380 rfl rfl ?_
            refine r_get C 0 22 d_Mo_next_381 ci_Mo fi_Mo_106 rfl (by decide) rfl rfl ?_
            refine r_iload_n C 1 d_Mo_next_384 rfl rfl ?_
            refine r_icmp_ne C 412 d_Mo_next_385 (by decide) (fun c_385 => ?_) (fun c_385 => ?_)
            · skip
              refine r_aload_n C 0 d_Mo_next_412 rfl rfl ?_
              refine r_get C 0 21 d_Mo_next_413 ci_Mo fi_Mo_100 rfl (by decide) rfl rfl ?_
              refine r_nif_eq C 426 d_Mo_next_416 (by decide) (by omega) (fun c_416 => ?_) (fun c_416 => ?_)
              · exact absurd c_416 (by decide)
              refine r_aload_n C 0 d_Mo_next_419 rfl rfl ?_
              refine r_get C 0 24 d_Mo_next_420 ci_Mo fi_Mo_94 rfl (by decide) rfl rfl ?_
              refine r_if_lt C 427 d_Mo_next_423 (by decide) (fun c_423 => ?_) (fun c_423 => ?_)
              · skip
                refine r_aload_n C 0 d_Mo_next_427 rfl rfl ?_
                refine r_get C 0 6 d_Mo_next_428 ci_Mo fi_Mo_16 rfl (by decide) rfl rfl ?_
                refine r_aload_n C 0 d_Mo_next_431 rfl rfl ?_
                refine r_get C 0 5 d_Mo_next_432 ci_Mo fi_Mo_126 rfl (by decide) rfl rfl ?_
                refine r_aload_n C 0 d_Mo_next_435 rfl rfl ?_
                refine r_get C 0 22 d_Mo_next_436 ci_Mo fi_Mo_106 rfl (by decide) rfl rfl ?_
                refine r_nast C (ws' := [(m0, .inr (9, MO ad qth (nI k) (bI qir) (nI tn) qde qru (nI a) (nI a) (nI 2) (nI s) (nI v) (oI (w2.orElse fun _ => some s)) qop (bI qiu) qwi qhe qrw qma)), ((ad 2), .inl (g.2.1 0, 2000, .inl (aI T))), ((ad 6), .inl (g.2.1 0, 2000, .inl (aI (up BE tn s)))), ((ad 7), .inl (g.2.1 0, 2000, .inl (aI EN)))]) 2 0 d_Mo_next_439 rfl rfl (by omega) (by decide) rfl ?_
                refine r_aload_n C 0 d_Mo_next_440 rfl rfl ?_
                refine r_get C 0 7 d_Mo_next_441 ci_Mo fi_Mo_19 rfl (by decide) rfl rfl ?_
                refine r_aload_n C 0 d_Mo_next_444 rfl rfl ?_
                refine r_get C 0 5 d_Mo_next_445 ci_Mo fi_Mo_126 rfl (by decide) rfl rfl ?_
                refine r_aload_n C 0 d_Mo_next_448 rfl rfl ?_
                refine r_get C 0 20 d_Mo_next_449 ci_Mo fi_Mo_97 rfl (by decide) rfl rfl ?_
                refine r_nast C (ws' := [(m0, .inr (9, MO ad qth (nI k) (bI qir) (nI tn) qde qru (nI a) (nI a) (nI 2) (nI s) (nI v) (oI (w2.orElse fun _ => some s)) qop (bI qiu) qwi qhe qrw qma)), ((ad 2), .inl (g.2.1 0, 2000, .inl (aI T))), ((ad 6), .inl (g.2.1 0, 2000, .inl (aI (up BE tn s)))), ((ad 7), .inl (g.2.1 0, 2000, .inl (aI (up EN tn a))))]) 3 0 d_Mo_next_452 rfl rfl (by omega) (by decide) rfl ?_
                refine r_aload_n C 0 d_Mo_next_453 rfl rfl ?_
                refine r_dup C d_Mo_next_454 rfl ?_
                refine r_get C 0 5 d_Mo_next_455 ci_Mo fi_Mo_126 rfl (by decide) rfl rfl ?_
                refine r_iconst C (nI 1) d_Mo_next_458 (by decide) ?_
                refine r_nadd C d_Mo_next_459 ?_
                refine r_put C (ws' := [(m0, .inr (9, MO ad qth (nI k) (bI qir) (nI (tn + 1)) qde qru (nI a) (nI a) (nI 2) (nI s) (nI v) (oI (w2.orElse fun _ => some s)) qop (bI qiu) qwi qhe qrw qma)), ((ad 2), .inl (g.2.1 0, 2000, .inl (aI T))), ((ad 6), .inl (g.2.1 0, 2000, .inl (aI (up BE tn s)))), ((ad 7), .inl (g.2.1 0, 2000, .inl (aI (up EN tn a))))]) 0 5 d_Mo_next_460 ci_Mo fi_Mo_126 rfl (by decide) rfl rfl (rfl) (rfl) (by simp) rfl ?_
                refine r_vret C E d_Mo_next_463 (by first | decide | omega | (simp only [rmk]; omega)) (by first | decide | omega | (simp only [rmk]; omega)) ?_
                exact ⟨(4, s, a, some v, none), 2, _, _, _, _, rfl, rfl, nx2j hs he b1 b2 b3 ba b5 (by rw [b6]) (by first | exact Or.inl (by omega) | exact (by have hj1 := of_decide_eq_true (hjo.symm.trans c_377); rw [hq hj1] at c_385; have hj2 := (nI_eq (by omega) (by omega)).mp c_385; exact Or.inr ⟨hj2, hj1.resolve_right fun q => hs2 q ⟨by omega, by rw [← hj2]; exact b3⟩⟩)), Or.inl ⟨by decide, oI_non (by first | exact hw2 | exact orb hw2 (by omega) | exact orb (orb hw2 (by omega)) (by omega)) c_423, rfl, rfl, rfl⟩⟩
              · skip
                refine r_vret C E d_Mo_next_426 (by first | decide | omega | (simp only [rmk]; omega)) (by first | decide | omega | (simp only [rmk]; omega)) ?_
                exact ⟨(4, s, a, some v, none), 2, _, _, _, _, rfl, rfl, nx2j hs he b1 b2 b3 ba b5 (by rw [b6]) (by first | exact Or.inl (by omega) | exact (by have hj1 := of_decide_eq_true (hjo.symm.trans c_377); rw [hq hj1] at c_385; have hj2 := (nI_eq (by omega) (by omega)).mp c_385; exact Or.inr ⟨hj2, hj1.resolve_right fun q => hs2 q ⟨by omega, by rw [← hj2]; exact b3⟩⟩)), Or.inr ⟨Or.inr (oI_som c_423), rfl, rfl, rfl⟩⟩
            · skip
              refine r_aload_n C 0 d_Mo_next_388 rfl rfl ?_
              refine r_get C 0 21 d_Mo_next_389 ci_Mo fi_Mo_100 rfl (by decide) rfl rfl ?_
              refine r_iconst C (nI 1) d_Mo_next_392 (by decide) ?_
              refine r_ncmp_eq C 404 d_Mo_next_393 (by decide) (by omega) (by omega) (fun c_393 => ?_) (fun c_393 => ?_)
              · exact absurd c_393 (by decide)
              refine r_aload_n C 0 d_Mo_next_396 rfl rfl ?_
              refine r_get C 0 21 d_Mo_next_397 ci_Mo fi_Mo_100 rfl (by decide) rfl rfl ?_
              refine r_iconst C (nI 2) d_Mo_next_400 (by decide) ?_
              refine r_ncmp_ne C 412 d_Mo_next_401 (by decide) (by omega) (by omega) (fun c_401 => ?_) (fun c_401 => ?_)
              · exact absurd c_401 (by decide)
              refine r_aload_n C 0 d_Mo_next_404 rfl rfl ?_
              refine r_aload_n C 0 d_Mo_next_405 rfl rfl ?_
              refine r_get C 0 22 d_Mo_next_406 ci_Mo fi_Mo_106 rfl (by decide) rfl rfl ?_
              refine j_callV C (c_Mo_refuse g (xl x) (m0 := m0) (ad := ad) (qth := qth) (qsz := nI k) (qtk := nI tn) (qde := qde) (qru := qru) (qat := nI a) (qen := nI a) (qto := nI 2) (qbe := nI s) (qva := nI v) (qop := qop) (qwi := qwi) (qhe := qhe) (qrw := qrw) (qma := qma) (qir := qir) (qiu := qiu) (wr := w2.orElse fun _ => some s) (c := s) (by first | assumption | omega | rfl) (by first | exact hw2 | exact hwr | exact orb hw2 (by omega))) (Sp.of (wr := [((ad 2), .inl (g.2.1 0, 2000, .inl (aI T))), ((ad 6), .inl (g.2.1 0, 2000, .inl (aI BE))), ((ad 7), .inl (g.2.1 0, 2000, .inl (aI EN)))]) [0] [1, 2, 3] rfl rfl rfl rfl (by decide)) d_Mo_next_409 lk_Mo_119 mw_Mo_refuse vw_Mo_refuse (q0 := 0) rfl rfl (fit_of hR (by first | decide | (simp only [rmk]; omega)) (by first | decide | (simp only [rmk]; omega)) (by first | decide | (simp only [rmk]; omega)) (by first | decide | (simp only [rmk]; omega))) rfl (cat8 (Nat.le_of_ble_eq_true rfl)) (As := [.int (nI s)]) (rest := []) rfl (fun r_409 w_409 hp_409 => ?_)
              obtain ⟨rfl, rfl⟩ := hp_409
              refine r_after (ws' := [(m0, .inr (9, MO ad qth (nI k) (bI qir) (nI tn) qde qru (nI a) (nI a) (nI 2) (nI s) (nI v) (oI ((w2.orElse fun _ => some s).orElse fun _ => some s)) qop (bI qiu) qwi qhe qrw qma)), ((ad 2), .inl (g.2.1 0, 2000, .inl (aI T))), ((ad 6), .inl (g.2.1 0, 2000, .inl (aI BE))), ((ad 7), .inl (g.2.1 0, 2000, .inl (aI EN)))]) (st' := []) (n1 := 0) (n2 := 0) [3, 0, 1, 2] rfl rfl rfl rfl rfl ?_
              refine r_aload_n C 0 d_Mo_next_412 rfl rfl ?_
              refine r_get C 0 21 d_Mo_next_413 ci_Mo fi_Mo_100 rfl (by decide) rfl rfl ?_
              refine r_nif_eq C 426 d_Mo_next_416 (by decide) (by omega) (fun c_416 => ?_) (fun c_416 => ?_)
              · exact absurd c_416 (by decide)
              refine r_aload_n C 0 d_Mo_next_419 rfl rfl ?_
              refine r_get C 0 24 d_Mo_next_420 ci_Mo fi_Mo_94 rfl (by decide) rfl rfl ?_
              refine r_if_lt C 427 d_Mo_next_423 (by decide) (fun c_423 => ?_) (fun c_423 => ?_)
              · skip
                refine r_aload_n C 0 d_Mo_next_427 rfl rfl ?_
                refine r_get C 0 6 d_Mo_next_428 ci_Mo fi_Mo_16 rfl (by decide) rfl rfl ?_
                refine r_aload_n C 0 d_Mo_next_431 rfl rfl ?_
                refine r_get C 0 5 d_Mo_next_432 ci_Mo fi_Mo_126 rfl (by decide) rfl rfl ?_
                refine r_aload_n C 0 d_Mo_next_435 rfl rfl ?_
                refine r_get C 0 22 d_Mo_next_436 ci_Mo fi_Mo_106 rfl (by decide) rfl rfl ?_
                refine r_nast C (ws' := [(m0, .inr (9, MO ad qth (nI k) (bI qir) (nI tn) qde qru (nI a) (nI a) (nI 2) (nI s) (nI v) (oI ((w2.orElse fun _ => some s).orElse fun _ => some s)) qop (bI qiu) qwi qhe qrw qma)), ((ad 2), .inl (g.2.1 0, 2000, .inl (aI T))), ((ad 6), .inl (g.2.1 0, 2000, .inl (aI (up BE tn s)))), ((ad 7), .inl (g.2.1 0, 2000, .inl (aI EN)))]) 2 0 d_Mo_next_439 rfl rfl (by omega) (by decide) rfl ?_
                refine r_aload_n C 0 d_Mo_next_440 rfl rfl ?_
                refine r_get C 0 7 d_Mo_next_441 ci_Mo fi_Mo_19 rfl (by decide) rfl rfl ?_
                refine r_aload_n C 0 d_Mo_next_444 rfl rfl ?_
                refine r_get C 0 5 d_Mo_next_445 ci_Mo fi_Mo_126 rfl (by decide) rfl rfl ?_
                refine r_aload_n C 0 d_Mo_next_448 rfl rfl ?_
                refine r_get C 0 20 d_Mo_next_449 ci_Mo fi_Mo_97 rfl (by decide) rfl rfl ?_
                refine r_nast C (ws' := [(m0, .inr (9, MO ad qth (nI k) (bI qir) (nI tn) qde qru (nI a) (nI a) (nI 2) (nI s) (nI v) (oI ((w2.orElse fun _ => some s).orElse fun _ => some s)) qop (bI qiu) qwi qhe qrw qma)), ((ad 2), .inl (g.2.1 0, 2000, .inl (aI T))), ((ad 6), .inl (g.2.1 0, 2000, .inl (aI (up BE tn s)))), ((ad 7), .inl (g.2.1 0, 2000, .inl (aI (up EN tn a))))]) 3 0 d_Mo_next_452 rfl rfl (by omega) (by decide) rfl ?_
                refine r_aload_n C 0 d_Mo_next_453 rfl rfl ?_
                refine r_dup C d_Mo_next_454 rfl ?_
                refine r_get C 0 5 d_Mo_next_455 ci_Mo fi_Mo_126 rfl (by decide) rfl rfl ?_
                refine r_iconst C (nI 1) d_Mo_next_458 (by decide) ?_
                refine r_nadd C d_Mo_next_459 ?_
                refine r_put C (ws' := [(m0, .inr (9, MO ad qth (nI k) (bI qir) (nI (tn + 1)) qde qru (nI a) (nI a) (nI 2) (nI s) (nI v) (oI ((w2.orElse fun _ => some s).orElse fun _ => some s)) qop (bI qiu) qwi qhe qrw qma)), ((ad 2), .inl (g.2.1 0, 2000, .inl (aI T))), ((ad 6), .inl (g.2.1 0, 2000, .inl (aI (up BE tn s)))), ((ad 7), .inl (g.2.1 0, 2000, .inl (aI (up EN tn a))))]) 0 5 d_Mo_next_460 ci_Mo fi_Mo_126 rfl (by decide) rfl rfl (rfl) (rfl) (by simp) rfl ?_
                refine r_vret C E d_Mo_next_463 (by first | decide | omega | (simp only [rmk]; omega)) (by first | decide | omega | (simp only [rmk]; omega)) ?_
                exact ⟨(4, s, a, some v, none), 2, _, _, _, _, rfl, rfl, nx2j hs he b1 b2 b3 ba b5 (by rw [b6]; exact or2) (Or.inl (by omega)), Or.inl ⟨by decide, oI_non (by first | exact hw2 | exact orb hw2 (by omega) | exact orb (orb hw2 (by omega)) (by omega)) c_423, rfl, rfl, rfl⟩⟩
              · skip
                refine r_vret C E d_Mo_next_426 (by first | decide | omega | (simp only [rmk]; omega)) (by first | decide | omega | (simp only [rmk]; omega)) ?_
                exact ⟨(4, s, a, some v, none), 2, _, _, _, _, rfl, rfl, nx2j hs he b1 b2 b3 ba b5 (by rw [b6]; exact or2) (Or.inl (by omega)), Or.inr ⟨Or.inr (oI_som c_423), rfl, rfl, rfl⟩⟩
      · skip
        refine r_aload_n C 0 d_Mo_next_338 rfl rfl ?_
        refine r_aload_n C 0 d_Mo_next_339 rfl rfl ?_
        refine r_get C 0 19 d_Mo_next_340 ci_Mo fi_Mo_103 rfl (by decide) rfl rfl ?_
        refine r_put C (ws' := [(m0, .inr (9, MO ad qth (nI k) (bI qir) (nI tn) qde qru (nI a) (nI a) (nI 3) (nI s) (nI 0) (oI w2) qop (bI qiu) qwi qhe qrw qma)), ((ad 2), .inl (g.2.1 0, 2000, .inl (aI T))), ((ad 6), .inl (g.2.1 0, 2000, .inl (aI BE))), ((ad 7), .inl (g.2.1 0, 2000, .inl (aI EN)))]) 0 20 d_Mo_next_343 ci_Mo fi_Mo_97 rfl (by decide) rfl rfl (rfl) (rfl) (by simp) rfl ?_
        refine r_aload_n C 0 d_Mo_next_346 rfl rfl ?_
        refine r_get C 0 21 d_Mo_next_347 ci_Mo fi_Mo_100 rfl (by decide) rfl rfl ?_
        refine r_iconst C (nI 2) d_Mo_next_350 (by decide) ?_
        refine r_ncmp_ne C 376 d_Mo_next_351 (by decide) (by omega) (by omega) (fun c_351 => ?_) (fun c_351 => ?_)
        rotate_left
        · exact absurd c_351 (by decide)
        refine r_iload_n C 2 d_Mo_next_376 rfl rfl ?_
        refine r_bif_eq C 412 d_Mo_next_377 (by decide) (fun c_377 => ?_) (fun c_377 => ?_)
        · skip
          refine r_aload_n C 0 d_Mo_next_412 rfl rfl ?_
          refine r_get C 0 21 d_Mo_next_413 ci_Mo fi_Mo_100 rfl (by decide) rfl rfl ?_
          refine r_nif_eq C 426 d_Mo_next_416 (by decide) (by omega) (fun c_416 => ?_) (fun c_416 => ?_)
          · exact absurd c_416 (by decide)
          refine r_aload_n C 0 d_Mo_next_419 rfl rfl ?_
          refine r_get C 0 24 d_Mo_next_420 ci_Mo fi_Mo_94 rfl (by decide) rfl rfl ?_
          refine r_if_lt C 427 d_Mo_next_423 (by decide) (fun c_423 => ?_) (fun c_423 => ?_)
          · skip
            refine r_aload_n C 0 d_Mo_next_427 rfl rfl ?_
            refine r_get C 0 6 d_Mo_next_428 ci_Mo fi_Mo_16 rfl (by decide) rfl rfl ?_
            refine r_aload_n C 0 d_Mo_next_431 rfl rfl ?_
            refine r_get C 0 5 d_Mo_next_432 ci_Mo fi_Mo_126 rfl (by decide) rfl rfl ?_
            refine r_aload_n C 0 d_Mo_next_435 rfl rfl ?_
            refine r_get C 0 22 d_Mo_next_436 ci_Mo fi_Mo_106 rfl (by decide) rfl rfl ?_
            refine r_nast C (ws' := [(m0, .inr (9, MO ad qth (nI k) (bI qir) (nI tn) qde qru (nI a) (nI a) (nI 3) (nI s) (nI 0) (oI w2) qop (bI qiu) qwi qhe qrw qma)), ((ad 2), .inl (g.2.1 0, 2000, .inl (aI T))), ((ad 6), .inl (g.2.1 0, 2000, .inl (aI (up BE tn s)))), ((ad 7), .inl (g.2.1 0, 2000, .inl (aI EN)))]) 2 0 d_Mo_next_439 rfl rfl (by omega) (by decide) rfl ?_
            refine r_aload_n C 0 d_Mo_next_440 rfl rfl ?_
            refine r_get C 0 7 d_Mo_next_441 ci_Mo fi_Mo_19 rfl (by decide) rfl rfl ?_
            refine r_aload_n C 0 d_Mo_next_444 rfl rfl ?_
            refine r_get C 0 5 d_Mo_next_445 ci_Mo fi_Mo_126 rfl (by decide) rfl rfl ?_
            refine r_aload_n C 0 d_Mo_next_448 rfl rfl ?_
            refine r_get C 0 20 d_Mo_next_449 ci_Mo fi_Mo_97 rfl (by decide) rfl rfl ?_
            refine r_nast C (ws' := [(m0, .inr (9, MO ad qth (nI k) (bI qir) (nI tn) qde qru (nI a) (nI a) (nI 3) (nI s) (nI 0) (oI w2) qop (bI qiu) qwi qhe qrw qma)), ((ad 2), .inl (g.2.1 0, 2000, .inl (aI T))), ((ad 6), .inl (g.2.1 0, 2000, .inl (aI (up BE tn s)))), ((ad 7), .inl (g.2.1 0, 2000, .inl (aI (up EN tn a))))]) 3 0 d_Mo_next_452 rfl rfl (by omega) (by decide) rfl ?_
            refine r_aload_n C 0 d_Mo_next_453 rfl rfl ?_
            refine r_dup C d_Mo_next_454 rfl ?_
            refine r_get C 0 5 d_Mo_next_455 ci_Mo fi_Mo_126 rfl (by decide) rfl rfl ?_
            refine r_iconst C (nI 1) d_Mo_next_458 (by decide) ?_
            refine r_nadd C d_Mo_next_459 ?_
            refine r_put C (ws' := [(m0, .inr (9, MO ad qth (nI k) (bI qir) (nI (tn + 1)) qde qru (nI a) (nI a) (nI 3) (nI s) (nI 0) (oI w2) qop (bI qiu) qwi qhe qrw qma)), ((ad 2), .inl (g.2.1 0, 2000, .inl (aI T))), ((ad 6), .inl (g.2.1 0, 2000, .inl (aI (up BE tn s)))), ((ad 7), .inl (g.2.1 0, 2000, .inl (aI (up EN tn a))))]) 0 5 d_Mo_next_460 ci_Mo fi_Mo_126 rfl (by decide) rfl rfl (rfl) (rfl) (by simp) rfl ?_
            refine r_vret C E d_Mo_next_463 (by first | decide | omega | (simp only [rmk]; omega)) (by first | decide | omega | (simp only [rmk]; omega)) ?_
            exact ⟨(if isSgn (T s) = true then 3 else 4, s, a, some (T s), none), 3, _, _, _, _, rfl, rfl, nx3 hs he b1 b2 b3 b4 b5, Or.inl ⟨by decide, oI_non (by first | exact hw2 | exact orb hw2 (by omega) | exact orb (orb hw2 (by omega)) (by omega)) c_423, rfl, rfl, rfl⟩⟩
          · skip
            refine r_vret C E d_Mo_next_426 (by first | decide | omega | (simp only [rmk]; omega)) (by first | decide | omega | (simp only [rmk]; omega)) ?_
            exact ⟨(if isSgn (T s) = true then 3 else 4, s, a, some (T s), none), 3, _, _, _, _, rfl, rfl, nx3 hs he b1 b2 b3 b4 b5, Or.inr ⟨Or.inr (oI_som c_423), rfl, rfl, rfl⟩⟩
        · skip
          refine r_aload_n C 0 d_Mo_next_380 rfl rfl ?_
          refine r_get C 0 22 d_Mo_next_381 ci_Mo fi_Mo_106 rfl (by decide) rfl rfl ?_
          refine r_iload_n C 1 d_Mo_next_384 rfl rfl ?_
          refine r_icmp_ne C 412 d_Mo_next_385 (by decide) (fun c_385 => ?_) (fun c_385 => ?_)
          · skip
            refine r_aload_n C 0 d_Mo_next_412 rfl rfl ?_
            refine r_get C 0 21 d_Mo_next_413 ci_Mo fi_Mo_100 rfl (by decide) rfl rfl ?_
            refine r_nif_eq C 426 d_Mo_next_416 (by decide) (by omega) (fun c_416 => ?_) (fun c_416 => ?_)
            · exact absurd c_416 (by decide)
            refine r_aload_n C 0 d_Mo_next_419 rfl rfl ?_
            refine r_get C 0 24 d_Mo_next_420 ci_Mo fi_Mo_94 rfl (by decide) rfl rfl ?_
            refine r_if_lt C 427 d_Mo_next_423 (by decide) (fun c_423 => ?_) (fun c_423 => ?_)
            · skip
              refine r_aload_n C 0 d_Mo_next_427 rfl rfl ?_
              refine r_get C 0 6 d_Mo_next_428 ci_Mo fi_Mo_16 rfl (by decide) rfl rfl ?_
              refine r_aload_n C 0 d_Mo_next_431 rfl rfl ?_
              refine r_get C 0 5 d_Mo_next_432 ci_Mo fi_Mo_126 rfl (by decide) rfl rfl ?_
              refine r_aload_n C 0 d_Mo_next_435 rfl rfl ?_
              refine r_get C 0 22 d_Mo_next_436 ci_Mo fi_Mo_106 rfl (by decide) rfl rfl ?_
              refine r_nast C (ws' := [(m0, .inr (9, MO ad qth (nI k) (bI qir) (nI tn) qde qru (nI a) (nI a) (nI 3) (nI s) (nI 0) (oI w2) qop (bI qiu) qwi qhe qrw qma)), ((ad 2), .inl (g.2.1 0, 2000, .inl (aI T))), ((ad 6), .inl (g.2.1 0, 2000, .inl (aI (up BE tn s)))), ((ad 7), .inl (g.2.1 0, 2000, .inl (aI EN)))]) 2 0 d_Mo_next_439 rfl rfl (by omega) (by decide) rfl ?_
              refine r_aload_n C 0 d_Mo_next_440 rfl rfl ?_
              refine r_get C 0 7 d_Mo_next_441 ci_Mo fi_Mo_19 rfl (by decide) rfl rfl ?_
              refine r_aload_n C 0 d_Mo_next_444 rfl rfl ?_
              refine r_get C 0 5 d_Mo_next_445 ci_Mo fi_Mo_126 rfl (by decide) rfl rfl ?_
              refine r_aload_n C 0 d_Mo_next_448 rfl rfl ?_
              refine r_get C 0 20 d_Mo_next_449 ci_Mo fi_Mo_97 rfl (by decide) rfl rfl ?_
              refine r_nast C (ws' := [(m0, .inr (9, MO ad qth (nI k) (bI qir) (nI tn) qde qru (nI a) (nI a) (nI 3) (nI s) (nI 0) (oI w2) qop (bI qiu) qwi qhe qrw qma)), ((ad 2), .inl (g.2.1 0, 2000, .inl (aI T))), ((ad 6), .inl (g.2.1 0, 2000, .inl (aI (up BE tn s)))), ((ad 7), .inl (g.2.1 0, 2000, .inl (aI (up EN tn a))))]) 3 0 d_Mo_next_452 rfl rfl (by omega) (by decide) rfl ?_
              refine r_aload_n C 0 d_Mo_next_453 rfl rfl ?_
              refine r_dup C d_Mo_next_454 rfl ?_
              refine r_get C 0 5 d_Mo_next_455 ci_Mo fi_Mo_126 rfl (by decide) rfl rfl ?_
              refine r_iconst C (nI 1) d_Mo_next_458 (by decide) ?_
              refine r_nadd C d_Mo_next_459 ?_
              refine r_put C (ws' := [(m0, .inr (9, MO ad qth (nI k) (bI qir) (nI (tn + 1)) qde qru (nI a) (nI a) (nI 3) (nI s) (nI 0) (oI w2) qop (bI qiu) qwi qhe qrw qma)), ((ad 2), .inl (g.2.1 0, 2000, .inl (aI T))), ((ad 6), .inl (g.2.1 0, 2000, .inl (aI (up BE tn s)))), ((ad 7), .inl (g.2.1 0, 2000, .inl (aI (up EN tn a))))]) 0 5 d_Mo_next_460 ci_Mo fi_Mo_126 rfl (by decide) rfl rfl (rfl) (rfl) (by simp) rfl ?_
              refine r_vret C E d_Mo_next_463 (by first | decide | omega | (simp only [rmk]; omega)) (by first | decide | omega | (simp only [rmk]; omega)) ?_
              exact ⟨(if isSgn (T s) = true then 3 else 4, s, a, some (T s), none), 3, _, _, _, _, rfl, rfl, nx3 hs he b1 b2 b3 b4 b5, Or.inl ⟨by decide, oI_non (by first | exact hw2 | exact orb hw2 (by omega) | exact orb (orb hw2 (by omega)) (by omega)) c_423, rfl, rfl, rfl⟩⟩
            · skip
              refine r_vret C E d_Mo_next_426 (by first | decide | omega | (simp only [rmk]; omega)) (by first | decide | omega | (simp only [rmk]; omega)) ?_
              exact ⟨(if isSgn (T s) = true then 3 else 4, s, a, some (T s), none), 3, _, _, _, _, rfl, rfl, nx3 hs he b1 b2 b3 b4 b5, Or.inr ⟨Or.inr (oI_som c_423), rfl, rfl, rfl⟩⟩
          · skip
            refine r_aload_n C 0 d_Mo_next_388 rfl rfl ?_
            refine r_get C 0 21 d_Mo_next_389 ci_Mo fi_Mo_100 rfl (by decide) rfl rfl ?_
            refine r_iconst C (nI 1) d_Mo_next_392 (by decide) ?_
            refine r_ncmp_eq C 404 d_Mo_next_393 (by decide) (by omega) (by omega) (fun c_393 => ?_) (fun c_393 => ?_)
            · exact absurd c_393 (by decide)
            refine r_aload_n C 0 d_Mo_next_396 rfl rfl ?_
            refine r_get C 0 21 d_Mo_next_397 ci_Mo fi_Mo_100 rfl (by decide) rfl rfl ?_
            refine r_iconst C (nI 2) d_Mo_next_400 (by decide) ?_
            refine r_ncmp_ne C 412 d_Mo_next_401 (by decide) (by omega) (by omega) (fun c_401 => ?_) (fun c_401 => ?_)
            rotate_left
            · exact absurd c_401 (by decide)
            refine r_aload_n C 0 d_Mo_next_412 rfl rfl ?_
            refine r_get C 0 21 d_Mo_next_413 ci_Mo fi_Mo_100 rfl (by decide) rfl rfl ?_
            refine r_nif_eq C 426 d_Mo_next_416 (by decide) (by omega) (fun c_416 => ?_) (fun c_416 => ?_)
            · exact absurd c_416 (by decide)
            refine r_aload_n C 0 d_Mo_next_419 rfl rfl ?_
            refine r_get C 0 24 d_Mo_next_420 ci_Mo fi_Mo_94 rfl (by decide) rfl rfl ?_
            refine r_if_lt C 427 d_Mo_next_423 (by decide) (fun c_423 => ?_) (fun c_423 => ?_)
            · skip
              refine r_aload_n C 0 d_Mo_next_427 rfl rfl ?_
              refine r_get C 0 6 d_Mo_next_428 ci_Mo fi_Mo_16 rfl (by decide) rfl rfl ?_
              refine r_aload_n C 0 d_Mo_next_431 rfl rfl ?_
              refine r_get C 0 5 d_Mo_next_432 ci_Mo fi_Mo_126 rfl (by decide) rfl rfl ?_
              refine r_aload_n C 0 d_Mo_next_435 rfl rfl ?_
              refine r_get C 0 22 d_Mo_next_436 ci_Mo fi_Mo_106 rfl (by decide) rfl rfl ?_
              refine r_nast C (ws' := [(m0, .inr (9, MO ad qth (nI k) (bI qir) (nI tn) qde qru (nI a) (nI a) (nI 3) (nI s) (nI 0) (oI w2) qop (bI qiu) qwi qhe qrw qma)), ((ad 2), .inl (g.2.1 0, 2000, .inl (aI T))), ((ad 6), .inl (g.2.1 0, 2000, .inl (aI (up BE tn s)))), ((ad 7), .inl (g.2.1 0, 2000, .inl (aI EN)))]) 2 0 d_Mo_next_439 rfl rfl (by omega) (by decide) rfl ?_
              refine r_aload_n C 0 d_Mo_next_440 rfl rfl ?_
              refine r_get C 0 7 d_Mo_next_441 ci_Mo fi_Mo_19 rfl (by decide) rfl rfl ?_
              refine r_aload_n C 0 d_Mo_next_444 rfl rfl ?_
              refine r_get C 0 5 d_Mo_next_445 ci_Mo fi_Mo_126 rfl (by decide) rfl rfl ?_
              refine r_aload_n C 0 d_Mo_next_448 rfl rfl ?_
              refine r_get C 0 20 d_Mo_next_449 ci_Mo fi_Mo_97 rfl (by decide) rfl rfl ?_
              refine r_nast C (ws' := [(m0, .inr (9, MO ad qth (nI k) (bI qir) (nI tn) qde qru (nI a) (nI a) (nI 3) (nI s) (nI 0) (oI w2) qop (bI qiu) qwi qhe qrw qma)), ((ad 2), .inl (g.2.1 0, 2000, .inl (aI T))), ((ad 6), .inl (g.2.1 0, 2000, .inl (aI (up BE tn s)))), ((ad 7), .inl (g.2.1 0, 2000, .inl (aI (up EN tn a))))]) 3 0 d_Mo_next_452 rfl rfl (by omega) (by decide) rfl ?_
              refine r_aload_n C 0 d_Mo_next_453 rfl rfl ?_
              refine r_dup C d_Mo_next_454 rfl ?_
              refine r_get C 0 5 d_Mo_next_455 ci_Mo fi_Mo_126 rfl (by decide) rfl rfl ?_
              refine r_iconst C (nI 1) d_Mo_next_458 (by decide) ?_
              refine r_nadd C d_Mo_next_459 ?_
              refine r_put C (ws' := [(m0, .inr (9, MO ad qth (nI k) (bI qir) (nI (tn + 1)) qde qru (nI a) (nI a) (nI 3) (nI s) (nI 0) (oI w2) qop (bI qiu) qwi qhe qrw qma)), ((ad 2), .inl (g.2.1 0, 2000, .inl (aI T))), ((ad 6), .inl (g.2.1 0, 2000, .inl (aI (up BE tn s)))), ((ad 7), .inl (g.2.1 0, 2000, .inl (aI (up EN tn a))))]) 0 5 d_Mo_next_460 ci_Mo fi_Mo_126 rfl (by decide) rfl rfl (rfl) (rfl) (by simp) rfl ?_
              refine r_vret C E d_Mo_next_463 (by first | decide | omega | (simp only [rmk]; omega)) (by first | decide | omega | (simp only [rmk]; omega)) ?_
              exact ⟨(if isSgn (T s) = true then 3 else 4, s, a, some (T s), none), 3, _, _, _, _, rfl, rfl, nx3 hs he b1 b2 b3 b4 b5, Or.inl ⟨by decide, oI_non (by first | exact hw2 | exact orb hw2 (by omega) | exact orb (orb hw2 (by omega)) (by omega)) c_423, rfl, rfl, rfl⟩⟩
            · skip
              refine r_vret C E d_Mo_next_426 (by first | decide | omega | (simp only [rmk]; omega)) (by first | decide | omega | (simp only [rmk]; omega)) ?_
              exact ⟨(if isSgn (T s) = true then 3 else 4, s, a, some (T s), none), 3, _, _, _, _, rfl, rfl, nx3 hs he b1 b2 b3 b4 b5, Or.inr ⟨Or.inr (oI_som c_423), rfl, rfl, rfl⟩⟩
    · skip
      refine r_aload_n C 0 d_Mo_next_254 rfl rfl ?_
      refine r_get C 0 19 d_Mo_next_255 ci_Mo fi_Mo_103 rfl (by decide) rfl rfl ?_
      refine r_aload_n C 0 d_Mo_next_258 rfl rfl ?_
      refine r_get C 0 1 d_Mo_next_259 ci_Mo fi_Mo_91 rfl (by decide) rfl rfl ?_
      refine r_ncmp_ge C 338 d_Mo_next_262 (by decide) (by omega) (by omega) (fun c_262 => ?_) (fun c_262 => ?_)
      · skip
        have hE : t = 2 → ¬ (a < k ∧ isDig (T a) = true) := fun _ q => by omega
        rcases hB with ⟨rfl, b1, b2, rfl, b3⟩ | ⟨rfl, b1, b2, b3, rfl, b4⟩ | ⟨rfl, b1, b2, b3, b4, b5, b6⟩ | ⟨rfl, b1, b2, b3, b4, rfl, b5⟩
        · skip
          refine r_aload_n C 0 d_Mo_next_338 rfl rfl ?_
          refine r_aload_n C 0 d_Mo_next_339 rfl rfl ?_
          refine r_get C 0 19 d_Mo_next_340 ci_Mo fi_Mo_103 rfl (by decide) rfl rfl ?_
          refine r_put C (ws' := [(m0, .inr (9, MO ad qth (nI k) (bI qir) (nI tn) qde qru (nI a) (nI a) (nI 0) (nI s) (nI 0) (oI w2) qop (bI qiu) qwi qhe qrw qma)), ((ad 2), .inl (g.2.1 0, 2000, .inl (aI T))), ((ad 6), .inl (g.2.1 0, 2000, .inl (aI BE))), ((ad 7), .inl (g.2.1 0, 2000, .inl (aI EN)))]) 0 20 d_Mo_next_343 ci_Mo fi_Mo_97 rfl (by decide) rfl rfl (rfl) (rfl) (by simp) rfl ?_
          refine r_aload_n C 0 d_Mo_next_346 rfl rfl ?_
          refine r_get C 0 21 d_Mo_next_347 ci_Mo fi_Mo_100 rfl (by decide) rfl rfl ?_
          refine r_iconst C (nI 2) d_Mo_next_350 (by decide) ?_
          refine r_ncmp_ne C 376 d_Mo_next_351 (by decide) (by omega) (by omega) (fun c_351 => ?_) (fun c_351 => ?_)
          rotate_left
          · exact absurd c_351 (by decide)
          refine r_iload_n C 2 d_Mo_next_376 rfl rfl ?_
          refine r_bif_eq C 412 d_Mo_next_377 (by decide) (fun c_377 => ?_) (fun c_377 => ?_)
          · skip
            refine r_aload_n C 0 d_Mo_next_412 rfl rfl ?_
            refine r_get C 0 21 d_Mo_next_413 ci_Mo fi_Mo_100 rfl (by decide) rfl rfl ?_
            refine r_nif_eq C 426 d_Mo_next_416 (by decide) (by omega) (fun c_416 => ?_) (fun c_416 => ?_)
            rotate_left
            · exact absurd c_416 (by decide)
            refine r_vret C E d_Mo_next_426 (by first | decide | omega | (simp only [rmk]; omega)) (by first | decide | omega | (simp only [rmk]; omega)) ?_
            exact ⟨(0, s, a, none, none), 0, _, _, _, _, rfl, rfl, nx0 hs he b1 b2 b3, Or.inr ⟨Or.inl rfl, rfl, rfl, rfl⟩⟩
          · skip
            refine r_aload_n C 0 d_Mo_next_380 rfl rfl ?_
            refine r_get C 0 22 d_Mo_next_381 ci_Mo fi_Mo_106 rfl (by decide) rfl rfl ?_
            refine r_iload_n C 1 d_Mo_next_384 rfl rfl ?_
            refine r_icmp_ne C 412 d_Mo_next_385 (by decide) (fun c_385 => ?_) (fun c_385 => ?_)
            · skip
              refine r_aload_n C 0 d_Mo_next_412 rfl rfl ?_
              refine r_get C 0 21 d_Mo_next_413 ci_Mo fi_Mo_100 rfl (by decide) rfl rfl ?_
              refine r_nif_eq C 426 d_Mo_next_416 (by decide) (by omega) (fun c_416 => ?_) (fun c_416 => ?_)
              rotate_left
              · exact absurd c_416 (by decide)
              refine r_vret C E d_Mo_next_426 (by first | decide | omega | (simp only [rmk]; omega)) (by first | decide | omega | (simp only [rmk]; omega)) ?_
              exact ⟨(0, s, a, none, none), 0, _, _, _, _, rfl, rfl, nx0 hs he b1 b2 b3, Or.inr ⟨Or.inl rfl, rfl, rfl, rfl⟩⟩
            · skip
              refine r_aload_n C 0 d_Mo_next_388 rfl rfl ?_
              refine r_get C 0 21 d_Mo_next_389 ci_Mo fi_Mo_100 rfl (by decide) rfl rfl ?_
              refine r_iconst C (nI 1) d_Mo_next_392 (by decide) ?_
              refine r_ncmp_eq C 404 d_Mo_next_393 (by decide) (by omega) (by omega) (fun c_393 => ?_) (fun c_393 => ?_)
              · exact absurd c_393 (by decide)
              refine r_aload_n C 0 d_Mo_next_396 rfl rfl ?_
              refine r_get C 0 21 d_Mo_next_397 ci_Mo fi_Mo_100 rfl (by decide) rfl rfl ?_
              refine r_iconst C (nI 2) d_Mo_next_400 (by decide) ?_
              refine r_ncmp_ne C 412 d_Mo_next_401 (by decide) (by omega) (by omega) (fun c_401 => ?_) (fun c_401 => ?_)
              rotate_left
              · exact absurd c_401 (by decide)
              refine r_aload_n C 0 d_Mo_next_412 rfl rfl ?_
              refine r_get C 0 21 d_Mo_next_413 ci_Mo fi_Mo_100 rfl (by decide) rfl rfl ?_
              refine r_nif_eq C 426 d_Mo_next_416 (by decide) (by omega) (fun c_416 => ?_) (fun c_416 => ?_)
              rotate_left
              · exact absurd c_416 (by decide)
              refine r_vret C E d_Mo_next_426 (by first | decide | omega | (simp only [rmk]; omega)) (by first | decide | omega | (simp only [rmk]; omega)) ?_
              exact ⟨(0, s, a, none, none), 0, _, _, _, _, rfl, rfl, nx0 hs he b1 b2 b3, Or.inr ⟨Or.inl rfl, rfl, rfl, rfl⟩⟩
        · skip
          refine r_aload_n C 0 d_Mo_next_338 rfl rfl ?_
          refine r_aload_n C 0 d_Mo_next_339 rfl rfl ?_
          refine r_get C 0 19 d_Mo_next_340 ci_Mo fi_Mo_103 rfl (by decide) rfl rfl ?_
          refine r_put C (ws' := [(m0, .inr (9, MO ad qth (nI k) (bI qir) (nI tn) qde qru (nI a) (nI a) (nI 1) (nI s) (nI 0) (oI w2) qop (bI qiu) qwi qhe qrw qma)), ((ad 2), .inl (g.2.1 0, 2000, .inl (aI T))), ((ad 6), .inl (g.2.1 0, 2000, .inl (aI BE))), ((ad 7), .inl (g.2.1 0, 2000, .inl (aI EN)))]) 0 20 d_Mo_next_343 ci_Mo fi_Mo_97 rfl (by decide) rfl rfl (rfl) (rfl) (by simp) rfl ?_
          refine r_aload_n C 0 d_Mo_next_346 rfl rfl ?_
          refine r_get C 0 21 d_Mo_next_347 ci_Mo fi_Mo_100 rfl (by decide) rfl rfl ?_
          refine r_iconst C (nI 2) d_Mo_next_350 (by decide) ?_
          refine r_ncmp_ne C 376 d_Mo_next_351 (by decide) (by omega) (by omega) (fun c_351 => ?_) (fun c_351 => ?_)
          rotate_left
          · exact absurd c_351 (by decide)
          refine r_iload_n C 2 d_Mo_next_376 rfl rfl ?_
          refine r_bif_eq C 412 d_Mo_next_377 (by decide) (fun c_377 => ?_) (fun c_377 => ?_)
          · skip
            refine r_aload_n C 0 d_Mo_next_412 rfl rfl ?_
            refine r_get C 0 21 d_Mo_next_413 ci_Mo fi_Mo_100 rfl (by decide) rfl rfl ?_
            refine r_nif_eq C 426 d_Mo_next_416 (by decide) (by omega) (fun c_416 => ?_) (fun c_416 => ?_)
            · exact absurd c_416 (by decide)
            refine r_aload_n C 0 d_Mo_next_419 rfl rfl ?_
            refine r_get C 0 24 d_Mo_next_420 ci_Mo fi_Mo_94 rfl (by decide) rfl rfl ?_
            refine r_if_lt C 427 d_Mo_next_423 (by decide) (fun c_423 => ?_) (fun c_423 => ?_)
            · skip
              refine r_aload_n C 0 d_Mo_next_427 rfl rfl ?_
              refine r_get C 0 6 d_Mo_next_428 ci_Mo fi_Mo_16 rfl (by decide) rfl rfl ?_
              refine r_aload_n C 0 d_Mo_next_431 rfl rfl ?_
              refine r_get C 0 5 d_Mo_next_432 ci_Mo fi_Mo_126 rfl (by decide) rfl rfl ?_
              refine r_aload_n C 0 d_Mo_next_435 rfl rfl ?_
              refine r_get C 0 22 d_Mo_next_436 ci_Mo fi_Mo_106 rfl (by decide) rfl rfl ?_
              refine r_nast C (ws' := [(m0, .inr (9, MO ad qth (nI k) (bI qir) (nI tn) qde qru (nI a) (nI a) (nI 1) (nI s) (nI 0) (oI w2) qop (bI qiu) qwi qhe qrw qma)), ((ad 2), .inl (g.2.1 0, 2000, .inl (aI T))), ((ad 6), .inl (g.2.1 0, 2000, .inl (aI (up BE tn s)))), ((ad 7), .inl (g.2.1 0, 2000, .inl (aI EN)))]) 2 0 d_Mo_next_439 rfl rfl (by omega) (by decide) rfl ?_
              refine r_aload_n C 0 d_Mo_next_440 rfl rfl ?_
              refine r_get C 0 7 d_Mo_next_441 ci_Mo fi_Mo_19 rfl (by decide) rfl rfl ?_
              refine r_aload_n C 0 d_Mo_next_444 rfl rfl ?_
              refine r_get C 0 5 d_Mo_next_445 ci_Mo fi_Mo_126 rfl (by decide) rfl rfl ?_
              refine r_aload_n C 0 d_Mo_next_448 rfl rfl ?_
              refine r_get C 0 20 d_Mo_next_449 ci_Mo fi_Mo_97 rfl (by decide) rfl rfl ?_
              refine r_nast C (ws' := [(m0, .inr (9, MO ad qth (nI k) (bI qir) (nI tn) qde qru (nI a) (nI a) (nI 1) (nI s) (nI 0) (oI w2) qop (bI qiu) qwi qhe qrw qma)), ((ad 2), .inl (g.2.1 0, 2000, .inl (aI T))), ((ad 6), .inl (g.2.1 0, 2000, .inl (aI (up BE tn s)))), ((ad 7), .inl (g.2.1 0, 2000, .inl (aI (up EN tn a))))]) 3 0 d_Mo_next_452 rfl rfl (by omega) (by decide) rfl ?_
              refine r_aload_n C 0 d_Mo_next_453 rfl rfl ?_
              refine r_dup C d_Mo_next_454 rfl ?_
              refine r_get C 0 5 d_Mo_next_455 ci_Mo fi_Mo_126 rfl (by decide) rfl rfl ?_
              refine r_iconst C (nI 1) d_Mo_next_458 (by decide) ?_
              refine r_nadd C d_Mo_next_459 ?_
              refine r_put C (ws' := [(m0, .inr (9, MO ad qth (nI k) (bI qir) (nI (tn + 1)) qde qru (nI a) (nI a) (nI 1) (nI s) (nI 0) (oI w2) qop (bI qiu) qwi qhe qrw qma)), ((ad 2), .inl (g.2.1 0, 2000, .inl (aI T))), ((ad 6), .inl (g.2.1 0, 2000, .inl (aI (up BE tn s)))), ((ad 7), .inl (g.2.1 0, 2000, .inl (aI (up EN tn a))))]) 0 5 d_Mo_next_460 ci_Mo fi_Mo_126 rfl (by decide) rfl rfl (rfl) (rfl) (by simp) rfl ?_
              refine r_vret C E d_Mo_next_463 (by first | decide | omega | (simp only [rmk]; omega)) (by first | decide | omega | (simp only [rmk]; omega)) ?_
              exact ⟨(1, s, a, none, wordAt T s a), 1, _, _, _, _, rfl, rfl, nx1 hs he b1 b2 b3 b4 (fun q => by have := hjo.symm.trans c_377; exact of_decide_eq_false this (Or.inr q.2)), Or.inl ⟨by decide, oI_non (by first | exact hw2 | exact orb hw2 (by omega) | exact orb (orb hw2 (by omega)) (by omega)) c_423, rfl, rfl, rfl⟩⟩
            · skip
              refine r_vret C E d_Mo_next_426 (by first | decide | omega | (simp only [rmk]; omega)) (by first | decide | omega | (simp only [rmk]; omega)) ?_
              exact ⟨(1, s, a, none, wordAt T s a), 1, _, _, _, _, rfl, rfl, nx1 hs he b1 b2 b3 b4 (fun q => by have := hjo.symm.trans c_377; exact of_decide_eq_false this (Or.inr q.2)), Or.inr ⟨Or.inr (oI_som c_423), rfl, rfl, rfl⟩⟩
          · skip
            refine r_aload_n C 0 d_Mo_next_380 rfl rfl ?_
            refine r_get C 0 22 d_Mo_next_381 ci_Mo fi_Mo_106 rfl (by decide) rfl rfl ?_
            refine r_iload_n C 1 d_Mo_next_384 rfl rfl ?_
            refine r_icmp_ne C 412 d_Mo_next_385 (by decide) (fun c_385 => ?_) (fun c_385 => ?_)
            · skip
              refine r_aload_n C 0 d_Mo_next_412 rfl rfl ?_
              refine r_get C 0 21 d_Mo_next_413 ci_Mo fi_Mo_100 rfl (by decide) rfl rfl ?_
              refine r_nif_eq C 426 d_Mo_next_416 (by decide) (by omega) (fun c_416 => ?_) (fun c_416 => ?_)
              · exact absurd c_416 (by decide)
              refine r_aload_n C 0 d_Mo_next_419 rfl rfl ?_
              refine r_get C 0 24 d_Mo_next_420 ci_Mo fi_Mo_94 rfl (by decide) rfl rfl ?_
              refine r_if_lt C 427 d_Mo_next_423 (by decide) (fun c_423 => ?_) (fun c_423 => ?_)
              · skip
                refine r_aload_n C 0 d_Mo_next_427 rfl rfl ?_
                refine r_get C 0 6 d_Mo_next_428 ci_Mo fi_Mo_16 rfl (by decide) rfl rfl ?_
                refine r_aload_n C 0 d_Mo_next_431 rfl rfl ?_
                refine r_get C 0 5 d_Mo_next_432 ci_Mo fi_Mo_126 rfl (by decide) rfl rfl ?_
                refine r_aload_n C 0 d_Mo_next_435 rfl rfl ?_
                refine r_get C 0 22 d_Mo_next_436 ci_Mo fi_Mo_106 rfl (by decide) rfl rfl ?_
                refine r_nast C (ws' := [(m0, .inr (9, MO ad qth (nI k) (bI qir) (nI tn) qde qru (nI a) (nI a) (nI 1) (nI s) (nI 0) (oI w2) qop (bI qiu) qwi qhe qrw qma)), ((ad 2), .inl (g.2.1 0, 2000, .inl (aI T))), ((ad 6), .inl (g.2.1 0, 2000, .inl (aI (up BE tn s)))), ((ad 7), .inl (g.2.1 0, 2000, .inl (aI EN)))]) 2 0 d_Mo_next_439 rfl rfl (by omega) (by decide) rfl ?_
                refine r_aload_n C 0 d_Mo_next_440 rfl rfl ?_
                refine r_get C 0 7 d_Mo_next_441 ci_Mo fi_Mo_19 rfl (by decide) rfl rfl ?_
                refine r_aload_n C 0 d_Mo_next_444 rfl rfl ?_
                refine r_get C 0 5 d_Mo_next_445 ci_Mo fi_Mo_126 rfl (by decide) rfl rfl ?_
                refine r_aload_n C 0 d_Mo_next_448 rfl rfl ?_
                refine r_get C 0 20 d_Mo_next_449 ci_Mo fi_Mo_97 rfl (by decide) rfl rfl ?_
                refine r_nast C (ws' := [(m0, .inr (9, MO ad qth (nI k) (bI qir) (nI tn) qde qru (nI a) (nI a) (nI 1) (nI s) (nI 0) (oI w2) qop (bI qiu) qwi qhe qrw qma)), ((ad 2), .inl (g.2.1 0, 2000, .inl (aI T))), ((ad 6), .inl (g.2.1 0, 2000, .inl (aI (up BE tn s)))), ((ad 7), .inl (g.2.1 0, 2000, .inl (aI (up EN tn a))))]) 3 0 d_Mo_next_452 rfl rfl (by omega) (by decide) rfl ?_
                refine r_aload_n C 0 d_Mo_next_453 rfl rfl ?_
                refine r_dup C d_Mo_next_454 rfl ?_
                refine r_get C 0 5 d_Mo_next_455 ci_Mo fi_Mo_126 rfl (by decide) rfl rfl ?_
                refine r_iconst C (nI 1) d_Mo_next_458 (by decide) ?_
                refine r_nadd C d_Mo_next_459 ?_
                refine r_put C (ws' := [(m0, .inr (9, MO ad qth (nI k) (bI qir) (nI (tn + 1)) qde qru (nI a) (nI a) (nI 1) (nI s) (nI 0) (oI w2) qop (bI qiu) qwi qhe qrw qma)), ((ad 2), .inl (g.2.1 0, 2000, .inl (aI T))), ((ad 6), .inl (g.2.1 0, 2000, .inl (aI (up BE tn s)))), ((ad 7), .inl (g.2.1 0, 2000, .inl (aI (up EN tn a))))]) 0 5 d_Mo_next_460 ci_Mo fi_Mo_126 rfl (by decide) rfl rfl (rfl) (rfl) (by simp) rfl ?_
                refine r_vret C E d_Mo_next_463 (by first | decide | omega | (simp only [rmk]; omega)) (by first | decide | omega | (simp only [rmk]; omega)) ?_
                exact ⟨(1, s, a, none, wordAt T s a), 1, _, _, _, _, rfl, rfl, nx1 hs he b1 b2 b3 b4 (fun q => c_385 (by rw [hq (Or.inr q.2), q.1])), Or.inl ⟨by decide, oI_non (by first | exact hw2 | exact orb hw2 (by omega) | exact orb (orb hw2 (by omega)) (by omega)) c_423, rfl, rfl, rfl⟩⟩
              · skip
                refine r_vret C E d_Mo_next_426 (by first | decide | omega | (simp only [rmk]; omega)) (by first | decide | omega | (simp only [rmk]; omega)) ?_
                exact ⟨(1, s, a, none, wordAt T s a), 1, _, _, _, _, rfl, rfl, nx1 hs he b1 b2 b3 b4 (fun q => c_385 (by rw [hq (Or.inr q.2), q.1])), Or.inr ⟨Or.inr (oI_som c_423), rfl, rfl, rfl⟩⟩
            · skip
              refine r_aload_n C 0 d_Mo_next_388 rfl rfl ?_
              refine r_get C 0 21 d_Mo_next_389 ci_Mo fi_Mo_100 rfl (by decide) rfl rfl ?_
              refine r_iconst C (nI 1) d_Mo_next_392 (by decide) ?_
              refine r_ncmp_eq C 404 d_Mo_next_393 (by decide) (by omega) (by omega) (fun c_393 => ?_) (fun c_393 => ?_)
              rotate_left
              · exact absurd c_393 (by decide)
              refine r_aload_n C 0 d_Mo_next_404 rfl rfl ?_
              refine r_aload_n C 0 d_Mo_next_405 rfl rfl ?_
              refine r_get C 0 22 d_Mo_next_406 ci_Mo fi_Mo_106 rfl (by decide) rfl rfl ?_
              refine j_callV C (c_Mo_refuse g (xl x) (m0 := m0) (ad := ad) (qth := qth) (qsz := nI k) (qtk := nI tn) (qde := qde) (qru := qru) (qat := nI a) (qen := nI a) (qto := nI 1) (qbe := nI s) (qva := nI 0) (qop := qop) (qwi := qwi) (qhe := qhe) (qrw := qrw) (qma := qma) (qir := qir) (qiu := qiu) (wr := w2) (c := s) (by first | assumption | omega | rfl) (by first | exact hw2 | exact hwr | exact orb hw2 (by omega))) (Sp.of (wr := [((ad 2), .inl (g.2.1 0, 2000, .inl (aI T))), ((ad 6), .inl (g.2.1 0, 2000, .inl (aI BE))), ((ad 7), .inl (g.2.1 0, 2000, .inl (aI EN)))]) [0] [1, 2, 3] rfl rfl rfl rfl (by decide)) d_Mo_next_409 lk_Mo_119 mw_Mo_refuse vw_Mo_refuse (q0 := 0) rfl rfl (fit_of hR (by first | decide | (simp only [rmk]; omega)) (by first | decide | (simp only [rmk]; omega)) (by first | decide | (simp only [rmk]; omega)) (by first | decide | (simp only [rmk]; omega))) rfl (cat8 (Nat.le_of_ble_eq_true rfl)) (As := [.int (nI s)]) (rest := []) rfl (fun r_409 w_409 hp_409 => ?_)
              obtain ⟨rfl, rfl⟩ := hp_409
              refine r_after (ws' := [(m0, .inr (9, MO ad qth (nI k) (bI qir) (nI tn) qde qru (nI a) (nI a) (nI 1) (nI s) (nI 0) (oI (w2.orElse fun _ => some s)) qop (bI qiu) qwi qhe qrw qma)), ((ad 2), .inl (g.2.1 0, 2000, .inl (aI T))), ((ad 6), .inl (g.2.1 0, 2000, .inl (aI BE))), ((ad 7), .inl (g.2.1 0, 2000, .inl (aI EN)))]) (st' := []) (n1 := 0) (n2 := 0) [3, 0, 1, 2] rfl rfl rfl rfl rfl ?_
              refine r_aload_n C 0 d_Mo_next_412 rfl rfl ?_
              refine r_get C 0 21 d_Mo_next_413 ci_Mo fi_Mo_100 rfl (by decide) rfl rfl ?_
              refine r_nif_eq C 426 d_Mo_next_416 (by decide) (by omega) (fun c_416 => ?_) (fun c_416 => ?_)
              · exact absurd c_416 (by decide)
              refine r_aload_n C 0 d_Mo_next_419 rfl rfl ?_
              refine r_get C 0 24 d_Mo_next_420 ci_Mo fi_Mo_94 rfl (by decide) rfl rfl ?_
              refine r_if_lt C 427 d_Mo_next_423 (by decide) (fun c_423 => ?_) (fun c_423 => ?_)
              · skip
                refine r_aload_n C 0 d_Mo_next_427 rfl rfl ?_
                refine r_get C 0 6 d_Mo_next_428 ci_Mo fi_Mo_16 rfl (by decide) rfl rfl ?_
                refine r_aload_n C 0 d_Mo_next_431 rfl rfl ?_
                refine r_get C 0 5 d_Mo_next_432 ci_Mo fi_Mo_126 rfl (by decide) rfl rfl ?_
                refine r_aload_n C 0 d_Mo_next_435 rfl rfl ?_
                refine r_get C 0 22 d_Mo_next_436 ci_Mo fi_Mo_106 rfl (by decide) rfl rfl ?_
                refine r_nast C (ws' := [(m0, .inr (9, MO ad qth (nI k) (bI qir) (nI tn) qde qru (nI a) (nI a) (nI 1) (nI s) (nI 0) (oI (w2.orElse fun _ => some s)) qop (bI qiu) qwi qhe qrw qma)), ((ad 2), .inl (g.2.1 0, 2000, .inl (aI T))), ((ad 6), .inl (g.2.1 0, 2000, .inl (aI (up BE tn s)))), ((ad 7), .inl (g.2.1 0, 2000, .inl (aI EN)))]) 2 0 d_Mo_next_439 rfl rfl (by omega) (by decide) rfl ?_
                refine r_aload_n C 0 d_Mo_next_440 rfl rfl ?_
                refine r_get C 0 7 d_Mo_next_441 ci_Mo fi_Mo_19 rfl (by decide) rfl rfl ?_
                refine r_aload_n C 0 d_Mo_next_444 rfl rfl ?_
                refine r_get C 0 5 d_Mo_next_445 ci_Mo fi_Mo_126 rfl (by decide) rfl rfl ?_
                refine r_aload_n C 0 d_Mo_next_448 rfl rfl ?_
                refine r_get C 0 20 d_Mo_next_449 ci_Mo fi_Mo_97 rfl (by decide) rfl rfl ?_
                refine r_nast C (ws' := [(m0, .inr (9, MO ad qth (nI k) (bI qir) (nI tn) qde qru (nI a) (nI a) (nI 1) (nI s) (nI 0) (oI (w2.orElse fun _ => some s)) qop (bI qiu) qwi qhe qrw qma)), ((ad 2), .inl (g.2.1 0, 2000, .inl (aI T))), ((ad 6), .inl (g.2.1 0, 2000, .inl (aI (up BE tn s)))), ((ad 7), .inl (g.2.1 0, 2000, .inl (aI (up EN tn a))))]) 3 0 d_Mo_next_452 rfl rfl (by omega) (by decide) rfl ?_
                refine r_aload_n C 0 d_Mo_next_453 rfl rfl ?_
                refine r_dup C d_Mo_next_454 rfl ?_
                refine r_get C 0 5 d_Mo_next_455 ci_Mo fi_Mo_126 rfl (by decide) rfl rfl ?_
                refine r_iconst C (nI 1) d_Mo_next_458 (by decide) ?_
                refine r_nadd C d_Mo_next_459 ?_
                refine r_put C (ws' := [(m0, .inr (9, MO ad qth (nI k) (bI qir) (nI (tn + 1)) qde qru (nI a) (nI a) (nI 1) (nI s) (nI 0) (oI (w2.orElse fun _ => some s)) qop (bI qiu) qwi qhe qrw qma)), ((ad 2), .inl (g.2.1 0, 2000, .inl (aI T))), ((ad 6), .inl (g.2.1 0, 2000, .inl (aI (up BE tn s)))), ((ad 7), .inl (g.2.1 0, 2000, .inl (aI (up EN tn a))))]) 0 5 d_Mo_next_460 ci_Mo fi_Mo_126 rfl (by decide) rfl rfl (rfl) (rfl) (by simp) rfl ?_
                refine r_vret C E d_Mo_next_463 (by first | decide | omega | (simp only [rmk]; omega)) (by first | decide | omega | (simp only [rmk]; omega)) ?_
                exact ⟨(4, s, a, none, wordAt T s a), 1, _, _, _, _, rfl, rfl, nx1j hs he b1 b2 b3 b4 (by have hj1 := of_decide_eq_true (hjo.symm.trans c_377); rw [hq hj1] at c_385; have hj2 := (nI_eq (by omega) (by omega)).mp c_385; refine ⟨hj2, hj1.resolve_left fun q => hs1 q ⟨by omega, by rw [← hj2]; exact b2⟩⟩), Or.inl ⟨by decide, oI_non (by first | exact hw2 | exact orb hw2 (by omega) | exact orb (orb hw2 (by omega)) (by omega)) c_423, rfl, rfl, rfl⟩⟩
              · skip
                refine r_vret C E d_Mo_next_426 (by first | decide | omega | (simp only [rmk]; omega)) (by first | decide | omega | (simp only [rmk]; omega)) ?_
                exact ⟨(4, s, a, none, wordAt T s a), 1, _, _, _, _, rfl, rfl, nx1j hs he b1 b2 b3 b4 (by have hj1 := of_decide_eq_true (hjo.symm.trans c_377); rw [hq hj1] at c_385; have hj2 := (nI_eq (by omega) (by omega)).mp c_385; refine ⟨hj2, hj1.resolve_left fun q => hs1 q ⟨by omega, by rw [← hj2]; exact b2⟩⟩), Or.inr ⟨Or.inr (oI_som c_423), rfl, rfl, rfl⟩⟩
        · skip
          have ba : a = run isDig T k s := by rw [← b4, run_stop (hE rfl)]
          refine r_aload_n C 0 d_Mo_next_338 rfl rfl ?_
          refine r_aload_n C 0 d_Mo_next_339 rfl rfl ?_
          refine r_get C 0 19 d_Mo_next_340 ci_Mo fi_Mo_103 rfl (by decide) rfl rfl ?_
          refine r_put C (ws' := [(m0, .inr (9, MO ad qth (nI k) (bI qir) (nI tn) qde qru (nI a) (nI a) (nI 2) (nI s) (nI v) (oI w2) qop (bI qiu) qwi qhe qrw qma)), ((ad 2), .inl (g.2.1 0, 2000, .inl (aI T))), ((ad 6), .inl (g.2.1 0, 2000, .inl (aI BE))), ((ad 7), .inl (g.2.1 0, 2000, .inl (aI EN)))]) 0 20 d_Mo_next_343 ci_Mo fi_Mo_97 rfl (by decide) rfl rfl (rfl) (rfl) (by simp) rfl ?_
          refine r_aload_n C 0 d_Mo_next_346 rfl rfl ?_
          refine r_get C 0 21 d_Mo_next_347 ci_Mo fi_Mo_100 rfl (by decide) rfl rfl ?_
          refine r_iconst C (nI 2) d_Mo_next_350 (by decide) ?_
          refine r_ncmp_ne C 376 d_Mo_next_351 (by decide) (by omega) (by omega) (fun c_351 => ?_) (fun c_351 => ?_)
          · exact absurd c_351 (by decide)
          refine r_aload_n C 0 d_Mo_next_354 rfl rfl ?_
          refine r_get C 0 20 d_Mo_next_355 ci_Mo fi_Mo_97 rfl (by decide) rfl rfl ?_
          refine r_aload_n C 0 d_Mo_next_358 rfl rfl ?_
          refine r_get C 0 22 d_Mo_next_359 ci_Mo fi_Mo_106 rfl (by decide) rfl rfl ?_
          refine r_nsub C d_Mo_next_362 (by omega) ?_
          refine r_bipush C (nI 6) d_Mo_next_363 (by decide) ?_
          refine r_ncmp_le C 376 d_Mo_next_365 (by decide) (by omega) (by omega) (fun c_365 => ?_) (fun c_365 => ?_)
          · skip
            refine r_iload_n C 2 d_Mo_next_376 rfl rfl ?_
            refine r_bif_eq C 412 d_Mo_next_377 (by decide) (fun c_377 => ?_) (fun c_377 => ?_)
            · skip
              refine r_aload_n C 0 d_Mo_next_412 rfl rfl ?_
              refine r_get C 0 21 d_Mo_next_413 ci_Mo fi_Mo_100 rfl (by decide) rfl rfl ?_
              refine r_nif_eq C 426 d_Mo_next_416 (by decide) (by omega) (fun c_416 => ?_) (fun c_416 => ?_)
              · exact absurd c_416 (by decide)
              refine r_aload_n C 0 d_Mo_next_419 rfl rfl ?_
              refine r_get C 0 24 d_Mo_next_420 ci_Mo fi_Mo_94 rfl (by decide) rfl rfl ?_
              refine r_if_lt C 427 d_Mo_next_423 (by decide) (fun c_423 => ?_) (fun c_423 => ?_)
              · skip
                refine r_aload_n C 0 d_Mo_next_427 rfl rfl ?_
                refine r_get C 0 6 d_Mo_next_428 ci_Mo fi_Mo_16 rfl (by decide) rfl rfl ?_
                refine r_aload_n C 0 d_Mo_next_431 rfl rfl ?_
                refine r_get C 0 5 d_Mo_next_432 ci_Mo fi_Mo_126 rfl (by decide) rfl rfl ?_
                refine r_aload_n C 0 d_Mo_next_435 rfl rfl ?_
                refine r_get C 0 22 d_Mo_next_436 ci_Mo fi_Mo_106 rfl (by decide) rfl rfl ?_
                refine r_nast C (ws' := [(m0, .inr (9, MO ad qth (nI k) (bI qir) (nI tn) qde qru (nI a) (nI a) (nI 2) (nI s) (nI v) (oI w2) qop (bI qiu) qwi qhe qrw qma)), ((ad 2), .inl (g.2.1 0, 2000, .inl (aI T))), ((ad 6), .inl (g.2.1 0, 2000, .inl (aI (up BE tn s)))), ((ad 7), .inl (g.2.1 0, 2000, .inl (aI EN)))]) 2 0 d_Mo_next_439 rfl rfl (by omega) (by decide) rfl ?_
                refine r_aload_n C 0 d_Mo_next_440 rfl rfl ?_
                refine r_get C 0 7 d_Mo_next_441 ci_Mo fi_Mo_19 rfl (by decide) rfl rfl ?_
                refine r_aload_n C 0 d_Mo_next_444 rfl rfl ?_
                refine r_get C 0 5 d_Mo_next_445 ci_Mo fi_Mo_126 rfl (by decide) rfl rfl ?_
                refine r_aload_n C 0 d_Mo_next_448 rfl rfl ?_
                refine r_get C 0 20 d_Mo_next_449 ci_Mo fi_Mo_97 rfl (by decide) rfl rfl ?_
                refine r_nast C (ws' := [(m0, .inr (9, MO ad qth (nI k) (bI qir) (nI tn) qde qru (nI a) (nI a) (nI 2) (nI s) (nI v) (oI w2) qop (bI qiu) qwi qhe qrw qma)), ((ad 2), .inl (g.2.1 0, 2000, .inl (aI T))), ((ad 6), .inl (g.2.1 0, 2000, .inl (aI (up BE tn s)))), ((ad 7), .inl (g.2.1 0, 2000, .inl (aI (up EN tn a))))]) 3 0 d_Mo_next_452 rfl rfl (by omega) (by decide) rfl ?_
                refine r_aload_n C 0 d_Mo_next_453 rfl rfl ?_
                refine r_dup C d_Mo_next_454 rfl ?_
                refine r_get C 0 5 d_Mo_next_455 ci_Mo fi_Mo_126 rfl (by decide) rfl rfl ?_
                refine r_iconst C (nI 1) d_Mo_next_458 (by decide) ?_
                refine r_nadd C d_Mo_next_459 ?_
                refine r_put C (ws' := [(m0, .inr (9, MO ad qth (nI k) (bI qir) (nI (tn + 1)) qde qru (nI a) (nI a) (nI 2) (nI s) (nI v) (oI w2) qop (bI qiu) qwi qhe qrw qma)), ((ad 2), .inl (g.2.1 0, 2000, .inl (aI T))), ((ad 6), .inl (g.2.1 0, 2000, .inl (aI (up BE tn s)))), ((ad 7), .inl (g.2.1 0, 2000, .inl (aI (up EN tn a))))]) 0 5 d_Mo_next_460 ci_Mo fi_Mo_126 rfl (by decide) rfl rfl (rfl) (rfl) (by simp) rfl ?_
                refine r_vret C E d_Mo_next_463 (by first | decide | omega | (simp only [rmk]; omega)) (by first | decide | omega | (simp only [rmk]; omega)) ?_
                exact ⟨(2, s, a, some v, none), 2, _, _, _, _, rfl, rfl, nx2 hs he b1 b2 b3 ba b5 b6 (by omega) (fun q => by have := hjo.symm.trans c_377; exact of_decide_eq_false this (Or.inl q.2)), Or.inl ⟨by decide, oI_non (by first | exact hw2 | exact orb hw2 (by omega) | exact orb (orb hw2 (by omega)) (by omega)) c_423, rfl, rfl, rfl⟩⟩
              · skip
                refine r_vret C E d_Mo_next_426 (by first | decide | omega | (simp only [rmk]; omega)) (by first | decide | omega | (simp only [rmk]; omega)) ?_
                exact ⟨(2, s, a, some v, none), 2, _, _, _, _, rfl, rfl, nx2 hs he b1 b2 b3 ba b5 b6 (by omega) (fun q => by have := hjo.symm.trans c_377; exact of_decide_eq_false this (Or.inl q.2)), Or.inr ⟨Or.inr (oI_som c_423), rfl, rfl, rfl⟩⟩
            · skip
              refine r_aload_n C 0 d_Mo_next_380 rfl rfl ?_
              refine r_get C 0 22 d_Mo_next_381 ci_Mo fi_Mo_106 rfl (by decide) rfl rfl ?_
              refine r_iload_n C 1 d_Mo_next_384 rfl rfl ?_
              refine r_icmp_ne C 412 d_Mo_next_385 (by decide) (fun c_385 => ?_) (fun c_385 => ?_)
              · skip
                refine r_aload_n C 0 d_Mo_next_412 rfl rfl ?_
                refine r_get C 0 21 d_Mo_next_413 ci_Mo fi_Mo_100 rfl (by decide) rfl rfl ?_
                refine r_nif_eq C 426 d_Mo_next_416 (by decide) (by omega) (fun c_416 => ?_) (fun c_416 => ?_)
                · exact absurd c_416 (by decide)
                refine r_aload_n C 0 d_Mo_next_419 rfl rfl ?_
                refine r_get C 0 24 d_Mo_next_420 ci_Mo fi_Mo_94 rfl (by decide) rfl rfl ?_
                refine r_if_lt C 427 d_Mo_next_423 (by decide) (fun c_423 => ?_) (fun c_423 => ?_)
                · skip
                  refine r_aload_n C 0 d_Mo_next_427 rfl rfl ?_
                  refine r_get C 0 6 d_Mo_next_428 ci_Mo fi_Mo_16 rfl (by decide) rfl rfl ?_
                  refine r_aload_n C 0 d_Mo_next_431 rfl rfl ?_
                  refine r_get C 0 5 d_Mo_next_432 ci_Mo fi_Mo_126 rfl (by decide) rfl rfl ?_
                  refine r_aload_n C 0 d_Mo_next_435 rfl rfl ?_
                  refine r_get C 0 22 d_Mo_next_436 ci_Mo fi_Mo_106 rfl (by decide) rfl rfl ?_
                  refine r_nast C (ws' := [(m0, .inr (9, MO ad qth (nI k) (bI qir) (nI tn) qde qru (nI a) (nI a) (nI 2) (nI s) (nI v) (oI w2) qop (bI qiu) qwi qhe qrw qma)), ((ad 2), .inl (g.2.1 0, 2000, .inl (aI T))), ((ad 6), .inl (g.2.1 0, 2000, .inl (aI (up BE tn s)))), ((ad 7), .inl (g.2.1 0, 2000, .inl (aI EN)))]) 2 0 d_Mo_next_439 rfl rfl (by omega) (by decide) rfl ?_
                  refine r_aload_n C 0 d_Mo_next_440 rfl rfl ?_
                  refine r_get C 0 7 d_Mo_next_441 ci_Mo fi_Mo_19 rfl (by decide) rfl rfl ?_
                  refine r_aload_n C 0 d_Mo_next_444 rfl rfl ?_
                  refine r_get C 0 5 d_Mo_next_445 ci_Mo fi_Mo_126 rfl (by decide) rfl rfl ?_
                  refine r_aload_n C 0 d_Mo_next_448 rfl rfl ?_
                  refine r_get C 0 20 d_Mo_next_449 ci_Mo fi_Mo_97 rfl (by decide) rfl rfl ?_
                  refine r_nast C (ws' := [(m0, .inr (9, MO ad qth (nI k) (bI qir) (nI tn) qde qru (nI a) (nI a) (nI 2) (nI s) (nI v) (oI w2) qop (bI qiu) qwi qhe qrw qma)), ((ad 2), .inl (g.2.1 0, 2000, .inl (aI T))), ((ad 6), .inl (g.2.1 0, 2000, .inl (aI (up BE tn s)))), ((ad 7), .inl (g.2.1 0, 2000, .inl (aI (up EN tn a))))]) 3 0 d_Mo_next_452 rfl rfl (by omega) (by decide) rfl ?_
                  refine r_aload_n C 0 d_Mo_next_453 rfl rfl ?_
                  refine r_dup C d_Mo_next_454 rfl ?_
                  refine r_get C 0 5 d_Mo_next_455 ci_Mo fi_Mo_126 rfl (by decide) rfl rfl ?_
                  refine r_iconst C (nI 1) d_Mo_next_458 (by decide) ?_
                  refine r_nadd C d_Mo_next_459 ?_
                  refine r_put C (ws' := [(m0, .inr (9, MO ad qth (nI k) (bI qir) (nI (tn + 1)) qde qru (nI a) (nI a) (nI 2) (nI s) (nI v) (oI w2) qop (bI qiu) qwi qhe qrw qma)), ((ad 2), .inl (g.2.1 0, 2000, .inl (aI T))), ((ad 6), .inl (g.2.1 0, 2000, .inl (aI (up BE tn s)))), ((ad 7), .inl (g.2.1 0, 2000, .inl (aI (up EN tn a))))]) 0 5 d_Mo_next_460 ci_Mo fi_Mo_126 rfl (by decide) rfl rfl (rfl) (rfl) (by simp) rfl ?_
                  refine r_vret C E d_Mo_next_463 (by first | decide | omega | (simp only [rmk]; omega)) (by first | decide | omega | (simp only [rmk]; omega)) ?_
                  exact ⟨(2, s, a, some v, none), 2, _, _, _, _, rfl, rfl, nx2 hs he b1 b2 b3 ba b5 b6 (by omega) (fun q => c_385 (by rw [hq (Or.inl q.2), q.1])), Or.inl ⟨by decide, oI_non (by first | exact hw2 | exact orb hw2 (by omega) | exact orb (orb hw2 (by omega)) (by omega)) c_423, rfl, rfl, rfl⟩⟩
                · skip
                  refine r_vret C E d_Mo_next_426 (by first | decide | omega | (simp only [rmk]; omega)) (by first | decide | omega | (simp only [rmk]; omega)) ?_
                  exact ⟨(2, s, a, some v, none), 2, _, _, _, _, rfl, rfl, nx2 hs he b1 b2 b3 ba b5 b6 (by omega) (fun q => c_385 (by rw [hq (Or.inl q.2), q.1])), Or.inr ⟨Or.inr (oI_som c_423), rfl, rfl, rfl⟩⟩
              · skip
                refine r_aload_n C 0 d_Mo_next_388 rfl rfl ?_
                refine r_get C 0 21 d_Mo_next_389 ci_Mo fi_Mo_100 rfl (by decide) rfl rfl ?_
                refine r_iconst C (nI 1) d_Mo_next_392 (by decide) ?_
                refine r_ncmp_eq C 404 d_Mo_next_393 (by decide) (by omega) (by omega) (fun c_393 => ?_) (fun c_393 => ?_)
                · exact absurd c_393 (by decide)
                refine r_aload_n C 0 d_Mo_next_396 rfl rfl ?_
                refine r_get C 0 21 d_Mo_next_397 ci_Mo fi_Mo_100 rfl (by decide) rfl rfl ?_
                refine r_iconst C (nI 2) d_Mo_next_400 (by decide) ?_
                refine r_ncmp_ne C 412 d_Mo_next_401 (by decide) (by omega) (by omega) (fun c_401 => ?_) (fun c_401 => ?_)
                · exact absurd c_401 (by decide)
                refine r_aload_n C 0 d_Mo_next_404 rfl rfl ?_
                refine r_aload_n C 0 d_Mo_next_405 rfl rfl ?_
                refine r_get C 0 22 d_Mo_next_406 ci_Mo fi_Mo_106 rfl (by decide) rfl rfl ?_
                refine j_callV C (c_Mo_refuse g (xl x) (m0 := m0) (ad := ad) (qth := qth) (qsz := nI k) (qtk := nI tn) (qde := qde) (qru := qru) (qat := nI a) (qen := nI a) (qto := nI 2) (qbe := nI s) (qva := nI v) (qop := qop) (qwi := qwi) (qhe := qhe) (qrw := qrw) (qma := qma) (qir := qir) (qiu := qiu) (wr := w2) (c := s) (by first | assumption | omega | rfl) (by first | exact hw2 | exact hwr | exact orb hw2 (by omega))) (Sp.of (wr := [((ad 2), .inl (g.2.1 0, 2000, .inl (aI T))), ((ad 6), .inl (g.2.1 0, 2000, .inl (aI BE))), ((ad 7), .inl (g.2.1 0, 2000, .inl (aI EN)))]) [0] [1, 2, 3] rfl rfl rfl rfl (by decide)) d_Mo_next_409 lk_Mo_119 mw_Mo_refuse vw_Mo_refuse (q0 := 0) rfl rfl (fit_of hR (by first | decide | (simp only [rmk]; omega)) (by first | decide | (simp only [rmk]; omega)) (by first | decide | (simp only [rmk]; omega)) (by first | decide | (simp only [rmk]; omega))) rfl (cat8 (Nat.le_of_ble_eq_true rfl)) (As := [.int (nI s)]) (rest := []) rfl (fun r_409 w_409 hp_409 => ?_)
                obtain ⟨rfl, rfl⟩ := hp_409
                refine r_after (ws' := [(m0, .inr (9, MO ad qth (nI k) (bI qir) (nI tn) qde qru (nI a) (nI a) (nI 2) (nI s) (nI v) (oI (w2.orElse fun _ => some s)) qop (bI qiu) qwi qhe qrw qma)), ((ad 2), .inl (g.2.1 0, 2000, .inl (aI T))), ((ad 6), .inl (g.2.1 0, 2000, .inl (aI BE))), ((ad 7), .inl (g.2.1 0, 2000, .inl (aI EN)))]) (st' := []) (n1 := 0) (n2 := 0) [3, 0, 1, 2] rfl rfl rfl rfl rfl ?_
                refine r_aload_n C 0 d_Mo_next_412 rfl rfl ?_
                refine r_get C 0 21 d_Mo_next_413 ci_Mo fi_Mo_100 rfl (by decide) rfl rfl ?_
                refine r_nif_eq C 426 d_Mo_next_416 (by decide) (by omega) (fun c_416 => ?_) (fun c_416 => ?_)
                · exact absurd c_416 (by decide)
                refine r_aload_n C 0 d_Mo_next_419 rfl rfl ?_
                refine r_get C 0 24 d_Mo_next_420 ci_Mo fi_Mo_94 rfl (by decide) rfl rfl ?_
                refine r_if_lt C 427 d_Mo_next_423 (by decide) (fun c_423 => ?_) (fun c_423 => ?_)
                · skip
                  refine r_aload_n C 0 d_Mo_next_427 rfl rfl ?_
                  refine r_get C 0 6 d_Mo_next_428 ci_Mo fi_Mo_16 rfl (by decide) rfl rfl ?_
                  refine r_aload_n C 0 d_Mo_next_431 rfl rfl ?_
                  refine r_get C 0 5 d_Mo_next_432 ci_Mo fi_Mo_126 rfl (by decide) rfl rfl ?_
                  refine r_aload_n C 0 d_Mo_next_435 rfl rfl ?_
                  refine r_get C 0 22 d_Mo_next_436 ci_Mo fi_Mo_106 rfl (by decide) rfl rfl ?_
                  refine r_nast C (ws' := [(m0, .inr (9, MO ad qth (nI k) (bI qir) (nI tn) qde qru (nI a) (nI a) (nI 2) (nI s) (nI v) (oI (w2.orElse fun _ => some s)) qop (bI qiu) qwi qhe qrw qma)), ((ad 2), .inl (g.2.1 0, 2000, .inl (aI T))), ((ad 6), .inl (g.2.1 0, 2000, .inl (aI (up BE tn s)))), ((ad 7), .inl (g.2.1 0, 2000, .inl (aI EN)))]) 2 0 d_Mo_next_439 rfl rfl (by omega) (by decide) rfl ?_
                  refine r_aload_n C 0 d_Mo_next_440 rfl rfl ?_
                  refine r_get C 0 7 d_Mo_next_441 ci_Mo fi_Mo_19 rfl (by decide) rfl rfl ?_
                  refine r_aload_n C 0 d_Mo_next_444 rfl rfl ?_
                  refine r_get C 0 5 d_Mo_next_445 ci_Mo fi_Mo_126 rfl (by decide) rfl rfl ?_
                  refine r_aload_n C 0 d_Mo_next_448 rfl rfl ?_
                  refine r_get C 0 20 d_Mo_next_449 ci_Mo fi_Mo_97 rfl (by decide) rfl rfl ?_
                  refine r_nast C (ws' := [(m0, .inr (9, MO ad qth (nI k) (bI qir) (nI tn) qde qru (nI a) (nI a) (nI 2) (nI s) (nI v) (oI (w2.orElse fun _ => some s)) qop (bI qiu) qwi qhe qrw qma)), ((ad 2), .inl (g.2.1 0, 2000, .inl (aI T))), ((ad 6), .inl (g.2.1 0, 2000, .inl (aI (up BE tn s)))), ((ad 7), .inl (g.2.1 0, 2000, .inl (aI (up EN tn a))))]) 3 0 d_Mo_next_452 rfl rfl (by omega) (by decide) rfl ?_
                  refine r_aload_n C 0 d_Mo_next_453 rfl rfl ?_
                  refine r_dup C d_Mo_next_454 rfl ?_
                  refine r_get C 0 5 d_Mo_next_455 ci_Mo fi_Mo_126 rfl (by decide) rfl rfl ?_
                  refine r_iconst C (nI 1) d_Mo_next_458 (by decide) ?_
                  refine r_nadd C d_Mo_next_459 ?_
                  refine r_put C (ws' := [(m0, .inr (9, MO ad qth (nI k) (bI qir) (nI (tn + 1)) qde qru (nI a) (nI a) (nI 2) (nI s) (nI v) (oI (w2.orElse fun _ => some s)) qop (bI qiu) qwi qhe qrw qma)), ((ad 2), .inl (g.2.1 0, 2000, .inl (aI T))), ((ad 6), .inl (g.2.1 0, 2000, .inl (aI (up BE tn s)))), ((ad 7), .inl (g.2.1 0, 2000, .inl (aI (up EN tn a))))]) 0 5 d_Mo_next_460 ci_Mo fi_Mo_126 rfl (by decide) rfl rfl (rfl) (rfl) (by simp) rfl ?_
                  refine r_vret C E d_Mo_next_463 (by first | decide | omega | (simp only [rmk]; omega)) (by first | decide | omega | (simp only [rmk]; omega)) ?_
                  exact ⟨(4, s, a, some v, none), 2, _, _, _, _, rfl, rfl, nx2j hs he b1 b2 b3 ba b5 (by rw [b6]) (by first | exact Or.inl (by omega) | exact (by have hj1 := of_decide_eq_true (hjo.symm.trans c_377); rw [hq hj1] at c_385; have hj2 := (nI_eq (by omega) (by omega)).mp c_385; exact Or.inr ⟨hj2, hj1.resolve_right fun q => hs2 q ⟨by omega, by rw [← hj2]; exact b3⟩⟩)), Or.inl ⟨by decide, oI_non (by first | exact hw2 | exact orb hw2 (by omega) | exact orb (orb hw2 (by omega)) (by omega)) c_423, rfl, rfl, rfl⟩⟩
                · skip
                  refine r_vret C E d_Mo_next_426 (by first | decide | omega | (simp only [rmk]; omega)) (by first | decide | omega | (simp only [rmk]; omega)) ?_
                  exact ⟨(4, s, a, some v, none), 2, _, _, _, _, rfl, rfl, nx2j hs he b1 b2 b3 ba b5 (by rw [b6]) (by first | exact Or.inl (by omega) | exact (by have hj1 := of_decide_eq_true (hjo.symm.trans c_377); rw [hq hj1] at c_385; have hj2 := (nI_eq (by omega) (by omega)).mp c_385; exact Or.inr ⟨hj2, hj1.resolve_right fun q => hs2 q ⟨by omega, by rw [← hj2]; exact b3⟩⟩)), Or.inr ⟨Or.inr (oI_som c_423), rfl, rfl, rfl⟩⟩
          · skip
            refine r_aload_n C 0 d_Mo_next_368 rfl rfl ?_
            refine r_aload_n C 0 d_Mo_next_369 rfl rfl ?_
            refine r_get C 0 22 d_Mo_next_370 ci_Mo fi_Mo_106 rfl (by decide) rfl rfl ?_
            refine j_callV C (c_Mo_refuse g (xl x) (m0 := m0) (ad := ad) (qth := qth) (qsz := nI k) (qtk := nI tn) (qde := qde) (qru := qru) (qat := nI a) (qen := nI a) (qto := nI 2) (qbe := nI s) (qva := nI v) (qop := qop) (qwi := qwi) (qhe := qhe) (qrw := qrw) (qma := qma) (qir := qir) (qiu := qiu) (wr := w2) (c := s) (by first | assumption | omega | rfl) (by first | exact hw2 | exact hwr | exact orb hw2 (by omega))) (Sp.of (wr := [((ad 2), .inl (g.2.1 0, 2000, .inl (aI T))), ((ad 6), .inl (g.2.1 0, 2000, .inl (aI BE))), ((ad 7), .inl (g.2.1 0, 2000, .inl (aI EN)))]) [0] [1, 2, 3] rfl rfl rfl rfl (by decide)) d_Mo_next_373 lk_Mo_119 mw_Mo_refuse vw_Mo_refuse (q0 := 0) rfl rfl (fit_of hR (by first | decide | (simp only [rmk]; omega)) (by first | decide | (simp only [rmk]; omega)) (by first | decide | (simp only [rmk]; omega)) (by first | decide | (simp only [rmk]; omega))) rfl (cat8 (Nat.le_of_ble_eq_true rfl)) (As := [.int (nI s)]) (rest := []) rfl (fun r_373 w_373 hp_373 => ?_)
            obtain ⟨rfl, rfl⟩ := hp_373
            refine r_after (ws' := [(m0, .inr (9, MO ad qth (nI k) (bI qir) (nI tn) qde qru (nI a) (nI a) (nI 2) (nI s) (nI v) (oI (w2.orElse fun _ => some s)) qop (bI qiu) qwi qhe qrw qma)), ((ad 2), .inl (g.2.1 0, 2000, .inl (aI T))), ((ad 6), .inl (g.2.1 0, 2000, .inl (aI BE))), ((ad 7), .inl (g.2.1 0, 2000, .inl (aI EN)))]) (st' := []) (n1 := 0) (n2 := 0) [3, 0, 1, 2] rfl rfl rfl rfl rfl ?_
            refine r_iload_n C 2 d_Mo_next_376 rfl rfl ?_
            refine r_bif_eq C 412 d_Mo_next_377 (by decide) (fun c_377 => ?_) (fun c_377 => ?_)
            · skip
              refine r_aload_n C 0 d_Mo_next_412 rfl rfl ?_
              refine r_get C 0 21 d_Mo_next_413 ci_Mo fi_Mo_100 rfl (by decide) rfl rfl ?_
              refine r_nif_eq C 426 d_Mo_next_416 (by decide) (by omega) (fun c_416 => ?_) (fun c_416 => ?_)
              · exact absurd c_416 (by decide)
              refine r_aload_n C 0 d_Mo_next_419 rfl rfl ?_
              refine r_get C 0 24 d_Mo_next_420 ci_Mo fi_Mo_94 rfl (by decide) rfl rfl ?_
              refine r_if_lt C 427 d_Mo_next_423 (by decide) (fun c_423 => ?_) (fun c_423 => ?_)
              · skip
                refine r_aload_n C 0 d_Mo_next_427 rfl rfl ?_
                refine r_get C 0 6 d_Mo_next_428 ci_Mo fi_Mo_16 rfl (by decide) rfl rfl ?_
                refine r_aload_n C 0 d_Mo_next_431 rfl rfl ?_
                refine r_get C 0 5 d_Mo_next_432 ci_Mo fi_Mo_126 rfl (by decide) rfl rfl ?_
                refine r_aload_n C 0 d_Mo_next_435 rfl rfl ?_
                refine r_get C 0 22 d_Mo_next_436 ci_Mo fi_Mo_106 rfl (by decide) rfl rfl ?_
                refine r_nast C (ws' := [(m0, .inr (9, MO ad qth (nI k) (bI qir) (nI tn) qde qru (nI a) (nI a) (nI 2) (nI s) (nI v) (oI (w2.orElse fun _ => some s)) qop (bI qiu) qwi qhe qrw qma)), ((ad 2), .inl (g.2.1 0, 2000, .inl (aI T))), ((ad 6), .inl (g.2.1 0, 2000, .inl (aI (up BE tn s)))), ((ad 7), .inl (g.2.1 0, 2000, .inl (aI EN)))]) 2 0 d_Mo_next_439 rfl rfl (by omega) (by decide) rfl ?_
                refine r_aload_n C 0 d_Mo_next_440 rfl rfl ?_
                refine r_get C 0 7 d_Mo_next_441 ci_Mo fi_Mo_19 rfl (by decide) rfl rfl ?_
                refine r_aload_n C 0 d_Mo_next_444 rfl rfl ?_
                refine r_get C 0 5 d_Mo_next_445 ci_Mo fi_Mo_126 rfl (by decide) rfl rfl ?_
                refine r_aload_n C 0 d_Mo_next_448 rfl rfl ?_
                refine r_get C 0 20 d_Mo_next_449 ci_Mo fi_Mo_97 rfl (by decide) rfl rfl ?_
                refine r_nast C (ws' := [(m0, .inr (9, MO ad qth (nI k) (bI qir) (nI tn) qde qru (nI a) (nI a) (nI 2) (nI s) (nI v) (oI (w2.orElse fun _ => some s)) qop (bI qiu) qwi qhe qrw qma)), ((ad 2), .inl (g.2.1 0, 2000, .inl (aI T))), ((ad 6), .inl (g.2.1 0, 2000, .inl (aI (up BE tn s)))), ((ad 7), .inl (g.2.1 0, 2000, .inl (aI (up EN tn a))))]) 3 0 d_Mo_next_452 rfl rfl (by omega) (by decide) rfl ?_
                refine r_aload_n C 0 d_Mo_next_453 rfl rfl ?_
                refine r_dup C d_Mo_next_454 rfl ?_
                refine r_get C 0 5 d_Mo_next_455 ci_Mo fi_Mo_126 rfl (by decide) rfl rfl ?_
                refine r_iconst C (nI 1) d_Mo_next_458 (by decide) ?_
                refine r_nadd C d_Mo_next_459 ?_
                refine r_put C (ws' := [(m0, .inr (9, MO ad qth (nI k) (bI qir) (nI (tn + 1)) qde qru (nI a) (nI a) (nI 2) (nI s) (nI v) (oI (w2.orElse fun _ => some s)) qop (bI qiu) qwi qhe qrw qma)), ((ad 2), .inl (g.2.1 0, 2000, .inl (aI T))), ((ad 6), .inl (g.2.1 0, 2000, .inl (aI (up BE tn s)))), ((ad 7), .inl (g.2.1 0, 2000, .inl (aI (up EN tn a))))]) 0 5 d_Mo_next_460 ci_Mo fi_Mo_126 rfl (by decide) rfl rfl (rfl) (rfl) (by simp) rfl ?_
                refine r_vret C E d_Mo_next_463 (by first | decide | omega | (simp only [rmk]; omega)) (by first | decide | omega | (simp only [rmk]; omega)) ?_
                exact ⟨(4, s, a, some v, none), 2, _, _, _, _, rfl, rfl, nx2j hs he b1 b2 b3 ba b5 (by rw [b6]) (by first | exact Or.inl (by omega) | exact (by have hj1 := of_decide_eq_true (hjo.symm.trans c_377); rw [hq hj1] at c_385; have hj2 := (nI_eq (by omega) (by omega)).mp c_385; exact Or.inr ⟨hj2, hj1.resolve_right fun q => hs2 q ⟨by omega, by rw [← hj2]; exact b3⟩⟩)), Or.inl ⟨by decide, oI_non (by first | exact hw2 | exact orb hw2 (by omega) | exact orb (orb hw2 (by omega)) (by omega)) c_423, rfl, rfl, rfl⟩⟩
              · skip
                refine r_vret C E d_Mo_next_426 (by first | decide | omega | (simp only [rmk]; omega)) (by first | decide | omega | (simp only [rmk]; omega)) ?_
                exact ⟨(4, s, a, some v, none), 2, _, _, _, _, rfl, rfl, nx2j hs he b1 b2 b3 ba b5 (by rw [b6]) (by first | exact Or.inl (by omega) | exact (by have hj1 := of_decide_eq_true (hjo.symm.trans c_377); rw [hq hj1] at c_385; have hj2 := (nI_eq (by omega) (by omega)).mp c_385; exact Or.inr ⟨hj2, hj1.resolve_right fun q => hs2 q ⟨by omega, by rw [← hj2]; exact b3⟩⟩)), Or.inr ⟨Or.inr (oI_som c_423), rfl, rfl, rfl⟩⟩
            · skip
              refine r_aload_n C 0 d_Mo_next_380 rfl rfl ?_
              refine r_get C 0 22 d_Mo_next_381 ci_Mo fi_Mo_106 rfl (by decide) rfl rfl ?_
              refine r_iload_n C 1 d_Mo_next_384 rfl rfl ?_
              refine r_icmp_ne C 412 d_Mo_next_385 (by decide) (fun c_385 => ?_) (fun c_385 => ?_)
              · skip
                refine r_aload_n C 0 d_Mo_next_412 rfl rfl ?_
                refine r_get C 0 21 d_Mo_next_413 ci_Mo fi_Mo_100 rfl (by decide) rfl rfl ?_
                refine r_nif_eq C 426 d_Mo_next_416 (by decide) (by omega) (fun c_416 => ?_) (fun c_416 => ?_)
                · exact absurd c_416 (by decide)
                refine r_aload_n C 0 d_Mo_next_419 rfl rfl ?_
                refine r_get C 0 24 d_Mo_next_420 ci_Mo fi_Mo_94 rfl (by decide) rfl rfl ?_
                refine r_if_lt C 427 d_Mo_next_423 (by decide) (fun c_423 => ?_) (fun c_423 => ?_)
                · skip
                  refine r_aload_n C 0 d_Mo_next_427 rfl rfl ?_
                  refine r_get C 0 6 d_Mo_next_428 ci_Mo fi_Mo_16 rfl (by decide) rfl rfl ?_
                  refine r_aload_n C 0 d_Mo_next_431 rfl rfl ?_
                  refine r_get C 0 5 d_Mo_next_432 ci_Mo fi_Mo_126 rfl (by decide) rfl rfl ?_
                  refine r_aload_n C 0 d_Mo_next_435 rfl rfl ?_
                  refine r_get C 0 22 d_Mo_next_436 ci_Mo fi_Mo_106 rfl (by decide) rfl rfl ?_
                  refine r_nast C (ws' := [(m0, .inr (9, MO ad qth (nI k) (bI qir) (nI tn) qde qru (nI a) (nI a) (nI 2) (nI s) (nI v) (oI (w2.orElse fun _ => some s)) qop (bI qiu) qwi qhe qrw qma)), ((ad 2), .inl (g.2.1 0, 2000, .inl (aI T))), ((ad 6), .inl (g.2.1 0, 2000, .inl (aI (up BE tn s)))), ((ad 7), .inl (g.2.1 0, 2000, .inl (aI EN)))]) 2 0 d_Mo_next_439 rfl rfl (by omega) (by decide) rfl ?_
                  refine r_aload_n C 0 d_Mo_next_440 rfl rfl ?_
                  refine r_get C 0 7 d_Mo_next_441 ci_Mo fi_Mo_19 rfl (by decide) rfl rfl ?_
                  refine r_aload_n C 0 d_Mo_next_444 rfl rfl ?_
                  refine r_get C 0 5 d_Mo_next_445 ci_Mo fi_Mo_126 rfl (by decide) rfl rfl ?_
                  refine r_aload_n C 0 d_Mo_next_448 rfl rfl ?_
                  refine r_get C 0 20 d_Mo_next_449 ci_Mo fi_Mo_97 rfl (by decide) rfl rfl ?_
                  refine r_nast C (ws' := [(m0, .inr (9, MO ad qth (nI k) (bI qir) (nI tn) qde qru (nI a) (nI a) (nI 2) (nI s) (nI v) (oI (w2.orElse fun _ => some s)) qop (bI qiu) qwi qhe qrw qma)), ((ad 2), .inl (g.2.1 0, 2000, .inl (aI T))), ((ad 6), .inl (g.2.1 0, 2000, .inl (aI (up BE tn s)))), ((ad 7), .inl (g.2.1 0, 2000, .inl (aI (up EN tn a))))]) 3 0 d_Mo_next_452 rfl rfl (by omega) (by decide) rfl ?_
                  refine r_aload_n C 0 d_Mo_next_453 rfl rfl ?_
                  refine r_dup C d_Mo_next_454 rfl ?_
                  refine r_get C 0 5 d_Mo_next_455 ci_Mo fi_Mo_126 rfl (by decide) rfl rfl ?_
                  refine r_iconst C (nI 1) d_Mo_next_458 (by decide) ?_
                  refine r_nadd C d_Mo_next_459 ?_
                  refine r_put C (ws' := [(m0, .inr (9, MO ad qth (nI k) (bI qir) (nI (tn + 1)) qde qru (nI a) (nI a) (nI 2) (nI s) (nI v) (oI (w2.orElse fun _ => some s)) qop (bI qiu) qwi qhe qrw qma)), ((ad 2), .inl (g.2.1 0, 2000, .inl (aI T))), ((ad 6), .inl (g.2.1 0, 2000, .inl (aI (up BE tn s)))), ((ad 7), .inl (g.2.1 0, 2000, .inl (aI (up EN tn a))))]) 0 5 d_Mo_next_460 ci_Mo fi_Mo_126 rfl (by decide) rfl rfl (rfl) (rfl) (by simp) rfl ?_
                  refine r_vret C E d_Mo_next_463 (by first | decide | omega | (simp only [rmk]; omega)) (by first | decide | omega | (simp only [rmk]; omega)) ?_
                  exact ⟨(4, s, a, some v, none), 2, _, _, _, _, rfl, rfl, nx2j hs he b1 b2 b3 ba b5 (by rw [b6]) (by first | exact Or.inl (by omega) | exact (by have hj1 := of_decide_eq_true (hjo.symm.trans c_377); rw [hq hj1] at c_385; have hj2 := (nI_eq (by omega) (by omega)).mp c_385; exact Or.inr ⟨hj2, hj1.resolve_right fun q => hs2 q ⟨by omega, by rw [← hj2]; exact b3⟩⟩)), Or.inl ⟨by decide, oI_non (by first | exact hw2 | exact orb hw2 (by omega) | exact orb (orb hw2 (by omega)) (by omega)) c_423, rfl, rfl, rfl⟩⟩
                · skip
                  refine r_vret C E d_Mo_next_426 (by first | decide | omega | (simp only [rmk]; omega)) (by first | decide | omega | (simp only [rmk]; omega)) ?_
                  exact ⟨(4, s, a, some v, none), 2, _, _, _, _, rfl, rfl, nx2j hs he b1 b2 b3 ba b5 (by rw [b6]) (by first | exact Or.inl (by omega) | exact (by have hj1 := of_decide_eq_true (hjo.symm.trans c_377); rw [hq hj1] at c_385; have hj2 := (nI_eq (by omega) (by omega)).mp c_385; exact Or.inr ⟨hj2, hj1.resolve_right fun q => hs2 q ⟨by omega, by rw [← hj2]; exact b3⟩⟩)), Or.inr ⟨Or.inr (oI_som c_423), rfl, rfl, rfl⟩⟩
              · skip
                refine r_aload_n C 0 d_Mo_next_388 rfl rfl ?_
                refine r_get C 0 21 d_Mo_next_389 ci_Mo fi_Mo_100 rfl (by decide) rfl rfl ?_
                refine r_iconst C (nI 1) d_Mo_next_392 (by decide) ?_
                refine r_ncmp_eq C 404 d_Mo_next_393 (by decide) (by omega) (by omega) (fun c_393 => ?_) (fun c_393 => ?_)
                · exact absurd c_393 (by decide)
                refine r_aload_n C 0 d_Mo_next_396 rfl rfl ?_
                refine r_get C 0 21 d_Mo_next_397 ci_Mo fi_Mo_100 rfl (by decide) rfl rfl ?_
                refine r_iconst C (nI 2) d_Mo_next_400 (by decide) ?_
                refine r_ncmp_ne C 412 d_Mo_next_401 (by decide) (by omega) (by omega) (fun c_401 => ?_) (fun c_401 => ?_)
                · exact absurd c_401 (by decide)
                refine r_aload_n C 0 d_Mo_next_404 rfl rfl ?_
                refine r_aload_n C 0 d_Mo_next_405 rfl rfl ?_
                refine r_get C 0 22 d_Mo_next_406 ci_Mo fi_Mo_106 rfl (by decide) rfl rfl ?_
                refine j_callV C (c_Mo_refuse g (xl x) (m0 := m0) (ad := ad) (qth := qth) (qsz := nI k) (qtk := nI tn) (qde := qde) (qru := qru) (qat := nI a) (qen := nI a) (qto := nI 2) (qbe := nI s) (qva := nI v) (qop := qop) (qwi := qwi) (qhe := qhe) (qrw := qrw) (qma := qma) (qir := qir) (qiu := qiu) (wr := w2.orElse fun _ => some s) (c := s) (by first | assumption | omega | rfl) (by first | exact hw2 | exact hwr | exact orb hw2 (by omega))) (Sp.of (wr := [((ad 2), .inl (g.2.1 0, 2000, .inl (aI T))), ((ad 6), .inl (g.2.1 0, 2000, .inl (aI BE))), ((ad 7), .inl (g.2.1 0, 2000, .inl (aI EN)))]) [0] [1, 2, 3] rfl rfl rfl rfl (by decide)) d_Mo_next_409 lk_Mo_119 mw_Mo_refuse vw_Mo_refuse (q0 := 0) rfl rfl (fit_of hR (by first | decide | (simp only [rmk]; omega)) (by first | decide | (simp only [rmk]; omega)) (by first | decide | (simp only [rmk]; omega)) (by first | decide | (simp only [rmk]; omega))) rfl (cat8 (Nat.le_of_ble_eq_true rfl)) (As := [.int (nI s)]) (rest := []) rfl (fun r_409 w_409 hp_409 => ?_)
                obtain ⟨rfl, rfl⟩ := hp_409
                refine r_after (ws' := [(m0, .inr (9, MO ad qth (nI k) (bI qir) (nI tn) qde qru (nI a) (nI a) (nI 2) (nI s) (nI v) (oI ((w2.orElse fun _ => some s).orElse fun _ => some s)) qop (bI qiu) qwi qhe qrw qma)), ((ad 2), .inl (g.2.1 0, 2000, .inl (aI T))), ((ad 6), .inl (g.2.1 0, 2000, .inl (aI BE))), ((ad 7), .inl (g.2.1 0, 2000, .inl (aI EN)))]) (st' := []) (n1 := 0) (n2 := 0) [3, 0, 1, 2] rfl rfl rfl rfl rfl ?_
                refine r_aload_n C 0 d_Mo_next_412 rfl rfl ?_
                refine r_get C 0 21 d_Mo_next_413 ci_Mo fi_Mo_100 rfl (by decide) rfl rfl ?_
                refine r_nif_eq C 426 d_Mo_next_416 (by decide) (by omega) (fun c_416 => ?_) (fun c_416 => ?_)
                · exact absurd c_416 (by decide)
                refine r_aload_n C 0 d_Mo_next_419 rfl rfl ?_
                refine r_get C 0 24 d_Mo_next_420 ci_Mo fi_Mo_94 rfl (by decide) rfl rfl ?_
                refine r_if_lt C 427 d_Mo_next_423 (by decide) (fun c_423 => ?_) (fun c_423 => ?_)
                · skip
                  refine r_aload_n C 0 d_Mo_next_427 rfl rfl ?_
                  refine r_get C 0 6 d_Mo_next_428 ci_Mo fi_Mo_16 rfl (by decide) rfl rfl ?_
                  refine r_aload_n C 0 d_Mo_next_431 rfl rfl ?_
                  refine r_get C 0 5 d_Mo_next_432 ci_Mo fi_Mo_126 rfl (by decide) rfl rfl ?_
                  refine r_aload_n C 0 d_Mo_next_435 rfl rfl ?_
                  refine r_get C 0 22 d_Mo_next_436 ci_Mo fi_Mo_106 rfl (by decide) rfl rfl ?_
                  refine r_nast C (ws' := [(m0, .inr (9, MO ad qth (nI k) (bI qir) (nI tn) qde qru (nI a) (nI a) (nI 2) (nI s) (nI v) (oI ((w2.orElse fun _ => some s).orElse fun _ => some s)) qop (bI qiu) qwi qhe qrw qma)), ((ad 2), .inl (g.2.1 0, 2000, .inl (aI T))), ((ad 6), .inl (g.2.1 0, 2000, .inl (aI (up BE tn s)))), ((ad 7), .inl (g.2.1 0, 2000, .inl (aI EN)))]) 2 0 d_Mo_next_439 rfl rfl (by omega) (by decide) rfl ?_
                  refine r_aload_n C 0 d_Mo_next_440 rfl rfl ?_
                  refine r_get C 0 7 d_Mo_next_441 ci_Mo fi_Mo_19 rfl (by decide) rfl rfl ?_
                  refine r_aload_n C 0 d_Mo_next_444 rfl rfl ?_
                  refine r_get C 0 5 d_Mo_next_445 ci_Mo fi_Mo_126 rfl (by decide) rfl rfl ?_
                  refine r_aload_n C 0 d_Mo_next_448 rfl rfl ?_
                  refine r_get C 0 20 d_Mo_next_449 ci_Mo fi_Mo_97 rfl (by decide) rfl rfl ?_
                  refine r_nast C (ws' := [(m0, .inr (9, MO ad qth (nI k) (bI qir) (nI tn) qde qru (nI a) (nI a) (nI 2) (nI s) (nI v) (oI ((w2.orElse fun _ => some s).orElse fun _ => some s)) qop (bI qiu) qwi qhe qrw qma)), ((ad 2), .inl (g.2.1 0, 2000, .inl (aI T))), ((ad 6), .inl (g.2.1 0, 2000, .inl (aI (up BE tn s)))), ((ad 7), .inl (g.2.1 0, 2000, .inl (aI (up EN tn a))))]) 3 0 d_Mo_next_452 rfl rfl (by omega) (by decide) rfl ?_
                  refine r_aload_n C 0 d_Mo_next_453 rfl rfl ?_
                  refine r_dup C d_Mo_next_454 rfl ?_
                  refine r_get C 0 5 d_Mo_next_455 ci_Mo fi_Mo_126 rfl (by decide) rfl rfl ?_
                  refine r_iconst C (nI 1) d_Mo_next_458 (by decide) ?_
                  refine r_nadd C d_Mo_next_459 ?_
                  refine r_put C (ws' := [(m0, .inr (9, MO ad qth (nI k) (bI qir) (nI (tn + 1)) qde qru (nI a) (nI a) (nI 2) (nI s) (nI v) (oI ((w2.orElse fun _ => some s).orElse fun _ => some s)) qop (bI qiu) qwi qhe qrw qma)), ((ad 2), .inl (g.2.1 0, 2000, .inl (aI T))), ((ad 6), .inl (g.2.1 0, 2000, .inl (aI (up BE tn s)))), ((ad 7), .inl (g.2.1 0, 2000, .inl (aI (up EN tn a))))]) 0 5 d_Mo_next_460 ci_Mo fi_Mo_126 rfl (by decide) rfl rfl (rfl) (rfl) (by simp) rfl ?_
                  refine r_vret C E d_Mo_next_463 (by first | decide | omega | (simp only [rmk]; omega)) (by first | decide | omega | (simp only [rmk]; omega)) ?_
                  exact ⟨(4, s, a, some v, none), 2, _, _, _, _, rfl, rfl, nx2j hs he b1 b2 b3 ba b5 (by rw [b6]; exact or2) (Or.inl (by omega)), Or.inl ⟨by decide, oI_non (by first | exact hw2 | exact orb hw2 (by omega) | exact orb (orb hw2 (by omega)) (by omega)) c_423, rfl, rfl, rfl⟩⟩
                · skip
                  refine r_vret C E d_Mo_next_426 (by first | decide | omega | (simp only [rmk]; omega)) (by first | decide | omega | (simp only [rmk]; omega)) ?_
                  exact ⟨(4, s, a, some v, none), 2, _, _, _, _, rfl, rfl, nx2j hs he b1 b2 b3 ba b5 (by rw [b6]; exact or2) (Or.inl (by omega)), Or.inr ⟨Or.inr (oI_som c_423), rfl, rfl, rfl⟩⟩
        · skip
          refine r_aload_n C 0 d_Mo_next_338 rfl rfl ?_
          refine r_aload_n C 0 d_Mo_next_339 rfl rfl ?_
          refine r_get C 0 19 d_Mo_next_340 ci_Mo fi_Mo_103 rfl (by decide) rfl rfl ?_
          refine r_put C (ws' := [(m0, .inr (9, MO ad qth (nI k) (bI qir) (nI tn) qde qru (nI a) (nI a) (nI 3) (nI s) (nI 0) (oI w2) qop (bI qiu) qwi qhe qrw qma)), ((ad 2), .inl (g.2.1 0, 2000, .inl (aI T))), ((ad 6), .inl (g.2.1 0, 2000, .inl (aI BE))), ((ad 7), .inl (g.2.1 0, 2000, .inl (aI EN)))]) 0 20 d_Mo_next_343 ci_Mo fi_Mo_97 rfl (by decide) rfl rfl (rfl) (rfl) (by simp) rfl ?_
          refine r_aload_n C 0 d_Mo_next_346 rfl rfl ?_
          refine r_get C 0 21 d_Mo_next_347 ci_Mo fi_Mo_100 rfl (by decide) rfl rfl ?_
          refine r_iconst C (nI 2) d_Mo_next_350 (by decide) ?_
          refine r_ncmp_ne C 376 d_Mo_next_351 (by decide) (by omega) (by omega) (fun c_351 => ?_) (fun c_351 => ?_)
          rotate_left
          · exact absurd c_351 (by decide)
          refine r_iload_n C 2 d_Mo_next_376 rfl rfl ?_
          refine r_bif_eq C 412 d_Mo_next_377 (by decide) (fun c_377 => ?_) (fun c_377 => ?_)
          · skip
            refine r_aload_n C 0 d_Mo_next_412 rfl rfl ?_
            refine r_get C 0 21 d_Mo_next_413 ci_Mo fi_Mo_100 rfl (by decide) rfl rfl ?_
            refine r_nif_eq C 426 d_Mo_next_416 (by decide) (by omega) (fun c_416 => ?_) (fun c_416 => ?_)
            · exact absurd c_416 (by decide)
            refine r_aload_n C 0 d_Mo_next_419 rfl rfl ?_
            refine r_get C 0 24 d_Mo_next_420 ci_Mo fi_Mo_94 rfl (by decide) rfl rfl ?_
            refine r_if_lt C 427 d_Mo_next_423 (by decide) (fun c_423 => ?_) (fun c_423 => ?_)
            · skip
              refine r_aload_n C 0 d_Mo_next_427 rfl rfl ?_
              refine r_get C 0 6 d_Mo_next_428 ci_Mo fi_Mo_16 rfl (by decide) rfl rfl ?_
              refine r_aload_n C 0 d_Mo_next_431 rfl rfl ?_
              refine r_get C 0 5 d_Mo_next_432 ci_Mo fi_Mo_126 rfl (by decide) rfl rfl ?_
              refine r_aload_n C 0 d_Mo_next_435 rfl rfl ?_
              refine r_get C 0 22 d_Mo_next_436 ci_Mo fi_Mo_106 rfl (by decide) rfl rfl ?_
              refine r_nast C (ws' := [(m0, .inr (9, MO ad qth (nI k) (bI qir) (nI tn) qde qru (nI a) (nI a) (nI 3) (nI s) (nI 0) (oI w2) qop (bI qiu) qwi qhe qrw qma)), ((ad 2), .inl (g.2.1 0, 2000, .inl (aI T))), ((ad 6), .inl (g.2.1 0, 2000, .inl (aI (up BE tn s)))), ((ad 7), .inl (g.2.1 0, 2000, .inl (aI EN)))]) 2 0 d_Mo_next_439 rfl rfl (by omega) (by decide) rfl ?_
              refine r_aload_n C 0 d_Mo_next_440 rfl rfl ?_
              refine r_get C 0 7 d_Mo_next_441 ci_Mo fi_Mo_19 rfl (by decide) rfl rfl ?_
              refine r_aload_n C 0 d_Mo_next_444 rfl rfl ?_
              refine r_get C 0 5 d_Mo_next_445 ci_Mo fi_Mo_126 rfl (by decide) rfl rfl ?_
              refine r_aload_n C 0 d_Mo_next_448 rfl rfl ?_
              refine r_get C 0 20 d_Mo_next_449 ci_Mo fi_Mo_97 rfl (by decide) rfl rfl ?_
              refine r_nast C (ws' := [(m0, .inr (9, MO ad qth (nI k) (bI qir) (nI tn) qde qru (nI a) (nI a) (nI 3) (nI s) (nI 0) (oI w2) qop (bI qiu) qwi qhe qrw qma)), ((ad 2), .inl (g.2.1 0, 2000, .inl (aI T))), ((ad 6), .inl (g.2.1 0, 2000, .inl (aI (up BE tn s)))), ((ad 7), .inl (g.2.1 0, 2000, .inl (aI (up EN tn a))))]) 3 0 d_Mo_next_452 rfl rfl (by omega) (by decide) rfl ?_
              refine r_aload_n C 0 d_Mo_next_453 rfl rfl ?_
              refine r_dup C d_Mo_next_454 rfl ?_
              refine r_get C 0 5 d_Mo_next_455 ci_Mo fi_Mo_126 rfl (by decide) rfl rfl ?_
              refine r_iconst C (nI 1) d_Mo_next_458 (by decide) ?_
              refine r_nadd C d_Mo_next_459 ?_
              refine r_put C (ws' := [(m0, .inr (9, MO ad qth (nI k) (bI qir) (nI (tn + 1)) qde qru (nI a) (nI a) (nI 3) (nI s) (nI 0) (oI w2) qop (bI qiu) qwi qhe qrw qma)), ((ad 2), .inl (g.2.1 0, 2000, .inl (aI T))), ((ad 6), .inl (g.2.1 0, 2000, .inl (aI (up BE tn s)))), ((ad 7), .inl (g.2.1 0, 2000, .inl (aI (up EN tn a))))]) 0 5 d_Mo_next_460 ci_Mo fi_Mo_126 rfl (by decide) rfl rfl (rfl) (rfl) (by simp) rfl ?_
              refine r_vret C E d_Mo_next_463 (by first | decide | omega | (simp only [rmk]; omega)) (by first | decide | omega | (simp only [rmk]; omega)) ?_
              exact ⟨(if isSgn (T s) = true then 3 else 4, s, a, some (T s), none), 3, _, _, _, _, rfl, rfl, nx3 hs he b1 b2 b3 b4 b5, Or.inl ⟨by decide, oI_non (by first | exact hw2 | exact orb hw2 (by omega) | exact orb (orb hw2 (by omega)) (by omega)) c_423, rfl, rfl, rfl⟩⟩
            · skip
              refine r_vret C E d_Mo_next_426 (by first | decide | omega | (simp only [rmk]; omega)) (by first | decide | omega | (simp only [rmk]; omega)) ?_
              exact ⟨(if isSgn (T s) = true then 3 else 4, s, a, some (T s), none), 3, _, _, _, _, rfl, rfl, nx3 hs he b1 b2 b3 b4 b5, Or.inr ⟨Or.inr (oI_som c_423), rfl, rfl, rfl⟩⟩
          · skip
            refine r_aload_n C 0 d_Mo_next_380 rfl rfl ?_
            refine r_get C 0 22 d_Mo_next_381 ci_Mo fi_Mo_106 rfl (by decide) rfl rfl ?_
            refine r_iload_n C 1 d_Mo_next_384 rfl rfl ?_
            refine r_icmp_ne C 412 d_Mo_next_385 (by decide) (fun c_385 => ?_) (fun c_385 => ?_)
            · skip
              refine r_aload_n C 0 d_Mo_next_412 rfl rfl ?_
              refine r_get C 0 21 d_Mo_next_413 ci_Mo fi_Mo_100 rfl (by decide) rfl rfl ?_
              refine r_nif_eq C 426 d_Mo_next_416 (by decide) (by omega) (fun c_416 => ?_) (fun c_416 => ?_)
              · exact absurd c_416 (by decide)
              refine r_aload_n C 0 d_Mo_next_419 rfl rfl ?_
              refine r_get C 0 24 d_Mo_next_420 ci_Mo fi_Mo_94 rfl (by decide) rfl rfl ?_
              refine r_if_lt C 427 d_Mo_next_423 (by decide) (fun c_423 => ?_) (fun c_423 => ?_)
              · skip
                refine r_aload_n C 0 d_Mo_next_427 rfl rfl ?_
                refine r_get C 0 6 d_Mo_next_428 ci_Mo fi_Mo_16 rfl (by decide) rfl rfl ?_
                refine r_aload_n C 0 d_Mo_next_431 rfl rfl ?_
                refine r_get C 0 5 d_Mo_next_432 ci_Mo fi_Mo_126 rfl (by decide) rfl rfl ?_
                refine r_aload_n C 0 d_Mo_next_435 rfl rfl ?_
                refine r_get C 0 22 d_Mo_next_436 ci_Mo fi_Mo_106 rfl (by decide) rfl rfl ?_
                refine r_nast C (ws' := [(m0, .inr (9, MO ad qth (nI k) (bI qir) (nI tn) qde qru (nI a) (nI a) (nI 3) (nI s) (nI 0) (oI w2) qop (bI qiu) qwi qhe qrw qma)), ((ad 2), .inl (g.2.1 0, 2000, .inl (aI T))), ((ad 6), .inl (g.2.1 0, 2000, .inl (aI (up BE tn s)))), ((ad 7), .inl (g.2.1 0, 2000, .inl (aI EN)))]) 2 0 d_Mo_next_439 rfl rfl (by omega) (by decide) rfl ?_
                refine r_aload_n C 0 d_Mo_next_440 rfl rfl ?_
                refine r_get C 0 7 d_Mo_next_441 ci_Mo fi_Mo_19 rfl (by decide) rfl rfl ?_
                refine r_aload_n C 0 d_Mo_next_444 rfl rfl ?_
                refine r_get C 0 5 d_Mo_next_445 ci_Mo fi_Mo_126 rfl (by decide) rfl rfl ?_
                refine r_aload_n C 0 d_Mo_next_448 rfl rfl ?_
                refine r_get C 0 20 d_Mo_next_449 ci_Mo fi_Mo_97 rfl (by decide) rfl rfl ?_
                refine r_nast C (ws' := [(m0, .inr (9, MO ad qth (nI k) (bI qir) (nI tn) qde qru (nI a) (nI a) (nI 3) (nI s) (nI 0) (oI w2) qop (bI qiu) qwi qhe qrw qma)), ((ad 2), .inl (g.2.1 0, 2000, .inl (aI T))), ((ad 6), .inl (g.2.1 0, 2000, .inl (aI (up BE tn s)))), ((ad 7), .inl (g.2.1 0, 2000, .inl (aI (up EN tn a))))]) 3 0 d_Mo_next_452 rfl rfl (by omega) (by decide) rfl ?_
                refine r_aload_n C 0 d_Mo_next_453 rfl rfl ?_
                refine r_dup C d_Mo_next_454 rfl ?_
                refine r_get C 0 5 d_Mo_next_455 ci_Mo fi_Mo_126 rfl (by decide) rfl rfl ?_
                refine r_iconst C (nI 1) d_Mo_next_458 (by decide) ?_
                refine r_nadd C d_Mo_next_459 ?_
                refine r_put C (ws' := [(m0, .inr (9, MO ad qth (nI k) (bI qir) (nI (tn + 1)) qde qru (nI a) (nI a) (nI 3) (nI s) (nI 0) (oI w2) qop (bI qiu) qwi qhe qrw qma)), ((ad 2), .inl (g.2.1 0, 2000, .inl (aI T))), ((ad 6), .inl (g.2.1 0, 2000, .inl (aI (up BE tn s)))), ((ad 7), .inl (g.2.1 0, 2000, .inl (aI (up EN tn a))))]) 0 5 d_Mo_next_460 ci_Mo fi_Mo_126 rfl (by decide) rfl rfl (rfl) (rfl) (by simp) rfl ?_
                refine r_vret C E d_Mo_next_463 (by first | decide | omega | (simp only [rmk]; omega)) (by first | decide | omega | (simp only [rmk]; omega)) ?_
                exact ⟨(if isSgn (T s) = true then 3 else 4, s, a, some (T s), none), 3, _, _, _, _, rfl, rfl, nx3 hs he b1 b2 b3 b4 b5, Or.inl ⟨by decide, oI_non (by first | exact hw2 | exact orb hw2 (by omega) | exact orb (orb hw2 (by omega)) (by omega)) c_423, rfl, rfl, rfl⟩⟩
              · skip
                refine r_vret C E d_Mo_next_426 (by first | decide | omega | (simp only [rmk]; omega)) (by first | decide | omega | (simp only [rmk]; omega)) ?_
                exact ⟨(if isSgn (T s) = true then 3 else 4, s, a, some (T s), none), 3, _, _, _, _, rfl, rfl, nx3 hs he b1 b2 b3 b4 b5, Or.inr ⟨Or.inr (oI_som c_423), rfl, rfl, rfl⟩⟩
            · skip
              refine r_aload_n C 0 d_Mo_next_388 rfl rfl ?_
              refine r_get C 0 21 d_Mo_next_389 ci_Mo fi_Mo_100 rfl (by decide) rfl rfl ?_
              refine r_iconst C (nI 1) d_Mo_next_392 (by decide) ?_
              refine r_ncmp_eq C 404 d_Mo_next_393 (by decide) (by omega) (by omega) (fun c_393 => ?_) (fun c_393 => ?_)
              · exact absurd c_393 (by decide)
              refine r_aload_n C 0 d_Mo_next_396 rfl rfl ?_
              refine r_get C 0 21 d_Mo_next_397 ci_Mo fi_Mo_100 rfl (by decide) rfl rfl ?_
              refine r_iconst C (nI 2) d_Mo_next_400 (by decide) ?_
              refine r_ncmp_ne C 412 d_Mo_next_401 (by decide) (by omega) (by omega) (fun c_401 => ?_) (fun c_401 => ?_)
              rotate_left
              · exact absurd c_401 (by decide)
              refine r_aload_n C 0 d_Mo_next_412 rfl rfl ?_
              refine r_get C 0 21 d_Mo_next_413 ci_Mo fi_Mo_100 rfl (by decide) rfl rfl ?_
              refine r_nif_eq C 426 d_Mo_next_416 (by decide) (by omega) (fun c_416 => ?_) (fun c_416 => ?_)
              · exact absurd c_416 (by decide)
              refine r_aload_n C 0 d_Mo_next_419 rfl rfl ?_
              refine r_get C 0 24 d_Mo_next_420 ci_Mo fi_Mo_94 rfl (by decide) rfl rfl ?_
              refine r_if_lt C 427 d_Mo_next_423 (by decide) (fun c_423 => ?_) (fun c_423 => ?_)
              · skip
                refine r_aload_n C 0 d_Mo_next_427 rfl rfl ?_
                refine r_get C 0 6 d_Mo_next_428 ci_Mo fi_Mo_16 rfl (by decide) rfl rfl ?_
                refine r_aload_n C 0 d_Mo_next_431 rfl rfl ?_
                refine r_get C 0 5 d_Mo_next_432 ci_Mo fi_Mo_126 rfl (by decide) rfl rfl ?_
                refine r_aload_n C 0 d_Mo_next_435 rfl rfl ?_
                refine r_get C 0 22 d_Mo_next_436 ci_Mo fi_Mo_106 rfl (by decide) rfl rfl ?_
                refine r_nast C (ws' := [(m0, .inr (9, MO ad qth (nI k) (bI qir) (nI tn) qde qru (nI a) (nI a) (nI 3) (nI s) (nI 0) (oI w2) qop (bI qiu) qwi qhe qrw qma)), ((ad 2), .inl (g.2.1 0, 2000, .inl (aI T))), ((ad 6), .inl (g.2.1 0, 2000, .inl (aI (up BE tn s)))), ((ad 7), .inl (g.2.1 0, 2000, .inl (aI EN)))]) 2 0 d_Mo_next_439 rfl rfl (by omega) (by decide) rfl ?_
                refine r_aload_n C 0 d_Mo_next_440 rfl rfl ?_
                refine r_get C 0 7 d_Mo_next_441 ci_Mo fi_Mo_19 rfl (by decide) rfl rfl ?_
                refine r_aload_n C 0 d_Mo_next_444 rfl rfl ?_
                refine r_get C 0 5 d_Mo_next_445 ci_Mo fi_Mo_126 rfl (by decide) rfl rfl ?_
                refine r_aload_n C 0 d_Mo_next_448 rfl rfl ?_
                refine r_get C 0 20 d_Mo_next_449 ci_Mo fi_Mo_97 rfl (by decide) rfl rfl ?_
                refine r_nast C (ws' := [(m0, .inr (9, MO ad qth (nI k) (bI qir) (nI tn) qde qru (nI a) (nI a) (nI 3) (nI s) (nI 0) (oI w2) qop (bI qiu) qwi qhe qrw qma)), ((ad 2), .inl (g.2.1 0, 2000, .inl (aI T))), ((ad 6), .inl (g.2.1 0, 2000, .inl (aI (up BE tn s)))), ((ad 7), .inl (g.2.1 0, 2000, .inl (aI (up EN tn a))))]) 3 0 d_Mo_next_452 rfl rfl (by omega) (by decide) rfl ?_
                refine r_aload_n C 0 d_Mo_next_453 rfl rfl ?_
                refine r_dup C d_Mo_next_454 rfl ?_
                refine r_get C 0 5 d_Mo_next_455 ci_Mo fi_Mo_126 rfl (by decide) rfl rfl ?_
                refine r_iconst C (nI 1) d_Mo_next_458 (by decide) ?_
                refine r_nadd C d_Mo_next_459 ?_
                refine r_put C (ws' := [(m0, .inr (9, MO ad qth (nI k) (bI qir) (nI (tn + 1)) qde qru (nI a) (nI a) (nI 3) (nI s) (nI 0) (oI w2) qop (bI qiu) qwi qhe qrw qma)), ((ad 2), .inl (g.2.1 0, 2000, .inl (aI T))), ((ad 6), .inl (g.2.1 0, 2000, .inl (aI (up BE tn s)))), ((ad 7), .inl (g.2.1 0, 2000, .inl (aI (up EN tn a))))]) 0 5 d_Mo_next_460 ci_Mo fi_Mo_126 rfl (by decide) rfl rfl (rfl) (rfl) (by simp) rfl ?_
                refine r_vret C E d_Mo_next_463 (by first | decide | omega | (simp only [rmk]; omega)) (by first | decide | omega | (simp only [rmk]; omega)) ?_
                exact ⟨(if isSgn (T s) = true then 3 else 4, s, a, some (T s), none), 3, _, _, _, _, rfl, rfl, nx3 hs he b1 b2 b3 b4 b5, Or.inl ⟨by decide, oI_non (by first | exact hw2 | exact orb hw2 (by omega) | exact orb (orb hw2 (by omega)) (by omega)) c_423, rfl, rfl, rfl⟩⟩
              · skip
                refine r_vret C E d_Mo_next_426 (by first | decide | omega | (simp only [rmk]; omega)) (by first | decide | omega | (simp only [rmk]; omega)) ?_
                exact ⟨(if isSgn (T s) = true then 3 else 4, s, a, some (T s), none), 3, _, _, _, _, rfl, rfl, nx3 hs he b1 b2 b3 b4 b5, Or.inr ⟨Or.inr (oI_som c_423), rfl, rfl, rfl⟩⟩
      · skip
        have hTa := hT a
        refine r_aload_n C 0 d_Mo_next_265 rfl rfl ?_
        refine r_get C 0 2 d_Mo_next_266 ci_Mo fi_Mo_7 rfl (by decide) rfl rfl ?_
        refine r_aload_n C 0 d_Mo_next_269 rfl rfl ?_
        refine r_get C 0 19 d_Mo_next_270 ci_Mo fi_Mo_103 rfl (by decide) rfl rfl ?_
        refine r_nald C 1 0 d_Mo_next_273 rfl rfl (by omega) (by decide) ?_
        refine j_callS C (c_Mo_isDigit g (xl x) (c := T a) (by first | assumption | omega | rfl)) (Sp.of (wr := [(m0, .inr (9, MO ad qth (nI k) (bI qir) (nI tn) qde qru (nI a) qe (nI t) (nI s) (nI v) (oI w2) qop (bI qiu) qwi qhe qrw qma)), ((ad 2), .inl (g.2.1 0, 2000, .inl (aI T))), ((ad 6), .inl (g.2.1 0, 2000, .inl (aI BE))), ((ad 7), .inl (g.2.1 0, 2000, .inl (aI EN)))]) [] [0, 1, 2, 3] rfl rfl rfl rfl (by decide)) d_Mo_next_274 lk_Mo_113 mw_Mo_isDigit st_Mo_isDigit (fit_of hR (by first | decide | (simp only [rmk]; omega)) (by first | decide | (simp only [rmk]; omega)) (by first | decide | (simp only [rmk]; omega)) (by first | decide | (simp only [rmk]; omega))) rfl (cat8 (Nat.le_of_ble_eq_true rfl)) (As := [.int (nI (T a))]) (rest := []) rfl (fun r_274 w_274 hp_274 => ?_)
        obtain ⟨rfl, rfl⟩ := hp_274
        refine r_after (ws' := [(m0, .inr (9, MO ad qth (nI k) (bI qir) (nI tn) qde qru (nI a) qe (nI t) (nI s) (nI v) (oI w2) qop (bI qiu) qwi qhe qrw qma)), ((ad 2), .inl (g.2.1 0, 2000, .inl (aI T))), ((ad 6), .inl (g.2.1 0, 2000, .inl (aI BE))), ((ad 7), .inl (g.2.1 0, 2000, .inl (aI EN)))]) (st' := [.int (bI (isDig (T a)))]) (n1 := 0) (n2 := 0) [0, 1, 2, 3] rfl rfl rfl rfl rfl ?_
        refine r_bif_eq C 338 d_Mo_next_277 (by decide) (fun c_277 => ?_) (fun c_277 => ?_)
        · skip
          have hE : t = 2 → ¬ (a < k ∧ isDig (T a) = true) := fun _ q => by rw [c_277] at q; cases q.2
          rcases hB with ⟨rfl, b1, b2, rfl, b3⟩ | ⟨rfl, b1, b2, b3, rfl, b4⟩ | ⟨rfl, b1, b2, b3, b4, b5, b6⟩ | ⟨rfl, b1, b2, b3, b4, rfl, b5⟩
          · skip
            refine r_aload_n C 0 d_Mo_next_338 rfl rfl ?_
            refine r_aload_n C 0 d_Mo_next_339 rfl rfl ?_
            refine r_get C 0 19 d_Mo_next_340 ci_Mo fi_Mo_103 rfl (by decide) rfl rfl ?_
            refine r_put C (ws' := [(m0, .inr (9, MO ad qth (nI k) (bI qir) (nI tn) qde qru (nI a) (nI a) (nI 0) (nI s) (nI 0) (oI w2) qop (bI qiu) qwi qhe qrw qma)), ((ad 2), .inl (g.2.1 0, 2000, .inl (aI T))), ((ad 6), .inl (g.2.1 0, 2000, .inl (aI BE))), ((ad 7), .inl (g.2.1 0, 2000, .inl (aI EN)))]) 0 20 d_Mo_next_343 ci_Mo fi_Mo_97 rfl (by decide) rfl rfl (rfl) (rfl) (by simp) rfl ?_
            refine r_aload_n C 0 d_Mo_next_346 rfl rfl ?_
            refine r_get C 0 21 d_Mo_next_347 ci_Mo fi_Mo_100 rfl (by decide) rfl rfl ?_
            refine r_iconst C (nI 2) d_Mo_next_350 (by decide) ?_
            refine r_ncmp_ne C 376 d_Mo_next_351 (by decide) (by omega) (by omega) (fun c_351 => ?_) (fun c_351 => ?_)
            rotate_left
            · exact absurd c_351 (by decide)
            refine r_iload_n C 2 d_Mo_next_376 rfl rfl ?_
            refine r_bif_eq C 412 d_Mo_next_377 (by decide) (fun c_377 => ?_) (fun c_377 => ?_)
            · skip
              refine r_aload_n C 0 d_Mo_next_412 rfl rfl ?_
              refine r_get C 0 21 d_Mo_next_413 ci_Mo fi_Mo_100 rfl (by decide) rfl rfl ?_
              refine r_nif_eq C 426 d_Mo_next_416 (by decide) (by omega) (fun c_416 => ?_) (fun c_416 => ?_)
              rotate_left
              · exact absurd c_416 (by decide)
              refine r_vret C E d_Mo_next_426 (by first | decide | omega | (simp only [rmk]; omega)) (by first | decide | omega | (simp only [rmk]; omega)) ?_
              exact ⟨(0, s, a, none, none), 0, _, _, _, _, rfl, rfl, nx0 hs he b1 b2 b3, Or.inr ⟨Or.inl rfl, rfl, rfl, rfl⟩⟩
            · skip
              refine r_aload_n C 0 d_Mo_next_380 rfl rfl ?_
              refine r_get C 0 22 d_Mo_next_381 ci_Mo fi_Mo_106 rfl (by decide) rfl rfl ?_
              refine r_iload_n C 1 d_Mo_next_384 rfl rfl ?_
              refine r_icmp_ne C 412 d_Mo_next_385 (by decide) (fun c_385 => ?_) (fun c_385 => ?_)
              · skip
                refine r_aload_n C 0 d_Mo_next_412 rfl rfl ?_
                refine r_get C 0 21 d_Mo_next_413 ci_Mo fi_Mo_100 rfl (by decide) rfl rfl ?_
                refine r_nif_eq C 426 d_Mo_next_416 (by decide) (by omega) (fun c_416 => ?_) (fun c_416 => ?_)
                rotate_left
                · exact absurd c_416 (by decide)
                refine r_vret C E d_Mo_next_426 (by first | decide | omega | (simp only [rmk]; omega)) (by first | decide | omega | (simp only [rmk]; omega)) ?_
                exact ⟨(0, s, a, none, none), 0, _, _, _, _, rfl, rfl, nx0 hs he b1 b2 b3, Or.inr ⟨Or.inl rfl, rfl, rfl, rfl⟩⟩
              · skip
                refine r_aload_n C 0 d_Mo_next_388 rfl rfl ?_
                refine r_get C 0 21 d_Mo_next_389 ci_Mo fi_Mo_100 rfl (by decide) rfl rfl ?_
                refine r_iconst C (nI 1) d_Mo_next_392 (by decide) ?_
                refine r_ncmp_eq C 404 d_Mo_next_393 (by decide) (by omega) (by omega) (fun c_393 => ?_) (fun c_393 => ?_)
                · exact absurd c_393 (by decide)
                refine r_aload_n C 0 d_Mo_next_396 rfl rfl ?_
                refine r_get C 0 21 d_Mo_next_397 ci_Mo fi_Mo_100 rfl (by decide) rfl rfl ?_
                refine r_iconst C (nI 2) d_Mo_next_400 (by decide) ?_
                refine r_ncmp_ne C 412 d_Mo_next_401 (by decide) (by omega) (by omega) (fun c_401 => ?_) (fun c_401 => ?_)
                rotate_left
                · exact absurd c_401 (by decide)
                refine r_aload_n C 0 d_Mo_next_412 rfl rfl ?_
                refine r_get C 0 21 d_Mo_next_413 ci_Mo fi_Mo_100 rfl (by decide) rfl rfl ?_
                refine r_nif_eq C 426 d_Mo_next_416 (by decide) (by omega) (fun c_416 => ?_) (fun c_416 => ?_)
                rotate_left
                · exact absurd c_416 (by decide)
                refine r_vret C E d_Mo_next_426 (by first | decide | omega | (simp only [rmk]; omega)) (by first | decide | omega | (simp only [rmk]; omega)) ?_
                exact ⟨(0, s, a, none, none), 0, _, _, _, _, rfl, rfl, nx0 hs he b1 b2 b3, Or.inr ⟨Or.inl rfl, rfl, rfl, rfl⟩⟩
          · skip
            refine r_aload_n C 0 d_Mo_next_338 rfl rfl ?_
            refine r_aload_n C 0 d_Mo_next_339 rfl rfl ?_
            refine r_get C 0 19 d_Mo_next_340 ci_Mo fi_Mo_103 rfl (by decide) rfl rfl ?_
            refine r_put C (ws' := [(m0, .inr (9, MO ad qth (nI k) (bI qir) (nI tn) qde qru (nI a) (nI a) (nI 1) (nI s) (nI 0) (oI w2) qop (bI qiu) qwi qhe qrw qma)), ((ad 2), .inl (g.2.1 0, 2000, .inl (aI T))), ((ad 6), .inl (g.2.1 0, 2000, .inl (aI BE))), ((ad 7), .inl (g.2.1 0, 2000, .inl (aI EN)))]) 0 20 d_Mo_next_343 ci_Mo fi_Mo_97 rfl (by decide) rfl rfl (rfl) (rfl) (by simp) rfl ?_
            refine r_aload_n C 0 d_Mo_next_346 rfl rfl ?_
            refine r_get C 0 21 d_Mo_next_347 ci_Mo fi_Mo_100 rfl (by decide) rfl rfl ?_
            refine r_iconst C (nI 2) d_Mo_next_350 (by decide) ?_
            refine r_ncmp_ne C 376 d_Mo_next_351 (by decide) (by omega) (by omega) (fun c_351 => ?_) (fun c_351 => ?_)
            rotate_left
            · exact absurd c_351 (by decide)
            refine r_iload_n C 2 d_Mo_next_376 rfl rfl ?_
            refine r_bif_eq C 412 d_Mo_next_377 (by decide) (fun c_377 => ?_) (fun c_377 => ?_)
            · skip
              refine r_aload_n C 0 d_Mo_next_412 rfl rfl ?_
              refine r_get C 0 21 d_Mo_next_413 ci_Mo fi_Mo_100 rfl (by decide) rfl rfl ?_
              refine r_nif_eq C 426 d_Mo_next_416 (by decide) (by omega) (fun c_416 => ?_) (fun c_416 => ?_)
              · exact absurd c_416 (by decide)
              refine r_aload_n C 0 d_Mo_next_419 rfl rfl ?_
              refine r_get C 0 24 d_Mo_next_420 ci_Mo fi_Mo_94 rfl (by decide) rfl rfl ?_
              refine r_if_lt C 427 d_Mo_next_423 (by decide) (fun c_423 => ?_) (fun c_423 => ?_)
              · skip
                refine r_aload_n C 0 d_Mo_next_427 rfl rfl ?_
                refine r_get C 0 6 d_Mo_next_428 ci_Mo fi_Mo_16 rfl (by decide) rfl rfl ?_
                refine r_aload_n C 0 d_Mo_next_431 rfl rfl ?_
                refine r_get C 0 5 d_Mo_next_432 ci_Mo fi_Mo_126 rfl (by decide) rfl rfl ?_
                refine r_aload_n C 0 d_Mo_next_435 rfl rfl ?_
                refine r_get C 0 22 d_Mo_next_436 ci_Mo fi_Mo_106 rfl (by decide) rfl rfl ?_
                refine r_nast C (ws' := [(m0, .inr (9, MO ad qth (nI k) (bI qir) (nI tn) qde qru (nI a) (nI a) (nI 1) (nI s) (nI 0) (oI w2) qop (bI qiu) qwi qhe qrw qma)), ((ad 2), .inl (g.2.1 0, 2000, .inl (aI T))), ((ad 6), .inl (g.2.1 0, 2000, .inl (aI (up BE tn s)))), ((ad 7), .inl (g.2.1 0, 2000, .inl (aI EN)))]) 2 0 d_Mo_next_439 rfl rfl (by omega) (by decide) rfl ?_
                refine r_aload_n C 0 d_Mo_next_440 rfl rfl ?_
                refine r_get C 0 7 d_Mo_next_441 ci_Mo fi_Mo_19 rfl (by decide) rfl rfl ?_
                refine r_aload_n C 0 d_Mo_next_444 rfl rfl ?_
                refine r_get C 0 5 d_Mo_next_445 ci_Mo fi_Mo_126 rfl (by decide) rfl rfl ?_
                refine r_aload_n C 0 d_Mo_next_448 rfl rfl ?_
                refine r_get C 0 20 d_Mo_next_449 ci_Mo fi_Mo_97 rfl (by decide) rfl rfl ?_
                refine r_nast C (ws' := [(m0, .inr (9, MO ad qth (nI k) (bI qir) (nI tn) qde qru (nI a) (nI a) (nI 1) (nI s) (nI 0) (oI w2) qop (bI qiu) qwi qhe qrw qma)), ((ad 2), .inl (g.2.1 0, 2000, .inl (aI T))), ((ad 6), .inl (g.2.1 0, 2000, .inl (aI (up BE tn s)))), ((ad 7), .inl (g.2.1 0, 2000, .inl (aI (up EN tn a))))]) 3 0 d_Mo_next_452 rfl rfl (by omega) (by decide) rfl ?_
                refine r_aload_n C 0 d_Mo_next_453 rfl rfl ?_
                refine r_dup C d_Mo_next_454 rfl ?_
                refine r_get C 0 5 d_Mo_next_455 ci_Mo fi_Mo_126 rfl (by decide) rfl rfl ?_
                refine r_iconst C (nI 1) d_Mo_next_458 (by decide) ?_
                refine r_nadd C d_Mo_next_459 ?_
                refine r_put C (ws' := [(m0, .inr (9, MO ad qth (nI k) (bI qir) (nI (tn + 1)) qde qru (nI a) (nI a) (nI 1) (nI s) (nI 0) (oI w2) qop (bI qiu) qwi qhe qrw qma)), ((ad 2), .inl (g.2.1 0, 2000, .inl (aI T))), ((ad 6), .inl (g.2.1 0, 2000, .inl (aI (up BE tn s)))), ((ad 7), .inl (g.2.1 0, 2000, .inl (aI (up EN tn a))))]) 0 5 d_Mo_next_460 ci_Mo fi_Mo_126 rfl (by decide) rfl rfl (rfl) (rfl) (by simp) rfl ?_
                refine r_vret C E d_Mo_next_463 (by first | decide | omega | (simp only [rmk]; omega)) (by first | decide | omega | (simp only [rmk]; omega)) ?_
                exact ⟨(1, s, a, none, wordAt T s a), 1, _, _, _, _, rfl, rfl, nx1 hs he b1 b2 b3 b4 (fun q => by have := hjo.symm.trans c_377; exact of_decide_eq_false this (Or.inr q.2)), Or.inl ⟨by decide, oI_non (by first | exact hw2 | exact orb hw2 (by omega) | exact orb (orb hw2 (by omega)) (by omega)) c_423, rfl, rfl, rfl⟩⟩
              · skip
                refine r_vret C E d_Mo_next_426 (by first | decide | omega | (simp only [rmk]; omega)) (by first | decide | omega | (simp only [rmk]; omega)) ?_
                exact ⟨(1, s, a, none, wordAt T s a), 1, _, _, _, _, rfl, rfl, nx1 hs he b1 b2 b3 b4 (fun q => by have := hjo.symm.trans c_377; exact of_decide_eq_false this (Or.inr q.2)), Or.inr ⟨Or.inr (oI_som c_423), rfl, rfl, rfl⟩⟩
            · skip
              refine r_aload_n C 0 d_Mo_next_380 rfl rfl ?_
              refine r_get C 0 22 d_Mo_next_381 ci_Mo fi_Mo_106 rfl (by decide) rfl rfl ?_
              refine r_iload_n C 1 d_Mo_next_384 rfl rfl ?_
              refine r_icmp_ne C 412 d_Mo_next_385 (by decide) (fun c_385 => ?_) (fun c_385 => ?_)
              · skip
                refine r_aload_n C 0 d_Mo_next_412 rfl rfl ?_
                refine r_get C 0 21 d_Mo_next_413 ci_Mo fi_Mo_100 rfl (by decide) rfl rfl ?_
                refine r_nif_eq C 426 d_Mo_next_416 (by decide) (by omega) (fun c_416 => ?_) (fun c_416 => ?_)
                · exact absurd c_416 (by decide)
                refine r_aload_n C 0 d_Mo_next_419 rfl rfl ?_
                refine r_get C 0 24 d_Mo_next_420 ci_Mo fi_Mo_94 rfl (by decide) rfl rfl ?_
                refine r_if_lt C 427 d_Mo_next_423 (by decide) (fun c_423 => ?_) (fun c_423 => ?_)
                · skip
                  refine r_aload_n C 0 d_Mo_next_427 rfl rfl ?_
                  refine r_get C 0 6 d_Mo_next_428 ci_Mo fi_Mo_16 rfl (by decide) rfl rfl ?_
                  refine r_aload_n C 0 d_Mo_next_431 rfl rfl ?_
                  refine r_get C 0 5 d_Mo_next_432 ci_Mo fi_Mo_126 rfl (by decide) rfl rfl ?_
                  refine r_aload_n C 0 d_Mo_next_435 rfl rfl ?_
                  refine r_get C 0 22 d_Mo_next_436 ci_Mo fi_Mo_106 rfl (by decide) rfl rfl ?_
                  refine r_nast C (ws' := [(m0, .inr (9, MO ad qth (nI k) (bI qir) (nI tn) qde qru (nI a) (nI a) (nI 1) (nI s) (nI 0) (oI w2) qop (bI qiu) qwi qhe qrw qma)), ((ad 2), .inl (g.2.1 0, 2000, .inl (aI T))), ((ad 6), .inl (g.2.1 0, 2000, .inl (aI (up BE tn s)))), ((ad 7), .inl (g.2.1 0, 2000, .inl (aI EN)))]) 2 0 d_Mo_next_439 rfl rfl (by omega) (by decide) rfl ?_
                  refine r_aload_n C 0 d_Mo_next_440 rfl rfl ?_
                  refine r_get C 0 7 d_Mo_next_441 ci_Mo fi_Mo_19 rfl (by decide) rfl rfl ?_
                  refine r_aload_n C 0 d_Mo_next_444 rfl rfl ?_
                  refine r_get C 0 5 d_Mo_next_445 ci_Mo fi_Mo_126 rfl (by decide) rfl rfl ?_
                  refine r_aload_n C 0 d_Mo_next_448 rfl rfl ?_
                  refine r_get C 0 20 d_Mo_next_449 ci_Mo fi_Mo_97 rfl (by decide) rfl rfl ?_
                  refine r_nast C (ws' := [(m0, .inr (9, MO ad qth (nI k) (bI qir) (nI tn) qde qru (nI a) (nI a) (nI 1) (nI s) (nI 0) (oI w2) qop (bI qiu) qwi qhe qrw qma)), ((ad 2), .inl (g.2.1 0, 2000, .inl (aI T))), ((ad 6), .inl (g.2.1 0, 2000, .inl (aI (up BE tn s)))), ((ad 7), .inl (g.2.1 0, 2000, .inl (aI (up EN tn a))))]) 3 0 d_Mo_next_452 rfl rfl (by omega) (by decide) rfl ?_
                  refine r_aload_n C 0 d_Mo_next_453 rfl rfl ?_
                  refine r_dup C d_Mo_next_454 rfl ?_
                  refine r_get C 0 5 d_Mo_next_455 ci_Mo fi_Mo_126 rfl (by decide) rfl rfl ?_
                  refine r_iconst C (nI 1) d_Mo_next_458 (by decide) ?_
                  refine r_nadd C d_Mo_next_459 ?_
                  refine r_put C (ws' := [(m0, .inr (9, MO ad qth (nI k) (bI qir) (nI (tn + 1)) qde qru (nI a) (nI a) (nI 1) (nI s) (nI 0) (oI w2) qop (bI qiu) qwi qhe qrw qma)), ((ad 2), .inl (g.2.1 0, 2000, .inl (aI T))), ((ad 6), .inl (g.2.1 0, 2000, .inl (aI (up BE tn s)))), ((ad 7), .inl (g.2.1 0, 2000, .inl (aI (up EN tn a))))]) 0 5 d_Mo_next_460 ci_Mo fi_Mo_126 rfl (by decide) rfl rfl (rfl) (rfl) (by simp) rfl ?_
                  refine r_vret C E d_Mo_next_463 (by first | decide | omega | (simp only [rmk]; omega)) (by first | decide | omega | (simp only [rmk]; omega)) ?_
                  exact ⟨(1, s, a, none, wordAt T s a), 1, _, _, _, _, rfl, rfl, nx1 hs he b1 b2 b3 b4 (fun q => c_385 (by rw [hq (Or.inr q.2), q.1])), Or.inl ⟨by decide, oI_non (by first | exact hw2 | exact orb hw2 (by omega) | exact orb (orb hw2 (by omega)) (by omega)) c_423, rfl, rfl, rfl⟩⟩
                · skip
                  refine r_vret C E d_Mo_next_426 (by first | decide | omega | (simp only [rmk]; omega)) (by first | decide | omega | (simp only [rmk]; omega)) ?_
                  exact ⟨(1, s, a, none, wordAt T s a), 1, _, _, _, _, rfl, rfl, nx1 hs he b1 b2 b3 b4 (fun q => c_385 (by rw [hq (Or.inr q.2), q.1])), Or.inr ⟨Or.inr (oI_som c_423), rfl, rfl, rfl⟩⟩
              · skip
                refine r_aload_n C 0 d_Mo_next_388 rfl rfl ?_
                refine r_get C 0 21 d_Mo_next_389 ci_Mo fi_Mo_100 rfl (by decide) rfl rfl ?_
                refine r_iconst C (nI 1) d_Mo_next_392 (by decide) ?_
                refine r_ncmp_eq C 404 d_Mo_next_393 (by decide) (by omega) (by omega) (fun c_393 => ?_) (fun c_393 => ?_)
                rotate_left
                · exact absurd c_393 (by decide)
                refine r_aload_n C 0 d_Mo_next_404 rfl rfl ?_
                refine r_aload_n C 0 d_Mo_next_405 rfl rfl ?_
                refine r_get C 0 22 d_Mo_next_406 ci_Mo fi_Mo_106 rfl (by decide) rfl rfl ?_
                refine j_callV C (c_Mo_refuse g (xl x) (m0 := m0) (ad := ad) (qth := qth) (qsz := nI k) (qtk := nI tn) (qde := qde) (qru := qru) (qat := nI a) (qen := nI a) (qto := nI 1) (qbe := nI s) (qva := nI 0) (qop := qop) (qwi := qwi) (qhe := qhe) (qrw := qrw) (qma := qma) (qir := qir) (qiu := qiu) (wr := w2) (c := s) (by first | assumption | omega | rfl) (by first | exact hw2 | exact hwr | exact orb hw2 (by omega))) (Sp.of (wr := [((ad 2), .inl (g.2.1 0, 2000, .inl (aI T))), ((ad 6), .inl (g.2.1 0, 2000, .inl (aI BE))), ((ad 7), .inl (g.2.1 0, 2000, .inl (aI EN)))]) [0] [1, 2, 3] rfl rfl rfl rfl (by decide)) d_Mo_next_409 lk_Mo_119 mw_Mo_refuse vw_Mo_refuse (q0 := 0) rfl rfl (fit_of hR (by first | decide | (simp only [rmk]; omega)) (by first | decide | (simp only [rmk]; omega)) (by first | decide | (simp only [rmk]; omega)) (by first | decide | (simp only [rmk]; omega))) rfl (cat8 (Nat.le_of_ble_eq_true rfl)) (As := [.int (nI s)]) (rest := []) rfl (fun r_409 w_409 hp_409 => ?_)
                obtain ⟨rfl, rfl⟩ := hp_409
                refine r_after (ws' := [(m0, .inr (9, MO ad qth (nI k) (bI qir) (nI tn) qde qru (nI a) (nI a) (nI 1) (nI s) (nI 0) (oI (w2.orElse fun _ => some s)) qop (bI qiu) qwi qhe qrw qma)), ((ad 2), .inl (g.2.1 0, 2000, .inl (aI T))), ((ad 6), .inl (g.2.1 0, 2000, .inl (aI BE))), ((ad 7), .inl (g.2.1 0, 2000, .inl (aI EN)))]) (st' := []) (n1 := 0) (n2 := 0) [3, 0, 1, 2] rfl rfl rfl rfl rfl ?_
                refine r_aload_n C 0 d_Mo_next_412 rfl rfl ?_
                refine r_get C 0 21 d_Mo_next_413 ci_Mo fi_Mo_100 rfl (by decide) rfl rfl ?_
                refine r_nif_eq C 426 d_Mo_next_416 (by decide) (by omega) (fun c_416 => ?_) (fun c_416 => ?_)
                · exact absurd c_416 (by decide)
                refine r_aload_n C 0 d_Mo_next_419 rfl rfl ?_
                refine r_get C 0 24 d_Mo_next_420 ci_Mo fi_Mo_94 rfl (by decide) rfl rfl ?_
                refine r_if_lt C 427 d_Mo_next_423 (by decide) (fun c_423 => ?_) (fun c_423 => ?_)
                · skip
                  refine r_aload_n C 0 d_Mo_next_427 rfl rfl ?_
                  refine r_get C 0 6 d_Mo_next_428 ci_Mo fi_Mo_16 rfl (by decide) rfl rfl ?_
                  refine r_aload_n C 0 d_Mo_next_431 rfl rfl ?_
                  refine r_get C 0 5 d_Mo_next_432 ci_Mo fi_Mo_126 rfl (by decide) rfl rfl ?_
                  refine r_aload_n C 0 d_Mo_next_435 rfl rfl ?_
                  refine r_get C 0 22 d_Mo_next_436 ci_Mo fi_Mo_106 rfl (by decide) rfl rfl ?_
                  refine r_nast C (ws' := [(m0, .inr (9, MO ad qth (nI k) (bI qir) (nI tn) qde qru (nI a) (nI a) (nI 1) (nI s) (nI 0) (oI (w2.orElse fun _ => some s)) qop (bI qiu) qwi qhe qrw qma)), ((ad 2), .inl (g.2.1 0, 2000, .inl (aI T))), ((ad 6), .inl (g.2.1 0, 2000, .inl (aI (up BE tn s)))), ((ad 7), .inl (g.2.1 0, 2000, .inl (aI EN)))]) 2 0 d_Mo_next_439 rfl rfl (by omega) (by decide) rfl ?_
                  refine r_aload_n C 0 d_Mo_next_440 rfl rfl ?_
                  refine r_get C 0 7 d_Mo_next_441 ci_Mo fi_Mo_19 rfl (by decide) rfl rfl ?_
                  refine r_aload_n C 0 d_Mo_next_444 rfl rfl ?_
                  refine r_get C 0 5 d_Mo_next_445 ci_Mo fi_Mo_126 rfl (by decide) rfl rfl ?_
                  refine r_aload_n C 0 d_Mo_next_448 rfl rfl ?_
                  refine r_get C 0 20 d_Mo_next_449 ci_Mo fi_Mo_97 rfl (by decide) rfl rfl ?_
                  refine r_nast C (ws' := [(m0, .inr (9, MO ad qth (nI k) (bI qir) (nI tn) qde qru (nI a) (nI a) (nI 1) (nI s) (nI 0) (oI (w2.orElse fun _ => some s)) qop (bI qiu) qwi qhe qrw qma)), ((ad 2), .inl (g.2.1 0, 2000, .inl (aI T))), ((ad 6), .inl (g.2.1 0, 2000, .inl (aI (up BE tn s)))), ((ad 7), .inl (g.2.1 0, 2000, .inl (aI (up EN tn a))))]) 3 0 d_Mo_next_452 rfl rfl (by omega) (by decide) rfl ?_
                  refine r_aload_n C 0 d_Mo_next_453 rfl rfl ?_
                  refine r_dup C d_Mo_next_454 rfl ?_
                  refine r_get C 0 5 d_Mo_next_455 ci_Mo fi_Mo_126 rfl (by decide) rfl rfl ?_
                  refine r_iconst C (nI 1) d_Mo_next_458 (by decide) ?_
                  refine r_nadd C d_Mo_next_459 ?_
                  refine r_put C (ws' := [(m0, .inr (9, MO ad qth (nI k) (bI qir) (nI (tn + 1)) qde qru (nI a) (nI a) (nI 1) (nI s) (nI 0) (oI (w2.orElse fun _ => some s)) qop (bI qiu) qwi qhe qrw qma)), ((ad 2), .inl (g.2.1 0, 2000, .inl (aI T))), ((ad 6), .inl (g.2.1 0, 2000, .inl (aI (up BE tn s)))), ((ad 7), .inl (g.2.1 0, 2000, .inl (aI (up EN tn a))))]) 0 5 d_Mo_next_460 ci_Mo fi_Mo_126 rfl (by decide) rfl rfl (rfl) (rfl) (by simp) rfl ?_
                  refine r_vret C E d_Mo_next_463 (by first | decide | omega | (simp only [rmk]; omega)) (by first | decide | omega | (simp only [rmk]; omega)) ?_
                  exact ⟨(4, s, a, none, wordAt T s a), 1, _, _, _, _, rfl, rfl, nx1j hs he b1 b2 b3 b4 (by have hj1 := of_decide_eq_true (hjo.symm.trans c_377); rw [hq hj1] at c_385; have hj2 := (nI_eq (by omega) (by omega)).mp c_385; refine ⟨hj2, hj1.resolve_left fun q => hs1 q ⟨by omega, by rw [← hj2]; exact b2⟩⟩), Or.inl ⟨by decide, oI_non (by first | exact hw2 | exact orb hw2 (by omega) | exact orb (orb hw2 (by omega)) (by omega)) c_423, rfl, rfl, rfl⟩⟩
                · skip
                  refine r_vret C E d_Mo_next_426 (by first | decide | omega | (simp only [rmk]; omega)) (by first | decide | omega | (simp only [rmk]; omega)) ?_
                  exact ⟨(4, s, a, none, wordAt T s a), 1, _, _, _, _, rfl, rfl, nx1j hs he b1 b2 b3 b4 (by have hj1 := of_decide_eq_true (hjo.symm.trans c_377); rw [hq hj1] at c_385; have hj2 := (nI_eq (by omega) (by omega)).mp c_385; refine ⟨hj2, hj1.resolve_left fun q => hs1 q ⟨by omega, by rw [← hj2]; exact b2⟩⟩), Or.inr ⟨Or.inr (oI_som c_423), rfl, rfl, rfl⟩⟩
          · skip
            have ba : a = run isDig T k s := by rw [← b4, run_stop (hE rfl)]
            refine r_aload_n C 0 d_Mo_next_338 rfl rfl ?_
            refine r_aload_n C 0 d_Mo_next_339 rfl rfl ?_
            refine r_get C 0 19 d_Mo_next_340 ci_Mo fi_Mo_103 rfl (by decide) rfl rfl ?_
            refine r_put C (ws' := [(m0, .inr (9, MO ad qth (nI k) (bI qir) (nI tn) qde qru (nI a) (nI a) (nI 2) (nI s) (nI v) (oI w2) qop (bI qiu) qwi qhe qrw qma)), ((ad 2), .inl (g.2.1 0, 2000, .inl (aI T))), ((ad 6), .inl (g.2.1 0, 2000, .inl (aI BE))), ((ad 7), .inl (g.2.1 0, 2000, .inl (aI EN)))]) 0 20 d_Mo_next_343 ci_Mo fi_Mo_97 rfl (by decide) rfl rfl (rfl) (rfl) (by simp) rfl ?_
            refine r_aload_n C 0 d_Mo_next_346 rfl rfl ?_
            refine r_get C 0 21 d_Mo_next_347 ci_Mo fi_Mo_100 rfl (by decide) rfl rfl ?_
            refine r_iconst C (nI 2) d_Mo_next_350 (by decide) ?_
            refine r_ncmp_ne C 376 d_Mo_next_351 (by decide) (by omega) (by omega) (fun c_351 => ?_) (fun c_351 => ?_)
            · exact absurd c_351 (by decide)
            refine r_aload_n C 0 d_Mo_next_354 rfl rfl ?_
            refine r_get C 0 20 d_Mo_next_355 ci_Mo fi_Mo_97 rfl (by decide) rfl rfl ?_
            refine r_aload_n C 0 d_Mo_next_358 rfl rfl ?_
            refine r_get C 0 22 d_Mo_next_359 ci_Mo fi_Mo_106 rfl (by decide) rfl rfl ?_
            refine r_nsub C d_Mo_next_362 (by omega) ?_
            refine r_bipush C (nI 6) d_Mo_next_363 (by decide) ?_
            refine r_ncmp_le C 376 d_Mo_next_365 (by decide) (by omega) (by omega) (fun c_365 => ?_) (fun c_365 => ?_)
            · skip
              refine r_iload_n C 2 d_Mo_next_376 rfl rfl ?_
              refine r_bif_eq C 412 d_Mo_next_377 (by decide) (fun c_377 => ?_) (fun c_377 => ?_)
              · skip
                refine r_aload_n C 0 d_Mo_next_412 rfl rfl ?_
                refine r_get C 0 21 d_Mo_next_413 ci_Mo fi_Mo_100 rfl (by decide) rfl rfl ?_
                refine r_nif_eq C 426 d_Mo_next_416 (by decide) (by omega) (fun c_416 => ?_) (fun c_416 => ?_)
                · exact absurd c_416 (by decide)
                refine r_aload_n C 0 d_Mo_next_419 rfl rfl ?_
                refine r_get C 0 24 d_Mo_next_420 ci_Mo fi_Mo_94 rfl (by decide) rfl rfl ?_
                refine r_if_lt C 427 d_Mo_next_423 (by decide) (fun c_423 => ?_) (fun c_423 => ?_)
                · skip
                  refine r_aload_n C 0 d_Mo_next_427 rfl rfl ?_
                  refine r_get C 0 6 d_Mo_next_428 ci_Mo fi_Mo_16 rfl (by decide) rfl rfl ?_
                  refine r_aload_n C 0 d_Mo_next_431 rfl rfl ?_
                  refine r_get C 0 5 d_Mo_next_432 ci_Mo fi_Mo_126 rfl (by decide) rfl rfl ?_
                  refine r_aload_n C 0 d_Mo_next_435 rfl rfl ?_
                  refine r_get C 0 22 d_Mo_next_436 ci_Mo fi_Mo_106 rfl (by decide) rfl rfl ?_
                  refine r_nast C (ws' := [(m0, .inr (9, MO ad qth (nI k) (bI qir) (nI tn) qde qru (nI a) (nI a) (nI 2) (nI s) (nI v) (oI w2) qop (bI qiu) qwi qhe qrw qma)), ((ad 2), .inl (g.2.1 0, 2000, .inl (aI T))), ((ad 6), .inl (g.2.1 0, 2000, .inl (aI (up BE tn s)))), ((ad 7), .inl (g.2.1 0, 2000, .inl (aI EN)))]) 2 0 d_Mo_next_439 rfl rfl (by omega) (by decide) rfl ?_
                  refine r_aload_n C 0 d_Mo_next_440 rfl rfl ?_
                  refine r_get C 0 7 d_Mo_next_441 ci_Mo fi_Mo_19 rfl (by decide) rfl rfl ?_
                  refine r_aload_n C 0 d_Mo_next_444 rfl rfl ?_
                  refine r_get C 0 5 d_Mo_next_445 ci_Mo fi_Mo_126 rfl (by decide) rfl rfl ?_
                  refine r_aload_n C 0 d_Mo_next_448 rfl rfl ?_
                  refine r_get C 0 20 d_Mo_next_449 ci_Mo fi_Mo_97 rfl (by decide) rfl rfl ?_
                  refine r_nast C (ws' := [(m0, .inr (9, MO ad qth (nI k) (bI qir) (nI tn) qde qru (nI a) (nI a) (nI 2) (nI s) (nI v) (oI w2) qop (bI qiu) qwi qhe qrw qma)), ((ad 2), .inl (g.2.1 0, 2000, .inl (aI T))), ((ad 6), .inl (g.2.1 0, 2000, .inl (aI (up BE tn s)))), ((ad 7), .inl (g.2.1 0, 2000, .inl (aI (up EN tn a))))]) 3 0 d_Mo_next_452 rfl rfl (by omega) (by decide) rfl ?_
                  refine r_aload_n C 0 d_Mo_next_453 rfl rfl ?_
                  refine r_dup C d_Mo_next_454 rfl ?_
                  refine r_get C 0 5 d_Mo_next_455 ci_Mo fi_Mo_126 rfl (by decide) rfl rfl ?_
                  refine r_iconst C (nI 1) d_Mo_next_458 (by decide) ?_
                  refine r_nadd C d_Mo_next_459 ?_
                  refine r_put C (ws' := [(m0, .inr (9, MO ad qth (nI k) (bI qir) (nI (tn + 1)) qde qru (nI a) (nI a) (nI 2) (nI s) (nI v) (oI w2) qop (bI qiu) qwi qhe qrw qma)), ((ad 2), .inl (g.2.1 0, 2000, .inl (aI T))), ((ad 6), .inl (g.2.1 0, 2000, .inl (aI (up BE tn s)))), ((ad 7), .inl (g.2.1 0, 2000, .inl (aI (up EN tn a))))]) 0 5 d_Mo_next_460 ci_Mo fi_Mo_126 rfl (by decide) rfl rfl (rfl) (rfl) (by simp) rfl ?_
                  refine r_vret C E d_Mo_next_463 (by first | decide | omega | (simp only [rmk]; omega)) (by first | decide | omega | (simp only [rmk]; omega)) ?_
                  exact ⟨(2, s, a, some v, none), 2, _, _, _, _, rfl, rfl, nx2 hs he b1 b2 b3 ba b5 b6 (by omega) (fun q => by have := hjo.symm.trans c_377; exact of_decide_eq_false this (Or.inl q.2)), Or.inl ⟨by decide, oI_non (by first | exact hw2 | exact orb hw2 (by omega) | exact orb (orb hw2 (by omega)) (by omega)) c_423, rfl, rfl, rfl⟩⟩
                · skip
                  refine r_vret C E d_Mo_next_426 (by first | decide | omega | (simp only [rmk]; omega)) (by first | decide | omega | (simp only [rmk]; omega)) ?_
                  exact ⟨(2, s, a, some v, none), 2, _, _, _, _, rfl, rfl, nx2 hs he b1 b2 b3 ba b5 b6 (by omega) (fun q => by have := hjo.symm.trans c_377; exact of_decide_eq_false this (Or.inl q.2)), Or.inr ⟨Or.inr (oI_som c_423), rfl, rfl, rfl⟩⟩
              · skip
                refine r_aload_n C 0 d_Mo_next_380 rfl rfl ?_
                refine r_get C 0 22 d_Mo_next_381 ci_Mo fi_Mo_106 rfl (by decide) rfl rfl ?_
                refine r_iload_n C 1 d_Mo_next_384 rfl rfl ?_
                refine r_icmp_ne C 412 d_Mo_next_385 (by decide) (fun c_385 => ?_) (fun c_385 => ?_)
                · skip
                  refine r_aload_n C 0 d_Mo_next_412 rfl rfl ?_
                  refine r_get C 0 21 d_Mo_next_413 ci_Mo fi_Mo_100 rfl (by decide) rfl rfl ?_
                  refine r_nif_eq C 426 d_Mo_next_416 (by decide) (by omega) (fun c_416 => ?_) (fun c_416 => ?_)
                  · exact absurd c_416 (by decide)
                  refine r_aload_n C 0 d_Mo_next_419 rfl rfl ?_
                  refine r_get C 0 24 d_Mo_next_420 ci_Mo fi_Mo_94 rfl (by decide) rfl rfl ?_
                  refine r_if_lt C 427 d_Mo_next_423 (by decide) (fun c_423 => ?_) (fun c_423 => ?_)
                  · skip
                    refine r_aload_n C 0 d_Mo_next_427 rfl rfl ?_
                    refine r_get C 0 6 d_Mo_next_428 ci_Mo fi_Mo_16 rfl (by decide) rfl rfl ?_
                    refine r_aload_n C 0 d_Mo_next_431 rfl rfl ?_
                    refine r_get C 0 5 d_Mo_next_432 ci_Mo fi_Mo_126 rfl (by decide) rfl rfl ?_
                    refine r_aload_n C 0 d_Mo_next_435 rfl rfl ?_
                    refine r_get C 0 22 d_Mo_next_436 ci_Mo fi_Mo_106 rfl (by decide) rfl rfl ?_
                    refine r_nast C (ws' := [(m0, .inr (9, MO ad qth (nI k) (bI qir) (nI tn) qde qru (nI a) (nI a) (nI 2) (nI s) (nI v) (oI w2) qop (bI qiu) qwi qhe qrw qma)), ((ad 2), .inl (g.2.1 0, 2000, .inl (aI T))), ((ad 6), .inl (g.2.1 0, 2000, .inl (aI (up BE tn s)))), ((ad 7), .inl (g.2.1 0, 2000, .inl (aI EN)))]) 2 0 d_Mo_next_439 rfl rfl (by omega) (by decide) rfl ?_
                    refine r_aload_n C 0 d_Mo_next_440 rfl rfl ?_
                    refine r_get C 0 7 d_Mo_next_441 ci_Mo fi_Mo_19 rfl (by decide) rfl rfl ?_
                    refine r_aload_n C 0 d_Mo_next_444 rfl rfl ?_
                    refine r_get C 0 5 d_Mo_next_445 ci_Mo fi_Mo_126 rfl (by decide) rfl rfl ?_
                    refine r_aload_n C 0 d_Mo_next_448 rfl rfl ?_
                    refine r_get C 0 20 d_Mo_next_449 ci_Mo fi_Mo_97 rfl (by decide) rfl rfl ?_
                    refine r_nast C (ws' := [(m0, .inr (9, MO ad qth (nI k) (bI qir) (nI tn) qde qru (nI a) (nI a) (nI 2) (nI s) (nI v) (oI w2) qop (bI qiu) qwi qhe qrw qma)), ((ad 2), .inl (g.2.1 0, 2000, .inl (aI T))), ((ad 6), .inl (g.2.1 0, 2000, .inl (aI (up BE tn s)))), ((ad 7), .inl (g.2.1 0, 2000, .inl (aI (up EN tn a))))]) 3 0 d_Mo_next_452 rfl rfl (by omega) (by decide) rfl ?_
                    refine r_aload_n C 0 d_Mo_next_453 rfl rfl ?_
                    refine r_dup C d_Mo_next_454 rfl ?_
                    refine r_get C 0 5 d_Mo_next_455 ci_Mo fi_Mo_126 rfl (by decide) rfl rfl ?_
                    refine r_iconst C (nI 1) d_Mo_next_458 (by decide) ?_
                    refine r_nadd C d_Mo_next_459 ?_
                    refine r_put C (ws' := [(m0, .inr (9, MO ad qth (nI k) (bI qir) (nI (tn + 1)) qde qru (nI a) (nI a) (nI 2) (nI s) (nI v) (oI w2) qop (bI qiu) qwi qhe qrw qma)), ((ad 2), .inl (g.2.1 0, 2000, .inl (aI T))), ((ad 6), .inl (g.2.1 0, 2000, .inl (aI (up BE tn s)))), ((ad 7), .inl (g.2.1 0, 2000, .inl (aI (up EN tn a))))]) 0 5 d_Mo_next_460 ci_Mo fi_Mo_126 rfl (by decide) rfl rfl (rfl) (rfl) (by simp) rfl ?_
                    refine r_vret C E d_Mo_next_463 (by first | decide | omega | (simp only [rmk]; omega)) (by first | decide | omega | (simp only [rmk]; omega)) ?_
                    exact ⟨(2, s, a, some v, none), 2, _, _, _, _, rfl, rfl, nx2 hs he b1 b2 b3 ba b5 b6 (by omega) (fun q => c_385 (by rw [hq (Or.inl q.2), q.1])), Or.inl ⟨by decide, oI_non (by first | exact hw2 | exact orb hw2 (by omega) | exact orb (orb hw2 (by omega)) (by omega)) c_423, rfl, rfl, rfl⟩⟩
                  · skip
                    refine r_vret C E d_Mo_next_426 (by first | decide | omega | (simp only [rmk]; omega)) (by first | decide | omega | (simp only [rmk]; omega)) ?_
                    exact ⟨(2, s, a, some v, none), 2, _, _, _, _, rfl, rfl, nx2 hs he b1 b2 b3 ba b5 b6 (by omega) (fun q => c_385 (by rw [hq (Or.inl q.2), q.1])), Or.inr ⟨Or.inr (oI_som c_423), rfl, rfl, rfl⟩⟩
                · skip
                  refine r_aload_n C 0 d_Mo_next_388 rfl rfl ?_
                  refine r_get C 0 21 d_Mo_next_389 ci_Mo fi_Mo_100 rfl (by decide) rfl rfl ?_
                  refine r_iconst C (nI 1) d_Mo_next_392 (by decide) ?_
                  refine r_ncmp_eq C 404 d_Mo_next_393 (by decide) (by omega) (by omega) (fun c_393 => ?_) (fun c_393 => ?_)
                  · exact absurd c_393 (by decide)
                  refine r_aload_n C 0 d_Mo_next_396 rfl rfl ?_
                  refine r_get C 0 21 d_Mo_next_397 ci_Mo fi_Mo_100 rfl (by decide) rfl rfl ?_
                  refine r_iconst C (nI 2) d_Mo_next_400 (by decide) ?_
                  refine r_ncmp_ne C 412 d_Mo_next_401 (by decide) (by omega) (by omega) (fun c_401 => ?_) (fun c_401 => ?_)
                  · exact absurd c_401 (by decide)
                  refine r_aload_n C 0 d_Mo_next_404 rfl rfl ?_
                  refine r_aload_n C 0 d_Mo_next_405 rfl rfl ?_
                  refine r_get C 0 22 d_Mo_next_406 ci_Mo fi_Mo_106 rfl (by decide) rfl rfl ?_
                  refine j_callV C (c_Mo_refuse g (xl x) (m0 := m0) (ad := ad) (qth := qth) (qsz := nI k) (qtk := nI tn) (qde := qde) (qru := qru) (qat := nI a) (qen := nI a) (qto := nI 2) (qbe := nI s) (qva := nI v) (qop := qop) (qwi := qwi) (qhe := qhe) (qrw := qrw) (qma := qma) (qir := qir) (qiu := qiu) (wr := w2) (c := s) (by first | assumption | omega | rfl) (by first | exact hw2 | exact hwr | exact orb hw2 (by omega))) (Sp.of (wr := [((ad 2), .inl (g.2.1 0, 2000, .inl (aI T))), ((ad 6), .inl (g.2.1 0, 2000, .inl (aI BE))), ((ad 7), .inl (g.2.1 0, 2000, .inl (aI EN)))]) [0] [1, 2, 3] rfl rfl rfl rfl (by decide)) d_Mo_next_409 lk_Mo_119 mw_Mo_refuse vw_Mo_refuse (q0 := 0) rfl rfl (fit_of hR (by first | decide | (simp only [rmk]; omega)) (by first | decide | (simp only [rmk]; omega)) (by first | decide | (simp only [rmk]; omega)) (by first | decide | (simp only [rmk]; omega))) rfl (cat8 (Nat.le_of_ble_eq_true rfl)) (As := [.int (nI s)]) (rest := []) rfl (fun r_409 w_409 hp_409 => ?_)
                  obtain ⟨rfl, rfl⟩ := hp_409
                  refine r_after (ws' := [(m0, .inr (9, MO ad qth (nI k) (bI qir) (nI tn) qde qru (nI a) (nI a) (nI 2) (nI s) (nI v) (oI (w2.orElse fun _ => some s)) qop (bI qiu) qwi qhe qrw qma)), ((ad 2), .inl (g.2.1 0, 2000, .inl (aI T))), ((ad 6), .inl (g.2.1 0, 2000, .inl (aI BE))), ((ad 7), .inl (g.2.1 0, 2000, .inl (aI EN)))]) (st' := []) (n1 := 0) (n2 := 0) [3, 0, 1, 2] rfl rfl rfl rfl rfl ?_
                  refine r_aload_n C 0 d_Mo_next_412 rfl rfl ?_
                  refine r_get C 0 21 d_Mo_next_413 ci_Mo fi_Mo_100 rfl (by decide) rfl rfl ?_
                  refine r_nif_eq C 426 d_Mo_next_416 (by decide) (by omega) (fun c_416 => ?_) (fun c_416 => ?_)
                  · exact absurd c_416 (by decide)
                  refine r_aload_n C 0 d_Mo_next_419 rfl rfl ?_
                  refine r_get C 0 24 d_Mo_next_420 ci_Mo fi_Mo_94 rfl (by decide) rfl rfl ?_
                  refine r_if_lt C 427 d_Mo_next_423 (by decide) (fun c_423 => ?_) (fun c_423 => ?_)
                  · skip
                    refine r_aload_n C 0 d_Mo_next_427 rfl rfl ?_
                    refine r_get C 0 6 d_Mo_next_428 ci_Mo fi_Mo_16 rfl (by decide) rfl rfl ?_
                    refine r_aload_n C 0 d_Mo_next_431 rfl rfl ?_
                    refine r_get C 0 5 d_Mo_next_432 ci_Mo fi_Mo_126 rfl (by decide) rfl rfl ?_
                    refine r_aload_n C 0 d_Mo_next_435 rfl rfl ?_
                    refine r_get C 0 22 d_Mo_next_436 ci_Mo fi_Mo_106 rfl (by decide) rfl rfl ?_
                    refine r_nast C (ws' := [(m0, .inr (9, MO ad qth (nI k) (bI qir) (nI tn) qde qru (nI a) (nI a) (nI 2) (nI s) (nI v) (oI (w2.orElse fun _ => some s)) qop (bI qiu) qwi qhe qrw qma)), ((ad 2), .inl (g.2.1 0, 2000, .inl (aI T))), ((ad 6), .inl (g.2.1 0, 2000, .inl (aI (up BE tn s)))), ((ad 7), .inl (g.2.1 0, 2000, .inl (aI EN)))]) 2 0 d_Mo_next_439 rfl rfl (by omega) (by decide) rfl ?_
                    refine r_aload_n C 0 d_Mo_next_440 rfl rfl ?_
                    refine r_get C 0 7 d_Mo_next_441 ci_Mo fi_Mo_19 rfl (by decide) rfl rfl ?_
                    refine r_aload_n C 0 d_Mo_next_444 rfl rfl ?_
                    refine r_get C 0 5 d_Mo_next_445 ci_Mo fi_Mo_126 rfl (by decide) rfl rfl ?_
                    refine r_aload_n C 0 d_Mo_next_448 rfl rfl ?_
                    refine r_get C 0 20 d_Mo_next_449 ci_Mo fi_Mo_97 rfl (by decide) rfl rfl ?_
                    refine r_nast C (ws' := [(m0, .inr (9, MO ad qth (nI k) (bI qir) (nI tn) qde qru (nI a) (nI a) (nI 2) (nI s) (nI v) (oI (w2.orElse fun _ => some s)) qop (bI qiu) qwi qhe qrw qma)), ((ad 2), .inl (g.2.1 0, 2000, .inl (aI T))), ((ad 6), .inl (g.2.1 0, 2000, .inl (aI (up BE tn s)))), ((ad 7), .inl (g.2.1 0, 2000, .inl (aI (up EN tn a))))]) 3 0 d_Mo_next_452 rfl rfl (by omega) (by decide) rfl ?_
                    refine r_aload_n C 0 d_Mo_next_453 rfl rfl ?_
                    refine r_dup C d_Mo_next_454 rfl ?_
                    refine r_get C 0 5 d_Mo_next_455 ci_Mo fi_Mo_126 rfl (by decide) rfl rfl ?_
                    refine r_iconst C (nI 1) d_Mo_next_458 (by decide) ?_
                    refine r_nadd C d_Mo_next_459 ?_
                    refine r_put C (ws' := [(m0, .inr (9, MO ad qth (nI k) (bI qir) (nI (tn + 1)) qde qru (nI a) (nI a) (nI 2) (nI s) (nI v) (oI (w2.orElse fun _ => some s)) qop (bI qiu) qwi qhe qrw qma)), ((ad 2), .inl (g.2.1 0, 2000, .inl (aI T))), ((ad 6), .inl (g.2.1 0, 2000, .inl (aI (up BE tn s)))), ((ad 7), .inl (g.2.1 0, 2000, .inl (aI (up EN tn a))))]) 0 5 d_Mo_next_460 ci_Mo fi_Mo_126 rfl (by decide) rfl rfl (rfl) (rfl) (by simp) rfl ?_
                    refine r_vret C E d_Mo_next_463 (by first | decide | omega | (simp only [rmk]; omega)) (by first | decide | omega | (simp only [rmk]; omega)) ?_
                    exact ⟨(4, s, a, some v, none), 2, _, _, _, _, rfl, rfl, nx2j hs he b1 b2 b3 ba b5 (by rw [b6]) (by first | exact Or.inl (by omega) | exact (by have hj1 := of_decide_eq_true (hjo.symm.trans c_377); rw [hq hj1] at c_385; have hj2 := (nI_eq (by omega) (by omega)).mp c_385; exact Or.inr ⟨hj2, hj1.resolve_right fun q => hs2 q ⟨by omega, by rw [← hj2]; exact b3⟩⟩)), Or.inl ⟨by decide, oI_non (by first | exact hw2 | exact orb hw2 (by omega) | exact orb (orb hw2 (by omega)) (by omega)) c_423, rfl, rfl, rfl⟩⟩
                  · skip
                    refine r_vret C E d_Mo_next_426 (by first | decide | omega | (simp only [rmk]; omega)) (by first | decide | omega | (simp only [rmk]; omega)) ?_
                    exact ⟨(4, s, a, some v, none), 2, _, _, _, _, rfl, rfl, nx2j hs he b1 b2 b3 ba b5 (by rw [b6]) (by first | exact Or.inl (by omega) | exact (by have hj1 := of_decide_eq_true (hjo.symm.trans c_377); rw [hq hj1] at c_385; have hj2 := (nI_eq (by omega) (by omega)).mp c_385; exact Or.inr ⟨hj2, hj1.resolve_right fun q => hs2 q ⟨by omega, by rw [← hj2]; exact b3⟩⟩)), Or.inr ⟨Or.inr (oI_som c_423), rfl, rfl, rfl⟩⟩
            · skip
              refine r_aload_n C 0 d_Mo_next_368 rfl rfl ?_
              refine r_aload_n C 0 d_Mo_next_369 rfl rfl ?_
              refine r_get C 0 22 d_Mo_next_370 ci_Mo fi_Mo_106 rfl (by decide) rfl rfl ?_
              refine j_callV C (c_Mo_refuse g (xl x) (m0 := m0) (ad := ad) (qth := qth) (qsz := nI k) (qtk := nI tn) (qde := qde) (qru := qru) (qat := nI a) (qen := nI a) (qto := nI 2) (qbe := nI s) (qva := nI v) (qop := qop) (qwi := qwi) (qhe := qhe) (qrw := qrw) (qma := qma) (qir := qir) (qiu := qiu) (wr := w2) (c := s) (by first | assumption | omega | rfl) (by first | exact hw2 | exact hwr | exact orb hw2 (by omega))) (Sp.of (wr := [((ad 2), .inl (g.2.1 0, 2000, .inl (aI T))), ((ad 6), .inl (g.2.1 0, 2000, .inl (aI BE))), ((ad 7), .inl (g.2.1 0, 2000, .inl (aI EN)))]) [0] [1, 2, 3] rfl rfl rfl rfl (by decide)) d_Mo_next_373 lk_Mo_119 mw_Mo_refuse vw_Mo_refuse (q0 := 0) rfl rfl (fit_of hR (by first | decide | (simp only [rmk]; omega)) (by first | decide | (simp only [rmk]; omega)) (by first | decide | (simp only [rmk]; omega)) (by first | decide | (simp only [rmk]; omega))) rfl (cat8 (Nat.le_of_ble_eq_true rfl)) (As := [.int (nI s)]) (rest := []) rfl (fun r_373 w_373 hp_373 => ?_)
              obtain ⟨rfl, rfl⟩ := hp_373
              refine r_after (ws' := [(m0, .inr (9, MO ad qth (nI k) (bI qir) (nI tn) qde qru (nI a) (nI a) (nI 2) (nI s) (nI v) (oI (w2.orElse fun _ => some s)) qop (bI qiu) qwi qhe qrw qma)), ((ad 2), .inl (g.2.1 0, 2000, .inl (aI T))), ((ad 6), .inl (g.2.1 0, 2000, .inl (aI BE))), ((ad 7), .inl (g.2.1 0, 2000, .inl (aI EN)))]) (st' := []) (n1 := 0) (n2 := 0) [3, 0, 1, 2] rfl rfl rfl rfl rfl ?_
              refine r_iload_n C 2 d_Mo_next_376 rfl rfl ?_
              refine r_bif_eq C 412 d_Mo_next_377 (by decide) (fun c_377 => ?_) (fun c_377 => ?_)
              · skip
                refine r_aload_n C 0 d_Mo_next_412 rfl rfl ?_
                refine r_get C 0 21 d_Mo_next_413 ci_Mo fi_Mo_100 rfl (by decide) rfl rfl ?_
                refine r_nif_eq C 426 d_Mo_next_416 (by decide) (by omega) (fun c_416 => ?_) (fun c_416 => ?_)
                · exact absurd c_416 (by decide)
                refine r_aload_n C 0 d_Mo_next_419 rfl rfl ?_
                refine r_get C 0 24 d_Mo_next_420 ci_Mo fi_Mo_94 rfl (by decide) rfl rfl ?_
                refine r_if_lt C 427 d_Mo_next_423 (by decide) (fun c_423 => ?_) (fun c_423 => ?_)
                · skip
                  refine r_aload_n C 0 d_Mo_next_427 rfl rfl ?_
                  refine r_get C 0 6 d_Mo_next_428 ci_Mo fi_Mo_16 rfl (by decide) rfl rfl ?_
                  refine r_aload_n C 0 d_Mo_next_431 rfl rfl ?_
                  refine r_get C 0 5 d_Mo_next_432 ci_Mo fi_Mo_126 rfl (by decide) rfl rfl ?_
                  refine r_aload_n C 0 d_Mo_next_435 rfl rfl ?_
                  refine r_get C 0 22 d_Mo_next_436 ci_Mo fi_Mo_106 rfl (by decide) rfl rfl ?_
                  refine r_nast C (ws' := [(m0, .inr (9, MO ad qth (nI k) (bI qir) (nI tn) qde qru (nI a) (nI a) (nI 2) (nI s) (nI v) (oI (w2.orElse fun _ => some s)) qop (bI qiu) qwi qhe qrw qma)), ((ad 2), .inl (g.2.1 0, 2000, .inl (aI T))), ((ad 6), .inl (g.2.1 0, 2000, .inl (aI (up BE tn s)))), ((ad 7), .inl (g.2.1 0, 2000, .inl (aI EN)))]) 2 0 d_Mo_next_439 rfl rfl (by omega) (by decide) rfl ?_
                  refine r_aload_n C 0 d_Mo_next_440 rfl rfl ?_
                  refine r_get C 0 7 d_Mo_next_441 ci_Mo fi_Mo_19 rfl (by decide) rfl rfl ?_
                  refine r_aload_n C 0 d_Mo_next_444 rfl rfl ?_
                  refine r_get C 0 5 d_Mo_next_445 ci_Mo fi_Mo_126 rfl (by decide) rfl rfl ?_
                  refine r_aload_n C 0 d_Mo_next_448 rfl rfl ?_
                  refine r_get C 0 20 d_Mo_next_449 ci_Mo fi_Mo_97 rfl (by decide) rfl rfl ?_
                  refine r_nast C (ws' := [(m0, .inr (9, MO ad qth (nI k) (bI qir) (nI tn) qde qru (nI a) (nI a) (nI 2) (nI s) (nI v) (oI (w2.orElse fun _ => some s)) qop (bI qiu) qwi qhe qrw qma)), ((ad 2), .inl (g.2.1 0, 2000, .inl (aI T))), ((ad 6), .inl (g.2.1 0, 2000, .inl (aI (up BE tn s)))), ((ad 7), .inl (g.2.1 0, 2000, .inl (aI (up EN tn a))))]) 3 0 d_Mo_next_452 rfl rfl (by omega) (by decide) rfl ?_
                  refine r_aload_n C 0 d_Mo_next_453 rfl rfl ?_
                  refine r_dup C d_Mo_next_454 rfl ?_
                  refine r_get C 0 5 d_Mo_next_455 ci_Mo fi_Mo_126 rfl (by decide) rfl rfl ?_
                  refine r_iconst C (nI 1) d_Mo_next_458 (by decide) ?_
                  refine r_nadd C d_Mo_next_459 ?_
                  refine r_put C (ws' := [(m0, .inr (9, MO ad qth (nI k) (bI qir) (nI (tn + 1)) qde qru (nI a) (nI a) (nI 2) (nI s) (nI v) (oI (w2.orElse fun _ => some s)) qop (bI qiu) qwi qhe qrw qma)), ((ad 2), .inl (g.2.1 0, 2000, .inl (aI T))), ((ad 6), .inl (g.2.1 0, 2000, .inl (aI (up BE tn s)))), ((ad 7), .inl (g.2.1 0, 2000, .inl (aI (up EN tn a))))]) 0 5 d_Mo_next_460 ci_Mo fi_Mo_126 rfl (by decide) rfl rfl (rfl) (rfl) (by simp) rfl ?_
                  refine r_vret C E d_Mo_next_463 (by first | decide | omega | (simp only [rmk]; omega)) (by first | decide | omega | (simp only [rmk]; omega)) ?_
                  exact ⟨(4, s, a, some v, none), 2, _, _, _, _, rfl, rfl, nx2j hs he b1 b2 b3 ba b5 (by rw [b6]) (by first | exact Or.inl (by omega) | exact (by have hj1 := of_decide_eq_true (hjo.symm.trans c_377); rw [hq hj1] at c_385; have hj2 := (nI_eq (by omega) (by omega)).mp c_385; exact Or.inr ⟨hj2, hj1.resolve_right fun q => hs2 q ⟨by omega, by rw [← hj2]; exact b3⟩⟩)), Or.inl ⟨by decide, oI_non (by first | exact hw2 | exact orb hw2 (by omega) | exact orb (orb hw2 (by omega)) (by omega)) c_423, rfl, rfl, rfl⟩⟩
                · skip
                  refine r_vret C E d_Mo_next_426 (by first | decide | omega | (simp only [rmk]; omega)) (by first | decide | omega | (simp only [rmk]; omega)) ?_
                  exact ⟨(4, s, a, some v, none), 2, _, _, _, _, rfl, rfl, nx2j hs he b1 b2 b3 ba b5 (by rw [b6]) (by first | exact Or.inl (by omega) | exact (by have hj1 := of_decide_eq_true (hjo.symm.trans c_377); rw [hq hj1] at c_385; have hj2 := (nI_eq (by omega) (by omega)).mp c_385; exact Or.inr ⟨hj2, hj1.resolve_right fun q => hs2 q ⟨by omega, by rw [← hj2]; exact b3⟩⟩)), Or.inr ⟨Or.inr (oI_som c_423), rfl, rfl, rfl⟩⟩
              · skip
                refine r_aload_n C 0 d_Mo_next_380 rfl rfl ?_
                refine r_get C 0 22 d_Mo_next_381 ci_Mo fi_Mo_106 rfl (by decide) rfl rfl ?_
                refine r_iload_n C 1 d_Mo_next_384 rfl rfl ?_
                refine r_icmp_ne C 412 d_Mo_next_385 (by decide) (fun c_385 => ?_) (fun c_385 => ?_)
                · skip
                  refine r_aload_n C 0 d_Mo_next_412 rfl rfl ?_
                  refine r_get C 0 21 d_Mo_next_413 ci_Mo fi_Mo_100 rfl (by decide) rfl rfl ?_
                  refine r_nif_eq C 426 d_Mo_next_416 (by decide) (by omega) (fun c_416 => ?_) (fun c_416 => ?_)
                  · exact absurd c_416 (by decide)
                  refine r_aload_n C 0 d_Mo_next_419 rfl rfl ?_
                  refine r_get C 0 24 d_Mo_next_420 ci_Mo fi_Mo_94 rfl (by decide) rfl rfl ?_
                  refine r_if_lt C 427 d_Mo_next_423 (by decide) (fun c_423 => ?_) (fun c_423 => ?_)
                  · skip
                    refine r_aload_n C 0 d_Mo_next_427 rfl rfl ?_
                    refine r_get C 0 6 d_Mo_next_428 ci_Mo fi_Mo_16 rfl (by decide) rfl rfl ?_
                    refine r_aload_n C 0 d_Mo_next_431 rfl rfl ?_
                    refine r_get C 0 5 d_Mo_next_432 ci_Mo fi_Mo_126 rfl (by decide) rfl rfl ?_
                    refine r_aload_n C 0 d_Mo_next_435 rfl rfl ?_
                    refine r_get C 0 22 d_Mo_next_436 ci_Mo fi_Mo_106 rfl (by decide) rfl rfl ?_
                    refine r_nast C (ws' := [(m0, .inr (9, MO ad qth (nI k) (bI qir) (nI tn) qde qru (nI a) (nI a) (nI 2) (nI s) (nI v) (oI (w2.orElse fun _ => some s)) qop (bI qiu) qwi qhe qrw qma)), ((ad 2), .inl (g.2.1 0, 2000, .inl (aI T))), ((ad 6), .inl (g.2.1 0, 2000, .inl (aI (up BE tn s)))), ((ad 7), .inl (g.2.1 0, 2000, .inl (aI EN)))]) 2 0 d_Mo_next_439 rfl rfl (by omega) (by decide) rfl ?_
                    refine r_aload_n C 0 d_Mo_next_440 rfl rfl ?_
                    refine r_get C 0 7 d_Mo_next_441 ci_Mo fi_Mo_19 rfl (by decide) rfl rfl ?_
                    refine r_aload_n C 0 d_Mo_next_444 rfl rfl ?_
                    refine r_get C 0 5 d_Mo_next_445 ci_Mo fi_Mo_126 rfl (by decide) rfl rfl ?_
                    refine r_aload_n C 0 d_Mo_next_448 rfl rfl ?_
                    refine r_get C 0 20 d_Mo_next_449 ci_Mo fi_Mo_97 rfl (by decide) rfl rfl ?_
                    refine r_nast C (ws' := [(m0, .inr (9, MO ad qth (nI k) (bI qir) (nI tn) qde qru (nI a) (nI a) (nI 2) (nI s) (nI v) (oI (w2.orElse fun _ => some s)) qop (bI qiu) qwi qhe qrw qma)), ((ad 2), .inl (g.2.1 0, 2000, .inl (aI T))), ((ad 6), .inl (g.2.1 0, 2000, .inl (aI (up BE tn s)))), ((ad 7), .inl (g.2.1 0, 2000, .inl (aI (up EN tn a))))]) 3 0 d_Mo_next_452 rfl rfl (by omega) (by decide) rfl ?_
                    refine r_aload_n C 0 d_Mo_next_453 rfl rfl ?_
                    refine r_dup C d_Mo_next_454 rfl ?_
                    refine r_get C 0 5 d_Mo_next_455 ci_Mo fi_Mo_126 rfl (by decide) rfl rfl ?_
                    refine r_iconst C (nI 1) d_Mo_next_458 (by decide) ?_
                    refine r_nadd C d_Mo_next_459 ?_
                    refine r_put C (ws' := [(m0, .inr (9, MO ad qth (nI k) (bI qir) (nI (tn + 1)) qde qru (nI a) (nI a) (nI 2) (nI s) (nI v) (oI (w2.orElse fun _ => some s)) qop (bI qiu) qwi qhe qrw qma)), ((ad 2), .inl (g.2.1 0, 2000, .inl (aI T))), ((ad 6), .inl (g.2.1 0, 2000, .inl (aI (up BE tn s)))), ((ad 7), .inl (g.2.1 0, 2000, .inl (aI (up EN tn a))))]) 0 5 d_Mo_next_460 ci_Mo fi_Mo_126 rfl (by decide) rfl rfl (rfl) (rfl) (by simp) rfl ?_
                    refine r_vret C E d_Mo_next_463 (by first | decide | omega | (simp only [rmk]; omega)) (by first | decide | omega | (simp only [rmk]; omega)) ?_
                    exact ⟨(4, s, a, some v, none), 2, _, _, _, _, rfl, rfl, nx2j hs he b1 b2 b3 ba b5 (by rw [b6]) (by first | exact Or.inl (by omega) | exact (by have hj1 := of_decide_eq_true (hjo.symm.trans c_377); rw [hq hj1] at c_385; have hj2 := (nI_eq (by omega) (by omega)).mp c_385; exact Or.inr ⟨hj2, hj1.resolve_right fun q => hs2 q ⟨by omega, by rw [← hj2]; exact b3⟩⟩)), Or.inl ⟨by decide, oI_non (by first | exact hw2 | exact orb hw2 (by omega) | exact orb (orb hw2 (by omega)) (by omega)) c_423, rfl, rfl, rfl⟩⟩
                  · skip
                    refine r_vret C E d_Mo_next_426 (by first | decide | omega | (simp only [rmk]; omega)) (by first | decide | omega | (simp only [rmk]; omega)) ?_
                    exact ⟨(4, s, a, some v, none), 2, _, _, _, _, rfl, rfl, nx2j hs he b1 b2 b3 ba b5 (by rw [b6]) (by first | exact Or.inl (by omega) | exact (by have hj1 := of_decide_eq_true (hjo.symm.trans c_377); rw [hq hj1] at c_385; have hj2 := (nI_eq (by omega) (by omega)).mp c_385; exact Or.inr ⟨hj2, hj1.resolve_right fun q => hs2 q ⟨by omega, by rw [← hj2]; exact b3⟩⟩)), Or.inr ⟨Or.inr (oI_som c_423), rfl, rfl, rfl⟩⟩
                · skip
                  refine r_aload_n C 0 d_Mo_next_388 rfl rfl ?_
                  refine r_get C 0 21 d_Mo_next_389 ci_Mo fi_Mo_100 rfl (by decide) rfl rfl ?_
                  refine r_iconst C (nI 1) d_Mo_next_392 (by decide) ?_
                  refine r_ncmp_eq C 404 d_Mo_next_393 (by decide) (by omega) (by omega) (fun c_393 => ?_) (fun c_393 => ?_)
                  · exact absurd c_393 (by decide)
                  refine r_aload_n C 0 d_Mo_next_396 rfl rfl ?_
                  refine r_get C 0 21 d_Mo_next_397 ci_Mo fi_Mo_100 rfl (by decide) rfl rfl ?_
                  refine r_iconst C (nI 2) d_Mo_next_400 (by decide) ?_
                  refine r_ncmp_ne C 412 d_Mo_next_401 (by decide) (by omega) (by omega) (fun c_401 => ?_) (fun c_401 => ?_)
                  · exact absurd c_401 (by decide)
                  refine r_aload_n C 0 d_Mo_next_404 rfl rfl ?_
                  refine r_aload_n C 0 d_Mo_next_405 rfl rfl ?_
                  refine r_get C 0 22 d_Mo_next_406 ci_Mo fi_Mo_106 rfl (by decide) rfl rfl ?_
                  refine j_callV C (c_Mo_refuse g (xl x) (m0 := m0) (ad := ad) (qth := qth) (qsz := nI k) (qtk := nI tn) (qde := qde) (qru := qru) (qat := nI a) (qen := nI a) (qto := nI 2) (qbe := nI s) (qva := nI v) (qop := qop) (qwi := qwi) (qhe := qhe) (qrw := qrw) (qma := qma) (qir := qir) (qiu := qiu) (wr := w2.orElse fun _ => some s) (c := s) (by first | assumption | omega | rfl) (by first | exact hw2 | exact hwr | exact orb hw2 (by omega))) (Sp.of (wr := [((ad 2), .inl (g.2.1 0, 2000, .inl (aI T))), ((ad 6), .inl (g.2.1 0, 2000, .inl (aI BE))), ((ad 7), .inl (g.2.1 0, 2000, .inl (aI EN)))]) [0] [1, 2, 3] rfl rfl rfl rfl (by decide)) d_Mo_next_409 lk_Mo_119 mw_Mo_refuse vw_Mo_refuse (q0 := 0) rfl rfl (fit_of hR (by first | decide | (simp only [rmk]; omega)) (by first | decide | (simp only [rmk]; omega)) (by first | decide | (simp only [rmk]; omega)) (by first | decide | (simp only [rmk]; omega))) rfl (cat8 (Nat.le_of_ble_eq_true rfl)) (As := [.int (nI s)]) (rest := []) rfl (fun r_409 w_409 hp_409 => ?_)
                  obtain ⟨rfl, rfl⟩ := hp_409
                  refine r_after (ws' := [(m0, .inr (9, MO ad qth (nI k) (bI qir) (nI tn) qde qru (nI a) (nI a) (nI 2) (nI s) (nI v) (oI ((w2.orElse fun _ => some s).orElse fun _ => some s)) qop (bI qiu) qwi qhe qrw qma)), ((ad 2), .inl (g.2.1 0, 2000, .inl (aI T))), ((ad 6), .inl (g.2.1 0, 2000, .inl (aI BE))), ((ad 7), .inl (g.2.1 0, 2000, .inl (aI EN)))]) (st' := []) (n1 := 0) (n2 := 0) [3, 0, 1, 2] rfl rfl rfl rfl rfl ?_
                  refine r_aload_n C 0 d_Mo_next_412 rfl rfl ?_
                  refine r_get C 0 21 d_Mo_next_413 ci_Mo fi_Mo_100 rfl (by decide) rfl rfl ?_
                  refine r_nif_eq C 426 d_Mo_next_416 (by decide) (by omega) (fun c_416 => ?_) (fun c_416 => ?_)
                  · exact absurd c_416 (by decide)
                  refine r_aload_n C 0 d_Mo_next_419 rfl rfl ?_
                  refine r_get C 0 24 d_Mo_next_420 ci_Mo fi_Mo_94 rfl (by decide) rfl rfl ?_
                  refine r_if_lt C 427 d_Mo_next_423 (by decide) (fun c_423 => ?_) (fun c_423 => ?_)
                  · skip
                    refine r_aload_n C 0 d_Mo_next_427 rfl rfl ?_
                    refine r_get C 0 6 d_Mo_next_428 ci_Mo fi_Mo_16 rfl (by decide) rfl rfl ?_
                    refine r_aload_n C 0 d_Mo_next_431 rfl rfl ?_
                    refine r_get C 0 5 d_Mo_next_432 ci_Mo fi_Mo_126 rfl (by decide) rfl rfl ?_
                    refine r_aload_n C 0 d_Mo_next_435 rfl rfl ?_
                    refine r_get C 0 22 d_Mo_next_436 ci_Mo fi_Mo_106 rfl (by decide) rfl rfl ?_
                    refine r_nast C (ws' := [(m0, .inr (9, MO ad qth (nI k) (bI qir) (nI tn) qde qru (nI a) (nI a) (nI 2) (nI s) (nI v) (oI ((w2.orElse fun _ => some s).orElse fun _ => some s)) qop (bI qiu) qwi qhe qrw qma)), ((ad 2), .inl (g.2.1 0, 2000, .inl (aI T))), ((ad 6), .inl (g.2.1 0, 2000, .inl (aI (up BE tn s)))), ((ad 7), .inl (g.2.1 0, 2000, .inl (aI EN)))]) 2 0 d_Mo_next_439 rfl rfl (by omega) (by decide) rfl ?_
                    refine r_aload_n C 0 d_Mo_next_440 rfl rfl ?_
                    refine r_get C 0 7 d_Mo_next_441 ci_Mo fi_Mo_19 rfl (by decide) rfl rfl ?_
                    refine r_aload_n C 0 d_Mo_next_444 rfl rfl ?_
                    refine r_get C 0 5 d_Mo_next_445 ci_Mo fi_Mo_126 rfl (by decide) rfl rfl ?_
                    refine r_aload_n C 0 d_Mo_next_448 rfl rfl ?_
                    refine r_get C 0 20 d_Mo_next_449 ci_Mo fi_Mo_97 rfl (by decide) rfl rfl ?_
                    refine r_nast C (ws' := [(m0, .inr (9, MO ad qth (nI k) (bI qir) (nI tn) qde qru (nI a) (nI a) (nI 2) (nI s) (nI v) (oI ((w2.orElse fun _ => some s).orElse fun _ => some s)) qop (bI qiu) qwi qhe qrw qma)), ((ad 2), .inl (g.2.1 0, 2000, .inl (aI T))), ((ad 6), .inl (g.2.1 0, 2000, .inl (aI (up BE tn s)))), ((ad 7), .inl (g.2.1 0, 2000, .inl (aI (up EN tn a))))]) 3 0 d_Mo_next_452 rfl rfl (by omega) (by decide) rfl ?_
                    refine r_aload_n C 0 d_Mo_next_453 rfl rfl ?_
                    refine r_dup C d_Mo_next_454 rfl ?_
                    refine r_get C 0 5 d_Mo_next_455 ci_Mo fi_Mo_126 rfl (by decide) rfl rfl ?_
                    refine r_iconst C (nI 1) d_Mo_next_458 (by decide) ?_
                    refine r_nadd C d_Mo_next_459 ?_
                    refine r_put C (ws' := [(m0, .inr (9, MO ad qth (nI k) (bI qir) (nI (tn + 1)) qde qru (nI a) (nI a) (nI 2) (nI s) (nI v) (oI ((w2.orElse fun _ => some s).orElse fun _ => some s)) qop (bI qiu) qwi qhe qrw qma)), ((ad 2), .inl (g.2.1 0, 2000, .inl (aI T))), ((ad 6), .inl (g.2.1 0, 2000, .inl (aI (up BE tn s)))), ((ad 7), .inl (g.2.1 0, 2000, .inl (aI (up EN tn a))))]) 0 5 d_Mo_next_460 ci_Mo fi_Mo_126 rfl (by decide) rfl rfl (rfl) (rfl) (by simp) rfl ?_
                    refine r_vret C E d_Mo_next_463 (by first | decide | omega | (simp only [rmk]; omega)) (by first | decide | omega | (simp only [rmk]; omega)) ?_
                    exact ⟨(4, s, a, some v, none), 2, _, _, _, _, rfl, rfl, nx2j hs he b1 b2 b3 ba b5 (by rw [b6]; exact or2) (Or.inl (by omega)), Or.inl ⟨by decide, oI_non (by first | exact hw2 | exact orb hw2 (by omega) | exact orb (orb hw2 (by omega)) (by omega)) c_423, rfl, rfl, rfl⟩⟩
                  · skip
                    refine r_vret C E d_Mo_next_426 (by first | decide | omega | (simp only [rmk]; omega)) (by first | decide | omega | (simp only [rmk]; omega)) ?_
                    exact ⟨(4, s, a, some v, none), 2, _, _, _, _, rfl, rfl, nx2j hs he b1 b2 b3 ba b5 (by rw [b6]; exact or2) (Or.inl (by omega)), Or.inr ⟨Or.inr (oI_som c_423), rfl, rfl, rfl⟩⟩
          · skip
            refine r_aload_n C 0 d_Mo_next_338 rfl rfl ?_
            refine r_aload_n C 0 d_Mo_next_339 rfl rfl ?_
            refine r_get C 0 19 d_Mo_next_340 ci_Mo fi_Mo_103 rfl (by decide) rfl rfl ?_
            refine r_put C (ws' := [(m0, .inr (9, MO ad qth (nI k) (bI qir) (nI tn) qde qru (nI a) (nI a) (nI 3) (nI s) (nI 0) (oI w2) qop (bI qiu) qwi qhe qrw qma)), ((ad 2), .inl (g.2.1 0, 2000, .inl (aI T))), ((ad 6), .inl (g.2.1 0, 2000, .inl (aI BE))), ((ad 7), .inl (g.2.1 0, 2000, .inl (aI EN)))]) 0 20 d_Mo_next_343 ci_Mo fi_Mo_97 rfl (by decide) rfl rfl (rfl) (rfl) (by simp) rfl ?_
            refine r_aload_n C 0 d_Mo_next_346 rfl rfl ?_
            refine r_get C 0 21 d_Mo_next_347 ci_Mo fi_Mo_100 rfl (by decide) rfl rfl ?_
            refine r_iconst C (nI 2) d_Mo_next_350 (by decide) ?_
            refine r_ncmp_ne C 376 d_Mo_next_351 (by decide) (by omega) (by omega) (fun c_351 => ?_) (fun c_351 => ?_)
            rotate_left
            · exact absurd c_351 (by decide)
            refine r_iload_n C 2 d_Mo_next_376 rfl rfl ?_
            refine r_bif_eq C 412 d_Mo_next_377 (by decide) (fun c_377 => ?_) (fun c_377 => ?_)
            · skip
              refine r_aload_n C 0 d_Mo_next_412 rfl rfl ?_
              refine r_get C 0 21 d_Mo_next_413 ci_Mo fi_Mo_100 rfl (by decide) rfl rfl ?_
              refine r_nif_eq C 426 d_Mo_next_416 (by decide) (by omega) (fun c_416 => ?_) (fun c_416 => ?_)
              · exact absurd c_416 (by decide)
              refine r_aload_n C 0 d_Mo_next_419 rfl rfl ?_
              refine r_get C 0 24 d_Mo_next_420 ci_Mo fi_Mo_94 rfl (by decide) rfl rfl ?_
              refine r_if_lt C 427 d_Mo_next_423 (by decide) (fun c_423 => ?_) (fun c_423 => ?_)
              · skip
                refine r_aload_n C 0 d_Mo_next_427 rfl rfl ?_
                refine r_get C 0 6 d_Mo_next_428 ci_Mo fi_Mo_16 rfl (by decide) rfl rfl ?_
                refine r_aload_n C 0 d_Mo_next_431 rfl rfl ?_
                refine r_get C 0 5 d_Mo_next_432 ci_Mo fi_Mo_126 rfl (by decide) rfl rfl ?_
                refine r_aload_n C 0 d_Mo_next_435 rfl rfl ?_
                refine r_get C 0 22 d_Mo_next_436 ci_Mo fi_Mo_106 rfl (by decide) rfl rfl ?_
                refine r_nast C (ws' := [(m0, .inr (9, MO ad qth (nI k) (bI qir) (nI tn) qde qru (nI a) (nI a) (nI 3) (nI s) (nI 0) (oI w2) qop (bI qiu) qwi qhe qrw qma)), ((ad 2), .inl (g.2.1 0, 2000, .inl (aI T))), ((ad 6), .inl (g.2.1 0, 2000, .inl (aI (up BE tn s)))), ((ad 7), .inl (g.2.1 0, 2000, .inl (aI EN)))]) 2 0 d_Mo_next_439 rfl rfl (by omega) (by decide) rfl ?_
                refine r_aload_n C 0 d_Mo_next_440 rfl rfl ?_
                refine r_get C 0 7 d_Mo_next_441 ci_Mo fi_Mo_19 rfl (by decide) rfl rfl ?_
                refine r_aload_n C 0 d_Mo_next_444 rfl rfl ?_
                refine r_get C 0 5 d_Mo_next_445 ci_Mo fi_Mo_126 rfl (by decide) rfl rfl ?_
                refine r_aload_n C 0 d_Mo_next_448 rfl rfl ?_
                refine r_get C 0 20 d_Mo_next_449 ci_Mo fi_Mo_97 rfl (by decide) rfl rfl ?_
                refine r_nast C (ws' := [(m0, .inr (9, MO ad qth (nI k) (bI qir) (nI tn) qde qru (nI a) (nI a) (nI 3) (nI s) (nI 0) (oI w2) qop (bI qiu) qwi qhe qrw qma)), ((ad 2), .inl (g.2.1 0, 2000, .inl (aI T))), ((ad 6), .inl (g.2.1 0, 2000, .inl (aI (up BE tn s)))), ((ad 7), .inl (g.2.1 0, 2000, .inl (aI (up EN tn a))))]) 3 0 d_Mo_next_452 rfl rfl (by omega) (by decide) rfl ?_
                refine r_aload_n C 0 d_Mo_next_453 rfl rfl ?_
                refine r_dup C d_Mo_next_454 rfl ?_
                refine r_get C 0 5 d_Mo_next_455 ci_Mo fi_Mo_126 rfl (by decide) rfl rfl ?_
                refine r_iconst C (nI 1) d_Mo_next_458 (by decide) ?_
                refine r_nadd C d_Mo_next_459 ?_
                refine r_put C (ws' := [(m0, .inr (9, MO ad qth (nI k) (bI qir) (nI (tn + 1)) qde qru (nI a) (nI a) (nI 3) (nI s) (nI 0) (oI w2) qop (bI qiu) qwi qhe qrw qma)), ((ad 2), .inl (g.2.1 0, 2000, .inl (aI T))), ((ad 6), .inl (g.2.1 0, 2000, .inl (aI (up BE tn s)))), ((ad 7), .inl (g.2.1 0, 2000, .inl (aI (up EN tn a))))]) 0 5 d_Mo_next_460 ci_Mo fi_Mo_126 rfl (by decide) rfl rfl (rfl) (rfl) (by simp) rfl ?_
                refine r_vret C E d_Mo_next_463 (by first | decide | omega | (simp only [rmk]; omega)) (by first | decide | omega | (simp only [rmk]; omega)) ?_
                exact ⟨(if isSgn (T s) = true then 3 else 4, s, a, some (T s), none), 3, _, _, _, _, rfl, rfl, nx3 hs he b1 b2 b3 b4 b5, Or.inl ⟨by decide, oI_non (by first | exact hw2 | exact orb hw2 (by omega) | exact orb (orb hw2 (by omega)) (by omega)) c_423, rfl, rfl, rfl⟩⟩
              · skip
                refine r_vret C E d_Mo_next_426 (by first | decide | omega | (simp only [rmk]; omega)) (by first | decide | omega | (simp only [rmk]; omega)) ?_
                exact ⟨(if isSgn (T s) = true then 3 else 4, s, a, some (T s), none), 3, _, _, _, _, rfl, rfl, nx3 hs he b1 b2 b3 b4 b5, Or.inr ⟨Or.inr (oI_som c_423), rfl, rfl, rfl⟩⟩
            · skip
              refine r_aload_n C 0 d_Mo_next_380 rfl rfl ?_
              refine r_get C 0 22 d_Mo_next_381 ci_Mo fi_Mo_106 rfl (by decide) rfl rfl ?_
              refine r_iload_n C 1 d_Mo_next_384 rfl rfl ?_
              refine r_icmp_ne C 412 d_Mo_next_385 (by decide) (fun c_385 => ?_) (fun c_385 => ?_)
              · skip
                refine r_aload_n C 0 d_Mo_next_412 rfl rfl ?_
                refine r_get C 0 21 d_Mo_next_413 ci_Mo fi_Mo_100 rfl (by decide) rfl rfl ?_
                refine r_nif_eq C 426 d_Mo_next_416 (by decide) (by omega) (fun c_416 => ?_) (fun c_416 => ?_)
                · exact absurd c_416 (by decide)
                refine r_aload_n C 0 d_Mo_next_419 rfl rfl ?_
                refine r_get C 0 24 d_Mo_next_420 ci_Mo fi_Mo_94 rfl (by decide) rfl rfl ?_
                refine r_if_lt C 427 d_Mo_next_423 (by decide) (fun c_423 => ?_) (fun c_423 => ?_)
                · skip
                  refine r_aload_n C 0 d_Mo_next_427 rfl rfl ?_
                  refine r_get C 0 6 d_Mo_next_428 ci_Mo fi_Mo_16 rfl (by decide) rfl rfl ?_
                  refine r_aload_n C 0 d_Mo_next_431 rfl rfl ?_
                  refine r_get C 0 5 d_Mo_next_432 ci_Mo fi_Mo_126 rfl (by decide) rfl rfl ?_
                  refine r_aload_n C 0 d_Mo_next_435 rfl rfl ?_
                  refine r_get C 0 22 d_Mo_next_436 ci_Mo fi_Mo_106 rfl (by decide) rfl rfl ?_
                  refine r_nast C (ws' := [(m0, .inr (9, MO ad qth (nI k) (bI qir) (nI tn) qde qru (nI a) (nI a) (nI 3) (nI s) (nI 0) (oI w2) qop (bI qiu) qwi qhe qrw qma)), ((ad 2), .inl (g.2.1 0, 2000, .inl (aI T))), ((ad 6), .inl (g.2.1 0, 2000, .inl (aI (up BE tn s)))), ((ad 7), .inl (g.2.1 0, 2000, .inl (aI EN)))]) 2 0 d_Mo_next_439 rfl rfl (by omega) (by decide) rfl ?_
                  refine r_aload_n C 0 d_Mo_next_440 rfl rfl ?_
                  refine r_get C 0 7 d_Mo_next_441 ci_Mo fi_Mo_19 rfl (by decide) rfl rfl ?_
                  refine r_aload_n C 0 d_Mo_next_444 rfl rfl ?_
                  refine r_get C 0 5 d_Mo_next_445 ci_Mo fi_Mo_126 rfl (by decide) rfl rfl ?_
                  refine r_aload_n C 0 d_Mo_next_448 rfl rfl ?_
                  refine r_get C 0 20 d_Mo_next_449 ci_Mo fi_Mo_97 rfl (by decide) rfl rfl ?_
                  refine r_nast C (ws' := [(m0, .inr (9, MO ad qth (nI k) (bI qir) (nI tn) qde qru (nI a) (nI a) (nI 3) (nI s) (nI 0) (oI w2) qop (bI qiu) qwi qhe qrw qma)), ((ad 2), .inl (g.2.1 0, 2000, .inl (aI T))), ((ad 6), .inl (g.2.1 0, 2000, .inl (aI (up BE tn s)))), ((ad 7), .inl (g.2.1 0, 2000, .inl (aI (up EN tn a))))]) 3 0 d_Mo_next_452 rfl rfl (by omega) (by decide) rfl ?_
                  refine r_aload_n C 0 d_Mo_next_453 rfl rfl ?_
                  refine r_dup C d_Mo_next_454 rfl ?_
                  refine r_get C 0 5 d_Mo_next_455 ci_Mo fi_Mo_126 rfl (by decide) rfl rfl ?_
                  refine r_iconst C (nI 1) d_Mo_next_458 (by decide) ?_
                  refine r_nadd C d_Mo_next_459 ?_
                  refine r_put C (ws' := [(m0, .inr (9, MO ad qth (nI k) (bI qir) (nI (tn + 1)) qde qru (nI a) (nI a) (nI 3) (nI s) (nI 0) (oI w2) qop (bI qiu) qwi qhe qrw qma)), ((ad 2), .inl (g.2.1 0, 2000, .inl (aI T))), ((ad 6), .inl (g.2.1 0, 2000, .inl (aI (up BE tn s)))), ((ad 7), .inl (g.2.1 0, 2000, .inl (aI (up EN tn a))))]) 0 5 d_Mo_next_460 ci_Mo fi_Mo_126 rfl (by decide) rfl rfl (rfl) (rfl) (by simp) rfl ?_
                  refine r_vret C E d_Mo_next_463 (by first | decide | omega | (simp only [rmk]; omega)) (by first | decide | omega | (simp only [rmk]; omega)) ?_
                  exact ⟨(if isSgn (T s) = true then 3 else 4, s, a, some (T s), none), 3, _, _, _, _, rfl, rfl, nx3 hs he b1 b2 b3 b4 b5, Or.inl ⟨by decide, oI_non (by first | exact hw2 | exact orb hw2 (by omega) | exact orb (orb hw2 (by omega)) (by omega)) c_423, rfl, rfl, rfl⟩⟩
                · skip
                  refine r_vret C E d_Mo_next_426 (by first | decide | omega | (simp only [rmk]; omega)) (by first | decide | omega | (simp only [rmk]; omega)) ?_
                  exact ⟨(if isSgn (T s) = true then 3 else 4, s, a, some (T s), none), 3, _, _, _, _, rfl, rfl, nx3 hs he b1 b2 b3 b4 b5, Or.inr ⟨Or.inr (oI_som c_423), rfl, rfl, rfl⟩⟩
              · skip
                refine r_aload_n C 0 d_Mo_next_388 rfl rfl ?_
                refine r_get C 0 21 d_Mo_next_389 ci_Mo fi_Mo_100 rfl (by decide) rfl rfl ?_
                refine r_iconst C (nI 1) d_Mo_next_392 (by decide) ?_
                refine r_ncmp_eq C 404 d_Mo_next_393 (by decide) (by omega) (by omega) (fun c_393 => ?_) (fun c_393 => ?_)
                · exact absurd c_393 (by decide)
                refine r_aload_n C 0 d_Mo_next_396 rfl rfl ?_
                refine r_get C 0 21 d_Mo_next_397 ci_Mo fi_Mo_100 rfl (by decide) rfl rfl ?_
                refine r_iconst C (nI 2) d_Mo_next_400 (by decide) ?_
                refine r_ncmp_ne C 412 d_Mo_next_401 (by decide) (by omega) (by omega) (fun c_401 => ?_) (fun c_401 => ?_)
                rotate_left
                · exact absurd c_401 (by decide)
                refine r_aload_n C 0 d_Mo_next_412 rfl rfl ?_
                refine r_get C 0 21 d_Mo_next_413 ci_Mo fi_Mo_100 rfl (by decide) rfl rfl ?_
                refine r_nif_eq C 426 d_Mo_next_416 (by decide) (by omega) (fun c_416 => ?_) (fun c_416 => ?_)
                · exact absurd c_416 (by decide)
                refine r_aload_n C 0 d_Mo_next_419 rfl rfl ?_
                refine r_get C 0 24 d_Mo_next_420 ci_Mo fi_Mo_94 rfl (by decide) rfl rfl ?_
                refine r_if_lt C 427 d_Mo_next_423 (by decide) (fun c_423 => ?_) (fun c_423 => ?_)
                · skip
                  refine r_aload_n C 0 d_Mo_next_427 rfl rfl ?_
                  refine r_get C 0 6 d_Mo_next_428 ci_Mo fi_Mo_16 rfl (by decide) rfl rfl ?_
                  refine r_aload_n C 0 d_Mo_next_431 rfl rfl ?_
                  refine r_get C 0 5 d_Mo_next_432 ci_Mo fi_Mo_126 rfl (by decide) rfl rfl ?_
                  refine r_aload_n C 0 d_Mo_next_435 rfl rfl ?_
                  refine r_get C 0 22 d_Mo_next_436 ci_Mo fi_Mo_106 rfl (by decide) rfl rfl ?_
                  refine r_nast C (ws' := [(m0, .inr (9, MO ad qth (nI k) (bI qir) (nI tn) qde qru (nI a) (nI a) (nI 3) (nI s) (nI 0) (oI w2) qop (bI qiu) qwi qhe qrw qma)), ((ad 2), .inl (g.2.1 0, 2000, .inl (aI T))), ((ad 6), .inl (g.2.1 0, 2000, .inl (aI (up BE tn s)))), ((ad 7), .inl (g.2.1 0, 2000, .inl (aI EN)))]) 2 0 d_Mo_next_439 rfl rfl (by omega) (by decide) rfl ?_
                  refine r_aload_n C 0 d_Mo_next_440 rfl rfl ?_
                  refine r_get C 0 7 d_Mo_next_441 ci_Mo fi_Mo_19 rfl (by decide) rfl rfl ?_
                  refine r_aload_n C 0 d_Mo_next_444 rfl rfl ?_
                  refine r_get C 0 5 d_Mo_next_445 ci_Mo fi_Mo_126 rfl (by decide) rfl rfl ?_
                  refine r_aload_n C 0 d_Mo_next_448 rfl rfl ?_
                  refine r_get C 0 20 d_Mo_next_449 ci_Mo fi_Mo_97 rfl (by decide) rfl rfl ?_
                  refine r_nast C (ws' := [(m0, .inr (9, MO ad qth (nI k) (bI qir) (nI tn) qde qru (nI a) (nI a) (nI 3) (nI s) (nI 0) (oI w2) qop (bI qiu) qwi qhe qrw qma)), ((ad 2), .inl (g.2.1 0, 2000, .inl (aI T))), ((ad 6), .inl (g.2.1 0, 2000, .inl (aI (up BE tn s)))), ((ad 7), .inl (g.2.1 0, 2000, .inl (aI (up EN tn a))))]) 3 0 d_Mo_next_452 rfl rfl (by omega) (by decide) rfl ?_
                  refine r_aload_n C 0 d_Mo_next_453 rfl rfl ?_
                  refine r_dup C d_Mo_next_454 rfl ?_
                  refine r_get C 0 5 d_Mo_next_455 ci_Mo fi_Mo_126 rfl (by decide) rfl rfl ?_
                  refine r_iconst C (nI 1) d_Mo_next_458 (by decide) ?_
                  refine r_nadd C d_Mo_next_459 ?_
                  refine r_put C (ws' := [(m0, .inr (9, MO ad qth (nI k) (bI qir) (nI (tn + 1)) qde qru (nI a) (nI a) (nI 3) (nI s) (nI 0) (oI w2) qop (bI qiu) qwi qhe qrw qma)), ((ad 2), .inl (g.2.1 0, 2000, .inl (aI T))), ((ad 6), .inl (g.2.1 0, 2000, .inl (aI (up BE tn s)))), ((ad 7), .inl (g.2.1 0, 2000, .inl (aI (up EN tn a))))]) 0 5 d_Mo_next_460 ci_Mo fi_Mo_126 rfl (by decide) rfl rfl (rfl) (rfl) (by simp) rfl ?_
                  refine r_vret C E d_Mo_next_463 (by first | decide | omega | (simp only [rmk]; omega)) (by first | decide | omega | (simp only [rmk]; omega)) ?_
                  exact ⟨(if isSgn (T s) = true then 3 else 4, s, a, some (T s), none), 3, _, _, _, _, rfl, rfl, nx3 hs he b1 b2 b3 b4 b5, Or.inl ⟨by decide, oI_non (by first | exact hw2 | exact orb hw2 (by omega) | exact orb (orb hw2 (by omega)) (by omega)) c_423, rfl, rfl, rfl⟩⟩
                · skip
                  refine r_vret C E d_Mo_next_426 (by first | decide | omega | (simp only [rmk]; omega)) (by first | decide | omega | (simp only [rmk]; omega)) ?_
                  exact ⟨(if isSgn (T s) = true then 3 else 4, s, a, some (T s), none), 3, _, _, _, _, rfl, rfl, nx3 hs he b1 b2 b3 b4 b5, Or.inr ⟨Or.inr (oI_som c_423), rfl, rfl, rfl⟩⟩
        · skip
          refine r_aload_n C 0 d_Mo_next_280 rfl rfl ?_
          refine r_aload_n C 0 d_Mo_next_281 rfl rfl ?_
          refine r_get C 0 19 d_Mo_next_282 ci_Mo fi_Mo_103 rfl (by decide) rfl rfl ?_
          refine r_aload_n C 0 d_Mo_next_285 rfl rfl ?_
          refine r_get C 0 22 d_Mo_next_286 ci_Mo fi_Mo_106 rfl (by decide) rfl rfl ?_
          refine r_nsub C d_Mo_next_289 (by omega) ?_
          refine r_bipush C (nI 6) d_Mo_next_290 (by decide) ?_
          refine r_ncmp_ge C 318 d_Mo_next_292 (by decide) (by omega) (by omega) (fun c_292 => ?_) (fun c_292 => ?_)
          · skip
            refine r_aload_n C 0 d_Mo_next_318 rfl rfl ?_
            refine r_get C 0 23 d_Mo_next_319 ci_Mo fi_Mo_123 rfl (by decide) rfl rfl ?_
            refine r_put C (ws' := [(m0, .inr (9, MO ad qth (nI k) (bI qir) (nI tn) qde qru (nI a) qe (nI t) (nI s) (nI v) (oI w2) qop (bI qiu) qwi qhe qrw qma)), ((ad 2), .inl (g.2.1 0, 2000, .inl (aI T))), ((ad 6), .inl (g.2.1 0, 2000, .inl (aI BE))), ((ad 7), .inl (g.2.1 0, 2000, .inl (aI EN)))]) 0 23 d_Mo_next_322 ci_Mo fi_Mo_123 rfl (by decide) rfl rfl (rfl) (rfl) (by simp) rfl ?_
            refine r_aload_n C 0 d_Mo_next_325 rfl rfl ?_
            refine r_dup C d_Mo_next_326 rfl ?_
            refine r_get C 0 19 d_Mo_next_327 ci_Mo fi_Mo_103 rfl (by decide) rfl rfl ?_
            refine r_iconst C (nI 1) d_Mo_next_330 (by decide) ?_
            refine r_nadd C d_Mo_next_331 ?_
            refine r_put C (ws' := [(m0, .inr (9, MO ad qth (nI k) (bI qir) (nI tn) qde qru (nI (a + 1)) qe (nI t) (nI s) (nI v) (oI w2) qop (bI qiu) qwi qhe qrw qma)), ((ad 2), .inl (g.2.1 0, 2000, .inl (aI T))), ((ad 6), .inl (g.2.1 0, 2000, .inl (aI BE))), ((ad 7), .inl (g.2.1 0, 2000, .inl (aI EN)))]) 0 19 d_Mo_next_332 ci_Mo fi_Mo_103 rfl (by decide) rfl rfl (rfl) (rfl) (by simp) rfl ?_
            refine r_goto C 246 d_Mo_next_335 (by decide) ?_
            refine r_lv (lv' := [(0, .ref m0), (1, .int qe), (2, .int (bI jo))]) [0, 1, 2] rfl ?_
            exact ih t (a + 1) s v w2 jo (by first | assumption | omega | rfl) (by first | assumption | omega | rfl) (by first | assumption | omega | rfl) (by first | assumption | omega | rfl) (by first | assumption | omega | rfl) (by first | assumption | omega | rfl) (by first | assumption | omega | rfl) (by have := B2_go hB c_251 (by omega) c_277 hsa; rw [if_neg (by omega)] at this; exact this) (by omega)
          · skip
            have h48 : 48 ≤ T a := by simp [isDig] at c_277; omega
            refine r_bipush C (nI 10) d_Mo_next_295 (by decide) ?_
            refine r_aload_n C 0 d_Mo_next_297 rfl rfl ?_
            refine r_get C 0 23 d_Mo_next_298 ci_Mo fi_Mo_123 rfl (by decide) rfl rfl ?_
            refine r_nmul C d_Mo_next_301 ?_
            refine r_aload_n C 0 d_Mo_next_302 rfl rfl ?_
            refine r_get C 0 2 d_Mo_next_303 ci_Mo fi_Mo_7 rfl (by decide) rfl rfl ?_
            refine r_aload_n C 0 d_Mo_next_306 rfl rfl ?_
            refine r_get C 0 19 d_Mo_next_307 ci_Mo fi_Mo_103 rfl (by decide) rfl rfl ?_
            refine r_nald C 1 0 d_Mo_next_310 rfl rfl (by omega) (by decide) ?_
            refine r_nadd C d_Mo_next_311 ?_
            refine r_bipush C (nI 48) d_Mo_next_312 (by decide) ?_
            refine r_nsub C d_Mo_next_314 (by omega) ?_
            refine r_goto C 322 d_Mo_next_315 (by decide) ?_
            refine r_put C (ws' := [(m0, .inr (9, MO ad qth (nI k) (bI qir) (nI tn) qde qru (nI a) qe (nI t) (nI s) (nI (((10 * v) + (T a)) - 48)) (oI w2) qop (bI qiu) qwi qhe qrw qma)), ((ad 2), .inl (g.2.1 0, 2000, .inl (aI T))), ((ad 6), .inl (g.2.1 0, 2000, .inl (aI BE))), ((ad 7), .inl (g.2.1 0, 2000, .inl (aI EN)))]) 0 23 d_Mo_next_322 ci_Mo fi_Mo_123 rfl (by decide) rfl rfl (rfl) (rfl) (by simp) rfl ?_
            refine r_aload_n C 0 d_Mo_next_325 rfl rfl ?_
            refine r_dup C d_Mo_next_326 rfl ?_
            refine r_get C 0 19 d_Mo_next_327 ci_Mo fi_Mo_103 rfl (by decide) rfl rfl ?_
            refine r_iconst C (nI 1) d_Mo_next_330 (by decide) ?_
            refine r_nadd C d_Mo_next_331 ?_
            refine r_put C (ws' := [(m0, .inr (9, MO ad qth (nI k) (bI qir) (nI tn) qde qru (nI (a + 1)) qe (nI t) (nI s) (nI (((10 * v) + (T a)) - 48)) (oI w2) qop (bI qiu) qwi qhe qrw qma)), ((ad 2), .inl (g.2.1 0, 2000, .inl (aI T))), ((ad 6), .inl (g.2.1 0, 2000, .inl (aI BE))), ((ad 7), .inl (g.2.1 0, 2000, .inl (aI EN)))]) 0 19 d_Mo_next_332 ci_Mo fi_Mo_103 rfl (by decide) rfl rfl (rfl) (rfl) (by simp) rfl ?_
            refine r_goto C 246 d_Mo_next_335 (by decide) ?_
            refine r_lv (lv' := [(0, .ref m0), (1, .int qe), (2, .int (bI jo))]) [0, 1, 2] rfl ?_
            exact ih t (a + 1) s (((10 * v) + (T a)) - 48) w2 jo (by first | assumption | omega | rfl) (by first | assumption | omega | rfl) (by first | assumption | omega | rfl) (by first | assumption | omega | rfl) (by first | assumption | omega | rfl) (by first | assumption | omega | rfl) (by first | assumption | omega | rfl) (by have := B2_go hB c_251 (by omega) c_277 hsa; rw [if_pos (by omega)] at this; exact this) (by omega)
set_option maxHeartbeats 4000000 in
set_option maxRecDepth 100000 in
theorem lp_Mo_next_199 (g : GG) {m0 : Nat} {ad : Nat → Nat} {qth : Int32} {qde : Int32} {qru : Int32} {qbe : Int32} {qva : Int32} {qop : Int32} {qwi : Int32} {qhe : Int32} {qrw : Int32} {qma : Int32} {qir : Bool} {qiu : Bool} {k : Nat} {so : Nat} {e : Nat} {tn : Nat} {qe : Int32} {wr : Option Nat} {T : Nat → Nat} {BE : Nat → Nat} {EN : Nat → Nat} (hk : k ≤ 2000) (hT : ∀ j, T j < 256) (hso : so ≤ 3) (he : e ≤ k) (hq : so = 1 ∨ so = 2 → qe = nI e) (hs1 : so = 1 → ¬ (e < k ∧ isLet (T e) = true)) (hs2 : so = 2 → ¬ (e < k ∧ isDig (T e) = true)) (htn : tn ≤ e) (hwr : ∀ z, wr = some z → z < 2 ^ 31) {x : X0} {A : Nat → Prop} {Q : State → Prop}  (C : CX x g A R_Mo b_Mo_next 3) (E : RX x g A Q none (fun (r0 : Option Value) (w0 : va_W) => ∃ tk : Tok, ∃ t2 : Nat, ∃ tn2 : Nat, ∃ wr2 : Option Nat, ∃ BE2 : Nat → Nat, ∃ EN2 : Nat → Nat, r0 = none ∧ w0 = [(m0, .inr (9, MO ad qth (nI k) (bI qir) (nI tn2) qde qru (nI tk.2.2.1) (nI tk.2.2.1) (nI t2) (nI tk.2.1) (nI (vaM t2 tk)) (oI wr2) qop (bI qiu) qwi qhe qrw qma)), ((ad 2), .inl (g.2.1 0, 2000, .inl (aI T))), ((ad 6), .inl (g.2.1 0, 2000, .inl (aI BE2))), ((ad 7), .inl (g.2.1 0, 2000, .inl (aI EN2)))] ∧ (NextR T k so e wr tk t2 wr2) ∧ (NoteR tk t2 wr2 tn BE EN tn2 BE2 EN2)) (rmk 1 0 0 21).cells (rmk 1 0 0 21).slots) (hR : xR x = (rmk 1 0 0 21)) : ∀ (fuel : Nat) (t : Nat) (a : Nat) (s : Nat) (w2 : Option Nat) (jo : Bool) (ht : t ≤ 3) (hak : a ≤ k) (hsa : s ≤ a) (hes : e ≤ s) (hs : run isBlk T k e = s) (hw2 : ∀ z, w2 = some z → z < 2 ^ 31) (hjo : jo = decide (so = 1 ∨ so = 2)) (hB : B1 T k s t a w2 wr), k - a < fuel → J x g A Q 3 ([(m0, .inr (9, MO ad qth (nI k) (bI qir) (nI tn) qde qru (nI a) qe (nI t) (nI s) (nI 0) (oI w2) qop (bI qiu) qwi qhe qrw qma)), ((ad 2), .inl (g.2.1 0, 2000, .inl (aI T))), ((ad 6), .inl (g.2.1 0, 2000, .inl (aI BE))), ((ad 7), .inl (g.2.1 0, 2000, .inl (aI EN)))]) [(0, .ref m0), (1, .int qe), (2, .int (bI jo))] 199 [] 0 0 := by
  intro fuel
  induction fuel with
  | zero =>
    intro t a s w2 jo ht hak hsa hes hs hw2 hjo hB hm
    exact absurd hm (Nat.not_lt_zero _)
  | succ fuel ih =>
    intro t a s w2 jo ht hak hsa hes hs hw2 hjo hB hm
    refine r_aload_n C 0 d_Mo_next_199 rfl rfl ?_
    refine r_get C 0 21 d_Mo_next_200 ci_Mo fi_Mo_100 rfl (by decide) rfl rfl ?_
    refine r_iconst C (nI 1) d_Mo_next_203 (by decide) ?_
    refine r_ncmp_ne C 246 d_Mo_next_204 (by decide) (by omega) (by omega) (fun c_204 => ?_) (fun c_204 => ?_)
    · skip
      refine r_lv (lv' := [(0, .ref m0), (1, .int qe), (2, .int (bI jo))]) [0, 1, 2] rfl ?_
      exact lp_Mo_next_246 g (m0 := m0) (ad := ad) (qth := qth) (qde := qde) (qru := qru) (qbe := qbe) (qva := qva) (qop := qop) (qwi := qwi) (qhe := qhe) (qrw := qrw) (qma := qma) (qir := qir) (qiu := qiu) (k := k) (so := so) (e := e) (tn := tn) (qe := qe) (wr := wr) (T := T) (BE := BE) (EN := EN) hk hT hso he hq hs1 hs2 htn hwr  C E hR _ t a s 0 w2 jo (by first | assumption | omega | rfl) (by first | assumption | omega | rfl) (by first | assumption | omega | rfl) (by first | assumption | omega | rfl) (by first | assumption | omega | rfl) (by first | assumption | omega | rfl) (by first | assumption | omega | rfl) (by first | exact B1_end hB (fun q => absurd q c_204) | exact B1_end hB (fun _ q => by omega) | exact B1_end hB (fun _ q => by rw [c_230] at q; cases q.2)) (Nat.lt_succ_self _)
    · skip
      refine r_aload_n C 0 d_Mo_next_207 rfl rfl ?_
      refine r_get C 0 19 d_Mo_next_208 ci_Mo fi_Mo_103 rfl (by decide) rfl rfl ?_
      refine r_aload_n C 0 d_Mo_next_211 rfl rfl ?_
      refine r_get C 0 1 d_Mo_next_212 ci_Mo fi_Mo_91 rfl (by decide) rfl rfl ?_
      refine r_ncmp_ge C 246 d_Mo_next_215 (by decide) (by omega) (by omega) (fun c_215 => ?_) (fun c_215 => ?_)
      · skip
        refine r_lv (lv' := [(0, .ref m0), (1, .int qe), (2, .int (bI jo))]) [0, 1, 2] rfl ?_
        exact lp_Mo_next_246 g (m0 := m0) (ad := ad) (qth := qth) (qde := qde) (qru := qru) (qbe := qbe) (qva := qva) (qop := qop) (qwi := qwi) (qhe := qhe) (qrw := qrw) (qma := qma) (qir := qir) (qiu := qiu) (k := k) (so := so) (e := e) (tn := tn) (qe := qe) (wr := wr) (T := T) (BE := BE) (EN := EN) hk hT hso he hq hs1 hs2 htn hwr  C E hR _ t a s 0 w2 jo (by first | assumption | omega | rfl) (by first | assumption | omega | rfl) (by first | assumption | omega | rfl) (by first | assumption | omega | rfl) (by first | assumption | omega | rfl) (by first | assumption | omega | rfl) (by first | assumption | omega | rfl) (by first | exact B1_end hB (fun q => absurd q c_204) | exact B1_end hB (fun _ q => by omega) | exact B1_end hB (fun _ q => by rw [c_230] at q; cases q.2)) (Nat.lt_succ_self _)
      · skip
        have hTa := hT a
        refine r_aload_n C 0 d_Mo_next_218 rfl rfl ?_
        refine r_get C 0 2 d_Mo_next_219 ci_Mo fi_Mo_7 rfl (by decide) rfl rfl ?_
        refine r_aload_n C 0 d_Mo_next_222 rfl rfl ?_
        refine r_get C 0 19 d_Mo_next_223 ci_Mo fi_Mo_103 rfl (by decide) rfl rfl ?_
        refine r_nald C 1 0 d_Mo_next_226 rfl rfl (by omega) (by decide) ?_
        refine j_callS C (c_Mo_isLetter g (xl x) (c := T a) (by first | assumption | omega | rfl)) (Sp.of (wr := [(m0, .inr (9, MO ad qth (nI k) (bI qir) (nI tn) qde qru (nI a) qe (nI t) (nI s) (nI 0) (oI w2) qop (bI qiu) qwi qhe qrw qma)), ((ad 2), .inl (g.2.1 0, 2000, .inl (aI T))), ((ad 6), .inl (g.2.1 0, 2000, .inl (aI BE))), ((ad 7), .inl (g.2.1 0, 2000, .inl (aI EN)))]) [] [0, 1, 2, 3] rfl rfl rfl rfl (by decide)) d_Mo_next_227 lk_Mo_109 mw_Mo_isLetter st_Mo_isLetter (fit_of hR (by first | decide | (simp only [rmk]; omega)) (by first | decide | (simp only [rmk]; omega)) (by first | decide | (simp only [rmk]; omega)) (by first | decide | (simp only [rmk]; omega))) rfl (cat8 (Nat.le_of_ble_eq_true rfl)) (As := [.int (nI (T a))]) (rest := []) rfl (fun r_227 w_227 hp_227 => ?_)
        obtain ⟨rfl, rfl⟩ := hp_227
        refine r_after (ws' := [(m0, .inr (9, MO ad qth (nI k) (bI qir) (nI tn) qde qru (nI a) qe (nI t) (nI s) (nI 0) (oI w2) qop (bI qiu) qwi qhe qrw qma)), ((ad 2), .inl (g.2.1 0, 2000, .inl (aI T))), ((ad 6), .inl (g.2.1 0, 2000, .inl (aI BE))), ((ad 7), .inl (g.2.1 0, 2000, .inl (aI EN)))]) (st' := [.int (bI (isLet (T a)))]) (n1 := 0) (n2 := 0) [0, 1, 2, 3] rfl rfl rfl rfl rfl ?_
        refine r_bif_eq C 246 d_Mo_next_230 (by decide) (fun c_230 => ?_) (fun c_230 => ?_)
        · skip
          refine r_lv (lv' := [(0, .ref m0), (1, .int qe), (2, .int (bI jo))]) [0, 1, 2] rfl ?_
          exact lp_Mo_next_246 g (m0 := m0) (ad := ad) (qth := qth) (qde := qde) (qru := qru) (qbe := qbe) (qva := qva) (qop := qop) (qwi := qwi) (qhe := qhe) (qrw := qrw) (qma := qma) (qir := qir) (qiu := qiu) (k := k) (so := so) (e := e) (tn := tn) (qe := qe) (wr := wr) (T := T) (BE := BE) (EN := EN) hk hT hso he hq hs1 hs2 htn hwr  C E hR _ t a s 0 w2 jo (by first | assumption | omega | rfl) (by first | assumption | omega | rfl) (by first | assumption | omega | rfl) (by first | assumption | omega | rfl) (by first | assumption | omega | rfl) (by first | assumption | omega | rfl) (by first | assumption | omega | rfl) (by first | exact B1_end hB (fun q => absurd q c_204) | exact B1_end hB (fun _ q => by omega) | exact B1_end hB (fun _ q => by rw [c_230] at q; cases q.2)) (Nat.lt_succ_self _)
        · skip
          refine r_aload_n C 0 d_Mo_next_233 rfl rfl ?_
          refine r_dup C d_Mo_next_234 rfl ?_
          refine r_get C 0 19 d_Mo_next_235 ci_Mo fi_Mo_103 rfl (by decide) rfl rfl ?_
          refine r_iconst C (nI 1) d_Mo_next_238 (by decide) ?_
          refine r_nadd C d_Mo_next_239 ?_
          refine r_put C (ws' := [(m0, .inr (9, MO ad qth (nI k) (bI qir) (nI tn) qde qru (nI (a + 1)) qe (nI t) (nI s) (nI 0) (oI w2) qop (bI qiu) qwi qhe qrw qma)), ((ad 2), .inl (g.2.1 0, 2000, .inl (aI T))), ((ad 6), .inl (g.2.1 0, 2000, .inl (aI BE))), ((ad 7), .inl (g.2.1 0, 2000, .inl (aI EN)))]) 0 19 d_Mo_next_240 ci_Mo fi_Mo_103 rfl (by decide) rfl rfl (rfl) (rfl) (by simp) rfl ?_
          refine r_goto C 199 d_Mo_next_243 (by decide) ?_
          refine r_lv (lv' := [(0, .ref m0), (1, .int qe), (2, .int (bI jo))]) [0, 1, 2] rfl ?_
          exact ih t (a + 1) s w2 jo (by first | assumption | omega | rfl) (by first | assumption | omega | rfl) (by first | assumption | omega | rfl) (by first | assumption | omega | rfl) (by first | assumption | omega | rfl) (by first | assumption | omega | rfl) (by first | assumption | omega | rfl) (B1_go hB c_204 (by omega) c_230) (by omega)
set_option maxHeartbeats 4000000 in
set_option maxRecDepth 100000 in
theorem lp_Mo_next_27 (g : GG) {m0 : Nat} {ad : Nat → Nat} {qth : Int32} {qde : Int32} {qru : Int32} {qbe : Int32} {qva : Int32} {qop : Int32} {qwi : Int32} {qhe : Int32} {qrw : Int32} {qma : Int32} {qir : Bool} {qiu : Bool} {k : Nat} {so : Nat} {e : Nat} {tn : Nat} {qe : Int32} {wr : Option Nat} {T : Nat → Nat} {BE : Nat → Nat} {EN : Nat → Nat} (hk : k ≤ 2000) (hT : ∀ j, T j < 256) (hso : so ≤ 3) (he : e ≤ k) (hq : so = 1 ∨ so = 2 → qe = nI e) (hs1 : so = 1 → ¬ (e < k ∧ isLet (T e) = true)) (hs2 : so = 2 → ¬ (e < k ∧ isDig (T e) = true)) (htn : tn ≤ e) (hwr : ∀ z, wr = some z → z < 2 ^ 31) {x : X0} {A : Nat → Prop} {Q : State → Prop}  (C : CX x g A R_Mo b_Mo_next 3) (E : RX x g A Q none (fun (r0 : Option Value) (w0 : va_W) => ∃ tk : Tok, ∃ t2 : Nat, ∃ tn2 : Nat, ∃ wr2 : Option Nat, ∃ BE2 : Nat → Nat, ∃ EN2 : Nat → Nat, r0 = none ∧ w0 = [(m0, .inr (9, MO ad qth (nI k) (bI qir) (nI tn2) qde qru (nI tk.2.2.1) (nI tk.2.2.1) (nI t2) (nI tk.2.1) (nI (vaM t2 tk)) (oI wr2) qop (bI qiu) qwi qhe qrw qma)), ((ad 2), .inl (g.2.1 0, 2000, .inl (aI T))), ((ad 6), .inl (g.2.1 0, 2000, .inl (aI BE2))), ((ad 7), .inl (g.2.1 0, 2000, .inl (aI EN2)))] ∧ (NextR T k so e wr tk t2 wr2) ∧ (NoteR tk t2 wr2 tn BE EN tn2 BE2 EN2)) (rmk 1 0 0 21).cells (rmk 1 0 0 21).slots) (hR : xR x = (rmk 1 0 0 21)) : ∀ (fuel : Nat) (c : Nat) (jo : Bool) (hec : e ≤ c) (hck : c ≤ k) (hc : run isBlk T k c = run isBlk T k e) (hjo : jo = decide (so = 1 ∨ so = 2)), k - c < fuel → J x g A Q 3 ([(m0, .inr (9, MO ad qth (nI k) (bI qir) (nI tn) qde qru (nI c) qe (nI so) qbe qva (oI wr) qop (bI qiu) qwi qhe qrw qma)), ((ad 2), .inl (g.2.1 0, 2000, .inl (aI T))), ((ad 6), .inl (g.2.1 0, 2000, .inl (aI BE))), ((ad 7), .inl (g.2.1 0, 2000, .inl (aI EN)))]) [(0, .ref m0), (1, .int qe), (2, .int (bI jo))] 27 [] 0 0 := by
  intro fuel
  induction fuel with
  | zero =>
    intro c jo hec hck hc hjo hm
    exact absurd hm (Nat.not_lt_zero _)
  | succ fuel ih =>
    intro c jo hec hck hc hjo hm
    refine r_aload_n C 0 d_Mo_next_27 rfl rfl ?_
    refine r_get C 0 19 d_Mo_next_28 ci_Mo fi_Mo_103 rfl (by decide) rfl rfl ?_
    refine r_aload_n C 0 d_Mo_next_31 rfl rfl ?_
    refine r_get C 0 1 d_Mo_next_32 ci_Mo fi_Mo_91 rfl (by decide) rfl rfl ?_
    refine r_ncmp_ge C 79 d_Mo_next_35 (by decide) (by omega) (by omega) (fun c_35 => ?_) (fun c_35 => ?_)
    · skip
      refine r_aload_n C 0 d_Mo_next_79 rfl rfl ?_
      refine r_aload_n C 0 d_Mo_next_80 rfl rfl ?_
      refine r_get C 0 19 d_Mo_next_81 ci_Mo fi_Mo_103 rfl (by decide) rfl rfl ?_
      refine r_put C (ws' := [(m0, .inr (9, MO ad qth (nI k) (bI qir) (nI tn) qde qru (nI c) qe (nI so) (nI c) qva (oI wr) qop (bI qiu) qwi qhe qrw qma)), ((ad 2), .inl (g.2.1 0, 2000, .inl (aI T))), ((ad 6), .inl (g.2.1 0, 2000, .inl (aI BE))), ((ad 7), .inl (g.2.1 0, 2000, .inl (aI EN)))]) 0 22 d_Mo_next_84 ci_Mo fi_Mo_106 rfl (by decide) rfl rfl (rfl) (rfl) (by simp) rfl ?_
      refine r_aload_n C 0 d_Mo_next_87 rfl rfl ?_
      refine r_aload_n C 0 d_Mo_next_88 rfl rfl ?_
      refine r_get C 0 19 d_Mo_next_89 ci_Mo fi_Mo_103 rfl (by decide) rfl rfl ?_
      refine r_aload_n C 0 d_Mo_next_92 rfl rfl ?_
      refine r_get C 0 1 d_Mo_next_93 ci_Mo fi_Mo_91 rfl (by decide) rfl rfl ?_
      refine r_ncmp_ne C 103 d_Mo_next_96 (by decide) (by omega) (by omega) (fun c_96 => ?_) (fun c_96 => ?_)
      · skip
        have hTc2 := hT c
        refine r_aload_n C 0 d_Mo_next_103 rfl rfl ?_
        refine r_get C 0 2 d_Mo_next_104 ci_Mo fi_Mo_7 rfl (by decide) rfl rfl ?_
        refine r_aload_n C 0 d_Mo_next_107 rfl rfl ?_
        refine r_get C 0 19 d_Mo_next_108 ci_Mo fi_Mo_103 rfl (by decide) rfl rfl ?_
        refine r_nald C 1 0 d_Mo_next_111 rfl rfl (by omega) (by decide) ?_
        refine j_callS C (c_Mo_isLetter g (xl x) (c := T c) (by first | assumption | omega | rfl)) (Sp.of (wr := [(m0, .inr (9, MO ad qth (nI k) (bI qir) (nI tn) qde qru (nI c) qe (nI so) (nI c) qva (oI wr) qop (bI qiu) qwi qhe qrw qma)), ((ad 2), .inl (g.2.1 0, 2000, .inl (aI T))), ((ad 6), .inl (g.2.1 0, 2000, .inl (aI BE))), ((ad 7), .inl (g.2.1 0, 2000, .inl (aI EN)))]) [] [0, 1, 2, 3] rfl rfl rfl rfl (by decide)) d_Mo_next_112 lk_Mo_109 mw_Mo_isLetter st_Mo_isLetter (fit_of hR (by first | decide | (simp only [rmk]; omega)) (by first | decide | (simp only [rmk]; omega)) (by first | decide | (simp only [rmk]; omega)) (by first | decide | (simp only [rmk]; omega))) rfl (cat8 (Nat.le_of_ble_eq_true rfl)) (As := [.int (nI (T c))]) (rest := [.ref m0]) rfl (fun r_112 w_112 hp_112 => ?_)
        obtain ⟨rfl, rfl⟩ := hp_112
        refine r_after (ws' := [(m0, .inr (9, MO ad qth (nI k) (bI qir) (nI tn) qde qru (nI c) qe (nI so) (nI c) qva (oI wr) qop (bI qiu) qwi qhe qrw qma)), ((ad 2), .inl (g.2.1 0, 2000, .inl (aI T))), ((ad 6), .inl (g.2.1 0, 2000, .inl (aI BE))), ((ad 7), .inl (g.2.1 0, 2000, .inl (aI EN)))]) (st' := [.int (bI (isLet (T c))), .ref m0]) (n1 := 0) (n2 := 0) [0, 1, 2, 3] rfl rfl rfl rfl rfl ?_
        refine r_bif_eq C 122 d_Mo_next_115 (by decide) (fun c_115 => ?_) (fun c_115 => ?_)
        · skip
          refine r_aload_n C 0 d_Mo_next_122 rfl rfl ?_
          refine r_get C 0 2 d_Mo_next_123 ci_Mo fi_Mo_7 rfl (by decide) rfl rfl ?_
          refine r_aload_n C 0 d_Mo_next_126 rfl rfl ?_
          refine r_get C 0 19 d_Mo_next_127 ci_Mo fi_Mo_103 rfl (by decide) rfl rfl ?_
          refine r_nald C 1 0 d_Mo_next_130 rfl rfl (by omega) (by decide) ?_
          refine j_callS C (c_Mo_isDigit g (xl x) (c := T c) (by first | assumption | omega | rfl)) (Sp.of (wr := [(m0, .inr (9, MO ad qth (nI k) (bI qir) (nI tn) qde qru (nI c) qe (nI so) (nI c) qva (oI wr) qop (bI qiu) qwi qhe qrw qma)), ((ad 2), .inl (g.2.1 0, 2000, .inl (aI T))), ((ad 6), .inl (g.2.1 0, 2000, .inl (aI BE))), ((ad 7), .inl (g.2.1 0, 2000, .inl (aI EN)))]) [] [0, 1, 2, 3] rfl rfl rfl rfl (by decide)) d_Mo_next_131 lk_Mo_113 mw_Mo_isDigit st_Mo_isDigit (fit_of hR (by first | decide | (simp only [rmk]; omega)) (by first | decide | (simp only [rmk]; omega)) (by first | decide | (simp only [rmk]; omega)) (by first | decide | (simp only [rmk]; omega))) rfl (cat8 (Nat.le_of_ble_eq_true rfl)) (As := [.int (nI (T c))]) (rest := [.ref m0]) rfl (fun r_131 w_131 hp_131 => ?_)
          obtain ⟨rfl, rfl⟩ := hp_131
          refine r_after (ws' := [(m0, .inr (9, MO ad qth (nI k) (bI qir) (nI tn) qde qru (nI c) qe (nI so) (nI c) qva (oI wr) qop (bI qiu) qwi qhe qrw qma)), ((ad 2), .inl (g.2.1 0, 2000, .inl (aI T))), ((ad 6), .inl (g.2.1 0, 2000, .inl (aI BE))), ((ad 7), .inl (g.2.1 0, 2000, .inl (aI EN)))]) (st' := [.int (bI (isDig (T c))), .ref m0]) (n1 := 0) (n2 := 0) [0, 1, 2, 3] rfl rfl rfl rfl rfl ?_
          refine r_bif_eq C 141 d_Mo_next_134 (by decide) (fun c_134 => ?_) (fun c_134 => ?_)
          · skip
            refine r_iconst C (nI 3) d_Mo_next_141 (by decide) ?_
            refine r_put C (ws' := [(m0, .inr (9, MO ad qth (nI k) (bI qir) (nI tn) qde qru (nI c) qe (nI 3) (nI c) qva (oI wr) qop (bI qiu) qwi qhe qrw qma)), ((ad 2), .inl (g.2.1 0, 2000, .inl (aI T))), ((ad 6), .inl (g.2.1 0, 2000, .inl (aI BE))), ((ad 7), .inl (g.2.1 0, 2000, .inl (aI EN)))]) 0 21 d_Mo_next_142 ci_Mo fi_Mo_100 rfl (by decide) rfl rfl (rfl) (rfl) (by simp) rfl ?_
            refine r_aload_n C 0 d_Mo_next_145 rfl rfl ?_
            refine r_get C 0 21 d_Mo_next_146 ci_Mo fi_Mo_100 rfl (by decide) rfl rfl ?_
            refine r_iconst C (nI 3) d_Mo_next_149 (by decide) ?_
            refine r_ncmp_ne C 176 d_Mo_next_150 (by decide) (by omega) (by omega) (fun c_150 => ?_) (fun c_150 => ?_)
            · exact absurd c_150 (by decide)
            refine r_aload_n C 0 d_Mo_next_153 rfl rfl ?_
            refine r_get C 0 2 d_Mo_next_154 ci_Mo fi_Mo_7 rfl (by decide) rfl rfl ?_
            refine r_aload_n C 0 d_Mo_next_157 rfl rfl ?_
            refine r_get C 0 19 d_Mo_next_158 ci_Mo fi_Mo_103 rfl (by decide) rfl rfl ?_
            refine r_nald C 1 0 d_Mo_next_161 rfl rfl (by omega) (by decide) ?_
            refine j_callS C (c_Mo_isSign g (xl x) (c := T c) (by first | assumption | omega | rfl)) (Sp.of (wr := [(m0, .inr (9, MO ad qth (nI k) (bI qir) (nI tn) qde qru (nI c) qe (nI 3) (nI c) qva (oI wr) qop (bI qiu) qwi qhe qrw qma)), ((ad 2), .inl (g.2.1 0, 2000, .inl (aI T))), ((ad 6), .inl (g.2.1 0, 2000, .inl (aI BE))), ((ad 7), .inl (g.2.1 0, 2000, .inl (aI EN)))]) [] [0, 1, 2, 3] rfl rfl rfl rfl (by decide)) d_Mo_next_162 lk_Mo_116 mw_Mo_isSign st_Mo_isSign (fit_of hR (by first | decide | (simp only [rmk]; omega)) (by first | decide | (simp only [rmk]; omega)) (by first | decide | (simp only [rmk]; omega)) (by first | decide | (simp only [rmk]; omega))) rfl (cat8 (Nat.le_of_ble_eq_true rfl)) (As := [.int (nI (T c))]) (rest := []) rfl (fun r_162 w_162 hp_162 => ?_)
            obtain ⟨rfl, rfl⟩ := hp_162
            refine r_after (ws' := [(m0, .inr (9, MO ad qth (nI k) (bI qir) (nI tn) qde qru (nI c) qe (nI 3) (nI c) qva (oI wr) qop (bI qiu) qwi qhe qrw qma)), ((ad 2), .inl (g.2.1 0, 2000, .inl (aI T))), ((ad 6), .inl (g.2.1 0, 2000, .inl (aI BE))), ((ad 7), .inl (g.2.1 0, 2000, .inl (aI EN)))]) (st' := [.int (bI (isSgn (T c)))]) (n1 := 0) (n2 := 0) [0, 1, 2, 3] rfl rfl rfl rfl rfl ?_
            refine r_bif_ne C 176 d_Mo_next_165 (by decide) (fun c_165 => ?_) (fun c_165 => ?_)
            · skip
              refine r_aload_n C 0 d_Mo_next_176 rfl rfl ?_
              refine r_iconst C (nI 0) d_Mo_next_177 (by decide) ?_
              refine r_put C (ws' := [(m0, .inr (9, MO ad qth (nI k) (bI qir) (nI tn) qde qru (nI c) qe (nI 3) (nI c) (nI 0) (oI wr) qop (bI qiu) qwi qhe qrw qma)), ((ad 2), .inl (g.2.1 0, 2000, .inl (aI T))), ((ad 6), .inl (g.2.1 0, 2000, .inl (aI BE))), ((ad 7), .inl (g.2.1 0, 2000, .inl (aI EN)))]) 0 23 d_Mo_next_178 ci_Mo fi_Mo_123 rfl (by decide) rfl rfl (rfl) (rfl) (by simp) rfl ?_
              refine r_aload_n C 0 d_Mo_next_181 rfl rfl ?_
              refine r_get C 0 21 d_Mo_next_182 ci_Mo fi_Mo_100 rfl (by decide) rfl rfl ?_
              refine r_iconst C (nI 3) d_Mo_next_185 (by decide) ?_
              refine r_ncmp_ne C 199 d_Mo_next_186 (by decide) (by omega) (by omega) (fun c_186 => ?_) (fun c_186 => ?_)
              · exact absurd c_186 (by decide)
              refine r_aload_n C 0 d_Mo_next_189 rfl rfl ?_
              refine r_dup C d_Mo_next_190 rfl ?_
              refine r_get C 0 19 d_Mo_next_191 ci_Mo fi_Mo_103 rfl (by decide) rfl rfl ?_
              refine r_iconst C (nI 1) d_Mo_next_194 (by decide) ?_
              refine r_nadd C d_Mo_next_195 ?_
              refine r_put C (ws' := [(m0, .inr (9, MO ad qth (nI k) (bI qir) (nI tn) qde qru (nI (c + 1)) qe (nI 3) (nI c) (nI 0) (oI wr) qop (bI qiu) qwi qhe qrw qma)), ((ad 2), .inl (g.2.1 0, 2000, .inl (aI T))), ((ad 6), .inl (g.2.1 0, 2000, .inl (aI BE))), ((ad 7), .inl (g.2.1 0, 2000, .inl (aI EN)))]) 0 19 d_Mo_next_196 ci_Mo fi_Mo_103 rfl (by decide) rfl rfl (rfl) (rfl) (by simp) rfl ?_
              refine r_lv (lv' := [(0, .ref m0), (1, .int qe), (2, .int (bI jo))]) [0, 1, 2] rfl ?_
              exact lp_Mo_next_199 g (m0 := m0) (ad := ad) (qth := qth) (qde := qde) (qru := qru) (qbe := qbe) (qva := qva) (qop := qop) (qwi := qwi) (qhe := qhe) (qrw := qrw) (qma := qma) (qir := qir) (qiu := qiu) (k := k) (so := so) (e := e) (tn := tn) (qe := qe) (wr := wr) (T := T) (BE := BE) (EN := EN) hk hT hso he hq hs1 hs2 htn hwr  C E hR _ 3 (c + 1) c wr jo (by first | assumption | omega | rfl) (by first | assumption | omega | rfl) (by first | assumption | omega | rfl) (hec) (by rw [← hc, run_stop (by first | omega | (intro q; rw [isBlk, decide_eq_true_eq] at q; omega))]) (hwr) (by first | assumption | omega | rfl) (Or.inr (Or.inr (Or.inr ⟨rfl, by omega, c_115, c_134, rfl, by rw [c_165]; rfl⟩))) (Nat.lt_succ_self _)
            · skip
              refine r_aload_n C 0 d_Mo_next_168 rfl rfl ?_
              refine r_aload_n C 0 d_Mo_next_169 rfl rfl ?_
              refine r_get C 0 19 d_Mo_next_170 ci_Mo fi_Mo_103 rfl (by decide) rfl rfl ?_
              refine j_callV C (c_Mo_refuse g (xl x) (m0 := m0) (ad := ad) (qth := qth) (qsz := nI k) (qtk := nI tn) (qde := qde) (qru := qru) (qat := nI c) (qen := qe) (qto := nI 3) (qbe := nI c) (qva := qva) (qop := qop) (qwi := qwi) (qhe := qhe) (qrw := qrw) (qma := qma) (qir := qir) (qiu := qiu) (wr := wr) (c := c) (by first | assumption | omega | rfl) (by first | exact hw2 | exact hwr | exact orb hw2 (by omega))) (Sp.of (wr := [((ad 2), .inl (g.2.1 0, 2000, .inl (aI T))), ((ad 6), .inl (g.2.1 0, 2000, .inl (aI BE))), ((ad 7), .inl (g.2.1 0, 2000, .inl (aI EN)))]) [0] [1, 2, 3] rfl rfl rfl rfl (by decide)) d_Mo_next_173 lk_Mo_119 mw_Mo_refuse vw_Mo_refuse (q0 := 0) rfl rfl (fit_of hR (by first | decide | (simp only [rmk]; omega)) (by first | decide | (simp only [rmk]; omega)) (by first | decide | (simp only [rmk]; omega)) (by first | decide | (simp only [rmk]; omega))) rfl (cat8 (Nat.le_of_ble_eq_true rfl)) (As := [.int (nI c)]) (rest := []) rfl (fun r_173 w_173 hp_173 => ?_)
              obtain ⟨rfl, rfl⟩ := hp_173
              refine r_after (ws' := [(m0, .inr (9, MO ad qth (nI k) (bI qir) (nI tn) qde qru (nI c) qe (nI 3) (nI c) qva (oI (wr.orElse fun _ => some c)) qop (bI qiu) qwi qhe qrw qma)), ((ad 2), .inl (g.2.1 0, 2000, .inl (aI T))), ((ad 6), .inl (g.2.1 0, 2000, .inl (aI BE))), ((ad 7), .inl (g.2.1 0, 2000, .inl (aI EN)))]) (st' := []) (n1 := 0) (n2 := 0) [3, 0, 1, 2] rfl rfl rfl rfl rfl ?_
              refine r_aload_n C 0 d_Mo_next_176 rfl rfl ?_
              refine r_iconst C (nI 0) d_Mo_next_177 (by decide) ?_
              refine r_put C (ws' := [(m0, .inr (9, MO ad qth (nI k) (bI qir) (nI tn) qde qru (nI c) qe (nI 3) (nI c) (nI 0) (oI (wr.orElse fun _ => some c)) qop (bI qiu) qwi qhe qrw qma)), ((ad 2), .inl (g.2.1 0, 2000, .inl (aI T))), ((ad 6), .inl (g.2.1 0, 2000, .inl (aI BE))), ((ad 7), .inl (g.2.1 0, 2000, .inl (aI EN)))]) 0 23 d_Mo_next_178 ci_Mo fi_Mo_123 rfl (by decide) rfl rfl (rfl) (rfl) (by simp) rfl ?_
              refine r_aload_n C 0 d_Mo_next_181 rfl rfl ?_
              refine r_get C 0 21 d_Mo_next_182 ci_Mo fi_Mo_100 rfl (by decide) rfl rfl ?_
              refine r_iconst C (nI 3) d_Mo_next_185 (by decide) ?_
              refine r_ncmp_ne C 199 d_Mo_next_186 (by decide) (by omega) (by omega) (fun c_186 => ?_) (fun c_186 => ?_)
              · exact absurd c_186 (by decide)
              refine r_aload_n C 0 d_Mo_next_189 rfl rfl ?_
              refine r_dup C d_Mo_next_190 rfl ?_
              refine r_get C 0 19 d_Mo_next_191 ci_Mo fi_Mo_103 rfl (by decide) rfl rfl ?_
              refine r_iconst C (nI 1) d_Mo_next_194 (by decide) ?_
              refine r_nadd C d_Mo_next_195 ?_
              refine r_put C (ws' := [(m0, .inr (9, MO ad qth (nI k) (bI qir) (nI tn) qde qru (nI (c + 1)) qe (nI 3) (nI c) (nI 0) (oI (wr.orElse fun _ => some c)) qop (bI qiu) qwi qhe qrw qma)), ((ad 2), .inl (g.2.1 0, 2000, .inl (aI T))), ((ad 6), .inl (g.2.1 0, 2000, .inl (aI BE))), ((ad 7), .inl (g.2.1 0, 2000, .inl (aI EN)))]) 0 19 d_Mo_next_196 ci_Mo fi_Mo_103 rfl (by decide) rfl rfl (rfl) (rfl) (by simp) rfl ?_
              refine r_lv (lv' := [(0, .ref m0), (1, .int qe), (2, .int (bI jo))]) [0, 1, 2] rfl ?_
              exact lp_Mo_next_199 g (m0 := m0) (ad := ad) (qth := qth) (qde := qde) (qru := qru) (qbe := qbe) (qva := qva) (qop := qop) (qwi := qwi) (qhe := qhe) (qrw := qrw) (qma := qma) (qir := qir) (qiu := qiu) (k := k) (so := so) (e := e) (tn := tn) (qe := qe) (wr := wr) (T := T) (BE := BE) (EN := EN) hk hT hso he hq hs1 hs2 htn hwr  C E hR _ 3 (c + 1) c (wr.orElse fun _ => some c) jo (by first | assumption | omega | rfl) (by first | assumption | omega | rfl) (by first | assumption | omega | rfl) (hec) (by rw [← hc, run_stop (by first | omega | (intro q; rw [isBlk, decide_eq_true_eq] at q; omega))]) (orb hwr (by omega)) (by first | assumption | omega | rfl) (Or.inr (Or.inr (Or.inr ⟨rfl, by omega, c_115, c_134, rfl, by rw [c_165]; rfl⟩))) (Nat.lt_succ_self _)
          · skip
            refine r_iconst C (nI 2) d_Mo_next_137 (by decide) ?_
            refine r_goto C 142 d_Mo_next_138 (by decide) ?_
            refine r_put C (ws' := [(m0, .inr (9, MO ad qth (nI k) (bI qir) (nI tn) qde qru (nI c) qe (nI 2) (nI c) qva (oI wr) qop (bI qiu) qwi qhe qrw qma)), ((ad 2), .inl (g.2.1 0, 2000, .inl (aI T))), ((ad 6), .inl (g.2.1 0, 2000, .inl (aI BE))), ((ad 7), .inl (g.2.1 0, 2000, .inl (aI EN)))]) 0 21 d_Mo_next_142 ci_Mo fi_Mo_100 rfl (by decide) rfl rfl (rfl) (rfl) (by simp) rfl ?_
            refine r_aload_n C 0 d_Mo_next_145 rfl rfl ?_
            refine r_get C 0 21 d_Mo_next_146 ci_Mo fi_Mo_100 rfl (by decide) rfl rfl ?_
            refine r_iconst C (nI 3) d_Mo_next_149 (by decide) ?_
            refine r_ncmp_ne C 176 d_Mo_next_150 (by decide) (by omega) (by omega) (fun c_150 => ?_) (fun c_150 => ?_)
            rotate_left
            · exact absurd c_150 (by decide)
            refine r_aload_n C 0 d_Mo_next_176 rfl rfl ?_
            refine r_iconst C (nI 0) d_Mo_next_177 (by decide) ?_
            refine r_put C (ws' := [(m0, .inr (9, MO ad qth (nI k) (bI qir) (nI tn) qde qru (nI c) qe (nI 2) (nI c) (nI 0) (oI wr) qop (bI qiu) qwi qhe qrw qma)), ((ad 2), .inl (g.2.1 0, 2000, .inl (aI T))), ((ad 6), .inl (g.2.1 0, 2000, .inl (aI BE))), ((ad 7), .inl (g.2.1 0, 2000, .inl (aI EN)))]) 0 23 d_Mo_next_178 ci_Mo fi_Mo_123 rfl (by decide) rfl rfl (rfl) (rfl) (by simp) rfl ?_
            refine r_aload_n C 0 d_Mo_next_181 rfl rfl ?_
            refine r_get C 0 21 d_Mo_next_182 ci_Mo fi_Mo_100 rfl (by decide) rfl rfl ?_
            refine r_iconst C (nI 3) d_Mo_next_185 (by decide) ?_
            refine r_ncmp_ne C 199 d_Mo_next_186 (by decide) (by omega) (by omega) (fun c_186 => ?_) (fun c_186 => ?_)
            rotate_left
            · exact absurd c_186 (by decide)
            refine r_lv (lv' := [(0, .ref m0), (1, .int qe), (2, .int (bI jo))]) [0, 1, 2] rfl ?_
            exact lp_Mo_next_199 g (m0 := m0) (ad := ad) (qth := qth) (qde := qde) (qru := qru) (qbe := qbe) (qva := qva) (qop := qop) (qwi := qwi) (qhe := qhe) (qrw := qrw) (qma := qma) (qir := qir) (qiu := qiu) (k := k) (so := so) (e := e) (tn := tn) (qe := qe) (wr := wr) (T := T) (BE := BE) (EN := EN) hk hT hso he hq hs1 hs2 htn hwr  C E hR _ 2 c c wr jo (by first | assumption | omega | rfl) (by first | assumption | omega | rfl) (by first | assumption | omega | rfl) (hec) (by rw [← hc, run_stop (by first | omega | (intro q; rw [isBlk, decide_eq_true_eq] at q; omega))]) (hwr) (by first | assumption | omega | rfl) (Or.inr (Or.inr (Or.inl ⟨rfl, by omega, c_115, c_134, rfl, rfl⟩))) (Nat.lt_succ_self _)
        · skip
          refine r_iconst C (nI 1) d_Mo_next_118 (by decide) ?_
          refine r_goto C 142 d_Mo_next_119 (by decide) ?_
          refine r_put C (ws' := [(m0, .inr (9, MO ad qth (nI k) (bI qir) (nI tn) qde qru (nI c) qe (nI 1) (nI c) qva (oI wr) qop (bI qiu) qwi qhe qrw qma)), ((ad 2), .inl (g.2.1 0, 2000, .inl (aI T))), ((ad 6), .inl (g.2.1 0, 2000, .inl (aI BE))), ((ad 7), .inl (g.2.1 0, 2000, .inl (aI EN)))]) 0 21 d_Mo_next_142 ci_Mo fi_Mo_100 rfl (by decide) rfl rfl (rfl) (rfl) (by simp) rfl ?_
          refine r_aload_n C 0 d_Mo_next_145 rfl rfl ?_
          refine r_get C 0 21 d_Mo_next_146 ci_Mo fi_Mo_100 rfl (by decide) rfl rfl ?_
          refine r_iconst C (nI 3) d_Mo_next_149 (by decide) ?_
          refine r_ncmp_ne C 176 d_Mo_next_150 (by decide) (by omega) (by omega) (fun c_150 => ?_) (fun c_150 => ?_)
          rotate_left
          · exact absurd c_150 (by decide)
          refine r_aload_n C 0 d_Mo_next_176 rfl rfl ?_
          refine r_iconst C (nI 0) d_Mo_next_177 (by decide) ?_
          refine r_put C (ws' := [(m0, .inr (9, MO ad qth (nI k) (bI qir) (nI tn) qde qru (nI c) qe (nI 1) (nI c) (nI 0) (oI wr) qop (bI qiu) qwi qhe qrw qma)), ((ad 2), .inl (g.2.1 0, 2000, .inl (aI T))), ((ad 6), .inl (g.2.1 0, 2000, .inl (aI BE))), ((ad 7), .inl (g.2.1 0, 2000, .inl (aI EN)))]) 0 23 d_Mo_next_178 ci_Mo fi_Mo_123 rfl (by decide) rfl rfl (rfl) (rfl) (by simp) rfl ?_
          refine r_aload_n C 0 d_Mo_next_181 rfl rfl ?_
          refine r_get C 0 21 d_Mo_next_182 ci_Mo fi_Mo_100 rfl (by decide) rfl rfl ?_
          refine r_iconst C (nI 3) d_Mo_next_185 (by decide) ?_
          refine r_ncmp_ne C 199 d_Mo_next_186 (by decide) (by omega) (by omega) (fun c_186 => ?_) (fun c_186 => ?_)
          rotate_left
          · exact absurd c_186 (by decide)
          refine r_lv (lv' := [(0, .ref m0), (1, .int qe), (2, .int (bI jo))]) [0, 1, 2] rfl ?_
          exact lp_Mo_next_199 g (m0 := m0) (ad := ad) (qth := qth) (qde := qde) (qru := qru) (qbe := qbe) (qva := qva) (qop := qop) (qwi := qwi) (qhe := qhe) (qrw := qrw) (qma := qma) (qir := qir) (qiu := qiu) (k := k) (so := so) (e := e) (tn := tn) (qe := qe) (wr := wr) (T := T) (BE := BE) (EN := EN) hk hT hso he hq hs1 hs2 htn hwr  C E hR _ 1 c c wr jo (by first | assumption | omega | rfl) (by first | assumption | omega | rfl) (by first | assumption | omega | rfl) (hec) (by rw [← hc, run_stop (by first | omega | (intro q; rw [isBlk, decide_eq_true_eq] at q; omega))]) (hwr) (by first | assumption | omega | rfl) (Or.inr (Or.inl ⟨rfl, by omega, c_115, rfl, rfl⟩)) (Nat.lt_succ_self _)
      · skip
        refine r_iconst C (nI 0) d_Mo_next_99 (by decide) ?_
        refine r_goto C 142 d_Mo_next_100 (by decide) ?_
        refine r_put C (ws' := [(m0, .inr (9, MO ad qth (nI k) (bI qir) (nI tn) qde qru (nI c) qe (nI 0) (nI c) qva (oI wr) qop (bI qiu) qwi qhe qrw qma)), ((ad 2), .inl (g.2.1 0, 2000, .inl (aI T))), ((ad 6), .inl (g.2.1 0, 2000, .inl (aI BE))), ((ad 7), .inl (g.2.1 0, 2000, .inl (aI EN)))]) 0 21 d_Mo_next_142 ci_Mo fi_Mo_100 rfl (by decide) rfl rfl (rfl) (rfl) (by simp) rfl ?_
        refine r_aload_n C 0 d_Mo_next_145 rfl rfl ?_
        refine r_get C 0 21 d_Mo_next_146 ci_Mo fi_Mo_100 rfl (by decide) rfl rfl ?_
        refine r_iconst C (nI 3) d_Mo_next_149 (by decide) ?_
        refine r_ncmp_ne C 176 d_Mo_next_150 (by decide) (by omega) (by omega) (fun c_150 => ?_) (fun c_150 => ?_)
        rotate_left
        · exact absurd c_150 (by decide)
        refine r_aload_n C 0 d_Mo_next_176 rfl rfl ?_
        refine r_iconst C (nI 0) d_Mo_next_177 (by decide) ?_
        refine r_put C (ws' := [(m0, .inr (9, MO ad qth (nI k) (bI qir) (nI tn) qde qru (nI c) qe (nI 0) (nI c) (nI 0) (oI wr) qop (bI qiu) qwi qhe qrw qma)), ((ad 2), .inl (g.2.1 0, 2000, .inl (aI T))), ((ad 6), .inl (g.2.1 0, 2000, .inl (aI BE))), ((ad 7), .inl (g.2.1 0, 2000, .inl (aI EN)))]) 0 23 d_Mo_next_178 ci_Mo fi_Mo_123 rfl (by decide) rfl rfl (rfl) (rfl) (by simp) rfl ?_
        refine r_aload_n C 0 d_Mo_next_181 rfl rfl ?_
        refine r_get C 0 21 d_Mo_next_182 ci_Mo fi_Mo_100 rfl (by decide) rfl rfl ?_
        refine r_iconst C (nI 3) d_Mo_next_185 (by decide) ?_
        refine r_ncmp_ne C 199 d_Mo_next_186 (by decide) (by omega) (by omega) (fun c_186 => ?_) (fun c_186 => ?_)
        rotate_left
        · exact absurd c_186 (by decide)
        refine r_lv (lv' := [(0, .ref m0), (1, .int qe), (2, .int (bI jo))]) [0, 1, 2] rfl ?_
        exact lp_Mo_next_199 g (m0 := m0) (ad := ad) (qth := qth) (qde := qde) (qru := qru) (qbe := qbe) (qva := qva) (qop := qop) (qwi := qwi) (qhe := qhe) (qrw := qrw) (qma := qma) (qir := qir) (qiu := qiu) (k := k) (so := so) (e := e) (tn := tn) (qe := qe) (wr := wr) (T := T) (BE := BE) (EN := EN) hk hT hso he hq hs1 hs2 htn hwr  C E hR _ 0 c c wr jo (by first | assumption | omega | rfl) (by first | assumption | omega | rfl) (by first | assumption | omega | rfl) (hec) (by rw [← hc, run_stop (by first | omega | (intro q; rw [isBlk, decide_eq_true_eq] at q; omega))]) (hwr) (by first | assumption | omega | rfl) (Or.inl ⟨rfl, by omega, rfl, rfl⟩) (Nat.lt_succ_self _)
    · skip
      have hTc := hT c
      refine r_aload_n C 0 d_Mo_next_38 rfl rfl ?_
      refine r_get C 0 2 d_Mo_next_39 ci_Mo fi_Mo_7 rfl (by decide) rfl rfl ?_
      refine r_aload_n C 0 d_Mo_next_42 rfl rfl ?_
      refine r_get C 0 19 d_Mo_next_43 ci_Mo fi_Mo_103 rfl (by decide) rfl rfl ?_
      refine r_nald C 1 0 d_Mo_next_46 rfl rfl (by omega) (by decide) ?_
      refine r_bipush C (nI 32) d_Mo_next_47 (by decide) ?_
      refine r_ncmp_eq C 66 d_Mo_next_49 (by decide) (by omega) (by omega) (fun c_49 => ?_) (fun c_49 => ?_)
      · skip
        refine r_aload_n C 0 d_Mo_next_66 rfl rfl ?_
        refine r_dup C d_Mo_next_67 rfl ?_
        refine r_get C 0 19 d_Mo_next_68 ci_Mo fi_Mo_103 rfl (by decide) rfl rfl ?_
        refine r_iconst C (nI 1) d_Mo_next_71 (by decide) ?_
        refine r_nadd C d_Mo_next_72 ?_
        refine r_put C (ws' := [(m0, .inr (9, MO ad qth (nI k) (bI qir) (nI tn) qde qru (nI (c + 1)) qe (nI so) qbe qva (oI wr) qop (bI qiu) qwi qhe qrw qma)), ((ad 2), .inl (g.2.1 0, 2000, .inl (aI T))), ((ad 6), .inl (g.2.1 0, 2000, .inl (aI BE))), ((ad 7), .inl (g.2.1 0, 2000, .inl (aI EN)))]) 0 19 d_Mo_next_73 ci_Mo fi_Mo_103 rfl (by decide) rfl rfl (rfl) (rfl) (by simp) rfl ?_
        refine r_goto C 27 d_Mo_next_76 (by decide) ?_
        refine r_lv (lv' := [(0, .ref m0), (1, .int qe), (2, .int (bI jo))]) [0, 1, 2] rfl ?_
        exact ih (c + 1) jo (by first | assumption | omega | rfl) (by first | assumption | omega | rfl) (by rw [← hc]; exact (run_go (by omega) (by rw [isBlk]; exact decide_eq_true (by omega))).symm) (by first | assumption | omega | rfl) (by omega)
      · skip
        refine r_aload_n C 0 d_Mo_next_52 rfl rfl ?_
        refine r_get C 0 2 d_Mo_next_53 ci_Mo fi_Mo_7 rfl (by decide) rfl rfl ?_
        refine r_aload_n C 0 d_Mo_next_56 rfl rfl ?_
        refine r_get C 0 19 d_Mo_next_57 ci_Mo fi_Mo_103 rfl (by decide) rfl rfl ?_
        refine r_nald C 1 0 d_Mo_next_60 rfl rfl (by omega) (by decide) ?_
        refine r_bipush C (nI 10) d_Mo_next_61 (by decide) ?_
        refine r_ncmp_ne C 79 d_Mo_next_63 (by decide) (by omega) (by omega) (fun c_63 => ?_) (fun c_63 => ?_)
        · skip
          refine r_aload_n C 0 d_Mo_next_79 rfl rfl ?_
          refine r_aload_n C 0 d_Mo_next_80 rfl rfl ?_
          refine r_get C 0 19 d_Mo_next_81 ci_Mo fi_Mo_103 rfl (by decide) rfl rfl ?_
          refine r_put C (ws' := [(m0, .inr (9, MO ad qth (nI k) (bI qir) (nI tn) qde qru (nI c) qe (nI so) (nI c) qva (oI wr) qop (bI qiu) qwi qhe qrw qma)), ((ad 2), .inl (g.2.1 0, 2000, .inl (aI T))), ((ad 6), .inl (g.2.1 0, 2000, .inl (aI BE))), ((ad 7), .inl (g.2.1 0, 2000, .inl (aI EN)))]) 0 22 d_Mo_next_84 ci_Mo fi_Mo_106 rfl (by decide) rfl rfl (rfl) (rfl) (by simp) rfl ?_
          refine r_aload_n C 0 d_Mo_next_87 rfl rfl ?_
          refine r_aload_n C 0 d_Mo_next_88 rfl rfl ?_
          refine r_get C 0 19 d_Mo_next_89 ci_Mo fi_Mo_103 rfl (by decide) rfl rfl ?_
          refine r_aload_n C 0 d_Mo_next_92 rfl rfl ?_
          refine r_get C 0 1 d_Mo_next_93 ci_Mo fi_Mo_91 rfl (by decide) rfl rfl ?_
          refine r_ncmp_ne C 103 d_Mo_next_96 (by decide) (by omega) (by omega) (fun c_96 => ?_) (fun c_96 => ?_)
          · skip
            have hTc2 := hT c
            refine r_aload_n C 0 d_Mo_next_103 rfl rfl ?_
            refine r_get C 0 2 d_Mo_next_104 ci_Mo fi_Mo_7 rfl (by decide) rfl rfl ?_
            refine r_aload_n C 0 d_Mo_next_107 rfl rfl ?_
            refine r_get C 0 19 d_Mo_next_108 ci_Mo fi_Mo_103 rfl (by decide) rfl rfl ?_
            refine r_nald C 1 0 d_Mo_next_111 rfl rfl (by omega) (by decide) ?_
            refine j_callS C (c_Mo_isLetter g (xl x) (c := T c) (by first | assumption | omega | rfl)) (Sp.of (wr := [(m0, .inr (9, MO ad qth (nI k) (bI qir) (nI tn) qde qru (nI c) qe (nI so) (nI c) qva (oI wr) qop (bI qiu) qwi qhe qrw qma)), ((ad 2), .inl (g.2.1 0, 2000, .inl (aI T))), ((ad 6), .inl (g.2.1 0, 2000, .inl (aI BE))), ((ad 7), .inl (g.2.1 0, 2000, .inl (aI EN)))]) [] [0, 1, 2, 3] rfl rfl rfl rfl (by decide)) d_Mo_next_112 lk_Mo_109 mw_Mo_isLetter st_Mo_isLetter (fit_of hR (by first | decide | (simp only [rmk]; omega)) (by first | decide | (simp only [rmk]; omega)) (by first | decide | (simp only [rmk]; omega)) (by first | decide | (simp only [rmk]; omega))) rfl (cat8 (Nat.le_of_ble_eq_true rfl)) (As := [.int (nI (T c))]) (rest := [.ref m0]) rfl (fun r_112 w_112 hp_112 => ?_)
            obtain ⟨rfl, rfl⟩ := hp_112
            refine r_after (ws' := [(m0, .inr (9, MO ad qth (nI k) (bI qir) (nI tn) qde qru (nI c) qe (nI so) (nI c) qva (oI wr) qop (bI qiu) qwi qhe qrw qma)), ((ad 2), .inl (g.2.1 0, 2000, .inl (aI T))), ((ad 6), .inl (g.2.1 0, 2000, .inl (aI BE))), ((ad 7), .inl (g.2.1 0, 2000, .inl (aI EN)))]) (st' := [.int (bI (isLet (T c))), .ref m0]) (n1 := 0) (n2 := 0) [0, 1, 2, 3] rfl rfl rfl rfl rfl ?_
            refine r_bif_eq C 122 d_Mo_next_115 (by decide) (fun c_115 => ?_) (fun c_115 => ?_)
            · skip
              refine r_aload_n C 0 d_Mo_next_122 rfl rfl ?_
              refine r_get C 0 2 d_Mo_next_123 ci_Mo fi_Mo_7 rfl (by decide) rfl rfl ?_
              refine r_aload_n C 0 d_Mo_next_126 rfl rfl ?_
              refine r_get C 0 19 d_Mo_next_127 ci_Mo fi_Mo_103 rfl (by decide) rfl rfl ?_
              refine r_nald C 1 0 d_Mo_next_130 rfl rfl (by omega) (by decide) ?_
              refine j_callS C (c_Mo_isDigit g (xl x) (c := T c) (by first | assumption | omega | rfl)) (Sp.of (wr := [(m0, .inr (9, MO ad qth (nI k) (bI qir) (nI tn) qde qru (nI c) qe (nI so) (nI c) qva (oI wr) qop (bI qiu) qwi qhe qrw qma)), ((ad 2), .inl (g.2.1 0, 2000, .inl (aI T))), ((ad 6), .inl (g.2.1 0, 2000, .inl (aI BE))), ((ad 7), .inl (g.2.1 0, 2000, .inl (aI EN)))]) [] [0, 1, 2, 3] rfl rfl rfl rfl (by decide)) d_Mo_next_131 lk_Mo_113 mw_Mo_isDigit st_Mo_isDigit (fit_of hR (by first | decide | (simp only [rmk]; omega)) (by first | decide | (simp only [rmk]; omega)) (by first | decide | (simp only [rmk]; omega)) (by first | decide | (simp only [rmk]; omega))) rfl (cat8 (Nat.le_of_ble_eq_true rfl)) (As := [.int (nI (T c))]) (rest := [.ref m0]) rfl (fun r_131 w_131 hp_131 => ?_)
              obtain ⟨rfl, rfl⟩ := hp_131
              refine r_after (ws' := [(m0, .inr (9, MO ad qth (nI k) (bI qir) (nI tn) qde qru (nI c) qe (nI so) (nI c) qva (oI wr) qop (bI qiu) qwi qhe qrw qma)), ((ad 2), .inl (g.2.1 0, 2000, .inl (aI T))), ((ad 6), .inl (g.2.1 0, 2000, .inl (aI BE))), ((ad 7), .inl (g.2.1 0, 2000, .inl (aI EN)))]) (st' := [.int (bI (isDig (T c))), .ref m0]) (n1 := 0) (n2 := 0) [0, 1, 2, 3] rfl rfl rfl rfl rfl ?_
              refine r_bif_eq C 141 d_Mo_next_134 (by decide) (fun c_134 => ?_) (fun c_134 => ?_)
              · skip
                refine r_iconst C (nI 3) d_Mo_next_141 (by decide) ?_
                refine r_put C (ws' := [(m0, .inr (9, MO ad qth (nI k) (bI qir) (nI tn) qde qru (nI c) qe (nI 3) (nI c) qva (oI wr) qop (bI qiu) qwi qhe qrw qma)), ((ad 2), .inl (g.2.1 0, 2000, .inl (aI T))), ((ad 6), .inl (g.2.1 0, 2000, .inl (aI BE))), ((ad 7), .inl (g.2.1 0, 2000, .inl (aI EN)))]) 0 21 d_Mo_next_142 ci_Mo fi_Mo_100 rfl (by decide) rfl rfl (rfl) (rfl) (by simp) rfl ?_
                refine r_aload_n C 0 d_Mo_next_145 rfl rfl ?_
                refine r_get C 0 21 d_Mo_next_146 ci_Mo fi_Mo_100 rfl (by decide) rfl rfl ?_
                refine r_iconst C (nI 3) d_Mo_next_149 (by decide) ?_
                refine r_ncmp_ne C 176 d_Mo_next_150 (by decide) (by omega) (by omega) (fun c_150 => ?_) (fun c_150 => ?_)
                · exact absurd c_150 (by decide)
                refine r_aload_n C 0 d_Mo_next_153 rfl rfl ?_
                refine r_get C 0 2 d_Mo_next_154 ci_Mo fi_Mo_7 rfl (by decide) rfl rfl ?_
                refine r_aload_n C 0 d_Mo_next_157 rfl rfl ?_
                refine r_get C 0 19 d_Mo_next_158 ci_Mo fi_Mo_103 rfl (by decide) rfl rfl ?_
                refine r_nald C 1 0 d_Mo_next_161 rfl rfl (by omega) (by decide) ?_
                refine j_callS C (c_Mo_isSign g (xl x) (c := T c) (by first | assumption | omega | rfl)) (Sp.of (wr := [(m0, .inr (9, MO ad qth (nI k) (bI qir) (nI tn) qde qru (nI c) qe (nI 3) (nI c) qva (oI wr) qop (bI qiu) qwi qhe qrw qma)), ((ad 2), .inl (g.2.1 0, 2000, .inl (aI T))), ((ad 6), .inl (g.2.1 0, 2000, .inl (aI BE))), ((ad 7), .inl (g.2.1 0, 2000, .inl (aI EN)))]) [] [0, 1, 2, 3] rfl rfl rfl rfl (by decide)) d_Mo_next_162 lk_Mo_116 mw_Mo_isSign st_Mo_isSign (fit_of hR (by first | decide | (simp only [rmk]; omega)) (by first | decide | (simp only [rmk]; omega)) (by first | decide | (simp only [rmk]; omega)) (by first | decide | (simp only [rmk]; omega))) rfl (cat8 (Nat.le_of_ble_eq_true rfl)) (As := [.int (nI (T c))]) (rest := []) rfl (fun r_162 w_162 hp_162 => ?_)
                obtain ⟨rfl, rfl⟩ := hp_162
                refine r_after (ws' := [(m0, .inr (9, MO ad qth (nI k) (bI qir) (nI tn) qde qru (nI c) qe (nI 3) (nI c) qva (oI wr) qop (bI qiu) qwi qhe qrw qma)), ((ad 2), .inl (g.2.1 0, 2000, .inl (aI T))), ((ad 6), .inl (g.2.1 0, 2000, .inl (aI BE))), ((ad 7), .inl (g.2.1 0, 2000, .inl (aI EN)))]) (st' := [.int (bI (isSgn (T c)))]) (n1 := 0) (n2 := 0) [0, 1, 2, 3] rfl rfl rfl rfl rfl ?_
                refine r_bif_ne C 176 d_Mo_next_165 (by decide) (fun c_165 => ?_) (fun c_165 => ?_)
                · skip
                  refine r_aload_n C 0 d_Mo_next_176 rfl rfl ?_
                  refine r_iconst C (nI 0) d_Mo_next_177 (by decide) ?_
                  refine r_put C (ws' := [(m0, .inr (9, MO ad qth (nI k) (bI qir) (nI tn) qde qru (nI c) qe (nI 3) (nI c) (nI 0) (oI wr) qop (bI qiu) qwi qhe qrw qma)), ((ad 2), .inl (g.2.1 0, 2000, .inl (aI T))), ((ad 6), .inl (g.2.1 0, 2000, .inl (aI BE))), ((ad 7), .inl (g.2.1 0, 2000, .inl (aI EN)))]) 0 23 d_Mo_next_178 ci_Mo fi_Mo_123 rfl (by decide) rfl rfl (rfl) (rfl) (by simp) rfl ?_
                  refine r_aload_n C 0 d_Mo_next_181 rfl rfl ?_
                  refine r_get C 0 21 d_Mo_next_182 ci_Mo fi_Mo_100 rfl (by decide) rfl rfl ?_
                  refine r_iconst C (nI 3) d_Mo_next_185 (by decide) ?_
                  refine r_ncmp_ne C 199 d_Mo_next_186 (by decide) (by omega) (by omega) (fun c_186 => ?_) (fun c_186 => ?_)
                  · exact absurd c_186 (by decide)
                  refine r_aload_n C 0 d_Mo_next_189 rfl rfl ?_
                  refine r_dup C d_Mo_next_190 rfl ?_
                  refine r_get C 0 19 d_Mo_next_191 ci_Mo fi_Mo_103 rfl (by decide) rfl rfl ?_
                  refine r_iconst C (nI 1) d_Mo_next_194 (by decide) ?_
                  refine r_nadd C d_Mo_next_195 ?_
                  refine r_put C (ws' := [(m0, .inr (9, MO ad qth (nI k) (bI qir) (nI tn) qde qru (nI (c + 1)) qe (nI 3) (nI c) (nI 0) (oI wr) qop (bI qiu) qwi qhe qrw qma)), ((ad 2), .inl (g.2.1 0, 2000, .inl (aI T))), ((ad 6), .inl (g.2.1 0, 2000, .inl (aI BE))), ((ad 7), .inl (g.2.1 0, 2000, .inl (aI EN)))]) 0 19 d_Mo_next_196 ci_Mo fi_Mo_103 rfl (by decide) rfl rfl (rfl) (rfl) (by simp) rfl ?_
                  refine r_lv (lv' := [(0, .ref m0), (1, .int qe), (2, .int (bI jo))]) [0, 1, 2] rfl ?_
                  exact lp_Mo_next_199 g (m0 := m0) (ad := ad) (qth := qth) (qde := qde) (qru := qru) (qbe := qbe) (qva := qva) (qop := qop) (qwi := qwi) (qhe := qhe) (qrw := qrw) (qma := qma) (qir := qir) (qiu := qiu) (k := k) (so := so) (e := e) (tn := tn) (qe := qe) (wr := wr) (T := T) (BE := BE) (EN := EN) hk hT hso he hq hs1 hs2 htn hwr  C E hR _ 3 (c + 1) c wr jo (by first | assumption | omega | rfl) (by first | assumption | omega | rfl) (by first | assumption | omega | rfl) (hec) (by rw [← hc, run_stop (by first | omega | (intro q; rw [isBlk, decide_eq_true_eq] at q; omega))]) (hwr) (by first | assumption | omega | rfl) (Or.inr (Or.inr (Or.inr ⟨rfl, by omega, c_115, c_134, rfl, by rw [c_165]; rfl⟩))) (Nat.lt_succ_self _)
                · skip
                  refine r_aload_n C 0 d_Mo_next_168 rfl rfl ?_
                  refine r_aload_n C 0 d_Mo_next_169 rfl rfl ?_
                  refine r_get C 0 19 d_Mo_next_170 ci_Mo fi_Mo_103 rfl (by decide) rfl rfl ?_
                  refine j_callV C (c_Mo_refuse g (xl x) (m0 := m0) (ad := ad) (qth := qth) (qsz := nI k) (qtk := nI tn) (qde := qde) (qru := qru) (qat := nI c) (qen := qe) (qto := nI 3) (qbe := nI c) (qva := qva) (qop := qop) (qwi := qwi) (qhe := qhe) (qrw := qrw) (qma := qma) (qir := qir) (qiu := qiu) (wr := wr) (c := c) (by first | assumption | omega | rfl) (by first | exact hw2 | exact hwr | exact orb hw2 (by omega))) (Sp.of (wr := [((ad 2), .inl (g.2.1 0, 2000, .inl (aI T))), ((ad 6), .inl (g.2.1 0, 2000, .inl (aI BE))), ((ad 7), .inl (g.2.1 0, 2000, .inl (aI EN)))]) [0] [1, 2, 3] rfl rfl rfl rfl (by decide)) d_Mo_next_173 lk_Mo_119 mw_Mo_refuse vw_Mo_refuse (q0 := 0) rfl rfl (fit_of hR (by first | decide | (simp only [rmk]; omega)) (by first | decide | (simp only [rmk]; omega)) (by first | decide | (simp only [rmk]; omega)) (by first | decide | (simp only [rmk]; omega))) rfl (cat8 (Nat.le_of_ble_eq_true rfl)) (As := [.int (nI c)]) (rest := []) rfl (fun r_173 w_173 hp_173 => ?_)
                  obtain ⟨rfl, rfl⟩ := hp_173
                  refine r_after (ws' := [(m0, .inr (9, MO ad qth (nI k) (bI qir) (nI tn) qde qru (nI c) qe (nI 3) (nI c) qva (oI (wr.orElse fun _ => some c)) qop (bI qiu) qwi qhe qrw qma)), ((ad 2), .inl (g.2.1 0, 2000, .inl (aI T))), ((ad 6), .inl (g.2.1 0, 2000, .inl (aI BE))), ((ad 7), .inl (g.2.1 0, 2000, .inl (aI EN)))]) (st' := []) (n1 := 0) (n2 := 0) [3, 0, 1, 2] rfl rfl rfl rfl rfl ?_
                  refine r_aload_n C 0 d_Mo_next_176 rfl rfl ?_
                  refine r_iconst C (nI 0) d_Mo_next_177 (by decide) ?_
                  refine r_put C (ws' := [(m0, .inr (9, MO ad qth (nI k) (bI qir) (nI tn) qde qru (nI c) qe (nI 3) (nI c) (nI 0) (oI (wr.orElse fun _ => some c)) qop (bI qiu) qwi qhe qrw qma)), ((ad 2), .inl (g.2.1 0, 2000, .inl (aI T))), ((ad 6), .inl (g.2.1 0, 2000, .inl (aI BE))), ((ad 7), .inl (g.2.1 0, 2000, .inl (aI EN)))]) 0 23 d_Mo_next_178 ci_Mo fi_Mo_123 rfl (by decide) rfl rfl (rfl) (rfl) (by simp) rfl ?_
                  refine r_aload_n C 0 d_Mo_next_181 rfl rfl ?_
                  refine r_get C 0 21 d_Mo_next_182 ci_Mo fi_Mo_100 rfl (by decide) rfl rfl ?_
                  refine r_iconst C (nI 3) d_Mo_next_185 (by decide) ?_
                  refine r_ncmp_ne C 199 d_Mo_next_186 (by decide) (by omega) (by omega) (fun c_186 => ?_) (fun c_186 => ?_)
                  · exact absurd c_186 (by decide)
                  refine r_aload_n C 0 d_Mo_next_189 rfl rfl ?_
                  refine r_dup C d_Mo_next_190 rfl ?_
                  refine r_get C 0 19 d_Mo_next_191 ci_Mo fi_Mo_103 rfl (by decide) rfl rfl ?_
                  refine r_iconst C (nI 1) d_Mo_next_194 (by decide) ?_
                  refine r_nadd C d_Mo_next_195 ?_
                  refine r_put C (ws' := [(m0, .inr (9, MO ad qth (nI k) (bI qir) (nI tn) qde qru (nI (c + 1)) qe (nI 3) (nI c) (nI 0) (oI (wr.orElse fun _ => some c)) qop (bI qiu) qwi qhe qrw qma)), ((ad 2), .inl (g.2.1 0, 2000, .inl (aI T))), ((ad 6), .inl (g.2.1 0, 2000, .inl (aI BE))), ((ad 7), .inl (g.2.1 0, 2000, .inl (aI EN)))]) 0 19 d_Mo_next_196 ci_Mo fi_Mo_103 rfl (by decide) rfl rfl (rfl) (rfl) (by simp) rfl ?_
                  refine r_lv (lv' := [(0, .ref m0), (1, .int qe), (2, .int (bI jo))]) [0, 1, 2] rfl ?_
                  exact lp_Mo_next_199 g (m0 := m0) (ad := ad) (qth := qth) (qde := qde) (qru := qru) (qbe := qbe) (qva := qva) (qop := qop) (qwi := qwi) (qhe := qhe) (qrw := qrw) (qma := qma) (qir := qir) (qiu := qiu) (k := k) (so := so) (e := e) (tn := tn) (qe := qe) (wr := wr) (T := T) (BE := BE) (EN := EN) hk hT hso he hq hs1 hs2 htn hwr  C E hR _ 3 (c + 1) c (wr.orElse fun _ => some c) jo (by first | assumption | omega | rfl) (by first | assumption | omega | rfl) (by first | assumption | omega | rfl) (hec) (by rw [← hc, run_stop (by first | omega | (intro q; rw [isBlk, decide_eq_true_eq] at q; omega))]) (orb hwr (by omega)) (by first | assumption | omega | rfl) (Or.inr (Or.inr (Or.inr ⟨rfl, by omega, c_115, c_134, rfl, by rw [c_165]; rfl⟩))) (Nat.lt_succ_self _)
              · skip
                refine r_iconst C (nI 2) d_Mo_next_137 (by decide) ?_
                refine r_goto C 142 d_Mo_next_138 (by decide) ?_
                refine r_put C (ws' := [(m0, .inr (9, MO ad qth (nI k) (bI qir) (nI tn) qde qru (nI c) qe (nI 2) (nI c) qva (oI wr) qop (bI qiu) qwi qhe qrw qma)), ((ad 2), .inl (g.2.1 0, 2000, .inl (aI T))), ((ad 6), .inl (g.2.1 0, 2000, .inl (aI BE))), ((ad 7), .inl (g.2.1 0, 2000, .inl (aI EN)))]) 0 21 d_Mo_next_142 ci_Mo fi_Mo_100 rfl (by decide) rfl rfl (rfl) (rfl) (by simp) rfl ?_
                refine r_aload_n C 0 d_Mo_next_145 rfl rfl ?_
                refine r_get C 0 21 d_Mo_next_146 ci_Mo fi_Mo_100 rfl (by decide) rfl rfl ?_
                refine r_iconst C (nI 3) d_Mo_next_149 (by decide) ?_
                refine r_ncmp_ne C 176 d_Mo_next_150 (by decide) (by omega) (by omega) (fun c_150 => ?_) (fun c_150 => ?_)
                rotate_left
                · exact absurd c_150 (by decide)
                refine r_aload_n C 0 d_Mo_next_176 rfl rfl ?_
                refine r_iconst C (nI 0) d_Mo_next_177 (by decide) ?_
                refine r_put C (ws' := [(m0, .inr (9, MO ad qth (nI k) (bI qir) (nI tn) qde qru (nI c) qe (nI 2) (nI c) (nI 0) (oI wr) qop (bI qiu) qwi qhe qrw qma)), ((ad 2), .inl (g.2.1 0, 2000, .inl (aI T))), ((ad 6), .inl (g.2.1 0, 2000, .inl (aI BE))), ((ad 7), .inl (g.2.1 0, 2000, .inl (aI EN)))]) 0 23 d_Mo_next_178 ci_Mo fi_Mo_123 rfl (by decide) rfl rfl (rfl) (rfl) (by simp) rfl ?_
                refine r_aload_n C 0 d_Mo_next_181 rfl rfl ?_
                refine r_get C 0 21 d_Mo_next_182 ci_Mo fi_Mo_100 rfl (by decide) rfl rfl ?_
                refine r_iconst C (nI 3) d_Mo_next_185 (by decide) ?_
                refine r_ncmp_ne C 199 d_Mo_next_186 (by decide) (by omega) (by omega) (fun c_186 => ?_) (fun c_186 => ?_)
                rotate_left
                · exact absurd c_186 (by decide)
                refine r_lv (lv' := [(0, .ref m0), (1, .int qe), (2, .int (bI jo))]) [0, 1, 2] rfl ?_
                exact lp_Mo_next_199 g (m0 := m0) (ad := ad) (qth := qth) (qde := qde) (qru := qru) (qbe := qbe) (qva := qva) (qop := qop) (qwi := qwi) (qhe := qhe) (qrw := qrw) (qma := qma) (qir := qir) (qiu := qiu) (k := k) (so := so) (e := e) (tn := tn) (qe := qe) (wr := wr) (T := T) (BE := BE) (EN := EN) hk hT hso he hq hs1 hs2 htn hwr  C E hR _ 2 c c wr jo (by first | assumption | omega | rfl) (by first | assumption | omega | rfl) (by first | assumption | omega | rfl) (hec) (by rw [← hc, run_stop (by first | omega | (intro q; rw [isBlk, decide_eq_true_eq] at q; omega))]) (hwr) (by first | assumption | omega | rfl) (Or.inr (Or.inr (Or.inl ⟨rfl, by omega, c_115, c_134, rfl, rfl⟩))) (Nat.lt_succ_self _)
            · skip
              refine r_iconst C (nI 1) d_Mo_next_118 (by decide) ?_
              refine r_goto C 142 d_Mo_next_119 (by decide) ?_
              refine r_put C (ws' := [(m0, .inr (9, MO ad qth (nI k) (bI qir) (nI tn) qde qru (nI c) qe (nI 1) (nI c) qva (oI wr) qop (bI qiu) qwi qhe qrw qma)), ((ad 2), .inl (g.2.1 0, 2000, .inl (aI T))), ((ad 6), .inl (g.2.1 0, 2000, .inl (aI BE))), ((ad 7), .inl (g.2.1 0, 2000, .inl (aI EN)))]) 0 21 d_Mo_next_142 ci_Mo fi_Mo_100 rfl (by decide) rfl rfl (rfl) (rfl) (by simp) rfl ?_
              refine r_aload_n C 0 d_Mo_next_145 rfl rfl ?_
              refine r_get C 0 21 d_Mo_next_146 ci_Mo fi_Mo_100 rfl (by decide) rfl rfl ?_
              refine r_iconst C (nI 3) d_Mo_next_149 (by decide) ?_
              refine r_ncmp_ne C 176 d_Mo_next_150 (by decide) (by omega) (by omega) (fun c_150 => ?_) (fun c_150 => ?_)
              rotate_left
              · exact absurd c_150 (by decide)
              refine r_aload_n C 0 d_Mo_next_176 rfl rfl ?_
              refine r_iconst C (nI 0) d_Mo_next_177 (by decide) ?_
              refine r_put C (ws' := [(m0, .inr (9, MO ad qth (nI k) (bI qir) (nI tn) qde qru (nI c) qe (nI 1) (nI c) (nI 0) (oI wr) qop (bI qiu) qwi qhe qrw qma)), ((ad 2), .inl (g.2.1 0, 2000, .inl (aI T))), ((ad 6), .inl (g.2.1 0, 2000, .inl (aI BE))), ((ad 7), .inl (g.2.1 0, 2000, .inl (aI EN)))]) 0 23 d_Mo_next_178 ci_Mo fi_Mo_123 rfl (by decide) rfl rfl (rfl) (rfl) (by simp) rfl ?_
              refine r_aload_n C 0 d_Mo_next_181 rfl rfl ?_
              refine r_get C 0 21 d_Mo_next_182 ci_Mo fi_Mo_100 rfl (by decide) rfl rfl ?_
              refine r_iconst C (nI 3) d_Mo_next_185 (by decide) ?_
              refine r_ncmp_ne C 199 d_Mo_next_186 (by decide) (by omega) (by omega) (fun c_186 => ?_) (fun c_186 => ?_)
              rotate_left
              · exact absurd c_186 (by decide)
              refine r_lv (lv' := [(0, .ref m0), (1, .int qe), (2, .int (bI jo))]) [0, 1, 2] rfl ?_
              exact lp_Mo_next_199 g (m0 := m0) (ad := ad) (qth := qth) (qde := qde) (qru := qru) (qbe := qbe) (qva := qva) (qop := qop) (qwi := qwi) (qhe := qhe) (qrw := qrw) (qma := qma) (qir := qir) (qiu := qiu) (k := k) (so := so) (e := e) (tn := tn) (qe := qe) (wr := wr) (T := T) (BE := BE) (EN := EN) hk hT hso he hq hs1 hs2 htn hwr  C E hR _ 1 c c wr jo (by first | assumption | omega | rfl) (by first | assumption | omega | rfl) (by first | assumption | omega | rfl) (hec) (by rw [← hc, run_stop (by first | omega | (intro q; rw [isBlk, decide_eq_true_eq] at q; omega))]) (hwr) (by first | assumption | omega | rfl) (Or.inr (Or.inl ⟨rfl, by omega, c_115, rfl, rfl⟩)) (Nat.lt_succ_self _)
          · skip
            refine r_iconst C (nI 0) d_Mo_next_99 (by decide) ?_
            refine r_goto C 142 d_Mo_next_100 (by decide) ?_
            refine r_put C (ws' := [(m0, .inr (9, MO ad qth (nI k) (bI qir) (nI tn) qde qru (nI c) qe (nI 0) (nI c) qva (oI wr) qop (bI qiu) qwi qhe qrw qma)), ((ad 2), .inl (g.2.1 0, 2000, .inl (aI T))), ((ad 6), .inl (g.2.1 0, 2000, .inl (aI BE))), ((ad 7), .inl (g.2.1 0, 2000, .inl (aI EN)))]) 0 21 d_Mo_next_142 ci_Mo fi_Mo_100 rfl (by decide) rfl rfl (rfl) (rfl) (by simp) rfl ?_
            refine r_aload_n C 0 d_Mo_next_145 rfl rfl ?_
            refine r_get C 0 21 d_Mo_next_146 ci_Mo fi_Mo_100 rfl (by decide) rfl rfl ?_
            refine r_iconst C (nI 3) d_Mo_next_149 (by decide) ?_
            refine r_ncmp_ne C 176 d_Mo_next_150 (by decide) (by omega) (by omega) (fun c_150 => ?_) (fun c_150 => ?_)
            rotate_left
            · exact absurd c_150 (by decide)
            refine r_aload_n C 0 d_Mo_next_176 rfl rfl ?_
            refine r_iconst C (nI 0) d_Mo_next_177 (by decide) ?_
            refine r_put C (ws' := [(m0, .inr (9, MO ad qth (nI k) (bI qir) (nI tn) qde qru (nI c) qe (nI 0) (nI c) (nI 0) (oI wr) qop (bI qiu) qwi qhe qrw qma)), ((ad 2), .inl (g.2.1 0, 2000, .inl (aI T))), ((ad 6), .inl (g.2.1 0, 2000, .inl (aI BE))), ((ad 7), .inl (g.2.1 0, 2000, .inl (aI EN)))]) 0 23 d_Mo_next_178 ci_Mo fi_Mo_123 rfl (by decide) rfl rfl (rfl) (rfl) (by simp) rfl ?_
            refine r_aload_n C 0 d_Mo_next_181 rfl rfl ?_
            refine r_get C 0 21 d_Mo_next_182 ci_Mo fi_Mo_100 rfl (by decide) rfl rfl ?_
            refine r_iconst C (nI 3) d_Mo_next_185 (by decide) ?_
            refine r_ncmp_ne C 199 d_Mo_next_186 (by decide) (by omega) (by omega) (fun c_186 => ?_) (fun c_186 => ?_)
            rotate_left
            · exact absurd c_186 (by decide)
            refine r_lv (lv' := [(0, .ref m0), (1, .int qe), (2, .int (bI jo))]) [0, 1, 2] rfl ?_
            exact lp_Mo_next_199 g (m0 := m0) (ad := ad) (qth := qth) (qde := qde) (qru := qru) (qbe := qbe) (qva := qva) (qop := qop) (qwi := qwi) (qhe := qhe) (qrw := qrw) (qma := qma) (qir := qir) (qiu := qiu) (k := k) (so := so) (e := e) (tn := tn) (qe := qe) (wr := wr) (T := T) (BE := BE) (EN := EN) hk hT hso he hq hs1 hs2 htn hwr  C E hR _ 0 c c wr jo (by first | assumption | omega | rfl) (by first | assumption | omega | rfl) (by first | assumption | omega | rfl) (hec) (by rw [← hc, run_stop (by first | omega | (intro q; rw [isBlk, decide_eq_true_eq] at q; omega))]) (hwr) (by first | assumption | omega | rfl) (Or.inl ⟨rfl, by omega, rfl, rfl⟩) (Nat.lt_succ_self _)
        · skip
          refine r_aload_n C 0 d_Mo_next_66 rfl rfl ?_
          refine r_dup C d_Mo_next_67 rfl ?_
          refine r_get C 0 19 d_Mo_next_68 ci_Mo fi_Mo_103 rfl (by decide) rfl rfl ?_
          refine r_iconst C (nI 1) d_Mo_next_71 (by decide) ?_
          refine r_nadd C d_Mo_next_72 ?_
          refine r_put C (ws' := [(m0, .inr (9, MO ad qth (nI k) (bI qir) (nI tn) qde qru (nI (c + 1)) qe (nI so) qbe qva (oI wr) qop (bI qiu) qwi qhe qrw qma)), ((ad 2), .inl (g.2.1 0, 2000, .inl (aI T))), ((ad 6), .inl (g.2.1 0, 2000, .inl (aI BE))), ((ad 7), .inl (g.2.1 0, 2000, .inl (aI EN)))]) 0 19 d_Mo_next_73 ci_Mo fi_Mo_103 rfl (by decide) rfl rfl (rfl) (rfl) (by simp) rfl ?_
          refine r_goto C 27 d_Mo_next_76 (by decide) ?_
          refine r_lv (lv' := [(0, .ref m0), (1, .int qe), (2, .int (bI jo))]) [0, 1, 2] rfl ?_
          exact ih (c + 1) jo (by first | assumption | omega | rfl) (by first | assumption | omega | rfl) (by rw [← hc]; exact (run_go (by omega) (by rw [isBlk]; exact decide_eq_true (by omega))).symm) (by first | assumption | omega | rfl) (by omega)
set_option maxHeartbeats 4000000 in
set_option maxRecDepth 100000 in
theorem c_Mo_next (g : GG) (l : Launch) {m0 : Nat} {ad : Nat → Nat} {qth : Int32} {qde : Int32} {qru : Int32} {qbe : Int32} {qva : Int32} {qop : Int32} {qwi : Int32} {qhe : Int32} {qrw : Int32} {qma : Int32} {qir : Bool} {qiu : Bool} {k : Nat} {so : Nat} {e : Nat} {tn : Nat} {qe : Int32} {wr : Option Nat} {T : Nat → Nat} {BE : Nat → Nat} {EN : Nat → Nat}  (hk : k ≤ 2000) (hT : ∀ j, T j < 256) (hso : so ≤ 3) (he : e ≤ k) (hq : so = 1 ∨ so = 2 → qe = nI e) (hs1 : so = 1 → ¬ (e < k ∧ isLet (T e) = true)) (hs2 : so = 2 → ¬ (e < k ∧ isDig (T e) = true)) (htn : tn ≤ e) (hwr : ∀ z, wr = some z → z < 2 ^ 31) : Cn g l y_Mo_next b_Mo_next 3 none (rmk 1 0 0 21) [.ref m0] ([(m0, .inr (9, MO ad qth (nI k) (bI qir) (nI tn) qde qru (nI e) qe (nI so) qbe qva (oI wr) qop (bI qiu) qwi qhe qrw qma)), ((ad 2), .inl (g.2.1 0, 2000, .inl (aI T))), ((ad 6), .inl (g.2.1 0, 2000, .inl (aI BE))), ((ad 7), .inl (g.2.1 0, 2000, .inl (aI EN)))]) (fun (r0 : Option Value) (w0 : va_W) => ∃ tk : Tok, ∃ t2 : Nat, ∃ tn2 : Nat, ∃ wr2 : Option Nat, ∃ BE2 : Nat → Nat, ∃ EN2 : Nat → Nat, r0 = none ∧ w0 = [(m0, .inr (9, MO ad qth (nI k) (bI qir) (nI tn2) qde qru (nI tk.2.2.1) (nI tk.2.2.1) (nI t2) (nI tk.2.1) (nI (vaM t2 tk)) (oI wr2) qop (bI qiu) qwi qhe qrw qma)), ((ad 2), .inl (g.2.1 0, 2000, .inl (aI T))), ((ad 6), .inl (g.2.1 0, 2000, .inl (aI BE2))), ((ad 7), .inl (g.2.1 0, 2000, .inl (aI EN2)))] ∧ (NextR T k so e wr tk t2 wr2) ∧ (NoteR tk t2 wr2 tn BE EN tn2 BE2 EN2)) := by
  refine Cn.of R_Mo [(0, .ref m0)] (by decide) rfl (Nat.le_of_ble_eq_true rfl) rfl ?_
  intro x A Q hR hXl hin C E
  subst hXl
  refine r_aload_n C 0 d_Mo_next_0 rfl rfl ?_
  refine r_get C 0 20 d_Mo_next_1 ci_Mo fi_Mo_97 rfl (by decide) rfl rfl ?_
  refine r_istore_n C (lv' := [(1, .int qe), (0, .ref m0)]) d_Mo_next_4 rfl (by decide) rfl ?_
  refine r_aload_n C 1 d_Mo_next_5 rfl rfl ?_
  refine r_get C 0 21 d_Mo_next_6 ci_Mo fi_Mo_100 rfl (by decide) rfl rfl ?_
  refine r_iconst C (nI 1) d_Mo_next_9 (by decide) ?_
  refine r_ncmp_eq C 21 d_Mo_next_10 (by decide) (by omega) (by omega) (fun c_10 => ?_) (fun c_10 => ?_)
  · skip
    refine r_iconst C (nI 1) d_Mo_next_21 (by decide) ?_
    refine r_goto C 26 d_Mo_next_22 (by decide) ?_
    refine r_istore_n C (lv' := [(2, .int (nI 1)), (1, .int qe), (0, .ref m0)]) d_Mo_next_26 rfl (by decide) rfl ?_
    refine r_lv (lv' := [(0, .ref m0), (1, .int qe), (2, .int (bI true))]) [2, 1, 0] rfl ?_
    exact lp_Mo_next_27 g (m0 := m0) (ad := ad) (qth := qth) (qde := qde) (qru := qru) (qbe := qbe) (qva := qva) (qop := qop) (qwi := qwi) (qhe := qhe) (qrw := qrw) (qma := qma) (qir := qir) (qiu := qiu) (k := k) (so := so) (e := e) (tn := tn) (qe := qe) (wr := wr) (T := T) (BE := BE) (EN := EN) hk hT hso he hq hs1 hs2 htn hwr  C E hR _ e true (by first | assumption | omega | rfl) (by first | assumption | omega | rfl) (by first | assumption | omega | rfl) (by symm; first | exact decide_eq_true (by omega) | exact decide_eq_false (by omega)) (Nat.lt_succ_self _)
  · skip
    refine r_aload_n C 1 d_Mo_next_13 rfl rfl ?_
    refine r_get C 0 21 d_Mo_next_14 ci_Mo fi_Mo_100 rfl (by decide) rfl rfl ?_
    refine r_iconst C (nI 2) d_Mo_next_17 (by decide) ?_
    refine r_ncmp_ne C 25 d_Mo_next_18 (by decide) (by omega) (by omega) (fun c_18 => ?_) (fun c_18 => ?_)
    · skip
      refine r_iconst C (nI 0) d_Mo_next_25 (by decide) ?_
      refine r_istore_n C (lv' := [(2, .int (nI 0)), (1, .int qe), (0, .ref m0)]) d_Mo_next_26 rfl (by decide) rfl ?_
      refine r_lv (lv' := [(0, .ref m0), (1, .int qe), (2, .int (bI false))]) [2, 1, 0] rfl ?_
      exact lp_Mo_next_27 g (m0 := m0) (ad := ad) (qth := qth) (qde := qde) (qru := qru) (qbe := qbe) (qva := qva) (qop := qop) (qwi := qwi) (qhe := qhe) (qrw := qrw) (qma := qma) (qir := qir) (qiu := qiu) (k := k) (so := so) (e := e) (tn := tn) (qe := qe) (wr := wr) (T := T) (BE := BE) (EN := EN) hk hT hso he hq hs1 hs2 htn hwr  C E hR _ e false (by first | assumption | omega | rfl) (by first | assumption | omega | rfl) (by first | assumption | omega | rfl) (by symm; first | exact decide_eq_true (by omega) | exact decide_eq_false (by omega)) (Nat.lt_succ_self _)
    · skip
      refine r_iconst C (nI 1) d_Mo_next_21 (by decide) ?_
      refine r_goto C 26 d_Mo_next_22 (by decide) ?_
      refine r_istore_n C (lv' := [(2, .int (nI 1)), (1, .int qe), (0, .ref m0)]) d_Mo_next_26 rfl (by decide) rfl ?_
      refine r_lv (lv' := [(0, .ref m0), (1, .int qe), (2, .int (bI true))]) [2, 1, 0] rfl ?_
      exact lp_Mo_next_27 g (m0 := m0) (ad := ad) (qth := qth) (qde := qde) (qru := qru) (qbe := qbe) (qva := qva) (qop := qop) (qwi := qwi) (qhe := qhe) (qrw := qrw) (qma := qma) (qir := qir) (qiu := qiu) (k := k) (so := so) (e := e) (tn := tn) (qe := qe) (wr := wr) (T := T) (BE := BE) (EN := EN) hk hT hso he hq hs1 hs2 htn hwr  C E hR _ e true (by first | assumption | omega | rfl) (by first | assumption | omega | rfl) (by first | assumption | omega | rfl) (by symm; first | exact decide_eq_true (by omega) | exact decide_eq_false (by omega)) (Nat.lt_succ_self _)
