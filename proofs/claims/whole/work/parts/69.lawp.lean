section LWP
theorem app_det {T T2 T3 : Nat → Nat} {k k2 k3 : Nat} {u : Int32} {ok ok2 : Bool} (h : Appended T k u ok T2 k2) (h2 : Appended T k u ok2 T3 k3) : ok = ok2 ∧ T2 = T3 ∧ k2 = k3 := by
  rcases h with ⟨c, e, hc, hk, rfl, rfl, rfl⟩ | ⟨rfl, rfl, rfl, hn⟩ <;> rcases h2 with ⟨d, e2, hd, hk2, rfl, rfl, rfl⟩ | ⟨rfl, rfl, rfl, hn2⟩
  · rw [e] at e2
    obtain rfl := (nI_eq (by omega) (by omega)).mp e2
    exact ⟨rfl, rfl, rfl⟩
  · rcases hn2 with z | z
    · exact absurd e (z c hc)
    · omega
  · rcases hn with z | z
    · exact absurd e2 (z d hd)
    · omega
  · exact ⟨rfl, rfl, rfl⟩
theorem app_b {T T2 : Nat → Nat} {k k2 : Nat} {u : Int32} {ok : Bool} (h : Appended T k u ok T2 k2) (hT : ∀ j, T j < 256) (hk : k ≤ 2000) : k2 ≤ 2000 ∧ k2 ≤ k + 1 ∧ ∀ j, T2 j < 256 := by
  rcases h with ⟨c, e, hc, hk1, rfl, rfl, rfl⟩ | ⟨rfl, rfl, rfl, hn⟩
  · refine ⟨by omega, Nat.le_refl _, fun j => ?_⟩
    by_cases q : j = k
    · rw [q, up_self]; exact hc
    · rw [up_ne _ _ q]; exact hT j
  · exact ⟨hk, by omega, hT⟩
/-- what a reading comes to -/
def RP (T : Nat → Nat) (k : Nat) : MR := if (parseP T k).1 = true ∧ (parseP T k).2.1.2.2.1.1 = 0 then .inr ((parseP T k).2.1.1, (parseP T k).2.1.2.1, (parseP T k).2.1.2.2.2) else .inl (parseP T k).2.1.2.2.1.2.1
theorem run_RP {T BE EN : Nat → Nat} {k : Nat} (hT : ∀ j, T j < 256) (hk : k ≤ 2000) : ∃ F, mrun T k F ([], 0, [], xOf T k 3 0 BE EN 0, true, true) = some (RP T k) := by
  obtain ⟨F, h⟩ := sim_top hT hk
  refine ⟨F, ?_⟩
  show mrun T k F ([], 0, [], (tokAt T k 3 0, outM T BE EN 0), true, true) = some (RP T k)
  rw [tok_30]
  exact h
theorem outM_len {T BE EN : Nat → Nat} : ∀ m, (∀ j, j < m → BE j < EN j) → 2 * m ≤ (outM T BE EN m).length + 1 ∧ (0 < m → outM T BE EN m ≠ []) := by
  intro m
  induction m with
  | zero => intro _; exact ⟨Nat.zero_le _, fun h => absurd h (Nat.lt_irrefl _)⟩
  | succ m ih =>
    intro h
    obtain ⟨h1, h2⟩ := ih fun j q => h j (by omega)
    have h3 := h m (by omega)
    have e : (outM T BE EN (m + 1)).length = (outM T BE EN m).length + (if outM T BE EN m = [] then [] else [32] : List Nat).length + (EN m - BE m) := by
      rw [outM, prt]
      simp [Nat.add_assoc]
    have h4 : 2 * (m + 1) ≤ (outM T BE EN (m + 1)).length + 1 := by
      rw [e]
      cases m with
      | zero => omega
      | succ m =>
        rw [if_neg (h2 (by omega))]
        simp only [List.length_cons, List.length_nil]
        omega
    exact ⟨h4, fun _ z => by rw [z] at h4; simp at h4; omega⟩
/-- the class's book and the reference's arrays hold the same -/
def RdI (g : GG) (PP : va_W) (RA : Nat → Option Nat) (PA : Nat → Nat) (rules : List RuleV) (ou : List Nat) (tn db : Nat) (Tr : Nat → Nat) (kr : Nat) (KI LI AR WH FI SE BE EN BY : Nat → Nat) (CO NU CN : Nat → Option Nat) : Prop :=
  RulesAt g PP RA rules ∧ OutAt PA ou ∧ rules.length ≤ 400 ∧ ou.length ≤ 4000 ∧ db ≤ 40 ∧ (∀ r ∈ rules, r.1 < 23) ∧ RulA rules rules.length KI LI AR WH FI SE CO NU CN ∧ ou = outM Tr BE EN tn ∧ tn ≤ 2000 ∧ kr ≤ 2000 ∧ (∀ j, j < tn → BE j < EN j ∧ EN j ≤ kr) ∧ ∀ j, j < kr → BY j = Tr j
theorem rd_0 {g : GG} {PP : va_W} {RA : Nat → Option Nat} {PA : Nat → Nat} {Tr KI LI AR WH FI SE BE EN BY : Nat → Nat} {CO NU CN : Nat → Option Nat} : RdI g PP RA PA [] [] 0 0 Tr 0 KI LI AR WH FI SE BE EN BY CO NU CN :=
  ⟨fun i r h => (by cases h), fun j v h => (by cases h), by decide, by decide, by decide, fun r h => (by cases h), rul_0, rfl, by decide, by decide, fun j h => absurd h (Nat.not_lt_zero _), fun j h => absurd h (Nat.not_lt_zero _)⟩
/-- both read -/
theorem read_go {g : GG} {T : Nat → Nat} {k : Nat} {ok0 pr2 ir2 : Bool} {rules2 : List RuleV} {dp2 rb2 pb2 db2 nr2 tn2 dp3 : Nat} {tk : Tok} {ou : List Nat} {PP2 : va_W} {RA2 : Nat → Option Nat} {PB KI LI AR WH FI SE BE EN BY : Nat → Nat} {CO NU CN : Nat → Option Nat} {rv rv2 : Int32} (hT : ∀ j, T j < 256) (hk : k ≤ 2000) (hx : (ok0, (rules2, dp2, tk, ou)) = BP (parseP T k)) (hR2 : RulesAt g PP2 RA2 rules2) (hO2 : TokOK k tk) (hc2 : ou.length ≤ 2 * tk.2.1) (ho2 : (ok0 && decide (tk.1 = 0)) = true → OutAt PB ou) (h42 : rules2.length ≤ 400) (hd2 : dp2 ≤ 40)
    (hrd : ReadRes (ok0 && decide (tk.1 = 0)) rules2 dp2 tk ou rv pr2 rb2 pb2 db2) (hrm : ReadM T k (RP T k) rv2 ir2 nr2 tn2 dp3 KI LI AR WH FI SE BE EN BY CO NU CN) :
    rv = rv2 ∧ pr2 = ir2 ∧ db2 = dp3 ∧ rb2 = nr2 ∧ ∃ rules ou2 kr, rb2 = rules.length ∧ pb2 = ou2.length ∧ RdI g PP2 RA2 PB rules ou2 tn2 db2 T kr KI LI AR WH FI SE BE EN BY CO NU CN := by
  obtain ⟨e1, e2⟩ := BP_1 hx
  have hki := (cells_le (T := T) (k := k) hT).2
  unfold RP at hrm
  rw [e1, e2] at hrm
  rw [e2] at hki
  simp only [] at hrm hki
  rcases hrd with ⟨q, rfl, rfl, rfl, rfl, rfl⟩ | ⟨q, rfl, rfl, rfl, rfl, rfl⟩
  · have ho2 := ho2 q
    rw [Bool.and_eq_true, decide_eq_true_eq] at q
    rw [if_pos q] at hrm
    rcases hrm with ⟨v, h, _⟩ | ⟨rs, o2, h, rfl, rfl, hA, hd, ho, hB, hE⟩
    · cases h
    · cases h
      have hl := hO2.1
      have hl2 := hO2.2.1
      have hm := (outM_len (T := T) tn2 fun j hj => (hE j hj).1).1
      rw [← ho] at hm
      obtain rfl := hA.1
      exact ⟨rfl, rfl, rfl, rfl, rules2, ou, k, rfl, rfl, hR2, ho2, h42, by omega, hd2, hki, hA, ho, by omega, hk, hE, hB⟩
  · have q2 : ¬ (ok0 = true ∧ tk.1 = 0) := fun z => by
      rw [z.1, z.2] at q
      cases q
    rw [if_neg q2] at hrm
    rcases hrm with ⟨v, h, hv, rfl, rfl, rfl, rfl, rfl⟩ | ⟨rs, o2, h, _⟩
    · cases h
      exact ⟨rfl, rfl, rfl, rfl, [], [], 0, rfl, rfl, rd_0⟩
    · cases h
theorem wr_eq {PA : Nat → Nat} {ou : List Nat} {z : Option Nat} (h : OutAt PA ou) : ruleK PA ou.length z = z.bind fun j => ou[j]? := by
  cases z with
  | none => rfl
  | some j =>
    show (if j < ou.length then some (PA j) else none) = ou[j]?
    by_cases q : j < ou.length
    · rw [if_pos q, h j _ (List.getElem?_eq_getElem q), List.getElem?_eq_getElem q]
    · rw [if_neg q, List.getElem?_eq_none (by omega)]
theorem flat_take {R : Rows} {j : Nat} {r : Nat × List Nat} (h : R[j]? = some r) : flat (R.take (j + 1)) = flat (R.take j) ++ r.2 := by
  rw [List.take_add_one, h, flat_app]
  simp [flat]
theorem flat_le (R : Rows) (j : Nat) : (flat (R.take j)).length ≤ (flat R).length := by
  have h : flat R = flat (R.take j) ++ flat (R.drop j) := by rw [← flat_app, List.take_append_drop]
  rw [h, List.length_append]
  omega
def RowsOK (uw uh n : Nat) (R : Rows) : Prop := ∀ r ∈ R, r.1 < n ∧ SetOK uw uh r.2
variable {uw uh : Nat}
theorem unr_ok (hw : 0 < uw) (hg : uw * uh ≤ 256) : ∀ (lr : List LayerV) (L : List Nat), (∀ l ∈ lr, LyOK l) → SetOK uw uh L → ∀ c ∈ (unr uw uh lr L).2, SetOK uw uh c := by
  intro lr
  induction lr with
  | nil =>
    intro L _ h c hc
    rw [unr] at hc
    by_cases q : L = []
    · rw [if_pos q] at hc; cases hc
    · rw [if_neg q, List.mem_singleton] at hc
      rw [hc]; exact h
  | cons l lr ih =>
    intro L hl h c hc
    rw [unr] at hc
    simp only [unrs, List.mem_flatMap] at hc
    obtain ⟨d, hd, hc⟩ := hc
    exact ih d (fun x hx => hl x (List.mem_cons_of_mem _ hx)) ((kids_kd (hl l List.mem_cons_self) hw hg h).1 d hd) c hc
theorem unrF_ok (hw : 0 < uw) (hg : uw * uh ≤ 256) : ∀ (rs : List RuleV) (k : Nat) (a : Acc), (∀ r ∈ rs, ∀ l ∈ r.2.2.1, LyOK l) → (∀ md R, a = some (md, R) → inLim md R ∧ RowsOK uw uh k R) → ∀ md R, unrF uw uh k rs a = some (md, R) → inLim md R ∧ RowsOK uw uh (k + rs.length) R := by
  intro rs
  induction rs with
  | nil => intro k a _ h md R e; exact h md R e
  | cons r rs ih =>
    intro k a hl h md R e
    rw [List.length_cons, Nat.add_comm rs.length 1, ← Nat.add_assoc]
    refine ih (k + 1) _ (fun x hx => hl x (List.mem_cons_of_mem _ hx)) ?_ md R e
    intro m S q
    cases a with
    | none => cases q
    | some p =>
      obtain ⟨m0, R0⟩ := p
      obtain ⟨h1, h2⟩ := h m0 R0 rfl
      simp only [lim] at q
      split at q
      · rename_i z
        cases q
        refine ⟨z, fun x hx => ?_⟩
        rcases List.mem_append.mp hx with y | y
        · exact ⟨Nat.lt_succ_of_lt (h2 x y).1, (h2 x y).2⟩
        · simp only [tag, List.mem_map] at y
          obtain ⟨c, hc, rfl⟩ := y
          exact ⟨Nat.lt_succ_self _, unr_ok hw hg _ _ (fun l hx => hl r List.mem_cons_self l (List.mem_reverse.mp hx)) set_rng c hc⟩
      · cases q
theorem unrA_ok {rules : List RuleV} {md : Nat} {R : Rows} (hw : 0 < uw) (hg : uw * uh ≤ 256) (hl : ∀ r ∈ rules, ∀ l ∈ r.2.2.1, LyOK l) (e : unrA uw uh rules = some (md, R)) : inLim md R ∧ RowsOK uw uh rules.length R := by
  have := unrF_ok hw hg rules 0 (some (0, [])) hl (fun md R q => by cases q; exact ⟨⟨by decide, by decide, by decide⟩, fun r h => by cases h⟩) md R e
  rwa [Nat.zero_add] at this
/-- the class's store and the reference's arrays hold the same rows -/
def StI (rules : List RuleV) (pr iu : Bool) (gs rc pn uw uh rw_ : Nat) (RU SA PL : Nat → Nat) (TO : Nat → Bool) (RR RB PM : Nat → Nat) : Prop :=
  rw_ ≤ 4000 ∧ (∀ r ∈ rules, ∀ l ∈ r.2.2.1, LyOK l) ∧ ((iu = false ∧ gs = 0 ∧ rc = 0 ∧ pn = 0) ∨ (iu = true ∧ pr = true ∧ 0 < uw ∧ uw ≤ 16 ∧ 0 < uh ∧ uh ≤ 16 ∧ gs = uw * uh ∧ ∃ md R, unrA uw uh rules = some (md, R) ∧ StAt RU SA PL TO rc pn R ∧ MAt RR RB PM rw_ R))
variable {rules : List RuleV} {pr iu : Bool} {gs rc pn rw_ : Nat} {RU SA PL : Nat → Nat} {TO : Nat → Bool} {RR RB PM : Nat → Nat}
theorem st_b {R : Rows} {n md : Nat} (h : StAt RU SA PL TO rc pn R) (hl : inLim md R) (hr : RowsOK uw uh n R) : rc ≤ 4000 ∧ pn ≤ 30000 ∧ (∀ j, j < rc → SA j ≤ SA (j + 1)) ∧ (∀ j, j < rc → SA (j + 1) ≤ pn) ∧ (∀ j, j < rc → RU j < n) ∧ ∀ t, t < pn → PL t < uw * uh := by
  obtain ⟨h1, h2, h3, h4, _⟩ := h
  have hg : ∀ j, j < rc → ∃ r, R[j]? = some r := fun j hj => ⟨_, List.getElem?_eq_getElem (by omega)⟩
  refine ⟨by have := hl.2.1; omega, by have := hl.2.2; omega, fun j hj => ?_, fun j hj => ?_, fun j hj => ?_, fun t ht => ?_⟩
  · obtain ⟨r, e⟩ := hg j hj
    rw [(h3 j r e).2.1, (h3 j r e).2.2, flat_take e, List.length_append]
    omega
  · obtain ⟨r, e⟩ := hg j hj
    rw [(h3 j r e).2.2, h2]
    exact flat_le R (j + 1)
  · obtain ⟨r, e⟩ := hg j hj
    rw [(h3 j r e).1]
    exact (hr r (List.mem_of_getElem? e)).1
  · have e : (flat R)[t]? = some ((flat R)[t]'(by omega)) := List.getElem?_eq_getElem (by omega)
    rw [h4 t _ e]
    have hm := List.mem_of_getElem? e
    generalize (flat R)[t]'(by omega) = p at hm
    simp only [flat, List.mem_flatMap] at hm
    obtain ⟨r, hr1, hr2⟩ := hm
    exact (hr r hr1).2.2 p hr2
theorem sti_c (h : StI rules pr iu gs rc pn uw uh rw_ RU SA PL TO RR RB PM) : rc ≤ 4000 ∧ pn ≤ 30000 ∧ (∀ j, j < rc → SA j ≤ SA (j + 1)) ∧ (∀ j, j < rc → SA (j + 1) ≤ pn) ∧ (∀ j, j < rc → RU j < rules.length) ∧ gs ≤ 256 := by
  obtain ⟨_, hl, h | ⟨h1, h2, w0, w1, v0, v1, rfl, md, R, e, hs, hm⟩⟩ := h
  · obtain ⟨_, rfl, rfl, rfl⟩ := h
    exact ⟨by decide, by decide, fun j h => absurd h (Nat.not_lt_zero _), fun j h => absurd h (Nat.not_lt_zero _), fun j h => absurd h (Nat.not_lt_zero _), by decide⟩
  · have hg := gr_256 w1 v1
    obtain ⟨a, b⟩ := unrA_ok w0 hg hl e
    obtain ⟨c1, c2, c3, c4, c5, _⟩ := st_b hs a b
    exact ⟨c1, c2, c3, c4, c5, hg⟩
theorem sti_m (h : StI rules pr iu gs rc pn uw uh rw_ RU SA PL TO RR RB PM) (h4 : rules.length ≤ 400) : rw_ ≤ 4000 ∧ (iu = true → ∀ j, j < rw_ → RB j ≤ RB (j + 1)) ∧ (iu = true → ∀ j, j < rw_ → RB (j + 1) ≤ 30000) ∧ (iu = true → ∀ j, j < rw_ → RR j < 500) ∧ (iu = true → pn ≤ 30000 ∧ RB rw_ = pn ∧ (∀ i, i < pn → PM i < 256) ∧ uw * uh ≤ 256) := by
  obtain ⟨h9, hl, h | ⟨h1, h2, w0, w1, v0, v1, rfl, md, R, e, hs, hm⟩⟩ := h
  · obtain ⟨rfl, rfl, rfl, rfl⟩ := h
    exact ⟨h9, fun q => (by cases q), fun q => (by cases q), fun q => (by cases q), fun q => (by cases q)⟩
  · have hg := gr_256 w1 v1
    obtain ⟨a, b⟩ := unrA_ok w0 hg hl e
    obtain ⟨c1, c2, c3, c4, c5, c6⟩ := st_b hm.1 a b
    have hp : pn = (flat R).length := hs.2.1
    exact ⟨h9, fun _ => c3, fun _ j hj => Nat.le_trans (c4 j hj) c2, fun _ j hj => by have := c5 j hj; omega, fun _ => ⟨by omega, by rw [hm.2, hp], fun i hi => by have := c6 i (by omega); omega, hg⟩⟩
theorem sti_has (h : StI rules pr iu gs rc pn uw uh rw_ RU SA PL TO RR RB PM) (z : Option Nat) : (iu && hasK rw_ z) = hasK rc z := by
  obtain ⟨_, _, h | ⟨h1, h2, w0, w1, v0, v1, rfl, md, R, e, hs, hm⟩⟩ := h
  · obtain ⟨rfl, rfl, rfl, rfl⟩ := h
    cases z <;> simp [hasK]
  · subst h1
    rw [hs.1, hm.1.1]
    rfl
theorem sti_row {KI LI AR WH FI SE : Nat → Nat} {CO NU CN : Nat → Option Nat} {j y : Nat} {rv : RuleV} (h : StI rules pr iu gs rc pn uw uh rw_ RU SA PL TO RR RB PM) (hA : RulA rules rules.length KI LI AR WH FI SE CO NU CN) (hj : j < rc) (hrv : rules[RU j]? = some rv) : rowW RR KI RB CO NU CN j y = rowV rv (RU j) (SA (j + 1) - SA j) y := by
  obtain ⟨_, _, h | ⟨h1, h2, w0, w1, v0, v1, rfl, md, R, e, hs, hm⟩⟩ := h
  · obtain ⟨rfl, rfl, rfl, rfl⟩ := h
    exact absurd hj (Nat.not_lt_zero _)
  · have hj2 : j < R.length := by rw [← hs.1]; exact hj
    have er : R[j]? = some R[j] := List.getElem?_eq_getElem hj2
    obtain ⟨a1, a2, a3⟩ := hs.2.2.1 j _ er
    obtain ⟨b1, b2, b3⟩ := hm.1.2.2.1 j _ er
    obtain ⟨k1, _, k3, k4, k5, _⟩ := hA.2 _ _ hrv
    unfold rowW rowV
    rw [show RR j = RU j by rw [a1, b1], k1, k3, k4, k5, a2, a3, b2, b3]
theorem place_eq {RU' SA' PL' : Nat → Nat} {TO' : Nat → Bool} {rc' pn' : Nat} {R : Rows} (h : StAt RU SA PL TO rc pn R) (h2 : StAt RU' SA' PL' TO' rc' pn' R) (z y : Option Nat) : placeK SA' PL' rc' z y = placeK SA PL rc z y := by
  cases z with
  | none => rfl
  | some j =>
    cases y with
    | none => rfl
    | some i =>
      have e : rc' = rc := by rw [h.1, h2.1]
      subst e
      show (if j < rc' ∧ i < SA' (j + 1) - SA' j then some (PL' (SA' j + i)) else none) = (if j < rc' ∧ i < SA (j + 1) - SA j then some (PL (SA j + i)) else none)
      by_cases hj : j < rc'
      · have hj2 : j < R.length := by rw [← h.1]; exact hj
        have er : R[j]? = some R[j] := List.getElem?_eq_getElem hj2
        obtain ⟨a1, a2, a3⟩ := h.2.2.1 j _ er
        obtain ⟨b1, b2, b3⟩ := h2.2.2.1 j _ er
        have hle := flat_le R (j + 1)
        rw [b2, b3, a2, a3]
        by_cases q : j < rc' ∧ i < (flat (R.take (j + 1))).length - (flat (R.take j)).length
        · rw [if_pos q, if_pos q]
          have ht : (flat (R.take j)).length + i < (flat R).length := by omega
          have et : (flat R)[(flat (R.take j)).length + i]? = some _ := List.getElem?_eq_getElem ht
          rw [h.2.2.2.1 _ _ et, h2.2.2.2.1 _ _ et]
        · rw [if_neg q, if_neg q]
      · rw [if_neg (fun q => hj q.1), if_neg (fun q => hj q.1)]
theorem sti_place (h : StI rules pr iu gs rc pn uw uh rw_ RU SA PL TO RR RB PM) (z y : Option Nat) : (iu = true → placeK RB PM rw_ z y = placeK SA PL rc z y) ∧ (iu = false → placeK SA PL rc z y = none) ∧ ∀ v, placeK SA PL rc z y = some v → v < 256 := by
  have hc := sti_c h
  obtain ⟨_, hl, h | ⟨h1, h2, w0, w1, v0, v1, rfl, md, R, e, hs, hm⟩⟩ := h
  · obtain ⟨rfl, rfl, rfl, rfl⟩ := h
    have h0 : placeK SA PL 0 z y = none := placeK_none (by cases z <;> simp [hasK])
    exact ⟨fun q => (by cases q), fun _ => h0, fun v q => by rw [h0] at q; cases q⟩
  · refine ⟨fun _ => place_eq hs hm.1 z y, fun q => (by rw [h1] at q; cases q), fun v q => ?_⟩
    have hg := gr_256 w1 v1
    obtain ⟨a, b⟩ := unrA_ok w0 hg hl e
    obtain ⟨c1, c2, c3, c4, c5, c6⟩ := st_b hs a b
    cases z with
    | none => cases q
    | some j =>
      cases y with
      | none => cases q
      | some i =>
        unfold placeK at q
        simp only [] at q
        split at q
        · rename_i w
          cases q
          have := c4 j w.1
          have := c6 (SA j + i) (by omega)
          omega
        · cases q
theorem seat_fl {R : Rows} {m : Nat} (h : StAt RR RB PM TO rc m R) (p : Nat) : seatB PM m p = (flat R).contains p := by
  have hm : m = (flat R).length := h.2.1
  have e : (List.range m).map PM = flat R := by
    apply List.ext_getElem?
    intro t
    by_cases ht : t < m
    · have et : (flat R)[t]? = some ((flat R)[t]'(by omega)) := List.getElem?_eq_getElem (by omega)
      rw [et, ← h.2.2.2.1 t _ et]
      simp [List.getElem?_map, List.getElem?_range ht]
    · rw [List.getElem?_eq_none (by simp; omega), List.getElem?_eq_none (by omega)]
  rw [← e, seatB, List.contains_eq_any_beq, List.any_map]
  congr 1
  funext j
  simp only [Function.comp_apply]
  rw [Bool.beq_comm]
theorem frees_cg {A B : Nat → Bool} {m : Nat} (h : ∀ t, t < m → A t = B t) : frees A m = frees B m := by
  unfold frees
  apply List.filter_congr
  intro t ht
  rw [h t (List.mem_range.mp ht)]
theorem sti_pla {z y th rv : Int32} (h : StI rules pr iu gs rc pn uw uh rw_ RU SA PL TO RR RB PM) (hP : PlaR iu RB PM rw_ z y th rv) : (∀ v, placeK SA PL rc (inN z) (inN y) = some v → th = 0 ∧ rv = nI v) ∧ (placeK SA PL rc (inN z) (inN y) = none → th = 1) := by
  obtain ⟨h1, h2, _⟩ := sti_place h (inN z) (inN y)
  rcases hP with ⟨q, ⟨v, hv, rfl⟩, rfl⟩ | ⟨q, rfl, rfl⟩
  · rw [h1 q] at hv
    exact ⟨fun w hw => by rw [hv] at hw; cases hw; exact ⟨rfl, rfl⟩, fun hw => by rw [hv] at hw; cases hw⟩
  · refine ⟨fun w hw => ?_, fun _ => rfl⟩
    cases e : iu with
    | true =>
      have := q e
      rw [h1 e, hw] at this
      cases this
    | false =>
      rw [h2 e] at hw
      cases hw
theorem sti_free (h : StI rules pr iu gs rc pn uw uh rw_ RU SA PL TO RR RB PM) (z : Option Nat) : (if iu = true then freeK (seatB PM pn) (uw * uh) z else none) = freeK TO gs z := by
  obtain ⟨_, hl, h | ⟨h1, h2, w0, w1, v0, v1, rfl, md, R, e, hs, hm⟩⟩ := h
  · obtain ⟨rfl, rfl, rfl, rfl⟩ := h
    rw [if_neg (by decide)]
    cases z with
    | none => rfl
    | some j => rfl
  · rw [if_pos h1]
    have hg := gr_256 w1 v1
    have hp : pn = (flat R).length := hs.2.1
    cases z with
    | none => rfl
    | some j =>
      show (frees (seatB PM pn) (uw * uh))[j]? = (frees TO (uw * uh))[j]?
      rw [frees_cg (A := seatB PM pn) (B := TO) fun t ht => ?_]
      rw [hp, seat_fl hm.1 t, hs.2.2.2.2 t (by omega)]
theorem ans_y {c : Prop} {v th rv : Int32} (h : Ans c v th rv) (hc : c) : th = 0 ∧ rv = v := by
  rcases h with ⟨_, a, b⟩ | ⟨n, _, _⟩
  · exact ⟨a, b⟩
  · exact absurd hc n
theorem ans_n {c : Prop} {v th rv : Int32} (h : Ans c v th rv) (hc : ¬ c) : th = 1 := by
  rcases h with ⟨n, _, _⟩ | ⟨_, a, _⟩
  · exact absurd n hc
  · exact a
/-- the reference's rows, over the class's -/
theorem sti_go {mi : Int32} {tm iu2 : Bool} {th rv : Int32} {rc2 pn2 rw2 md : Nat} {R : Rows} {RU2 SA2 PL2 RR2 RB2 PM2 : Nat → Nat} {TO2 : Nat → Bool} (hl : ∀ r ∈ rules, ∀ l ∈ r.2.2.1, LyOK l) (w0 : 0 < uw) (w1 : uw ≤ 16) (v0 : 0 < uh) (v1 : uh ≤ 16) (hU : UAt (unrA uw uh rules) tm mi RU2 SA2 PL2 TO2 rc2 pn2) (hG : GoR (unrA uw uh rules) iu2 th rv rw2 RR2 RB2 PM2) (hun : unrA uw uh rules = some (md, R)) (hrw : rw2 ≤ 4000) :
    th = nI 0 ∧ rv = nI rc2 ∧ StI rules true iu2 (uw * uh) rc2 pn2 uw uh rw2 RU2 SA2 PL2 TO2 RR2 RB2 PM2 := by
  rw [hun] at hU hG
  obtain ⟨_, _, _, hs⟩ := hU
  obtain ⟨h1, h2, h3, _, hm⟩ := hG
  refine ⟨h2, by rw [h3, hs.1, hm.1.1], hrw, hl, Or.inr ⟨h1, rfl, w0, w1, v0, v1, rfl, md, R, hun, hs, hm⟩⟩
theorem sti_no {iu2 : Bool} {th rv : Int32} {rw2 : Nat} {RR2 RB2 PM2 : Nat → Nat} (hG : GoR (unrA uw uh rules) iu2 th rv rw2 RR2 RB2 PM2) (hun : unrA uw uh rules = none) : th = nI 3 ∧ iu2 = false := by
  rw [hun] at hG
  exact ⟨hG.2.1, hG.1⟩
theorem sti_0 {TO' : Nat → Bool} {RU' SA' PL' RR' RB' PM' : Nat → Nat} {uw' uh' rw' : Nat} (hl : ∀ r ∈ rules, ∀ l ∈ r.2.2.1, LyOK l) (h : rw' ≤ 4000) : StI rules pr false 0 0 0 uw' uh' rw' RU' SA' PL' TO' RR' RB' PM' := ⟨h, hl, Or.inl ⟨rfl, rfl, rfl, rfl⟩⟩
theorem rula_ly {KI LI AR WH FI SE : Nat → Nat} {CO NU CN : Nat → Option Nat} {n : Nat} (hA : RulA rules n KI LI AR WH FI SE CO NU CN) : ∀ r ∈ rules, r.2.2.1.length ≤ 40 ∧ ∀ l ∈ r.2.2.1, LyOK l := fun r hr => by
  obtain ⟨i, hi⟩ := List.getElem?_of_mem hr
  obtain ⟨_, _, _, _, _, _, h1, h2, _⟩ := hA.2 i r hi
  exact ⟨h1, h2⟩
end LWP
