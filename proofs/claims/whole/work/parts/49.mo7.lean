theorem w32_pos {f : Nat → Nat} {s m : Nat} (h : ∀ j, j < m + 1 → 97 ≤ f (s + j) ∧ f (s + j) ≤ 122) : 0 < w32 f s (m + 1) := by
  have := h m (by omega)
  rw [w32]
  omega
theorem w32_inj {f g : Nat → Nat} {s t : Nat} : ∀ m n, (∀ j, j < m → 97 ≤ f (s + j) ∧ f (s + j) ≤ 122) → (∀ j, j < n → 97 ≤ g (t + j) ∧ g (t + j) ≤ 122) → w32 f s m = w32 g t n → m = n ∧ ∀ j, j < m → f (s + j) = g (t + j) := by
  intro m
  induction m with
  | zero =>
    intro n _ hg h
    cases n with
    | zero => exact ⟨rfl, fun j hj => absurd hj (Nat.not_lt_zero _)⟩
    | succ n =>
      have := w32_pos hg
      rw [← h] at this
      simp [w32] at this
  | succ m ih =>
    intro n hf hg h
    cases n with
    | zero =>
      have := w32_pos hf
      rw [h] at this
      simp [w32] at this
    | succ n =>
      have a := hf m (by omega)
      have b := hg n (by omega)
      rw [w32, w32] at h
      obtain ⟨e, q⟩ := ih n (fun j hj => hf j (by omega)) (fun j hj => hg j (by omega)) (by omega)
      subst e
      refine ⟨rfl, fun j hj => ?_⟩
      by_cases z : j = m
      · subst z; omega
      · exact q j (by omega)
theorem w32_congr {f g : Nat → Nat} {s t : Nat} : ∀ m, (∀ j, j < m → f (s + j) = g (t + j)) → w32 f s m = w32 g t m := by
  intro m
  induction m with
  | zero => intro _; rfl
  | succ m ih =>
    intro h
    rw [w32, w32, ih (fun j hj => h j (by omega)), h m (by omega)]
def wHi (u : Nat) : Nat := w32 (wCh u) 0 (min (wLen.getD u 0) 6)
def wLo (u : Nat) : Nat := w32 (wCh u) 6 (wLen.getD u 0 - 6)
section WRD
variable {T : Nat → Nat} {s e u : Nat}
theorem isWm_st (hu : u < 23) (hl : ∀ i, s ≤ i → i < e → 97 ≤ T i ∧ T i ≤ 122) : isWm T 1 s e (wHi u) (wLo u) = stB T s e u := by
  have hc : ∀ j, j < wLen.getD u 0 → 97 ≤ wCh u j ∧ wCh u j ≤ 122 := fun j hj => ((wAll u hu).2.2.2 j hj).2
  have hL := (wAll u hu).2.1
  have hL0 := (wAll u hu).2.2.1
  rw [Bool.eq_iff_iff]
  simp only [isWm, stB, decide_eq_true_eq, wHi, wLo]
  constructor
  · rintro ⟨-, h12, h1, h2⟩
    obtain ⟨a1, a2⟩ := w32_inj (f := T) (g := wCh u) (s := s) (t := 0) _ _ (fun j hj => hl (s + j) (by omega) (by omega)) (fun j hj => by rw [Nat.zero_add]; exact hc j (by omega)) h1
    obtain ⟨b1, b2⟩ := w32_inj (f := T) (g := wCh u) (s := s + 6) (t := 6) _ _ (fun j hj => hl (s + 6 + j) (by omega) (by omega)) (fun j hj => hc (6 + j) (by omega)) h2
    refine ⟨by omega, fun j hj => ?_⟩
    by_cases z : j < 6
    · have := a2 j (by omega)
      rw [Nat.zero_add] at this
      exact this
    · have := b2 (j - 6) (by omega)
      rw [show s + 6 + (j - 6) = s + j by omega, show 6 + (j - 6) = j by omega] at this
      exact this
  · rintro ⟨h1, h2⟩
    refine ⟨trivial, by omega, ?_, ?_⟩
    · rw [h1]
      exact w32_congr _ fun j hj => by rw [Nat.zero_add]; exact h2 j (by omega)
    · rw [h1]
      exact w32_congr _ fun j hj => by rw [show s + 6 + j = s + (6 + j) by omega]; exact h2 (6 + j) (by omega)
theorem st_uni {v : Nat} (hu : u < 23) (hv : v < 23) (h1 : stB T s e u = true) (h2 : stB T s e v = true) : u = v := by
  simp only [stB, decide_eq_true_eq] at h1 h2
  have key : ∀ u, u < 23 → ∀ v, v < 23 → wLen.getD u 0 = wLen.getD v 0 → (∀ j, j < wLen.getD u 0 → wCh u j = wCh v j) → u = v := by decide +kernel
  exact key u hu v hv (by omega) (fun j hj => by rw [← h1.2 j hj, h2.2 j (by omega)])
theorem fw_some {p : Nat → Bool} {u : Nat} : ∀ f j, fw p f j = some u → p u = true ∧ j ≤ u ∧ u < j + f := by
  intro f
  induction f with
  | zero => intro j h; cases h
  | succ f ih =>
    intro j h
    rw [fw] at h
    by_cases q : p j = true
    · rw [if_pos q] at h
      cases h
      exact ⟨q, by omega, by omega⟩
    · rw [if_neg q] at h
      obtain ⟨a, b, c⟩ := ih _ h
      exact ⟨a, by omega, by omega⟩
theorem fw_nn {p : Nat → Bool} {u : Nat} : ∀ f j, fw p f j = none → j ≤ u → u < j + f → p u = false := by
  intro f
  induction f with
  | zero => intro j _ _ _; omega
  | succ f ih =>
    intro j h h1 h2
    rw [fw] at h
    by_cases q : p j = true
    · rw [if_pos q] at h; cases h
    · rw [if_neg q] at h
      by_cases z : u = j
      · rw [z]; simpa using q
      · exact ih _ h (by omega) (by omega)
theorem word_st (hu : u < 23) : stB T s e u = decide (wordAt T s e = some u) := by
  cases q : wordAt T s e with
  | none =>
    rw [fw_nn 23 0 q (by omega) (by omega)]
    rfl
  | some v =>
    obtain ⟨a, b, c⟩ := fw_some 23 0 q
    by_cases z : v = u
    · rw [← z, a]; simp
    · rw [decide_eq_false (fun y => z (Option.some.inj y))]
      cases w : stB T s e u with
      | false => rfl
      | true => exact absurd (st_uni (by omega) hu a w) z
theorem isWm_w (hu : u < 23) (hl : ∀ i, s ≤ i → i < e → 97 ≤ T i ∧ T i ≤ 122) {hi lo : Nat} (h1 : hi = wHi u) (h2 : lo = wLo u) : (isWm T 1 s e hi lo = true) = (wordAt T s e = some u) := by
  rw [h1, h2, isWm_st hu hl, word_st hu]
  simp
theorem isWm_n {so hi lo : Nat} (h : so ≠ 1) : isWm T so s e hi lo = false := by
  rw [isWm, decide_eq_false]
  exact fun q => h q.1
theorem shapeM_w (hl : ∀ i, s ≤ i → i < e → 97 ≤ T i ∧ T i ≤ 122) : shapeM T 1 s e = (wordAt T s e).bind fun w => if roleN w = 1 then some (w - 1) else none := by
  unfold shapeM
  simp only [isWm_w (u := 2) (by decide) hl (show (cod 0 0 0 (114 - 96) (111 - 96) (119 - 96)) = wHi 2 by decide) (show 0 = wLo 2 by decide), isWm_w (u := 3) (by decide) hl (show (cod (99 - 96) (111 - 96) (108 - 96) (117 - 96) (109 - 96) (110 - 96)) = wHi 3 by decide) (show 0 = wLo 3 by decide), isWm_w (u := 4) (by decide) hl (show (cod 0 (98 - 96) (108 - 96) (111 - 96) (99 - 96) (107 - 96)) = wHi 4 by decide) (show 0 = wLo 4 by decide), isWm_w (u := 5) (by decide) hl (show (cod 0 0 (99 - 96) (101 - 96) (108 - 96) (108 - 96)) = wHi 5 by decide) (show 0 = wLo 5 by decide), isWm_w (u := 6) (by decide) hl (show (cod 0 0 (112 - 96) (97 - 96) (105 - 96) (114 - 96)) = wHi 6 by decide) (show 0 = wLo 6 by decide), isWm_w (u := 7) (by decide) hl (show (cod (119 - 96) (105 - 96) (110 - 96) (100 - 96) (111 - 96) (119 - 96)) = wHi 7 by decide) (show 0 = wLo 7 by decide), isWm_w (u := 8) (by decide) hl (show (cod 0 0 (115 - 96) (105 - 96) (100 - 96) (101 - 96)) = wHi 8 by decide) (show 0 = wLo 8 by decide), isWm_w (u := 9) (by decide) hl (show (cod (99 - 96) (111 - 96) (114 - 96) (110 - 96) (101 - 96) (114 - 96)) = wHi 9 by decide) (show 0 = wLo 9 by decide), isWm_w (u := 10) (by decide) hl (show (cod (100 - 96) (105 - 96) (97 - 96) (103 - 96) (111 - 96) (110 - 96)) = wHi 10 by decide) (show 44 = wLo 10 by decide), isWm_w (u := 11) (by decide) hl (show (cod 0 0 (97 - 96) (110 - 96) (116 - 96) (105 - 96)) = wHi 11 by decide) (show 0 = wLo 11 by decide)]
  cases q : wordAt T s e with
  | none => rfl
  | some w =>
    have hw := (fw_some 23 0 q).2.2
    simp only [Option.some.injEq, Option.bind_some]
    have key : ∀ w, w < 23 → (if w = 2 then some 1 else if w = 3 then some 2 else if w = 4 then some 3 else if w = 5 then some 4 else if w = 6 then some 5 else if w = 7 then some 6 else if w = 8 then some 7 else if w = 9 then some 8 else if w = 10 then some 9 else if w = 11 then some 10 else (none : Option Nat)) = (if roleN w = 1 then some (w - 1) else none : Option Nat) := by decide
    exact key w (by omega)
theorem shapeM_n {so : Nat} (h : so ≠ 1) : shapeM T so s e = none := by
  unfold shapeM
  simp only [isWm_n h, Bool.false_eq_true, if_false]
theorem filterM_w (hl : ∀ i, s ≤ i → i < e → 97 ≤ T i ∧ T i ≤ 122) : filterM T 1 s e = (wordAt T s e).bind fun w => if roleN w = 2 then some (w - 1) else none := by
  unfold filterM
  simp only [isWm_w (u := 12) (by decide) hl (show (cod 0 0 0 (111 - 96) (100 - 96) (100 - 96)) = wHi 12 by decide) (show 0 = wLo 12 by decide), isWm_w (u := 13) (by decide) hl (show (cod 0 0 (101 - 96) (118 - 96) (101 - 96) (110 - 96)) = wHi 13 by decide) (show 0 = wLo 13 by decide), isWm_w (u := 14) (by decide) hl (show (cod (98 - 96) (111 - 96) (114 - 96) (100 - 96) (101 - 96) (114 - 96)) = wHi 14 by decide) (show 0 = wLo 14 by decide), isWm_w (u := 15) (by decide) hl (show (cod 0 (105 - 96) (110 - 96) (110 - 96) (101 - 96) (114 - 96)) = wHi 15 by decide) (show 0 = wLo 15 by decide)]
  cases q : wordAt T s e with
  | none => rfl
  | some w =>
    have hw := (fw_some 23 0 q).2.2
    simp only [Option.some.injEq, Option.bind_some]
    have key : ∀ w, w < 23 → (if w = 12 then some 11 else if w = 13 then some 12 else if w = 14 then some 13 else if w = 15 then some 14 else (none : Option Nat)) = (if roleN w = 2 then some (w - 1) else none : Option Nat) := by decide
    exact key w (by omega)
theorem filterM_n {so : Nat} (h : so ≠ 1) : filterM T so s e = none := by
  unfold filterM
  simp only [isWm_n h, Bool.false_eq_true, if_false]
theorem kindM_w (hl : ∀ i, s ≤ i → i < e → 97 ≤ T i ∧ T i ≤ 122) : kindM T 1 s e = (wordAt T s e).bind fun w => if roleN w = 3 then some (w - 16) else none := by
  unfold kindM
  simp only [isWm_w (u := 16) (by decide) hl (show (cod (117 - 96) (110 - 96) (108 - 96) (105 - 96) (107 - 96) (101 - 96)) = wHi 16 by decide) (show 0 = wLo 16 by decide), isWm_w (u := 17) (by decide) hl (show (cod 0 (101 - 96) (113 - 96) (117 - 96) (97 - 96) (108 - 96)) = wHi 17 by decide) (show 0 = wLo 17 by decide), isWm_w (u := 18) (by decide) hl (show (cod (114 - 96) (105 - 96) (115 - 96) (105 - 96) (110 - 96) (103 - 96)) = wHi 18 by decide) (show 0 = wLo 18 by decide), isWm_w (u := 19) (by decide) hl (show (cod (102 - 96) (97 - 96) (108 - 96) (108 - 96) (105 - 96) (110 - 96)) = wHi 19 by decide) (show 7 = wLo 19 by decide), isWm_w (u := 20) (by decide) hl (show (cod 0 0 0 (115 - 96) (117 - 96) (109 - 96)) = wHi 20 by decide) (show 0 = wLo 20 by decide), isWm_w (u := 21) (by decide) hl (show (cod 0 (99 - 96) (111 - 96) (117 - 96) (110 - 96) (116 - 96)) = wHi 21 by decide) (show 0 = wLo 21 by decide), isWm_w (u := 22) (by decide) hl (show (cod 0 (103 - 96) (105 - 96) (118 - 96) (101 - 96) (110 - 96)) = wHi 22 by decide) (show 0 = wLo 22 by decide)]
  cases q : wordAt T s e with
  | none => rfl
  | some w =>
    have hw := (fw_some 23 0 q).2.2
    simp only [Option.some.injEq, Option.bind_some]
    have key : ∀ w, w < 23 → (if w = 16 then some 0 else if w = 17 then some 1 else if w = 18 then some 2 else if w = 19 then some 3 else if w = 20 then some 4 else if w = 21 then some 5 else if w = 22 then some 6 else (none : Option Nat)) = (if roleN w = 3 then some (w - 16) else none : Option Nat) := by decide
    exact key w (by omega)
theorem kindM_n {so : Nat} (h : so ≠ 1) : kindM T so s e = none := by
  unfold kindM
  simp only [isWm_n h, Bool.false_eq_true, if_false]
end WRD
theorem run_all {p : Nat → Bool} {T : Nat → Nat} {k s i : Nat} (hs : s ≤ k) (h1 : s ≤ i) (h2 : i < run p T k s) : p (T i) = true := by
  have key : ∀ m s, k - s = m → s ≤ k → s ≤ i → i < run p T k s → p (T i) = true := by
    intro m
    induction m with
    | zero =>
      intro s e h h1 h2
      rw [run_stop (by omega)] at h2
      omega
    | succ m ih =>
      intro s e h h1 h2
      by_cases q : s < k ∧ p (T s) = true
      · by_cases z : i = s
        · rw [z]; exact q.2
        · rw [run_go q.1 q.2] at h2
          exact ih (s + 1) (by omega) (by omega) (by omega) h2
      · rw [run_stop q] at h2
        omega
  exact key _ s rfl hs h1 h2
/-- a shape or filter and its numbers -/
def pEach (T : Nat → Nat) (k ro : Nat) (x : TO) : Option LayerV × TO := if isRo x.1.1 x.1.2.2.2.2 ro = true then pLay T k (x.1.2.2.2.2.getD 0) x else (none, x)
def BadE (T : Nat → Nat) (k ro : Nat) (x : TO) (v : Nat) : Prop := ∃ y, pEach T k ro x = (none, y) ∧ v = y.1.2.1
section EACH
variable {T : Nat → Nat} {k so e tn tn2 t2 ro : Nat} {wr2 sh : Option Nat} {tk : Tok} {BE EN BE2 EN2 : Nat → Nat}
theorem nx_let (hk : tk.2.1 ≤ k) (hn : NextR T k so e none tk t2 wr2) (h : t2 = 1) : ∀ i, tk.2.1 ≤ i → i < tk.2.2.1 → 97 ≤ T i ∧ T i ≤ 122 := fun i h1 h2 => by
  have e1 := (hn.2.2.2.2.2.2.2.2.2.2.2 h).1
  rw [e1] at h2
  simpa [isLet] using run_all hk h1 h2
/-- the chain of tests is the word's role -/
def ChR (T : Nat → Nat) (ro : Nat) (tk : Tok) (t2 : Nat) (sh : Option Nat) : Prop := (t2 = 1 → sh = tk.2.2.2.2.bind fun w => if roleN w = ro then some (w - 1) else none) ∧ (t2 ≠ 1 → sh = none)
theorem ch_shape (hk : tk.2.1 ≤ k) (hn : NextR T k so e none tk t2 wr2) : ChR T 1 tk t2 (shapeM T t2 tk.2.1 tk.2.2.1) := by
  refine ⟨fun h => ?_, fun h => shapeM_n h⟩
  rw [(hn.2.2.2.2.2.2.2.2.2.2.2 h).2, ← shapeM_w (nx_let hk hn h), h]
theorem ch_filter (hk : tk.2.1 ≤ k) (hn : NextR T k so e none tk t2 wr2) : ChR T 2 tk t2 (filterM T t2 tk.2.1 tk.2.2.1) := by
  refine ⟨fun h => ?_, fun h => filterM_n h⟩
  rw [(hn.2.2.2.2.2.2.2.2.2.2.2 h).2, ← filterM_w (nx_let hk hn h), h]
theorem bind_some {o : Option Nat} {w : Nat} (h : (o.bind fun w => if roleN w = ro then some (w - 1) else none) = some w) : ∃ u, o = some u ∧ roleN u = ro ∧ w = u - 1 := by
  cases o with
  | none => cases h
  | some u =>
    simp only [Option.bind_some] at h
    by_cases q : roleN u = ro
    · rw [if_pos q] at h
      cases h
      exact ⟨u, rfl, q, rfl⟩
    · rw [if_neg q] at h; cases h
theorem each_bad4 (hn : NextR T k so e none tk t2 wr2) {v : Nat} (h : wr2 = some v) : BadE T k ro (xOf T k so e BE EN tn) v := by
  have hX : (xOf T k so e BE EN tn).1 = tk := hn.1.symm
  rcases nx_4 hn with ⟨q1, q2⟩ | ⟨q1, q2, q3⟩
  · refine ⟨xOf T k so e BE EN tn, ?_, ?_⟩
    · rw [pEach, hX, q1, if_neg]
      cases tk.2.2.2.2 <;> simp [isRo]
    · rw [hX]
      rw [q2] at h
      exact (Option.some.inj h).symm
  · rw [q2] at h; cases h
theorem each_no (hn : NextR T k so e none tk t2 wr2) (hc : ChR T ro tk t2 none) : BadE T k ro (xOf T k so e BE EN tn) tk.2.1 ∧ (wr2.orElse fun _ => some tk.2.1) = some tk.2.1 := by
  have hX : (xOf T k so e BE EN tn).1 = tk := hn.1.symm
  rcases nx_4 hn with ⟨q1, q2⟩ | ⟨q1, q2, q3⟩
  · exact ⟨each_bad4 hn q2, by rw [q2]; rfl⟩
  · refine ⟨⟨xOf T k so e BE EN tn, ?_, by rw [hX]⟩, by rw [q2]; rfl⟩
    rw [pEach, hX, if_neg]
    intro z
    cases w : tk.2.2.2.2 with
    | none => rw [w] at z; cases z
    | some u =>
      rw [w] at z
      have z' : tk.1 = 1 ∧ roleN u = ro := by simpa [isRo] using z
      have := hc.1 (q3.trans z'.1)
      rw [w] at this
      simp only [Option.bind_some, if_pos z'.2] at this
      cases this
theorem each_yes {w : Nat} (hn : NextR T k so e none tk t2 wr2) (ho : NoteR tk t2 wr2 tn BE EN tn2 BE2 EN2) (hc : ChR T ro tk t2 (some w)) (hw : wr2 = none) : ∃ u, roleN u = ro ∧ w = u - 1 ∧ pEach T k ro (xOf T k so e BE EN tn) = pLay T k u (xOf T k so e BE EN tn) ∧ xOf T k t2 tk.2.2.1 BE2 EN2 tn2 = tTake T k (xOf T k so e BE EN tn) := by
  have hX : (xOf T k so e BE EN tn).1 = tk := hn.1.symm
  have h1 : t2 = 1 := Classical.byContradiction fun q => by have := hc.2 q; cases this
  obtain ⟨u, a, b, c⟩ := bind_some (hc.1 h1).symm
  rcases nx_4 hn with ⟨q1, q2⟩ | ⟨q1, q2, q3⟩
  · rw [q2] at hw; cases hw
  · refine ⟨u, b, c, ?_, (next_x hn ho hw (by rw [← q3, h1]; decide)).2⟩
    rw [pEach, hX, a, if_pos (by rw [← q3]; simp [isRo, h1, b])]
    rfl
theorem role_1 {u : Nat} (h : roleN u = 1) : 2 ≤ u ∧ u ≤ 11 := by
  unfold roleN at h
  split at h
  · cases h
  · split at h
    · omega
    · split at h <;> cases h
theorem role_2 {u : Nat} (h : roleN u = 2) : 12 ≤ u ∧ u ≤ 15 := by
  unfold roleN at h
  split at h
  · cases h
  · split at h
    · cases h
    · split at h
      · omega
      · cases h
theorem each_d {w : Nat} (hn : NextR T k so e none tk t2 wr2) (ho : NoteR tk t2 wr2 tn BE EN tn2 BE2 EN2) (hc : ChR T ro tk t2 (some w)) (hr : ro = 1 ∨ ro = 2) (h3 : w ≠ 3) (h6 : w ≠ 6) (hw : wr2 = none) : pEach T k ro (xOf T k so e BE EN tn) = (some (w + 1, none, none), xOf T k t2 tk.2.2.1 BE2 EN2 tn2) := by
  obtain ⟨u, a, b, c, d⟩ := each_yes hn ho hc hw
  have hu : 2 ≤ u := by
    rcases hr with rfl | rfl
    · exact (role_1 a).1
    · have := (role_2 a).1; omega
  rw [c, pLay_d (by omega) (by omega) d, show w + 1 = u by omega]
theorem each_6 {z : Nat} {wF : Option Nat} {x2 : TO} (hn : NextR T k so e none tk t2 wr2) (ho : NoteR tk t2 wr2 tn BE EN tn2 BE2 EN2) (hc : ChR T 1 tk t2 (some 6)) (hu : NumR T k 1 256 (xOf T k t2 tk.2.2.1 BE2 EN2 tn2) wr2 wF z x2) : (wF = none → pEach T k 1 (xOf T k so e BE EN tn) = (some (7, some z, none), x2)) ∧ ∀ v, wF = some v → BadE T k 1 (xOf T k so e BE EN tn) v := by
  cases hw : wr2 with
  | some v =>
    rw [hw] at hu
    have hu' : wF = some v := hu
    exact ⟨fun q => by (rw [q] at hu'; cases hu'), fun v2 q => by rw [hu'] at q; cases q; exact each_bad4 hn hw⟩
  | none =>
    obtain ⟨u, a, b, c, d⟩ := each_yes hn ho hc hw
    have h7 : u = 7 := by have := (role_1 a).1; omega
    subst h7
    rw [hw] at hu
    rcases hu with ⟨q1, q2⟩ | ⟨q1, q2⟩
    · exact ⟨fun _ => by rw [c, pLay_7 d q2.symm], fun v q => (by rw [q1] at q; cases q)⟩
    · exact ⟨fun q => (by rw [q1] at q; cases q), fun v q => ⟨_, by rw [c, pLay_7n d q2.symm], by rw [q1] at q; cases q; rfl⟩⟩
theorem each_3 {z : Nat} {wA : Option Nat} {x2 : TO} (hn : NextR T k so e none tk t2 wr2) (ho : NoteR tk t2 wr2 tn BE EN tn2 BE2 EN2) (hc : ChR T 1 tk t2 (some 3)) (hu : NumR T k 1 16 (xOf T k t2 tk.2.2.1 BE2 EN2 tn2) wr2 wA z x2) : (∀ v, wA = some v → BadE T k 1 (xOf T k so e BE EN tn) v) ∧ (wA = none → ∀ (wB : Option Nat) (z2 : Nat) (x3 : TO), NumR T k 1 16 x2 none wB z2 x3 → (wB = none → pEach T k 1 (xOf T k so e BE EN tn) = (some (4, some z, some z2), x3)) ∧ ∀ v, wB = some v → BadE T k 1 (xOf T k so e BE EN tn) v) := by
  cases hw : wr2 with
  | some v =>
    rw [hw] at hu
    have hu' : wA = some v := hu
    exact ⟨fun v2 q => by rw [hu'] at q; cases q; exact each_bad4 hn hw, fun q => by (rw [q] at hu'; cases hu')⟩
  | none =>
    obtain ⟨u, a, b, c, d⟩ := each_yes hn ho hc hw
    have h4 : u = 4 := by have := (role_1 a).1; omega
    subst h4
    rw [hw] at hu
    rcases hu with ⟨q1, q2⟩ | ⟨q1, q2⟩
    · refine ⟨fun v q => (by rw [q1] at q; cases q), fun _ wB z2 x3 hB => ?_⟩
      rcases hB with ⟨p1, p2⟩ | ⟨p1, p2⟩
      · exact ⟨fun _ => by rw [c, pLay_4 d q2.symm p2.symm], fun v q => (by rw [p1] at q; cases q)⟩
      · exact ⟨fun q => (by rw [p1] at q; cases q), fun v q => ⟨_, by rw [c, pLay_4m d q2.symm p2.symm], by rw [p1] at q; cases q; rfl⟩⟩
    · exact ⟨fun v q => ⟨_, by rw [c, pLay_4n d q2.symm], by rw [q1] at q; cases q; rfl⟩, fun q => (by rw [q1] at q; cases q)⟩
/-- what each and where do -/
def EachR (T : Nat → Nat) (k ro : Nat) (x : TO) (wr2 : Option Nat) (x2 : TO) (op dp : Nat) (OW OF OS : Nat → Nat) (op2 dp2 : Nat) (OW2 OF2 OS2 : Nat → Nat) : Prop :=
  (∃ l : LayerV, pEach T k ro x = (some l, x2) ∧ wr2 = none ∧ op2 = op + 1 ∧ dp2 = max dp (op + 1) ∧ OW2 = up OW op (l.1 - 1) ∧ OF2 = up OF op (l.2.1.getD 0) ∧ OS2 = up OS op (l.2.2.getD 0)) ∨ ∃ v, wr2 = some v ∧ BadE T k ro x v ∧ op2 = op ∧ dp2 = dp ∧ OW2 = OW ∧ OF2 = OF ∧ OS2 = OS
theorem orE {w : Option Nat} {s v : Nat} (h : (w.orElse fun _ => some s) = some v) : True := trivial
end EACH
theorem ch_ge {T : Nat → Nat} {t2 w : Nat} {tk : Tok} (h : ChR T 2 tk t2 (some w)) : 11 ≤ w := by
  have h1 : t2 = 1 := Classical.byContradiction fun q => by have := h.2 q; cases this
  obtain ⟨u, a, b, c⟩ := bind_some (h.1 h1).symm
  have := role_2 b
  omega
theorem ch_le {T : Nat → Nat} {ro t2 w : Nat} {tk : Tok} (h : ChR T ro tk t2 (some w)) (hr : ro = 1 ∨ ro = 2 := by decide) : w ≤ 14 := by
  have h1 : t2 = 1 := Classical.byContradiction fun q => by have := h.2 q; cases this
  obtain ⟨u, a, b, c⟩ := bind_some (h.1 h1).symm
  rcases hr with rfl | rfl
  · have := role_1 b; omega
  · have := role_2 b; omega

set_option maxRecDepth 100000 in
theorem lk_Mo_165 : LK R_Mo 165 y_Mo_shape := Or.inl (gw (i := 1102) rfl rfl)
set_option maxRecDepth 100000 in
theorem lk_Mo_169 : LK R_Mo 169 y_Mo_number := Or.inl (gw (i := 1114) rfl rfl)
set_option maxRecDepth 100000 in
theorem lk_Mo_173 : LK R_Mo 173 y_Mo_push := Or.inl (gw (i := 1118) rfl rfl)
set_option maxRecDepth 100000 in
theorem lk_Mo_177 : LK R_Mo 177 y_Mo_filter := Or.inl (gw (i := 1126) rfl rfl)
set_option maxRecDepth 100000 in
theorem mw_Mo_filter : MW y_Mo_filter b_Mo_filter 1 (some .int) 0 := ⟨(gw (i := 1129) rfl rfl), (gw (i := 80) rfl rfl), by decide +kernel⟩
set_option maxRecDepth 100000 in
theorem mw_Mo_number : MW y_Mo_number b_Mo_number 3 (some .int) 2 := ⟨(gw (i := 1117) rfl rfl), (gw (i := 80) rfl rfl), by decide +kernel⟩
set_option maxRecDepth 100000 in
theorem mw_Mo_push : MW y_Mo_push b_Mo_push 4 none 3 := ⟨(gw (i := 1121) rfl rfl), (gw (i := 80) rfl rfl), by decide +kernel⟩
set_option maxRecDepth 100000 in
theorem mw_Mo_shape : MW y_Mo_shape b_Mo_shape 1 (some .int) 0 := ⟨(gw (i := 1105) rfl rfl), (gw (i := 80) rfl rfl), by decide +kernel⟩
set_option maxRecDepth 100000 in
theorem vw_Mo_filter : VW y_Mo_filter := ⟨(gw (i := 1128) rfl rfl), (gw (i := 54) rfl rfl)⟩
set_option maxRecDepth 100000 in
theorem vw_Mo_number : VW y_Mo_number := ⟨(gw (i := 1116) rfl rfl), (gw (i := 51) rfl rfl)⟩
set_option maxRecDepth 100000 in
theorem vw_Mo_push : VW y_Mo_push := ⟨(gw (i := 1120) rfl rfl), (gw (i := 52) rfl rfl)⟩
set_option maxRecDepth 100000 in
theorem vw_Mo_shape : VW y_Mo_shape := ⟨(gw (i := 1104) rfl rfl), (gw (i := 48) rfl rfl)⟩
theorem d_Mo_each_0 : decode b_Mo_each 0 = .ok (.aload_n 0, 1) := by decide +kernel
theorem d_Mo_each_1 : decode b_Mo_each 1 = .ok (.invokevirtual 153, 3) := by decide +kernel
theorem d_Mo_each_4 : decode b_Mo_each 4 = .ok (.aload_n 0, 1) := by decide +kernel
theorem d_Mo_each_5 : decode b_Mo_each 5 = .ok (.invokevirtual 165, 3) := by decide +kernel
theorem d_Mo_each_8 : decode b_Mo_each 8 = .ok (.istore_n 1, 1) := by decide +kernel
theorem d_Mo_each_9 : decode b_Mo_each 9 = .ok (.iload_n 1, 1) := by decide +kernel
theorem d_Mo_each_10 : decode b_Mo_each 10 = .ok (.ifCond .ge 11, 3) := by decide +kernel
theorem d_Mo_each_13 : decode b_Mo_each 13 = .ok (.aload_n 0, 1) := by decide +kernel
theorem d_Mo_each_14 : decode b_Mo_each 14 = .ok (.aload_n 0, 1) := by decide +kernel
theorem d_Mo_each_15 : decode b_Mo_each 15 = .ok (.getfield 106, 3) := by decide +kernel
theorem d_Mo_each_18 : decode b_Mo_each 18 = .ok (.invokevirtual 119, 3) := by decide +kernel
theorem d_Mo_each_21 : decode b_Mo_each 21 = .ok (.iload_n 1, 1) := by decide +kernel
theorem d_Mo_each_22 : decode b_Mo_each 22 = .ok (.iconst 3, 1) := by decide +kernel
theorem d_Mo_each_23 : decode b_Mo_each 23 = .ok (.if_icmp .ne 13, 3) := by decide +kernel
theorem d_Mo_each_26 : decode b_Mo_each 26 = .ok (.aload_n 0, 1) := by decide +kernel
theorem d_Mo_each_27 : decode b_Mo_each 27 = .ok (.iconst 1, 1) := by decide +kernel
theorem d_Mo_each_28 : decode b_Mo_each 28 = .ok (.bipush 16, 2) := by decide +kernel
theorem d_Mo_each_30 : decode b_Mo_each 30 = .ok (.invokevirtual 169, 3) := by decide +kernel
theorem d_Mo_each_33 : decode b_Mo_each 33 = .ok (.goto 21, 3) := by decide +kernel
theorem d_Mo_each_36 : decode b_Mo_each 36 = .ok (.iload_n 1, 1) := by decide +kernel
theorem d_Mo_each_37 : decode b_Mo_each 37 = .ok (.bipush 6, 2) := by decide +kernel
theorem d_Mo_each_39 : decode b_Mo_each 39 = .ok (.if_icmp .ne 14, 3) := by decide +kernel
theorem d_Mo_each_42 : decode b_Mo_each 42 = .ok (.aload_n 0, 1) := by decide +kernel
theorem d_Mo_each_43 : decode b_Mo_each 43 = .ok (.iconst 1, 1) := by decide +kernel
theorem d_Mo_each_44 : decode b_Mo_each 44 = .ok (.sipush 256, 3) := by decide +kernel
theorem d_Mo_each_47 : decode b_Mo_each 47 = .ok (.invokevirtual 169, 3) := by decide +kernel
theorem d_Mo_each_50 : decode b_Mo_each 50 = .ok (.goto 4, 3) := by decide +kernel
theorem d_Mo_each_53 : decode b_Mo_each 53 = .ok (.iconst 0, 1) := by decide +kernel
theorem d_Mo_each_54 : decode b_Mo_each 54 = .ok (.istore_n 2, 1) := by decide +kernel
theorem d_Mo_each_55 : decode b_Mo_each 55 = .ok (.iload_n 1, 1) := by decide +kernel
theorem d_Mo_each_56 : decode b_Mo_each 56 = .ok (.iconst 3, 1) := by decide +kernel
theorem d_Mo_each_57 : decode b_Mo_each 57 = .ok (.if_icmp .ne 20, 3) := by decide +kernel
theorem d_Mo_each_60 : decode b_Mo_each 60 = .ok (.aload_n 0, 1) := by decide +kernel
theorem d_Mo_each_61 : decode b_Mo_each 61 = .ok (.getfield 94, 3) := by decide +kernel
theorem d_Mo_each_64 : decode b_Mo_each 64 = .ok (.ifCond .ge 13, 3) := by decide +kernel
theorem d_Mo_each_67 : decode b_Mo_each 67 = .ok (.aload_n 0, 1) := by decide +kernel
theorem d_Mo_each_68 : decode b_Mo_each 68 = .ok (.iconst 1, 1) := by decide +kernel
theorem d_Mo_each_69 : decode b_Mo_each 69 = .ok (.bipush 16, 2) := by decide +kernel
theorem d_Mo_each_71 : decode b_Mo_each 71 = .ok (.invokevirtual 169, 3) := by decide +kernel
theorem d_Mo_each_74 : decode b_Mo_each 74 = .ok (.goto 4, 3) := by decide +kernel
theorem d_Mo_each_77 : decode b_Mo_each 77 = .ok (.iconst 0, 1) := by decide +kernel
theorem d_Mo_each_78 : decode b_Mo_each 78 = .ok (.istore_n 3, 1) := by decide +kernel
theorem d_Mo_each_79 : decode b_Mo_each 79 = .ok (.aload_n 0, 1) := by decide +kernel
theorem d_Mo_each_80 : decode b_Mo_each 80 = .ok (.getfield 94, 3) := by decide +kernel
theorem d_Mo_each_83 : decode b_Mo_each 83 = .ok (.ifCond .ge 10, 3) := by decide +kernel
theorem d_Mo_each_86 : decode b_Mo_each 86 = .ok (.aload_n 0, 1) := by decide +kernel
theorem d_Mo_each_87 : decode b_Mo_each 87 = .ok (.iload_n 1, 1) := by decide +kernel
theorem d_Mo_each_88 : decode b_Mo_each 88 = .ok (.iload_n 2, 1) := by decide +kernel
theorem d_Mo_each_89 : decode b_Mo_each 89 = .ok (.iload_n 3, 1) := by decide +kernel
theorem d_Mo_each_90 : decode b_Mo_each 90 = .ok (.invokevirtual 173, 3) := by decide +kernel
theorem d_Mo_each_93 : decode b_Mo_each 93 = .ok (.return_, 1) := by decide +kernel
theorem d_Mo_where_0 : decode b_Mo_where 0 = .ok (.aload_n 0, 1) := by decide +kernel
theorem d_Mo_where_1 : decode b_Mo_where 1 = .ok (.invokevirtual 153, 3) := by decide +kernel
theorem d_Mo_where_4 : decode b_Mo_where 4 = .ok (.aload_n 0, 1) := by decide +kernel
theorem d_Mo_where_5 : decode b_Mo_where 5 = .ok (.invokevirtual 177, 3) := by decide +kernel
theorem d_Mo_where_8 : decode b_Mo_where 8 = .ok (.istore_n 1, 1) := by decide +kernel
theorem d_Mo_where_9 : decode b_Mo_where 9 = .ok (.iload_n 1, 1) := by decide +kernel
theorem d_Mo_where_10 : decode b_Mo_where 10 = .ok (.ifCond .ge 11, 3) := by decide +kernel
theorem d_Mo_where_13 : decode b_Mo_where 13 = .ok (.aload_n 0, 1) := by decide +kernel
theorem d_Mo_where_14 : decode b_Mo_where 14 = .ok (.aload_n 0, 1) := by decide +kernel
theorem d_Mo_where_15 : decode b_Mo_where 15 = .ok (.getfield 106, 3) := by decide +kernel
theorem d_Mo_where_18 : decode b_Mo_where 18 = .ok (.invokevirtual 119, 3) := by decide +kernel
theorem d_Mo_where_21 : decode b_Mo_where 21 = .ok (.aload_n 0, 1) := by decide +kernel
theorem d_Mo_where_22 : decode b_Mo_where 22 = .ok (.getfield 94, 3) := by decide +kernel
theorem d_Mo_where_25 : decode b_Mo_where 25 = .ok (.ifCond .ge 10, 3) := by decide +kernel
theorem d_Mo_where_28 : decode b_Mo_where 28 = .ok (.aload_n 0, 1) := by decide +kernel
theorem d_Mo_where_29 : decode b_Mo_where 29 = .ok (.iload_n 1, 1) := by decide +kernel
theorem d_Mo_where_30 : decode b_Mo_where 30 = .ok (.iconst 0, 1) := by decide +kernel
theorem d_Mo_where_31 : decode b_Mo_where 31 = .ok (.iconst 0, 1) := by decide +kernel
theorem d_Mo_where_32 : decode b_Mo_where 32 = .ok (.invokevirtual 173, 3) := by decide +kernel
theorem d_Mo_where_35 : decode b_Mo_where 35 = .ok (.return_, 1) := by decide +kernel
set_option maxHeartbeats 4000000 in
set_option maxRecDepth 100000 in
theorem c_Mo_each (g : GG) (l : Launch) {m0 : Nat} {ad : Nat → Nat} {qth : Int32} {qru : Int32} {qbe : Int32} {qva : Int32} {qwi : Int32} {qhe : Int32} {qrw : Int32} {qma : Int32} {qir : Bool} {qiu : Bool} {k : Nat} {so : Nat} {e : Nat} {tn : Nat} {op : Nat} {dp : Nat} {qe : Int32} {wr : Option Nat} {T : Nat → Nat} {BE : Nat → Nat} {EN : Nat → Nat} {OW : Nat → Nat} {OF : Nat → Nat} {OS : Nat → Nat}  (hk : k ≤ 2000) (hT : ∀ j, T j < 256) (hri : RI T k so e tn qe wr BE EN) (hw0 : wr = none) (hop : op < 40) (hdp : dp < 2 ^ 31) : Cn g l y_Mo_each b_Mo_each 4 none (rmk 3 0 0 72) [.ref m0] ([(m0, .inr (9, MO ad qth (nI k) (bI qir) (nI tn) (nI dp) qru (nI e) qe (nI so) qbe qva (oI wr) (nI op) (bI qiu) qwi qhe qrw qma)), ((ad 2), .inl (g.2.1 0, 2000, .inl (aI T))), ((ad 6), .inl (g.2.1 0, 2000, .inl (aI BE))), ((ad 7), .inl (g.2.1 0, 2000, .inl (aI EN))), ((ad 26), .inl (g.2.1 0, 40, .inl (aI OW))), ((ad 27), .inl (g.2.1 0, 40, .inl (aI OF))), ((ad 28), .inl (g.2.1 0, 40, .inl (aI OS)))]) (fun (r0 : Option Value) (w0 : va_W) => ∃ so2 : Nat, ∃ e2 : Nat, ∃ tn2 : Nat, ∃ bg2 : Nat, ∃ z2 : Nat, ∃ wr2 : Option Nat, ∃ BE2 : Nat → Nat, ∃ EN2 : Nat → Nat, ∃ op2 : Nat, ∃ dp2 : Nat, ∃ OW2 : Nat → Nat, ∃ OF2 : Nat → Nat, ∃ OS2 : Nat → Nat, r0 = none ∧ w0 = [(m0, .inr (9, MO ad qth (nI k) (bI qir) (nI tn2) (nI dp2) qru (nI e2) (nI e2) (nI so2) (nI bg2) (nI z2) (oI wr2) (nI op2) (bI qiu) qwi qhe qrw qma)), ((ad 2), .inl (g.2.1 0, 2000, .inl (aI T))), ((ad 6), .inl (g.2.1 0, 2000, .inl (aI BE2))), ((ad 7), .inl (g.2.1 0, 2000, .inl (aI EN2))), ((ad 26), .inl (g.2.1 0, 40, .inl (aI OW2))), ((ad 27), .inl (g.2.1 0, 40, .inl (aI OF2))), ((ad 28), .inl (g.2.1 0, 40, .inl (aI OS2)))] ∧ (RI T k so2 e2 tn2 (nI e2) wr2 BE2 EN2) ∧ (EachR T k 1 (xOf T k so e BE EN tn) wr2 (xOf T k so2 e2 BE2 EN2 tn2) op dp OW OF OS op2 dp2 OW2 OF2 OS2)) := by
  refine Cn.of R_Mo [(0, .ref m0)] (by decide) rfl (Nat.le_of_ble_eq_true rfl) rfl ?_
  intro x A Q hR hXl hin C E
  subst hXl
  refine r_aload_n C 0 d_Mo_each_0 rfl rfl ?_
  refine j_callV C (c_Mo_next g (xl x) (m0 := m0) (ad := ad) (qth := qth) (qde := nI dp) (qru := qru) (qbe := qbe) (qva := qva) (qop := nI op) (qwi := qwi) (qhe := qhe) (qrw := qrw) (qma := qma) (qir := qir) (qiu := qiu) (k := k) (so := so) (e := e) (tn := tn) (qe := qe) (wr := wr) (T := T) (BE := BE) (EN := EN) (by first | assumption | omega | rfl) (by first | assumption | omega | rfl) (hri.1) (hri.2.1) (hri.2.2.1) (hri.2.2.2.1) (hri.2.2.2.2.1) (hri.2.2.2.2.2.1) (hri.2.2.2.2.2.2.1)) (Sp.of (wr := [((ad 26), .inl (g.2.1 0, 40, .inl (aI OW))), ((ad 27), .inl (g.2.1 0, 40, .inl (aI OF))), ((ad 28), .inl (g.2.1 0, 40, .inl (aI OS)))]) [0, 1, 2, 3] [4, 5, 6] rfl rfl rfl rfl (by decide)) d_Mo_each_1 lk_Mo_153 mw_Mo_next vw_Mo_next (q0 := 0) rfl rfl (fit_of hR (by first | decide | (simp only [rmk]; omega)) (by first | decide | (simp only [rmk]; omega)) (by first | decide | (simp only [rmk]; omega)) (by first | decide | (simp only [rmk]; omega))) rfl (cat8 (Nat.le_of_ble_eq_true rfl)) (As := []) (rest := []) rfl (fun r_1 w_1 hp_1 => ?_)
  obtain ⟨tk_1, t2_1, tn2_1, wr2_1, BE2_1, EN2_1, rfl, rfl, hnx_1, hno_1⟩ := hp_1
  refine r_after (ws' := [(m0, .inr (9, MO ad qth (nI k) (bI qir) (nI tn2_1) (nI dp) qru (nI tk_1.2.2.1) (nI tk_1.2.2.1) (nI t2_1) (nI tk_1.2.1) (nI (vaM t2_1 tk_1)) (oI wr2_1) (nI op) (bI qiu) qwi qhe qrw qma)), ((ad 2), .inl (g.2.1 0, 2000, .inl (aI T))), ((ad 6), .inl (g.2.1 0, 2000, .inl (aI BE2_1))), ((ad 7), .inl (g.2.1 0, 2000, .inl (aI EN2_1))), ((ad 26), .inl (g.2.1 0, 40, .inl (aI OW))), ((ad 27), .inl (g.2.1 0, 40, .inl (aI OF))), ((ad 28), .inl (g.2.1 0, 40, .inl (aI OS)))]) (st' := []) (n1 := 0) (n2 := 0) [3, 4, 5, 6, 0, 1, 2] rfl rfl rfl rfl rfl ?_
  have hok1 := nx_ok hT hri.2.1 hnx_1
  have hv1 := nx_val hT hri.2.1 hnx_1
  have hri1 := ri_next hk hri hnx_1 hno_1
  have hb0 : tk_1.2.1 ≤ k := Nat.le_trans hok1.1 hok1.2.1
  have hb1 : tk_1.2.1 ≤ 2000 := Nat.le_trans hb0 hk
  have hb2 := hok1.2.1
  have ht1 := hri1.1
  subst hw0
  refine r_aload_n C 0 d_Mo_each_4 rfl rfl ?_
  refine j_callV C (c_Mo_shape g (xl x) (m0 := m0) (ad := ad) (qth := qth) (qsz := nI k) (qtk := nI tn2_1) (qde := nI dp) (qru := qru) (qat := nI tk_1.2.2.1) (qva := nI (vaM t2_1 tk_1)) (qwr := oI wr2_1) (qop := nI op) (qwi := qwi) (qhe := qhe) (qrw := qrw) (qma := qma) (qir := qir) (qiu := qiu) (so := t2_1) (sta := tk_1.2.1) (en := tk_1.2.2.1) (T := T) (by first | assumption | omega | rfl) (by omega) (fun q => ⟨hok1.1, Nat.le_trans hb2 hk, nx_let hb0 hnx_1 q⟩)) (Sp.of (wr := [((ad 6), .inl (g.2.1 0, 2000, .inl (aI BE2_1))), ((ad 7), .inl (g.2.1 0, 2000, .inl (aI EN2_1))), ((ad 26), .inl (g.2.1 0, 40, .inl (aI OW))), ((ad 27), .inl (g.2.1 0, 40, .inl (aI OF))), ((ad 28), .inl (g.2.1 0, 40, .inl (aI OS)))]) [0, 1] [2, 3, 4, 5, 6] rfl rfl rfl rfl (by decide)) d_Mo_each_5 lk_Mo_165 mw_Mo_shape vw_Mo_shape (q0 := 0) rfl rfl (fit_of hR (by first | decide | (simp only [rmk]; omega)) (by first | decide | (simp only [rmk]; omega)) (by first | decide | (simp only [rmk]; omega)) (by first | decide | (simp only [rmk]; omega))) rfl (cat8 (Nat.le_of_ble_eq_true rfl)) (As := []) (rest := []) rfl (fun r_5 w_5 hp_5 => ?_)
  obtain ⟨rfl, rfl⟩ := hp_5
  refine r_after (ws' := [(m0, .inr (9, MO ad qth (nI k) (bI qir) (nI tn2_1) (nI dp) qru (nI tk_1.2.2.1) (nI tk_1.2.2.1) (nI t2_1) (nI tk_1.2.1) (nI (vaM t2_1 tk_1)) (oI wr2_1) (nI op) (bI qiu) qwi qhe qrw qma)), ((ad 2), .inl (g.2.1 0, 2000, .inl (aI T))), ((ad 6), .inl (g.2.1 0, 2000, .inl (aI BE2_1))), ((ad 7), .inl (g.2.1 0, 2000, .inl (aI EN2_1))), ((ad 26), .inl (g.2.1 0, 40, .inl (aI OW))), ((ad 27), .inl (g.2.1 0, 40, .inl (aI OF))), ((ad 28), .inl (g.2.1 0, 40, .inl (aI OS)))]) (st' := [.int (oI (shapeM T t2_1 tk_1.2.1 tk_1.2.2.1))]) (n1 := 0) (n2 := 0) [5, 6, 0, 1, 2, 3, 4] rfl rfl rfl rfl rfl ?_
  refine r_istore_n C (lv' := [(1, .int (oI (shapeM T t2_1 tk_1.2.1 tk_1.2.2.1))), (0, .ref m0)]) d_Mo_each_8 rfl (by decide) rfl ?_
  have hch := ch_shape hb0 hnx_1
  generalize hsh : shapeM T t2_1 tk_1.2.1 tk_1.2.2.1 = sh at hch
  cases sh with
  | none =>
    refine r_norm2 (ws' := [(m0, .inr (9, MO ad qth (nI k) (bI qir) (nI tn2_1) (nI dp) qru (nI tk_1.2.2.1) (nI tk_1.2.2.1) (nI t2_1) (nI tk_1.2.1) (nI (vaM t2_1 tk_1)) (oI wr2_1) (nI op) (bI qiu) qwi qhe qrw qma)), ((ad 2), .inl (g.2.1 0, 2000, .inl (aI T))), ((ad 6), .inl (g.2.1 0, 2000, .inl (aI BE2_1))), ((ad 7), .inl (g.2.1 0, 2000, .inl (aI EN2_1))), ((ad 26), .inl (g.2.1 0, 40, .inl (aI OW))), ((ad 27), .inl (g.2.1 0, 40, .inl (aI OF))), ((ad 28), .inl (g.2.1 0, 40, .inl (aI OS)))]) (st' := []) (lv' := [(1, .int (-1)), (0, .ref m0)]) rfl rfl rfl ?_
    refine r_iload_n C 0 d_Mo_each_9 rfl rfl ?_
    refine r_if_ge C 21 d_Mo_each_10 (by decide) (fun c_10 => ?_) (fun c_10 => ?_)
    · exact absurd c_10 (by decide)
    · skip
      refine r_aload_n C 1 d_Mo_each_13 rfl rfl ?_
      refine r_aload_n C 1 d_Mo_each_14 rfl rfl ?_
      refine r_get C 0 22 d_Mo_each_15 ci_Mo fi_Mo_106 rfl (by decide) rfl rfl ?_
      refine j_callV C (c_Mo_refuse g (xl x) (m0 := m0) (ad := ad) (qth := qth) (qsz := nI k) (qtk := nI tn2_1) (qde := nI dp) (qru := qru) (qat := nI tk_1.2.2.1) (qen := nI tk_1.2.2.1) (qto := nI t2_1) (qbe := nI tk_1.2.1) (qva := nI (vaM t2_1 tk_1)) (qop := nI op) (qwi := qwi) (qhe := qhe) (qrw := qrw) (qma := qma) (qir := qir) (qiu := qiu) (wr := wr2_1) (c := tk_1.2.1) (by omega) (hri1.2.2.2.2.2.2.1)) (Sp.of (wr := [((ad 2), .inl (g.2.1 0, 2000, .inl (aI T))), ((ad 6), .inl (g.2.1 0, 2000, .inl (aI BE2_1))), ((ad 7), .inl (g.2.1 0, 2000, .inl (aI EN2_1))), ((ad 26), .inl (g.2.1 0, 40, .inl (aI OW))), ((ad 27), .inl (g.2.1 0, 40, .inl (aI OF))), ((ad 28), .inl (g.2.1 0, 40, .inl (aI OS)))]) [0] [1, 2, 3, 4, 5, 6] rfl rfl rfl rfl (by decide)) d_Mo_each_18 lk_Mo_119 mw_Mo_refuse vw_Mo_refuse (q0 := 0) rfl rfl (fit_of hR (by first | decide | (simp only [rmk]; omega)) (by first | decide | (simp only [rmk]; omega)) (by first | decide | (simp only [rmk]; omega)) (by first | decide | (simp only [rmk]; omega))) rfl (cat8 (Nat.le_of_ble_eq_true rfl)) (As := [.int (nI tk_1.2.1)]) (rest := []) rfl (fun r_18 w_18 hp_18 => ?_)
      obtain ⟨rfl, rfl⟩ := hp_18
      refine r_after (ws' := [(m0, .inr (9, MO ad qth (nI k) (bI qir) (nI tn2_1) (nI dp) qru (nI tk_1.2.2.1) (nI tk_1.2.2.1) (nI t2_1) (nI tk_1.2.1) (nI (vaM t2_1 tk_1)) (oI (wr2_1.orElse fun _ => some tk_1.2.1)) (nI op) (bI qiu) qwi qhe qrw qma)), ((ad 2), .inl (g.2.1 0, 2000, .inl (aI T))), ((ad 6), .inl (g.2.1 0, 2000, .inl (aI BE2_1))), ((ad 7), .inl (g.2.1 0, 2000, .inl (aI EN2_1))), ((ad 26), .inl (g.2.1 0, 40, .inl (aI OW))), ((ad 27), .inl (g.2.1 0, 40, .inl (aI OF))), ((ad 28), .inl (g.2.1 0, 40, .inl (aI OS)))]) (st' := []) (n1 := 0) (n2 := 0) [6, 0, 1, 2, 3, 4, 5] rfl rfl rfl rfl rfl ?_
      refine r_iload_n C 0 d_Mo_each_21 rfl rfl ?_
      refine r_iconst C (nI 3) d_Mo_each_22 (by decide) ?_
      refine r_icmp_ne C 36 d_Mo_each_23 (by decide) (fun c_23 => ?_) (fun c_23 => ?_)
      · skip
        refine r_iload_n C 0 d_Mo_each_36 rfl rfl ?_
        refine r_bipush C (nI 6) d_Mo_each_37 (by decide) ?_
        refine r_icmp_ne C 53 d_Mo_each_39 (by decide) (fun c_39 => ?_) (fun c_39 => ?_)
        · skip
          refine r_iconst C (nI 0) d_Mo_each_53 (by decide) ?_
          refine r_istore_n C (lv' := [(2, .int (nI 0)), (1, .int (-1)), (0, .ref m0)]) d_Mo_each_54 rfl (by decide) rfl ?_
          refine r_iload_n C 1 d_Mo_each_55 rfl rfl ?_
          refine r_iconst C (nI 3) d_Mo_each_56 (by decide) ?_
          refine r_icmp_ne C 77 d_Mo_each_57 (by decide) (fun c_57 => ?_) (fun c_57 => ?_)
          · skip
            refine r_iconst C (nI 0) d_Mo_each_77 (by decide) ?_
            refine r_istore_n C (lv' := [(3, .int (nI 0)), (2, .int (nI 0)), (1, .int (-1)), (0, .ref m0)]) d_Mo_each_78 rfl (by decide) rfl ?_
            refine r_aload_n C 3 d_Mo_each_79 rfl rfl ?_
            refine r_get C 0 24 d_Mo_each_80 ci_Mo fi_Mo_94 rfl (by decide) rfl rfl ?_
            refine r_if_ge C 93 d_Mo_each_83 (by decide) (fun c_83 => ?_) (fun c_83 => ?_)
            · skip
              refine r_vret C E d_Mo_each_93 (by first | decide | omega | (simp only [rmk]; omega)) (by first | decide | omega | (simp only [rmk]; omega)) ?_
              obtain ⟨hb, he9⟩ := each_no (BE := BE) (EN := EN) (tn := tn) hnx_1 hch
              exact ⟨_, _, _, _, _, _, _, _, _, _, _, _, _, rfl, rfl, ri_ref (by omega) hri1, Or.inr ⟨_, he9, hb, rfl, rfl, rfl, rfl, rfl⟩⟩
            · rw [(each_no (BE := BE) (EN := EN) (tn := tn) hnx_1 hch).2] at c_83; exact absurd (nI_pos' (by omega)) c_83
          · exact absurd c_57 (by decide)
        · exact absurd c_39 (by decide)
      · exact absurd c_23 (by decide)
  | some w =>
    have hwl : w ≤ 14 := ch_le hch
    refine r_norm2 (ws' := [(m0, .inr (9, MO ad qth (nI k) (bI qir) (nI tn2_1) (nI dp) qru (nI tk_1.2.2.1) (nI tk_1.2.2.1) (nI t2_1) (nI tk_1.2.1) (nI (vaM t2_1 tk_1)) (oI wr2_1) (nI op) (bI qiu) qwi qhe qrw qma)), ((ad 2), .inl (g.2.1 0, 2000, .inl (aI T))), ((ad 6), .inl (g.2.1 0, 2000, .inl (aI BE2_1))), ((ad 7), .inl (g.2.1 0, 2000, .inl (aI EN2_1))), ((ad 26), .inl (g.2.1 0, 40, .inl (aI OW))), ((ad 27), .inl (g.2.1 0, 40, .inl (aI OF))), ((ad 28), .inl (g.2.1 0, 40, .inl (aI OS)))]) (st' := []) (lv' := [(1, .int (nI w)), (0, .ref m0)]) rfl rfl rfl ?_
    refine r_iload_n C 0 d_Mo_each_9 rfl rfl ?_
    refine r_nif_ge C 21 d_Mo_each_10 (by decide) (by omega) (fun c_10 => ?_) (fun c_10 => ?_)
    · skip
      refine r_iload_n C 0 d_Mo_each_21 rfl rfl ?_
      refine r_iconst C (nI 3) d_Mo_each_22 (by decide) ?_
      refine r_ncmp_ne C 36 d_Mo_each_23 (by decide) (by omega) (by omega) (fun c_23 => ?_) (fun c_23 => ?_)
      · skip
        refine r_iload_n C 0 d_Mo_each_36 rfl rfl ?_
        refine r_bipush C (nI 6) d_Mo_each_37 (by decide) ?_
        refine r_ncmp_ne C 53 d_Mo_each_39 (by decide) (by omega) (by omega) (fun c_39 => ?_) (fun c_39 => ?_)
        · skip
          refine r_iconst C (nI 0) d_Mo_each_53 (by decide) ?_
          refine r_istore_n C (lv' := [(2, .int (nI 0)), (1, .int (nI w)), (0, .ref m0)]) d_Mo_each_54 rfl (by decide) rfl ?_
          refine r_iload_n C 1 d_Mo_each_55 rfl rfl ?_
          refine r_iconst C (nI 3) d_Mo_each_56 (by decide) ?_
          refine r_ncmp_ne C 77 d_Mo_each_57 (by decide) (by omega) (by omega) (fun c_57 => ?_) (fun c_57 => ?_)
          · skip
            refine r_iconst C (nI 0) d_Mo_each_77 (by decide) ?_
            refine r_istore_n C (lv' := [(3, .int (nI 0)), (2, .int (nI 0)), (1, .int (nI w)), (0, .ref m0)]) d_Mo_each_78 rfl (by decide) rfl ?_
            refine r_aload_n C 3 d_Mo_each_79 rfl rfl ?_
            refine r_get C 0 24 d_Mo_each_80 ci_Mo fi_Mo_94 rfl (by decide) rfl rfl ?_
            refine r_if_ge C 93 d_Mo_each_83 (by decide) (fun c_83 => ?_) (fun c_83 => ?_)
            · skip
              refine r_vret C E d_Mo_each_93 (by first | decide | omega | (simp only [rmk]; omega)) (by first | decide | omega | (simp only [rmk]; omega)) ?_
              obtain ⟨v9, hv9⟩ := oI_ge c_83
              exact ⟨_, _, _, _, _, _, _, _, _, _, _, _, _, rfl, rfl, hri1, Or.inr ⟨v9, hv9, each_bad4 hnx_1 hv9, rfl, rfl, rfl, rfl, rfl⟩⟩
            · skip
              refine r_aload_n C 3 d_Mo_each_86 rfl rfl ?_
              refine r_iload_n C 2 d_Mo_each_87 rfl rfl ?_
              refine r_iload_n C 1 d_Mo_each_88 rfl rfl ?_
              refine r_iload_n C 0 d_Mo_each_89 rfl rfl ?_
              refine j_callV C (c_Mo_push g (xl x) (m0 := m0) (ad := ad) (qth := qth) (qsz := nI k) (qtk := nI tn2_1) (qru := qru) (qat := nI tk_1.2.2.1) (qen := nI tk_1.2.2.1) (qto := nI t2_1) (qbe := nI tk_1.2.1) (qva := nI (vaM t2_1 tk_1)) (qwr := oI wr2_1) (qwi := qwi) (qhe := qhe) (qrw := qrw) (qma := qma) (qir := qir) (qiu := qiu) (op := op) (dp := dp) (w := w) (a := 0) (c := 0) (OW := OW) (OF := OF) (OS := OS) (by first | assumption | omega | rfl) (by first | assumption | omega | rfl)) (Sp.of (wr := [((ad 2), .inl (g.2.1 0, 2000, .inl (aI T))), ((ad 6), .inl (g.2.1 0, 2000, .inl (aI BE2_1))), ((ad 7), .inl (g.2.1 0, 2000, .inl (aI EN2_1)))]) [0, 4, 5, 6] [1, 2, 3] rfl rfl rfl rfl (by decide)) d_Mo_each_90 lk_Mo_173 mw_Mo_push vw_Mo_push (q0 := 0) rfl rfl (fit_of hR (by first | decide | (simp only [rmk]; omega)) (by first | decide | (simp only [rmk]; omega)) (by first | decide | (simp only [rmk]; omega)) (by first | decide | (simp only [rmk]; omega))) rfl (cat8 (Nat.le_of_ble_eq_true rfl)) (As := [.int (nI w), .int (nI 0), .int (nI 0)]) (rest := []) rfl (fun r_90 w_90 hp_90 => ?_)
              obtain ⟨rfl, rfl⟩ := hp_90
              refine r_after (ws' := [(m0, .inr (9, MO ad qth (nI k) (bI qir) (nI tn2_1) (nI (max dp (op + 1))) qru (nI tk_1.2.2.1) (nI tk_1.2.2.1) (nI t2_1) (nI tk_1.2.1) (nI (vaM t2_1 tk_1)) (oI wr2_1) (nI (op + 1)) (bI qiu) qwi qhe qrw qma)), ((ad 2), .inl (g.2.1 0, 2000, .inl (aI T))), ((ad 6), .inl (g.2.1 0, 2000, .inl (aI BE2_1))), ((ad 7), .inl (g.2.1 0, 2000, .inl (aI EN2_1))), ((ad 26), .inl (g.2.1 0, 40, .inl (aI (up OW op w)))), ((ad 27), .inl (g.2.1 0, 40, .inl (aI (up OF op 0)))), ((ad 28), .inl (g.2.1 0, 40, .inl (aI (up OS op 0))))]) (st' := []) (n1 := 0) (n2 := 0) [3, 0, 1, 2, 4, 5, 6] rfl rfl rfl rfl rfl ?_
              refine r_vret C E d_Mo_each_93 (by first | decide | omega | (simp only [rmk]; omega)) (by first | decide | omega | (simp only [rmk]; omega)) ?_
              have hz := oI_lt hri1.2.2.2.2.2.2.1 c_83
              exact ⟨_, _, _, _, _, _, _, _, _, _, _, _, _, rfl, rfl, hri1, Or.inl ⟨_, each_d hnx_1 hno_1 hch (Or.inl rfl) c_23 c_39 hz, hz, rfl, rfl, rfl, rfl, rfl⟩⟩
          · exact absurd c_57 (by omega)
        · skip
          refine r_aload_n C 1 d_Mo_each_42 rfl rfl ?_
          refine r_iconst C (nI 1) d_Mo_each_43 (by decide) ?_
          refine r_sipush C (nI 256) d_Mo_each_44 (by decide) ?_
          refine j_callV C (c_Mo_number g (xl x) (m0 := m0) (ad := ad) (qth := qth) (qde := nI dp) (qru := qru) (qbe := nI tk_1.2.1) (qva := nI (vaM t2_1 tk_1)) (qop := nI op) (qwi := qwi) (qhe := qhe) (qrw := qrw) (qma := qma) (qir := qir) (qiu := qiu) (k := k) (so := t2_1) (e := tk_1.2.2.1) (tn := tn2_1) (qe := nI tk_1.2.2.1) (wr := wr2_1) (T := T) (BE := BE2_1) (EN := EN2_1) (lo := 1) (hi := 256) (by first | assumption | omega | rfl) (by first | assumption | omega | rfl) (hri1) (by first | assumption | omega | rfl) (by first | assumption | omega | rfl)) (Sp.of (wr := [((ad 26), .inl (g.2.1 0, 40, .inl (aI OW))), ((ad 27), .inl (g.2.1 0, 40, .inl (aI OF))), ((ad 28), .inl (g.2.1 0, 40, .inl (aI OS)))]) [0, 1, 2, 3] [4, 5, 6] rfl rfl rfl rfl (by decide)) d_Mo_each_47 lk_Mo_169 mw_Mo_number vw_Mo_number (q0 := 0) rfl rfl (fit_of hR (by first | decide | (simp only [rmk]; omega)) (by first | decide | (simp only [rmk]; omega)) (by first | decide | (simp only [rmk]; omega)) (by first | decide | (simp only [rmk]; omega))) rfl (cat8 (Nat.le_of_ble_eq_true rfl)) (As := [.int (nI 1), .int (nI 256)]) (rest := []) rfl (fun r_47 w_47 hp_47 => ?_)
          obtain ⟨so2_47, e2_47, tn2_47, bg2_47, z2_47, wr2_47, BE2_47, EN2_47, rfl, rfl, hri2_47, hnu_47⟩ := hp_47
          refine r_after (ws' := [(m0, .inr (9, MO ad qth (nI k) (bI qir) (nI tn2_47) (nI dp) qru (nI e2_47) (nI e2_47) (nI so2_47) (nI bg2_47) (nI z2_47) (oI wr2_47) (nI op) (bI qiu) qwi qhe qrw qma)), ((ad 2), .inl (g.2.1 0, 2000, .inl (aI T))), ((ad 6), .inl (g.2.1 0, 2000, .inl (aI BE2_47))), ((ad 7), .inl (g.2.1 0, 2000, .inl (aI EN2_47))), ((ad 26), .inl (g.2.1 0, 40, .inl (aI OW))), ((ad 27), .inl (g.2.1 0, 40, .inl (aI OF))), ((ad 28), .inl (g.2.1 0, 40, .inl (aI OS)))]) (st' := [.int (nI z2_47)]) (n1 := 0) (n2 := 0) [3, 4, 5, 6, 0, 1, 2] rfl rfl rfl rfl rfl ?_
          refine r_goto C 54 d_Mo_each_50 (by decide) ?_
          refine r_istore_n C (lv' := [(2, .int (nI z2_47)), (1, .int (nI w)), (0, .ref m0)]) d_Mo_each_54 rfl (by decide) rfl ?_
          refine r_iload_n C 1 d_Mo_each_55 rfl rfl ?_
          refine r_iconst C (nI 3) d_Mo_each_56 (by decide) ?_
          refine r_ncmp_ne C 77 d_Mo_each_57 (by decide) (by omega) (by omega) (fun c_57 => ?_) (fun c_57 => ?_)
          · skip
            refine r_iconst C (nI 0) d_Mo_each_77 (by decide) ?_
            refine r_istore_n C (lv' := [(3, .int (nI 0)), (2, .int (nI z2_47)), (1, .int (nI w)), (0, .ref m0)]) d_Mo_each_78 rfl (by decide) rfl ?_
            refine r_aload_n C 3 d_Mo_each_79 rfl rfl ?_
            refine r_get C 0 24 d_Mo_each_80 ci_Mo fi_Mo_94 rfl (by decide) rfl rfl ?_
            refine r_if_ge C 93 d_Mo_each_83 (by decide) (fun c_83 => ?_) (fun c_83 => ?_)
            · skip
              refine r_vret C E d_Mo_each_93 (by first | decide | omega | (simp only [rmk]; omega)) (by first | decide | omega | (simp only [rmk]; omega)) ?_
              subst c_39
              obtain ⟨hA, hB⟩ := each_6 hnx_1 hno_1 hch hnu_47
              obtain ⟨v9, hv9⟩ := oI_ge c_83
              exact ⟨_, _, _, _, _, _, _, _, _, _, _, _, _, rfl, rfl, hri2_47, Or.inr ⟨v9, hv9, hB v9 hv9, rfl, rfl, rfl, rfl, rfl⟩⟩
            · skip
              refine r_aload_n C 3 d_Mo_each_86 rfl rfl ?_
              refine r_iload_n C 2 d_Mo_each_87 rfl rfl ?_
              refine r_iload_n C 1 d_Mo_each_88 rfl rfl ?_
              refine r_iload_n C 0 d_Mo_each_89 rfl rfl ?_
              refine j_callV C (c_Mo_push g (xl x) (m0 := m0) (ad := ad) (qth := qth) (qsz := nI k) (qtk := nI tn2_47) (qru := qru) (qat := nI e2_47) (qen := nI e2_47) (qto := nI so2_47) (qbe := nI bg2_47) (qva := nI z2_47) (qwr := oI wr2_47) (qwi := qwi) (qhe := qhe) (qrw := qrw) (qma := qma) (qir := qir) (qiu := qiu) (op := op) (dp := dp) (w := w) (a := z2_47) (c := 0) (OW := OW) (OF := OF) (OS := OS) (by first | assumption | omega | rfl) (by first | assumption | omega | rfl)) (Sp.of (wr := [((ad 2), .inl (g.2.1 0, 2000, .inl (aI T))), ((ad 6), .inl (g.2.1 0, 2000, .inl (aI BE2_47))), ((ad 7), .inl (g.2.1 0, 2000, .inl (aI EN2_47)))]) [0, 4, 5, 6] [1, 2, 3] rfl rfl rfl rfl (by decide)) d_Mo_each_90 lk_Mo_173 mw_Mo_push vw_Mo_push (q0 := 0) rfl rfl (fit_of hR (by first | decide | (simp only [rmk]; omega)) (by first | decide | (simp only [rmk]; omega)) (by first | decide | (simp only [rmk]; omega)) (by first | decide | (simp only [rmk]; omega))) rfl (cat8 (Nat.le_of_ble_eq_true rfl)) (As := [.int (nI w), .int (nI z2_47), .int (nI 0)]) (rest := []) rfl (fun r_90 w_90 hp_90 => ?_)
              obtain ⟨rfl, rfl⟩ := hp_90
              refine r_after (ws' := [(m0, .inr (9, MO ad qth (nI k) (bI qir) (nI tn2_47) (nI (max dp (op + 1))) qru (nI e2_47) (nI e2_47) (nI so2_47) (nI bg2_47) (nI z2_47) (oI wr2_47) (nI (op + 1)) (bI qiu) qwi qhe qrw qma)), ((ad 2), .inl (g.2.1 0, 2000, .inl (aI T))), ((ad 6), .inl (g.2.1 0, 2000, .inl (aI BE2_47))), ((ad 7), .inl (g.2.1 0, 2000, .inl (aI EN2_47))), ((ad 26), .inl (g.2.1 0, 40, .inl (aI (up OW op w)))), ((ad 27), .inl (g.2.1 0, 40, .inl (aI (up OF op z2_47)))), ((ad 28), .inl (g.2.1 0, 40, .inl (aI (up OS op 0))))]) (st' := []) (n1 := 0) (n2 := 0) [3, 0, 1, 2, 4, 5, 6] rfl rfl rfl rfl rfl ?_
              refine r_vret C E d_Mo_each_93 (by first | decide | omega | (simp only [rmk]; omega)) (by first | decide | omega | (simp only [rmk]; omega)) ?_
              subst c_39
              obtain ⟨hA, hB⟩ := each_6 hnx_1 hno_1 hch hnu_47
              have hz := oI_lt hri2_47.2.2.2.2.2.2.1 c_83
              exact ⟨_, _, _, _, _, _, _, _, _, _, _, _, _, rfl, rfl, hri2_47, Or.inl ⟨_, hA hz, hz, rfl, rfl, rfl, rfl, rfl⟩⟩
          · exact absurd c_57 (by omega)
      · skip
        refine r_aload_n C 1 d_Mo_each_26 rfl rfl ?_
        refine r_iconst C (nI 1) d_Mo_each_27 (by decide) ?_
        refine r_bipush C (nI 16) d_Mo_each_28 (by decide) ?_
        refine j_callV C (c_Mo_number g (xl x) (m0 := m0) (ad := ad) (qth := qth) (qde := nI dp) (qru := qru) (qbe := nI tk_1.2.1) (qva := nI (vaM t2_1 tk_1)) (qop := nI op) (qwi := qwi) (qhe := qhe) (qrw := qrw) (qma := qma) (qir := qir) (qiu := qiu) (k := k) (so := t2_1) (e := tk_1.2.2.1) (tn := tn2_1) (qe := nI tk_1.2.2.1) (wr := wr2_1) (T := T) (BE := BE2_1) (EN := EN2_1) (lo := 1) (hi := 16) (by first | assumption | omega | rfl) (by first | assumption | omega | rfl) (hri1) (by first | assumption | omega | rfl) (by first | assumption | omega | rfl)) (Sp.of (wr := [((ad 26), .inl (g.2.1 0, 40, .inl (aI OW))), ((ad 27), .inl (g.2.1 0, 40, .inl (aI OF))), ((ad 28), .inl (g.2.1 0, 40, .inl (aI OS)))]) [0, 1, 2, 3] [4, 5, 6] rfl rfl rfl rfl (by decide)) d_Mo_each_30 lk_Mo_169 mw_Mo_number vw_Mo_number (q0 := 0) rfl rfl (fit_of hR (by first | decide | (simp only [rmk]; omega)) (by first | decide | (simp only [rmk]; omega)) (by first | decide | (simp only [rmk]; omega)) (by first | decide | (simp only [rmk]; omega))) rfl (cat8 (Nat.le_of_ble_eq_true rfl)) (As := [.int (nI 1), .int (nI 16)]) (rest := []) rfl (fun r_30 w_30 hp_30 => ?_)
        obtain ⟨so2_30, e2_30, tn2_30, bg2_30, z2_30, wr2_30, BE2_30, EN2_30, rfl, rfl, hri2_30, hnu_30⟩ := hp_30
        refine r_after (ws' := [(m0, .inr (9, MO ad qth (nI k) (bI qir) (nI tn2_30) (nI dp) qru (nI e2_30) (nI e2_30) (nI so2_30) (nI bg2_30) (nI z2_30) (oI wr2_30) (nI op) (bI qiu) qwi qhe qrw qma)), ((ad 2), .inl (g.2.1 0, 2000, .inl (aI T))), ((ad 6), .inl (g.2.1 0, 2000, .inl (aI BE2_30))), ((ad 7), .inl (g.2.1 0, 2000, .inl (aI EN2_30))), ((ad 26), .inl (g.2.1 0, 40, .inl (aI OW))), ((ad 27), .inl (g.2.1 0, 40, .inl (aI OF))), ((ad 28), .inl (g.2.1 0, 40, .inl (aI OS)))]) (st' := [.int (nI z2_30)]) (n1 := 0) (n2 := 0) [3, 4, 5, 6, 0, 1, 2] rfl rfl rfl rfl rfl ?_
        refine r_goto C 54 d_Mo_each_33 (by decide) ?_
        refine r_istore_n C (lv' := [(2, .int (nI z2_30)), (1, .int (nI w)), (0, .ref m0)]) d_Mo_each_54 rfl (by decide) rfl ?_
        refine r_iload_n C 1 d_Mo_each_55 rfl rfl ?_
        refine r_iconst C (nI 3) d_Mo_each_56 (by decide) ?_
        refine r_ncmp_ne C 77 d_Mo_each_57 (by decide) (by omega) (by omega) (fun c_57 => ?_) (fun c_57 => ?_)
        · exact absurd c_57 (by omega)
        · skip
          refine r_aload_n C 2 d_Mo_each_60 rfl rfl ?_
          refine r_get C 0 24 d_Mo_each_61 ci_Mo fi_Mo_94 rfl (by decide) rfl rfl ?_
          refine r_if_ge C 77 d_Mo_each_64 (by decide) (fun c_64 => ?_) (fun c_64 => ?_)
          · skip
            refine r_iconst C (nI 0) d_Mo_each_77 (by decide) ?_
            refine r_istore_n C (lv' := [(3, .int (nI 0)), (2, .int (nI z2_30)), (1, .int (nI w)), (0, .ref m0)]) d_Mo_each_78 rfl (by decide) rfl ?_
            refine r_aload_n C 3 d_Mo_each_79 rfl rfl ?_
            refine r_get C 0 24 d_Mo_each_80 ci_Mo fi_Mo_94 rfl (by decide) rfl rfl ?_
            refine r_if_ge C 93 d_Mo_each_83 (by decide) (fun c_83 => ?_) (fun c_83 => ?_)
            · skip
              refine r_vret C E d_Mo_each_93 (by first | decide | omega | (simp only [rmk]; omega)) (by first | decide | omega | (simp only [rmk]; omega)) ?_
              subst c_23
              obtain ⟨hA, hB⟩ := each_3 hnx_1 hno_1 hch hnu_30
              obtain ⟨v9, hv9⟩ := oI_ge c_64
              exact ⟨_, _, _, _, _, _, _, _, _, _, _, _, _, rfl, rfl, hri2_30, Or.inr ⟨v9, hv9, hA v9 hv9, rfl, rfl, rfl, rfl, rfl⟩⟩
            · skip
              refine r_aload_n C 3 d_Mo_each_86 rfl rfl ?_
              refine r_iload_n C 2 d_Mo_each_87 rfl rfl ?_
              refine r_iload_n C 1 d_Mo_each_88 rfl rfl ?_
              refine r_iload_n C 0 d_Mo_each_89 rfl rfl ?_
              refine j_callV C (c_Mo_push g (xl x) (m0 := m0) (ad := ad) (qth := qth) (qsz := nI k) (qtk := nI tn2_30) (qru := qru) (qat := nI e2_30) (qen := nI e2_30) (qto := nI so2_30) (qbe := nI bg2_30) (qva := nI z2_30) (qwr := oI wr2_30) (qwi := qwi) (qhe := qhe) (qrw := qrw) (qma := qma) (qir := qir) (qiu := qiu) (op := op) (dp := dp) (w := w) (a := z2_30) (c := 0) (OW := OW) (OF := OF) (OS := OS) (by first | assumption | omega | rfl) (by first | assumption | omega | rfl)) (Sp.of (wr := [((ad 2), .inl (g.2.1 0, 2000, .inl (aI T))), ((ad 6), .inl (g.2.1 0, 2000, .inl (aI BE2_30))), ((ad 7), .inl (g.2.1 0, 2000, .inl (aI EN2_30)))]) [0, 4, 5, 6] [1, 2, 3] rfl rfl rfl rfl (by decide)) d_Mo_each_90 lk_Mo_173 mw_Mo_push vw_Mo_push (q0 := 0) rfl rfl (fit_of hR (by first | decide | (simp only [rmk]; omega)) (by first | decide | (simp only [rmk]; omega)) (by first | decide | (simp only [rmk]; omega)) (by first | decide | (simp only [rmk]; omega))) rfl (cat8 (Nat.le_of_ble_eq_true rfl)) (As := [.int (nI w), .int (nI z2_30), .int (nI 0)]) (rest := []) rfl (fun r_90 w_90 hp_90 => ?_)
              obtain ⟨rfl, rfl⟩ := hp_90
              refine r_after (ws' := [(m0, .inr (9, MO ad qth (nI k) (bI qir) (nI tn2_30) (nI (max dp (op + 1))) qru (nI e2_30) (nI e2_30) (nI so2_30) (nI bg2_30) (nI z2_30) (oI wr2_30) (nI (op + 1)) (bI qiu) qwi qhe qrw qma)), ((ad 2), .inl (g.2.1 0, 2000, .inl (aI T))), ((ad 6), .inl (g.2.1 0, 2000, .inl (aI BE2_30))), ((ad 7), .inl (g.2.1 0, 2000, .inl (aI EN2_30))), ((ad 26), .inl (g.2.1 0, 40, .inl (aI (up OW op w)))), ((ad 27), .inl (g.2.1 0, 40, .inl (aI (up OF op z2_30)))), ((ad 28), .inl (g.2.1 0, 40, .inl (aI (up OS op 0))))]) (st' := []) (n1 := 0) (n2 := 0) [3, 0, 1, 2, 4, 5, 6] rfl rfl rfl rfl rfl ?_
              refine r_vret C E d_Mo_each_93 (by first | decide | omega | (simp only [rmk]; omega)) (by first | decide | omega | (simp only [rmk]; omega)) ?_
              subst c_23
              obtain ⟨hA, hB⟩ := each_3 hnx_1 hno_1 hch hnu_30
              exact absurd c_64 c_83
          · skip
            refine r_aload_n C 2 d_Mo_each_67 rfl rfl ?_
            refine r_iconst C (nI 1) d_Mo_each_68 (by decide) ?_
            refine r_bipush C (nI 16) d_Mo_each_69 (by decide) ?_
            refine j_callV C (c_Mo_number g (xl x) (m0 := m0) (ad := ad) (qth := qth) (qde := nI dp) (qru := qru) (qbe := nI bg2_30) (qva := nI z2_30) (qop := nI op) (qwi := qwi) (qhe := qhe) (qrw := qrw) (qma := qma) (qir := qir) (qiu := qiu) (k := k) (so := so2_30) (e := e2_30) (tn := tn2_30) (qe := nI e2_30) (wr := wr2_30) (T := T) (BE := BE2_30) (EN := EN2_30) (lo := 1) (hi := 16) (by first | assumption | omega | rfl) (by first | assumption | omega | rfl) (hri2_30) (by first | assumption | omega | rfl) (by first | assumption | omega | rfl)) (Sp.of (wr := [((ad 26), .inl (g.2.1 0, 40, .inl (aI OW))), ((ad 27), .inl (g.2.1 0, 40, .inl (aI OF))), ((ad 28), .inl (g.2.1 0, 40, .inl (aI OS)))]) [0, 1, 2, 3] [4, 5, 6] rfl rfl rfl rfl (by decide)) d_Mo_each_71 lk_Mo_169 mw_Mo_number vw_Mo_number (q0 := 0) rfl rfl (fit_of hR (by first | decide | (simp only [rmk]; omega)) (by first | decide | (simp only [rmk]; omega)) (by first | decide | (simp only [rmk]; omega)) (by first | decide | (simp only [rmk]; omega))) rfl (cat8 (Nat.le_of_ble_eq_true rfl)) (As := [.int (nI 1), .int (nI 16)]) (rest := []) rfl (fun r_71 w_71 hp_71 => ?_)
            obtain ⟨so2_71, e2_71, tn2_71, bg2_71, z2_71, wr2_71, BE2_71, EN2_71, rfl, rfl, hri2_71, hnu_71⟩ := hp_71
            refine r_after (ws' := [(m0, .inr (9, MO ad qth (nI k) (bI qir) (nI tn2_71) (nI dp) qru (nI e2_71) (nI e2_71) (nI so2_71) (nI bg2_71) (nI z2_71) (oI wr2_71) (nI op) (bI qiu) qwi qhe qrw qma)), ((ad 2), .inl (g.2.1 0, 2000, .inl (aI T))), ((ad 6), .inl (g.2.1 0, 2000, .inl (aI BE2_71))), ((ad 7), .inl (g.2.1 0, 2000, .inl (aI EN2_71))), ((ad 26), .inl (g.2.1 0, 40, .inl (aI OW))), ((ad 27), .inl (g.2.1 0, 40, .inl (aI OF))), ((ad 28), .inl (g.2.1 0, 40, .inl (aI OS)))]) (st' := [.int (nI z2_71)]) (n1 := 0) (n2 := 0) [3, 4, 5, 6, 0, 1, 2] rfl rfl rfl rfl rfl ?_
            refine r_goto C 78 d_Mo_each_74 (by decide) ?_
            refine r_istore_n C (lv' := [(3, .int (nI z2_71)), (2, .int (nI z2_30)), (1, .int (nI w)), (0, .ref m0)]) d_Mo_each_78 rfl (by decide) rfl ?_
            refine r_aload_n C 3 d_Mo_each_79 rfl rfl ?_
            refine r_get C 0 24 d_Mo_each_80 ci_Mo fi_Mo_94 rfl (by decide) rfl rfl ?_
            refine r_if_ge C 93 d_Mo_each_83 (by decide) (fun c_83 => ?_) (fun c_83 => ?_)
            · skip
              refine r_vret C E d_Mo_each_93 (by first | decide | omega | (simp only [rmk]; omega)) (by first | decide | omega | (simp only [rmk]; omega)) ?_
              subst c_23
              obtain ⟨hA, hB⟩ := each_3 hnx_1 hno_1 hch hnu_30
              have hz0 := oI_lt hri2_30.2.2.2.2.2.2.1 c_64
              rw [hz0] at hnu_71
              obtain ⟨hC, hD⟩ := hB hz0 _ _ _ hnu_71
              obtain ⟨v9, hv9⟩ := oI_ge c_83
              exact ⟨_, _, _, _, _, _, _, _, _, _, _, _, _, rfl, rfl, hri2_71, Or.inr ⟨v9, hv9, hD v9 hv9, rfl, rfl, rfl, rfl, rfl⟩⟩
            · skip
              refine r_aload_n C 3 d_Mo_each_86 rfl rfl ?_
              refine r_iload_n C 2 d_Mo_each_87 rfl rfl ?_
              refine r_iload_n C 1 d_Mo_each_88 rfl rfl ?_
              refine r_iload_n C 0 d_Mo_each_89 rfl rfl ?_
              refine j_callV C (c_Mo_push g (xl x) (m0 := m0) (ad := ad) (qth := qth) (qsz := nI k) (qtk := nI tn2_71) (qru := qru) (qat := nI e2_71) (qen := nI e2_71) (qto := nI so2_71) (qbe := nI bg2_71) (qva := nI z2_71) (qwr := oI wr2_71) (qwi := qwi) (qhe := qhe) (qrw := qrw) (qma := qma) (qir := qir) (qiu := qiu) (op := op) (dp := dp) (w := w) (a := z2_30) (c := z2_71) (OW := OW) (OF := OF) (OS := OS) (by first | assumption | omega | rfl) (by first | assumption | omega | rfl)) (Sp.of (wr := [((ad 2), .inl (g.2.1 0, 2000, .inl (aI T))), ((ad 6), .inl (g.2.1 0, 2000, .inl (aI BE2_71))), ((ad 7), .inl (g.2.1 0, 2000, .inl (aI EN2_71)))]) [0, 4, 5, 6] [1, 2, 3] rfl rfl rfl rfl (by decide)) d_Mo_each_90 lk_Mo_173 mw_Mo_push vw_Mo_push (q0 := 0) rfl rfl (fit_of hR (by first | decide | (simp only [rmk]; omega)) (by first | decide | (simp only [rmk]; omega)) (by first | decide | (simp only [rmk]; omega)) (by first | decide | (simp only [rmk]; omega))) rfl (cat8 (Nat.le_of_ble_eq_true rfl)) (As := [.int (nI w), .int (nI z2_30), .int (nI z2_71)]) (rest := []) rfl (fun r_90 w_90 hp_90 => ?_)
              obtain ⟨rfl, rfl⟩ := hp_90
              refine r_after (ws' := [(m0, .inr (9, MO ad qth (nI k) (bI qir) (nI tn2_71) (nI (max dp (op + 1))) qru (nI e2_71) (nI e2_71) (nI so2_71) (nI bg2_71) (nI z2_71) (oI wr2_71) (nI (op + 1)) (bI qiu) qwi qhe qrw qma)), ((ad 2), .inl (g.2.1 0, 2000, .inl (aI T))), ((ad 6), .inl (g.2.1 0, 2000, .inl (aI BE2_71))), ((ad 7), .inl (g.2.1 0, 2000, .inl (aI EN2_71))), ((ad 26), .inl (g.2.1 0, 40, .inl (aI (up OW op w)))), ((ad 27), .inl (g.2.1 0, 40, .inl (aI (up OF op z2_30)))), ((ad 28), .inl (g.2.1 0, 40, .inl (aI (up OS op z2_71))))]) (st' := []) (n1 := 0) (n2 := 0) [3, 0, 1, 2, 4, 5, 6] rfl rfl rfl rfl rfl ?_
              refine r_vret C E d_Mo_each_93 (by first | decide | omega | (simp only [rmk]; omega)) (by first | decide | omega | (simp only [rmk]; omega)) ?_
              subst c_23
              obtain ⟨hA, hB⟩ := each_3 hnx_1 hno_1 hch hnu_30
              have hz0 := oI_lt hri2_30.2.2.2.2.2.2.1 c_64
              rw [hz0] at hnu_71
              obtain ⟨hC, hD⟩ := hB hz0 _ _ _ hnu_71
              have hz := oI_lt hri2_71.2.2.2.2.2.2.1 c_83
              exact ⟨_, _, _, _, _, _, _, _, _, _, _, _, _, rfl, rfl, hri2_71, Or.inl ⟨_, hC hz, hz, rfl, rfl, rfl, rfl, rfl⟩⟩
    · exact absurd c_10 (by omega)

set_option maxHeartbeats 4000000 in
set_option maxRecDepth 100000 in
theorem c_Mo_where (g : GG) (l : Launch) {m0 : Nat} {ad : Nat → Nat} {qth : Int32} {qru : Int32} {qbe : Int32} {qva : Int32} {qwi : Int32} {qhe : Int32} {qrw : Int32} {qma : Int32} {qir : Bool} {qiu : Bool} {k : Nat} {so : Nat} {e : Nat} {tn : Nat} {op : Nat} {dp : Nat} {qe : Int32} {wr : Option Nat} {T : Nat → Nat} {BE : Nat → Nat} {EN : Nat → Nat} {OW : Nat → Nat} {OF : Nat → Nat} {OS : Nat → Nat}  (hk : k ≤ 2000) (hT : ∀ j, T j < 256) (hri : RI T k so e tn qe wr BE EN) (hw0 : wr = none) (hop : op < 40) (hdp : dp < 2 ^ 31) : Cn g l y_Mo_where b_Mo_where 2 none (rmk 3 0 0 72) [.ref m0] ([(m0, .inr (9, MO ad qth (nI k) (bI qir) (nI tn) (nI dp) qru (nI e) qe (nI so) qbe qva (oI wr) (nI op) (bI qiu) qwi qhe qrw qma)), ((ad 2), .inl (g.2.1 0, 2000, .inl (aI T))), ((ad 6), .inl (g.2.1 0, 2000, .inl (aI BE))), ((ad 7), .inl (g.2.1 0, 2000, .inl (aI EN))), ((ad 26), .inl (g.2.1 0, 40, .inl (aI OW))), ((ad 27), .inl (g.2.1 0, 40, .inl (aI OF))), ((ad 28), .inl (g.2.1 0, 40, .inl (aI OS)))]) (fun (r0 : Option Value) (w0 : va_W) => ∃ so2 : Nat, ∃ e2 : Nat, ∃ tn2 : Nat, ∃ bg2 : Nat, ∃ z2 : Nat, ∃ wr2 : Option Nat, ∃ BE2 : Nat → Nat, ∃ EN2 : Nat → Nat, ∃ op2 : Nat, ∃ dp2 : Nat, ∃ OW2 : Nat → Nat, ∃ OF2 : Nat → Nat, ∃ OS2 : Nat → Nat, r0 = none ∧ w0 = [(m0, .inr (9, MO ad qth (nI k) (bI qir) (nI tn2) (nI dp2) qru (nI e2) (nI e2) (nI so2) (nI bg2) (nI z2) (oI wr2) (nI op2) (bI qiu) qwi qhe qrw qma)), ((ad 2), .inl (g.2.1 0, 2000, .inl (aI T))), ((ad 6), .inl (g.2.1 0, 2000, .inl (aI BE2))), ((ad 7), .inl (g.2.1 0, 2000, .inl (aI EN2))), ((ad 26), .inl (g.2.1 0, 40, .inl (aI OW2))), ((ad 27), .inl (g.2.1 0, 40, .inl (aI OF2))), ((ad 28), .inl (g.2.1 0, 40, .inl (aI OS2)))] ∧ (RI T k so2 e2 tn2 (nI e2) wr2 BE2 EN2) ∧ (EachR T k 2 (xOf T k so e BE EN tn) wr2 (xOf T k so2 e2 BE2 EN2 tn2) op dp OW OF OS op2 dp2 OW2 OF2 OS2)) := by
  refine Cn.of R_Mo [(0, .ref m0)] (by decide) rfl (Nat.le_of_ble_eq_true rfl) rfl ?_
  intro x A Q hR hXl hin C E
  subst hXl
  refine r_aload_n C 0 d_Mo_where_0 rfl rfl ?_
  refine j_callV C (c_Mo_next g (xl x) (m0 := m0) (ad := ad) (qth := qth) (qde := nI dp) (qru := qru) (qbe := qbe) (qva := qva) (qop := nI op) (qwi := qwi) (qhe := qhe) (qrw := qrw) (qma := qma) (qir := qir) (qiu := qiu) (k := k) (so := so) (e := e) (tn := tn) (qe := qe) (wr := wr) (T := T) (BE := BE) (EN := EN) (by first | assumption | omega | rfl) (by first | assumption | omega | rfl) (hri.1) (hri.2.1) (hri.2.2.1) (hri.2.2.2.1) (hri.2.2.2.2.1) (hri.2.2.2.2.2.1) (hri.2.2.2.2.2.2.1)) (Sp.of (wr := [((ad 26), .inl (g.2.1 0, 40, .inl (aI OW))), ((ad 27), .inl (g.2.1 0, 40, .inl (aI OF))), ((ad 28), .inl (g.2.1 0, 40, .inl (aI OS)))]) [0, 1, 2, 3] [4, 5, 6] rfl rfl rfl rfl (by decide)) d_Mo_where_1 lk_Mo_153 mw_Mo_next vw_Mo_next (q0 := 0) rfl rfl (fit_of hR (by first | decide | (simp only [rmk]; omega)) (by first | decide | (simp only [rmk]; omega)) (by first | decide | (simp only [rmk]; omega)) (by first | decide | (simp only [rmk]; omega))) rfl (cat8 (Nat.le_of_ble_eq_true rfl)) (As := []) (rest := []) rfl (fun r_1 w_1 hp_1 => ?_)
  obtain ⟨tk_1, t2_1, tn2_1, wr2_1, BE2_1, EN2_1, rfl, rfl, hnx_1, hno_1⟩ := hp_1
  refine r_after (ws' := [(m0, .inr (9, MO ad qth (nI k) (bI qir) (nI tn2_1) (nI dp) qru (nI tk_1.2.2.1) (nI tk_1.2.2.1) (nI t2_1) (nI tk_1.2.1) (nI (vaM t2_1 tk_1)) (oI wr2_1) (nI op) (bI qiu) qwi qhe qrw qma)), ((ad 2), .inl (g.2.1 0, 2000, .inl (aI T))), ((ad 6), .inl (g.2.1 0, 2000, .inl (aI BE2_1))), ((ad 7), .inl (g.2.1 0, 2000, .inl (aI EN2_1))), ((ad 26), .inl (g.2.1 0, 40, .inl (aI OW))), ((ad 27), .inl (g.2.1 0, 40, .inl (aI OF))), ((ad 28), .inl (g.2.1 0, 40, .inl (aI OS)))]) (st' := []) (n1 := 0) (n2 := 0) [3, 4, 5, 6, 0, 1, 2] rfl rfl rfl rfl rfl ?_
  have hok1 := nx_ok hT hri.2.1 hnx_1
  have hv1 := nx_val hT hri.2.1 hnx_1
  have hri1 := ri_next hk hri hnx_1 hno_1
  have hb0 : tk_1.2.1 ≤ k := Nat.le_trans hok1.1 hok1.2.1
  have hb1 : tk_1.2.1 ≤ 2000 := Nat.le_trans hb0 hk
  have hb2 := hok1.2.1
  have ht1 := hri1.1
  subst hw0
  refine r_aload_n C 0 d_Mo_where_4 rfl rfl ?_
  refine j_callV C (c_Mo_filter g (xl x) (m0 := m0) (ad := ad) (qth := qth) (qsz := nI k) (qtk := nI tn2_1) (qde := nI dp) (qru := qru) (qat := nI tk_1.2.2.1) (qva := nI (vaM t2_1 tk_1)) (qwr := oI wr2_1) (qop := nI op) (qwi := qwi) (qhe := qhe) (qrw := qrw) (qma := qma) (qir := qir) (qiu := qiu) (so := t2_1) (sta := tk_1.2.1) (en := tk_1.2.2.1) (T := T) (by first | assumption | omega | rfl) (by omega) (fun q => ⟨hok1.1, Nat.le_trans hb2 hk, nx_let hb0 hnx_1 q⟩)) (Sp.of (wr := [((ad 6), .inl (g.2.1 0, 2000, .inl (aI BE2_1))), ((ad 7), .inl (g.2.1 0, 2000, .inl (aI EN2_1))), ((ad 26), .inl (g.2.1 0, 40, .inl (aI OW))), ((ad 27), .inl (g.2.1 0, 40, .inl (aI OF))), ((ad 28), .inl (g.2.1 0, 40, .inl (aI OS)))]) [0, 1] [2, 3, 4, 5, 6] rfl rfl rfl rfl (by decide)) d_Mo_where_5 lk_Mo_177 mw_Mo_filter vw_Mo_filter (q0 := 0) rfl rfl (fit_of hR (by first | decide | (simp only [rmk]; omega)) (by first | decide | (simp only [rmk]; omega)) (by first | decide | (simp only [rmk]; omega)) (by first | decide | (simp only [rmk]; omega))) rfl (cat8 (Nat.le_of_ble_eq_true rfl)) (As := []) (rest := []) rfl (fun r_5 w_5 hp_5 => ?_)
  obtain ⟨rfl, rfl⟩ := hp_5
  refine r_after (ws' := [(m0, .inr (9, MO ad qth (nI k) (bI qir) (nI tn2_1) (nI dp) qru (nI tk_1.2.2.1) (nI tk_1.2.2.1) (nI t2_1) (nI tk_1.2.1) (nI (vaM t2_1 tk_1)) (oI wr2_1) (nI op) (bI qiu) qwi qhe qrw qma)), ((ad 2), .inl (g.2.1 0, 2000, .inl (aI T))), ((ad 6), .inl (g.2.1 0, 2000, .inl (aI BE2_1))), ((ad 7), .inl (g.2.1 0, 2000, .inl (aI EN2_1))), ((ad 26), .inl (g.2.1 0, 40, .inl (aI OW))), ((ad 27), .inl (g.2.1 0, 40, .inl (aI OF))), ((ad 28), .inl (g.2.1 0, 40, .inl (aI OS)))]) (st' := [.int (oI (filterM T t2_1 tk_1.2.1 tk_1.2.2.1))]) (n1 := 0) (n2 := 0) [5, 6, 0, 1, 2, 3, 4] rfl rfl rfl rfl rfl ?_
  refine r_istore_n C (lv' := [(1, .int (oI (filterM T t2_1 tk_1.2.1 tk_1.2.2.1))), (0, .ref m0)]) d_Mo_where_8 rfl (by decide) rfl ?_
  have hch := ch_filter hb0 hnx_1
  generalize hsh : filterM T t2_1 tk_1.2.1 tk_1.2.2.1 = sh at hch
  cases sh with
  | none =>
    refine r_norm2 (ws' := [(m0, .inr (9, MO ad qth (nI k) (bI qir) (nI tn2_1) (nI dp) qru (nI tk_1.2.2.1) (nI tk_1.2.2.1) (nI t2_1) (nI tk_1.2.1) (nI (vaM t2_1 tk_1)) (oI wr2_1) (nI op) (bI qiu) qwi qhe qrw qma)), ((ad 2), .inl (g.2.1 0, 2000, .inl (aI T))), ((ad 6), .inl (g.2.1 0, 2000, .inl (aI BE2_1))), ((ad 7), .inl (g.2.1 0, 2000, .inl (aI EN2_1))), ((ad 26), .inl (g.2.1 0, 40, .inl (aI OW))), ((ad 27), .inl (g.2.1 0, 40, .inl (aI OF))), ((ad 28), .inl (g.2.1 0, 40, .inl (aI OS)))]) (st' := []) (lv' := [(1, .int (-1)), (0, .ref m0)]) rfl rfl rfl ?_
    refine r_iload_n C 0 d_Mo_where_9 rfl rfl ?_
    refine r_if_ge C 21 d_Mo_where_10 (by decide) (fun c_10 => ?_) (fun c_10 => ?_)
    · exact absurd c_10 (by decide)
    · skip
      refine r_aload_n C 1 d_Mo_where_13 rfl rfl ?_
      refine r_aload_n C 1 d_Mo_where_14 rfl rfl ?_
      refine r_get C 0 22 d_Mo_where_15 ci_Mo fi_Mo_106 rfl (by decide) rfl rfl ?_
      refine j_callV C (c_Mo_refuse g (xl x) (m0 := m0) (ad := ad) (qth := qth) (qsz := nI k) (qtk := nI tn2_1) (qde := nI dp) (qru := qru) (qat := nI tk_1.2.2.1) (qen := nI tk_1.2.2.1) (qto := nI t2_1) (qbe := nI tk_1.2.1) (qva := nI (vaM t2_1 tk_1)) (qop := nI op) (qwi := qwi) (qhe := qhe) (qrw := qrw) (qma := qma) (qir := qir) (qiu := qiu) (wr := wr2_1) (c := tk_1.2.1) (by omega) (hri1.2.2.2.2.2.2.1)) (Sp.of (wr := [((ad 2), .inl (g.2.1 0, 2000, .inl (aI T))), ((ad 6), .inl (g.2.1 0, 2000, .inl (aI BE2_1))), ((ad 7), .inl (g.2.1 0, 2000, .inl (aI EN2_1))), ((ad 26), .inl (g.2.1 0, 40, .inl (aI OW))), ((ad 27), .inl (g.2.1 0, 40, .inl (aI OF))), ((ad 28), .inl (g.2.1 0, 40, .inl (aI OS)))]) [0] [1, 2, 3, 4, 5, 6] rfl rfl rfl rfl (by decide)) d_Mo_where_18 lk_Mo_119 mw_Mo_refuse vw_Mo_refuse (q0 := 0) rfl rfl (fit_of hR (by first | decide | (simp only [rmk]; omega)) (by first | decide | (simp only [rmk]; omega)) (by first | decide | (simp only [rmk]; omega)) (by first | decide | (simp only [rmk]; omega))) rfl (cat8 (Nat.le_of_ble_eq_true rfl)) (As := [.int (nI tk_1.2.1)]) (rest := []) rfl (fun r_18 w_18 hp_18 => ?_)
      obtain ⟨rfl, rfl⟩ := hp_18
      refine r_after (ws' := [(m0, .inr (9, MO ad qth (nI k) (bI qir) (nI tn2_1) (nI dp) qru (nI tk_1.2.2.1) (nI tk_1.2.2.1) (nI t2_1) (nI tk_1.2.1) (nI (vaM t2_1 tk_1)) (oI (wr2_1.orElse fun _ => some tk_1.2.1)) (nI op) (bI qiu) qwi qhe qrw qma)), ((ad 2), .inl (g.2.1 0, 2000, .inl (aI T))), ((ad 6), .inl (g.2.1 0, 2000, .inl (aI BE2_1))), ((ad 7), .inl (g.2.1 0, 2000, .inl (aI EN2_1))), ((ad 26), .inl (g.2.1 0, 40, .inl (aI OW))), ((ad 27), .inl (g.2.1 0, 40, .inl (aI OF))), ((ad 28), .inl (g.2.1 0, 40, .inl (aI OS)))]) (st' := []) (n1 := 0) (n2 := 0) [6, 0, 1, 2, 3, 4, 5] rfl rfl rfl rfl rfl ?_
      refine r_aload_n C 1 d_Mo_where_21 rfl rfl ?_
      refine r_get C 0 24 d_Mo_where_22 ci_Mo fi_Mo_94 rfl (by decide) rfl rfl ?_
      refine r_if_ge C 35 d_Mo_where_25 (by decide) (fun c_25 => ?_) (fun c_25 => ?_)
      · skip
        refine r_vret C E d_Mo_where_35 (by first | decide | omega | (simp only [rmk]; omega)) (by first | decide | omega | (simp only [rmk]; omega)) ?_
        obtain ⟨hb, he9⟩ := each_no (BE := BE) (EN := EN) (tn := tn) hnx_1 hch
        exact ⟨_, _, _, _, _, _, _, _, _, _, _, _, _, rfl, rfl, ri_ref (by omega) hri1, Or.inr ⟨_, he9, hb, rfl, rfl, rfl, rfl, rfl⟩⟩
      · rw [(each_no (BE := BE) (EN := EN) (tn := tn) hnx_1 hch).2] at c_25; exact absurd (nI_pos' (by omega)) c_25
  | some w =>
    have hwl : w ≤ 14 := ch_le hch
    have hwg := ch_ge hch
    refine r_norm2 (ws' := [(m0, .inr (9, MO ad qth (nI k) (bI qir) (nI tn2_1) (nI dp) qru (nI tk_1.2.2.1) (nI tk_1.2.2.1) (nI t2_1) (nI tk_1.2.1) (nI (vaM t2_1 tk_1)) (oI wr2_1) (nI op) (bI qiu) qwi qhe qrw qma)), ((ad 2), .inl (g.2.1 0, 2000, .inl (aI T))), ((ad 6), .inl (g.2.1 0, 2000, .inl (aI BE2_1))), ((ad 7), .inl (g.2.1 0, 2000, .inl (aI EN2_1))), ((ad 26), .inl (g.2.1 0, 40, .inl (aI OW))), ((ad 27), .inl (g.2.1 0, 40, .inl (aI OF))), ((ad 28), .inl (g.2.1 0, 40, .inl (aI OS)))]) (st' := []) (lv' := [(1, .int (nI w)), (0, .ref m0)]) rfl rfl rfl ?_
    refine r_iload_n C 0 d_Mo_where_9 rfl rfl ?_
    refine r_nif_ge C 21 d_Mo_where_10 (by decide) (by omega) (fun c_10 => ?_) (fun c_10 => ?_)
    · skip
      refine r_aload_n C 1 d_Mo_where_21 rfl rfl ?_
      refine r_get C 0 24 d_Mo_where_22 ci_Mo fi_Mo_94 rfl (by decide) rfl rfl ?_
      refine r_if_ge C 35 d_Mo_where_25 (by decide) (fun c_25 => ?_) (fun c_25 => ?_)
      · skip
        refine r_vret C E d_Mo_where_35 (by first | decide | omega | (simp only [rmk]; omega)) (by first | decide | omega | (simp only [rmk]; omega)) ?_
        obtain ⟨v9, hv9⟩ := oI_ge c_25
        exact ⟨_, _, _, _, _, _, _, _, _, _, _, _, _, rfl, rfl, hri1, Or.inr ⟨v9, hv9, each_bad4 hnx_1 hv9, rfl, rfl, rfl, rfl, rfl⟩⟩
      · skip
        refine r_aload_n C 1 d_Mo_where_28 rfl rfl ?_
        refine r_iload_n C 0 d_Mo_where_29 rfl rfl ?_
        refine r_iconst C (nI 0) d_Mo_where_30 (by decide) ?_
        refine r_iconst C (nI 0) d_Mo_where_31 (by decide) ?_
        refine j_callV C (c_Mo_push g (xl x) (m0 := m0) (ad := ad) (qth := qth) (qsz := nI k) (qtk := nI tn2_1) (qru := qru) (qat := nI tk_1.2.2.1) (qen := nI tk_1.2.2.1) (qto := nI t2_1) (qbe := nI tk_1.2.1) (qva := nI (vaM t2_1 tk_1)) (qwr := oI wr2_1) (qwi := qwi) (qhe := qhe) (qrw := qrw) (qma := qma) (qir := qir) (qiu := qiu) (op := op) (dp := dp) (w := w) (a := 0) (c := 0) (OW := OW) (OF := OF) (OS := OS) (by first | assumption | omega | rfl) (by first | assumption | omega | rfl)) (Sp.of (wr := [((ad 2), .inl (g.2.1 0, 2000, .inl (aI T))), ((ad 6), .inl (g.2.1 0, 2000, .inl (aI BE2_1))), ((ad 7), .inl (g.2.1 0, 2000, .inl (aI EN2_1)))]) [0, 4, 5, 6] [1, 2, 3] rfl rfl rfl rfl (by decide)) d_Mo_where_32 lk_Mo_173 mw_Mo_push vw_Mo_push (q0 := 0) rfl rfl (fit_of hR (by first | decide | (simp only [rmk]; omega)) (by first | decide | (simp only [rmk]; omega)) (by first | decide | (simp only [rmk]; omega)) (by first | decide | (simp only [rmk]; omega))) rfl (cat8 (Nat.le_of_ble_eq_true rfl)) (As := [.int (nI w), .int (nI 0), .int (nI 0)]) (rest := []) rfl (fun r_32 w_32 hp_32 => ?_)
        obtain ⟨rfl, rfl⟩ := hp_32
        refine r_after (ws' := [(m0, .inr (9, MO ad qth (nI k) (bI qir) (nI tn2_1) (nI (max dp (op + 1))) qru (nI tk_1.2.2.1) (nI tk_1.2.2.1) (nI t2_1) (nI tk_1.2.1) (nI (vaM t2_1 tk_1)) (oI wr2_1) (nI (op + 1)) (bI qiu) qwi qhe qrw qma)), ((ad 2), .inl (g.2.1 0, 2000, .inl (aI T))), ((ad 6), .inl (g.2.1 0, 2000, .inl (aI BE2_1))), ((ad 7), .inl (g.2.1 0, 2000, .inl (aI EN2_1))), ((ad 26), .inl (g.2.1 0, 40, .inl (aI (up OW op w)))), ((ad 27), .inl (g.2.1 0, 40, .inl (aI (up OF op 0)))), ((ad 28), .inl (g.2.1 0, 40, .inl (aI (up OS op 0))))]) (st' := []) (n1 := 0) (n2 := 0) [3, 0, 1, 2, 4, 5, 6] rfl rfl rfl rfl rfl ?_
        refine r_vret C E d_Mo_where_35 (by first | decide | omega | (simp only [rmk]; omega)) (by first | decide | omega | (simp only [rmk]; omega)) ?_
        have hz := oI_lt hri1.2.2.2.2.2.2.1 c_25
        exact ⟨_, _, _, _, _, _, _, _, _, _, _, _, _, rfl, rfl, hri1, Or.inl ⟨_, each_d hnx_1 hno_1 hch (Or.inr rfl) (by omega) (by omega) hz, hz, rfl, rfl, rfl, rfl, rfl⟩⟩
    · exact absurd c_10 (by omega)
