abbrev Rows : Type := List (Nat × List Nat)
abbrev Acc : Type := Option (Nat × Rows)
def flat (R : Rows) : List Nat := R.flatMap Prod.snd
theorem flat_app (R S : Rows) : flat (R ++ S) = flat R ++ flat S := by simp [flat, List.flatMap_append]
abbrev inLim (md : Nat) (R : Rows) : Prop := md ≤ 6000 ∧ R.length ≤ 4000 ∧ (flat R).length ≤ 30000
def tag (ri : Nat) (W : List (List Nat)) : Rows := W.map fun L => (ri, L)
theorem tag_app (ri : Nat) (V W : List (List Nat)) : tag ri (V ++ W) = tag ri V ++ tag ri W := by simp [tag]
/-- so many sets more and these rows more, if there is room -/
def lim (ri : Nat) (p : Nat × List (List Nat)) (a : Acc) : Acc := match a with
  | none => none
  | some (md, R) => if inLim (md + p.1) (R ++ tag ri p.2) then some (md + p.1, R ++ tag ri p.2) else none
theorem inLim_mono {m1 m2 : Nat} {R S : Rows} (h : inLim (m1 + m2) (R ++ S)) : inLim m1 R := by
  unfold inLim at *
  rw [flat_app, List.length_append, List.length_append] at h
  omega
theorem lim_lim (ri : Nat) (p q : Nat × List (List Nat)) (a : Acc) : lim ri q (lim ri p a) = lim ri (p.1 + q.1, p.2 ++ q.2) a := by
  cases a with
  | none => rfl
  | some x =>
    obtain ⟨md, R⟩ := x
    by_cases h : inLim (md + p.1) (R ++ tag ri p.2)
    · simp only [lim, if_pos h, tag_app, List.append_assoc, Nat.add_assoc]
    · have h2 : ¬ inLim (md + p.1 + q.1) (R ++ tag ri p.2 ++ tag ri q.2) := fun z => h (inLim_mono z)
      simp only [lim, if_neg h, tag_app, ← List.append_assoc, ← Nat.add_assoc, if_neg h2]
/-- what is unrolled below each of the sets -/
def unrs (f : List Nat → Nat × List (List Nat)) (Cs : List (List Nat)) : Nat × List (List Nat) := ((Cs.map fun c => 1 + (f c).1).sum, Cs.flatMap fun c => (f c).2)
def one (f : List Nat → Nat × List (List Nat)) (c : List Nat) : Nat × List (List Nat) := (1 + (f c).1, (f c).2)
section LIM
variable {f : List Nat → Nat × List (List Nat)} {ri : Nat} {a : Acc} {c : List Nat} {Cs Ds : List (List Nat)}
theorem lims_cons : lim ri (unrs f (c :: Cs)) a = lim ri (unrs f Cs) (lim ri (one f c) a) := by rw [lim_lim]; rfl
theorem lims_one : lim ri (unrs f [c]) a = lim ri (one f c) a := by simp [unrs, one]
theorem lims_app : lim ri (unrs f (Cs ++ Ds)) a = lim ri (unrs f Ds) (lim ri (unrs f Cs) a) := by
  rw [lim_lim]
  simp [unrs]
theorem lim_one {md : Nat} {R : Rows} (h : md + 1 ≤ 6000) : lim ri (one f c) (some (md, R)) = lim ri (f c) (some (md + 1, R)) := by
  simp only [lim, one, ← Nat.add_assoc]
theorem lim_over {md : Nat} {R : Rows} (h : ¬ md + 1 ≤ 6000) : lim ri (one f c) (some (md, R)) = none := by
  have h2 : ¬ inLim (md + (one f c).1) (R ++ tag ri (one f c).2) := by
    intro z
    have := z.1
    simp only [one] at this
    omega
  exact if_neg h2
end LIM
def wins (len : Nat) (L : List Nat) : List (List Nat) := (List.range (L.length + 1 - len)).map fun i => (L.drop i).take len
def sideP (uw : Nat) (L : List Nat) (p : Nat) : List (List Nat) := (if p % uw + 1 < uw ∧ p + 1 ∈ L then [[p, p + 1]] else []) ++ (if p + uw ∈ L then [[p, p + uw]] else [])
def corP (uw : Nat) (L : List Nat) (p : Nat) : List (List Nat) := if p % uw + 1 < uw ∧ p + 1 ∈ L ∧ p + uw ∈ L ∧ p + uw + 1 ∈ L then [[p, p + 1, p + uw, p + uw + 1]] else []
def partL (key : Nat → Nat) (L : List Nat) : List (List Nat) := ((List.range 256).map fun k => L.filter fun p => key p == k).filter fun c => !c.isEmpty
/-- the sets that a layer makes of a set -/
def kids (uw uh : Nat) (l : LayerV) (L : List Nat) : List (List Nat) :=
  if l.1 = 5 then wins 1 L else if l.1 = 6 then wins 2 L else if l.1 = 7 then wins (l.2.1.getD 1) L else if l.1 = 8 then L.flatMap (sideP uw L) else if l.1 = 9 then L.flatMap (corP uw L) else if 12 ≤ l.1 then [L.filter (passB uw uh l.1)] else partL (keyN uw l.1 l.2.1 l.2.2) L
/-- how many sets, and the rows, that the layers (the outermost first) make of a set -/
def unr (uw uh : Nat) : List LayerV → List Nat → Nat × List (List Nat)
  | [], L => (0, if L = [] then [] else [L])
  | l :: lr, L => unrs (unr uw uh lr) (kids uw uh l L)
/-- the store holds these rows -/
def StAt (RU SA PL : Nat → Nat) (TO : Nat → Bool) (rc pn : Nat) (R : Rows) : Prop := rc = R.length ∧ pn = (flat R).length ∧ (∀ k r, R[k]? = some r → RU k = r.1 ∧ SA k = (flat (R.take k)).length ∧ SA (k + 1) = (flat (R.take (k + 1))).length) ∧ (∀ t p, (flat R)[t]? = some p → PL t = p) ∧ ∀ t, t < 256 → TO t = (flat R).contains t
def UAt (a : Acc) (tm : Bool) (mi : Int32) (RU SA PL : Nat → Nat) (TO : Nat → Bool) (rc pn : Nat) : Prop := match a with
  | none => tm = true
  | some (md, R) => tm = false ∧ mi = nI md ∧ inLim md R ∧ StAt RU SA PL TO rc pn R
section UAT
variable {a : Acc} {tm : Bool} {mi : Int32} {RU SA PL : Nat → Nat} {TO : Nat → Bool} {rc pn : Nat} {R : Rows}
theorem UAt_t (h : UAt a tm mi RU SA PL TO rc pn) (ht : tm = true) : a = none := by
  cases a with
  | none => rfl
  | some x => rw [h.1] at ht; cases ht
theorem UAt_f (h : UAt a tm mi RU SA PL TO rc pn) (ht : tm = false) : ∃ md R, a = some (md, R) ∧ mi = nI md ∧ inLim md R ∧ StAt RU SA PL TO rc pn R := by
  cases a with
  | none => rw [show tm = true from h] at ht; cases ht
  | some x => exact ⟨x.1, x.2, rfl, h.2.1, h.2.2.1, h.2.2.2⟩
theorem lims_nil {ri : Nat} {f : List Nat → Nat × List (List Nat)} (h : UAt a tm mi RU SA PL TO rc pn) : lim ri (unrs f []) a = a := by
  cases a with
  | none => rfl
  | some x =>
    have := h.2.2.1
    simp [lim, unrs, tag, this]
theorem st_row {SS PL2 : Nat → Nat} {TO2 : Nat → Bool} {j z ri : Nat} (h : StAt RU SA PL TO rc pn R) (hl : ∀ t, PL2 t = if pn ≤ t ∧ t < pn + z then SS (j + (t - pn)) else PL t) (ht : ∀ t, TO2 t = (TO t || (List.range z).any (fun a => SS (j + a) == t))) : StAt (up RU rc ri) (up (up SA rc pn) (rc + 1) (pn + z)) PL2 TO2 (rc + 1) (pn + z) (R ++ [(ri, segL SS j z)]) := by
  obtain ⟨h1, h2, h3, h4, h5⟩ := h
  have hf : flat (R ++ [(ri, segL SS j z)]) = flat R ++ segL SS j z := by rw [flat_app]; simp [flat]
  refine ⟨by simp [h1], by rw [hf, List.length_append, segL_len, h2], ?_, ?_, ?_⟩
  · intro k r hk
    by_cases e : k < R.length
    · rw [List.getElem?_append_left e] at hk
      obtain ⟨a1, a2, a3⟩ := h3 k r hk
      rw [up_ne _ _ (by omega), up_ne _ _ (by omega), up_ne _ _ (by omega), List.take_append_of_le_length (by omega), List.take_append_of_le_length (by omega)]
      refine ⟨a1, a2, ?_⟩
      rw [up_ne _ _ (by omega)]
      by_cases q : k + 1 = rc
      · rw [← q, up_self, h2, List.take_of_length_le (by omega)]
      · rw [up_ne _ _ q, a3]
    · have e2 : k = R.length := by
        have := (List.getElem?_eq_some_iff.mp hk).1
        simp at this
        omega
      subst e2
      rw [List.getElem?_append_right (Nat.le_refl _), Nat.sub_self] at hk
      simp only [List.getElem?_cons_zero, Option.some.injEq] at hk
      subst hk
      rw [← h1, up_self, up_ne _ _ (by omega), up_self, up_self, h1, List.take_append_of_le_length (Nat.le_refl _), List.take_of_length_le (Nat.le_refl _), List.take_of_length_le (by simp), hf, List.length_append, segL_len, h2]
      exact ⟨rfl, rfl, rfl⟩
  · intro t p q
    rw [hf] at q
    rw [hl t]
    by_cases e : t < (flat R).length
    · rw [List.getElem?_append_left e] at q
      rw [if_neg (by omega)]
      exact h4 t p q
    · rw [List.getElem?_append_right (by omega)] at q
      have hz := (List.getElem?_eq_some_iff.mp q).1
      rw [segL_len] at hz
      rw [segL_get hz] at q
      rw [if_pos (by omega), h2]
      exact Option.some.inj q
  · intro t q
    rw [ht t, hf, h5 t q]
    have : (segL SS j z).contains t = (List.range z).any (fun a => SS (j + a) == t) := by
      rw [Bool.eq_iff_iff]
      simp [segL]
    rw [List.contains_append, this]
theorem u_row {SS RU2 SA2 PL2 : Nat → Nat} {TO2 : Nat → Bool} {j z ri rc2 pn2 : Nat} {tm2 : Bool} (hU : UAt a tm mi RU SA PL TO rc pn) (ht : tm = false) (h : RowAdded SS j z ri RU SA PL TO rc pn tm RU2 SA2 PL2 TO2 rc2 pn2 tm2) : UAt (lim ri (0, if segL SS j z = [] then [] else [segL SS j z]) a) tm2 mi RU2 SA2 PL2 TO2 rc2 pn2 := by
  obtain ⟨md, R, rfl, hm, hl, hs⟩ := UAt_f hU ht
  rcases h with ⟨rfl, rfl, rfl, rfl, rfl, rfl, rfl, rfl⟩ | ⟨hz, q1, q2, rfl, rfl, rfl, rfl, rfl, q3, q4⟩ | ⟨hz, q1, rfl⟩
  · rw [if_pos (show segL SS j 0 = [] from rfl)]
    simp only [lim, tag, List.map_nil, List.append_nil, Nat.add_zero, if_pos hl]
    exact ⟨ht, hm, hl, hs⟩
  · have hne : ¬ segL SS j z = [] := fun e => by have := congrArg List.length e; rw [segL_len] at this; simp at this; omega
    rw [if_neg hne]
    have hf : flat (R ++ [(ri, segL SS j z)]) = flat R ++ segL SS j z := by rw [flat_app]; simp [flat]
    have hl2 : inLim md (R ++ [(ri, segL SS j z)]) := by
      refine ⟨hl.1, ?_, ?_⟩
      · have := hs.1; simp; omega
      · have := hs.2.1; rw [hf, List.length_append, segL_len]; omega
    simp only [lim, tag, List.map_cons, List.map_nil, Nat.add_zero, if_pos hl2]
    exact ⟨ht, hm, hl2, st_row hs q3 q4⟩
  · have hne : ¬ segL SS j z = [] := fun e => by have := congrArg List.length e; rw [segL_len] at this; simp at this; omega
    rw [if_neg hne]
    have hf : flat (R ++ [(ri, segL SS j z)]) = flat R ++ segL SS j z := by rw [flat_app]; simp [flat]
    have hl2 : ¬ inLim md (R ++ [(ri, segL SS j z)]) := by
      intro hh
      have e1 := hs.1
      have e2 := hs.2.1
      have e3 := hh.2.1
      have e4 := hh.2.2
      rw [hf, List.length_append, segL_len] at e4
      simp at e3
      omega
    simp only [lim, tag, List.map_cons, List.map_nil, Nat.add_zero, if_neg hl2]
    rfl
end UAT
/-- in rising places one pass tells -/
theorem hld_mem {SS : Nat → Nat} {j z i c : Nat} (h : (segL SS j z).Pairwise (· < ·)) (h1 : j ≤ i) (h2 : i < j + z) (hc : SS i < c) : hld SS i (j + z) c = decide (c ∈ segL SS j z) := by
  have hr : ∀ a b, j ≤ a → a < b → b < j + z → SS a < SS b := by
    intro a b p1 p2 p3
    rw [List.pairwise_iff_getElem] at h
    have := h (a - j) (b - j) (by rw [segL_len]; omega) (by rw [segL_len]; omega) (by omega)
    simpa [segL, show j + (a - j) = a by omega, show j + (b - j) = b by omega] using this
  have key : ∀ m i, j + z - i = m → j ≤ i → i ≤ j + z → (∀ a, j ≤ a → a < i → SS a < c) → hld SS i (j + z) c = decide (c ∈ segL SS j z) := by
    intro m
    induction m with
    | zero =>
      intro i e p1 p2 p3
      obtain rfl : i = j + z := by omega
      rw [hld, run_stop (by omega)]
      rw [decide_eq_false (by omega)]
      symm
      rw [decide_eq_false_iff_not]
      intro q
      obtain ⟨a, q1, q2⟩ := segL_mem.mp q
      have := p3 (j + a) (by omega) (by omega)
      omega
    | succ m ih =>
      intro i e p1 p2 p3
      by_cases q : SS i < c
      · have := ih (i + 1) (by omega) (by omega) (by omega) (fun a b1 b2 => by
          by_cases w : a = i
          · rw [w]; exact q
          · exact p3 a b1 (by omega))
        rw [← this, hld, hld, run_go (by omega) (by simpa using q)]
      · rw [hld, run_stop (fun z => by simp at z; omega)]
        by_cases w : SS i = c
        · rw [decide_eq_true ⟨by omega, w⟩]
          symm
          exact decide_eq_true (segL_mem.mpr ⟨i - j, by omega, by rw [show j + (i - j) = i by omega]; exact w⟩)
        · rw [decide_eq_false (fun z => w z.2)]
          symm
          rw [decide_eq_false_iff_not]
          intro y
          obtain ⟨a, q1, q2⟩ := segL_mem.mp y
          rcases Nat.lt_trichotomy (j + a) i with b | b | b
          · have := p3 (j + a) (by omega) b
            omega
          · rw [b] at q2; exact w q2
          · have := hr i (j + a) p1 b (by omega)
            omega
  exact key _ i rfl h1 (by omega) (fun a b1 b2 => Nat.lt_trans (hr a i b1 b2 h2) hc)
theorem wins_go {len : Nat} {SS : Nat → Nat} {j z i : Nat} (h : i + len ≤ z) : (wins len (segL SS j z)).drop i = segL SS (j + i) len :: (wins len (segL SS j z)).drop (i + 1) := by
  have hl : (wins len (segL SS j z)).length = z + 1 - len := by simp [wins, segL_len]
  rw [List.drop_eq_getElem_cons (by rw [hl]; omega)]
  refine congrArg (· :: _) ?_
  simp only [wins, List.getElem_map, List.getElem_range]
  rw [segL_drop (by omega), segL_take (by omega)]
theorem wins_end {len : Nat} {SS : Nat → Nat} {j z i : Nat} (h : ¬ i + len ≤ z) : (wins len (segL SS j z)).drop i = [] := by
  refine List.drop_of_length_le ?_
  simp [wins, segL_len]
  omega
theorem win_sub {SS : Nat → Nat} {j z i len : Nat} (h : i + len ≤ z) : (segL SS (j + i) len).Sublist (segL SS j z) := by
  rw [← segL_take (SS := SS) (j := j + i) (z := z - i) (by omega), ← segL_drop (by omega)]
  exact (List.take_sublist _ _).trans (List.drop_sublist _ _)

