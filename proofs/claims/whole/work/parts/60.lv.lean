/-- the sets of a level lie one behind the other -/
def LvA (ST SB : Nat → Nat) (lv : Nat) (Cs : List (List Nat)) : Prop := SB (616 * lv) = 0 ∧ ∀ (i : Nat) (c : List Nat), Cs[i]? = some c → SB (616 * lv + i + 1) = SB (616 * lv + i) + c.length ∧ ∀ (t p : Nat), c[t]? = some p → ST (17000 * lv + (SB (616 * lv + i) + t)) = p
/-- what lies below a level is kept -/
def LvF (lv : Nat) (ST SB CH ST2 SB2 CH2 : Nat → Nat) : Prop := (∀ t, t < 17000 * lv → ST2 t = ST t) ∧ (∀ t, t < 616 * lv → SB2 t = SB t) ∧ ∀ j, j < lv → CH2 j = CH j
section LV
variable {ST SB CH : Nat → Nat} {lv : Nat} {Cs : List (List Nat)}
theorem LvF.rfl : LvF lv ST SB CH ST SB CH := ⟨fun _ _ => Eq.refl _, fun _ _ => Eq.refl _, fun _ _ => Eq.refl _⟩
theorem LvF.trans {ST2 SB2 CH2 ST3 SB3 CH3 : Nat → Nat} (h : LvF lv ST SB CH ST2 SB2 CH2) (h2 : LvF lv ST2 SB2 CH2 ST3 SB3 CH3) : LvF lv ST SB CH ST3 SB3 CH3 := ⟨fun t q => (h2.1 t q).trans (h.1 t q), fun t q => (h2.2.1 t q).trans (h.2.1 t q), fun j q => (h2.2.2 j q).trans (h.2.2 j q)⟩
theorem lv_sum (h : LvA ST SB lv Cs) : ∀ i, i ≤ Cs.length → SB (616 * lv + i) = ((Cs.take i).map List.length).sum := by
  intro i
  induction i with
  | zero => intro _; rw [Nat.add_zero, h.1]; rfl
  | succ i ih =>
    intro hi
    have hg : Cs[i]? = some Cs[i] := List.getElem?_eq_getElem (by omega)
    rw [show 616 * lv + (i + 1) = 616 * lv + i + 1 by omega, (h.2 i _ hg).1, ih (by omega), List.take_succ, hg]
    simp only [Option.toList, List.map_append, List.map_cons, List.map_nil, List.sum_append, List.sum_cons, List.sum_nil, Nat.add_zero]
theorem lv_mono (h : LvA ST SB lv Cs) {i j : Nat} (h1 : i ≤ j) (h2 : j ≤ Cs.length) : SB (616 * lv + i) ≤ SB (616 * lv + j) := by
  induction j with
  | zero => rw [show i = 0 by omega]; exact Nat.le_refl _
  | succ j ih =>
    by_cases q : i = j + 1
    · rw [q]; exact Nat.le_refl _
    · have hg : Cs[j]? = some Cs[j] := List.getElem?_eq_getElem (by omega)
      have a := (h.2 j _ hg).1
      have b := ih (by omega) (by omega)
      rw [show 616 * lv + (j + 1) = 616 * lv + j + 1 by omega]
      omega
theorem lv_begin (h : LvA ST SB lv Cs) : LvA ST (up SB (616 * lv + Cs.length + 1) (SB (616 * lv + Cs.length))) lv (Cs ++ [[]]) := by
  refine ⟨by rw [up_ne _ _ (by omega)]; exact h.1, fun i c hc => ?_⟩
  by_cases e : i = Cs.length
  · subst e
    simp at hc
    subst hc
    rw [up_self, up_ne _ _ (by omega)]
    exact ⟨rfl, fun t p q => by cases q⟩
  · have hl : i < Cs.length := by
      have := (List.getElem?_eq_some_iff.mp hc).1
      simp at this
      omega
    rw [List.getElem?_append_left hl] at hc
    rw [up_ne _ _ (by omega), up_ne _ _ (by omega)]
    exact h.2 i c hc
theorem lv_add {c : List Nat} {p : Nat} (h : LvA ST SB lv (Cs ++ [c])) : LvA (up ST (17000 * lv + SB (616 * lv + Cs.length + 1)) p) (up SB (616 * lv + Cs.length + 1) (SB (616 * lv + Cs.length + 1) + 1)) lv (Cs ++ [c ++ [p]]) := by
  have hlast := h.2 Cs.length c (by simp)
  refine ⟨by rw [up_ne _ _ (by omega)]; exact h.1, fun i d hd => ?_⟩
  by_cases e : i = Cs.length
  · subst e
    simp at hd
    subst hd
    rw [up_self, up_ne SB _ (by omega)]
    refine ⟨by rw [hlast.1, List.length_append]; simp only [List.length_cons, List.length_nil]; omega, fun t q hq => ?_⟩
    by_cases z : t = c.length
    · subst z
      simp at hq
      subst hq
      rw [hlast.1, up_self]
    · have hl : t < c.length := by
        have := (List.getElem?_eq_some_iff.mp hq).1
        simp at this
        omega
      rw [List.getElem?_append_left hl] at hq
      rw [up_ne _ _ (by rw [hlast.1]; omega)]
      exact hlast.2 t q hq
  · have hl : i < Cs.length := by
      have := (List.getElem?_eq_some_iff.mp hd).1
      simp at this
      omega
    have hd2 : (Cs ++ [c])[i]? = some d := by
      rw [List.getElem?_append_left hl] at hd ⊢
      exact hd
    obtain ⟨a, b⟩ := h.2 i d hd2
    rw [up_ne SB _ (by omega), up_ne SB _ (by omega)]
    refine ⟨a, fun t q hq => ?_⟩
    have ht : t < d.length := (List.getElem?_eq_some_iff.mp hq).1
    have hm := lv_mono h (i := i + 1) (j := Cs.length) (by omega) (by simp)
    have hlt : SB (616 * lv + i) + t < SB (616 * lv + Cs.length + 1) := by
      rw [show 616 * lv + (i + 1) = 616 * lv + i + 1 by omega] at hm
      have := hlast.1
      omega
    rw [up_ne _ _ (by omega)]
    exact b t q hq
theorem lv_last {c : List Nat} (h : LvA ST SB lv (Cs ++ [c])) : SB (616 * lv + Cs.length + 1) = (((Cs ++ [c])).map List.length).sum := by
  have := lv_sum h (Cs.length + 1) (by simp)
  rw [show 616 * lv + (Cs.length + 1) = 616 * lv + Cs.length + 1 by omega] at this
  rw [this, List.take_of_length_le (by simp)]
theorem fr_begin (x : Nat) : LvF lv ST SB CH ST (up SB (616 * lv + Cs.length + 1) x) CH := ⟨fun _ _ => rfl, fun t q => up_ne _ _ (by omega), fun _ _ => rfl⟩
theorem fr_add {a p x : Nat} : LvF lv ST SB CH (up ST (17000 * lv + a) p) (up SB (616 * lv + Cs.length + 1) x) CH := ⟨fun t q => up_ne _ _ (by omega), fun t q => up_ne _ _ (by omega), fun _ _ => rfl⟩
theorem fr_end {x : Nat} : LvF lv ST SB CH ST SB (up CH lv x) := ⟨fun _ _ => rfl, fun _ _ => rfl, fun j q => up_ne _ _ (by omega)⟩
/-- a set's places, as the reference reads them -/
theorem lv_seg {i : Nat} {c : List Nat} (h : LvA ST SB lv Cs) (hc : Cs[i]? = some c) : segL ST (17000 * lv + SB (616 * lv + i)) (SB (616 * lv + i + 1) - SB (616 * lv + i)) = c := by
  obtain ⟨a, b⟩ := h.2 i c hc
  rw [a, Nat.add_sub_cancel_left]
  apply List.ext_getElem?
  intro t
  by_cases ht : t < c.length
  · rw [segL_get ht, List.getElem?_eq_getElem ht]
    have := b t _ (List.getElem?_eq_getElem ht)
    rw [show 17000 * lv + SB (616 * lv + i) + t = 17000 * lv + (SB (616 * lv + i) + t) by omega, this]
  · rw [List.getElem?_eq_none (by rw [segL_len]; omega), List.getElem?_eq_none (by omega)]
end LV
