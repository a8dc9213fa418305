section MUN
theorem rise_len : ∀ (L : List Nat) (a n : Nat), L.Pairwise (· < ·) → (∀ p ∈ L, a ≤ p ∧ p < n) → L.length ≤ n - a := by
  intro L
  induction L with
  | nil => intro a n _ _; exact Nat.zero_le _
  | cons p M ih =>
    intro a n h1 h2
    rw [List.pairwise_cons] at h1
    have h3 := h2 p List.mem_cons_self
    have h4 := ih (p + 1) n h1.2 fun q hq => ⟨h1.1 q hq, (h2 q (List.mem_cons_of_mem _ hq)).2⟩
    rw [List.length_cons]
    omega
theorem set_len {uw uh : Nat} {L : List Nat} (h : SetOK uw uh L) : L.length ≤ uw * uh := rise_len L 0 _ h.1 fun p hp => ⟨Nat.zero_le _, h.2 p hp⟩
theorem sum_le {k : Nat} : ∀ Cs : List (List Nat), (∀ c ∈ Cs, c.length ≤ k) → (Cs.map List.length).sum ≤ k * Cs.length := by
  intro Cs
  induction Cs with
  | nil => intro _; exact Nat.zero_le _
  | cons c Cs ih =>
    intro h
    have h1 := h c List.mem_cons_self
    have h2 := ih fun d hd => h d (List.mem_cons_of_mem _ hd)
    rw [List.map_cons, List.sum_cons, List.length_cons, Nat.mul_succ]
    omega
/-- the sets of a level: in the grid, not too many, not too long -/
def KdOK (uw uh : Nat) (Cs : List (List Nat)) : Prop := (∀ c ∈ Cs, SetOK uw uh c) ∧ Cs.length ≤ 615 ∧ (Cs.map List.length).sum ≤ 17000
variable {uw uh : Nat} {L : List Nat}
theorem wins_kd {len : Nat} (h1 : 1 ≤ len) (hg : uw * uh ≤ 256) (h : SetOK uw uh L) : KdOK uw uh (wins len L) := by
  have hl := set_len h
  have hn : (wins len L).length = L.length + 1 - len := by simp [wins]
  refine ⟨fun c hc => ?_, by rw [hn]; omega, ?_⟩
  · simp only [wins, List.mem_map] at hc
    obtain ⟨i, _, rfl⟩ := hc
    exact h.sub ((List.take_sublist _ _).trans (List.drop_sublist _ _))
  · have := sum_le (k := len) (wins len L) fun c hc => by
      simp only [wins, List.mem_map] at hc
      obtain ⟨i, _, rfl⟩ := hc
      exact List.length_take_le _ _
    rw [hn] at this
    by_cases q : len ≤ L.length + 1
    · have h2 : len * (L.length + 1 - len) ≤ 16512 := win_b (by omega)
      omega
    · rw [show L.length + 1 - len = 0 by omega] at this
      omega
theorem side_kd (hw : 0 < uw) (hg : uw * uh ≤ 256) (h : SetOK uw uh L) : KdOK uw uh (L.flatMap (sideP uw L)) := by
  have hl := set_len h
  have hm : ∀ c ∈ L.flatMap (sideP uw L), ∃ p q, c = [p, q] ∧ p < q ∧ p ∈ L ∧ q ∈ L := by
    intro c hc
    rw [List.mem_flatMap] at hc
    obtain ⟨p, hp, hc⟩ := hc
    rw [sideP, List.mem_append] at hc
    rcases hc with hc | hc
    · split at hc
      · rename_i q
        rw [List.mem_singleton] at hc
        exact ⟨p, p + 1, hc, by omega, hp, q.2⟩
      · cases hc
    · split at hc
      · rename_i q
        rw [List.mem_singleton] at hc
        exact ⟨p, p + uw, hc, by omega, hp, q⟩
      · cases hc
  have hn := fm_len (side_len (uw := uw) (L := L)) L
  refine ⟨fun c hc => ?_, by omega, ?_⟩
  · obtain ⟨p, q, rfl, h1, h2, h3⟩ := hm c hc
    refine ⟨by simp [h1], fun x hx => ?_⟩
    simp only [List.mem_cons, List.not_mem_nil, or_false] at hx
    rcases hx with rfl | rfl
    · exact h.2 _ h2
    · exact h.2 _ h3
  · have := sum_le (k := 2) (L.flatMap (sideP uw L)) fun c hc => by
      obtain ⟨p, q, rfl, _⟩ := hm c hc
      exact Nat.le_refl 2
    omega
theorem cor_kd (hw : 0 < uw) (hg : uw * uh ≤ 256) (h : SetOK uw uh L) : KdOK uw uh (L.flatMap (corP uw L)) := by
  have hl := set_len h
  have hm : ∀ c ∈ L.flatMap (corP uw L), ∃ p, c = [p, p + 1, p + uw, p + uw + 1] ∧ p % uw + 1 < uw ∧ p + uw + 1 ∈ L := by
    intro c hc
    rw [List.mem_flatMap] at hc
    obtain ⟨p, hp, hc⟩ := hc
    rw [corP] at hc
    split at hc
    · rename_i q
      rw [List.mem_singleton] at hc
      exact ⟨p, hc, q.1, q.2.2.2⟩
    · cases hc
  have hn := fm_len (cor_len (uw := uw) (L := L)) L
  refine ⟨fun c hc => ?_, by omega, ?_⟩
  · obtain ⟨p, rfl, h1, h2⟩ := hm c hc
    exact cor_ok hw h1 (h.2 _ h2)
  · have := sum_le (k := 4) (L.flatMap (corP uw L)) fun c hc => by
      obtain ⟨p, rfl, _⟩ := hm c hc
      exact Nat.le_refl 4
    omega
theorem part_sum {key : Nat → Nat} : ∀ m, ((partG key L m).map List.length).sum = (L.filter fun p => decide (key p < m)).length := by
  intro m
  induction m with
  | zero => rw [cnt_0]; rfl
  | succ m ih =>
    rw [partG_s, cnt_s, List.map_append, List.sum_append, ih]
    congr 1
    cases e : L.filter fun p => key p == m with
    | nil => rfl
    | cons a b => simp
theorem part_kd {key : Nat → Nat} (hg : uw * uh ≤ 256) (h : SetOK uw uh L) : KdOK uw uh (partL key L) := by
  have hl := set_len h
  refine ⟨fun c hc => (partL_ok h c hc).1, Nat.le_trans (partG_len (m := 256)) (by decide), ?_⟩
  have h1 : ((partL key L).map List.length).sum = _ := part_sum 256
  have h2 : (L.filter fun p => decide (key p < 256)).length ≤ L.length := List.length_filter_le _ _
  omega
theorem kids_kd {l : LayerV} (hok : LyOK l) (hw : 0 < uw) (hg : uw * uh ≤ 256) (h : SetOK uw uh L) : KdOK uw uh (kids uw uh l L) := by
  rw [kids]
  split
  · exact wins_kd (Nat.le_refl 1) hg h
  split
  · exact wins_kd (by decide) hg h
  split
  · rename_i q
    obtain ⟨f0, e, h1, _⟩ := hok.2.2 q
    rw [e]
    exact wins_kd h1 hg h
  split
  · exact side_kd hw hg h
  split
  · exact cor_kd hw hg h
  split
  · have hl := set_len h
    have h2 : (L.filter (passB uw uh l.1)).length ≤ L.length := List.length_filter_le _ _
    refine ⟨fun c hc => ?_, by simp, ?_⟩
    · rw [List.mem_singleton] at hc
      subst hc
      exact h.sub List.filter_sublist
    · rw [List.map_singleton, List.sum_singleton]
      omega
  · exact part_kd hg h
/-- what is unrolled below sets that are made already -/
def wks (f : List Nat → Nat × List (List Nat)) (Cs : List (List Nat)) : Nat × List (List Nat) := ((Cs.map fun c => (f c).1).sum, Cs.flatMap fun c => (f c).2)
theorem unrs_wks {f : List Nat → Nat × List (List Nat)} : ∀ Cs : List (List Nat), unrs f Cs = (Cs.length + (wks f Cs).1, (wks f Cs).2) := by
  intro Cs
  induction Cs with
  | nil => rfl
  | cons c Cs ih =>
    simp only [unrs, wks, Prod.mk.injEq] at ih
    simp only [unrs, wks, List.map_cons, List.sum_cons, List.length_cons]
    rw [ih.1]
    simp only [Prod.mk.injEq, and_true]
    omega
/-- the turns that a set takes -/
def stp (uw uh : Nat) : List LayerV → List Nat → Nat
  | [], _ => 1
  | l :: lr, L => 2 + ((kids uw uh l L).map (stp uw uh lr)).sum
/-- what is left to unroll, m levels -/
def wkS (uw uh : Nat) (lr : List LayerV) (CS : Nat → List (List Nat)) (DN : Nat → Nat) : Nat → Nat × List (List Nat)
  | 0 => (0, [])
  | m + 1 => ((wks (unr uw uh (lr.drop m)) ((CS m).drop (DN m))).1 + (wkS uw uh lr CS DN m).1, (wks (unr uw uh (lr.drop m)) ((CS m).drop (DN m))).2 ++ (wkS uw uh lr CS DN m).2)
def stS (uw uh : Nat) (lr : List LayerV) (CS : Nat → List (List Nat)) (DN : Nat → Nat) : Nat → Nat
  | 0 => 0
  | m + 1 => (((CS m).drop (DN m)).map (stp uw uh (lr.drop m))).sum + 1 + stS uw uh lr CS DN m
variable {lr : List LayerV} {CS CS2 : Nat → List (List Nat)} {ST SB CH DN DN2 ST2 SB2 CH2 : Nat → Nat} {m lv d : Nat} {c : List Nat}
theorem wkS_cg (h : ∀ j, j < m → CS2 j = CS j ∧ DN2 j = DN j) : wkS uw uh lr CS2 DN2 m = wkS uw uh lr CS DN m := by
  induction m with
  | zero => rfl
  | succ m ih => rw [wkS, wkS, ih fun j q => h j (by omega), (h m (by omega)).1, (h m (by omega)).2]
theorem stS_cg (h : ∀ j, j < m → CS2 j = CS j ∧ DN2 j = DN j) : stS uw uh lr CS2 DN2 m = stS uw uh lr CS DN m := by
  induction m with
  | zero => rfl
  | succ m ih => rw [stS, stS, ih fun j q => h j (by omega), (h m (by omega)).1, (h m (by omega)).2]
/-- the levels below m hold these sets -/
def Lvs (uw uh : Nat) (ST SB CH DN : Nat → Nat) (CS : Nat → List (List Nat)) (m : Nat) : Prop := ∀ j, j < m → LvA ST SB j (CS j) ∧ CH j = (CS j).length ∧ DN j ≤ CH j ∧ KdOK uw uh (CS j)
theorem Lvs.le (h : Lvs uw uh ST SB CH DN CS m) (q : lv ≤ m) : Lvs uw uh ST SB CH DN CS lv := fun j z => h j (by omega)
/-- a level is done -/
theorem wk_pop (h : (CS lv).length ≤ DN lv) : wkS uw uh lr CS DN (lv + 1) = wkS uw uh lr CS DN lv ∧ stS uw uh lr CS DN (lv + 1) = 1 + stS uw uh lr CS DN lv := by
  have e : (CS lv).drop (DN lv) = [] := List.drop_of_length_le h
  refine ⟨?_, ?_⟩
  · rw [wkS, e]
    simp [wks]
  · rw [stS, e]
    simp
theorem ls_c (h : Lvs uw uh ST SB CH DN CS (lv + 1)) (q : DN lv ≠ CH lv) : ∃ c, (CS lv)[DN lv]? = some c := by
  have := h lv (by omega)
  exact ⟨_, List.getElem?_eq_getElem (by omega)⟩
theorem dr_c (h : (CS lv)[DN lv]? = some c) : (CS lv).drop (DN lv) = c :: (CS lv).drop (DN lv + 1) := by
  obtain ⟨a, b⟩ := List.getElem?_eq_some_iff.mp h
  rw [List.drop_eq_getElem_cons a, b]
/-- the innermost level -/
theorem wk_leaf (hc : (CS lv)[DN lv]? = some c) (hl : lv = lr.length) : (wkS uw uh lr CS DN (lv + 1)).1 = (wkS uw uh lr CS (up DN lv (DN lv + 1)) (lv + 1)).1 ∧ (wkS uw uh lr CS DN (lv + 1)).2 = (if c = [] then [] else [c]) ++ (wkS uw uh lr CS (up DN lv (DN lv + 1)) (lv + 1)).2 ∧ stS uw uh lr CS DN (lv + 1) = 1 + stS uw uh lr CS (up DN lv (DN lv + 1)) (lv + 1) := by
  have e : lr.drop lv = [] := List.drop_of_length_le (by omega)
  have w := wkS_cg (uw := uw) (uh := uh) (lr := lr) (m := lv) (CS := CS) (CS2 := CS) (DN := DN) (DN2 := up DN lv (DN lv + 1)) fun j q => ⟨rfl, up_ne _ _ (by omega)⟩
  have s := stS_cg (uw := uw) (uh := uh) (lr := lr) (m := lv) (CS := CS) (CS2 := CS) (DN := DN) (DN2 := up DN lv (DN lv + 1)) fun j q => ⟨rfl, up_ne _ _ (by omega)⟩
  refine ⟨?_, ?_, ?_⟩
  · rw [wkS, wkS, w, dr_c hc, up_self, e]
    simp [wks, unr]
  · rw [wkS, wkS, w, dr_c hc, up_self, e]
    simp [wks, unr]
  · rw [stS, stS, s, dr_c hc, up_self, e]
    simp only [List.map_cons, List.sum_cons, stp]
    omega
/-- a set is split -/
theorem wk_spl {l : LayerV} (hc : (CS lv)[DN lv]? = some c) (hl : lr[lv]? = some l) : (wkS uw uh lr CS DN (lv + 1)).1 = (kids uw uh l c).length + (wkS uw uh lr (up CS (lv + 1) (kids uw uh l c)) (up (up DN lv (DN lv + 1)) (lv + 1) 0) (lv + 1 + 1)).1 ∧ (wkS uw uh lr CS DN (lv + 1)).2 = (wkS uw uh lr (up CS (lv + 1) (kids uw uh l c)) (up (up DN lv (DN lv + 1)) (lv + 1) 0) (lv + 1 + 1)).2 ∧ stS uw uh lr CS DN (lv + 1) = 1 + stS uw uh lr (up CS (lv + 1) (kids uw uh l c)) (up (up DN lv (DN lv + 1)) (lv + 1) 0) (lv + 1 + 1) := by
  obtain ⟨a, b⟩ := List.getElem?_eq_some_iff.mp hl
  have e : lr.drop lv = l :: lr.drop (lv + 1) := by rw [List.drop_eq_getElem_cons a, b]
  have w := wkS_cg (uw := uw) (uh := uh) (lr := lr) (m := lv) (CS := CS) (CS2 := up CS (lv + 1) (kids uw uh l c)) (DN := DN) (DN2 := up (up DN lv (DN lv + 1)) (lv + 1) 0) fun j q => ⟨up_ne _ _ (by omega), by rw [up_ne _ _ (by omega), up_ne _ _ (by omega)]⟩
  have s := stS_cg (uw := uw) (uh := uh) (lr := lr) (m := lv) (CS := CS) (CS2 := up CS (lv + 1) (kids uw uh l c)) (DN := DN) (DN2 := up (up DN lv (DN lv + 1)) (lv + 1) 0) fun j q => ⟨up_ne _ _ (by omega), by rw [up_ne _ _ (by omega), up_ne _ _ (by omega)]⟩
  have hu : unr uw uh (lr.drop lv) c = ((kids uw uh l c).length + (wks (unr uw uh (lr.drop (lv + 1))) (kids uw uh l c)).1, (wks (unr uw uh (lr.drop (lv + 1))) (kids uw uh l c)).2) := by rw [e, unr, unrs_wks]
  have hs : stp uw uh (lr.drop lv) c = 2 + ((kids uw uh l c).map (stp uw uh (lr.drop (lv + 1)))).sum := by rw [e, stp]
  have u1 : up CS (lv + 1) (kids uw uh l c) lv = CS lv := up_ne _ _ (by omega)
  have u2 : up (up DN lv (DN lv + 1)) (lv + 1) 0 lv = DN lv + 1 := by rw [up_ne _ _ (by omega), up_self]
  refine ⟨?_, ?_, ?_⟩
  · rw [wkS, wkS, wkS, w, dr_c hc, up_self, up_self, List.drop_zero, u1, u2]
    simp only [wks, List.map_cons, List.sum_cons] at hu ⊢
    rw [hu]
    simp only
    omega
  · rw [wkS, wkS, wkS, w, dr_c hc, up_self, up_self, List.drop_zero, u1, u2]
    simp only [wks, List.flatMap_cons] at hu ⊢
    rw [hu]
    simp only [List.append_assoc]
  · rw [stS, stS, stS, s, dr_c hc, up_self, up_self, List.drop_zero, u1, u2, List.map_cons, List.sum_cons, hs]
    omega
theorem lv_fr {j : Nat} {Cs : List (List Nat)} (h : LvA ST SB j Cs) (hk : KdOK uw uh Cs) (hF : LvF lv ST SB CH ST2 SB2 CH2) (hj : j < lv) : LvA ST2 SB2 j Cs := by
  have h616 : 616 * (j + 1) ≤ 616 * lv := Nat.mul_le_mul_left _ hj
  have h17 : 17000 * (j + 1) ≤ 17000 * lv := Nat.mul_le_mul_left _ hj
  obtain ⟨_, k2, k3⟩ := hk
  refine ⟨by rw [hF.2.1 _ (by omega)]; exact h.1, fun i c hc => ?_⟩
  have hi := (List.getElem?_eq_some_iff.mp hc).1
  obtain ⟨a, b⟩ := h.2 i c hc
  rw [hF.2.1 _ (by omega), hF.2.1 _ (by omega)]
  refine ⟨a, fun t p ht => ?_⟩
  have ht2 := (List.getElem?_eq_some_iff.mp ht).1
  have h1 := lv_mono h (i := i + 1) (j := Cs.length) hi (Nat.le_refl _)
  have h2 := lv_sum h Cs.length (Nat.le_refl _)
  rw [List.take_of_length_le (Nat.le_refl _)] at h2
  rw [← Nat.add_assoc] at h1
  rw [hF.1 _ (by omega)]
  exact b t p ht
/-- the bounds of a set of a level -/
theorem ls_b (h : LvA ST SB lv (CS lv)) (hk : KdOK uw uh (CS lv)) (hg : uw * uh ≤ 256) (hc : (CS lv)[d]? = some c) : SB (616 * lv + d + 1) = SB (616 * lv + d) + c.length ∧ SB (616 * lv + d + 1) ≤ 17000 ∧ c.length ≤ 256 ∧ SetOK uw uh c ∧ segL ST (17000 * lv + SB (616 * lv + d)) (SB (616 * lv + d + 1) - SB (616 * lv + d)) = c ∧ d < 615 := by
  obtain ⟨k1, k2, k3⟩ := hk
  have hi := (List.getElem?_eq_some_iff.mp hc).1
  have h1 := lv_mono h (i := d + 1) (j := (CS lv).length) hi (Nat.le_refl _)
  have h2 := lv_sum h (CS lv).length (Nat.le_refl _)
  rw [List.take_of_length_le (Nat.le_refl _)] at h2
  rw [← Nat.add_assoc] at h1
  have hs := k1 c (List.mem_of_getElem? hc)
  have := set_len hs
  exact ⟨(h.2 d c hc).1, by omega, by omega, hs, lv_seg h hc, by omega⟩
theorem ls_spl {Cs : List (List Nat)} (h : Lvs uw uh ST SB CH DN CS (lv + 1)) (hq : DN lv ≠ CH lv) (hk : KdOK uw uh Cs) (hC : LvC ST2 SB2 CH2 (lv + 1) Cs) (hF : LvF (lv + 1) ST SB CH ST2 SB2 CH2) : Lvs uw uh ST2 SB2 CH2 (up (up DN lv (DN lv + 1)) (lv + 1) 0) (up CS (lv + 1) Cs) (lv + 1 + 1) := by
  intro j hj
  by_cases e : j = lv + 1
  · subst e
    rw [up_self, up_self]
    exact ⟨hC.1, hC.2, Nat.zero_le _, hk⟩
  · rw [up_ne _ _ e, up_ne _ _ e]
    obtain ⟨a1, a2, a3, a4⟩ := h j (by omega)
    have e2 := hF.2.2 j (by omega)
    refine ⟨lv_fr a1 a4 hF (by omega), by rw [e2, a2], ?_, a4⟩
    rw [e2]
    by_cases z : j = lv
    · subst z
      rw [up_self]
      omega
    · rw [up_ne _ _ z]
      exact a3
theorem ls_leaf (h : Lvs uw uh ST SB CH DN CS (lv + 1)) (hq : DN lv ≠ CH lv) : Lvs uw uh ST SB CH (up DN lv (DN lv + 1)) CS (lv + 1) := by
  intro j hj
  obtain ⟨a1, a2, a3, a4⟩ := h j (by omega)
  refine ⟨a1, a2, ?_, a4⟩
  by_cases z : j = lv
  · subst z
    rw [up_self]
    omega
  · rw [up_ne _ _ z]
    exact a3
/-- the reference's arrays hold the rows -/
def MAt (RR RB PL : Nat → Nat) (rw_ : Nat) (R : Rows) : Prop := StAt RR RB PL (fun t => (flat R).contains t) rw_ (flat R).length R ∧ RB rw_ = (flat R).length
theorem mat_row {RR RB PL PL2 : Nat → Nat} {rw_ fr z ri : Nat} {R : Rows} (h : MAt RR RB PL rw_ R) (hl : ∀ t, PL2 t = if (flat R).length ≤ t ∧ t < (flat R).length + z then ST (fr + (t - (flat R).length)) else PL t) : MAt (up RR rw_ ri) (up RB (rw_ + 1) ((flat R).length + z)) PL2 (rw_ + 1) (R ++ [(ri, segL ST fr z)]) := by
  obtain ⟨h1, h2⟩ := h
  have e : up RB rw_ (flat R).length = RB := funext fun t => by
    by_cases q : t = rw_
    · subst q; rw [up_self, h2]
    · rw [up_ne _ _ q]
  have a := st_row (ri := ri) h1 hl (TO2 := fun t => ((flat R).contains t || (List.range z).any (fun a => ST (fr + a) == t))) fun t => rfl
  rw [e] at a
  have hf : (flat (R ++ [(ri, segL ST fr z)])).length = (flat R).length + z := by rw [flat_app, List.length_append]; simp [flat, segL_len]
  obtain ⟨b1, b2, b3, b4, b5⟩ := a
  exact ⟨⟨b1, rfl, b3, b4, fun t _ => rfl⟩, by rw [up_self, hf]⟩
theorem mat_0 {RR RB PL : Nat → Nat} : MAt RR (up RB 0 0) PL 0 [] := by
  refine ⟨⟨rfl, rfl, fun k r e => ?_, fun t p e => ?_, fun t _ => rfl⟩, up_self _ _ _⟩
  · simp at e
  · simp [flat] at e
/-- what the reference comes to -/
def MoA (a : Acc) (ok : Bool) (md rw_ : Nat) (RR RB PL : Nat → Nat) : Prop := match a with
  | none => ok = false
  | some (k, R) => ok = true ∧ md = k ∧ inLim k R ∧ MAt RR RB PL rw_ R
theorem tag_cons {ri : Nat} {c : List Nat} {W : List (List Nat)} : tag ri (c :: W) = (ri, c) :: tag ri W := rfl
theorem lim_no {ri md : Nat} {R R2 S : Rows} {p : Nat × List (List Nat)} {k : Nat} (h1 : k ≤ md + p.1) (h2 : R2 ++ S = R ++ tag ri p.2) (hn : ¬ inLim k R2) : lim ri p (some (md, R)) = none := by
  refine if_neg fun q => hn ?_
  rw [← h2, show md + p.1 = k + (md + p.1 - k) by omega] at q
  exact inLim_mono q
theorem lim_yes {ri md : Nat} {R R2 : Rows} {p : Nat × List (List Nat)} {k : Nat} (h1 : k = md + p.1) (h2 : R2 = R ++ tag ri p.2) (hn : inLim k R2) : lim ri p (some (md, R)) = some (k, R2) := by
  subst h1 h2
  exact if_pos hn
theorem le_m {le : Int32} {m : Nat} (h : le = nI m - nI 1) (hm : m ≤ 41) (hl : le < 0) : m = 0 := by
  cases m with
  | zero => rfl
  | succ m =>
    rw [nI_1p] at h
    rw [h] at hl
    exact absurd hl (nI_pos (by omega))
theorem le_lv {lv m : Nat} (h : nI lv = nI m - nI 1) (hm : m ≤ 41) (hl : lv < 2 ^ 31) : m = lv + 1 := by
  cases m with
  | zero =>
    rw [nI_0z] at h
    exact absurd h (nI_nm1 hl)
  | succ m =>
    rw [nI_1p] at h
    rw [(nI_eq hl (by omega)).mp h]
theorem st_0 {l0 : List Nat} (h1 : CS 0 = [l0]) (h2 : DN 0 = 0) : stS uw uh lr CS DN 1 = stp uw uh lr l0 + 1 ∧ wkS uw uh lr CS DN 1 = unr uw uh lr l0 := by
  refine ⟨?_, ?_⟩
  · rw [stS, stS, h1, h2]
    simp
  · rw [wkS, wkS, h1, h2]
    simp [wks]
theorem ls_0 {STc : Nat → Nat} (hg : uw * uh ≤ 256) (h : ∀ t, t < uw * uh → STc t = t) : Lvs uw uh STc (up (up SB 0 0) 1 (uw * uh)) (up CH 0 1) (up DN 0 0) (fun _ => [List.range (uw * uh)]) 1 := by
  intro j hj
  obtain rfl : j = 0 := by omega
  refine ⟨⟨by rw [up_ne _ _ (by decide)]; exact up_self _ _ _, fun i c hc => ?_⟩, up_self _ _ _, by rw [up_self]; exact Nat.zero_le _, fun c hc => ?_, (by show 1 ≤ 615; decide), by simp; omega⟩
  · cases i with
    | zero =>
      obtain rfl : List.range (uw * uh) = c := by simpa using hc
      refine ⟨by show up (up SB 0 0) 1 (uw * uh) 1 = up (up SB 0 0) 1 (uw * uh) 0 + _; rw [up_self, up_ne _ _ (by decide), up_self, List.length_range, Nat.zero_add], fun t p ht => ?_⟩
      rw [List.getElem?_eq_some_iff] at ht
      obtain ⟨q1, q2⟩ := ht
      rw [List.getElem_range] at q2
      rw [List.length_range] at q1
      show STc (0 + (up (up SB 0 0) 1 (uw * uh) 0 + t)) = p
      rw [up_ne _ _ (by decide), up_self, Nat.zero_add, Nat.zero_add, h t q1, q2]
    | succ i => simp at hc
  · rw [List.mem_singleton] at hc
    subst hc
    exact set_rng
end MUN
