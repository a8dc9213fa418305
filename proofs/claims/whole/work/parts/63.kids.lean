/-- rising lists with the same members -/
theorem rise_eq : ∀ {A B : List Nat}, A.Pairwise (· < ·) → B.Pairwise (· < ·) → (∀ x, x ∈ A ↔ x ∈ B) → A = B := by
  intro A
  induction A with
  | nil =>
    intro B _ _ h
    cases B with
    | nil => rfl
    | cons b B => exact absurd ((h b).mpr List.mem_cons_self) (by simp)
  | cons a A ih =>
    intro B ha hb h
    cases B with
    | nil => exact absurd ((h a).mp List.mem_cons_self) (by simp)
    | cons b B =>
      rw [List.pairwise_cons] at ha hb
      have e : a = b := by
        have h1 := (h a).mp List.mem_cons_self
        have h2 := (h b).mpr List.mem_cons_self
        rw [List.mem_cons] at h1 h2
        rcases h1 with h1 | h1
        · exact h1
        · rcases h2 with h2 | h2
          · exact h2.symm
          · have := hb.1 _ h1
            have := ha.1 _ h2
            omega
      subst e
      rw [ih ha.2 hb.2 fun x => ?_]
      refine ⟨fun q => ?_, fun q => ?_⟩
      · have := (h x).mp (List.mem_cons_of_mem _ q)
        rw [List.mem_cons] at this
        rcases this with w | w
        · have := ha.1 _ q
          omega
        · exact w
      · have := (h x).mpr (List.mem_cons_of_mem _ q)
        rw [List.mem_cons] at this
        rcases this with w | w
        · have := hb.1 _ q
          omega
        · exact w
theorem nI_mulE (a b : Nat) : nI a * nI b = nI (a * b) := pk_mul a b
/-- a square of a difference -/
theorem sq_d {a b : Nat} : (nI a - nI b) * (nI a - nI b) = nI ((a - b + (b - a)) * (a - b + (b - a))) := by
  rcases Nat.le_total b a with h | h
  · rw [pk_sub h, nI_mulE, show b - a = 0 by omega, Nat.add_zero]
  · have e : nI a - nI b = -(nI (b - a)) := by rw [← pk_sub h]; exact Int32.neg_sub.symm
    rw [e, Int32.neg_mul_neg, nI_mulE, show a - b = 0 by omega, Nat.zero_add]
theorem sq_1 {k m : Nat} (h : k * k + m * m = 1) : (k = 1 ∧ m = 0) ∨ (k = 0 ∧ m = 1) := by
  have a : k ≤ 1 := by
    rcases Nat.lt_or_ge 1 k with q | q
    · have := Nat.mul_le_mul q q
      omega
    · exact q
  have b : m ≤ 1 := by
    rcases Nat.lt_or_ge 1 m with q | q
    · have := Nat.mul_le_mul q q
      omega
    · exact q
  have hk : k = 0 ∨ k = 1 := by omega
  have hm : m = 0 ∨ m = 1 := by omega
  rcases hk with rfl | rfl <;> rcases hm with rfl | rfl
  · exact absurd h (by decide)
  · exact Or.inr ⟨rfl, rfl⟩
  · exact Or.inl ⟨rfl, rfl⟩
  · exact absurd h (by decide)
section KID
variable {uw uh p q : Nat} {L M : List Nat}
theorem bySd_iff (hw : 0 < uw) (hw1 : uw ≤ 16) (hh1 : uh ≤ 16) (hp : p < uw * uh) (hq : q < uw * uh) (h : p < q) : bySd uw p q = true ↔ ((p % uw + 1 < uw ∧ q = p + 1) ∨ q = p + uw) := by
  obtain ⟨a1, a2⟩ := plc hw1 hh1 hp
  obtain ⟨b1, b2⟩ := plc hw1 hh1 hq
  have a3 := Nat.mod_lt p hw
  have b3 := Nat.mod_lt q hw
  have a4 := Nat.div_add_mod p uw
  have b4 := Nat.div_add_mod q uw
  have hxy : ∀ x y : Nat, (p % uw + 1 < uw ∧ q = p + 1 → x = 1 ∧ y = 0) → True := fun _ _ _ => trivial
  rw [bySd, sq_d, sq_d, nI_add, decide_eq_true_iff]
  constructor
  · intro e
    have hb : (p % uw - q % uw + (q % uw - p % uw)) ≤ 15 := by omega
    have hc : (p / uw - q / uw + (q / uw - p / uw)) ≤ 15 := by
      generalize p / uw = y at *
      generalize q / uw = y2 at *
      omega
    have hb2 := Nat.mul_le_mul hb hb
    have hc2 := Nat.mul_le_mul hc hc
    have e2 := (nI_eq (by omega) (by decide)).mp e
    rcases sq_1 e2 with ⟨c1, c2⟩ | ⟨c1, c2⟩
    · have e3 : p / uw = q / uw := by
        generalize p / uw = y at *
        generalize q / uw = y2 at *
        omega
      rw [e3] at a4
      left
      omega
    · right
      rcases Nat.lt_or_ge (p / uw) (q / uw) with z | z
      · have e4 : q / uw = p / uw + 1 := by
          generalize p / uw = y at *
          generalize q / uw = y2 at *
          omega
        rw [e4, Nat.mul_succ] at b4
        omega
      · have e4 : p / uw = q / uw + 1 := by
          generalize p / uw = y at *
          generalize q / uw = y2 at *
          omega
        rw [e4, Nat.mul_succ] at a4
        omega
  · rintro (⟨h1, rfl⟩ | rfl)
    · have e1 : (p + 1) % uw = p % uw + 1 := by
        rw [Nat.add_mod, Nat.mod_eq_of_lt (show 1 < uw by omega), Nat.mod_eq_of_lt h1]
      have e2 : (p + 1) / uw = p / uw := by
        have b4' := Nat.div_add_mod (p + 1) uw
        rw [e1] at b4'
        have : uw * ((p + 1) / uw) = uw * (p / uw) := by omega
        exact Nat.eq_of_mul_eq_mul_left hw this
      rw [e1, e2]
      congr 1
      rw [Nat.sub_self, show p % uw - (p % uw + 1) + (p % uw + 1 - p % uw) = 1 by omega]
    · rw [Nat.add_mod_right, Nat.add_div_right _ hw, Nat.sub_self]
      congr 1
      rw [show p / uw - (p / uw).succ + ((p / uw).succ - p / uw) = 1 by rw [Nat.succ_eq_add_one]; generalize p / uw = y; omega]
theorem side_f (hw : 0 < uw) (hw1 : uw ≤ 16) (hh1 : uh ≤ 16) (hL : SetOK uw uh L) (hs : ∃ A, L = A ++ p :: M) : (M.filter (bySd uw p)).map (fun q => [p, q]) = sideP uw L p := by
  obtain ⟨A, rfl⟩ := hs
  obtain ⟨h1, h2⟩ := hL
  rw [List.pairwise_append, List.pairwise_cons] at h1
  obtain ⟨g1, ⟨g2, g3⟩, g4⟩ := h1
  have hp : p < uw * uh := h2 p (by simp)
  have hm : ∀ q, q ∈ M → q < uw * uh := fun q h => h2 q (by simp [h])
  have hx : ∀ x, p < x → (x ∈ A ++ p :: M ↔ x ∈ M) := by
    intro x hx
    simp only [List.mem_append, List.mem_cons]
    refine ⟨fun h => ?_, fun h => Or.inr (Or.inr h)⟩
    rcases h with h | h | h
    · have := g4 x h p (by simp)
      omega
    · omega
    · exact h
  have e : M.filter (bySd uw p) = (if p % uw + 1 < uw ∧ p + 1 ∈ M then [p + 1] else []) ++ (if p + uw ∈ M then [p + uw] else []) := by
    refine rise_eq (g3.filter _) ?_ fun x => ?_
    · by_cases c1 : p % uw + 1 < uw ∧ p + 1 ∈ M <;> by_cases c2 : p + uw ∈ M
      · rw [if_pos c1, if_pos c2]; simp; omega
      · rw [if_pos c1, if_neg c2]; simp
      · rw [if_neg c1, if_pos c2]; simp
      · rw [if_neg c1, if_neg c2]; simp
    · rw [List.mem_filter]
      constructor
      · rintro ⟨y1, y2⟩
        rcases (bySd_iff hw hw1 hh1 hp (hm x y1) (g2 x y1)).mp y2 with ⟨z1, rfl⟩ | rfl
        · rw [if_pos ⟨z1, y1⟩]; simp
        · rw [if_pos y1]; simp
      · intro h
        rw [List.mem_append] at h
        rcases h with h | h
        · by_cases c1 : p % uw + 1 < uw ∧ p + 1 ∈ M
          · rw [if_pos c1, List.mem_singleton] at h
            subst h
            exact ⟨c1.2, (bySd_iff hw hw1 hh1 hp (hm _ c1.2) (by omega)).mpr (Or.inl ⟨c1.1, rfl⟩)⟩
          · rw [if_neg c1] at h; cases h
        · by_cases c2 : p + uw ∈ M
          · rw [if_pos c2, List.mem_singleton] at h
            subst h
            exact ⟨c2, (bySd_iff hw hw1 hh1 hp (hm _ c2) (by omega)).mpr (Or.inr rfl)⟩
          · rw [if_neg c2] at h; cases h
  rw [e, sideP, List.map_append]
  simp only [hx (p + 1) (by omega), hx (p + uw) (by omega)]
  congr 1
  · split <;> rfl
  · split <;> rfl
/-- the reference's sides are the class's -/
theorem sides_eq (hw : 0 < uw) (hw1 : uw ≤ 16) (hh1 : uh ≤ 16) (hL : SetOK uw uh L) : sidesR uw L = L.flatMap (sideP uw L) := by
  have key : ∀ M, (∃ A, L = A ++ M) → sidesR uw M = M.flatMap (sideP uw L) := by
    intro M
    induction M with
    | nil => intro _; rfl
    | cons p M ih =>
      rintro ⟨A, e⟩
      rw [sidesR, side_f hw hw1 hh1 hL ⟨A, e⟩, ih ⟨A ++ [p], by rw [e]; simp⟩, List.flatMap_cons]
  exact key L ⟨[], rfl⟩
theorem side_len (p : Nat) : (sideP uw L p).length ≤ 2 := by
  rw [sideP, List.length_append]
  have h1 : (if p % uw + 1 < uw ∧ p + 1 ∈ L then [[p, p + 1]] else [] : List (List Nat)).length ≤ 1 := by split <;> simp
  have h2 : (if p + uw ∈ L then [[p, p + uw]] else [] : List (List Nat)).length ≤ 1 := by split <;> simp
  omega
theorem cor_len (p : Nat) : (corP uw L p).length ≤ 1 := by rw [corP]; split <;> simp
theorem fm_len {f : Nat → List (List Nat)} {c : Nat} (h : ∀ p, (f p).length ≤ c) : ∀ M : List Nat, (M.flatMap f).length ≤ c * M.length := by
  intro M
  induction M with
  | nil => simp
  | cons p M ih =>
    rw [List.flatMap_cons, List.length_append, List.length_cons, Nat.mul_succ]
    have := h p
    omega
/-- the parts of keys below m -/
def partG (key : Nat → Nat) (L : List Nat) (m : Nat) : List (List Nat) := ((List.range m).map fun k => L.filter fun p => key p == k).filter fun c => !c.isEmpty
theorem partG_s {key : Nat → Nat} {m : Nat} : partG key L (m + 1) = partG key L m ++ (if (L.filter fun p => key p == m).isEmpty then [] else [L.filter fun p => key p == m]) := by
  rw [partG, List.range_succ, List.map_append, List.filter_append, partG]
  congr 1
  simp only [List.map_cons, List.map_nil]
  cases h : (L.filter fun p => key p == m).isEmpty with
  | true => rw [List.filter_cons_of_neg (by rw [h]; decide)]; rfl
  | false => rw [List.filter_cons_of_pos (by rw [h]; rfl)]; rfl
theorem partG_len {key : Nat → Nat} {m : Nat} : (partG key L m).length ≤ m := by
  refine Nat.le_trans (List.length_filter_le _ _) ?_
  simp
theorem partG_up {key : Nat → Nat} {m d : Nat} (h : ∀ p ∈ L, key p < m) : partG key L (m + d) = partG key L m := by
  induction d with
  | zero => rfl
  | succ d ih =>
    rw [← Nat.add_assoc, partG_s, ih, if_pos, List.append_nil]
    rw [List.isEmpty_iff, List.filter_eq_nil_iff]
    intro p hp
    have := h p hp
    simp
    omega
theorem partG_sh {key key2 : Nat → Nat} {m : Nat} (h : ∀ p ∈ L, key2 p = key p + 1) : partG key2 L (m + 1) = partG key L m := by
  induction m with
  | zero =>
    rw [partG_s, if_pos]
    · rfl
    · rw [List.isEmpty_iff, List.filter_eq_nil_iff]
      intro p hp
      have := h p hp
      simp
      omega
  | succ m ih =>
    have e : (L.filter fun p => key2 p == m + 1) = L.filter fun p => key p == m := by
      refine List.filter_congr fun p hp => ?_
      rw [h p hp]
      simp
    rw [partG_s, ih, e, partG_s (key := key)]
theorem partG_cg {key key2 : Nat → Nat} {m : Nat} (h : ∀ p ∈ L, key2 p = key p) : partG key2 L m = partG key L m := by
  induction m with
  | zero => rfl
  | succ m ih =>
    have e : (L.filter fun p => key2 p == m) = L.filter fun p => key p == m := by
      refine List.filter_congr fun p hp => ?_
      rw [h p hp]
    rw [partG_s, ih, e, partG_s (key := key)]
theorem cnt_s {key : Nat → Nat} {m : Nat} : (L.filter fun p => decide (key p < m + 1)).length = (L.filter fun p => decide (key p < m)).length + (L.filter fun p => key p == m).length := by
  induction L with
  | nil => rfl
  | cons p L ih =>
    simp only [List.filter_cons]
    by_cases c : key p < m
    · rw [if_pos (by simp; omega), if_pos (by simpa using c), if_neg (by simp; omega)]
      simp only [List.length_cons]
      omega
    · by_cases c2 : key p = m
      · rw [if_pos (by simp; omega), if_neg (by simpa using c), if_pos (by simpa using c2)]
        simp only [List.length_cons]
        omega
      · rw [if_neg (by simp; omega), if_neg (by simpa using c), if_neg (by simpa using c2)]
        exact ih
theorem flt_take {f : Nat → Bool} {k : Nat} : ((L.take k).filter f).length ≤ (L.filter f).length := ((List.take_sublist k L).filter f).length_le
theorem grp_key {w a b : Nat} {f s : Option Nat} (hok : LyOK (w + 1, f, s)) (ha : a = f.getD 0) (hb : b = s.getD 0) (hw1 : uw ≤ 16) (hh1 : uh ≤ 16) (hwv : w = 1 ∨ w = 2 ∨ w = 3 ∨ w = 9 ∨ w = 10) (hp : p < uw * uh) (h0 : 0 < uw) : grpN uw w a b p = keyN uw (w + 1) f s p + (if w = 9 then 1 else 0) ∧ keyN uw (w + 1) f s p < 256 := by
  obtain ⟨a1, a2⟩ := plc hw1 hh1 hp
  have a3 := Nat.mod_lt p h0
  have hq : p / uw ≤ 15 := a2
  rcases hwv with rfl | rfl | rfl | rfl | rfl
  · exact ⟨rfl, by show p / uw < 256; omega⟩
  · exact ⟨rfl, by show p % uw < 256; omega⟩
  · obtain ⟨f0, s0, e1, e2, h1, h2, h3, h4⟩ := hok.2.1 rfl
    obtain rfl : f = some f0 := e1
    obtain rfl : s = some s0 := e2
    have ha : a = f0 := ha
    have hb : b = s0 := hb
    rw [ha, hb]
    have q1 : p / uw / s0 ≤ 15 := Nat.le_trans (Nat.div_le_self _ _) a2
    have q2 : p % uw / f0 ≤ 15 := Nat.le_trans (Nat.div_le_self _ _) (by omega)
    refine ⟨?_, ?_⟩
    · show 16 * (p / uw / s0) + p % uw / f0 = p / uw / s0 * 16 + p % uw / f0 + 0
      rw [Nat.mul_comm]
      rfl
    · show p / uw / s0 * 16 + p % uw / f0 < 256
      generalize p / uw / s0 = y at *
      generalize p % uw / f0 = x at *
      omega
  · refine ⟨?_, ?_⟩
    · show p % uw + 16 - p / uw = p % uw + 15 - p / uw + 1
      generalize p / uw = y at *
      omega
    · show p % uw + 15 - p / uw < 256
      generalize p / uw = y at *
      omega
  · refine ⟨rfl, ?_⟩
    show p % uw + p / uw < 256
    generalize p / uw = y at *
    omega
theorem parts_eq {w a b : Nat} {f s : Option Nat} (hok : LyOK (w + 1, f, s)) (ha : a = f.getD 0) (hb : b = s.getD 0) (h0 : 0 < uw) (hw1 : uw ≤ 16) (hh1 : uh ≤ 16) (hwv : w = 1 ∨ w = 2 ∨ w = 3 ∨ w = 9 ∨ w = 10) (hL : SetOK uw uh L) : partG (grpN uw w a b) L 272 = partL (keyN uw (w + 1) f s) L := by
  have hk : ∀ p ∈ L, keyN uw (w + 1) f s p < 256 := fun p hp => (grp_key hok ha hb hw1 hh1 hwv (hL.2 p hp) h0).2
  have hg : ∀ p ∈ L, grpN uw w a b p = keyN uw (w + 1) f s p + (if w = 9 then 1 else 0) := fun p hp => (grp_key hok ha hb hw1 hh1 hwv (hL.2 p hp) h0).1
  show _ = partG (keyN uw (w + 1) f s) L 256
  by_cases c : w = 9
  · rw [show 272 = 271 + 1 from rfl, partG_sh (key := keyN uw (w + 1) f s) (fun p hp => by rw [hg p hp, if_pos c])]
    exact partG_up (d := 15) hk
  · rw [partG_cg (key := keyN uw (w + 1) f s) (fun p hp => by rw [hg p hp, if_neg c]; rfl)]
    exact partG_up (d := 16) hk
theorem win_b {a b : Nat} (h : a + b ≤ 257) : a * b ≤ 16512 := by
  have h1 : a * b ≤ a * (257 - a) := Nat.mul_le_mul_left _ (by omega)
  have h2 : ∀ x, x < 258 → x * (257 - x) ≤ 16512 := by set_option maxRecDepth 10000 in decide
  exact Nat.le_trans h1 (h2 a (by omega))
end KID
