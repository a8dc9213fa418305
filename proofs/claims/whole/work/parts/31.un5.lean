def LayF (g : GG) (PP : va_W) (LA : Nat → Option Nat) (lev : Nat) (lr : List LayerV) : Prop := ∀ (i : Nat) (l : LayerV), lr[i]? = some l → LayAt g PP (LA (lev + i)) l
/-- what the parser makes of a layer -/
def LyOK (l : LayerV) : Prop := (2 ≤ l.1 ∧ l.1 ≤ 15) ∧ (l.1 = 4 → ∃ f0 s0, l.2.1 = some f0 ∧ l.2.2 = some s0 ∧ 0 < f0 ∧ 0 < s0 ∧ f0 ≤ 16 ∧ s0 ≤ 16) ∧ (l.1 = 7 → ∃ f0, l.2.1 = some f0 ∧ 0 < f0 ∧ f0 ≤ 256)
theorem lv_up {t v : Nat} (h : t < (v + 1) * 256) : t < (v + 1 + 1) * 256 := Nat.lt_of_lt_of_le h (Nat.mul_le_mul_right 256 (Nat.le_succ _))
theorem seg_fr {S T : Nat → Nat} {B a m : Nat} (h : ∀ t, t < B → S t = T t) (hb : a + m ≤ B) : segL S a m = segL T a m := segL_congr fun i hi => h _ (by omega)
theorem seg_go {SS : Nat → Nat} {j z i : Nat} (h1 : j ≤ i) (h2 : i < j + z) : (segL SS j z).drop (i - j) = SS i :: (segL SS j z).drop (i + 1 - j) := by
  rw [segL_drop (by omega), segL_drop (by omega), show z - (i - j) = (z - (i + 1 - j)) + 1 by omega, segL_cons, show j + (i - j) = i by omega, show j + (i + 1 - j) = i + 1 by omega]
theorem hldm {SS SX : Nat → Nat} {B j z i c : Nat} (hF : ∀ t, t < B → SX t = SS t) (hb : j + z ≤ B) (hs : (segL SS j z).Pairwise (· < ·)) (h1 : j ≤ i) (h2 : i < j + z) (hc : SS i < c) : hld SX i (j + z) c = decide (c ∈ segL SS j z) := by
  have e := seg_fr hF hb
  rw [← e]
  exact hld_mem (by rw [e]; exact hs) h1 h2 (by rw [hF _ (by omega)]; exact hc)
theorem seg2 {SS : Nat → Nat} {R c e : Nat} : segL (up (up SS R c) (R + 1) e) R 2 = [c, e] := by simp [segL, List.range_succ, up]
theorem seg4 {SS : Nat → Nat} {R a b c d : Nat} : segL (up (up (up (up SS R a) (R + 1) b) (R + 2) c) (R + 3) d) R 4 = [a, b, c, d] := by simp [segL, List.range_succ, up]
section SIDE
variable {uw p : Nat} {L : List Nat}
theorem side_tt (h1 : p % uw + 1 < uw ∧ p + 1 ∈ L) (h2 : p + uw ∈ L) : sideP uw L p = [[p, p + 1], [p, p + uw]] := by rw [sideP, if_pos h1, if_pos h2]; rfl
theorem side_tf (h1 : p % uw + 1 < uw ∧ p + 1 ∈ L) (h2 : ¬ p + uw ∈ L) : sideP uw L p = [[p, p + 1]] := by rw [sideP, if_pos h1, if_neg h2]; rfl
theorem side_ft (h1 : ¬ (p % uw + 1 < uw ∧ p + 1 ∈ L)) (h2 : p + uw ∈ L) : sideP uw L p = [[p, p + uw]] := by rw [sideP, if_neg h1, if_pos h2]; rfl
theorem side_ff (h1 : ¬ (p % uw + 1 < uw ∧ p + 1 ∈ L)) (h2 : ¬ p + uw ∈ L) : sideP uw L p = [] := by rw [sideP, if_neg h1, if_neg h2]; rfl
end SIDE
/-- pieces of one key -/
def chunks (key : Nat → Nat) : List Nat → List (List Nat)
  | [] => []
  | p :: M => match chunks key M with
    | [] => [[p]]
    | c :: cs => if key p = key (c.headD 0) then (p :: c) :: cs else [p] :: c :: cs
section CHU
variable {key : Nat → Nat}
theorem chunks_head (p : Nat) (M : List Nat) : ∃ c cs, chunks key (p :: M) = (p :: c) :: cs := by
  rw [chunks]
  split
  · exact ⟨[], [], rfl⟩
  · split
    · exact ⟨_, _, rfl⟩
    · exact ⟨_, _, rfl⟩
theorem chunks_step {k : Nat} : ∀ (A B : List Nat), A ≠ [] → (∀ p ∈ A, key p = k) → (∀ q, B.head? = some q → key q ≠ k) → chunks key (A ++ B) = A :: chunks key B := by
  intro A
  induction A with
  | nil => intro B h; exact absurd rfl h
  | cons p A ih =>
    intro B _ h1 h2
    cases A with
    | nil =>
      cases B with
      | nil => rfl
      | cons q B =>
        obtain ⟨c, cs, e⟩ := chunks_head (key := key) q B
        show chunks key (p :: q :: B) = _
        rw [chunks, e]
        have a := h1 p (by simp)
        have b := h2 q rfl
        exact if_neg fun z => b (z.symm.trans a)
    | cons p2 A =>
      have := ih B (by simp) (fun x hx => h1 x (List.mem_cons_of_mem _ hx)) h2
      show chunks key (p :: (p2 :: A ++ B)) = _
      rw [chunks, this]
      exact if_pos ((h1 p (by simp)).trans (h1 p2 (by simp)).symm)
theorem chunks_grp (L : List Nat) : ∀ ks : List Nat, ks.Nodup → chunks key (ks.flatMap fun k => L.filter fun p => key p == k) = (ks.map fun k => L.filter fun p => key p == k).filter fun c => !c.isEmpty := by
  intro ks
  induction ks with
  | nil => intro _; rfl
  | cons k ks ih =>
    intro h
    rw [List.nodup_cons] at h
    rw [List.flatMap_cons, List.map_cons]
    by_cases e : (L.filter fun p => key p == k) = []
    · rw [e, List.nil_append, ih h.2, List.filter_cons_of_neg (by simp)]
    · rw [chunks_step (k := k) _ _ e (fun p hp => by simpa using (List.mem_filter.mp hp).2) (fun q hq => ?_), ih h.2, List.filter_cons_of_pos (by simpa using e)]
      have hq2 := List.mem_of_mem_head? hq
      obtain ⟨k2, q1, q2⟩ := List.mem_flatMap.mp hq2
      have q3 : key q = k2 := by simpa using (List.mem_filter.mp q2).2
      rw [q3]
      rintro rfl
      exact h.1 q1
theorem chunks_srt (L : List Nat) : chunks key (grp key L 256) = partL key L := chunks_grp L _ List.nodup_range
theorem partL_ok {uw uh : Nat} {L : List Nat} (h : SetOK uw uh L) : ∀ c ∈ partL key L, SetOK uw uh c ∧ c.length ≤ L.length := by
  intro c hc
  obtain ⟨k, _, rfl⟩ := List.mem_map.mp (List.mem_filter.mp hc).1
  exact ⟨h.sub List.filter_sublist, List.length_filter_le _ _⟩
theorem grp_mem {L : List Nat} {m p : Nat} (h : p ∈ grp key L m) : p ∈ L := by
  obtain ⟨k, _, q⟩ := List.mem_flatMap.mp h
  exact (List.mem_filter.mp q).1
theorem chunk_go {SV : Nat → Nat} {b i e : Nat} (h1 : b < i) (h2 : i ≤ e) (hs : ∀ t, b ≤ t → t < i → key (SV t) = key (SV b)) (hn : i = e ∨ key (SV i) ≠ key (SV b)) : chunks key (segL SV b (e - b)) = segL SV b (i - b) :: chunks key (segL SV i (e - i)) := by
  rw [show e - b = (i - b) + (e - i) by omega, segL_app, show b + (i - b) = i by omega]
  refine chunks_step (k := key (SV b)) _ _ (fun z => by have := congrArg List.length z; rw [segL_len] at this; simp at this; omega) (fun p hp => ?_) (fun q hq => ?_)
  · obtain ⟨a, h3, rfl⟩ := segL_mem.mp hp
    exact hs _ (by omega) (by omega)
  · rcases hn with rfl | hn
    · rw [Nat.sub_self] at hq; cases hq
    · by_cases z : e - i = 0
      · rw [z] at hq; cases hq
      · obtain ⟨m, hm⟩ : ∃ m, e - i = m + 1 := ⟨e - i - 1, by omega⟩
        rw [hm, segL_cons] at hq
        cases hq
        exact hn
end CHU
theorem u_over {a : Acc} {tm : Bool} {mi : Int32} {RU SA PL : Nat → Nat} {TO : Nat → Bool} {rc pn ri : Nat} {f : List Nat → Nat × List (List Nat)} {c : List Nat} (h : UAt a tm mi RU SA PL TO rc pn) (hc : ¬ mi + nI 1 ≤ nI 6000) : UAt (lim ri (one f c) a) true (mi + nI 1) RU SA PL TO rc pn := by
  cases a with
  | none => rfl
  | some x =>
    obtain ⟨md, R⟩ := x
    have e := h.2.1
    have hl := h.2.2.1.1
    rw [lim_over]
    · rfl
    · intro q
      refine hc ?_
      rw [e, nI_add]
      exact (nI_leI (by omega) (by decide)).mpr q
theorem cor_ok {uw uh p : Nat} (hw : 0 < uw) (h1 : p % uw + 1 < uw) (h : p + uw + 1 < uw * uh) : SetOK uw uh [p, p + 1, p + uw, p + uw + 1] := by
  have : 1 < uw := by omega
  refine ⟨by simp; omega, fun q hq => ?_⟩
  simp at hq
  omega

