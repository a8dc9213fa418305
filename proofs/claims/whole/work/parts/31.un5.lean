def LayF (g : GG) (PP : va_W) (LA : Nat → Option Nat) (lev : Nat) (lr : List LayerV) : Prop := ∀ (i : Nat) (l : LayerV), lr[i]? = some l → LayAt g PP (LA (lev + i)) l
/-- what the parser makes of a layer -/
def LyOK (l : LayerV) : Prop := (2 ≤ l.1 ∧ l.1 ≤ 15) ∧ (l.1 = 4 → ∃ f0 s0, l.2.1 = some f0 ∧ l.2.2 = some s0 ∧ 0 < f0 ∧ 0 < s0 ∧ f0 ≤ 16 ∧ s0 ≤ 16) ∧ (l.1 = 7 → ∃ f0, l.2.1 = some f0 ∧ 0 < f0 ∧ f0 ≤ 256)
theorem seg_fr {S T : Nat → Nat} {B a m : Nat} (h : ∀ t, t < B → S t = T t) (hb : a + m ≤ B) : segL S a m = segL T a m := segL_congr fun i hi => h _ (by omega)
theorem seg_go {SS : Nat → Nat} {j z i : Nat} (h1 : j ≤ i) (h2 : i < j + z) : (segL SS j z).drop (i - j) = SS i :: (segL SS j z).drop (i + 1 - j) := by
  rw [segL_drop (by omega), segL_drop (by omega), show z - (i - j) = (z - (i + 1 - j)) + 1 by omega, segL_cons, show j + (i - j) = i by omega, show j + (i + 1 - j) = i + 1 by omega]
theorem hldm {SS SX : Nat → Nat} {B j z i c : Nat} (hF : ∀ t, t < B → SX t = SS t) (hb : j + z ≤ B) (hs : (segL SS j z).Pairwise (· < ·)) (h1 : j ≤ i) (h2 : i < j + z) (hc : SS i < c) : hld SX i (j + z) c = decide (c ∈ segL SS j z) := by
  have e := seg_fr hF hb
  rw [← e]
  exact hld_mem (by rw [e]; exact hs) h1 h2 (by rw [hF _ (by omega)]; exact hc)
theorem seg2 {SS : Nat → Nat} {R c e : Nat} : segL (up (up SS R c) (R + 1) e) R 2 = [c, e] := by simp [segL, List.range_succ, up]
theorem seg4 {SS : Nat → Nat} {R a b c d : Nat} : segL (up (up (up (up SS R a) (R + 1) b) (R + 2) c) (R + 3) d) R 4 = [a, b, c, d] := by simp [segL, List.range_succ, up]
section SIDE
variable {uw p : Nat} {L : List Nat}
theorem side_tt (h1 : p % uw + 1 < uw ∧ p + 1 ∈ L) (h2 : p + uw ∈ L) : sideP uw L p = [[p, p + 1], [p, p + uw]] := by rw [sideP, if_pos h1, if_pos h2]; rfl
theorem side_tf (h1 : p % uw + 1 < uw ∧ p + 1 ∈ L) (h2 : ¬ p + uw ∈ L) : sideP uw L p = [[p, p + 1]] := by rw [sideP, if_pos h1, if_neg h2]; rfl
theorem side_ft (h1 : ¬ (p % uw + 1 < uw ∧ p + 1 ∈ L)) (h2 : p + uw ∈ L) : sideP uw L p = [[p, p + uw]] := by rw [sideP, if_neg h1, if_pos h2]; rfl
theorem side_ff (h1 : ¬ (p % uw + 1 < uw ∧ p + 1 ∈ L)) (h2 : ¬ p + uw ∈ L) : sideP uw L p = [] := by rw [sideP, if_neg h1, if_neg h2]; rfl
end SIDE
/-- pieces of one key -/
def chunks (key : Nat → Nat) : List Nat → List (List Nat)
  | [] => []
  | p :: M => match chunks key M with
    | [] => [[p]]
    | c :: cs => if key p = key (c.headD 0) then (p :: c) :: cs else [p] :: c :: cs
section CHU
variable {key : Nat → Nat}
theorem chunks_head (p : Nat) (M : List Nat) : ∃ c cs, chunks key (p :: M) = (p :: c) :: cs := by
  rw [chunks]
  split
  · exact ⟨[], [], rfl⟩
  · split
    · exact ⟨_, _, rfl⟩
    · exact ⟨_, _, rfl⟩
theorem chunks_step {k : Nat} : ∀ (A B : List Nat), A ≠ [] → (∀ p ∈ A, key p = k) → (∀ q, B.head? = some q → key q ≠ k) → chunks key (A ++ B) = A :: chunks key B := by
  intro A
  induction A with
  | nil => intro B h; exact absurd rfl h
  | cons p A ih =>
    intro B _ h1 h2
    cases A with
    | nil =>
      cases B with
      | nil => rfl
      | cons q B =>
        obtain ⟨c, cs, e⟩ := chunks_head (key := key) q B
        show chunks key (p :: q :: B) = _
        rw [chunks, e]
        have a := h1 p (by simp)
        have b := h2 q rfl
        simp only [List.headD_cons]
        rw [if_neg (by rw [a]; exact fun z => b z.symm)]
    | cons p2 A =>
      have := ih B (by simp) (fun x hx => h1 x (List.mem_cons_of_mem _ hx)) h2
      show chunks key (p :: (p2 :: A ++ B)) = _
      rw [chunks, this]
      simp only [List.headD_cons]
      rw [if_pos (by rw [h1 p (by simp), h1 p2 (by simp)])]
theorem chunks_grp (L : List Nat) : ∀ ks : List Nat, ks.Nodup → chunks key (ks.flatMap fun k => L.filter fun p => key p == k) = (ks.map fun k => L.filter fun p => key p == k).filter fun c => !c.isEmpty := by
  intro ks
  induction ks with
  | nil => intro _; rfl
  | cons k ks ih =>
    intro h
    rw [List.nodup_cons] at h
    rw [List.flatMap_cons, List.map_cons]
    by_cases e : (L.filter fun p => key p == k) = []
    · rw [e, List.nil_append, ih h.2, List.filter_cons_of_neg (by simp)]
    · rw [chunks_step (k := k) _ _ e (fun p hp => by simpa using (List.mem_filter.mp hp).2) (fun q hq => ?_), ih h.2, List.filter_cons_of_pos (by simpa using e)]
      have hq2 := List.mem_of_mem_head? hq
      obtain ⟨k2, q1, q2⟩ := List.mem_flatMap.mp hq2
      have q3 : key q = k2 := by simpa using (List.mem_filter.mp q2).2
      rw [q3]
      rintro rfl
      exact h.1 q1
theorem chunks_srt (L : List Nat) : chunks key (grp key L 256) = partL key L := chunks_grp L _ List.nodup_range
theorem partL_ok {uw uh : Nat} {L : List Nat} (h : SetOK uw uh L) : ∀ c ∈ partL key L, SetOK uw uh c ∧ c.length ≤ L.length := by
  intro c hc
  obtain ⟨k, _, rfl⟩ := List.mem_map.mp (List.mem_filter.mp hc).1
  exact ⟨h.sub List.filter_sublist, List.length_filter_le _ _⟩
theorem grp_mem {L : List Nat} {m p : Nat} (h : p ∈ grp key L m) : p ∈ L := by
  obtain ⟨k, _, q⟩ := List.mem_flatMap.mp h
  exact (List.mem_filter.mp q).1
theorem chunk_go {SV : Nat → Nat} {b i e : Nat} (h1 : b < i) (h2 : i ≤ e) (hs : ∀ t, b ≤ t → t < i → key (SV t) = key (SV b)) (hn : i = e ∨ key (SV i) ≠ key (SV b)) : chunks key (segL SV b (e - b)) = segL SV b (i - b) :: chunks key (segL SV i (e - i)) := by
  rw [show e - b = (i - b) + (e - i) by omega, segL_app, show b + (i - b) = i by omega]
  refine chunks_step (k := key (SV b)) _ _ (fun z => by have := congrArg List.length z; rw [segL_len] at this; simp at this; omega) (fun p hp => ?_) (fun q hq => ?_)
  · obtain ⟨a, h3, rfl⟩ := segL_mem.mp hp
    exact hs _ (by omega) (by omega)
  · rcases hn with rfl | hn
    · rw [Nat.sub_self] at hq; cases hq
    · by_cases z : e - i = 0
      · rw [z] at hq; cases hq
      · obtain ⟨m, hm⟩ : ∃ m, e - i = m + 1 := ⟨e - i - 1, by omega⟩
        rw [hm, segL_cons] at hq
        cases hq
        exact hn
end CHU
theorem u_over {a : Acc} {tm : Bool} {mi : Int32} {RU SA PL : Nat → Nat} {TO : Nat → Bool} {rc pn ri : Nat} {f : List Nat → Nat × List (List Nat)} {c : List Nat} (h : UAt a tm mi RU SA PL TO rc pn) (hc : ¬ mi + nI 1 ≤ nI 6000) : UAt (lim ri (one f c) a) true (mi + nI 1) RU SA PL TO rc pn := by
  cases a with
  | none => rfl
  | some x =>
    obtain ⟨md, R⟩ := x
    have e := h.2.1
    have hl := h.2.2.1.1
    rw [lim_over]
    · rfl
    · intro q
      refine hc ?_
      rw [e, ← nI_add]
      exact (nI_leI (by omega) (by decide)).mpr q
theorem cor_ok {uw uh p : Nat} (hw : 0 < uw) (h1 : p % uw + 1 < uw) (h : p + uw + 1 < uw * uh) : SetOK uw uh [p, p + 1, p + uw, p + uw + 1] := by
  have : 1 < uw := by omega
  refine ⟨by simp; omega, fun q hq => ?_⟩
  simp at hq
  omega

set_option maxRecDepth 100000 in
theorem fi_Unroller_35 : FI R_Unroller 35 R_Unroller F_Unroller 8 := Or.inl (gw (i := 247) rfl rfl)
set_option maxRecDepth 100000 in
theorem lk_Unroller_143 : LK R_Unroller 143 y_Unroller_makeSet := Or.inl (gw (i := 737) rfl rfl)
set_option maxRecDepth 100000 in
theorem lk_Unroller_157 : LK R_Unroller 157 y_Unroller_roomBehind := Or.inl (gw (i := 761) rfl rfl)
set_option maxRecDepth 100000 in
theorem lk_Unroller_74 : LK R_Unroller 74 y_Unroller_descend := Or.inl (gw (i := 705) rfl rfl)
set_option maxRecDepth 100000 in
theorem mw_Unroller_descend : MW y_Unroller_descend b_Unroller_descend 6 none 3 := ⟨(gw (i := 708) rfl rfl), (gw (i := 79) rfl rfl), by decide +kernel⟩
set_option maxRecDepth 100000 in
theorem mw_Unroller_makeSet : MW y_Unroller_makeSet b_Unroller_makeSet 4 none 3 := ⟨(gw (i := 740) rfl rfl), (gw (i := 79) rfl rfl), by decide +kernel⟩
set_option maxRecDepth 100000 in
theorem mw_Unroller_roomBehind : MW y_Unroller_roomBehind b_Unroller_roomBehind 1 (some .int) 1 := ⟨(gw (i := 763) rfl rfl), (gw (i := 79) rfl rfl), by decide +kernel⟩
set_option maxRecDepth 100000 in
theorem st_Unroller_roomBehind : Cond.static y_Unroller_roomBehind ∈ GW := (gw (i := 762) rfl rfl)
set_option maxRecDepth 100000 in
theorem vw_Unroller_descend : VW y_Unroller_descend := ⟨(gw (i := 707) rfl rfl), (gw (i := 19) rfl rfl)⟩
set_option maxRecDepth 100000 in
theorem vw_Unroller_makeSet : VW y_Unroller_makeSet := ⟨(gw (i := 739) rfl rfl), (gw (i := 23) rfl rfl)⟩
theorem d_Unroller_makeSet_0 : decode b_Unroller_makeSet 0 = .ok (.aload_n 0, 1) := by decide +kernel
theorem d_Unroller_makeSet_1 : decode b_Unroller_makeSet 1 = .ok (.dup, 1) := by decide +kernel
theorem d_Unroller_makeSet_2 : decode b_Unroller_makeSet 2 = .ok (.getfield 35, 3) := by decide +kernel
theorem d_Unroller_makeSet_5 : decode b_Unroller_makeSet 5 = .ok (.iconst 1, 1) := by decide +kernel
theorem d_Unroller_makeSet_6 : decode b_Unroller_makeSet 6 = .ok (.iadd, 1) := by decide +kernel
theorem d_Unroller_makeSet_7 : decode b_Unroller_makeSet 7 = .ok (.putfield 35, 3) := by decide +kernel
theorem d_Unroller_makeSet_10 : decode b_Unroller_makeSet 10 = .ok (.aload_n 0, 1) := by decide +kernel
theorem d_Unroller_makeSet_11 : decode b_Unroller_makeSet 11 = .ok (.getfield 35, 3) := by decide +kernel
theorem d_Unroller_makeSet_14 : decode b_Unroller_makeSet 14 = .ok (.sipush 6000, 3) := by decide +kernel
theorem d_Unroller_makeSet_17 : decode b_Unroller_makeSet 17 = .ok (.if_icmp .le 8, 3) := by decide +kernel
theorem d_Unroller_makeSet_20 : decode b_Unroller_makeSet 20 = .ok (.aload_n 0, 1) := by decide +kernel
theorem d_Unroller_makeSet_21 : decode b_Unroller_makeSet 21 = .ok (.iconst 1, 1) := by decide +kernel
theorem d_Unroller_makeSet_22 : decode b_Unroller_makeSet 22 = .ok (.putfield 38, 3) := by decide +kernel
theorem d_Unroller_makeSet_25 : decode b_Unroller_makeSet 25 = .ok (.aload_n 0, 1) := by decide +kernel
theorem d_Unroller_makeSet_26 : decode b_Unroller_makeSet 26 = .ok (.getfield 38, 3) := by decide +kernel
theorem d_Unroller_makeSet_29 : decode b_Unroller_makeSet 29 = .ok (.ifCond .ne 10, 3) := by decide +kernel
theorem d_Unroller_makeSet_32 : decode b_Unroller_makeSet 32 = .ok (.aload_n 0, 1) := by decide +kernel
theorem d_Unroller_makeSet_33 : decode b_Unroller_makeSet 33 = .ok (.iload_n 1, 1) := by decide +kernel
theorem d_Unroller_makeSet_34 : decode b_Unroller_makeSet 34 = .ok (.iload_n 2, 1) := by decide +kernel
theorem d_Unroller_makeSet_35 : decode b_Unroller_makeSet 35 = .ok (.iload_n 3, 1) := by decide +kernel
theorem d_Unroller_makeSet_36 : decode b_Unroller_makeSet 36 = .ok (.invokevirtual 74, 3) := by decide +kernel
theorem d_Unroller_makeSet_39 : decode b_Unroller_makeSet 39 = .ok (.return_, 1) := by decide +kernel
theorem d_Unroller_makeWindows_0 : decode b_Unroller_makeWindows 0 = .ok (.iconst 0, 1) := by decide +kernel
theorem d_Unroller_makeWindows_1 : decode b_Unroller_makeWindows 1 = .ok (.istore 5, 2) := by decide +kernel
theorem d_Unroller_makeWindows_3 : decode b_Unroller_makeWindows 3 = .ok (.iload 5, 2) := by decide +kernel
theorem d_Unroller_makeWindows_5 : decode b_Unroller_makeWindows 5 = .ok (.iload 4, 2) := by decide +kernel
theorem d_Unroller_makeWindows_7 : decode b_Unroller_makeWindows 7 = .ok (.iadd, 1) := by decide +kernel
theorem d_Unroller_makeWindows_8 : decode b_Unroller_makeWindows 8 = .ok (.iload_n 3, 1) := by decide +kernel
theorem d_Unroller_makeWindows_9 : decode b_Unroller_makeWindows 9 = .ok (.if_icmp .gt 29, 3) := by decide +kernel
theorem d_Unroller_makeWindows_12 : decode b_Unroller_makeWindows 12 = .ok (.aload_n 0, 1) := by decide +kernel
theorem d_Unroller_makeWindows_13 : decode b_Unroller_makeWindows 13 = .ok (.getfield 38, 3) := by decide +kernel
theorem d_Unroller_makeWindows_16 : decode b_Unroller_makeWindows 16 = .ok (.ifCond .ne 22, 3) := by decide +kernel
theorem d_Unroller_makeWindows_19 : decode b_Unroller_makeWindows 19 = .ok (.aload_n 0, 1) := by decide +kernel
theorem d_Unroller_makeWindows_20 : decode b_Unroller_makeWindows 20 = .ok (.iload_n 1, 1) := by decide +kernel
theorem d_Unroller_makeWindows_21 : decode b_Unroller_makeWindows 21 = .ok (.iconst 1, 1) := by decide +kernel
theorem d_Unroller_makeWindows_22 : decode b_Unroller_makeWindows 22 = .ok (.iadd, 1) := by decide +kernel
theorem d_Unroller_makeWindows_23 : decode b_Unroller_makeWindows 23 = .ok (.iload_n 2, 1) := by decide +kernel
theorem d_Unroller_makeWindows_24 : decode b_Unroller_makeWindows 24 = .ok (.iload 5, 2) := by decide +kernel
theorem d_Unroller_makeWindows_26 : decode b_Unroller_makeWindows 26 = .ok (.iadd, 1) := by decide +kernel
theorem d_Unroller_makeWindows_27 : decode b_Unroller_makeWindows 27 = .ok (.iload 4, 2) := by decide +kernel
theorem d_Unroller_makeWindows_29 : decode b_Unroller_makeWindows 29 = .ok (.invokevirtual 143, 3) := by decide +kernel
theorem d_Unroller_makeWindows_32 : decode b_Unroller_makeWindows 32 = .ok (.iinc 5 1, 3) := by decide +kernel
theorem d_Unroller_makeWindows_35 : decode b_Unroller_makeWindows 35 = .ok (.goto (-32), 3) := by decide +kernel
theorem d_Unroller_makeWindows_38 : decode b_Unroller_makeWindows 38 = .ok (.return_, 1) := by decide +kernel
theorem d_Unroller_makeSide_0 : decode b_Unroller_makeSide 0 = .ok (.iload_n 1, 1) := by decide +kernel
theorem d_Unroller_makeSide_1 : decode b_Unroller_makeSide 1 = .ok (.invokestatic 157, 3) := by decide +kernel
theorem d_Unroller_makeSide_4 : decode b_Unroller_makeSide 4 = .ok (.istore 4, 2) := by decide +kernel
theorem d_Unroller_makeSide_6 : decode b_Unroller_makeSide 6 = .ok (.aload_n 0, 1) := by decide +kernel
theorem d_Unroller_makeSide_7 : decode b_Unroller_makeSide 7 = .ok (.iload 4, 2) := by decide +kernel
theorem d_Unroller_makeSide_9 : decode b_Unroller_makeSide 9 = .ok (.iload_n 2, 1) := by decide +kernel
theorem d_Unroller_makeSide_10 : decode b_Unroller_makeSide 10 = .ok (.invokevirtual 48, 3) := by decide +kernel
theorem d_Unroller_makeSide_13 : decode b_Unroller_makeSide 13 = .ok (.aload_n 0, 1) := by decide +kernel
theorem d_Unroller_makeSide_14 : decode b_Unroller_makeSide 14 = .ok (.iload 4, 2) := by decide +kernel
theorem d_Unroller_makeSide_16 : decode b_Unroller_makeSide 16 = .ok (.iconst 1, 1) := by decide +kernel
theorem d_Unroller_makeSide_17 : decode b_Unroller_makeSide 17 = .ok (.iadd, 1) := by decide +kernel
theorem d_Unroller_makeSide_18 : decode b_Unroller_makeSide 18 = .ok (.iload_n 3, 1) := by decide +kernel
theorem d_Unroller_makeSide_19 : decode b_Unroller_makeSide 19 = .ok (.invokevirtual 48, 3) := by decide +kernel
theorem d_Unroller_makeSide_22 : decode b_Unroller_makeSide 22 = .ok (.aload_n 0, 1) := by decide +kernel
theorem d_Unroller_makeSide_23 : decode b_Unroller_makeSide 23 = .ok (.iload_n 1, 1) := by decide +kernel
theorem d_Unroller_makeSide_24 : decode b_Unroller_makeSide 24 = .ok (.iconst 1, 1) := by decide +kernel
theorem d_Unroller_makeSide_25 : decode b_Unroller_makeSide 25 = .ok (.iadd, 1) := by decide +kernel
theorem d_Unroller_makeSide_26 : decode b_Unroller_makeSide 26 = .ok (.iload 4, 2) := by decide +kernel
theorem d_Unroller_makeSide_28 : decode b_Unroller_makeSide 28 = .ok (.iconst 2, 1) := by decide +kernel
theorem d_Unroller_makeSide_29 : decode b_Unroller_makeSide 29 = .ok (.invokevirtual 143, 3) := by decide +kernel
theorem d_Unroller_makeSide_32 : decode b_Unroller_makeSide 32 = .ok (.return_, 1) := by decide +kernel
set_option maxHeartbeats 4000000 in
set_option maxRecDepth 100000 in
theorem o_Unroller_makeSet (g : GG) (l : Launch) {u : Nat} {s : Nat} {ss : Nat} {la : Nat} {ke : Nat} {lc : Nat} {uw : Nat} {uh : Nat} {ri : Nat} {mi : Int32} {tm : Bool} {lev : Nat} {d : Nat} {ru : Nat} {sa : Nat} {ps : Nat} {to : Nat} {gs : Nat} {rc : Nat} {pn : Nat} {RU : Nat → Nat} {SA : Nat → Nat} {PL : Nat → Nat} {SS : Nat → Nat} {KE : Nat → Nat} {TO : Nat → Bool} {LA : Nat → Option Nat} {PP : va_W} {acc : Acc} {lr : List LayerV} {j : Nat} {z : Nat} (hD : ∀ {u : Nat} {s : Nat} {ss : Nat} {la : Nat} {ke : Nat} {lc : Nat} {uw : Nat} {uh : Nat} {ri : Nat} {mi : Int32} {tm : Bool} {lev : Nat} {ru : Nat} {sa : Nat} {ps : Nat} {to : Nat} {gs : Nat} {rc : Nat} {pn : Nat} {RU : Nat → Nat} {SA : Nat → Nat} {PL : Nat → Nat} {SS : Nat → Nat} {KE : Nat → Nat} {TO : Nat → Bool} {LA : Nat → Option Nat} {PP : va_W} {acc : Acc} {lr : List LayerV} {j : Nat} {z : Nat} (hw0 : 0 < uw) (hw1 : uw ≤ 16) (hh0 : 0 < uh) (hh1 : uh ≤ 16) (hri : ri < 2 ^ 31) (hlc : lc ≤ 40) (hd : lr.length = d) (hok : ∀ l ∈ lr, LyOK l) (hU : UAt acc tm mi RU SA PL TO rc pn) (h256 : ∀ i, SS i < 256) (hlv : lev + d = lc) (hla : LayF g PP LA lev lr) (hz : z ≤ 256) (hjz : j + z ≤ (lev + 1) * 256) (hset : SetOK uw uh (segL SS j z)) (htm : tm = false), Cn g l y_Unroller_descend b_Unroller_descend 6 none (rmk (12 + 4 * d + 0) 0 0 (260 + 100 * d + 0)) [.ref u, .int (nI lev), .int (nI j), .int (nI z)] ([(u, .inr (8, [.ref s, .ref ss, .ref la, .ref ke, .int (nI lc), .int (nI uw), .int (nI uh), .int (nI ri), .int mi, .int (bI tm)])), (ss, .inl (g.2.1 0, 10496, .inl (aI SS))), (la, .inl (g.2.1 4, 40, .inr (.inr (.inr (.inr LA))))), (ke, .inl (g.2.1 0, 256, .inl (aI KE))), (s, .inr (7, [.ref ru, .ref sa, .ref ps, .ref to, .int (nI gs), .int (nI rc), .int (nI pn)])), (ru, .inl (g.2.1 0, 4000, .inl (aI RU))), (sa, .inl (g.2.1 0, 4001, .inl (aI SA))), (ps, .inl (g.2.1 0, 30000, .inl (aI PL))), (to, .inl (g.2.1 2, 256, .inl (zI TO)))] ++ PP) (fun (r0 : Option Value) (w0 : va_W) => ∃ mi2 : Int32, ∃ tm2 : Bool, ∃ rc2 : Nat, ∃ pn2 : Nat, ∃ RU2 : Nat → Nat, ∃ SA2 : Nat → Nat, ∃ PL2 : Nat → Nat, ∃ SS2 : Nat → Nat, ∃ KE2 : Nat → Nat, ∃ TO2 : Nat → Bool, r0 = none ∧ w0 = [(u, .inr (8, [.ref s, .ref ss, .ref la, .ref ke, .int (nI lc), .int (nI uw), .int (nI uh), .int (nI ri), .int mi2, .int (bI tm2)])), (ss, .inl (g.2.1 0, 10496, .inl (aI SS2))), (la, .inl (g.2.1 4, 40, .inr (.inr (.inr (.inr LA))))), (ke, .inl (g.2.1 0, 256, .inl (aI KE2))), (s, .inr (7, [.ref ru, .ref sa, .ref ps, .ref to, .int (nI gs), .int (nI rc2), .int (nI pn2)])), (ru, .inl (g.2.1 0, 4000, .inl (aI RU2))), (sa, .inl (g.2.1 0, 4001, .inl (aI SA2))), (ps, .inl (g.2.1 0, 30000, .inl (aI PL2))), (to, .inl (g.2.1 2, 256, .inl (zI TO2)))] ++ PP ∧ (UAt (lim ri (unr uw uh lr (segL SS j z)) acc) tm2 mi2 RU2 SA2 PL2 TO2 rc2 pn2) ∧ (∀ i, i < (lev + 1) * 256 → SS2 i = SS i) ∧ (∀ i, SS2 i < 256))) (hw0 : 0 < uw) (hw1 : uw ≤ 16) (hh0 : 0 < uh) (hh1 : uh ≤ 16) (hri : ri < 2 ^ 31) (hlc : lc ≤ 40) (hd : lr.length = d) (hok : ∀ l ∈ lr, LyOK l) (hU : UAt acc tm mi RU SA PL TO rc pn) (h256 : ∀ i, SS i < 256) (hlv : lev + d = lc) (hla : LayF g PP LA lev lr) (hz : z ≤ 256) (hjz : j + z ≤ (lev + 1) * 256) (hset : SetOK uw uh (segL SS j z)) : Cn g l y_Unroller_makeSet b_Unroller_makeSet 4 none (rmk (12 + 4 * d + 1) 0 0 (260 + 100 * d + 25)) [.ref u, .int (nI lev), .int (nI j), .int (nI z)] ([(u, .inr (8, [.ref s, .ref ss, .ref la, .ref ke, .int (nI lc), .int (nI uw), .int (nI uh), .int (nI ri), .int mi, .int (bI tm)])), (ss, .inl (g.2.1 0, 10496, .inl (aI SS))), (la, .inl (g.2.1 4, 40, .inr (.inr (.inr (.inr LA))))), (ke, .inl (g.2.1 0, 256, .inl (aI KE))), (s, .inr (7, [.ref ru, .ref sa, .ref ps, .ref to, .int (nI gs), .int (nI rc), .int (nI pn)])), (ru, .inl (g.2.1 0, 4000, .inl (aI RU))), (sa, .inl (g.2.1 0, 4001, .inl (aI SA))), (ps, .inl (g.2.1 0, 30000, .inl (aI PL))), (to, .inl (g.2.1 2, 256, .inl (zI TO)))] ++ PP) (fun (r0 : Option Value) (w0 : va_W) => ∃ mi2 : Int32, ∃ tm2 : Bool, ∃ rc2 : Nat, ∃ pn2 : Nat, ∃ RU2 : Nat → Nat, ∃ SA2 : Nat → Nat, ∃ PL2 : Nat → Nat, ∃ SS2 : Nat → Nat, ∃ KE2 : Nat → Nat, ∃ TO2 : Nat → Bool, r0 = none ∧ w0 = [(u, .inr (8, [.ref s, .ref ss, .ref la, .ref ke, .int (nI lc), .int (nI uw), .int (nI uh), .int (nI ri), .int mi2, .int (bI tm2)])), (ss, .inl (g.2.1 0, 10496, .inl (aI SS2))), (la, .inl (g.2.1 4, 40, .inr (.inr (.inr (.inr LA))))), (ke, .inl (g.2.1 0, 256, .inl (aI KE2))), (s, .inr (7, [.ref ru, .ref sa, .ref ps, .ref to, .int (nI gs), .int (nI rc2), .int (nI pn2)])), (ru, .inl (g.2.1 0, 4000, .inl (aI RU2))), (sa, .inl (g.2.1 0, 4001, .inl (aI SA2))), (ps, .inl (g.2.1 0, 30000, .inl (aI PL2))), (to, .inl (g.2.1 2, 256, .inl (zI TO2)))] ++ PP ∧ (UAt (lim ri (one (unr uw uh lr) (segL SS j z)) acc) tm2 mi2 RU2 SA2 PL2 TO2 rc2 pn2) ∧ (∀ i, i < (lev + 1) * 256 → SS2 i = SS i) ∧ (∀ i, SS2 i < 256)) := by
  refine Cn.of R_Unroller [(0, .ref u), (1, .int (nI lev)), (2, .int (nI j)), (3, .int (nI z))] (by decide) rfl (Nat.le_of_ble_eq_true rfl) rfl ?_
  intro x A Q hR hXl hin C E
  subst hXl
  refine r_aload_n C 0 d_Unroller_makeSet_0 rfl rfl ?_
  refine r_dup C d_Unroller_makeSet_1 rfl ?_
  refine r_get C 0 8 d_Unroller_makeSet_2 ci_Unroller fi_Unroller_35 rfl (by decide) rfl rfl ?_
  refine r_iconst C (nI 1) d_Unroller_makeSet_5 (by decide) ?_
  refine r_iadd C d_Unroller_makeSet_6 ?_
  refine r_put C (ws' := [(u, .inr (8, [.ref s, .ref ss, .ref la, .ref ke, .int (nI lc), .int (nI uw), .int (nI uh), .int (nI ri), .int (mi + (nI 1)), .int (bI tm)])), (ss, .inl (g.2.1 0, 10496, .inl (aI SS))), (la, .inl (g.2.1 4, 40, .inr (.inr (.inr (.inr LA))))), (ke, .inl (g.2.1 0, 256, .inl (aI KE))), (s, .inr (7, [.ref ru, .ref sa, .ref ps, .ref to, .int (nI gs), .int (nI rc), .int (nI pn)])), (ru, .inl (g.2.1 0, 4000, .inl (aI RU))), (sa, .inl (g.2.1 0, 4001, .inl (aI SA))), (ps, .inl (g.2.1 0, 30000, .inl (aI PL))), (to, .inl (g.2.1 2, 256, .inl (zI TO)))] ++ PP) 0 8 d_Unroller_makeSet_7 ci_Unroller fi_Unroller_35 rfl (by decide) rfl rfl (rfl) (rfl) (by simp) rfl ?_
  refine r_aload_n C 0 d_Unroller_makeSet_10 rfl rfl ?_
  refine r_get C 0 8 d_Unroller_makeSet_11 ci_Unroller fi_Unroller_35 rfl (by decide) rfl rfl ?_
  refine r_sipush C (nI 6000) d_Unroller_makeSet_14 (by decide) ?_
  refine r_icmp_le C 25 d_Unroller_makeSet_17 (by decide) (fun c_17 => ?_) (fun c_17 => ?_)
  · skip
    refine r_aload_n C 0 d_Unroller_makeSet_25 rfl rfl ?_
    refine r_get C 0 9 d_Unroller_makeSet_26 ci_Unroller fi_Unroller_38 rfl (by decide) rfl rfl ?_
    refine r_bif_ne C 39 d_Unroller_makeSet_29 (by decide) (fun c_29 => ?_) (fun c_29 => ?_)
    · skip
      refine r_vret C E d_Unroller_makeSet_39 (by first | decide | omega | (simp only [rmk]; omega)) (by first | decide | omega | (simp only [rmk]; omega)) ?_
      exact ⟨_, _, _, _, _, _, _, _, _, _, rfl, rfl, by rw [UAt_t hU c_29]; exact c_29, fun _ _ => rfl, h256⟩
    · skip
      refine r_aload_n C 0 d_Unroller_makeSet_32 rfl rfl ?_
      refine r_iload_n C 1 d_Unroller_makeSet_33 rfl rfl ?_
      refine r_iload_n C 2 d_Unroller_makeSet_34 rfl rfl ?_
      refine r_iload_n C 3 d_Unroller_makeSet_35 rfl rfl ?_
      obtain ⟨md, R, hacc, hmi, hli, hst⟩ := UAt_f hU c_29
      have hmd : md + 1 ≤ 6000 := by rw [hmi, ← nI_add] at c_17; exact (nI_leI (by have := hli.1; omega) (by decide)).mp c_17
      refine j_callV C (hD (u := u) (s := s) (ss := ss) (la := la) (ke := ke) (lc := lc) (uw := uw) (uh := uh) (ri := ri) (mi := mi + (nI 1)) (tm := tm) (lev := lev) (ru := ru) (sa := sa) (ps := ps) (to := to) (gs := gs) (rc := rc) (pn := pn) (RU := RU) (SA := SA) (PL := PL) (SS := SS) (KE := KE) (TO := TO) (LA := LA) (PP := PP) (acc := (some (md + 1, R))) (lr := lr) (j := j) (z := z) (by first | assumption | rfl | omega) (by first | assumption | rfl | omega) (by first | assumption | rfl | omega) (by first | assumption | rfl | omega) (by first | assumption | rfl | omega) (by first | assumption | rfl | omega) (by first | assumption | rfl | omega) (by first | assumption | rfl | omega) (⟨c_29, by rw [hmi, ← nI_add], ⟨hmd, hli.2⟩, hst⟩) (by first | assumption | rfl | omega) (by first | assumption | rfl | omega) (by first | assumption | rfl | omega) (by first | assumption | rfl | omega) (by first | assumption | rfl | omega) (by first | assumption | rfl | omega) (c_29)) (Sp.pool (Sp.of (wr := []) [0, 1, 2, 3, 4, 5, 6, 7, 8] [] rfl rfl rfl rfl (by decide)) PP) d_Unroller_makeSet_36 lk_Unroller_74 mw_Unroller_descend vw_Unroller_descend (q0 := 0) rfl rfl (fit_of hR (by first | decide | (simp only [rmk]; omega)) (by first | decide | (simp only [rmk]; omega)) (by first | decide | (simp only [rmk]; omega)) (by first | decide | (simp only [rmk]; omega))) rfl (cat8 (Nat.le_of_ble_eq_true rfl)) (As := [.int (nI lev), .int (nI j), .int (nI z)]) (rest := []) rfl (fun r_36 w_36 hp_36 => ?_)
      obtain ⟨mi2_36, tm2_36, rc2_36, pn2_36, RU2_36, SA2_36, PL2_36, SS2_36, KE2_36, TO2_36, rfl, rfl, hU2_36, hfr_36, h2562_36⟩ := hp_36
      refine r_afterP (X := [(u, .inr (8, [.ref s, .ref ss, .ref la, .ref ke, .int (nI lc), .int (nI uw), .int (nI uh), .int (nI ri), .int mi2_36, .int (bI tm2_36)])), (ss, .inl (g.2.1 0, 10496, .inl (aI SS2_36))), (la, .inl (g.2.1 4, 40, .inr (.inr (.inr (.inr LA))))), (ke, .inl (g.2.1 0, 256, .inl (aI KE2_36))), (s, .inr (7, [.ref ru, .ref sa, .ref ps, .ref to, .int (nI gs), .int (nI rc2_36), .int (nI pn2_36)])), (ru, .inl (g.2.1 0, 4000, .inl (aI RU2_36))), (sa, .inl (g.2.1 0, 4001, .inl (aI SA2_36))), (ps, .inl (g.2.1 0, 30000, .inl (aI PL2_36))), (to, .inl (g.2.1 2, 256, .inl (zI TO2_36)))]) (X' := [(u, .inr (8, [.ref s, .ref ss, .ref la, .ref ke, .int (nI lc), .int (nI uw), .int (nI uh), .int (nI ri), .int mi2_36, .int (bI tm2_36)])), (ss, .inl (g.2.1 0, 10496, .inl (aI SS2_36))), (la, .inl (g.2.1 4, 40, .inr (.inr (.inr (.inr LA))))), (ke, .inl (g.2.1 0, 256, .inl (aI KE2_36))), (s, .inr (7, [.ref ru, .ref sa, .ref ps, .ref to, .int (nI gs), .int (nI rc2_36), .int (nI pn2_36)])), (ru, .inl (g.2.1 0, 4000, .inl (aI RU2_36))), (sa, .inl (g.2.1 0, 4001, .inl (aI SA2_36))), (ps, .inl (g.2.1 0, 30000, .inl (aI PL2_36))), (to, .inl (g.2.1 2, 256, .inl (zI TO2_36)))]) (pl := PP) (st' := []) (n1 := 0) (n2 := 0) [0, 1, 2, 3, 4, 5, 6, 7, 8] rfl rfl rfl rfl rfl rfl ?_
      refine r_vret C E d_Unroller_makeSet_39 (by first | decide | omega | (simp only [rmk]; omega)) (by first | decide | omega | (simp only [rmk]; omega)) ?_
      exact ⟨_, _, _, _, _, _, _, _, _, _, rfl, rfl, by rw [hacc, lim_one hmd]; exact hU2_36, hfr_36, h2562_36⟩
  · skip
    refine r_aload_n C 0 d_Unroller_makeSet_20 rfl rfl ?_
    refine r_iconst C (nI 1) d_Unroller_makeSet_21 (by decide) ?_
    refine r_eqS (st' := [.int (bI true), .ref u]) rfl ?_
    refine r_put C (ws' := [(u, .inr (8, [.ref s, .ref ss, .ref la, .ref ke, .int (nI lc), .int (nI uw), .int (nI uh), .int (nI ri), .int (mi + (nI 1)), .int (bI true)])), (ss, .inl (g.2.1 0, 10496, .inl (aI SS))), (la, .inl (g.2.1 4, 40, .inr (.inr (.inr (.inr LA))))), (ke, .inl (g.2.1 0, 256, .inl (aI KE))), (s, .inr (7, [.ref ru, .ref sa, .ref ps, .ref to, .int (nI gs), .int (nI rc), .int (nI pn)])), (ru, .inl (g.2.1 0, 4000, .inl (aI RU))), (sa, .inl (g.2.1 0, 4001, .inl (aI SA))), (ps, .inl (g.2.1 0, 30000, .inl (aI PL))), (to, .inl (g.2.1 2, 256, .inl (zI TO)))] ++ PP) 0 9 d_Unroller_makeSet_22 ci_Unroller fi_Unroller_38 rfl (by decide) rfl rfl (bI_nar _) (bI_fit _) (by simp) rfl ?_
    refine r_aload_n C 0 d_Unroller_makeSet_25 rfl rfl ?_
    refine r_get C 0 9 d_Unroller_makeSet_26 ci_Unroller fi_Unroller_38 rfl (by decide) rfl rfl ?_
    refine r_bif_ne C 39 d_Unroller_makeSet_29 (by decide) (fun c_29 => ?_) (fun c_29 => ?_)
    rotate_left
    · exact absurd c_29 (by decide)
    refine r_vret C E d_Unroller_makeSet_39 (by first | decide | omega | (simp only [rmk]; omega)) (by first | decide | omega | (simp only [rmk]; omega)) ?_
    exact ⟨_, _, _, _, _, _, _, _, _, _, rfl, rfl, u_over hU c_17, fun _ _ => rfl, h256⟩

set_option maxHeartbeats 4000000 in
set_option maxRecDepth 100000 in
theorem lp_Unroller_makeWindows_3 (g : GG) {u : Nat} {s : Nat} {ss : Nat} {la : Nat} {ke : Nat} {lc : Nat} {uw : Nat} {uh : Nat} {ri : Nat} {mi : Int32} {tm : Bool} {lev : Nat} {d : Nat} {ru : Nat} {sa : Nat} {ps : Nat} {to : Nat} {gs : Nat} {rc : Nat} {pn : Nat} {RU : Nat → Nat} {SA : Nat → Nat} {PL : Nat → Nat} {SS : Nat → Nat} {KE : Nat → Nat} {TO : Nat → Bool} {LA : Nat → Option Nat} {PP : va_W} {acc : Acc} {lr : List LayerV} {j : Nat} {z : Nat} {len : Nat} (hw0 : 0 < uw) (hw1 : uw ≤ 16) (hh0 : 0 < uh) (hh1 : uh ≤ 16) (hri : ri < 2 ^ 31) (hlc : lc ≤ 40) (hd : lr.length = d) (hok : ∀ l ∈ lr, LyOK l) (hU : UAt acc tm mi RU SA PL TO rc pn) (h256 : ∀ i, SS i < 256) (hlv : lev + 1 + d = lc) (hla : LayF g PP LA (lev + 1) lr) (hz : z ≤ 256) (hjz : j + z ≤ (lev + 1) * 256) (hset : SetOK uw uh (segL SS j z)) (hlen : 1 ≤ len) (hlen2 : len ≤ 256) {x : X0} (hM : ∀ {u : Nat} {s : Nat} {ss : Nat} {la : Nat} {ke : Nat} {lc : Nat} {uw : Nat} {uh : Nat} {ri : Nat} {mi : Int32} {tm : Bool} {lev : Nat} {ru : Nat} {sa : Nat} {ps : Nat} {to : Nat} {gs : Nat} {rc : Nat} {pn : Nat} {RU : Nat → Nat} {SA : Nat → Nat} {PL : Nat → Nat} {SS : Nat → Nat} {KE : Nat → Nat} {TO : Nat → Bool} {LA : Nat → Option Nat} {PP : va_W} {acc : Acc} {lr : List LayerV} {j : Nat} {z : Nat} (hw0 : 0 < uw) (hw1 : uw ≤ 16) (hh0 : 0 < uh) (hh1 : uh ≤ 16) (hri : ri < 2 ^ 31) (hlc : lc ≤ 40) (hd : lr.length = d) (hok : ∀ l ∈ lr, LyOK l) (hU : UAt acc tm mi RU SA PL TO rc pn) (h256 : ∀ i, SS i < 256) (hlv : lev + d = lc) (hla : LayF g PP LA lev lr) (hz : z ≤ 256) (hjz : j + z ≤ (lev + 1) * 256) (hset : SetOK uw uh (segL SS j z)), Cn g (xl x) y_Unroller_makeSet b_Unroller_makeSet 4 none (rmk (12 + 4 * d + 1) 0 0 (260 + 100 * d + 25)) [.ref u, .int (nI lev), .int (nI j), .int (nI z)] ([(u, .inr (8, [.ref s, .ref ss, .ref la, .ref ke, .int (nI lc), .int (nI uw), .int (nI uh), .int (nI ri), .int mi, .int (bI tm)])), (ss, .inl (g.2.1 0, 10496, .inl (aI SS))), (la, .inl (g.2.1 4, 40, .inr (.inr (.inr (.inr LA))))), (ke, .inl (g.2.1 0, 256, .inl (aI KE))), (s, .inr (7, [.ref ru, .ref sa, .ref ps, .ref to, .int (nI gs), .int (nI rc), .int (nI pn)])), (ru, .inl (g.2.1 0, 4000, .inl (aI RU))), (sa, .inl (g.2.1 0, 4001, .inl (aI SA))), (ps, .inl (g.2.1 0, 30000, .inl (aI PL))), (to, .inl (g.2.1 2, 256, .inl (zI TO)))] ++ PP) (fun (r0 : Option Value) (w0 : va_W) => ∃ mi2 : Int32, ∃ tm2 : Bool, ∃ rc2 : Nat, ∃ pn2 : Nat, ∃ RU2 : Nat → Nat, ∃ SA2 : Nat → Nat, ∃ PL2 : Nat → Nat, ∃ SS2 : Nat → Nat, ∃ KE2 : Nat → Nat, ∃ TO2 : Nat → Bool, r0 = none ∧ w0 = [(u, .inr (8, [.ref s, .ref ss, .ref la, .ref ke, .int (nI lc), .int (nI uw), .int (nI uh), .int (nI ri), .int mi2, .int (bI tm2)])), (ss, .inl (g.2.1 0, 10496, .inl (aI SS2))), (la, .inl (g.2.1 4, 40, .inr (.inr (.inr (.inr LA))))), (ke, .inl (g.2.1 0, 256, .inl (aI KE2))), (s, .inr (7, [.ref ru, .ref sa, .ref ps, .ref to, .int (nI gs), .int (nI rc2), .int (nI pn2)])), (ru, .inl (g.2.1 0, 4000, .inl (aI RU2))), (sa, .inl (g.2.1 0, 4001, .inl (aI SA2))), (ps, .inl (g.2.1 0, 30000, .inl (aI PL2))), (to, .inl (g.2.1 2, 256, .inl (zI TO2)))] ++ PP ∧ (UAt (lim ri (one (unr uw uh lr) (segL SS j z)) acc) tm2 mi2 RU2 SA2 PL2 TO2 rc2 pn2) ∧ (∀ i, i < (lev + 1) * 256 → SS2 i = SS i) ∧ (∀ i, SS2 i < 256))) {A : Nat → Prop} {Q : State → Prop} (C : CX x g A R_Unroller b_Unroller_makeWindows 6) (E : RX x g A Q none (fun (r0 : Option Value) (w0 : va_W) => ∃ mi2 : Int32, ∃ tm2 : Bool, ∃ rc2 : Nat, ∃ pn2 : Nat, ∃ RU2 : Nat → Nat, ∃ SA2 : Nat → Nat, ∃ PL2 : Nat → Nat, ∃ SS2 : Nat → Nat, ∃ KE2 : Nat → Nat, ∃ TO2 : Nat → Bool, r0 = none ∧ w0 = [(u, .inr (8, [.ref s, .ref ss, .ref la, .ref ke, .int (nI lc), .int (nI uw), .int (nI uh), .int (nI ri), .int mi2, .int (bI tm2)])), (ss, .inl (g.2.1 0, 10496, .inl (aI SS2))), (la, .inl (g.2.1 4, 40, .inr (.inr (.inr (.inr LA))))), (ke, .inl (g.2.1 0, 256, .inl (aI KE2))), (s, .inr (7, [.ref ru, .ref sa, .ref ps, .ref to, .int (nI gs), .int (nI rc2), .int (nI pn2)])), (ru, .inl (g.2.1 0, 4000, .inl (aI RU2))), (sa, .inl (g.2.1 0, 4001, .inl (aI SA2))), (ps, .inl (g.2.1 0, 30000, .inl (aI PL2))), (to, .inl (g.2.1 2, 256, .inl (zI TO2)))] ++ PP ∧ (UAt (lim ri (unrs (unr uw uh lr) (wins len (segL SS j z))) acc) tm2 mi2 RU2 SA2 PL2 TO2 rc2 pn2) ∧ (∀ i, i < (lev + 1) * 256 → SS2 i = SS i) ∧ (∀ i, SS2 i < 256)) (rmk (12 + 4 * d + 3) 0 0 (260 + 100 * d + 72)).cells (rmk (12 + 4 * d + 3) 0 0 (260 + 100 * d + 72)).slots) (hR : xR x = (rmk (12 + 4 * d + 3) 0 0 (260 + 100 * d + 72))) : ∀ (fuel : Nat) (i : Nat) (mc : Int32) (tc : Bool) (rcc : Nat) (pnc : Nat) (RC : Nat → Nat) (SC : Nat → Nat) (PC : Nat → Nat) (SSc : Nat → Nat) (KC : Nat → Nat) (TC : Nat → Bool) (ac : Acc) (hi : i ≤ z) (hUc : UAt ac tc mc RC SC PC TC rcc pnc) (hI : lim ri (unrs (unr uw uh lr) ((wins len (segL SS j z)).drop i)) ac = lim ri (unrs (unr uw uh lr) (wins len (segL SS j z))) acc) (hF : ∀ t, t < (lev + 1) * 256 → SSc t = SS t) (h2c : ∀ t, SSc t < 256), z - i < fuel → J x g A Q 6 ([(u, .inr (8, [.ref s, .ref ss, .ref la, .ref ke, .int (nI lc), .int (nI uw), .int (nI uh), .int (nI ri), .int mc, .int (bI tc)])), (ss, .inl (g.2.1 0, 10496, .inl (aI SSc))), (la, .inl (g.2.1 4, 40, .inr (.inr (.inr (.inr LA))))), (ke, .inl (g.2.1 0, 256, .inl (aI KC))), (s, .inr (7, [.ref ru, .ref sa, .ref ps, .ref to, .int (nI gs), .int (nI rcc), .int (nI pnc)])), (ru, .inl (g.2.1 0, 4000, .inl (aI RC))), (sa, .inl (g.2.1 0, 4001, .inl (aI SC))), (ps, .inl (g.2.1 0, 30000, .inl (aI PC))), (to, .inl (g.2.1 2, 256, .inl (zI TC)))] ++ PP) [(0, .ref u), (1, .int (nI lev)), (2, .int (nI j)), (3, .int (nI z)), (4, .int (nI len)), (5, .int (nI i))] 3 [] 0 0 := by
  intro fuel
  induction fuel with
  | zero =>
    intro i mc tc rcc pnc RC SC PC SSc KC TC ac hi hUc hI hF h2c hm
    exact absurd hm (Nat.not_lt_zero _)
  | succ fuel ih =>
    intro i mc tc rcc pnc RC SC PC SSc KC TC ac hi hUc hI hF h2c hm
    refine r_iload C 5 d_Unroller_makeWindows_3 rfl ?_
    refine r_iload C 4 d_Unroller_makeWindows_5 rfl ?_
    refine r_nadd C d_Unroller_makeWindows_7 ?_
    refine r_iload_n C 3 d_Unroller_makeWindows_8 rfl rfl ?_
    refine r_ncmp_gt C 38 d_Unroller_makeWindows_9 (by decide) (by omega) (by omega) (fun c_9 => ?_) (fun c_9 => ?_)
    · skip
      refine r_vret C E d_Unroller_makeWindows_38 (by first | decide | omega | (simp only [rmk]; omega)) (by first | decide | omega | (simp only [rmk]; omega)) ?_
      exact ⟨_, _, _, _, _, _, _, _, _, _, rfl, rfl, by rw [← hI, wins_end (by omega), lims_nil hUc]; exact hUc, hF, h2c⟩
    · skip
      refine r_aload_n C 0 d_Unroller_makeWindows_12 rfl rfl ?_
      refine r_get C 0 9 d_Unroller_makeWindows_13 ci_Unroller fi_Unroller_38 rfl (by decide) rfl rfl ?_
      refine r_bif_ne C 38 d_Unroller_makeWindows_16 (by decide) (fun c_16 => ?_) (fun c_16 => ?_)
      · skip
        refine r_vret C E d_Unroller_makeWindows_38 (by first | decide | omega | (simp only [rmk]; omega)) (by first | decide | omega | (simp only [rmk]; omega)) ?_
        exact ⟨_, _, _, _, _, _, _, _, _, _, rfl, rfl, by rw [← hI, UAt_t hUc c_16]; exact c_16, hF, h2c⟩
      · skip
        refine r_aload_n C 0 d_Unroller_makeWindows_19 rfl rfl ?_
        refine r_iload_n C 1 d_Unroller_makeWindows_20 rfl rfl ?_
        refine r_iconst C (nI 1) d_Unroller_makeWindows_21 (by decide) ?_
        refine r_nadd C d_Unroller_makeWindows_22 ?_
        refine r_iload_n C 2 d_Unroller_makeWindows_23 rfl rfl ?_
        refine r_iload C 5 d_Unroller_makeWindows_24 rfl ?_
        refine r_nadd C d_Unroller_makeWindows_26 ?_
        refine r_iload C 4 d_Unroller_makeWindows_27 rfl ?_
        refine j_callV C (hM (u := u) (s := s) (ss := ss) (la := la) (ke := ke) (lc := lc) (uw := uw) (uh := uh) (ri := ri) (mi := mc) (tm := tc) (lev := lev + 1) (ru := ru) (sa := sa) (ps := ps) (to := to) (gs := gs) (rc := rcc) (pn := pnc) (RU := RC) (SA := SC) (PL := PC) (SS := SSc) (KE := KC) (TO := TC) (LA := LA) (PP := PP) (acc := ac) (lr := lr) (j := j + i) (z := len) (by first | assumption | rfl | omega) (by first | assumption | rfl | omega) (by first | assumption | rfl | omega) (by first | assumption | rfl | omega) (by first | assumption | rfl | omega) (by first | assumption | rfl | omega) (by first | assumption | rfl | omega) (by first | assumption | rfl | omega) (hUc) (h2c) (by first | assumption | rfl | omega) (hla) (by first | assumption | rfl | omega) (by first | assumption | rfl | omega) (by rw [seg_fr hF (by omega)]; exact hset.sub (win_sub (by omega)))) (Sp.pool (Sp.of (wr := []) [0, 1, 2, 3, 4, 5, 6, 7, 8] [] rfl rfl rfl rfl (by decide)) PP) d_Unroller_makeWindows_29 lk_Unroller_143 mw_Unroller_makeSet vw_Unroller_makeSet (q0 := 0) rfl rfl (fit_of hR (by first | decide | (simp only [rmk]; omega)) (by first | decide | (simp only [rmk]; omega)) (by first | decide | (simp only [rmk]; omega)) (by first | decide | (simp only [rmk]; omega))) rfl (cat8 (Nat.le_of_ble_eq_true rfl)) (As := [.int (nI (lev + 1)), .int (nI (j + i)), .int (nI len)]) (rest := []) rfl (fun r_29 w_29 hp_29 => ?_)
        obtain ⟨mi2_29, tm2_29, rc2_29, pn2_29, RU2_29, SA2_29, PL2_29, SS2_29, KE2_29, TO2_29, rfl, rfl, hU2_29, hfr_29, h2562_29⟩ := hp_29
        refine r_afterP (X := [(u, .inr (8, [.ref s, .ref ss, .ref la, .ref ke, .int (nI lc), .int (nI uw), .int (nI uh), .int (nI ri), .int mi2_29, .int (bI tm2_29)])), (ss, .inl (g.2.1 0, 10496, .inl (aI SS2_29))), (la, .inl (g.2.1 4, 40, .inr (.inr (.inr (.inr LA))))), (ke, .inl (g.2.1 0, 256, .inl (aI KE2_29))), (s, .inr (7, [.ref ru, .ref sa, .ref ps, .ref to, .int (nI gs), .int (nI rc2_29), .int (nI pn2_29)])), (ru, .inl (g.2.1 0, 4000, .inl (aI RU2_29))), (sa, .inl (g.2.1 0, 4001, .inl (aI SA2_29))), (ps, .inl (g.2.1 0, 30000, .inl (aI PL2_29))), (to, .inl (g.2.1 2, 256, .inl (zI TO2_29)))]) (X' := [(u, .inr (8, [.ref s, .ref ss, .ref la, .ref ke, .int (nI lc), .int (nI uw), .int (nI uh), .int (nI ri), .int mi2_29, .int (bI tm2_29)])), (ss, .inl (g.2.1 0, 10496, .inl (aI SS2_29))), (la, .inl (g.2.1 4, 40, .inr (.inr (.inr (.inr LA))))), (ke, .inl (g.2.1 0, 256, .inl (aI KE2_29))), (s, .inr (7, [.ref ru, .ref sa, .ref ps, .ref to, .int (nI gs), .int (nI rc2_29), .int (nI pn2_29)])), (ru, .inl (g.2.1 0, 4000, .inl (aI RU2_29))), (sa, .inl (g.2.1 0, 4001, .inl (aI SA2_29))), (ps, .inl (g.2.1 0, 30000, .inl (aI PL2_29))), (to, .inl (g.2.1 2, 256, .inl (zI TO2_29)))]) (pl := PP) (st' := []) (n1 := 0) (n2 := 0) [0, 1, 2, 3, 4, 5, 6, 7, 8] rfl rfl rfl rfl rfl rfl ?_
        refine r_iinc C 5 (nI (i + 1)) (lv' := [(5, .int (nI (i + 1))), (0, .ref u), (1, .int (nI lev)), (2, .int (nI j)), (3, .int (nI z)), (4, .int (nI len))]) d_Unroller_makeWindows_32 rfl (nI_inc 1 _) (by decide) rfl ?_
        refine r_goto C 3 d_Unroller_makeWindows_35 (by decide) ?_
        refine r_lv (lv' := [(0, .ref u), (1, .int (nI lev)), (2, .int (nI j)), (3, .int (nI z)), (4, .int (nI len)), (5, .int (nI (i + 1)))]) [1, 2, 3, 4, 5, 0] rfl ?_
        exact ih (i + 1) mi2_29 tm2_29 rc2_29 pn2_29 RU2_29 SA2_29 PL2_29 SS2_29 KE2_29 TO2_29 (lim ri (one (unr uw uh lr) (segL SSc (j + i) len)) ac) (by first | assumption | rfl | omega) (hU2_29) (by rw [← hI, wins_go (by omega), lims_cons, seg_fr hF (by omega)]) (fun t h => (hfr_29 t (by omega)).trans (hF t h)) (h2562_29) (by omega)
set_option maxHeartbeats 4000000 in
set_option maxRecDepth 100000 in
theorem o_Unroller_makeWindows (g : GG) (l : Launch) {u : Nat} {s : Nat} {ss : Nat} {la : Nat} {ke : Nat} {lc : Nat} {uw : Nat} {uh : Nat} {ri : Nat} {mi : Int32} {tm : Bool} {lev : Nat} {d : Nat} {ru : Nat} {sa : Nat} {ps : Nat} {to : Nat} {gs : Nat} {rc : Nat} {pn : Nat} {RU : Nat → Nat} {SA : Nat → Nat} {PL : Nat → Nat} {SS : Nat → Nat} {KE : Nat → Nat} {TO : Nat → Bool} {LA : Nat → Option Nat} {PP : va_W} {acc : Acc} {lr : List LayerV} {j : Nat} {z : Nat} {len : Nat} (hM : ∀ {u : Nat} {s : Nat} {ss : Nat} {la : Nat} {ke : Nat} {lc : Nat} {uw : Nat} {uh : Nat} {ri : Nat} {mi : Int32} {tm : Bool} {lev : Nat} {ru : Nat} {sa : Nat} {ps : Nat} {to : Nat} {gs : Nat} {rc : Nat} {pn : Nat} {RU : Nat → Nat} {SA : Nat → Nat} {PL : Nat → Nat} {SS : Nat → Nat} {KE : Nat → Nat} {TO : Nat → Bool} {LA : Nat → Option Nat} {PP : va_W} {acc : Acc} {lr : List LayerV} {j : Nat} {z : Nat} (hw0 : 0 < uw) (hw1 : uw ≤ 16) (hh0 : 0 < uh) (hh1 : uh ≤ 16) (hri : ri < 2 ^ 31) (hlc : lc ≤ 40) (hd : lr.length = d) (hok : ∀ l ∈ lr, LyOK l) (hU : UAt acc tm mi RU SA PL TO rc pn) (h256 : ∀ i, SS i < 256) (hlv : lev + d = lc) (hla : LayF g PP LA lev lr) (hz : z ≤ 256) (hjz : j + z ≤ (lev + 1) * 256) (hset : SetOK uw uh (segL SS j z)), Cn g l y_Unroller_makeSet b_Unroller_makeSet 4 none (rmk (12 + 4 * d + 1) 0 0 (260 + 100 * d + 25)) [.ref u, .int (nI lev), .int (nI j), .int (nI z)] ([(u, .inr (8, [.ref s, .ref ss, .ref la, .ref ke, .int (nI lc), .int (nI uw), .int (nI uh), .int (nI ri), .int mi, .int (bI tm)])), (ss, .inl (g.2.1 0, 10496, .inl (aI SS))), (la, .inl (g.2.1 4, 40, .inr (.inr (.inr (.inr LA))))), (ke, .inl (g.2.1 0, 256, .inl (aI KE))), (s, .inr (7, [.ref ru, .ref sa, .ref ps, .ref to, .int (nI gs), .int (nI rc), .int (nI pn)])), (ru, .inl (g.2.1 0, 4000, .inl (aI RU))), (sa, .inl (g.2.1 0, 4001, .inl (aI SA))), (ps, .inl (g.2.1 0, 30000, .inl (aI PL))), (to, .inl (g.2.1 2, 256, .inl (zI TO)))] ++ PP) (fun (r0 : Option Value) (w0 : va_W) => ∃ mi2 : Int32, ∃ tm2 : Bool, ∃ rc2 : Nat, ∃ pn2 : Nat, ∃ RU2 : Nat → Nat, ∃ SA2 : Nat → Nat, ∃ PL2 : Nat → Nat, ∃ SS2 : Nat → Nat, ∃ KE2 : Nat → Nat, ∃ TO2 : Nat → Bool, r0 = none ∧ w0 = [(u, .inr (8, [.ref s, .ref ss, .ref la, .ref ke, .int (nI lc), .int (nI uw), .int (nI uh), .int (nI ri), .int mi2, .int (bI tm2)])), (ss, .inl (g.2.1 0, 10496, .inl (aI SS2))), (la, .inl (g.2.1 4, 40, .inr (.inr (.inr (.inr LA))))), (ke, .inl (g.2.1 0, 256, .inl (aI KE2))), (s, .inr (7, [.ref ru, .ref sa, .ref ps, .ref to, .int (nI gs), .int (nI rc2), .int (nI pn2)])), (ru, .inl (g.2.1 0, 4000, .inl (aI RU2))), (sa, .inl (g.2.1 0, 4001, .inl (aI SA2))), (ps, .inl (g.2.1 0, 30000, .inl (aI PL2))), (to, .inl (g.2.1 2, 256, .inl (zI TO2)))] ++ PP ∧ (UAt (lim ri (one (unr uw uh lr) (segL SS j z)) acc) tm2 mi2 RU2 SA2 PL2 TO2 rc2 pn2) ∧ (∀ i, i < (lev + 1) * 256 → SS2 i = SS i) ∧ (∀ i, SS2 i < 256))) (hw0 : 0 < uw) (hw1 : uw ≤ 16) (hh0 : 0 < uh) (hh1 : uh ≤ 16) (hri : ri < 2 ^ 31) (hlc : lc ≤ 40) (hd : lr.length = d) (hok : ∀ l ∈ lr, LyOK l) (hU : UAt acc tm mi RU SA PL TO rc pn) (h256 : ∀ i, SS i < 256) (hlv : lev + 1 + d = lc) (hla : LayF g PP LA (lev + 1) lr) (hz : z ≤ 256) (hjz : j + z ≤ (lev + 1) * 256) (hset : SetOK uw uh (segL SS j z)) (hlen : 1 ≤ len) (hlen2 : len ≤ 256) : Cn g l y_Unroller_makeWindows b_Unroller_makeWindows 6 none (rmk (12 + 4 * d + 3) 0 0 (260 + 100 * d + 72)) [.ref u, .int (nI lev), .int (nI j), .int (nI z), .int (nI len)] ([(u, .inr (8, [.ref s, .ref ss, .ref la, .ref ke, .int (nI lc), .int (nI uw), .int (nI uh), .int (nI ri), .int mi, .int (bI tm)])), (ss, .inl (g.2.1 0, 10496, .inl (aI SS))), (la, .inl (g.2.1 4, 40, .inr (.inr (.inr (.inr LA))))), (ke, .inl (g.2.1 0, 256, .inl (aI KE))), (s, .inr (7, [.ref ru, .ref sa, .ref ps, .ref to, .int (nI gs), .int (nI rc), .int (nI pn)])), (ru, .inl (g.2.1 0, 4000, .inl (aI RU))), (sa, .inl (g.2.1 0, 4001, .inl (aI SA))), (ps, .inl (g.2.1 0, 30000, .inl (aI PL))), (to, .inl (g.2.1 2, 256, .inl (zI TO)))] ++ PP) (fun (r0 : Option Value) (w0 : va_W) => ∃ mi2 : Int32, ∃ tm2 : Bool, ∃ rc2 : Nat, ∃ pn2 : Nat, ∃ RU2 : Nat → Nat, ∃ SA2 : Nat → Nat, ∃ PL2 : Nat → Nat, ∃ SS2 : Nat → Nat, ∃ KE2 : Nat → Nat, ∃ TO2 : Nat → Bool, r0 = none ∧ w0 = [(u, .inr (8, [.ref s, .ref ss, .ref la, .ref ke, .int (nI lc), .int (nI uw), .int (nI uh), .int (nI ri), .int mi2, .int (bI tm2)])), (ss, .inl (g.2.1 0, 10496, .inl (aI SS2))), (la, .inl (g.2.1 4, 40, .inr (.inr (.inr (.inr LA))))), (ke, .inl (g.2.1 0, 256, .inl (aI KE2))), (s, .inr (7, [.ref ru, .ref sa, .ref ps, .ref to, .int (nI gs), .int (nI rc2), .int (nI pn2)])), (ru, .inl (g.2.1 0, 4000, .inl (aI RU2))), (sa, .inl (g.2.1 0, 4001, .inl (aI SA2))), (ps, .inl (g.2.1 0, 30000, .inl (aI PL2))), (to, .inl (g.2.1 2, 256, .inl (zI TO2)))] ++ PP ∧ (UAt (lim ri (unrs (unr uw uh lr) (wins len (segL SS j z))) acc) tm2 mi2 RU2 SA2 PL2 TO2 rc2 pn2) ∧ (∀ i, i < (lev + 1) * 256 → SS2 i = SS i) ∧ (∀ i, SS2 i < 256)) := by
  refine Cn.of R_Unroller [(0, .ref u), (1, .int (nI lev)), (2, .int (nI j)), (3, .int (nI z)), (4, .int (nI len))] (by decide) rfl (Nat.le_of_ble_eq_true rfl) rfl ?_
  intro x A Q hR hXl hin C E
  subst hXl
  refine r_iconst C (nI 0) d_Unroller_makeWindows_0 (by decide) ?_
  refine r_istore C (lv' := [(5, .int (nI 0)), (0, .ref u), (1, .int (nI lev)), (2, .int (nI j)), (3, .int (nI z)), (4, .int (nI len))]) d_Unroller_makeWindows_1 (by decide) rfl ?_
  refine r_lv (lv' := [(0, .ref u), (1, .int (nI lev)), (2, .int (nI j)), (3, .int (nI z)), (4, .int (nI len)), (5, .int (nI 0))]) [1, 2, 3, 4, 5, 0] rfl ?_
  exact lp_Unroller_makeWindows_3 g (u := u) (s := s) (ss := ss) (la := la) (ke := ke) (lc := lc) (uw := uw) (uh := uh) (ri := ri) (mi := mi) (tm := tm) (lev := lev) (d := d) (ru := ru) (sa := sa) (ps := ps) (to := to) (gs := gs) (rc := rc) (pn := pn) (RU := RU) (SA := SA) (PL := PL) (SS := SS) (KE := KE) (TO := TO) (LA := LA) (PP := PP) (acc := acc) (lr := lr) (j := j) (z := z) (len := len) hw0 hw1 hh0 hh1 hri hlc hd hok hU h256 hlv hla hz hjz hset hlen hlen2 hM C E hR _ 0 mi tm rc pn RU SA PL SS KE TO acc (by first | assumption | rfl | omega) (hU) (by rw [List.drop_zero]) (fun _ _ => rfl) (h256) (Nat.lt_succ_self _)

set_option maxHeartbeats 4000000 in
set_option maxRecDepth 100000 in
theorem o_Unroller_makeSide (g : GG) (l : Launch) {u : Nat} {s : Nat} {ss : Nat} {la : Nat} {ke : Nat} {lc : Nat} {uw : Nat} {uh : Nat} {ri : Nat} {mi : Int32} {tm : Bool} {lev : Nat} {d : Nat} {ru : Nat} {sa : Nat} {ps : Nat} {to : Nat} {gs : Nat} {rc : Nat} {pn : Nat} {RU : Nat → Nat} {SA : Nat → Nat} {PL : Nat → Nat} {SS : Nat → Nat} {KE : Nat → Nat} {TO : Nat → Bool} {LA : Nat → Option Nat} {PP : va_W} {acc : Acc} {lr : List LayerV} {c : Nat} {e : Nat} (hM : ∀ {u : Nat} {s : Nat} {ss : Nat} {la : Nat} {ke : Nat} {lc : Nat} {uw : Nat} {uh : Nat} {ri : Nat} {mi : Int32} {tm : Bool} {lev : Nat} {ru : Nat} {sa : Nat} {ps : Nat} {to : Nat} {gs : Nat} {rc : Nat} {pn : Nat} {RU : Nat → Nat} {SA : Nat → Nat} {PL : Nat → Nat} {SS : Nat → Nat} {KE : Nat → Nat} {TO : Nat → Bool} {LA : Nat → Option Nat} {PP : va_W} {acc : Acc} {lr : List LayerV} {j : Nat} {z : Nat} (hw0 : 0 < uw) (hw1 : uw ≤ 16) (hh0 : 0 < uh) (hh1 : uh ≤ 16) (hri : ri < 2 ^ 31) (hlc : lc ≤ 40) (hd : lr.length = d) (hok : ∀ l ∈ lr, LyOK l) (hU : UAt acc tm mi RU SA PL TO rc pn) (h256 : ∀ i, SS i < 256) (hlv : lev + d = lc) (hla : LayF g PP LA lev lr) (hz : z ≤ 256) (hjz : j + z ≤ (lev + 1) * 256) (hset : SetOK uw uh (segL SS j z)), Cn g l y_Unroller_makeSet b_Unroller_makeSet 4 none (rmk (12 + 4 * d + 1) 0 0 (260 + 100 * d + 25)) [.ref u, .int (nI lev), .int (nI j), .int (nI z)] ([(u, .inr (8, [.ref s, .ref ss, .ref la, .ref ke, .int (nI lc), .int (nI uw), .int (nI uh), .int (nI ri), .int mi, .int (bI tm)])), (ss, .inl (g.2.1 0, 10496, .inl (aI SS))), (la, .inl (g.2.1 4, 40, .inr (.inr (.inr (.inr LA))))), (ke, .inl (g.2.1 0, 256, .inl (aI KE))), (s, .inr (7, [.ref ru, .ref sa, .ref ps, .ref to, .int (nI gs), .int (nI rc), .int (nI pn)])), (ru, .inl (g.2.1 0, 4000, .inl (aI RU))), (sa, .inl (g.2.1 0, 4001, .inl (aI SA))), (ps, .inl (g.2.1 0, 30000, .inl (aI PL))), (to, .inl (g.2.1 2, 256, .inl (zI TO)))] ++ PP) (fun (r0 : Option Value) (w0 : va_W) => ∃ mi2 : Int32, ∃ tm2 : Bool, ∃ rc2 : Nat, ∃ pn2 : Nat, ∃ RU2 : Nat → Nat, ∃ SA2 : Nat → Nat, ∃ PL2 : Nat → Nat, ∃ SS2 : Nat → Nat, ∃ KE2 : Nat → Nat, ∃ TO2 : Nat → Bool, r0 = none ∧ w0 = [(u, .inr (8, [.ref s, .ref ss, .ref la, .ref ke, .int (nI lc), .int (nI uw), .int (nI uh), .int (nI ri), .int mi2, .int (bI tm2)])), (ss, .inl (g.2.1 0, 10496, .inl (aI SS2))), (la, .inl (g.2.1 4, 40, .inr (.inr (.inr (.inr LA))))), (ke, .inl (g.2.1 0, 256, .inl (aI KE2))), (s, .inr (7, [.ref ru, .ref sa, .ref ps, .ref to, .int (nI gs), .int (nI rc2), .int (nI pn2)])), (ru, .inl (g.2.1 0, 4000, .inl (aI RU2))), (sa, .inl (g.2.1 0, 4001, .inl (aI SA2))), (ps, .inl (g.2.1 0, 30000, .inl (aI PL2))), (to, .inl (g.2.1 2, 256, .inl (zI TO2)))] ++ PP ∧ (UAt (lim ri (one (unr uw uh lr) (segL SS j z)) acc) tm2 mi2 RU2 SA2 PL2 TO2 rc2 pn2) ∧ (∀ i, i < (lev + 1) * 256 → SS2 i = SS i) ∧ (∀ i, SS2 i < 256))) (hw0 : 0 < uw) (hw1 : uw ≤ 16) (hh0 : 0 < uh) (hh1 : uh ≤ 16) (hri : ri < 2 ^ 31) (hlc : lc ≤ 40) (hd : lr.length = d) (hok : ∀ l ∈ lr, LyOK l) (hU : UAt acc tm mi RU SA PL TO rc pn) (h256 : ∀ i, SS i < 256) (hlv : lev + 1 + d = lc) (hla : LayF g PP LA (lev + 1) lr) (hce : c < e) (he : e < uw * uh) : Cn g l y_Unroller_makeSide b_Unroller_makeSide 5 none (rmk (12 + 4 * d + 2) 0 0 (260 + 100 * d + 48)) [.ref u, .int (nI lev), .int (nI c), .int (nI e)] ([(u, .inr (8, [.ref s, .ref ss, .ref la, .ref ke, .int (nI lc), .int (nI uw), .int (nI uh), .int (nI ri), .int mi, .int (bI tm)])), (ss, .inl (g.2.1 0, 10496, .inl (aI SS))), (la, .inl (g.2.1 4, 40, .inr (.inr (.inr (.inr LA))))), (ke, .inl (g.2.1 0, 256, .inl (aI KE))), (s, .inr (7, [.ref ru, .ref sa, .ref ps, .ref to, .int (nI gs), .int (nI rc), .int (nI pn)])), (ru, .inl (g.2.1 0, 4000, .inl (aI RU))), (sa, .inl (g.2.1 0, 4001, .inl (aI SA))), (ps, .inl (g.2.1 0, 30000, .inl (aI PL))), (to, .inl (g.2.1 2, 256, .inl (zI TO)))] ++ PP) (fun (r0 : Option Value) (w0 : va_W) => ∃ mi2 : Int32, ∃ tm2 : Bool, ∃ rc2 : Nat, ∃ pn2 : Nat, ∃ RU2 : Nat → Nat, ∃ SA2 : Nat → Nat, ∃ PL2 : Nat → Nat, ∃ SS2 : Nat → Nat, ∃ KE2 : Nat → Nat, ∃ TO2 : Nat → Bool, r0 = none ∧ w0 = [(u, .inr (8, [.ref s, .ref ss, .ref la, .ref ke, .int (nI lc), .int (nI uw), .int (nI uh), .int (nI ri), .int mi2, .int (bI tm2)])), (ss, .inl (g.2.1 0, 10496, .inl (aI SS2))), (la, .inl (g.2.1 4, 40, .inr (.inr (.inr (.inr LA))))), (ke, .inl (g.2.1 0, 256, .inl (aI KE2))), (s, .inr (7, [.ref ru, .ref sa, .ref ps, .ref to, .int (nI gs), .int (nI rc2), .int (nI pn2)])), (ru, .inl (g.2.1 0, 4000, .inl (aI RU2))), (sa, .inl (g.2.1 0, 4001, .inl (aI SA2))), (ps, .inl (g.2.1 0, 30000, .inl (aI PL2))), (to, .inl (g.2.1 2, 256, .inl (zI TO2)))] ++ PP ∧ (UAt (lim ri (one (unr uw uh lr) [c, e]) acc) tm2 mi2 RU2 SA2 PL2 TO2 rc2 pn2) ∧ (∀ i, i < (lev + 1) * 256 → SS2 i = SS i) ∧ (∀ i, SS2 i < 256)) := by
  refine Cn.of R_Unroller [(0, .ref u), (1, .int (nI lev)), (2, .int (nI c)), (3, .int (nI e))] (by decide) rfl (Nat.le_of_ble_eq_true rfl) rfl ?_
  intro x A Q hR hXl hin C E
  subst hXl
  refine r_iload_n C 1 d_Unroller_makeSide_0 rfl rfl ?_
  refine j_callS C (c_Unroller_roomBehind g (xl x) (d := lev) ) (Sp.keep (Sp.of (wr := [(u, .inr (8, [.ref s, .ref ss, .ref la, .ref ke, .int (nI lc), .int (nI uw), .int (nI uh), .int (nI ri), .int mi, .int (bI tm)])), (ss, .inl (g.2.1 0, 10496, .inl (aI SS))), (la, .inl (g.2.1 4, 40, .inr (.inr (.inr (.inr LA))))), (ke, .inl (g.2.1 0, 256, .inl (aI KE))), (s, .inr (7, [.ref ru, .ref sa, .ref ps, .ref to, .int (nI gs), .int (nI rc), .int (nI pn)])), (ru, .inl (g.2.1 0, 4000, .inl (aI RU))), (sa, .inl (g.2.1 0, 4001, .inl (aI SA))), (ps, .inl (g.2.1 0, 30000, .inl (aI PL))), (to, .inl (g.2.1 2, 256, .inl (zI TO)))]) [] [0, 1, 2, 3, 4, 5, 6, 7, 8] rfl rfl rfl rfl (by decide)) PP) d_Unroller_makeSide_1 lk_Unroller_157 mw_Unroller_roomBehind st_Unroller_roomBehind (fit_of hR (by first | decide | (simp only [rmk]; omega)) (by first | decide | (simp only [rmk]; omega)) (by first | decide | (simp only [rmk]; omega)) (by first | decide | (simp only [rmk]; omega))) rfl (cat8 (Nat.le_of_ble_eq_true rfl)) (As := [.int (nI lev)]) (rest := []) rfl (fun r_1 w_1 hp_1 => ?_)
  obtain ⟨rfl, rfl⟩ := hp_1
  refine r_swap ?_
  refine r_afterP (X := [(u, .inr (8, [.ref s, .ref ss, .ref la, .ref ke, .int (nI lc), .int (nI uw), .int (nI uh), .int (nI ri), .int mi, .int (bI tm)])), (ss, .inl (g.2.1 0, 10496, .inl (aI SS))), (la, .inl (g.2.1 4, 40, .inr (.inr (.inr (.inr LA))))), (ke, .inl (g.2.1 0, 256, .inl (aI KE))), (s, .inr (7, [.ref ru, .ref sa, .ref ps, .ref to, .int (nI gs), .int (nI rc), .int (nI pn)])), (ru, .inl (g.2.1 0, 4000, .inl (aI RU))), (sa, .inl (g.2.1 0, 4001, .inl (aI SA))), (ps, .inl (g.2.1 0, 30000, .inl (aI PL))), (to, .inl (g.2.1 2, 256, .inl (zI TO)))]) (X' := [(u, .inr (8, [.ref s, .ref ss, .ref la, .ref ke, .int (nI lc), .int (nI uw), .int (nI uh), .int (nI ri), .int mi, .int (bI tm)])), (ss, .inl (g.2.1 0, 10496, .inl (aI SS))), (la, .inl (g.2.1 4, 40, .inr (.inr (.inr (.inr LA))))), (ke, .inl (g.2.1 0, 256, .inl (aI KE))), (s, .inr (7, [.ref ru, .ref sa, .ref ps, .ref to, .int (nI gs), .int (nI rc), .int (nI pn)])), (ru, .inl (g.2.1 0, 4000, .inl (aI RU))), (sa, .inl (g.2.1 0, 4001, .inl (aI SA))), (ps, .inl (g.2.1 0, 30000, .inl (aI PL))), (to, .inl (g.2.1 2, 256, .inl (zI TO)))]) (pl := PP) (st' := [.int (nI ((lev + 1) * 256))]) (n1 := 0) (n2 := 0) [0, 1, 2, 3, 4, 5, 6, 7, 8] rfl rfl rfl rfl rfl rfl ?_
  refine r_istore C (lv' := [(4, .int (nI ((lev + 1) * 256))), (0, .ref u), (1, .int (nI lev)), (2, .int (nI c)), (3, .int (nI e))]) d_Unroller_makeSide_4 (by decide) rfl ?_
  obtain ⟨he1, he2⟩ := plc hw1 hh1 he
  refine r_aload_n C 1 d_Unroller_makeSide_6 rfl rfl ?_
  refine r_iload C 0 d_Unroller_makeSide_7 rfl ?_
  refine r_iload_n C 3 d_Unroller_makeSide_9 rfl rfl ?_
  refine j_callV C (c_Unroller_put g (xl x) (u := u) (s := s) (ss := ss) (la := la) (ke := ke) (lc := lc) (uw := uw) (uh := uh) (ri := ri) (mi := mi) (tm := tm) (j := (lev + 1) * 256) (c := c) (SS := SS) (by first | assumption | rfl | omega)) (Sp.keep (Sp.of (wr := [(la, .inl (g.2.1 4, 40, .inr (.inr (.inr (.inr LA))))), (ke, .inl (g.2.1 0, 256, .inl (aI KE))), (s, .inr (7, [.ref ru, .ref sa, .ref ps, .ref to, .int (nI gs), .int (nI rc), .int (nI pn)])), (ru, .inl (g.2.1 0, 4000, .inl (aI RU))), (sa, .inl (g.2.1 0, 4001, .inl (aI SA))), (ps, .inl (g.2.1 0, 30000, .inl (aI PL))), (to, .inl (g.2.1 2, 256, .inl (zI TO)))]) [0, 1] [2, 3, 4, 5, 6, 7, 8] rfl rfl rfl rfl (by decide)) PP) d_Unroller_makeSide_10 lk_Unroller_48 mw_Unroller_put vw_Unroller_put (q0 := 0) rfl rfl (fit_of hR (by first | decide | (simp only [rmk]; omega)) (by first | decide | (simp only [rmk]; omega)) (by first | decide | (simp only [rmk]; omega)) (by first | decide | (simp only [rmk]; omega))) rfl (cat8 (Nat.le_of_ble_eq_true rfl)) (As := [.int (nI ((lev + 1) * 256)), .int (nI c)]) (rest := []) rfl (fun r_10 w_10 hp_10 => ?_)
  obtain ⟨rfl, rfl⟩ := hp_10
  refine r_swap ?_
  refine r_afterP (X := [(la, .inl (g.2.1 4, 40, .inr (.inr (.inr (.inr LA))))), (ke, .inl (g.2.1 0, 256, .inl (aI KE))), (s, .inr (7, [.ref ru, .ref sa, .ref ps, .ref to, .int (nI gs), .int (nI rc), .int (nI pn)])), (ru, .inl (g.2.1 0, 4000, .inl (aI RU))), (sa, .inl (g.2.1 0, 4001, .inl (aI SA))), (ps, .inl (g.2.1 0, 30000, .inl (aI PL))), (to, .inl (g.2.1 2, 256, .inl (zI TO))), (u, .inr (8, [.ref s, .ref ss, .ref la, .ref ke, .int (nI lc), .int (nI uw), .int (nI uh), .int (nI ri), .int mi, .int (bI tm)])), (ss, .inl (g.2.1 0, 10496, .inl (aI (up SS ((lev + 1) * 256) c))))]) (X' := [(u, .inr (8, [.ref s, .ref ss, .ref la, .ref ke, .int (nI lc), .int (nI uw), .int (nI uh), .int (nI ri), .int mi, .int (bI tm)])), (ss, .inl (g.2.1 0, 10496, .inl (aI (up SS ((lev + 1) * 256) c)))), (la, .inl (g.2.1 4, 40, .inr (.inr (.inr (.inr LA))))), (ke, .inl (g.2.1 0, 256, .inl (aI KE))), (s, .inr (7, [.ref ru, .ref sa, .ref ps, .ref to, .int (nI gs), .int (nI rc), .int (nI pn)])), (ru, .inl (g.2.1 0, 4000, .inl (aI RU))), (sa, .inl (g.2.1 0, 4001, .inl (aI SA))), (ps, .inl (g.2.1 0, 30000, .inl (aI PL))), (to, .inl (g.2.1 2, 256, .inl (zI TO)))]) (pl := PP) (st' := []) (n1 := 0) (n2 := 0) [7, 8, 0, 1, 2, 3, 4, 5, 6] rfl rfl rfl rfl rfl rfl ?_
  refine r_aload_n C 1 d_Unroller_makeSide_13 rfl rfl ?_
  refine r_iload C 0 d_Unroller_makeSide_14 rfl ?_
  refine r_iconst C (nI 1) d_Unroller_makeSide_16 (by decide) ?_
  refine r_nadd C d_Unroller_makeSide_17 ?_
  refine r_iload_n C 4 d_Unroller_makeSide_18 rfl rfl ?_
  refine j_callV C (c_Unroller_put g (xl x) (u := u) (s := s) (ss := ss) (la := la) (ke := ke) (lc := lc) (uw := uw) (uh := uh) (ri := ri) (mi := mi) (tm := tm) (j := ((lev + 1) * 256) + 1) (c := e) (SS := up SS ((lev + 1) * 256) c) (by first | assumption | rfl | omega)) (Sp.keep (Sp.of (wr := [(la, .inl (g.2.1 4, 40, .inr (.inr (.inr (.inr LA))))), (ke, .inl (g.2.1 0, 256, .inl (aI KE))), (s, .inr (7, [.ref ru, .ref sa, .ref ps, .ref to, .int (nI gs), .int (nI rc), .int (nI pn)])), (ru, .inl (g.2.1 0, 4000, .inl (aI RU))), (sa, .inl (g.2.1 0, 4001, .inl (aI SA))), (ps, .inl (g.2.1 0, 30000, .inl (aI PL))), (to, .inl (g.2.1 2, 256, .inl (zI TO)))]) [0, 1] [2, 3, 4, 5, 6, 7, 8] rfl rfl rfl rfl (by decide)) PP) d_Unroller_makeSide_19 lk_Unroller_48 mw_Unroller_put vw_Unroller_put (q0 := 0) rfl rfl (fit_of hR (by first | decide | (simp only [rmk]; omega)) (by first | decide | (simp only [rmk]; omega)) (by first | decide | (simp only [rmk]; omega)) (by first | decide | (simp only [rmk]; omega))) rfl (cat8 (Nat.le_of_ble_eq_true rfl)) (As := [.int (nI (((lev + 1) * 256) + 1)), .int (nI e)]) (rest := []) rfl (fun r_19 w_19 hp_19 => ?_)
  obtain ⟨rfl, rfl⟩ := hp_19
  refine r_swap ?_
  refine r_afterP (X := [(la, .inl (g.2.1 4, 40, .inr (.inr (.inr (.inr LA))))), (ke, .inl (g.2.1 0, 256, .inl (aI KE))), (s, .inr (7, [.ref ru, .ref sa, .ref ps, .ref to, .int (nI gs), .int (nI rc), .int (nI pn)])), (ru, .inl (g.2.1 0, 4000, .inl (aI RU))), (sa, .inl (g.2.1 0, 4001, .inl (aI SA))), (ps, .inl (g.2.1 0, 30000, .inl (aI PL))), (to, .inl (g.2.1 2, 256, .inl (zI TO))), (u, .inr (8, [.ref s, .ref ss, .ref la, .ref ke, .int (nI lc), .int (nI uw), .int (nI uh), .int (nI ri), .int mi, .int (bI tm)])), (ss, .inl (g.2.1 0, 10496, .inl (aI (up (up SS ((lev + 1) * 256) c) (((lev + 1) * 256) + 1) e))))]) (X' := [(u, .inr (8, [.ref s, .ref ss, .ref la, .ref ke, .int (nI lc), .int (nI uw), .int (nI uh), .int (nI ri), .int mi, .int (bI tm)])), (ss, .inl (g.2.1 0, 10496, .inl (aI (up (up SS ((lev + 1) * 256) c) (((lev + 1) * 256) + 1) e)))), (la, .inl (g.2.1 4, 40, .inr (.inr (.inr (.inr LA))))), (ke, .inl (g.2.1 0, 256, .inl (aI KE))), (s, .inr (7, [.ref ru, .ref sa, .ref ps, .ref to, .int (nI gs), .int (nI rc), .int (nI pn)])), (ru, .inl (g.2.1 0, 4000, .inl (aI RU))), (sa, .inl (g.2.1 0, 4001, .inl (aI SA))), (ps, .inl (g.2.1 0, 30000, .inl (aI PL))), (to, .inl (g.2.1 2, 256, .inl (zI TO)))]) (pl := PP) (st' := []) (n1 := 0) (n2 := 0) [7, 8, 0, 1, 2, 3, 4, 5, 6] rfl rfl rfl rfl rfl rfl ?_
  refine r_aload_n C 1 d_Unroller_makeSide_22 rfl rfl ?_
  refine r_iload_n C 2 d_Unroller_makeSide_23 rfl rfl ?_
  refine r_iconst C (nI 1) d_Unroller_makeSide_24 (by decide) ?_
  refine r_nadd C d_Unroller_makeSide_25 ?_
  refine r_iload C 0 d_Unroller_makeSide_26 rfl ?_
  refine r_iconst C (nI 2) d_Unroller_makeSide_28 (by decide) ?_
  refine j_callV C (hM (u := u) (s := s) (ss := ss) (la := la) (ke := ke) (lc := lc) (uw := uw) (uh := uh) (ri := ri) (mi := mi) (tm := tm) (lev := lev + 1) (ru := ru) (sa := sa) (ps := ps) (to := to) (gs := gs) (rc := rc) (pn := pn) (RU := RU) (SA := SA) (PL := PL) (SS := up (up SS ((lev + 1) * 256) c) (((lev + 1) * 256) + 1) e) (KE := KE) (TO := TO) (LA := LA) (PP := PP) (acc := acc) (lr := lr) (j := (lev + 1) * 256) (z := 2) (by first | assumption | rfl | omega) (by first | assumption | rfl | omega) (by first | assumption | rfl | omega) (by first | assumption | rfl | omega) (by first | assumption | rfl | omega) (by first | assumption | rfl | omega) (by first | assumption | rfl | omega) (by first | assumption | rfl | omega) (by first | assumption | rfl | omega) (up_256 (up_256 h256 (by omega)) he1) (by first | assumption | rfl | omega) (hla) (by first | assumption | rfl | omega) (by first | assumption | rfl | omega) (by rw [seg2]; exact ⟨by simp [hce], fun p hp => by simp at hp; omega⟩)) (Sp.pool (Sp.of (wr := []) [0, 1, 2, 3, 4, 5, 6, 7, 8] [] rfl rfl rfl rfl (by decide)) PP) d_Unroller_makeSide_29 lk_Unroller_143 mw_Unroller_makeSet vw_Unroller_makeSet (q0 := 0) rfl rfl (fit_of hR (by first | decide | (simp only [rmk]; omega)) (by first | decide | (simp only [rmk]; omega)) (by first | decide | (simp only [rmk]; omega)) (by first | decide | (simp only [rmk]; omega))) rfl (cat8 (Nat.le_of_ble_eq_true rfl)) (As := [.int (nI (lev + 1)), .int (nI ((lev + 1) * 256)), .int (nI 2)]) (rest := []) rfl (fun r_29 w_29 hp_29 => ?_)
  obtain ⟨mi2_29, tm2_29, rc2_29, pn2_29, RU2_29, SA2_29, PL2_29, SS2_29, KE2_29, TO2_29, rfl, rfl, hU2_29, hfr_29, h2562_29⟩ := hp_29
  refine r_afterP (X := [(u, .inr (8, [.ref s, .ref ss, .ref la, .ref ke, .int (nI lc), .int (nI uw), .int (nI uh), .int (nI ri), .int mi2_29, .int (bI tm2_29)])), (ss, .inl (g.2.1 0, 10496, .inl (aI SS2_29))), (la, .inl (g.2.1 4, 40, .inr (.inr (.inr (.inr LA))))), (ke, .inl (g.2.1 0, 256, .inl (aI KE2_29))), (s, .inr (7, [.ref ru, .ref sa, .ref ps, .ref to, .int (nI gs), .int (nI rc2_29), .int (nI pn2_29)])), (ru, .inl (g.2.1 0, 4000, .inl (aI RU2_29))), (sa, .inl (g.2.1 0, 4001, .inl (aI SA2_29))), (ps, .inl (g.2.1 0, 30000, .inl (aI PL2_29))), (to, .inl (g.2.1 2, 256, .inl (zI TO2_29)))]) (X' := [(u, .inr (8, [.ref s, .ref ss, .ref la, .ref ke, .int (nI lc), .int (nI uw), .int (nI uh), .int (nI ri), .int mi2_29, .int (bI tm2_29)])), (ss, .inl (g.2.1 0, 10496, .inl (aI SS2_29))), (la, .inl (g.2.1 4, 40, .inr (.inr (.inr (.inr LA))))), (ke, .inl (g.2.1 0, 256, .inl (aI KE2_29))), (s, .inr (7, [.ref ru, .ref sa, .ref ps, .ref to, .int (nI gs), .int (nI rc2_29), .int (nI pn2_29)])), (ru, .inl (g.2.1 0, 4000, .inl (aI RU2_29))), (sa, .inl (g.2.1 0, 4001, .inl (aI SA2_29))), (ps, .inl (g.2.1 0, 30000, .inl (aI PL2_29))), (to, .inl (g.2.1 2, 256, .inl (zI TO2_29)))]) (pl := PP) (st' := []) (n1 := 0) (n2 := 0) [0, 1, 2, 3, 4, 5, 6, 7, 8] rfl rfl rfl rfl rfl rfl ?_
  refine r_vret C E d_Unroller_makeSide_32 (by first | decide | omega | (simp only [rmk]; omega)) (by first | decide | omega | (simp only [rmk]; omega)) ?_
  exact ⟨_, _, _, _, _, _, _, _, _, _, rfl, rfl, by rw [seg2] at hU2_29; exact hU2_29, fun t h => by rw [hfr_29 t (by omega), up_ne _ _ (by omega), up_ne _ _ (by omega)], h2562_29⟩
