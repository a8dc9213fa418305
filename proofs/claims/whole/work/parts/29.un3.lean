/-- z values of SS from j on -/
def segL (SS : Nat → Nat) (j z : Nat) : List Nat := (List.range z).map (fun i => SS (j + i))
section SEG
variable {SS TT : Nat → Nat} {j j' z i t p : Nat}
theorem segL_len (SS : Nat → Nat) (j z : Nat) : (segL SS j z).length = z := by simp [segL]
theorem segL_get (h : i < z) : (segL SS j z)[i]? = some (SS (j + i)) := by simp [segL, List.getElem?_range, h]
theorem segL_snoc (SS : Nat → Nat) (j z : Nat) : segL SS j (z + 1) = segL SS j z ++ [SS (j + z)] := by simp [segL, List.range_succ]
theorem segL_cons (SS : Nat → Nat) (j z : Nat) : segL SS j (z + 1) = SS j :: segL SS (j + 1) z := by
  unfold segL
  rw [List.range_succ_eq_map, List.map_cons, List.map_map]
  refine congrArg _ (List.map_congr_left fun i _ => ?_)
  show SS (j + (i + 1)) = SS (j + 1 + i)
  rw [Nat.add_assoc, Nat.add_comm 1 i]
theorem segL_app (SS : Nat → Nat) (j a b : Nat) : segL SS j (a + b) = segL SS j a ++ segL SS (j + a) b := by
  induction b with
  | zero => simp [segL]
  | succ b ih => rw [← Nat.add_assoc, segL_snoc, segL_snoc, ih, List.append_assoc, Nat.add_assoc]
theorem segL_congr (h : ∀ i, i < z → SS (j + i) = TT (j' + i)) : segL SS j z = segL TT j' z := List.map_congr_left fun i hi => h i (List.mem_range.mp hi)
theorem segL_mem : p ∈ segL SS j z ↔ ∃ i, i < z ∧ SS (j + i) = p := by simp [segL]
theorem segL_drop (h : t ≤ z) : (segL SS j z).drop t = segL SS (j + t) (z - t) := by
  obtain ⟨b, rfl⟩ : ∃ b, z = t + b := ⟨z - t, by omega⟩
  rw [segL_app, List.drop_append_of_le_length (by rw [segL_len]; omega), List.drop_of_length_le (by rw [segL_len]; omega), Nat.add_sub_cancel_left]
  rfl
theorem segL_take (h : t ≤ z) : (segL SS j z).take t = segL SS j t := by
  obtain ⟨b, rfl⟩ : ∃ b, z = t + b := ⟨z - t, by omega⟩
  rw [segL_app, List.take_append_of_le_length (by rw [segL_len]; omega), List.take_of_length_le (by rw [segL_len]; omega)]
theorem segL_of {L : List Nat} (h : L.length = z) (h1 : ∀ t v, L[t]? = some v → SS (j + t) = v) : segL SS j z = L := by
  apply List.ext_getElem?
  intro t
  by_cases q : t < z
  · rw [segL_get q]
    have e : L[t]? = some L[t] := List.getElem?_eq_getElem (by omega)
    rw [e, h1 t _ e]
  · rw [List.getElem?_eq_none (by rw [segL_len]; omega), List.getElem?_eq_none (by omega)]
end SEG
/-- rising places of the grid -/
def SetOK (uw uh : Nat) (L : List Nat) : Prop := L.Pairwise (· < ·) ∧ ∀ p ∈ L, p < uw * uh
theorem SetOK.sub {uw uh : Nat} {L M : List Nat} (h : SetOK uw uh L) (s : M.Sublist L) : SetOK uw uh M := ⟨h.1.sublist s, fun p hp => h.2 p (s.subset hp)⟩
theorem plc {uw uh p : Nat} (hw1 : uw ≤ 16) (hh1 : uh ≤ 16) (hp : p < uw * uh) : p < 256 ∧ p / uw ≤ 15 := by
  have a := Nat.mul_le_mul hw1 hh1
  have b := Nat.div_lt_of_lt_mul hp
  exact ⟨by omega, by omega⟩
/-- how many have the key t -/
def cn (key : Nat → Nat) (L : List Nat) (t : Nat) : Nat := (L.filter (fun p => key p == t)).length
/-- those of key below n, by key -/
def grp (key : Nat → Nat) (L : List Nat) (n : Nat) : List Nat := (List.range n).flatMap (fun k => L.filter (fun p => key p == k))
section SRT
variable {key : Nat → Nat} {L P M : List Nat} {n t lo p : Nat} {S : Nat → Nat} {ro : Nat}
theorem grp_succ : grp key L (n + 1) = grp key L n ++ L.filter (fun p => key p == n) := by simp [grp, List.range_succ, List.flatMap_append]
theorem grp_ls : (grp key L (n + 1)).length = (grp key L n).length + cn key L n := by rw [grp_succ, List.length_append]; rfl
theorem cn_app (A B : List Nat) : cn key (A ++ B) t = cn key A t + cn key B t := by rw [cn, List.filter_append, List.length_append]; rfl
theorem cn_one : cn key [p] t = if key p = t then 1 else 0 := by
  by_cases h : key p = t <;> simp [cn, h]
theorem cn_snoc (SS : Nat → Nat) (j z : Nat) : cn key (segL SS j (z + 1)) t = cn key (segL SS j z) t + if key (SS (j + z)) = t then 1 else 0 := by rw [segL_snoc, cn_app, cn_one]
theorem grp_len : (grp key L n).length = (L.filter (fun p => decide (key p < n))).length := by
  induction n with
  | zero =>
    rw [List.filter_eq_nil_iff.mpr (by simp)]
    rfl
  | succ n ih =>
    rw [grp_ls, ih, cn]
    clear ih
    induction L with
    | nil => rfl
    | cons p L ih =>
      simp only [List.filter_cons]
      by_cases a : key p < n
      · simp [a, show key p ≠ n by omega, show key p < n + 1 by omega]
        omega
      · by_cases b : key p = n
        · simp [b]
          omega
        · simp [a, b, show ¬ key p < n + 1 by omega]
          omega
theorem grp_lo (h : ∀ p ∈ L, lo ≤ key p) (ht : t ≤ lo) : (grp key L t).length = 0 := by
  rw [grp_len, List.length_eq_zero_iff, List.filter_eq_nil_iff]
  intro p hp
  have := h p hp
  simp
  omega
theorem grp_all (h : ∀ p ∈ L, key p < n) : (grp key L n).length = L.length := by
  rw [grp_len, List.filter_eq_self.mpr (fun p hp => decide_eq_true (h p hp))]
theorem grp_mono {m : Nat} (h : n ≤ m) : (grp key L n).length ≤ (grp key L m).length := by
  induction m with
  | zero => rw [show n = 0 by omega]; exact Nat.le_refl _
  | succ m ih =>
    by_cases e : n = m + 1
    · rw [e]; exact Nat.le_refl _
    · rw [grp_ls]
      have := ih (by omega)
      omega
theorem grp_get (h : ∀ k x v, (L.filter (fun p => key p == k))[x]? = some v → S (ro + (grp key L k).length + x) = v) : ∀ t v, (grp key L n)[t]? = some v → S (ro + t) = v := by
  induction n with
  | zero => intro t v q; simp [grp] at q
  | succ n ih =>
    intro t v q
    rw [grp_succ] at q
    by_cases e : t < (grp key L n).length
    · rw [List.getElem?_append_left e] at q
      exact ih t v q
    · rw [List.getElem?_append_right (by omega)] at q
      have := h n _ v q
      rwa [show ro + (grp key L n).length + (t - (grp key L n).length) = ro + t by omega] at this
/-- those of M lie where they belong, behind those of P -/
def Pl (key : Nat → Nat) (L P M : List Nat) (S : Nat → Nat) (ro : Nat) : Prop := ∀ t x v, (M.filter (fun p => key p == t))[x]? = some v → S (ro + (grp key L t).length + cn key P t + x) = v
theorem pl_step (hL : L = P ++ p :: M) (h : Pl key L (P ++ [p]) M S ro) : Pl key L P (p :: M) (up S (ro + ((grp key L (key p)).length + cn key P (key p))) p) ro := by
  intro t x v q
  have hc : ∀ t, cn key L t = cn key P t + (if key p = t then 1 else 0) + cn key M t := by
    intro t
    rw [hL, show p :: M = [p] ++ M from rfl, cn_app, cn_app, cn_one]
    omega
  by_cases e : key p = t
  · subst e
    rw [List.filter_cons_of_pos (by simp)] at q
    cases x with
    | zero =>
      simp only [List.getElem?_cons_zero, Option.some.injEq] at q
      rw [← q, Nat.add_zero, Nat.add_assoc, up_self]
    | succ x =>
      rw [List.getElem?_cons_succ] at q
      have := h _ _ _ q
      rw [cn_app, cn_one, if_pos rfl] at this
      rw [up_ne _ _ (by omega), ← this]
      congr 1
      omega
  · rw [List.filter_cons_of_neg (by simpa using e)] at q
    have hx : x < cn key M t := (List.getElem?_eq_some_iff.mp q).1
    have := h _ _ _ q
    rw [cn_app, cn_one, if_neg e, Nat.add_zero] at this
    rw [up_ne _ _ ?_, this]
    have h1 := hc t
    have h2 := hc (key p)
    rw [if_neg e] at h1
    rw [if_pos rfl] at h2
    have g1 : (grp key L (t + 1)).length = _ := grp_ls
    have g2 : (grp key L (key p + 1)).length = _ := grp_ls
    rcases Nat.lt_or_gt_of_ne e with a | a
    · have := grp_mono (key := key) (L := L) (show key p + 1 ≤ t by omega)
      omega
    · have := grp_mono (key := key) (L := L) (show t + 1 ≤ key p by omega)
      omega
theorem pl_end (h : ∀ p ∈ L, key p < 256) (hz : L.length = n) (q : Pl key L [] L S ro) : segL S ro n = grp key L 256 := by
  refine segL_of (by rw [grp_all h, hz]) (grp_get fun k x v e => ?_)
  have := q k x v e
  simpa [cn] using this
end SRT
theorem keyN_le {uw w c : Nat} {f s2 : Option Nat} (hw0 : 0 < uw) (hw1 : uw ≤ 16) (hY : c / uw ≤ 15) : keyN uw w f s2 c ≤ 255 := by
  have hX : c % uw ≤ 15 := by have := Nat.mod_lt c hw0; omega
  have h1 : c % uw / f.getD 1 ≤ c % uw := Nat.div_le_self _ _
  have h2 : c / uw / s2.getD 1 ≤ c / uw := Nat.div_le_self _ _
  unfold keyN
  split
  · omega
  split
  · omega
  split
  · exact Nat.le_trans (Nat.sub_le _ _) (by omega)
  split
  · omega
  omega
theorem up_256 {S : Nat → Nat} {k v : Nat} (h : ∀ i, S i < 256) (hv : v < 256) : ∀ a, up S k v a < 256 := by
  intro a
  by_cases e : a = k
  · rw [e, up_self]; exact hv
  · rw [up_ne _ _ e]; exact h a
section JG
variable {x : X0} {g : GG} {A : Nat → Prop} {Q : State → Prop} {own : String} {cc : ByteArray} {nL pc cl sl : Nat} {ws : va_W} {lv : List (Nat × Value)} {st : List Value}
theorem nI_gt1 {a G : Nat} (ha : a < 2 ^ 30) (hG : G < 2 ^ 30) : nI G - nI 1 < nI a ↔ G ≤ a := by
  cases G with
  | zero =>
    rw [nI_0z]
    refine ⟨fun _ => Nat.zero_le _, fun _ => ?_⟩
    have := nI_pos' (n := a) (by omega)
    exact Int32.lt_of_lt_of_le (by decide) this
  | succ G => rw [nI_1p, nI_ltI (by omega) (by omega)]; omega
theorem nI_dlt {j : Nat} (hj : j < 2 ^ 30) : nI j - nI 1 < nI j := by rw [nI_gt1 hj hj]; exact Nat.le_refl _
theorem r_gmax (C : CX x g A own cc nL) {index G n2 : Nat} (hd : decode cc pc = .ok (.invokestatic index, 3)) (h1 : Cond.methodLink own index Lib.Math.max.name ∈ GW) (h2 : MA Lib.Math.max.name Lib.Math.max.code) (hf : 1 ≤ (xR x).frames) (hlo : (st.map fun v => v.category).sum + 13 ≤ (xR x).locals) (hcl : cl ≤ (xR x).cells) (hsl : sl ≤ (xR x).slots) (b1 : G < 2 ^ 30) (b2 : n2 < 2 ^ 29) (k : J x g A Q nL ws lv (pc + 3) (.int (nI (max G (n2 + 1)) - nI 1) :: st) cl sl) : J x g A Q nL ws lv pc (.int (nI n2) :: .int (nI G - nI 1) :: st) cl sl := fun H locs ls a b c d =>
  va_mmax C.1 C.2.1 (by rw [C.2.2.1]; exact d.1.symm) C.2.2.2.1 (C.2.2.2.2.1 _ h1) (C.2.2.2.2.1 _ h2.1) (C.2.2.2.2.1 _ h2.2.1) (C.2.2.2.2.1 _ h2.2.2) hf hlo hcl hsl hd (by
    have e : (if nI G - nI 1 < nI n2 then nI n2 else nI G - nI 1) = nI (max G (n2 + 1)) - nI 1 := by
      by_cases h : G ≤ n2
      · rw [if_pos ((nI_gt1 (by omega) b1).mpr h), Nat.max_eq_right (by omega), nI_1p]
      · rw [if_neg (fun z => h ((nI_gt1 (by omega) b1).mp z)), Nat.max_eq_left (by omega)]
    rw [e]
    exact k H locs ls a b c d)
end JG
theorem segL_0 (SS : Nat → Nat) (j : Nat) : segL SS j 0 = [] := rfl
/-- where a place goes lies within the room -/
theorem srt_b {key : Nat → Nat} {SS SC : Nat → Nat} {j m z : Nat} (hm : m < z) (e : SC (j + m) = SS (j + m)) (h : ∀ p ∈ segL SS j z, key p < 256) : (grp key (segL SS j z) (key (SC (j + m)))).length + cn key (segL SS j m) (key (SC (j + m))) < z := by
  have hz1 : z - m = (z - (m + 1)) + 1 := by omega
  have hL1 : segL SS j z = segL SS j m ++ ([SS (j + m)] ++ segL SS (j + m + 1) (z - (m + 1))) := by
    rw [List.singleton_append, ← segL_cons, ← hz1, ← segL_app, show m + (z - m) = z by omega]
  have h1 : cn key (segL SS j m) (key (SC (j + m))) + 1 ≤ cn key (segL SS j z) (key (SC (j + m))) := by
    rw [hL1, cn_app, cn_app, cn_one, if_pos (by rw [e])]
    omega
  have h2 : key (SC (j + m)) < 256 := h _ (segL_mem.mpr ⟨m, hm, e.symm⟩)
  have h3 := grp_mono (key := key) (L := segL SS j z) (show key (SC (j + m)) + 1 ≤ 256 by omega)
  rw [grp_ls, grp_all h, segL_len] at h3
  omega

set_option maxRecDepth 100000 in
theorem fi_Unroller_21 : FI R_Unroller 21 R_Unroller F_Unroller 3 := Or.inl (gw (i := 261) rfl rfl)
set_option maxRecDepth 100000 in
theorem lk_Unroller_174 : LK R_Unroller 174 y_Unroller_keyOf := Or.inl (gw (i := 811) rfl rfl)
set_option maxRecDepth 100000 in
theorem lk_Unroller_48 : LK R_Unroller 48 y_Unroller_put := Or.inl (gw (i := 716) rfl rfl)
set_option maxRecDepth 100000 in
theorem mw_Unroller_keyOf : MW y_Unroller_keyOf b_Unroller_keyOf 6 (some .int) 2 := ⟨(gw (i := 814) rfl rfl), (gw (i := 79) rfl rfl), by decide +kernel⟩
set_option maxRecDepth 100000 in
theorem mw_Unroller_put : MW y_Unroller_put b_Unroller_put 3 none 2 := ⟨(gw (i := 719) rfl rfl), (gw (i := 79) rfl rfl), by decide +kernel⟩
set_option maxRecDepth 100000 in
theorem vw_Unroller_keyOf : VW y_Unroller_keyOf := ⟨(gw (i := 813) rfl rfl), (gw (i := 35) rfl rfl)⟩
set_option maxRecDepth 100000 in
theorem vw_Unroller_put : VW y_Unroller_put := ⟨(gw (i := 718) rfl rfl), (gw (i := 17) rfl rfl)⟩
theorem d_Unroller_sortByKey_0 : decode b_Unroller_sortByKey 0 = .ok (.sipush 256, 3) := by decide +kernel
theorem d_Unroller_sortByKey_3 : decode b_Unroller_sortByKey 3 = .ok (.istore 5, 2) := by decide +kernel
theorem d_Unroller_sortByKey_5 : decode b_Unroller_sortByKey 5 = .ok (.iconst (-1), 1) := by decide +kernel
theorem d_Unroller_sortByKey_6 : decode b_Unroller_sortByKey 6 = .ok (.istore 6, 2) := by decide +kernel
theorem d_Unroller_sortByKey_8 : decode b_Unroller_sortByKey 8 = .ok (.iload_n 2, 1) := by decide +kernel
theorem d_Unroller_sortByKey_9 : decode b_Unroller_sortByKey 9 = .ok (.istore 7, 2) := by decide +kernel
theorem d_Unroller_sortByKey_11 : decode b_Unroller_sortByKey 11 = .ok (.iload 7, 2) := by decide +kernel
theorem d_Unroller_sortByKey_13 : decode b_Unroller_sortByKey 13 = .ok (.iload_n 2, 1) := by decide +kernel
theorem d_Unroller_sortByKey_14 : decode b_Unroller_sortByKey 14 = .ok (.iload_n 3, 1) := by decide +kernel
theorem d_Unroller_sortByKey_15 : decode b_Unroller_sortByKey 15 = .ok (.iadd, 1) := by decide +kernel
theorem d_Unroller_sortByKey_16 : decode b_Unroller_sortByKey 16 = .ok (.if_icmp .ge 40, 3) := by decide +kernel
theorem d_Unroller_sortByKey_19 : decode b_Unroller_sortByKey 19 = .ok (.aload_n 0, 1) := by decide +kernel
theorem d_Unroller_sortByKey_20 : decode b_Unroller_sortByKey 20 = .ok (.aload_n 1, 1) := by decide +kernel
theorem d_Unroller_sortByKey_21 : decode b_Unroller_sortByKey 21 = .ok (.aload_n 0, 1) := by decide +kernel
theorem d_Unroller_sortByKey_22 : decode b_Unroller_sortByKey 22 = .ok (.iload 7, 2) := by decide +kernel
theorem d_Unroller_sortByKey_24 : decode b_Unroller_sortByKey 24 = .ok (.invokevirtual 136, 3) := by decide +kernel
theorem d_Unroller_sortByKey_27 : decode b_Unroller_sortByKey 27 = .ok (.invokevirtual 174, 3) := by decide +kernel
theorem d_Unroller_sortByKey_30 : decode b_Unroller_sortByKey 30 = .ok (.istore 8, 2) := by decide +kernel
theorem d_Unroller_sortByKey_32 : decode b_Unroller_sortByKey 32 = .ok (.iload 5, 2) := by decide +kernel
theorem d_Unroller_sortByKey_34 : decode b_Unroller_sortByKey 34 = .ok (.iload 8, 2) := by decide +kernel
theorem d_Unroller_sortByKey_36 : decode b_Unroller_sortByKey 36 = .ok (.invokestatic 81, 3) := by decide +kernel
theorem d_Unroller_sortByKey_39 : decode b_Unroller_sortByKey 39 = .ok (.istore 5, 2) := by decide +kernel
theorem d_Unroller_sortByKey_41 : decode b_Unroller_sortByKey 41 = .ok (.iload 6, 2) := by decide +kernel
theorem d_Unroller_sortByKey_43 : decode b_Unroller_sortByKey 43 = .ok (.iload 8, 2) := by decide +kernel
theorem d_Unroller_sortByKey_45 : decode b_Unroller_sortByKey 45 = .ok (.invokestatic 178, 3) := by decide +kernel
theorem d_Unroller_sortByKey_48 : decode b_Unroller_sortByKey 48 = .ok (.istore 6, 2) := by decide +kernel
theorem d_Unroller_sortByKey_50 : decode b_Unroller_sortByKey 50 = .ok (.iinc 7 1, 3) := by decide +kernel
theorem d_Unroller_sortByKey_53 : decode b_Unroller_sortByKey 53 = .ok (.goto (-42), 3) := by decide +kernel
theorem d_Unroller_sortByKey_56 : decode b_Unroller_sortByKey 56 = .ok (.iload 5, 2) := by decide +kernel
theorem d_Unroller_sortByKey_58 : decode b_Unroller_sortByKey 58 = .ok (.istore 7, 2) := by decide +kernel
theorem d_Unroller_sortByKey_60 : decode b_Unroller_sortByKey 60 = .ok (.iload 7, 2) := by decide +kernel
theorem d_Unroller_sortByKey_62 : decode b_Unroller_sortByKey 62 = .ok (.iload 6, 2) := by decide +kernel
theorem d_Unroller_sortByKey_64 : decode b_Unroller_sortByKey 64 = .ok (.if_icmp .gt 17, 3) := by decide +kernel
theorem d_Unroller_sortByKey_67 : decode b_Unroller_sortByKey 67 = .ok (.aload_n 0, 1) := by decide +kernel
theorem d_Unroller_sortByKey_68 : decode b_Unroller_sortByKey 68 = .ok (.getfield 21, 3) := by decide +kernel
theorem d_Unroller_sortByKey_71 : decode b_Unroller_sortByKey 71 = .ok (.iload 7, 2) := by decide +kernel
theorem d_Unroller_sortByKey_73 : decode b_Unroller_sortByKey 73 = .ok (.iconst 0, 1) := by decide +kernel
theorem d_Unroller_sortByKey_74 : decode b_Unroller_sortByKey 74 = .ok (.iastore, 1) := by decide +kernel
theorem d_Unroller_sortByKey_75 : decode b_Unroller_sortByKey 75 = .ok (.iinc 7 1, 3) := by decide +kernel
theorem d_Unroller_sortByKey_78 : decode b_Unroller_sortByKey 78 = .ok (.goto (-18), 3) := by decide +kernel
theorem d_Unroller_sortByKey_81 : decode b_Unroller_sortByKey 81 = .ok (.iload_n 2, 1) := by decide +kernel
theorem d_Unroller_sortByKey_82 : decode b_Unroller_sortByKey 82 = .ok (.istore 7, 2) := by decide +kernel
theorem d_Unroller_sortByKey_84 : decode b_Unroller_sortByKey 84 = .ok (.iload 7, 2) := by decide +kernel
theorem d_Unroller_sortByKey_86 : decode b_Unroller_sortByKey 86 = .ok (.iload_n 2, 1) := by decide +kernel
theorem d_Unroller_sortByKey_87 : decode b_Unroller_sortByKey 87 = .ok (.iload_n 3, 1) := by decide +kernel
theorem d_Unroller_sortByKey_88 : decode b_Unroller_sortByKey 88 = .ok (.iadd, 1) := by decide +kernel
theorem d_Unroller_sortByKey_89 : decode b_Unroller_sortByKey 89 = .ok (.if_icmp .ge 29, 3) := by decide +kernel
theorem d_Unroller_sortByKey_92 : decode b_Unroller_sortByKey 92 = .ok (.aload_n 0, 1) := by decide +kernel
theorem d_Unroller_sortByKey_93 : decode b_Unroller_sortByKey 93 = .ok (.getfield 21, 3) := by decide +kernel
theorem d_Unroller_sortByKey_96 : decode b_Unroller_sortByKey 96 = .ok (.aload_n 0, 1) := by decide +kernel
theorem d_Unroller_sortByKey_97 : decode b_Unroller_sortByKey 97 = .ok (.aload_n 1, 1) := by decide +kernel
theorem d_Unroller_sortByKey_98 : decode b_Unroller_sortByKey 98 = .ok (.aload_n 0, 1) := by decide +kernel
theorem d_Unroller_sortByKey_99 : decode b_Unroller_sortByKey 99 = .ok (.iload 7, 2) := by decide +kernel
theorem d_Unroller_sortByKey_101 : decode b_Unroller_sortByKey 101 = .ok (.invokevirtual 136, 3) := by decide +kernel
theorem d_Unroller_sortByKey_104 : decode b_Unroller_sortByKey 104 = .ok (.invokevirtual 174, 3) := by decide +kernel
theorem d_Unroller_sortByKey_107 : decode b_Unroller_sortByKey 107 = .ok (.dup2, 1) := by decide +kernel
theorem d_Unroller_sortByKey_108 : decode b_Unroller_sortByKey 108 = .ok (.iaload, 1) := by decide +kernel
theorem d_Unroller_sortByKey_109 : decode b_Unroller_sortByKey 109 = .ok (.iconst 1, 1) := by decide +kernel
theorem d_Unroller_sortByKey_110 : decode b_Unroller_sortByKey 110 = .ok (.iadd, 1) := by decide +kernel
theorem d_Unroller_sortByKey_111 : decode b_Unroller_sortByKey 111 = .ok (.iastore, 1) := by decide +kernel
theorem d_Unroller_sortByKey_112 : decode b_Unroller_sortByKey 112 = .ok (.iinc 7 1, 3) := by decide +kernel
theorem d_Unroller_sortByKey_115 : decode b_Unroller_sortByKey 115 = .ok (.goto (-31), 3) := by decide +kernel
theorem d_Unroller_sortByKey_118 : decode b_Unroller_sortByKey 118 = .ok (.iload 5, 2) := by decide +kernel
theorem d_Unroller_sortByKey_120 : decode b_Unroller_sortByKey 120 = .ok (.iconst 1, 1) := by decide +kernel
theorem d_Unroller_sortByKey_121 : decode b_Unroller_sortByKey 121 = .ok (.iadd, 1) := by decide +kernel
theorem d_Unroller_sortByKey_122 : decode b_Unroller_sortByKey 122 = .ok (.istore 7, 2) := by decide +kernel
theorem d_Unroller_sortByKey_124 : decode b_Unroller_sortByKey 124 = .ok (.iload 7, 2) := by decide +kernel
theorem d_Unroller_sortByKey_126 : decode b_Unroller_sortByKey 126 = .ok (.iload 6, 2) := by decide +kernel
theorem d_Unroller_sortByKey_128 : decode b_Unroller_sortByKey 128 = .ok (.if_icmp .gt 28, 3) := by decide +kernel
theorem d_Unroller_sortByKey_131 : decode b_Unroller_sortByKey 131 = .ok (.aload_n 0, 1) := by decide +kernel
theorem d_Unroller_sortByKey_132 : decode b_Unroller_sortByKey 132 = .ok (.getfield 21, 3) := by decide +kernel
theorem d_Unroller_sortByKey_135 : decode b_Unroller_sortByKey 135 = .ok (.iload 7, 2) := by decide +kernel
theorem d_Unroller_sortByKey_137 : decode b_Unroller_sortByKey 137 = .ok (.dup2, 1) := by decide +kernel
theorem d_Unroller_sortByKey_138 : decode b_Unroller_sortByKey 138 = .ok (.iaload, 1) := by decide +kernel
theorem d_Unroller_sortByKey_139 : decode b_Unroller_sortByKey 139 = .ok (.aload_n 0, 1) := by decide +kernel
theorem d_Unroller_sortByKey_140 : decode b_Unroller_sortByKey 140 = .ok (.getfield 21, 3) := by decide +kernel
theorem d_Unroller_sortByKey_143 : decode b_Unroller_sortByKey 143 = .ok (.iload 7, 2) := by decide +kernel
theorem d_Unroller_sortByKey_145 : decode b_Unroller_sortByKey 145 = .ok (.iconst 1, 1) := by decide +kernel
theorem d_Unroller_sortByKey_146 : decode b_Unroller_sortByKey 146 = .ok (.isub, 1) := by decide +kernel
theorem d_Unroller_sortByKey_147 : decode b_Unroller_sortByKey 147 = .ok (.iaload, 1) := by decide +kernel
theorem d_Unroller_sortByKey_148 : decode b_Unroller_sortByKey 148 = .ok (.iadd, 1) := by decide +kernel
theorem d_Unroller_sortByKey_149 : decode b_Unroller_sortByKey 149 = .ok (.iastore, 1) := by decide +kernel
theorem d_Unroller_sortByKey_150 : decode b_Unroller_sortByKey 150 = .ok (.iinc 7 1, 3) := by decide +kernel
theorem d_Unroller_sortByKey_153 : decode b_Unroller_sortByKey 153 = .ok (.goto (-29), 3) := by decide +kernel
theorem d_Unroller_sortByKey_156 : decode b_Unroller_sortByKey 156 = .ok (.iload_n 2, 1) := by decide +kernel
theorem d_Unroller_sortByKey_157 : decode b_Unroller_sortByKey 157 = .ok (.iload_n 3, 1) := by decide +kernel
theorem d_Unroller_sortByKey_158 : decode b_Unroller_sortByKey 158 = .ok (.iadd, 1) := by decide +kernel
theorem d_Unroller_sortByKey_159 : decode b_Unroller_sortByKey 159 = .ok (.iconst 1, 1) := by decide +kernel
theorem d_Unroller_sortByKey_160 : decode b_Unroller_sortByKey 160 = .ok (.isub, 1) := by decide +kernel
theorem d_Unroller_sortByKey_161 : decode b_Unroller_sortByKey 161 = .ok (.istore 7, 2) := by decide +kernel
theorem d_Unroller_sortByKey_163 : decode b_Unroller_sortByKey 163 = .ok (.iload 7, 2) := by decide +kernel
theorem d_Unroller_sortByKey_165 : decode b_Unroller_sortByKey 165 = .ok (.iload_n 2, 1) := by decide +kernel
theorem d_Unroller_sortByKey_166 : decode b_Unroller_sortByKey 166 = .ok (.if_icmp .lt 53, 3) := by decide +kernel
theorem d_Unroller_sortByKey_169 : decode b_Unroller_sortByKey 169 = .ok (.aload_n 0, 1) := by decide +kernel
theorem d_Unroller_sortByKey_170 : decode b_Unroller_sortByKey 170 = .ok (.aload_n 1, 1) := by decide +kernel
theorem d_Unroller_sortByKey_171 : decode b_Unroller_sortByKey 171 = .ok (.aload_n 0, 1) := by decide +kernel
theorem d_Unroller_sortByKey_172 : decode b_Unroller_sortByKey 172 = .ok (.iload 7, 2) := by decide +kernel
theorem d_Unroller_sortByKey_174 : decode b_Unroller_sortByKey 174 = .ok (.invokevirtual 136, 3) := by decide +kernel
theorem d_Unroller_sortByKey_177 : decode b_Unroller_sortByKey 177 = .ok (.invokevirtual 174, 3) := by decide +kernel
theorem d_Unroller_sortByKey_180 : decode b_Unroller_sortByKey 180 = .ok (.istore 8, 2) := by decide +kernel
theorem d_Unroller_sortByKey_182 : decode b_Unroller_sortByKey 182 = .ok (.aload_n 0, 1) := by decide +kernel
theorem d_Unroller_sortByKey_183 : decode b_Unroller_sortByKey 183 = .ok (.getfield 21, 3) := by decide +kernel
theorem d_Unroller_sortByKey_186 : decode b_Unroller_sortByKey 186 = .ok (.iload 8, 2) := by decide +kernel
theorem d_Unroller_sortByKey_188 : decode b_Unroller_sortByKey 188 = .ok (.dup2, 1) := by decide +kernel
theorem d_Unroller_sortByKey_189 : decode b_Unroller_sortByKey 189 = .ok (.iaload, 1) := by decide +kernel
theorem d_Unroller_sortByKey_190 : decode b_Unroller_sortByKey 190 = .ok (.iconst 1, 1) := by decide +kernel
theorem d_Unroller_sortByKey_191 : decode b_Unroller_sortByKey 191 = .ok (.isub, 1) := by decide +kernel
theorem d_Unroller_sortByKey_192 : decode b_Unroller_sortByKey 192 = .ok (.iastore, 1) := by decide +kernel
theorem d_Unroller_sortByKey_193 : decode b_Unroller_sortByKey 193 = .ok (.aload_n 0, 1) := by decide +kernel
theorem d_Unroller_sortByKey_194 : decode b_Unroller_sortByKey 194 = .ok (.iload 4, 2) := by decide +kernel
theorem d_Unroller_sortByKey_196 : decode b_Unroller_sortByKey 196 = .ok (.aload_n 0, 1) := by decide +kernel
theorem d_Unroller_sortByKey_197 : decode b_Unroller_sortByKey 197 = .ok (.getfield 21, 3) := by decide +kernel
theorem d_Unroller_sortByKey_200 : decode b_Unroller_sortByKey 200 = .ok (.iload 8, 2) := by decide +kernel
theorem d_Unroller_sortByKey_202 : decode b_Unroller_sortByKey 202 = .ok (.iaload, 1) := by decide +kernel
theorem d_Unroller_sortByKey_203 : decode b_Unroller_sortByKey 203 = .ok (.iadd, 1) := by decide +kernel
theorem d_Unroller_sortByKey_204 : decode b_Unroller_sortByKey 204 = .ok (.aload_n 0, 1) := by decide +kernel
theorem d_Unroller_sortByKey_205 : decode b_Unroller_sortByKey 205 = .ok (.iload 7, 2) := by decide +kernel
theorem d_Unroller_sortByKey_207 : decode b_Unroller_sortByKey 207 = .ok (.invokevirtual 136, 3) := by decide +kernel
theorem d_Unroller_sortByKey_210 : decode b_Unroller_sortByKey 210 = .ok (.invokevirtual 48, 3) := by decide +kernel
theorem d_Unroller_sortByKey_213 : decode b_Unroller_sortByKey 213 = .ok (.iinc 7 (-1), 3) := by decide +kernel
theorem d_Unroller_sortByKey_216 : decode b_Unroller_sortByKey 216 = .ok (.goto (-53), 3) := by decide +kernel
theorem d_Unroller_sortByKey_219 : decode b_Unroller_sortByKey 219 = .ok (.return_, 1) := by decide +kernel
set_option maxHeartbeats 4000000 in
set_option maxRecDepth 100000 in
theorem lp_Unroller_sortByKey_163 (g : GG) {u : Nat} {s : Nat} {ss : Nat} {la : Nat} {ke : Nat} {lc : Nat} {uw : Nat} {uh : Nat} {ri : Nat} {mi : Int32} {tm : Bool} {y : Nat} {w : Nat} {lev : Nat} {j : Nat} {z : Nat} {ro : Nat} {f : Option Nat} {s2 : Option Nat} {ou : Option Nat} {SS : Nat → Nat} {KE : Nat → Nat} {PP : va_W} (hw0 : 0 < uw) (hw1 : uw ≤ 16) (hmem : (y, .inr (3, [.ref (g.2.2.1 w), .int (oI f), .int (oI s2), va_rf ou, .int (nI lev)])) ∈ PP) (hwv : w = 2 ∨ w = 3 ∨ w = 4 ∨ w = 10 ∨ w = 11) (hbl : w = 4 → ∃ f0 s0, f = some f0 ∧ s2 = some s0 ∧ 0 < f0 ∧ 0 < s0 ∧ f0 ≤ 16 ∧ s0 ≤ 16) (hz : z ≤ 256) (hjr : j + z ≤ ro) (hro : ro + 256 ≤ 10496) (hq : ∀ i, i < z → SS (j + i) < 256 ∧ SS (j + i) / uw ≤ 15) {x : X0} {A : Nat → Prop} {Q : State → Prop}  (C : CX x g A R_Unroller b_Unroller_sortByKey 9) (E : RX x g A Q none (fun (r0 : Option Value) (w0 : va_W) => ∃ KE2 : Nat → Nat, ∃ SS2 : Nat → Nat, r0 = none ∧ w0 = [(u, .inr (8, [.ref s, .ref ss, .ref la, .ref ke, .int (nI lc), .int (nI uw), .int (nI uh), .int (nI ri), .int mi, .int (bI tm)])), (ss, .inl (g.2.1 0, 10496, .inl (aI SS2))), (ke, .inl (g.2.1 0, 256, .inl (aI KE2)))] ++ PP ∧ (segL SS2 ro z = grp (keyN uw w f s2) (segL SS j z) 256) ∧ (∀ i, i < ro → SS2 i = SS i) ∧ ((∀ i, SS i < 256) → ∀ i, SS2 i < 256)) (rmk 2 0 0 46).cells (rmk 2 0 0 46).slots) (hR : xR x = (rmk 2 0 0 46)) : ∀ (fuel : Nat) (lo : Nat) (G : Nat) (m : Nat) (KC : Nat → Nat) (SC : Nat → Nat) (hlo : lo ≤ 256) (hG : G ≤ 256) (hA : ∀ t, t < z → lo ≤ keyN uw w f s2 (SS (j + t)) ∧ keyN uw w f s2 (SS (j + t)) < G) (hm1 : m ≤ z) (hB : ∀ t, lo ≤ t → t < G → KC t = (grp (keyN uw w f s2) (segL SS j z) t).length + cn (keyN uw w f s2) (segL SS j m) t) (hP : Pl (keyN uw w f s2) (segL SS j z) (segL SS j m) (segL SS (j + m) (z - m)) SC ro) (hF : ∀ i, i < ro → SC i = SS i) (h256 : (∀ i, SS i < 256) → ∀ i, SC i < 256), m < fuel → J x g A Q 9 ([(u, .inr (8, [.ref s, .ref ss, .ref la, .ref ke, .int (nI lc), .int (nI uw), .int (nI uh), .int (nI ri), .int mi, .int (bI tm)])), (ss, .inl (g.2.1 0, 10496, .inl (aI SC))), (ke, .inl (g.2.1 0, 256, .inl (aI KC)))] ++ PP) [(0, .ref u), (1, .ref y), (2, .int (nI j)), (3, .int (nI z)), (4, .int (nI ro)), (5, .int (nI lo)), (6, .int (nI G - nI 1)), (7, .int (nI (j + m) - nI 1))] 163 [] 0 0 := by
  intro fuel
  induction fuel with
  | zero =>
    intro lo G m KC SC hlo hG hA hm1 hB hP hF h256 hm
    exact absurd hm (Nat.not_lt_zero _)
  | succ fuel ih =>
    intro lo G m KC SC hlo hG hA hm1 hB hP hF h256 hm
    rcases m with _ | m
    · skip
      refine r_iload C 7 d_Unroller_sortByKey_163 rfl ?_
      refine r_iload_n C 2 d_Unroller_sortByKey_165 rfl rfl ?_
      refine r_icmp_lt C 219 d_Unroller_sortByKey_166 (by decide) (fun c_166 => ?_) (fun c_166 => ?_)
      · skip
        refine r_vret C E d_Unroller_sortByKey_219 (by first | decide | omega | (simp only [rmk]; omega)) (by first | decide | omega | (simp only [rmk]; omega)) ?_
        exact ⟨KC, SC, rfl, rfl, pl_end (fun p hp => by obtain ⟨a, h3, rfl⟩ := segL_mem.mp hp; exact Nat.lt_of_lt_of_le (hA a h3).2 hG) (segL_len _ _ _) (by simpa [segL_0] using hP), hF, h256⟩
      · exact absurd (nI_dlt (by omega)) c_166
    · skip
      refine r_norm2 (ws' := [(u, .inr (8, [.ref s, .ref ss, .ref la, .ref ke, .int (nI lc), .int (nI uw), .int (nI uh), .int (nI ri), .int mi, .int (bI tm)])), (ss, .inl (g.2.1 0, 10496, .inl (aI SC))), (ke, .inl (g.2.1 0, 256, .inl (aI KC)))] ++ PP) (st' := []) (lv' := [(0, .ref u), (1, .ref y), (2, .int (nI j)), (3, .int (nI z)), (4, .int (nI ro)), (5, .int (nI lo)), (6, .int (nI G - nI 1)), (7, .int (nI (j + m)))]) rfl rfl (by rw [show j + (m + 1) = (j + m) + 1 from rfl, nI_1p]) ?_
      have e1 : SC (j + m) = SS (j + m) := hF _ (by omega)
      obtain ⟨hq1, hq2⟩ := hq m (by omega)
      rw [← e1] at hq1 hq2
      have hk' : keyN uw w f s2 (SC (j + m)) ≤ 255 := keyN_le hw0 hw1 hq2
      obtain ⟨hA1, hA2⟩ := hA m (by omega)
      rw [← e1] at hA1 hA2
      have hKk : KC (keyN uw w f s2 (SC (j + m))) = (grp (keyN uw w f s2) (segL SS j z) (keyN uw w f s2 (SC (j + m)))).length + cn (keyN uw w f s2) (segL SS j m) (keyN uw w f s2 (SC (j + m))) + 1 := by rw [hB _ hA1 hA2, cn_snoc, if_pos (by rw [e1])]; omega
      have hKb : (grp (keyN uw w f s2) (segL SS j z) (keyN uw w f s2 (SC (j + m)))).length + cn (keyN uw w f s2) (segL SS j m) (keyN uw w f s2 (SC (j + m))) < z := srt_b (by omega) e1 (fun p hp => by obtain ⟨a, h3, rfl⟩ := segL_mem.mp hp; exact Nat.lt_of_lt_of_le (hA a h3).2 hG)
      refine r_iload C 7 d_Unroller_sortByKey_163 rfl ?_
      refine r_iload_n C 2 d_Unroller_sortByKey_165 rfl rfl ?_
      refine r_ncmp_lt C 219 d_Unroller_sortByKey_166 (by decide) (by omega) (by omega) (fun c_166 => ?_) (fun c_166 => ?_)
      · exact absurd c_166 (by omega)
      · skip
        refine r_aload_n C 0 d_Unroller_sortByKey_169 rfl rfl ?_
        refine r_aload_n C 1 d_Unroller_sortByKey_170 rfl rfl ?_
        refine r_aload_n C 0 d_Unroller_sortByKey_171 rfl rfl ?_
        refine r_iload C 7 d_Unroller_sortByKey_172 rfl ?_
        refine j_callV C (c_Unroller_at g (xl x) (u := u) (s := s) (ss := ss) (la := la) (ke := ke) (lc := lc) (uw := uw) (uh := uh) (ri := ri) (mi := mi) (tm := tm) (j := j + m) (SS := SC) (by first | assumption | rfl | omega)) (Sp.keep (Sp.of (wr := [(ke, .inl (g.2.1 0, 256, .inl (aI KC)))]) [0, 1] [2] rfl rfl rfl rfl (by decide)) PP) d_Unroller_sortByKey_174 lk_Unroller_136 mw_Unroller_at vw_Unroller_at (q0 := 0) rfl rfl (fit_of hR (by first | decide | (simp only [rmk]; omega)) (by first | decide | (simp only [rmk]; omega)) (by first | decide | (simp only [rmk]; omega)) (by first | decide | (simp only [rmk]; omega))) rfl (cat8 (Nat.le_of_ble_eq_true rfl)) (As := [.int (nI (j + m))]) (rest := [.ref y, .ref u]) rfl (fun r_174 w_174 hp_174 => ?_)
        obtain ⟨rfl, rfl⟩ := hp_174
        refine r_swap ?_
        refine r_afterP (X := [(ke, .inl (g.2.1 0, 256, .inl (aI KC))), (u, .inr (8, [.ref s, .ref ss, .ref la, .ref ke, .int (nI lc), .int (nI uw), .int (nI uh), .int (nI ri), .int mi, .int (bI tm)])), (ss, .inl (g.2.1 0, 10496, .inl (aI SC)))]) (X' := [(u, .inr (8, [.ref s, .ref ss, .ref la, .ref ke, .int (nI lc), .int (nI uw), .int (nI uh), .int (nI ri), .int mi, .int (bI tm)])), (ss, .inl (g.2.1 0, 10496, .inl (aI SC))), (ke, .inl (g.2.1 0, 256, .inl (aI KC)))]) (pl := PP) (st' := [.int (nI (SC (j + m))), .ref y, .ref u]) (n1 := 0) (n2 := 0) [1, 2, 0] rfl rfl rfl rfl rfl rfl ?_
        refine j_callV C (c_Unroller_keyOf g (xl x) (u := u) (s := s) (ss := ss) (la := la) (ke := ke) (lc := lc) (uw := uw) (uh := uh) (ri := ri) (mi := mi) (tm := tm) (y := y) (c := SC (j + m)) (w := w) (lev := lev) (f := f) (s2 := s2) (ou := ou) (PP := PP) (by first | assumption | rfl | omega) (by first | assumption | rfl | omega) (by first | assumption | rfl | omega) (by first | assumption | rfl | omega) (by first | assumption | rfl | omega) (by first | assumption | rfl | omega) (by first | assumption | rfl | omega)) (Sp.pool (Sp.of (wr := [(ss, .inl (g.2.1 0, 10496, .inl (aI SC))), (ke, .inl (g.2.1 0, 256, .inl (aI KC)))]) [0] [1, 2] rfl rfl rfl rfl (by decide)) PP) d_Unroller_sortByKey_177 lk_Unroller_174 mw_Unroller_keyOf vw_Unroller_keyOf (q0 := 0) rfl rfl (fit_of hR (by first | decide | (simp only [rmk]; omega)) (by first | decide | (simp only [rmk]; omega)) (by first | decide | (simp only [rmk]; omega)) (by first | decide | (simp only [rmk]; omega))) rfl (cat8 (Nat.le_of_ble_eq_true rfl)) (As := [.ref y, .int (nI (SC (j + m)))]) (rest := []) rfl (fun r_177 w_177 hp_177 => ?_)
        obtain ⟨rfl, rfl⟩ := hp_177
        refine r_afterP (X := [(ss, .inl (g.2.1 0, 10496, .inl (aI SC))), (ke, .inl (g.2.1 0, 256, .inl (aI KC))), (u, .inr (8, [.ref s, .ref ss, .ref la, .ref ke, .int (nI lc), .int (nI uw), .int (nI uh), .int (nI ri), .int mi, .int (bI tm)]))]) (X' := [(u, .inr (8, [.ref s, .ref ss, .ref la, .ref ke, .int (nI lc), .int (nI uw), .int (nI uh), .int (nI ri), .int mi, .int (bI tm)])), (ss, .inl (g.2.1 0, 10496, .inl (aI SC))), (ke, .inl (g.2.1 0, 256, .inl (aI KC)))]) (pl := PP) (st' := [.int (nI (keyN uw w f s2 (SC (j + m))))]) (n1 := 0) (n2 := 0) [2, 0, 1] rfl rfl rfl rfl rfl rfl ?_
        refine r_istore C (lv' := [(8, .int (nI (keyN uw w f s2 (SC (j + m))))), (0, .ref u), (1, .ref y), (2, .int (nI j)), (3, .int (nI z)), (4, .int (nI ro)), (5, .int (nI lo)), (6, .int (nI G - nI 1)), (7, .int (nI (j + m)))]) d_Unroller_sortByKey_180 (by decide) rfl ?_
        refine r_aload_n C 1 d_Unroller_sortByKey_182 rfl rfl ?_
        refine r_get C 0 3 d_Unroller_sortByKey_183 ci_Unroller fi_Unroller_21 rfl (by decide) rfl rfl ?_
        refine r_iload C 0 d_Unroller_sortByKey_186 rfl ?_
        refine r_dup2 C d_Unroller_sortByKey_188 rfl rfl ?_
        refine r_nald C 2 0 d_Unroller_sortByKey_189 rfl rfl (by omega) (by decide) ?_
        refine r_iconst C (nI 1) d_Unroller_sortByKey_190 (by decide) ?_
        refine r_nsub C d_Unroller_sortByKey_191 (by omega) ?_
        refine r_nast C (ws' := [(u, .inr (8, [.ref s, .ref ss, .ref la, .ref ke, .int (nI lc), .int (nI uw), .int (nI uh), .int (nI ri), .int mi, .int (bI tm)])), (ss, .inl (g.2.1 0, 10496, .inl (aI SC))), (ke, .inl (g.2.1 0, 256, .inl (aI (up KC (keyN uw w f s2 (SC (j + m))) ((KC (keyN uw w f s2 (SC (j + m)))) - 1)))))] ++ PP) 2 0 d_Unroller_sortByKey_192 rfl rfl (by omega) (by decide) rfl ?_
        refine r_aload_n C 1 d_Unroller_sortByKey_193 rfl rfl ?_
        refine r_iload C 5 d_Unroller_sortByKey_194 rfl ?_
        refine r_aload_n C 1 d_Unroller_sortByKey_196 rfl rfl ?_
        refine r_get C 0 3 d_Unroller_sortByKey_197 ci_Unroller fi_Unroller_21 rfl (by decide) rfl rfl ?_
        refine r_iload C 0 d_Unroller_sortByKey_200 rfl ?_
        refine r_nald C 2 0 d_Unroller_sortByKey_202 rfl rfl (by omega) (by decide) ?_
        refine r_top (v' := nI ((grp (keyN uw w f s2) (segL SS j z) (keyN uw w f s2 (SC (j + m)))).length + cn (keyN uw w f s2) (segL SS j m) (keyN uw w f s2 (SC (j + m))))) (by rw [up_self, hKk, Nat.add_sub_cancel]) ?_
        refine r_nadd C d_Unroller_sortByKey_203 ?_
        refine r_aload_n C 1 d_Unroller_sortByKey_204 rfl rfl ?_
        refine r_iload C 8 d_Unroller_sortByKey_205 rfl ?_
        refine j_callV C (c_Unroller_at g (xl x) (u := u) (s := s) (ss := ss) (la := la) (ke := ke) (lc := lc) (uw := uw) (uh := uh) (ri := ri) (mi := mi) (tm := tm) (j := j + m) (SS := SC) (by first | assumption | rfl | omega)) (Sp.keep (Sp.of (wr := [(ke, .inl (g.2.1 0, 256, .inl (aI (up KC (keyN uw w f s2 (SC (j + m))) ((KC (keyN uw w f s2 (SC (j + m)))) - 1)))))]) [0, 1] [2] rfl rfl rfl rfl (by decide)) PP) d_Unroller_sortByKey_207 lk_Unroller_136 mw_Unroller_at vw_Unroller_at (q0 := 0) rfl rfl (fit_of hR (by first | decide | (simp only [rmk]; omega)) (by first | decide | (simp only [rmk]; omega)) (by first | decide | (simp only [rmk]; omega)) (by first | decide | (simp only [rmk]; omega))) rfl (cat8 (Nat.le_of_ble_eq_true rfl)) (As := [.int (nI (j + m))]) (rest := [.int (nI (ro + ((grp (keyN uw w f s2) (segL SS j z) (keyN uw w f s2 (SC (j + m)))).length + cn (keyN uw w f s2) (segL SS j m) (keyN uw w f s2 (SC (j + m)))))), .ref u]) rfl (fun r_207 w_207 hp_207 => ?_)
        obtain ⟨rfl, rfl⟩ := hp_207
        refine r_swap ?_
        refine r_afterP (X := [(ke, .inl (g.2.1 0, 256, .inl (aI (up KC (keyN uw w f s2 (SC (j + m))) ((KC (keyN uw w f s2 (SC (j + m)))) - 1))))), (u, .inr (8, [.ref s, .ref ss, .ref la, .ref ke, .int (nI lc), .int (nI uw), .int (nI uh), .int (nI ri), .int mi, .int (bI tm)])), (ss, .inl (g.2.1 0, 10496, .inl (aI SC)))]) (X' := [(u, .inr (8, [.ref s, .ref ss, .ref la, .ref ke, .int (nI lc), .int (nI uw), .int (nI uh), .int (nI ri), .int mi, .int (bI tm)])), (ss, .inl (g.2.1 0, 10496, .inl (aI SC))), (ke, .inl (g.2.1 0, 256, .inl (aI (up KC (keyN uw w f s2 (SC (j + m))) ((KC (keyN uw w f s2 (SC (j + m)))) - 1)))))]) (pl := PP) (st' := [.int (nI (SC (j + m))), .int (nI (ro + ((grp (keyN uw w f s2) (segL SS j z) (keyN uw w f s2 (SC (j + m)))).length + cn (keyN uw w f s2) (segL SS j m) (keyN uw w f s2 (SC (j + m)))))), .ref u]) (n1 := 0) (n2 := 0) [1, 2, 0] rfl rfl rfl rfl rfl rfl ?_
        refine j_callV C (c_Unroller_put g (xl x) (u := u) (s := s) (ss := ss) (la := la) (ke := ke) (lc := lc) (uw := uw) (uh := uh) (ri := ri) (mi := mi) (tm := tm) (j := ro + ((grp (keyN uw w f s2) (segL SS j z) (keyN uw w f s2 (SC (j + m)))).length + cn (keyN uw w f s2) (segL SS j m) (keyN uw w f s2 (SC (j + m))))) (c := SC (j + m)) (SS := SC) (by first | assumption | rfl | omega)) (Sp.keep (Sp.of (wr := [(ke, .inl (g.2.1 0, 256, .inl (aI (up KC (keyN uw w f s2 (SC (j + m))) ((KC (keyN uw w f s2 (SC (j + m)))) - 1)))))]) [0, 1] [2] rfl rfl rfl rfl (by decide)) PP) d_Unroller_sortByKey_210 lk_Unroller_48 mw_Unroller_put vw_Unroller_put (q0 := 0) rfl rfl (fit_of hR (by first | decide | (simp only [rmk]; omega)) (by first | decide | (simp only [rmk]; omega)) (by first | decide | (simp only [rmk]; omega)) (by first | decide | (simp only [rmk]; omega))) rfl (cat8 (Nat.le_of_ble_eq_true rfl)) (As := [.int (nI (ro + ((grp (keyN uw w f s2) (segL SS j z) (keyN uw w f s2 (SC (j + m)))).length + cn (keyN uw w f s2) (segL SS j m) (keyN uw w f s2 (SC (j + m)))))), .int (nI (SC (j + m)))]) (rest := []) rfl (fun r_210 w_210 hp_210 => ?_)
        obtain ⟨rfl, rfl⟩ := hp_210
        refine r_swap ?_
        refine r_afterP (X := [(ke, .inl (g.2.1 0, 256, .inl (aI (up KC (keyN uw w f s2 (SC (j + m))) ((KC (keyN uw w f s2 (SC (j + m)))) - 1))))), (u, .inr (8, [.ref s, .ref ss, .ref la, .ref ke, .int (nI lc), .int (nI uw), .int (nI uh), .int (nI ri), .int mi, .int (bI tm)])), (ss, .inl (g.2.1 0, 10496, .inl (aI (up SC (ro + ((grp (keyN uw w f s2) (segL SS j z) (keyN uw w f s2 (SC (j + m)))).length + cn (keyN uw w f s2) (segL SS j m) (keyN uw w f s2 (SC (j + m))))) (SC (j + m))))))]) (X' := [(u, .inr (8, [.ref s, .ref ss, .ref la, .ref ke, .int (nI lc), .int (nI uw), .int (nI uh), .int (nI ri), .int mi, .int (bI tm)])), (ss, .inl (g.2.1 0, 10496, .inl (aI (up SC (ro + ((grp (keyN uw w f s2) (segL SS j z) (keyN uw w f s2 (SC (j + m)))).length + cn (keyN uw w f s2) (segL SS j m) (keyN uw w f s2 (SC (j + m))))) (SC (j + m)))))), (ke, .inl (g.2.1 0, 256, .inl (aI (up KC (keyN uw w f s2 (SC (j + m))) ((KC (keyN uw w f s2 (SC (j + m)))) - 1)))))]) (pl := PP) (st' := []) (n1 := 0) (n2 := 0) [1, 2, 0] rfl rfl rfl rfl rfl rfl ?_
        refine r_iinc C 8 (nI (j + m) - nI 1) (lv' := [(7, .int (nI (j + m) - nI 1)), (8, .int (nI (keyN uw w f s2 (SC (j + m))))), (0, .ref u), (1, .ref y), (2, .int (nI j)), (3, .int (nI z)), (4, .int (nI ro)), (5, .int (nI lo)), (6, .int (nI G - nI 1))]) d_Unroller_sortByKey_213 rfl (nI_m1 _) (by decide) rfl ?_
        refine r_goto C 163 d_Unroller_sortByKey_216 (by decide) ?_
        refine r_lv (lv' := [(0, .ref u), (1, .ref y), (2, .int (nI j)), (3, .int (nI z)), (4, .int (nI ro)), (5, .int (nI lo)), (6, .int (nI G - nI 1)), (7, .int (nI (j + m) - nI 1))]) [2, 3, 4, 5, 6, 7, 8, 0] rfl ?_
        exact ih lo G m (up KC (keyN uw w f s2 (SC (j + m))) ((KC (keyN uw w f s2 (SC (j + m)))) - 1)) (up SC (ro + ((grp (keyN uw w f s2) (segL SS j z) (keyN uw w f s2 (SC (j + m)))).length + cn (keyN uw w f s2) (segL SS j m) (keyN uw w f s2 (SC (j + m))))) (SC (j + m))) (by first | assumption | rfl | omega) (by first | assumption | rfl | omega) (by first | assumption | rfl | omega) (by first | assumption | rfl | omega) (fun t h1 h2 => by
            have e0 := hB t h1 h2
            rw [cn_snoc] at e0
            by_cases e : keyN uw w f s2 (SC (j + m)) = t
            · rw [e, up_self, e0, if_pos (by rw [← e1]; exact e)]; omega
            · rw [up_ne _ _ (fun q => e q.symm), e0, if_neg (by rw [← e1]; exact e)]; omega) (by
            have hz1 : z - m = (z - (m + 1)) + 1 := by omega
            have hL1 : (segL SS j z) = segL SS j m ++ SS (j + m) :: segL SS (j + m + 1) (z - (m + 1)) := by rw [← segL_cons, ← hz1, ← segL_app, show m + (z - m) = z by omega]
            have := pl_step (S := SC) (ro := ro) hL1 (by rw [← segL_snoc]; exact hP)
            rw [hz1, segL_cons, ← e1]
            rw [← e1] at this
            exact this) (fun a ha => by rw [up_ne _ _ (by omega)]; exact hF a ha) (fun h => up_256 (h256 h) (h256 h _)) (by omega)
set_option maxHeartbeats 4000000 in
set_option maxRecDepth 100000 in
theorem lp_Unroller_sortByKey_124 (g : GG) {u : Nat} {s : Nat} {ss : Nat} {la : Nat} {ke : Nat} {lc : Nat} {uw : Nat} {uh : Nat} {ri : Nat} {mi : Int32} {tm : Bool} {y : Nat} {w : Nat} {lev : Nat} {j : Nat} {z : Nat} {ro : Nat} {f : Option Nat} {s2 : Option Nat} {ou : Option Nat} {SS : Nat → Nat} {KE : Nat → Nat} {PP : va_W} (hw0 : 0 < uw) (hw1 : uw ≤ 16) (hmem : (y, .inr (3, [.ref (g.2.2.1 w), .int (oI f), .int (oI s2), va_rf ou, .int (nI lev)])) ∈ PP) (hwv : w = 2 ∨ w = 3 ∨ w = 4 ∨ w = 10 ∨ w = 11) (hbl : w = 4 → ∃ f0 s0, f = some f0 ∧ s2 = some s0 ∧ 0 < f0 ∧ 0 < s0 ∧ f0 ≤ 16 ∧ s0 ≤ 16) (hz : z ≤ 256) (hjr : j + z ≤ ro) (hro : ro + 256 ≤ 10496) (hq : ∀ i, i < z → SS (j + i) < 256 ∧ SS (j + i) / uw ≤ 15) {x : X0} {A : Nat → Prop} {Q : State → Prop}  (C : CX x g A R_Unroller b_Unroller_sortByKey 9) (E : RX x g A Q none (fun (r0 : Option Value) (w0 : va_W) => ∃ KE2 : Nat → Nat, ∃ SS2 : Nat → Nat, r0 = none ∧ w0 = [(u, .inr (8, [.ref s, .ref ss, .ref la, .ref ke, .int (nI lc), .int (nI uw), .int (nI uh), .int (nI ri), .int mi, .int (bI tm)])), (ss, .inl (g.2.1 0, 10496, .inl (aI SS2))), (ke, .inl (g.2.1 0, 256, .inl (aI KE2)))] ++ PP ∧ (segL SS2 ro z = grp (keyN uw w f s2) (segL SS j z) 256) ∧ (∀ i, i < ro → SS2 i = SS i) ∧ ((∀ i, SS i < 256) → ∀ i, SS2 i < 256)) (rmk 2 0 0 46).cells (rmk 2 0 0 46).slots) (hR : xR x = (rmk 2 0 0 46)) : ∀ (fuel : Nat) (lo : Nat) (G : Nat) (c : Nat) (KC : Nat → Nat) (hlo : lo ≤ 256) (hG : G ≤ 256) (hA : ∀ t, t < z → lo ≤ keyN uw w f s2 (SS (j + t)) ∧ keyN uw w f s2 (SS (j + t)) < G) (hc : lo < c) (hc2 : c ≤ 257) (hB : ∀ t, lo ≤ t → t < G → KC t = if t < c then (grp (keyN uw w f s2) (segL SS j z) (t + 1)).length else cn (keyN uw w f s2) (segL SS j z) t), 257 - c < fuel → J x g A Q 9 ([(u, .inr (8, [.ref s, .ref ss, .ref la, .ref ke, .int (nI lc), .int (nI uw), .int (nI uh), .int (nI ri), .int mi, .int (bI tm)])), (ss, .inl (g.2.1 0, 10496, .inl (aI SS))), (ke, .inl (g.2.1 0, 256, .inl (aI KC)))] ++ PP) [(0, .ref u), (1, .ref y), (2, .int (nI j)), (3, .int (nI z)), (4, .int (nI ro)), (5, .int (nI lo)), (6, .int (nI G - nI 1)), (7, .int (nI c))] 124 [] 0 0 := by
  intro fuel
  induction fuel with
  | zero =>
    intro lo G c KC hlo hG hA hc hc2 hB hm
    exact absurd hm (Nat.not_lt_zero _)
  | succ fuel ih =>
    intro lo G c KC hlo hG hA hc hc2 hB hm
    refine r_iload C 7 d_Unroller_sortByKey_124 rfl ?_
    refine r_iload C 6 d_Unroller_sortByKey_126 rfl ?_
    refine r_icmp_gt C 156 d_Unroller_sortByKey_128 (by decide) (fun c_128 => ?_) (fun c_128 => ?_)
    · skip
      refine r_iload_n C 2 d_Unroller_sortByKey_156 rfl rfl ?_
      refine r_iload_n C 3 d_Unroller_sortByKey_157 rfl rfl ?_
      refine r_nadd C d_Unroller_sortByKey_158 ?_
      refine r_iconst C (nI 1) d_Unroller_sortByKey_159 (by decide) ?_
      refine r_isub C d_Unroller_sortByKey_160 ?_
      refine r_istore C (lv' := [(7, .int ((nI (j + z)) - (nI 1))), (0, .ref u), (1, .ref y), (2, .int (nI j)), (3, .int (nI z)), (4, .int (nI ro)), (5, .int (nI lo)), (6, .int (nI G - nI 1))]) d_Unroller_sortByKey_161 (by decide) rfl ?_
      refine r_lv (lv' := [(0, .ref u), (1, .ref y), (2, .int (nI j)), (3, .int (nI z)), (4, .int (nI ro)), (5, .int (nI lo)), (6, .int (nI G - nI 1)), (7, .int (nI (j + z) - nI 1))]) [1, 2, 3, 4, 5, 6, 7, 0] rfl ?_
      exact lp_Unroller_sortByKey_163 g (u := u) (s := s) (ss := ss) (la := la) (ke := ke) (lc := lc) (uw := uw) (uh := uh) (ri := ri) (mi := mi) (tm := tm) (y := y) (w := w) (lev := lev) (j := j) (z := z) (ro := ro) (f := f) (s2 := s2) (ou := ou) (SS := SS) (KE := KE) (PP := PP) hw0 hw1 hmem hwv hbl hz hjr hro hq  C E hR _ lo G z KC SS (by first | assumption | rfl | omega) (by first | assumption | rfl | omega) (by first | assumption | rfl | omega) (by first | assumption | rfl | omega) (fun t h1 h2 => by
          rw [hB t h1 h2, if_pos (by have := (nI_gt1 (by omega) (by omega)).mp c_128; omega), grp_ls]) (by rw [Nat.sub_self]; intro t x v q; simp [segL] at q) (fun _ _ => rfl) (fun h => h) (Nat.lt_succ_self _)
    · skip
      have hcG : c < G := Nat.lt_of_not_le (fun q => c_128 ((nI_gt1 (by omega) (by omega)).mpr q))
      refine r_aload_n C 0 d_Unroller_sortByKey_131 rfl rfl ?_
      refine r_get C 0 3 d_Unroller_sortByKey_132 ci_Unroller fi_Unroller_21 rfl (by decide) rfl rfl ?_
      refine r_iload C 7 d_Unroller_sortByKey_135 rfl ?_
      refine r_dup2 C d_Unroller_sortByKey_137 rfl rfl ?_
      refine r_nald C 2 0 d_Unroller_sortByKey_138 rfl rfl (by omega) (by decide) ?_
      refine r_aload_n C 0 d_Unroller_sortByKey_139 rfl rfl ?_
      refine r_get C 0 3 d_Unroller_sortByKey_140 ci_Unroller fi_Unroller_21 rfl (by decide) rfl rfl ?_
      refine r_iload C 7 d_Unroller_sortByKey_143 rfl ?_
      refine r_iconst C (nI 1) d_Unroller_sortByKey_145 (by decide) ?_
      refine r_nsub C d_Unroller_sortByKey_146 (by omega) ?_
      refine r_nald C 2 0 d_Unroller_sortByKey_147 rfl rfl (by omega) (by decide) ?_
      refine r_nadd C d_Unroller_sortByKey_148 ?_
      refine r_nast C (ws' := [(u, .inr (8, [.ref s, .ref ss, .ref la, .ref ke, .int (nI lc), .int (nI uw), .int (nI uh), .int (nI ri), .int mi, .int (bI tm)])), (ss, .inl (g.2.1 0, 10496, .inl (aI SS))), (ke, .inl (g.2.1 0, 256, .inl (aI (up KC c ((KC c) + (KC (c - 1)))))))] ++ PP) 2 0 d_Unroller_sortByKey_149 rfl rfl (by omega) (by decide) rfl ?_
      refine r_iinc C 7 (nI (c + 1)) (lv' := [(7, .int (nI (c + 1))), (0, .ref u), (1, .ref y), (2, .int (nI j)), (3, .int (nI z)), (4, .int (nI ro)), (5, .int (nI lo)), (6, .int (nI G - nI 1))]) d_Unroller_sortByKey_150 rfl (nI_inc 1 _) (by decide) rfl ?_
      refine r_goto C 124 d_Unroller_sortByKey_153 (by decide) ?_
      refine r_lv (lv' := [(0, .ref u), (1, .ref y), (2, .int (nI j)), (3, .int (nI z)), (4, .int (nI ro)), (5, .int (nI lo)), (6, .int (nI G - nI 1)), (7, .int (nI (c + 1)))]) [1, 2, 3, 4, 5, 6, 7, 0] rfl ?_
      exact ih lo G (c + 1) (up KC c ((KC c) + (KC (c - 1)))) (by first | assumption | rfl | omega) (by first | assumption | rfl | omega) (by first | assumption | rfl | omega) (by first | assumption | rfl | omega) (by first | assumption | rfl | omega) (fun t h1 h2 => by
          by_cases e : t = c
          · subst e
            rw [up_self, hB _ (by omega) (by omega), hB _ (by omega) (by omega), if_neg (by omega), if_pos (by omega), if_pos (by omega), show t - 1 + 1 = t by omega, grp_ls (n := t), Nat.add_comm]
          · rw [up_ne _ _ e, hB t h1 h2]
            by_cases q : t < c
            · rw [if_pos q, if_pos (by omega)]
            · rw [if_neg q, if_neg (by omega)]) (by omega)
set_option maxHeartbeats 4000000 in
set_option maxRecDepth 100000 in
theorem lp_Unroller_sortByKey_84 (g : GG) {u : Nat} {s : Nat} {ss : Nat} {la : Nat} {ke : Nat} {lc : Nat} {uw : Nat} {uh : Nat} {ri : Nat} {mi : Int32} {tm : Bool} {y : Nat} {w : Nat} {lev : Nat} {j : Nat} {z : Nat} {ro : Nat} {f : Option Nat} {s2 : Option Nat} {ou : Option Nat} {SS : Nat → Nat} {KE : Nat → Nat} {PP : va_W} (hw0 : 0 < uw) (hw1 : uw ≤ 16) (hmem : (y, .inr (3, [.ref (g.2.2.1 w), .int (oI f), .int (oI s2), va_rf ou, .int (nI lev)])) ∈ PP) (hwv : w = 2 ∨ w = 3 ∨ w = 4 ∨ w = 10 ∨ w = 11) (hbl : w = 4 → ∃ f0 s0, f = some f0 ∧ s2 = some s0 ∧ 0 < f0 ∧ 0 < s0 ∧ f0 ≤ 16 ∧ s0 ≤ 16) (hz : z ≤ 256) (hjr : j + z ≤ ro) (hro : ro + 256 ≤ 10496) (hq : ∀ i, i < z → SS (j + i) < 256 ∧ SS (j + i) / uw ≤ 15) {x : X0} {A : Nat → Prop} {Q : State → Prop}  (C : CX x g A R_Unroller b_Unroller_sortByKey 9) (E : RX x g A Q none (fun (r0 : Option Value) (w0 : va_W) => ∃ KE2 : Nat → Nat, ∃ SS2 : Nat → Nat, r0 = none ∧ w0 = [(u, .inr (8, [.ref s, .ref ss, .ref la, .ref ke, .int (nI lc), .int (nI uw), .int (nI uh), .int (nI ri), .int mi, .int (bI tm)])), (ss, .inl (g.2.1 0, 10496, .inl (aI SS2))), (ke, .inl (g.2.1 0, 256, .inl (aI KE2)))] ++ PP ∧ (segL SS2 ro z = grp (keyN uw w f s2) (segL SS j z) 256) ∧ (∀ i, i < ro → SS2 i = SS i) ∧ ((∀ i, SS i < 256) → ∀ i, SS2 i < 256)) (rmk 2 0 0 46).cells (rmk 2 0 0 46).slots) (hR : xR x = (rmk 2 0 0 46)) : ∀ (fuel : Nat) (lo : Nat) (G : Nat) (i : Nat) (KC : Nat → Nat) (hlo : lo ≤ 256) (hG : G ≤ 256) (hA : ∀ t, t < z → lo ≤ keyN uw w f s2 (SS (j + t)) ∧ keyN uw w f s2 (SS (j + t)) < G) (hi1 : j ≤ i) (hi2 : i ≤ j + z) (hB : ∀ t, lo ≤ t → t < G → KC t = cn (keyN uw w f s2) (segL SS j (i - j)) t), j + z - i < fuel → J x g A Q 9 ([(u, .inr (8, [.ref s, .ref ss, .ref la, .ref ke, .int (nI lc), .int (nI uw), .int (nI uh), .int (nI ri), .int mi, .int (bI tm)])), (ss, .inl (g.2.1 0, 10496, .inl (aI SS))), (ke, .inl (g.2.1 0, 256, .inl (aI KC)))] ++ PP) [(0, .ref u), (1, .ref y), (2, .int (nI j)), (3, .int (nI z)), (4, .int (nI ro)), (5, .int (nI lo)), (6, .int (nI G - nI 1)), (7, .int (nI i))] 84 [] 0 0 := by
  intro fuel
  induction fuel with
  | zero =>
    intro lo G i KC hlo hG hA hi1 hi2 hB hm
    exact absurd hm (Nat.not_lt_zero _)
  | succ fuel ih =>
    intro lo G i KC hlo hG hA hi1 hi2 hB hm
    refine r_iload C 7 d_Unroller_sortByKey_84 rfl ?_
    refine r_iload_n C 2 d_Unroller_sortByKey_86 rfl rfl ?_
    refine r_iload_n C 3 d_Unroller_sortByKey_87 rfl rfl ?_
    refine r_nadd C d_Unroller_sortByKey_88 ?_
    refine r_ncmp_ge C 118 d_Unroller_sortByKey_89 (by decide) (by omega) (by omega) (fun c_89 => ?_) (fun c_89 => ?_)
    · skip
      refine r_iload C 5 d_Unroller_sortByKey_118 rfl ?_
      refine r_iconst C (nI 1) d_Unroller_sortByKey_120 (by decide) ?_
      refine r_nadd C d_Unroller_sortByKey_121 ?_
      refine r_istore C (lv' := [(7, .int (nI (lo + 1))), (0, .ref u), (1, .ref y), (2, .int (nI j)), (3, .int (nI z)), (4, .int (nI ro)), (5, .int (nI lo)), (6, .int (nI G - nI 1))]) d_Unroller_sortByKey_122 (by decide) rfl ?_
      refine r_lv (lv' := [(0, .ref u), (1, .ref y), (2, .int (nI j)), (3, .int (nI z)), (4, .int (nI ro)), (5, .int (nI lo)), (6, .int (nI G - nI 1)), (7, .int (nI (lo + 1)))]) [1, 2, 3, 4, 5, 6, 7, 0] rfl ?_
      exact lp_Unroller_sortByKey_124 g (u := u) (s := s) (ss := ss) (la := la) (ke := ke) (lc := lc) (uw := uw) (uh := uh) (ri := ri) (mi := mi) (tm := tm) (y := y) (w := w) (lev := lev) (j := j) (z := z) (ro := ro) (f := f) (s2 := s2) (ou := ou) (SS := SS) (KE := KE) (PP := PP) hw0 hw1 hmem hwv hbl hz hjr hro hq  C E hR _ lo G (lo + 1) KC (by first | assumption | rfl | omega) (by first | assumption | rfl | omega) (by first | assumption | rfl | omega) (by first | assumption | rfl | omega) (by first | assumption | rfl | omega) (fun t h1 h2 => by
          rw [hB t h1 h2, show i - j = z by omega]
          by_cases e : t < lo + 1
          · rw [if_pos e, grp_ls, grp_lo (lo := lo) (fun p hp => by obtain ⟨a, h3, rfl⟩ := segL_mem.mp hp; exact (hA a h3).1) (by omega), Nat.zero_add]
          · rw [if_neg e]) (Nat.lt_succ_self _)
    · skip
      have hq' := hq (i - j) (by omega)
      rw [show j + (i - j) = i by omega] at hq'
      obtain ⟨hq1, hq2⟩ := hq'
      have hk' : keyN uw w f s2 (SS i) ≤ 255 := keyN_le hw0 hw1 hq2
      have hqx : keyN uw w f s2 (SS i) = keyN uw w f s2 (SS (j + (i - j))) := by rw [show j + (i - j) = i by omega]
      have hAi := hA (i - j) (by omega)
      rw [← hqx] at hAi
      refine r_aload_n C 0 d_Unroller_sortByKey_92 rfl rfl ?_
      refine r_get C 0 3 d_Unroller_sortByKey_93 ci_Unroller fi_Unroller_21 rfl (by decide) rfl rfl ?_
      refine r_aload_n C 0 d_Unroller_sortByKey_96 rfl rfl ?_
      refine r_aload_n C 1 d_Unroller_sortByKey_97 rfl rfl ?_
      refine r_aload_n C 0 d_Unroller_sortByKey_98 rfl rfl ?_
      refine r_iload C 7 d_Unroller_sortByKey_99 rfl ?_
      refine j_callV C (c_Unroller_at g (xl x) (u := u) (s := s) (ss := ss) (la := la) (ke := ke) (lc := lc) (uw := uw) (uh := uh) (ri := ri) (mi := mi) (tm := tm) (j := i) (SS := SS) (by first | assumption | rfl | omega)) (Sp.keep (Sp.of (wr := [(ke, .inl (g.2.1 0, 256, .inl (aI KC)))]) [0, 1] [2] rfl rfl rfl rfl (by decide)) PP) d_Unroller_sortByKey_101 lk_Unroller_136 mw_Unroller_at vw_Unroller_at (q0 := 0) rfl rfl (fit_of hR (by first | decide | (simp only [rmk]; omega)) (by first | decide | (simp only [rmk]; omega)) (by first | decide | (simp only [rmk]; omega)) (by first | decide | (simp only [rmk]; omega))) rfl (cat8 (Nat.le_of_ble_eq_true rfl)) (As := [.int (nI i)]) (rest := [.ref y, .ref u, .ref ke]) rfl (fun r_101 w_101 hp_101 => ?_)
      obtain ⟨rfl, rfl⟩ := hp_101
      refine r_swap ?_
      refine r_afterP (X := [(ke, .inl (g.2.1 0, 256, .inl (aI KC))), (u, .inr (8, [.ref s, .ref ss, .ref la, .ref ke, .int (nI lc), .int (nI uw), .int (nI uh), .int (nI ri), .int mi, .int (bI tm)])), (ss, .inl (g.2.1 0, 10496, .inl (aI SS)))]) (X' := [(u, .inr (8, [.ref s, .ref ss, .ref la, .ref ke, .int (nI lc), .int (nI uw), .int (nI uh), .int (nI ri), .int mi, .int (bI tm)])), (ss, .inl (g.2.1 0, 10496, .inl (aI SS))), (ke, .inl (g.2.1 0, 256, .inl (aI KC)))]) (pl := PP) (st' := [.int (nI (SS i)), .ref y, .ref u, .ref ke]) (n1 := 0) (n2 := 0) [1, 2, 0] rfl rfl rfl rfl rfl rfl ?_
      refine j_callV C (c_Unroller_keyOf g (xl x) (u := u) (s := s) (ss := ss) (la := la) (ke := ke) (lc := lc) (uw := uw) (uh := uh) (ri := ri) (mi := mi) (tm := tm) (y := y) (c := SS i) (w := w) (lev := lev) (f := f) (s2 := s2) (ou := ou) (PP := PP) (by first | assumption | rfl | omega) (by first | assumption | rfl | omega) (by first | assumption | rfl | omega) (by first | assumption | rfl | omega) (by first | assumption | rfl | omega) (by first | assumption | rfl | omega) (by first | assumption | rfl | omega)) (Sp.pool (Sp.of (wr := [(ss, .inl (g.2.1 0, 10496, .inl (aI SS))), (ke, .inl (g.2.1 0, 256, .inl (aI KC)))]) [0] [1, 2] rfl rfl rfl rfl (by decide)) PP) d_Unroller_sortByKey_104 lk_Unroller_174 mw_Unroller_keyOf vw_Unroller_keyOf (q0 := 0) rfl rfl (fit_of hR (by first | decide | (simp only [rmk]; omega)) (by first | decide | (simp only [rmk]; omega)) (by first | decide | (simp only [rmk]; omega)) (by first | decide | (simp only [rmk]; omega))) rfl (cat8 (Nat.le_of_ble_eq_true rfl)) (As := [.ref y, .int (nI (SS i))]) (rest := [.ref ke]) rfl (fun r_104 w_104 hp_104 => ?_)
      obtain ⟨rfl, rfl⟩ := hp_104
      refine r_afterP (X := [(ss, .inl (g.2.1 0, 10496, .inl (aI SS))), (ke, .inl (g.2.1 0, 256, .inl (aI KC))), (u, .inr (8, [.ref s, .ref ss, .ref la, .ref ke, .int (nI lc), .int (nI uw), .int (nI uh), .int (nI ri), .int mi, .int (bI tm)]))]) (X' := [(u, .inr (8, [.ref s, .ref ss, .ref la, .ref ke, .int (nI lc), .int (nI uw), .int (nI uh), .int (nI ri), .int mi, .int (bI tm)])), (ss, .inl (g.2.1 0, 10496, .inl (aI SS))), (ke, .inl (g.2.1 0, 256, .inl (aI KC)))]) (pl := PP) (st' := [.int (nI (keyN uw w f s2 (SS i))), .ref ke]) (n1 := 0) (n2 := 0) [2, 0, 1] rfl rfl rfl rfl rfl rfl ?_
      refine r_dup2 C d_Unroller_sortByKey_107 rfl rfl ?_
      refine r_nald C 2 0 d_Unroller_sortByKey_108 rfl rfl (by omega) (by decide) ?_
      refine r_iconst C (nI 1) d_Unroller_sortByKey_109 (by decide) ?_
      refine r_nadd C d_Unroller_sortByKey_110 ?_
      refine r_nast C (ws' := [(u, .inr (8, [.ref s, .ref ss, .ref la, .ref ke, .int (nI lc), .int (nI uw), .int (nI uh), .int (nI ri), .int mi, .int (bI tm)])), (ss, .inl (g.2.1 0, 10496, .inl (aI SS))), (ke, .inl (g.2.1 0, 256, .inl (aI (up KC (keyN uw w f s2 (SS i)) ((KC (keyN uw w f s2 (SS i))) + 1)))))] ++ PP) 2 0 d_Unroller_sortByKey_111 rfl rfl (by omega) (by decide) rfl ?_
      refine r_iinc C 7 (nI (i + 1)) (lv' := [(7, .int (nI (i + 1))), (0, .ref u), (1, .ref y), (2, .int (nI j)), (3, .int (nI z)), (4, .int (nI ro)), (5, .int (nI lo)), (6, .int (nI G - nI 1))]) d_Unroller_sortByKey_112 rfl (nI_inc 1 _) (by decide) rfl ?_
      refine r_goto C 84 d_Unroller_sortByKey_115 (by decide) ?_
      refine r_lv (lv' := [(0, .ref u), (1, .ref y), (2, .int (nI j)), (3, .int (nI z)), (4, .int (nI ro)), (5, .int (nI lo)), (6, .int (nI G - nI 1)), (7, .int (nI (i + 1)))]) [1, 2, 3, 4, 5, 6, 7, 0] rfl ?_
      exact ih lo G (i + 1) (up KC (keyN uw w f s2 (SS i)) ((KC (keyN uw w f s2 (SS i))) + 1)) (by first | assumption | rfl | omega) (by first | assumption | rfl | omega) (by first | assumption | rfl | omega) (by first | assumption | rfl | omega) (by first | assumption | rfl | omega) (fun t h1 h2 => by
          rw [show i + 1 - j = (i - j) + 1 by omega, cn_snoc, ← hqx]
          by_cases e : keyN uw w f s2 (SS i) = t
          · rw [if_pos e, ← e, up_self, hB _ (by omega) (by omega)]
          · rw [if_neg e, up_ne _ _ (fun q => e q.symm)]; exact hB t h1 h2) (by omega)
set_option maxHeartbeats 4000000 in
set_option maxRecDepth 100000 in
theorem lp_Unroller_sortByKey_60 (g : GG) {u : Nat} {s : Nat} {ss : Nat} {la : Nat} {ke : Nat} {lc : Nat} {uw : Nat} {uh : Nat} {ri : Nat} {mi : Int32} {tm : Bool} {y : Nat} {w : Nat} {lev : Nat} {j : Nat} {z : Nat} {ro : Nat} {f : Option Nat} {s2 : Option Nat} {ou : Option Nat} {SS : Nat → Nat} {KE : Nat → Nat} {PP : va_W} (hw0 : 0 < uw) (hw1 : uw ≤ 16) (hmem : (y, .inr (3, [.ref (g.2.2.1 w), .int (oI f), .int (oI s2), va_rf ou, .int (nI lev)])) ∈ PP) (hwv : w = 2 ∨ w = 3 ∨ w = 4 ∨ w = 10 ∨ w = 11) (hbl : w = 4 → ∃ f0 s0, f = some f0 ∧ s2 = some s0 ∧ 0 < f0 ∧ 0 < s0 ∧ f0 ≤ 16 ∧ s0 ≤ 16) (hz : z ≤ 256) (hjr : j + z ≤ ro) (hro : ro + 256 ≤ 10496) (hq : ∀ i, i < z → SS (j + i) < 256 ∧ SS (j + i) / uw ≤ 15) {x : X0} {A : Nat → Prop} {Q : State → Prop}  (C : CX x g A R_Unroller b_Unroller_sortByKey 9) (E : RX x g A Q none (fun (r0 : Option Value) (w0 : va_W) => ∃ KE2 : Nat → Nat, ∃ SS2 : Nat → Nat, r0 = none ∧ w0 = [(u, .inr (8, [.ref s, .ref ss, .ref la, .ref ke, .int (nI lc), .int (nI uw), .int (nI uh), .int (nI ri), .int mi, .int (bI tm)])), (ss, .inl (g.2.1 0, 10496, .inl (aI SS2))), (ke, .inl (g.2.1 0, 256, .inl (aI KE2)))] ++ PP ∧ (segL SS2 ro z = grp (keyN uw w f s2) (segL SS j z) 256) ∧ (∀ i, i < ro → SS2 i = SS i) ∧ ((∀ i, SS i < 256) → ∀ i, SS2 i < 256)) (rmk 2 0 0 46).cells (rmk 2 0 0 46).slots) (hR : xR x = (rmk 2 0 0 46)) : ∀ (fuel : Nat) (lo : Nat) (G : Nat) (c : Nat) (KC : Nat → Nat) (hlo : lo ≤ 256) (hG : G ≤ 256) (hA : ∀ t, t < z → lo ≤ keyN uw w f s2 (SS (j + t)) ∧ keyN uw w f s2 (SS (j + t)) < G) (hc : lo ≤ c) (hc2 : c ≤ 256) (hB : ∀ t, lo ≤ t → t < c → KC t = 0), 256 - c < fuel → J x g A Q 9 ([(u, .inr (8, [.ref s, .ref ss, .ref la, .ref ke, .int (nI lc), .int (nI uw), .int (nI uh), .int (nI ri), .int mi, .int (bI tm)])), (ss, .inl (g.2.1 0, 10496, .inl (aI SS))), (ke, .inl (g.2.1 0, 256, .inl (aI KC)))] ++ PP) [(0, .ref u), (1, .ref y), (2, .int (nI j)), (3, .int (nI z)), (4, .int (nI ro)), (5, .int (nI lo)), (6, .int (nI G - nI 1)), (7, .int (nI c))] 60 [] 0 0 := by
  intro fuel
  induction fuel with
  | zero =>
    intro lo G c KC hlo hG hA hc hc2 hB hm
    exact absurd hm (Nat.not_lt_zero _)
  | succ fuel ih =>
    intro lo G c KC hlo hG hA hc hc2 hB hm
    refine r_iload C 7 d_Unroller_sortByKey_60 rfl ?_
    refine r_iload C 6 d_Unroller_sortByKey_62 rfl ?_
    refine r_icmp_gt C 81 d_Unroller_sortByKey_64 (by decide) (fun c_64 => ?_) (fun c_64 => ?_)
    · skip
      refine r_iload_n C 2 d_Unroller_sortByKey_81 rfl rfl ?_
      refine r_istore C (lv' := [(7, .int (nI j)), (0, .ref u), (1, .ref y), (2, .int (nI j)), (3, .int (nI z)), (4, .int (nI ro)), (5, .int (nI lo)), (6, .int (nI G - nI 1))]) d_Unroller_sortByKey_82 (by decide) rfl ?_
      refine r_lv (lv' := [(0, .ref u), (1, .ref y), (2, .int (nI j)), (3, .int (nI z)), (4, .int (nI ro)), (5, .int (nI lo)), (6, .int (nI G - nI 1)), (7, .int (nI j))]) [1, 2, 3, 4, 5, 6, 7, 0] rfl ?_
      exact lp_Unroller_sortByKey_84 g (u := u) (s := s) (ss := ss) (la := la) (ke := ke) (lc := lc) (uw := uw) (uh := uh) (ri := ri) (mi := mi) (tm := tm) (y := y) (w := w) (lev := lev) (j := j) (z := z) (ro := ro) (f := f) (s2 := s2) (ou := ou) (SS := SS) (KE := KE) (PP := PP) hw0 hw1 hmem hwv hbl hz hjr hro hq  C E hR _ lo G j KC (by first | assumption | rfl | omega) (by first | assumption | rfl | omega) (by first | assumption | rfl | omega) (by first | assumption | rfl | omega) (by first | assumption | rfl | omega) (fun t h1 h2 => by rw [Nat.sub_self]; exact hB t h1 (by have := (nI_gt1 (by omega) (by omega)).mp c_64; omega)) (Nat.lt_succ_self _)
    · skip
      have hcG : c < G := Nat.lt_of_not_le (fun q => c_64 ((nI_gt1 (by omega) (by omega)).mpr q))
      refine r_aload_n C 0 d_Unroller_sortByKey_67 rfl rfl ?_
      refine r_get C 0 3 d_Unroller_sortByKey_68 ci_Unroller fi_Unroller_21 rfl (by decide) rfl rfl ?_
      refine r_iload C 7 d_Unroller_sortByKey_71 rfl ?_
      refine r_iconst C (nI 0) d_Unroller_sortByKey_73 (by decide) ?_
      refine r_nast C (ws' := [(u, .inr (8, [.ref s, .ref ss, .ref la, .ref ke, .int (nI lc), .int (nI uw), .int (nI uh), .int (nI ri), .int mi, .int (bI tm)])), (ss, .inl (g.2.1 0, 10496, .inl (aI SS))), (ke, .inl (g.2.1 0, 256, .inl (aI (up KC c 0))))] ++ PP) 2 0 d_Unroller_sortByKey_74 rfl rfl (by omega) (by decide) rfl ?_
      refine r_iinc C 7 (nI (c + 1)) (lv' := [(7, .int (nI (c + 1))), (0, .ref u), (1, .ref y), (2, .int (nI j)), (3, .int (nI z)), (4, .int (nI ro)), (5, .int (nI lo)), (6, .int (nI G - nI 1))]) d_Unroller_sortByKey_75 rfl (nI_inc 1 _) (by decide) rfl ?_
      refine r_goto C 60 d_Unroller_sortByKey_78 (by decide) ?_
      refine r_lv (lv' := [(0, .ref u), (1, .ref y), (2, .int (nI j)), (3, .int (nI z)), (4, .int (nI ro)), (5, .int (nI lo)), (6, .int (nI G - nI 1)), (7, .int (nI (c + 1)))]) [1, 2, 3, 4, 5, 6, 7, 0] rfl ?_
      exact ih lo G (c + 1) (up KC c 0) (by first | assumption | rfl | omega) (by first | assumption | rfl | omega) (by first | assumption | rfl | omega) (by first | assumption | rfl | omega) (by first | assumption | rfl | omega) (fun t h1 h2 => by
          by_cases e : t = c
          · rw [e, up_self]
          · rw [up_ne _ _ e]; exact hB t h1 (by omega)) (by omega)
set_option maxHeartbeats 4000000 in
set_option maxRecDepth 100000 in
theorem lp_Unroller_sortByKey_11 (g : GG) {u : Nat} {s : Nat} {ss : Nat} {la : Nat} {ke : Nat} {lc : Nat} {uw : Nat} {uh : Nat} {ri : Nat} {mi : Int32} {tm : Bool} {y : Nat} {w : Nat} {lev : Nat} {j : Nat} {z : Nat} {ro : Nat} {f : Option Nat} {s2 : Option Nat} {ou : Option Nat} {SS : Nat → Nat} {KE : Nat → Nat} {PP : va_W} (hw0 : 0 < uw) (hw1 : uw ≤ 16) (hmem : (y, .inr (3, [.ref (g.2.2.1 w), .int (oI f), .int (oI s2), va_rf ou, .int (nI lev)])) ∈ PP) (hwv : w = 2 ∨ w = 3 ∨ w = 4 ∨ w = 10 ∨ w = 11) (hbl : w = 4 → ∃ f0 s0, f = some f0 ∧ s2 = some s0 ∧ 0 < f0 ∧ 0 < s0 ∧ f0 ≤ 16 ∧ s0 ≤ 16) (hz : z ≤ 256) (hjr : j + z ≤ ro) (hro : ro + 256 ≤ 10496) (hq : ∀ i, i < z → SS (j + i) < 256 ∧ SS (j + i) / uw ≤ 15) {x : X0} {A : Nat → Prop} {Q : State → Prop}  (C : CX x g A R_Unroller b_Unroller_sortByKey 9) (E : RX x g A Q none (fun (r0 : Option Value) (w0 : va_W) => ∃ KE2 : Nat → Nat, ∃ SS2 : Nat → Nat, r0 = none ∧ w0 = [(u, .inr (8, [.ref s, .ref ss, .ref la, .ref ke, .int (nI lc), .int (nI uw), .int (nI uh), .int (nI ri), .int mi, .int (bI tm)])), (ss, .inl (g.2.1 0, 10496, .inl (aI SS2))), (ke, .inl (g.2.1 0, 256, .inl (aI KE2)))] ++ PP ∧ (segL SS2 ro z = grp (keyN uw w f s2) (segL SS j z) 256) ∧ (∀ i, i < ro → SS2 i = SS i) ∧ ((∀ i, SS i < 256) → ∀ i, SS2 i < 256)) (rmk 2 0 0 46).cells (rmk 2 0 0 46).slots) (hR : xR x = (rmk 2 0 0 46)) : ∀ (fuel : Nat) (lo : Nat) (G : Nat) (i : Nat) (hi1 : j ≤ i) (hi2 : i ≤ j + z) (hlo : lo ≤ 256) (hG : G ≤ 256) (hA : ∀ t, t < i - j → lo ≤ keyN uw w f s2 (SS (j + t)) ∧ keyN uw w f s2 (SS (j + t)) < G), j + z - i < fuel → J x g A Q 9 ([(u, .inr (8, [.ref s, .ref ss, .ref la, .ref ke, .int (nI lc), .int (nI uw), .int (nI uh), .int (nI ri), .int mi, .int (bI tm)])), (ss, .inl (g.2.1 0, 10496, .inl (aI SS))), (ke, .inl (g.2.1 0, 256, .inl (aI KE)))] ++ PP) [(0, .ref u), (1, .ref y), (2, .int (nI j)), (3, .int (nI z)), (4, .int (nI ro)), (5, .int (nI lo)), (6, .int (nI G - nI 1)), (7, .int (nI i))] 11 [] 0 0 := by
  intro fuel
  induction fuel with
  | zero =>
    intro lo G i hi1 hi2 hlo hG hA hm
    exact absurd hm (Nat.not_lt_zero _)
  | succ fuel ih =>
    intro lo G i hi1 hi2 hlo hG hA hm
    refine r_iload C 7 d_Unroller_sortByKey_11 rfl ?_
    refine r_iload_n C 2 d_Unroller_sortByKey_13 rfl rfl ?_
    refine r_iload_n C 3 d_Unroller_sortByKey_14 rfl rfl ?_
    refine r_nadd C d_Unroller_sortByKey_15 ?_
    refine r_ncmp_ge C 56 d_Unroller_sortByKey_16 (by decide) (by omega) (by omega) (fun c_16 => ?_) (fun c_16 => ?_)
    · skip
      refine r_iload C 5 d_Unroller_sortByKey_56 rfl ?_
      refine r_istore C (lv' := [(7, .int (nI lo)), (0, .ref u), (1, .ref y), (2, .int (nI j)), (3, .int (nI z)), (4, .int (nI ro)), (5, .int (nI lo)), (6, .int (nI G - nI 1))]) d_Unroller_sortByKey_58 (by decide) rfl ?_
      refine r_lv (lv' := [(0, .ref u), (1, .ref y), (2, .int (nI j)), (3, .int (nI z)), (4, .int (nI ro)), (5, .int (nI lo)), (6, .int (nI G - nI 1)), (7, .int (nI lo))]) [1, 2, 3, 4, 5, 6, 7, 0] rfl ?_
      exact lp_Unroller_sortByKey_60 g (u := u) (s := s) (ss := ss) (la := la) (ke := ke) (lc := lc) (uw := uw) (uh := uh) (ri := ri) (mi := mi) (tm := tm) (y := y) (w := w) (lev := lev) (j := j) (z := z) (ro := ro) (f := f) (s2 := s2) (ou := ou) (SS := SS) (KE := KE) (PP := PP) hw0 hw1 hmem hwv hbl hz hjr hro hq  C E hR _ lo G lo KE (by first | assumption | rfl | omega) (by first | assumption | rfl | omega) (fun t h => hA t (by omega)) (by first | assumption | rfl | omega) (by first | assumption | rfl | omega) (fun t h1 h2 => absurd h1 (by omega)) (Nat.lt_succ_self _)
    · skip
      have hq' := hq (i - j) (by omega)
      rw [show j + (i - j) = i by omega] at hq'
      obtain ⟨hq1, hq2⟩ := hq'
      have hk' : keyN uw w f s2 (SS i) ≤ 255 := keyN_le hw0 hw1 hq2
      have hqx : keyN uw w f s2 (SS i) = keyN uw w f s2 (SS (j + (i - j))) := by rw [show j + (i - j) = i by omega]
      refine r_aload_n C 0 d_Unroller_sortByKey_19 rfl rfl ?_
      refine r_aload_n C 1 d_Unroller_sortByKey_20 rfl rfl ?_
      refine r_aload_n C 0 d_Unroller_sortByKey_21 rfl rfl ?_
      refine r_iload C 7 d_Unroller_sortByKey_22 rfl ?_
      refine j_callV C (c_Unroller_at g (xl x) (u := u) (s := s) (ss := ss) (la := la) (ke := ke) (lc := lc) (uw := uw) (uh := uh) (ri := ri) (mi := mi) (tm := tm) (j := i) (SS := SS) (by first | assumption | rfl | omega)) (Sp.keep (Sp.of (wr := [(ke, .inl (g.2.1 0, 256, .inl (aI KE)))]) [0, 1] [2] rfl rfl rfl rfl (by decide)) PP) d_Unroller_sortByKey_24 lk_Unroller_136 mw_Unroller_at vw_Unroller_at (q0 := 0) rfl rfl (fit_of hR (by first | decide | (simp only [rmk]; omega)) (by first | decide | (simp only [rmk]; omega)) (by first | decide | (simp only [rmk]; omega)) (by first | decide | (simp only [rmk]; omega))) rfl (cat8 (Nat.le_of_ble_eq_true rfl)) (As := [.int (nI i)]) (rest := [.ref y, .ref u]) rfl (fun r_24 w_24 hp_24 => ?_)
      obtain ⟨rfl, rfl⟩ := hp_24
      refine r_swap ?_
      refine r_afterP (X := [(ke, .inl (g.2.1 0, 256, .inl (aI KE))), (u, .inr (8, [.ref s, .ref ss, .ref la, .ref ke, .int (nI lc), .int (nI uw), .int (nI uh), .int (nI ri), .int mi, .int (bI tm)])), (ss, .inl (g.2.1 0, 10496, .inl (aI SS)))]) (X' := [(u, .inr (8, [.ref s, .ref ss, .ref la, .ref ke, .int (nI lc), .int (nI uw), .int (nI uh), .int (nI ri), .int mi, .int (bI tm)])), (ss, .inl (g.2.1 0, 10496, .inl (aI SS))), (ke, .inl (g.2.1 0, 256, .inl (aI KE)))]) (pl := PP) (st' := [.int (nI (SS i)), .ref y, .ref u]) (n1 := 0) (n2 := 0) [1, 2, 0] rfl rfl rfl rfl rfl rfl ?_
      refine j_callV C (c_Unroller_keyOf g (xl x) (u := u) (s := s) (ss := ss) (la := la) (ke := ke) (lc := lc) (uw := uw) (uh := uh) (ri := ri) (mi := mi) (tm := tm) (y := y) (c := SS i) (w := w) (lev := lev) (f := f) (s2 := s2) (ou := ou) (PP := PP) (by first | assumption | rfl | omega) (by first | assumption | rfl | omega) (by first | assumption | rfl | omega) (by first | assumption | rfl | omega) (by first | assumption | rfl | omega) (by first | assumption | rfl | omega) (by first | assumption | rfl | omega)) (Sp.pool (Sp.of (wr := [(ss, .inl (g.2.1 0, 10496, .inl (aI SS))), (ke, .inl (g.2.1 0, 256, .inl (aI KE)))]) [0] [1, 2] rfl rfl rfl rfl (by decide)) PP) d_Unroller_sortByKey_27 lk_Unroller_174 mw_Unroller_keyOf vw_Unroller_keyOf (q0 := 0) rfl rfl (fit_of hR (by first | decide | (simp only [rmk]; omega)) (by first | decide | (simp only [rmk]; omega)) (by first | decide | (simp only [rmk]; omega)) (by first | decide | (simp only [rmk]; omega))) rfl (cat8 (Nat.le_of_ble_eq_true rfl)) (As := [.ref y, .int (nI (SS i))]) (rest := []) rfl (fun r_27 w_27 hp_27 => ?_)
      obtain ⟨rfl, rfl⟩ := hp_27
      refine r_afterP (X := [(ss, .inl (g.2.1 0, 10496, .inl (aI SS))), (ke, .inl (g.2.1 0, 256, .inl (aI KE))), (u, .inr (8, [.ref s, .ref ss, .ref la, .ref ke, .int (nI lc), .int (nI uw), .int (nI uh), .int (nI ri), .int mi, .int (bI tm)]))]) (X' := [(u, .inr (8, [.ref s, .ref ss, .ref la, .ref ke, .int (nI lc), .int (nI uw), .int (nI uh), .int (nI ri), .int mi, .int (bI tm)])), (ss, .inl (g.2.1 0, 10496, .inl (aI SS))), (ke, .inl (g.2.1 0, 256, .inl (aI KE)))]) (pl := PP) (st' := [.int (nI (keyN uw w f s2 (SS i)))]) (n1 := 0) (n2 := 0) [2, 0, 1] rfl rfl rfl rfl rfl rfl ?_
      refine r_istore C (lv' := [(8, .int (nI (keyN uw w f s2 (SS i)))), (0, .ref u), (1, .ref y), (2, .int (nI j)), (3, .int (nI z)), (4, .int (nI ro)), (5, .int (nI lo)), (6, .int (nI G - nI 1)), (7, .int (nI i))]) d_Unroller_sortByKey_30 (by decide) rfl ?_
      refine r_iload C 6 d_Unroller_sortByKey_32 rfl ?_
      refine r_iload C 0 d_Unroller_sortByKey_34 rfl ?_
      refine r_nmin C d_Unroller_sortByKey_36 ml_Unroller_81 ma_min (by rw [hR]; first | decide | (simp only [rmk]; omega)) (by rw [hR]; exact Nat.le_trans (Nat.add_le_add_right (cat8 (Nat.le_of_ble_eq_true rfl)) 13) (by first | decide | (simp only [rmk]; omega))) (by rw [hR]; first | decide | (simp only [rmk]; omega)) (by rw [hR]; first | decide | (simp only [rmk]; omega)) (by omega) (by omega) ?_
      refine r_istore C (lv' := [(5, .int (nI (min lo (keyN uw w f s2 (SS i))))), (8, .int (nI (keyN uw w f s2 (SS i)))), (0, .ref u), (1, .ref y), (2, .int (nI j)), (3, .int (nI z)), (4, .int (nI ro)), (6, .int (nI G - nI 1)), (7, .int (nI i))]) d_Unroller_sortByKey_39 (by decide) rfl ?_
      refine r_iload C 7 d_Unroller_sortByKey_41 rfl ?_
      refine r_iload C 1 d_Unroller_sortByKey_43 rfl ?_
      refine r_gmax C d_Unroller_sortByKey_45 ml_Unroller_178 ma_max (by rw [hR]; first | decide | (simp only [rmk]; omega)) (by rw [hR]; exact Nat.le_trans (Nat.add_le_add_right (cat8 (Nat.le_of_ble_eq_true rfl)) 13) (by first | decide | (simp only [rmk]; omega))) (by rw [hR]; first | decide | (simp only [rmk]; omega)) (by rw [hR]; first | decide | (simp only [rmk]; omega)) (by omega) (by omega) ?_
      refine r_istore C (lv' := [(6, .int (nI (max G (keyN uw w f s2 (SS i) + 1)) - nI 1)), (5, .int (nI (min lo (keyN uw w f s2 (SS i))))), (8, .int (nI (keyN uw w f s2 (SS i)))), (0, .ref u), (1, .ref y), (2, .int (nI j)), (3, .int (nI z)), (4, .int (nI ro)), (7, .int (nI i))]) d_Unroller_sortByKey_48 (by decide) rfl ?_
      refine r_iinc C 8 (nI (i + 1)) (lv' := [(7, .int (nI (i + 1))), (6, .int (nI (max G (keyN uw w f s2 (SS i) + 1)) - nI 1)), (5, .int (nI (min lo (keyN uw w f s2 (SS i))))), (8, .int (nI (keyN uw w f s2 (SS i)))), (0, .ref u), (1, .ref y), (2, .int (nI j)), (3, .int (nI z)), (4, .int (nI ro))]) d_Unroller_sortByKey_50 rfl (nI_inc 1 _) (by decide) rfl ?_
      refine r_goto C 11 d_Unroller_sortByKey_53 (by decide) ?_
      refine r_lv (lv' := [(0, .ref u), (1, .ref y), (2, .int (nI j)), (3, .int (nI z)), (4, .int (nI ro)), (5, .int (nI (min lo (keyN uw w f s2 (SS i))))), (6, .int (nI (max G (keyN uw w f s2 (SS i) + 1)) - nI 1)), (7, .int (nI (i + 1)))]) [4, 5, 6, 7, 8, 2, 1, 0] rfl ?_
      exact ih (min lo (keyN uw w f s2 (SS i))) (max G (keyN uw w f s2 (SS i) + 1)) (i + 1) (by first | assumption | rfl | omega) (by first | assumption | rfl | omega) (by first | assumption | rfl | omega) (by first | assumption | rfl | omega) (fun t h => by
          by_cases e : t = i - j
          · rw [e, ← hqx]; omega
          · have := hA t (by omega); omega) (by omega)
set_option maxHeartbeats 4000000 in
set_option maxRecDepth 100000 in
theorem c_Unroller_sortByKey (g : GG) (l : Launch) {u : Nat} {s : Nat} {ss : Nat} {la : Nat} {ke : Nat} {lc : Nat} {uw : Nat} {uh : Nat} {ri : Nat} {mi : Int32} {tm : Bool} {y : Nat} {w : Nat} {lev : Nat} {j : Nat} {z : Nat} {ro : Nat} {f : Option Nat} {s2 : Option Nat} {ou : Option Nat} {SS : Nat → Nat} {KE : Nat → Nat} {PP : va_W}  (hw0 : 0 < uw) (hw1 : uw ≤ 16) (hmem : (y, .inr (3, [.ref (g.2.2.1 w), .int (oI f), .int (oI s2), va_rf ou, .int (nI lev)])) ∈ PP) (hwv : w = 2 ∨ w = 3 ∨ w = 4 ∨ w = 10 ∨ w = 11) (hbl : w = 4 → ∃ f0 s0, f = some f0 ∧ s2 = some s0 ∧ 0 < f0 ∧ 0 < s0 ∧ f0 ≤ 16 ∧ s0 ≤ 16) (hz : z ≤ 256) (hjr : j + z ≤ ro) (hro : ro + 256 ≤ 10496) (hq : ∀ i, i < z → SS (j + i) < 256 ∧ SS (j + i) / uw ≤ 15) : Cn g l y_Unroller_sortByKey b_Unroller_sortByKey 9 none (rmk 2 0 0 46) [.ref u, .ref y, .int (nI j), .int (nI z), .int (nI ro)] ([(u, .inr (8, [.ref s, .ref ss, .ref la, .ref ke, .int (nI lc), .int (nI uw), .int (nI uh), .int (nI ri), .int mi, .int (bI tm)])), (ss, .inl (g.2.1 0, 10496, .inl (aI SS))), (ke, .inl (g.2.1 0, 256, .inl (aI KE)))] ++ PP) (fun (r0 : Option Value) (w0 : va_W) => ∃ KE2 : Nat → Nat, ∃ SS2 : Nat → Nat, r0 = none ∧ w0 = [(u, .inr (8, [.ref s, .ref ss, .ref la, .ref ke, .int (nI lc), .int (nI uw), .int (nI uh), .int (nI ri), .int mi, .int (bI tm)])), (ss, .inl (g.2.1 0, 10496, .inl (aI SS2))), (ke, .inl (g.2.1 0, 256, .inl (aI KE2)))] ++ PP ∧ (segL SS2 ro z = grp (keyN uw w f s2) (segL SS j z) 256) ∧ (∀ i, i < ro → SS2 i = SS i) ∧ ((∀ i, SS i < 256) → ∀ i, SS2 i < 256)) := by
  refine Cn.of R_Unroller [(0, .ref u), (1, .ref y), (2, .int (nI j)), (3, .int (nI z)), (4, .int (nI ro))] (by decide) rfl (Nat.le_of_ble_eq_true rfl) rfl ?_
  intro x A Q hR hXl hin C E
  subst hXl
  refine r_sipush C (nI 256) d_Unroller_sortByKey_0 (by decide) ?_
  refine r_istore C (lv' := [(5, .int (nI 256)), (0, .ref u), (1, .ref y), (2, .int (nI j)), (3, .int (nI z)), (4, .int (nI ro))]) d_Unroller_sortByKey_3 (by decide) rfl ?_
  refine r_iconst C ((-1)) d_Unroller_sortByKey_5 (by decide) ?_
  refine r_istore C (lv' := [(6, .int (-1)), (5, .int (nI 256)), (0, .ref u), (1, .ref y), (2, .int (nI j)), (3, .int (nI z)), (4, .int (nI ro))]) d_Unroller_sortByKey_6 (by decide) rfl ?_
  refine r_iload_n C 4 d_Unroller_sortByKey_8 rfl rfl ?_
  refine r_istore C (lv' := [(7, .int (nI j)), (6, .int (-1)), (5, .int (nI 256)), (0, .ref u), (1, .ref y), (2, .int (nI j)), (3, .int (nI z)), (4, .int (nI ro))]) d_Unroller_sortByKey_9 (by decide) rfl ?_
  refine r_lv (lv' := [(0, .ref u), (1, .ref y), (2, .int (nI j)), (3, .int (nI z)), (4, .int (nI ro)), (5, .int (nI 256)), (6, .int (nI 0 - nI 1)), (7, .int (nI j))]) [3, 4, 5, 6, 7, 2, 1, 0] rfl ?_
  exact lp_Unroller_sortByKey_11 g (u := u) (s := s) (ss := ss) (la := la) (ke := ke) (lc := lc) (uw := uw) (uh := uh) (ri := ri) (mi := mi) (tm := tm) (y := y) (w := w) (lev := lev) (j := j) (z := z) (ro := ro) (f := f) (s2 := s2) (ou := ou) (SS := SS) (KE := KE) (PP := PP) hw0 hw1 hmem hwv hbl hz hjr hro hq  C E hR _ 256 0 j (by first | assumption | rfl | omega) (by first | assumption | rfl | omega) (by first | assumption | rfl | omega) (by first | assumption | rfl | omega) (fun t h => absurd h (by omega)) (Nat.lt_succ_self _)
