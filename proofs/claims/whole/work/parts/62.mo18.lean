section COR
variable {ST SB CH : Nat → Nat} {lv fr z i j p q uw uh : Nat} {Cs : List (List Nat)}
theorem lv_4 (h : LvC ST SB CH lv Cs) : LvC (up (up (up (up ST (17000 * lv + (up SB (616 * lv + CH lv + 1) (SB (616 * lv + CH lv))) (616 * lv + CH lv + 1)) (p)) (17000 * lv + (up (up SB (616 * lv + CH lv + 1) (SB (616 * lv + CH lv))) (616 * lv + CH lv + 1) ((up SB (616 * lv + CH lv + 1) (SB (616 * lv + CH lv))) (616 * lv + CH lv + 1) + 1)) (616 * lv + CH lv + 1)) (p + 1)) (17000 * lv + (up (up (up SB (616 * lv + CH lv + 1) (SB (616 * lv + CH lv))) (616 * lv + CH lv + 1) ((up SB (616 * lv + CH lv + 1) (SB (616 * lv + CH lv))) (616 * lv + CH lv + 1) + 1)) (616 * lv + CH lv + 1) ((up (up SB (616 * lv + CH lv + 1) (SB (616 * lv + CH lv))) (616 * lv + CH lv + 1) ((up SB (616 * lv + CH lv + 1) (SB (616 * lv + CH lv))) (616 * lv + CH lv + 1) + 1)) (616 * lv + CH lv + 1) + 1)) (616 * lv + CH lv + 1)) (p + uw)) (17000 * lv + (up (up (up (up SB (616 * lv + CH lv + 1) (SB (616 * lv + CH lv))) (616 * lv + CH lv + 1) ((up SB (616 * lv + CH lv + 1) (SB (616 * lv + CH lv))) (616 * lv + CH lv + 1) + 1)) (616 * lv + CH lv + 1) ((up (up SB (616 * lv + CH lv + 1) (SB (616 * lv + CH lv))) (616 * lv + CH lv + 1) ((up SB (616 * lv + CH lv + 1) (SB (616 * lv + CH lv))) (616 * lv + CH lv + 1) + 1)) (616 * lv + CH lv + 1) + 1)) (616 * lv + CH lv + 1) ((up (up (up SB (616 * lv + CH lv + 1) (SB (616 * lv + CH lv))) (616 * lv + CH lv + 1) ((up SB (616 * lv + CH lv + 1) (SB (616 * lv + CH lv))) (616 * lv + CH lv + 1) + 1)) (616 * lv + CH lv + 1) ((up (up SB (616 * lv + CH lv + 1) (SB (616 * lv + CH lv))) (616 * lv + CH lv + 1) ((up SB (616 * lv + CH lv + 1) (SB (616 * lv + CH lv))) (616 * lv + CH lv + 1) + 1)) (616 * lv + CH lv + 1) + 1)) (616 * lv + CH lv + 1) + 1)) (616 * lv + CH lv + 1)) (p + uw + 1)) (up (up (up (up (up SB (616 * lv + CH lv + 1) (SB (616 * lv + CH lv))) (616 * lv + CH lv + 1) ((up SB (616 * lv + CH lv + 1) (SB (616 * lv + CH lv))) (616 * lv + CH lv + 1) + 1)) (616 * lv + CH lv + 1) ((up (up SB (616 * lv + CH lv + 1) (SB (616 * lv + CH lv))) (616 * lv + CH lv + 1) ((up SB (616 * lv + CH lv + 1) (SB (616 * lv + CH lv))) (616 * lv + CH lv + 1) + 1)) (616 * lv + CH lv + 1) + 1)) (616 * lv + CH lv + 1) ((up (up (up SB (616 * lv + CH lv + 1) (SB (616 * lv + CH lv))) (616 * lv + CH lv + 1) ((up SB (616 * lv + CH lv + 1) (SB (616 * lv + CH lv))) (616 * lv + CH lv + 1) + 1)) (616 * lv + CH lv + 1) ((up (up SB (616 * lv + CH lv + 1) (SB (616 * lv + CH lv))) (616 * lv + CH lv + 1) ((up SB (616 * lv + CH lv + 1) (SB (616 * lv + CH lv))) (616 * lv + CH lv + 1) + 1)) (616 * lv + CH lv + 1) + 1)) (616 * lv + CH lv + 1) + 1)) (616 * lv + CH lv + 1) ((up (up (up (up SB (616 * lv + CH lv + 1) (SB (616 * lv + CH lv))) (616 * lv + CH lv + 1) ((up SB (616 * lv + CH lv + 1) (SB (616 * lv + CH lv))) (616 * lv + CH lv + 1) + 1)) (616 * lv + CH lv + 1) ((up (up SB (616 * lv + CH lv + 1) (SB (616 * lv + CH lv))) (616 * lv + CH lv + 1) ((up SB (616 * lv + CH lv + 1) (SB (616 * lv + CH lv))) (616 * lv + CH lv + 1) + 1)) (616 * lv + CH lv + 1) + 1)) (616 * lv + CH lv + 1) ((up (up (up SB (616 * lv + CH lv + 1) (SB (616 * lv + CH lv))) (616 * lv + CH lv + 1) ((up SB (616 * lv + CH lv + 1) (SB (616 * lv + CH lv))) (616 * lv + CH lv + 1) + 1)) (616 * lv + CH lv + 1) ((up (up SB (616 * lv + CH lv + 1) (SB (616 * lv + CH lv))) (616 * lv + CH lv + 1) ((up SB (616 * lv + CH lv + 1) (SB (616 * lv + CH lv))) (616 * lv + CH lv + 1) + 1)) (616 * lv + CH lv + 1) + 1)) (616 * lv + CH lv + 1) + 1)) (616 * lv + CH lv + 1) + 1)) (up CH lv (CH lv + 1)) lv (Cs ++ [[p, p + 1, p + uw, p + uw + 1]]) := by
  obtain ⟨h1, h2⟩ := h
  have a := lv_add (p := p + uw + 1) (lv_add (p := p + uw) (lv_add (p := p + 1) (lv_add (p := p) (lv_begin h1))))
  rw [h2]
  exact ⟨a, by rw [up_self, List.length_append]; rfl⟩
theorem fr_4 {a1 a2 a3 a4 p1 p2 p3 p4 c1 c2 c3 c4 c5 f2 : Nat} : LvF lv ST SB CH (up (up (up (up ST (17000 * lv + a1) p1) (17000 * lv + a2) p2) (17000 * lv + a3) p3) (17000 * lv + a4) p4) (up (up (up (up (up SB (616 * lv + CH lv + 1) c1) (616 * lv + CH lv + 1) c2) (616 * lv + CH lv + 1) c3) (616 * lv + CH lv + 1) c4) (616 * lv + CH lv + 1) c5) (up CH lv f2) := ⟨fun t z => by rw [up_ne _ _ (by omega), up_ne _ _ (by omega), up_ne _ _ (by omega), up_ne _ _ (by omega)], fun t z => by rw [up_ne _ _ (by omega), up_ne _ _ (by omega), up_ne _ _ (by omega), up_ne _ _ (by omega), up_ne _ _ (by omega)], fun j z => up_ne _ _ (by omega)⟩
theorem lv_4s {a : List Nat} (h : LvC ST SB CH lv Cs) (hs : SB (616 * lv + Cs.length) = 4 * Cs.length) : (up (up (up (up (up SB (616 * lv + CH lv + 1) (SB (616 * lv + CH lv))) (616 * lv + CH lv + 1) ((up SB (616 * lv + CH lv + 1) (SB (616 * lv + CH lv))) (616 * lv + CH lv + 1) + 1)) (616 * lv + CH lv + 1) ((up (up SB (616 * lv + CH lv + 1) (SB (616 * lv + CH lv))) (616 * lv + CH lv + 1) ((up SB (616 * lv + CH lv + 1) (SB (616 * lv + CH lv))) (616 * lv + CH lv + 1) + 1)) (616 * lv + CH lv + 1) + 1)) (616 * lv + CH lv + 1) ((up (up (up SB (616 * lv + CH lv + 1) (SB (616 * lv + CH lv))) (616 * lv + CH lv + 1) ((up SB (616 * lv + CH lv + 1) (SB (616 * lv + CH lv))) (616 * lv + CH lv + 1) + 1)) (616 * lv + CH lv + 1) ((up (up SB (616 * lv + CH lv + 1) (SB (616 * lv + CH lv))) (616 * lv + CH lv + 1) ((up SB (616 * lv + CH lv + 1) (SB (616 * lv + CH lv))) (616 * lv + CH lv + 1) + 1)) (616 * lv + CH lv + 1) + 1)) (616 * lv + CH lv + 1) + 1)) (616 * lv + CH lv + 1) ((up (up (up (up SB (616 * lv + CH lv + 1) (SB (616 * lv + CH lv))) (616 * lv + CH lv + 1) ((up SB (616 * lv + CH lv + 1) (SB (616 * lv + CH lv))) (616 * lv + CH lv + 1) + 1)) (616 * lv + CH lv + 1) ((up (up SB (616 * lv + CH lv + 1) (SB (616 * lv + CH lv))) (616 * lv + CH lv + 1) ((up SB (616 * lv + CH lv + 1) (SB (616 * lv + CH lv))) (616 * lv + CH lv + 1) + 1)) (616 * lv + CH lv + 1) + 1)) (616 * lv + CH lv + 1) ((up (up (up SB (616 * lv + CH lv + 1) (SB (616 * lv + CH lv))) (616 * lv + CH lv + 1) ((up SB (616 * lv + CH lv + 1) (SB (616 * lv + CH lv))) (616 * lv + CH lv + 1) + 1)) (616 * lv + CH lv + 1) ((up (up SB (616 * lv + CH lv + 1) (SB (616 * lv + CH lv))) (616 * lv + CH lv + 1) ((up SB (616 * lv + CH lv + 1) (SB (616 * lv + CH lv))) (616 * lv + CH lv + 1) + 1)) (616 * lv + CH lv + 1) + 1)) (616 * lv + CH lv + 1) + 1)) (616 * lv + CH lv + 1) + 1)) (616 * lv + (Cs ++ [a]).length) = 4 * (Cs ++ [a]).length := by
  rw [h.2, List.length_append]
  show up _ _ _ (616 * lv + (Cs.length + 1)) = 4 * (Cs.length + 1)
  rw [show 616 * lv + (Cs.length + 1) = 616 * lv + Cs.length + 1 by omega, up_self, up_self, up_self, up_self, up_self, hs]
  omega
theorem co_in (hw : 0 < uw) (hp : p < uw * uh) (h1 : ¬ p % uw = uw - 1) (h2 : ¬ p / uw = uh - 1) : p + uw + 1 < uw * uh := by
  have a : p / uw < uh := Nat.div_lt_of_lt_mul hp
  have b := Nat.mod_lt p hw
  have c := Nat.div_add_mod p uw
  generalize p / uw = y at *
  generalize p % uw = x at *
  have d : uw * (y + 1) ≤ uw * (uh - 1) := Nat.mul_le_mul_left _ (by omega)
  have e : uw * (uh - 1) + uw = uw * uh := by
    rw [← Nat.mul_succ]
    congr 1
    omega
  rw [Nat.mul_succ] at d
  omega
theorem co_no {L : List Nat} (hw : 0 < uw) (hp : p < uw * uh) (hL : ∀ q ∈ L, q < uw * uh) (h : p % uw = uw - 1 ∨ p / uw = uh - 1 ∨ ¬ p + 1 ∈ L ∨ ¬ p + uw ∈ L ∨ ¬ p + uw + 1 ∈ L) : corP uw L p = [] := by
  rw [corP]
  refine if_neg fun c => ?_
  rcases h with h | h | h | h | h
  · omega
  · have b := hL _ c.2.2.1
    have a : (p + uw) / uw < uh := Nat.div_lt_of_lt_mul b
    rw [Nat.add_div_right _ hw] at a
    omega
  · exact h c.2.1
  · exact h c.2.2.1
  · exact h c.2.2.2
theorem co_yes {L : List Nat} (hw : 0 < uw) (h : ¬ p % uw = uw - 1) (h1 : p + 1 ∈ L) (h2 : p + uw ∈ L) (h3 : p + uw + 1 ∈ L) : corP uw L p = [[p, p + 1, p + uw, p + uw + 1]] := by
  rw [corP]
  have b := Nat.mod_lt p hw
  exact if_pos ⟨by omega, h1, h2, h3⟩
theorem co_go {f : Nat → List (List Nat)} {M N : List Nat} {D X : List (List Nat)} (hd : M = q :: N) (h : Cs ++ M.flatMap f = X) (hf : f q = D) : Cs ++ D ++ N.flatMap f = X := by
  rw [← h, hd, List.flatMap_cons, hf, List.append_assoc]
theorem co_go0 {f : Nat → List (List Nat)} {M N : List Nat} {X : List (List Nat)} (hd : M = q :: N) (h : Cs ++ M.flatMap f = X) (hf : f q = []) : Cs ++ N.flatMap f = X := by
  rw [← co_go hd h hf, List.append_nil]
theorem ha_s {Hb : Nat → Bool} (hi : i < z) (h : ∀ t, t < 256 → Hb t = decide (t ∈ (segL ST fr z).take i)) : ∀ t, t < 256 → up Hb (ST (fr + i)) true t = decide (t ∈ (segL ST fr z).take (i + 1)) := fun t ht => by
  have e : (segL ST fr z).take (i + 1) = (segL ST fr z).take i ++ [ST (fr + i)] := by
    rw [List.take_add_one, segL_get hi]
    rfl
  rw [e]
  by_cases c : t = ST (fr + i)
  · rw [c, up_self]
    symm
    exact decide_eq_true (by simp)
  · rw [up_ne _ _ c, h t ht]
    simp [c]
theorem ha_t {Hb : Nat → Bool} {L : List Nat} {t : Nat} (h : Hb t = decide (t ∈ L)) (c : Hb t = true) : t ∈ L := of_decide_eq_true (h.symm.trans c)
theorem ha_f {Hb : Nat → Bool} {L : List Nat} {t : Nat} (h : Hb t = decide (t ∈ L)) (c : Hb t = false) : ¬ t ∈ L := of_decide_eq_false (h.symm.trans c)
end COR

set_option maxRecDepth 100000 in
theorem fi_Mo_80 : FI R_Mo 80 R_Mo F_Mo 41 := Or.inl (gw (i := 941) rfl rfl)
theorem d_Mo_corners_0 : decode b_Mo_corners 0 = .ok (.iconst 0, 1) := by decide +kernel
theorem d_Mo_corners_1 : decode b_Mo_corners 1 = .ok (.istore 4, 2) := by decide +kernel
theorem d_Mo_corners_3 : decode b_Mo_corners 3 = .ok (.iload 4, 2) := by decide +kernel
theorem d_Mo_corners_5 : decode b_Mo_corners 5 = .ok (.sipush 256, 3) := by decide +kernel
theorem d_Mo_corners_8 : decode b_Mo_corners 8 = .ok (.if_icmp .ge 17, 3) := by decide +kernel
theorem d_Mo_corners_11 : decode b_Mo_corners 11 = .ok (.aload_n 0, 1) := by decide +kernel
theorem d_Mo_corners_12 : decode b_Mo_corners 12 = .ok (.getfield 80, 3) := by decide +kernel
theorem d_Mo_corners_15 : decode b_Mo_corners 15 = .ok (.iload 4, 2) := by decide +kernel
theorem d_Mo_corners_17 : decode b_Mo_corners 17 = .ok (.iconst 0, 1) := by decide +kernel
theorem d_Mo_corners_18 : decode b_Mo_corners 18 = .ok (.bastore, 1) := by decide +kernel
theorem d_Mo_corners_19 : decode b_Mo_corners 19 = .ok (.iinc 4 1, 3) := by decide +kernel
theorem d_Mo_corners_22 : decode b_Mo_corners 22 = .ok (.goto (-19), 3) := by decide +kernel
theorem d_Mo_corners_25 : decode b_Mo_corners 25 = .ok (.iconst 0, 1) := by decide +kernel
theorem d_Mo_corners_26 : decode b_Mo_corners 26 = .ok (.istore 4, 2) := by decide +kernel
theorem d_Mo_corners_28 : decode b_Mo_corners 28 = .ok (.iload 4, 2) := by decide +kernel
theorem d_Mo_corners_30 : decode b_Mo_corners 30 = .ok (.iload_n 3, 1) := by decide +kernel
theorem d_Mo_corners_31 : decode b_Mo_corners 31 = .ok (.if_icmp .ge 24, 3) := by decide +kernel
theorem d_Mo_corners_34 : decode b_Mo_corners 34 = .ok (.aload_n 0, 1) := by decide +kernel
theorem d_Mo_corners_35 : decode b_Mo_corners 35 = .ok (.getfield 80, 3) := by decide +kernel
theorem d_Mo_corners_38 : decode b_Mo_corners 38 = .ok (.aload_n 0, 1) := by decide +kernel
theorem d_Mo_corners_39 : decode b_Mo_corners 39 = .ok (.getfield 68, 3) := by decide +kernel
theorem d_Mo_corners_42 : decode b_Mo_corners 42 = .ok (.iload_n 2, 1) := by decide +kernel
theorem d_Mo_corners_43 : decode b_Mo_corners 43 = .ok (.iload 4, 2) := by decide +kernel
theorem d_Mo_corners_45 : decode b_Mo_corners 45 = .ok (.iadd, 1) := by decide +kernel
theorem d_Mo_corners_46 : decode b_Mo_corners 46 = .ok (.iaload, 1) := by decide +kernel
theorem d_Mo_corners_47 : decode b_Mo_corners 47 = .ok (.iconst 1, 1) := by decide +kernel
theorem d_Mo_corners_48 : decode b_Mo_corners 48 = .ok (.bastore, 1) := by decide +kernel
theorem d_Mo_corners_49 : decode b_Mo_corners 49 = .ok (.iinc 4 1, 3) := by decide +kernel
theorem d_Mo_corners_52 : decode b_Mo_corners 52 = .ok (.goto (-24), 3) := by decide +kernel
theorem d_Mo_corners_55 : decode b_Mo_corners 55 = .ok (.iconst 0, 1) := by decide +kernel
theorem d_Mo_corners_56 : decode b_Mo_corners 56 = .ok (.istore 4, 2) := by decide +kernel
theorem d_Mo_corners_58 : decode b_Mo_corners 58 = .ok (.iload 4, 2) := by decide +kernel
theorem d_Mo_corners_60 : decode b_Mo_corners 60 = .ok (.iload_n 3, 1) := by decide +kernel
theorem d_Mo_corners_61 : decode b_Mo_corners 61 = .ok (.if_icmp .ge 149, 3) := by decide +kernel
theorem d_Mo_corners_64 : decode b_Mo_corners 64 = .ok (.aload_n 0, 1) := by decide +kernel
theorem d_Mo_corners_65 : decode b_Mo_corners 65 = .ok (.getfield 68, 3) := by decide +kernel
theorem d_Mo_corners_68 : decode b_Mo_corners 68 = .ok (.iload_n 2, 1) := by decide +kernel
theorem d_Mo_corners_69 : decode b_Mo_corners 69 = .ok (.iload 4, 2) := by decide +kernel
theorem d_Mo_corners_71 : decode b_Mo_corners 71 = .ok (.iadd, 1) := by decide +kernel
theorem d_Mo_corners_72 : decode b_Mo_corners 72 = .ok (.iaload, 1) := by decide +kernel
theorem d_Mo_corners_73 : decode b_Mo_corners 73 = .ok (.istore 5, 2) := by decide +kernel
theorem d_Mo_corners_75 : decode b_Mo_corners 75 = .ok (.aload_n 0, 1) := by decide +kernel
theorem d_Mo_corners_76 : decode b_Mo_corners 76 = .ok (.iload 5, 2) := by decide +kernel
theorem d_Mo_corners_78 : decode b_Mo_corners 78 = .ok (.invokevirtual 228, 3) := by decide +kernel
theorem d_Mo_corners_81 : decode b_Mo_corners 81 = .ok (.aload_n 0, 1) := by decide +kernel
theorem d_Mo_corners_82 : decode b_Mo_corners 82 = .ok (.getfield 218, 3) := by decide +kernel
theorem d_Mo_corners_85 : decode b_Mo_corners 85 = .ok (.iconst 1, 1) := by decide +kernel
theorem d_Mo_corners_86 : decode b_Mo_corners 86 = .ok (.isub, 1) := by decide +kernel
theorem d_Mo_corners_87 : decode b_Mo_corners 87 = .ok (.if_icmp .eq 117, 3) := by decide +kernel
theorem d_Mo_corners_90 : decode b_Mo_corners 90 = .ok (.aload_n 0, 1) := by decide +kernel
theorem d_Mo_corners_91 : decode b_Mo_corners 91 = .ok (.iload 5, 2) := by decide +kernel
theorem d_Mo_corners_93 : decode b_Mo_corners 93 = .ok (.invokevirtual 224, 3) := by decide +kernel
theorem d_Mo_corners_96 : decode b_Mo_corners 96 = .ok (.aload_n 0, 1) := by decide +kernel
theorem d_Mo_corners_97 : decode b_Mo_corners 97 = .ok (.getfield 231, 3) := by decide +kernel
theorem d_Mo_corners_100 : decode b_Mo_corners 100 = .ok (.iconst 1, 1) := by decide +kernel
theorem d_Mo_corners_101 : decode b_Mo_corners 101 = .ok (.isub, 1) := by decide +kernel
theorem d_Mo_corners_102 : decode b_Mo_corners 102 = .ok (.if_icmp .eq 102, 3) := by decide +kernel
theorem d_Mo_corners_105 : decode b_Mo_corners 105 = .ok (.aload_n 0, 1) := by decide +kernel
theorem d_Mo_corners_106 : decode b_Mo_corners 106 = .ok (.getfield 80, 3) := by decide +kernel
theorem d_Mo_corners_109 : decode b_Mo_corners 109 = .ok (.iload 5, 2) := by decide +kernel
theorem d_Mo_corners_111 : decode b_Mo_corners 111 = .ok (.iconst 1, 1) := by decide +kernel
theorem d_Mo_corners_112 : decode b_Mo_corners 112 = .ok (.iadd, 1) := by decide +kernel
theorem d_Mo_corners_113 : decode b_Mo_corners 113 = .ok (.baload, 1) := by decide +kernel
theorem d_Mo_corners_114 : decode b_Mo_corners 114 = .ok (.ifCond .eq 90, 3) := by decide +kernel
theorem d_Mo_corners_117 : decode b_Mo_corners 117 = .ok (.aload_n 0, 1) := by decide +kernel
theorem d_Mo_corners_118 : decode b_Mo_corners 118 = .ok (.getfield 80, 3) := by decide +kernel
theorem d_Mo_corners_121 : decode b_Mo_corners 121 = .ok (.iload 5, 2) := by decide +kernel
theorem d_Mo_corners_123 : decode b_Mo_corners 123 = .ok (.aload_n 0, 1) := by decide +kernel
theorem d_Mo_corners_124 : decode b_Mo_corners 124 = .ok (.getfield 218, 3) := by decide +kernel
theorem d_Mo_corners_127 : decode b_Mo_corners 127 = .ok (.iadd, 1) := by decide +kernel
theorem d_Mo_corners_128 : decode b_Mo_corners 128 = .ok (.baload, 1) := by decide +kernel
theorem d_Mo_corners_129 : decode b_Mo_corners 129 = .ok (.ifCond .eq 75, 3) := by decide +kernel
theorem d_Mo_corners_132 : decode b_Mo_corners 132 = .ok (.aload_n 0, 1) := by decide +kernel
theorem d_Mo_corners_133 : decode b_Mo_corners 133 = .ok (.getfield 80, 3) := by decide +kernel
theorem d_Mo_corners_136 : decode b_Mo_corners 136 = .ok (.iload 5, 2) := by decide +kernel
theorem d_Mo_corners_138 : decode b_Mo_corners 138 = .ok (.aload_n 0, 1) := by decide +kernel
theorem d_Mo_corners_139 : decode b_Mo_corners 139 = .ok (.getfield 218, 3) := by decide +kernel
theorem d_Mo_corners_142 : decode b_Mo_corners 142 = .ok (.iadd, 1) := by decide +kernel
theorem d_Mo_corners_143 : decode b_Mo_corners 143 = .ok (.iconst 1, 1) := by decide +kernel
theorem d_Mo_corners_144 : decode b_Mo_corners 144 = .ok (.iadd, 1) := by decide +kernel
theorem d_Mo_corners_145 : decode b_Mo_corners 145 = .ok (.baload, 1) := by decide +kernel
theorem d_Mo_corners_146 : decode b_Mo_corners 146 = .ok (.ifCond .ne 6, 3) := by decide +kernel
theorem d_Mo_corners_149 : decode b_Mo_corners 149 = .ok (.goto 55, 3) := by decide +kernel
theorem d_Mo_corners_152 : decode b_Mo_corners 152 = .ok (.aload_n 0, 1) := by decide +kernel
theorem d_Mo_corners_153 : decode b_Mo_corners 153 = .ok (.iload_n 1, 1) := by decide +kernel
theorem d_Mo_corners_154 : decode b_Mo_corners 154 = .ok (.invokevirtual 240, 3) := by decide +kernel
theorem d_Mo_corners_157 : decode b_Mo_corners 157 = .ok (.aload_n 0, 1) := by decide +kernel
theorem d_Mo_corners_158 : decode b_Mo_corners 158 = .ok (.iload_n 1, 1) := by decide +kernel
theorem d_Mo_corners_159 : decode b_Mo_corners 159 = .ok (.iload 5, 2) := by decide +kernel
theorem d_Mo_corners_161 : decode b_Mo_corners 161 = .ok (.invokevirtual 243, 3) := by decide +kernel
theorem d_Mo_corners_164 : decode b_Mo_corners 164 = .ok (.aload_n 0, 1) := by decide +kernel
theorem d_Mo_corners_165 : decode b_Mo_corners 165 = .ok (.iload_n 1, 1) := by decide +kernel
theorem d_Mo_corners_166 : decode b_Mo_corners 166 = .ok (.iload 5, 2) := by decide +kernel
theorem d_Mo_corners_168 : decode b_Mo_corners 168 = .ok (.iconst 1, 1) := by decide +kernel
theorem d_Mo_corners_169 : decode b_Mo_corners 169 = .ok (.iadd, 1) := by decide +kernel
theorem d_Mo_corners_170 : decode b_Mo_corners 170 = .ok (.invokevirtual 243, 3) := by decide +kernel
theorem d_Mo_corners_173 : decode b_Mo_corners 173 = .ok (.aload_n 0, 1) := by decide +kernel
theorem d_Mo_corners_174 : decode b_Mo_corners 174 = .ok (.iload_n 1, 1) := by decide +kernel
theorem d_Mo_corners_175 : decode b_Mo_corners 175 = .ok (.iload 5, 2) := by decide +kernel
theorem d_Mo_corners_177 : decode b_Mo_corners 177 = .ok (.aload_n 0, 1) := by decide +kernel
theorem d_Mo_corners_178 : decode b_Mo_corners 178 = .ok (.getfield 218, 3) := by decide +kernel
theorem d_Mo_corners_181 : decode b_Mo_corners 181 = .ok (.iadd, 1) := by decide +kernel
theorem d_Mo_corners_182 : decode b_Mo_corners 182 = .ok (.invokevirtual 243, 3) := by decide +kernel
theorem d_Mo_corners_185 : decode b_Mo_corners 185 = .ok (.aload_n 0, 1) := by decide +kernel
theorem d_Mo_corners_186 : decode b_Mo_corners 186 = .ok (.iload_n 1, 1) := by decide +kernel
theorem d_Mo_corners_187 : decode b_Mo_corners 187 = .ok (.iload 5, 2) := by decide +kernel
theorem d_Mo_corners_189 : decode b_Mo_corners 189 = .ok (.aload_n 0, 1) := by decide +kernel
theorem d_Mo_corners_190 : decode b_Mo_corners 190 = .ok (.getfield 218, 3) := by decide +kernel
theorem d_Mo_corners_193 : decode b_Mo_corners 193 = .ok (.iadd, 1) := by decide +kernel
theorem d_Mo_corners_194 : decode b_Mo_corners 194 = .ok (.iconst 1, 1) := by decide +kernel
theorem d_Mo_corners_195 : decode b_Mo_corners 195 = .ok (.iadd, 1) := by decide +kernel
theorem d_Mo_corners_196 : decode b_Mo_corners 196 = .ok (.invokevirtual 243, 3) := by decide +kernel
theorem d_Mo_corners_199 : decode b_Mo_corners 199 = .ok (.aload_n 0, 1) := by decide +kernel
theorem d_Mo_corners_200 : decode b_Mo_corners 200 = .ok (.iload_n 1, 1) := by decide +kernel
theorem d_Mo_corners_201 : decode b_Mo_corners 201 = .ok (.invokevirtual 247, 3) := by decide +kernel
theorem d_Mo_corners_204 : decode b_Mo_corners 204 = .ok (.iinc 4 1, 3) := by decide +kernel
theorem d_Mo_corners_207 : decode b_Mo_corners 207 = .ok (.goto (-149), 3) := by decide +kernel
theorem d_Mo_corners_210 : decode b_Mo_corners 210 = .ok (.return_, 1) := by decide +kernel
set_option maxHeartbeats 4000000 in
set_option maxRecDepth 100000 in
theorem lp_Mo_corners_58 (g : GG) {m0 : Nat} {ad : Nat → Nat} {qth : Int32} {qsz : Int32} {qtk : Int32} {qde : Int32} {qru : Int32} {qat : Int32} {qen : Int32} {qto : Int32} {qbe : Int32} {qva : Int32} {qwr : Int32} {qop : Int32} {qrw : Int32} {qir : Bool} {qiu : Bool} {lv : Nat} {fr : Nat} {z : Nat} {uw : Nat} {uh : Nat} {md : Nat} {ST : Nat → Nat} {SB : Nat → Nat} {CH : Nat → Nat} {HA : Nat → Bool} (hw0 : 0 < uw) (hw1 : uw ≤ 16) (hh0 : 0 < uh) (hh1 : uh ≤ 16) (hl : 1 ≤ lv) (hl2 : lv ≤ 40) (hz : z ≤ 256) (hfr : fr + z ≤ 17000 * lv) (hp : ∀ i, i < z → ST (fr + i) < uw * uh) (h0 : LvC ST SB CH lv []) (hn : ((segL ST fr z).flatMap (corP uw (segL ST fr z))).length ≤ 614) {x : X0} {A : Nat → Prop} {Q : State → Prop}  (C : CX x g A R_Mo b_Mo_corners 6) (E : RX x g A Q none (fun (r0 : Option Value) (w0 : va_W) => ∃ STc : Nat → Nat, ∃ SBc : Nat → Nat, ∃ CHc : Nat → Nat, ∃ H2 : Nat → Bool, r0 = none ∧ w0 = [(m0, .inr (9, MO ad qth qsz (bI qir) qtk qde qru qat qen qto qbe qva qwr qop (bI qiu) (nI uw) (nI uh) qrw (nI (md + ((segL ST fr z).flatMap (corP uw (segL ST fr z))).length)))), ((ad 37), .inl (g.2.1 0, 697000, .inl (aI STc))), ((ad 38), .inl (g.2.1 0, 25300, .inl (aI SBc))), ((ad 39), .inl (g.2.1 0, 41, .inl (aI CHc))), ((ad 41), .inl (g.2.1 2, 256, .inl (zI H2)))] ∧ (LvC STc SBc CHc lv ((segL ST fr z).flatMap (corP uw (segL ST fr z)))) ∧ (LvF lv ST SB CH STc SBc CHc)) (rmk 1 0 0 23).cells (rmk 1 0 0 23).slots) (hR : xR x = (rmk 1 0 0 23)) : ∀ (fuel : Nat) (i : Nat) (STc : Nat → Nat) (SBc : Nat → Nat) (CHc : Nat → Nat) (md2 : Nat) (Cs : List (List Nat)) (HC : Nat → Bool) (hi : i ≤ z) (hC : LvC STc SBc CHc lv Cs) (hF : LvF lv ST SB CH STc SBc CHc) (hm2 : md2 = md + Cs.length) (hs2 : SBc (616 * lv + Cs.length) = 4 * Cs.length) (hH : ∀ t, t < 256 → HC t = decide (t ∈ (segL ST fr z))) (hI : Cs ++ ((segL ST fr z).drop i).flatMap (corP uw (segL ST fr z)) = ((segL ST fr z).flatMap (corP uw (segL ST fr z)))), z - i < fuel → J x g A Q 6 ([(m0, .inr (9, MO ad qth qsz (bI qir) qtk qde qru qat qen qto qbe qva qwr qop (bI qiu) (nI uw) (nI uh) qrw (nI md2))), ((ad 37), .inl (g.2.1 0, 697000, .inl (aI STc))), ((ad 38), .inl (g.2.1 0, 25300, .inl (aI SBc))), ((ad 39), .inl (g.2.1 0, 41, .inl (aI CHc))), ((ad 41), .inl (g.2.1 2, 256, .inl (zI HC)))]) [(0, .ref m0), (1, .int (nI lv)), (2, .int (nI fr)), (3, .int (nI z)), (4, .int (nI i))] 58 [] 0 0 := by
  intro fuel
  induction fuel with
  | zero =>
    intro i STc SBc CHc md2 Cs HC hi hC hF hm2 hs2 hH hI hm
    exact absurd hm (Nat.not_lt_zero _)
  | succ fuel ih =>
    intro i STc SBc CHc md2 Cs HC hi hC hF hm2 hs2 hH hI hm
    refine r_iload C 4 d_Mo_corners_58 rfl ?_
    refine r_iload_n C 3 d_Mo_corners_60 rfl rfl ?_
    refine r_ncmp_ge C 210 d_Mo_corners_61 (by decide) (by omega) (by omega) (fun c_61 => ?_) (fun c_61 => ?_)
    · skip
      refine r_vret C E d_Mo_corners_210 (by first | decide | omega | (simp only [rmk]; omega)) (by first | decide | omega | (simp only [rmk]; omega)) ?_
      rw [List.drop_of_length_le (by rw [segL_len]; omega), List.flatMap_nil, List.append_nil] at hI
      subst hI
      subst hm2
      exact ⟨_, _, _, _, rfl, rfl, hC, hF⟩
    · skip
      have hgr := gr_256 hw1 hh1
      have hpi := hp i (by omega)
      have hfi : STc (fr + i) = ST (fr + i) := hF.1 _ (by omega)
      have hLs : ∀ q ∈ (segL ST fr z), q < uw * uh := fun q h => by obtain ⟨a, b, c⟩ := segL_mem.mp h; rw [← c]; exact hp a b
      have hsg := seg_d (ST := ST) (fr := fr) (z := z) (i := i) (by omega)
      have hX : ST (fr + i) % uw < uw := Nat.mod_lt _ hw0
      have hYq : ST (fr + i) / uw < uh := Nat.div_lt_of_lt_mul hpi
      refine r_aload_n C 0 d_Mo_corners_64 rfl rfl ?_
      refine r_get C 0 37 d_Mo_corners_65 ci_Mo fi_Mo_68 rfl (by decide) rfl rfl ?_
      refine r_iload_n C 2 d_Mo_corners_68 rfl rfl ?_
      refine r_iload C 4 d_Mo_corners_69 rfl ?_
      refine r_nadd C d_Mo_corners_71 ?_
      refine r_nald C 1 0 d_Mo_corners_72 rfl rfl (by omega) (by decide) ?_
      refine r_top (v' := nI (ST (fr + i))) (by rw [hfi]) ?_
      refine r_istore C (lv' := [(5, .int (nI (ST (fr + i)))), (0, .ref m0), (1, .int (nI lv)), (2, .int (nI fr)), (3, .int (nI z)), (4, .int (nI i))]) d_Mo_corners_73 (by decide) rfl ?_
      refine r_aload_n C 1 d_Mo_corners_75 rfl rfl ?_
      refine r_iload C 0 d_Mo_corners_76 rfl ?_
      refine j_callV C (c_Mo_x g (xl x) (m0 := m0) (ad := ad) (qth := qth) (qsz := qsz) (qtk := qtk) (qde := qde) (qru := qru) (qat := qat) (qen := qen) (qto := qto) (qbe := qbe) (qva := qva) (qwr := qwr) (qop := qop) (qhe := nI uh) (qrw := qrw) (qma := nI md2) (qir := qir) (qiu := qiu) (uw := uw) (c := ST (fr + i)) (by first | assumption | omega | rfl) (by first | assumption | omega | rfl) (by first | assumption | omega | rfl)) (Sp.of (wr := [((ad 37), .inl (g.2.1 0, 697000, .inl (aI STc))), ((ad 38), .inl (g.2.1 0, 25300, .inl (aI SBc))), ((ad 39), .inl (g.2.1 0, 41, .inl (aI CHc))), ((ad 41), .inl (g.2.1 2, 256, .inl (zI HC)))]) [0] [1, 2, 3, 4] rfl rfl rfl rfl (by decide)) d_Mo_corners_78 lk_Mo_228 mw_Mo_x vw_Mo_x (q0 := 0) rfl rfl (fit_of hR (by first | decide | (simp only [rmk]; omega)) (by first | decide | (simp only [rmk]; omega)) (by first | decide | (simp only [rmk]; omega)) (by first | decide | (simp only [rmk]; omega))) rfl (cat8 (Nat.le_of_ble_eq_true rfl)) (As := [.int (nI (ST (fr + i)))]) (rest := []) rfl (fun r_78 w_78 hp_78 => ?_)
      obtain ⟨rfl, rfl⟩ := hp_78
      refine r_after (ws' := [(m0, .inr (9, MO ad qth qsz (bI qir) qtk qde qru qat qen qto qbe qva qwr qop (bI qiu) (nI uw) (nI uh) qrw (nI md2))), ((ad 37), .inl (g.2.1 0, 697000, .inl (aI STc))), ((ad 38), .inl (g.2.1 0, 25300, .inl (aI SBc))), ((ad 39), .inl (g.2.1 0, 41, .inl (aI CHc))), ((ad 41), .inl (g.2.1 2, 256, .inl (zI HC)))]) (st' := [.int (nI ((ST (fr + i)) % uw))]) (n1 := 0) (n2 := 0) [4, 0, 1, 2, 3] rfl rfl rfl rfl rfl ?_
      refine r_aload_n C 1 d_Mo_corners_81 rfl rfl ?_
      refine r_get C 0 30 d_Mo_corners_82 ci_Mo fi_Mo_218 rfl (by decide) rfl rfl ?_
      refine r_iconst C (nI 1) d_Mo_corners_85 (by decide) ?_
      refine r_nsub C d_Mo_corners_86 (by omega) ?_
      refine r_ncmp_eq C 204 d_Mo_corners_87 (by decide) (by omega) (by omega) (fun c_87 => ?_) (fun c_87 => ?_)
      · skip
        refine r_iinc C 5 (nI (i + 1)) (lv' := [(4, .int (nI (i + 1))), (5, .int (nI (ST (fr + i)))), (0, .ref m0), (1, .int (nI lv)), (2, .int (nI fr)), (3, .int (nI z))]) d_Mo_corners_204 rfl (nI_inc 1 _) (by decide) rfl ?_
        refine r_goto C 58 d_Mo_corners_207 (by decide) ?_
        refine r_lv (lv' := [(0, .ref m0), (1, .int (nI lv)), (2, .int (nI fr)), (3, .int (nI z)), (4, .int (nI (i + 1)))]) [2, 3, 4, 5, 0] rfl ?_
        exact ih (i + 1) STc SBc CHc md2 Cs HC (by first | assumption | omega | rfl) (hC) (hF) (hm2) (hs2) (hH) (co_go0 hsg hI (co_no hw0 hpi hLs (Or.inl c_87))) (by omega)
      · skip
        refine r_aload_n C 1 d_Mo_corners_90 rfl rfl ?_
        refine r_iload C 0 d_Mo_corners_91 rfl ?_
        refine j_callV C (c_Mo_y g (xl x) (m0 := m0) (ad := ad) (qth := qth) (qsz := qsz) (qtk := qtk) (qde := qde) (qru := qru) (qat := qat) (qen := qen) (qto := qto) (qbe := qbe) (qva := qva) (qwr := qwr) (qop := qop) (qhe := nI uh) (qrw := qrw) (qma := nI md2) (qir := qir) (qiu := qiu) (uw := uw) (c := ST (fr + i)) (by first | assumption | omega | rfl) (by first | assumption | omega | rfl) (by first | assumption | omega | rfl)) (Sp.of (wr := [((ad 37), .inl (g.2.1 0, 697000, .inl (aI STc))), ((ad 38), .inl (g.2.1 0, 25300, .inl (aI SBc))), ((ad 39), .inl (g.2.1 0, 41, .inl (aI CHc))), ((ad 41), .inl (g.2.1 2, 256, .inl (zI HC)))]) [0] [1, 2, 3, 4] rfl rfl rfl rfl (by decide)) d_Mo_corners_93 lk_Mo_224 mw_Mo_y vw_Mo_y (q0 := 0) rfl rfl (fit_of hR (by first | decide | (simp only [rmk]; omega)) (by first | decide | (simp only [rmk]; omega)) (by first | decide | (simp only [rmk]; omega)) (by first | decide | (simp only [rmk]; omega))) rfl (cat8 (Nat.le_of_ble_eq_true rfl)) (As := [.int (nI (ST (fr + i)))]) (rest := []) rfl (fun r_93 w_93 hp_93 => ?_)
        obtain ⟨rfl, rfl⟩ := hp_93
        refine r_after (ws' := [(m0, .inr (9, MO ad qth qsz (bI qir) qtk qde qru qat qen qto qbe qva qwr qop (bI qiu) (nI uw) (nI uh) qrw (nI md2))), ((ad 37), .inl (g.2.1 0, 697000, .inl (aI STc))), ((ad 38), .inl (g.2.1 0, 25300, .inl (aI SBc))), ((ad 39), .inl (g.2.1 0, 41, .inl (aI CHc))), ((ad 41), .inl (g.2.1 2, 256, .inl (zI HC)))]) (st' := [.int (nI ((ST (fr + i)) / uw))]) (n1 := 0) (n2 := 0) [4, 0, 1, 2, 3] rfl rfl rfl rfl rfl ?_
        refine r_aload_n C 1 d_Mo_corners_96 rfl rfl ?_
        refine r_get C 0 31 d_Mo_corners_97 ci_Mo fi_Mo_231 rfl (by decide) rfl rfl ?_
        refine r_iconst C (nI 1) d_Mo_corners_100 (by decide) ?_
        refine r_nsub C d_Mo_corners_101 (by omega) ?_
        refine r_ncmp_eq C 204 d_Mo_corners_102 (by decide) (by omega) (by omega) (fun c_102 => ?_) (fun c_102 => ?_)
        · skip
          refine r_iinc C 5 (nI (i + 1)) (lv' := [(4, .int (nI (i + 1))), (5, .int (nI (ST (fr + i)))), (0, .ref m0), (1, .int (nI lv)), (2, .int (nI fr)), (3, .int (nI z))]) d_Mo_corners_204 rfl (nI_inc 1 _) (by decide) rfl ?_
          refine r_goto C 58 d_Mo_corners_207 (by decide) ?_
          refine r_lv (lv' := [(0, .ref m0), (1, .int (nI lv)), (2, .int (nI fr)), (3, .int (nI z)), (4, .int (nI (i + 1)))]) [2, 3, 4, 5, 0] rfl ?_
          exact ih (i + 1) STc SBc CHc md2 Cs HC (by first | assumption | omega | rfl) (hC) (hF) (hm2) (hs2) (hH) (co_go0 hsg hI (co_no hw0 hpi hLs (Or.inr (Or.inl c_102)))) (by omega)
        · skip
          have hin := co_in hw0 hpi c_87 c_102
          have hH1 := hH (ST (fr + i) + 1) (by omega)
          have hH2 := hH (ST (fr + i) + uw) (by omega)
          have hH3 := hH (ST (fr + i) + uw + 1) (by omega)
          refine r_aload_n C 1 d_Mo_corners_105 rfl rfl ?_
          refine r_get C 0 41 d_Mo_corners_106 ci_Mo fi_Mo_80 rfl (by decide) rfl rfl ?_
          refine r_iload C 0 d_Mo_corners_109 rfl ?_
          refine r_iconst C (nI 1) d_Mo_corners_111 (by decide) ?_
          refine r_nadd C d_Mo_corners_112 ?_
          refine r_bald2 C 4 2 d_Mo_corners_113 rfl rfl (by omega) (by decide) ?_
          refine r_bif_eq C 204 d_Mo_corners_114 (by decide) (fun c_114 => ?_) (fun c_114 => ?_)
          · skip
            refine r_iinc C 5 (nI (i + 1)) (lv' := [(4, .int (nI (i + 1))), (5, .int (nI (ST (fr + i)))), (0, .ref m0), (1, .int (nI lv)), (2, .int (nI fr)), (3, .int (nI z))]) d_Mo_corners_204 rfl (nI_inc 1 _) (by decide) rfl ?_
            refine r_goto C 58 d_Mo_corners_207 (by decide) ?_
            refine r_lv (lv' := [(0, .ref m0), (1, .int (nI lv)), (2, .int (nI fr)), (3, .int (nI z)), (4, .int (nI (i + 1)))]) [2, 3, 4, 5, 0] rfl ?_
            exact ih (i + 1) STc SBc CHc md2 Cs HC (by first | assumption | omega | rfl) (hC) (hF) (hm2) (hs2) (hH) (co_go0 hsg hI (co_no hw0 hpi hLs (Or.inr (Or.inr (Or.inl (ha_f hH1 c_114)))))) (by omega)
          · skip
            refine r_aload_n C 1 d_Mo_corners_117 rfl rfl ?_
            refine r_get C 0 41 d_Mo_corners_118 ci_Mo fi_Mo_80 rfl (by decide) rfl rfl ?_
            refine r_iload C 0 d_Mo_corners_121 rfl ?_
            refine r_aload_n C 1 d_Mo_corners_123 rfl rfl ?_
            refine r_get C 0 30 d_Mo_corners_124 ci_Mo fi_Mo_218 rfl (by decide) rfl rfl ?_
            refine r_nadd C d_Mo_corners_127 ?_
            refine r_bald2 C 4 2 d_Mo_corners_128 rfl rfl (by omega) (by decide) ?_
            refine r_bif_eq C 204 d_Mo_corners_129 (by decide) (fun c_129 => ?_) (fun c_129 => ?_)
            · skip
              refine r_iinc C 5 (nI (i + 1)) (lv' := [(4, .int (nI (i + 1))), (5, .int (nI (ST (fr + i)))), (0, .ref m0), (1, .int (nI lv)), (2, .int (nI fr)), (3, .int (nI z))]) d_Mo_corners_204 rfl (nI_inc 1 _) (by decide) rfl ?_
              refine r_goto C 58 d_Mo_corners_207 (by decide) ?_
              refine r_lv (lv' := [(0, .ref m0), (1, .int (nI lv)), (2, .int (nI fr)), (3, .int (nI z)), (4, .int (nI (i + 1)))]) [2, 3, 4, 5, 0] rfl ?_
              exact ih (i + 1) STc SBc CHc md2 Cs HC (by first | assumption | omega | rfl) (hC) (hF) (hm2) (hs2) (hH) (co_go0 hsg hI (co_no hw0 hpi hLs (Or.inr (Or.inr (Or.inr (Or.inl (ha_f hH2 c_129))))))) (by omega)
            · skip
              refine r_aload_n C 1 d_Mo_corners_132 rfl rfl ?_
              refine r_get C 0 41 d_Mo_corners_133 ci_Mo fi_Mo_80 rfl (by decide) rfl rfl ?_
              refine r_iload C 0 d_Mo_corners_136 rfl ?_
              refine r_aload_n C 1 d_Mo_corners_138 rfl rfl ?_
              refine r_get C 0 30 d_Mo_corners_139 ci_Mo fi_Mo_218 rfl (by decide) rfl rfl ?_
              refine r_nadd C d_Mo_corners_142 ?_
              refine r_iconst C (nI 1) d_Mo_corners_143 (by decide) ?_
              refine r_nadd C d_Mo_corners_144 ?_
              refine r_bald2 C 4 2 d_Mo_corners_145 rfl rfl (by omega) (by decide) ?_
              refine r_bif_ne C 152 d_Mo_corners_146 (by decide) (fun c_146 => ?_) (fun c_146 => ?_)
              · skip
                have hco := co_yes hw0 c_87 (ha_t hH1 c_114) (ha_t hH2 c_129) (ha_t hH3 c_146)
                have hgo := co_go hsg hI hco
                have hlt : Cs.length + 1 ≤ 614 := sd_len hgo hn
                have hch := hC.2
                have hsb : SBc (616 * lv + CHc lv) = 4 * Cs.length := by rw [hch]; exact hs2
                refine r_aload_n C 1 d_Mo_corners_152 rfl rfl ?_
                refine r_iload_n C 2 d_Mo_corners_153 rfl rfl ?_
                refine j_callV C (c_Mo_beginSet g (xl x) (m0 := m0) (ad := ad) (qth := qth) (qsz := qsz) (qtk := qtk) (qde := qde) (qru := qru) (qat := qat) (qen := qen) (qto := qto) (qbe := qbe) (qva := qva) (qwr := qwr) (qop := qop) (qwi := nI uw) (qhe := nI uh) (qrw := qrw) (qma := nI md2) (qir := qir) (qiu := qiu) (lv := lv) (SB := SBc) (CH := CHc) (by first | assumption | omega | rfl) (by first | assumption | omega | rfl)) (Sp.of (wr := [((ad 37), .inl (g.2.1 0, 697000, .inl (aI STc))), ((ad 41), .inl (g.2.1 2, 256, .inl (zI HC)))]) [0, 2, 3] [1, 4] rfl rfl rfl rfl (by decide)) d_Mo_corners_154 lk_Mo_240 mw_Mo_beginSet vw_Mo_beginSet (q0 := 0) rfl rfl (fit_of hR (by first | decide | (simp only [rmk]; omega)) (by first | decide | (simp only [rmk]; omega)) (by first | decide | (simp only [rmk]; omega)) (by first | decide | (simp only [rmk]; omega))) rfl (cat8 (Nat.le_of_ble_eq_true rfl)) (As := [.int (nI lv)]) (rest := []) rfl (fun r_154 w_154 hp_154 => ?_)
                obtain ⟨rfl, rfl⟩ := hp_154
                refine r_after (ws' := [(m0, .inr (9, MO ad qth qsz (bI qir) qtk qde qru qat qen qto qbe qva qwr qop (bI qiu) (nI uw) (nI uh) qrw (nI md2))), ((ad 37), .inl (g.2.1 0, 697000, .inl (aI STc))), ((ad 38), .inl (g.2.1 0, 25300, .inl (aI (up SBc (616 * lv + CHc lv + 1) (SBc (616 * lv + CHc lv)))))), ((ad 39), .inl (g.2.1 0, 41, .inl (aI CHc))), ((ad 41), .inl (g.2.1 2, 256, .inl (zI HC)))]) (st' := []) (n1 := 0) (n2 := 0) [2, 0, 3, 4, 1] rfl rfl rfl rfl rfl ?_
                refine r_aload_n C 1 d_Mo_corners_157 rfl rfl ?_
                refine r_iload_n C 2 d_Mo_corners_158 rfl rfl ?_
                refine r_iload C 0 d_Mo_corners_159 rfl ?_
                refine j_callV C (c_Mo_add g (xl x) (m0 := m0) (ad := ad) (qth := qth) (qsz := qsz) (qtk := qtk) (qde := qde) (qru := qru) (qat := qat) (qen := qen) (qto := qto) (qbe := qbe) (qva := qva) (qwr := qwr) (qop := qop) (qwi := nI uw) (qhe := nI uh) (qrw := qrw) (qma := nI md2) (qir := qir) (qiu := qiu) (lv := lv) (p := ST (fr + i)) (SB := up SBc (616 * lv + CHc lv + 1) (SBc (616 * lv + CHc lv))) (CH := CHc) (ST := STc) (by first | assumption | omega | rfl) (by first | assumption | omega | rfl) (by rw [up_self, hsb]; omega)) (Sp.of (wr := [((ad 41), .inl (g.2.1 2, 256, .inl (zI HC)))]) [0, 2, 3, 1] [4] rfl rfl rfl rfl (by decide)) d_Mo_corners_161 lk_Mo_243 mw_Mo_add vw_Mo_add (q0 := 0) rfl rfl (fit_of hR (by first | decide | (simp only [rmk]; omega)) (by first | decide | (simp only [rmk]; omega)) (by first | decide | (simp only [rmk]; omega)) (by first | decide | (simp only [rmk]; omega))) rfl (cat8 (Nat.le_of_ble_eq_true rfl)) (As := [.int (nI lv), .int (nI (ST (fr + i)))]) (rest := []) rfl (fun r_161 w_161 hp_161 => ?_)
                obtain ⟨rfl, rfl⟩ := hp_161
                refine r_after (ws' := [(m0, .inr (9, MO ad qth qsz (bI qir) qtk qde qru qat qen qto qbe qva qwr qop (bI qiu) (nI uw) (nI uh) qrw (nI md2))), ((ad 37), .inl (g.2.1 0, 697000, .inl (aI (up STc (17000 * lv + (up SBc (616 * lv + CHc lv + 1) (SBc (616 * lv + CHc lv))) (616 * lv + CHc lv + 1)) (ST (fr + i)))))), ((ad 38), .inl (g.2.1 0, 25300, .inl (aI (up (up SBc (616 * lv + CHc lv + 1) (SBc (616 * lv + CHc lv))) (616 * lv + CHc lv + 1) ((up SBc (616 * lv + CHc lv + 1) (SBc (616 * lv + CHc lv))) (616 * lv + CHc lv + 1) + 1))))), ((ad 39), .inl (g.2.1 0, 41, .inl (aI CHc))), ((ad 41), .inl (g.2.1 2, 256, .inl (zI HC)))]) (st' := []) (n1 := 0) (n2 := 0) [1, 4, 2, 3, 0] rfl rfl rfl rfl rfl ?_
                refine r_aload_n C 1 d_Mo_corners_164 rfl rfl ?_
                refine r_iload_n C 2 d_Mo_corners_165 rfl rfl ?_
                refine r_iload C 0 d_Mo_corners_166 rfl ?_
                refine r_iconst C (nI 1) d_Mo_corners_168 (by decide) ?_
                refine r_nadd C d_Mo_corners_169 ?_
                refine j_callV C (c_Mo_add g (xl x) (m0 := m0) (ad := ad) (qth := qth) (qsz := qsz) (qtk := qtk) (qde := qde) (qru := qru) (qat := qat) (qen := qen) (qto := qto) (qbe := qbe) (qva := qva) (qwr := qwr) (qop := qop) (qwi := nI uw) (qhe := nI uh) (qrw := qrw) (qma := nI md2) (qir := qir) (qiu := qiu) (lv := lv) (p := (ST (fr + i)) + 1) (SB := up (up SBc (616 * lv + CHc lv + 1) (SBc (616 * lv + CHc lv))) (616 * lv + CHc lv + 1) ((up SBc (616 * lv + CHc lv + 1) (SBc (616 * lv + CHc lv))) (616 * lv + CHc lv + 1) + 1)) (CH := CHc) (ST := up STc (17000 * lv + (up SBc (616 * lv + CHc lv + 1) (SBc (616 * lv + CHc lv))) (616 * lv + CHc lv + 1)) (ST (fr + i))) (by first | assumption | omega | rfl) (by first | assumption | omega | rfl) (by rw [up_self, up_self, hsb]; omega)) (Sp.of (wr := [((ad 41), .inl (g.2.1 2, 256, .inl (zI HC)))]) [0, 2, 3, 1] [4] rfl rfl rfl rfl (by decide)) d_Mo_corners_170 lk_Mo_243 mw_Mo_add vw_Mo_add (q0 := 0) rfl rfl (fit_of hR (by first | decide | (simp only [rmk]; omega)) (by first | decide | (simp only [rmk]; omega)) (by first | decide | (simp only [rmk]; omega)) (by first | decide | (simp only [rmk]; omega))) rfl (cat8 (Nat.le_of_ble_eq_true rfl)) (As := [.int (nI lv), .int (nI ((ST (fr + i)) + 1))]) (rest := []) rfl (fun r_170 w_170 hp_170 => ?_)
                obtain ⟨rfl, rfl⟩ := hp_170
                refine r_after (ws' := [(m0, .inr (9, MO ad qth qsz (bI qir) qtk qde qru qat qen qto qbe qva qwr qop (bI qiu) (nI uw) (nI uh) qrw (nI md2))), ((ad 37), .inl (g.2.1 0, 697000, .inl (aI (up (up STc (17000 * lv + (up SBc (616 * lv + CHc lv + 1) (SBc (616 * lv + CHc lv))) (616 * lv + CHc lv + 1)) (ST (fr + i))) (17000 * lv + (up (up SBc (616 * lv + CHc lv + 1) (SBc (616 * lv + CHc lv))) (616 * lv + CHc lv + 1) ((up SBc (616 * lv + CHc lv + 1) (SBc (616 * lv + CHc lv))) (616 * lv + CHc lv + 1) + 1)) (616 * lv + CHc lv + 1)) ((ST (fr + i)) + 1))))), ((ad 38), .inl (g.2.1 0, 25300, .inl (aI (up (up (up SBc (616 * lv + CHc lv + 1) (SBc (616 * lv + CHc lv))) (616 * lv + CHc lv + 1) ((up SBc (616 * lv + CHc lv + 1) (SBc (616 * lv + CHc lv))) (616 * lv + CHc lv + 1) + 1)) (616 * lv + CHc lv + 1) ((up (up SBc (616 * lv + CHc lv + 1) (SBc (616 * lv + CHc lv))) (616 * lv + CHc lv + 1) ((up SBc (616 * lv + CHc lv + 1) (SBc (616 * lv + CHc lv))) (616 * lv + CHc lv + 1) + 1)) (616 * lv + CHc lv + 1) + 1))))), ((ad 39), .inl (g.2.1 0, 41, .inl (aI CHc))), ((ad 41), .inl (g.2.1 2, 256, .inl (zI HC)))]) (st' := []) (n1 := 0) (n2 := 0) [1, 4, 2, 3, 0] rfl rfl rfl rfl rfl ?_
                refine r_aload_n C 1 d_Mo_corners_173 rfl rfl ?_
                refine r_iload_n C 2 d_Mo_corners_174 rfl rfl ?_
                refine r_iload C 0 d_Mo_corners_175 rfl ?_
                refine r_aload_n C 1 d_Mo_corners_177 rfl rfl ?_
                refine r_get C 0 30 d_Mo_corners_178 ci_Mo fi_Mo_218 rfl (by decide) rfl rfl ?_
                refine r_nadd C d_Mo_corners_181 ?_
                refine j_callV C (c_Mo_add g (xl x) (m0 := m0) (ad := ad) (qth := qth) (qsz := qsz) (qtk := qtk) (qde := qde) (qru := qru) (qat := qat) (qen := qen) (qto := qto) (qbe := qbe) (qva := qva) (qwr := qwr) (qop := qop) (qwi := nI uw) (qhe := nI uh) (qrw := qrw) (qma := nI md2) (qir := qir) (qiu := qiu) (lv := lv) (p := (ST (fr + i)) + uw) (SB := up (up (up SBc (616 * lv + CHc lv + 1) (SBc (616 * lv + CHc lv))) (616 * lv + CHc lv + 1) ((up SBc (616 * lv + CHc lv + 1) (SBc (616 * lv + CHc lv))) (616 * lv + CHc lv + 1) + 1)) (616 * lv + CHc lv + 1) ((up (up SBc (616 * lv + CHc lv + 1) (SBc (616 * lv + CHc lv))) (616 * lv + CHc lv + 1) ((up SBc (616 * lv + CHc lv + 1) (SBc (616 * lv + CHc lv))) (616 * lv + CHc lv + 1) + 1)) (616 * lv + CHc lv + 1) + 1)) (CH := CHc) (ST := up (up STc (17000 * lv + (up SBc (616 * lv + CHc lv + 1) (SBc (616 * lv + CHc lv))) (616 * lv + CHc lv + 1)) (ST (fr + i))) (17000 * lv + (up (up SBc (616 * lv + CHc lv + 1) (SBc (616 * lv + CHc lv))) (616 * lv + CHc lv + 1) ((up SBc (616 * lv + CHc lv + 1) (SBc (616 * lv + CHc lv))) (616 * lv + CHc lv + 1) + 1)) (616 * lv + CHc lv + 1)) ((ST (fr + i)) + 1)) (by first | assumption | omega | rfl) (by first | assumption | omega | rfl) (by rw [up_self, up_self, up_self, hsb]; omega)) (Sp.of (wr := [((ad 41), .inl (g.2.1 2, 256, .inl (zI HC)))]) [0, 2, 3, 1] [4] rfl rfl rfl rfl (by decide)) d_Mo_corners_182 lk_Mo_243 mw_Mo_add vw_Mo_add (q0 := 0) rfl rfl (fit_of hR (by first | decide | (simp only [rmk]; omega)) (by first | decide | (simp only [rmk]; omega)) (by first | decide | (simp only [rmk]; omega)) (by first | decide | (simp only [rmk]; omega))) rfl (cat8 (Nat.le_of_ble_eq_true rfl)) (As := [.int (nI lv), .int (nI ((ST (fr + i)) + uw))]) (rest := []) rfl (fun r_182 w_182 hp_182 => ?_)
                obtain ⟨rfl, rfl⟩ := hp_182
                refine r_after (ws' := [(m0, .inr (9, MO ad qth qsz (bI qir) qtk qde qru qat qen qto qbe qva qwr qop (bI qiu) (nI uw) (nI uh) qrw (nI md2))), ((ad 37), .inl (g.2.1 0, 697000, .inl (aI (up (up (up STc (17000 * lv + (up SBc (616 * lv + CHc lv + 1) (SBc (616 * lv + CHc lv))) (616 * lv + CHc lv + 1)) (ST (fr + i))) (17000 * lv + (up (up SBc (616 * lv + CHc lv + 1) (SBc (616 * lv + CHc lv))) (616 * lv + CHc lv + 1) ((up SBc (616 * lv + CHc lv + 1) (SBc (616 * lv + CHc lv))) (616 * lv + CHc lv + 1) + 1)) (616 * lv + CHc lv + 1)) ((ST (fr + i)) + 1)) (17000 * lv + (up (up (up SBc (616 * lv + CHc lv + 1) (SBc (616 * lv + CHc lv))) (616 * lv + CHc lv + 1) ((up SBc (616 * lv + CHc lv + 1) (SBc (616 * lv + CHc lv))) (616 * lv + CHc lv + 1) + 1)) (616 * lv + CHc lv + 1) ((up (up SBc (616 * lv + CHc lv + 1) (SBc (616 * lv + CHc lv))) (616 * lv + CHc lv + 1) ((up SBc (616 * lv + CHc lv + 1) (SBc (616 * lv + CHc lv))) (616 * lv + CHc lv + 1) + 1)) (616 * lv + CHc lv + 1) + 1)) (616 * lv + CHc lv + 1)) ((ST (fr + i)) + uw))))), ((ad 38), .inl (g.2.1 0, 25300, .inl (aI (up (up (up (up SBc (616 * lv + CHc lv + 1) (SBc (616 * lv + CHc lv))) (616 * lv + CHc lv + 1) ((up SBc (616 * lv + CHc lv + 1) (SBc (616 * lv + CHc lv))) (616 * lv + CHc lv + 1) + 1)) (616 * lv + CHc lv + 1) ((up (up SBc (616 * lv + CHc lv + 1) (SBc (616 * lv + CHc lv))) (616 * lv + CHc lv + 1) ((up SBc (616 * lv + CHc lv + 1) (SBc (616 * lv + CHc lv))) (616 * lv + CHc lv + 1) + 1)) (616 * lv + CHc lv + 1) + 1)) (616 * lv + CHc lv + 1) ((up (up (up SBc (616 * lv + CHc lv + 1) (SBc (616 * lv + CHc lv))) (616 * lv + CHc lv + 1) ((up SBc (616 * lv + CHc lv + 1) (SBc (616 * lv + CHc lv))) (616 * lv + CHc lv + 1) + 1)) (616 * lv + CHc lv + 1) ((up (up SBc (616 * lv + CHc lv + 1) (SBc (616 * lv + CHc lv))) (616 * lv + CHc lv + 1) ((up SBc (616 * lv + CHc lv + 1) (SBc (616 * lv + CHc lv))) (616 * lv + CHc lv + 1) + 1)) (616 * lv + CHc lv + 1) + 1)) (616 * lv + CHc lv + 1) + 1))))), ((ad 39), .inl (g.2.1 0, 41, .inl (aI CHc))), ((ad 41), .inl (g.2.1 2, 256, .inl (zI HC)))]) (st' := []) (n1 := 0) (n2 := 0) [1, 4, 2, 3, 0] rfl rfl rfl rfl rfl ?_
                refine r_aload_n C 1 d_Mo_corners_185 rfl rfl ?_
                refine r_iload_n C 2 d_Mo_corners_186 rfl rfl ?_
                refine r_iload C 0 d_Mo_corners_187 rfl ?_
                refine r_aload_n C 1 d_Mo_corners_189 rfl rfl ?_
                refine r_get C 0 30 d_Mo_corners_190 ci_Mo fi_Mo_218 rfl (by decide) rfl rfl ?_
                refine r_nadd C d_Mo_corners_193 ?_
                refine r_iconst C (nI 1) d_Mo_corners_194 (by decide) ?_
                refine r_nadd C d_Mo_corners_195 ?_
                refine j_callV C (c_Mo_add g (xl x) (m0 := m0) (ad := ad) (qth := qth) (qsz := qsz) (qtk := qtk) (qde := qde) (qru := qru) (qat := qat) (qen := qen) (qto := qto) (qbe := qbe) (qva := qva) (qwr := qwr) (qop := qop) (qwi := nI uw) (qhe := nI uh) (qrw := qrw) (qma := nI md2) (qir := qir) (qiu := qiu) (lv := lv) (p := ((ST (fr + i)) + uw) + 1) (SB := up (up (up (up SBc (616 * lv + CHc lv + 1) (SBc (616 * lv + CHc lv))) (616 * lv + CHc lv + 1) ((up SBc (616 * lv + CHc lv + 1) (SBc (616 * lv + CHc lv))) (616 * lv + CHc lv + 1) + 1)) (616 * lv + CHc lv + 1) ((up (up SBc (616 * lv + CHc lv + 1) (SBc (616 * lv + CHc lv))) (616 * lv + CHc lv + 1) ((up SBc (616 * lv + CHc lv + 1) (SBc (616 * lv + CHc lv))) (616 * lv + CHc lv + 1) + 1)) (616 * lv + CHc lv + 1) + 1)) (616 * lv + CHc lv + 1) ((up (up (up SBc (616 * lv + CHc lv + 1) (SBc (616 * lv + CHc lv))) (616 * lv + CHc lv + 1) ((up SBc (616 * lv + CHc lv + 1) (SBc (616 * lv + CHc lv))) (616 * lv + CHc lv + 1) + 1)) (616 * lv + CHc lv + 1) ((up (up SBc (616 * lv + CHc lv + 1) (SBc (616 * lv + CHc lv))) (616 * lv + CHc lv + 1) ((up SBc (616 * lv + CHc lv + 1) (SBc (616 * lv + CHc lv))) (616 * lv + CHc lv + 1) + 1)) (616 * lv + CHc lv + 1) + 1)) (616 * lv + CHc lv + 1) + 1)) (CH := CHc) (ST := up (up (up STc (17000 * lv + (up SBc (616 * lv + CHc lv + 1) (SBc (616 * lv + CHc lv))) (616 * lv + CHc lv + 1)) (ST (fr + i))) (17000 * lv + (up (up SBc (616 * lv + CHc lv + 1) (SBc (616 * lv + CHc lv))) (616 * lv + CHc lv + 1) ((up SBc (616 * lv + CHc lv + 1) (SBc (616 * lv + CHc lv))) (616 * lv + CHc lv + 1) + 1)) (616 * lv + CHc lv + 1)) ((ST (fr + i)) + 1)) (17000 * lv + (up (up (up SBc (616 * lv + CHc lv + 1) (SBc (616 * lv + CHc lv))) (616 * lv + CHc lv + 1) ((up SBc (616 * lv + CHc lv + 1) (SBc (616 * lv + CHc lv))) (616 * lv + CHc lv + 1) + 1)) (616 * lv + CHc lv + 1) ((up (up SBc (616 * lv + CHc lv + 1) (SBc (616 * lv + CHc lv))) (616 * lv + CHc lv + 1) ((up SBc (616 * lv + CHc lv + 1) (SBc (616 * lv + CHc lv))) (616 * lv + CHc lv + 1) + 1)) (616 * lv + CHc lv + 1) + 1)) (616 * lv + CHc lv + 1)) ((ST (fr + i)) + uw)) (by first | assumption | omega | rfl) (by first | assumption | omega | rfl) (by rw [up_self, up_self, up_self, up_self, hsb]; omega)) (Sp.of (wr := [((ad 41), .inl (g.2.1 2, 256, .inl (zI HC)))]) [0, 2, 3, 1] [4] rfl rfl rfl rfl (by decide)) d_Mo_corners_196 lk_Mo_243 mw_Mo_add vw_Mo_add (q0 := 0) rfl rfl (fit_of hR (by first | decide | (simp only [rmk]; omega)) (by first | decide | (simp only [rmk]; omega)) (by first | decide | (simp only [rmk]; omega)) (by first | decide | (simp only [rmk]; omega))) rfl (cat8 (Nat.le_of_ble_eq_true rfl)) (As := [.int (nI lv), .int (nI (((ST (fr + i)) + uw) + 1))]) (rest := []) rfl (fun r_196 w_196 hp_196 => ?_)
                obtain ⟨rfl, rfl⟩ := hp_196
                refine r_after (ws' := [(m0, .inr (9, MO ad qth qsz (bI qir) qtk qde qru qat qen qto qbe qva qwr qop (bI qiu) (nI uw) (nI uh) qrw (nI md2))), ((ad 37), .inl (g.2.1 0, 697000, .inl (aI (up (up (up (up STc (17000 * lv + (up SBc (616 * lv + CHc lv + 1) (SBc (616 * lv + CHc lv))) (616 * lv + CHc lv + 1)) (ST (fr + i))) (17000 * lv + (up (up SBc (616 * lv + CHc lv + 1) (SBc (616 * lv + CHc lv))) (616 * lv + CHc lv + 1) ((up SBc (616 * lv + CHc lv + 1) (SBc (616 * lv + CHc lv))) (616 * lv + CHc lv + 1) + 1)) (616 * lv + CHc lv + 1)) ((ST (fr + i)) + 1)) (17000 * lv + (up (up (up SBc (616 * lv + CHc lv + 1) (SBc (616 * lv + CHc lv))) (616 * lv + CHc lv + 1) ((up SBc (616 * lv + CHc lv + 1) (SBc (616 * lv + CHc lv))) (616 * lv + CHc lv + 1) + 1)) (616 * lv + CHc lv + 1) ((up (up SBc (616 * lv + CHc lv + 1) (SBc (616 * lv + CHc lv))) (616 * lv + CHc lv + 1) ((up SBc (616 * lv + CHc lv + 1) (SBc (616 * lv + CHc lv))) (616 * lv + CHc lv + 1) + 1)) (616 * lv + CHc lv + 1) + 1)) (616 * lv + CHc lv + 1)) ((ST (fr + i)) + uw)) (17000 * lv + (up (up (up (up SBc (616 * lv + CHc lv + 1) (SBc (616 * lv + CHc lv))) (616 * lv + CHc lv + 1) ((up SBc (616 * lv + CHc lv + 1) (SBc (616 * lv + CHc lv))) (616 * lv + CHc lv + 1) + 1)) (616 * lv + CHc lv + 1) ((up (up SBc (616 * lv + CHc lv + 1) (SBc (616 * lv + CHc lv))) (616 * lv + CHc lv + 1) ((up SBc (616 * lv + CHc lv + 1) (SBc (616 * lv + CHc lv))) (616 * lv + CHc lv + 1) + 1)) (616 * lv + CHc lv + 1) + 1)) (616 * lv + CHc lv + 1) ((up (up (up SBc (616 * lv + CHc lv + 1) (SBc (616 * lv + CHc lv))) (616 * lv + CHc lv + 1) ((up SBc (616 * lv + CHc lv + 1) (SBc (616 * lv + CHc lv))) (616 * lv + CHc lv + 1) + 1)) (616 * lv + CHc lv + 1) ((up (up SBc (616 * lv + CHc lv + 1) (SBc (616 * lv + CHc lv))) (616 * lv + CHc lv + 1) ((up SBc (616 * lv + CHc lv + 1) (SBc (616 * lv + CHc lv))) (616 * lv + CHc lv + 1) + 1)) (616 * lv + CHc lv + 1) + 1)) (616 * lv + CHc lv + 1) + 1)) (616 * lv + CHc lv + 1)) (((ST (fr + i)) + uw) + 1))))), ((ad 38), .inl (g.2.1 0, 25300, .inl (aI (up (up (up (up (up SBc (616 * lv + CHc lv + 1) (SBc (616 * lv + CHc lv))) (616 * lv + CHc lv + 1) ((up SBc (616 * lv + CHc lv + 1) (SBc (616 * lv + CHc lv))) (616 * lv + CHc lv + 1) + 1)) (616 * lv + CHc lv + 1) ((up (up SBc (616 * lv + CHc lv + 1) (SBc (616 * lv + CHc lv))) (616 * lv + CHc lv + 1) ((up SBc (616 * lv + CHc lv + 1) (SBc (616 * lv + CHc lv))) (616 * lv + CHc lv + 1) + 1)) (616 * lv + CHc lv + 1) + 1)) (616 * lv + CHc lv + 1) ((up (up (up SBc (616 * lv + CHc lv + 1) (SBc (616 * lv + CHc lv))) (616 * lv + CHc lv + 1) ((up SBc (616 * lv + CHc lv + 1) (SBc (616 * lv + CHc lv))) (616 * lv + CHc lv + 1) + 1)) (616 * lv + CHc lv + 1) ((up (up SBc (616 * lv + CHc lv + 1) (SBc (616 * lv + CHc lv))) (616 * lv + CHc lv + 1) ((up SBc (616 * lv + CHc lv + 1) (SBc (616 * lv + CHc lv))) (616 * lv + CHc lv + 1) + 1)) (616 * lv + CHc lv + 1) + 1)) (616 * lv + CHc lv + 1) + 1)) (616 * lv + CHc lv + 1) ((up (up (up (up SBc (616 * lv + CHc lv + 1) (SBc (616 * lv + CHc lv))) (616 * lv + CHc lv + 1) ((up SBc (616 * lv + CHc lv + 1) (SBc (616 * lv + CHc lv))) (616 * lv + CHc lv + 1) + 1)) (616 * lv + CHc lv + 1) ((up (up SBc (616 * lv + CHc lv + 1) (SBc (616 * lv + CHc lv))) (616 * lv + CHc lv + 1) ((up SBc (616 * lv + CHc lv + 1) (SBc (616 * lv + CHc lv))) (616 * lv + CHc lv + 1) + 1)) (616 * lv + CHc lv + 1) + 1)) (616 * lv + CHc lv + 1) ((up (up (up SBc (616 * lv + CHc lv + 1) (SBc (616 * lv + CHc lv))) (616 * lv + CHc lv + 1) ((up SBc (616 * lv + CHc lv + 1) (SBc (616 * lv + CHc lv))) (616 * lv + CHc lv + 1) + 1)) (616 * lv + CHc lv + 1) ((up (up SBc (616 * lv + CHc lv + 1) (SBc (616 * lv + CHc lv))) (616 * lv + CHc lv + 1) ((up SBc (616 * lv + CHc lv + 1) (SBc (616 * lv + CHc lv))) (616 * lv + CHc lv + 1) + 1)) (616 * lv + CHc lv + 1) + 1)) (616 * lv + CHc lv + 1) + 1)) (616 * lv + CHc lv + 1) + 1))))), ((ad 39), .inl (g.2.1 0, 41, .inl (aI CHc))), ((ad 41), .inl (g.2.1 2, 256, .inl (zI HC)))]) (st' := []) (n1 := 0) (n2 := 0) [1, 4, 2, 3, 0] rfl rfl rfl rfl rfl ?_
                refine r_aload_n C 1 d_Mo_corners_199 rfl rfl ?_
                refine r_iload_n C 2 d_Mo_corners_200 rfl rfl ?_
                refine j_callV C (c_Mo_endSet g (xl x) (m0 := m0) (ad := ad) (qth := qth) (qsz := qsz) (qtk := qtk) (qde := qde) (qru := qru) (qat := qat) (qen := qen) (qto := qto) (qbe := qbe) (qva := qva) (qwr := qwr) (qop := qop) (qwi := nI uw) (qhe := nI uh) (qrw := qrw) (qir := qir) (qiu := qiu) (lv := lv) (md := md2) (CH := CHc) (by first | assumption | omega | rfl) (by first | assumption | omega | rfl)) (Sp.of (wr := [((ad 37), .inl (g.2.1 0, 697000, .inl (aI (up (up (up (up STc (17000 * lv + (up SBc (616 * lv + CHc lv + 1) (SBc (616 * lv + CHc lv))) (616 * lv + CHc lv + 1)) (ST (fr + i))) (17000 * lv + (up (up SBc (616 * lv + CHc lv + 1) (SBc (616 * lv + CHc lv))) (616 * lv + CHc lv + 1) ((up SBc (616 * lv + CHc lv + 1) (SBc (616 * lv + CHc lv))) (616 * lv + CHc lv + 1) + 1)) (616 * lv + CHc lv + 1)) ((ST (fr + i)) + 1)) (17000 * lv + (up (up (up SBc (616 * lv + CHc lv + 1) (SBc (616 * lv + CHc lv))) (616 * lv + CHc lv + 1) ((up SBc (616 * lv + CHc lv + 1) (SBc (616 * lv + CHc lv))) (616 * lv + CHc lv + 1) + 1)) (616 * lv + CHc lv + 1) ((up (up SBc (616 * lv + CHc lv + 1) (SBc (616 * lv + CHc lv))) (616 * lv + CHc lv + 1) ((up SBc (616 * lv + CHc lv + 1) (SBc (616 * lv + CHc lv))) (616 * lv + CHc lv + 1) + 1)) (616 * lv + CHc lv + 1) + 1)) (616 * lv + CHc lv + 1)) ((ST (fr + i)) + uw)) (17000 * lv + (up (up (up (up SBc (616 * lv + CHc lv + 1) (SBc (616 * lv + CHc lv))) (616 * lv + CHc lv + 1) ((up SBc (616 * lv + CHc lv + 1) (SBc (616 * lv + CHc lv))) (616 * lv + CHc lv + 1) + 1)) (616 * lv + CHc lv + 1) ((up (up SBc (616 * lv + CHc lv + 1) (SBc (616 * lv + CHc lv))) (616 * lv + CHc lv + 1) ((up SBc (616 * lv + CHc lv + 1) (SBc (616 * lv + CHc lv))) (616 * lv + CHc lv + 1) + 1)) (616 * lv + CHc lv + 1) + 1)) (616 * lv + CHc lv + 1) ((up (up (up SBc (616 * lv + CHc lv + 1) (SBc (616 * lv + CHc lv))) (616 * lv + CHc lv + 1) ((up SBc (616 * lv + CHc lv + 1) (SBc (616 * lv + CHc lv))) (616 * lv + CHc lv + 1) + 1)) (616 * lv + CHc lv + 1) ((up (up SBc (616 * lv + CHc lv + 1) (SBc (616 * lv + CHc lv))) (616 * lv + CHc lv + 1) ((up SBc (616 * lv + CHc lv + 1) (SBc (616 * lv + CHc lv))) (616 * lv + CHc lv + 1) + 1)) (616 * lv + CHc lv + 1) + 1)) (616 * lv + CHc lv + 1) + 1)) (616 * lv + CHc lv + 1)) (((ST (fr + i)) + uw) + 1))))), ((ad 38), .inl (g.2.1 0, 25300, .inl (aI (up (up (up (up (up SBc (616 * lv + CHc lv + 1) (SBc (616 * lv + CHc lv))) (616 * lv + CHc lv + 1) ((up SBc (616 * lv + CHc lv + 1) (SBc (616 * lv + CHc lv))) (616 * lv + CHc lv + 1) + 1)) (616 * lv + CHc lv + 1) ((up (up SBc (616 * lv + CHc lv + 1) (SBc (616 * lv + CHc lv))) (616 * lv + CHc lv + 1) ((up SBc (616 * lv + CHc lv + 1) (SBc (616 * lv + CHc lv))) (616 * lv + CHc lv + 1) + 1)) (616 * lv + CHc lv + 1) + 1)) (616 * lv + CHc lv + 1) ((up (up (up SBc (616 * lv + CHc lv + 1) (SBc (616 * lv + CHc lv))) (616 * lv + CHc lv + 1) ((up SBc (616 * lv + CHc lv + 1) (SBc (616 * lv + CHc lv))) (616 * lv + CHc lv + 1) + 1)) (616 * lv + CHc lv + 1) ((up (up SBc (616 * lv + CHc lv + 1) (SBc (616 * lv + CHc lv))) (616 * lv + CHc lv + 1) ((up SBc (616 * lv + CHc lv + 1) (SBc (616 * lv + CHc lv))) (616 * lv + CHc lv + 1) + 1)) (616 * lv + CHc lv + 1) + 1)) (616 * lv + CHc lv + 1) + 1)) (616 * lv + CHc lv + 1) ((up (up (up (up SBc (616 * lv + CHc lv + 1) (SBc (616 * lv + CHc lv))) (616 * lv + CHc lv + 1) ((up SBc (616 * lv + CHc lv + 1) (SBc (616 * lv + CHc lv))) (616 * lv + CHc lv + 1) + 1)) (616 * lv + CHc lv + 1) ((up (up SBc (616 * lv + CHc lv + 1) (SBc (616 * lv + CHc lv))) (616 * lv + CHc lv + 1) ((up SBc (616 * lv + CHc lv + 1) (SBc (616 * lv + CHc lv))) (616 * lv + CHc lv + 1) + 1)) (616 * lv + CHc lv + 1) + 1)) (616 * lv + CHc lv + 1) ((up (up (up SBc (616 * lv + CHc lv + 1) (SBc (616 * lv + CHc lv))) (616 * lv + CHc lv + 1) ((up SBc (616 * lv + CHc lv + 1) (SBc (616 * lv + CHc lv))) (616 * lv + CHc lv + 1) + 1)) (616 * lv + CHc lv + 1) ((up (up SBc (616 * lv + CHc lv + 1) (SBc (616 * lv + CHc lv))) (616 * lv + CHc lv + 1) ((up SBc (616 * lv + CHc lv + 1) (SBc (616 * lv + CHc lv))) (616 * lv + CHc lv + 1) + 1)) (616 * lv + CHc lv + 1) + 1)) (616 * lv + CHc lv + 1) + 1)) (616 * lv + CHc lv + 1) + 1))))), ((ad 41), .inl (g.2.1 2, 256, .inl (zI HC)))]) [0, 3] [1, 2, 4] rfl rfl rfl rfl (by decide)) d_Mo_corners_201 lk_Mo_247 mw_Mo_endSet vw_Mo_endSet (q0 := 0) rfl rfl (fit_of hR (by first | decide | (simp only [rmk]; omega)) (by first | decide | (simp only [rmk]; omega)) (by first | decide | (simp only [rmk]; omega)) (by first | decide | (simp only [rmk]; omega))) rfl (cat8 (Nat.le_of_ble_eq_true rfl)) (As := [.int (nI lv)]) (rest := []) rfl (fun r_201 w_201 hp_201 => ?_)
                obtain ⟨rfl, rfl⟩ := hp_201
                refine r_after (ws' := [(m0, .inr (9, MO ad qth qsz (bI qir) qtk qde qru qat qen qto qbe qva qwr qop (bI qiu) (nI uw) (nI uh) qrw (nI (md2 + 1)))), ((ad 37), .inl (g.2.1 0, 697000, .inl (aI (up (up (up (up STc (17000 * lv + (up SBc (616 * lv + CHc lv + 1) (SBc (616 * lv + CHc lv))) (616 * lv + CHc lv + 1)) (ST (fr + i))) (17000 * lv + (up (up SBc (616 * lv + CHc lv + 1) (SBc (616 * lv + CHc lv))) (616 * lv + CHc lv + 1) ((up SBc (616 * lv + CHc lv + 1) (SBc (616 * lv + CHc lv))) (616 * lv + CHc lv + 1) + 1)) (616 * lv + CHc lv + 1)) ((ST (fr + i)) + 1)) (17000 * lv + (up (up (up SBc (616 * lv + CHc lv + 1) (SBc (616 * lv + CHc lv))) (616 * lv + CHc lv + 1) ((up SBc (616 * lv + CHc lv + 1) (SBc (616 * lv + CHc lv))) (616 * lv + CHc lv + 1) + 1)) (616 * lv + CHc lv + 1) ((up (up SBc (616 * lv + CHc lv + 1) (SBc (616 * lv + CHc lv))) (616 * lv + CHc lv + 1) ((up SBc (616 * lv + CHc lv + 1) (SBc (616 * lv + CHc lv))) (616 * lv + CHc lv + 1) + 1)) (616 * lv + CHc lv + 1) + 1)) (616 * lv + CHc lv + 1)) ((ST (fr + i)) + uw)) (17000 * lv + (up (up (up (up SBc (616 * lv + CHc lv + 1) (SBc (616 * lv + CHc lv))) (616 * lv + CHc lv + 1) ((up SBc (616 * lv + CHc lv + 1) (SBc (616 * lv + CHc lv))) (616 * lv + CHc lv + 1) + 1)) (616 * lv + CHc lv + 1) ((up (up SBc (616 * lv + CHc lv + 1) (SBc (616 * lv + CHc lv))) (616 * lv + CHc lv + 1) ((up SBc (616 * lv + CHc lv + 1) (SBc (616 * lv + CHc lv))) (616 * lv + CHc lv + 1) + 1)) (616 * lv + CHc lv + 1) + 1)) (616 * lv + CHc lv + 1) ((up (up (up SBc (616 * lv + CHc lv + 1) (SBc (616 * lv + CHc lv))) (616 * lv + CHc lv + 1) ((up SBc (616 * lv + CHc lv + 1) (SBc (616 * lv + CHc lv))) (616 * lv + CHc lv + 1) + 1)) (616 * lv + CHc lv + 1) ((up (up SBc (616 * lv + CHc lv + 1) (SBc (616 * lv + CHc lv))) (616 * lv + CHc lv + 1) ((up SBc (616 * lv + CHc lv + 1) (SBc (616 * lv + CHc lv))) (616 * lv + CHc lv + 1) + 1)) (616 * lv + CHc lv + 1) + 1)) (616 * lv + CHc lv + 1) + 1)) (616 * lv + CHc lv + 1)) (((ST (fr + i)) + uw) + 1))))), ((ad 38), .inl (g.2.1 0, 25300, .inl (aI (up (up (up (up (up SBc (616 * lv + CHc lv + 1) (SBc (616 * lv + CHc lv))) (616 * lv + CHc lv + 1) ((up SBc (616 * lv + CHc lv + 1) (SBc (616 * lv + CHc lv))) (616 * lv + CHc lv + 1) + 1)) (616 * lv + CHc lv + 1) ((up (up SBc (616 * lv + CHc lv + 1) (SBc (616 * lv + CHc lv))) (616 * lv + CHc lv + 1) ((up SBc (616 * lv + CHc lv + 1) (SBc (616 * lv + CHc lv))) (616 * lv + CHc lv + 1) + 1)) (616 * lv + CHc lv + 1) + 1)) (616 * lv + CHc lv + 1) ((up (up (up SBc (616 * lv + CHc lv + 1) (SBc (616 * lv + CHc lv))) (616 * lv + CHc lv + 1) ((up SBc (616 * lv + CHc lv + 1) (SBc (616 * lv + CHc lv))) (616 * lv + CHc lv + 1) + 1)) (616 * lv + CHc lv + 1) ((up (up SBc (616 * lv + CHc lv + 1) (SBc (616 * lv + CHc lv))) (616 * lv + CHc lv + 1) ((up SBc (616 * lv + CHc lv + 1) (SBc (616 * lv + CHc lv))) (616 * lv + CHc lv + 1) + 1)) (616 * lv + CHc lv + 1) + 1)) (616 * lv + CHc lv + 1) + 1)) (616 * lv + CHc lv + 1) ((up (up (up (up SBc (616 * lv + CHc lv + 1) (SBc (616 * lv + CHc lv))) (616 * lv + CHc lv + 1) ((up SBc (616 * lv + CHc lv + 1) (SBc (616 * lv + CHc lv))) (616 * lv + CHc lv + 1) + 1)) (616 * lv + CHc lv + 1) ((up (up SBc (616 * lv + CHc lv + 1) (SBc (616 * lv + CHc lv))) (616 * lv + CHc lv + 1) ((up SBc (616 * lv + CHc lv + 1) (SBc (616 * lv + CHc lv))) (616 * lv + CHc lv + 1) + 1)) (616 * lv + CHc lv + 1) + 1)) (616 * lv + CHc lv + 1) ((up (up (up SBc (616 * lv + CHc lv + 1) (SBc (616 * lv + CHc lv))) (616 * lv + CHc lv + 1) ((up SBc (616 * lv + CHc lv + 1) (SBc (616 * lv + CHc lv))) (616 * lv + CHc lv + 1) + 1)) (616 * lv + CHc lv + 1) ((up (up SBc (616 * lv + CHc lv + 1) (SBc (616 * lv + CHc lv))) (616 * lv + CHc lv + 1) ((up SBc (616 * lv + CHc lv + 1) (SBc (616 * lv + CHc lv))) (616 * lv + CHc lv + 1) + 1)) (616 * lv + CHc lv + 1) + 1)) (616 * lv + CHc lv + 1) + 1)) (616 * lv + CHc lv + 1) + 1))))), ((ad 39), .inl (g.2.1 0, 41, .inl (aI (up CHc lv (CHc lv + 1))))), ((ad 41), .inl (g.2.1 2, 256, .inl (zI HC)))]) (st' := []) (n1 := 0) (n2 := 0) [3, 0, 1, 4, 2] rfl rfl rfl rfl rfl ?_
                refine r_iinc C 5 (nI (i + 1)) (lv' := [(4, .int (nI (i + 1))), (5, .int (nI (ST (fr + i)))), (0, .ref m0), (1, .int (nI lv)), (2, .int (nI fr)), (3, .int (nI z))]) d_Mo_corners_204 rfl (nI_inc 1 _) (by decide) rfl ?_
                refine r_goto C 58 d_Mo_corners_207 (by decide) ?_
                refine r_lv (lv' := [(0, .ref m0), (1, .int (nI lv)), (2, .int (nI fr)), (3, .int (nI z)), (4, .int (nI (i + 1)))]) [2, 3, 4, 5, 0] rfl ?_
                exact ih (i + 1) (up (up (up (up STc (17000 * lv + (up SBc (616 * lv + CHc lv + 1) (SBc (616 * lv + CHc lv))) (616 * lv + CHc lv + 1)) (ST (fr + i))) (17000 * lv + (up (up SBc (616 * lv + CHc lv + 1) (SBc (616 * lv + CHc lv))) (616 * lv + CHc lv + 1) ((up SBc (616 * lv + CHc lv + 1) (SBc (616 * lv + CHc lv))) (616 * lv + CHc lv + 1) + 1)) (616 * lv + CHc lv + 1)) ((ST (fr + i)) + 1)) (17000 * lv + (up (up (up SBc (616 * lv + CHc lv + 1) (SBc (616 * lv + CHc lv))) (616 * lv + CHc lv + 1) ((up SBc (616 * lv + CHc lv + 1) (SBc (616 * lv + CHc lv))) (616 * lv + CHc lv + 1) + 1)) (616 * lv + CHc lv + 1) ((up (up SBc (616 * lv + CHc lv + 1) (SBc (616 * lv + CHc lv))) (616 * lv + CHc lv + 1) ((up SBc (616 * lv + CHc lv + 1) (SBc (616 * lv + CHc lv))) (616 * lv + CHc lv + 1) + 1)) (616 * lv + CHc lv + 1) + 1)) (616 * lv + CHc lv + 1)) ((ST (fr + i)) + uw)) (17000 * lv + (up (up (up (up SBc (616 * lv + CHc lv + 1) (SBc (616 * lv + CHc lv))) (616 * lv + CHc lv + 1) ((up SBc (616 * lv + CHc lv + 1) (SBc (616 * lv + CHc lv))) (616 * lv + CHc lv + 1) + 1)) (616 * lv + CHc lv + 1) ((up (up SBc (616 * lv + CHc lv + 1) (SBc (616 * lv + CHc lv))) (616 * lv + CHc lv + 1) ((up SBc (616 * lv + CHc lv + 1) (SBc (616 * lv + CHc lv))) (616 * lv + CHc lv + 1) + 1)) (616 * lv + CHc lv + 1) + 1)) (616 * lv + CHc lv + 1) ((up (up (up SBc (616 * lv + CHc lv + 1) (SBc (616 * lv + CHc lv))) (616 * lv + CHc lv + 1) ((up SBc (616 * lv + CHc lv + 1) (SBc (616 * lv + CHc lv))) (616 * lv + CHc lv + 1) + 1)) (616 * lv + CHc lv + 1) ((up (up SBc (616 * lv + CHc lv + 1) (SBc (616 * lv + CHc lv))) (616 * lv + CHc lv + 1) ((up SBc (616 * lv + CHc lv + 1) (SBc (616 * lv + CHc lv))) (616 * lv + CHc lv + 1) + 1)) (616 * lv + CHc lv + 1) + 1)) (616 * lv + CHc lv + 1) + 1)) (616 * lv + CHc lv + 1)) (((ST (fr + i)) + uw) + 1)) (up (up (up (up (up SBc (616 * lv + CHc lv + 1) (SBc (616 * lv + CHc lv))) (616 * lv + CHc lv + 1) ((up SBc (616 * lv + CHc lv + 1) (SBc (616 * lv + CHc lv))) (616 * lv + CHc lv + 1) + 1)) (616 * lv + CHc lv + 1) ((up (up SBc (616 * lv + CHc lv + 1) (SBc (616 * lv + CHc lv))) (616 * lv + CHc lv + 1) ((up SBc (616 * lv + CHc lv + 1) (SBc (616 * lv + CHc lv))) (616 * lv + CHc lv + 1) + 1)) (616 * lv + CHc lv + 1) + 1)) (616 * lv + CHc lv + 1) ((up (up (up SBc (616 * lv + CHc lv + 1) (SBc (616 * lv + CHc lv))) (616 * lv + CHc lv + 1) ((up SBc (616 * lv + CHc lv + 1) (SBc (616 * lv + CHc lv))) (616 * lv + CHc lv + 1) + 1)) (616 * lv + CHc lv + 1) ((up (up SBc (616 * lv + CHc lv + 1) (SBc (616 * lv + CHc lv))) (616 * lv + CHc lv + 1) ((up SBc (616 * lv + CHc lv + 1) (SBc (616 * lv + CHc lv))) (616 * lv + CHc lv + 1) + 1)) (616 * lv + CHc lv + 1) + 1)) (616 * lv + CHc lv + 1) + 1)) (616 * lv + CHc lv + 1) ((up (up (up (up SBc (616 * lv + CHc lv + 1) (SBc (616 * lv + CHc lv))) (616 * lv + CHc lv + 1) ((up SBc (616 * lv + CHc lv + 1) (SBc (616 * lv + CHc lv))) (616 * lv + CHc lv + 1) + 1)) (616 * lv + CHc lv + 1) ((up (up SBc (616 * lv + CHc lv + 1) (SBc (616 * lv + CHc lv))) (616 * lv + CHc lv + 1) ((up SBc (616 * lv + CHc lv + 1) (SBc (616 * lv + CHc lv))) (616 * lv + CHc lv + 1) + 1)) (616 * lv + CHc lv + 1) + 1)) (616 * lv + CHc lv + 1) ((up (up (up SBc (616 * lv + CHc lv + 1) (SBc (616 * lv + CHc lv))) (616 * lv + CHc lv + 1) ((up SBc (616 * lv + CHc lv + 1) (SBc (616 * lv + CHc lv))) (616 * lv + CHc lv + 1) + 1)) (616 * lv + CHc lv + 1) ((up (up SBc (616 * lv + CHc lv + 1) (SBc (616 * lv + CHc lv))) (616 * lv + CHc lv + 1) ((up SBc (616 * lv + CHc lv + 1) (SBc (616 * lv + CHc lv))) (616 * lv + CHc lv + 1) + 1)) (616 * lv + CHc lv + 1) + 1)) (616 * lv + CHc lv + 1) + 1)) (616 * lv + CHc lv + 1) + 1)) (up CHc lv (CHc lv + 1)) (md2 + 1) (Cs ++ [[ST (fr + i), ST (fr + i) + 1, ST (fr + i) + uw, ST (fr + i) + uw + 1]]) HC (by first | assumption | omega | rfl) (lv_4 hC) (hF.trans fr_4) (by rw [hm2, List.length_append]; rfl) (lv_4s hC hs2) (hH) (hgo) (by omega)
              · skip
                refine r_goto C 204 d_Mo_corners_149 (by decide) ?_
                refine r_iinc C 5 (nI (i + 1)) (lv' := [(4, .int (nI (i + 1))), (5, .int (nI (ST (fr + i)))), (0, .ref m0), (1, .int (nI lv)), (2, .int (nI fr)), (3, .int (nI z))]) d_Mo_corners_204 rfl (nI_inc 1 _) (by decide) rfl ?_
                refine r_goto C 58 d_Mo_corners_207 (by decide) ?_
                refine r_lv (lv' := [(0, .ref m0), (1, .int (nI lv)), (2, .int (nI fr)), (3, .int (nI z)), (4, .int (nI (i + 1)))]) [2, 3, 4, 5, 0] rfl ?_
                exact ih (i + 1) STc SBc CHc md2 Cs HC (by first | assumption | omega | rfl) (hC) (hF) (hm2) (hs2) (hH) (co_go0 hsg hI (co_no hw0 hpi hLs (Or.inr (Or.inr (Or.inr (Or.inr (ha_f hH3 c_146))))))) (by omega)
set_option maxHeartbeats 4000000 in
set_option maxRecDepth 100000 in
theorem lp_Mo_corners_28 (g : GG) {m0 : Nat} {ad : Nat → Nat} {qth : Int32} {qsz : Int32} {qtk : Int32} {qde : Int32} {qru : Int32} {qat : Int32} {qen : Int32} {qto : Int32} {qbe : Int32} {qva : Int32} {qwr : Int32} {qop : Int32} {qrw : Int32} {qir : Bool} {qiu : Bool} {lv : Nat} {fr : Nat} {z : Nat} {uw : Nat} {uh : Nat} {md : Nat} {ST : Nat → Nat} {SB : Nat → Nat} {CH : Nat → Nat} {HA : Nat → Bool} (hw0 : 0 < uw) (hw1 : uw ≤ 16) (hh0 : 0 < uh) (hh1 : uh ≤ 16) (hl : 1 ≤ lv) (hl2 : lv ≤ 40) (hz : z ≤ 256) (hfr : fr + z ≤ 17000 * lv) (hp : ∀ i, i < z → ST (fr + i) < uw * uh) (h0 : LvC ST SB CH lv []) (hn : ((segL ST fr z).flatMap (corP uw (segL ST fr z))).length ≤ 614) {x : X0} {A : Nat → Prop} {Q : State → Prop}  (C : CX x g A R_Mo b_Mo_corners 6) (E : RX x g A Q none (fun (r0 : Option Value) (w0 : va_W) => ∃ STc : Nat → Nat, ∃ SBc : Nat → Nat, ∃ CHc : Nat → Nat, ∃ H2 : Nat → Bool, r0 = none ∧ w0 = [(m0, .inr (9, MO ad qth qsz (bI qir) qtk qde qru qat qen qto qbe qva qwr qop (bI qiu) (nI uw) (nI uh) qrw (nI (md + ((segL ST fr z).flatMap (corP uw (segL ST fr z))).length)))), ((ad 37), .inl (g.2.1 0, 697000, .inl (aI STc))), ((ad 38), .inl (g.2.1 0, 25300, .inl (aI SBc))), ((ad 39), .inl (g.2.1 0, 41, .inl (aI CHc))), ((ad 41), .inl (g.2.1 2, 256, .inl (zI H2)))] ∧ (LvC STc SBc CHc lv ((segL ST fr z).flatMap (corP uw (segL ST fr z)))) ∧ (LvF lv ST SB CH STc SBc CHc)) (rmk 1 0 0 23).cells (rmk 1 0 0 23).slots) (hR : xR x = (rmk 1 0 0 23)) : ∀ (fuel : Nat) (i : Nat) (H1 : Nat → Bool) (hi : i ≤ z) (hH : ∀ t, t < 256 → H1 t = decide (t ∈ (segL ST fr z).take i)), z - i < fuel → J x g A Q 6 ([(m0, .inr (9, MO ad qth qsz (bI qir) qtk qde qru qat qen qto qbe qva qwr qop (bI qiu) (nI uw) (nI uh) qrw (nI md))), ((ad 37), .inl (g.2.1 0, 697000, .inl (aI ST))), ((ad 38), .inl (g.2.1 0, 25300, .inl (aI SB))), ((ad 39), .inl (g.2.1 0, 41, .inl (aI CH))), ((ad 41), .inl (g.2.1 2, 256, .inl (zI H1)))]) [(0, .ref m0), (1, .int (nI lv)), (2, .int (nI fr)), (3, .int (nI z)), (4, .int (nI i))] 28 [] 0 0 := by
  intro fuel
  induction fuel with
  | zero =>
    intro i H1 hi hH hm
    exact absurd hm (Nat.not_lt_zero _)
  | succ fuel ih =>
    intro i H1 hi hH hm
    refine r_iload C 4 d_Mo_corners_28 rfl ?_
    refine r_iload_n C 3 d_Mo_corners_30 rfl rfl ?_
    refine r_ncmp_ge C 55 d_Mo_corners_31 (by decide) (by omega) (by omega) (fun c_31 => ?_) (fun c_31 => ?_)
    · skip
      refine r_iconst C (nI 0) d_Mo_corners_55 (by decide) ?_
      refine r_istore C (lv' := [(4, .int (nI 0)), (0, .ref m0), (1, .int (nI lv)), (2, .int (nI fr)), (3, .int (nI z))]) d_Mo_corners_56 (by decide) rfl ?_
      refine r_lv (lv' := [(0, .ref m0), (1, .int (nI lv)), (2, .int (nI fr)), (3, .int (nI z)), (4, .int (nI 0))]) [1, 2, 3, 4, 0] rfl ?_
      exact lp_Mo_corners_58 g (m0 := m0) (ad := ad) (qth := qth) (qsz := qsz) (qtk := qtk) (qde := qde) (qru := qru) (qat := qat) (qen := qen) (qto := qto) (qbe := qbe) (qva := qva) (qwr := qwr) (qop := qop) (qrw := qrw) (qir := qir) (qiu := qiu) (lv := lv) (fr := fr) (z := z) (uw := uw) (uh := uh) (md := md) (ST := ST) (SB := SB) (CH := CH) (HA := HA) hw0 hw1 hh0 hh1 hl hl2 hz hfr hp h0 hn  C E hR _ 0 ST SB CH md ([]) H1 (by first | assumption | omega | rfl) (h0) (LvF.rfl) (rfl) (h0.1.1) (fun t h => by rw [hH t h, List.take_of_length_le (by rw [segL_len]; omega)]) (rfl) (Nat.lt_succ_self _)
    · skip
      have hpi := hp i (by omega)
      have hgr := gr_256 hw1 hh1
      refine r_aload_n C 0 d_Mo_corners_34 rfl rfl ?_
      refine r_get C 0 41 d_Mo_corners_35 ci_Mo fi_Mo_80 rfl (by decide) rfl rfl ?_
      refine r_aload_n C 0 d_Mo_corners_38 rfl rfl ?_
      refine r_get C 0 37 d_Mo_corners_39 ci_Mo fi_Mo_68 rfl (by decide) rfl rfl ?_
      refine r_iload_n C 2 d_Mo_corners_42 rfl rfl ?_
      refine r_iload C 4 d_Mo_corners_43 rfl ?_
      refine r_nadd C d_Mo_corners_45 ?_
      refine r_nald C 1 0 d_Mo_corners_46 rfl rfl (by omega) (by decide) ?_
      refine r_iconst C (nI 1) d_Mo_corners_47 (by decide) ?_
      refine r_eqS (st' := [.int (bI true), .int (nI (ST (fr + i))), .ref (ad 41)]) rfl ?_
      refine r_bast2 C (ws' := [(m0, .inr (9, MO ad qth qsz (bI qir) qtk qde qru qat qen qto qbe qva qwr qop (bI qiu) (nI uw) (nI uh) qrw (nI md))), ((ad 37), .inl (g.2.1 0, 697000, .inl (aI ST))), ((ad 38), .inl (g.2.1 0, 25300, .inl (aI SB))), ((ad 39), .inl (g.2.1 0, 41, .inl (aI CH))), ((ad 41), .inl (g.2.1 2, 256, .inl (zI (up H1 (ST (fr + i)) true))))]) 4 2 d_Mo_corners_48 rfl rfl (by omega) (by decide) rfl ?_
      refine r_iinc C 4 (nI (i + 1)) (lv' := [(4, .int (nI (i + 1))), (0, .ref m0), (1, .int (nI lv)), (2, .int (nI fr)), (3, .int (nI z))]) d_Mo_corners_49 rfl (nI_inc 1 _) (by decide) rfl ?_
      refine r_goto C 28 d_Mo_corners_52 (by decide) ?_
      refine r_lv (lv' := [(0, .ref m0), (1, .int (nI lv)), (2, .int (nI fr)), (3, .int (nI z)), (4, .int (nI (i + 1)))]) [1, 2, 3, 4, 0] rfl ?_
      exact ih (i + 1) (up H1 (ST (fr + i)) true) (by first | assumption | omega | rfl) (ha_s (by omega) hH) (by omega)
set_option maxHeartbeats 4000000 in
set_option maxRecDepth 100000 in
theorem lp_Mo_corners_3 (g : GG) {m0 : Nat} {ad : Nat → Nat} {qth : Int32} {qsz : Int32} {qtk : Int32} {qde : Int32} {qru : Int32} {qat : Int32} {qen : Int32} {qto : Int32} {qbe : Int32} {qva : Int32} {qwr : Int32} {qop : Int32} {qrw : Int32} {qir : Bool} {qiu : Bool} {lv : Nat} {fr : Nat} {z : Nat} {uw : Nat} {uh : Nat} {md : Nat} {ST : Nat → Nat} {SB : Nat → Nat} {CH : Nat → Nat} {HA : Nat → Bool} (hw0 : 0 < uw) (hw1 : uw ≤ 16) (hh0 : 0 < uh) (hh1 : uh ≤ 16) (hl : 1 ≤ lv) (hl2 : lv ≤ 40) (hz : z ≤ 256) (hfr : fr + z ≤ 17000 * lv) (hp : ∀ i, i < z → ST (fr + i) < uw * uh) (h0 : LvC ST SB CH lv []) (hn : ((segL ST fr z).flatMap (corP uw (segL ST fr z))).length ≤ 614) {x : X0} {A : Nat → Prop} {Q : State → Prop}  (C : CX x g A R_Mo b_Mo_corners 6) (E : RX x g A Q none (fun (r0 : Option Value) (w0 : va_W) => ∃ STc : Nat → Nat, ∃ SBc : Nat → Nat, ∃ CHc : Nat → Nat, ∃ H2 : Nat → Bool, r0 = none ∧ w0 = [(m0, .inr (9, MO ad qth qsz (bI qir) qtk qde qru qat qen qto qbe qva qwr qop (bI qiu) (nI uw) (nI uh) qrw (nI (md + ((segL ST fr z).flatMap (corP uw (segL ST fr z))).length)))), ((ad 37), .inl (g.2.1 0, 697000, .inl (aI STc))), ((ad 38), .inl (g.2.1 0, 25300, .inl (aI SBc))), ((ad 39), .inl (g.2.1 0, 41, .inl (aI CHc))), ((ad 41), .inl (g.2.1 2, 256, .inl (zI H2)))] ∧ (LvC STc SBc CHc lv ((segL ST fr z).flatMap (corP uw (segL ST fr z)))) ∧ (LvF lv ST SB CH STc SBc CHc)) (rmk 1 0 0 23).cells (rmk 1 0 0 23).slots) (hR : xR x = (rmk 1 0 0 23)) : ∀ (fuel : Nat) (i : Nat) (H1 : Nat → Bool) (hi : i ≤ 256) (hH : ∀ t, t < i → H1 t = false), 256 - i < fuel → J x g A Q 6 ([(m0, .inr (9, MO ad qth qsz (bI qir) qtk qde qru qat qen qto qbe qva qwr qop (bI qiu) (nI uw) (nI uh) qrw (nI md))), ((ad 37), .inl (g.2.1 0, 697000, .inl (aI ST))), ((ad 38), .inl (g.2.1 0, 25300, .inl (aI SB))), ((ad 39), .inl (g.2.1 0, 41, .inl (aI CH))), ((ad 41), .inl (g.2.1 2, 256, .inl (zI H1)))]) [(0, .ref m0), (1, .int (nI lv)), (2, .int (nI fr)), (3, .int (nI z)), (4, .int (nI i))] 3 [] 0 0 := by
  intro fuel
  induction fuel with
  | zero =>
    intro i H1 hi hH hm
    exact absurd hm (Nat.not_lt_zero _)
  | succ fuel ih =>
    intro i H1 hi hH hm
    refine r_iload C 4 d_Mo_corners_3 rfl ?_
    refine r_sipush C (nI 256) d_Mo_corners_5 (by decide) ?_
    refine r_ncmp_ge C 25 d_Mo_corners_8 (by decide) (by omega) (by omega) (fun c_8 => ?_) (fun c_8 => ?_)
    · skip
      refine r_iconst C (nI 0) d_Mo_corners_25 (by decide) ?_
      refine r_istore C (lv' := [(4, .int (nI 0)), (0, .ref m0), (1, .int (nI lv)), (2, .int (nI fr)), (3, .int (nI z))]) d_Mo_corners_26 (by decide) rfl ?_
      refine r_lv (lv' := [(0, .ref m0), (1, .int (nI lv)), (2, .int (nI fr)), (3, .int (nI z)), (4, .int (nI 0))]) [1, 2, 3, 4, 0] rfl ?_
      exact lp_Mo_corners_28 g (m0 := m0) (ad := ad) (qth := qth) (qsz := qsz) (qtk := qtk) (qde := qde) (qru := qru) (qat := qat) (qen := qen) (qto := qto) (qbe := qbe) (qva := qva) (qwr := qwr) (qop := qop) (qrw := qrw) (qir := qir) (qiu := qiu) (lv := lv) (fr := fr) (z := z) (uw := uw) (uh := uh) (md := md) (ST := ST) (SB := SB) (CH := CH) (HA := HA) hw0 hw1 hh0 hh1 hl hl2 hz hfr hp h0 hn  C E hR _ 0 H1 (by first | assumption | omega | rfl) (fun t h => by rw [hH t (by omega)]; simp) (Nat.lt_succ_self _)
    · skip
      refine r_aload_n C 0 d_Mo_corners_11 rfl rfl ?_
      refine r_get C 0 41 d_Mo_corners_12 ci_Mo fi_Mo_80 rfl (by decide) rfl rfl ?_
      refine r_iload C 4 d_Mo_corners_15 rfl ?_
      refine r_iconst C (nI 0) d_Mo_corners_17 (by decide) ?_
      refine r_eqS (st' := [.int (bI false), .int (nI i), .ref (ad 41)]) rfl ?_
      refine r_bast2 C (ws' := [(m0, .inr (9, MO ad qth qsz (bI qir) qtk qde qru qat qen qto qbe qva qwr qop (bI qiu) (nI uw) (nI uh) qrw (nI md))), ((ad 37), .inl (g.2.1 0, 697000, .inl (aI ST))), ((ad 38), .inl (g.2.1 0, 25300, .inl (aI SB))), ((ad 39), .inl (g.2.1 0, 41, .inl (aI CH))), ((ad 41), .inl (g.2.1 2, 256, .inl (zI (up H1 i false))))]) 4 2 d_Mo_corners_18 rfl rfl (by omega) (by decide) rfl ?_
      refine r_iinc C 4 (nI (i + 1)) (lv' := [(4, .int (nI (i + 1))), (0, .ref m0), (1, .int (nI lv)), (2, .int (nI fr)), (3, .int (nI z))]) d_Mo_corners_19 rfl (nI_inc 1 _) (by decide) rfl ?_
      refine r_goto C 3 d_Mo_corners_22 (by decide) ?_
      refine r_lv (lv' := [(0, .ref m0), (1, .int (nI lv)), (2, .int (nI fr)), (3, .int (nI z)), (4, .int (nI (i + 1)))]) [1, 2, 3, 4, 0] rfl ?_
      exact ih (i + 1) (up H1 i false) (by first | assumption | omega | rfl) (fun t h => by
                by_cases q : t = i
                · rw [q, up_self]
                · rw [up_ne _ _ q]; exact hH t (by omega)) (by omega)
set_option maxHeartbeats 4000000 in
set_option maxRecDepth 100000 in
theorem c_Mo_corners (g : GG) (l : Launch) {m0 : Nat} {ad : Nat → Nat} {qth : Int32} {qsz : Int32} {qtk : Int32} {qde : Int32} {qru : Int32} {qat : Int32} {qen : Int32} {qto : Int32} {qbe : Int32} {qva : Int32} {qwr : Int32} {qop : Int32} {qrw : Int32} {qir : Bool} {qiu : Bool} {lv : Nat} {fr : Nat} {z : Nat} {uw : Nat} {uh : Nat} {md : Nat} {ST : Nat → Nat} {SB : Nat → Nat} {CH : Nat → Nat} {HA : Nat → Bool}  (hw0 : 0 < uw) (hw1 : uw ≤ 16) (hh0 : 0 < uh) (hh1 : uh ≤ 16) (hl : 1 ≤ lv) (hl2 : lv ≤ 40) (hz : z ≤ 256) (hfr : fr + z ≤ 17000 * lv) (hp : ∀ i, i < z → ST (fr + i) < uw * uh) (h0 : LvC ST SB CH lv []) (hn : ((segL ST fr z).flatMap (corP uw (segL ST fr z))).length ≤ 614) : Cn g l y_Mo_corners b_Mo_corners 6 none (rmk 1 0 0 23) [.ref m0, .int (nI lv), .int (nI fr), .int (nI z)] ([(m0, .inr (9, MO ad qth qsz (bI qir) qtk qde qru qat qen qto qbe qva qwr qop (bI qiu) (nI uw) (nI uh) qrw (nI md))), ((ad 37), .inl (g.2.1 0, 697000, .inl (aI ST))), ((ad 38), .inl (g.2.1 0, 25300, .inl (aI SB))), ((ad 39), .inl (g.2.1 0, 41, .inl (aI CH))), ((ad 41), .inl (g.2.1 2, 256, .inl (zI HA)))]) (fun (r0 : Option Value) (w0 : va_W) => ∃ STc : Nat → Nat, ∃ SBc : Nat → Nat, ∃ CHc : Nat → Nat, ∃ H2 : Nat → Bool, r0 = none ∧ w0 = [(m0, .inr (9, MO ad qth qsz (bI qir) qtk qde qru qat qen qto qbe qva qwr qop (bI qiu) (nI uw) (nI uh) qrw (nI (md + ((segL ST fr z).flatMap (corP uw (segL ST fr z))).length)))), ((ad 37), .inl (g.2.1 0, 697000, .inl (aI STc))), ((ad 38), .inl (g.2.1 0, 25300, .inl (aI SBc))), ((ad 39), .inl (g.2.1 0, 41, .inl (aI CHc))), ((ad 41), .inl (g.2.1 2, 256, .inl (zI H2)))] ∧ (LvC STc SBc CHc lv ((segL ST fr z).flatMap (corP uw (segL ST fr z)))) ∧ (LvF lv ST SB CH STc SBc CHc)) := by
  refine Cn.of R_Mo [(0, .ref m0), (1, .int (nI lv)), (2, .int (nI fr)), (3, .int (nI z))] (by decide) rfl (Nat.le_of_ble_eq_true rfl) rfl ?_
  intro x A Q hR hXl hin C E
  subst hXl
  refine r_iconst C (nI 0) d_Mo_corners_0 (by decide) ?_
  refine r_istore C (lv' := [(4, .int (nI 0)), (0, .ref m0), (1, .int (nI lv)), (2, .int (nI fr)), (3, .int (nI z))]) d_Mo_corners_1 (by decide) rfl ?_
  refine r_lv (lv' := [(0, .ref m0), (1, .int (nI lv)), (2, .int (nI fr)), (3, .int (nI z)), (4, .int (nI 0))]) [1, 2, 3, 4, 0] rfl ?_
  exact lp_Mo_corners_3 g (m0 := m0) (ad := ad) (qth := qth) (qsz := qsz) (qtk := qtk) (qde := qde) (qru := qru) (qat := qat) (qen := qen) (qto := qto) (qbe := qbe) (qva := qva) (qwr := qwr) (qop := qop) (qrw := qrw) (qir := qir) (qiu := qiu) (lv := lv) (fr := fr) (z := z) (uw := uw) (uh := uh) (md := md) (ST := ST) (SB := SB) (CH := CH) (HA := HA) hw0 hw1 hh0 hh1 hl hl2 hz hfr hp h0 hn  C E hR _ 0 HA (by first | assumption | omega | rfl) (fun t h => absurd h (Nat.not_lt_zero _)) (Nat.lt_succ_self _)
