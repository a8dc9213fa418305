theorem nI_0z : nI 0 - nI 1 = (-1 : Int32) := by decide
theorem nI_m1 (m : Nat) : nI m + Int32.ofInt (-1) = nI m - nI 1 := by rw [Int32.sub_eq_add_neg]; rfl
theorem nI_1p (m : Nat) : nI (m + 1) - nI 1 = nI m := nI_pred m
section JB
variable {x : X0} {g : GG} {A : Nat → Prop} {Q : State → Prop} {own : String} {cc : ByteArray} {nL pc cl sl : Nat} {ws : va_W} {lv : List (Nat × Value)} {st : List Value}
theorem r_aastM (C : CX x g A own cc nL) {a0 v : Nat} {cA : ClassId} {r : vw_C} {n i ci : Nat} {vs : List Value} {f : Nat → Option Nat} {ws' : va_W} (q0 t0 : Nat) (hd : decode cc pc = .ok (.aastore, 1)) (he : ws[q0]? = some (a0, .inl (cA, n, .inr (.inr (.inr (.inr f)))))) (ht : (TY g)[t0]? = some (cA, .object r.1)) (hv : (v, .inr (ci, vs)) ∈ ws) (hc : CL[ci]? = some r) (hi : i < n) (hn : n < 2 ^ 31) (hw : ws.set q0 (a0, .inl (cA, n, .inr (.inr (.inr (.inr (va_up f i (some v))))))) = ws') (k : J x g A Q nL ws' lv (pc + 1) st cl sl) : J x g A Q nL ws lv pc (.ref v :: .int (nI i) :: .ref a0 :: st) cl sl := by
  obtain ⟨qk, hq⟩ := List.getElem?_of_mem hv
  exact r_aast C q0 t0 qk hd he ht hq hc hi hn hw k
end JB
/-- the object at o is the layer l -/
def LayAt (g : GG) (PP : va_W) (o : Option Nat) (l : LayerV) : Prop := ∃ (a : Nat) (ou : Option Nat) (lev : Nat), o = some a ∧ (a, .inr (3, [.ref (g.2.2.1 l.1), .int (oI l.2.1), .int (oI l.2.2), va_rf ou, .int (nI lev)])) ∈ PP ∧ l.1 < 23
def LayersAt (g : GG) (PP : va_W) (LA : Nat → Option Nat) (ls : List LayerV) : Prop := ∀ (j : Nat) (l : LayerV), ls.reverse[j]? = some l → LayAt g PP (LA j) l
theorem lay_sp {ls rs : List LayerV} {l : LayerV} (h : ∃ pre, ls = pre ++ l :: rs) : ∃ pre, ls = pre ++ rs := by
  obtain ⟨pre, e⟩ := h
  exact ⟨pre ++ [l], by rw [e]; simp⟩
theorem lay_up {g : GG} {PP : va_W} {ls rs : List LayerV} {l : LayerV} {m a lev : Nat} {ou : Option Nat} {LC : Nat → Option Nat} (h : ∃ pre, ls = pre ++ l :: rs) (hm : rs.length = m) (hmem : (a, .inr (3, [.ref (g.2.2.1 l.1), .int (oI l.2.1), .int (oI l.2.2), va_rf ou, .int (nI lev)])) ∈ PP) (hla : ∀ j k, m + 1 ≤ j → ls.reverse[j]? = some k → LayAt g PP (LC j) k) (hl : l.1 < 23 := by assumption) : ∀ j k, m ≤ j → ls.reverse[j]? = some k → LayAt g PP (va_up LC m (some a) j) k := by
  intro j k hj hk
  by_cases e : j = m
  · subst e
    obtain ⟨pre, e2⟩ := h
    rw [e2] at hk
    simp only [List.reverse_append, List.reverse_cons, List.append_assoc] at hk
    rw [List.getElem?_append_right (by simp [hm])] at hk
    simp [hm] at hk
    subst hk
    rw [va_up_self]
    exact ⟨a, ou, lev, rfl, hmem, hl⟩
  · rw [va_up_ne _ _ e]
    exact hla j k (by omega) hk
def RowAdded (SS : Nat → Nat) (j z ri : Nat) (RU SA PL : Nat → Nat) (TO : Nat → Bool) (rc pn : Nat) (tm : Bool) (RU2 SA2 PL2 : Nat → Nat) (TO2 : Nat → Bool) (rc2 pn2 : Nat) (tm2 : Bool) : Prop :=
  (z = 0 ∧ RU2 = RU ∧ SA2 = SA ∧ PL2 = PL ∧ TO2 = TO ∧ rc2 = rc ∧ pn2 = pn ∧ tm2 = tm) ∨
  (0 < z ∧ rc < 4000 ∧ pn + z ≤ 30000 ∧ RU2 = up RU rc ri ∧ SA2 = up (up SA rc pn) (rc + 1) (pn + z) ∧ rc2 = rc + 1 ∧ pn2 = pn + z ∧ tm2 = tm ∧ (∀ t, PL2 t = if pn ≤ t ∧ t < pn + z then SS (j + (t - pn)) else PL t) ∧ ∀ t, TO2 t = (TO t || (List.range z).any (fun a => SS (j + a) == t))) ∨
  (0 < z ∧ ¬ (rc < 4000 ∧ pn + z ≤ 30000) ∧ tm2 = true)
theorem row_pl {SS PL PC : Nat → Nat} {j pn pc i t : Nat} (hp : pc = pn + i) (h : PC t = if pn ≤ t ∧ t < pn + i then SS (j + (t - pn)) else PL t) : up PC pc (SS (j + i)) t = if pn ≤ t ∧ t < pn + (i + 1) then SS (j + (t - pn)) else PL t := by
  subst hp
  by_cases e : t = pn + i
  · subst e
    rw [up_self, if_pos (by omega), show pn + i - pn = i by omega]
  · rw [up_ne _ _ e, h]
    by_cases q : pn ≤ t ∧ t < pn + i
    · rw [if_pos q, if_pos (by omega)]
    · rw [if_neg q, if_neg (by omega)]
theorem row_to {SS : Nat → Nat} {TO TC : Nat → Bool} {j i t : Nat} (h : TC t = (TO t || (List.range i).any (fun a => SS (j + a) == t))) : up TC (SS (j + i)) true t = (TO t || (List.range (i + 1)).any (fun a => SS (j + a) == t)) := by
  rw [List.range_succ, List.any_append]
  by_cases e : t = SS (j + i)
  · subst e
    simp [up_self]
  · rw [up_ne _ _ e, h]
    have : (SS (j + i) == t) = false := by simpa using fun q => e q.symm
    simp [this]

set_option maxRecDepth 100000 in
theorem fi_Unroller_17 : FI R_Unroller 17 R_Unroller F_Unroller 2 := Or.inl (gw (i := 260) rfl rfl)
set_option maxRecDepth 100000 in
theorem fi_Unroller_24 : FI R_Unroller 24 R_Unroller F_Unroller 0 := Or.inl (gw (i := 258) rfl rfl)
set_option maxRecDepth 100000 in
theorem fi_Unroller_38 : FI R_Unroller 38 R_Unroller F_Unroller 9 := Or.inl (gw (i := 267) rfl rfl)
set_option maxRecDepth 100000 in
theorem fi_Unroller_61 : FI R_Unroller 61 R_Unroller F_Unroller 7 := Or.inl (gw (i := 265) rfl rfl)
set_option maxRecDepth 100000 in
theorem fi_Unroller_78 : FI R_Unroller 78 R_Layer F_Layer 4 := Or.inr ⟨"RuleReader", (nw (i := 547) rfl rfl)⟩
set_option maxRecDepth 100000 in
theorem fi_Unroller_87 : FI R_Unroller 87 R_Unroller F_Unroller 4 := Or.inl (gw (i := 262) rfl rfl)
set_option maxRecDepth 100000 in
theorem fi_Unroller_90 : FI R_Unroller 90 R_Layer F_Layer 3 := Or.inr ⟨"RuleReader", (nw (i := 545) rfl rfl)⟩
set_option maxRecDepth 100000 in
theorem lk_Unroller_132 : LK R_Unroller 132 y_RowStore_beginRow := Or.inl (gw (i := 736) rfl rfl)
set_option maxRecDepth 100000 in
theorem lk_Unroller_140 : LK R_Unroller 140 y_RowStore_addPlace := Or.inl (gw (i := 744) rfl rfl)
set_option maxRecDepth 100000 in
theorem mw_RowStore_addPlace : MW y_RowStore_addPlace b_RowStore_addPlace 2 none 1 := ⟨(gw (i := 747) rfl rfl), (gw (i := 78) rfl rfl), by decide +kernel⟩
set_option maxRecDepth 100000 in
theorem mw_RowStore_beginRow : MW y_RowStore_beginRow b_RowStore_beginRow 3 (some .boolean) 2 := ⟨(gw (i := 739) rfl rfl), (gw (i := 78) rfl rfl), by decide +kernel⟩
set_option maxRecDepth 100000 in
theorem vw_RowStore_addPlace : VW y_RowStore_addPlace := ⟨(gw (i := 745) rfl rfl), (gw (i := 746) rfl rfl)⟩
set_option maxRecDepth 100000 in
theorem vw_RowStore_beginRow : VW y_RowStore_beginRow := ⟨(gw (i := 737) rfl rfl), (gw (i := 738) rfl rfl)⟩
theorem d_Unroller_layOut_0 : decode b_Unroller_layOut 0 = .ok (.aload_n 0, 1) := by decide +kernel
theorem d_Unroller_layOut_1 : decode b_Unroller_layOut 1 = .ok (.aload_n 1, 1) := by decide +kernel
theorem d_Unroller_layOut_2 : decode b_Unroller_layOut 2 = .ok (.ifnonnull 7, 3) := by decide +kernel
theorem d_Unroller_layOut_5 : decode b_Unroller_layOut 5 = .ok (.iconst 0, 1) := by decide +kernel
theorem d_Unroller_layOut_6 : decode b_Unroller_layOut 6 = .ok (.goto 12, 3) := by decide +kernel
theorem d_Unroller_layOut_9 : decode b_Unroller_layOut 9 = .ok (.aload_n 1, 1) := by decide +kernel
theorem d_Unroller_layOut_10 : decode b_Unroller_layOut 10 = .ok (.getfield 78, 3) := by decide +kernel
theorem d_Unroller_layOut_13 : decode b_Unroller_layOut 13 = .ok (.bipush 40, 2) := by decide +kernel
theorem d_Unroller_layOut_15 : decode b_Unroller_layOut 15 = .ok (.invokestatic 81, 3) := by decide +kernel
theorem d_Unroller_layOut_18 : decode b_Unroller_layOut 18 = .ok (.putfield 87, 3) := by decide +kernel
theorem d_Unroller_layOut_21 : decode b_Unroller_layOut 21 = .ok (.aload_n 1, 1) := by decide +kernel
theorem d_Unroller_layOut_22 : decode b_Unroller_layOut 22 = .ok (.astore_n 2, 1) := by decide +kernel
theorem d_Unroller_layOut_23 : decode b_Unroller_layOut 23 = .ok (.aload_n 0, 1) := by decide +kernel
theorem d_Unroller_layOut_24 : decode b_Unroller_layOut 24 = .ok (.getfield 87, 3) := by decide +kernel
theorem d_Unroller_layOut_27 : decode b_Unroller_layOut 27 = .ok (.iconst 1, 1) := by decide +kernel
theorem d_Unroller_layOut_28 : decode b_Unroller_layOut 28 = .ok (.isub, 1) := by decide +kernel
theorem d_Unroller_layOut_29 : decode b_Unroller_layOut 29 = .ok (.istore_n 3, 1) := by decide +kernel
theorem d_Unroller_layOut_30 : decode b_Unroller_layOut 30 = .ok (.iload_n 3, 1) := by decide +kernel
theorem d_Unroller_layOut_31 : decode b_Unroller_layOut 31 = .ok (.ifCond .lt 25, 3) := by decide +kernel
theorem d_Unroller_layOut_34 : decode b_Unroller_layOut 34 = .ok (.aload_n 2, 1) := by decide +kernel
theorem d_Unroller_layOut_35 : decode b_Unroller_layOut 35 = .ok (.ifnull 21, 3) := by decide +kernel
theorem d_Unroller_layOut_38 : decode b_Unroller_layOut 38 = .ok (.aload_n 0, 1) := by decide +kernel
theorem d_Unroller_layOut_39 : decode b_Unroller_layOut 39 = .ok (.getfield 17, 3) := by decide +kernel
theorem d_Unroller_layOut_42 : decode b_Unroller_layOut 42 = .ok (.iload_n 3, 1) := by decide +kernel
theorem d_Unroller_layOut_43 : decode b_Unroller_layOut 43 = .ok (.aload_n 2, 1) := by decide +kernel
theorem d_Unroller_layOut_44 : decode b_Unroller_layOut 44 = .ok (.aastore, 1) := by decide +kernel
theorem d_Unroller_layOut_45 : decode b_Unroller_layOut 45 = .ok (.aload_n 2, 1) := by decide +kernel
theorem d_Unroller_layOut_46 : decode b_Unroller_layOut 46 = .ok (.getfield 90, 3) := by decide +kernel
theorem d_Unroller_layOut_49 : decode b_Unroller_layOut 49 = .ok (.astore_n 2, 1) := by decide +kernel
theorem d_Unroller_layOut_50 : decode b_Unroller_layOut 50 = .ok (.iinc 3 (-1), 3) := by decide +kernel
theorem d_Unroller_layOut_53 : decode b_Unroller_layOut 53 = .ok (.goto (-23), 3) := by decide +kernel
theorem d_Unroller_layOut_56 : decode b_Unroller_layOut 56 = .ok (.return_, 1) := by decide +kernel
theorem d_Unroller_addRow_0 : decode b_Unroller_addRow 0 = .ok (.iload_n 2, 1) := by decide +kernel
theorem d_Unroller_addRow_1 : decode b_Unroller_addRow 1 = .ok (.ifCond .gt 4, 3) := by decide +kernel
theorem d_Unroller_addRow_4 : decode b_Unroller_addRow 4 = .ok (.return_, 1) := by decide +kernel
theorem d_Unroller_addRow_5 : decode b_Unroller_addRow 5 = .ok (.aload_n 0, 1) := by decide +kernel
theorem d_Unroller_addRow_6 : decode b_Unroller_addRow 6 = .ok (.getfield 24, 3) := by decide +kernel
theorem d_Unroller_addRow_9 : decode b_Unroller_addRow 9 = .ok (.aload_n 0, 1) := by decide +kernel
theorem d_Unroller_addRow_10 : decode b_Unroller_addRow 10 = .ok (.getfield 61, 3) := by decide +kernel
theorem d_Unroller_addRow_13 : decode b_Unroller_addRow 13 = .ok (.iload_n 2, 1) := by decide +kernel
theorem d_Unroller_addRow_14 : decode b_Unroller_addRow 14 = .ok (.invokevirtual 132, 3) := by decide +kernel
theorem d_Unroller_addRow_17 : decode b_Unroller_addRow 17 = .ok (.ifCond .ne 9, 3) := by decide +kernel
theorem d_Unroller_addRow_20 : decode b_Unroller_addRow 20 = .ok (.aload_n 0, 1) := by decide +kernel
theorem d_Unroller_addRow_21 : decode b_Unroller_addRow 21 = .ok (.iconst 1, 1) := by decide +kernel
theorem d_Unroller_addRow_22 : decode b_Unroller_addRow 22 = .ok (.putfield 38, 3) := by decide +kernel
theorem d_Unroller_addRow_25 : decode b_Unroller_addRow 25 = .ok (.return_, 1) := by decide +kernel
theorem d_Unroller_addRow_26 : decode b_Unroller_addRow 26 = .ok (.iconst 0, 1) := by decide +kernel
theorem d_Unroller_addRow_27 : decode b_Unroller_addRow 27 = .ok (.istore_n 3, 1) := by decide +kernel
theorem d_Unroller_addRow_28 : decode b_Unroller_addRow 28 = .ok (.iload_n 3, 1) := by decide +kernel
theorem d_Unroller_addRow_29 : decode b_Unroller_addRow 29 = .ok (.iload_n 2, 1) := by decide +kernel
theorem d_Unroller_addRow_30 : decode b_Unroller_addRow 30 = .ok (.if_icmp .ge 23, 3) := by decide +kernel
theorem d_Unroller_addRow_33 : decode b_Unroller_addRow 33 = .ok (.aload_n 0, 1) := by decide +kernel
theorem d_Unroller_addRow_34 : decode b_Unroller_addRow 34 = .ok (.getfield 24, 3) := by decide +kernel
theorem d_Unroller_addRow_37 : decode b_Unroller_addRow 37 = .ok (.aload_n 0, 1) := by decide +kernel
theorem d_Unroller_addRow_38 : decode b_Unroller_addRow 38 = .ok (.iload_n 1, 1) := by decide +kernel
theorem d_Unroller_addRow_39 : decode b_Unroller_addRow 39 = .ok (.iload_n 3, 1) := by decide +kernel
theorem d_Unroller_addRow_40 : decode b_Unroller_addRow 40 = .ok (.iadd, 1) := by decide +kernel
theorem d_Unroller_addRow_41 : decode b_Unroller_addRow 41 = .ok (.invokevirtual 136, 3) := by decide +kernel
theorem d_Unroller_addRow_44 : decode b_Unroller_addRow 44 = .ok (.invokevirtual 140, 3) := by decide +kernel
theorem d_Unroller_addRow_47 : decode b_Unroller_addRow 47 = .ok (.iinc 3 1, 3) := by decide +kernel
theorem d_Unroller_addRow_50 : decode b_Unroller_addRow 50 = .ok (.goto (-22), 3) := by decide +kernel
theorem d_Unroller_addRow_53 : decode b_Unroller_addRow 53 = .ok (.return_, 1) := by decide +kernel
set_option maxHeartbeats 4000000 in
set_option maxRecDepth 100000 in
theorem lp_Unroller_layOut_30 (g : GG) {u : Nat} {s : Nat} {ss : Nat} {la : Nat} {ke : Nat} {lc : Nat} {uw : Nat} {uh : Nat} {ri : Nat} {mi : Int32} {tm : Bool} {ar : Option Nat} {ls : List LayerV} {LA : Nat → Option Nat} {PP : va_W} (hls : ls.length ≤ 40) (hch : ChainAt g PP ar ls) {x : X0} {A : Nat → Prop} {Q : State → Prop}  (C : CX x g A R_Unroller b_Unroller_layOut 4) (E : RX x g A Q none (fun (r0 : Option Value) (w0 : va_W) => ∃ LB : Nat → Option Nat, r0 = none ∧ w0 = [(u, .inr (8, [.ref s, .ref ss, .ref la, .ref ke, .int (nI ls.length), .int (nI uw), .int (nI uh), .int (nI ri), .int mi, .int (bI tm)])), (la, .inl (g.2.1 4, 40, .inr (.inr (.inr (.inr LB)))))] ++ PP ∧ (LayersAt g PP LB ls)) (rmk 1 0 0 21).cells (rmk 1 0 0 21).slots) (hR : xR x = (rmk 1 0 0 21)) : ∀ (fuel : Nat) (m : Nat) (cur : Option Nat) (rs : List LayerV) (LC : Nat → Option Nat) (hrm : rs.length = m) (hm4 : m ≤ 40) (hsp : ∃ pre, ls = pre ++ rs) (hcur : ChainAt g PP cur rs) (hla : ∀ j l, m ≤ j → ls.reverse[j]? = some l → LayAt g PP (LC j) l), m < fuel → J x g A Q 4 ([(u, .inr (8, [.ref s, .ref ss, .ref la, .ref ke, .int (nI ls.length), .int (nI uw), .int (nI uh), .int (nI ri), .int mi, .int (bI tm)])), (la, .inl (g.2.1 4, 40, .inr (.inr (.inr (.inr LC)))))] ++ PP) [(0, .ref u), (1, va_rf ar), (2, va_rf cur), (3, .int (nI m - nI 1))] 30 [] 0 0 := by
  intro fuel
  induction fuel with
  | zero =>
    intro m cur rs LC hrm hm4 hsp hcur hla hm
    exact absurd hm (Nat.not_lt_zero _)
  | succ fuel ih =>
    intro m cur rs LC hrm hm4 hsp hcur hla hm
    refine r_iload_n C 3 d_Unroller_layOut_30 rfl rfl ?_
    rcases m with _ | m
    · skip
      refine r_norm2 (ws' := [(u, .inr (8, [.ref s, .ref ss, .ref la, .ref ke, .int (nI ls.length), .int (nI uw), .int (nI uh), .int (nI ri), .int mi, .int (bI tm)])), (la, .inl (g.2.1 4, 40, .inr (.inr (.inr (.inr LC)))))] ++ PP) (st' := [.int (-1)]) (lv' := [(0, .ref u), (1, va_rf ar), (2, va_rf cur), (3, .int (-1))]) rfl (by simp only [nI_0z]) (by simp only [nI_0z]) ?_
      refine r_if_lt C 56 d_Unroller_layOut_31 (by decide) (fun c_31 => ?_) (fun c_31 => ?_)
      · skip
        refine r_vret C E d_Unroller_layOut_56 (by first | decide | omega | (simp only [rmk]; omega)) (by first | decide | omega | (simp only [rmk]; omega)) ?_
        exact ⟨LC, rfl, rfl, fun j l h => hla j l (Nat.zero_le _) h⟩
      · exact absurd (show (-1 : Int32) < 0 by decide) c_31
    · skip
      refine r_norm2 (ws' := [(u, .inr (8, [.ref s, .ref ss, .ref la, .ref ke, .int (nI ls.length), .int (nI uw), .int (nI uh), .int (nI ri), .int mi, .int (bI tm)])), (la, .inl (g.2.1 4, 40, .inr (.inr (.inr (.inr LC)))))] ++ PP) (st' := [.int (nI m)]) (lv' := [(0, .ref u), (1, va_rf ar), (2, va_rf cur), (3, .int (nI m))]) rfl (by simp only [nI_1p]) (by simp only [nI_1p]) ?_
      refine r_nif_lt C 56 d_Unroller_layOut_31 (by decide) (by omega) (fun c_31 => ?_) (fun c_31 => ?_)
      · exact absurd c_31 (by omega)
      · skip
        refine r_aload_nQ C 2 d_Unroller_layOut_34 rfl rfl ?_
        refine r_ifnullQ C 56 d_Unroller_layOut_35 (by decide) (fun e_35 => ?_) (fun a_35 e_35 => ?_)
        · subst e_35; obtain ⟨l0, rs0, rfl⟩ := List.exists_cons_of_length_eq_add_one hrm; obtain ⟨a2, ou2, e2, -⟩ := hcur; cases e2
        · subst e_35
          refine r_aload_n C 0 d_Unroller_layOut_38 rfl rfl ?_
          refine r_get C 0 2 d_Unroller_layOut_39 ci_Unroller fi_Unroller_17 rfl (by decide) rfl rfl ?_
          refine r_iload_n C 3 d_Unroller_layOut_42 rfl rfl ?_
          refine r_aload_n C 2 d_Unroller_layOut_43 rfl rfl ?_
          obtain ⟨l0, rs0, rfl⟩ := List.exists_cons_of_length_eq_add_one hrm
          obtain ⟨a2, ou2, e2, hmem, hl2, hch2⟩ := hcur
          cases e2
          refine r_aastM C (r := (R_Layer, F_Layer, 5)) (ws' := [(u, .inr (8, [.ref s, .ref ss, .ref la, .ref ke, .int (nI ls.length), .int (nI uw), .int (nI uh), .int (nI ri), .int mi, .int (bI tm)])), (la, .inl (g.2.1 4, 40, .inr (.inr (.inr (.inr (va_up LC m (some a_35)))))))] ++ PP) 1 4 d_Unroller_layOut_44 rfl rfl (List.mem_append_right _ hmem) rfl (by omega) (by decide) rfl ?_
          refine r_aload_n C 2 d_Unroller_layOut_45 rfl rfl ?_
          refine r_getM C 3 d_Unroller_layOut_46 ci_Layer fi_Unroller_90 rfl (by decide) (List.mem_append_right _ hmem) rfl ?_
          refine r_astore_nQ C (lv' := [(2, va_rf ou2), (0, .ref u), (1, va_rf ar), (3, .int (nI m))]) d_Unroller_layOut_49 rfl (by decide) (by generalize ar = zq; cases zq <;> rfl) ?_
          refine r_iinc C 3 (nI m - nI 1) (lv' := [(3, .int (nI m - nI 1)), (2, va_rf ou2), (0, .ref u), (1, va_rf ar)]) d_Unroller_layOut_50 rfl (nI_m1 _) (by decide) (by generalize ou2 = zq; cases zq <;> rfl) ?_
          refine r_goto C 30 d_Unroller_layOut_53 (by decide) ?_
          refine r_lv (lv' := [(0, .ref u), (1, va_rf ar), (2, va_rf ou2), (3, .int (nI m - nI 1))]) [2, 3, 1, 0] rfl ?_
          exact ih m ou2 rs0 (va_up LC m (some a_35)) (by simpa using hrm) (by first | assumption | rfl | omega) (lay_sp hsp) (hch2) (lay_up hsp (by simpa using hrm) hmem hla) (by omega)
set_option maxHeartbeats 4000000 in
set_option maxRecDepth 100000 in
theorem c_Unroller_layOut (g : GG) (l : Launch) {u : Nat} {s : Nat} {ss : Nat} {la : Nat} {ke : Nat} {lc : Nat} {uw : Nat} {uh : Nat} {ri : Nat} {mi : Int32} {tm : Bool} {ar : Option Nat} {ls : List LayerV} {LA : Nat → Option Nat} {PP : va_W}  (hls : ls.length ≤ 40) (hch : ChainAt g PP ar ls) : Cn g l y_Unroller_layOut b_Unroller_layOut 4 none (rmk 1 0 0 21) [.ref u, va_rf ar] ([(u, .inr (8, [.ref s, .ref ss, .ref la, .ref ke, .int (nI lc), .int (nI uw), .int (nI uh), .int (nI ri), .int mi, .int (bI tm)])), (la, .inl (g.2.1 4, 40, .inr (.inr (.inr (.inr LA)))))] ++ PP) (fun (r0 : Option Value) (w0 : va_W) => ∃ LB : Nat → Option Nat, r0 = none ∧ w0 = [(u, .inr (8, [.ref s, .ref ss, .ref la, .ref ke, .int (nI ls.length), .int (nI uw), .int (nI uh), .int (nI ri), .int mi, .int (bI tm)])), (la, .inl (g.2.1 4, 40, .inr (.inr (.inr (.inr LB)))))] ++ PP ∧ (LayersAt g PP LB ls)) := by
  refine Cn.of R_Unroller [(0, .ref u), (1, va_rf ar)] (by decide) rfl (by generalize ar = z0; cases z0 <;> exact Nat.le_of_ble_eq_true rfl) (by generalize ar = z0; cases z0 <;> rfl) ?_
  intro x A Q hR hXl hin C E
  subst hXl
  refine r_aload_n C 0 d_Unroller_layOut_0 rfl rfl ?_
  refine r_aload_nQ C 1 d_Unroller_layOut_1 rfl rfl ?_
  refine r_ifnonnullQ C 9 d_Unroller_layOut_2 (by decide) (fun a_2 e_2 => ?_) (fun e_2 => ?_)
  · subst e_2
    refine r_aload_n C 1 d_Unroller_layOut_9 rfl rfl ?_
    obtain ⟨v0, v1, v2, v3, hmem⟩ := chain_lev hch a_2 rfl
    refine r_getM C 4 d_Unroller_layOut_10 ci_Layer fi_Unroller_78 rfl (by decide) (List.mem_append_right _ hmem) rfl ?_
    refine r_bipush C (nI 40) d_Unroller_layOut_13 (by decide) ?_
    refine r_nmin C d_Unroller_layOut_15 ml_Unroller_81 ma_min (by rw [hR]; first | decide | (simp only [rmk]; omega)) (by rw [hR]; exact Nat.le_trans (Nat.add_le_add_right (cat8 (Nat.le_of_ble_eq_true rfl)) 13) (by first | decide | (simp only [rmk]; omega))) (by rw [hR]; first | decide | (simp only [rmk]; omega)) (by rw [hR]; first | decide | (simp only [rmk]; omega)) (by omega) (by omega) ?_
    refine r_top (v' := nI ls.length) (by rw [Nat.min_eq_left hls]) ?_
    refine r_put C (ws' := [(u, .inr (8, [.ref s, .ref ss, .ref la, .ref ke, .int (nI ls.length), .int (nI uw), .int (nI uh), .int (nI ri), .int mi, .int (bI tm)])), (la, .inl (g.2.1 4, 40, .inr (.inr (.inr (.inr LA)))))] ++ PP) 0 4 d_Unroller_layOut_18 ci_Unroller fi_Unroller_87 rfl (by decide) rfl rfl (rfl) (rfl) (by simp) rfl ?_
    refine r_aload_n C 1 d_Unroller_layOut_21 rfl rfl ?_
    refine r_astore_n C (lv' := [(2, .ref a_2), (0, .ref u), (1, .ref a_2)]) d_Unroller_layOut_22 rfl (by decide) rfl ?_
    refine r_aload_n C 1 d_Unroller_layOut_23 rfl rfl ?_
    refine r_get C 0 4 d_Unroller_layOut_24 ci_Unroller fi_Unroller_87 rfl (by decide) rfl rfl ?_
    refine r_iconst C (nI 1) d_Unroller_layOut_27 (by decide) ?_
    refine r_isub C d_Unroller_layOut_28 ?_
    refine r_istore_n C (lv' := [(3, .int ((nI ls.length) - (nI 1))), (2, .ref a_2), (0, .ref u), (1, .ref a_2)]) d_Unroller_layOut_29 rfl (by decide) rfl ?_
    refine r_lv (lv' := [(0, .ref u), (1, va_rf (some a_2)), (2, va_rf (some a_2)), (3, .int (nI ls.length - nI 1))]) [2, 3, 1, 0] rfl ?_
    exact lp_Unroller_layOut_30 g (u := u) (s := s) (ss := ss) (la := la) (ke := ke) (lc := lc) (uw := uw) (uh := uh) (ri := ri) (mi := mi) (tm := tm) (ar := some a_2) (ls := ls) (LA := LA) (PP := PP) hls hch  C E hR _ ls.length (some a_2) ls LA (rfl) (hls) (⟨[], rfl⟩) (hch) (fun j l h1 h2 => by have := (List.getElem?_eq_some_iff.mp h2).1; simp at this; omega) (Nat.lt_succ_self _)
  · subst e_2
    refine r_iconst C (nI 0) d_Unroller_layOut_5 (by decide) ?_
    refine r_goto C 18 d_Unroller_layOut_6 (by decide) ?_
    refine r_top (v' := nI ls.length) (by rw [chain_nil hch rfl]) ?_
    refine r_put C (ws' := [(u, .inr (8, [.ref s, .ref ss, .ref la, .ref ke, .int (nI ls.length), .int (nI uw), .int (nI uh), .int (nI ri), .int mi, .int (bI tm)])), (la, .inl (g.2.1 4, 40, .inr (.inr (.inr (.inr LA)))))] ++ PP) 0 4 d_Unroller_layOut_18 ci_Unroller fi_Unroller_87 rfl (by decide) rfl rfl (rfl) (rfl) (by simp) rfl ?_
    refine r_aload_nN C 1 d_Unroller_layOut_21 rfl rfl ?_
    refine r_astore_nN C (lv' := [(2, .null), (0, .ref u), (1, .null)]) d_Unroller_layOut_22 rfl (by decide) rfl ?_
    refine r_aload_n C 1 d_Unroller_layOut_23 rfl rfl ?_
    refine r_get C 0 4 d_Unroller_layOut_24 ci_Unroller fi_Unroller_87 rfl (by decide) rfl rfl ?_
    refine r_iconst C (nI 1) d_Unroller_layOut_27 (by decide) ?_
    refine r_isub C d_Unroller_layOut_28 ?_
    refine r_istore_n C (lv' := [(3, .int ((nI ls.length) - (nI 1))), (2, .null), (0, .ref u), (1, .null)]) d_Unroller_layOut_29 rfl (by decide) rfl ?_
    refine r_lv (lv' := [(0, .ref u), (1, va_rf none), (2, va_rf none), (3, .int (nI ls.length - nI 1))]) [2, 3, 1, 0] rfl ?_
    exact lp_Unroller_layOut_30 g (u := u) (s := s) (ss := ss) (la := la) (ke := ke) (lc := lc) (uw := uw) (uh := uh) (ri := ri) (mi := mi) (tm := tm) (ar := none) (ls := ls) (LA := LA) (PP := PP) hls hch  C E hR _ ls.length none ls LA (rfl) (hls) (⟨[], rfl⟩) (hch) (fun j l h1 h2 => by have := (List.getElem?_eq_some_iff.mp h2).1; simp at this; omega) (Nat.lt_succ_self _)

set_option maxHeartbeats 4000000 in
set_option maxRecDepth 100000 in
theorem lp_Unroller_addRow_28 (g : GG) {u : Nat} {s : Nat} {ss : Nat} {la : Nat} {ke : Nat} {lc : Nat} {uw : Nat} {uh : Nat} {ri : Nat} {mi : Int32} {tm : Bool} {ru : Nat} {sa : Nat} {ps : Nat} {to : Nat} {gs : Nat} {rc : Nat} {pn : Nat} {RU : Nat → Nat} {SA : Nat → Nat} {PL : Nat → Nat} {TO : Nat → Bool} {j : Nat} {z : Nat} {SS : Nat → Nat} (h1 : rc ≤ 4000) (h2 : pn ≤ 30000) (h3 : z ≤ 256) (h4 : ri < 2 ^ 31) (h5 : j + z ≤ 10496) (h6 : ∀ i, i < z → SS (j + i) < 256) {x : X0} {A : Nat → Prop} {Q : State → Prop}  (C : CX x g A R_Unroller b_Unroller_addRow 4) (E : RX x g A Q none (fun (r0 : Option Value) (w0 : va_W) => ∃ tm2 : Bool, ∃ rc2 : Nat, ∃ pn2 : Nat, ∃ RU2 : Nat → Nat, ∃ SA2 : Nat → Nat, ∃ PL2 : Nat → Nat, ∃ TO2 : Nat → Bool, r0 = none ∧ w0 = [(u, .inr (8, [.ref s, .ref ss, .ref la, .ref ke, .int (nI lc), .int (nI uw), .int (nI uh), .int (nI ri), .int mi, .int (bI tm2)])), (ss, .inl (g.2.1 0, 10496, .inl (aI SS))), (s, .inr (7, [.ref ru, .ref sa, .ref ps, .ref to, .int (nI gs), .int (nI rc2), .int (nI pn2)])), (ru, .inl (g.2.1 0, 4000, .inl (aI RU2))), (sa, .inl (g.2.1 0, 4001, .inl (aI SA2))), (ps, .inl (g.2.1 0, 30000, .inl (aI PL2))), (to, .inl (g.2.1 2, 256, .inl (zI TO2)))] ∧ (RowAdded SS j z ri RU SA PL TO rc pn tm RU2 SA2 PL2 TO2 rc2 pn2 tm2)) (rmk 1 0 0 22).cells (rmk 1 0 0 22).slots) (hR : xR x = (rmk 1 0 0 22)) : ∀ (fuel : Nat) (i : Nat) (PC : Nat → Nat) (TC : Nat → Bool) (rcc : Nat) (RC : Nat → Nat) (SC : Nat → Nat) (pc : Nat) (hi : i ≤ z) (hp : pc = pn + i) (hq : rc < 4000 ∧ pn + z ≤ 30000 ∧ RC = up RU rc ri ∧ SC = up (up SA rc pn) (rc + 1) (pn + z) ∧ rcc = rc + 1) (hz : 0 < z) (hl : ∀ t, PC t = if pn ≤ t ∧ t < pn + i then SS (j + (t - pn)) else PL t) (ht : ∀ t, TC t = (TO t || (List.range i).any (fun a => SS (j + a) == t))), z - i < fuel → J x g A Q 4 ([(u, .inr (8, [.ref s, .ref ss, .ref la, .ref ke, .int (nI lc), .int (nI uw), .int (nI uh), .int (nI ri), .int mi, .int (bI tm)])), (ss, .inl (g.2.1 0, 10496, .inl (aI SS))), (s, .inr (7, [.ref ru, .ref sa, .ref ps, .ref to, .int (nI gs), .int (nI rcc), .int (nI pc)])), (ru, .inl (g.2.1 0, 4000, .inl (aI RC))), (sa, .inl (g.2.1 0, 4001, .inl (aI SC))), (ps, .inl (g.2.1 0, 30000, .inl (aI PC))), (to, .inl (g.2.1 2, 256, .inl (zI TC)))]) [(0, .ref u), (1, .int (nI j)), (2, .int (nI z)), (3, .int (nI i))] 28 [] 0 0 := by
  intro fuel
  induction fuel with
  | zero =>
    intro i PC TC rcc RC SC pc hi hp hq hz hl ht hm
    exact absurd hm (Nat.not_lt_zero _)
  | succ fuel ih =>
    intro i PC TC rcc RC SC pc hi hp hq hz hl ht hm
    refine r_iload_n C 3 d_Unroller_addRow_28 rfl rfl ?_
    refine r_iload_n C 2 d_Unroller_addRow_29 rfl rfl ?_
    refine r_ncmp_ge C 53 d_Unroller_addRow_30 (by decide) (by omega) (by omega) (fun c_30 => ?_) (fun c_30 => ?_)
    · skip
      refine r_vret C E d_Unroller_addRow_53 (by first | decide | omega | (simp only [rmk]; omega)) (by first | decide | omega | (simp only [rmk]; omega)) ?_
      obtain rfl : i = z := by omega
      obtain ⟨p1, p2, rfl, rfl, rfl⟩ := hq
      subst hp
      exact ⟨_, _, _, _, _, _, _, rfl, rfl, Or.inr (Or.inl ⟨hz, p1, p2, rfl, rfl, rfl, rfl, rfl, hl, ht⟩)⟩
    · skip
      refine r_aload_n C 0 d_Unroller_addRow_33 rfl rfl ?_
      refine r_get C 0 0 d_Unroller_addRow_34 ci_Unroller fi_Unroller_24 rfl (by decide) rfl rfl ?_
      refine r_aload_n C 0 d_Unroller_addRow_37 rfl rfl ?_
      refine r_iload_n C 1 d_Unroller_addRow_38 rfl rfl ?_
      refine r_iload_n C 3 d_Unroller_addRow_39 rfl rfl ?_
      refine r_nadd C d_Unroller_addRow_40 ?_
      refine j_callV C (c_Unroller_at g (xl x) (u := u) (s := s) (ss := ss) (la := la) (ke := ke) (lc := lc) (uw := uw) (uh := uh) (ri := ri) (mi := mi) (tm := tm) (j := j + i) (SS := SS) (by first | assumption | rfl | omega)) (Sp.of (wr := [(s, .inr (7, [.ref ru, .ref sa, .ref ps, .ref to, .int (nI gs), .int (nI rcc), .int (nI pc)])), (ru, .inl (g.2.1 0, 4000, .inl (aI RC))), (sa, .inl (g.2.1 0, 4001, .inl (aI SC))), (ps, .inl (g.2.1 0, 30000, .inl (aI PC))), (to, .inl (g.2.1 2, 256, .inl (zI TC)))]) [0, 1] [2, 3, 4, 5, 6] rfl rfl rfl rfl (by decide)) d_Unroller_addRow_41 lk_Unroller_136 mw_Unroller_at vw_Unroller_at (q0 := 0) rfl rfl (fit_of hR (by first | decide | (simp only [rmk]; omega)) (by first | decide | (simp only [rmk]; omega)) (by first | decide | (simp only [rmk]; omega)) (by first | decide | (simp only [rmk]; omega))) rfl (cat8 (Nat.le_of_ble_eq_true rfl)) (As := [.int (nI (j + i))]) (rest := [.ref s]) rfl (fun r_41 w_41 hp_41 => ?_)
      obtain ⟨rfl, rfl⟩ := hp_41
      refine r_after (ws' := [(u, .inr (8, [.ref s, .ref ss, .ref la, .ref ke, .int (nI lc), .int (nI uw), .int (nI uh), .int (nI ri), .int mi, .int (bI tm)])), (ss, .inl (g.2.1 0, 10496, .inl (aI SS))), (s, .inr (7, [.ref ru, .ref sa, .ref ps, .ref to, .int (nI gs), .int (nI rcc), .int (nI pc)])), (ru, .inl (g.2.1 0, 4000, .inl (aI RC))), (sa, .inl (g.2.1 0, 4001, .inl (aI SC))), (ps, .inl (g.2.1 0, 30000, .inl (aI PC))), (to, .inl (g.2.1 2, 256, .inl (zI TC)))]) (st' := [.int (nI (SS (j + i))), .ref s]) (n1 := 0) (n2 := 0) [5, 6, 0, 1, 2, 3, 4] rfl rfl rfl rfl rfl ?_
      refine j_callV C (c_RowStore_addPlace g (xl x) (s := s) (ru := ru) (sa := sa) (ps := ps) (to := to) (gs := gs) (rc := rcc) (pn := pc) (c := SS (j + i)) (PL := PC) (TO := TC) (by omega) (h6 i c_30)) (Sp.of (wr := [(u, .inr (8, [.ref s, .ref ss, .ref la, .ref ke, .int (nI lc), .int (nI uw), .int (nI uh), .int (nI ri), .int mi, .int (bI tm)])), (ss, .inl (g.2.1 0, 10496, .inl (aI SS))), (ru, .inl (g.2.1 0, 4000, .inl (aI RC))), (sa, .inl (g.2.1 0, 4001, .inl (aI SC)))]) [2, 5, 6] [0, 1, 3, 4] rfl rfl rfl rfl (by decide)) d_Unroller_addRow_44 lk_Unroller_140 mw_RowStore_addPlace vw_RowStore_addPlace (q0 := 0) rfl rfl (fit_of hR (by first | decide | (simp only [rmk]; omega)) (by first | decide | (simp only [rmk]; omega)) (by first | decide | (simp only [rmk]; omega)) (by first | decide | (simp only [rmk]; omega))) rfl (cat8 (Nat.le_of_ble_eq_true rfl)) (As := [.int (nI (SS (j + i)))]) (rest := []) rfl (fun r_44 w_44 hp_44 => ?_)
      obtain ⟨rfl, rfl⟩ := hp_44
      refine r_after (ws' := [(u, .inr (8, [.ref s, .ref ss, .ref la, .ref ke, .int (nI lc), .int (nI uw), .int (nI uh), .int (nI ri), .int mi, .int (bI tm)])), (ss, .inl (g.2.1 0, 10496, .inl (aI SS))), (s, .inr (7, [.ref ru, .ref sa, .ref ps, .ref to, .int (nI gs), .int (nI rcc), .int (nI (pc + 1))])), (ru, .inl (g.2.1 0, 4000, .inl (aI RC))), (sa, .inl (g.2.1 0, 4001, .inl (aI SC))), (ps, .inl (g.2.1 0, 30000, .inl (aI (up PC pc (SS (j + i)))))), (to, .inl (g.2.1 2, 256, .inl (zI (up TC (SS (j + i)) true))))]) (st' := []) (n1 := 0) (n2 := 0) [0, 1, 4, 2, 3, 5, 6] rfl rfl rfl rfl rfl ?_
      refine r_iinc C 3 (nI (i + 1)) (lv' := [(3, .int (nI (i + 1))), (0, .ref u), (1, .int (nI j)), (2, .int (nI z))]) d_Unroller_addRow_47 rfl (nI_inc 1 _) (by decide) rfl ?_
      refine r_goto C 28 d_Unroller_addRow_50 (by decide) ?_
      refine r_lv (lv' := [(0, .ref u), (1, .int (nI j)), (2, .int (nI z)), (3, .int (nI (i + 1)))]) [1, 2, 3, 0] rfl ?_
      exact ih (i + 1) (up PC pc (SS (j + i))) (up TC (SS (j + i)) true) rcc RC SC (pc + 1) (by first | assumption | rfl | omega) (by rw [hp]; omega) (hq) (by first | assumption | rfl | omega) (fun t => row_pl hp (hl t)) (fun t => row_to (ht t)) (by omega)
set_option maxHeartbeats 4000000 in
set_option maxRecDepth 100000 in
theorem c_Unroller_addRow (g : GG) (l : Launch) {u : Nat} {s : Nat} {ss : Nat} {la : Nat} {ke : Nat} {lc : Nat} {uw : Nat} {uh : Nat} {ri : Nat} {mi : Int32} {tm : Bool} {ru : Nat} {sa : Nat} {ps : Nat} {to : Nat} {gs : Nat} {rc : Nat} {pn : Nat} {RU : Nat → Nat} {SA : Nat → Nat} {PL : Nat → Nat} {TO : Nat → Bool} {j : Nat} {z : Nat} {SS : Nat → Nat}  (h1 : rc ≤ 4000) (h2 : pn ≤ 30000) (h3 : z ≤ 256) (h4 : ri < 2 ^ 31) (h5 : j + z ≤ 10496) (h6 : ∀ i, i < z → SS (j + i) < 256) : Cn g l y_Unroller_addRow b_Unroller_addRow 4 none (rmk 1 0 0 22) [.ref u, .int (nI j), .int (nI z)] ([(u, .inr (8, [.ref s, .ref ss, .ref la, .ref ke, .int (nI lc), .int (nI uw), .int (nI uh), .int (nI ri), .int mi, .int (bI tm)])), (ss, .inl (g.2.1 0, 10496, .inl (aI SS))), (s, .inr (7, [.ref ru, .ref sa, .ref ps, .ref to, .int (nI gs), .int (nI rc), .int (nI pn)])), (ru, .inl (g.2.1 0, 4000, .inl (aI RU))), (sa, .inl (g.2.1 0, 4001, .inl (aI SA))), (ps, .inl (g.2.1 0, 30000, .inl (aI PL))), (to, .inl (g.2.1 2, 256, .inl (zI TO)))]) (fun (r0 : Option Value) (w0 : va_W) => ∃ tm2 : Bool, ∃ rc2 : Nat, ∃ pn2 : Nat, ∃ RU2 : Nat → Nat, ∃ SA2 : Nat → Nat, ∃ PL2 : Nat → Nat, ∃ TO2 : Nat → Bool, r0 = none ∧ w0 = [(u, .inr (8, [.ref s, .ref ss, .ref la, .ref ke, .int (nI lc), .int (nI uw), .int (nI uh), .int (nI ri), .int mi, .int (bI tm2)])), (ss, .inl (g.2.1 0, 10496, .inl (aI SS))), (s, .inr (7, [.ref ru, .ref sa, .ref ps, .ref to, .int (nI gs), .int (nI rc2), .int (nI pn2)])), (ru, .inl (g.2.1 0, 4000, .inl (aI RU2))), (sa, .inl (g.2.1 0, 4001, .inl (aI SA2))), (ps, .inl (g.2.1 0, 30000, .inl (aI PL2))), (to, .inl (g.2.1 2, 256, .inl (zI TO2)))] ∧ (RowAdded SS j z ri RU SA PL TO rc pn tm RU2 SA2 PL2 TO2 rc2 pn2 tm2)) := by
  refine Cn.of R_Unroller [(0, .ref u), (1, .int (nI j)), (2, .int (nI z))] (by decide) rfl (Nat.le_of_ble_eq_true rfl) rfl ?_
  intro x A Q hR hXl hin C E
  subst hXl
  refine r_iload_n C 2 d_Unroller_addRow_0 rfl rfl ?_
  refine r_nif_gt C 5 d_Unroller_addRow_1 (by decide) (by omega) (fun c_1 => ?_) (fun c_1 => ?_)
  · skip
    refine r_aload_n C 0 d_Unroller_addRow_5 rfl rfl ?_
    refine r_get C 0 0 d_Unroller_addRow_6 ci_Unroller fi_Unroller_24 rfl (by decide) rfl rfl ?_
    refine r_aload_n C 0 d_Unroller_addRow_9 rfl rfl ?_
    refine r_get C 0 7 d_Unroller_addRow_10 ci_Unroller fi_Unroller_61 rfl (by decide) rfl rfl ?_
    refine r_iload_n C 2 d_Unroller_addRow_13 rfl rfl ?_
    refine j_callV C (c_RowStore_beginRow g (xl x) (s := s) (ru := ru) (sa := sa) (ps := ps) (to := to) (gs := gs) (rc := rc) (pn := pn) (ri := ri) (z := z) (RU := RU) (SA := SA) (by first | assumption | rfl | omega) (by first | assumption | rfl | omega) (by first | assumption | rfl | omega) (by first | assumption | rfl | omega)) (Sp.of (wr := [(u, .inr (8, [.ref s, .ref ss, .ref la, .ref ke, .int (nI lc), .int (nI uw), .int (nI uh), .int (nI ri), .int mi, .int (bI tm)])), (ss, .inl (g.2.1 0, 10496, .inl (aI SS))), (ps, .inl (g.2.1 0, 30000, .inl (aI PL))), (to, .inl (g.2.1 2, 256, .inl (zI TO)))]) [2, 3, 4] [0, 1, 5, 6] rfl rfl rfl rfl (by decide)) d_Unroller_addRow_14 lk_Unroller_132 mw_RowStore_beginRow vw_RowStore_beginRow (q0 := 0) rfl rfl (fit_of hR (by first | decide | (simp only [rmk]; omega)) (by first | decide | (simp only [rmk]; omega)) (by first | decide | (simp only [rmk]; omega)) (by first | decide | (simp only [rmk]; omega))) rfl (cat8 (Nat.le_of_ble_eq_true rfl)) (As := [.int (nI ri), .int (nI z)]) (rest := []) rfl (fun r_14 w_14 hp_14 => ?_)
    obtain ⟨ok_14, rc2_14, RU2_14, SA2_14, rfl, rfl, hb_14⟩ := hp_14
    refine r_after (ws' := [(u, .inr (8, [.ref s, .ref ss, .ref la, .ref ke, .int (nI lc), .int (nI uw), .int (nI uh), .int (nI ri), .int mi, .int (bI tm)])), (ss, .inl (g.2.1 0, 10496, .inl (aI SS))), (s, .inr (7, [.ref ru, .ref sa, .ref ps, .ref to, .int (nI gs), .int (nI rc2_14), .int (nI pn)])), (ru, .inl (g.2.1 0, 4000, .inl (aI RU2_14))), (sa, .inl (g.2.1 0, 4001, .inl (aI SA2_14))), (ps, .inl (g.2.1 0, 30000, .inl (aI PL))), (to, .inl (g.2.1 2, 256, .inl (zI TO)))]) (st' := [.int (bI ok_14)]) (n1 := 0) (n2 := 0) [0, 1, 4, 5, 6, 2, 3] rfl rfl rfl rfl rfl ?_
    refine r_bif_ne C 26 d_Unroller_addRow_17 (by decide) (fun c_17 => ?_) (fun c_17 => ?_)
    · skip
      rcases hb_14 with ⟨q1, q2, q3, q4, q5, q6⟩ | ⟨q1, q2⟩
      rotate_left
      · rw [c_17] at q1; cases q1
      refine r_iconst C (nI 0) d_Unroller_addRow_26 (by decide) ?_
      refine r_istore_n C (lv' := [(3, .int (nI 0)), (0, .ref u), (1, .int (nI j)), (2, .int (nI z))]) d_Unroller_addRow_27 rfl (by decide) rfl ?_
      refine r_lv (lv' := [(0, .ref u), (1, .int (nI j)), (2, .int (nI z)), (3, .int (nI 0))]) [1, 2, 3, 0] rfl ?_
      exact lp_Unroller_addRow_28 g (u := u) (s := s) (ss := ss) (la := la) (ke := ke) (lc := lc) (uw := uw) (uh := uh) (ri := ri) (mi := mi) (tm := tm) (ru := ru) (sa := sa) (ps := ps) (to := to) (gs := gs) (rc := rc) (pn := pn) (RU := RU) (SA := SA) (PL := PL) (TO := TO) (j := j) (z := z) (SS := SS) h1 h2 h3 h4 h5 h6  C E hR _ 0 PL TO rc2_14 RU2_14 SA2_14 pn (by first | assumption | rfl | omega) (rfl) (⟨q2, q3, q4, q5, q6⟩) (c_1) (fun t => by rw [if_neg (by omega)]) (fun t => by simp) (Nat.lt_succ_self _)
    · skip
      rcases hb_14 with ⟨q1, q2⟩ | ⟨q1, q2, q3, q4, q5⟩
      · rw [c_17] at q1; cases q1
      refine r_aload_n C 0 d_Unroller_addRow_20 rfl rfl ?_
      refine r_iconst C (nI 1) d_Unroller_addRow_21 (by decide) ?_
      refine r_eqS (st' := [.int (bI true), .ref u]) rfl ?_
      refine r_put C (ws' := [(u, .inr (8, [.ref s, .ref ss, .ref la, .ref ke, .int (nI lc), .int (nI uw), .int (nI uh), .int (nI ri), .int mi, .int (bI true)])), (ss, .inl (g.2.1 0, 10496, .inl (aI SS))), (s, .inr (7, [.ref ru, .ref sa, .ref ps, .ref to, .int (nI gs), .int (nI rc2_14), .int (nI pn)])), (ru, .inl (g.2.1 0, 4000, .inl (aI RU2_14))), (sa, .inl (g.2.1 0, 4001, .inl (aI SA2_14))), (ps, .inl (g.2.1 0, 30000, .inl (aI PL))), (to, .inl (g.2.1 2, 256, .inl (zI TO)))]) 0 9 d_Unroller_addRow_22 ci_Unroller fi_Unroller_38 rfl (by decide) rfl rfl (bI_nar _) (bI_fit _) (by simp) rfl ?_
      refine r_vret C E d_Unroller_addRow_25 (by first | decide | omega | (simp only [rmk]; omega)) (by first | decide | omega | (simp only [rmk]; omega)) ?_
      subst q3 q4 q5
      exact ⟨_, _, _, _, _, _, _, rfl, rfl, Or.inr (Or.inr ⟨by omega, q2, rfl⟩)⟩
  · skip
    refine r_vret C E d_Unroller_addRow_4 (by first | decide | omega | (simp only [rmk]; omega)) (by first | decide | omega | (simp only [rmk]; omega)) ?_
    exact ⟨_, _, _, _, _, _, _, rfl, rfl, Or.inl ⟨by omega, rfl, rfl, rfl, rfl, rfl, rfl, rfl⟩⟩
