/-- whether one of the first m places is p -/
def seatB (PL : Nat → Nat) (m p : Nat) : Bool := (List.range m).any fun j => PL j == p
theorem seat_s {PL : Nat → Nat} {m p : Nat} : seatB PL (m + 1) p = (seatB PL m p || (PL m == p)) := by simp [seatB, List.range_succ, List.any_append]
theorem seat_up {PL SE : Nat → Nat} {m : Nat} (h : ∀ p, p < 256 → SE p = if seatB PL m p = true then 1 else 0) : ∀ p, p < 256 → up SE (PL m) 1 p = if seatB PL (m + 1) p = true then 1 else 0 := fun p hp => by
  rw [seat_s]
  by_cases q : p = PL m
  · subst q
    rw [up_self, if_pos (by simp)]
  · rw [up_ne _ _ q, h p hp]
    have : (PL m == p) = false := by simpa using fun z => q z.symm
    rw [this, Bool.or_false]
theorem seat_0 {PL SE : Nat → Nat} {m p : Nat} (h : SE p = if seatB PL m p = true then 1 else 0) : (SE p = 0 → seatB PL m p = false) ∧ (SE p ≠ 0 → seatB PL m p = true) := by
  cases q : seatB PL m p with
  | true => rw [q, if_pos rfl] at h; exact ⟨fun z => by omega, fun _ => rfl⟩
  | false => exact ⟨fun _ => rfl, fun z => by rw [q, if_neg (by decide)] at h; exact absurd h z⟩

set_option maxRecDepth 100000 in
theorem fi_Mo_231 : FI R_Mo 231 R_Mo F_Mo 31 := Or.inl (gw (i := 931) rfl rfl)
set_option maxRecDepth 100000 in
theorem fi_Mo_84 : FI R_Mo 84 R_Mo F_Mo 42 := Or.inl (gw (i := 942) rfl rfl)
theorem d_Mo_free_0 : decode b_Mo_free 0 = .ok (.aload_n 0, 1) := by decide +kernel
theorem d_Mo_free_1 : decode b_Mo_free 1 = .ok (.iconst 0, 1) := by decide +kernel
theorem d_Mo_free_2 : decode b_Mo_free 2 = .ok (.putfield 87, 3) := by decide +kernel
theorem d_Mo_free_5 : decode b_Mo_free 5 = .ok (.aload_n 0, 1) := by decide +kernel
theorem d_Mo_free_6 : decode b_Mo_free 6 = .ok (.getfield 206, 3) := by decide +kernel
theorem d_Mo_free_9 : decode b_Mo_free 9 = .ok (.ifCond .ne 5, 3) := by decide +kernel
theorem d_Mo_free_12 : decode b_Mo_free 12 = .ok (.iconst (-1), 1) := by decide +kernel
theorem d_Mo_free_13 : decode b_Mo_free 13 = .ok (.ireturn, 1) := by decide +kernel
theorem d_Mo_free_14 : decode b_Mo_free 14 = .ok (.iconst 0, 1) := by decide +kernel
theorem d_Mo_free_15 : decode b_Mo_free 15 = .ok (.istore_n 2, 1) := by decide +kernel
theorem d_Mo_free_16 : decode b_Mo_free 16 = .ok (.iload_n 2, 1) := by decide +kernel
theorem d_Mo_free_17 : decode b_Mo_free 17 = .ok (.sipush 256, 3) := by decide +kernel
theorem d_Mo_free_20 : decode b_Mo_free 20 = .ok (.if_icmp .ge 16, 3) := by decide +kernel
theorem d_Mo_free_23 : decode b_Mo_free 23 = .ok (.aload_n 0, 1) := by decide +kernel
theorem d_Mo_free_24 : decode b_Mo_free 24 = .ok (.getfield 84, 3) := by decide +kernel
theorem d_Mo_free_27 : decode b_Mo_free 27 = .ok (.iload_n 2, 1) := by decide +kernel
theorem d_Mo_free_28 : decode b_Mo_free 28 = .ok (.iconst 0, 1) := by decide +kernel
theorem d_Mo_free_29 : decode b_Mo_free 29 = .ok (.iastore, 1) := by decide +kernel
theorem d_Mo_free_30 : decode b_Mo_free 30 = .ok (.iinc 2 1, 3) := by decide +kernel
theorem d_Mo_free_33 : decode b_Mo_free 33 = .ok (.goto (-17), 3) := by decide +kernel
theorem d_Mo_free_36 : decode b_Mo_free 36 = .ok (.iconst 0, 1) := by decide +kernel
theorem d_Mo_free_37 : decode b_Mo_free 37 = .ok (.istore_n 2, 1) := by decide +kernel
theorem d_Mo_free_38 : decode b_Mo_free 38 = .ok (.iload_n 2, 1) := by decide +kernel
theorem d_Mo_free_39 : decode b_Mo_free 39 = .ok (.aload_n 0, 1) := by decide +kernel
theorem d_Mo_free_40 : decode b_Mo_free 40 = .ok (.getfield 61, 3) := by decide +kernel
theorem d_Mo_free_43 : decode b_Mo_free 43 = .ok (.aload_n 0, 1) := by decide +kernel
theorem d_Mo_free_44 : decode b_Mo_free 44 = .ok (.getfield 260, 3) := by decide +kernel
theorem d_Mo_free_47 : decode b_Mo_free 47 = .ok (.iaload, 1) := by decide +kernel
theorem d_Mo_free_48 : decode b_Mo_free 48 = .ok (.if_icmp .ge 21, 3) := by decide +kernel
theorem d_Mo_free_51 : decode b_Mo_free 51 = .ok (.aload_n 0, 1) := by decide +kernel
theorem d_Mo_free_52 : decode b_Mo_free 52 = .ok (.getfield 84, 3) := by decide +kernel
theorem d_Mo_free_55 : decode b_Mo_free 55 = .ok (.aload_n 0, 1) := by decide +kernel
theorem d_Mo_free_56 : decode b_Mo_free 56 = .ok (.getfield 64, 3) := by decide +kernel
theorem d_Mo_free_59 : decode b_Mo_free 59 = .ok (.iload_n 2, 1) := by decide +kernel
theorem d_Mo_free_60 : decode b_Mo_free 60 = .ok (.iaload, 1) := by decide +kernel
theorem d_Mo_free_61 : decode b_Mo_free 61 = .ok (.iconst 1, 1) := by decide +kernel
theorem d_Mo_free_62 : decode b_Mo_free 62 = .ok (.iastore, 1) := by decide +kernel
theorem d_Mo_free_63 : decode b_Mo_free 63 = .ok (.iinc 2 1, 3) := by decide +kernel
theorem d_Mo_free_66 : decode b_Mo_free 66 = .ok (.goto (-28), 3) := by decide +kernel
theorem d_Mo_free_69 : decode b_Mo_free 69 = .ok (.iconst 0, 1) := by decide +kernel
theorem d_Mo_free_70 : decode b_Mo_free 70 = .ok (.istore_n 2, 1) := by decide +kernel
theorem d_Mo_free_71 : decode b_Mo_free 71 = .ok (.iconst 0, 1) := by decide +kernel
theorem d_Mo_free_72 : decode b_Mo_free 72 = .ok (.istore_n 3, 1) := by decide +kernel
theorem d_Mo_free_73 : decode b_Mo_free 73 = .ok (.iload_n 3, 1) := by decide +kernel
theorem d_Mo_free_74 : decode b_Mo_free 74 = .ok (.aload_n 0, 1) := by decide +kernel
theorem d_Mo_free_75 : decode b_Mo_free 75 = .ok (.getfield 218, 3) := by decide +kernel
theorem d_Mo_free_78 : decode b_Mo_free 78 = .ok (.aload_n 0, 1) := by decide +kernel
theorem d_Mo_free_79 : decode b_Mo_free 79 = .ok (.getfield 231, 3) := by decide +kernel
theorem d_Mo_free_82 : decode b_Mo_free 82 = .ok (.imul, 1) := by decide +kernel
theorem d_Mo_free_83 : decode b_Mo_free 83 = .ok (.if_icmp .ge 42, 3) := by decide +kernel
theorem d_Mo_free_86 : decode b_Mo_free 86 = .ok (.aload_n 0, 1) := by decide +kernel
theorem d_Mo_free_87 : decode b_Mo_free 87 = .ok (.getfield 84, 3) := by decide +kernel
theorem d_Mo_free_90 : decode b_Mo_free 90 = .ok (.iload_n 3, 1) := by decide +kernel
theorem d_Mo_free_91 : decode b_Mo_free 91 = .ok (.iaload, 1) := by decide +kernel
theorem d_Mo_free_92 : decode b_Mo_free 92 = .ok (.ifCond .ne 10, 3) := by decide +kernel
theorem d_Mo_free_95 : decode b_Mo_free 95 = .ok (.iload_n 2, 1) := by decide +kernel
theorem d_Mo_free_96 : decode b_Mo_free 96 = .ok (.iload_n 1, 1) := by decide +kernel
theorem d_Mo_free_97 : decode b_Mo_free 97 = .ok (.if_icmp .ne 5, 3) := by decide +kernel
theorem d_Mo_free_100 : decode b_Mo_free 100 = .ok (.iload_n 3, 1) := by decide +kernel
theorem d_Mo_free_101 : decode b_Mo_free 101 = .ok (.ireturn, 1) := by decide +kernel
theorem d_Mo_free_102 : decode b_Mo_free 102 = .ok (.iload_n 2, 1) := by decide +kernel
theorem d_Mo_free_103 : decode b_Mo_free 103 = .ok (.aload_n 0, 1) := by decide +kernel
theorem d_Mo_free_104 : decode b_Mo_free 104 = .ok (.getfield 84, 3) := by decide +kernel
theorem d_Mo_free_107 : decode b_Mo_free 107 = .ok (.iload_n 3, 1) := by decide +kernel
theorem d_Mo_free_108 : decode b_Mo_free 108 = .ok (.iaload, 1) := by decide +kernel
theorem d_Mo_free_109 : decode b_Mo_free 109 = .ok (.ifCond .ne 7, 3) := by decide +kernel
theorem d_Mo_free_112 : decode b_Mo_free 112 = .ok (.iconst 1, 1) := by decide +kernel
theorem d_Mo_free_113 : decode b_Mo_free 113 = .ok (.goto 4, 3) := by decide +kernel
theorem d_Mo_free_116 : decode b_Mo_free 116 = .ok (.iconst 0, 1) := by decide +kernel
theorem d_Mo_free_117 : decode b_Mo_free 117 = .ok (.iadd, 1) := by decide +kernel
theorem d_Mo_free_118 : decode b_Mo_free 118 = .ok (.istore_n 2, 1) := by decide +kernel
theorem d_Mo_free_119 : decode b_Mo_free 119 = .ok (.iinc 3 1, 3) := by decide +kernel
theorem d_Mo_free_122 : decode b_Mo_free 122 = .ok (.goto (-49), 3) := by decide +kernel
theorem d_Mo_free_125 : decode b_Mo_free 125 = .ok (.iconst (-1), 1) := by decide +kernel
theorem d_Mo_free_126 : decode b_Mo_free 126 = .ok (.ireturn, 1) := by decide +kernel
set_option maxHeartbeats 4000000 in
set_option maxRecDepth 100000 in
theorem lp_Mo_free_73 (g : GG) {m0 : Nat} {ad : Nat → Nat} {qth : Int32} {qsz : Int32} {qtk : Int32} {qde : Int32} {qru : Int32} {qat : Int32} {qen : Int32} {qto : Int32} {qbe : Int32} {qva : Int32} {qwr : Int32} {qop : Int32} {qma : Int32} {qir : Bool} {qiu : Bool} {rw_ : Nat} {uw : Nat} {uh : Nat} {pn : Nat} {z : Int32} {RB : Nat → Nat} {PL : Nat → Nat} {SE : Nat → Nat} (h1 : rw_ ≤ 4000) (hQ : qiu = true → pn ≤ 30000 ∧ RB rw_ = pn ∧ (∀ i, i < pn → PL i < 256) ∧ uw * uh ≤ 256) {x : X0} {A : Nat → Prop} {Q : State → Prop}  (C : CX x g A R_Mo b_Mo_free 4) (E : RX x g A Q (some .int) (fun (r0 : Option Value) (w0 : va_W) => ∃ SE2 : Nat → Nat, r0 = some (.int (oI (if qiu = true then freeK (seatB PL pn) (uw * uh) (inN z) else none))) ∧ w0 = [(m0, .inr (9, MO ad (nI 0) qsz (bI qir) qtk qde qru qat qen qto qbe qva qwr qop (bI qiu) (nI uw) (nI uh) (nI rw_) qma)), ((ad 34), .inl (g.2.1 0, 4001, .inl (aI RB))), ((ad 35), .inl (g.2.1 0, 30000, .inl (aI PL))), ((ad 42), .inl (g.2.1 0, 256, .inl (aI SE2)))]) (rmk 0 0 0 0).cells (rmk 0 0 0 0).slots) (hR : xR x = (rmk 0 0 0 0)) : ∀ (fuel : Nat) (c : Nat) (d : Nat) (SEc : Nat → Nat) (hqi : qiu = true) (hp : pn ≤ 30000) (hrb : RB rw_ = pn) (hpl : ∀ i, i < pn → PL i < 256) (hg : uw * uh ≤ 256) (hd : d ≤ uw * uh) (hcd : c ≤ d) (hc : c = (frees (seatB PL pn) d).length) (hz : ∀ j, inN z = some j → c ≤ j) (hS : ∀ p, p < 256 → SEc p = if seatB PL pn p = true then 1 else 0), uw * uh - d < fuel → J x g A Q 4 ([(m0, .inr (9, MO ad (nI 0) qsz (bI qir) qtk qde qru qat qen qto qbe qva qwr qop (bI qiu) (nI uw) (nI uh) (nI rw_) qma)), ((ad 34), .inl (g.2.1 0, 4001, .inl (aI RB))), ((ad 35), .inl (g.2.1 0, 30000, .inl (aI PL))), ((ad 42), .inl (g.2.1 0, 256, .inl (aI SEc)))]) [(0, .ref m0), (1, .int z), (2, .int (nI c)), (3, .int (nI d))] 73 [] 0 0 := by
  intro fuel
  induction fuel with
  | zero =>
    intro c d SEc hqi hp hrb hpl hg hd hcd hc hz hS hm
    exact absurd hm (Nat.not_lt_zero _)
  | succ fuel ih =>
    intro c d SEc hqi hp hrb hpl hg hd hcd hc hz hS hm
    refine r_iload_n C 3 d_Mo_free_73 rfl rfl ?_
    refine r_aload_n C 0 d_Mo_free_74 rfl rfl ?_
    refine r_get C 0 30 d_Mo_free_75 ci_Mo fi_Mo_218 rfl (by decide) rfl rfl ?_
    refine r_aload_n C 0 d_Mo_free_78 rfl rfl ?_
    refine r_get C 0 31 d_Mo_free_79 ci_Mo fi_Mo_231 rfl (by decide) rfl rfl ?_
    refine r_nmul C d_Mo_free_82 ?_
    refine r_ncmp_ge C 125 d_Mo_free_83 (by decide) (by omega) (by omega) (fun c_83 => ?_) (fun c_83 => ?_)
    · skip
      refine r_iconst C ((-1)) d_Mo_free_125 (by decide) ?_
      refine r_iret C E d_Mo_free_126 (by first | decide | omega | (simp only [rmk]; omega)) (by first | decide | omega | (simp only [rmk]; omega)) ?_
      exact ⟨_, by rw [if_pos hqi, freeK_end (by omega) hc hz]; rfl, rfl⟩
    · skip
      have hsd := hS d (by omega)
      have hsl : SEc d ≤ 1 := by rw [hsd]; split <;> decide
      refine r_aload_n C 0 d_Mo_free_86 rfl rfl ?_
      refine r_get C 0 42 d_Mo_free_87 ci_Mo fi_Mo_84 rfl (by decide) rfl rfl ?_
      refine r_iload_n C 3 d_Mo_free_90 rfl rfl ?_
      refine r_nald C 3 0 d_Mo_free_91 rfl rfl (by omega) (by decide) ?_
      refine r_nif_ne C 102 d_Mo_free_92 (by decide) (by omega) (fun c_92 => ?_) (fun c_92 => ?_)
      · skip
        refine r_iload_n C 2 d_Mo_free_102 rfl rfl ?_
        refine r_aload_n C 0 d_Mo_free_103 rfl rfl ?_
        refine r_get C 0 42 d_Mo_free_104 ci_Mo fi_Mo_84 rfl (by decide) rfl rfl ?_
        refine r_iload_n C 3 d_Mo_free_107 rfl rfl ?_
        refine r_nald C 3 0 d_Mo_free_108 rfl rfl (by omega) (by decide) ?_
        refine r_nif_ne C 116 d_Mo_free_109 (by decide) (by omega) (fun c_109 => ?_) (fun c_109 => ?_)
        · skip
          refine r_iconst C (nI 0) d_Mo_free_116 (by decide) ?_
          refine r_nadd C d_Mo_free_117 ?_
          refine r_istore_n C (lv' := [(2, .int (nI (c + 0))), (0, .ref m0), (1, .int z), (3, .int (nI d))]) d_Mo_free_118 rfl (by decide) rfl ?_
          refine r_iinc C 3 (nI (d + 1)) (lv' := [(3, .int (nI (d + 1))), (2, .int (nI (c + 0))), (0, .ref m0), (1, .int z)]) d_Mo_free_119 rfl (nI_inc 1 _) (by decide) rfl ?_
          refine r_goto C 73 d_Mo_free_122 (by decide) ?_
          refine r_lv (lv' := [(0, .ref m0), (1, .int z), (2, .int (nI (c + 0))), (3, .int (nI (d + 1)))]) [2, 3, 1, 0] rfl ?_
          exact ih (c + 0) (d + 1) SEc (hqi) (hp) (hrb) (hpl) (hg) (by first | assumption | omega | rfl) (by first | assumption | omega | rfl) (by rw [hc]; simp [frees_succ, (seat_0 (hS d (by omega))).2 c_109]) (fun j h => by have := hz j h; omega) (hS) (by omega)
        · exact absurd c_109 c_92
      · skip
        refine r_iload_n C 2 d_Mo_free_95 rfl rfl ?_
        refine r_iload_n C 1 d_Mo_free_96 rfl rfl ?_
        refine r_icmp_ne C 102 d_Mo_free_97 (by decide) (fun c_97 => ?_) (fun c_97 => ?_)
        · skip
          refine r_iload_n C 2 d_Mo_free_102 rfl rfl ?_
          refine r_aload_n C 0 d_Mo_free_103 rfl rfl ?_
          refine r_get C 0 42 d_Mo_free_104 ci_Mo fi_Mo_84 rfl (by decide) rfl rfl ?_
          refine r_iload_n C 3 d_Mo_free_107 rfl rfl ?_
          refine r_nald C 3 0 d_Mo_free_108 rfl rfl (by omega) (by decide) ?_
          refine r_nif_ne C 116 d_Mo_free_109 (by decide) (by omega) (fun c_109 => ?_) (fun c_109 => ?_)
          · exact absurd c_92 c_109
          · skip
            refine r_iconst C (nI 1) d_Mo_free_112 (by decide) ?_
            refine r_goto C 117 d_Mo_free_113 (by decide) ?_
            refine r_nadd C d_Mo_free_117 ?_
            refine r_istore_n C (lv' := [(2, .int (nI (c + 1))), (0, .ref m0), (1, .int z), (3, .int (nI d))]) d_Mo_free_118 rfl (by decide) rfl ?_
            refine r_iinc C 3 (nI (d + 1)) (lv' := [(3, .int (nI (d + 1))), (2, .int (nI (c + 1))), (0, .ref m0), (1, .int z)]) d_Mo_free_119 rfl (nI_inc 1 _) (by decide) rfl ?_
            refine r_goto C 73 d_Mo_free_122 (by decide) ?_
            refine r_lv (lv' := [(0, .ref m0), (1, .int z), (2, .int (nI (c + 1))), (3, .int (nI (d + 1)))]) [2, 3, 1, 0] rfl ?_
            exact ih (c + 1) (d + 1) SEc (hqi) (hp) (hrb) (hpl) (hg) (by first | assumption | omega | rfl) (by first | assumption | omega | rfl) (by rw [hc]; simp [frees_succ, (seat_0 (hS d (by omega))).1 (by first | exact c_109 | exact c_92)]) (fun j h => by have h1 := hz j h; have h2 : c ≠ j := fun e => c_97 (by rw [(inN_some h).2, e]); omega) (hS) (by omega)
        · skip
          refine r_iload_n C 3 d_Mo_free_100 rfl rfl ?_
          refine r_iret C E d_Mo_free_101 (by first | decide | omega | (simp only [rmk]; omega)) (by first | decide | omega | (simp only [rmk]; omega)) ?_
          exact ⟨_, by rw [if_pos hqi, freeK_at (by omega) hc ((seat_0 hsd).1 c_92) c_97 (by omega)]; rfl, rfl⟩
set_option maxHeartbeats 4000000 in
set_option maxRecDepth 100000 in
theorem lp_Mo_free_38 (g : GG) {m0 : Nat} {ad : Nat → Nat} {qth : Int32} {qsz : Int32} {qtk : Int32} {qde : Int32} {qru : Int32} {qat : Int32} {qen : Int32} {qto : Int32} {qbe : Int32} {qva : Int32} {qwr : Int32} {qop : Int32} {qma : Int32} {qir : Bool} {qiu : Bool} {rw_ : Nat} {uw : Nat} {uh : Nat} {pn : Nat} {z : Int32} {RB : Nat → Nat} {PL : Nat → Nat} {SE : Nat → Nat} (h1 : rw_ ≤ 4000) (hQ : qiu = true → pn ≤ 30000 ∧ RB rw_ = pn ∧ (∀ i, i < pn → PL i < 256) ∧ uw * uh ≤ 256) {x : X0} {A : Nat → Prop} {Q : State → Prop}  (C : CX x g A R_Mo b_Mo_free 4) (E : RX x g A Q (some .int) (fun (r0 : Option Value) (w0 : va_W) => ∃ SE2 : Nat → Nat, r0 = some (.int (oI (if qiu = true then freeK (seatB PL pn) (uw * uh) (inN z) else none))) ∧ w0 = [(m0, .inr (9, MO ad (nI 0) qsz (bI qir) qtk qde qru qat qen qto qbe qva qwr qop (bI qiu) (nI uw) (nI uh) (nI rw_) qma)), ((ad 34), .inl (g.2.1 0, 4001, .inl (aI RB))), ((ad 35), .inl (g.2.1 0, 30000, .inl (aI PL))), ((ad 42), .inl (g.2.1 0, 256, .inl (aI SE2)))]) (rmk 0 0 0 0).cells (rmk 0 0 0 0).slots) (hR : xR x = (rmk 0 0 0 0)) : ∀ (fuel : Nat) (c : Nat) (SEc : Nat → Nat) (hqi : qiu = true) (hp : pn ≤ 30000) (hrb : RB rw_ = pn) (hpl : ∀ i, i < pn → PL i < 256) (hg : uw * uh ≤ 256) (hc : c ≤ pn) (hS : ∀ p, p < 256 → SEc p = if seatB PL c p = true then 1 else 0), pn - c < fuel → J x g A Q 4 ([(m0, .inr (9, MO ad (nI 0) qsz (bI qir) qtk qde qru qat qen qto qbe qva qwr qop (bI qiu) (nI uw) (nI uh) (nI rw_) qma)), ((ad 34), .inl (g.2.1 0, 4001, .inl (aI RB))), ((ad 35), .inl (g.2.1 0, 30000, .inl (aI PL))), ((ad 42), .inl (g.2.1 0, 256, .inl (aI SEc)))]) [(0, .ref m0), (1, .int z), (2, .int (nI c))] 38 [] 0 0 := by
  intro fuel
  induction fuel with
  | zero =>
    intro c SEc hqi hp hrb hpl hg hc hS hm
    exact absurd hm (Nat.not_lt_zero _)
  | succ fuel ih =>
    intro c SEc hqi hp hrb hpl hg hc hS hm
    refine r_iload_n C 2 d_Mo_free_38 rfl rfl ?_
    refine r_aload_n C 0 d_Mo_free_39 rfl rfl ?_
    refine r_get C 0 34 d_Mo_free_40 ci_Mo fi_Mo_61 rfl (by decide) rfl rfl ?_
    refine r_aload_n C 0 d_Mo_free_43 rfl rfl ?_
    refine r_get C 0 32 d_Mo_free_44 ci_Mo fi_Mo_260 rfl (by decide) rfl rfl ?_
    refine r_nald C 1 0 d_Mo_free_47 rfl rfl (by omega) (by decide) ?_
    refine r_ncmp_ge C 69 d_Mo_free_48 (by decide) (by omega) (by omega) (fun c_48 => ?_) (fun c_48 => ?_)
    · skip
      refine r_iconst C (nI 0) d_Mo_free_69 (by decide) ?_
      refine r_istore_n C (lv' := [(2, .int (nI 0)), (0, .ref m0), (1, .int z)]) d_Mo_free_70 rfl (by decide) rfl ?_
      refine r_iconst C (nI 0) d_Mo_free_71 (by decide) ?_
      refine r_istore_n C (lv' := [(3, .int (nI 0)), (2, .int (nI 0)), (0, .ref m0), (1, .int z)]) d_Mo_free_72 rfl (by decide) rfl ?_
      refine r_lv (lv' := [(0, .ref m0), (1, .int z), (2, .int (nI 0)), (3, .int (nI 0))]) [2, 3, 1, 0] rfl ?_
      exact lp_Mo_free_73 g (m0 := m0) (ad := ad) (qth := qth) (qsz := qsz) (qtk := qtk) (qde := qde) (qru := qru) (qat := qat) (qen := qen) (qto := qto) (qbe := qbe) (qva := qva) (qwr := qwr) (qop := qop) (qma := qma) (qir := qir) (qiu := qiu) (rw_ := rw_) (uw := uw) (uh := uh) (pn := pn) (z := z) (RB := RB) (PL := PL) (SE := SE) h1 hQ  C E hR _ 0 0 SEc (hqi) (hp) (hrb) (hpl) (hg) (by first | assumption | omega | rfl) (by first | assumption | omega | rfl) (rfl) (fun _ _ => Nat.zero_le _) (by rw [show pn = c by omega]; exact hS) (Nat.lt_succ_self _)
    · skip
      have hpc := hpl c (by omega)
      refine r_aload_n C 0 d_Mo_free_51 rfl rfl ?_
      refine r_get C 0 42 d_Mo_free_52 ci_Mo fi_Mo_84 rfl (by decide) rfl rfl ?_
      refine r_aload_n C 0 d_Mo_free_55 rfl rfl ?_
      refine r_get C 0 35 d_Mo_free_56 ci_Mo fi_Mo_64 rfl (by decide) rfl rfl ?_
      refine r_iload_n C 2 d_Mo_free_59 rfl rfl ?_
      refine r_nald C 2 0 d_Mo_free_60 rfl rfl (by omega) (by decide) ?_
      refine r_iconst C (nI 1) d_Mo_free_61 (by decide) ?_
      refine r_nast C (ws' := [(m0, .inr (9, MO ad (nI 0) qsz (bI qir) qtk qde qru qat qen qto qbe qva qwr qop (bI qiu) (nI uw) (nI uh) (nI rw_) qma)), ((ad 34), .inl (g.2.1 0, 4001, .inl (aI RB))), ((ad 35), .inl (g.2.1 0, 30000, .inl (aI PL))), ((ad 42), .inl (g.2.1 0, 256, .inl (aI (up SEc (PL c) 1))))]) 3 0 d_Mo_free_62 rfl rfl (by omega) (by decide) rfl ?_
      refine r_iinc C 2 (nI (c + 1)) (lv' := [(2, .int (nI (c + 1))), (0, .ref m0), (1, .int z)]) d_Mo_free_63 rfl (nI_inc 1 _) (by decide) rfl ?_
      refine r_goto C 38 d_Mo_free_66 (by decide) ?_
      refine r_lv (lv' := [(0, .ref m0), (1, .int z), (2, .int (nI (c + 1)))]) [1, 2, 0] rfl ?_
      exact ih (c + 1) (up SEc (PL c) 1) (hqi) (hp) (hrb) (hpl) (hg) (by first | assumption | omega | rfl) (seat_up hS) (by omega)
set_option maxHeartbeats 4000000 in
set_option maxRecDepth 100000 in
theorem lp_Mo_free_16 (g : GG) {m0 : Nat} {ad : Nat → Nat} {qth : Int32} {qsz : Int32} {qtk : Int32} {qde : Int32} {qru : Int32} {qat : Int32} {qen : Int32} {qto : Int32} {qbe : Int32} {qva : Int32} {qwr : Int32} {qop : Int32} {qma : Int32} {qir : Bool} {qiu : Bool} {rw_ : Nat} {uw : Nat} {uh : Nat} {pn : Nat} {z : Int32} {RB : Nat → Nat} {PL : Nat → Nat} {SE : Nat → Nat} (h1 : rw_ ≤ 4000) (hQ : qiu = true → pn ≤ 30000 ∧ RB rw_ = pn ∧ (∀ i, i < pn → PL i < 256) ∧ uw * uh ≤ 256) {x : X0} {A : Nat → Prop} {Q : State → Prop}  (C : CX x g A R_Mo b_Mo_free 4) (E : RX x g A Q (some .int) (fun (r0 : Option Value) (w0 : va_W) => ∃ SE2 : Nat → Nat, r0 = some (.int (oI (if qiu = true then freeK (seatB PL pn) (uw * uh) (inN z) else none))) ∧ w0 = [(m0, .inr (9, MO ad (nI 0) qsz (bI qir) qtk qde qru qat qen qto qbe qva qwr qop (bI qiu) (nI uw) (nI uh) (nI rw_) qma)), ((ad 34), .inl (g.2.1 0, 4001, .inl (aI RB))), ((ad 35), .inl (g.2.1 0, 30000, .inl (aI PL))), ((ad 42), .inl (g.2.1 0, 256, .inl (aI SE2)))]) (rmk 0 0 0 0).cells (rmk 0 0 0 0).slots) (hR : xR x = (rmk 0 0 0 0)) : ∀ (fuel : Nat) (c : Nat) (SEc : Nat → Nat) (hqi : qiu = true) (hp : pn ≤ 30000) (hrb : RB rw_ = pn) (hpl : ∀ i, i < pn → PL i < 256) (hg : uw * uh ≤ 256) (hc : c ≤ 256) (hS : ∀ p, p < c → SEc p = 0), 256 - c < fuel → J x g A Q 4 ([(m0, .inr (9, MO ad (nI 0) qsz (bI qir) qtk qde qru qat qen qto qbe qva qwr qop (bI qiu) (nI uw) (nI uh) (nI rw_) qma)), ((ad 34), .inl (g.2.1 0, 4001, .inl (aI RB))), ((ad 35), .inl (g.2.1 0, 30000, .inl (aI PL))), ((ad 42), .inl (g.2.1 0, 256, .inl (aI SEc)))]) [(0, .ref m0), (1, .int z), (2, .int (nI c))] 16 [] 0 0 := by
  intro fuel
  induction fuel with
  | zero =>
    intro c SEc hqi hp hrb hpl hg hc hS hm
    exact absurd hm (Nat.not_lt_zero _)
  | succ fuel ih =>
    intro c SEc hqi hp hrb hpl hg hc hS hm
    refine r_iload_n C 2 d_Mo_free_16 rfl rfl ?_
    refine r_sipush C (nI 256) d_Mo_free_17 (by decide) ?_
    refine r_ncmp_ge C 36 d_Mo_free_20 (by decide) (by omega) (by omega) (fun c_20 => ?_) (fun c_20 => ?_)
    · skip
      refine r_iconst C (nI 0) d_Mo_free_36 (by decide) ?_
      refine r_istore_n C (lv' := [(2, .int (nI 0)), (0, .ref m0), (1, .int z)]) d_Mo_free_37 rfl (by decide) rfl ?_
      refine r_lv (lv' := [(0, .ref m0), (1, .int z), (2, .int (nI 0))]) [1, 2, 0] rfl ?_
      exact lp_Mo_free_38 g (m0 := m0) (ad := ad) (qth := qth) (qsz := qsz) (qtk := qtk) (qde := qde) (qru := qru) (qat := qat) (qen := qen) (qto := qto) (qbe := qbe) (qva := qva) (qwr := qwr) (qop := qop) (qma := qma) (qir := qir) (qiu := qiu) (rw_ := rw_) (uw := uw) (uh := uh) (pn := pn) (z := z) (RB := RB) (PL := PL) (SE := SE) h1 hQ  C E hR _ 0 SEc (hqi) (hp) (hrb) (hpl) (hg) (by first | assumption | omega | rfl) (fun p hp => by rw [hS p (by omega)]; rfl) (Nat.lt_succ_self _)
    · skip
      refine r_aload_n C 0 d_Mo_free_23 rfl rfl ?_
      refine r_get C 0 42 d_Mo_free_24 ci_Mo fi_Mo_84 rfl (by decide) rfl rfl ?_
      refine r_iload_n C 2 d_Mo_free_27 rfl rfl ?_
      refine r_iconst C (nI 0) d_Mo_free_28 (by decide) ?_
      refine r_nast C (ws' := [(m0, .inr (9, MO ad (nI 0) qsz (bI qir) qtk qde qru qat qen qto qbe qva qwr qop (bI qiu) (nI uw) (nI uh) (nI rw_) qma)), ((ad 34), .inl (g.2.1 0, 4001, .inl (aI RB))), ((ad 35), .inl (g.2.1 0, 30000, .inl (aI PL))), ((ad 42), .inl (g.2.1 0, 256, .inl (aI (up SEc c 0))))]) 3 0 d_Mo_free_29 rfl rfl (by omega) (by decide) rfl ?_
      refine r_iinc C 2 (nI (c + 1)) (lv' := [(2, .int (nI (c + 1))), (0, .ref m0), (1, .int z)]) d_Mo_free_30 rfl (nI_inc 1 _) (by decide) rfl ?_
      refine r_goto C 16 d_Mo_free_33 (by decide) ?_
      refine r_lv (lv' := [(0, .ref m0), (1, .int z), (2, .int (nI (c + 1)))]) [1, 2, 0] rfl ?_
      exact ih (c + 1) (up SEc c 0) (hqi) (hp) (hrb) (hpl) (hg) (by first | assumption | omega | rfl) (fun p h => by
                by_cases q : p = c
                · rw [q, up_self]
                · rw [up_ne _ _ q]; exact hS p (by omega)) (by omega)
set_option maxHeartbeats 4000000 in
set_option maxRecDepth 100000 in
theorem c_Mo_free (g : GG) (l : Launch) {m0 : Nat} {ad : Nat → Nat} {qth : Int32} {qsz : Int32} {qtk : Int32} {qde : Int32} {qru : Int32} {qat : Int32} {qen : Int32} {qto : Int32} {qbe : Int32} {qva : Int32} {qwr : Int32} {qop : Int32} {qma : Int32} {qir : Bool} {qiu : Bool} {rw_ : Nat} {uw : Nat} {uh : Nat} {pn : Nat} {z : Int32} {RB : Nat → Nat} {PL : Nat → Nat} {SE : Nat → Nat}  (h1 : rw_ ≤ 4000) (hQ : qiu = true → pn ≤ 30000 ∧ RB rw_ = pn ∧ (∀ i, i < pn → PL i < 256) ∧ uw * uh ≤ 256) : Cn g l y_Mo_free b_Mo_free 4 (some .int) (rmk 0 0 0 0) [.ref m0, .int z] ([(m0, .inr (9, MO ad qth qsz (bI qir) qtk qde qru qat qen qto qbe qva qwr qop (bI qiu) (nI uw) (nI uh) (nI rw_) qma)), ((ad 34), .inl (g.2.1 0, 4001, .inl (aI RB))), ((ad 35), .inl (g.2.1 0, 30000, .inl (aI PL))), ((ad 42), .inl (g.2.1 0, 256, .inl (aI SE)))]) (fun (r0 : Option Value) (w0 : va_W) => ∃ SE2 : Nat → Nat, r0 = some (.int (oI (if qiu = true then freeK (seatB PL pn) (uw * uh) (inN z) else none))) ∧ w0 = [(m0, .inr (9, MO ad (nI 0) qsz (bI qir) qtk qde qru qat qen qto qbe qva qwr qop (bI qiu) (nI uw) (nI uh) (nI rw_) qma)), ((ad 34), .inl (g.2.1 0, 4001, .inl (aI RB))), ((ad 35), .inl (g.2.1 0, 30000, .inl (aI PL))), ((ad 42), .inl (g.2.1 0, 256, .inl (aI SE2)))]) := by
  refine Cn.of R_Mo [(0, .ref m0), (1, .int z)] (by decide) rfl (Nat.le_of_ble_eq_true rfl) rfl ?_
  intro x A Q hR hXl hin C E
  subst hXl
  refine r_aload_n C 0 d_Mo_free_0 rfl rfl ?_
  refine r_iconst C (nI 0) d_Mo_free_1 (by decide) ?_
  refine r_put C (ws' := [(m0, .inr (9, MO ad (nI 0) qsz (bI qir) qtk qde qru qat qen qto qbe qva qwr qop (bI qiu) (nI uw) (nI uh) (nI rw_) qma)), ((ad 34), .inl (g.2.1 0, 4001, .inl (aI RB))), ((ad 35), .inl (g.2.1 0, 30000, .inl (aI PL))), ((ad 42), .inl (g.2.1 0, 256, .inl (aI SE)))]) 0 0 d_Mo_free_2 ci_Mo fi_Mo_87 rfl (by decide) rfl rfl (rfl) (rfl) (by simp) rfl ?_
  refine r_aload_n C 0 d_Mo_free_5 rfl rfl ?_
  refine r_get C 0 29 d_Mo_free_6 ci_Mo fi_Mo_206 rfl (by decide) rfl rfl ?_
  refine r_bif_ne C 14 d_Mo_free_9 (by decide) (fun c_9 => ?_) (fun c_9 => ?_)
  · skip
    have hqi := c_9
    obtain ⟨hp, hrb, hpl, hg⟩ := hQ c_9
    refine r_iconst C (nI 0) d_Mo_free_14 (by decide) ?_
    refine r_istore_n C (lv' := [(2, .int (nI 0)), (0, .ref m0), (1, .int z)]) d_Mo_free_15 rfl (by decide) rfl ?_
    refine r_lv (lv' := [(0, .ref m0), (1, .int z), (2, .int (nI 0))]) [1, 2, 0] rfl ?_
    exact lp_Mo_free_16 g (m0 := m0) (ad := ad) (qth := qth) (qsz := qsz) (qtk := qtk) (qde := qde) (qru := qru) (qat := qat) (qen := qen) (qto := qto) (qbe := qbe) (qva := qva) (qwr := qwr) (qop := qop) (qma := qma) (qir := qir) (qiu := qiu) (rw_ := rw_) (uw := uw) (uh := uh) (pn := pn) (z := z) (RB := RB) (PL := PL) (SE := SE) h1 hQ  C E hR _ 0 SE (hqi) (hp) (hrb) (hpl) (hg) (by first | assumption | omega | rfl) (fun p h => absurd h (Nat.not_lt_zero _)) (Nat.lt_succ_self _)
  · skip
    refine r_iconst C ((-1)) d_Mo_free_12 (by decide) ?_
    refine r_iret C E d_Mo_free_13 (by first | decide | omega | (simp only [rmk]; omega)) (by first | decide | omega | (simp only [rmk]; omega)) ?_
    exact ⟨_, by rw [if_neg (by rw [c_9]; decide)]; rfl, rfl⟩
