/-- the printed text of the noted tokens -/
def outM (T BE EN : Nat → Nat) : Nat → List Nat
  | 0 => []
  | m + 1 => prt T (BE m) (EN m) (outM T BE EN m)
theorem outM_congr {T BE EN B2 E2 : Nat → Nat} : ∀ m, (∀ j, j < m → B2 j = BE j ∧ E2 j = EN j) → outM T B2 E2 m = outM T BE EN m := by
  intro m
  induction m with
  | zero => intro _; rfl
  | succ m ih =>
    intro h
    rw [outM, outM, ih (fun j hj => h j (by omega)), (h m (by omega)).1, (h m (by omega)).2]
theorem outM_up {T BE EN : Nat → Nat} {tn s a : Nat} : outM T (up BE tn s) (up EN tn a) (tn + 1) = prt T s a (outM T BE EN tn) := by
  rw [outM, up_self, up_self, outM_congr tn fun j hj => ⟨up_ne _ _ (by omega), up_ne _ _ (by omega)⟩]
abbrev xOf (T : Nat → Nat) (k so e : Nat) (BE EN : Nat → Nat) (tn : Nat) : TO := (tokAt T k so e, outM T BE EN tn)
/-- where the reference stands in the text -/
def RI (T : Nat → Nat) (k so e tn : Nat) (qe : Int32) (wr : Option Nat) (BE EN : Nat → Nat) : Prop := so ≤ 3 ∧ e ≤ k ∧ (so = 1 ∨ so = 2 → qe = nI e) ∧ (so = 1 → ¬ (e < k ∧ isLet (T e) = true)) ∧ (so = 2 → ¬ (e < k ∧ isDig (T e) = true)) ∧ tn ≤ e ∧ (∀ z, wr = some z → z < 2 ^ 31) ∧ ∀ j, j < tn → BE j < EN j ∧ EN j ≤ e
section RIN
variable {T : Nat → Nat} {k so e tn tn2 t2 : Nat} {qe : Int32} {wr wr2 : Option Nat} {tk : Tok} {BE EN BE2 EN2 : Nat → Nat}
theorem ri_next (hk : k ≤ 2000) (h : RI T k so e tn qe wr BE EN) (hn : NextR T k so e wr tk t2 wr2) (ho : NoteR tk t2 wr2 tn BE EN tn2 BE2 EN2) : RI T k t2 tk.2.2.1 tn2 (nI tk.2.2.1) wr2 BE2 EN2 := by
  obtain ⟨h1, h2, h3, h4, h5, h6, h7, h8⟩ := h
  obtain ⟨n1, n2, n3, n4, n5, n6, n7, n8, n9, n10, -⟩ := hn
  refine ⟨n2, n9, fun _ => rfl, n5, n6, ?_, ?_, ?_⟩
  · rcases ho with ⟨o1, o2, rfl, -, -⟩ | ⟨-, rfl, -, -⟩
    · have := n10 o1
      omega
    · omega
  · by_cases q : tk.1 = 4
    · rw [n3 q]
      exact orb h7 (by omega)
    · rw [(n4 q).1]
      exact h7
  · rcases ho with ⟨o1, o2, rfl, rfl, rfl⟩ | ⟨-, rfl, rfl, rfl⟩
    · intro j hj
      by_cases z : j = tn
      · rw [z, up_self, up_self]
        exact ⟨n10 o1, Nat.le_refl _⟩
      · rw [up_ne _ _ z, up_ne _ _ z]
        have := h8 j (by omega)
        exact ⟨this.1, by omega⟩
    · intro j hj
      have := h8 j hj
      exact ⟨this.1, by omega⟩
theorem ri_ref {bg : Nat} (hb : bg < 2 ^ 31) (h : RI T k so e tn qe wr BE EN) : RI T k so e tn qe (wr.orElse fun _ => some bg) BE EN := ⟨h.1, h.2.1, h.2.2.1, h.2.2.2.1, h.2.2.2.2.1, h.2.2.2.2.2.1, orb h.2.2.2.2.2.2.1 hb, h.2.2.2.2.2.2.2⟩
theorem nx_tk (hn : NextR T k so e wr tk t2 wr2) : tk = tokAt T k so e := hn.1
theorem nx_ok (hT : ∀ j, T j < 256) (he : e ≤ k) (hn : NextR T k so e wr tk t2 wr2) : TokOK k tk := by rw [hn.1]; exact tokAt_ok hT he
theorem nx_val (hT : ∀ j, T j < 256) (he : e ≤ k) (hn : NextR T k so e wr tk t2 wr2) : vaM t2 tk < 2 ^ 31 := by
  unfold vaM
  split
  rotate_left
  · decide
  have h := (nx_ok hT he hn).2.2.2.2.2.1
  cases q : tk.2.2.2.1 with
  | none => decide
  | some z => exact h z q
theorem next_x (hn : NextR T k so e wr tk t2 wr2) (ho : NoteR tk t2 wr2 tn BE EN tn2 BE2 EN2) (hw : wr2 = none) (h0 : tk.1 ≠ 0) : tk.1 ≠ 4 ∧ xOf T k t2 tk.2.2.1 BE2 EN2 tn2 = tTake T k (xOf T k so e BE EN tn) := by
  obtain ⟨n1, n2, n3, n4, -⟩ := hn
  have h4 : tk.1 ≠ 4 := fun q => by
    have := n3 q
    rw [hw] at this
    cases wr <;> cases this
  have ht := (n4 h4).2
  refine ⟨h4, ?_⟩
  rcases ho with ⟨-, -, rfl, rfl, rfl⟩ | ⟨o1, -⟩
  · rw [xOf, xOf, outM_up, tTake, ht]
    simp only []
    rw [← n1]
  · rcases o1 with o1 | ⟨z, o1⟩
    · exact absurd (ht.symm.trans o1) h0
    · rw [hw] at o1; cases o1
theorem nx_4 (hn : NextR T k so e none tk t2 wr2) : (tk.1 = 4 ∧ wr2 = some tk.2.1) ∨ (tk.1 ≠ 4 ∧ wr2 = none ∧ t2 = tk.1) := by
  obtain ⟨n1, n2, n3, n4, -⟩ := hn
  by_cases q : tk.1 = 4
  · exact Or.inl ⟨q, n3 q⟩
  · exact Or.inr ⟨q, n4 q⟩
theorem nx_some {z : Nat} (hn : NextR T k so e (some z) tk t2 wr2) : wr2 = some z := by
  obtain ⟨n1, n2, n3, n4, -⟩ := hn
  by_cases q : tk.1 = 4
  · exact n3 q
  · exact (n4 q).1
/-- a number, or the first wrong place -/
def NumR (T : Nat → Nat) (k lo hi : Nat) (x : TO) (wr wr2 : Option Nat) (z : Nat) (x2 : TO) : Prop := match wr with
  | some w => wr2 = some w
  | none => (wr2 = none ∧ pNum T k lo hi x = (some z, x2)) ∨ (wr2 = some x.1.2.1 ∧ pNum T k lo hi x = (none, x))
theorem pNum_tk {T : Nat → Nat} {k lo hi : Nat} {x : TO} (h : ¬ (x.1.1 = 2 ∧ lo ≤ x.1.2.2.2.1.getD 0 ∧ x.1.2.2.2.1.getD 0 ≤ hi)) : pNum T k lo hi x = (none, x) := by
  unfold pNum
  cases q : x.1.2.2.2.1 with
  | none => rfl
  | some z => rw [q] at h; exact if_neg h
theorem num_ok {lo hi : Nat} (hT : ∀ j, T j < 256) (he : e ≤ k) (hn : NextR T k so e wr tk t2 wr2) (ho : NoteR tk t2 wr2 tn BE EN tn2 BE2 EN2) (h2 : t2 = 2) (hl : lo ≤ vaM t2 tk) (hh : vaM t2 tk ≤ hi) : NumR T k lo hi (xOf T k so e BE EN tn) wr wr2 (vaM t2 tk) (xOf T k t2 tk.2.2.1 BE2 EN2 tn2) := by
  have ev : vaM t2 tk = tk.2.2.2.1.getD 0 := if_pos h2
  rw [ev] at hl hh ⊢
  cases wr with
  | some w => exact nx_some hn
  | none =>
    have hX : (xOf T k so e BE EN tn).1 = tk := hn.1.symm
    rcases nx_4 hn with ⟨q1, q2⟩ | ⟨q1, q2, q3⟩
    · refine Or.inr ⟨by rw [q2, hX], pNum_tk fun q => ?_⟩
      have := q.1
      rw [hX, q1] at this
      cases this
    · have h0 : tk.1 ≠ 0 := by rw [← q3, h2]; decide
      have hx := (next_x hn ho q2 h0).2
      obtain ⟨z, hz⟩ := (nx_ok hT he hn).2.2.2.2.1 (by rw [← q3]; exact h2)
      rw [hz] at hl hh ⊢
      refine Or.inl ⟨q2, ?_⟩
      unfold pNum
      rw [hX, hz, hx]
      exact if_pos ⟨by rw [← q3]; exact h2, hl, hh⟩
theorem num_bad {lo hi : Nat} {x2 : TO} {z : Nat} (hn : NextR T k so e wr tk t2 wr2) (h : ¬ (t2 = 2 ∧ lo ≤ vaM t2 tk ∧ vaM t2 tk ≤ hi)) : NumR T k lo hi (xOf T k so e BE EN tn) wr (wr2.orElse fun _ => some tk.2.1) z x2 := by
  have h : ¬ (t2 = 2 ∧ lo ≤ tk.2.2.2.1.getD 0 ∧ tk.2.2.2.1.getD 0 ≤ hi) := fun q => h ⟨q.1, by rw [show vaM t2 tk = tk.2.2.2.1.getD 0 from if_pos q.1]; exact q.2⟩
  cases wr with
  | some w => rw [nx_some hn]; rfl
  | none =>
    have hX : (xOf T k so e BE EN tn).1 = tk := hn.1.symm
    refine Or.inr ⟨?_, pNum_tk fun q => ?_⟩
    · rw [hX]
      rcases nx_4 hn with ⟨q1, q2⟩ | ⟨q1, q2, q3⟩
      · rw [q2]; rfl
      · rw [q2]; rfl
    · rw [hX] at q
      rcases nx_4 hn with ⟨q1, q2⟩ | ⟨q1, q2, q3⟩
      · rw [q1] at q; exact absurd q.1 (by decide)
      · rw [← q3] at q; exact h q
/-- a comparison, or the first wrong place -/
def CmpR (T : Nat → Nat) (k : Nat) (x : TO) (wr2 cm : Option Nat) (x2 : TO) : Prop := cm = cmpN T x.1 ∧ ((wr2 = none ∧ (∃ c, cm = some c) ∧ x2 = tTake T k x) ∨ (wr2 = some x.1.2.1 ∧ cm = none))
/-- a sign that the reference sees is a sign -/
theorem nx_sg {c : Nat} (hn : NextR T k so e none tk t2 wr2) (hc : isSgn c = true) (h : isSg T t2 tk.2.1 c = true) : tk.1 = 3 ∧ wr2 = none ∧ t2 = tk.1 := by
  have h3 : t2 = 3 ∧ T tk.2.1 = c := by simpa [isSg] using h
  rcases nx_4 hn with ⟨q1, q2⟩ | ⟨q1, q2, q3⟩
  · exfalso
    exact absurd (hn.2.2.2.2.2.2.2.2.2.2.1 q1 h3.1) (by rw [h3.2, hc]; decide)
  · exact ⟨q3.symm.trans h3.1, q2, q3⟩
theorem nx_nsg {c : Nat} (hn : NextR T k so e none tk t2 wr2) (h : isSg T t2 tk.2.1 c = false) : isSg T tk.1 tk.2.1 c = false := by
  rcases nx_4 hn with ⟨q1, q2⟩ | ⟨q1, q2, q3⟩
  · rw [q1]; simp [isSg]
  · rw [← q3]; exact h
theorem cmp_ok {c : Nat} (hn : NextR T k so e none tk t2 wr2) (ho : NoteR tk t2 wr2 tn BE EN tn2 BE2 EN2) (h : tk.1 = 3 ∧ wr2 = none ∧ t2 = tk.1) (hc : cmpN T tk = some c) : CmpR T k (xOf T k so e BE EN tn) wr2 (some c) (xOf T k t2 tk.2.2.1 BE2 EN2 tn2) := by
  have hX : (xOf T k so e BE EN tn).1 = tk := hn.1.symm
  exact ⟨by rw [hX, hc], Or.inl ⟨h.2.1, ⟨c, rfl⟩, (next_x hn ho h.2.1 (by rw [h.1]; decide)).2⟩⟩
theorem cmp_bad {x2 : TO} (hn : NextR T k so e none tk t2 wr2) (hc : cmpN T tk = none) : CmpR T k (xOf T k so e BE EN tn) (wr2.orElse fun _ => some tk.2.1) none x2 := by
  have hX : (xOf T k so e BE EN tn).1 = tk := hn.1.symm
  refine ⟨by rw [hX, hc], Or.inr ⟨?_, rfl⟩⟩
  rw [hX]
  rcases nx_4 hn with ⟨q1, q2⟩ | ⟨q1, q2, q3⟩
  · rw [q2]; rfl
  · rw [q2]; rfl
end RIN

set_option maxRecDepth 100000 in
theorem lk_Mo_153 : LK R_Mo 153 y_Mo_next := Or.inl (gw (i := 1046) rfl rfl)
set_option maxRecDepth 100000 in
theorem lk_Mo_156 : LK R_Mo 156 y_Mo_isSigned := Or.inl (gw (i := 1063) rfl rfl)
set_option maxRecDepth 100000 in
theorem mw_Mo_isSigned : MW y_Mo_isSigned b_Mo_isSigned 2 (some .boolean) 1 := ⟨(gw (i := 1066) rfl rfl), (gw (i := 80) rfl rfl), by decide +kernel⟩
set_option maxRecDepth 100000 in
theorem mw_Mo_next : MW y_Mo_next b_Mo_next 3 none 0 := ⟨(gw (i := 1049) rfl rfl), (gw (i := 80) rfl rfl), by decide +kernel⟩
set_option maxRecDepth 100000 in
theorem vw_Mo_isSigned : VW y_Mo_isSigned := ⟨(gw (i := 1065) rfl rfl), (gw (i := 39) rfl rfl)⟩
set_option maxRecDepth 100000 in
theorem vw_Mo_next : VW y_Mo_next := ⟨(gw (i := 1048) rfl rfl), (gw (i := 37) rfl rfl)⟩
theorem d_Mo_number_0 : decode b_Mo_number 0 = .ok (.aload_n 0, 1) := by decide +kernel
theorem d_Mo_number_1 : decode b_Mo_number 1 = .ok (.invokevirtual 153, 3) := by decide +kernel
theorem d_Mo_number_4 : decode b_Mo_number 4 = .ok (.aload_n 0, 1) := by decide +kernel
theorem d_Mo_number_5 : decode b_Mo_number 5 = .ok (.getfield 100, 3) := by decide +kernel
theorem d_Mo_number_8 : decode b_Mo_number 8 = .ok (.iconst 2, 1) := by decide +kernel
theorem d_Mo_number_9 : decode b_Mo_number 9 = .ok (.if_icmp .ne 19, 3) := by decide +kernel
theorem d_Mo_number_12 : decode b_Mo_number 12 = .ok (.aload_n 0, 1) := by decide +kernel
theorem d_Mo_number_13 : decode b_Mo_number 13 = .ok (.getfield 123, 3) := by decide +kernel
theorem d_Mo_number_16 : decode b_Mo_number 16 = .ok (.iload_n 1, 1) := by decide +kernel
theorem d_Mo_number_17 : decode b_Mo_number 17 = .ok (.if_icmp .lt 11, 3) := by decide +kernel
theorem d_Mo_number_20 : decode b_Mo_number 20 = .ok (.aload_n 0, 1) := by decide +kernel
theorem d_Mo_number_21 : decode b_Mo_number 21 = .ok (.getfield 123, 3) := by decide +kernel
theorem d_Mo_number_24 : decode b_Mo_number 24 = .ok (.iload_n 2, 1) := by decide +kernel
theorem d_Mo_number_25 : decode b_Mo_number 25 = .ok (.if_icmp .le 11, 3) := by decide +kernel
theorem d_Mo_number_28 : decode b_Mo_number 28 = .ok (.aload_n 0, 1) := by decide +kernel
theorem d_Mo_number_29 : decode b_Mo_number 29 = .ok (.aload_n 0, 1) := by decide +kernel
theorem d_Mo_number_30 : decode b_Mo_number 30 = .ok (.getfield 106, 3) := by decide +kernel
theorem d_Mo_number_33 : decode b_Mo_number 33 = .ok (.invokevirtual 119, 3) := by decide +kernel
theorem d_Mo_number_36 : decode b_Mo_number 36 = .ok (.aload_n 0, 1) := by decide +kernel
theorem d_Mo_number_37 : decode b_Mo_number 37 = .ok (.getfield 123, 3) := by decide +kernel
theorem d_Mo_number_40 : decode b_Mo_number 40 = .ok (.ireturn, 1) := by decide +kernel
theorem d_Mo_comparison_0 : decode b_Mo_comparison 0 = .ok (.aload_n 0, 1) := by decide +kernel
theorem d_Mo_comparison_1 : decode b_Mo_comparison 1 = .ok (.invokevirtual 153, 3) := by decide +kernel
theorem d_Mo_comparison_4 : decode b_Mo_comparison 4 = .ok (.aload_n 0, 1) := by decide +kernel
theorem d_Mo_comparison_5 : decode b_Mo_comparison 5 = .ok (.bipush 61, 2) := by decide +kernel
theorem d_Mo_comparison_7 : decode b_Mo_comparison 7 = .ok (.invokevirtual 156, 3) := by decide +kernel
theorem d_Mo_comparison_10 : decode b_Mo_comparison 10 = .ok (.ifCond .eq 7, 3) := by decide +kernel
theorem d_Mo_comparison_13 : decode b_Mo_comparison 13 = .ok (.iconst 0, 1) := by decide +kernel
theorem d_Mo_comparison_14 : decode b_Mo_comparison 14 = .ok (.goto 30, 3) := by decide +kernel
theorem d_Mo_comparison_17 : decode b_Mo_comparison 17 = .ok (.aload_n 0, 1) := by decide +kernel
theorem d_Mo_comparison_18 : decode b_Mo_comparison 18 = .ok (.bipush 60, 2) := by decide +kernel
theorem d_Mo_comparison_20 : decode b_Mo_comparison 20 = .ok (.invokevirtual 156, 3) := by decide +kernel
theorem d_Mo_comparison_23 : decode b_Mo_comparison 23 = .ok (.ifCond .eq 7, 3) := by decide +kernel
theorem d_Mo_comparison_26 : decode b_Mo_comparison 26 = .ok (.iconst 1, 1) := by decide +kernel
theorem d_Mo_comparison_27 : decode b_Mo_comparison 27 = .ok (.goto 17, 3) := by decide +kernel
theorem d_Mo_comparison_30 : decode b_Mo_comparison 30 = .ok (.aload_n 0, 1) := by decide +kernel
theorem d_Mo_comparison_31 : decode b_Mo_comparison 31 = .ok (.bipush 62, 2) := by decide +kernel
theorem d_Mo_comparison_33 : decode b_Mo_comparison 33 = .ok (.invokevirtual 156, 3) := by decide +kernel
theorem d_Mo_comparison_36 : decode b_Mo_comparison 36 = .ok (.ifCond .eq 7, 3) := by decide +kernel
theorem d_Mo_comparison_39 : decode b_Mo_comparison 39 = .ok (.iconst 2, 1) := by decide +kernel
theorem d_Mo_comparison_40 : decode b_Mo_comparison 40 = .ok (.goto 4, 3) := by decide +kernel
theorem d_Mo_comparison_43 : decode b_Mo_comparison 43 = .ok (.iconst (-1), 1) := by decide +kernel
theorem d_Mo_comparison_44 : decode b_Mo_comparison 44 = .ok (.istore_n 1, 1) := by decide +kernel
theorem d_Mo_comparison_45 : decode b_Mo_comparison 45 = .ok (.iload_n 1, 1) := by decide +kernel
theorem d_Mo_comparison_46 : decode b_Mo_comparison 46 = .ok (.ifCond .ge 11, 3) := by decide +kernel
theorem d_Mo_comparison_49 : decode b_Mo_comparison 49 = .ok (.aload_n 0, 1) := by decide +kernel
theorem d_Mo_comparison_50 : decode b_Mo_comparison 50 = .ok (.aload_n 0, 1) := by decide +kernel
theorem d_Mo_comparison_51 : decode b_Mo_comparison 51 = .ok (.getfield 106, 3) := by decide +kernel
theorem d_Mo_comparison_54 : decode b_Mo_comparison 54 = .ok (.invokevirtual 119, 3) := by decide +kernel
theorem d_Mo_comparison_57 : decode b_Mo_comparison 57 = .ok (.iload_n 1, 1) := by decide +kernel
theorem d_Mo_comparison_58 : decode b_Mo_comparison 58 = .ok (.ireturn, 1) := by decide +kernel
set_option maxHeartbeats 4000000 in
set_option maxRecDepth 100000 in
theorem c_Mo_number (g : GG) (l : Launch) {m0 : Nat} {ad : Nat → Nat} {qth : Int32} {qde : Int32} {qru : Int32} {qbe : Int32} {qva : Int32} {qop : Int32} {qwi : Int32} {qhe : Int32} {qrw : Int32} {qma : Int32} {qir : Bool} {qiu : Bool} {k : Nat} {so : Nat} {e : Nat} {tn : Nat} {qe : Int32} {wr : Option Nat} {T : Nat → Nat} {BE : Nat → Nat} {EN : Nat → Nat} {lo : Nat} {hi : Nat}  (hk : k ≤ 2000) (hT : ∀ j, T j < 256) (hri : RI T k so e tn qe wr BE EN) (hlo : lo < 2 ^ 31) (hhi : hi < 2 ^ 31) : Cn g l y_Mo_number b_Mo_number 3 (some .int) (rmk 2 0 0 43) [.ref m0, .int (nI lo), .int (nI hi)] ([(m0, .inr (9, MO ad qth (nI k) (bI qir) (nI tn) qde qru (nI e) qe (nI so) qbe qva (oI wr) qop (bI qiu) qwi qhe qrw qma)), ((ad 2), .inl (g.2.1 0, 2000, .inl (aI T))), ((ad 6), .inl (g.2.1 0, 2000, .inl (aI BE))), ((ad 7), .inl (g.2.1 0, 2000, .inl (aI EN)))]) (fun (r0 : Option Value) (w0 : va_W) => ∃ so2 : Nat, ∃ e2 : Nat, ∃ tn2 : Nat, ∃ bg2 : Nat, ∃ z2 : Nat, ∃ wr2 : Option Nat, ∃ BE2 : Nat → Nat, ∃ EN2 : Nat → Nat, r0 = some (.int (nI z2)) ∧ w0 = [(m0, .inr (9, MO ad qth (nI k) (bI qir) (nI tn2) qde qru (nI e2) (nI e2) (nI so2) (nI bg2) (nI z2) (oI wr2) qop (bI qiu) qwi qhe qrw qma)), ((ad 2), .inl (g.2.1 0, 2000, .inl (aI T))), ((ad 6), .inl (g.2.1 0, 2000, .inl (aI BE2))), ((ad 7), .inl (g.2.1 0, 2000, .inl (aI EN2)))] ∧ (RI T k so2 e2 tn2 (nI e2) wr2 BE2 EN2) ∧ (NumR T k lo hi (xOf T k so e BE EN tn) wr wr2 z2 (xOf T k so2 e2 BE2 EN2 tn2))) := by
  refine Cn.of R_Mo [(0, .ref m0), (1, .int (nI lo)), (2, .int (nI hi))] (by decide) rfl (Nat.le_of_ble_eq_true rfl) rfl ?_
  intro x A Q hR hXl hin C E
  subst hXl
  refine r_aload_n C 0 d_Mo_number_0 rfl rfl ?_
  refine j_callV C (c_Mo_next g (xl x) (m0 := m0) (ad := ad) (qth := qth) (qde := qde) (qru := qru) (qbe := qbe) (qva := qva) (qop := qop) (qwi := qwi) (qhe := qhe) (qrw := qrw) (qma := qma) (qir := qir) (qiu := qiu) (k := k) (so := so) (e := e) (tn := tn) (qe := qe) (wr := wr) (T := T) (BE := BE) (EN := EN) (by first | assumption | omega | rfl) (by first | assumption | omega | rfl) (hri.1) (hri.2.1) (hri.2.2.1) (hri.2.2.2.1) (hri.2.2.2.2.1) (hri.2.2.2.2.2.1) (hri.2.2.2.2.2.2.1)) (Sp.of (wr := []) [0, 1, 2, 3] [] rfl rfl rfl rfl (by decide)) d_Mo_number_1 lk_Mo_153 mw_Mo_next vw_Mo_next (q0 := 0) rfl rfl (fit_of hR (by first | decide | (simp only [rmk]; omega)) (by first | decide | (simp only [rmk]; omega)) (by first | decide | (simp only [rmk]; omega)) (by first | decide | (simp only [rmk]; omega))) rfl (cat8 (Nat.le_of_ble_eq_true rfl)) (As := []) (rest := []) rfl (fun r_1 w_1 hp_1 => ?_)
  obtain ⟨tk_1, t2_1, tn2_1, wr2_1, BE2_1, EN2_1, rfl, rfl, hnx_1, hno_1⟩ := hp_1
  refine r_after (ws' := [(m0, .inr (9, MO ad qth (nI k) (bI qir) (nI tn2_1) qde qru (nI tk_1.2.2.1) (nI tk_1.2.2.1) (nI t2_1) (nI tk_1.2.1) (nI (vaM t2_1 tk_1)) (oI wr2_1) qop (bI qiu) qwi qhe qrw qma)), ((ad 2), .inl (g.2.1 0, 2000, .inl (aI T))), ((ad 6), .inl (g.2.1 0, 2000, .inl (aI BE2_1))), ((ad 7), .inl (g.2.1 0, 2000, .inl (aI EN2_1)))]) (st' := []) (n1 := 0) (n2 := 0) [0, 1, 2, 3] rfl rfl rfl rfl rfl ?_
  have hok1 := nx_ok hT hri.2.1 hnx_1
  have hv1 := nx_val hT hri.2.1 hnx_1
  have hri1 := ri_next hk hri hnx_1 hno_1
  have hb1 : tk_1.2.1 ≤ 2000 := Nat.le_trans (Nat.le_trans hok1.1 hok1.2.1) hk
  have ht1 := hri1.1
  refine r_aload_n C 0 d_Mo_number_4 rfl rfl ?_
  refine r_get C 0 21 d_Mo_number_5 ci_Mo fi_Mo_100 rfl (by decide) rfl rfl ?_
  refine r_iconst C (nI 2) d_Mo_number_8 (by decide) ?_
  refine r_ncmp_ne C 28 d_Mo_number_9 (by decide) (by omega) (by omega) (fun c_9 => ?_) (fun c_9 => ?_)
  · skip
    refine r_aload_n C 0 d_Mo_number_28 rfl rfl ?_
    refine r_aload_n C 0 d_Mo_number_29 rfl rfl ?_
    refine r_get C 0 22 d_Mo_number_30 ci_Mo fi_Mo_106 rfl (by decide) rfl rfl ?_
    refine j_callV C (c_Mo_refuse g (xl x) (m0 := m0) (ad := ad) (qth := qth) (qsz := nI k) (qtk := nI tn2_1) (qde := qde) (qru := qru) (qat := nI tk_1.2.2.1) (qen := nI tk_1.2.2.1) (qto := nI t2_1) (qbe := nI tk_1.2.1) (qva := nI (vaM t2_1 tk_1)) (qop := qop) (qwi := qwi) (qhe := qhe) (qrw := qrw) (qma := qma) (qir := qir) (qiu := qiu) (wr := wr2_1) (c := tk_1.2.1) (by omega) (hri1.2.2.2.2.2.2.1)) (Sp.of (wr := [((ad 2), .inl (g.2.1 0, 2000, .inl (aI T))), ((ad 6), .inl (g.2.1 0, 2000, .inl (aI BE2_1))), ((ad 7), .inl (g.2.1 0, 2000, .inl (aI EN2_1)))]) [0] [1, 2, 3] rfl rfl rfl rfl (by decide)) d_Mo_number_33 lk_Mo_119 mw_Mo_refuse vw_Mo_refuse (q0 := 0) rfl rfl (fit_of hR (by first | decide | (simp only [rmk]; omega)) (by first | decide | (simp only [rmk]; omega)) (by first | decide | (simp only [rmk]; omega)) (by first | decide | (simp only [rmk]; omega))) rfl (cat8 (Nat.le_of_ble_eq_true rfl)) (As := [.int (nI tk_1.2.1)]) (rest := []) rfl (fun r_33 w_33 hp_33 => ?_)
    obtain ⟨rfl, rfl⟩ := hp_33
    refine r_after (ws' := [(m0, .inr (9, MO ad qth (nI k) (bI qir) (nI tn2_1) qde qru (nI tk_1.2.2.1) (nI tk_1.2.2.1) (nI t2_1) (nI tk_1.2.1) (nI (vaM t2_1 tk_1)) (oI (wr2_1.orElse fun _ => some tk_1.2.1)) qop (bI qiu) qwi qhe qrw qma)), ((ad 2), .inl (g.2.1 0, 2000, .inl (aI T))), ((ad 6), .inl (g.2.1 0, 2000, .inl (aI BE2_1))), ((ad 7), .inl (g.2.1 0, 2000, .inl (aI EN2_1)))]) (st' := []) (n1 := 0) (n2 := 0) [3, 0, 1, 2] rfl rfl rfl rfl rfl ?_
    refine r_aload_n C 0 d_Mo_number_36 rfl rfl ?_
    refine r_get C 0 23 d_Mo_number_37 ci_Mo fi_Mo_123 rfl (by decide) rfl rfl ?_
    refine r_iret C E d_Mo_number_40 (by first | decide | omega | (simp only [rmk]; omega)) (by first | decide | omega | (simp only [rmk]; omega)) ?_
    exact ⟨_, _, _, _, _, _, _, _, rfl, rfl, ri_ref (by omega) hri1, num_bad hnx_1 (by omega)⟩
  · skip
    refine r_aload_n C 0 d_Mo_number_12 rfl rfl ?_
    refine r_get C 0 23 d_Mo_number_13 ci_Mo fi_Mo_123 rfl (by decide) rfl rfl ?_
    refine r_iload_n C 1 d_Mo_number_16 rfl rfl ?_
    refine r_ncmp_lt C 28 d_Mo_number_17 (by decide) (by omega) (by omega) (fun c_17 => ?_) (fun c_17 => ?_)
    · skip
      refine r_aload_n C 0 d_Mo_number_28 rfl rfl ?_
      refine r_aload_n C 0 d_Mo_number_29 rfl rfl ?_
      refine r_get C 0 22 d_Mo_number_30 ci_Mo fi_Mo_106 rfl (by decide) rfl rfl ?_
      refine j_callV C (c_Mo_refuse g (xl x) (m0 := m0) (ad := ad) (qth := qth) (qsz := nI k) (qtk := nI tn2_1) (qde := qde) (qru := qru) (qat := nI tk_1.2.2.1) (qen := nI tk_1.2.2.1) (qto := nI t2_1) (qbe := nI tk_1.2.1) (qva := nI (vaM t2_1 tk_1)) (qop := qop) (qwi := qwi) (qhe := qhe) (qrw := qrw) (qma := qma) (qir := qir) (qiu := qiu) (wr := wr2_1) (c := tk_1.2.1) (by omega) (hri1.2.2.2.2.2.2.1)) (Sp.of (wr := [((ad 2), .inl (g.2.1 0, 2000, .inl (aI T))), ((ad 6), .inl (g.2.1 0, 2000, .inl (aI BE2_1))), ((ad 7), .inl (g.2.1 0, 2000, .inl (aI EN2_1)))]) [0] [1, 2, 3] rfl rfl rfl rfl (by decide)) d_Mo_number_33 lk_Mo_119 mw_Mo_refuse vw_Mo_refuse (q0 := 0) rfl rfl (fit_of hR (by first | decide | (simp only [rmk]; omega)) (by first | decide | (simp only [rmk]; omega)) (by first | decide | (simp only [rmk]; omega)) (by first | decide | (simp only [rmk]; omega))) rfl (cat8 (Nat.le_of_ble_eq_true rfl)) (As := [.int (nI tk_1.2.1)]) (rest := []) rfl (fun r_33 w_33 hp_33 => ?_)
      obtain ⟨rfl, rfl⟩ := hp_33
      refine r_after (ws' := [(m0, .inr (9, MO ad qth (nI k) (bI qir) (nI tn2_1) qde qru (nI tk_1.2.2.1) (nI tk_1.2.2.1) (nI t2_1) (nI tk_1.2.1) (nI (vaM t2_1 tk_1)) (oI (wr2_1.orElse fun _ => some tk_1.2.1)) qop (bI qiu) qwi qhe qrw qma)), ((ad 2), .inl (g.2.1 0, 2000, .inl (aI T))), ((ad 6), .inl (g.2.1 0, 2000, .inl (aI BE2_1))), ((ad 7), .inl (g.2.1 0, 2000, .inl (aI EN2_1)))]) (st' := []) (n1 := 0) (n2 := 0) [3, 0, 1, 2] rfl rfl rfl rfl rfl ?_
      refine r_aload_n C 0 d_Mo_number_36 rfl rfl ?_
      refine r_get C 0 23 d_Mo_number_37 ci_Mo fi_Mo_123 rfl (by decide) rfl rfl ?_
      refine r_iret C E d_Mo_number_40 (by first | decide | omega | (simp only [rmk]; omega)) (by first | decide | omega | (simp only [rmk]; omega)) ?_
      exact ⟨_, _, _, _, _, _, _, _, rfl, rfl, ri_ref (by omega) hri1, num_bad hnx_1 (by omega)⟩
    · skip
      refine r_aload_n C 0 d_Mo_number_20 rfl rfl ?_
      refine r_get C 0 23 d_Mo_number_21 ci_Mo fi_Mo_123 rfl (by decide) rfl rfl ?_
      refine r_iload_n C 2 d_Mo_number_24 rfl rfl ?_
      refine r_ncmp_le C 36 d_Mo_number_25 (by decide) (by omega) (by omega) (fun c_25 => ?_) (fun c_25 => ?_)
      · skip
        refine r_aload_n C 0 d_Mo_number_36 rfl rfl ?_
        refine r_get C 0 23 d_Mo_number_37 ci_Mo fi_Mo_123 rfl (by decide) rfl rfl ?_
        refine r_iret C E d_Mo_number_40 (by first | decide | omega | (simp only [rmk]; omega)) (by first | decide | omega | (simp only [rmk]; omega)) ?_
        exact ⟨_, _, _, _, _, _, _, _, rfl, rfl, hri1, num_ok hT hri.2.1 hnx_1 hno_1 c_9 c_17 c_25⟩
      · skip
        refine r_aload_n C 0 d_Mo_number_28 rfl rfl ?_
        refine r_aload_n C 0 d_Mo_number_29 rfl rfl ?_
        refine r_get C 0 22 d_Mo_number_30 ci_Mo fi_Mo_106 rfl (by decide) rfl rfl ?_
        refine j_callV C (c_Mo_refuse g (xl x) (m0 := m0) (ad := ad) (qth := qth) (qsz := nI k) (qtk := nI tn2_1) (qde := qde) (qru := qru) (qat := nI tk_1.2.2.1) (qen := nI tk_1.2.2.1) (qto := nI t2_1) (qbe := nI tk_1.2.1) (qva := nI (vaM t2_1 tk_1)) (qop := qop) (qwi := qwi) (qhe := qhe) (qrw := qrw) (qma := qma) (qir := qir) (qiu := qiu) (wr := wr2_1) (c := tk_1.2.1) (by omega) (hri1.2.2.2.2.2.2.1)) (Sp.of (wr := [((ad 2), .inl (g.2.1 0, 2000, .inl (aI T))), ((ad 6), .inl (g.2.1 0, 2000, .inl (aI BE2_1))), ((ad 7), .inl (g.2.1 0, 2000, .inl (aI EN2_1)))]) [0] [1, 2, 3] rfl rfl rfl rfl (by decide)) d_Mo_number_33 lk_Mo_119 mw_Mo_refuse vw_Mo_refuse (q0 := 0) rfl rfl (fit_of hR (by first | decide | (simp only [rmk]; omega)) (by first | decide | (simp only [rmk]; omega)) (by first | decide | (simp only [rmk]; omega)) (by first | decide | (simp only [rmk]; omega))) rfl (cat8 (Nat.le_of_ble_eq_true rfl)) (As := [.int (nI tk_1.2.1)]) (rest := []) rfl (fun r_33 w_33 hp_33 => ?_)
        obtain ⟨rfl, rfl⟩ := hp_33
        refine r_after (ws' := [(m0, .inr (9, MO ad qth (nI k) (bI qir) (nI tn2_1) qde qru (nI tk_1.2.2.1) (nI tk_1.2.2.1) (nI t2_1) (nI tk_1.2.1) (nI (vaM t2_1 tk_1)) (oI (wr2_1.orElse fun _ => some tk_1.2.1)) qop (bI qiu) qwi qhe qrw qma)), ((ad 2), .inl (g.2.1 0, 2000, .inl (aI T))), ((ad 6), .inl (g.2.1 0, 2000, .inl (aI BE2_1))), ((ad 7), .inl (g.2.1 0, 2000, .inl (aI EN2_1)))]) (st' := []) (n1 := 0) (n2 := 0) [3, 0, 1, 2] rfl rfl rfl rfl rfl ?_
        refine r_aload_n C 0 d_Mo_number_36 rfl rfl ?_
        refine r_get C 0 23 d_Mo_number_37 ci_Mo fi_Mo_123 rfl (by decide) rfl rfl ?_
        refine r_iret C E d_Mo_number_40 (by first | decide | omega | (simp only [rmk]; omega)) (by first | decide | omega | (simp only [rmk]; omega)) ?_
        exact ⟨_, _, _, _, _, _, _, _, rfl, rfl, ri_ref (by omega) hri1, num_bad hnx_1 (by omega)⟩

set_option maxHeartbeats 4000000 in
set_option maxRecDepth 100000 in
theorem c_Mo_comparison (g : GG) (l : Launch) {m0 : Nat} {ad : Nat → Nat} {qth : Int32} {qde : Int32} {qru : Int32} {qbe : Int32} {qva : Int32} {qop : Int32} {qwi : Int32} {qhe : Int32} {qrw : Int32} {qma : Int32} {qir : Bool} {qiu : Bool} {k : Nat} {so : Nat} {e : Nat} {tn : Nat} {qe : Int32} {wr : Option Nat} {T : Nat → Nat} {BE : Nat → Nat} {EN : Nat → Nat}  (hk : k ≤ 2000) (hT : ∀ j, T j < 256) (hri : RI T k so e tn qe wr BE EN) (hw0 : wr = none) : Cn g l y_Mo_comparison b_Mo_comparison 2 (some .int) (rmk 2 0 0 43) [.ref m0] ([(m0, .inr (9, MO ad qth (nI k) (bI qir) (nI tn) qde qru (nI e) qe (nI so) qbe qva (oI wr) qop (bI qiu) qwi qhe qrw qma)), ((ad 2), .inl (g.2.1 0, 2000, .inl (aI T))), ((ad 6), .inl (g.2.1 0, 2000, .inl (aI BE))), ((ad 7), .inl (g.2.1 0, 2000, .inl (aI EN)))]) (fun (r0 : Option Value) (w0 : va_W) => ∃ so2 : Nat, ∃ e2 : Nat, ∃ tn2 : Nat, ∃ bg2 : Nat, ∃ z2 : Nat, ∃ wr2 : Option Nat, ∃ BE2 : Nat → Nat, ∃ EN2 : Nat → Nat, ∃ cm : Option Nat, r0 = some (.int (oI cm)) ∧ w0 = [(m0, .inr (9, MO ad qth (nI k) (bI qir) (nI tn2) qde qru (nI e2) (nI e2) (nI so2) (nI bg2) (nI z2) (oI wr2) qop (bI qiu) qwi qhe qrw qma)), ((ad 2), .inl (g.2.1 0, 2000, .inl (aI T))), ((ad 6), .inl (g.2.1 0, 2000, .inl (aI BE2))), ((ad 7), .inl (g.2.1 0, 2000, .inl (aI EN2)))] ∧ (RI T k so2 e2 tn2 (nI e2) wr2 BE2 EN2) ∧ (CmpR T k (xOf T k so e BE EN tn) wr2 cm (xOf T k so2 e2 BE2 EN2 tn2)) ∧ (∀ z, cm = some z → z < 3)) := by
  refine Cn.of R_Mo [(0, .ref m0)] (by decide) rfl (Nat.le_of_ble_eq_true rfl) rfl ?_
  intro x A Q hR hXl hin C E
  subst hXl
  refine r_aload_n C 0 d_Mo_comparison_0 rfl rfl ?_
  refine j_callV C (c_Mo_next g (xl x) (m0 := m0) (ad := ad) (qth := qth) (qde := qde) (qru := qru) (qbe := qbe) (qva := qva) (qop := qop) (qwi := qwi) (qhe := qhe) (qrw := qrw) (qma := qma) (qir := qir) (qiu := qiu) (k := k) (so := so) (e := e) (tn := tn) (qe := qe) (wr := wr) (T := T) (BE := BE) (EN := EN) (by first | assumption | omega | rfl) (by first | assumption | omega | rfl) (hri.1) (hri.2.1) (hri.2.2.1) (hri.2.2.2.1) (hri.2.2.2.2.1) (hri.2.2.2.2.2.1) (hri.2.2.2.2.2.2.1)) (Sp.of (wr := []) [0, 1, 2, 3] [] rfl rfl rfl rfl (by decide)) d_Mo_comparison_1 lk_Mo_153 mw_Mo_next vw_Mo_next (q0 := 0) rfl rfl (fit_of hR (by first | decide | (simp only [rmk]; omega)) (by first | decide | (simp only [rmk]; omega)) (by first | decide | (simp only [rmk]; omega)) (by first | decide | (simp only [rmk]; omega))) rfl (cat8 (Nat.le_of_ble_eq_true rfl)) (As := []) (rest := []) rfl (fun r_1 w_1 hp_1 => ?_)
  obtain ⟨tk_1, t2_1, tn2_1, wr2_1, BE2_1, EN2_1, rfl, rfl, hnx_1, hno_1⟩ := hp_1
  refine r_after (ws' := [(m0, .inr (9, MO ad qth (nI k) (bI qir) (nI tn2_1) qde qru (nI tk_1.2.2.1) (nI tk_1.2.2.1) (nI t2_1) (nI tk_1.2.1) (nI (vaM t2_1 tk_1)) (oI wr2_1) qop (bI qiu) qwi qhe qrw qma)), ((ad 2), .inl (g.2.1 0, 2000, .inl (aI T))), ((ad 6), .inl (g.2.1 0, 2000, .inl (aI BE2_1))), ((ad 7), .inl (g.2.1 0, 2000, .inl (aI EN2_1)))]) (st' := []) (n1 := 0) (n2 := 0) [0, 1, 2, 3] rfl rfl rfl rfl rfl ?_
  have hok1 := nx_ok hT hri.2.1 hnx_1
  have hv1 := nx_val hT hri.2.1 hnx_1
  have hri1 := ri_next hk hri hnx_1 hno_1
  have hb1 : tk_1.2.1 ≤ 2000 := Nat.le_trans (Nat.le_trans hok1.1 hok1.2.1) hk
  have ht1 := hri1.1
  subst hw0
  have h31 : t2_1 = 3 → tk_1.2.1 < 2000 := fun q => Nat.lt_of_lt_of_le (hnx_1.2.2.2.2.2.2.2.2.2.1 (by rw [q]; decide)) (Nat.le_trans hok1.2.1 hk)
  refine r_aload_n C 0 d_Mo_comparison_4 rfl rfl ?_
  refine r_bipush C (nI 61) d_Mo_comparison_5 (by decide) ?_
  refine j_callV C (c_Mo_isSigned g (xl x) (m0 := m0) (ad := ad) (qth := qth) (qsz := nI k) (qtk := nI tn2_1) (qde := qde) (qru := qru) (qat := nI tk_1.2.2.1) (qen := nI tk_1.2.2.1) (qva := nI (vaM t2_1 tk_1)) (qwr := oI wr2_1) (qop := qop) (qwi := qwi) (qhe := qhe) (qrw := qrw) (qma := qma) (qir := qir) (qiu := qiu) (so := t2_1) (sta := tk_1.2.1) (c := 61) (T := T) (by first | assumption | omega | rfl) (by omega) (h31) (by first | assumption | omega | rfl)) (Sp.of (wr := [((ad 6), .inl (g.2.1 0, 2000, .inl (aI BE2_1))), ((ad 7), .inl (g.2.1 0, 2000, .inl (aI EN2_1)))]) [0, 1] [2, 3] rfl rfl rfl rfl (by decide)) d_Mo_comparison_7 lk_Mo_156 mw_Mo_isSigned vw_Mo_isSigned (q0 := 0) rfl rfl (fit_of hR (by first | decide | (simp only [rmk]; omega)) (by first | decide | (simp only [rmk]; omega)) (by first | decide | (simp only [rmk]; omega)) (by first | decide | (simp only [rmk]; omega))) rfl (cat8 (Nat.le_of_ble_eq_true rfl)) (As := [.int (nI 61)]) (rest := []) rfl (fun r_7 w_7 hp_7 => ?_)
  obtain ⟨rfl, rfl⟩ := hp_7
  refine r_after (ws' := [(m0, .inr (9, MO ad qth (nI k) (bI qir) (nI tn2_1) qde qru (nI tk_1.2.2.1) (nI tk_1.2.2.1) (nI t2_1) (nI tk_1.2.1) (nI (vaM t2_1 tk_1)) (oI wr2_1) qop (bI qiu) qwi qhe qrw qma)), ((ad 2), .inl (g.2.1 0, 2000, .inl (aI T))), ((ad 6), .inl (g.2.1 0, 2000, .inl (aI BE2_1))), ((ad 7), .inl (g.2.1 0, 2000, .inl (aI EN2_1)))]) (st' := [.int (bI (isSg T t2_1 tk_1.2.1 61))]) (n1 := 0) (n2 := 0) [2, 3, 0, 1] rfl rfl rfl rfl rfl ?_
  refine r_bif_eq C 17 d_Mo_comparison_10 (by decide) (fun c_10 => ?_) (fun c_10 => ?_)
  · skip
    refine r_aload_n C 0 d_Mo_comparison_17 rfl rfl ?_
    refine r_bipush C (nI 60) d_Mo_comparison_18 (by decide) ?_
    refine j_callV C (c_Mo_isSigned g (xl x) (m0 := m0) (ad := ad) (qth := qth) (qsz := nI k) (qtk := nI tn2_1) (qde := qde) (qru := qru) (qat := nI tk_1.2.2.1) (qen := nI tk_1.2.2.1) (qva := nI (vaM t2_1 tk_1)) (qwr := oI wr2_1) (qop := qop) (qwi := qwi) (qhe := qhe) (qrw := qrw) (qma := qma) (qir := qir) (qiu := qiu) (so := t2_1) (sta := tk_1.2.1) (c := 60) (T := T) (by first | assumption | omega | rfl) (by omega) (h31) (by first | assumption | omega | rfl)) (Sp.of (wr := [((ad 6), .inl (g.2.1 0, 2000, .inl (aI BE2_1))), ((ad 7), .inl (g.2.1 0, 2000, .inl (aI EN2_1)))]) [0, 1] [2, 3] rfl rfl rfl rfl (by decide)) d_Mo_comparison_20 lk_Mo_156 mw_Mo_isSigned vw_Mo_isSigned (q0 := 0) rfl rfl (fit_of hR (by first | decide | (simp only [rmk]; omega)) (by first | decide | (simp only [rmk]; omega)) (by first | decide | (simp only [rmk]; omega)) (by first | decide | (simp only [rmk]; omega))) rfl (cat8 (Nat.le_of_ble_eq_true rfl)) (As := [.int (nI 60)]) (rest := []) rfl (fun r_20 w_20 hp_20 => ?_)
    obtain ⟨rfl, rfl⟩ := hp_20
    refine r_after (ws' := [(m0, .inr (9, MO ad qth (nI k) (bI qir) (nI tn2_1) qde qru (nI tk_1.2.2.1) (nI tk_1.2.2.1) (nI t2_1) (nI tk_1.2.1) (nI (vaM t2_1 tk_1)) (oI wr2_1) qop (bI qiu) qwi qhe qrw qma)), ((ad 2), .inl (g.2.1 0, 2000, .inl (aI T))), ((ad 6), .inl (g.2.1 0, 2000, .inl (aI BE2_1))), ((ad 7), .inl (g.2.1 0, 2000, .inl (aI EN2_1)))]) (st' := [.int (bI (isSg T t2_1 tk_1.2.1 60))]) (n1 := 0) (n2 := 0) [2, 3, 0, 1] rfl rfl rfl rfl rfl ?_
    refine r_bif_eq C 30 d_Mo_comparison_23 (by decide) (fun c_23 => ?_) (fun c_23 => ?_)
    · skip
      refine r_aload_n C 0 d_Mo_comparison_30 rfl rfl ?_
      refine r_bipush C (nI 62) d_Mo_comparison_31 (by decide) ?_
      refine j_callV C (c_Mo_isSigned g (xl x) (m0 := m0) (ad := ad) (qth := qth) (qsz := nI k) (qtk := nI tn2_1) (qde := qde) (qru := qru) (qat := nI tk_1.2.2.1) (qen := nI tk_1.2.2.1) (qva := nI (vaM t2_1 tk_1)) (qwr := oI wr2_1) (qop := qop) (qwi := qwi) (qhe := qhe) (qrw := qrw) (qma := qma) (qir := qir) (qiu := qiu) (so := t2_1) (sta := tk_1.2.1) (c := 62) (T := T) (by first | assumption | omega | rfl) (by omega) (h31) (by first | assumption | omega | rfl)) (Sp.of (wr := [((ad 6), .inl (g.2.1 0, 2000, .inl (aI BE2_1))), ((ad 7), .inl (g.2.1 0, 2000, .inl (aI EN2_1)))]) [0, 1] [2, 3] rfl rfl rfl rfl (by decide)) d_Mo_comparison_33 lk_Mo_156 mw_Mo_isSigned vw_Mo_isSigned (q0 := 0) rfl rfl (fit_of hR (by first | decide | (simp only [rmk]; omega)) (by first | decide | (simp only [rmk]; omega)) (by first | decide | (simp only [rmk]; omega)) (by first | decide | (simp only [rmk]; omega))) rfl (cat8 (Nat.le_of_ble_eq_true rfl)) (As := [.int (nI 62)]) (rest := []) rfl (fun r_33 w_33 hp_33 => ?_)
      obtain ⟨rfl, rfl⟩ := hp_33
      refine r_after (ws' := [(m0, .inr (9, MO ad qth (nI k) (bI qir) (nI tn2_1) qde qru (nI tk_1.2.2.1) (nI tk_1.2.2.1) (nI t2_1) (nI tk_1.2.1) (nI (vaM t2_1 tk_1)) (oI wr2_1) qop (bI qiu) qwi qhe qrw qma)), ((ad 2), .inl (g.2.1 0, 2000, .inl (aI T))), ((ad 6), .inl (g.2.1 0, 2000, .inl (aI BE2_1))), ((ad 7), .inl (g.2.1 0, 2000, .inl (aI EN2_1)))]) (st' := [.int (bI (isSg T t2_1 tk_1.2.1 62))]) (n1 := 0) (n2 := 0) [2, 3, 0, 1] rfl rfl rfl rfl rfl ?_
      refine r_bif_eq C 43 d_Mo_comparison_36 (by decide) (fun c_36 => ?_) (fun c_36 => ?_)
      · skip
        refine r_iconst C ((-1)) d_Mo_comparison_43 (by decide) ?_
        refine r_istore_n C (lv' := [(1, .int (-1)), (0, .ref m0)]) d_Mo_comparison_44 rfl (by decide) rfl ?_
        refine r_iload_n C 0 d_Mo_comparison_45 rfl rfl ?_
        refine r_if_ge C 57 d_Mo_comparison_46 (by decide) (fun c_46 => ?_) (fun c_46 => ?_)
        · exact absurd c_46 (by decide)
        · skip
          refine r_aload_n C 1 d_Mo_comparison_49 rfl rfl ?_
          refine r_aload_n C 1 d_Mo_comparison_50 rfl rfl ?_
          refine r_get C 0 22 d_Mo_comparison_51 ci_Mo fi_Mo_106 rfl (by decide) rfl rfl ?_
          refine j_callV C (c_Mo_refuse g (xl x) (m0 := m0) (ad := ad) (qth := qth) (qsz := nI k) (qtk := nI tn2_1) (qde := qde) (qru := qru) (qat := nI tk_1.2.2.1) (qen := nI tk_1.2.2.1) (qto := nI t2_1) (qbe := nI tk_1.2.1) (qva := nI (vaM t2_1 tk_1)) (qop := qop) (qwi := qwi) (qhe := qhe) (qrw := qrw) (qma := qma) (qir := qir) (qiu := qiu) (wr := wr2_1) (c := tk_1.2.1) (by omega) (hri1.2.2.2.2.2.2.1)) (Sp.of (wr := [((ad 2), .inl (g.2.1 0, 2000, .inl (aI T))), ((ad 6), .inl (g.2.1 0, 2000, .inl (aI BE2_1))), ((ad 7), .inl (g.2.1 0, 2000, .inl (aI EN2_1)))]) [0] [1, 2, 3] rfl rfl rfl rfl (by decide)) d_Mo_comparison_54 lk_Mo_119 mw_Mo_refuse vw_Mo_refuse (q0 := 0) rfl rfl (fit_of hR (by first | decide | (simp only [rmk]; omega)) (by first | decide | (simp only [rmk]; omega)) (by first | decide | (simp only [rmk]; omega)) (by first | decide | (simp only [rmk]; omega))) rfl (cat8 (Nat.le_of_ble_eq_true rfl)) (As := [.int (nI tk_1.2.1)]) (rest := []) rfl (fun r_54 w_54 hp_54 => ?_)
          obtain ⟨rfl, rfl⟩ := hp_54
          refine r_after (ws' := [(m0, .inr (9, MO ad qth (nI k) (bI qir) (nI tn2_1) qde qru (nI tk_1.2.2.1) (nI tk_1.2.2.1) (nI t2_1) (nI tk_1.2.1) (nI (vaM t2_1 tk_1)) (oI (wr2_1.orElse fun _ => some tk_1.2.1)) qop (bI qiu) qwi qhe qrw qma)), ((ad 2), .inl (g.2.1 0, 2000, .inl (aI T))), ((ad 6), .inl (g.2.1 0, 2000, .inl (aI BE2_1))), ((ad 7), .inl (g.2.1 0, 2000, .inl (aI EN2_1)))]) (st' := []) (n1 := 0) (n2 := 0) [3, 0, 1, 2] rfl rfl rfl rfl rfl ?_
          refine r_iload_n C 0 d_Mo_comparison_57 rfl rfl ?_
          refine r_iret C E d_Mo_comparison_58 (by first | decide | omega | (simp only [rmk]; omega)) (by first | decide | omega | (simp only [rmk]; omega)) ?_
          exact ⟨_, _, _, _, _, _, _, _, none, rfl, rfl, ri_ref (by omega) hri1, cmp_bad hnx_1 (cmpN_n (nx_nsg hnx_1 c_10) (nx_nsg hnx_1 c_23) (nx_nsg hnx_1 c_36)), fun z h => by cases h⟩
      · skip
        refine r_iconst C (nI 2) d_Mo_comparison_39 (by decide) ?_
        refine r_goto C 44 d_Mo_comparison_40 (by decide) ?_
        refine r_istore_n C (lv' := [(1, .int (nI 2)), (0, .ref m0)]) d_Mo_comparison_44 rfl (by decide) rfl ?_
        refine r_iload_n C 0 d_Mo_comparison_45 rfl rfl ?_
        refine r_nif_ge C 57 d_Mo_comparison_46 (by decide) (by omega) (fun c_46 => ?_) (fun c_46 => ?_)
        rotate_left
        · exact absurd c_46 (by decide)
        refine r_iload_n C 0 d_Mo_comparison_57 rfl rfl ?_
        refine r_iret C E d_Mo_comparison_58 (by first | decide | omega | (simp only [rmk]; omega)) (by first | decide | omega | (simp only [rmk]; omega)) ?_
        have hq9 := nx_sg hnx_1 (by decide) c_36
        exact ⟨_, _, _, _, _, _, _, _, some 2, rfl, rfl, hri1, cmp_ok hnx_1 hno_1 hq9 (cmpN_2 (nx_nsg hnx_1 c_10) (nx_nsg hnx_1 c_23) (by rw [← hq9.2.2]; exact c_36)), fun z h => by cases h; decide⟩
    · skip
      refine r_iconst C (nI 1) d_Mo_comparison_26 (by decide) ?_
      refine r_goto C 44 d_Mo_comparison_27 (by decide) ?_
      refine r_istore_n C (lv' := [(1, .int (nI 1)), (0, .ref m0)]) d_Mo_comparison_44 rfl (by decide) rfl ?_
      refine r_iload_n C 0 d_Mo_comparison_45 rfl rfl ?_
      refine r_nif_ge C 57 d_Mo_comparison_46 (by decide) (by omega) (fun c_46 => ?_) (fun c_46 => ?_)
      rotate_left
      · exact absurd c_46 (by decide)
      refine r_iload_n C 0 d_Mo_comparison_57 rfl rfl ?_
      refine r_iret C E d_Mo_comparison_58 (by first | decide | omega | (simp only [rmk]; omega)) (by first | decide | omega | (simp only [rmk]; omega)) ?_
      have hq9 := nx_sg hnx_1 (by decide) c_23
      exact ⟨_, _, _, _, _, _, _, _, some 1, rfl, rfl, hri1, cmp_ok hnx_1 hno_1 hq9 (cmpN_1 (nx_nsg hnx_1 c_10) (by rw [← hq9.2.2]; exact c_23)), fun z h => by cases h; decide⟩
  · skip
    refine r_iconst C (nI 0) d_Mo_comparison_13 (by decide) ?_
    refine r_goto C 44 d_Mo_comparison_14 (by decide) ?_
    refine r_istore_n C (lv' := [(1, .int (nI 0)), (0, .ref m0)]) d_Mo_comparison_44 rfl (by decide) rfl ?_
    refine r_iload_n C 0 d_Mo_comparison_45 rfl rfl ?_
    refine r_nif_ge C 57 d_Mo_comparison_46 (by decide) (by omega) (fun c_46 => ?_) (fun c_46 => ?_)
    rotate_left
    · exact absurd c_46 (by decide)
    refine r_iload_n C 0 d_Mo_comparison_57 rfl rfl ?_
    refine r_iret C E d_Mo_comparison_58 (by first | decide | omega | (simp only [rmk]; omega)) (by first | decide | omega | (simp only [rmk]; omega)) ?_
    have hq9 := nx_sg hnx_1 (by decide) c_10
    exact ⟨_, _, _, _, _, _, _, _, some 0, rfl, rfl, hri1, cmp_ok hnx_1 hno_1 hq9 (cmpN_0 (by rw [← hq9.2.2]; exact c_10)), fun z h => by cases h; decide⟩
