def tokB (T BE EN : Nat → Nat) (t : Nat) : List Nat := (List.range (EN t - BE t)).map fun j => T (BE t + j)
/-- the printed text from token t on, m tokens -/
def outF (T BE EN : Nat → Nat) : Nat → Nat → List Nat
  | 0, _ => []
  | m + 1, t => tokB T BE EN t ++ (if m = 0 then [] else 32 :: outF T BE EN m (t + 1))
section WRI
variable {T BE EN : Nat → Nat} {tn : Nat}
theorem outM_ne (h : ∀ j, j < tn → BE j < EN j) : ∀ m, m < tn → outM T BE EN (m + 1) ≠ [] := by
  intro m hm q
  have := congrArg List.length q
  rw [outM] at this
  have h1 := h m hm
  simp [prt] at this
  omega
theorem outM_s (h : ∀ j, j < tn → BE j < EN j) {t : Nat} (ht : t < tn) : outM T BE EN (t + 1) = outM T BE EN t ++ (if t = 0 then [] else [32]) ++ tokB T BE EN t := by
  rw [outM, prt]
  cases t with
  | zero => rfl
  | succ t => rw [if_neg (outM_ne h t (by omega)), if_neg (by omega)]; rfl
theorem outF_M (h : ∀ j, j < tn → BE j < EN j) : ∀ m t, t + (m + 1) = tn → outM T BE EN tn = outM T BE EN t ++ (if t = 0 then [] else [32]) ++ outF T BE EN (m + 1) t := by
  intro m
  induction m with
  | zero =>
    intro t e
    obtain rfl : tn = t + 1 := by omega
    rw [outM_s h (by omega), outF]
    simp
  | succ m ih =>
    intro t e
    rw [ih (t + 1) (by omega), outM_s h (by omega), if_neg (by omega : ¬ t + 1 = 0)]
    conv => rhs; rw [outF, if_neg (by omega : ¬ m + 1 = 0)]
    simp
theorem outF_0 (h : ∀ j, j < tn → BE j < EN j) : outM T BE EN tn = outF T BE EN tn 0 := by
  cases tn with
  | zero => rfl
  | succ m => rw [outF_M h m 0 (by omega)]; simp [outM]
theorem tokB_len {t : Nat} : (tokB T BE EN t).length = EN t - BE t := by simp [tokB]
theorem outF_in {m t l : Nat} (h : l < EN t - BE t) : (outF T BE EN (m + 1) t)[l]? = some (T (BE t + l)) := by
  rw [outF, List.getElem?_append_left (by rw [tokB_len]; exact h)]
  simp [tokB, h]
theorem outF_at {m t l : Nat} (h : l = EN t - BE t) : (outF T BE EN (m + 1) t)[l]? = if m = 0 then none else some 32 := by
  rw [outF, List.getElem?_append_right (by rw [tokB_len]; omega), tokB_len, h, Nat.sub_self]
  by_cases q : m = 0
  · rw [if_pos q, if_pos q]; rfl
  · rw [if_neg q, if_neg q]; rfl
theorem outF_gt {m t l : Nat} (h : EN t - BE t < l) : (outF T BE EN (m + 1) t)[l]? = (outF T BE EN m (t + 1))[l - (EN t - BE t) - 1]? := by
  rw [outF, List.getElem?_append_right (by rw [tokB_len]; omega), tokB_len]
  by_cases q : m = 0
  · rw [if_pos q, q]; rfl
  · rw [if_neg q]
    obtain ⟨d, hd⟩ : ∃ d, l - (EN t - BE t) = d + 1 := ⟨l - (EN t - BE t) - 1, by omega⟩
    rw [hd]
    simp
/-- the place left behind token t -/
def Lft (T BE EN : Nat → Nat) (tn t : Nat) (le : Int32) (res : Option Nat) : Prop := (∃ l, l < 2 ^ 31 ∧ le = nI l ∧ (outF T BE EN (tn - t) t)[l]? = res) ∨ (le < 0 ∧ res = none)
theorem lft_0 {z : Int32} (h : ∀ j, j < tn → BE j < EN j) : Lft T BE EN tn 0 z ((inN z).bind fun j => (outM T BE EN tn)[j]?) := by
  by_cases q : z < 0
  · exact Or.inr ⟨q, by rw [inN_neg q]; rfl⟩
  · obtain ⟨l, hl, rfl⟩ := nI_of q
    exact Or.inl ⟨l, hl, rfl, by rw [inN_nI hl, outF_0 h]; rfl⟩
theorem lft_end {t : Nat} {le : Int32} {res : Option Nat} (h : Lft T BE EN tn t le res) (ht : tn ≤ t) : res = none := by
  rcases h with ⟨l, -, -, q⟩ | ⟨-, q⟩
  · rw [← q, show tn - t = 0 by omega]; rfl
  · exact q
theorem lft_neg {t : Nat} {le : Int32} {res : Option Nat} (h : Lft T BE EN tn t le res) (hl : le < 0) : res = none := by
  rcases h with ⟨l, h1, rfl, q⟩ | ⟨-, q⟩
  · exact absurd hl (nI_pos h1)
  · exact q
theorem lft_pos {t : Nat} {le : Int32} {res : Option Nat} (h : Lft T BE EN tn t le res) (hl : ¬ le < 0) : ∃ l, l < 2 ^ 31 ∧ le = nI l ∧ (outF T BE EN (tn - t) t)[l]? = res := by
  rcases h with q | ⟨q, -⟩
  · exact q
  · exact absurd q hl
theorem lft_go {t l : Nat} {res : Option Nat} (ht : t < tn) (hl : l < 2 ^ 31) (h : (outF T BE EN (tn - t) t)[l]? = res) (hn : EN t - BE t ≤ l) (hz : l - (EN t - BE t) ≠ 0 ∨ tn ≤ t + 1) : Lft T BE EN tn (t + 1) (nI (l - (EN t - BE t)) - nI 1) res := by
  rw [show tn - t = (tn - (t + 1)) + 1 by omega] at h
  by_cases q : l - (EN t - BE t) = 0
  · have h2 := hz.resolve_left (fun w => w q)
    rw [outF_at (by omega), if_pos (by omega)] at h
    exact Or.inr ⟨by rw [q]; decide, h.symm⟩
  · refine Or.inl ⟨l - (EN t - BE t) - 1, by omega, ?_, by rw [← h, outF_gt (by omega)]⟩
    obtain ⟨d, hd⟩ : ∃ d, l - (EN t - BE t) = d + 1 := ⟨l - (EN t - BE t) - 1, by omega⟩
    rw [hd, nI_1p]
    rfl
end WRI

theorem d_Mo_write_0 : decode b_Mo_write 0 = .ok (.aload_n 0, 1) := by decide +kernel
theorem d_Mo_write_1 : decode b_Mo_write 1 = .ok (.iconst 0, 1) := by decide +kernel
theorem d_Mo_write_2 : decode b_Mo_write 2 = .ok (.putfield 87, 3) := by decide +kernel
theorem d_Mo_write_5 : decode b_Mo_write 5 = .ok (.iload_n 1, 1) := by decide +kernel
theorem d_Mo_write_6 : decode b_Mo_write 6 = .ok (.istore_n 2, 1) := by decide +kernel
theorem d_Mo_write_7 : decode b_Mo_write 7 = .ok (.iconst 0, 1) := by decide +kernel
theorem d_Mo_write_8 : decode b_Mo_write 8 = .ok (.istore_n 3, 1) := by decide +kernel
theorem d_Mo_write_9 : decode b_Mo_write 9 = .ok (.iload_n 3, 1) := by decide +kernel
theorem d_Mo_write_10 : decode b_Mo_write 10 = .ok (.aload_n 0, 1) := by decide +kernel
theorem d_Mo_write_11 : decode b_Mo_write 11 = .ok (.getfield 126, 3) := by decide +kernel
theorem d_Mo_write_14 : decode b_Mo_write 14 = .ok (.if_icmp .ge 73, 3) := by decide +kernel
theorem d_Mo_write_17 : decode b_Mo_write 17 = .ok (.iload_n 2, 1) := by decide +kernel
theorem d_Mo_write_18 : decode b_Mo_write 18 = .ok (.ifCond .lt 69, 3) := by decide +kernel
theorem d_Mo_write_21 : decode b_Mo_write 21 = .ok (.aload_n 0, 1) := by decide +kernel
theorem d_Mo_write_22 : decode b_Mo_write 22 = .ok (.getfield 19, 3) := by decide +kernel
theorem d_Mo_write_25 : decode b_Mo_write 25 = .ok (.iload_n 3, 1) := by decide +kernel
theorem d_Mo_write_26 : decode b_Mo_write 26 = .ok (.iaload, 1) := by decide +kernel
theorem d_Mo_write_27 : decode b_Mo_write 27 = .ok (.aload_n 0, 1) := by decide +kernel
theorem d_Mo_write_28 : decode b_Mo_write 28 = .ok (.getfield 16, 3) := by decide +kernel
theorem d_Mo_write_31 : decode b_Mo_write 31 = .ok (.iload_n 3, 1) := by decide +kernel
theorem d_Mo_write_32 : decode b_Mo_write 32 = .ok (.iaload, 1) := by decide +kernel
theorem d_Mo_write_33 : decode b_Mo_write 33 = .ok (.isub, 1) := by decide +kernel
theorem d_Mo_write_34 : decode b_Mo_write 34 = .ok (.istore 4, 2) := by decide +kernel
theorem d_Mo_write_36 : decode b_Mo_write 36 = .ok (.iload_n 2, 1) := by decide +kernel
theorem d_Mo_write_37 : decode b_Mo_write 37 = .ok (.iload 4, 2) := by decide +kernel
theorem d_Mo_write_39 : decode b_Mo_write 39 = .ok (.if_icmp .ge 17, 3) := by decide +kernel
theorem d_Mo_write_42 : decode b_Mo_write 42 = .ok (.aload_n 0, 1) := by decide +kernel
theorem d_Mo_write_43 : decode b_Mo_write 43 = .ok (.getfield 13, 3) := by decide +kernel
theorem d_Mo_write_46 : decode b_Mo_write 46 = .ok (.aload_n 0, 1) := by decide +kernel
theorem d_Mo_write_47 : decode b_Mo_write 47 = .ok (.getfield 16, 3) := by decide +kernel
theorem d_Mo_write_50 : decode b_Mo_write 50 = .ok (.iload_n 3, 1) := by decide +kernel
theorem d_Mo_write_51 : decode b_Mo_write 51 = .ok (.iaload, 1) := by decide +kernel
theorem d_Mo_write_52 : decode b_Mo_write 52 = .ok (.iload_n 2, 1) := by decide +kernel
theorem d_Mo_write_53 : decode b_Mo_write 53 = .ok (.iadd, 1) := by decide +kernel
theorem d_Mo_write_54 : decode b_Mo_write 54 = .ok (.iaload, 1) := by decide +kernel
theorem d_Mo_write_55 : decode b_Mo_write 55 = .ok (.ireturn, 1) := by decide +kernel
theorem d_Mo_write_56 : decode b_Mo_write 56 = .ok (.iload_n 2, 1) := by decide +kernel
theorem d_Mo_write_57 : decode b_Mo_write 57 = .ok (.iload 4, 2) := by decide +kernel
theorem d_Mo_write_59 : decode b_Mo_write 59 = .ok (.isub, 1) := by decide +kernel
theorem d_Mo_write_60 : decode b_Mo_write 60 = .ok (.istore_n 2, 1) := by decide +kernel
theorem d_Mo_write_61 : decode b_Mo_write 61 = .ok (.iload_n 2, 1) := by decide +kernel
theorem d_Mo_write_62 : decode b_Mo_write 62 = .ok (.ifCond .ne 16, 3) := by decide +kernel
theorem d_Mo_write_65 : decode b_Mo_write 65 = .ok (.iload_n 3, 1) := by decide +kernel
theorem d_Mo_write_66 : decode b_Mo_write 66 = .ok (.iconst 1, 1) := by decide +kernel
theorem d_Mo_write_67 : decode b_Mo_write 67 = .ok (.iadd, 1) := by decide +kernel
theorem d_Mo_write_68 : decode b_Mo_write 68 = .ok (.aload_n 0, 1) := by decide +kernel
theorem d_Mo_write_69 : decode b_Mo_write 69 = .ok (.getfield 126, 3) := by decide +kernel
theorem d_Mo_write_72 : decode b_Mo_write 72 = .ok (.if_icmp .ge 6, 3) := by decide +kernel
theorem d_Mo_write_75 : decode b_Mo_write 75 = .ok (.bipush 32, 2) := by decide +kernel
theorem d_Mo_write_77 : decode b_Mo_write 77 = .ok (.ireturn, 1) := by decide +kernel
theorem d_Mo_write_78 : decode b_Mo_write 78 = .ok (.iinc 2 (-1), 3) := by decide +kernel
theorem d_Mo_write_81 : decode b_Mo_write 81 = .ok (.iinc 3 1, 3) := by decide +kernel
theorem d_Mo_write_84 : decode b_Mo_write 84 = .ok (.goto (-75), 3) := by decide +kernel
theorem d_Mo_write_87 : decode b_Mo_write 87 = .ok (.iconst (-1), 1) := by decide +kernel
theorem d_Mo_write_88 : decode b_Mo_write 88 = .ok (.ireturn, 1) := by decide +kernel
set_option maxHeartbeats 4000000 in
set_option maxRecDepth 100000 in
theorem lp_Mo_write_9 (g : GG) {m0 : Nat} {ad : Nat → Nat} {qth : Int32} {qsz : Int32} {qde : Int32} {qru : Int32} {qat : Int32} {qen : Int32} {qto : Int32} {qbe : Int32} {qva : Int32} {qwr : Int32} {qop : Int32} {qwi : Int32} {qhe : Int32} {qrw : Int32} {qma : Int32} {qir : Bool} {qiu : Bool} {tn : Nat} {k : Nat} {z : Int32} {T : Nat → Nat} {BE : Nat → Nat} {EN : Nat → Nat} {BY : Nat → Nat} (hk : k ≤ 2000) (htn : tn ≤ 2000) (hB : ∀ j, j < tn → BE j < EN j ∧ EN j ≤ k) (hY : ∀ j, j < k → BY j = T j) {x : X0} {A : Nat → Prop} {Q : State → Prop}  (C : CX x g A R_Mo b_Mo_write 5) (E : RX x g A Q (some .int) (fun (r0 : Option Value) (w0 : va_W) => r0 = some (.int (oI ((inN z).bind fun j => (outM T BE EN tn)[j]?))) ∧ w0 = [(m0, .inr (9, MO ad (nI 0) qsz (bI qir) (nI tn) qde qru qat qen qto qbe qva qwr qop (bI qiu) qwi qhe qrw qma)), ((ad 6), .inl (g.2.1 0, 2000, .inl (aI BE))), ((ad 7), .inl (g.2.1 0, 2000, .inl (aI EN))), ((ad 4), .inl (g.2.1 0, 2000, .inl (aI BY)))]) (rmk 0 0 0 0).cells (rmk 0 0 0 0).slots) (hR : xR x = (rmk 0 0 0 0)) : ∀ (fuel : Nat) (t : Nat) (le : Int32) (ht : t ≤ tn) (hL : Lft T BE EN tn t le ((inN z).bind fun j => (outM T BE EN tn)[j]?)), tn - t < fuel → J x g A Q 5 ([(m0, .inr (9, MO ad (nI 0) qsz (bI qir) (nI tn) qde qru qat qen qto qbe qva qwr qop (bI qiu) qwi qhe qrw qma)), ((ad 6), .inl (g.2.1 0, 2000, .inl (aI BE))), ((ad 7), .inl (g.2.1 0, 2000, .inl (aI EN))), ((ad 4), .inl (g.2.1 0, 2000, .inl (aI BY)))]) [(0, .ref m0), (1, .int z), (2, .int le), (3, .int (nI t))] 9 [] 0 0 := by
  intro fuel
  induction fuel with
  | zero =>
    intro t le ht hL hm
    exact absurd hm (Nat.not_lt_zero _)
  | succ fuel ih =>
    intro t le ht hL hm
    refine r_iload_n C 3 d_Mo_write_9 rfl rfl ?_
    refine r_aload_n C 0 d_Mo_write_10 rfl rfl ?_
    refine r_get C 0 5 d_Mo_write_11 ci_Mo fi_Mo_126 rfl (by decide) rfl rfl ?_
    refine r_ncmp_ge C 87 d_Mo_write_14 (by decide) (by omega) (by omega) (fun c_14 => ?_) (fun c_14 => ?_)
    · skip
      refine r_iconst C ((-1)) d_Mo_write_87 (by decide) ?_
      refine r_iret C E d_Mo_write_88 (by first | decide | omega | (simp only [rmk]; omega)) (by first | decide | omega | (simp only [rmk]; omega)) ?_
      exact ⟨by rw [lft_end hL (by omega)]; rfl, rfl⟩
    · skip
      refine r_iload_n C 2 d_Mo_write_17 rfl rfl ?_
      refine r_if_lt C 87 d_Mo_write_18 (by decide) (fun c_18 => ?_) (fun c_18 => ?_)
      · skip
        refine r_iconst C ((-1)) d_Mo_write_87 (by decide) ?_
        refine r_iret C E d_Mo_write_88 (by first | decide | omega | (simp only [rmk]; omega)) (by first | decide | omega | (simp only [rmk]; omega)) ?_
        exact ⟨by rw [lft_neg hL c_18]; rfl, rfl⟩
      · skip
        obtain ⟨l9, hl9, rfl, hq9⟩ := lft_pos hL c_18
        have hbe := hB t (by omega)
        refine r_aload_n C 0 d_Mo_write_21 rfl rfl ?_
        refine r_get C 0 7 d_Mo_write_22 ci_Mo fi_Mo_19 rfl (by decide) rfl rfl ?_
        refine r_iload_n C 3 d_Mo_write_25 rfl rfl ?_
        refine r_nald C 2 0 d_Mo_write_26 rfl rfl (by omega) (by decide) ?_
        refine r_aload_n C 0 d_Mo_write_27 rfl rfl ?_
        refine r_get C 0 6 d_Mo_write_28 ci_Mo fi_Mo_16 rfl (by decide) rfl rfl ?_
        refine r_iload_n C 3 d_Mo_write_31 rfl rfl ?_
        refine r_nald C 1 0 d_Mo_write_32 rfl rfl (by omega) (by decide) ?_
        refine r_nsub C d_Mo_write_33 (by omega) ?_
        refine r_istore C (lv' := [(4, .int (nI ((EN t) - (BE t)))), (0, .ref m0), (1, .int z), (2, .int (nI l9)), (3, .int (nI t))]) d_Mo_write_34 (by decide) rfl ?_
        refine r_iload_n C 3 d_Mo_write_36 rfl rfl ?_
        refine r_iload C 0 d_Mo_write_37 rfl ?_
        refine r_ncmp_ge C 56 d_Mo_write_39 (by decide) (by omega) (by omega) (fun c_39 => ?_) (fun c_39 => ?_)
        · skip
          refine r_iload_n C 3 d_Mo_write_56 rfl rfl ?_
          refine r_iload C 0 d_Mo_write_57 rfl ?_
          refine r_nsub C d_Mo_write_59 (by omega) ?_
          refine r_istore_n C (lv' := [(2, .int (nI (l9 - ((EN t) - (BE t))))), (4, .int (nI ((EN t) - (BE t)))), (0, .ref m0), (1, .int z), (3, .int (nI t))]) d_Mo_write_60 rfl (by decide) rfl ?_
          refine r_iload_n C 0 d_Mo_write_61 rfl rfl ?_
          refine r_nif_ne C 78 d_Mo_write_62 (by decide) (by omega) (fun c_62 => ?_) (fun c_62 => ?_)
          · skip
            refine r_iinc C 0 (nI (l9 - ((EN t) - (BE t))) - nI 1) (lv' := [(2, .int (nI (l9 - ((EN t) - (BE t))) - nI 1)), (4, .int (nI ((EN t) - (BE t)))), (0, .ref m0), (1, .int z), (3, .int (nI t))]) d_Mo_write_78 rfl (nI_m1 _) (by decide) rfl ?_
            refine r_iinc C 4 (nI (t + 1)) (lv' := [(3, .int (nI (t + 1))), (2, .int (nI (l9 - ((EN t) - (BE t))) - nI 1)), (4, .int (nI ((EN t) - (BE t)))), (0, .ref m0), (1, .int z)]) d_Mo_write_81 rfl (nI_inc 1 _) (by decide) rfl ?_
            refine r_goto C 9 d_Mo_write_84 (by decide) ?_
            refine r_lv (lv' := [(0, .ref m0), (1, .int z), (2, .int (nI (l9 - ((EN t) - (BE t))) - nI 1)), (3, .int (nI (t + 1)))]) [3, 4, 1, 0] rfl ?_
            exact ih (t + 1) (nI (l9 - ((EN t) - (BE t))) - nI 1) (by first | assumption | omega | rfl) (lft_go (by omega) hl9 hq9 (by omega) (Or.inl c_62)) (by omega)
          · skip
            refine r_iload_n C 4 d_Mo_write_65 rfl rfl ?_
            refine r_iconst C (nI 1) d_Mo_write_66 (by decide) ?_
            refine r_nadd C d_Mo_write_67 ?_
            refine r_aload_n C 2 d_Mo_write_68 rfl rfl ?_
            refine r_get C 0 5 d_Mo_write_69 ci_Mo fi_Mo_126 rfl (by decide) rfl rfl ?_
            refine r_ncmp_ge C 78 d_Mo_write_72 (by decide) (by omega) (by omega) (fun c_72 => ?_) (fun c_72 => ?_)
            · skip
              refine r_iinc C 0 (nI (l9 - ((EN t) - (BE t))) - nI 1) (lv' := [(2, .int (nI (l9 - ((EN t) - (BE t))) - nI 1)), (4, .int (nI ((EN t) - (BE t)))), (0, .ref m0), (1, .int z), (3, .int (nI t))]) d_Mo_write_78 rfl (nI_m1 _) (by decide) rfl ?_
              refine r_iinc C 4 (nI (t + 1)) (lv' := [(3, .int (nI (t + 1))), (2, .int (nI (l9 - ((EN t) - (BE t))) - nI 1)), (4, .int (nI ((EN t) - (BE t)))), (0, .ref m0), (1, .int z)]) d_Mo_write_81 rfl (nI_inc 1 _) (by decide) rfl ?_
              refine r_goto C 9 d_Mo_write_84 (by decide) ?_
              refine r_lv (lv' := [(0, .ref m0), (1, .int z), (2, .int (nI (l9 - ((EN t) - (BE t))) - nI 1)), (3, .int (nI (t + 1)))]) [3, 4, 1, 0] rfl ?_
              exact ih (t + 1) (nI (l9 - ((EN t) - (BE t))) - nI 1) (by first | assumption | omega | rfl) (lft_go (by omega) hl9 hq9 (by omega) (Or.inr (by omega))) (by omega)
            · skip
              refine r_bipush C (nI 32) d_Mo_write_75 (by decide) ?_
              refine r_iret C E d_Mo_write_77 (by first | decide | omega | (simp only [rmk]; omega)) (by first | decide | omega | (simp only [rmk]; omega)) ?_
              rw [show tn - t = (tn - (t + 1)) + 1 by omega, outF_at (by omega), if_neg (by omega)] at hq9
              exact ⟨by rw [← hq9]; rfl, rfl⟩
        · skip
          refine r_aload_n C 1 d_Mo_write_42 rfl rfl ?_
          refine r_get C 0 4 d_Mo_write_43 ci_Mo fi_Mo_13 rfl (by decide) rfl rfl ?_
          refine r_aload_n C 1 d_Mo_write_46 rfl rfl ?_
          refine r_get C 0 6 d_Mo_write_47 ci_Mo fi_Mo_16 rfl (by decide) rfl rfl ?_
          refine r_iload_n C 4 d_Mo_write_50 rfl rfl ?_
          refine r_nald C 1 0 d_Mo_write_51 rfl rfl (by omega) (by decide) ?_
          refine r_iload_n C 3 d_Mo_write_52 rfl rfl ?_
          refine r_nadd C d_Mo_write_53 ?_
          refine r_nald C 3 0 d_Mo_write_54 rfl rfl (by omega) (by decide) ?_
          refine r_iret C E d_Mo_write_55 (by first | decide | omega | (simp only [rmk]; omega)) (by first | decide | omega | (simp only [rmk]; omega)) ?_
          rw [show tn - t = (tn - (t + 1)) + 1 by omega, outF_in (by omega)] at hq9
          exact ⟨by rw [← hq9, hY _ (by omega)]; rfl, rfl⟩
set_option maxHeartbeats 4000000 in
set_option maxRecDepth 100000 in
theorem c_Mo_write (g : GG) (l : Launch) {m0 : Nat} {ad : Nat → Nat} {qth : Int32} {qsz : Int32} {qde : Int32} {qru : Int32} {qat : Int32} {qen : Int32} {qto : Int32} {qbe : Int32} {qva : Int32} {qwr : Int32} {qop : Int32} {qwi : Int32} {qhe : Int32} {qrw : Int32} {qma : Int32} {qir : Bool} {qiu : Bool} {tn : Nat} {k : Nat} {z : Int32} {T : Nat → Nat} {BE : Nat → Nat} {EN : Nat → Nat} {BY : Nat → Nat}  (hk : k ≤ 2000) (htn : tn ≤ 2000) (hB : ∀ j, j < tn → BE j < EN j ∧ EN j ≤ k) (hY : ∀ j, j < k → BY j = T j) : Cn g l y_Mo_write b_Mo_write 5 (some .int) (rmk 0 0 0 0) [.ref m0, .int z] ([(m0, .inr (9, MO ad qth qsz (bI qir) (nI tn) qde qru qat qen qto qbe qva qwr qop (bI qiu) qwi qhe qrw qma)), ((ad 6), .inl (g.2.1 0, 2000, .inl (aI BE))), ((ad 7), .inl (g.2.1 0, 2000, .inl (aI EN))), ((ad 4), .inl (g.2.1 0, 2000, .inl (aI BY)))]) (fun (r0 : Option Value) (w0 : va_W) => r0 = some (.int (oI ((inN z).bind fun j => (outM T BE EN tn)[j]?))) ∧ w0 = [(m0, .inr (9, MO ad (nI 0) qsz (bI qir) (nI tn) qde qru qat qen qto qbe qva qwr qop (bI qiu) qwi qhe qrw qma)), ((ad 6), .inl (g.2.1 0, 2000, .inl (aI BE))), ((ad 7), .inl (g.2.1 0, 2000, .inl (aI EN))), ((ad 4), .inl (g.2.1 0, 2000, .inl (aI BY)))]) := by
  refine Cn.of R_Mo [(0, .ref m0), (1, .int z)] (by decide) rfl (Nat.le_of_ble_eq_true rfl) rfl ?_
  intro x A Q hR hXl hin C E
  subst hXl
  refine r_aload_n C 0 d_Mo_write_0 rfl rfl ?_
  refine r_iconst C (nI 0) d_Mo_write_1 (by decide) ?_
  refine r_put C (ws' := [(m0, .inr (9, MO ad (nI 0) qsz (bI qir) (nI tn) qde qru qat qen qto qbe qva qwr qop (bI qiu) qwi qhe qrw qma)), ((ad 6), .inl (g.2.1 0, 2000, .inl (aI BE))), ((ad 7), .inl (g.2.1 0, 2000, .inl (aI EN))), ((ad 4), .inl (g.2.1 0, 2000, .inl (aI BY)))]) 0 0 d_Mo_write_2 ci_Mo fi_Mo_87 rfl (by decide) rfl rfl (rfl) (rfl) (by simp) rfl ?_
  refine r_iload_n C 1 d_Mo_write_5 rfl rfl ?_
  refine r_istore_n C (lv' := [(2, .int z), (0, .ref m0), (1, .int z)]) d_Mo_write_6 rfl (by decide) rfl ?_
  refine r_iconst C (nI 0) d_Mo_write_7 (by decide) ?_
  refine r_istore_n C (lv' := [(3, .int (nI 0)), (2, .int z), (0, .ref m0), (1, .int z)]) d_Mo_write_8 rfl (by decide) rfl ?_
  refine r_lv (lv' := [(0, .ref m0), (1, .int z), (2, .int z), (3, .int (nI 0))]) [2, 3, 1, 0] rfl ?_
  exact lp_Mo_write_9 g (m0 := m0) (ad := ad) (qth := qth) (qsz := qsz) (qde := qde) (qru := qru) (qat := qat) (qen := qen) (qto := qto) (qbe := qbe) (qva := qva) (qwr := qwr) (qop := qop) (qwi := qwi) (qhe := qhe) (qrw := qrw) (qma := qma) (qir := qir) (qiu := qiu) (tn := tn) (k := k) (z := z) (T := T) (BE := BE) (EN := EN) (BY := BY) hk htn hB hY  C E hR _ 0 z (by first | assumption | omega | rfl) (lft_0 fun j h => (hB j h).1) (Nat.lt_succ_self _)
