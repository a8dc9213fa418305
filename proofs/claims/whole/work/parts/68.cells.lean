section CBD
variable {T : Nat → Nat} {k : Nat}
/-- a parser makes no more cells than it takes bytes; the rules' kinds are small -/
def CB (T : Nat → Nat) (k : Nat) (s : PSt) (r : Bool × PSt × Nat) : Prop := TXK T k r.2.1.2.2 ∧ r.2.2 + s.2.2.1.2.1 ≤ r.2.1.2.2.1.2.1 ∧ ((∀ x ∈ s.1, x.1 < 23) → ∀ x ∈ r.2.1.1, x.1 < 23)
theorem cb_0 {s : PSt} {b : Bool} (h : TXK T k s.2.2) : CB T k s (b, s, 0) := ⟨h, Nat.le_of_eq (Nat.zero_add _), fun q => q⟩
theorem cb_rl (hT : ∀ j, T j < 256) {s : PSt} {ls : List LayerV} (h : TXK T k s.2.2) (hr : rol 3 s = true) : CB T k s (pRl T k ls s) := by
  obtain ⟨w, hw, h1, _⟩ := isRo_word hr
  have hok := (txk_ok hT h).2.2.2.2.2.2 w hw
  have h2 := take_1 hT h (by rw [h1]; decide)
  have h3 := (fw_nums hT h2.1 (ki := s.2.2.1.2.2.2.2.getD 0 - 16)).1
  have e : (pRule T k (s.2.2.1.2.2.2.2.getD 0) ls s.1 s.2.2).2.2 = (pNums T k (s.2.2.1.2.2.2.2.getD 0 - 16) (tTake T k s.2.2)).2.2.2.2 := by
    unfold pRule
    split <;> rfl
  refine ⟨?_, ?_, fun q => ?_⟩
  · show TXK T k (pRule T k (s.2.2.1.2.2.2.2.getD 0) ls s.1 s.2.2).2.2
    rw [e]
    exact h3.1
  · show 1 + s.2.2.1.2.1 ≤ (pRule T k (s.2.2.1.2.2.2.2.getD 0) ls s.1 s.2.2).2.2.1.2.1
    rw [e]
    have := h2.2
    have := h3.2
    omega
  · show ∀ x ∈ (pRule T k (s.2.2.1.2.2.2.2.getD 0) ls s.1 s.2.2).2.1, x.1 < 23
    unfold pRule
    split
    · intro x hx
      rcases List.mem_append.mp hx with z | z
      · exact q x z
      · rw [List.mem_singleton] at z
        subst z
        show s.2.2.1.2.2.2.2.getD 0 - 16 < 23
        rw [hw]
        show w - 16 < 23
        omega
    · exact q
variable {f : PSt → Bool × PSt × Nat}
theorem cb_loop (hT : ∀ j, T j < 256) (hf : ∀ s, TXK T k s.2.2 → CB T k s (f s)) : ∀ (m : Nat) (s : PSt), TXK T k s.2.2 → CB T k s (pLoop f T k m s) := by
  intro m
  induction m with
  | zero => intro s h; exact cb_0 h
  | succ m ih =>
    intro s h
    have h1 := hf s h
    rw [pLoop]
    split
    · split
      · rename_i a b
        have h2 : TXK T k (pTk T k (f s).2.1).2.2 ∧ (f s).2.1.2.2.1.2.1 + 1 ≤ (pTk T k (f s).2.1).2.2.1.2.1 := take_1 hT h1.1 (isSg_ne b)
        have h3 := ih (pTk T k (f s).2.1) h2.1
        refine ⟨h3.1, ?_, fun q => h3.2.2 (h1.2.2 q)⟩
        have := h1.2.1
        have := h2.2
        have := h3.2.1
        show (f s).2.2 + (pLoop f T k m (pTk T k (f s).2.1)).2.2 + s.2.2.1.2.1 ≤ (pLoop f T k m (pTk T k (f s).2.1)).2.1.2.2.1.2.1
        omega
      · exact h1
    · exact h1
theorem cb_g (hT : ∀ j, T j < 256) (hf : ∀ s, TXK T k s.2.2 → CB T k s (f s)) (s : PSt) (h : TXK T k s.2.2) : CB T k s (pG f T k s) := by
  unfold pG
  split
  · exact cb_0 h
  · exact cb_loop hT hf 2000 s h
theorem cb_br (hT : ∀ j, T j < 256) (hf : ∀ s, TXK T k s.2.2 → CB T k s (f s)) {s : PSt} (h : TXK T k s.2.2) : CB T k s (pBr f T k s) := by
  have h1 : TXK T k (pTk T k s).2.2 ∧ s.2.2.1.2.1 ≤ (pTk T k s).2.2.1.2.1 := fw_take hT h
  have h2 := cb_g hT hf (pTk T k s) h1.1
  have a1 := h1.2
  have a2 := h2.2.1
  unfold pBr
  split
  · have h3 : TXK T k (pTk T k (pG f T k (pTk T k s)).2.1).2.2 ∧ (pG f T k (pTk T k s)).2.1.2.2.1.2.1 ≤ (pTk T k (pG f T k (pTk T k s)).2.1).2.2.1.2.1 := fw_take hT h2.1
    refine ⟨h3.1, ?_, h2.2.2⟩
    have := h3.2
    show (pG f T k (pTk T k s)).2.2 + s.2.2.1.2.1 ≤ (pTk T k (pG f T k (pTk T k s)).2.1).2.2.1.2.1
    omega
  · refine ⟨h2.1, ?_, h2.2.2⟩
    show (pG f T k (pTk T k s)).2.2 + s.2.2.1.2.1 ≤ (pG f T k (pTk T k s)).2.1.2.2.1.2.1
    omega
theorem cb_ly (hT : ∀ j, T j < 256) {fl : List LayerV → PSt → Bool × PSt × Nat} (hf : ∀ ls s, TXK T k s.2.2 → CB T k s (fl ls s)) {ls : List LayerV} {s : PSt} (h : TXK T k s.2.2) (h0 : rol 0 s = true) : CB T k s (pLy fl T k ls s) := by
  have h1 : TXK T k (pTk T k s).2.2 ∧ s.2.2.1.2.1 + 1 ≤ (pTk T k s).2.2.1.2.1 := take_1 hT h (isRo_ne h0)
  have a1 := h1.2
  unfold pLy
  by_cases hr : rol (if isWd s.2.2.1.1 s.2.2.1.2.2.2.2 0 = true then 1 else 2) (pTk T k s) = true
  · rw [if_pos hr]
    have h2 := fw_lay hT h1.1 (w := (pTk T k s).2.2.1.2.2.2.2.getD 0)
    cases q : pLay T k ((pTk T k s).2.2.1.2.2.2.2.getD 0) (pTk T k s).2.2 with
    | mk a y =>
      rw [q] at h2
      have a2 : (pTk T k s).2.2.1.2.1 ≤ y.1.2.1 := h2.2
      cases a with
      | none =>
        refine ⟨h2.1, ?_, fun z => z⟩
        show 1 + s.2.2.1.2.1 ≤ y.1.2.1
        omega
      | some l =>
        have h3 := hf (l :: ls) (s.1, s.2.1, y) h2.1
        have a3 : (fl (l :: ls) (s.1, s.2.1, y)).2.2 + y.1.2.1 ≤ (fl (l :: ls) (s.1, s.2.1, y)).2.1.2.2.1.2.1 := h3.2.1
        refine ⟨h3.1, ?_, h3.2.2⟩
        show (fl (l :: ls) (s.1, s.2.1, y)).2.2 + 1 + s.2.2.1.2.1 ≤ (fl (l :: ls) (s.1, s.2.1, y)).2.1.2.2.1.2.1
        omega
  · rw [if_neg hr]
    refine ⟨h1.1, ?_, fun z => z⟩
    show 0 + s.2.2.1.2.1 ≤ (pTk T k s).2.2.1.2.1
    omega
theorem cb_S (hT : ∀ j, T j < 256) : ∀ (d : Nat) (ls : List LayerV) (s : PSt), TXK T k s.2.2 → CB T k s (pS T k d ls s) := by
  intro d
  induction d with
  | zero =>
    intro ls s h
    rw [pS]
    split
    · exact cb_rl hT h (by assumption)
    · exact cb_0 h
  | succ d ih =>
    intro ls s h
    rw [pS]
    split
    · exact cb_rl hT h (by assumption)
    · split
      · exact cb_br hT (fun s => ih ls s) (s := (s.1, max s.2.1 (40 - d), s.2.2)) h
      · split
        · rename_i q
          exact cb_ly hT (fun ls s => ih ls s) (s := (s.1, max s.2.1 (40 - d), s.2.2)) h q
        · exact cb_0 h
/-- the cells of a reading; its rules' kinds -/
theorem cells_le (hT : ∀ j, T j < 256) : (parseP T k).2.2 ≤ k ∧ ∀ r ∈ (parseP T k).2.1.1, r.1 < 23 := by
  have h := cb_g hT (fun s => cb_S hT 40 [] s) ([], 0, tokAt T k 0 0, []) ⟨0, 0, Nat.zero_le _, rfl⟩
  have h2 := txk_le hT h.1
  have h3 := h.2.1
  refine ⟨?_, h.2.2 fun x hx => by cases hx⟩
  show (pG (pS T k 40 []) T k ([], 0, tokAt T k 0 0, [])).2.2 ≤ k
  omega
end CBD
