def isLet (c : Nat) : Bool := decide (97 ≤ c ∧ c ≤ 122)
def isDig (c : Nat) : Bool := decide (48 ≤ c ∧ c ≤ 57)
def isSgn (c : Nat) : Bool := decide (c = 59 ∨ c = 123 ∨ c = 125 ∨ c = 61 ∨ c = 60 ∨ c = 62)
def isBlk (c : Nat) : Bool := decide (c = 32 ∨ c = 10)
def noTouch (c d : Nat) : Bool := decide (c = 1 ∧ d = 2 ∨ c = 2 ∧ d = 1)
def scan (p : Nat → Bool) (T : Nat → Nat) (k : Nat) : Nat → Nat → Nat
  | 0, j => j
  | f + 1, j => if j < k ∧ p (T j) = true then scan p T k f (j + 1) else j
/-- the first place from j on, below k, where p doesn't hold; k if there is none -/
def run (p : Nat → Bool) (T : Nat → Nat) (k j : Nat) : Nat := scan p T k (k - j) j
theorem run_go {p : Nat → Bool} {T : Nat → Nat} {k j : Nat} (h : j < k) (hp : p (T j) = true) : run p T k j = run p T k (j + 1) := by
  unfold run
  obtain ⟨f, hf⟩ : ∃ f, k - j = f + 1 := ⟨k - j - 1, by omega⟩
  rw [hf, show k - (j + 1) = f by omega]
  simp [scan, h, hp]
theorem run_stop {p : Nat → Bool} {T : Nat → Nat} {k j : Nat} (h : ¬ (j < k ∧ p (T j) = true)) : run p T k j = j := by
  unfold run
  cases hf : k - j with
  | zero => rfl
  | succ f => simp only [scan, if_neg h]
theorem run_in {p : Nat → Bool} {T : Nat → Nat} {k : Nat} : ∀ (m j : Nat), k - j = m → j ≤ k → j ≤ run p T k j ∧ run p T k j ≤ k := by
  intro m
  induction m with
  | zero =>
    intro j hm hj
    rw [run_stop (by omega)]
    omega
  | succ m ih =>
    intro j hm hj
    by_cases h : j < k ∧ p (T j) = true
    · rw [run_go h.1 h.2]
      have := ih (j + 1) (by omega) (by omega)
      omega
    · rw [run_stop h]
      omega
theorem oI_at {T : Nat → Nat} {k j : Nat} (h : j < k) : oI (atO T k j) = nI (T j) := by rw [atO, if_pos h]; rfl
theorem bsome {p q : Bool} (h : p = q) : some (Value.int (bI p)) = some (Value.int (bI q)) := by rw [h]
def val (T : Nat → Nat) (s : Nat) : Nat → Nat
  | 0 => 0
  | m + 1 => val T s m * 10 + (T (s + m) - 48)
theorem val_stay {T : Nat → Nat} {s e z : Nat} (h : 6 ≤ e - s) (hz : z = val T s (min (e - s) 6)) : z = val T s (min (e + 1 - s) 6) := by
  rw [hz, Nat.min_eq_right h, Nat.min_eq_right (by omega)]
theorem val_step {T : Nat → Nat} {s e z : Nat} (h : s ≤ e ∧ e - s < 6) (hd : 48 ≤ T e) (hz : z = val T s (min (e - s) 6)) : z * 10 + T e - 48 = val T s (min (e + 1 - s) 6) := by
  rw [hz, Nat.min_eq_left (by omega), Nat.min_eq_left (by omega), show e + 1 - s = (e - s) + 1 by omega, val, show s + (e - s) = e by omega]
  omega
theorem val_lt {T : Nat → Nat} {s : Nat} (hT : ∀ j, T j < 256) : ∀ m, m ≤ 6 → val T s m < 2 ^ 31 := by
  intro m hm
  have h : ∀ m, val T s m < 256 * 11 ^ m := by
    intro m
    induction m with
    | zero => simp [val]
    | succ m ih =>
      have := hT (s + m)
      rw [val, Nat.pow_succ]
      have : 1 ≤ 11 ^ m := Nat.one_le_pow _ _ (by omega)
      omega
  have h1 := h m
  have h2 : 11 ^ m ≤ 11 ^ 6 := Nat.pow_le_pow_right (by omega) hm
  have h3 : (11 : Nat) ^ 6 = 1771561 := by decide
  omega

set_option maxRecDepth 100000 in
theorem ac_int : Cond.arrayClass (newarray.typeOf .int) ∈ GW := (gw (i := 212) rfl rfl)
set_option maxRecDepth 100000 in
theorem ao_Word : Cond.arrayOver (.object R_Word) ∈ NW := (nw (i := 167) rfl rfl)
set_option maxRecDepth 100000 in
theorem ci_Tokens : CI 2 R_Tokens F_Tokens 13 t_Tokens := ⟨rfl, ui 13 (by decide +kernel), by decide +kernel, by decide +kernel⟩
set_option maxRecDepth 100000 in
theorem cl_Tokens_24 : Cond.classLink R_Tokens 24 R_Word ∈ GW := (gw (i := 166) rfl rfl)
set_option maxRecDepth 100000 in
theorem fi_Tokens_30 : FI R_Tokens 30 R_Tokens F_Tokens 0 := Or.inl (gw (i := 168) rfl rfl)
set_option maxRecDepth 100000 in
theorem fi_Tokens_38 : FI R_Tokens 38 R_Tokens F_Tokens 8 := Or.inl (gw (i := 176) rfl rfl)
set_option maxRecDepth 100000 in
theorem fi_Tokens_41 : FI R_Tokens 41 R_Tokens F_Tokens 10 := Or.inl (gw (i := 180) rfl rfl)
set_option maxRecDepth 100000 in
theorem fi_Tokens_57 : FI R_Tokens 57 R_Tokens F_Tokens 9 := Or.inl (gw (i := 179) rfl rfl)
set_option maxRecDepth 100000 in
theorem fi_Tokens_60 : FI R_Tokens 60 R_Tokens F_Tokens 11 := Or.inl (gw (i := 181) rfl rfl)
set_option maxRecDepth 100000 in
theorem fi_Tokens_85 : FI R_Tokens 85 R_Text F_Text 1 := Or.inr ⟨"RuleReader", (nw (i := 114) rfl rfl)⟩
set_option maxRecDepth 100000 in
theorem fl_Tokens_15 : Cond.fieldLink R_Tokens 15 R_Tokens (F_Tokens 2).2.1 (F_Tokens 2).2.2.1 ∈ GW := (gw (i := 170) rfl rfl)
set_option maxRecDepth 100000 in
theorem fl_Tokens_18 : Cond.fieldLink R_Tokens 18 R_Tokens (F_Tokens 3).2.1 (F_Tokens 3).2.2.1 ∈ GW := (gw (i := 171) rfl rfl)
set_option maxRecDepth 100000 in
theorem fl_Tokens_21 : Cond.fieldLink R_Tokens 21 R_Tokens (F_Tokens 4).2.1 (F_Tokens 4).2.2.1 ∈ GW := (gw (i := 172) rfl rfl)
set_option maxRecDepth 100000 in
theorem fl_Tokens_26 : Cond.fieldLink R_Tokens 26 R_Tokens (F_Tokens 5).2.1 (F_Tokens 5).2.2.1 ∈ GW := (gw (i := 173) rfl rfl)
set_option maxRecDepth 100000 in
theorem fl_Tokens_30 : Cond.fieldLink R_Tokens 30 R_Tokens (F_Tokens 0).2.1 (F_Tokens 0).2.2.1 ∈ GW := (gw (i := 168) rfl rfl)
set_option maxRecDepth 100000 in
theorem fl_Tokens_9 : Cond.fieldLink R_Tokens 9 R_Tokens (F_Tokens 1).2.1 (F_Tokens 1).2.2.1 ∈ GW := (gw (i := 169) rfl rfl)
set_option maxRecDepth 100000 in
theorem lk_Tokens_80 : LK R_Tokens 80 y_Text_at := Or.inl (gw (i := 341) rfl rfl)
set_option maxRecDepth 100000 in
theorem lk_Tokens_95 : LK R_Tokens 95 y_Tokens_isDigit := Or.inl (gw (i := 411) rfl rfl)
set_option maxRecDepth 100000 in
theorem ml_Tokens_3 : Cond.methodLink R_Tokens 3 objectInit ∈ GW := (gw (i := 165) rfl rfl)
set_option maxRecDepth 100000 in
theorem mw_Text_at : MW y_Text_at b_Text_at 2 (some .int) 1 := ⟨(gw (i := 344) rfl rfl), (gw (i := 74) rfl rfl), by decide +kernel⟩
set_option maxRecDepth 100000 in
theorem mw_Tokens_isDigit : MW y_Tokens_isDigit b_Tokens_isDigit 1 (some .boolean) 1 := ⟨(gw (i := 413) rfl rfl), (gw (i := 77) rfl rfl), by decide +kernel⟩
set_option maxRecDepth 100000 in
theorem st_Tokens_isDigit : Cond.static y_Tokens_isDigit ∈ GW := (gw (i := 412) rfl rfl)
set_option maxRecDepth 100000 in
theorem vw_Text_at : VW y_Text_at := ⟨(gw (i := 342) rfl rfl), (gw (i := 343) rfl rfl)⟩
theorem d_Tokens_init_0 : decode b_Tokens_init 0 = .ok (.aload_n 0, 1) := by decide +kernel
theorem d_Tokens_init_1 : decode b_Tokens_init 1 = .ok (.invokespecial 3, 3) := by decide +kernel
theorem d_Tokens_init_4 : decode b_Tokens_init 4 = .ok (.aload_n 0, 1) := by decide +kernel
theorem d_Tokens_init_5 : decode b_Tokens_init 5 = .ok (.sipush 2001, 3) := by decide +kernel
theorem d_Tokens_init_8 : decode b_Tokens_init 8 = .ok (.newarray .int, 2) := by decide +kernel
theorem d_Tokens_init_10 : decode b_Tokens_init 10 = .ok (.putfield 9, 3) := by decide +kernel
theorem d_Tokens_init_13 : decode b_Tokens_init 13 = .ok (.aload_n 0, 1) := by decide +kernel
theorem d_Tokens_init_14 : decode b_Tokens_init 14 = .ok (.sipush 2001, 3) := by decide +kernel
theorem d_Tokens_init_17 : decode b_Tokens_init 17 = .ok (.newarray .int, 2) := by decide +kernel
theorem d_Tokens_init_19 : decode b_Tokens_init 19 = .ok (.putfield 15, 3) := by decide +kernel
theorem d_Tokens_init_22 : decode b_Tokens_init 22 = .ok (.aload_n 0, 1) := by decide +kernel
theorem d_Tokens_init_23 : decode b_Tokens_init 23 = .ok (.sipush 2001, 3) := by decide +kernel
theorem d_Tokens_init_26 : decode b_Tokens_init 26 = .ok (.newarray .int, 2) := by decide +kernel
theorem d_Tokens_init_28 : decode b_Tokens_init 28 = .ok (.putfield 18, 3) := by decide +kernel
theorem d_Tokens_init_31 : decode b_Tokens_init 31 = .ok (.aload_n 0, 1) := by decide +kernel
theorem d_Tokens_init_32 : decode b_Tokens_init 32 = .ok (.sipush 2001, 3) := by decide +kernel
theorem d_Tokens_init_35 : decode b_Tokens_init 35 = .ok (.newarray .int, 2) := by decide +kernel
theorem d_Tokens_init_37 : decode b_Tokens_init 37 = .ok (.putfield 21, 3) := by decide +kernel
theorem d_Tokens_init_40 : decode b_Tokens_init 40 = .ok (.aload_n 0, 1) := by decide +kernel
theorem d_Tokens_init_41 : decode b_Tokens_init 41 = .ok (.sipush 2001, 3) := by decide +kernel
theorem d_Tokens_init_44 : decode b_Tokens_init 44 = .ok (.anewarray 24, 3) := by decide +kernel
theorem d_Tokens_init_47 : decode b_Tokens_init 47 = .ok (.putfield 26, 3) := by decide +kernel
theorem d_Tokens_init_50 : decode b_Tokens_init 50 = .ok (.aload_n 0, 1) := by decide +kernel
theorem d_Tokens_init_51 : decode b_Tokens_init 51 = .ok (.aload_n 1, 1) := by decide +kernel
theorem d_Tokens_init_52 : decode b_Tokens_init 52 = .ok (.putfield 30, 3) := by decide +kernel
theorem d_Tokens_init_55 : decode b_Tokens_init 55 = .ok (.return_, 1) := by decide +kernel
theorem d_Tokens_isLetter_0 : decode b_Tokens_isLetter 0 = .ok (.iload_n 0, 1) := by decide +kernel
theorem d_Tokens_isLetter_1 : decode b_Tokens_isLetter 1 = .ok (.bipush 97, 2) := by decide +kernel
theorem d_Tokens_isLetter_3 : decode b_Tokens_isLetter 3 = .ok (.if_icmp .lt 13, 3) := by decide +kernel
theorem d_Tokens_isLetter_6 : decode b_Tokens_isLetter 6 = .ok (.iload_n 0, 1) := by decide +kernel
theorem d_Tokens_isLetter_7 : decode b_Tokens_isLetter 7 = .ok (.bipush 122, 2) := by decide +kernel
theorem d_Tokens_isLetter_9 : decode b_Tokens_isLetter 9 = .ok (.if_icmp .gt 7, 3) := by decide +kernel
theorem d_Tokens_isLetter_12 : decode b_Tokens_isLetter 12 = .ok (.iconst 1, 1) := by decide +kernel
theorem d_Tokens_isLetter_13 : decode b_Tokens_isLetter 13 = .ok (.goto 4, 3) := by decide +kernel
theorem d_Tokens_isLetter_16 : decode b_Tokens_isLetter 16 = .ok (.iconst 0, 1) := by decide +kernel
theorem d_Tokens_isLetter_17 : decode b_Tokens_isLetter 17 = .ok (.ireturn, 1) := by decide +kernel
theorem d_Tokens_isDigit_0 : decode b_Tokens_isDigit 0 = .ok (.iload_n 0, 1) := by decide +kernel
theorem d_Tokens_isDigit_1 : decode b_Tokens_isDigit 1 = .ok (.bipush 48, 2) := by decide +kernel
theorem d_Tokens_isDigit_3 : decode b_Tokens_isDigit 3 = .ok (.if_icmp .lt 13, 3) := by decide +kernel
theorem d_Tokens_isDigit_6 : decode b_Tokens_isDigit 6 = .ok (.iload_n 0, 1) := by decide +kernel
theorem d_Tokens_isDigit_7 : decode b_Tokens_isDigit 7 = .ok (.bipush 57, 2) := by decide +kernel
theorem d_Tokens_isDigit_9 : decode b_Tokens_isDigit 9 = .ok (.if_icmp .gt 7, 3) := by decide +kernel
theorem d_Tokens_isDigit_12 : decode b_Tokens_isDigit 12 = .ok (.iconst 1, 1) := by decide +kernel
theorem d_Tokens_isDigit_13 : decode b_Tokens_isDigit 13 = .ok (.goto 4, 3) := by decide +kernel
theorem d_Tokens_isDigit_16 : decode b_Tokens_isDigit 16 = .ok (.iconst 0, 1) := by decide +kernel
theorem d_Tokens_isDigit_17 : decode b_Tokens_isDigit 17 = .ok (.ireturn, 1) := by decide +kernel
theorem d_Tokens_isSign_0 : decode b_Tokens_isSign 0 = .ok (.iload_n 0, 1) := by decide +kernel
theorem d_Tokens_isSign_1 : decode b_Tokens_isSign 1 = .ok (.bipush 59, 2) := by decide +kernel
theorem d_Tokens_isSign_3 : decode b_Tokens_isSign 3 = .ok (.if_icmp .eq 33, 3) := by decide +kernel
theorem d_Tokens_isSign_6 : decode b_Tokens_isSign 6 = .ok (.iload_n 0, 1) := by decide +kernel
theorem d_Tokens_isSign_7 : decode b_Tokens_isSign 7 = .ok (.bipush 123, 2) := by decide +kernel
theorem d_Tokens_isSign_9 : decode b_Tokens_isSign 9 = .ok (.if_icmp .eq 27, 3) := by decide +kernel
theorem d_Tokens_isSign_12 : decode b_Tokens_isSign 12 = .ok (.iload_n 0, 1) := by decide +kernel
theorem d_Tokens_isSign_13 : decode b_Tokens_isSign 13 = .ok (.bipush 125, 2) := by decide +kernel
theorem d_Tokens_isSign_15 : decode b_Tokens_isSign 15 = .ok (.if_icmp .eq 21, 3) := by decide +kernel
theorem d_Tokens_isSign_18 : decode b_Tokens_isSign 18 = .ok (.iload_n 0, 1) := by decide +kernel
theorem d_Tokens_isSign_19 : decode b_Tokens_isSign 19 = .ok (.bipush 61, 2) := by decide +kernel
theorem d_Tokens_isSign_21 : decode b_Tokens_isSign 21 = .ok (.if_icmp .eq 15, 3) := by decide +kernel
theorem d_Tokens_isSign_24 : decode b_Tokens_isSign 24 = .ok (.iload_n 0, 1) := by decide +kernel
theorem d_Tokens_isSign_25 : decode b_Tokens_isSign 25 = .ok (.bipush 60, 2) := by decide +kernel
theorem d_Tokens_isSign_27 : decode b_Tokens_isSign 27 = .ok (.if_icmp .eq 9, 3) := by decide +kernel
theorem d_Tokens_isSign_30 : decode b_Tokens_isSign 30 = .ok (.iload_n 0, 1) := by decide +kernel
theorem d_Tokens_isSign_31 : decode b_Tokens_isSign 31 = .ok (.bipush 62, 2) := by decide +kernel
theorem d_Tokens_isSign_33 : decode b_Tokens_isSign 33 = .ok (.if_icmp .ne 7, 3) := by decide +kernel
theorem d_Tokens_isSign_36 : decode b_Tokens_isSign 36 = .ok (.iconst 1, 1) := by decide +kernel
theorem d_Tokens_isSign_37 : decode b_Tokens_isSign 37 = .ok (.goto 4, 3) := by decide +kernel
theorem d_Tokens_isSign_40 : decode b_Tokens_isSign 40 = .ok (.iconst 0, 1) := by decide +kernel
theorem d_Tokens_isSign_41 : decode b_Tokens_isSign 41 = .ok (.ireturn, 1) := by decide +kernel
theorem d_Tokens_mayNotTouch_0 : decode b_Tokens_mayNotTouch 0 = .ok (.iload_n 0, 1) := by decide +kernel
theorem d_Tokens_mayNotTouch_1 : decode b_Tokens_mayNotTouch 1 = .ok (.iconst 1, 1) := by decide +kernel
theorem d_Tokens_mayNotTouch_2 : decode b_Tokens_mayNotTouch 2 = .ok (.if_icmp .ne 8, 3) := by decide +kernel
theorem d_Tokens_mayNotTouch_5 : decode b_Tokens_mayNotTouch 5 = .ok (.iload_n 1, 1) := by decide +kernel
theorem d_Tokens_mayNotTouch_6 : decode b_Tokens_mayNotTouch 6 = .ok (.iconst 2, 1) := by decide +kernel
theorem d_Tokens_mayNotTouch_7 : decode b_Tokens_mayNotTouch 7 = .ok (.if_icmp .eq 13, 3) := by decide +kernel
theorem d_Tokens_mayNotTouch_10 : decode b_Tokens_mayNotTouch 10 = .ok (.iload_n 0, 1) := by decide +kernel
theorem d_Tokens_mayNotTouch_11 : decode b_Tokens_mayNotTouch 11 = .ok (.iconst 2, 1) := by decide +kernel
theorem d_Tokens_mayNotTouch_12 : decode b_Tokens_mayNotTouch 12 = .ok (.if_icmp .ne 12, 3) := by decide +kernel
theorem d_Tokens_mayNotTouch_15 : decode b_Tokens_mayNotTouch 15 = .ok (.iload_n 1, 1) := by decide +kernel
theorem d_Tokens_mayNotTouch_16 : decode b_Tokens_mayNotTouch 16 = .ok (.iconst 1, 1) := by decide +kernel
theorem d_Tokens_mayNotTouch_17 : decode b_Tokens_mayNotTouch 17 = .ok (.if_icmp .ne 7, 3) := by decide +kernel
theorem d_Tokens_mayNotTouch_20 : decode b_Tokens_mayNotTouch 20 = .ok (.iconst 1, 1) := by decide +kernel
theorem d_Tokens_mayNotTouch_21 : decode b_Tokens_mayNotTouch 21 = .ok (.goto 4, 3) := by decide +kernel
theorem d_Tokens_mayNotTouch_24 : decode b_Tokens_mayNotTouch 24 = .ok (.iconst 0, 1) := by decide +kernel
theorem d_Tokens_mayNotTouch_25 : decode b_Tokens_mayNotTouch 25 = .ok (.ireturn, 1) := by decide +kernel
theorem d_Tokens_behindBlanks_0 : decode b_Tokens_behindBlanks 0 = .ok (.iload_n 1, 1) := by decide +kernel
theorem d_Tokens_behindBlanks_1 : decode b_Tokens_behindBlanks 1 = .ok (.istore_n 2, 1) := by decide +kernel
theorem d_Tokens_behindBlanks_2 : decode b_Tokens_behindBlanks 2 = .ok (.iload_n 2, 1) := by decide +kernel
theorem d_Tokens_behindBlanks_3 : decode b_Tokens_behindBlanks 3 = .ok (.aload_n 0, 1) := by decide +kernel
theorem d_Tokens_behindBlanks_4 : decode b_Tokens_behindBlanks 4 = .ok (.getfield 30, 3) := by decide +kernel
theorem d_Tokens_behindBlanks_7 : decode b_Tokens_behindBlanks 7 = .ok (.getfield 85, 3) := by decide +kernel
theorem d_Tokens_behindBlanks_10 : decode b_Tokens_behindBlanks 10 = .ok (.if_icmp .ge 35, 3) := by decide +kernel
theorem d_Tokens_behindBlanks_13 : decode b_Tokens_behindBlanks 13 = .ok (.aload_n 0, 1) := by decide +kernel
theorem d_Tokens_behindBlanks_14 : decode b_Tokens_behindBlanks 14 = .ok (.getfield 30, 3) := by decide +kernel
theorem d_Tokens_behindBlanks_17 : decode b_Tokens_behindBlanks 17 = .ok (.iload_n 2, 1) := by decide +kernel
theorem d_Tokens_behindBlanks_18 : decode b_Tokens_behindBlanks 18 = .ok (.invokevirtual 80, 3) := by decide +kernel
theorem d_Tokens_behindBlanks_21 : decode b_Tokens_behindBlanks 21 = .ok (.bipush 32, 2) := by decide +kernel
theorem d_Tokens_behindBlanks_23 : decode b_Tokens_behindBlanks 23 = .ok (.if_icmp .eq 16, 3) := by decide +kernel
theorem d_Tokens_behindBlanks_26 : decode b_Tokens_behindBlanks 26 = .ok (.aload_n 0, 1) := by decide +kernel
theorem d_Tokens_behindBlanks_27 : decode b_Tokens_behindBlanks 27 = .ok (.getfield 30, 3) := by decide +kernel
theorem d_Tokens_behindBlanks_30 : decode b_Tokens_behindBlanks 30 = .ok (.iload_n 2, 1) := by decide +kernel
theorem d_Tokens_behindBlanks_31 : decode b_Tokens_behindBlanks 31 = .ok (.invokevirtual 80, 3) := by decide +kernel
theorem d_Tokens_behindBlanks_34 : decode b_Tokens_behindBlanks 34 = .ok (.bipush 10, 2) := by decide +kernel
theorem d_Tokens_behindBlanks_36 : decode b_Tokens_behindBlanks 36 = .ok (.if_icmp .ne 9, 3) := by decide +kernel
theorem d_Tokens_behindBlanks_39 : decode b_Tokens_behindBlanks 39 = .ok (.iinc 2 1, 3) := by decide +kernel
theorem d_Tokens_behindBlanks_42 : decode b_Tokens_behindBlanks 42 = .ok (.goto (-40), 3) := by decide +kernel
theorem d_Tokens_behindBlanks_45 : decode b_Tokens_behindBlanks 45 = .ok (.iload_n 2, 1) := by decide +kernel
theorem d_Tokens_behindBlanks_46 : decode b_Tokens_behindBlanks 46 = .ok (.ireturn, 1) := by decide +kernel
theorem d_Tokens_scanNumber_0 : decode b_Tokens_scanNumber 0 = .ok (.aload_n 0, 1) := by decide +kernel
theorem d_Tokens_scanNumber_1 : decode b_Tokens_scanNumber 1 = .ok (.aload_n 0, 1) := by decide +kernel
theorem d_Tokens_scanNumber_2 : decode b_Tokens_scanNumber 2 = .ok (.getfield 57, 3) := by decide +kernel
theorem d_Tokens_scanNumber_5 : decode b_Tokens_scanNumber 5 = .ok (.putfield 41, 3) := by decide +kernel
theorem d_Tokens_scanNumber_8 : decode b_Tokens_scanNumber 8 = .ok (.aload_n 0, 1) := by decide +kernel
theorem d_Tokens_scanNumber_9 : decode b_Tokens_scanNumber 9 = .ok (.iconst 0, 1) := by decide +kernel
theorem d_Tokens_scanNumber_10 : decode b_Tokens_scanNumber 10 = .ok (.putfield 60, 3) := by decide +kernel
theorem d_Tokens_scanNumber_13 : decode b_Tokens_scanNumber 13 = .ok (.aload_n 0, 1) := by decide +kernel
theorem d_Tokens_scanNumber_14 : decode b_Tokens_scanNumber 14 = .ok (.getfield 41, 3) := by decide +kernel
theorem d_Tokens_scanNumber_17 : decode b_Tokens_scanNumber 17 = .ok (.aload_n 0, 1) := by decide +kernel
theorem d_Tokens_scanNumber_18 : decode b_Tokens_scanNumber 18 = .ok (.getfield 30, 3) := by decide +kernel
theorem d_Tokens_scanNumber_21 : decode b_Tokens_scanNumber 21 = .ok (.getfield 85, 3) := by decide +kernel
theorem d_Tokens_scanNumber_24 : decode b_Tokens_scanNumber 24 = .ok (.if_icmp .ge 73, 3) := by decide +kernel
theorem d_Tokens_scanNumber_27 : decode b_Tokens_scanNumber 27 = .ok (.aload_n 0, 1) := by decide +kernel
theorem d_Tokens_scanNumber_28 : decode b_Tokens_scanNumber 28 = .ok (.getfield 30, 3) := by decide +kernel
theorem d_Tokens_scanNumber_31 : decode b_Tokens_scanNumber 31 = .ok (.aload_n 0, 1) := by decide +kernel
theorem d_Tokens_scanNumber_32 : decode b_Tokens_scanNumber 32 = .ok (.getfield 41, 3) := by decide +kernel
theorem d_Tokens_scanNumber_35 : decode b_Tokens_scanNumber 35 = .ok (.invokevirtual 80, 3) := by decide +kernel
theorem d_Tokens_scanNumber_38 : decode b_Tokens_scanNumber 38 = .ok (.invokestatic 95, 3) := by decide +kernel
theorem d_Tokens_scanNumber_41 : decode b_Tokens_scanNumber 41 = .ok (.ifCond .eq 56, 3) := by decide +kernel
theorem d_Tokens_scanNumber_44 : decode b_Tokens_scanNumber 44 = .ok (.aload_n 0, 1) := by decide +kernel
theorem d_Tokens_scanNumber_45 : decode b_Tokens_scanNumber 45 = .ok (.getfield 41, 3) := by decide +kernel
theorem d_Tokens_scanNumber_48 : decode b_Tokens_scanNumber 48 = .ok (.aload_n 0, 1) := by decide +kernel
theorem d_Tokens_scanNumber_49 : decode b_Tokens_scanNumber 49 = .ok (.getfield 57, 3) := by decide +kernel
theorem d_Tokens_scanNumber_52 : decode b_Tokens_scanNumber 52 = .ok (.isub, 1) := by decide +kernel
theorem d_Tokens_scanNumber_53 : decode b_Tokens_scanNumber 53 = .ok (.bipush 6, 2) := by decide +kernel
theorem d_Tokens_scanNumber_55 : decode b_Tokens_scanNumber 55 = .ok (.if_icmp .ge 29, 3) := by decide +kernel
theorem d_Tokens_scanNumber_58 : decode b_Tokens_scanNumber 58 = .ok (.aload_n 0, 1) := by decide +kernel
theorem d_Tokens_scanNumber_59 : decode b_Tokens_scanNumber 59 = .ok (.aload_n 0, 1) := by decide +kernel
theorem d_Tokens_scanNumber_60 : decode b_Tokens_scanNumber 60 = .ok (.getfield 60, 3) := by decide +kernel
theorem d_Tokens_scanNumber_63 : decode b_Tokens_scanNumber 63 = .ok (.bipush 10, 2) := by decide +kernel
theorem d_Tokens_scanNumber_65 : decode b_Tokens_scanNumber 65 = .ok (.imul, 1) := by decide +kernel
theorem d_Tokens_scanNumber_66 : decode b_Tokens_scanNumber 66 = .ok (.aload_n 0, 1) := by decide +kernel
theorem d_Tokens_scanNumber_67 : decode b_Tokens_scanNumber 67 = .ok (.getfield 30, 3) := by decide +kernel
theorem d_Tokens_scanNumber_70 : decode b_Tokens_scanNumber 70 = .ok (.aload_n 0, 1) := by decide +kernel
theorem d_Tokens_scanNumber_71 : decode b_Tokens_scanNumber 71 = .ok (.getfield 41, 3) := by decide +kernel
theorem d_Tokens_scanNumber_74 : decode b_Tokens_scanNumber 74 = .ok (.invokevirtual 80, 3) := by decide +kernel
theorem d_Tokens_scanNumber_77 : decode b_Tokens_scanNumber 77 = .ok (.iadd, 1) := by decide +kernel
theorem d_Tokens_scanNumber_78 : decode b_Tokens_scanNumber 78 = .ok (.bipush 48, 2) := by decide +kernel
theorem d_Tokens_scanNumber_80 : decode b_Tokens_scanNumber 80 = .ok (.isub, 1) := by decide +kernel
theorem d_Tokens_scanNumber_81 : decode b_Tokens_scanNumber 81 = .ok (.putfield 60, 3) := by decide +kernel
theorem d_Tokens_scanNumber_84 : decode b_Tokens_scanNumber 84 = .ok (.aload_n 0, 1) := by decide +kernel
theorem d_Tokens_scanNumber_85 : decode b_Tokens_scanNumber 85 = .ok (.dup, 1) := by decide +kernel
theorem d_Tokens_scanNumber_86 : decode b_Tokens_scanNumber 86 = .ok (.getfield 41, 3) := by decide +kernel
theorem d_Tokens_scanNumber_89 : decode b_Tokens_scanNumber 89 = .ok (.iconst 1, 1) := by decide +kernel
theorem d_Tokens_scanNumber_90 : decode b_Tokens_scanNumber 90 = .ok (.iadd, 1) := by decide +kernel
theorem d_Tokens_scanNumber_91 : decode b_Tokens_scanNumber 91 = .ok (.putfield 41, 3) := by decide +kernel
theorem d_Tokens_scanNumber_94 : decode b_Tokens_scanNumber 94 = .ok (.goto (-81), 3) := by decide +kernel
theorem d_Tokens_scanNumber_97 : decode b_Tokens_scanNumber 97 = .ok (.aload_n 0, 1) := by decide +kernel
theorem d_Tokens_scanNumber_98 : decode b_Tokens_scanNumber 98 = .ok (.aload_n 0, 1) := by decide +kernel
theorem d_Tokens_scanNumber_99 : decode b_Tokens_scanNumber 99 = .ok (.getfield 41, 3) := by decide +kernel
theorem d_Tokens_scanNumber_102 : decode b_Tokens_scanNumber 102 = .ok (.aload_n 0, 1) := by decide +kernel
theorem d_Tokens_scanNumber_103 : decode b_Tokens_scanNumber 103 = .ok (.getfield 57, 3) := by decide +kernel
theorem d_Tokens_scanNumber_106 : decode b_Tokens_scanNumber 106 = .ok (.isub, 1) := by decide +kernel
theorem d_Tokens_scanNumber_107 : decode b_Tokens_scanNumber 107 = .ok (.bipush 6, 2) := by decide +kernel
theorem d_Tokens_scanNumber_109 : decode b_Tokens_scanNumber 109 = .ok (.if_icmp .le 7, 3) := by decide +kernel
theorem d_Tokens_scanNumber_112 : decode b_Tokens_scanNumber 112 = .ok (.iconst 4, 1) := by decide +kernel
theorem d_Tokens_scanNumber_113 : decode b_Tokens_scanNumber 113 = .ok (.goto 4, 3) := by decide +kernel
theorem d_Tokens_scanNumber_116 : decode b_Tokens_scanNumber 116 = .ok (.iconst 2, 1) := by decide +kernel
theorem d_Tokens_scanNumber_117 : decode b_Tokens_scanNumber 117 = .ok (.putfield 38, 3) := by decide +kernel
theorem d_Tokens_scanNumber_120 : decode b_Tokens_scanNumber 120 = .ok (.return_, 1) := by decide +kernel
set_option maxHeartbeats 4000000 in
set_option maxRecDepth 100000 in
theorem c_Tokens_init (g : GG) (l : Launch) {a : Nat} {t : Nat}   : Cn g l y_Tokens_init b_Tokens_init 2 none (rmk 1 5 10005 12) [.ref a, .ref t] ([(a, .inr (2, [.null, .null, .null, .null, .null, .null, .int (nI 0), .int (nI 0), .int (nI 0), .int (nI 0), .int (nI 0), .int (nI 0), .null]))]) (fun (r0 : Option Value) (w0 : va_W) => ∃ zs : Nat, ∃ zb : Nat, ∃ ze : Nat, ∃ zv : Nat, ∃ zw : Nat, r0 = none ∧ w0 = [(a, .inr (2, [.ref t, .ref zs, .ref zb, .ref ze, .ref zv, .ref zw, .int (nI 0), .int (nI 0), .int (nI 0), .int (nI 0), .int (nI 0), .int (nI 0), .null])), (zs, .inl (g.2.1 0, 2001, .inl (aI (fun _ => 0)))), (zb, .inl (g.2.1 0, 2001, .inl (aI (fun _ => 0)))), (ze, .inl (g.2.1 0, 2001, .inl (aI (fun _ => 0)))), (zv, .inl (g.2.1 0, 2001, .inl (oA (fun _ => some 0)))), (zw, .inl (g.2.1 6, 2001, .inr (.inr (.inr (.inr (fun _ => none))))))]) := by
  refine Cn.of R_Tokens [(0, .ref a), (1, .ref t)] (by decide) rfl (Nat.le_of_ble_eq_true rfl) rfl ?_
  intro x A Q hR hXl hin C E
  subst hXl
  refine r_aload_n C 0 d_Tokens_init_0 rfl rfl ?_
  refine r_objInit C d_Tokens_init_1 ml_Tokens_3 oi_1 oi_2 (by rw [hR]; decide) (by rw [hR]; decide) ?_
  refine r_aload_n C 0 d_Tokens_init_4 rfl rfl ?_
  refine r_sipush C (nI 2001) d_Tokens_init_5 (by decide) ?_
  refine r_newn C 0 d_Tokens_init_8 rfl ac_int rfl (fun _ => rfl) (by decide) (by decide) (by rw [hR]; decide) (by rw [hR]; decide) (fun q_8 => ?_)
  refine r_norm (ws' := [(a, .inr (2, [.null, .null, .null, .null, .null, .null, .int (nI 0), .int (nI 0), .int (nI 0), .int (nI 0), .int (nI 0), .int (nI 0), .null])), (q_8, .inl (g.2.1 0, 2001, .inl (aI (fun _ => 0))))]) (st' := [.ref q_8, .ref a]) (n1 := 0 + 1) (n2 := 0 + 2001) rfl rfl rfl rfl ?_
  refine r_putF C hin (ws' := [(a, .inr (2, [.null, .ref q_8, .null, .null, .null, .null, .int (nI 0), .int (nI 0), .int (nI 0), .int (nI 0), .int (nI 0), .int (nI 0), .null])), (q_8, .inl (g.2.1 0, 2001, .inl (aI (fun _ => 0))))]) 0 1 d_Tokens_init_10 ci_Tokens fl_Tokens_9 rfl rfl (by decide) rfl rfl (rfl) (rfl) (by simp) rfl ?_
  refine r_aload_n C 0 d_Tokens_init_13 rfl rfl ?_
  refine r_sipush C (nI 2001) d_Tokens_init_14 (by decide) ?_
  refine r_newn C 0 d_Tokens_init_17 rfl ac_int rfl (fun _ => rfl) (by decide) (by decide) (by rw [hR]; decide) (by rw [hR]; decide) (fun q_17 => ?_)
  refine r_norm (ws' := [(a, .inr (2, [.null, .ref q_8, .null, .null, .null, .null, .int (nI 0), .int (nI 0), .int (nI 0), .int (nI 0), .int (nI 0), .int (nI 0), .null])), (q_8, .inl (g.2.1 0, 2001, .inl (aI (fun _ => 0)))), (q_17, .inl (g.2.1 0, 2001, .inl (aI (fun _ => 0))))]) (st' := [.ref q_17, .ref a]) (n1 := 0 + 1 + 1) (n2 := 0 + 2001 + 2001) rfl rfl rfl rfl ?_
  refine r_putF C hin (ws' := [(a, .inr (2, [.null, .ref q_8, .ref q_17, .null, .null, .null, .int (nI 0), .int (nI 0), .int (nI 0), .int (nI 0), .int (nI 0), .int (nI 0), .null])), (q_8, .inl (g.2.1 0, 2001, .inl (aI (fun _ => 0)))), (q_17, .inl (g.2.1 0, 2001, .inl (aI (fun _ => 0))))]) 0 2 d_Tokens_init_19 ci_Tokens fl_Tokens_15 rfl rfl (by decide) rfl rfl (rfl) (rfl) (by simp) rfl ?_
  refine r_aload_n C 0 d_Tokens_init_22 rfl rfl ?_
  refine r_sipush C (nI 2001) d_Tokens_init_23 (by decide) ?_
  refine r_newn C 0 d_Tokens_init_26 rfl ac_int rfl (fun _ => rfl) (by decide) (by decide) (by rw [hR]; decide) (by rw [hR]; decide) (fun q_26 => ?_)
  refine r_norm (ws' := [(a, .inr (2, [.null, .ref q_8, .ref q_17, .null, .null, .null, .int (nI 0), .int (nI 0), .int (nI 0), .int (nI 0), .int (nI 0), .int (nI 0), .null])), (q_8, .inl (g.2.1 0, 2001, .inl (aI (fun _ => 0)))), (q_17, .inl (g.2.1 0, 2001, .inl (aI (fun _ => 0)))), (q_26, .inl (g.2.1 0, 2001, .inl (aI (fun _ => 0))))]) (st' := [.ref q_26, .ref a]) (n1 := 0 + 1 + 1 + 1) (n2 := 0 + 2001 + 2001 + 2001) rfl rfl rfl rfl ?_
  refine r_putF C hin (ws' := [(a, .inr (2, [.null, .ref q_8, .ref q_17, .ref q_26, .null, .null, .int (nI 0), .int (nI 0), .int (nI 0), .int (nI 0), .int (nI 0), .int (nI 0), .null])), (q_8, .inl (g.2.1 0, 2001, .inl (aI (fun _ => 0)))), (q_17, .inl (g.2.1 0, 2001, .inl (aI (fun _ => 0)))), (q_26, .inl (g.2.1 0, 2001, .inl (aI (fun _ => 0))))]) 0 3 d_Tokens_init_28 ci_Tokens fl_Tokens_18 rfl rfl (by decide) rfl rfl (rfl) (rfl) (by simp) rfl ?_
  refine r_aload_n C 0 d_Tokens_init_31 rfl rfl ?_
  refine r_sipush C (nI 2001) d_Tokens_init_32 (by decide) ?_
  refine r_newn C 0 d_Tokens_init_35 rfl ac_int rfl (fun _ => rfl) (by decide) (by decide) (by rw [hR]; decide) (by rw [hR]; decide) (fun q_35 => ?_)
  refine r_norm (ws' := [(a, .inr (2, [.null, .ref q_8, .ref q_17, .ref q_26, .null, .null, .int (nI 0), .int (nI 0), .int (nI 0), .int (nI 0), .int (nI 0), .int (nI 0), .null])), (q_8, .inl (g.2.1 0, 2001, .inl (aI (fun _ => 0)))), (q_17, .inl (g.2.1 0, 2001, .inl (aI (fun _ => 0)))), (q_26, .inl (g.2.1 0, 2001, .inl (aI (fun _ => 0)))), (q_35, .inl (g.2.1 0, 2001, .inl (aI (fun _ => 0))))]) (st' := [.ref q_35, .ref a]) (n1 := 0 + 1 + 1 + 1 + 1) (n2 := 0 + 2001 + 2001 + 2001 + 2001) rfl rfl rfl rfl ?_
  refine r_putF C hin (ws' := [(a, .inr (2, [.null, .ref q_8, .ref q_17, .ref q_26, .ref q_35, .null, .int (nI 0), .int (nI 0), .int (nI 0), .int (nI 0), .int (nI 0), .int (nI 0), .null])), (q_8, .inl (g.2.1 0, 2001, .inl (aI (fun _ => 0)))), (q_17, .inl (g.2.1 0, 2001, .inl (aI (fun _ => 0)))), (q_26, .inl (g.2.1 0, 2001, .inl (aI (fun _ => 0)))), (q_35, .inl (g.2.1 0, 2001, .inl (aI (fun _ => 0))))]) 0 4 d_Tokens_init_37 ci_Tokens fl_Tokens_21 rfl rfl (by decide) rfl rfl (rfl) (rfl) (by simp) rfl ?_
  refine r_aload_n C 0 d_Tokens_init_40 rfl rfl ?_
  refine r_sipush C (nI 2001) d_Tokens_init_41 (by decide) ?_
  refine r_newq C 6 d_Tokens_init_44 cl_Tokens_24 ao_Word rfl (by decide) (by decide) (by rw [hR]; decide) (by rw [hR]; decide) (fun q_44 => ?_)
  refine r_norm (ws' := [(a, .inr (2, [.null, .ref q_8, .ref q_17, .ref q_26, .ref q_35, .null, .int (nI 0), .int (nI 0), .int (nI 0), .int (nI 0), .int (nI 0), .int (nI 0), .null])), (q_8, .inl (g.2.1 0, 2001, .inl (aI (fun _ => 0)))), (q_17, .inl (g.2.1 0, 2001, .inl (aI (fun _ => 0)))), (q_26, .inl (g.2.1 0, 2001, .inl (aI (fun _ => 0)))), (q_35, .inl (g.2.1 0, 2001, .inl (aI (fun _ => 0)))), (q_44, .inl (g.2.1 6, 2001, .inr (.inr (.inr (.inr (fun _ => none))))))]) (st' := [.ref q_44, .ref a]) (n1 := 0 + 1 + 1 + 1 + 1 + 1) (n2 := 0 + 2001 + 2001 + 2001 + 2001 + 2001) rfl rfl rfl rfl ?_
  refine r_putF C hin (ws' := [(a, .inr (2, [.null, .ref q_8, .ref q_17, .ref q_26, .ref q_35, .ref q_44, .int (nI 0), .int (nI 0), .int (nI 0), .int (nI 0), .int (nI 0), .int (nI 0), .null])), (q_8, .inl (g.2.1 0, 2001, .inl (aI (fun _ => 0)))), (q_17, .inl (g.2.1 0, 2001, .inl (aI (fun _ => 0)))), (q_26, .inl (g.2.1 0, 2001, .inl (aI (fun _ => 0)))), (q_35, .inl (g.2.1 0, 2001, .inl (aI (fun _ => 0)))), (q_44, .inl (g.2.1 6, 2001, .inr (.inr (.inr (.inr (fun _ => none))))))]) 0 5 d_Tokens_init_47 ci_Tokens fl_Tokens_26 rfl rfl (by decide) rfl rfl (rfl) (rfl) (by simp) rfl ?_
  refine r_aload_n C 0 d_Tokens_init_50 rfl rfl ?_
  refine r_aload_n C 1 d_Tokens_init_51 rfl rfl ?_
  refine r_putF C hin (ws' := [(a, .inr (2, [.ref t, .ref q_8, .ref q_17, .ref q_26, .ref q_35, .ref q_44, .int (nI 0), .int (nI 0), .int (nI 0), .int (nI 0), .int (nI 0), .int (nI 0), .null])), (q_8, .inl (g.2.1 0, 2001, .inl (aI (fun _ => 0)))), (q_17, .inl (g.2.1 0, 2001, .inl (aI (fun _ => 0)))), (q_26, .inl (g.2.1 0, 2001, .inl (aI (fun _ => 0)))), (q_35, .inl (g.2.1 0, 2001, .inl (aI (fun _ => 0)))), (q_44, .inl (g.2.1 6, 2001, .inr (.inr (.inr (.inr (fun _ => none))))))]) 0 0 d_Tokens_init_52 ci_Tokens fl_Tokens_30 rfl rfl (by decide) rfl rfl (rfl) (rfl) (by simp) rfl ?_
  refine r_vret C E d_Tokens_init_55 (by first | decide | omega | (simp only [rmk]; omega)) (by first | decide | omega | (simp only [rmk]; omega)) ?_
  exact ⟨_, _, _, _, _, rfl, rfl⟩

set_option maxHeartbeats 4000000 in
set_option maxRecDepth 100000 in
theorem c_Tokens_isLetter (g : GG) (l : Launch) {c : Nat}  (hc : c < 2 ^ 31) : Cn g l y_Tokens_isLetter b_Tokens_isLetter 1 (some .boolean) (rmk 0 0 0 0) [.int (nI c)] ([]) (fun (r0 : Option Value) (w0 : va_W) => r0 = some (.int (bI (isLet c))) ∧ w0 = []) := by
  refine Cn.of R_Tokens [(0, .int (nI c))] (by decide) rfl (Nat.le_of_ble_eq_true rfl) rfl ?_
  intro x A Q hR hXl hin C E
  subst hXl
  refine r_iload_n C 0 d_Tokens_isLetter_0 rfl rfl ?_
  refine r_bipush C (nI 97) d_Tokens_isLetter_1 (by decide) ?_
  refine r_ncmp_lt C 16 d_Tokens_isLetter_3 (by decide) (by omega) (by omega) (fun c_3 => ?_) (fun c_3 => ?_)
  · skip
    refine r_iconst C (nI 0) d_Tokens_isLetter_16 (by decide) ?_
    refine r_eqS (st' := [.int (bI false)]) rfl ?_
    refine r_bret C E d_Tokens_isLetter_17 (by first | decide | omega | (simp only [rmk]; omega)) (by first | decide | omega | (simp only [rmk]; omega)) ?_
    exact ⟨bsome (by symm; simp [isLet]; omega), rfl⟩
  · skip
    refine r_iload_n C 0 d_Tokens_isLetter_6 rfl rfl ?_
    refine r_bipush C (nI 122) d_Tokens_isLetter_7 (by decide) ?_
    refine r_ncmp_gt C 16 d_Tokens_isLetter_9 (by decide) (by omega) (by omega) (fun c_9 => ?_) (fun c_9 => ?_)
    · skip
      refine r_iconst C (nI 0) d_Tokens_isLetter_16 (by decide) ?_
      refine r_eqS (st' := [.int (bI false)]) rfl ?_
      refine r_bret C E d_Tokens_isLetter_17 (by first | decide | omega | (simp only [rmk]; omega)) (by first | decide | omega | (simp only [rmk]; omega)) ?_
      exact ⟨bsome (by symm; simp [isLet]; omega), rfl⟩
    · skip
      refine r_iconst C (nI 1) d_Tokens_isLetter_12 (by decide) ?_
      refine r_goto C 17 d_Tokens_isLetter_13 (by decide) ?_
      refine r_eqS (st' := [.int (bI true)]) rfl ?_
      refine r_bret C E d_Tokens_isLetter_17 (by first | decide | omega | (simp only [rmk]; omega)) (by first | decide | omega | (simp only [rmk]; omega)) ?_
      exact ⟨bsome (by symm; simp [isLet]; omega), rfl⟩

set_option maxHeartbeats 4000000 in
set_option maxRecDepth 100000 in
theorem c_Tokens_isDigit (g : GG) (l : Launch) {c : Nat}  (hc : c < 2 ^ 31) : Cn g l y_Tokens_isDigit b_Tokens_isDigit 1 (some .boolean) (rmk 0 0 0 0) [.int (nI c)] ([]) (fun (r0 : Option Value) (w0 : va_W) => r0 = some (.int (bI (isDig c))) ∧ w0 = []) := by
  refine Cn.of R_Tokens [(0, .int (nI c))] (by decide) rfl (Nat.le_of_ble_eq_true rfl) rfl ?_
  intro x A Q hR hXl hin C E
  subst hXl
  refine r_iload_n C 0 d_Tokens_isDigit_0 rfl rfl ?_
  refine r_bipush C (nI 48) d_Tokens_isDigit_1 (by decide) ?_
  refine r_ncmp_lt C 16 d_Tokens_isDigit_3 (by decide) (by omega) (by omega) (fun c_3 => ?_) (fun c_3 => ?_)
  · skip
    refine r_iconst C (nI 0) d_Tokens_isDigit_16 (by decide) ?_
    refine r_eqS (st' := [.int (bI false)]) rfl ?_
    refine r_bret C E d_Tokens_isDigit_17 (by first | decide | omega | (simp only [rmk]; omega)) (by first | decide | omega | (simp only [rmk]; omega)) ?_
    exact ⟨bsome (by symm; simp [isDig]; omega), rfl⟩
  · skip
    refine r_iload_n C 0 d_Tokens_isDigit_6 rfl rfl ?_
    refine r_bipush C (nI 57) d_Tokens_isDigit_7 (by decide) ?_
    refine r_ncmp_gt C 16 d_Tokens_isDigit_9 (by decide) (by omega) (by omega) (fun c_9 => ?_) (fun c_9 => ?_)
    · skip
      refine r_iconst C (nI 0) d_Tokens_isDigit_16 (by decide) ?_
      refine r_eqS (st' := [.int (bI false)]) rfl ?_
      refine r_bret C E d_Tokens_isDigit_17 (by first | decide | omega | (simp only [rmk]; omega)) (by first | decide | omega | (simp only [rmk]; omega)) ?_
      exact ⟨bsome (by symm; simp [isDig]; omega), rfl⟩
    · skip
      refine r_iconst C (nI 1) d_Tokens_isDigit_12 (by decide) ?_
      refine r_goto C 17 d_Tokens_isDigit_13 (by decide) ?_
      refine r_eqS (st' := [.int (bI true)]) rfl ?_
      refine r_bret C E d_Tokens_isDigit_17 (by first | decide | omega | (simp only [rmk]; omega)) (by first | decide | omega | (simp only [rmk]; omega)) ?_
      exact ⟨bsome (by symm; simp [isDig]; omega), rfl⟩

set_option maxHeartbeats 4000000 in
set_option maxRecDepth 100000 in
theorem c_Tokens_isSign (g : GG) (l : Launch) {c : Nat}  (hc : c < 2 ^ 31) : Cn g l y_Tokens_isSign b_Tokens_isSign 1 (some .boolean) (rmk 0 0 0 0) [.int (nI c)] ([]) (fun (r0 : Option Value) (w0 : va_W) => r0 = some (.int (bI (isSgn c))) ∧ w0 = []) := by
  refine Cn.of R_Tokens [(0, .int (nI c))] (by decide) rfl (Nat.le_of_ble_eq_true rfl) rfl ?_
  intro x A Q hR hXl hin C E
  subst hXl
  refine r_iload_n C 0 d_Tokens_isSign_0 rfl rfl ?_
  refine r_bipush C (nI 59) d_Tokens_isSign_1 (by decide) ?_
  refine r_ncmp_eq C 36 d_Tokens_isSign_3 (by decide) (by omega) (by omega) (fun c_3 => ?_) (fun c_3 => ?_)
  · skip
    refine r_iconst C (nI 1) d_Tokens_isSign_36 (by decide) ?_
    refine r_goto C 41 d_Tokens_isSign_37 (by decide) ?_
    refine r_eqS (st' := [.int (bI true)]) rfl ?_
    refine r_bret C E d_Tokens_isSign_41 (by first | decide | omega | (simp only [rmk]; omega)) (by first | decide | omega | (simp only [rmk]; omega)) ?_
    exact ⟨bsome (by symm; simp [isSgn]; omega), rfl⟩
  · skip
    refine r_iload_n C 0 d_Tokens_isSign_6 rfl rfl ?_
    refine r_bipush C (nI 123) d_Tokens_isSign_7 (by decide) ?_
    refine r_ncmp_eq C 36 d_Tokens_isSign_9 (by decide) (by omega) (by omega) (fun c_9 => ?_) (fun c_9 => ?_)
    · skip
      refine r_iconst C (nI 1) d_Tokens_isSign_36 (by decide) ?_
      refine r_goto C 41 d_Tokens_isSign_37 (by decide) ?_
      refine r_eqS (st' := [.int (bI true)]) rfl ?_
      refine r_bret C E d_Tokens_isSign_41 (by first | decide | omega | (simp only [rmk]; omega)) (by first | decide | omega | (simp only [rmk]; omega)) ?_
      exact ⟨bsome (by symm; simp [isSgn]; omega), rfl⟩
    · skip
      refine r_iload_n C 0 d_Tokens_isSign_12 rfl rfl ?_
      refine r_bipush C (nI 125) d_Tokens_isSign_13 (by decide) ?_
      refine r_ncmp_eq C 36 d_Tokens_isSign_15 (by decide) (by omega) (by omega) (fun c_15 => ?_) (fun c_15 => ?_)
      · skip
        refine r_iconst C (nI 1) d_Tokens_isSign_36 (by decide) ?_
        refine r_goto C 41 d_Tokens_isSign_37 (by decide) ?_
        refine r_eqS (st' := [.int (bI true)]) rfl ?_
        refine r_bret C E d_Tokens_isSign_41 (by first | decide | omega | (simp only [rmk]; omega)) (by first | decide | omega | (simp only [rmk]; omega)) ?_
        exact ⟨bsome (by symm; simp [isSgn]; omega), rfl⟩
      · skip
        refine r_iload_n C 0 d_Tokens_isSign_18 rfl rfl ?_
        refine r_bipush C (nI 61) d_Tokens_isSign_19 (by decide) ?_
        refine r_ncmp_eq C 36 d_Tokens_isSign_21 (by decide) (by omega) (by omega) (fun c_21 => ?_) (fun c_21 => ?_)
        · skip
          refine r_iconst C (nI 1) d_Tokens_isSign_36 (by decide) ?_
          refine r_goto C 41 d_Tokens_isSign_37 (by decide) ?_
          refine r_eqS (st' := [.int (bI true)]) rfl ?_
          refine r_bret C E d_Tokens_isSign_41 (by first | decide | omega | (simp only [rmk]; omega)) (by first | decide | omega | (simp only [rmk]; omega)) ?_
          exact ⟨bsome (by symm; simp [isSgn]; omega), rfl⟩
        · skip
          refine r_iload_n C 0 d_Tokens_isSign_24 rfl rfl ?_
          refine r_bipush C (nI 60) d_Tokens_isSign_25 (by decide) ?_
          refine r_ncmp_eq C 36 d_Tokens_isSign_27 (by decide) (by omega) (by omega) (fun c_27 => ?_) (fun c_27 => ?_)
          · skip
            refine r_iconst C (nI 1) d_Tokens_isSign_36 (by decide) ?_
            refine r_goto C 41 d_Tokens_isSign_37 (by decide) ?_
            refine r_eqS (st' := [.int (bI true)]) rfl ?_
            refine r_bret C E d_Tokens_isSign_41 (by first | decide | omega | (simp only [rmk]; omega)) (by first | decide | omega | (simp only [rmk]; omega)) ?_
            exact ⟨bsome (by symm; simp [isSgn]; omega), rfl⟩
          · skip
            refine r_iload_n C 0 d_Tokens_isSign_30 rfl rfl ?_
            refine r_bipush C (nI 62) d_Tokens_isSign_31 (by decide) ?_
            refine r_ncmp_ne C 40 d_Tokens_isSign_33 (by decide) (by omega) (by omega) (fun c_33 => ?_) (fun c_33 => ?_)
            · skip
              refine r_iconst C (nI 0) d_Tokens_isSign_40 (by decide) ?_
              refine r_eqS (st' := [.int (bI false)]) rfl ?_
              refine r_bret C E d_Tokens_isSign_41 (by first | decide | omega | (simp only [rmk]; omega)) (by first | decide | omega | (simp only [rmk]; omega)) ?_
              exact ⟨bsome (by symm; simp [isSgn]; omega), rfl⟩
            · skip
              refine r_iconst C (nI 1) d_Tokens_isSign_36 (by decide) ?_
              refine r_goto C 41 d_Tokens_isSign_37 (by decide) ?_
              refine r_eqS (st' := [.int (bI true)]) rfl ?_
              refine r_bret C E d_Tokens_isSign_41 (by first | decide | omega | (simp only [rmk]; omega)) (by first | decide | omega | (simp only [rmk]; omega)) ?_
              exact ⟨bsome (by symm; simp [isSgn]; omega), rfl⟩

set_option maxHeartbeats 4000000 in
set_option maxRecDepth 100000 in
theorem c_Tokens_mayNotTouch (g : GG) (l : Launch) {c : Nat} {d : Nat}  (hc : c < 2 ^ 31) (hd : d < 2 ^ 31) : Cn g l y_Tokens_mayNotTouch b_Tokens_mayNotTouch 2 (some .boolean) (rmk 0 0 0 0) [.int (nI c), .int (nI d)] ([]) (fun (r0 : Option Value) (w0 : va_W) => r0 = some (.int (bI (noTouch c d))) ∧ w0 = []) := by
  refine Cn.of R_Tokens [(0, .int (nI c)), (1, .int (nI d))] (by decide) rfl (Nat.le_of_ble_eq_true rfl) rfl ?_
  intro x A Q hR hXl hin C E
  subst hXl
  refine r_iload_n C 0 d_Tokens_mayNotTouch_0 rfl rfl ?_
  refine r_iconst C (nI 1) d_Tokens_mayNotTouch_1 (by decide) ?_
  refine r_ncmp_ne C 10 d_Tokens_mayNotTouch_2 (by decide) (by omega) (by omega) (fun c_2 => ?_) (fun c_2 => ?_)
  · skip
    refine r_iload_n C 0 d_Tokens_mayNotTouch_10 rfl rfl ?_
    refine r_iconst C (nI 2) d_Tokens_mayNotTouch_11 (by decide) ?_
    refine r_ncmp_ne C 24 d_Tokens_mayNotTouch_12 (by decide) (by omega) (by omega) (fun c_12 => ?_) (fun c_12 => ?_)
    · skip
      refine r_iconst C (nI 0) d_Tokens_mayNotTouch_24 (by decide) ?_
      refine r_eqS (st' := [.int (bI false)]) rfl ?_
      refine r_bret C E d_Tokens_mayNotTouch_25 (by first | decide | omega | (simp only [rmk]; omega)) (by first | decide | omega | (simp only [rmk]; omega)) ?_
      exact ⟨bsome (by symm; simp [noTouch]; omega), rfl⟩
    · skip
      refine r_iload_n C 1 d_Tokens_mayNotTouch_15 rfl rfl ?_
      refine r_iconst C (nI 1) d_Tokens_mayNotTouch_16 (by decide) ?_
      refine r_ncmp_ne C 24 d_Tokens_mayNotTouch_17 (by decide) (by omega) (by omega) (fun c_17 => ?_) (fun c_17 => ?_)
      · skip
        refine r_iconst C (nI 0) d_Tokens_mayNotTouch_24 (by decide) ?_
        refine r_eqS (st' := [.int (bI false)]) rfl ?_
        refine r_bret C E d_Tokens_mayNotTouch_25 (by first | decide | omega | (simp only [rmk]; omega)) (by first | decide | omega | (simp only [rmk]; omega)) ?_
        exact ⟨bsome (by symm; simp [noTouch]; omega), rfl⟩
      · skip
        refine r_iconst C (nI 1) d_Tokens_mayNotTouch_20 (by decide) ?_
        refine r_goto C 25 d_Tokens_mayNotTouch_21 (by decide) ?_
        refine r_eqS (st' := [.int (bI true)]) rfl ?_
        refine r_bret C E d_Tokens_mayNotTouch_25 (by first | decide | omega | (simp only [rmk]; omega)) (by first | decide | omega | (simp only [rmk]; omega)) ?_
        exact ⟨bsome (by symm; simp [noTouch]; omega), rfl⟩
  · skip
    refine r_iload_n C 1 d_Tokens_mayNotTouch_5 rfl rfl ?_
    refine r_iconst C (nI 2) d_Tokens_mayNotTouch_6 (by decide) ?_
    refine r_ncmp_eq C 20 d_Tokens_mayNotTouch_7 (by decide) (by omega) (by omega) (fun c_7 => ?_) (fun c_7 => ?_)
    · skip
      refine r_iconst C (nI 1) d_Tokens_mayNotTouch_20 (by decide) ?_
      refine r_goto C 25 d_Tokens_mayNotTouch_21 (by decide) ?_
      refine r_eqS (st' := [.int (bI true)]) rfl ?_
      refine r_bret C E d_Tokens_mayNotTouch_25 (by first | decide | omega | (simp only [rmk]; omega)) (by first | decide | omega | (simp only [rmk]; omega)) ?_
      exact ⟨bsome (by symm; simp [noTouch]; omega), rfl⟩
    · skip
      refine r_iload_n C 0 d_Tokens_mayNotTouch_10 rfl rfl ?_
      refine r_iconst C (nI 2) d_Tokens_mayNotTouch_11 (by decide) ?_
      refine r_ncmp_ne C 24 d_Tokens_mayNotTouch_12 (by decide) (by omega) (by omega) (fun c_12 => ?_) (fun c_12 => ?_)
      · skip
        refine r_iconst C (nI 0) d_Tokens_mayNotTouch_24 (by decide) ?_
        refine r_eqS (st' := [.int (bI false)]) rfl ?_
        refine r_bret C E d_Tokens_mayNotTouch_25 (by first | decide | omega | (simp only [rmk]; omega)) (by first | decide | omega | (simp only [rmk]; omega)) ?_
        exact ⟨bsome (by symm; simp [noTouch]; omega), rfl⟩
      · skip
        refine r_iload_n C 1 d_Tokens_mayNotTouch_15 rfl rfl ?_
        refine r_iconst C (nI 1) d_Tokens_mayNotTouch_16 (by decide) ?_
        refine r_ncmp_ne C 24 d_Tokens_mayNotTouch_17 (by decide) (by omega) (by omega) (fun c_17 => ?_) (fun c_17 => ?_)
        · skip
          refine r_iconst C (nI 0) d_Tokens_mayNotTouch_24 (by decide) ?_
          refine r_eqS (st' := [.int (bI false)]) rfl ?_
          refine r_bret C E d_Tokens_mayNotTouch_25 (by first | decide | omega | (simp only [rmk]; omega)) (by first | decide | omega | (simp only [rmk]; omega)) ?_
          exact ⟨bsome (by symm; simp [noTouch]; omega), rfl⟩
        · skip
          refine r_iconst C (nI 1) d_Tokens_mayNotTouch_20 (by decide) ?_
          refine r_goto C 25 d_Tokens_mayNotTouch_21 (by decide) ?_
          refine r_eqS (st' := [.int (bI true)]) rfl ?_
          refine r_bret C E d_Tokens_mayNotTouch_25 (by first | decide | omega | (simp only [rmk]; omega)) (by first | decide | omega | (simp only [rmk]; omega)) ?_
          exact ⟨bsome (by symm; simp [noTouch]; omega), rfl⟩

set_option maxHeartbeats 4000000 in
set_option maxRecDepth 100000 in
theorem lp_Tokens_behindBlanks_2 (g : GG) {a : Nat} {t : Nat} {zs : Nat} {zb : Nat} {ze : Nat} {zv : Nat} {zw : Nat} {cnt : Nat} {nx : Nat} {tb : Nat} {k : Nat} {so : Nat} {sta : Nat} {en : Nat} {T : Nat → Nat} {v : Option Nat} {wd : Option Nat} {j : Nat} (hk : k ≤ 2000) (hT : ∀ j, T j < 256) (hj : j ≤ k) {x : X0} {A : Nat → Prop} {Q : State → Prop}  (C : CX x g A R_Tokens b_Tokens_behindBlanks 3) (E : RX x g A Q (some .int) (fun (r0 : Option Value) (w0 : va_W) => r0 = some (.int (nI (run isBlk T k j))) ∧ w0 = [(a, .inr (2, [.ref t, .ref zs, .ref zb, .ref ze, .ref zv, .ref zw, .int (nI cnt), .int (nI nx), .int (nI so), .int (nI sta), .int (nI en), .int (oI v), va_rf (wR g wd)])), (t, .inr (1, [.ref tb, .int (nI k)])), (tb, .inl (g.2.1 1, 2000, .inl (aI T)))]) (rmk 1 0 0 21).cells (rmk 1 0 0 21).slots) (hR : xR x = (rmk 1 0 0 21)) : ∀ (fuel : Nat) (c : Nat) (hc : c ≤ k) (he : run isBlk T k c = run isBlk T k j), k - c < fuel → J x g A Q 3 ([(a, .inr (2, [.ref t, .ref zs, .ref zb, .ref ze, .ref zv, .ref zw, .int (nI cnt), .int (nI nx), .int (nI so), .int (nI sta), .int (nI en), .int (oI v), va_rf (wR g wd)])), (t, .inr (1, [.ref tb, .int (nI k)])), (tb, .inl (g.2.1 1, 2000, .inl (aI T)))]) [(0, .ref a), (1, .int (nI j)), (2, .int (nI c))] 2 [] 0 0 := by
  intro fuel
  induction fuel with
  | zero =>
    intro c hc he hm
    exact absurd hm (Nat.not_lt_zero _)
  | succ fuel ih =>
    intro c hc he hm
    refine r_iload_n C 2 d_Tokens_behindBlanks_2 rfl rfl ?_
    refine r_aload_n C 0 d_Tokens_behindBlanks_3 rfl rfl ?_
    refine r_get C 0 0 d_Tokens_behindBlanks_4 ci_Tokens fi_Tokens_30 rfl (by decide) rfl rfl ?_
    refine r_get C 1 1 d_Tokens_behindBlanks_7 ci_Text fi_Tokens_85 rfl (by decide) rfl rfl ?_
    refine r_ncmp_ge C 45 d_Tokens_behindBlanks_10 (by decide) (by omega) (by omega) (fun c_10 => ?_) (fun c_10 => ?_)
    · skip
      refine r_iload_n C 2 d_Tokens_behindBlanks_45 rfl rfl ?_
      refine r_iret C E d_Tokens_behindBlanks_46 (by first | decide | omega | (simp only [rmk]; omega)) (by first | decide | omega | (simp only [rmk]; omega)) ?_
      exact ⟨by rw [← he, run_stop (by omega)], rfl⟩
    · skip
      refine r_aload_n C 0 d_Tokens_behindBlanks_13 rfl rfl ?_
      refine r_get C 0 0 d_Tokens_behindBlanks_14 ci_Tokens fi_Tokens_30 rfl (by decide) rfl rfl ?_
      refine r_iload_n C 2 d_Tokens_behindBlanks_17 rfl rfl ?_
      refine j_callV C (c_Text_at g (xl x) (t := t) (tb := tb) (k := k) (j := c) (T := T) (by first | assumption | rfl | omega) (by first | assumption | rfl | omega)) (Sp.of (wr := [(a, .inr (2, [.ref t, .ref zs, .ref zb, .ref ze, .ref zv, .ref zw, .int (nI cnt), .int (nI nx), .int (nI so), .int (nI sta), .int (nI en), .int (oI v), va_rf (wR g wd)]))]) [1, 2] [0] rfl rfl rfl rfl (by decide)) d_Tokens_behindBlanks_18 lk_Tokens_80 mw_Text_at vw_Text_at (q0 := 0) rfl rfl (fit_of hR (by first | decide | (simp only [rmk]; omega)) (by first | decide | (simp only [rmk]; omega)) (by first | decide | (simp only [rmk]; omega)) (by first | decide | (simp only [rmk]; omega))) rfl (cat8 (Nat.le_of_ble_eq_true rfl)) (As := [.int (nI c)]) (rest := []) rfl (fun r_18 w_18 hp_18 => ?_)
      obtain ⟨rfl, rfl⟩ := hp_18
      refine r_after (ws' := [(a, .inr (2, [.ref t, .ref zs, .ref zb, .ref ze, .ref zv, .ref zw, .int (nI cnt), .int (nI nx), .int (nI so), .int (nI sta), .int (nI en), .int (oI v), va_rf (wR g wd)])), (t, .inr (1, [.ref tb, .int (nI k)])), (tb, .inl (g.2.1 1, 2000, .inl (aI T)))]) (st' := [.int (oI (atO T k c))]) (n1 := 0) (n2 := 0) [0, 1, 2] rfl rfl rfl rfl rfl ?_
      have hTc := hT c
      refine r_top (v' := nI (T c)) (oI_at (by omega)) ?_
      refine r_bipush C (nI 32) d_Tokens_behindBlanks_21 (by decide) ?_
      refine r_ncmp_eq C 39 d_Tokens_behindBlanks_23 (by decide) (by omega) (by omega) (fun c_23 => ?_) (fun c_23 => ?_)
      · skip
        refine r_iinc C 2 (nI (c + 1)) (lv' := [(2, .int (nI (c + 1))), (0, .ref a), (1, .int (nI j))]) d_Tokens_behindBlanks_39 rfl (nI_inc 1 _) (by decide) rfl ?_
        refine r_goto C 2 d_Tokens_behindBlanks_42 (by decide) ?_
        refine r_lv (lv' := [(0, .ref a), (1, .int (nI j)), (2, .int (nI (c + 1)))]) [1, 2, 0] rfl ?_
        exact ih (c + 1) (by first | assumption | rfl | omega) (by rw [← he]; exact (run_go (by omega) (by simp [isBlk]; omega)).symm) (by omega)
      · skip
        refine r_aload_n C 0 d_Tokens_behindBlanks_26 rfl rfl ?_
        refine r_get C 0 0 d_Tokens_behindBlanks_27 ci_Tokens fi_Tokens_30 rfl (by decide) rfl rfl ?_
        refine r_iload_n C 2 d_Tokens_behindBlanks_30 rfl rfl ?_
        refine j_callV C (c_Text_at g (xl x) (t := t) (tb := tb) (k := k) (j := c) (T := T) (by first | assumption | rfl | omega) (by first | assumption | rfl | omega)) (Sp.of (wr := [(a, .inr (2, [.ref t, .ref zs, .ref zb, .ref ze, .ref zv, .ref zw, .int (nI cnt), .int (nI nx), .int (nI so), .int (nI sta), .int (nI en), .int (oI v), va_rf (wR g wd)]))]) [1, 2] [0] rfl rfl rfl rfl (by decide)) d_Tokens_behindBlanks_31 lk_Tokens_80 mw_Text_at vw_Text_at (q0 := 0) rfl rfl (fit_of hR (by first | decide | (simp only [rmk]; omega)) (by first | decide | (simp only [rmk]; omega)) (by first | decide | (simp only [rmk]; omega)) (by first | decide | (simp only [rmk]; omega))) rfl (cat8 (Nat.le_of_ble_eq_true rfl)) (As := [.int (nI c)]) (rest := []) rfl (fun r_31 w_31 hp_31 => ?_)
        obtain ⟨rfl, rfl⟩ := hp_31
        refine r_after (ws' := [(a, .inr (2, [.ref t, .ref zs, .ref zb, .ref ze, .ref zv, .ref zw, .int (nI cnt), .int (nI nx), .int (nI so), .int (nI sta), .int (nI en), .int (oI v), va_rf (wR g wd)])), (t, .inr (1, [.ref tb, .int (nI k)])), (tb, .inl (g.2.1 1, 2000, .inl (aI T)))]) (st' := [.int (oI (atO T k c))]) (n1 := 0) (n2 := 0) [0, 1, 2] rfl rfl rfl rfl rfl ?_
        refine r_top (v' := nI (T c)) (oI_at (by omega)) ?_
        refine r_bipush C (nI 10) d_Tokens_behindBlanks_34 (by decide) ?_
        refine r_ncmp_ne C 45 d_Tokens_behindBlanks_36 (by decide) (by omega) (by omega) (fun c_36 => ?_) (fun c_36 => ?_)
        · skip
          refine r_iload_n C 2 d_Tokens_behindBlanks_45 rfl rfl ?_
          refine r_iret C E d_Tokens_behindBlanks_46 (by first | decide | omega | (simp only [rmk]; omega)) (by first | decide | omega | (simp only [rmk]; omega)) ?_
          exact ⟨by rw [← he, run_stop (by simp [isBlk]; omega)], rfl⟩
        · skip
          refine r_iinc C 2 (nI (c + 1)) (lv' := [(2, .int (nI (c + 1))), (0, .ref a), (1, .int (nI j))]) d_Tokens_behindBlanks_39 rfl (nI_inc 1 _) (by decide) rfl ?_
          refine r_goto C 2 d_Tokens_behindBlanks_42 (by decide) ?_
          refine r_lv (lv' := [(0, .ref a), (1, .int (nI j)), (2, .int (nI (c + 1)))]) [1, 2, 0] rfl ?_
          exact ih (c + 1) (by first | assumption | rfl | omega) (by rw [← he]; exact (run_go (by omega) (by simp [isBlk]; omega)).symm) (by omega)
set_option maxHeartbeats 4000000 in
set_option maxRecDepth 100000 in
theorem c_Tokens_behindBlanks (g : GG) (l : Launch) {a : Nat} {t : Nat} {zs : Nat} {zb : Nat} {ze : Nat} {zv : Nat} {zw : Nat} {cnt : Nat} {nx : Nat} {tb : Nat} {k : Nat} {so : Nat} {sta : Nat} {en : Nat} {T : Nat → Nat} {v : Option Nat} {wd : Option Nat} {j : Nat}  (hk : k ≤ 2000) (hT : ∀ j, T j < 256) (hj : j ≤ k) : Cn g l y_Tokens_behindBlanks b_Tokens_behindBlanks 3 (some .int) (rmk 1 0 0 21) [.ref a, .int (nI j)] ([(a, .inr (2, [.ref t, .ref zs, .ref zb, .ref ze, .ref zv, .ref zw, .int (nI cnt), .int (nI nx), .int (nI so), .int (nI sta), .int (nI en), .int (oI v), va_rf (wR g wd)])), (t, .inr (1, [.ref tb, .int (nI k)])), (tb, .inl (g.2.1 1, 2000, .inl (aI T)))]) (fun (r0 : Option Value) (w0 : va_W) => r0 = some (.int (nI (run isBlk T k j))) ∧ w0 = [(a, .inr (2, [.ref t, .ref zs, .ref zb, .ref ze, .ref zv, .ref zw, .int (nI cnt), .int (nI nx), .int (nI so), .int (nI sta), .int (nI en), .int (oI v), va_rf (wR g wd)])), (t, .inr (1, [.ref tb, .int (nI k)])), (tb, .inl (g.2.1 1, 2000, .inl (aI T)))]) := by
  refine Cn.of R_Tokens [(0, .ref a), (1, .int (nI j))] (by decide) rfl (Nat.le_of_ble_eq_true rfl) rfl ?_
  intro x A Q hR hXl hin C E
  subst hXl
  refine r_iload_n C 1 d_Tokens_behindBlanks_0 rfl rfl ?_
  refine r_istore_n C (lv' := [(2, .int (nI j)), (0, .ref a), (1, .int (nI j))]) d_Tokens_behindBlanks_1 rfl (by decide) rfl ?_
  refine r_lv (lv' := [(0, .ref a), (1, .int (nI j)), (2, .int (nI j))]) [1, 2, 0] rfl ?_
  exact lp_Tokens_behindBlanks_2 g (a := a) (t := t) (zs := zs) (zb := zb) (ze := ze) (zv := zv) (zw := zw) (cnt := cnt) (nx := nx) (tb := tb) (k := k) (so := so) (sta := sta) (en := en) (T := T) (v := v) (wd := wd) (j := j) hk hT hj  C E hR _ j (by first | assumption | rfl | omega) (by first | assumption | rfl | omega) (Nat.lt_succ_self _)

set_option maxHeartbeats 4000000 in
set_option maxRecDepth 100000 in
theorem lp_Tokens_scanNumber_13 (g : GG) {a : Nat} {t : Nat} {zs : Nat} {zb : Nat} {ze : Nat} {zv : Nat} {zw : Nat} {cnt : Nat} {nx : Nat} {tb : Nat} {k : Nat} {so : Nat} {sta : Nat} {en : Nat} {T : Nat → Nat} {v : Option Nat} {wd : Option Nat} (hk : k ≤ 2000) (hT : ∀ j, T j < 256) (hs : sta < k) {x : X0} {A : Nat → Prop} {Q : State → Prop}  (C : CX x g A R_Tokens b_Tokens_scanNumber 1) (E : RX x g A Q none (fun (r0 : Option Value) (w0 : va_W) => r0 = none ∧ w0 = [(a, .inr (2, [.ref t, .ref zs, .ref zb, .ref ze, .ref zv, .ref zw, .int (nI cnt), .int (nI nx), .int (nI (if 6 < run isDig T k sta - sta then 4 else 2)), .int (nI sta), .int (nI (run isDig T k sta)), .int (oI (some (val T sta (min (run isDig T k sta - sta) 6)))), va_rf (wR g wd)])), (t, .inr (1, [.ref tb, .int (nI k)])), (tb, .inl (g.2.1 1, 2000, .inl (aI T)))]) (rmk 1 0 0 21).cells (rmk 1 0 0 21).slots) (hR : xR x = (rmk 1 0 0 21)) : ∀ (fuel : Nat) (e : Nat) (z : Nat) (h1 : sta ≤ e) (h2 : e ≤ k) (he : run isDig T k e = run isDig T k sta) (hz : z = val T sta (min (e - sta) 6)), k - e < fuel → J x g A Q 1 ([(a, .inr (2, [.ref t, .ref zs, .ref zb, .ref ze, .ref zv, .ref zw, .int (nI cnt), .int (nI nx), .int (nI so), .int (nI sta), .int (nI e), .int (nI z), va_rf (wR g wd)])), (t, .inr (1, [.ref tb, .int (nI k)])), (tb, .inl (g.2.1 1, 2000, .inl (aI T)))]) [(0, .ref a)] 13 [] 0 0 := by
  intro fuel
  induction fuel with
  | zero =>
    intro e z h1 h2 he hz hm
    exact absurd hm (Nat.not_lt_zero _)
  | succ fuel ih =>
    intro e z h1 h2 he hz hm
    refine r_aload_n C 0 d_Tokens_scanNumber_13 rfl rfl ?_
    refine r_get C 0 10 d_Tokens_scanNumber_14 ci_Tokens fi_Tokens_41 rfl (by decide) rfl rfl ?_
    refine r_aload_n C 0 d_Tokens_scanNumber_17 rfl rfl ?_
    refine r_get C 0 0 d_Tokens_scanNumber_18 ci_Tokens fi_Tokens_30 rfl (by decide) rfl rfl ?_
    refine r_get C 1 1 d_Tokens_scanNumber_21 ci_Text fi_Tokens_85 rfl (by decide) rfl rfl ?_
    refine r_ncmp_ge C 97 d_Tokens_scanNumber_24 (by decide) (by omega) (by omega) (fun c_24 => ?_) (fun c_24 => ?_)
    · skip
      refine r_aload_n C 0 d_Tokens_scanNumber_97 rfl rfl ?_
      refine r_aload_n C 0 d_Tokens_scanNumber_98 rfl rfl ?_
      refine r_get C 0 10 d_Tokens_scanNumber_99 ci_Tokens fi_Tokens_41 rfl (by decide) rfl rfl ?_
      refine r_aload_n C 0 d_Tokens_scanNumber_102 rfl rfl ?_
      refine r_get C 0 9 d_Tokens_scanNumber_103 ci_Tokens fi_Tokens_57 rfl (by decide) rfl rfl ?_
      refine r_nsub C d_Tokens_scanNumber_106 (by omega) ?_
      refine r_bipush C (nI 6) d_Tokens_scanNumber_107 (by decide) ?_
      refine r_ncmp_le C 116 d_Tokens_scanNumber_109 (by decide) (by omega) (by omega) (fun c_109 => ?_) (fun c_109 => ?_)
      · skip
        refine r_iconst C (nI 2) d_Tokens_scanNumber_116 (by decide) ?_
        refine r_put C (ws' := [(a, .inr (2, [.ref t, .ref zs, .ref zb, .ref ze, .ref zv, .ref zw, .int (nI cnt), .int (nI nx), .int (nI 2), .int (nI sta), .int (nI e), .int (nI z), va_rf (wR g wd)])), (t, .inr (1, [.ref tb, .int (nI k)])), (tb, .inl (g.2.1 1, 2000, .inl (aI T)))]) 0 8 d_Tokens_scanNumber_117 ci_Tokens fi_Tokens_38 rfl (by decide) rfl rfl (rfl) (rfl) (by simp) rfl ?_
        refine r_vret C E d_Tokens_scanNumber_120 (by first | decide | omega | (simp only [rmk]; omega)) (by first | decide | omega | (simp only [rmk]; omega)) ?_
        have hrun : run isDig T k sta = e := by rw [← he, run_stop (by first | omega | simp [c_41] | simp [c_36])]
        rw [hrun, if_neg (by omega)]; subst hz; exact ⟨rfl, rfl⟩
      · skip
        refine r_iconst C (nI 4) d_Tokens_scanNumber_112 (by decide) ?_
        refine r_goto C 117 d_Tokens_scanNumber_113 (by decide) ?_
        refine r_put C (ws' := [(a, .inr (2, [.ref t, .ref zs, .ref zb, .ref ze, .ref zv, .ref zw, .int (nI cnt), .int (nI nx), .int (nI 4), .int (nI sta), .int (nI e), .int (nI z), va_rf (wR g wd)])), (t, .inr (1, [.ref tb, .int (nI k)])), (tb, .inl (g.2.1 1, 2000, .inl (aI T)))]) 0 8 d_Tokens_scanNumber_117 ci_Tokens fi_Tokens_38 rfl (by decide) rfl rfl (rfl) (rfl) (by simp) rfl ?_
        refine r_vret C E d_Tokens_scanNumber_120 (by first | decide | omega | (simp only [rmk]; omega)) (by first | decide | omega | (simp only [rmk]; omega)) ?_
        have hrun : run isDig T k sta = e := by rw [← he, run_stop (by first | omega | simp [c_41] | simp [c_36])]
        rw [hrun, if_pos (by omega)]; subst hz; exact ⟨rfl, rfl⟩
    · skip
      refine r_aload_n C 0 d_Tokens_scanNumber_27 rfl rfl ?_
      refine r_get C 0 0 d_Tokens_scanNumber_28 ci_Tokens fi_Tokens_30 rfl (by decide) rfl rfl ?_
      refine r_aload_n C 0 d_Tokens_scanNumber_31 rfl rfl ?_
      refine r_get C 0 10 d_Tokens_scanNumber_32 ci_Tokens fi_Tokens_41 rfl (by decide) rfl rfl ?_
      refine j_callV C (c_Text_at g (xl x) (t := t) (tb := tb) (k := k) (j := e) (T := T) (by first | assumption | rfl | omega) (by first | assumption | rfl | omega)) (Sp.of (wr := [(a, .inr (2, [.ref t, .ref zs, .ref zb, .ref ze, .ref zv, .ref zw, .int (nI cnt), .int (nI nx), .int (nI so), .int (nI sta), .int (nI e), .int (nI z), va_rf (wR g wd)]))]) [1, 2] [0] rfl rfl rfl rfl (by decide)) d_Tokens_scanNumber_35 lk_Tokens_80 mw_Text_at vw_Text_at (q0 := 0) rfl rfl (fit_of hR (by first | decide | (simp only [rmk]; omega)) (by first | decide | (simp only [rmk]; omega)) (by first | decide | (simp only [rmk]; omega)) (by first | decide | (simp only [rmk]; omega))) rfl (cat8 (Nat.le_of_ble_eq_true rfl)) (As := [.int (nI e)]) (rest := []) rfl (fun r_35 w_35 hp_35 => ?_)
      obtain ⟨rfl, rfl⟩ := hp_35
      refine r_after (ws' := [(a, .inr (2, [.ref t, .ref zs, .ref zb, .ref ze, .ref zv, .ref zw, .int (nI cnt), .int (nI nx), .int (nI so), .int (nI sta), .int (nI e), .int (nI z), va_rf (wR g wd)])), (t, .inr (1, [.ref tb, .int (nI k)])), (tb, .inl (g.2.1 1, 2000, .inl (aI T)))]) (st' := [.int (oI (atO T k e))]) (n1 := 0) (n2 := 0) [0, 1, 2] rfl rfl rfl rfl rfl ?_
      have hTe := hT e
      refine r_top (v' := nI (T e)) (oI_at (by omega)) ?_
      refine j_callS C (c_Tokens_isDigit g (xl x) (c := T e) (by first | assumption | rfl | omega)) (Sp.of (wr := [(a, .inr (2, [.ref t, .ref zs, .ref zb, .ref ze, .ref zv, .ref zw, .int (nI cnt), .int (nI nx), .int (nI so), .int (nI sta), .int (nI e), .int (nI z), va_rf (wR g wd)])), (t, .inr (1, [.ref tb, .int (nI k)])), (tb, .inl (g.2.1 1, 2000, .inl (aI T)))]) [] [0, 1, 2] rfl rfl rfl rfl (by decide)) d_Tokens_scanNumber_38 lk_Tokens_95 mw_Tokens_isDigit st_Tokens_isDigit (fit_of hR (by first | decide | (simp only [rmk]; omega)) (by first | decide | (simp only [rmk]; omega)) (by first | decide | (simp only [rmk]; omega)) (by first | decide | (simp only [rmk]; omega))) rfl (cat8 (Nat.le_of_ble_eq_true rfl)) (As := [.int (nI (T e))]) (rest := []) rfl (fun r_38 w_38 hp_38 => ?_)
      obtain ⟨rfl, rfl⟩ := hp_38
      refine r_after (ws' := [(a, .inr (2, [.ref t, .ref zs, .ref zb, .ref ze, .ref zv, .ref zw, .int (nI cnt), .int (nI nx), .int (nI so), .int (nI sta), .int (nI e), .int (nI z), va_rf (wR g wd)])), (t, .inr (1, [.ref tb, .int (nI k)])), (tb, .inl (g.2.1 1, 2000, .inl (aI T)))]) (st' := [.int (bI (isDig (T e)))]) (n1 := 0) (n2 := 0) [0, 1, 2] rfl rfl rfl rfl rfl ?_
      refine r_bif_eq C 97 d_Tokens_scanNumber_41 (by decide) (fun c_41 => ?_) (fun c_41 => ?_)
      · skip
        refine r_aload_n C 0 d_Tokens_scanNumber_97 rfl rfl ?_
        refine r_aload_n C 0 d_Tokens_scanNumber_98 rfl rfl ?_
        refine r_get C 0 10 d_Tokens_scanNumber_99 ci_Tokens fi_Tokens_41 rfl (by decide) rfl rfl ?_
        refine r_aload_n C 0 d_Tokens_scanNumber_102 rfl rfl ?_
        refine r_get C 0 9 d_Tokens_scanNumber_103 ci_Tokens fi_Tokens_57 rfl (by decide) rfl rfl ?_
        refine r_nsub C d_Tokens_scanNumber_106 (by omega) ?_
        refine r_bipush C (nI 6) d_Tokens_scanNumber_107 (by decide) ?_
        refine r_ncmp_le C 116 d_Tokens_scanNumber_109 (by decide) (by omega) (by omega) (fun c_109 => ?_) (fun c_109 => ?_)
        · skip
          refine r_iconst C (nI 2) d_Tokens_scanNumber_116 (by decide) ?_
          refine r_put C (ws' := [(a, .inr (2, [.ref t, .ref zs, .ref zb, .ref ze, .ref zv, .ref zw, .int (nI cnt), .int (nI nx), .int (nI 2), .int (nI sta), .int (nI e), .int (nI z), va_rf (wR g wd)])), (t, .inr (1, [.ref tb, .int (nI k)])), (tb, .inl (g.2.1 1, 2000, .inl (aI T)))]) 0 8 d_Tokens_scanNumber_117 ci_Tokens fi_Tokens_38 rfl (by decide) rfl rfl (rfl) (rfl) (by simp) rfl ?_
          refine r_vret C E d_Tokens_scanNumber_120 (by first | decide | omega | (simp only [rmk]; omega)) (by first | decide | omega | (simp only [rmk]; omega)) ?_
          have hrun : run isDig T k sta = e := by rw [← he, run_stop (by first | omega | simp [c_41] | simp [c_36])]
          rw [hrun, if_neg (by omega)]; subst hz; exact ⟨rfl, rfl⟩
        · skip
          refine r_iconst C (nI 4) d_Tokens_scanNumber_112 (by decide) ?_
          refine r_goto C 117 d_Tokens_scanNumber_113 (by decide) ?_
          refine r_put C (ws' := [(a, .inr (2, [.ref t, .ref zs, .ref zb, .ref ze, .ref zv, .ref zw, .int (nI cnt), .int (nI nx), .int (nI 4), .int (nI sta), .int (nI e), .int (nI z), va_rf (wR g wd)])), (t, .inr (1, [.ref tb, .int (nI k)])), (tb, .inl (g.2.1 1, 2000, .inl (aI T)))]) 0 8 d_Tokens_scanNumber_117 ci_Tokens fi_Tokens_38 rfl (by decide) rfl rfl (rfl) (rfl) (by simp) rfl ?_
          refine r_vret C E d_Tokens_scanNumber_120 (by first | decide | omega | (simp only [rmk]; omega)) (by first | decide | omega | (simp only [rmk]; omega)) ?_
          have hrun : run isDig T k sta = e := by rw [← he, run_stop (by first | omega | simp [c_41] | simp [c_36])]
          rw [hrun, if_pos (by omega)]; subst hz; exact ⟨rfl, rfl⟩
      · skip
        refine r_aload_n C 0 d_Tokens_scanNumber_44 rfl rfl ?_
        refine r_get C 0 10 d_Tokens_scanNumber_45 ci_Tokens fi_Tokens_41 rfl (by decide) rfl rfl ?_
        refine r_aload_n C 0 d_Tokens_scanNumber_48 rfl rfl ?_
        refine r_get C 0 9 d_Tokens_scanNumber_49 ci_Tokens fi_Tokens_57 rfl (by decide) rfl rfl ?_
        refine r_nsub C d_Tokens_scanNumber_52 (by omega) ?_
        refine r_bipush C (nI 6) d_Tokens_scanNumber_53 (by decide) ?_
        refine r_ncmp_ge C 84 d_Tokens_scanNumber_55 (by decide) (by omega) (by omega) (fun c_55 => ?_) (fun c_55 => ?_)
        · skip
          refine r_aload_n C 0 d_Tokens_scanNumber_84 rfl rfl ?_
          refine r_dup C d_Tokens_scanNumber_85 rfl ?_
          refine r_get C 0 10 d_Tokens_scanNumber_86 ci_Tokens fi_Tokens_41 rfl (by decide) rfl rfl ?_
          refine r_iconst C (nI 1) d_Tokens_scanNumber_89 (by decide) ?_
          refine r_nadd C d_Tokens_scanNumber_90 ?_
          refine r_put C (ws' := [(a, .inr (2, [.ref t, .ref zs, .ref zb, .ref ze, .ref zv, .ref zw, .int (nI cnt), .int (nI nx), .int (nI so), .int (nI sta), .int (nI (e + 1)), .int (nI z), va_rf (wR g wd)])), (t, .inr (1, [.ref tb, .int (nI k)])), (tb, .inl (g.2.1 1, 2000, .inl (aI T)))]) 0 10 d_Tokens_scanNumber_91 ci_Tokens fi_Tokens_41 rfl (by decide) rfl rfl (rfl) (rfl) (by simp) rfl ?_
          refine r_goto C 13 d_Tokens_scanNumber_94 (by decide) ?_
          refine r_lv (lv' := [(0, .ref a)]) [0] rfl ?_
          exact ih (e + 1) z (by first | assumption | rfl | omega) (by first | assumption | rfl | omega) (by rw [← he]; exact (run_go (by omega) c_41).symm) (val_stay (by omega) hz) (by omega)
        · skip
          refine r_aload_n C 0 d_Tokens_scanNumber_58 rfl rfl ?_
          refine r_aload_n C 0 d_Tokens_scanNumber_59 rfl rfl ?_
          refine r_get C 0 11 d_Tokens_scanNumber_60 ci_Tokens fi_Tokens_60 rfl (by decide) rfl rfl ?_
          refine r_bipush C (nI 10) d_Tokens_scanNumber_63 (by decide) ?_
          refine r_nmul C d_Tokens_scanNumber_65 ?_
          refine r_aload_n C 0 d_Tokens_scanNumber_66 rfl rfl ?_
          refine r_get C 0 0 d_Tokens_scanNumber_67 ci_Tokens fi_Tokens_30 rfl (by decide) rfl rfl ?_
          refine r_aload_n C 0 d_Tokens_scanNumber_70 rfl rfl ?_
          refine r_get C 0 10 d_Tokens_scanNumber_71 ci_Tokens fi_Tokens_41 rfl (by decide) rfl rfl ?_
          refine j_callV C (c_Text_at g (xl x) (t := t) (tb := tb) (k := k) (j := e) (T := T) (by first | assumption | rfl | omega) (by first | assumption | rfl | omega)) (Sp.of (wr := [(a, .inr (2, [.ref t, .ref zs, .ref zb, .ref ze, .ref zv, .ref zw, .int (nI cnt), .int (nI nx), .int (nI so), .int (nI sta), .int (nI e), .int (nI z), va_rf (wR g wd)]))]) [1, 2] [0] rfl rfl rfl rfl (by decide)) d_Tokens_scanNumber_74 lk_Tokens_80 mw_Text_at vw_Text_at (q0 := 0) rfl rfl (fit_of hR (by first | decide | (simp only [rmk]; omega)) (by first | decide | (simp only [rmk]; omega)) (by first | decide | (simp only [rmk]; omega)) (by first | decide | (simp only [rmk]; omega))) rfl (cat8 (Nat.le_of_ble_eq_true rfl)) (As := [.int (nI e)]) (rest := [.int (nI (z * 10)), .ref a]) rfl (fun r_74 w_74 hp_74 => ?_)
          obtain ⟨rfl, rfl⟩ := hp_74
          refine r_after (ws' := [(a, .inr (2, [.ref t, .ref zs, .ref zb, .ref ze, .ref zv, .ref zw, .int (nI cnt), .int (nI nx), .int (nI so), .int (nI sta), .int (nI e), .int (nI z), va_rf (wR g wd)])), (t, .inr (1, [.ref tb, .int (nI k)])), (tb, .inl (g.2.1 1, 2000, .inl (aI T)))]) (st' := [.int (oI (atO T k e)), .int (nI (z * 10)), .ref a]) (n1 := 0) (n2 := 0) [0, 1, 2] rfl rfl rfl rfl rfl ?_
          have hDe : 48 ≤ T e := by simp [isDig] at c_41; omega
          refine r_top (v' := nI (T e)) (oI_at (by omega)) ?_
          refine r_nadd C d_Tokens_scanNumber_77 ?_
          refine r_bipush C (nI 48) d_Tokens_scanNumber_78 (by decide) ?_
          refine r_nsub C d_Tokens_scanNumber_80 (by omega) ?_
          refine r_put C (ws' := [(a, .inr (2, [.ref t, .ref zs, .ref zb, .ref ze, .ref zv, .ref zw, .int (nI cnt), .int (nI nx), .int (nI so), .int (nI sta), .int (nI e), .int (nI (((z * 10) + (T e)) - 48)), va_rf (wR g wd)])), (t, .inr (1, [.ref tb, .int (nI k)])), (tb, .inl (g.2.1 1, 2000, .inl (aI T)))]) 0 11 d_Tokens_scanNumber_81 ci_Tokens fi_Tokens_60 rfl (by decide) rfl rfl (rfl) (rfl) (by simp) rfl ?_
          refine r_aload_n C 0 d_Tokens_scanNumber_84 rfl rfl ?_
          refine r_dup C d_Tokens_scanNumber_85 rfl ?_
          refine r_get C 0 10 d_Tokens_scanNumber_86 ci_Tokens fi_Tokens_41 rfl (by decide) rfl rfl ?_
          refine r_iconst C (nI 1) d_Tokens_scanNumber_89 (by decide) ?_
          refine r_nadd C d_Tokens_scanNumber_90 ?_
          refine r_put C (ws' := [(a, .inr (2, [.ref t, .ref zs, .ref zb, .ref ze, .ref zv, .ref zw, .int (nI cnt), .int (nI nx), .int (nI so), .int (nI sta), .int (nI (e + 1)), .int (nI (((z * 10) + (T e)) - 48)), va_rf (wR g wd)])), (t, .inr (1, [.ref tb, .int (nI k)])), (tb, .inl (g.2.1 1, 2000, .inl (aI T)))]) 0 10 d_Tokens_scanNumber_91 ci_Tokens fi_Tokens_41 rfl (by decide) rfl rfl (rfl) (rfl) (by simp) rfl ?_
          refine r_goto C 13 d_Tokens_scanNumber_94 (by decide) ?_
          refine r_lv (lv' := [(0, .ref a)]) [0] rfl ?_
          exact ih (e + 1) (((z * 10) + (T e)) - 48) (by first | assumption | rfl | omega) (by first | assumption | rfl | omega) (by rw [← he]; exact (run_go (by omega) c_41).symm) (val_step (by omega) (by omega) hz) (by omega)
set_option maxHeartbeats 4000000 in
set_option maxRecDepth 100000 in
theorem c_Tokens_scanNumber (g : GG) (l : Launch) {a : Nat} {t : Nat} {zs : Nat} {zb : Nat} {ze : Nat} {zv : Nat} {zw : Nat} {cnt : Nat} {nx : Nat} {tb : Nat} {k : Nat} {so : Nat} {sta : Nat} {en : Nat} {T : Nat → Nat} {v : Option Nat} {wd : Option Nat}  (hk : k ≤ 2000) (hT : ∀ j, T j < 256) (hs : sta < k) : Cn g l y_Tokens_scanNumber b_Tokens_scanNumber 1 none (rmk 1 0 0 21) [.ref a] ([(a, .inr (2, [.ref t, .ref zs, .ref zb, .ref ze, .ref zv, .ref zw, .int (nI cnt), .int (nI nx), .int (nI so), .int (nI sta), .int (nI en), .int (oI v), va_rf (wR g wd)])), (t, .inr (1, [.ref tb, .int (nI k)])), (tb, .inl (g.2.1 1, 2000, .inl (aI T)))]) (fun (r0 : Option Value) (w0 : va_W) => r0 = none ∧ w0 = [(a, .inr (2, [.ref t, .ref zs, .ref zb, .ref ze, .ref zv, .ref zw, .int (nI cnt), .int (nI nx), .int (nI (if 6 < run isDig T k sta - sta then 4 else 2)), .int (nI sta), .int (nI (run isDig T k sta)), .int (oI (some (val T sta (min (run isDig T k sta - sta) 6)))), va_rf (wR g wd)])), (t, .inr (1, [.ref tb, .int (nI k)])), (tb, .inl (g.2.1 1, 2000, .inl (aI T)))]) := by
  refine Cn.of R_Tokens [(0, .ref a)] (by decide) rfl (Nat.le_of_ble_eq_true rfl) rfl ?_
  intro x A Q hR hXl hin C E
  subst hXl
  refine r_aload_n C 0 d_Tokens_scanNumber_0 rfl rfl ?_
  refine r_aload_n C 0 d_Tokens_scanNumber_1 rfl rfl ?_
  refine r_get C 0 9 d_Tokens_scanNumber_2 ci_Tokens fi_Tokens_57 rfl (by decide) rfl rfl ?_
  refine r_put C (ws' := [(a, .inr (2, [.ref t, .ref zs, .ref zb, .ref ze, .ref zv, .ref zw, .int (nI cnt), .int (nI nx), .int (nI so), .int (nI sta), .int (nI sta), .int (oI v), va_rf (wR g wd)])), (t, .inr (1, [.ref tb, .int (nI k)])), (tb, .inl (g.2.1 1, 2000, .inl (aI T)))]) 0 10 d_Tokens_scanNumber_5 ci_Tokens fi_Tokens_41 rfl (by decide) rfl rfl (rfl) (rfl) (by simp) rfl ?_
  refine r_aload_n C 0 d_Tokens_scanNumber_8 rfl rfl ?_
  refine r_iconst C (nI 0) d_Tokens_scanNumber_9 (by decide) ?_
  refine r_put C (ws' := [(a, .inr (2, [.ref t, .ref zs, .ref zb, .ref ze, .ref zv, .ref zw, .int (nI cnt), .int (nI nx), .int (nI so), .int (nI sta), .int (nI sta), .int (nI 0), va_rf (wR g wd)])), (t, .inr (1, [.ref tb, .int (nI k)])), (tb, .inl (g.2.1 1, 2000, .inl (aI T)))]) 0 11 d_Tokens_scanNumber_10 ci_Tokens fi_Tokens_60 rfl (by decide) rfl rfl (rfl) (rfl) (by simp) rfl ?_
  refine r_lv (lv' := [(0, .ref a)]) [0] rfl ?_
  exact lp_Tokens_scanNumber_13 g (a := a) (t := t) (zs := zs) (zb := zb) (ze := ze) (zv := zv) (zw := zw) (cnt := cnt) (nx := nx) (tb := tb) (k := k) (so := so) (sta := sta) (en := en) (T := T) (v := v) (wd := wd) hk hT hs  C E hR _ sta 0 (by first | assumption | rfl | omega) (by first | assumption | rfl | omega) (by first | assumption | rfl | omega) (by simp [val]) (Nat.lt_succ_self _)
