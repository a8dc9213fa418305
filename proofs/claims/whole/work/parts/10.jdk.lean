/-! the texts of the constants -/
theorem getD_out {α : Type} {l : List α} {i : Nat} {d : α} (h : l.length ≤ i) : l.getD i d = d := by simp [List.getD, List.getElem?_eq_none h]
def wCh (u j : Nat) : Nat := (wT.getD u []).getD j 0
theorem wAll : ∀ u, u < 23 → (wLen.getD u 0 = (wT.getD u []).length ∧ wLen.getD u 0 ≤ 8 ∧ 0 < wLen.getD u 0 ∧ ∀ j, j < wLen.getD u 0 → ((wByt.getD u []).getD j 0 = nI (wCh u j) ∧ 97 ≤ wCh u j ∧ wCh u j ≤ 122)) := by decide +kernel
theorem wLen_lt (u : Nat) : wLen.getD u 0 < 2 ^ 31 := by
  by_cases h : u < 23
  · have := (wAll u h).2.1; omega
  · rw [getD_out (by simpa [wLen] using h)]; decide
theorem wLen_shr (u : Nat) : nI (wLen.getD u 0) >>> ((0 : Int32) &&& 31) = nI (wLen.getD u 0) := sc_shr0 (wLen_lt u)
theorem wCh_lt (u j : Nat) : wCh u j < 128 := by
  unfold wCh
  by_cases h : u < 23
  · by_cases hj : j < wLen.getD u 0
    · have := ((wAll u h).2.2.2 j hj).2.2
      unfold wCh at this
      omega
    · rw [getD_out (by rw [← (wAll u h).1]; omega)]; decide
  · rw [getD_out (l := wT) (by simpa [wT] using h)]; simp
theorem wByt_eq {u j : Nat} (hu : u < 23) (hj : j < wLen.getD u 0) : (wByt.getD u []).getD j 0 = nI (wCh u j) := ((wAll u hu).2.2.2 j hj).1
theorem wCh_and (u j : Nat) : nI (wCh u j) &&& nI 255 = nI (wCh u j) := by
  have h := wCh_lt u j
  have := pk_andN (n := wCh u j) (by omega) (m := nI 255) 8 (by decide)
  rw [this, Nat.mod_eq_of_lt (by omega)]
theorem wOrd_eq {u : Nat} (hu : u < 23) : wOrd.getD u 0 = nI u := by
  have : ∀ u, u < 23 → wOrd.getD u 0 = nI u := by decide +kernel
  exact this u hu
theorem zq_of {C n d : String} {A : Nat → Prop} {U : State} {H : Heap} (h : va_Zq C n d A U H) : ∃ f : Option Nat, va_Z C n d (va_rf f) A U H := by
  rcases h with h | ⟨t, h⟩
  · exact ⟨none, h⟩
  · exact ⟨some t, h⟩

set_option maxRecDepth 100000 in
theorem fo_Enum_7 : FO R_Enum 7 "java/lang/Enum" "ordinal" "I" := Or.inl (gw (i := 1241) rfl rfl)
set_option maxRecDepth 100000 in
theorem fo_String_15 : FO R_String 15 "java/lang/String" "coder" "B" := Or.inl (gw (i := 1238) rfl rfl)
set_option maxRecDepth 100000 in
theorem fo_String_9 : FO R_String 9 "java/lang/String" "value" "[B" := Or.inl (gw (i := 1237) rfl rfl)
set_option maxRecDepth 100000 in
theorem fs_String_1053 : Cond.fieldLink R_String 1053 "jdk/internal/util/Preconditions" "SIOOBE_FORMATTER" "Ljava/util/function/BiFunction;" ∈ GW := (gw (i := 387) rfl rfl)
set_option maxRecDepth 100000 in
theorem fs_String_38 : Cond.fieldLink R_String 38 "java/lang/String" "COMPACT_STRINGS" "Z" ∈ GW := (gw (i := 370) rfl rfl)
set_option maxRecDepth 100000 in
theorem lk_StringLatin1_9 : LK R_StringLatin1 9 y_String_checkIndex := Or.inl (gw (i := 384) rfl rfl)
set_option maxRecDepth 100000 in
theorem lk_String_1059 : LK R_String 1059 y_Preconditions_checkIndex := Or.inl (gw (i := 389) rfl rfl)
set_option maxRecDepth 100000 in
theorem lk_String_335 : LK R_String 335 y_String_coder := Or.inl (gw (i := 366) rfl rfl)
set_option maxRecDepth 100000 in
theorem lk_String_492 : LK R_String 492 y_String_isLatin1 := Or.inl (gw (i := 377) rfl rfl)
set_option maxRecDepth 100000 in
theorem lk_String_495 : LK R_String 495 y_StringLatin1_charAt := Or.inl (gw (i := 381) rfl rfl)
set_option maxRecDepth 100000 in
theorem mw_Preconditions_checkIndex : MW y_Preconditions_checkIndex b_Preconditions_checkIndex 3 (some .int) 3 := ⟨(gw (i := 391) rfl rfl), (gw (i := 85) rfl rfl), by decide +kernel⟩
set_option maxRecDepth 100000 in
theorem mw_StringLatin1_charAt : MW y_StringLatin1_charAt b_StringLatin1_charAt 2 (some .char) 2 := ⟨(gw (i := 383) rfl rfl), (gw (i := 84) rfl rfl), by decide +kernel⟩
set_option maxRecDepth 100000 in
theorem mw_String_checkIndex : MW y_String_checkIndex b_String_checkIndex 2 none 2 := ⟨(gw (i := 386) rfl rfl), (gw (i := 83) rfl rfl), by decide +kernel⟩
set_option maxRecDepth 100000 in
theorem mw_String_coder : MW y_String_coder b_String_coder 1 (some .byte) 0 := ⟨(gw (i := 369) rfl rfl), (gw (i := 83) rfl rfl), by decide +kernel⟩
set_option maxRecDepth 100000 in
theorem mw_String_isLatin1 : MW y_String_isLatin1 b_String_isLatin1 1 (some .boolean) 0 := ⟨(gw (i := 380) rfl rfl), (gw (i := 83) rfl rfl), by decide +kernel⟩
set_option maxRecDepth 100000 in
theorem st_Preconditions_checkIndex : Cond.static y_Preconditions_checkIndex ∈ GW := (gw (i := 390) rfl rfl)
set_option maxRecDepth 100000 in
theorem st_StringLatin1_charAt : Cond.static y_StringLatin1_charAt ∈ GW := (gw (i := 382) rfl rfl)
set_option maxRecDepth 100000 in
theorem st_String_checkIndex : Cond.static y_String_checkIndex ∈ GW := (gw (i := 385) rfl rfl)
set_option maxRecDepth 100000 in
theorem vs_String_coder : Cond.instanceMethod y_String_coder ∈ GW ∧ Cond.selects "java/lang/String" y_String_coder y_String_coder ∈ GW := ⟨(gw (i := 367) rfl rfl), (gw (i := 368) rfl rfl)⟩
set_option maxRecDepth 100000 in
theorem vs_String_isLatin1 : Cond.instanceMethod y_String_isLatin1 ∈ GW ∧ Cond.selects "java/lang/String" y_String_isLatin1 y_String_isLatin1 ∈ GW := ⟨(gw (i := 378) rfl rfl), (gw (i := 379) rfl rfl)⟩
theorem d_String_coder_0 : decode b_String_coder 0 = .ok (.getstatic 38, 3) := by decide +kernel
theorem d_String_coder_3 : decode b_String_coder 3 = .ok (.ifCond .eq 10, 3) := by decide +kernel
theorem d_String_coder_6 : decode b_String_coder 6 = .ok (.aload_n 0, 1) := by decide +kernel
theorem d_String_coder_7 : decode b_String_coder 7 = .ok (.getfield 15, 3) := by decide +kernel
theorem d_String_coder_10 : decode b_String_coder 10 = .ok (.goto 4, 3) := by decide +kernel
theorem d_String_coder_13 : decode b_String_coder 13 = .ok (.iconst 1, 1) := by decide +kernel
theorem d_String_coder_14 : decode b_String_coder 14 = .ok (.ireturn, 1) := by decide +kernel
theorem d_String_isLatin1_0 : decode b_String_isLatin1 0 = .ok (.getstatic 38, 3) := by decide +kernel
theorem d_String_isLatin1_3 : decode b_String_isLatin1 3 = .ok (.ifCond .eq 14, 3) := by decide +kernel
theorem d_String_isLatin1_6 : decode b_String_isLatin1 6 = .ok (.aload_n 0, 1) := by decide +kernel
theorem d_String_isLatin1_7 : decode b_String_isLatin1 7 = .ok (.getfield 15, 3) := by decide +kernel
theorem d_String_isLatin1_10 : decode b_String_isLatin1 10 = .ok (.ifCond .ne 7, 3) := by decide +kernel
theorem d_String_isLatin1_13 : decode b_String_isLatin1 13 = .ok (.iconst 1, 1) := by decide +kernel
theorem d_String_isLatin1_14 : decode b_String_isLatin1 14 = .ok (.goto 4, 3) := by decide +kernel
theorem d_String_isLatin1_17 : decode b_String_isLatin1 17 = .ok (.iconst 0, 1) := by decide +kernel
theorem d_String_isLatin1_18 : decode b_String_isLatin1 18 = .ok (.ireturn, 1) := by decide +kernel
theorem d_String_length_0 : decode b_String_length 0 = .ok (.aload_n 0, 1) := by decide +kernel
theorem d_String_length_1 : decode b_String_length 1 = .ok (.getfield 9, 3) := by decide +kernel
theorem d_String_length_4 : decode b_String_length 4 = .ok (.arraylength, 1) := by decide +kernel
theorem d_String_length_5 : decode b_String_length 5 = .ok (.aload_n 0, 1) := by decide +kernel
theorem d_String_length_6 : decode b_String_length 6 = .ok (.invokevirtual 335, 3) := by decide +kernel
theorem d_String_length_9 : decode b_String_length 9 = .ok (.ishr, 1) := by decide +kernel
theorem d_String_length_10 : decode b_String_length 10 = .ok (.ireturn, 1) := by decide +kernel
theorem d_Preconditions_checkIndex_0 : decode b_Preconditions_checkIndex 0 = .ok (.iload_n 0, 1) := by decide +kernel
theorem d_Preconditions_checkIndex_1 : decode b_Preconditions_checkIndex 1 = .ok (.ifCond .lt 8, 3) := by decide +kernel
theorem d_Preconditions_checkIndex_4 : decode b_Preconditions_checkIndex 4 = .ok (.iload_n 0, 1) := by decide +kernel
theorem d_Preconditions_checkIndex_5 : decode b_Preconditions_checkIndex 5 = .ok (.iload_n 1, 1) := by decide +kernel
theorem d_Preconditions_checkIndex_6 : decode b_Preconditions_checkIndex 6 = .ok (.if_icmp .lt 10, 3) := by decide +kernel
theorem d_Preconditions_checkIndex_9 : decode b_Preconditions_checkIndex 9 = .ok (.aload_n 2, 1) := by decide +kernel
theorem d_Preconditions_checkIndex_10 : decode b_Preconditions_checkIndex 10 = .ok (.iload_n 0, 1) := by decide +kernel
theorem d_Preconditions_checkIndex_11 : decode b_Preconditions_checkIndex 11 = .ok (.iload_n 1, 1) := by decide +kernel
theorem d_Preconditions_checkIndex_12 : decode b_Preconditions_checkIndex 12 = .ok (.invokestatic 95, 3) := by decide +kernel
theorem d_Preconditions_checkIndex_15 : decode b_Preconditions_checkIndex 15 = .ok (.athrow, 1) := by decide +kernel
theorem d_Preconditions_checkIndex_16 : decode b_Preconditions_checkIndex 16 = .ok (.iload_n 0, 1) := by decide +kernel
theorem d_Preconditions_checkIndex_17 : decode b_Preconditions_checkIndex 17 = .ok (.ireturn, 1) := by decide +kernel
theorem d_String_checkIndex_0 : decode b_String_checkIndex 0 = .ok (.iload_n 0, 1) := by decide +kernel
theorem d_String_checkIndex_1 : decode b_String_checkIndex 1 = .ok (.iload_n 1, 1) := by decide +kernel
theorem d_String_checkIndex_2 : decode b_String_checkIndex 2 = .ok (.getstatic 1053, 3) := by decide +kernel
theorem d_String_checkIndex_5 : decode b_String_checkIndex 5 = .ok (.invokestatic 1059, 3) := by decide +kernel
theorem d_String_checkIndex_8 : decode b_String_checkIndex 8 = .ok (.pop, 1) := by decide +kernel
theorem d_String_checkIndex_9 : decode b_String_checkIndex 9 = .ok (.return_, 1) := by decide +kernel
theorem d_StringLatin1_charAt_0 : decode b_StringLatin1_charAt 0 = .ok (.iload_n 1, 1) := by decide +kernel
theorem d_StringLatin1_charAt_1 : decode b_StringLatin1_charAt 1 = .ok (.aload_n 0, 1) := by decide +kernel
theorem d_StringLatin1_charAt_2 : decode b_StringLatin1_charAt 2 = .ok (.arraylength, 1) := by decide +kernel
theorem d_StringLatin1_charAt_3 : decode b_StringLatin1_charAt 3 = .ok (.invokestatic 9, 3) := by decide +kernel
theorem d_StringLatin1_charAt_6 : decode b_StringLatin1_charAt 6 = .ok (.aload_n 0, 1) := by decide +kernel
theorem d_StringLatin1_charAt_7 : decode b_StringLatin1_charAt 7 = .ok (.iload_n 1, 1) := by decide +kernel
theorem d_StringLatin1_charAt_8 : decode b_StringLatin1_charAt 8 = .ok (.baload, 1) := by decide +kernel
theorem d_StringLatin1_charAt_9 : decode b_StringLatin1_charAt 9 = .ok (.sipush 255, 3) := by decide +kernel
theorem d_StringLatin1_charAt_12 : decode b_StringLatin1_charAt 12 = .ok (.iand, 1) := by decide +kernel
theorem d_StringLatin1_charAt_13 : decode b_StringLatin1_charAt 13 = .ok (.i2c, 1) := by decide +kernel
theorem d_StringLatin1_charAt_14 : decode b_StringLatin1_charAt 14 = .ok (.ireturn, 1) := by decide +kernel
theorem d_String_charAt_0 : decode b_String_charAt 0 = .ok (.aload_n 0, 1) := by decide +kernel
theorem d_String_charAt_1 : decode b_String_charAt 1 = .ok (.invokevirtual 492, 3) := by decide +kernel
theorem d_String_charAt_4 : decode b_String_charAt 4 = .ok (.ifCond .eq 12, 3) := by decide +kernel
theorem d_String_charAt_7 : decode b_String_charAt 7 = .ok (.aload_n 0, 1) := by decide +kernel
theorem d_String_charAt_8 : decode b_String_charAt 8 = .ok (.getfield 9, 3) := by decide +kernel
theorem d_String_charAt_11 : decode b_String_charAt 11 = .ok (.iload_n 1, 1) := by decide +kernel
theorem d_String_charAt_12 : decode b_String_charAt 12 = .ok (.invokestatic 495, 3) := by decide +kernel
theorem d_String_charAt_15 : decode b_String_charAt 15 = .ok (.ireturn, 1) := by decide +kernel
theorem d_String_charAt_16 : decode b_String_charAt 16 = .ok (.aload_n 0, 1) := by decide +kernel
theorem d_String_charAt_17 : decode b_String_charAt 17 = .ok (.getfield 9, 3) := by decide +kernel
theorem d_String_charAt_20 : decode b_String_charAt 20 = .ok (.iload_n 1, 1) := by decide +kernel
theorem d_String_charAt_21 : decode b_String_charAt 21 = .ok (.invokestatic 498, 3) := by decide +kernel
theorem d_String_charAt_24 : decode b_String_charAt 24 = .ok (.ireturn, 1) := by decide +kernel
theorem d_Enum_ordinal_0 : decode b_Enum_ordinal 0 = .ok (.aload_n 0, 1) := by decide +kernel
theorem d_Enum_ordinal_1 : decode b_Enum_ordinal 1 = .ok (.getfield 7, 3) := by decide +kernel
theorem d_Enum_ordinal_4 : decode b_Enum_ordinal 4 = .ok (.ireturn, 1) := by decide +kernel
set_option maxHeartbeats 4000000 in
set_option maxRecDepth 100000 in
theorem c_String_coder (g : GG) (l : Launch) {u : Nat}  (hu : u < 23) : Cn g l y_String_coder b_String_coder 1 (some .byte) (rmk 0 0 0 0) [.ref (g.2.2.2.1 u)] ([]) (fun (r0 : Option Value) (w0 : va_W) => r0 = some (.int 0) ∧ w0 = []) := by
  refine Cn.of R_String [(0, .ref (g.2.2.2.1 u))] (by decide) rfl (Nat.le_of_ble_eq_true rfl) rfl ?_
  intro x A Q hR hXl hin C E
  subst hXl
  refine r_gets C d_String_coder_0 (C.2.2.2.2.2.2.2.1.2.2.2.2.2.1) fs_String_38 ?_
  refine r_if_eq C 13 d_String_coder_3 (by decide) (fun c_3 => ?_) (fun c_3 => ?_)
  · exact absurd c_3 (by decide)
  · skip
    refine r_aload_n C 0 d_String_coder_6 rfl rfl ?_
    refine r_getO C d_String_coder_7 ((C.2.2.2.2.2.2.2.1.2.2.1.1 u hu).2.1) fo_String_15 ?_
    refine r_goto C 14 d_String_coder_10 (by decide) ?_
    refine r_zret C E d_String_coder_14 (rfl) (by first | decide | omega | (simp only [rmk]; omega)) (by first | decide | omega | (simp only [rmk]; omega)) ?_
    exact ⟨rfl, rfl⟩

set_option maxHeartbeats 4000000 in
set_option maxRecDepth 100000 in
theorem c_String_isLatin1 (g : GG) (l : Launch) {u : Nat}  (hu : u < 23) : Cn g l y_String_isLatin1 b_String_isLatin1 1 (some .boolean) (rmk 0 0 0 0) [.ref (g.2.2.2.1 u)] ([]) (fun (r0 : Option Value) (w0 : va_W) => r0 = some (.int (bI true)) ∧ w0 = []) := by
  refine Cn.of R_String [(0, .ref (g.2.2.2.1 u))] (by decide) rfl (Nat.le_of_ble_eq_true rfl) rfl ?_
  intro x A Q hR hXl hin C E
  subst hXl
  refine r_gets C d_String_isLatin1_0 (C.2.2.2.2.2.2.2.1.2.2.2.2.2.1) fs_String_38 ?_
  refine r_if_eq C 17 d_String_isLatin1_3 (by decide) (fun c_3 => ?_) (fun c_3 => ?_)
  · exact absurd c_3 (by decide)
  · skip
    refine r_aload_n C 0 d_String_isLatin1_6 rfl rfl ?_
    refine r_getO C d_String_isLatin1_7 ((C.2.2.2.2.2.2.2.1.2.2.1.1 u hu).2.1) fo_String_15 ?_
    refine r_if_ne C 17 d_String_isLatin1_10 (by decide) (fun c_10 => ?_) (fun c_10 => ?_)
    · exact absurd rfl c_10
    · skip
      refine r_iconst C (nI 1) d_String_isLatin1_13 (by decide) ?_
      refine r_goto C 18 d_String_isLatin1_14 (by decide) ?_
      refine r_eqS (st' := [.int (bI true)]) rfl ?_
      refine r_bret C E d_String_isLatin1_18 (by first | decide | omega | (simp only [rmk]; omega)) (by first | decide | omega | (simp only [rmk]; omega)) ?_
      exact ⟨rfl, rfl⟩

set_option maxHeartbeats 4000000 in
set_option maxRecDepth 100000 in
theorem c_String_length (g : GG) (l : Launch) {u : Nat}  (hu : u < 23) : Cn g l y_String_length b_String_length 1 (some .int) (rmk 1 0 0 20) [.ref (g.2.2.2.1 u)] ([]) (fun (r0 : Option Value) (w0 : va_W) => r0 = some (.int (nI (wLen.getD u 0))) ∧ w0 = []) := by
  refine Cn.of R_String [(0, .ref (g.2.2.2.1 u))] (by decide) rfl (Nat.le_of_ble_eq_true rfl) rfl ?_
  intro x A Q hR hXl hin C E
  subst hXl
  refine r_aload_n C 0 d_String_length_0 rfl rfl ?_
  refine r_getO C d_String_length_1 ((C.2.2.2.2.2.2.2.1.2.2.1.1 u hu).2.2.1) fo_String_9 ?_
  refine r_tlen C d_String_length_4 (C.2.2.2.2.2.2.2.1.2.2.1.1 u hu).2.2.2 ?_
  refine r_aload_n C 0 d_String_length_5 rfl rfl ?_
  refine j_callC C (c_String_coder g (xl x) (u := u) (by first | assumption | rfl | omega)) (Sp.of (wr := []) [] [] rfl rfl rfl rfl (by decide)) d_String_length_6 lk_String_335 mw_String_coder vs_String_coder (C.2.2.2.2.2.2.2.1.2.2.1.1 u hu).1 (fit_of hR (by first | decide | (simp only [rmk]; omega)) (by first | decide | (simp only [rmk]; omega)) (by first | decide | (simp only [rmk]; omega)) (by first | decide | (simp only [rmk]; omega))) rfl (cat8 (Nat.le_of_ble_eq_true rfl)) (As := []) (rest := [.int (nI (wLen.getD u 0))]) rfl (fun r_6 w_6 hp_6 => ?_)
  obtain ⟨rfl, rfl⟩ := hp_6
  refine r_after (ws' := []) (st' := [.int 0, .int (nI (wLen.getD u 0))]) (n1 := 0) (n2 := 0) [] rfl rfl rfl rfl rfl ?_
  refine r_ishr C d_String_length_9 (v := nI (wLen.getD u 0)) (wLen_shr u) ?_
  refine r_iret C E d_String_length_10 (by first | decide | omega | (simp only [rmk]; omega)) (by first | decide | omega | (simp only [rmk]; omega)) ?_
  exact ⟨rfl, rfl⟩

set_option maxHeartbeats 4000000 in
set_option maxRecDepth 100000 in
theorem c_Preconditions_checkIndex (g : GG) (l : Launch) {j : Nat} {m : Nat} {f : Option Nat}  (hj : j < m) (hm : m < 2 ^ 31) : Cn g l y_Preconditions_checkIndex b_Preconditions_checkIndex 3 (some .int) (rmk 0 0 0 0) [.int (nI j), .int (nI m), va_rf f] ([]) (fun (r0 : Option Value) (w0 : va_W) => r0 = some (.int (nI j)) ∧ w0 = []) := by
  refine Cn.of R_Preconditions [(0, .int (nI j)), (1, .int (nI m)), (2, va_rf f)] (by decide) rfl (by generalize f = z0; cases z0 <;> exact Nat.le_of_ble_eq_true rfl) (by generalize f = z0; cases z0 <;> rfl) ?_
  intro x A Q hR hXl hin C E
  subst hXl
  refine r_iload_n C 0 d_Preconditions_checkIndex_0 rfl rfl ?_
  refine r_nif_lt C 9 d_Preconditions_checkIndex_1 (by decide) (by omega) (fun c_1 => ?_) (fun c_1 => ?_)
  · exact absurd c_1 (by omega)
  · skip
    refine r_iload_n C 0 d_Preconditions_checkIndex_4 rfl rfl ?_
    refine r_iload_n C 1 d_Preconditions_checkIndex_5 rfl rfl ?_
    refine r_ncmp_lt C 16 d_Preconditions_checkIndex_6 (by decide) (by omega) (by omega) (fun c_6 => ?_) (fun c_6 => ?_)
    · skip
      refine r_iload_n C 0 d_Preconditions_checkIndex_16 rfl rfl ?_
      refine r_iret C E d_Preconditions_checkIndex_17 (by first | decide | omega | (simp only [rmk]; omega)) (by first | decide | omega | (simp only [rmk]; omega)) ?_
      exact ⟨rfl, rfl⟩
    · exact absurd c_6 (by omega)

set_option maxHeartbeats 4000000 in
set_option maxRecDepth 100000 in
theorem c_String_checkIndex (g : GG) (l : Launch) {j : Nat} {m : Nat}  (hj : j < m) (hm : m < 2 ^ 31) : Cn g l y_String_checkIndex b_String_checkIndex 2 none (rmk 1 0 0 22) [.int (nI j), .int (nI m)] ([]) (fun (r0 : Option Value) (w0 : va_W) => r0 = none ∧ w0 = []) := by
  refine Cn.of R_String [(0, .int (nI j)), (1, .int (nI m))] (by decide) rfl (Nat.le_of_ble_eq_true rfl) rfl ?_
  intro x A Q hR hXl hin C E
  subst hXl
  refine r_iload_n C 0 d_String_checkIndex_0 rfl rfl ?_
  refine r_iload_n C 1 d_String_checkIndex_1 rfl rfl ?_
  obtain ⟨f, hf⟩ := zq_of C.2.2.2.2.2.2.2.1.2.2.2.2.2.2.2.2.1
  refine r_gets C d_String_checkIndex_2 hf fs_String_1053 ?_
  refine j_callS C (c_Preconditions_checkIndex g (xl x) (j := j) (m := m) (f := f) (by first | assumption | rfl | omega) (by first | assumption | rfl | omega)) (Sp.of (wr := []) [] [] rfl rfl rfl rfl (by decide)) d_String_checkIndex_5 lk_String_1059 mw_Preconditions_checkIndex st_Preconditions_checkIndex (fit_of hR (by first | decide | (simp only [rmk]; omega)) (by first | decide | (simp only [rmk]; omega)) (by first | decide | (simp only [rmk]; omega)) (by first | decide | (simp only [rmk]; omega))) rfl (cat8 (Nat.le_of_ble_eq_true rfl)) (As := [.int (nI j), .int (nI m), va_rf f]) (rest := []) rfl (fun r_5 w_5 hp_5 => ?_)
  obtain ⟨rfl, rfl⟩ := hp_5
  refine r_after (ws' := []) (st' := [.int (nI j)]) (n1 := 0) (n2 := 0) [] rfl rfl rfl rfl rfl ?_
  refine r_pop C d_String_checkIndex_8 rfl ?_
  refine r_vret C E d_String_checkIndex_9 (by first | decide | omega | (simp only [rmk]; omega)) (by first | decide | omega | (simp only [rmk]; omega)) ?_
  exact ⟨rfl, rfl⟩

set_option maxHeartbeats 4000000 in
set_option maxRecDepth 100000 in
theorem c_StringLatin1_charAt (g : GG) (l : Launch) {u : Nat} {j : Nat}  (hu : u < 23) (hj : j < wLen.getD u 0) : Cn g l y_StringLatin1_charAt b_StringLatin1_charAt 2 (some .char) (rmk 2 0 0 43) [.ref (g.2.2.2.2 u), .int (nI j)] ([]) (fun (r0 : Option Value) (w0 : va_W) => r0 = some (.int (nI (wCh u j))) ∧ w0 = []) := by
  refine Cn.of R_StringLatin1 [(0, .ref (g.2.2.2.2 u)), (1, .int (nI j))] (by decide) rfl (Nat.le_of_ble_eq_true rfl) rfl ?_
  intro x A Q hR hXl hin C E
  subst hXl
  refine r_iload_n C 1 d_StringLatin1_charAt_0 rfl rfl ?_
  refine r_aload_n C 0 d_StringLatin1_charAt_1 rfl rfl ?_
  refine r_tlen C d_StringLatin1_charAt_2 (C.2.2.2.2.2.2.2.1.2.2.1.1 u hu).2.2.2 ?_
  refine j_callS C (c_String_checkIndex g (xl x) (j := j) (m := wLen.getD u 0) (by first | assumption | rfl | omega) (wLen_lt u)) (Sp.of (wr := []) [] [] rfl rfl rfl rfl (by decide)) d_StringLatin1_charAt_3 lk_StringLatin1_9 mw_String_checkIndex st_String_checkIndex (fit_of hR (by first | decide | (simp only [rmk]; omega)) (by first | decide | (simp only [rmk]; omega)) (by first | decide | (simp only [rmk]; omega)) (by first | decide | (simp only [rmk]; omega))) rfl (cat8 (Nat.le_of_ble_eq_true rfl)) (As := [.int (nI j), .int (nI (wLen.getD u 0))]) (rest := []) rfl (fun r_3 w_3 hp_3 => ?_)
  obtain ⟨rfl, rfl⟩ := hp_3
  refine r_after (ws' := []) (st' := []) (n1 := 0) (n2 := 0) [] rfl rfl rfl rfl rfl ?_
  refine r_aload_n C 0 d_StringLatin1_charAt_6 rfl rfl ?_
  refine r_iload_n C 1 d_StringLatin1_charAt_7 rfl rfl ?_
  refine r_tb C d_StringLatin1_charAt_8 (C.2.2.2.2.2.2.2.1.2.2.1.1 u hu).2.2.2 (by omega) (wLen_lt u) ?_
  refine r_eqS (st' := [.int (nI (wCh u j))]) (by simp only [wByt_eq hu hj]) ?_
  refine r_sipush C (nI 255) d_StringLatin1_charAt_9 (by decide) ?_
  refine r_iand C d_StringLatin1_charAt_12 ?_
  refine r_top (v' := nI (wCh u j)) (wCh_and u j) ?_
  have hch := wCh_lt u j
  refine r_i2c C d_StringLatin1_charAt_13 (by omega) ?_
  refine r_zret C E d_StringLatin1_charAt_14 ((pk_charN (by have := wCh_lt u j; omega)).1) (by first | decide | omega | (simp only [rmk]; omega)) (by first | decide | omega | (simp only [rmk]; omega)) ?_
  exact ⟨rfl, rfl⟩

set_option maxHeartbeats 4000000 in
set_option maxRecDepth 100000 in
theorem c_String_charAt (g : GG) (l : Launch) {u : Nat} {j : Nat}  (hu : u < 23) (hj : j < wLen.getD u 0) : Cn g l y_String_charAt b_String_charAt 2 (some .char) (rmk 3 0 0 64) [.ref (g.2.2.2.1 u), .int (nI j)] ([]) (fun (r0 : Option Value) (w0 : va_W) => r0 = some (.int (nI (wCh u j))) ∧ w0 = []) := by
  refine Cn.of R_String [(0, .ref (g.2.2.2.1 u)), (1, .int (nI j))] (by decide) rfl (Nat.le_of_ble_eq_true rfl) rfl ?_
  intro x A Q hR hXl hin C E
  subst hXl
  refine r_aload_n C 0 d_String_charAt_0 rfl rfl ?_
  refine j_callC C (c_String_isLatin1 g (xl x) (u := u) (by first | assumption | rfl | omega)) (Sp.of (wr := []) [] [] rfl rfl rfl rfl (by decide)) d_String_charAt_1 lk_String_492 mw_String_isLatin1 vs_String_isLatin1 (C.2.2.2.2.2.2.2.1.2.2.1.1 u hu).1 (fit_of hR (by first | decide | (simp only [rmk]; omega)) (by first | decide | (simp only [rmk]; omega)) (by first | decide | (simp only [rmk]; omega)) (by first | decide | (simp only [rmk]; omega))) rfl (cat8 (Nat.le_of_ble_eq_true rfl)) (As := []) (rest := []) rfl (fun r_1 w_1 hp_1 => ?_)
  obtain ⟨rfl, rfl⟩ := hp_1
  refine r_after (ws' := []) (st' := [.int (bI true)]) (n1 := 0) (n2 := 0) [] rfl rfl rfl rfl rfl ?_
  refine r_bif_eq C 16 d_String_charAt_4 (by decide) (fun c_4 => ?_) (fun c_4 => ?_)
  skip
  · exact absurd c_4 (by decide)
  refine r_aload_n C 0 d_String_charAt_7 rfl rfl ?_
  refine r_getO C d_String_charAt_8 ((C.2.2.2.2.2.2.2.1.2.2.1.1 u hu).2.2.1) fo_String_9 ?_
  refine r_iload_n C 1 d_String_charAt_11 rfl rfl ?_
  refine j_callS C (c_StringLatin1_charAt g (xl x) (u := u) (j := j) (by first | assumption | rfl | omega) (by first | assumption | rfl | omega)) (Sp.of (wr := []) [] [] rfl rfl rfl rfl (by decide)) d_String_charAt_12 lk_String_495 mw_StringLatin1_charAt st_StringLatin1_charAt (fit_of hR (by first | decide | (simp only [rmk]; omega)) (by first | decide | (simp only [rmk]; omega)) (by first | decide | (simp only [rmk]; omega)) (by first | decide | (simp only [rmk]; omega))) rfl (cat8 (Nat.le_of_ble_eq_true rfl)) (As := [.ref (g.2.2.2.2 u), .int (nI j)]) (rest := []) rfl (fun r_12 w_12 hp_12 => ?_)
  obtain ⟨rfl, rfl⟩ := hp_12
  refine r_after (ws' := []) (st' := [.int (nI (wCh u j))]) (n1 := 0) (n2 := 0) [] rfl rfl rfl rfl rfl ?_
  refine r_zret C E d_String_charAt_15 ((pk_charN (by have := wCh_lt u j; omega)).1) (by first | decide | omega | (simp only [rmk]; omega)) (by first | decide | omega | (simp only [rmk]; omega)) ?_
  exact ⟨rfl, rfl⟩

set_option maxHeartbeats 4000000 in
set_option maxRecDepth 100000 in
theorem c_Enum_ordinal (g : GG) (l : Launch) {u : Nat}  (hu : u < 23) : Cn g l y_Enum_ordinal b_Enum_ordinal 1 (some .int) (rmk 0 0 0 0) [.ref (g.2.2.1 u)] ([]) (fun (r0 : Option Value) (w0 : va_W) => r0 = some (.int (nI u)) ∧ w0 = []) := by
  refine Cn.of R_Enum [(0, .ref (g.2.2.1 u))] (by decide) rfl (Nat.le_of_ble_eq_true rfl) rfl ?_
  intro x A Q hR hXl hin C E
  subst hXl
  refine r_aload_n C 0 d_Enum_ordinal_0 rfl rfl ?_
  refine r_getO C d_Enum_ordinal_1 ((C.2.2.2.2.2.2.2.1.1.1 u hu).2.2 ("java/lang/Enum", "ordinal", "I", wOrd) (by simp [wF])) fo_Enum_7 ?_
  refine r_top (v' := nI u) (wOrd_eq hu) ?_
  refine r_iret C E d_Enum_ordinal_4 (by first | decide | omega | (simp only [rmk]; omega)) (by first | decide | omega | (simp only [rmk]; omega)) ?_
  exact ⟨rfl, rfl⟩
