def w32 (T : Nat → Nat) (s : Nat) : Nat → Nat
  | 0 => 0
  | m + 1 => 32 * w32 T s m + (T (s + m) - 96)
/-- the token is the word whose first six letters are hi, its others lo, at five bits a letter -/
def isWm (T : Nat → Nat) (so sta en hi lo : Nat) : Bool := decide (so = 1 ∧ en - sta ≤ 12 ∧ w32 T sta (min (en - sta) 6) = hi ∧ w32 T (sta + 6) (en - sta - 6) = lo)
def cod (a b c d e f : Nat) : Nat := ((((a * 32 + b) * 32 + c) * 32 + d) * 32 + e) * 32 + f
theorem w32_lt {T : Nat → Nat} {s m : Nat} (hm : m ≤ 6) (h : ∀ t, t < m → T (s + t) ≤ 122) : w32 T s m < 2 ^ 31 := by
  have q : ∀ m, (∀ t, t < m → T (s + t) ≤ 122) → w32 T s m < 32 ^ m := by
    intro m
    induction m with
    | zero => intro _; simp [w32]
    | succ m ih =>
      intro h
      have h1 := ih (fun t ht => h t (by omega))
      have h2 := h m (by omega)
      rw [w32, Nat.pow_succ]
      omega
  have h1 := q m h
  have h2 : 32 ^ m ≤ 32 ^ 6 := Nat.pow_le_pow_right (by omega) hm
  have h3 : (32 : Nat) ^ 6 = 1073741824 := by decide
  omega
theorem w32_a {T : Nat → Nat} {s i : Nat} (h : s ≤ i ∧ i - s < 6) (hl : 96 ≤ T i) : 32 * w32 T s (min (i - s) 6) + T i - 96 = w32 T s (min (i + 1 - s) 6) := by
  rw [Nat.min_eq_left (by omega), Nat.min_eq_left (by omega), show i + 1 - s = (i - s) + 1 by omega, w32, show s + (i - s) = i by omega]
  omega
theorem w32_b {T : Nat → Nat} {s i : Nat} (h : s ≤ i ∧ 6 ≤ i - s) (hl : 96 ≤ T i) : 32 * w32 T (s + 6) (i - s - 6) + T i - 96 = w32 T (s + 6) (i + 1 - s - 6) := by
  rw [show i + 1 - s - 6 = (i - s - 6) + 1 by omega, w32, show s + 6 + (i - s - 6) = i by omega]
  omega

set_option maxRecDepth 100000 in
theorem fi_Mo_97 : FI R_Mo 97 R_Mo F_Mo 20 := Or.inl (gw (i := 920) rfl rfl)
set_option maxRecDepth 100000 in
theorem lk_Mo_129 : LK R_Mo 129 y_Mo_code := Or.inl (gw (i := 1087) rfl rfl)
set_option maxRecDepth 100000 in
theorem lk_Mo_133 : LK R_Mo 133 y_Mo_isWord := Or.inl (gw (i := 1090) rfl rfl)
set_option maxRecDepth 100000 in
theorem mw_Mo_code : MW y_Mo_code b_Mo_code 6 (some .int) 6 := ⟨(gw (i := 1089) rfl rfl), (gw (i := 80) rfl rfl), by decide +kernel⟩
set_option maxRecDepth 100000 in
theorem mw_Mo_isWord : MW y_Mo_isWord b_Mo_isWord 6 (some .boolean) 2 := ⟨(gw (i := 1093) rfl rfl), (gw (i := 80) rfl rfl), by decide +kernel⟩
set_option maxRecDepth 100000 in
theorem st_Mo_code : Cond.static y_Mo_code ∈ GW := (gw (i := 1088) rfl rfl)
set_option maxRecDepth 100000 in
theorem vw_Mo_isWord : VW y_Mo_isWord := ⟨(gw (i := 1092) rfl rfl), (gw (i := 45) rfl rfl)⟩
theorem d_Mo_isWord_0 : decode b_Mo_isWord 0 = .ok (.aload_n 0, 1) := by decide +kernel
theorem d_Mo_isWord_1 : decode b_Mo_isWord 1 = .ok (.getfield 100, 3) := by decide +kernel
theorem d_Mo_isWord_4 : decode b_Mo_isWord 4 = .ok (.iconst 1, 1) := by decide +kernel
theorem d_Mo_isWord_5 : decode b_Mo_isWord 5 = .ok (.if_icmp .ne 17, 3) := by decide +kernel
theorem d_Mo_isWord_8 : decode b_Mo_isWord 8 = .ok (.aload_n 0, 1) := by decide +kernel
theorem d_Mo_isWord_9 : decode b_Mo_isWord 9 = .ok (.getfield 97, 3) := by decide +kernel
theorem d_Mo_isWord_12 : decode b_Mo_isWord 12 = .ok (.aload_n 0, 1) := by decide +kernel
theorem d_Mo_isWord_13 : decode b_Mo_isWord 13 = .ok (.getfield 106, 3) := by decide +kernel
theorem d_Mo_isWord_16 : decode b_Mo_isWord 16 = .ok (.isub, 1) := by decide +kernel
theorem d_Mo_isWord_17 : decode b_Mo_isWord 17 = .ok (.bipush 12, 2) := by decide +kernel
theorem d_Mo_isWord_19 : decode b_Mo_isWord 19 = .ok (.if_icmp .le 5, 3) := by decide +kernel
theorem d_Mo_isWord_22 : decode b_Mo_isWord 22 = .ok (.iconst 0, 1) := by decide +kernel
theorem d_Mo_isWord_23 : decode b_Mo_isWord 23 = .ok (.ireturn, 1) := by decide +kernel
theorem d_Mo_isWord_24 : decode b_Mo_isWord 24 = .ok (.iconst 0, 1) := by decide +kernel
theorem d_Mo_isWord_25 : decode b_Mo_isWord 25 = .ok (.istore_n 3, 1) := by decide +kernel
theorem d_Mo_isWord_26 : decode b_Mo_isWord 26 = .ok (.iconst 0, 1) := by decide +kernel
theorem d_Mo_isWord_27 : decode b_Mo_isWord 27 = .ok (.istore 4, 2) := by decide +kernel
theorem d_Mo_isWord_29 : decode b_Mo_isWord 29 = .ok (.aload_n 0, 1) := by decide +kernel
theorem d_Mo_isWord_30 : decode b_Mo_isWord 30 = .ok (.getfield 106, 3) := by decide +kernel
theorem d_Mo_isWord_33 : decode b_Mo_isWord 33 = .ok (.istore 5, 2) := by decide +kernel
theorem d_Mo_isWord_35 : decode b_Mo_isWord 35 = .ok (.iload 5, 2) := by decide +kernel
theorem d_Mo_isWord_37 : decode b_Mo_isWord 37 = .ok (.aload_n 0, 1) := by decide +kernel
theorem d_Mo_isWord_38 : decode b_Mo_isWord 38 = .ok (.getfield 97, 3) := by decide +kernel
theorem d_Mo_isWord_41 : decode b_Mo_isWord 41 = .ok (.if_icmp .ge 58, 3) := by decide +kernel
theorem d_Mo_isWord_44 : decode b_Mo_isWord 44 = .ok (.iload 5, 2) := by decide +kernel
theorem d_Mo_isWord_46 : decode b_Mo_isWord 46 = .ok (.aload_n 0, 1) := by decide +kernel
theorem d_Mo_isWord_47 : decode b_Mo_isWord 47 = .ok (.getfield 106, 3) := by decide +kernel
theorem d_Mo_isWord_50 : decode b_Mo_isWord 50 = .ok (.isub, 1) := by decide +kernel
theorem d_Mo_isWord_51 : decode b_Mo_isWord 51 = .ok (.bipush 6, 2) := by decide +kernel
theorem d_Mo_isWord_53 : decode b_Mo_isWord 53 = .ok (.if_icmp .ge 22, 3) := by decide +kernel
theorem d_Mo_isWord_56 : decode b_Mo_isWord 56 = .ok (.bipush 32, 2) := by decide +kernel
theorem d_Mo_isWord_58 : decode b_Mo_isWord 58 = .ok (.iload_n 3, 1) := by decide +kernel
theorem d_Mo_isWord_59 : decode b_Mo_isWord 59 = .ok (.imul, 1) := by decide +kernel
theorem d_Mo_isWord_60 : decode b_Mo_isWord 60 = .ok (.aload_n 0, 1) := by decide +kernel
theorem d_Mo_isWord_61 : decode b_Mo_isWord 61 = .ok (.getfield 7, 3) := by decide +kernel
theorem d_Mo_isWord_64 : decode b_Mo_isWord 64 = .ok (.iload 5, 2) := by decide +kernel
theorem d_Mo_isWord_66 : decode b_Mo_isWord 66 = .ok (.iaload, 1) := by decide +kernel
theorem d_Mo_isWord_67 : decode b_Mo_isWord 67 = .ok (.iadd, 1) := by decide +kernel
theorem d_Mo_isWord_68 : decode b_Mo_isWord 68 = .ok (.bipush 96, 2) := by decide +kernel
theorem d_Mo_isWord_70 : decode b_Mo_isWord 70 = .ok (.isub, 1) := by decide +kernel
theorem d_Mo_isWord_71 : decode b_Mo_isWord 71 = .ok (.istore_n 3, 1) := by decide +kernel
theorem d_Mo_isWord_72 : decode b_Mo_isWord 72 = .ok (.goto 21, 3) := by decide +kernel
theorem d_Mo_isWord_75 : decode b_Mo_isWord 75 = .ok (.bipush 32, 2) := by decide +kernel
theorem d_Mo_isWord_77 : decode b_Mo_isWord 77 = .ok (.iload 4, 2) := by decide +kernel
theorem d_Mo_isWord_79 : decode b_Mo_isWord 79 = .ok (.imul, 1) := by decide +kernel
theorem d_Mo_isWord_80 : decode b_Mo_isWord 80 = .ok (.aload_n 0, 1) := by decide +kernel
theorem d_Mo_isWord_81 : decode b_Mo_isWord 81 = .ok (.getfield 7, 3) := by decide +kernel
theorem d_Mo_isWord_84 : decode b_Mo_isWord 84 = .ok (.iload 5, 2) := by decide +kernel
theorem d_Mo_isWord_86 : decode b_Mo_isWord 86 = .ok (.iaload, 1) := by decide +kernel
theorem d_Mo_isWord_87 : decode b_Mo_isWord 87 = .ok (.iadd, 1) := by decide +kernel
theorem d_Mo_isWord_88 : decode b_Mo_isWord 88 = .ok (.bipush 96, 2) := by decide +kernel
theorem d_Mo_isWord_90 : decode b_Mo_isWord 90 = .ok (.isub, 1) := by decide +kernel
theorem d_Mo_isWord_91 : decode b_Mo_isWord 91 = .ok (.istore 4, 2) := by decide +kernel
theorem d_Mo_isWord_93 : decode b_Mo_isWord 93 = .ok (.iinc 5 1, 3) := by decide +kernel
theorem d_Mo_isWord_96 : decode b_Mo_isWord 96 = .ok (.goto (-61), 3) := by decide +kernel
theorem d_Mo_isWord_99 : decode b_Mo_isWord 99 = .ok (.iload_n 3, 1) := by decide +kernel
theorem d_Mo_isWord_100 : decode b_Mo_isWord 100 = .ok (.iload_n 1, 1) := by decide +kernel
theorem d_Mo_isWord_101 : decode b_Mo_isWord 101 = .ok (.if_icmp .ne 13, 3) := by decide +kernel
theorem d_Mo_isWord_104 : decode b_Mo_isWord 104 = .ok (.iload 4, 2) := by decide +kernel
theorem d_Mo_isWord_106 : decode b_Mo_isWord 106 = .ok (.iload_n 2, 1) := by decide +kernel
theorem d_Mo_isWord_107 : decode b_Mo_isWord 107 = .ok (.if_icmp .ne 7, 3) := by decide +kernel
theorem d_Mo_isWord_110 : decode b_Mo_isWord 110 = .ok (.iconst 1, 1) := by decide +kernel
theorem d_Mo_isWord_111 : decode b_Mo_isWord 111 = .ok (.goto 4, 3) := by decide +kernel
theorem d_Mo_isWord_114 : decode b_Mo_isWord 114 = .ok (.iconst 0, 1) := by decide +kernel
theorem d_Mo_isWord_115 : decode b_Mo_isWord 115 = .ok (.ireturn, 1) := by decide +kernel
theorem d_Mo_code_0 : decode b_Mo_code 0 = .ok (.iload_n 0, 1) := by decide +kernel
theorem d_Mo_code_1 : decode b_Mo_code 1 = .ok (.bipush 32, 2) := by decide +kernel
theorem d_Mo_code_3 : decode b_Mo_code 3 = .ok (.imul, 1) := by decide +kernel
theorem d_Mo_code_4 : decode b_Mo_code 4 = .ok (.iload_n 1, 1) := by decide +kernel
theorem d_Mo_code_5 : decode b_Mo_code 5 = .ok (.iadd, 1) := by decide +kernel
theorem d_Mo_code_6 : decode b_Mo_code 6 = .ok (.bipush 32, 2) := by decide +kernel
theorem d_Mo_code_8 : decode b_Mo_code 8 = .ok (.imul, 1) := by decide +kernel
theorem d_Mo_code_9 : decode b_Mo_code 9 = .ok (.iload_n 2, 1) := by decide +kernel
theorem d_Mo_code_10 : decode b_Mo_code 10 = .ok (.iadd, 1) := by decide +kernel
theorem d_Mo_code_11 : decode b_Mo_code 11 = .ok (.bipush 32, 2) := by decide +kernel
theorem d_Mo_code_13 : decode b_Mo_code 13 = .ok (.imul, 1) := by decide +kernel
theorem d_Mo_code_14 : decode b_Mo_code 14 = .ok (.iload_n 3, 1) := by decide +kernel
theorem d_Mo_code_15 : decode b_Mo_code 15 = .ok (.iadd, 1) := by decide +kernel
theorem d_Mo_code_16 : decode b_Mo_code 16 = .ok (.bipush 32, 2) := by decide +kernel
theorem d_Mo_code_18 : decode b_Mo_code 18 = .ok (.imul, 1) := by decide +kernel
theorem d_Mo_code_19 : decode b_Mo_code 19 = .ok (.iload 4, 2) := by decide +kernel
theorem d_Mo_code_21 : decode b_Mo_code 21 = .ok (.iadd, 1) := by decide +kernel
theorem d_Mo_code_22 : decode b_Mo_code 22 = .ok (.bipush 32, 2) := by decide +kernel
theorem d_Mo_code_24 : decode b_Mo_code 24 = .ok (.imul, 1) := by decide +kernel
theorem d_Mo_code_25 : decode b_Mo_code 25 = .ok (.iload 5, 2) := by decide +kernel
theorem d_Mo_code_27 : decode b_Mo_code 27 = .ok (.iadd, 1) := by decide +kernel
theorem d_Mo_code_28 : decode b_Mo_code 28 = .ok (.ireturn, 1) := by decide +kernel
theorem d_Mo_is3_0 : decode b_Mo_is3 0 = .ok (.aload_n 0, 1) := by decide +kernel
theorem d_Mo_is3_1 : decode b_Mo_is3 1 = .ok (.iconst 0, 1) := by decide +kernel
theorem d_Mo_is3_2 : decode b_Mo_is3 2 = .ok (.iconst 0, 1) := by decide +kernel
theorem d_Mo_is3_3 : decode b_Mo_is3 3 = .ok (.iconst 0, 1) := by decide +kernel
theorem d_Mo_is3_4 : decode b_Mo_is3 4 = .ok (.iload_n 1, 1) := by decide +kernel
theorem d_Mo_is3_5 : decode b_Mo_is3 5 = .ok (.bipush 96, 2) := by decide +kernel
theorem d_Mo_is3_7 : decode b_Mo_is3 7 = .ok (.isub, 1) := by decide +kernel
theorem d_Mo_is3_8 : decode b_Mo_is3 8 = .ok (.iload_n 2, 1) := by decide +kernel
theorem d_Mo_is3_9 : decode b_Mo_is3 9 = .ok (.bipush 96, 2) := by decide +kernel
theorem d_Mo_is3_11 : decode b_Mo_is3 11 = .ok (.isub, 1) := by decide +kernel
theorem d_Mo_is3_12 : decode b_Mo_is3 12 = .ok (.iload_n 3, 1) := by decide +kernel
theorem d_Mo_is3_13 : decode b_Mo_is3 13 = .ok (.bipush 96, 2) := by decide +kernel
theorem d_Mo_is3_15 : decode b_Mo_is3 15 = .ok (.isub, 1) := by decide +kernel
theorem d_Mo_is3_16 : decode b_Mo_is3 16 = .ok (.invokestatic 129, 3) := by decide +kernel
theorem d_Mo_is3_19 : decode b_Mo_is3 19 = .ok (.iconst 0, 1) := by decide +kernel
theorem d_Mo_is3_20 : decode b_Mo_is3 20 = .ok (.invokevirtual 133, 3) := by decide +kernel
theorem d_Mo_is3_23 : decode b_Mo_is3 23 = .ok (.ireturn, 1) := by decide +kernel
theorem d_Mo_is4_0 : decode b_Mo_is4 0 = .ok (.aload_n 0, 1) := by decide +kernel
theorem d_Mo_is4_1 : decode b_Mo_is4 1 = .ok (.iconst 0, 1) := by decide +kernel
theorem d_Mo_is4_2 : decode b_Mo_is4 2 = .ok (.iconst 0, 1) := by decide +kernel
theorem d_Mo_is4_3 : decode b_Mo_is4 3 = .ok (.iload_n 1, 1) := by decide +kernel
theorem d_Mo_is4_4 : decode b_Mo_is4 4 = .ok (.bipush 96, 2) := by decide +kernel
theorem d_Mo_is4_6 : decode b_Mo_is4 6 = .ok (.isub, 1) := by decide +kernel
theorem d_Mo_is4_7 : decode b_Mo_is4 7 = .ok (.iload_n 2, 1) := by decide +kernel
theorem d_Mo_is4_8 : decode b_Mo_is4 8 = .ok (.bipush 96, 2) := by decide +kernel
theorem d_Mo_is4_10 : decode b_Mo_is4 10 = .ok (.isub, 1) := by decide +kernel
theorem d_Mo_is4_11 : decode b_Mo_is4 11 = .ok (.iload_n 3, 1) := by decide +kernel
theorem d_Mo_is4_12 : decode b_Mo_is4 12 = .ok (.bipush 96, 2) := by decide +kernel
theorem d_Mo_is4_14 : decode b_Mo_is4 14 = .ok (.isub, 1) := by decide +kernel
theorem d_Mo_is4_15 : decode b_Mo_is4 15 = .ok (.iload 4, 2) := by decide +kernel
theorem d_Mo_is4_17 : decode b_Mo_is4 17 = .ok (.bipush 96, 2) := by decide +kernel
theorem d_Mo_is4_19 : decode b_Mo_is4 19 = .ok (.isub, 1) := by decide +kernel
theorem d_Mo_is4_20 : decode b_Mo_is4 20 = .ok (.invokestatic 129, 3) := by decide +kernel
theorem d_Mo_is4_23 : decode b_Mo_is4 23 = .ok (.iconst 0, 1) := by decide +kernel
theorem d_Mo_is4_24 : decode b_Mo_is4 24 = .ok (.invokevirtual 133, 3) := by decide +kernel
theorem d_Mo_is4_27 : decode b_Mo_is4 27 = .ok (.ireturn, 1) := by decide +kernel
theorem d_Mo_is5_0 : decode b_Mo_is5 0 = .ok (.aload_n 0, 1) := by decide +kernel
theorem d_Mo_is5_1 : decode b_Mo_is5 1 = .ok (.iconst 0, 1) := by decide +kernel
theorem d_Mo_is5_2 : decode b_Mo_is5 2 = .ok (.iload_n 1, 1) := by decide +kernel
theorem d_Mo_is5_3 : decode b_Mo_is5 3 = .ok (.bipush 96, 2) := by decide +kernel
theorem d_Mo_is5_5 : decode b_Mo_is5 5 = .ok (.isub, 1) := by decide +kernel
theorem d_Mo_is5_6 : decode b_Mo_is5 6 = .ok (.iload_n 2, 1) := by decide +kernel
theorem d_Mo_is5_7 : decode b_Mo_is5 7 = .ok (.bipush 96, 2) := by decide +kernel
theorem d_Mo_is5_9 : decode b_Mo_is5 9 = .ok (.isub, 1) := by decide +kernel
theorem d_Mo_is5_10 : decode b_Mo_is5 10 = .ok (.iload_n 3, 1) := by decide +kernel
theorem d_Mo_is5_11 : decode b_Mo_is5 11 = .ok (.bipush 96, 2) := by decide +kernel
theorem d_Mo_is5_13 : decode b_Mo_is5 13 = .ok (.isub, 1) := by decide +kernel
theorem d_Mo_is5_14 : decode b_Mo_is5 14 = .ok (.iload 4, 2) := by decide +kernel
theorem d_Mo_is5_16 : decode b_Mo_is5 16 = .ok (.bipush 96, 2) := by decide +kernel
theorem d_Mo_is5_18 : decode b_Mo_is5 18 = .ok (.isub, 1) := by decide +kernel
theorem d_Mo_is5_19 : decode b_Mo_is5 19 = .ok (.iload 5, 2) := by decide +kernel
theorem d_Mo_is5_21 : decode b_Mo_is5 21 = .ok (.bipush 96, 2) := by decide +kernel
theorem d_Mo_is5_23 : decode b_Mo_is5 23 = .ok (.isub, 1) := by decide +kernel
theorem d_Mo_is5_24 : decode b_Mo_is5 24 = .ok (.invokestatic 129, 3) := by decide +kernel
theorem d_Mo_is5_27 : decode b_Mo_is5 27 = .ok (.iconst 0, 1) := by decide +kernel
theorem d_Mo_is5_28 : decode b_Mo_is5 28 = .ok (.invokevirtual 133, 3) := by decide +kernel
theorem d_Mo_is5_31 : decode b_Mo_is5 31 = .ok (.ireturn, 1) := by decide +kernel
theorem d_Mo_is6_0 : decode b_Mo_is6 0 = .ok (.aload_n 0, 1) := by decide +kernel
theorem d_Mo_is6_1 : decode b_Mo_is6 1 = .ok (.iload_n 1, 1) := by decide +kernel
theorem d_Mo_is6_2 : decode b_Mo_is6 2 = .ok (.bipush 96, 2) := by decide +kernel
theorem d_Mo_is6_4 : decode b_Mo_is6 4 = .ok (.isub, 1) := by decide +kernel
theorem d_Mo_is6_5 : decode b_Mo_is6 5 = .ok (.iload_n 2, 1) := by decide +kernel
theorem d_Mo_is6_6 : decode b_Mo_is6 6 = .ok (.bipush 96, 2) := by decide +kernel
theorem d_Mo_is6_8 : decode b_Mo_is6 8 = .ok (.isub, 1) := by decide +kernel
theorem d_Mo_is6_9 : decode b_Mo_is6 9 = .ok (.iload_n 3, 1) := by decide +kernel
theorem d_Mo_is6_10 : decode b_Mo_is6 10 = .ok (.bipush 96, 2) := by decide +kernel
theorem d_Mo_is6_12 : decode b_Mo_is6 12 = .ok (.isub, 1) := by decide +kernel
theorem d_Mo_is6_13 : decode b_Mo_is6 13 = .ok (.iload 4, 2) := by decide +kernel
theorem d_Mo_is6_15 : decode b_Mo_is6 15 = .ok (.bipush 96, 2) := by decide +kernel
theorem d_Mo_is6_17 : decode b_Mo_is6 17 = .ok (.isub, 1) := by decide +kernel
theorem d_Mo_is6_18 : decode b_Mo_is6 18 = .ok (.iload 5, 2) := by decide +kernel
theorem d_Mo_is6_20 : decode b_Mo_is6 20 = .ok (.bipush 96, 2) := by decide +kernel
theorem d_Mo_is6_22 : decode b_Mo_is6 22 = .ok (.isub, 1) := by decide +kernel
theorem d_Mo_is6_23 : decode b_Mo_is6 23 = .ok (.iload 6, 2) := by decide +kernel
theorem d_Mo_is6_25 : decode b_Mo_is6 25 = .ok (.bipush 96, 2) := by decide +kernel
theorem d_Mo_is6_27 : decode b_Mo_is6 27 = .ok (.isub, 1) := by decide +kernel
theorem d_Mo_is6_28 : decode b_Mo_is6 28 = .ok (.invokestatic 129, 3) := by decide +kernel
theorem d_Mo_is6_31 : decode b_Mo_is6 31 = .ok (.iload 7, 2) := by decide +kernel
theorem d_Mo_is6_33 : decode b_Mo_is6 33 = .ok (.invokevirtual 133, 3) := by decide +kernel
theorem d_Mo_is6_36 : decode b_Mo_is6 36 = .ok (.ireturn, 1) := by decide +kernel
set_option maxHeartbeats 4000000 in
set_option maxRecDepth 100000 in
theorem lp_Mo_isWord_35 (g : GG) {m0 : Nat} {ad : Nat → Nat} {qth : Int32} {qsz : Int32} {qtk : Int32} {qde : Int32} {qru : Int32} {qat : Int32} {qva : Int32} {qwr : Int32} {qop : Int32} {qwi : Int32} {qhe : Int32} {qrw : Int32} {qma : Int32} {qir : Bool} {qiu : Bool} {so : Nat} {sta : Nat} {en : Nat} {T : Nat → Nat} {hi : Nat} {lo : Nat} (hT : ∀ j, T j < 256) (hso : so < 2 ^ 31) (h1 : so = 1 → sta ≤ en ∧ en ≤ 2000 ∧ ∀ i, sta ≤ i → i < en → 97 ≤ T i ∧ T i ≤ 122) (hhi : hi < 2 ^ 31) (hlo : lo < 2 ^ 31) {x : X0} {A : Nat → Prop} {Q : State → Prop}  (C : CX x g A R_Mo b_Mo_isWord 6) (E : RX x g A Q (some .boolean) (fun (r0 : Option Value) (w0 : va_W) => r0 = some (.int (bI (isWm T so sta en hi lo))) ∧ w0 = [(m0, .inr (9, MO ad qth qsz (bI qir) qtk qde qru qat (nI en) (nI so) (nI sta) qva qwr qop (bI qiu) qwi qhe qrw qma)), ((ad 2), .inl (g.2.1 0, 2000, .inl (aI T)))]) (rmk 0 0 0 0).cells (rmk 0 0 0 0).slots) (hR : xR x = (rmk 0 0 0 0)) : ∀ (fuel : Nat) (a : Nat) (b : Nat) (i : Nat) (hi1 : sta ≤ i) (hi2 : i ≤ en) (he : en ≤ 2000) (h12 : en - sta ≤ 12) (hs1 : so = 1) (hl : ∀ i, sta ≤ i → i < en → 97 ≤ T i ∧ T i ≤ 122) (ha : a = w32 T sta (min (i - sta) 6)) (hb : b = w32 T (sta + 6) (i - sta - 6)), en - i < fuel → J x g A Q 6 ([(m0, .inr (9, MO ad qth qsz (bI qir) qtk qde qru qat (nI en) (nI so) (nI sta) qva qwr qop (bI qiu) qwi qhe qrw qma)), ((ad 2), .inl (g.2.1 0, 2000, .inl (aI T)))]) [(0, .ref m0), (1, .int (nI hi)), (2, .int (nI lo)), (3, .int (nI a)), (4, .int (nI b)), (5, .int (nI i))] 35 [] 0 0 := by
  intro fuel
  induction fuel with
  | zero =>
    intro a b i hi1 hi2 he h12 hs1 hl ha hb hm
    exact absurd hm (Nat.not_lt_zero _)
  | succ fuel ih =>
    intro a b i hi1 hi2 he h12 hs1 hl ha hb hm
    refine r_iload C 5 d_Mo_isWord_35 rfl ?_
    refine r_aload_n C 0 d_Mo_isWord_37 rfl rfl ?_
    refine r_get C 0 20 d_Mo_isWord_38 ci_Mo fi_Mo_97 rfl (by decide) rfl rfl ?_
    refine r_ncmp_ge C 99 d_Mo_isWord_41 (by decide) (by omega) (by omega) (fun c_41 => ?_) (fun c_41 => ?_)
    · skip
      have ba := w32_lt (T := T) (s := sta) (m := min (i - sta) 6) (by omega) (fun t h => (hl (sta + t) (by omega) (by omega)).2)
      have bb := w32_lt (T := T) (s := sta + 6) (m := i - sta - 6) (by omega) (fun t h => (hl (sta + 6 + t) (by omega) (by omega)).2)
      refine r_iload_n C 3 d_Mo_isWord_99 rfl rfl ?_
      refine r_iload_n C 1 d_Mo_isWord_100 rfl rfl ?_
      refine r_ncmp_ne C 114 d_Mo_isWord_101 (by decide) (by omega) (by omega) (fun c_101 => ?_) (fun c_101 => ?_)
      · skip
        refine r_iconst C (nI 0) d_Mo_isWord_114 (by decide) ?_
        refine r_eqS (st' := [.int (bI false)]) rfl ?_
        refine r_bret C E d_Mo_isWord_115 (by first | decide | omega | (simp only [rmk]; omega)) (by first | decide | omega | (simp only [rmk]; omega)) ?_
        obtain rfl : i = en := by omega
        subst ha hb
        exact ⟨bsome (by symm; first | exact decide_eq_true ⟨hs1, h12, c_101, c_107⟩ | exact decide_eq_false (fun q => c_101 q.2.2.1) | exact decide_eq_false (fun q => c_107 q.2.2.2)), rfl⟩
      · skip
        refine r_iload C 4 d_Mo_isWord_104 rfl ?_
        refine r_iload_n C 2 d_Mo_isWord_106 rfl rfl ?_
        refine r_ncmp_ne C 114 d_Mo_isWord_107 (by decide) (by omega) (by omega) (fun c_107 => ?_) (fun c_107 => ?_)
        · skip
          refine r_iconst C (nI 0) d_Mo_isWord_114 (by decide) ?_
          refine r_eqS (st' := [.int (bI false)]) rfl ?_
          refine r_bret C E d_Mo_isWord_115 (by first | decide | omega | (simp only [rmk]; omega)) (by first | decide | omega | (simp only [rmk]; omega)) ?_
          obtain rfl : i = en := by omega
          subst ha hb
          exact ⟨bsome (by symm; first | exact decide_eq_true ⟨hs1, h12, c_101, c_107⟩ | exact decide_eq_false (fun q => c_101 q.2.2.1) | exact decide_eq_false (fun q => c_107 q.2.2.2)), rfl⟩
        · skip
          refine r_iconst C (nI 1) d_Mo_isWord_110 (by decide) ?_
          refine r_goto C 115 d_Mo_isWord_111 (by decide) ?_
          refine r_eqS (st' := [.int (bI true)]) rfl ?_
          refine r_bret C E d_Mo_isWord_115 (by first | decide | omega | (simp only [rmk]; omega)) (by first | decide | omega | (simp only [rmk]; omega)) ?_
          obtain rfl : i = en := by omega
          subst ha hb
          exact ⟨bsome (by symm; first | exact decide_eq_true ⟨hs1, h12, c_101, c_107⟩ | exact decide_eq_false (fun q => c_101 q.2.2.1) | exact decide_eq_false (fun q => c_107 q.2.2.2)), rfl⟩
    · skip
      obtain ⟨g4, g5⟩ := hl i (by omega) (by omega)
      refine r_iload C 5 d_Mo_isWord_44 rfl ?_
      refine r_aload_n C 0 d_Mo_isWord_46 rfl rfl ?_
      refine r_get C 0 22 d_Mo_isWord_47 ci_Mo fi_Mo_106 rfl (by decide) rfl rfl ?_
      refine r_nsub C d_Mo_isWord_50 (by omega) ?_
      refine r_bipush C (nI 6) d_Mo_isWord_51 (by decide) ?_
      refine r_ncmp_ge C 75 d_Mo_isWord_53 (by decide) (by omega) (by omega) (fun c_53 => ?_) (fun c_53 => ?_)
      · skip
        refine r_bipush C (nI 32) d_Mo_isWord_75 (by decide) ?_
        refine r_iload C 4 d_Mo_isWord_77 rfl ?_
        refine r_nmul C d_Mo_isWord_79 ?_
        refine r_aload_n C 0 d_Mo_isWord_80 rfl rfl ?_
        refine r_get C 0 2 d_Mo_isWord_81 ci_Mo fi_Mo_7 rfl (by decide) rfl rfl ?_
        refine r_iload C 5 d_Mo_isWord_84 rfl ?_
        refine r_nald C 1 0 d_Mo_isWord_86 rfl rfl (by omega) (by decide) ?_
        refine r_nadd C d_Mo_isWord_87 ?_
        refine r_bipush C (nI 96) d_Mo_isWord_88 (by decide) ?_
        refine r_nsub C d_Mo_isWord_90 (by omega) ?_
        refine r_istore C (lv' := [(4, .int (nI (((32 * b) + (T i)) - 96))), (0, .ref m0), (1, .int (nI hi)), (2, .int (nI lo)), (3, .int (nI a)), (5, .int (nI i))]) d_Mo_isWord_91 (by decide) rfl ?_
        refine r_iinc C 5 (nI (i + 1)) (lv' := [(5, .int (nI (i + 1))), (4, .int (nI (((32 * b) + (T i)) - 96))), (0, .ref m0), (1, .int (nI hi)), (2, .int (nI lo)), (3, .int (nI a))]) d_Mo_isWord_93 rfl (nI_inc 1 _) (by decide) rfl ?_
        refine r_goto C 35 d_Mo_isWord_96 (by decide) ?_
        refine r_lv (lv' := [(0, .ref m0), (1, .int (nI hi)), (2, .int (nI lo)), (3, .int (nI a)), (4, .int (nI (((32 * b) + (T i)) - 96))), (5, .int (nI (i + 1)))]) [2, 3, 4, 5, 1, 0] rfl ?_
        exact ih a (((32 * b) + (T i)) - 96) (i + 1) (by first | assumption | rfl | omega) (by first | assumption | rfl | omega) (by first | assumption | rfl | omega) (by first | assumption | rfl | omega) (by first | assumption | rfl | omega) (by first | assumption | rfl | omega) (by rw [ha, Nat.min_eq_right (by omega), Nat.min_eq_right (by omega)]) (by rw [hb]; exact w32_b (by omega) (by omega)) (by omega)
      · skip
        refine r_bipush C (nI 32) d_Mo_isWord_56 (by decide) ?_
        refine r_iload_n C 3 d_Mo_isWord_58 rfl rfl ?_
        refine r_nmul C d_Mo_isWord_59 ?_
        refine r_aload_n C 0 d_Mo_isWord_60 rfl rfl ?_
        refine r_get C 0 2 d_Mo_isWord_61 ci_Mo fi_Mo_7 rfl (by decide) rfl rfl ?_
        refine r_iload C 5 d_Mo_isWord_64 rfl ?_
        refine r_nald C 1 0 d_Mo_isWord_66 rfl rfl (by omega) (by decide) ?_
        refine r_nadd C d_Mo_isWord_67 ?_
        refine r_bipush C (nI 96) d_Mo_isWord_68 (by decide) ?_
        refine r_nsub C d_Mo_isWord_70 (by omega) ?_
        refine r_istore_n C (lv' := [(3, .int (nI (((32 * a) + (T i)) - 96))), (0, .ref m0), (1, .int (nI hi)), (2, .int (nI lo)), (4, .int (nI b)), (5, .int (nI i))]) d_Mo_isWord_71 rfl (by decide) rfl ?_
        refine r_goto C 93 d_Mo_isWord_72 (by decide) ?_
        refine r_iinc C 5 (nI (i + 1)) (lv' := [(5, .int (nI (i + 1))), (3, .int (nI (((32 * a) + (T i)) - 96))), (0, .ref m0), (1, .int (nI hi)), (2, .int (nI lo)), (4, .int (nI b))]) d_Mo_isWord_93 rfl (nI_inc 1 _) (by decide) rfl ?_
        refine r_goto C 35 d_Mo_isWord_96 (by decide) ?_
        refine r_lv (lv' := [(0, .ref m0), (1, .int (nI hi)), (2, .int (nI lo)), (3, .int (nI (((32 * a) + (T i)) - 96))), (4, .int (nI b)), (5, .int (nI (i + 1)))]) [2, 3, 4, 1, 5, 0] rfl ?_
        exact ih (((32 * a) + (T i)) - 96) b (i + 1) (by first | assumption | rfl | omega) (by first | assumption | rfl | omega) (by first | assumption | rfl | omega) (by first | assumption | rfl | omega) (by first | assumption | rfl | omega) (by first | assumption | rfl | omega) (by rw [ha]; exact w32_a (by omega) (by omega)) (by rw [hb, show i + 1 - sta - 6 = i - sta - 6 by omega]) (by omega)
set_option maxHeartbeats 4000000 in
set_option maxRecDepth 100000 in
theorem c_Mo_isWord (g : GG) (l : Launch) {m0 : Nat} {ad : Nat → Nat} {qth : Int32} {qsz : Int32} {qtk : Int32} {qde : Int32} {qru : Int32} {qat : Int32} {qva : Int32} {qwr : Int32} {qop : Int32} {qwi : Int32} {qhe : Int32} {qrw : Int32} {qma : Int32} {qir : Bool} {qiu : Bool} {so : Nat} {sta : Nat} {en : Nat} {T : Nat → Nat} {hi : Nat} {lo : Nat}  (hT : ∀ j, T j < 256) (hso : so < 2 ^ 31) (h1 : so = 1 → sta ≤ en ∧ en ≤ 2000 ∧ ∀ i, sta ≤ i → i < en → 97 ≤ T i ∧ T i ≤ 122) (hhi : hi < 2 ^ 31) (hlo : lo < 2 ^ 31) : Cn g l y_Mo_isWord b_Mo_isWord 6 (some .boolean) (rmk 0 0 0 0) [.ref m0, .int (nI hi), .int (nI lo)] ([(m0, .inr (9, MO ad qth qsz (bI qir) qtk qde qru qat (nI en) (nI so) (nI sta) qva qwr qop (bI qiu) qwi qhe qrw qma)), ((ad 2), .inl (g.2.1 0, 2000, .inl (aI T)))]) (fun (r0 : Option Value) (w0 : va_W) => r0 = some (.int (bI (isWm T so sta en hi lo))) ∧ w0 = [(m0, .inr (9, MO ad qth qsz (bI qir) qtk qde qru qat (nI en) (nI so) (nI sta) qva qwr qop (bI qiu) qwi qhe qrw qma)), ((ad 2), .inl (g.2.1 0, 2000, .inl (aI T)))]) := by
  refine Cn.of R_Mo [(0, .ref m0), (1, .int (nI hi)), (2, .int (nI lo))] (by decide) rfl (Nat.le_of_ble_eq_true rfl) rfl ?_
  intro x A Q hR hXl hin C E
  subst hXl
  refine r_aload_n C 0 d_Mo_isWord_0 rfl rfl ?_
  refine r_get C 0 21 d_Mo_isWord_1 ci_Mo fi_Mo_100 rfl (by decide) rfl rfl ?_
  refine r_iconst C (nI 1) d_Mo_isWord_4 (by decide) ?_
  refine r_ncmp_ne C 22 d_Mo_isWord_5 (by decide) (by omega) (by omega) (fun c_5 => ?_) (fun c_5 => ?_)
  · skip
    refine r_iconst C (nI 0) d_Mo_isWord_22 (by decide) ?_
    refine r_eqS (st' := [.int (bI false)]) rfl ?_
    refine r_bret C E d_Mo_isWord_23 (by first | decide | omega | (simp only [rmk]; omega)) (by first | decide | omega | (simp only [rmk]; omega)) ?_
    exact ⟨bsome (decide_eq_false (fun q => c_5 q.1)).symm, rfl⟩
  · skip
    obtain ⟨g1, g2, g3⟩ := h1 c_5
    refine r_aload_n C 0 d_Mo_isWord_8 rfl rfl ?_
    refine r_get C 0 20 d_Mo_isWord_9 ci_Mo fi_Mo_97 rfl (by decide) rfl rfl ?_
    refine r_aload_n C 0 d_Mo_isWord_12 rfl rfl ?_
    refine r_get C 0 22 d_Mo_isWord_13 ci_Mo fi_Mo_106 rfl (by decide) rfl rfl ?_
    refine r_nsub C d_Mo_isWord_16 (by omega) ?_
    refine r_bipush C (nI 12) d_Mo_isWord_17 (by decide) ?_
    refine r_ncmp_le C 24 d_Mo_isWord_19 (by decide) (by omega) (by omega) (fun c_19 => ?_) (fun c_19 => ?_)
    · skip
      refine r_iconst C (nI 0) d_Mo_isWord_24 (by decide) ?_
      refine r_istore_n C (lv' := [(3, .int (nI 0)), (0, .ref m0), (1, .int (nI hi)), (2, .int (nI lo))]) d_Mo_isWord_25 rfl (by decide) rfl ?_
      refine r_iconst C (nI 0) d_Mo_isWord_26 (by decide) ?_
      refine r_istore C (lv' := [(4, .int (nI 0)), (3, .int (nI 0)), (0, .ref m0), (1, .int (nI hi)), (2, .int (nI lo))]) d_Mo_isWord_27 (by decide) rfl ?_
      refine r_aload_n C 2 d_Mo_isWord_29 rfl rfl ?_
      refine r_get C 0 22 d_Mo_isWord_30 ci_Mo fi_Mo_106 rfl (by decide) rfl rfl ?_
      refine r_istore C (lv' := [(5, .int (nI sta)), (4, .int (nI 0)), (3, .int (nI 0)), (0, .ref m0), (1, .int (nI hi)), (2, .int (nI lo))]) d_Mo_isWord_33 (by decide) rfl ?_
      refine r_lv (lv' := [(0, .ref m0), (1, .int (nI hi)), (2, .int (nI lo)), (3, .int (nI 0)), (4, .int (nI 0)), (5, .int (nI sta))]) [3, 4, 5, 2, 1, 0] rfl ?_
      exact lp_Mo_isWord_35 g (m0 := m0) (ad := ad) (qth := qth) (qsz := qsz) (qtk := qtk) (qde := qde) (qru := qru) (qat := qat) (qva := qva) (qwr := qwr) (qop := qop) (qwi := qwi) (qhe := qhe) (qrw := qrw) (qma := qma) (qir := qir) (qiu := qiu) (so := so) (sta := sta) (en := en) (T := T) (hi := hi) (lo := lo) hT hso h1 hhi hlo  C E hR _ 0 0 sta (by first | assumption | rfl | omega) (by first | assumption | rfl | omega) (by first | assumption | rfl | omega) (by first | assumption | rfl | omega) (by first | assumption | rfl | omega) (g3) (by simp [w32]) (by simp [w32]) (Nat.lt_succ_self _)
    · skip
      refine r_iconst C (nI 0) d_Mo_isWord_22 (by decide) ?_
      refine r_eqS (st' := [.int (bI false)]) rfl ?_
      refine r_bret C E d_Mo_isWord_23 (by first | decide | omega | (simp only [rmk]; omega)) (by first | decide | omega | (simp only [rmk]; omega)) ?_
      exact ⟨bsome (decide_eq_false (fun q => by have := q.2.1; omega)).symm, rfl⟩

set_option maxHeartbeats 4000000 in
set_option maxRecDepth 100000 in
theorem c_Mo_code (g : GG) (l : Launch) {a : Nat} {b : Nat} {c : Nat} {d : Nat} {e : Nat} {f : Nat}   : Cn g l y_Mo_code b_Mo_code 6 (some .int) (rmk 0 0 0 0) [.int (nI a), .int (nI b), .int (nI c), .int (nI d), .int (nI e), .int (nI f)] ([]) (fun (r0 : Option Value) (w0 : va_W) => r0 = some (.int (nI (cod a b c d e f))) ∧ w0 = []) := by
  refine Cn.of R_Mo [(0, .int (nI a)), (1, .int (nI b)), (2, .int (nI c)), (3, .int (nI d)), (4, .int (nI e)), (5, .int (nI f))] (by decide) rfl (Nat.le_of_ble_eq_true rfl) rfl ?_
  intro x A Q hR hXl hin C E
  subst hXl
  refine r_iload_n C 0 d_Mo_code_0 rfl rfl ?_
  refine r_bipush C (nI 32) d_Mo_code_1 (by decide) ?_
  refine r_nmul C d_Mo_code_3 ?_
  refine r_iload_n C 1 d_Mo_code_4 rfl rfl ?_
  refine r_nadd C d_Mo_code_5 ?_
  refine r_bipush C (nI 32) d_Mo_code_6 (by decide) ?_
  refine r_nmul C d_Mo_code_8 ?_
  refine r_iload_n C 2 d_Mo_code_9 rfl rfl ?_
  refine r_nadd C d_Mo_code_10 ?_
  refine r_bipush C (nI 32) d_Mo_code_11 (by decide) ?_
  refine r_nmul C d_Mo_code_13 ?_
  refine r_iload_n C 3 d_Mo_code_14 rfl rfl ?_
  refine r_nadd C d_Mo_code_15 ?_
  refine r_bipush C (nI 32) d_Mo_code_16 (by decide) ?_
  refine r_nmul C d_Mo_code_18 ?_
  refine r_iload C 4 d_Mo_code_19 rfl ?_
  refine r_nadd C d_Mo_code_21 ?_
  refine r_bipush C (nI 32) d_Mo_code_22 (by decide) ?_
  refine r_nmul C d_Mo_code_24 ?_
  refine r_iload C 5 d_Mo_code_25 rfl ?_
  refine r_nadd C d_Mo_code_27 ?_
  refine r_iret C E d_Mo_code_28 (by first | decide | omega | (simp only [rmk]; omega)) (by first | decide | omega | (simp only [rmk]; omega)) ?_
  exact ⟨rfl, rfl⟩

set_option maxHeartbeats 4000000 in
set_option maxRecDepth 100000 in
theorem c_Mo_is3 (g : GG) (l : Launch) {m0 : Nat} {ad : Nat → Nat} {qth : Int32} {qsz : Int32} {qtk : Int32} {qde : Int32} {qru : Int32} {qat : Int32} {qva : Int32} {qwr : Int32} {qop : Int32} {qwi : Int32} {qhe : Int32} {qrw : Int32} {qma : Int32} {qir : Bool} {qiu : Bool} {so : Nat} {sta : Nat} {en : Nat} {T : Nat → Nat} {a : Nat} {b : Nat} {c : Nat}  (hT : ∀ j, T j < 256) (hso : so < 2 ^ 31) (h1 : so = 1 → sta ≤ en ∧ en ≤ 2000 ∧ ∀ i, sta ≤ i → i < en → 97 ≤ T i ∧ T i ≤ 122) (g0 : 97 ≤ a ∧ a ≤ 122) (g1 : 97 ≤ b ∧ b ≤ 122) (g2 : 97 ≤ c ∧ c ≤ 122) : Cn g l y_Mo_is3 b_Mo_is3 4 (some .boolean) (rmk 1 0 0 25) [.ref m0, .int (nI a), .int (nI b), .int (nI c)] ([(m0, .inr (9, MO ad qth qsz (bI qir) qtk qde qru qat (nI en) (nI so) (nI sta) qva qwr qop (bI qiu) qwi qhe qrw qma)), ((ad 2), .inl (g.2.1 0, 2000, .inl (aI T)))]) (fun (r0 : Option Value) (w0 : va_W) => r0 = some (.int (bI (isWm T so sta en (cod 0 0 0 (a - 96) (b - 96) (c - 96)) 0))) ∧ w0 = [(m0, .inr (9, MO ad qth qsz (bI qir) qtk qde qru qat (nI en) (nI so) (nI sta) qva qwr qop (bI qiu) qwi qhe qrw qma)), ((ad 2), .inl (g.2.1 0, 2000, .inl (aI T)))]) := by
  refine Cn.of R_Mo [(0, .ref m0), (1, .int (nI a)), (2, .int (nI b)), (3, .int (nI c))] (by decide) rfl (Nat.le_of_ble_eq_true rfl) rfl ?_
  intro x A Q hR hXl hin C E
  subst hXl
  refine r_aload_n C 0 d_Mo_is3_0 rfl rfl ?_
  refine r_iconst C (nI 0) d_Mo_is3_1 (by decide) ?_
  refine r_iconst C (nI 0) d_Mo_is3_2 (by decide) ?_
  refine r_iconst C (nI 0) d_Mo_is3_3 (by decide) ?_
  refine r_iload_n C 1 d_Mo_is3_4 rfl rfl ?_
  refine r_bipush C (nI 96) d_Mo_is3_5 (by decide) ?_
  refine r_nsub C d_Mo_is3_7 (by omega) ?_
  refine r_iload_n C 2 d_Mo_is3_8 rfl rfl ?_
  refine r_bipush C (nI 96) d_Mo_is3_9 (by decide) ?_
  refine r_nsub C d_Mo_is3_11 (by omega) ?_
  refine r_iload_n C 3 d_Mo_is3_12 rfl rfl ?_
  refine r_bipush C (nI 96) d_Mo_is3_13 (by decide) ?_
  refine r_nsub C d_Mo_is3_15 (by omega) ?_
  refine j_callS C (c_Mo_code g (xl x) (a := 0) (b := 0) (c := 0) (d := a - 96) (e := b - 96) (f := c - 96) ) (Sp.of (wr := [(m0, .inr (9, MO ad qth qsz (bI qir) qtk qde qru qat (nI en) (nI so) (nI sta) qva qwr qop (bI qiu) qwi qhe qrw qma)), ((ad 2), .inl (g.2.1 0, 2000, .inl (aI T)))]) [] [0, 1] rfl rfl rfl rfl (by decide)) d_Mo_is3_16 lk_Mo_129 mw_Mo_code st_Mo_code (fit_of hR (by first | decide | (simp only [rmk]; omega)) (by first | decide | (simp only [rmk]; omega)) (by first | decide | (simp only [rmk]; omega)) (by first | decide | (simp only [rmk]; omega))) rfl (cat8 (Nat.le_of_ble_eq_true rfl)) (As := [.int (nI 0), .int (nI 0), .int (nI 0), .int (nI (a - 96)), .int (nI (b - 96)), .int (nI (c - 96))]) (rest := [.ref m0]) rfl (fun r_16 w_16 hp_16 => ?_)
  obtain ⟨rfl, rfl⟩ := hp_16
  refine r_after (ws' := [(m0, .inr (9, MO ad qth qsz (bI qir) qtk qde qru qat (nI en) (nI so) (nI sta) qva qwr qop (bI qiu) qwi qhe qrw qma)), ((ad 2), .inl (g.2.1 0, 2000, .inl (aI T)))]) (st' := [.int (nI (cod 0 0 0 (a - 96) (b - 96) (c - 96))), .ref m0]) (n1 := 0) (n2 := 0) [0, 1] rfl rfl rfl rfl rfl ?_
  refine r_iconst C (nI 0) d_Mo_is3_19 (by decide) ?_
  refine j_callV C (c_Mo_isWord g (xl x) (m0 := m0) (ad := ad) (qth := qth) (qsz := qsz) (qtk := qtk) (qde := qde) (qru := qru) (qat := qat) (qva := qva) (qwr := qwr) (qop := qop) (qwi := qwi) (qhe := qhe) (qrw := qrw) (qma := qma) (qir := qir) (qiu := qiu) (so := so) (sta := sta) (en := en) (T := T) (hi := cod 0 0 0 (a - 96) (b - 96) (c - 96)) (lo := 0) (by first | assumption | rfl | omega) (by first | assumption | rfl | omega) (by first | assumption | rfl | omega) (by unfold cod; omega) (by first | assumption | rfl | omega)) (Sp.of (wr := []) [0, 1] [] rfl rfl rfl rfl (by decide)) d_Mo_is3_20 lk_Mo_133 mw_Mo_isWord vw_Mo_isWord (q0 := 0) rfl rfl (fit_of hR (by first | decide | (simp only [rmk]; omega)) (by first | decide | (simp only [rmk]; omega)) (by first | decide | (simp only [rmk]; omega)) (by first | decide | (simp only [rmk]; omega))) rfl (cat8 (Nat.le_of_ble_eq_true rfl)) (As := [.int (nI (cod 0 0 0 (a - 96) (b - 96) (c - 96))), .int (nI 0)]) (rest := []) rfl (fun r_20 w_20 hp_20 => ?_)
  obtain ⟨rfl, rfl⟩ := hp_20
  refine r_after (ws' := [(m0, .inr (9, MO ad qth qsz (bI qir) qtk qde qru qat (nI en) (nI so) (nI sta) qva qwr qop (bI qiu) qwi qhe qrw qma)), ((ad 2), .inl (g.2.1 0, 2000, .inl (aI T)))]) (st' := [.int (bI (isWm T so sta en (cod 0 0 0 (a - 96) (b - 96) (c - 96)) 0))]) (n1 := 0) (n2 := 0) [0, 1] rfl rfl rfl rfl rfl ?_
  refine r_bret C E d_Mo_is3_23 (by first | decide | omega | (simp only [rmk]; omega)) (by first | decide | omega | (simp only [rmk]; omega)) ?_
  exact ⟨rfl, rfl⟩

set_option maxHeartbeats 4000000 in
set_option maxRecDepth 100000 in
theorem c_Mo_is4 (g : GG) (l : Launch) {m0 : Nat} {ad : Nat → Nat} {qth : Int32} {qsz : Int32} {qtk : Int32} {qde : Int32} {qru : Int32} {qat : Int32} {qva : Int32} {qwr : Int32} {qop : Int32} {qwi : Int32} {qhe : Int32} {qrw : Int32} {qma : Int32} {qir : Bool} {qiu : Bool} {so : Nat} {sta : Nat} {en : Nat} {T : Nat → Nat} {a : Nat} {b : Nat} {c : Nat} {d : Nat}  (hT : ∀ j, T j < 256) (hso : so < 2 ^ 31) (h1 : so = 1 → sta ≤ en ∧ en ≤ 2000 ∧ ∀ i, sta ≤ i → i < en → 97 ≤ T i ∧ T i ≤ 122) (g0 : 97 ≤ a ∧ a ≤ 122) (g1 : 97 ≤ b ∧ b ≤ 122) (g2 : 97 ≤ c ∧ c ≤ 122) (g3 : 97 ≤ d ∧ d ≤ 122) : Cn g l y_Mo_is4 b_Mo_is4 5 (some .boolean) (rmk 1 0 0 25) [.ref m0, .int (nI a), .int (nI b), .int (nI c), .int (nI d)] ([(m0, .inr (9, MO ad qth qsz (bI qir) qtk qde qru qat (nI en) (nI so) (nI sta) qva qwr qop (bI qiu) qwi qhe qrw qma)), ((ad 2), .inl (g.2.1 0, 2000, .inl (aI T)))]) (fun (r0 : Option Value) (w0 : va_W) => r0 = some (.int (bI (isWm T so sta en (cod 0 0 (a - 96) (b - 96) (c - 96) (d - 96)) 0))) ∧ w0 = [(m0, .inr (9, MO ad qth qsz (bI qir) qtk qde qru qat (nI en) (nI so) (nI sta) qva qwr qop (bI qiu) qwi qhe qrw qma)), ((ad 2), .inl (g.2.1 0, 2000, .inl (aI T)))]) := by
  refine Cn.of R_Mo [(0, .ref m0), (1, .int (nI a)), (2, .int (nI b)), (3, .int (nI c)), (4, .int (nI d))] (by decide) rfl (Nat.le_of_ble_eq_true rfl) rfl ?_
  intro x A Q hR hXl hin C E
  subst hXl
  refine r_aload_n C 0 d_Mo_is4_0 rfl rfl ?_
  refine r_iconst C (nI 0) d_Mo_is4_1 (by decide) ?_
  refine r_iconst C (nI 0) d_Mo_is4_2 (by decide) ?_
  refine r_iload_n C 1 d_Mo_is4_3 rfl rfl ?_
  refine r_bipush C (nI 96) d_Mo_is4_4 (by decide) ?_
  refine r_nsub C d_Mo_is4_6 (by omega) ?_
  refine r_iload_n C 2 d_Mo_is4_7 rfl rfl ?_
  refine r_bipush C (nI 96) d_Mo_is4_8 (by decide) ?_
  refine r_nsub C d_Mo_is4_10 (by omega) ?_
  refine r_iload_n C 3 d_Mo_is4_11 rfl rfl ?_
  refine r_bipush C (nI 96) d_Mo_is4_12 (by decide) ?_
  refine r_nsub C d_Mo_is4_14 (by omega) ?_
  refine r_iload C 4 d_Mo_is4_15 rfl ?_
  refine r_bipush C (nI 96) d_Mo_is4_17 (by decide) ?_
  refine r_nsub C d_Mo_is4_19 (by omega) ?_
  refine j_callS C (c_Mo_code g (xl x) (a := 0) (b := 0) (c := a - 96) (d := b - 96) (e := c - 96) (f := d - 96) ) (Sp.of (wr := [(m0, .inr (9, MO ad qth qsz (bI qir) qtk qde qru qat (nI en) (nI so) (nI sta) qva qwr qop (bI qiu) qwi qhe qrw qma)), ((ad 2), .inl (g.2.1 0, 2000, .inl (aI T)))]) [] [0, 1] rfl rfl rfl rfl (by decide)) d_Mo_is4_20 lk_Mo_129 mw_Mo_code st_Mo_code (fit_of hR (by first | decide | (simp only [rmk]; omega)) (by first | decide | (simp only [rmk]; omega)) (by first | decide | (simp only [rmk]; omega)) (by first | decide | (simp only [rmk]; omega))) rfl (cat8 (Nat.le_of_ble_eq_true rfl)) (As := [.int (nI 0), .int (nI 0), .int (nI (a - 96)), .int (nI (b - 96)), .int (nI (c - 96)), .int (nI (d - 96))]) (rest := [.ref m0]) rfl (fun r_20 w_20 hp_20 => ?_)
  obtain ⟨rfl, rfl⟩ := hp_20
  refine r_after (ws' := [(m0, .inr (9, MO ad qth qsz (bI qir) qtk qde qru qat (nI en) (nI so) (nI sta) qva qwr qop (bI qiu) qwi qhe qrw qma)), ((ad 2), .inl (g.2.1 0, 2000, .inl (aI T)))]) (st' := [.int (nI (cod 0 0 (a - 96) (b - 96) (c - 96) (d - 96))), .ref m0]) (n1 := 0) (n2 := 0) [0, 1] rfl rfl rfl rfl rfl ?_
  refine r_iconst C (nI 0) d_Mo_is4_23 (by decide) ?_
  refine j_callV C (c_Mo_isWord g (xl x) (m0 := m0) (ad := ad) (qth := qth) (qsz := qsz) (qtk := qtk) (qde := qde) (qru := qru) (qat := qat) (qva := qva) (qwr := qwr) (qop := qop) (qwi := qwi) (qhe := qhe) (qrw := qrw) (qma := qma) (qir := qir) (qiu := qiu) (so := so) (sta := sta) (en := en) (T := T) (hi := cod 0 0 (a - 96) (b - 96) (c - 96) (d - 96)) (lo := 0) (by first | assumption | rfl | omega) (by first | assumption | rfl | omega) (by first | assumption | rfl | omega) (by unfold cod; omega) (by first | assumption | rfl | omega)) (Sp.of (wr := []) [0, 1] [] rfl rfl rfl rfl (by decide)) d_Mo_is4_24 lk_Mo_133 mw_Mo_isWord vw_Mo_isWord (q0 := 0) rfl rfl (fit_of hR (by first | decide | (simp only [rmk]; omega)) (by first | decide | (simp only [rmk]; omega)) (by first | decide | (simp only [rmk]; omega)) (by first | decide | (simp only [rmk]; omega))) rfl (cat8 (Nat.le_of_ble_eq_true rfl)) (As := [.int (nI (cod 0 0 (a - 96) (b - 96) (c - 96) (d - 96))), .int (nI 0)]) (rest := []) rfl (fun r_24 w_24 hp_24 => ?_)
  obtain ⟨rfl, rfl⟩ := hp_24
  refine r_after (ws' := [(m0, .inr (9, MO ad qth qsz (bI qir) qtk qde qru qat (nI en) (nI so) (nI sta) qva qwr qop (bI qiu) qwi qhe qrw qma)), ((ad 2), .inl (g.2.1 0, 2000, .inl (aI T)))]) (st' := [.int (bI (isWm T so sta en (cod 0 0 (a - 96) (b - 96) (c - 96) (d - 96)) 0))]) (n1 := 0) (n2 := 0) [0, 1] rfl rfl rfl rfl rfl ?_
  refine r_bret C E d_Mo_is4_27 (by first | decide | omega | (simp only [rmk]; omega)) (by first | decide | omega | (simp only [rmk]; omega)) ?_
  exact ⟨rfl, rfl⟩

set_option maxHeartbeats 4000000 in
set_option maxRecDepth 100000 in
theorem c_Mo_is5 (g : GG) (l : Launch) {m0 : Nat} {ad : Nat → Nat} {qth : Int32} {qsz : Int32} {qtk : Int32} {qde : Int32} {qru : Int32} {qat : Int32} {qva : Int32} {qwr : Int32} {qop : Int32} {qwi : Int32} {qhe : Int32} {qrw : Int32} {qma : Int32} {qir : Bool} {qiu : Bool} {so : Nat} {sta : Nat} {en : Nat} {T : Nat → Nat} {a : Nat} {b : Nat} {c : Nat} {d : Nat} {e : Nat}  (hT : ∀ j, T j < 256) (hso : so < 2 ^ 31) (h1 : so = 1 → sta ≤ en ∧ en ≤ 2000 ∧ ∀ i, sta ≤ i → i < en → 97 ≤ T i ∧ T i ≤ 122) (g0 : 97 ≤ a ∧ a ≤ 122) (g1 : 97 ≤ b ∧ b ≤ 122) (g2 : 97 ≤ c ∧ c ≤ 122) (g3 : 97 ≤ d ∧ d ≤ 122) (g4 : 97 ≤ e ∧ e ≤ 122) : Cn g l y_Mo_is5 b_Mo_is5 6 (some .boolean) (rmk 1 0 0 25) [.ref m0, .int (nI a), .int (nI b), .int (nI c), .int (nI d), .int (nI e)] ([(m0, .inr (9, MO ad qth qsz (bI qir) qtk qde qru qat (nI en) (nI so) (nI sta) qva qwr qop (bI qiu) qwi qhe qrw qma)), ((ad 2), .inl (g.2.1 0, 2000, .inl (aI T)))]) (fun (r0 : Option Value) (w0 : va_W) => r0 = some (.int (bI (isWm T so sta en (cod 0 (a - 96) (b - 96) (c - 96) (d - 96) (e - 96)) 0))) ∧ w0 = [(m0, .inr (9, MO ad qth qsz (bI qir) qtk qde qru qat (nI en) (nI so) (nI sta) qva qwr qop (bI qiu) qwi qhe qrw qma)), ((ad 2), .inl (g.2.1 0, 2000, .inl (aI T)))]) := by
  refine Cn.of R_Mo [(0, .ref m0), (1, .int (nI a)), (2, .int (nI b)), (3, .int (nI c)), (4, .int (nI d)), (5, .int (nI e))] (by decide) rfl (Nat.le_of_ble_eq_true rfl) rfl ?_
  intro x A Q hR hXl hin C E
  subst hXl
  refine r_aload_n C 0 d_Mo_is5_0 rfl rfl ?_
  refine r_iconst C (nI 0) d_Mo_is5_1 (by decide) ?_
  refine r_iload_n C 1 d_Mo_is5_2 rfl rfl ?_
  refine r_bipush C (nI 96) d_Mo_is5_3 (by decide) ?_
  refine r_nsub C d_Mo_is5_5 (by omega) ?_
  refine r_iload_n C 2 d_Mo_is5_6 rfl rfl ?_
  refine r_bipush C (nI 96) d_Mo_is5_7 (by decide) ?_
  refine r_nsub C d_Mo_is5_9 (by omega) ?_
  refine r_iload_n C 3 d_Mo_is5_10 rfl rfl ?_
  refine r_bipush C (nI 96) d_Mo_is5_11 (by decide) ?_
  refine r_nsub C d_Mo_is5_13 (by omega) ?_
  refine r_iload C 4 d_Mo_is5_14 rfl ?_
  refine r_bipush C (nI 96) d_Mo_is5_16 (by decide) ?_
  refine r_nsub C d_Mo_is5_18 (by omega) ?_
  refine r_iload C 5 d_Mo_is5_19 rfl ?_
  refine r_bipush C (nI 96) d_Mo_is5_21 (by decide) ?_
  refine r_nsub C d_Mo_is5_23 (by omega) ?_
  refine j_callS C (c_Mo_code g (xl x) (a := 0) (b := a - 96) (c := b - 96) (d := c - 96) (e := d - 96) (f := e - 96) ) (Sp.of (wr := [(m0, .inr (9, MO ad qth qsz (bI qir) qtk qde qru qat (nI en) (nI so) (nI sta) qva qwr qop (bI qiu) qwi qhe qrw qma)), ((ad 2), .inl (g.2.1 0, 2000, .inl (aI T)))]) [] [0, 1] rfl rfl rfl rfl (by decide)) d_Mo_is5_24 lk_Mo_129 mw_Mo_code st_Mo_code (fit_of hR (by first | decide | (simp only [rmk]; omega)) (by first | decide | (simp only [rmk]; omega)) (by first | decide | (simp only [rmk]; omega)) (by first | decide | (simp only [rmk]; omega))) rfl (cat8 (Nat.le_of_ble_eq_true rfl)) (As := [.int (nI 0), .int (nI (a - 96)), .int (nI (b - 96)), .int (nI (c - 96)), .int (nI (d - 96)), .int (nI (e - 96))]) (rest := [.ref m0]) rfl (fun r_24 w_24 hp_24 => ?_)
  obtain ⟨rfl, rfl⟩ := hp_24
  refine r_after (ws' := [(m0, .inr (9, MO ad qth qsz (bI qir) qtk qde qru qat (nI en) (nI so) (nI sta) qva qwr qop (bI qiu) qwi qhe qrw qma)), ((ad 2), .inl (g.2.1 0, 2000, .inl (aI T)))]) (st' := [.int (nI (cod 0 (a - 96) (b - 96) (c - 96) (d - 96) (e - 96))), .ref m0]) (n1 := 0) (n2 := 0) [0, 1] rfl rfl rfl rfl rfl ?_
  refine r_iconst C (nI 0) d_Mo_is5_27 (by decide) ?_
  refine j_callV C (c_Mo_isWord g (xl x) (m0 := m0) (ad := ad) (qth := qth) (qsz := qsz) (qtk := qtk) (qde := qde) (qru := qru) (qat := qat) (qva := qva) (qwr := qwr) (qop := qop) (qwi := qwi) (qhe := qhe) (qrw := qrw) (qma := qma) (qir := qir) (qiu := qiu) (so := so) (sta := sta) (en := en) (T := T) (hi := cod 0 (a - 96) (b - 96) (c - 96) (d - 96) (e - 96)) (lo := 0) (by first | assumption | rfl | omega) (by first | assumption | rfl | omega) (by first | assumption | rfl | omega) (by unfold cod; omega) (by first | assumption | rfl | omega)) (Sp.of (wr := []) [0, 1] [] rfl rfl rfl rfl (by decide)) d_Mo_is5_28 lk_Mo_133 mw_Mo_isWord vw_Mo_isWord (q0 := 0) rfl rfl (fit_of hR (by first | decide | (simp only [rmk]; omega)) (by first | decide | (simp only [rmk]; omega)) (by first | decide | (simp only [rmk]; omega)) (by first | decide | (simp only [rmk]; omega))) rfl (cat8 (Nat.le_of_ble_eq_true rfl)) (As := [.int (nI (cod 0 (a - 96) (b - 96) (c - 96) (d - 96) (e - 96))), .int (nI 0)]) (rest := []) rfl (fun r_28 w_28 hp_28 => ?_)
  obtain ⟨rfl, rfl⟩ := hp_28
  refine r_after (ws' := [(m0, .inr (9, MO ad qth qsz (bI qir) qtk qde qru qat (nI en) (nI so) (nI sta) qva qwr qop (bI qiu) qwi qhe qrw qma)), ((ad 2), .inl (g.2.1 0, 2000, .inl (aI T)))]) (st' := [.int (bI (isWm T so sta en (cod 0 (a - 96) (b - 96) (c - 96) (d - 96) (e - 96)) 0))]) (n1 := 0) (n2 := 0) [0, 1] rfl rfl rfl rfl rfl ?_
  refine r_bret C E d_Mo_is5_31 (by first | decide | omega | (simp only [rmk]; omega)) (by first | decide | omega | (simp only [rmk]; omega)) ?_
  exact ⟨rfl, rfl⟩

set_option maxHeartbeats 4000000 in
set_option maxRecDepth 100000 in
theorem c_Mo_is6 (g : GG) (l : Launch) {m0 : Nat} {ad : Nat → Nat} {qth : Int32} {qsz : Int32} {qtk : Int32} {qde : Int32} {qru : Int32} {qat : Int32} {qva : Int32} {qwr : Int32} {qop : Int32} {qwi : Int32} {qhe : Int32} {qrw : Int32} {qma : Int32} {qir : Bool} {qiu : Bool} {so : Nat} {sta : Nat} {en : Nat} {T : Nat → Nat} {a : Nat} {b : Nat} {c : Nat} {d : Nat} {e : Nat} {f : Nat} {lo : Nat}  (hT : ∀ j, T j < 256) (hso : so < 2 ^ 31) (h1 : so = 1 → sta ≤ en ∧ en ≤ 2000 ∧ ∀ i, sta ≤ i → i < en → 97 ≤ T i ∧ T i ≤ 122) (g0 : 97 ≤ a ∧ a ≤ 122) (g1 : 97 ≤ b ∧ b ≤ 122) (g2 : 97 ≤ c ∧ c ≤ 122) (g3 : 97 ≤ d ∧ d ≤ 122) (g4 : 97 ≤ e ∧ e ≤ 122) (g5 : 97 ≤ f ∧ f ≤ 122) (hlo : lo < 2 ^ 31) : Cn g l y_Mo_is6 b_Mo_is6 8 (some .boolean) (rmk 1 0 0 25) [.ref m0, .int (nI a), .int (nI b), .int (nI c), .int (nI d), .int (nI e), .int (nI f), .int (nI lo)] ([(m0, .inr (9, MO ad qth qsz (bI qir) qtk qde qru qat (nI en) (nI so) (nI sta) qva qwr qop (bI qiu) qwi qhe qrw qma)), ((ad 2), .inl (g.2.1 0, 2000, .inl (aI T)))]) (fun (r0 : Option Value) (w0 : va_W) => r0 = some (.int (bI (isWm T so sta en (cod (a - 96) (b - 96) (c - 96) (d - 96) (e - 96) (f - 96)) lo))) ∧ w0 = [(m0, .inr (9, MO ad qth qsz (bI qir) qtk qde qru qat (nI en) (nI so) (nI sta) qva qwr qop (bI qiu) qwi qhe qrw qma)), ((ad 2), .inl (g.2.1 0, 2000, .inl (aI T)))]) := by
  refine Cn.of R_Mo [(0, .ref m0), (1, .int (nI a)), (2, .int (nI b)), (3, .int (nI c)), (4, .int (nI d)), (5, .int (nI e)), (6, .int (nI f)), (7, .int (nI lo))] (by decide) rfl (Nat.le_of_ble_eq_true rfl) rfl ?_
  intro x A Q hR hXl hin C E
  subst hXl
  refine r_aload_n C 0 d_Mo_is6_0 rfl rfl ?_
  refine r_iload_n C 1 d_Mo_is6_1 rfl rfl ?_
  refine r_bipush C (nI 96) d_Mo_is6_2 (by decide) ?_
  refine r_nsub C d_Mo_is6_4 (by omega) ?_
  refine r_iload_n C 2 d_Mo_is6_5 rfl rfl ?_
  refine r_bipush C (nI 96) d_Mo_is6_6 (by decide) ?_
  refine r_nsub C d_Mo_is6_8 (by omega) ?_
  refine r_iload_n C 3 d_Mo_is6_9 rfl rfl ?_
  refine r_bipush C (nI 96) d_Mo_is6_10 (by decide) ?_
  refine r_nsub C d_Mo_is6_12 (by omega) ?_
  refine r_iload C 4 d_Mo_is6_13 rfl ?_
  refine r_bipush C (nI 96) d_Mo_is6_15 (by decide) ?_
  refine r_nsub C d_Mo_is6_17 (by omega) ?_
  refine r_iload C 5 d_Mo_is6_18 rfl ?_
  refine r_bipush C (nI 96) d_Mo_is6_20 (by decide) ?_
  refine r_nsub C d_Mo_is6_22 (by omega) ?_
  refine r_iload C 6 d_Mo_is6_23 rfl ?_
  refine r_bipush C (nI 96) d_Mo_is6_25 (by decide) ?_
  refine r_nsub C d_Mo_is6_27 (by omega) ?_
  refine j_callS C (c_Mo_code g (xl x) (a := a - 96) (b := b - 96) (c := c - 96) (d := d - 96) (e := e - 96) (f := f - 96) ) (Sp.of (wr := [(m0, .inr (9, MO ad qth qsz (bI qir) qtk qde qru qat (nI en) (nI so) (nI sta) qva qwr qop (bI qiu) qwi qhe qrw qma)), ((ad 2), .inl (g.2.1 0, 2000, .inl (aI T)))]) [] [0, 1] rfl rfl rfl rfl (by decide)) d_Mo_is6_28 lk_Mo_129 mw_Mo_code st_Mo_code (fit_of hR (by first | decide | (simp only [rmk]; omega)) (by first | decide | (simp only [rmk]; omega)) (by first | decide | (simp only [rmk]; omega)) (by first | decide | (simp only [rmk]; omega))) rfl (cat8 (Nat.le_of_ble_eq_true rfl)) (As := [.int (nI (a - 96)), .int (nI (b - 96)), .int (nI (c - 96)), .int (nI (d - 96)), .int (nI (e - 96)), .int (nI (f - 96))]) (rest := [.ref m0]) rfl (fun r_28 w_28 hp_28 => ?_)
  obtain ⟨rfl, rfl⟩ := hp_28
  refine r_after (ws' := [(m0, .inr (9, MO ad qth qsz (bI qir) qtk qde qru qat (nI en) (nI so) (nI sta) qva qwr qop (bI qiu) qwi qhe qrw qma)), ((ad 2), .inl (g.2.1 0, 2000, .inl (aI T)))]) (st' := [.int (nI (cod (a - 96) (b - 96) (c - 96) (d - 96) (e - 96) (f - 96))), .ref m0]) (n1 := 0) (n2 := 0) [0, 1] rfl rfl rfl rfl rfl ?_
  refine r_iload C 7 d_Mo_is6_31 rfl ?_
  refine j_callV C (c_Mo_isWord g (xl x) (m0 := m0) (ad := ad) (qth := qth) (qsz := qsz) (qtk := qtk) (qde := qde) (qru := qru) (qat := qat) (qva := qva) (qwr := qwr) (qop := qop) (qwi := qwi) (qhe := qhe) (qrw := qrw) (qma := qma) (qir := qir) (qiu := qiu) (so := so) (sta := sta) (en := en) (T := T) (hi := cod (a - 96) (b - 96) (c - 96) (d - 96) (e - 96) (f - 96)) (lo := lo) (by first | assumption | rfl | omega) (by first | assumption | rfl | omega) (by first | assumption | rfl | omega) (by unfold cod; omega) (by first | assumption | rfl | omega)) (Sp.of (wr := []) [0, 1] [] rfl rfl rfl rfl (by decide)) d_Mo_is6_33 lk_Mo_133 mw_Mo_isWord vw_Mo_isWord (q0 := 0) rfl rfl (fit_of hR (by first | decide | (simp only [rmk]; omega)) (by first | decide | (simp only [rmk]; omega)) (by first | decide | (simp only [rmk]; omega)) (by first | decide | (simp only [rmk]; omega))) rfl (cat8 (Nat.le_of_ble_eq_true rfl)) (As := [.int (nI (cod (a - 96) (b - 96) (c - 96) (d - 96) (e - 96) (f - 96))), .int (nI lo)]) (rest := []) rfl (fun r_33 w_33 hp_33 => ?_)
  obtain ⟨rfl, rfl⟩ := hp_33
  refine r_after (ws' := [(m0, .inr (9, MO ad qth qsz (bI qir) qtk qde qru qat (nI en) (nI so) (nI sta) qva qwr qop (bI qiu) qwi qhe qrw qma)), ((ad 2), .inl (g.2.1 0, 2000, .inl (aI T)))]) (st' := [.int (bI (isWm T so sta en (cod (a - 96) (b - 96) (c - 96) (d - 96) (e - 96) (f - 96)) lo))]) (n1 := 0) (n2 := 0) [0, 1] rfl rfl rfl rfl rfl ?_
  refine r_bret C E d_Mo_is6_36 (by first | decide | omega | (simp only [rmk]; omega)) (by first | decide | omega | (simp only [rmk]; omega)) ?_
  exact ⟨rfl, rfl⟩
