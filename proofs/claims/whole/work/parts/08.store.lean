/-- an int as an index: none when it is negative -/
def inN (z : Int32) : Option Nat := if z < 0 then none else some z.toNatClampNeg
theorem inN_neg {z : Int32} (h : z < 0) : inN z = none := if_pos h
theorem inN_nI {j : Nat} (h : j < 2 ^ 31) : inN (nI j) = some j := by rw [inN, if_neg (nI_pos h), nI_clamp h]
theorem inN_some {z : Int32} {j : Nat} (h : inN z = some j) : j < 2 ^ 31 ∧ z = nI j := by
  by_cases hz : z < 0
  · rw [inN_neg hz] at h; cases h
  · obtain ⟨i, hi, rfl⟩ := nI_of hz
    rw [inN_nI hi] at h
    cases h
    exact ⟨hi, rfl⟩
def hasK (rc : Nat) (z : Option Nat) : Bool := match z with
  | none => false
  | some j => decide (j < rc)
theorem hasK_true {rc : Nat} {z : Int32} (h : hasK rc (inN z) = true) : ∃ j, j < rc ∧ z = nI j := by
  cases e : inN z with
  | none => rw [e] at h; cases h
  | some j =>
    rw [e] at h
    exact ⟨j, by simpa [hasK] using h, (inN_some e).2⟩
def ruleK (RU : Nat → Nat) (rc : Nat) (z : Option Nat) : Option Nat := match z with
  | none => none
  | some j => if j < rc then some (RU j) else none
theorem ruleK_none {RU : Nat → Nat} {rc : Nat} {z : Option Nat} (h : hasK rc z = false) : ruleK RU rc z = none := by
  cases z with
  | none => rfl
  | some j => rw [ruleK, if_neg (by simpa [hasK] using h)]
def sizeK (SA : Nat → Nat) (rc : Nat) (z : Option Nat) : Nat := match z with
  | none => 0
  | some j => if j < rc then SA (j + 1) - SA j else 0
theorem sizeK_none {SA : Nat → Nat} {rc : Nat} {z : Option Nat} (h : hasK rc z = false) : sizeK SA rc z = 0 := by
  cases z with
  | none => rfl
  | some j => rw [sizeK, if_neg (by simpa [hasK] using h)]
def RowBegun (RU SA : Nat → Nat) (rc pn ri z : Nat) (ok : Bool) (RU2 SA2 : Nat → Nat) (rc2 : Nat) : Prop :=
  (ok = true ∧ rc < 4000 ∧ pn + z ≤ 30000 ∧ RU2 = up RU rc ri ∧ SA2 = up (up SA rc pn) (rc + 1) (pn + z) ∧ rc2 = rc + 1) ∨ (ok = false ∧ ¬ (rc < 4000 ∧ pn + z ≤ 30000) ∧ RU2 = RU ∧ SA2 = SA ∧ rc2 = rc)
def placeK (SA PL : Nat → Nat) (rc : Nat) (z y : Option Nat) : Option Nat := match z, y with
  | some j, some i => if j < rc ∧ i < SA (j + 1) - SA j then some (PL (SA j + i)) else none
  | _, _ => none
theorem placeK_none {SA PL : Nat → Nat} {rc : Nat} {z y : Option Nat} (h : hasK rc z = false) : placeK SA PL rc z y = none := by
  cases z with
  | none => rfl
  | some j => cases y with
    | none => rfl
    | some i => rw [placeK, if_neg (fun q => by simp [hasK] at h; omega)]
/-- the places below m that aren't touched, in order -/
def frees (TO : Nat → Bool) (m : Nat) : List Nat := (List.range m).filter (fun j => !TO j)
theorem frees_succ (TO : Nat → Bool) (m : Nat) : frees TO (m + 1) = frees TO m ++ (if TO m then [] else [m]) := by
  unfold frees
  rw [List.range_succ, List.filter_append]
  cases h : TO m <;> simp [h]
def freeK (TO : Nat → Bool) (gs : Nat) (z : Option Nat) : Option Nat := match z with
  | none => none
  | some j => (frees TO gs)[j]?
theorem frees_pre (TO : Nat → Bool) {d m : Nat} (h : d ≤ m) : ∃ t, frees TO m = frees TO d ++ t := by
  induction m with
  | zero => exact ⟨[], by rw [show d = 0 by omega]; rfl⟩
  | succ m ih =>
    by_cases e : d = m + 1
    · exact ⟨[], by rw [e, List.append_nil]⟩
    · obtain ⟨t, ht⟩ := ih (by omega)
      exact ⟨t ++ (if TO m then [] else [m]), by rw [frees_succ, ht, List.append_assoc]⟩
theorem freeK_at {TO : Nat → Bool} {gs c d : Nat} {z : Int32} (hd : d < gs) (hc : c = (frees TO d).length) (ht : TO d = false) (hz : nI c = z) (hb : c < 2 ^ 31 := by omega) : freeK TO gs (inN z) = some d := by
  subst hz
  rw [inN_nI hb]
  obtain ⟨t, h⟩ := frees_pre TO (show d + 1 ≤ gs by omega)
  show (frees TO gs)[c]? = some d
  rw [h, frees_succ, ht, hc]
  simp
theorem freeK_end {TO : Nat → Bool} {gs c d : Nat} {z : Int32} (hd : d = gs) (hc : c = (frees TO d).length) (hz : ∀ j, inN z = some j → c ≤ j) : freeK TO gs (inN z) = none := by
  subst hd
  cases e : inN z with
  | none => rfl
  | some j =>
    have := hz j e
    show (frees TO d)[j]? = none
    exact List.getElem?_eq_none (by omega)
def refK (RA : Nat → Option Nat) (rc : Nat) (z : Option Nat) : Option Nat := match z with
  | none => none
  | some j => if j < rc then RA j else none

set_option maxRecDepth 100000 in
theorem ac_boolean : Cond.arrayClass (newarray.typeOf .boolean) ∈ GW := (gw (i := 249) rfl rfl)
set_option maxRecDepth 100000 in
theorem ci_RowStore : CI 7 R_RowStore F_RowStore 7 t_RowStore := ⟨rfl, ui 7 (by decide +kernel), by decide +kernel, by decide +kernel⟩
set_option maxRecDepth 100000 in
theorem fi_RowStore_15 : FI R_RowStore 15 R_RowStore F_RowStore 1 := Or.inl (gw (i := 227) rfl rfl)
set_option maxRecDepth 100000 in
theorem fi_RowStore_18 : FI R_RowStore 18 R_RowStore F_RowStore 2 := Or.inl (gw (i := 228) rfl rfl)
set_option maxRecDepth 100000 in
theorem fi_RowStore_21 : FI R_RowStore 21 R_RowStore F_RowStore 3 := Or.inl (gw (i := 229) rfl rfl)
set_option maxRecDepth 100000 in
theorem fi_RowStore_25 : FI R_RowStore 25 R_RowStore F_RowStore 4 := Or.inl (gw (i := 230) rfl rfl)
set_option maxRecDepth 100000 in
theorem fi_RowStore_29 : FI R_RowStore 29 R_RowStore F_RowStore 5 := Or.inl (gw (i := 231) rfl rfl)
set_option maxRecDepth 100000 in
theorem fi_RowStore_32 : FI R_RowStore 32 R_RowStore F_RowStore 6 := Or.inl (gw (i := 233) rfl rfl)
set_option maxRecDepth 100000 in
theorem fi_RowStore_9 : FI R_RowStore 9 R_RowStore F_RowStore 0 := Or.inl (gw (i := 226) rfl rfl)
set_option maxRecDepth 100000 in
theorem fl_RowStore_15 : Cond.fieldLink R_RowStore 15 R_RowStore (F_RowStore 1).2.1 (F_RowStore 1).2.2.1 ∈ GW := (gw (i := 227) rfl rfl)
set_option maxRecDepth 100000 in
theorem fl_RowStore_18 : Cond.fieldLink R_RowStore 18 R_RowStore (F_RowStore 2).2.1 (F_RowStore 2).2.2.1 ∈ GW := (gw (i := 228) rfl rfl)
set_option maxRecDepth 100000 in
theorem fl_RowStore_21 : Cond.fieldLink R_RowStore 21 R_RowStore (F_RowStore 3).2.1 (F_RowStore 3).2.2.1 ∈ GW := (gw (i := 229) rfl rfl)
set_option maxRecDepth 100000 in
theorem fl_RowStore_9 : Cond.fieldLink R_RowStore 9 R_RowStore (F_RowStore 0).2.1 (F_RowStore 0).2.2.1 ∈ GW := (gw (i := 226) rfl rfl)
set_option maxRecDepth 100000 in
theorem lk_RowStore_35 : LK R_RowStore 35 y_RowStore_drop := Or.inl (gw (i := 715) rfl rfl)
set_option maxRecDepth 100000 in
theorem lk_RowStore_38 : LK R_RowStore 38 y_RowStore_has := Or.inl (gw (i := 847) rfl rfl)
set_option maxRecDepth 100000 in
theorem lk_RowStore_42 : LK R_RowStore 42 y_RowStore_sizeOf := Or.inl (gw (i := 883) rfl rfl)
set_option maxRecDepth 100000 in
theorem ml_RowStore_3 : Cond.methodLink R_RowStore 3 objectInit ∈ GW := (gw (i := 225) rfl rfl)
set_option maxRecDepth 100000 in
theorem mw_RowStore_drop : MW y_RowStore_drop b_RowStore_drop 1 none 0 := ⟨(gw (i := 320) rfl rfl), (gw (i := 78) rfl rfl), by decide +kernel⟩
set_option maxRecDepth 100000 in
theorem mw_RowStore_has : MW y_RowStore_has b_RowStore_has 2 (some .boolean) 1 := ⟨(gw (i := 850) rfl rfl), (gw (i := 78) rfl rfl), by decide +kernel⟩
set_option maxRecDepth 100000 in
theorem mw_RowStore_sizeOf : MW y_RowStore_sizeOf b_RowStore_sizeOf 2 (some .int) 1 := ⟨(gw (i := 871) rfl rfl), (gw (i := 78) rfl rfl), by decide +kernel⟩
set_option maxRecDepth 100000 in
theorem vw_RowStore_drop : VW y_RowStore_drop := ⟨(gw (i := 318) rfl rfl), (gw (i := 319) rfl rfl)⟩
set_option maxRecDepth 100000 in
theorem vw_RowStore_has : VW y_RowStore_has := ⟨(gw (i := 849) rfl rfl), (gw (i := 36) rfl rfl)⟩
set_option maxRecDepth 100000 in
theorem vw_RowStore_sizeOf : VW y_RowStore_sizeOf := ⟨(gw (i := 869) rfl rfl), (gw (i := 870) rfl rfl)⟩
theorem d_RowStore_init_0 : decode b_RowStore_init 0 = .ok (.aload_n 0, 1) := by decide +kernel
theorem d_RowStore_init_1 : decode b_RowStore_init 1 = .ok (.invokespecial 3, 3) := by decide +kernel
theorem d_RowStore_init_4 : decode b_RowStore_init 4 = .ok (.aload_n 0, 1) := by decide +kernel
theorem d_RowStore_init_5 : decode b_RowStore_init 5 = .ok (.sipush 4000, 3) := by decide +kernel
theorem d_RowStore_init_8 : decode b_RowStore_init 8 = .ok (.newarray .int, 2) := by decide +kernel
theorem d_RowStore_init_10 : decode b_RowStore_init 10 = .ok (.putfield 9, 3) := by decide +kernel
theorem d_RowStore_init_13 : decode b_RowStore_init 13 = .ok (.aload_n 0, 1) := by decide +kernel
theorem d_RowStore_init_14 : decode b_RowStore_init 14 = .ok (.sipush 4001, 3) := by decide +kernel
theorem d_RowStore_init_17 : decode b_RowStore_init 17 = .ok (.newarray .int, 2) := by decide +kernel
theorem d_RowStore_init_19 : decode b_RowStore_init 19 = .ok (.putfield 15, 3) := by decide +kernel
theorem d_RowStore_init_22 : decode b_RowStore_init 22 = .ok (.aload_n 0, 1) := by decide +kernel
theorem d_RowStore_init_23 : decode b_RowStore_init 23 = .ok (.sipush 30000, 3) := by decide +kernel
theorem d_RowStore_init_26 : decode b_RowStore_init 26 = .ok (.newarray .int, 2) := by decide +kernel
theorem d_RowStore_init_28 : decode b_RowStore_init 28 = .ok (.putfield 18, 3) := by decide +kernel
theorem d_RowStore_init_31 : decode b_RowStore_init 31 = .ok (.aload_n 0, 1) := by decide +kernel
theorem d_RowStore_init_32 : decode b_RowStore_init 32 = .ok (.sipush 256, 3) := by decide +kernel
theorem d_RowStore_init_35 : decode b_RowStore_init 35 = .ok (.newarray .boolean, 2) := by decide +kernel
theorem d_RowStore_init_37 : decode b_RowStore_init 37 = .ok (.putfield 21, 3) := by decide +kernel
theorem d_RowStore_init_40 : decode b_RowStore_init 40 = .ok (.return_, 1) := by decide +kernel
theorem d_RowStore_drop_0 : decode b_RowStore_drop 0 = .ok (.aload_n 0, 1) := by decide +kernel
theorem d_RowStore_drop_1 : decode b_RowStore_drop 1 = .ok (.iconst 0, 1) := by decide +kernel
theorem d_RowStore_drop_2 : decode b_RowStore_drop 2 = .ok (.putfield 25, 3) := by decide +kernel
theorem d_RowStore_drop_5 : decode b_RowStore_drop 5 = .ok (.aload_n 0, 1) := by decide +kernel
theorem d_RowStore_drop_6 : decode b_RowStore_drop 6 = .ok (.iconst 0, 1) := by decide +kernel
theorem d_RowStore_drop_7 : decode b_RowStore_drop 7 = .ok (.putfield 29, 3) := by decide +kernel
theorem d_RowStore_drop_10 : decode b_RowStore_drop 10 = .ok (.aload_n 0, 1) := by decide +kernel
theorem d_RowStore_drop_11 : decode b_RowStore_drop 11 = .ok (.iconst 0, 1) := by decide +kernel
theorem d_RowStore_drop_12 : decode b_RowStore_drop 12 = .ok (.putfield 32, 3) := by decide +kernel
theorem d_RowStore_drop_15 : decode b_RowStore_drop 15 = .ok (.return_, 1) := by decide +kernel
theorem d_RowStore_begin_0 : decode b_RowStore_begin 0 = .ok (.aload_n 0, 1) := by decide +kernel
theorem d_RowStore_begin_1 : decode b_RowStore_begin 1 = .ok (.invokevirtual 35, 3) := by decide +kernel
theorem d_RowStore_begin_4 : decode b_RowStore_begin 4 = .ok (.aload_n 0, 1) := by decide +kernel
theorem d_RowStore_begin_5 : decode b_RowStore_begin 5 = .ok (.iload_n 1, 1) := by decide +kernel
theorem d_RowStore_begin_6 : decode b_RowStore_begin 6 = .ok (.putfield 25, 3) := by decide +kernel
theorem d_RowStore_begin_9 : decode b_RowStore_begin 9 = .ok (.iconst 0, 1) := by decide +kernel
theorem d_RowStore_begin_10 : decode b_RowStore_begin 10 = .ok (.istore_n 2, 1) := by decide +kernel
theorem d_RowStore_begin_11 : decode b_RowStore_begin 11 = .ok (.iload_n 2, 1) := by decide +kernel
theorem d_RowStore_begin_12 : decode b_RowStore_begin 12 = .ok (.aload_n 0, 1) := by decide +kernel
theorem d_RowStore_begin_13 : decode b_RowStore_begin 13 = .ok (.getfield 21, 3) := by decide +kernel
theorem d_RowStore_begin_16 : decode b_RowStore_begin 16 = .ok (.arraylength, 1) := by decide +kernel
theorem d_RowStore_begin_17 : decode b_RowStore_begin 17 = .ok (.if_icmp .ge 16, 3) := by decide +kernel
theorem d_RowStore_begin_20 : decode b_RowStore_begin 20 = .ok (.aload_n 0, 1) := by decide +kernel
theorem d_RowStore_begin_21 : decode b_RowStore_begin 21 = .ok (.getfield 21, 3) := by decide +kernel
theorem d_RowStore_begin_24 : decode b_RowStore_begin 24 = .ok (.iload_n 2, 1) := by decide +kernel
theorem d_RowStore_begin_25 : decode b_RowStore_begin 25 = .ok (.iconst 0, 1) := by decide +kernel
theorem d_RowStore_begin_26 : decode b_RowStore_begin 26 = .ok (.bastore, 1) := by decide +kernel
theorem d_RowStore_begin_27 : decode b_RowStore_begin 27 = .ok (.iinc 2 1, 3) := by decide +kernel
theorem d_RowStore_begin_30 : decode b_RowStore_begin 30 = .ok (.goto (-19), 3) := by decide +kernel
theorem d_RowStore_begin_33 : decode b_RowStore_begin 33 = .ok (.return_, 1) := by decide +kernel
theorem d_RowStore_beginRow_0 : decode b_RowStore_beginRow 0 = .ok (.aload_n 0, 1) := by decide +kernel
theorem d_RowStore_beginRow_1 : decode b_RowStore_beginRow 1 = .ok (.getfield 29, 3) := by decide +kernel
theorem d_RowStore_beginRow_4 : decode b_RowStore_beginRow 4 = .ok (.ifCond .lt 25, 3) := by decide +kernel
theorem d_RowStore_beginRow_7 : decode b_RowStore_beginRow 7 = .ok (.aload_n 0, 1) := by decide +kernel
theorem d_RowStore_beginRow_8 : decode b_RowStore_beginRow 8 = .ok (.getfield 29, 3) := by decide +kernel
theorem d_RowStore_beginRow_11 : decode b_RowStore_beginRow 11 = .ok (.sipush 4000, 3) := by decide +kernel
theorem d_RowStore_beginRow_14 : decode b_RowStore_beginRow 14 = .ok (.if_icmp .ge 15, 3) := by decide +kernel
theorem d_RowStore_beginRow_17 : decode b_RowStore_beginRow 17 = .ok (.aload_n 0, 1) := by decide +kernel
theorem d_RowStore_beginRow_18 : decode b_RowStore_beginRow 18 = .ok (.getfield 32, 3) := by decide +kernel
theorem d_RowStore_beginRow_21 : decode b_RowStore_beginRow 21 = .ok (.iload_n 2, 1) := by decide +kernel
theorem d_RowStore_beginRow_22 : decode b_RowStore_beginRow 22 = .ok (.iadd, 1) := by decide +kernel
theorem d_RowStore_beginRow_23 : decode b_RowStore_beginRow 23 = .ok (.sipush 30000, 3) := by decide +kernel
theorem d_RowStore_beginRow_26 : decode b_RowStore_beginRow 26 = .ok (.if_icmp .le 5, 3) := by decide +kernel
theorem d_RowStore_beginRow_29 : decode b_RowStore_beginRow 29 = .ok (.iconst 0, 1) := by decide +kernel
theorem d_RowStore_beginRow_30 : decode b_RowStore_beginRow 30 = .ok (.ireturn, 1) := by decide +kernel
theorem d_RowStore_beginRow_31 : decode b_RowStore_beginRow 31 = .ok (.aload_n 0, 1) := by decide +kernel
theorem d_RowStore_beginRow_32 : decode b_RowStore_beginRow 32 = .ok (.getfield 9, 3) := by decide +kernel
theorem d_RowStore_beginRow_35 : decode b_RowStore_beginRow 35 = .ok (.aload_n 0, 1) := by decide +kernel
theorem d_RowStore_beginRow_36 : decode b_RowStore_beginRow 36 = .ok (.getfield 29, 3) := by decide +kernel
theorem d_RowStore_beginRow_39 : decode b_RowStore_beginRow 39 = .ok (.iload_n 1, 1) := by decide +kernel
theorem d_RowStore_beginRow_40 : decode b_RowStore_beginRow 40 = .ok (.iastore, 1) := by decide +kernel
theorem d_RowStore_beginRow_41 : decode b_RowStore_beginRow 41 = .ok (.aload_n 0, 1) := by decide +kernel
theorem d_RowStore_beginRow_42 : decode b_RowStore_beginRow 42 = .ok (.getfield 15, 3) := by decide +kernel
theorem d_RowStore_beginRow_45 : decode b_RowStore_beginRow 45 = .ok (.aload_n 0, 1) := by decide +kernel
theorem d_RowStore_beginRow_46 : decode b_RowStore_beginRow 46 = .ok (.getfield 29, 3) := by decide +kernel
theorem d_RowStore_beginRow_49 : decode b_RowStore_beginRow 49 = .ok (.aload_n 0, 1) := by decide +kernel
theorem d_RowStore_beginRow_50 : decode b_RowStore_beginRow 50 = .ok (.getfield 32, 3) := by decide +kernel
theorem d_RowStore_beginRow_53 : decode b_RowStore_beginRow 53 = .ok (.iastore, 1) := by decide +kernel
theorem d_RowStore_beginRow_54 : decode b_RowStore_beginRow 54 = .ok (.aload_n 0, 1) := by decide +kernel
theorem d_RowStore_beginRow_55 : decode b_RowStore_beginRow 55 = .ok (.getfield 15, 3) := by decide +kernel
theorem d_RowStore_beginRow_58 : decode b_RowStore_beginRow 58 = .ok (.aload_n 0, 1) := by decide +kernel
theorem d_RowStore_beginRow_59 : decode b_RowStore_beginRow 59 = .ok (.getfield 29, 3) := by decide +kernel
theorem d_RowStore_beginRow_62 : decode b_RowStore_beginRow 62 = .ok (.iconst 1, 1) := by decide +kernel
theorem d_RowStore_beginRow_63 : decode b_RowStore_beginRow 63 = .ok (.iadd, 1) := by decide +kernel
theorem d_RowStore_beginRow_64 : decode b_RowStore_beginRow 64 = .ok (.aload_n 0, 1) := by decide +kernel
theorem d_RowStore_beginRow_65 : decode b_RowStore_beginRow 65 = .ok (.getfield 32, 3) := by decide +kernel
theorem d_RowStore_beginRow_68 : decode b_RowStore_beginRow 68 = .ok (.iload_n 2, 1) := by decide +kernel
theorem d_RowStore_beginRow_69 : decode b_RowStore_beginRow 69 = .ok (.iadd, 1) := by decide +kernel
theorem d_RowStore_beginRow_70 : decode b_RowStore_beginRow 70 = .ok (.iastore, 1) := by decide +kernel
theorem d_RowStore_beginRow_71 : decode b_RowStore_beginRow 71 = .ok (.aload_n 0, 1) := by decide +kernel
theorem d_RowStore_beginRow_72 : decode b_RowStore_beginRow 72 = .ok (.dup, 1) := by decide +kernel
theorem d_RowStore_beginRow_73 : decode b_RowStore_beginRow 73 = .ok (.getfield 29, 3) := by decide +kernel
theorem d_RowStore_beginRow_76 : decode b_RowStore_beginRow 76 = .ok (.iconst 1, 1) := by decide +kernel
theorem d_RowStore_beginRow_77 : decode b_RowStore_beginRow 77 = .ok (.iadd, 1) := by decide +kernel
theorem d_RowStore_beginRow_78 : decode b_RowStore_beginRow 78 = .ok (.putfield 29, 3) := by decide +kernel
theorem d_RowStore_beginRow_81 : decode b_RowStore_beginRow 81 = .ok (.iconst 1, 1) := by decide +kernel
theorem d_RowStore_beginRow_82 : decode b_RowStore_beginRow 82 = .ok (.ireturn, 1) := by decide +kernel
theorem d_RowStore_addPlace_0 : decode b_RowStore_addPlace 0 = .ok (.aload_n 0, 1) := by decide +kernel
theorem d_RowStore_addPlace_1 : decode b_RowStore_addPlace 1 = .ok (.getfield 32, 3) := by decide +kernel
theorem d_RowStore_addPlace_4 : decode b_RowStore_addPlace 4 = .ok (.ifCond .lt 28, 3) := by decide +kernel
theorem d_RowStore_addPlace_7 : decode b_RowStore_addPlace 7 = .ok (.aload_n 0, 1) := by decide +kernel
theorem d_RowStore_addPlace_8 : decode b_RowStore_addPlace 8 = .ok (.getfield 32, 3) := by decide +kernel
theorem d_RowStore_addPlace_11 : decode b_RowStore_addPlace 11 = .ok (.aload_n 0, 1) := by decide +kernel
theorem d_RowStore_addPlace_12 : decode b_RowStore_addPlace 12 = .ok (.getfield 18, 3) := by decide +kernel
theorem d_RowStore_addPlace_15 : decode b_RowStore_addPlace 15 = .ok (.arraylength, 1) := by decide +kernel
theorem d_RowStore_addPlace_16 : decode b_RowStore_addPlace 16 = .ok (.if_icmp .ge 16, 3) := by decide +kernel
theorem d_RowStore_addPlace_19 : decode b_RowStore_addPlace 19 = .ok (.iload_n 1, 1) := by decide +kernel
theorem d_RowStore_addPlace_20 : decode b_RowStore_addPlace 20 = .ok (.ifCond .lt 12, 3) := by decide +kernel
theorem d_RowStore_addPlace_23 : decode b_RowStore_addPlace 23 = .ok (.iload_n 1, 1) := by decide +kernel
theorem d_RowStore_addPlace_24 : decode b_RowStore_addPlace 24 = .ok (.aload_n 0, 1) := by decide +kernel
theorem d_RowStore_addPlace_25 : decode b_RowStore_addPlace 25 = .ok (.getfield 21, 3) := by decide +kernel
theorem d_RowStore_addPlace_28 : decode b_RowStore_addPlace 28 = .ok (.arraylength, 1) := by decide +kernel
theorem d_RowStore_addPlace_29 : decode b_RowStore_addPlace 29 = .ok (.if_icmp .lt 4, 3) := by decide +kernel
theorem d_RowStore_addPlace_32 : decode b_RowStore_addPlace 32 = .ok (.return_, 1) := by decide +kernel
theorem d_RowStore_addPlace_33 : decode b_RowStore_addPlace 33 = .ok (.aload_n 0, 1) := by decide +kernel
theorem d_RowStore_addPlace_34 : decode b_RowStore_addPlace 34 = .ok (.getfield 18, 3) := by decide +kernel
theorem d_RowStore_addPlace_37 : decode b_RowStore_addPlace 37 = .ok (.aload_n 0, 1) := by decide +kernel
theorem d_RowStore_addPlace_38 : decode b_RowStore_addPlace 38 = .ok (.getfield 32, 3) := by decide +kernel
theorem d_RowStore_addPlace_41 : decode b_RowStore_addPlace 41 = .ok (.iload_n 1, 1) := by decide +kernel
theorem d_RowStore_addPlace_42 : decode b_RowStore_addPlace 42 = .ok (.iastore, 1) := by decide +kernel
theorem d_RowStore_addPlace_43 : decode b_RowStore_addPlace 43 = .ok (.aload_n 0, 1) := by decide +kernel
theorem d_RowStore_addPlace_44 : decode b_RowStore_addPlace 44 = .ok (.dup, 1) := by decide +kernel
theorem d_RowStore_addPlace_45 : decode b_RowStore_addPlace 45 = .ok (.getfield 32, 3) := by decide +kernel
theorem d_RowStore_addPlace_48 : decode b_RowStore_addPlace 48 = .ok (.iconst 1, 1) := by decide +kernel
theorem d_RowStore_addPlace_49 : decode b_RowStore_addPlace 49 = .ok (.iadd, 1) := by decide +kernel
theorem d_RowStore_addPlace_50 : decode b_RowStore_addPlace 50 = .ok (.putfield 32, 3) := by decide +kernel
theorem d_RowStore_addPlace_53 : decode b_RowStore_addPlace 53 = .ok (.aload_n 0, 1) := by decide +kernel
theorem d_RowStore_addPlace_54 : decode b_RowStore_addPlace 54 = .ok (.getfield 21, 3) := by decide +kernel
theorem d_RowStore_addPlace_57 : decode b_RowStore_addPlace 57 = .ok (.iload_n 1, 1) := by decide +kernel
theorem d_RowStore_addPlace_58 : decode b_RowStore_addPlace 58 = .ok (.iconst 1, 1) := by decide +kernel
theorem d_RowStore_addPlace_59 : decode b_RowStore_addPlace 59 = .ok (.bastore, 1) := by decide +kernel
theorem d_RowStore_addPlace_60 : decode b_RowStore_addPlace 60 = .ok (.return_, 1) := by decide +kernel
theorem d_RowStore_has_0 : decode b_RowStore_has 0 = .ok (.iload_n 1, 1) := by decide +kernel
theorem d_RowStore_has_1 : decode b_RowStore_has 1 = .ok (.ifCond .lt 22, 3) := by decide +kernel
theorem d_RowStore_has_4 : decode b_RowStore_has 4 = .ok (.iload_n 1, 1) := by decide +kernel
theorem d_RowStore_has_5 : decode b_RowStore_has 5 = .ok (.aload_n 0, 1) := by decide +kernel
theorem d_RowStore_has_6 : decode b_RowStore_has 6 = .ok (.getfield 29, 3) := by decide +kernel
theorem d_RowStore_has_9 : decode b_RowStore_has 9 = .ok (.if_icmp .ge 14, 3) := by decide +kernel
theorem d_RowStore_has_12 : decode b_RowStore_has 12 = .ok (.iload_n 1, 1) := by decide +kernel
theorem d_RowStore_has_13 : decode b_RowStore_has 13 = .ok (.sipush 4000, 3) := by decide +kernel
theorem d_RowStore_has_16 : decode b_RowStore_has 16 = .ok (.if_icmp .ge 7, 3) := by decide +kernel
theorem d_RowStore_has_19 : decode b_RowStore_has 19 = .ok (.iconst 1, 1) := by decide +kernel
theorem d_RowStore_has_20 : decode b_RowStore_has 20 = .ok (.goto 4, 3) := by decide +kernel
theorem d_RowStore_has_23 : decode b_RowStore_has 23 = .ok (.iconst 0, 1) := by decide +kernel
theorem d_RowStore_has_24 : decode b_RowStore_has 24 = .ok (.ireturn, 1) := by decide +kernel
theorem d_RowStore_ruleOf_0 : decode b_RowStore_ruleOf 0 = .ok (.aload_n 0, 1) := by decide +kernel
theorem d_RowStore_ruleOf_1 : decode b_RowStore_ruleOf 1 = .ok (.iload_n 1, 1) := by decide +kernel
theorem d_RowStore_ruleOf_2 : decode b_RowStore_ruleOf 2 = .ok (.invokevirtual 38, 3) := by decide +kernel
theorem d_RowStore_ruleOf_5 : decode b_RowStore_ruleOf 5 = .ok (.ifCond .eq 12, 3) := by decide +kernel
theorem d_RowStore_ruleOf_8 : decode b_RowStore_ruleOf 8 = .ok (.aload_n 0, 1) := by decide +kernel
theorem d_RowStore_ruleOf_9 : decode b_RowStore_ruleOf 9 = .ok (.getfield 9, 3) := by decide +kernel
theorem d_RowStore_ruleOf_12 : decode b_RowStore_ruleOf 12 = .ok (.iload_n 1, 1) := by decide +kernel
theorem d_RowStore_ruleOf_13 : decode b_RowStore_ruleOf 13 = .ok (.iaload, 1) := by decide +kernel
theorem d_RowStore_ruleOf_14 : decode b_RowStore_ruleOf 14 = .ok (.goto 4, 3) := by decide +kernel
theorem d_RowStore_ruleOf_17 : decode b_RowStore_ruleOf 17 = .ok (.iconst (-1), 1) := by decide +kernel
theorem d_RowStore_ruleOf_18 : decode b_RowStore_ruleOf 18 = .ok (.ireturn, 1) := by decide +kernel
theorem d_RowStore_sizeOf_0 : decode b_RowStore_sizeOf 0 = .ok (.aload_n 0, 1) := by decide +kernel
theorem d_RowStore_sizeOf_1 : decode b_RowStore_sizeOf 1 = .ok (.iload_n 1, 1) := by decide +kernel
theorem d_RowStore_sizeOf_2 : decode b_RowStore_sizeOf 2 = .ok (.invokevirtual 38, 3) := by decide +kernel
theorem d_RowStore_sizeOf_5 : decode b_RowStore_sizeOf 5 = .ok (.ifCond .eq 21, 3) := by decide +kernel
theorem d_RowStore_sizeOf_8 : decode b_RowStore_sizeOf 8 = .ok (.aload_n 0, 1) := by decide +kernel
theorem d_RowStore_sizeOf_9 : decode b_RowStore_sizeOf 9 = .ok (.getfield 15, 3) := by decide +kernel
theorem d_RowStore_sizeOf_12 : decode b_RowStore_sizeOf 12 = .ok (.iload_n 1, 1) := by decide +kernel
theorem d_RowStore_sizeOf_13 : decode b_RowStore_sizeOf 13 = .ok (.iconst 1, 1) := by decide +kernel
theorem d_RowStore_sizeOf_14 : decode b_RowStore_sizeOf 14 = .ok (.iadd, 1) := by decide +kernel
theorem d_RowStore_sizeOf_15 : decode b_RowStore_sizeOf 15 = .ok (.iaload, 1) := by decide +kernel
theorem d_RowStore_sizeOf_16 : decode b_RowStore_sizeOf 16 = .ok (.aload_n 0, 1) := by decide +kernel
theorem d_RowStore_sizeOf_17 : decode b_RowStore_sizeOf 17 = .ok (.getfield 15, 3) := by decide +kernel
theorem d_RowStore_sizeOf_20 : decode b_RowStore_sizeOf 20 = .ok (.iload_n 1, 1) := by decide +kernel
theorem d_RowStore_sizeOf_21 : decode b_RowStore_sizeOf 21 = .ok (.iaload, 1) := by decide +kernel
theorem d_RowStore_sizeOf_22 : decode b_RowStore_sizeOf 22 = .ok (.isub, 1) := by decide +kernel
theorem d_RowStore_sizeOf_23 : decode b_RowStore_sizeOf 23 = .ok (.goto 4, 3) := by decide +kernel
theorem d_RowStore_sizeOf_26 : decode b_RowStore_sizeOf 26 = .ok (.iconst 0, 1) := by decide +kernel
theorem d_RowStore_sizeOf_27 : decode b_RowStore_sizeOf 27 = .ok (.ireturn, 1) := by decide +kernel
theorem d_RowStore_placeOf_0 : decode b_RowStore_placeOf 0 = .ok (.aload_n 0, 1) := by decide +kernel
theorem d_RowStore_placeOf_1 : decode b_RowStore_placeOf 1 = .ok (.iload_n 1, 1) := by decide +kernel
theorem d_RowStore_placeOf_2 : decode b_RowStore_placeOf 2 = .ok (.invokevirtual 38, 3) := by decide +kernel
theorem d_RowStore_placeOf_5 : decode b_RowStore_placeOf 5 = .ok (.ifCond .eq 16, 3) := by decide +kernel
theorem d_RowStore_placeOf_8 : decode b_RowStore_placeOf 8 = .ok (.iload_n 2, 1) := by decide +kernel
theorem d_RowStore_placeOf_9 : decode b_RowStore_placeOf 9 = .ok (.ifCond .lt 12, 3) := by decide +kernel
theorem d_RowStore_placeOf_12 : decode b_RowStore_placeOf 12 = .ok (.iload_n 2, 1) := by decide +kernel
theorem d_RowStore_placeOf_13 : decode b_RowStore_placeOf 13 = .ok (.aload_n 0, 1) := by decide +kernel
theorem d_RowStore_placeOf_14 : decode b_RowStore_placeOf 14 = .ok (.iload_n 1, 1) := by decide +kernel
theorem d_RowStore_placeOf_15 : decode b_RowStore_placeOf 15 = .ok (.invokevirtual 42, 3) := by decide +kernel
theorem d_RowStore_placeOf_18 : decode b_RowStore_placeOf 18 = .ok (.if_icmp .lt 5, 3) := by decide +kernel
theorem d_RowStore_placeOf_21 : decode b_RowStore_placeOf 21 = .ok (.iconst (-1), 1) := by decide +kernel
theorem d_RowStore_placeOf_22 : decode b_RowStore_placeOf 22 = .ok (.ireturn, 1) := by decide +kernel
theorem d_RowStore_placeOf_23 : decode b_RowStore_placeOf 23 = .ok (.aload_n 0, 1) := by decide +kernel
theorem d_RowStore_placeOf_24 : decode b_RowStore_placeOf 24 = .ok (.getfield 15, 3) := by decide +kernel
theorem d_RowStore_placeOf_27 : decode b_RowStore_placeOf 27 = .ok (.iload_n 1, 1) := by decide +kernel
theorem d_RowStore_placeOf_28 : decode b_RowStore_placeOf 28 = .ok (.iaload, 1) := by decide +kernel
theorem d_RowStore_placeOf_29 : decode b_RowStore_placeOf 29 = .ok (.iload_n 2, 1) := by decide +kernel
theorem d_RowStore_placeOf_30 : decode b_RowStore_placeOf 30 = .ok (.iadd, 1) := by decide +kernel
theorem d_RowStore_placeOf_31 : decode b_RowStore_placeOf 31 = .ok (.istore_n 3, 1) := by decide +kernel
theorem d_RowStore_placeOf_32 : decode b_RowStore_placeOf 32 = .ok (.iload_n 3, 1) := by decide +kernel
theorem d_RowStore_placeOf_33 : decode b_RowStore_placeOf 33 = .ok (.ifCond .lt 21, 3) := by decide +kernel
theorem d_RowStore_placeOf_36 : decode b_RowStore_placeOf 36 = .ok (.iload_n 3, 1) := by decide +kernel
theorem d_RowStore_placeOf_37 : decode b_RowStore_placeOf 37 = .ok (.aload_n 0, 1) := by decide +kernel
theorem d_RowStore_placeOf_38 : decode b_RowStore_placeOf 38 = .ok (.getfield 18, 3) := by decide +kernel
theorem d_RowStore_placeOf_41 : decode b_RowStore_placeOf 41 = .ok (.arraylength, 1) := by decide +kernel
theorem d_RowStore_placeOf_42 : decode b_RowStore_placeOf 42 = .ok (.if_icmp .ge 12, 3) := by decide +kernel
theorem d_RowStore_placeOf_45 : decode b_RowStore_placeOf 45 = .ok (.aload_n 0, 1) := by decide +kernel
theorem d_RowStore_placeOf_46 : decode b_RowStore_placeOf 46 = .ok (.getfield 18, 3) := by decide +kernel
theorem d_RowStore_placeOf_49 : decode b_RowStore_placeOf 49 = .ok (.iload_n 3, 1) := by decide +kernel
theorem d_RowStore_placeOf_50 : decode b_RowStore_placeOf 50 = .ok (.iaload, 1) := by decide +kernel
theorem d_RowStore_placeOf_51 : decode b_RowStore_placeOf 51 = .ok (.goto 4, 3) := by decide +kernel
theorem d_RowStore_placeOf_54 : decode b_RowStore_placeOf 54 = .ok (.iconst (-1), 1) := by decide +kernel
theorem d_RowStore_placeOf_55 : decode b_RowStore_placeOf 55 = .ok (.ireturn, 1) := by decide +kernel
theorem d_RowStore_untouched_0 : decode b_RowStore_untouched 0 = .ok (.iconst 0, 1) := by decide +kernel
theorem d_RowStore_untouched_1 : decode b_RowStore_untouched 1 = .ok (.istore_n 2, 1) := by decide +kernel
theorem d_RowStore_untouched_2 : decode b_RowStore_untouched 2 = .ok (.iconst 0, 1) := by decide +kernel
theorem d_RowStore_untouched_3 : decode b_RowStore_untouched 3 = .ok (.istore_n 3, 1) := by decide +kernel
theorem d_RowStore_untouched_4 : decode b_RowStore_untouched 4 = .ok (.iload_n 3, 1) := by decide +kernel
theorem d_RowStore_untouched_5 : decode b_RowStore_untouched 5 = .ok (.aload_n 0, 1) := by decide +kernel
theorem d_RowStore_untouched_6 : decode b_RowStore_untouched 6 = .ok (.getfield 25, 3) := by decide +kernel
theorem d_RowStore_untouched_9 : decode b_RowStore_untouched 9 = .ok (.if_icmp .ge 37, 3) := by decide +kernel
theorem d_RowStore_untouched_12 : decode b_RowStore_untouched 12 = .ok (.iload_n 3, 1) := by decide +kernel
theorem d_RowStore_untouched_13 : decode b_RowStore_untouched 13 = .ok (.aload_n 0, 1) := by decide +kernel
theorem d_RowStore_untouched_14 : decode b_RowStore_untouched 14 = .ok (.getfield 21, 3) := by decide +kernel
theorem d_RowStore_untouched_17 : decode b_RowStore_untouched 17 = .ok (.arraylength, 1) := by decide +kernel
theorem d_RowStore_untouched_18 : decode b_RowStore_untouched 18 = .ok (.if_icmp .ge 28, 3) := by decide +kernel
theorem d_RowStore_untouched_21 : decode b_RowStore_untouched 21 = .ok (.aload_n 0, 1) := by decide +kernel
theorem d_RowStore_untouched_22 : decode b_RowStore_untouched 22 = .ok (.getfield 21, 3) := by decide +kernel
theorem d_RowStore_untouched_25 : decode b_RowStore_untouched 25 = .ok (.iload_n 3, 1) := by decide +kernel
theorem d_RowStore_untouched_26 : decode b_RowStore_untouched 26 = .ok (.baload, 1) := by decide +kernel
theorem d_RowStore_untouched_27 : decode b_RowStore_untouched 27 = .ok (.ifCond .ne 13, 3) := by decide +kernel
theorem d_RowStore_untouched_30 : decode b_RowStore_untouched 30 = .ok (.iload_n 2, 1) := by decide +kernel
theorem d_RowStore_untouched_31 : decode b_RowStore_untouched 31 = .ok (.iload_n 1, 1) := by decide +kernel
theorem d_RowStore_untouched_32 : decode b_RowStore_untouched 32 = .ok (.if_icmp .ne 5, 3) := by decide +kernel
theorem d_RowStore_untouched_35 : decode b_RowStore_untouched 35 = .ok (.iload_n 3, 1) := by decide +kernel
theorem d_RowStore_untouched_36 : decode b_RowStore_untouched 36 = .ok (.ireturn, 1) := by decide +kernel
theorem d_RowStore_untouched_37 : decode b_RowStore_untouched 37 = .ok (.iinc 2 1, 3) := by decide +kernel
theorem d_RowStore_untouched_40 : decode b_RowStore_untouched 40 = .ok (.iinc 3 1, 3) := by decide +kernel
theorem d_RowStore_untouched_43 : decode b_RowStore_untouched 43 = .ok (.goto (-39), 3) := by decide +kernel
theorem d_RowStore_untouched_46 : decode b_RowStore_untouched 46 = .ok (.iconst (-1), 1) := by decide +kernel
theorem d_RowStore_untouched_47 : decode b_RowStore_untouched 47 = .ok (.ireturn, 1) := by decide +kernel
set_option maxHeartbeats 4000000 in
set_option maxRecDepth 100000 in
theorem c_RowStore_init (g : GG) (l : Launch) {s : Nat}   : Cn g l y_RowStore_init b_RowStore_init 1 none (rmk 1 4 38257 12) [.ref s] ([(s, .inr (7, [.null, .null, .null, .null, .int (nI 0), .int (nI 0), .int (nI 0)]))]) (fun (r0 : Option Value) (w0 : va_W) => ∃ ru : Nat, ∃ sa : Nat, ∃ ps : Nat, ∃ to : Nat, r0 = none ∧ w0 = [(s, .inr (7, [.ref ru, .ref sa, .ref ps, .ref to, .int (nI 0), .int (nI 0), .int (nI 0)])), (ru, .inl (g.2.1 0, 4000, .inl (aI (fun _ => 0)))), (sa, .inl (g.2.1 0, 4001, .inl (aI (fun _ => 0)))), (ps, .inl (g.2.1 0, 30000, .inl (aI (fun _ => 0)))), (to, .inl (g.2.1 2, 256, .inl (zI (fun _ => false))))]) := by
  refine Cn.of R_RowStore [(0, .ref s)] (by decide) rfl (Nat.le_of_ble_eq_true rfl) rfl ?_
  intro x A Q hR hXl hin C E
  subst hXl
  refine r_aload_n C 0 d_RowStore_init_0 rfl rfl ?_
  refine r_objInit C d_RowStore_init_1 ml_RowStore_3 oi_1 oi_2 (by rw [hR]; decide) (by rw [hR]; decide) ?_
  refine r_aload_n C 0 d_RowStore_init_4 rfl rfl ?_
  refine r_sipush C (nI 4000) d_RowStore_init_5 (by decide) ?_
  refine r_newn C 0 d_RowStore_init_8 rfl ac_int rfl (fun _ => rfl) (by decide) (by decide) (by rw [hR]; decide) (by rw [hR]; decide) (fun q_8 => ?_)
  refine r_norm (ws' := [(s, .inr (7, [.null, .null, .null, .null, .int (nI 0), .int (nI 0), .int (nI 0)])), (q_8, .inl (g.2.1 0, 4000, .inl (aI (fun _ => 0))))]) (st' := [.ref q_8, .ref s]) (n1 := 0 + 1) (n2 := 0 + 4000) rfl rfl rfl rfl ?_
  refine r_putF C hin (ws' := [(s, .inr (7, [.ref q_8, .null, .null, .null, .int (nI 0), .int (nI 0), .int (nI 0)])), (q_8, .inl (g.2.1 0, 4000, .inl (aI (fun _ => 0))))]) 0 0 d_RowStore_init_10 ci_RowStore fl_RowStore_9 rfl rfl (by decide) rfl rfl (rfl) (rfl) (by simp) rfl ?_
  refine r_aload_n C 0 d_RowStore_init_13 rfl rfl ?_
  refine r_sipush C (nI 4001) d_RowStore_init_14 (by decide) ?_
  refine r_newn C 0 d_RowStore_init_17 rfl ac_int rfl (fun _ => rfl) (by decide) (by decide) (by rw [hR]; decide) (by rw [hR]; decide) (fun q_17 => ?_)
  refine r_norm (ws' := [(s, .inr (7, [.ref q_8, .null, .null, .null, .int (nI 0), .int (nI 0), .int (nI 0)])), (q_8, .inl (g.2.1 0, 4000, .inl (aI (fun _ => 0)))), (q_17, .inl (g.2.1 0, 4001, .inl (aI (fun _ => 0))))]) (st' := [.ref q_17, .ref s]) (n1 := 0 + 1 + 1) (n2 := 0 + 4000 + 4001) rfl rfl rfl rfl ?_
  refine r_putF C hin (ws' := [(s, .inr (7, [.ref q_8, .ref q_17, .null, .null, .int (nI 0), .int (nI 0), .int (nI 0)])), (q_8, .inl (g.2.1 0, 4000, .inl (aI (fun _ => 0)))), (q_17, .inl (g.2.1 0, 4001, .inl (aI (fun _ => 0))))]) 0 1 d_RowStore_init_19 ci_RowStore fl_RowStore_15 rfl rfl (by decide) rfl rfl (rfl) (rfl) (by simp) rfl ?_
  refine r_aload_n C 0 d_RowStore_init_22 rfl rfl ?_
  refine r_sipush C (nI 30000) d_RowStore_init_23 (by decide) ?_
  refine r_newn C 0 d_RowStore_init_26 rfl ac_int rfl (fun _ => rfl) (by decide) (by decide) (by rw [hR]; decide) (by rw [hR]; decide) (fun q_26 => ?_)
  refine r_norm (ws' := [(s, .inr (7, [.ref q_8, .ref q_17, .null, .null, .int (nI 0), .int (nI 0), .int (nI 0)])), (q_8, .inl (g.2.1 0, 4000, .inl (aI (fun _ => 0)))), (q_17, .inl (g.2.1 0, 4001, .inl (aI (fun _ => 0)))), (q_26, .inl (g.2.1 0, 30000, .inl (aI (fun _ => 0))))]) (st' := [.ref q_26, .ref s]) (n1 := 0 + 1 + 1 + 1) (n2 := 0 + 4000 + 4001 + 30000) rfl rfl rfl rfl ?_
  refine r_putF C hin (ws' := [(s, .inr (7, [.ref q_8, .ref q_17, .ref q_26, .null, .int (nI 0), .int (nI 0), .int (nI 0)])), (q_8, .inl (g.2.1 0, 4000, .inl (aI (fun _ => 0)))), (q_17, .inl (g.2.1 0, 4001, .inl (aI (fun _ => 0)))), (q_26, .inl (g.2.1 0, 30000, .inl (aI (fun _ => 0))))]) 0 2 d_RowStore_init_28 ci_RowStore fl_RowStore_18 rfl rfl (by decide) rfl rfl (rfl) (rfl) (by simp) rfl ?_
  refine r_aload_n C 0 d_RowStore_init_31 rfl rfl ?_
  refine r_sipush C (nI 256) d_RowStore_init_32 (by decide) ?_
  refine r_newz C 2 d_RowStore_init_35 rfl ac_boolean rfl (fun _ => rfl) (by decide) (by decide) (by rw [hR]; decide) (by rw [hR]; decide) (fun q_35 => ?_)
  refine r_norm (ws' := [(s, .inr (7, [.ref q_8, .ref q_17, .ref q_26, .null, .int (nI 0), .int (nI 0), .int (nI 0)])), (q_8, .inl (g.2.1 0, 4000, .inl (aI (fun _ => 0)))), (q_17, .inl (g.2.1 0, 4001, .inl (aI (fun _ => 0)))), (q_26, .inl (g.2.1 0, 30000, .inl (aI (fun _ => 0)))), (q_35, .inl (g.2.1 2, 256, .inl (zI (fun _ => false))))]) (st' := [.ref q_35, .ref s]) (n1 := 0 + 1 + 1 + 1 + 1) (n2 := 0 + 4000 + 4001 + 30000 + 256) rfl rfl rfl rfl ?_
  refine r_putF C hin (ws' := [(s, .inr (7, [.ref q_8, .ref q_17, .ref q_26, .ref q_35, .int (nI 0), .int (nI 0), .int (nI 0)])), (q_8, .inl (g.2.1 0, 4000, .inl (aI (fun _ => 0)))), (q_17, .inl (g.2.1 0, 4001, .inl (aI (fun _ => 0)))), (q_26, .inl (g.2.1 0, 30000, .inl (aI (fun _ => 0)))), (q_35, .inl (g.2.1 2, 256, .inl (zI (fun _ => false))))]) 0 3 d_RowStore_init_37 ci_RowStore fl_RowStore_21 rfl rfl (by decide) rfl rfl (rfl) (rfl) (by simp) rfl ?_
  refine r_vret C E d_RowStore_init_40 (by first | decide | omega | (simp only [rmk]; omega)) (by first | decide | omega | (simp only [rmk]; omega)) ?_
  exact ⟨_, _, _, _, rfl, rfl⟩

set_option maxHeartbeats 4000000 in
set_option maxRecDepth 100000 in
theorem c_RowStore_drop (g : GG) (l : Launch) {s : Nat} {ru : Nat} {sa : Nat} {ps : Nat} {to : Nat} {gs : Nat} {rc : Nat} {pn : Nat}   : Cn g l y_RowStore_drop b_RowStore_drop 1 none (rmk 0 0 0 0) [.ref s] ([(s, .inr (7, [.ref ru, .ref sa, .ref ps, .ref to, .int (nI gs), .int (nI rc), .int (nI pn)]))]) (fun (r0 : Option Value) (w0 : va_W) => r0 = none ∧ w0 = [(s, .inr (7, [.ref ru, .ref sa, .ref ps, .ref to, .int (nI 0), .int (nI 0), .int (nI 0)]))]) := by
  refine Cn.of R_RowStore [(0, .ref s)] (by decide) rfl (Nat.le_of_ble_eq_true rfl) rfl ?_
  intro x A Q hR hXl hin C E
  subst hXl
  refine r_aload_n C 0 d_RowStore_drop_0 rfl rfl ?_
  refine r_iconst C (nI 0) d_RowStore_drop_1 (by decide) ?_
  refine r_put C (ws' := [(s, .inr (7, [.ref ru, .ref sa, .ref ps, .ref to, .int (nI 0), .int (nI rc), .int (nI pn)]))]) 0 4 d_RowStore_drop_2 ci_RowStore fi_RowStore_25 rfl (by decide) rfl rfl (rfl) (rfl) (by simp) rfl ?_
  refine r_aload_n C 0 d_RowStore_drop_5 rfl rfl ?_
  refine r_iconst C (nI 0) d_RowStore_drop_6 (by decide) ?_
  refine r_put C (ws' := [(s, .inr (7, [.ref ru, .ref sa, .ref ps, .ref to, .int (nI 0), .int (nI 0), .int (nI pn)]))]) 0 5 d_RowStore_drop_7 ci_RowStore fi_RowStore_29 rfl (by decide) rfl rfl (rfl) (rfl) (by simp) rfl ?_
  refine r_aload_n C 0 d_RowStore_drop_10 rfl rfl ?_
  refine r_iconst C (nI 0) d_RowStore_drop_11 (by decide) ?_
  refine r_put C (ws' := [(s, .inr (7, [.ref ru, .ref sa, .ref ps, .ref to, .int (nI 0), .int (nI 0), .int (nI 0)]))]) 0 6 d_RowStore_drop_12 ci_RowStore fi_RowStore_32 rfl (by decide) rfl rfl (rfl) (rfl) (by simp) rfl ?_
  refine r_vret C E d_RowStore_drop_15 (by first | decide | omega | (simp only [rmk]; omega)) (by first | decide | omega | (simp only [rmk]; omega)) ?_
  exact ⟨rfl, rfl⟩

set_option maxHeartbeats 4000000 in
set_option maxRecDepth 100000 in
theorem lp_RowStore_begin_11 (g : GG) {s : Nat} {ru : Nat} {sa : Nat} {ps : Nat} {to : Nat} {gs : Nat} {rc : Nat} {pn : Nat} {z : Nat} {TO : Nat → Bool}  {x : X0} {A : Nat → Prop} {Q : State → Prop}  (C : CX x g A R_RowStore b_RowStore_begin 3) (E : RX x g A Q none (fun (r0 : Option Value) (w0 : va_W) => ∃ TO2 : Nat → Bool, r0 = none ∧ w0 = [(s, .inr (7, [.ref ru, .ref sa, .ref ps, .ref to, .int (nI z), .int (nI 0), .int (nI 0)])), (to, .inl (g.2.1 2, 256, .inl (zI TO2)))] ∧ (∀ j, j < 256 → TO2 j = false)) (rmk 1 0 0 20).cells (rmk 1 0 0 20).slots) (hR : xR x = (rmk 1 0 0 20)) : ∀ (fuel : Nat) (c : Nat) (B : Nat → Bool) (hc : c ≤ 256) (hB : ∀ j, j < c → B j = false), 256 - c < fuel → J x g A Q 3 ([(s, .inr (7, [.ref ru, .ref sa, .ref ps, .ref to, .int (nI z), .int (nI 0), .int (nI 0)])), (to, .inl (g.2.1 2, 256, .inl (zI B)))]) [(0, .ref s), (1, .int (nI z)), (2, .int (nI c))] 11 [] 0 0 := by
  intro fuel
  induction fuel with
  | zero =>
    intro c B hc hB hm
    exact absurd hm (Nat.not_lt_zero _)
  | succ fuel ih =>
    intro c B hc hB hm
    refine r_iload_n C 2 d_RowStore_begin_11 rfl rfl ?_
    refine r_aload_n C 0 d_RowStore_begin_12 rfl rfl ?_
    refine r_get C 0 3 d_RowStore_begin_13 ci_RowStore fi_RowStore_21 rfl (by decide) rfl rfl ?_
    refine r_alen C 1 2 d_RowStore_begin_16 rfl rfl ?_
    refine r_ncmp_ge C 33 d_RowStore_begin_17 (by decide) (by omega) (by omega) (fun c_17 => ?_) (fun c_17 => ?_)
    · skip
      refine r_vret C E d_RowStore_begin_33 (by first | decide | omega | (simp only [rmk]; omega)) (by first | decide | omega | (simp only [rmk]; omega)) ?_
      exact ⟨B, rfl, rfl, fun j hj => hB j (by omega)⟩
    · skip
      refine r_aload_n C 0 d_RowStore_begin_20 rfl rfl ?_
      refine r_get C 0 3 d_RowStore_begin_21 ci_RowStore fi_RowStore_21 rfl (by decide) rfl rfl ?_
      refine r_iload_n C 2 d_RowStore_begin_24 rfl rfl ?_
      refine r_iconst C (nI 0) d_RowStore_begin_25 (by decide) ?_
      refine r_eqS (st' := [.int (bI false), .int (nI c), .ref to]) rfl ?_
      refine r_bast2 C (ws' := [(s, .inr (7, [.ref ru, .ref sa, .ref ps, .ref to, .int (nI z), .int (nI 0), .int (nI 0)])), (to, .inl (g.2.1 2, 256, .inl (zI (up B c false))))]) 1 2 d_RowStore_begin_26 rfl rfl (by omega) (by decide) rfl ?_
      refine r_iinc C 2 (nI (c + 1)) (lv' := [(2, .int (nI (c + 1))), (0, .ref s), (1, .int (nI z))]) d_RowStore_begin_27 rfl (nI_inc 1 _) (by decide) rfl ?_
      refine r_goto C 11 d_RowStore_begin_30 (by decide) ?_
      refine r_lv (lv' := [(0, .ref s), (1, .int (nI z)), (2, .int (nI (c + 1)))]) [1, 2, 0] rfl ?_
      exact ih (c + 1) (up B c false) (by first | assumption | rfl | omega) (fun j hj => by by_cases e : j = c <;> simp [up, e] <;> exact hB j (by omega)) (by omega)
set_option maxHeartbeats 4000000 in
set_option maxRecDepth 100000 in
theorem c_RowStore_begin (g : GG) (l : Launch) {s : Nat} {ru : Nat} {sa : Nat} {ps : Nat} {to : Nat} {gs : Nat} {rc : Nat} {pn : Nat} {z : Nat} {TO : Nat → Bool}   : Cn g l y_RowStore_begin b_RowStore_begin 3 none (rmk 1 0 0 20) [.ref s, .int (nI z)] ([(s, .inr (7, [.ref ru, .ref sa, .ref ps, .ref to, .int (nI gs), .int (nI rc), .int (nI pn)])), (to, .inl (g.2.1 2, 256, .inl (zI TO)))]) (fun (r0 : Option Value) (w0 : va_W) => ∃ TO2 : Nat → Bool, r0 = none ∧ w0 = [(s, .inr (7, [.ref ru, .ref sa, .ref ps, .ref to, .int (nI z), .int (nI 0), .int (nI 0)])), (to, .inl (g.2.1 2, 256, .inl (zI TO2)))] ∧ (∀ j, j < 256 → TO2 j = false)) := by
  refine Cn.of R_RowStore [(0, .ref s), (1, .int (nI z))] (by decide) rfl (Nat.le_of_ble_eq_true rfl) rfl ?_
  intro x A Q hR hXl hin C E
  subst hXl
  refine r_aload_n C 0 d_RowStore_begin_0 rfl rfl ?_
  refine j_callV C (c_RowStore_drop g (xl x) (s := s) (ru := ru) (sa := sa) (ps := ps) (to := to) (gs := gs) (rc := rc) (pn := pn) ) (Sp.of (wr := [(to, .inl (g.2.1 2, 256, .inl (zI TO)))]) [0] [1] rfl rfl rfl rfl (by decide)) d_RowStore_begin_1 lk_RowStore_35 mw_RowStore_drop vw_RowStore_drop (q0 := 0) rfl rfl (fit_of hR (by first | decide | (simp only [rmk]; omega)) (by first | decide | (simp only [rmk]; omega)) (by first | decide | (simp only [rmk]; omega)) (by first | decide | (simp only [rmk]; omega))) rfl (cat8 (Nat.le_of_ble_eq_true rfl)) (As := []) (rest := []) rfl (fun r_1 w_1 hp_1 => ?_)
  obtain ⟨rfl, rfl⟩ := hp_1
  refine r_after (ws' := [(s, .inr (7, [.ref ru, .ref sa, .ref ps, .ref to, .int (nI 0), .int (nI 0), .int (nI 0)])), (to, .inl (g.2.1 2, 256, .inl (zI TO)))]) (st' := []) (n1 := 0) (n2 := 0) [1, 0] rfl rfl rfl rfl rfl ?_
  refine r_aload_n C 0 d_RowStore_begin_4 rfl rfl ?_
  refine r_iload_n C 1 d_RowStore_begin_5 rfl rfl ?_
  refine r_put C (ws' := [(s, .inr (7, [.ref ru, .ref sa, .ref ps, .ref to, .int (nI z), .int (nI 0), .int (nI 0)])), (to, .inl (g.2.1 2, 256, .inl (zI TO)))]) 0 4 d_RowStore_begin_6 ci_RowStore fi_RowStore_25 rfl (by decide) rfl rfl (rfl) (rfl) (by simp) rfl ?_
  refine r_iconst C (nI 0) d_RowStore_begin_9 (by decide) ?_
  refine r_istore_n C (lv' := [(2, .int (nI 0)), (0, .ref s), (1, .int (nI z))]) d_RowStore_begin_10 rfl (by decide) rfl ?_
  refine r_lv (lv' := [(0, .ref s), (1, .int (nI z)), (2, .int (nI 0))]) [1, 2, 0] rfl ?_
  exact lp_RowStore_begin_11 g (s := s) (ru := ru) (sa := sa) (ps := ps) (to := to) (gs := gs) (rc := rc) (pn := pn) (z := z) (TO := TO)   C E hR _ 0 TO (by first | assumption | rfl | omega) (fun j hj => absurd hj (Nat.not_lt_zero _)) (Nat.lt_succ_self _)

set_option maxHeartbeats 4000000 in
set_option maxRecDepth 100000 in
theorem c_RowStore_beginRow (g : GG) (l : Launch) {s : Nat} {ru : Nat} {sa : Nat} {ps : Nat} {to : Nat} {gs : Nat} {rc : Nat} {pn : Nat} {ri : Nat} {z : Nat} {RU : Nat → Nat} {SA : Nat → Nat}  (h1 : rc ≤ 4000) (h2 : pn ≤ 30000) (h3 : z ≤ 30000) (h4 : ri < 2 ^ 31) : Cn g l y_RowStore_beginRow b_RowStore_beginRow 3 (some .boolean) (rmk 0 0 0 0) [.ref s, .int (nI ri), .int (nI z)] ([(s, .inr (7, [.ref ru, .ref sa, .ref ps, .ref to, .int (nI gs), .int (nI rc), .int (nI pn)])), (ru, .inl (g.2.1 0, 4000, .inl (aI RU))), (sa, .inl (g.2.1 0, 4001, .inl (aI SA)))]) (fun (r0 : Option Value) (w0 : va_W) => ∃ ok : Bool, ∃ rc2 : Nat, ∃ RU2 : Nat → Nat, ∃ SA2 : Nat → Nat, r0 = some (.int (bI ok)) ∧ w0 = [(s, .inr (7, [.ref ru, .ref sa, .ref ps, .ref to, .int (nI gs), .int (nI rc2), .int (nI pn)])), (ru, .inl (g.2.1 0, 4000, .inl (aI RU2))), (sa, .inl (g.2.1 0, 4001, .inl (aI SA2)))] ∧ (RowBegun RU SA rc pn ri z ok RU2 SA2 rc2)) := by
  refine Cn.of R_RowStore [(0, .ref s), (1, .int (nI ri)), (2, .int (nI z))] (by decide) rfl (Nat.le_of_ble_eq_true rfl) rfl ?_
  intro x A Q hR hXl hin C E
  subst hXl
  refine r_aload_n C 0 d_RowStore_beginRow_0 rfl rfl ?_
  refine r_get C 0 5 d_RowStore_beginRow_1 ci_RowStore fi_RowStore_29 rfl (by decide) rfl rfl ?_
  refine r_nif_lt C 29 d_RowStore_beginRow_4 (by decide) (by omega) (fun c_4 => ?_) (fun c_4 => ?_)
  · exact absurd c_4 (by omega)
  · skip
    refine r_aload_n C 0 d_RowStore_beginRow_7 rfl rfl ?_
    refine r_get C 0 5 d_RowStore_beginRow_8 ci_RowStore fi_RowStore_29 rfl (by decide) rfl rfl ?_
    refine r_sipush C (nI 4000) d_RowStore_beginRow_11 (by decide) ?_
    refine r_ncmp_ge C 29 d_RowStore_beginRow_14 (by decide) (by omega) (by omega) (fun c_14 => ?_) (fun c_14 => ?_)
    · skip
      refine r_iconst C (nI 0) d_RowStore_beginRow_29 (by decide) ?_
      refine r_eqS (st' := [.int (bI false)]) rfl ?_
      refine r_bret C E d_RowStore_beginRow_30 (by first | decide | omega | (simp only [rmk]; omega)) (by first | decide | omega | (simp only [rmk]; omega)) ?_
      exact ⟨_, _, _, _, rfl, rfl, Or.inr ⟨rfl, by omega, rfl, rfl, rfl⟩⟩
    · skip
      refine r_aload_n C 0 d_RowStore_beginRow_17 rfl rfl ?_
      refine r_get C 0 6 d_RowStore_beginRow_18 ci_RowStore fi_RowStore_32 rfl (by decide) rfl rfl ?_
      refine r_iload_n C 2 d_RowStore_beginRow_21 rfl rfl ?_
      refine r_nadd C d_RowStore_beginRow_22 ?_
      refine r_sipush C (nI 30000) d_RowStore_beginRow_23 (by decide) ?_
      refine r_ncmp_le C 31 d_RowStore_beginRow_26 (by decide) (by omega) (by omega) (fun c_26 => ?_) (fun c_26 => ?_)
      · skip
        refine r_aload_n C 0 d_RowStore_beginRow_31 rfl rfl ?_
        refine r_get C 0 0 d_RowStore_beginRow_32 ci_RowStore fi_RowStore_9 rfl (by decide) rfl rfl ?_
        refine r_aload_n C 0 d_RowStore_beginRow_35 rfl rfl ?_
        refine r_get C 0 5 d_RowStore_beginRow_36 ci_RowStore fi_RowStore_29 rfl (by decide) rfl rfl ?_
        refine r_iload_n C 1 d_RowStore_beginRow_39 rfl rfl ?_
        refine r_nast C (ws' := [(s, .inr (7, [.ref ru, .ref sa, .ref ps, .ref to, .int (nI gs), .int (nI rc), .int (nI pn)])), (ru, .inl (g.2.1 0, 4000, .inl (aI (up RU rc ri)))), (sa, .inl (g.2.1 0, 4001, .inl (aI SA)))]) 1 0 d_RowStore_beginRow_40 rfl rfl (by omega) (by decide) rfl ?_
        refine r_aload_n C 0 d_RowStore_beginRow_41 rfl rfl ?_
        refine r_get C 0 1 d_RowStore_beginRow_42 ci_RowStore fi_RowStore_15 rfl (by decide) rfl rfl ?_
        refine r_aload_n C 0 d_RowStore_beginRow_45 rfl rfl ?_
        refine r_get C 0 5 d_RowStore_beginRow_46 ci_RowStore fi_RowStore_29 rfl (by decide) rfl rfl ?_
        refine r_aload_n C 0 d_RowStore_beginRow_49 rfl rfl ?_
        refine r_get C 0 6 d_RowStore_beginRow_50 ci_RowStore fi_RowStore_32 rfl (by decide) rfl rfl ?_
        refine r_nast C (ws' := [(s, .inr (7, [.ref ru, .ref sa, .ref ps, .ref to, .int (nI gs), .int (nI rc), .int (nI pn)])), (ru, .inl (g.2.1 0, 4000, .inl (aI (up RU rc ri)))), (sa, .inl (g.2.1 0, 4001, .inl (aI (up SA rc pn))))]) 2 0 d_RowStore_beginRow_53 rfl rfl (by omega) (by decide) rfl ?_
        refine r_aload_n C 0 d_RowStore_beginRow_54 rfl rfl ?_
        refine r_get C 0 1 d_RowStore_beginRow_55 ci_RowStore fi_RowStore_15 rfl (by decide) rfl rfl ?_
        refine r_aload_n C 0 d_RowStore_beginRow_58 rfl rfl ?_
        refine r_get C 0 5 d_RowStore_beginRow_59 ci_RowStore fi_RowStore_29 rfl (by decide) rfl rfl ?_
        refine r_iconst C (nI 1) d_RowStore_beginRow_62 (by decide) ?_
        refine r_nadd C d_RowStore_beginRow_63 ?_
        refine r_aload_n C 0 d_RowStore_beginRow_64 rfl rfl ?_
        refine r_get C 0 6 d_RowStore_beginRow_65 ci_RowStore fi_RowStore_32 rfl (by decide) rfl rfl ?_
        refine r_iload_n C 2 d_RowStore_beginRow_68 rfl rfl ?_
        refine r_nadd C d_RowStore_beginRow_69 ?_
        refine r_nast C (ws' := [(s, .inr (7, [.ref ru, .ref sa, .ref ps, .ref to, .int (nI gs), .int (nI rc), .int (nI pn)])), (ru, .inl (g.2.1 0, 4000, .inl (aI (up RU rc ri)))), (sa, .inl (g.2.1 0, 4001, .inl (aI (up (up SA rc pn) (rc + 1) (pn + z)))))]) 2 0 d_RowStore_beginRow_70 rfl rfl (by omega) (by decide) rfl ?_
        refine r_aload_n C 0 d_RowStore_beginRow_71 rfl rfl ?_
        refine r_dup C d_RowStore_beginRow_72 rfl ?_
        refine r_get C 0 5 d_RowStore_beginRow_73 ci_RowStore fi_RowStore_29 rfl (by decide) rfl rfl ?_
        refine r_iconst C (nI 1) d_RowStore_beginRow_76 (by decide) ?_
        refine r_nadd C d_RowStore_beginRow_77 ?_
        refine r_put C (ws' := [(s, .inr (7, [.ref ru, .ref sa, .ref ps, .ref to, .int (nI gs), .int (nI (rc + 1)), .int (nI pn)])), (ru, .inl (g.2.1 0, 4000, .inl (aI (up RU rc ri)))), (sa, .inl (g.2.1 0, 4001, .inl (aI (up (up SA rc pn) (rc + 1) (pn + z)))))]) 0 5 d_RowStore_beginRow_78 ci_RowStore fi_RowStore_29 rfl (by decide) rfl rfl (rfl) (rfl) (by simp) rfl ?_
        refine r_iconst C (nI 1) d_RowStore_beginRow_81 (by decide) ?_
        refine r_eqS (st' := [.int (bI true)]) rfl ?_
        refine r_bret C E d_RowStore_beginRow_82 (by first | decide | omega | (simp only [rmk]; omega)) (by first | decide | omega | (simp only [rmk]; omega)) ?_
        exact ⟨_, _, _, _, rfl, rfl, Or.inl ⟨rfl, by omega, by omega, rfl, rfl, rfl⟩⟩
      · skip
        refine r_iconst C (nI 0) d_RowStore_beginRow_29 (by decide) ?_
        refine r_eqS (st' := [.int (bI false)]) rfl ?_
        refine r_bret C E d_RowStore_beginRow_30 (by first | decide | omega | (simp only [rmk]; omega)) (by first | decide | omega | (simp only [rmk]; omega)) ?_
        exact ⟨_, _, _, _, rfl, rfl, Or.inr ⟨rfl, by omega, rfl, rfl, rfl⟩⟩

set_option maxHeartbeats 4000000 in
set_option maxRecDepth 100000 in
theorem c_RowStore_addPlace (g : GG) (l : Launch) {s : Nat} {ru : Nat} {sa : Nat} {ps : Nat} {to : Nat} {gs : Nat} {rc : Nat} {pn : Nat} {c : Nat} {PL : Nat → Nat} {TO : Nat → Bool}  (h2 : pn < 30000) (hc : c < 256) : Cn g l y_RowStore_addPlace b_RowStore_addPlace 2 none (rmk 0 0 0 0) [.ref s, .int (nI c)] ([(s, .inr (7, [.ref ru, .ref sa, .ref ps, .ref to, .int (nI gs), .int (nI rc), .int (nI pn)])), (ps, .inl (g.2.1 0, 30000, .inl (aI PL))), (to, .inl (g.2.1 2, 256, .inl (zI TO)))]) (fun (r0 : Option Value) (w0 : va_W) => r0 = none ∧ w0 = [(s, .inr (7, [.ref ru, .ref sa, .ref ps, .ref to, .int (nI gs), .int (nI rc), .int (nI (pn + 1))])), (ps, .inl (g.2.1 0, 30000, .inl (aI (up PL pn c)))), (to, .inl (g.2.1 2, 256, .inl (zI (up TO c true))))]) := by
  refine Cn.of R_RowStore [(0, .ref s), (1, .int (nI c))] (by decide) rfl (Nat.le_of_ble_eq_true rfl) rfl ?_
  intro x A Q hR hXl hin C E
  subst hXl
  refine r_aload_n C 0 d_RowStore_addPlace_0 rfl rfl ?_
  refine r_get C 0 6 d_RowStore_addPlace_1 ci_RowStore fi_RowStore_32 rfl (by decide) rfl rfl ?_
  refine r_nif_lt C 32 d_RowStore_addPlace_4 (by decide) (by omega) (fun c_4 => ?_) (fun c_4 => ?_)
  · exact absurd c_4 (by omega)
  · skip
    refine r_aload_n C 0 d_RowStore_addPlace_7 rfl rfl ?_
    refine r_get C 0 6 d_RowStore_addPlace_8 ci_RowStore fi_RowStore_32 rfl (by decide) rfl rfl ?_
    refine r_aload_n C 0 d_RowStore_addPlace_11 rfl rfl ?_
    refine r_get C 0 2 d_RowStore_addPlace_12 ci_RowStore fi_RowStore_18 rfl (by decide) rfl rfl ?_
    refine r_alen C 1 0 d_RowStore_addPlace_15 rfl rfl ?_
    refine r_ncmp_ge C 32 d_RowStore_addPlace_16 (by decide) (by omega) (by omega) (fun c_16 => ?_) (fun c_16 => ?_)
    · exact absurd c_16 (by omega)
    · skip
      refine r_iload_n C 1 d_RowStore_addPlace_19 rfl rfl ?_
      refine r_nif_lt C 32 d_RowStore_addPlace_20 (by decide) (by omega) (fun c_20 => ?_) (fun c_20 => ?_)
      · exact absurd c_20 (by omega)
      · skip
        refine r_iload_n C 1 d_RowStore_addPlace_23 rfl rfl ?_
        refine r_aload_n C 0 d_RowStore_addPlace_24 rfl rfl ?_
        refine r_get C 0 3 d_RowStore_addPlace_25 ci_RowStore fi_RowStore_21 rfl (by decide) rfl rfl ?_
        refine r_alen C 2 2 d_RowStore_addPlace_28 rfl rfl ?_
        refine r_ncmp_lt C 33 d_RowStore_addPlace_29 (by decide) (by omega) (by omega) (fun c_29 => ?_) (fun c_29 => ?_)
        · skip
          refine r_aload_n C 0 d_RowStore_addPlace_33 rfl rfl ?_
          refine r_get C 0 2 d_RowStore_addPlace_34 ci_RowStore fi_RowStore_18 rfl (by decide) rfl rfl ?_
          refine r_aload_n C 0 d_RowStore_addPlace_37 rfl rfl ?_
          refine r_get C 0 6 d_RowStore_addPlace_38 ci_RowStore fi_RowStore_32 rfl (by decide) rfl rfl ?_
          refine r_iload_n C 1 d_RowStore_addPlace_41 rfl rfl ?_
          refine r_nast C (ws' := [(s, .inr (7, [.ref ru, .ref sa, .ref ps, .ref to, .int (nI gs), .int (nI rc), .int (nI pn)])), (ps, .inl (g.2.1 0, 30000, .inl (aI (up PL pn c)))), (to, .inl (g.2.1 2, 256, .inl (zI TO)))]) 1 0 d_RowStore_addPlace_42 rfl rfl (by omega) (by decide) rfl ?_
          refine r_aload_n C 0 d_RowStore_addPlace_43 rfl rfl ?_
          refine r_dup C d_RowStore_addPlace_44 rfl ?_
          refine r_get C 0 6 d_RowStore_addPlace_45 ci_RowStore fi_RowStore_32 rfl (by decide) rfl rfl ?_
          refine r_iconst C (nI 1) d_RowStore_addPlace_48 (by decide) ?_
          refine r_nadd C d_RowStore_addPlace_49 ?_
          refine r_put C (ws' := [(s, .inr (7, [.ref ru, .ref sa, .ref ps, .ref to, .int (nI gs), .int (nI rc), .int (nI (pn + 1))])), (ps, .inl (g.2.1 0, 30000, .inl (aI (up PL pn c)))), (to, .inl (g.2.1 2, 256, .inl (zI TO)))]) 0 6 d_RowStore_addPlace_50 ci_RowStore fi_RowStore_32 rfl (by decide) rfl rfl (rfl) (rfl) (by simp) rfl ?_
          refine r_aload_n C 0 d_RowStore_addPlace_53 rfl rfl ?_
          refine r_get C 0 3 d_RowStore_addPlace_54 ci_RowStore fi_RowStore_21 rfl (by decide) rfl rfl ?_
          refine r_iload_n C 1 d_RowStore_addPlace_57 rfl rfl ?_
          refine r_iconst C (nI 1) d_RowStore_addPlace_58 (by decide) ?_
          refine r_eqS (st' := [.int (bI true), .int (nI c), .ref to]) rfl ?_
          refine r_bast2 C (ws' := [(s, .inr (7, [.ref ru, .ref sa, .ref ps, .ref to, .int (nI gs), .int (nI rc), .int (nI (pn + 1))])), (ps, .inl (g.2.1 0, 30000, .inl (aI (up PL pn c)))), (to, .inl (g.2.1 2, 256, .inl (zI (up TO c true))))]) 2 2 d_RowStore_addPlace_59 rfl rfl (by omega) (by decide) rfl ?_
          refine r_vret C E d_RowStore_addPlace_60 (by first | decide | omega | (simp only [rmk]; omega)) (by first | decide | omega | (simp only [rmk]; omega)) ?_
          exact ⟨rfl, rfl⟩
        · exact absurd c_29 (by omega)

set_option maxHeartbeats 4000000 in
set_option maxRecDepth 100000 in
theorem c_RowStore_has (g : GG) (l : Launch) {s : Nat} {ru : Nat} {sa : Nat} {ps : Nat} {to : Nat} {gs : Nat} {rc : Nat} {pn : Nat} {z : Int32}  (h1 : rc ≤ 4000) : Cn g l y_RowStore_has b_RowStore_has 2 (some .boolean) (rmk 0 0 0 0) [.ref s, .int z] ([(s, .inr (7, [.ref ru, .ref sa, .ref ps, .ref to, .int (nI gs), .int (nI rc), .int (nI pn)]))]) (fun (r0 : Option Value) (w0 : va_W) => r0 = some (.int (bI (hasK rc (inN z)))) ∧ w0 = [(s, .inr (7, [.ref ru, .ref sa, .ref ps, .ref to, .int (nI gs), .int (nI rc), .int (nI pn)]))]) := by
  refine Cn.of R_RowStore [(0, .ref s), (1, .int z)] (by decide) rfl (Nat.le_of_ble_eq_true rfl) rfl ?_
  intro x A Q hR hXl hin C E
  subst hXl
  refine r_iload_n C 1 d_RowStore_has_0 rfl rfl ?_
  refine r_if_lt C 23 d_RowStore_has_1 (by decide) (fun c_1 => ?_) (fun c_1 => ?_)
  · skip
    refine r_iconst C (nI 0) d_RowStore_has_23 (by decide) ?_
    refine r_eqS (st' := [.int (bI false)]) rfl ?_
    refine r_bret C E d_RowStore_has_24 (by first | decide | omega | (simp only [rmk]; omega)) (by first | decide | omega | (simp only [rmk]; omega)) ?_
    exact ⟨bsome (by rw [inN_neg c_1]; rfl), rfl⟩
  · skip
    obtain ⟨j, hj, rfl⟩ := nI_of c_1
    refine r_iload_n C 1 d_RowStore_has_4 rfl rfl ?_
    refine r_aload_n C 0 d_RowStore_has_5 rfl rfl ?_
    refine r_get C 0 5 d_RowStore_has_6 ci_RowStore fi_RowStore_29 rfl (by decide) rfl rfl ?_
    refine r_ncmp_ge C 23 d_RowStore_has_9 (by decide) (by omega) (by omega) (fun c_9 => ?_) (fun c_9 => ?_)
    · skip
      refine r_iconst C (nI 0) d_RowStore_has_23 (by decide) ?_
      refine r_eqS (st' := [.int (bI false)]) rfl ?_
      refine r_bret C E d_RowStore_has_24 (by first | decide | omega | (simp only [rmk]; omega)) (by first | decide | omega | (simp only [rmk]; omega)) ?_
      exact ⟨bsome (by rw [inN_nI hj]; symm; simp [hasK]; omega), rfl⟩
    · skip
      refine r_iload_n C 1 d_RowStore_has_12 rfl rfl ?_
      refine r_sipush C (nI 4000) d_RowStore_has_13 (by decide) ?_
      refine r_ncmp_ge C 23 d_RowStore_has_16 (by decide) (by omega) (by omega) (fun c_16 => ?_) (fun c_16 => ?_)
      · exact absurd c_16 (by omega)
      · skip
        refine r_iconst C (nI 1) d_RowStore_has_19 (by decide) ?_
        refine r_goto C 24 d_RowStore_has_20 (by decide) ?_
        refine r_eqS (st' := [.int (bI true)]) rfl ?_
        refine r_bret C E d_RowStore_has_24 (by first | decide | omega | (simp only [rmk]; omega)) (by first | decide | omega | (simp only [rmk]; omega)) ?_
        exact ⟨bsome (by rw [inN_nI hj]; symm; simp [hasK]; omega), rfl⟩

set_option maxHeartbeats 4000000 in
set_option maxRecDepth 100000 in
theorem c_RowStore_ruleOf (g : GG) (l : Launch) {s : Nat} {ru : Nat} {sa : Nat} {ps : Nat} {to : Nat} {gs : Nat} {rc : Nat} {pn : Nat} {z : Int32} {RU : Nat → Nat}  (h1 : rc ≤ 4000) : Cn g l y_RowStore_ruleOf b_RowStore_ruleOf 2 (some .int) (rmk 1 0 0 21) [.ref s, .int z] ([(s, .inr (7, [.ref ru, .ref sa, .ref ps, .ref to, .int (nI gs), .int (nI rc), .int (nI pn)])), (ru, .inl (g.2.1 0, 4000, .inl (aI RU)))]) (fun (r0 : Option Value) (w0 : va_W) => r0 = some (.int (oI (ruleK RU rc (inN z)))) ∧ w0 = [(s, .inr (7, [.ref ru, .ref sa, .ref ps, .ref to, .int (nI gs), .int (nI rc), .int (nI pn)])), (ru, .inl (g.2.1 0, 4000, .inl (aI RU)))]) := by
  refine Cn.of R_RowStore [(0, .ref s), (1, .int z)] (by decide) rfl (Nat.le_of_ble_eq_true rfl) rfl ?_
  intro x A Q hR hXl hin C E
  subst hXl
  refine r_aload_n C 0 d_RowStore_ruleOf_0 rfl rfl ?_
  refine r_iload_n C 1 d_RowStore_ruleOf_1 rfl rfl ?_
  refine j_callV C (c_RowStore_has g (xl x) (s := s) (ru := ru) (sa := sa) (ps := ps) (to := to) (gs := gs) (rc := rc) (pn := pn) (z := z) (by first | assumption | rfl | omega)) (Sp.of (wr := [(ru, .inl (g.2.1 0, 4000, .inl (aI RU)))]) [0] [1] rfl rfl rfl rfl (by decide)) d_RowStore_ruleOf_2 lk_RowStore_38 mw_RowStore_has vw_RowStore_has (q0 := 0) rfl rfl (fit_of hR (by first | decide | (simp only [rmk]; omega)) (by first | decide | (simp only [rmk]; omega)) (by first | decide | (simp only [rmk]; omega)) (by first | decide | (simp only [rmk]; omega))) rfl (cat8 (Nat.le_of_ble_eq_true rfl)) (As := [.int z]) (rest := []) rfl (fun r_2 w_2 hp_2 => ?_)
  obtain ⟨rfl, rfl⟩ := hp_2
  refine r_after (ws' := [(s, .inr (7, [.ref ru, .ref sa, .ref ps, .ref to, .int (nI gs), .int (nI rc), .int (nI pn)])), (ru, .inl (g.2.1 0, 4000, .inl (aI RU)))]) (st' := [.int (bI (hasK rc (inN z)))]) (n1 := 0) (n2 := 0) [1, 0] rfl rfl rfl rfl rfl ?_
  refine r_bif_eq C 17 d_RowStore_ruleOf_5 (by decide) (fun c_5 => ?_) (fun c_5 => ?_)
  · skip
    refine r_iconst C ((-1)) d_RowStore_ruleOf_17 (by decide) ?_
    refine r_iret C E d_RowStore_ruleOf_18 (by first | decide | omega | (simp only [rmk]; omega)) (by first | decide | omega | (simp only [rmk]; omega)) ?_
    exact ⟨by rw [ruleK_none c_5]; rfl, rfl⟩
  · skip
    obtain ⟨j, hj, rfl⟩ := hasK_true c_5
    have hj2 : inN (nI j) = some j := inN_nI (by omega)
    refine r_aload_n C 0 d_RowStore_ruleOf_8 rfl rfl ?_
    refine r_get C 0 0 d_RowStore_ruleOf_9 ci_RowStore fi_RowStore_9 rfl (by decide) rfl rfl ?_
    refine r_iload_n C 1 d_RowStore_ruleOf_12 rfl rfl ?_
    refine r_nald C 1 0 d_RowStore_ruleOf_13 rfl rfl (by omega) (by decide) ?_
    refine r_goto C 18 d_RowStore_ruleOf_14 (by decide) ?_
    refine r_iret C E d_RowStore_ruleOf_18 (by first | decide | omega | (simp only [rmk]; omega)) (by first | decide | omega | (simp only [rmk]; omega)) ?_
    exact ⟨by rw [hj2, ruleK, if_pos hj]; rfl, rfl⟩

set_option maxHeartbeats 4000000 in
set_option maxRecDepth 100000 in
theorem c_RowStore_sizeOf (g : GG) (l : Launch) {s : Nat} {ru : Nat} {sa : Nat} {ps : Nat} {to : Nat} {gs : Nat} {rc : Nat} {pn : Nat} {z : Int32} {SA : Nat → Nat}  (h1 : rc ≤ 4000) (hm : ∀ j, j < rc → SA j ≤ SA (j + 1)) : Cn g l y_RowStore_sizeOf b_RowStore_sizeOf 2 (some .int) (rmk 1 0 0 21) [.ref s, .int z] ([(s, .inr (7, [.ref ru, .ref sa, .ref ps, .ref to, .int (nI gs), .int (nI rc), .int (nI pn)])), (sa, .inl (g.2.1 0, 4001, .inl (aI SA)))]) (fun (r0 : Option Value) (w0 : va_W) => r0 = some (.int (nI (sizeK SA rc (inN z)))) ∧ w0 = [(s, .inr (7, [.ref ru, .ref sa, .ref ps, .ref to, .int (nI gs), .int (nI rc), .int (nI pn)])), (sa, .inl (g.2.1 0, 4001, .inl (aI SA)))]) := by
  refine Cn.of R_RowStore [(0, .ref s), (1, .int z)] (by decide) rfl (Nat.le_of_ble_eq_true rfl) rfl ?_
  intro x A Q hR hXl hin C E
  subst hXl
  refine r_aload_n C 0 d_RowStore_sizeOf_0 rfl rfl ?_
  refine r_iload_n C 1 d_RowStore_sizeOf_1 rfl rfl ?_
  refine j_callV C (c_RowStore_has g (xl x) (s := s) (ru := ru) (sa := sa) (ps := ps) (to := to) (gs := gs) (rc := rc) (pn := pn) (z := z) (by first | assumption | rfl | omega)) (Sp.of (wr := [(sa, .inl (g.2.1 0, 4001, .inl (aI SA)))]) [0] [1] rfl rfl rfl rfl (by decide)) d_RowStore_sizeOf_2 lk_RowStore_38 mw_RowStore_has vw_RowStore_has (q0 := 0) rfl rfl (fit_of hR (by first | decide | (simp only [rmk]; omega)) (by first | decide | (simp only [rmk]; omega)) (by first | decide | (simp only [rmk]; omega)) (by first | decide | (simp only [rmk]; omega))) rfl (cat8 (Nat.le_of_ble_eq_true rfl)) (As := [.int z]) (rest := []) rfl (fun r_2 w_2 hp_2 => ?_)
  obtain ⟨rfl, rfl⟩ := hp_2
  refine r_after (ws' := [(s, .inr (7, [.ref ru, .ref sa, .ref ps, .ref to, .int (nI gs), .int (nI rc), .int (nI pn)])), (sa, .inl (g.2.1 0, 4001, .inl (aI SA)))]) (st' := [.int (bI (hasK rc (inN z)))]) (n1 := 0) (n2 := 0) [1, 0] rfl rfl rfl rfl rfl ?_
  refine r_bif_eq C 26 d_RowStore_sizeOf_5 (by decide) (fun c_5 => ?_) (fun c_5 => ?_)
  · skip
    refine r_iconst C (nI 0) d_RowStore_sizeOf_26 (by decide) ?_
    refine r_iret C E d_RowStore_sizeOf_27 (by first | decide | omega | (simp only [rmk]; omega)) (by first | decide | omega | (simp only [rmk]; omega)) ?_
    exact ⟨by rw [sizeK_none c_5], rfl⟩
  · skip
    obtain ⟨j, hj, rfl⟩ := hasK_true c_5
    have hj2 : inN (nI j) = some j := inN_nI (by omega)
    have hmj := hm j hj
    refine r_aload_n C 0 d_RowStore_sizeOf_8 rfl rfl ?_
    refine r_get C 0 1 d_RowStore_sizeOf_9 ci_RowStore fi_RowStore_15 rfl (by decide) rfl rfl ?_
    refine r_iload_n C 1 d_RowStore_sizeOf_12 rfl rfl ?_
    refine r_iconst C (nI 1) d_RowStore_sizeOf_13 (by decide) ?_
    refine r_nadd C d_RowStore_sizeOf_14 ?_
    refine r_nald C 1 0 d_RowStore_sizeOf_15 rfl rfl (by omega) (by decide) ?_
    refine r_aload_n C 0 d_RowStore_sizeOf_16 rfl rfl ?_
    refine r_get C 0 1 d_RowStore_sizeOf_17 ci_RowStore fi_RowStore_15 rfl (by decide) rfl rfl ?_
    refine r_iload_n C 1 d_RowStore_sizeOf_20 rfl rfl ?_
    refine r_nald C 1 0 d_RowStore_sizeOf_21 rfl rfl (by omega) (by decide) ?_
    refine r_nsub C d_RowStore_sizeOf_22 (by omega) ?_
    refine r_goto C 27 d_RowStore_sizeOf_23 (by decide) ?_
    refine r_iret C E d_RowStore_sizeOf_27 (by first | decide | omega | (simp only [rmk]; omega)) (by first | decide | omega | (simp only [rmk]; omega)) ?_
    exact ⟨by rw [hj2, sizeK, if_pos hj], rfl⟩

set_option maxHeartbeats 4000000 in
set_option maxRecDepth 100000 in
theorem c_RowStore_placeOf (g : GG) (l : Launch) {s : Nat} {ru : Nat} {sa : Nat} {ps : Nat} {to : Nat} {gs : Nat} {rc : Nat} {pn : Nat} {z : Int32} {y : Int32} {SA : Nat → Nat} {PL : Nat → Nat}  (h1 : rc ≤ 4000) (h2 : pn ≤ 30000) (hm : ∀ j, j < rc → SA j ≤ SA (j + 1)) (he : ∀ j, j < rc → SA (j + 1) ≤ pn) : Cn g l y_RowStore_placeOf b_RowStore_placeOf 4 (some .int) (rmk 2 0 0 42) [.ref s, .int z, .int y] ([(s, .inr (7, [.ref ru, .ref sa, .ref ps, .ref to, .int (nI gs), .int (nI rc), .int (nI pn)])), (sa, .inl (g.2.1 0, 4001, .inl (aI SA))), (ps, .inl (g.2.1 0, 30000, .inl (aI PL)))]) (fun (r0 : Option Value) (w0 : va_W) => r0 = some (.int (oI (placeK SA PL rc (inN z) (inN y)))) ∧ w0 = [(s, .inr (7, [.ref ru, .ref sa, .ref ps, .ref to, .int (nI gs), .int (nI rc), .int (nI pn)])), (sa, .inl (g.2.1 0, 4001, .inl (aI SA))), (ps, .inl (g.2.1 0, 30000, .inl (aI PL)))]) := by
  refine Cn.of R_RowStore [(0, .ref s), (1, .int z), (2, .int y)] (by decide) rfl (Nat.le_of_ble_eq_true rfl) rfl ?_
  intro x A Q hR hXl hin C E
  subst hXl
  refine r_aload_n C 0 d_RowStore_placeOf_0 rfl rfl ?_
  refine r_iload_n C 1 d_RowStore_placeOf_1 rfl rfl ?_
  refine j_callV C (c_RowStore_has g (xl x) (s := s) (ru := ru) (sa := sa) (ps := ps) (to := to) (gs := gs) (rc := rc) (pn := pn) (z := z) (by first | assumption | rfl | omega)) (Sp.of (wr := [(sa, .inl (g.2.1 0, 4001, .inl (aI SA))), (ps, .inl (g.2.1 0, 30000, .inl (aI PL)))]) [0] [1, 2] rfl rfl rfl rfl (by decide)) d_RowStore_placeOf_2 lk_RowStore_38 mw_RowStore_has vw_RowStore_has (q0 := 0) rfl rfl (fit_of hR (by first | decide | (simp only [rmk]; omega)) (by first | decide | (simp only [rmk]; omega)) (by first | decide | (simp only [rmk]; omega)) (by first | decide | (simp only [rmk]; omega))) rfl (cat8 (Nat.le_of_ble_eq_true rfl)) (As := [.int z]) (rest := []) rfl (fun r_2 w_2 hp_2 => ?_)
  obtain ⟨rfl, rfl⟩ := hp_2
  refine r_after (ws' := [(s, .inr (7, [.ref ru, .ref sa, .ref ps, .ref to, .int (nI gs), .int (nI rc), .int (nI pn)])), (sa, .inl (g.2.1 0, 4001, .inl (aI SA))), (ps, .inl (g.2.1 0, 30000, .inl (aI PL)))]) (st' := [.int (bI (hasK rc (inN z)))]) (n1 := 0) (n2 := 0) [2, 0, 1] rfl rfl rfl rfl rfl ?_
  refine r_bif_eq C 21 d_RowStore_placeOf_5 (by decide) (fun c_5 => ?_) (fun c_5 => ?_)
  · skip
    refine r_iconst C ((-1)) d_RowStore_placeOf_21 (by decide) ?_
    refine r_iret C E d_RowStore_placeOf_22 (by first | decide | omega | (simp only [rmk]; omega)) (by first | decide | omega | (simp only [rmk]; omega)) ?_
    exact ⟨by rw [placeK_none c_5]; rfl, rfl⟩
  · skip
    obtain ⟨j, hj, rfl⟩ := hasK_true c_5
    have hj2 : inN (nI j) = some j := inN_nI (by omega)
    have hmj := hm j hj
    have hej := he j hj
    refine r_iload_n C 2 d_RowStore_placeOf_8 rfl rfl ?_
    refine r_if_lt C 21 d_RowStore_placeOf_9 (by decide) (fun c_9 => ?_) (fun c_9 => ?_)
    · skip
      refine r_iconst C ((-1)) d_RowStore_placeOf_21 (by decide) ?_
      refine r_iret C E d_RowStore_placeOf_22 (by first | decide | omega | (simp only [rmk]; omega)) (by first | decide | omega | (simp only [rmk]; omega)) ?_
      exact ⟨by rw [hj2, inN_neg c_9]; rfl, rfl⟩
    · skip
      obtain ⟨i, hi, rfl⟩ := nI_of c_9
      refine r_iload_n C 2 d_RowStore_placeOf_12 rfl rfl ?_
      refine r_aload_n C 0 d_RowStore_placeOf_13 rfl rfl ?_
      refine r_iload_n C 1 d_RowStore_placeOf_14 rfl rfl ?_
      refine j_callV C (c_RowStore_sizeOf g (xl x) (s := s) (ru := ru) (sa := sa) (ps := ps) (to := to) (gs := gs) (rc := rc) (pn := pn) (z := nI j) (SA := SA) (by first | assumption | rfl | omega) (by first | assumption | rfl | omega)) (Sp.of (wr := [(ps, .inl (g.2.1 0, 30000, .inl (aI PL)))]) [0, 1] [2] rfl rfl rfl rfl (by decide)) d_RowStore_placeOf_15 lk_RowStore_42 mw_RowStore_sizeOf vw_RowStore_sizeOf (q0 := 0) rfl rfl (fit_of hR (by first | decide | (simp only [rmk]; omega)) (by first | decide | (simp only [rmk]; omega)) (by first | decide | (simp only [rmk]; omega)) (by first | decide | (simp only [rmk]; omega))) rfl (cat8 (Nat.le_of_ble_eq_true rfl)) (As := [.int (nI j)]) (rest := [.int (nI i)]) rfl (fun r_15 w_15 hp_15 => ?_)
      obtain ⟨rfl, rfl⟩ := hp_15
      refine r_after (ws' := [(s, .inr (7, [.ref ru, .ref sa, .ref ps, .ref to, .int (nI gs), .int (nI rc), .int (nI pn)])), (sa, .inl (g.2.1 0, 4001, .inl (aI SA))), (ps, .inl (g.2.1 0, 30000, .inl (aI PL)))]) (st' := [.int (nI (sizeK SA rc (inN (nI j)))), .int (nI i)]) (n1 := 0) (n2 := 0) [1, 2, 0] rfl rfl rfl rfl rfl ?_
      refine r_top (v' := nI (SA (j + 1) - SA j)) (by rw [hj2, sizeK, if_pos hj]) ?_
      refine r_ncmp_lt C 23 d_RowStore_placeOf_18 (by decide) (by omega) (by omega) (fun c_18 => ?_) (fun c_18 => ?_)
      · skip
        refine r_aload_n C 0 d_RowStore_placeOf_23 rfl rfl ?_
        refine r_get C 0 1 d_RowStore_placeOf_24 ci_RowStore fi_RowStore_15 rfl (by decide) rfl rfl ?_
        refine r_iload_n C 1 d_RowStore_placeOf_27 rfl rfl ?_
        refine r_nald C 1 0 d_RowStore_placeOf_28 rfl rfl (by omega) (by decide) ?_
        refine r_iload_n C 2 d_RowStore_placeOf_29 rfl rfl ?_
        refine r_nadd C d_RowStore_placeOf_30 ?_
        refine r_istore_n C (lv' := [(3, .int (nI ((SA j) + i))), (0, .ref s), (1, .int (nI j)), (2, .int (nI i))]) d_RowStore_placeOf_31 rfl (by decide) rfl ?_
        refine r_iload_n C 0 d_RowStore_placeOf_32 rfl rfl ?_
        refine r_nif_lt C 54 d_RowStore_placeOf_33 (by decide) (by omega) (fun c_33 => ?_) (fun c_33 => ?_)
        · exact absurd c_33 (by omega)
        · skip
          refine r_iload_n C 0 d_RowStore_placeOf_36 rfl rfl ?_
          refine r_aload_n C 1 d_RowStore_placeOf_37 rfl rfl ?_
          refine r_get C 0 2 d_RowStore_placeOf_38 ci_RowStore fi_RowStore_18 rfl (by decide) rfl rfl ?_
          refine r_alen C 2 0 d_RowStore_placeOf_41 rfl rfl ?_
          refine r_ncmp_ge C 54 d_RowStore_placeOf_42 (by decide) (by omega) (by omega) (fun c_42 => ?_) (fun c_42 => ?_)
          · exact absurd c_42 (by omega)
          · skip
            refine r_aload_n C 1 d_RowStore_placeOf_45 rfl rfl ?_
            refine r_get C 0 2 d_RowStore_placeOf_46 ci_RowStore fi_RowStore_18 rfl (by decide) rfl rfl ?_
            refine r_iload_n C 0 d_RowStore_placeOf_49 rfl rfl ?_
            refine r_nald C 2 0 d_RowStore_placeOf_50 rfl rfl (by omega) (by decide) ?_
            refine r_goto C 55 d_RowStore_placeOf_51 (by decide) ?_
            refine r_iret C E d_RowStore_placeOf_55 (by first | decide | omega | (simp only [rmk]; omega)) (by first | decide | omega | (simp only [rmk]; omega)) ?_
            exact ⟨by rw [hj2, inN_nI hi, placeK, if_pos (by omega)]; rfl, rfl⟩
      · skip
        refine r_iconst C ((-1)) d_RowStore_placeOf_21 (by decide) ?_
        refine r_iret C E d_RowStore_placeOf_22 (by first | decide | omega | (simp only [rmk]; omega)) (by first | decide | omega | (simp only [rmk]; omega)) ?_
        exact ⟨by rw [hj2, inN_nI hi, placeK, if_neg (by omega)]; rfl, rfl⟩

set_option maxHeartbeats 4000000 in
set_option maxRecDepth 100000 in
theorem lp_RowStore_untouched_4 (g : GG) {s : Nat} {ru : Nat} {sa : Nat} {ps : Nat} {to : Nat} {gs : Nat} {rc : Nat} {pn : Nat} {z : Int32} {TO : Nat → Bool} (h1 : gs ≤ 256) {x : X0} {A : Nat → Prop} {Q : State → Prop}  (C : CX x g A R_RowStore b_RowStore_untouched 4) (E : RX x g A Q (some .int) (fun (r0 : Option Value) (w0 : va_W) => r0 = some (.int (oI (freeK TO gs (inN z)))) ∧ w0 = [(s, .inr (7, [.ref ru, .ref sa, .ref ps, .ref to, .int (nI gs), .int (nI rc), .int (nI pn)])), (to, .inl (g.2.1 2, 256, .inl (zI TO)))]) (rmk 0 0 0 0).cells (rmk 0 0 0 0).slots) (hR : xR x = (rmk 0 0 0 0)) : ∀ (fuel : Nat) (c : Nat) (d : Nat) (hd : d ≤ gs) (hcd : c ≤ d) (hc : c = (frees TO d).length) (hz : ∀ j, inN z = some j → c ≤ j), gs - d < fuel → J x g A Q 4 ([(s, .inr (7, [.ref ru, .ref sa, .ref ps, .ref to, .int (nI gs), .int (nI rc), .int (nI pn)])), (to, .inl (g.2.1 2, 256, .inl (zI TO)))]) [(0, .ref s), (1, .int z), (2, .int (nI c)), (3, .int (nI d))] 4 [] 0 0 := by
  intro fuel
  induction fuel with
  | zero =>
    intro c d hd hcd hc hz hm
    exact absurd hm (Nat.not_lt_zero _)
  | succ fuel ih =>
    intro c d hd hcd hc hz hm
    refine r_iload_n C 3 d_RowStore_untouched_4 rfl rfl ?_
    refine r_aload_n C 0 d_RowStore_untouched_5 rfl rfl ?_
    refine r_get C 0 4 d_RowStore_untouched_6 ci_RowStore fi_RowStore_25 rfl (by decide) rfl rfl ?_
    refine r_ncmp_ge C 46 d_RowStore_untouched_9 (by decide) (by omega) (by omega) (fun c_9 => ?_) (fun c_9 => ?_)
    · skip
      refine r_iconst C ((-1)) d_RowStore_untouched_46 (by decide) ?_
      refine r_iret C E d_RowStore_untouched_47 (by first | decide | omega | (simp only [rmk]; omega)) (by first | decide | omega | (simp only [rmk]; omega)) ?_
      exact ⟨by rw [freeK_end (by omega) hc hz]; rfl, rfl⟩
    · skip
      refine r_iload_n C 3 d_RowStore_untouched_12 rfl rfl ?_
      refine r_aload_n C 0 d_RowStore_untouched_13 rfl rfl ?_
      refine r_get C 0 3 d_RowStore_untouched_14 ci_RowStore fi_RowStore_21 rfl (by decide) rfl rfl ?_
      refine r_alen C 1 2 d_RowStore_untouched_17 rfl rfl ?_
      refine r_ncmp_ge C 46 d_RowStore_untouched_18 (by decide) (by omega) (by omega) (fun c_18 => ?_) (fun c_18 => ?_)
      · exact absurd c_18 (by omega)
      · skip
        refine r_aload_n C 0 d_RowStore_untouched_21 rfl rfl ?_
        refine r_get C 0 3 d_RowStore_untouched_22 ci_RowStore fi_RowStore_21 rfl (by decide) rfl rfl ?_
        refine r_iload_n C 3 d_RowStore_untouched_25 rfl rfl ?_
        refine r_bald2 C 1 2 d_RowStore_untouched_26 rfl rfl (by omega) (by decide) ?_
        refine r_bif_ne C 40 d_RowStore_untouched_27 (by decide) (fun c_27 => ?_) (fun c_27 => ?_)
        · skip
          refine r_iinc C 3 (nI (d + 1)) (lv' := [(3, .int (nI (d + 1))), (0, .ref s), (1, .int z), (2, .int (nI c))]) d_RowStore_untouched_40 rfl (nI_inc 1 _) (by decide) rfl ?_
          refine r_goto C 4 d_RowStore_untouched_43 (by decide) ?_
          refine r_lv (lv' := [(0, .ref s), (1, .int z), (2, .int (nI c)), (3, .int (nI (d + 1)))]) [1, 2, 3, 0] rfl ?_
          exact ih c (d + 1) (by first | assumption | rfl | omega) (by first | assumption | rfl | omega) (by rw [hc]; simp [frees_succ, c_27]) (hz) (by omega)
        · skip
          refine r_iload_n C 2 d_RowStore_untouched_30 rfl rfl ?_
          refine r_iload_n C 1 d_RowStore_untouched_31 rfl rfl ?_
          refine r_icmp_ne C 37 d_RowStore_untouched_32 (by decide) (fun c_32 => ?_) (fun c_32 => ?_)
          · skip
            refine r_iinc C 2 (nI (c + 1)) (lv' := [(2, .int (nI (c + 1))), (0, .ref s), (1, .int z), (3, .int (nI d))]) d_RowStore_untouched_37 rfl (nI_inc 1 _) (by decide) rfl ?_
            refine r_iinc C 3 (nI (d + 1)) (lv' := [(3, .int (nI (d + 1))), (2, .int (nI (c + 1))), (0, .ref s), (1, .int z)]) d_RowStore_untouched_40 rfl (nI_inc 1 _) (by decide) rfl ?_
            refine r_goto C 4 d_RowStore_untouched_43 (by decide) ?_
            refine r_lv (lv' := [(0, .ref s), (1, .int z), (2, .int (nI (c + 1))), (3, .int (nI (d + 1)))]) [2, 3, 1, 0] rfl ?_
            exact ih (c + 1) (d + 1) (by first | assumption | rfl | omega) (by first | assumption | rfl | omega) (by rw [hc]; simp [frees_succ, c_27]) (fun j h => by have h1 := hz j h; have h2 : c ≠ j := fun e => c_32 (by rw [(inN_some h).2, e]); omega) (by omega)
          · skip
            refine r_iload_n C 3 d_RowStore_untouched_35 rfl rfl ?_
            refine r_iret C E d_RowStore_untouched_36 (by first | decide | omega | (simp only [rmk]; omega)) (by first | decide | omega | (simp only [rmk]; omega)) ?_
            exact ⟨by rw [freeK_at (by omega) hc c_27 c_32 (by omega)]; rfl, rfl⟩
set_option maxHeartbeats 4000000 in
set_option maxRecDepth 100000 in
theorem c_RowStore_untouched (g : GG) (l : Launch) {s : Nat} {ru : Nat} {sa : Nat} {ps : Nat} {to : Nat} {gs : Nat} {rc : Nat} {pn : Nat} {z : Int32} {TO : Nat → Bool}  (h1 : gs ≤ 256) : Cn g l y_RowStore_untouched b_RowStore_untouched 4 (some .int) (rmk 0 0 0 0) [.ref s, .int z] ([(s, .inr (7, [.ref ru, .ref sa, .ref ps, .ref to, .int (nI gs), .int (nI rc), .int (nI pn)])), (to, .inl (g.2.1 2, 256, .inl (zI TO)))]) (fun (r0 : Option Value) (w0 : va_W) => r0 = some (.int (oI (freeK TO gs (inN z)))) ∧ w0 = [(s, .inr (7, [.ref ru, .ref sa, .ref ps, .ref to, .int (nI gs), .int (nI rc), .int (nI pn)])), (to, .inl (g.2.1 2, 256, .inl (zI TO)))]) := by
  refine Cn.of R_RowStore [(0, .ref s), (1, .int z)] (by decide) rfl (Nat.le_of_ble_eq_true rfl) rfl ?_
  intro x A Q hR hXl hin C E
  subst hXl
  refine r_iconst C (nI 0) d_RowStore_untouched_0 (by decide) ?_
  refine r_istore_n C (lv' := [(2, .int (nI 0)), (0, .ref s), (1, .int z)]) d_RowStore_untouched_1 rfl (by decide) rfl ?_
  refine r_iconst C (nI 0) d_RowStore_untouched_2 (by decide) ?_
  refine r_istore_n C (lv' := [(3, .int (nI 0)), (2, .int (nI 0)), (0, .ref s), (1, .int z)]) d_RowStore_untouched_3 rfl (by decide) rfl ?_
  refine r_lv (lv' := [(0, .ref s), (1, .int z), (2, .int (nI 0)), (3, .int (nI 0))]) [2, 3, 1, 0] rfl ?_
  exact lp_RowStore_untouched_4 g (s := s) (ru := ru) (sa := sa) (ps := ps) (to := to) (gs := gs) (rc := rc) (pn := pn) (z := z) (TO := TO) h1  C E hR _ 0 0 (by first | assumption | rfl | omega) (by first | assumption | rfl | omega) (rfl) (fun _ _ => Nat.zero_le _) (Nat.lt_succ_self _)
