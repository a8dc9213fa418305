def FLW : List Cond := flatC (Jvm.Cond.and given_1 narrow_1)
set_option maxRecDepth 100000 in
theorem sx_lays : ∀ i, i < 23 → lw_tbl[([519, 1242, 1243, 1244, 529, 1245, 1246, 531, 1247, 1248, 1249, 1250, 1251, 1252, 1253, 1254, 1255, 1256, 1257, 1258, 1259, 1260, 1261] : List Nat).getD i 0]? = some (.laysStatic "RuleReader$Word" (wNm.getD i "") "LRuleReader$Word;") := by decide +kernel
set_option maxRecDepth 100000 in
theorem sx_ex : ∀ i, i < 23 → FLW[([37, 83, 91, 100, 42, 110, 121, 48, 133, 146, 160, 175, 191, 208, 226, 245, 265, 286, 308, 331, 355, 380, 406] : List Nat).getD i 0]? = some (.exactly (.static "RuleReader$Word" (wNm.getD i "") "LRuleReader$Word;") "RuleReader$Word") := by decide +kernel
set_option maxRecDepth 100000 in
theorem sx_role : ∀ i, i < 23 → FLW[([40, 86, 94, 103, 45, 113, 124, 51, 136, 149, 163, 178, 194, 211, 229, 248, 268, 289, 311, 334, 358, 383, 409] : List Nat).getD i 0]? = some (.eq (.field (.static "RuleReader$Word" (wNm.getD i "") "LRuleReader$Word;") "RuleReader$Word" "role" "I") (.int (wRole.getD i 0))) := by decide +kernel
set_option maxRecDepth 100000 in
theorem sx_code : ∀ i, i < 23 → FLW[([41, 87, 95, 104, 46, 114, 125, 52, 137, 150, 164, 179, 195, 212, 230, 249, 269, 290, 312, 335, 359, 384, 410] : List Nat).getD i 0]? = some (.eq (.field (.static "RuleReader$Word" (wNm.getD i "") "LRuleReader$Word;") "RuleReader$Word" "code" "I") (.int (wCode.getD i 0))) := by decide +kernel
set_option maxRecDepth 100000 in
theorem sx_ord : ∀ i, i < 23 → FLW[([38, 84, 92, 101, 43, 111, 122, 49, 134, 147, 161, 176, 192, 209, 227, 246, 266, 287, 309, 332, 356, 381, 407] : List Nat).getD i 0]? = some (.eq (.field (.static "RuleReader$Word" (wNm.getD i "") "LRuleReader$Word;") "java/lang/Enum" "ordinal" "I") (.int (wOrd.getD i 0))) := by decide +kernel
set_option maxRecDepth 100000 in
theorem sx_ne : ∀ i, i < 23 → ∀ j, j < 23 → i ≠ j → FLW[([0, 88, 96, 105, 47, 115, 126, 53, 138, 151, 165, 180, 196, 213, 231, 250, 270, 291, 313, 336, 360, 385, 411, 88, 0, 99, 108, 89, 118, 129, 90, 141, 154, 168, 183, 199, 216, 234, 253, 273, 294, 316, 339, 363, 388, 414, 96, 99, 0, 109, 97, 119, 130, 98, 142, 155, 169, 184, 200, 217, 235, 254, 274, 295, 317, 340, 364, 389, 415, 105, 108, 109, 0, 106, 120, 131, 107, 143, 156, 170, 185, 201, 218, 236, 255, 275, 296, 318, 341, 365, 390, 416, 47, 89, 97, 106, 0, 116, 127, 54, 139, 152, 166, 181, 197, 214, 232, 251, 271, 292, 314, 337, 361, 386, 412, 115, 118, 119, 120, 116, 0, 132, 117, 144, 157, 171, 186, 202, 219, 237, 256, 276, 297, 319, 342, 366, 391, 417, 126, 129, 130, 131, 127, 132, 0, 128, 145, 158, 172, 187, 203, 220, 238, 257, 277, 298, 320, 343, 367, 392, 418, 53, 90, 98, 107, 54, 117, 128, 0, 140, 153, 167, 182, 198, 215, 233, 252, 272, 293, 315, 338, 362, 387, 413, 138, 141, 142, 143, 139, 144, 145, 140, 0, 159, 173, 188, 204, 221, 239, 258, 278, 299, 321, 344, 368, 393, 419, 151, 154, 155, 156, 152, 157, 158, 153, 159, 0, 174, 189, 205, 222, 240, 259, 279, 300, 322, 345, 369, 394, 420, 165, 168, 169, 170, 166, 171, 172, 167, 173, 174, 0, 190, 206, 223, 241, 260, 280, 301, 323, 346, 370, 395, 421, 180, 183, 184, 185, 181, 186, 187, 182, 188, 189, 190, 0, 207, 224, 242, 261, 281, 302, 324, 347, 371, 396, 422, 196, 199, 200, 201, 197, 202, 203, 198, 204, 205, 206, 207, 0, 225, 243, 262, 282, 303, 325, 348, 372, 397, 423, 213, 216, 217, 218, 214, 219, 220, 215, 221, 222, 223, 224, 225, 0, 244, 263, 283, 304, 326, 349, 373, 398, 424, 231, 234, 235, 236, 232, 237, 238, 233, 239, 240, 241, 242, 243, 244, 0, 264, 284, 305, 327, 350, 374, 399, 425, 250, 253, 254, 255, 251, 256, 257, 252, 258, 259, 260, 261, 262, 263, 264, 0, 285, 306, 328, 351, 375, 400, 426, 270, 273, 274, 275, 271, 276, 277, 272, 278, 279, 280, 281, 282, 283, 284, 285, 0, 307, 329, 352, 376, 401, 427, 291, 294, 295, 296, 292, 297, 298, 293, 299, 300, 301, 302, 303, 304, 305, 306, 307, 0, 330, 353, 377, 402, 428, 313, 316, 317, 318, 314, 319, 320, 315, 321, 322, 323, 324, 325, 326, 327, 328, 329, 330, 0, 354, 378, 403, 429, 336, 339, 340, 341, 337, 342, 343, 338, 344, 345, 346, 347, 348, 349, 350, 351, 352, 353, 354, 0, 379, 404, 430, 360, 363, 364, 365, 361, 366, 367, 362, 368, 369, 370, 371, 372, 373, 374, 375, 376, 377, 378, 379, 0, 405, 431, 385, 388, 389, 390, 386, 391, 392, 387, 393, 394, 395, 396, 397, 398, 399, 400, 401, 402, 403, 404, 405, 0, 432, 411, 414, 415, 416, 412, 417, 418, 413, 419, 420, 421, 422, 423, 424, 425, 426, 427, 428, 429, 430, 431, 432, 0] : List Nat).getD (23 * i + j) 0]? = some (.not (.eq (.static "RuleReader$Word" (wNm.getD i "") "LRuleReader$Word;") (.static "RuleReader$Word" (wNm.getD j "") "LRuleReader$Word;"))) ∨ FLW[([0, 88, 96, 105, 47, 115, 126, 53, 138, 151, 165, 180, 196, 213, 231, 250, 270, 291, 313, 336, 360, 385, 411, 88, 0, 99, 108, 89, 118, 129, 90, 141, 154, 168, 183, 199, 216, 234, 253, 273, 294, 316, 339, 363, 388, 414, 96, 99, 0, 109, 97, 119, 130, 98, 142, 155, 169, 184, 200, 217, 235, 254, 274, 295, 317, 340, 364, 389, 415, 105, 108, 109, 0, 106, 120, 131, 107, 143, 156, 170, 185, 201, 218, 236, 255, 275, 296, 318, 341, 365, 390, 416, 47, 89, 97, 106, 0, 116, 127, 54, 139, 152, 166, 181, 197, 214, 232, 251, 271, 292, 314, 337, 361, 386, 412, 115, 118, 119, 120, 116, 0, 132, 117, 144, 157, 171, 186, 202, 219, 237, 256, 276, 297, 319, 342, 366, 391, 417, 126, 129, 130, 131, 127, 132, 0, 128, 145, 158, 172, 187, 203, 220, 238, 257, 277, 298, 320, 343, 367, 392, 418, 53, 90, 98, 107, 54, 117, 128, 0, 140, 153, 167, 182, 198, 215, 233, 252, 272, 293, 315, 338, 362, 387, 413, 138, 141, 142, 143, 139, 144, 145, 140, 0, 159, 173, 188, 204, 221, 239, 258, 278, 299, 321, 344, 368, 393, 419, 151, 154, 155, 156, 152, 157, 158, 153, 159, 0, 174, 189, 205, 222, 240, 259, 279, 300, 322, 345, 369, 394, 420, 165, 168, 169, 170, 166, 171, 172, 167, 173, 174, 0, 190, 206, 223, 241, 260, 280, 301, 323, 346, 370, 395, 421, 180, 183, 184, 185, 181, 186, 187, 182, 188, 189, 190, 0, 207, 224, 242, 261, 281, 302, 324, 347, 371, 396, 422, 196, 199, 200, 201, 197, 202, 203, 198, 204, 205, 206, 207, 0, 225, 243, 262, 282, 303, 325, 348, 372, 397, 423, 213, 216, 217, 218, 214, 219, 220, 215, 221, 222, 223, 224, 225, 0, 244, 263, 283, 304, 326, 349, 373, 398, 424, 231, 234, 235, 236, 232, 237, 238, 233, 239, 240, 241, 242, 243, 244, 0, 264, 284, 305, 327, 350, 374, 399, 425, 250, 253, 254, 255, 251, 256, 257, 252, 258, 259, 260, 261, 262, 263, 264, 0, 285, 306, 328, 351, 375, 400, 426, 270, 273, 274, 275, 271, 276, 277, 272, 278, 279, 280, 281, 282, 283, 284, 285, 0, 307, 329, 352, 376, 401, 427, 291, 294, 295, 296, 292, 297, 298, 293, 299, 300, 301, 302, 303, 304, 305, 306, 307, 0, 330, 353, 377, 402, 428, 313, 316, 317, 318, 314, 319, 320, 315, 321, 322, 323, 324, 325, 326, 327, 328, 329, 330, 0, 354, 378, 403, 429, 336, 339, 340, 341, 337, 342, 343, 338, 344, 345, 346, 347, 348, 349, 350, 351, 352, 353, 354, 0, 379, 404, 430, 360, 363, 364, 365, 361, 366, 367, 362, 368, 369, 370, 371, 372, 373, 374, 375, 376, 377, 378, 379, 0, 405, 431, 385, 388, 389, 390, 386, 391, 392, 387, 393, 394, 395, 396, 397, 398, 399, 400, 401, 402, 403, 404, 405, 0, 432, 411, 414, 415, 416, 412, 417, 418, 413, 419, 420, 421, 422, 423, 424, 425, 426, 427, 428, 429, 430, 431, 432, 0] : List Nat).getD (23 * i + j) 0]? = some (.not (.eq (.static "RuleReader$Word" (wNm.getD j "") "LRuleReader$Word;") (.static "RuleReader$Word" (wNm.getD i "") "LRuleReader$Word;"))) := by decide +kernel
def wPool : List Nat := [129, 135, 138, 141, 144, 147, 150, 153, 156, 159, 162, 165, 168, 171, 174, 177, 180, 183, 186, 189, 192, 195, 198]
set_option maxRecDepth 100000 in
theorem sx_sp : ∀ i, i < 23 → FLW[([39, 85, 93, 102, 44, 112, 123, 50, 135, 148, 162, 177, 193, 210, 228, 247, 267, 288, 310, 333, 357, 382, 408] : List Nat).getD i 0]? = some (.eq (.field (.static "RuleReader$Word" (wNm.getD i "") "LRuleReader$Word;") "RuleReader$Word" "spelling" "Ljava/lang/String;") (.string "RuleReader$Word" (wPool.getD i 0))) := by decide +kernel
set_option maxRecDepth 100000 in
theorem sx_sex : ∀ i, i < 23 → FLW[([658, 685, 694, 701, 666, 711, 719, 675, 727, 735, 745, 757, 765, 772, 780, 790, 799, 809, 818, 828, 839, 846, 855] : List Nat).getD i 0]? = some (.exactly (.string "RuleReader$Word" (wPool.getD i 0)) "java/lang/String") := by decide +kernel
set_option maxRecDepth 100000 in
theorem sx_sco : ∀ i, i < 23 → FLW[([659, 686, 695, 702, 667, 712, 720, 676, 728, 736, 746, 758, 766, 773, 781, 791, 800, 810, 819, 829, 840, 847, 856] : List Nat).getD i 0]? = some (.eq (.field (.string "RuleReader$Word" (wPool.getD i 0)) "java/lang/String" "coder" "B") (.int 0)) := by decide +kernel
set_option maxRecDepth 100000 in
theorem sx_sar : ∀ i, i < 23 → FLW[([660, 687, 696, 703, 668, 713, 721, 677, 729, 737, 747, 759, 767, 774, 782, 792, 801, 811, 820, 830, 841, 848, 857] : List Nat).getD i 0]? = some (.arrayOf (.field (.string "RuleReader$Word" (wPool.getD i 0)) "java/lang/String" "value" "[B") .byte) := by decide +kernel
set_option maxRecDepth 100000 in
theorem sx_sle : ∀ i, i < 23 → FLW[([661, 688, 697, 704, 669, 714, 722, 678, 730, 738, 748, 760, 768, 775, 783, 793, 802, 812, 821, 831, 842, 849, 858] : List Nat).getD i 0]? = some (.eq (.length (.field (.string "RuleReader$Word" (wPool.getD i 0)) "java/lang/String" "value" "[B")) (.int (Int32.ofNat (wLen.getD i 0)))) := by decide +kernel
set_option maxRecDepth 100000 in
theorem sx_sel : ∀ i, i < 23 → ∀ j, j < wLen.getD i 0 → FLW[([662, 663, 664, 665, 0, 0, 0, 0, 689, 690, 691, 692, 693, 0, 0, 0, 698, 699, 700, 0, 0, 0, 0, 0, 705, 706, 707, 708, 709, 710, 0, 0, 670, 671, 672, 673, 674, 0, 0, 0, 715, 716, 717, 718, 0, 0, 0, 0, 723, 724, 725, 726, 0, 0, 0, 0, 679, 680, 681, 682, 683, 684, 0, 0, 731, 732, 733, 734, 0, 0, 0, 0, 739, 740, 741, 742, 743, 744, 0, 0, 749, 750, 751, 752, 753, 754, 755, 756, 761, 762, 763, 764, 0, 0, 0, 0, 769, 770, 771, 0, 0, 0, 0, 0, 776, 777, 778, 779, 0, 0, 0, 0, 784, 785, 786, 787, 788, 789, 0, 0, 794, 795, 796, 797, 798, 0, 0, 0, 803, 804, 805, 806, 807, 808, 0, 0, 813, 814, 815, 816, 817, 0, 0, 0, 822, 823, 824, 825, 826, 827, 0, 0, 832, 833, 834, 835, 836, 837, 838, 0, 843, 844, 845, 0, 0, 0, 0, 0, 850, 851, 852, 853, 854, 0, 0, 0, 859, 860, 861, 862, 863, 0, 0, 0] : List Nat).getD (8 * i + j) 0]? = some (.eq (.elem (.field (.string "RuleReader$Word" (wPool.getD i 0)) "java/lang/String" "value" "[B") (.int (Int32.ofNat j))) (.int ((wByt.getD i []).getD j 0))) := by decide +kernel
set_option maxRecDepth 100000 in
theorem sx_ael : ∀ i, i < 23 → FLW[([9, 10, 11, 12, 13, 14, 15, 16, 17, 18, 19, 20, 21, 22, 23, 24, 25, 26, 27, 28, 29, 30, 31] : List Nat).getD i 0]? = some (.eq (.elem (.static "RuleReader$Word" "ALL" "[LRuleReader$Word;") (.int (Int32.ofNat i))) (.static "RuleReader$Word" (wNm.getD i "") "LRuleReader$Word;")) := by decide +kernel
set_option maxRecDepth 100000 in
theorem sx_mel : ∀ i, i < 23 → FLW[([60, 61, 62, 63, 64, 65, 66, 67, 68, 69, 70, 71, 72, 73, 74, 75, 76, 77, 78, 79, 80, 81, 82] : List Nat).getD i 0]? = some (.eq (.elem (.static "RuleReader$1" "$SwitchMap$RuleReader$Word" "[I") (.int (Int32.ofNat i))) (.int (wSw.getD i 0))) := by decide +kernel
set_option maxRecDepth 100000 in
theorem sx_aar : FLW[6]? = some (.arrayOf (.static "RuleReader$Word" "ALL" "[LRuleReader$Word;") (.object "RuleReader$Word")) := by decide +kernel
set_option maxRecDepth 100000 in
theorem sx_ale : FLW[7]? = some (.eq (.length (.static "RuleReader$Word" "ALL" "[LRuleReader$Word;")) (.int (Int32.ofNat 23))) := by decide +kernel
set_option maxRecDepth 100000 in
theorem sx_mar : FLW[58]? = some (.arrayOf (.static "RuleReader$1" "$SwitchMap$RuleReader$Word" "[I") .int) := by decide +kernel
set_option maxRecDepth 100000 in
theorem sx_mle : FLW[59]? = some (.eq (.length (.static "RuleReader$1" "$SwitchMap$RuleReader$Word" "[I")) (.int (Int32.ofNat 23))) := by decide +kernel
set_option maxRecDepth 100000 in
theorem sx_cs : FLW[32]? = some (.eq (.static "java/lang/String" "COMPACT_STRINGS" "Z") (.int 1)) := by decide +kernel
set_option maxRecDepth 100000 in
theorem sx_rus : FLW[55]? = some (.isRef (.static "java/lang/Throwable" "UNASSIGNED_STACK" "[Ljava/lang/StackTraceElement;")) := by decide +kernel
set_option maxRecDepth 100000 in
theorem sx_lus : lw_tbl[649]? = some (.laysStatic "java/lang/Throwable" "UNASSIGNED_STACK" "[Ljava/lang/StackTraceElement;") := by decide +kernel
set_option maxRecDepth 100000 in
theorem sx_rsu : FLW[56]? = some (.isRef (.static "java/lang/Throwable" "SUPPRESSED_SENTINEL" "Ljava/util/List;")) := by decide +kernel
set_option maxRecDepth 100000 in
theorem sx_lsu : lw_tbl[651]? = some (.laysStatic "java/lang/Throwable" "SUPPRESSED_SENTINEL" "Ljava/util/List;") := by decide +kernel
set_option maxRecDepth 100000 in
theorem sx_rsi : FLW[33]? = some (.isRef (.static "jdk/internal/util/Preconditions" "SIOOBE_FORMATTER" "Ljava/util/function/BiFunction;")) := by decide +kernel
set_option maxRecDepth 100000 in
theorem sx_lsi : lw_tbl[388]? = some (.laysStatic "jdk/internal/util/Preconditions" "SIOOBE_FORMATTER" "Ljava/util/function/BiFunction;") := by decide +kernel
set_option maxRecDepth 100000 in
theorem sx_lal : lw_tbl[356]? = some (.laysStatic "RuleReader$Word" "ALL" "[LRuleReader$Word;") := by decide +kernel
set_option maxRecDepth 100000 in
theorem sx_lsm : lw_tbl[749]? = some (.laysStatic "RuleReader$1" "$SwitchMap$RuleReader$Word" "[I") := by decide +kernel
set_option maxRecDepth 100000 in
theorem sx_lcs : lw_tbl[371]? = some (.laysStatic "java/lang/String" "COMPACT_STRINGS" "Z") := by decide +kernel
set_option maxRecDepth 100000 in
theorem sx_iW : lw_tbl[82]? = some (.initialized "RuleReader$Word") := by decide +kernel
set_option maxRecDepth 100000 in
theorem sx_i1 : lw_tbl[95]? = some (.initialized "RuleReader$1") := by decide +kernel
set_option maxRecDepth 100000 in
theorem sx_iS : lw_tbl[83]? = some (.initialized "java/lang/String") := by decide +kernel
set_option maxRecDepth 100000 in
theorem sx_iT : lw_tbl[90]? = some (.initialized "java/lang/Throwable") := by decide +kernel
set_option maxRecDepth 100000 in
theorem sx_iP : lw_tbl[85]? = some (.initialized "jdk/internal/util/Preconditions") := by decide +kernel
set_option maxRecDepth 100000 in
theorem sx_xr : ∀ i, i < 6 → lw_tbl[([664, 700, 828, 861, 884, 892] : List Nat).getD i 0]? = some (.stringRef "RuleReader" (xTx.getD i (0, "")).1 (xTx.getD i (0, "")).2) := by decide +kernel
set_option maxRecDepth 100000 in
theorem sx_xe : ∀ i, i < 6 → FLW[([489, 508, 542, 575, 616, 642] : List Nat).getD i 0]? = some (.exactly (.string "RuleReader" (xTx.getD i (0, "")).1) "java/lang/String") := by decide +kernel
set_option maxRecDepth 100000 in
theorem sx_nc0 : FLW[444]? = some (.not (.castable E_IAE E_ISE)) := by decide +kernel
set_option maxRecDepth 100000 in
theorem sx_nc1 : FLW[445]? = some (.not (.castable E_UOE E_ISE)) := by decide +kernel
set_option maxRecDepth 100000 in
theorem sx_nc2 : FLW[459]? = some (.not (.castable E_UOE E_IAE)) := by decide +kernel
section KST
variable {args : Array Value} {s : State} {A : Nat → Prop}
theorem eq_ev {t u : Term} {a : Nat} (h : (Cond.eq t u).before args s = true) (hu : u.eval args s none [] s = some (.ref a)) : t.eval args s none [] s = some (.ref a) := by
  cases hv : t.eval args s none [] s with
  | none => simp [Cond.before, Cond.holds, Cond.value, hv] at h
  | some w =>
    cases w <;> simp [Cond.before, Cond.holds, Cond.value, hv, hu] at h
    rw [h]
theorem stL_of {C n d : String} (hl : (Cond.laysStatic C n d).before args s = true) (hr : (Cond.isRef (.static C n d)).before args s = true) (hA : ∀ a : Nat, a < s.heap.size → ¬ A a) : stL C n d A s s.heap := by
  obtain ⟨c, k, i, f, a, cell, hc, hi, hst, ha, hcell, hs, hcls, hlt, hty⟩ := Cond.laysStatic_spec hl
  have hv : cell.slots[f.slot]? = some (cell.slots[f.slot]'hlt) := Array.getElem?_eq_getElem hlt
  generalize cell.slots[f.slot]'hlt = v at hv
  have e : (Term.static C n d).eval args s none [] s = some v := by simp [Term.eval, State.fieldNamed?, hi, hst, ha, hcell, hs, hv]
  refine ⟨c, k, i, f, a, cell, v, hc, hi, hst, ha, hty, hcell, hs, hcls, hlt, hv, ?_, hA a (Array.getElem?_eq_some_iff.mp hcell).1⟩
  cases v <;> first | rfl | (simp [Cond.before, Cond.holds, Cond.value, e] at hr; done)
def wSame (i j : Nat) : Bool := (Int32.ofNat (wLen.getD i 0) == Int32.ofNat (wLen.getD j 0)) && (List.range 8).all fun k => !(decide (k < wLen.getD i 0) && decide (k < wLen.getD j 0)) || ((wByt.getD i []).getD k 0 == (wByt.getD j []).getD k 0)
theorem w_dif : ∀ i, i < 23 → ∀ j, j < 23 → i ≠ j → wSame i j = false := by decide +kernel
theorem w_same {i j : Nat} (h1 : Int32.ofNat (wLen.getD i 0) = Int32.ofNat (wLen.getD j 0)) (h2 : ∀ k, k < wLen.getD i 0 → k < wLen.getD j 0 → (wByt.getD i []).getD k 0 = (wByt.getD j []).getD k 0) : wSame i j = true := by
  unfold wSame
  rw [Bool.and_eq_true, List.all_eq_true]
  refine ⟨by rw [h1]; exact beq_self_eq_true _, fun k _ => ?_⟩
  by_cases a : k < wLen.getD i 0
  · by_cases b : k < wLen.getD j 0
    · rw [h2 k a b, beq_self_eq_true, Bool.or_true]
    · rw [decide_eq_false b, Bool.and_false, Bool.not_false, Bool.true_or]
  · rw [decide_eq_false a, Bool.false_and, Bool.not_false, Bool.true_or]
theorem ne_of {t u : Term} {a b : Nat} (ht : t.eval args s none [] s = some (.ref a)) (hu : u.eval args s none [] s = some (.ref b)) (h : a ≠ b) : (Cond.not (Cond.eq t u)).before args s = true := by simp [Cond.before, Cond.holds, Cond.value, ht, hu, h]
theorem len_cg {t u : Term} {c n d : String} (h : t.eval args s none [] s = u.eval args s none [] s) : (Term.length (.field t c n d)).eval args s none [] s = (Term.length (.field u c n d)).eval args s none [] s := by simp only [Term.eval, h]
theorem el_cg {t u v : Term} {c n d : String} (h : t.eval args s none [] s = u.eval args s none [] s) : (Term.elem (.field t c n d) v).eval args s none [] s = (Term.elem (.field u c n d) v).eval args s none [] s := by simp only [Term.eval, h]
theorem kc_start (hA : ∀ a : Nat, a < s.heap.size → ¬ A a) (hts : ∀ w ∈ lw_tbl, w.before args s = true) (hs : ∀ w ∈ FLW, w.before args s = true) : ∃ a b c : Nat → Nat, ∀ (D : va_G) (ar : Nat → ClassId), KC (D, ar, a, b, c) A s s.heap := by
  have T : ∀ {i : Nat} {w : Cond}, lw_tbl[i]? = some w → w.before args s = true := fun h => hts _ (List.mem_of_getElem? h)
  have F : ∀ {i : Nat} {w : Cond}, FLW[i]? = some w → w.before args s = true := fun h => hs _ (List.mem_of_getElem? h)
  obtain ⟨ad, hE, had⟩ := va_Enof2 (E := "RuleReader$Word") (d := "LRuleReader$Word;") (nm := wNm) (F := wF) (A := A) (fun i hi => T (sx_lays i hi)) (T sx_iW) (fun i hi => F (sx_ex i hi)) (fun q hq i hi => by
    simp only [wF, List.mem_cons, List.not_mem_nil, or_false] at hq
    rcases hq with rfl | rfl | rfl
    · exact F (sx_role i hi)
    · exact F (sx_code i hi)
    · exact F (sx_ord i hi)) (fun i j hi hj hne => (sx_ne i hi j hj hne).imp (fun h => F h) (fun h => F h)) hA
  have hne : ∀ i j : Nat, i < 23 → j < 23 → i ≠ j → (Cond.not (Cond.eq (.string "RuleReader$Word" (wPool.getD i 0)) (.string "RuleReader$Word" (wPool.getD j 0)))).before args s = true ∨ (Cond.not (Cond.eq (.string "RuleReader$Word" (wPool.getD j 0)) (.string "RuleReader$Word" (wPool.getD i 0)))).before args s = true := by
    intro i j hi hj hij
    obtain ⟨a, _, _, _, q1, _⟩ := Cond.exactly_spec (F (sx_sex i hi))
    obtain ⟨b, _, _, _, r1, _⟩ := Cond.exactly_spec (F (sx_sex j hj))
    have hab : a ≠ b := by
      intro e
      subst e
      have e0 := q1.trans r1.symm
      have hw : wSame i j = true := w_same (by
        have l1 := va_eqt (F (sx_sle i hi))
        rw [len_cg e0, va_eqt (F (sx_sle j hj))] at l1
        simpa using l1.symm) (fun k k1 k2 => by
        have l1 := va_eqt (F (sx_sel i hi k k1))
        rw [el_cg e0, va_eqt (F (sx_sel j hj k k2))] at l1
        simpa using l1.symm)
      rw [w_dif i hi j hj hij] at hw
      cases hw
    exact Or.inl (ne_of q1 r1 hab)
  obtain ⟨adK, adV, hS, hadK⟩ := vk_Sof (N := 23) (tm := fun i => .string "RuleReader$Word" (wPool.getD i 0)) (len := wLen) (byt := wByt) (A := A) (by decide) (fun i hi => F (sx_sex i hi)) (fun i hi => F (sx_sco i hi)) (fun i hi => F (sx_sar i hi)) (fun i hi => F (sx_sle i hi)) (fun i hi j hj => F (sx_sel i hi j hj)) hne hA
  obtain ⟨t1, ht1, hT1⟩ := va_Tof (tm := .static "RuleReader$Word" "ALL" "[LRuleReader$Word;") (ty := .object "RuleReader$Word") (N := 23) (f := fun j => .ref (ad j)) (A := A) (by decide) (F sx_aar) (va_eqt (F sx_ale)) (fun j hj => eq_ev (F (sx_ael j hj)) (had j hj)) hA
  obtain ⟨t2, ht2, hT2⟩ := va_Tof (tm := .static "RuleReader$1" "$SwitchMap$RuleReader$Word" "[I") (ty := .int) (N := 23) (f := fun j => .int (wSw.getD j 0)) (A := A) (by decide) (F sx_mar) (va_eqt (F sx_mle)) (fun j hj => va_eqt (F (sx_mel j hj))) hA
  refine ⟨ad, adK, adV, fun D ar => ⟨hE, fun i hi => vk_OFof (had i hi) (eq_ev (F (sx_sp i hi)) (hadK i hi)) hA, hS, ⟨t1, va_Zof (T sx_lal) (T sx_iW) ht1 hA, hT1⟩, ⟨t2, va_Zof (T sx_lsm) (T sx_i1) ht2 hA, hT2⟩, va_Zof (T sx_lcs) (T sx_iS) (va_eqt (F sx_cs)) hA, va_Zqof (T sx_lus) (T sx_iT) (F sx_rus) hA, va_Zqof (T sx_lsu) (T sx_iT) (F sx_rsu) hA, va_Zqof (T sx_lsi) (T sx_iP) (F sx_rsi) hA, fun q hq => ?_, stL_of (T sx_lus) (F sx_rus) hA, stL_of (T sx_lsu) (F sx_rsu) hA⟩⟩
  obtain ⟨i, hi, rfl⟩ := List.mem_iff_getElem.mp hq
  have hi6 : i < 6 := hi
  have e : xTx.getD i (0, "") = xTx[i] := by
    show (xTx[i]?).getD (0, "") = xTx[i]
    rw [List.getElem?_eq_getElem hi]
    rfl
  have h1 := T (sx_xr i hi6)
  obtain ⟨a, _, _, _, q1, _⟩ := Cond.exactly_spec (F (sx_xe i hi6))
  rw [e] at h1 q1
  exact ⟨a, h1, q1⟩
theorem nw_at (w : Cond) (h : w ∈ NW) (hb : w.before args s = true) : va_Nw w s := by
  have h1 := (List.mem_filter.mp h).2
  cases w <;> first | exact hb | (simp [nestWord] at h1; done) | (rename_i ty; cases ty <;> first | exact hb | (simp [nestWord] at h1; done))
theorem k_obj {C : String} (h : (Cond.arrayOver (.object C)).before args s = true) : ∃ cA : ClassId, ArrOfT s cA (.object C) ∧ va_RA s cA (.object C) := by
  obtain ⟨comp, c, k, h1, _, h3, h4, h5⟩ := Cond.arrayOver_spec h
  exact ⟨c, fun N z => ⟨fun k h => (by cases h), k, h3, comp, h4⟩, k, comp, h3, h4, h1, h5⟩
theorem k_int (h : (Cond.arrayClass .int).before args s = true) : ∃ cA : ClassId, ArrOfT s cA .int ∧ va_RA s cA .int := by
  obtain ⟨c, k, comp, h1, h2, h3⟩ := Cond.arrayClass_spec h
  exact ⟨c, fun N z => ⟨fun k h => (by cases h), k, h2, comp, h3⟩, h1⟩
theorem k_char (h : (Cond.arrayClass .char).before args s = true) : ∃ cA : ClassId, ArrOfT s cA .char ∧ va_RA s cA .char := by
  obtain ⟨c, k, comp, h1, h2, h3⟩ := Cond.arrayClass_spec h
  exact ⟨c, fun N z => ⟨fun k h => (by cases h), k, h2, comp, h3⟩, h1⟩
theorem k_boolean (h : (Cond.arrayClass .boolean).before args s = true) : ∃ cA : ClassId, ArrOfT s cA .boolean ∧ va_RA s cA .boolean := by
  obtain ⟨c, k, comp, h1, h2, h3⟩ := Cond.arrayClass_spec h
  exact ⟨c, fun N z => ⟨fun k h => (by cases h), k, h2, comp, h3⟩, h1⟩
theorem k_long (h : (Cond.arrayClass .long).before args s = true) : ∃ cA : ClassId, ArrOfT s cA .long ∧ va_RA s cA .long := by
  obtain ⟨c, k, comp, h1, h2, h3⟩ := Cond.arrayClass_spec h
  exact ⟨c, fun N z => ⟨fun k h => (by cases h), k, h2, comp, h3⟩, h1⟩
theorem k_all (hG : ∀ w ∈ GW, w.before args s = true) (hN : ∀ w ∈ NW, va_Nw w s) : ∃ (D : va_G) (ar : Nat → ClassId), ∀ a b c : Nat → Nat, va_K D CL (TY (D, ar, a, b, c)) s := by
  obtain ⟨c0, i0, h0⟩ := u_known (C := R_RR) (T := F_RR) (N := 5) hG ci_RR.2.1 (hG _ in_RR)
  obtain ⟨c1, i1, h1⟩ := u_known (C := R_Text) (T := F_Text) (N := 2) hG ci_Text.2.1 (hG _ in_Text)
  obtain ⟨c2, i2, h2⟩ := u_known (C := R_Tokens) (T := F_Tokens) (N := 13) hG ci_Tokens.2.1 (hG _ in_Tokens)
  obtain ⟨c3, i3, h3⟩ := u_known (C := R_Layer) (T := F_Layer) (N := 5) hG ci_Layer.2.1 (hG _ in_Layer)
  obtain ⟨c4, i4, h4⟩ := u_known (C := R_Rule) (T := F_Rule) (N := 6) hG ci_Rule.2.1 (hG _ in_Rule)
  obtain ⟨c5, i5, h5⟩ := u_known (C := R_Book) (T := F_Book) (N := 6) hG ci_Book.2.1 (hG _ in_Book)
  obtain ⟨c6, i6, h6⟩ := u_known (C := R_Parser) (T := F_Parser) (N := 2) hG ci_Parser.2.1 (hG _ in_Parser)
  obtain ⟨c7, i7, h7⟩ := u_known (C := R_RowStore) (T := F_RowStore) (N := 7) hG ci_RowStore.2.1 (hG _ in_RowStore)
  obtain ⟨c8, i8, h8⟩ := u_known (C := R_Unroller) (T := F_Unroller) (N := 10) hG ci_Unroller.2.1 (hG _ in_Unroller)
  obtain ⟨c9, i9, h9⟩ := u_known (C := R_Mo) (T := F_Mo) (N := 43) hG ci_Mo.2.1 (hG _ in_Mo)
  obtain ⟨a0, g0⟩ := k_int (hG _ ac_int)
  obtain ⟨a1, g1⟩ := k_char (hG _ ac_char)
  obtain ⟨a2, g2⟩ := k_boolean (hG _ ac_boolean)
  obtain ⟨a3, g3⟩ := k_obj (hN _ ao_Rule)
  obtain ⟨a4, g4⟩ := k_obj (hN _ ao_Layer)
  obtain ⟨a5, g5⟩ := k_long (hG _ ac_long)
  obtain ⟨a6, g6⟩ := k_obj (hN _ ao_Word)
  refine ⟨(fun k => [c0, c1, c2, c3, c4, c5, c6, c7, c8, c9].getD k 0, fun k => [i0, i1, i2, i3, i4, i5, i6, i7, i8, i9].getD k i0), fun k => [a0, a1, a2, a3, a4, a5, a6].getD k 0, fun a b c => ⟨fun k q hq => ?_, fun k q hq => ?_⟩⟩
  · have hk : k < 10 := (List.getElem?_eq_some_iff.mp hq).1
    rcases (show k = 0 ∨ k = 1 ∨ k = 2 ∨ k = 3 ∨ k = 4 ∨ k = 5 ∨ k = 6 ∨ k = 7 ∨ k = 8 ∨ k = 9 by omega) with rfl | rfl | rfl | rfl | rfl | rfl | rfl | rfl | rfl | rfl <;> cases hq <;> assumption
  · have hk : k < 7 := (List.getElem?_eq_some_iff.mp hq).1
    rcases (show k = 0 ∨ k = 1 ∨ k = 2 ∨ k = 3 ∨ k = 4 ∨ k = 5 ∨ k = 6 by omega) with rfl | rfl | rfl | rfl | rfl | rfl | rfl <;> cases hq <;> assumption
theorem nc_start (hs : ∀ w ∈ FLW, w.before args s = true) (hN : ∀ w ∈ NW, va_Nw w s) : NC s := by
  have F : ∀ {i : Nat} {w : Cond}, FLW[i]? = some w → w.before args s = true := fun h => hs _ (List.mem_of_getElem? h)
  obtain ⟨ci, _, f1, _⟩ := Cond.castable_spec (hN _ tc_ISE)
  obtain ⟨ca, _, f2, _⟩ := Cond.castable_spec (hN _ tc_IAE)
  obtain ⟨cu, _, f3, _⟩ := Cond.castable_spec (hN _ tc_UOE)
  intro q hq
  simp only [xNo, List.mem_cons, List.not_mem_nil, or_false] at hq
  rcases hq with rfl | rfl | rfl
  · have h := F sx_nc0
    exact ⟨ca, ci, f2, f1, by simpa [Cond.before, Cond.holds, Cond.value, f1, f2] using h⟩
  · have h := F sx_nc1
    exact ⟨cu, ci, f3, f1, by simpa [Cond.before, Cond.holds, Cond.value, f1, f3] using h⟩
  · have h := F sx_nc2
    exact ⟨cu, ca, f3, f2, by simpa [Cond.before, Cond.holds, Cond.value, f2, f3] using h⟩
end KST
