/-! ===== printed: where the premises lie ===== -/
def zx_fl : List Cond := flatC (Jvm.Cond.and given_1 narrow_1)
theorem zx_at {args : Array Value} {s : State} (h : (Jvm.Cond.and given_1 narrow_1).before args s = true) {i : Nat} {w : Cond} (hw : zx_fl[i]? = some w) : w.before args s = true := flat_of_before _ h w (List.mem_of_getElem? hw)
def zx_sn : List Nat := [172, 178, 181, 184, 187, 190, 193, 196, 199, 202, 205, 208, 211, 214, 217, 220, 223, 226, 229, 232, 235, 238, 241, 244, 247, 250, 253, 256, 259, 262, 265, 268, 271, 274, 277, 280, 283, 286, 289, 292, 295, 298, 298, 298]
def zx_E_ : List Nat := [202, 208, 214, 220, 226, 232, 238, 244, 250, 190, 256, 262, 268, 274, 184, 178, 280, 172, 88, 112, 94, 100, 136, 142, 148, 130, 124, 118, 286, 292, 298, 304, 310, 316, 166, 82, 154, 160, 76, 106, 196, 10, 70, 4]
theorem zx_E : ∀ i, i < 44 → zx_fl[zx_E_.getD i 0]? = some (.exactly (Term.static "ApologyUp$Word" (zz_nm.getD i "") "LApologyUp$Word;") "ApologyUp$Word") := by decide +kernel
def zx_O_ : List Nat := [203, 209, 215, 221, 227, 233, 239, 245, 251, 191, 257, 263, 269, 275, 185, 179, 281, 173, 89, 113, 95, 101, 137, 143, 149, 131, 125, 119, 287, 293, 299, 305, 311, 317, 167, 83, 155, 161, 77, 107, 197, 11, 71, 5]
theorem zx_O : ∀ i, i < 44 → zx_fl[zx_O_.getD i 0]? = some (.eq (.field (Term.static "ApologyUp$Word" (zz_nm.getD i "") "LApologyUp$Word;") "java/lang/Enum" "ordinal" "I") (.int (Int32.ofNat i))) := by decide +kernel
def zx_CK_ : List Nat := [205, 211, 217, 223, 229, 235, 241, 247, 253, 193, 259, 265, 271, 277, 187, 181, 283, 175, 91, 115, 97, 103, 139, 145, 151, 133, 127, 121, 289, 295, 301, 307, 313, 319, 169, 85, 157, 163, 79, 109, 199, 13, 73, 7]
theorem zx_CK : ∀ i, i < 44 → zx_fl[zx_CK_.getD i 0]? = some (.eq (.field (Term.static "ApologyUp$Word" (zz_nm.getD i "") "LApologyUp$Word;") "ApologyUp$Word" "clauseKind" "I") (.int (zz_ck.getD i 0))) := by decide +kernel
def zx_NC_ : List Nat := [206, 212, 218, 224, 230, 236, 242, 248, 254, 194, 260, 266, 272, 278, 188, 182, 284, 176, 92, 116, 98, 104, 140, 146, 152, 134, 128, 122, 290, 296, 302, 308, 314, 320, 170, 86, 158, 164, 80, 110, 200, 14, 74, 8]
theorem zx_NC : ∀ i, i < 44 → zx_fl[zx_NC_.getD i 0]? = some (.eq (.field (Term.static "ApologyUp$Word" (zz_nm.getD i "") "LApologyUp$Word;") "ApologyUp$Word" "nameCode" "I") (.int (zz_nc.getD i 0))) := by decide +kernel
def zx_OC_ : List Nat := [207, 213, 219, 225, 231, 237, 243, 249, 255, 195, 261, 267, 273, 279, 189, 183, 285, 177, 93, 117, 99, 105, 141, 147, 153, 135, 129, 123, 291, 297, 303, 309, 315, 321, 171, 87, 159, 165, 81, 111, 201, 15, 75, 9]
theorem zx_OC : ∀ i, i < 44 → zx_fl[zx_OC_.getD i 0]? = some (.eq (.field (Term.static "ApologyUp$Word" (zz_nm.getD i "") "LApologyUp$Word;") "ApologyUp$Word" "opCode" "I") (.int (zz_oc.getD i 0))) := by decide +kernel
def zx_SP_ : List Nat := [204, 210, 216, 222, 228, 234, 240, 246, 252, 192, 258, 264, 270, 276, 186, 180, 282, 174, 90, 114, 96, 102, 138, 144, 150, 132, 126, 120, 288, 294, 300, 306, 312, 318, 168, 84, 156, 162, 78, 108, 198, 12, 72, 6]
theorem zx_SP : ∀ i, i < 44 → zx_fl[zx_SP_.getD i 0]? = some (.eq (.field (Term.static "ApologyUp$Word" (zz_nm.getD i "") "LApologyUp$Word;") "ApologyUp$Word" "spelling" "Ljava/lang/String;") (Term.string "ApologyUp$Word" (zx_sn.getD i 0))) := by decide +kernel
def zx_WE_ : List Nat := [21, 22, 23, 24, 25, 26, 27, 28, 29, 30, 31, 32, 33, 34, 35, 36, 37, 38, 39, 40, 41, 42, 43, 44, 45, 46, 47, 48, 49, 50, 51, 52, 53, 54, 55, 56, 57, 58, 59, 60, 61, 62, 63, 64]
theorem zx_WE : ∀ i, i < 44 → zx_fl[zx_WE_.getD i 0]? = some (.eq (.elem (.static "ApologyUp$Reader" "WORDS" "[LApologyUp$Word;") (.int (Int32.ofNat i))) (Term.static "ApologyUp$Word" (zz_nm.getD i "") "LApologyUp$Word;")) := by decide +kernel
def zx_SE_ : List Nat := [505, 513, 524, 533, 544, 554, 563, 571, 579, 492, 586, 593, 602, 610, 486, 478, 618, 469, 375, 405, 385, 394, 431, 439, 447, 425, 418, 411, 626, 631, 637, 642, 648, 653, 464, 370, 454, 459, 365, 400, 500, 361, 361, 361]
theorem zx_SE : ∀ i, i < 44 → zx_fl[zx_SE_.getD i 0]? = some (.exactly (Term.string "ApologyUp$Word" (zx_sn.getD i 0)) "java/lang/String") := by decide +kernel
def zx_SC_ : List Nat := [506, 514, 525, 534, 545, 555, 564, 572, 580, 493, 587, 594, 603, 611, 487, 479, 619, 470, 376, 406, 386, 395, 432, 440, 448, 426, 419, 412, 627, 632, 638, 643, 649, 654, 465, 371, 455, 460, 366, 401, 501, 362, 362, 362]
theorem zx_SC : ∀ i, i < 44 → zx_fl[zx_SC_.getD i 0]? = some (.eq (.field (Term.string "ApologyUp$Word" (zx_sn.getD i 0)) "java/lang/String" "coder" "B") (.int 0)) := by decide +kernel
def zx_SA_ : List Nat := [507, 515, 526, 535, 546, 556, 565, 573, 581, 494, 588, 595, 604, 612, 488, 480, 620, 471, 377, 407, 387, 396, 433, 441, 449, 427, 420, 413, 628, 633, 639, 644, 650, 655, 466, 372, 456, 461, 367, 402, 502, 363, 363, 363]
theorem zx_SA : ∀ i, i < 44 → zx_fl[zx_SA_.getD i 0]? = some (.arrayOf (.field (Term.string "ApologyUp$Word" (zx_sn.getD i 0)) "java/lang/String" "value" "[B") .byte) := by decide +kernel
def zx_SL_ : List Nat := [508, 516, 527, 536, 547, 557, 566, 574, 582, 495, 589, 596, 605, 613, 489, 481, 621, 472, 378, 408, 388, 397, 434, 442, 450, 428, 421, 414, 629, 634, 640, 645, 651, 656, 467, 373, 457, 462, 368, 403, 503, 364, 364, 364]
theorem zx_SL : ∀ i, i < 44 → zx_fl[zx_SL_.getD i 0]? = some (.eq (.length (.field (Term.string "ApologyUp$Word" (zx_sn.getD i 0)) "java/lang/String" "value" "[B")) (.int (Int32.ofNat (zz_ln.getD i 0)))) := by decide +kernel
def zx_SB_ : List (List Nat) := [[509, 510, 511, 512], [517, 518, 519, 520, 521, 522, 523], [528, 529, 530, 531, 532], [537, 538, 539, 540, 541, 542, 543], [548, 549, 550, 551, 552, 553], [558, 559, 560, 561, 562], [567, 568, 569, 570], [575, 576, 577, 578], [583, 584, 585], [496, 497, 498, 499], [590, 591, 592], [597, 598, 599, 600, 601], [606, 607, 608, 609], [614, 615, 616, 617], [490, 491], [482, 483, 484, 485], [622, 623, 624, 625], [473, 474, 475, 476, 477], [379, 380, 381, 382, 383, 384], [409, 410], [389, 390, 391, 392, 393], [398, 399], [435, 436, 437, 438], [443, 444, 445, 446], [451, 452, 453], [429, 430], [422, 423, 424], [415, 416, 417], [630], [635, 636], [641], [646, 647], [652], [657], [468], [374], [458], [463], [369], [404], [504], [], [], []]
theorem zx_SB : ∀ i, i < 44 → ∀ j, j < 8 → j < zz_ln.getD i 0 → zx_fl[(zx_SB_.getD i []).getD j 0]? = some (.eq (.elem (.field (Term.string "ApologyUp$Word" (zx_sn.getD i 0)) "java/lang/String" "value" "[B") (.int (Int32.ofNat j))) (.int ((zz_sp.getD i []).getD j 0))) := by decide +kernel
theorem zx_wx : zx_fl[17]? = some (.exactly (.static "ApologyUp$Reader" "WORDS" "[LApologyUp$Word;") "[LApologyUp$Word;") := by decide +kernel
theorem zx_wa : zx_fl[18]? = some (.arrayOf (.static "ApologyUp$Reader" "WORDS" "[LApologyUp$Word;") (.object "ApologyUp$Word")) := by decide +kernel
theorem zx_wl : zx_fl[19]? = some (.eq (.length (.static "ApologyUp$Reader" "WORDS" "[LApologyUp$Word;")) (.int 44)) := by decide +kernel
theorem zx_cs : zx_fl[65]? = some (.eq (.static "java/lang/String" "COMPACT_STRINGS" "Z") (.int 1)) := by decide +kernel
theorem zx_sf : zx_fl[66]? = some (.isRef (.static "jdk/internal/util/Preconditions" "SIOOBE_FORMATTER" "Ljava/util/function/BiFunction;")) := by decide +kernel
theorem zx_ls : ∀ i, i < 44 → Cond.laysStatic "ApologyUp$Word" (zz_nm.getD i "") "LApologyUp$Word;" ∈ lw_tbl := fun i hi => match i, hi with
  | 0, _ => zy_t8 (List.mem_of_getElem? (i := 186) (by decide +kernel))
  | 1, _ => zy_t8 (List.mem_of_getElem? (i := 187) (by decide +kernel))
  | 2, _ => zy_t8 (List.mem_of_getElem? (i := 188) (by decide +kernel))
  | 3, _ => zy_t8 (List.mem_of_getElem? (i := 189) (by decide +kernel))
  | 4, _ => zy_t8 (List.mem_of_getElem? (i := 190) (by decide +kernel))
  | 5, _ => zy_t8 (List.mem_of_getElem? (i := 191) (by decide +kernel))
  | 6, _ => zy_t8 (List.mem_of_getElem? (i := 192) (by decide +kernel))
  | 7, _ => zy_t8 (List.mem_of_getElem? (i := 193) (by decide +kernel))
  | 8, _ => zy_t8 (List.mem_of_getElem? (i := 194) (by decide +kernel))
  | 9, _ => zy_t3 (List.mem_of_getElem? (i := 231) (by decide +kernel))
  | 10, _ => zy_t8 (List.mem_of_getElem? (i := 195) (by decide +kernel))
  | 11, _ => zy_t8 (List.mem_of_getElem? (i := 196) (by decide +kernel))
  | 12, _ => zy_t8 (List.mem_of_getElem? (i := 197) (by decide +kernel))
  | 13, _ => zy_t8 (List.mem_of_getElem? (i := 198) (by decide +kernel))
  | 14, _ => zy_t3 (List.mem_of_getElem? (i := 229) (by decide +kernel))
  | 15, _ => zy_t3 (List.mem_of_getElem? (i := 227) (by decide +kernel))
  | 16, _ => zy_t8 (List.mem_of_getElem? (i := 199) (by decide +kernel))
  | 17, _ => zy_t3 (List.mem_of_getElem? (i := 221) (by decide +kernel))
  | 18, _ => zy_t3 (List.mem_of_getElem? (i := 157) (by decide +kernel))
  | 19, _ => zy_t3 (List.mem_of_getElem? (i := 173) (by decide +kernel))
  | 20, _ => zy_t3 (List.mem_of_getElem? (i := 159) (by decide +kernel))
  | 21, _ => zy_t3 (List.mem_of_getElem? (i := 161) (by decide +kernel))
  | 22, _ => zy_t3 (List.mem_of_getElem? (i := 201) (by decide +kernel))
  | 23, _ => zy_t3 (List.mem_of_getElem? (i := 203) (by decide +kernel))
  | 24, _ => zy_t3 (List.mem_of_getElem? (i := 209) (by decide +kernel))
  | 25, _ => zy_t3 (List.mem_of_getElem? (i := 199) (by decide +kernel))
  | 26, _ => zy_t3 (List.mem_of_getElem? (i := 197) (by decide +kernel))
  | 27, _ => zy_t3 (List.mem_of_getElem? (i := 191) (by decide +kernel))
  | 28, _ => zy_t8 (List.mem_of_getElem? (i := 200) (by decide +kernel))
  | 29, _ => zy_t8 (List.mem_of_getElem? (i := 201) (by decide +kernel))
  | 30, _ => zy_t8 (List.mem_of_getElem? (i := 202) (by decide +kernel))
  | 31, _ => zy_t8 (List.mem_of_getElem? (i := 203) (by decide +kernel))
  | 32, _ => zy_t8 (List.mem_of_getElem? (i := 204) (by decide +kernel))
  | 33, _ => zy_t8 (List.mem_of_getElem? (i := 205) (by decide +kernel))
  | 34, _ => zy_t3 (List.mem_of_getElem? (i := 215) (by decide +kernel))
  | 35, _ => zy_t3 (List.mem_of_getElem? (i := 155) (by decide +kernel))
  | 36, _ => zy_t3 (List.mem_of_getElem? (i := 211) (by decide +kernel))
  | 37, _ => zy_t3 (List.mem_of_getElem? (i := 213) (by decide +kernel))
  | 38, _ => zy_t3 (List.mem_of_getElem? (i := 153) (by decide +kernel))
  | 39, _ => zy_t3 (List.mem_of_getElem? (i := 167) (by decide +kernel))
  | 40, _ => zy_t3 (List.mem_of_getElem? (i := 233) (by decide +kernel))
  | 41, _ => zy_t3 (List.mem_of_getElem? (i := 38) (by decide +kernel))
  | 42, _ => zy_t3 (List.mem_of_getElem? (i := 96) (by decide +kernel))
  | 43, _ => zy_t2 (List.mem_of_getElem? (i := 144) (by decide +kernel))
  | n + 44, h => absurd h (by omega)
theorem zx_iw : Cond.initialized "ApologyUp$Word" ∈ lw_tbl := zy_t1 (List.mem_of_getElem? (i := 13) (by decide +kernel))
theorem zx_ir : Cond.initialized "ApologyUp$Reader" ∈ lw_tbl := zy_t1 (List.mem_of_getElem? (i := 11) (by decide +kernel))
theorem zx_is : Cond.initialized "java/lang/String" ∈ lw_tbl := zy_t1 (List.mem_of_getElem? (i := 16) (by decide +kernel))
theorem zx_ip : Cond.initialized "jdk/internal/util/Preconditions" ∈ lw_tbl := zy_t1 (List.mem_of_getElem? (i := 18) (by decide +kernel))
theorem zx_lr : Cond.laysStatic "ApologyUp$Reader" "WORDS" "[LApologyUp$Word;" ∈ lw_tbl := zy_t3 (List.mem_of_getElem? (i := 43) (by decide +kernel))
theorem zx_lc : Cond.laysStatic "java/lang/String" "COMPACT_STRINGS" "Z" ∈ lw_tbl := zy_t3 (List.mem_of_getElem? (i := 56) (by decide +kernel))
theorem zx_lp : Cond.laysStatic "jdk/internal/util/Preconditions" "SIOOBE_FORMATTER" "Ljava/util/function/BiFunction;" ∈ lw_tbl := zy_t3 (List.mem_of_getElem? (i := 72) (by decide +kernel))
theorem zx_n_6_11 : Cond.methodLinkNest RX6 11 yX7_init "ApologyUp" ∈ lw_tbl := zy_t1 (List.mem_of_getElem? (i := 38) (by decide +kernel))
theorem zx_n_6_20 : Cond.methodLinkNest RX6 20 yX10_init "ApologyUp" ∈ lw_tbl := zy_t1 (List.mem_of_getElem? (i := 79) (by decide +kernel))
theorem zx_n_6_50 : Cond.methodLinkNest RX6 50 yX4_init "ApologyUp" ∈ lw_tbl := zy_t1 (List.mem_of_getElem? (i := 149) (by decide +kernel))
theorem zx_n_6_68 : Cond.methodLinkNest RX6 68 yX1_init "ApologyUp" ∈ lw_tbl := zy_t1 (List.mem_of_getElem? (i := 169) (by decide +kernel))
theorem zx_n_11_21 : Cond.methodLinkNest RX11 21 yX10_init "ApologyUp" ∈ lw_tbl := zy_t2 (List.mem_of_getElem? (i := 33) (by decide +kernel))
theorem zx_n_11_64 : Cond.methodLinkNest RX11 64 yX5_init "ApologyUp" ∈ lw_tbl := zy_t2 (List.mem_of_getElem? (i := 137) (by decide +kernel))
theorem zx_n_6_79 : Cond.methodLinkNest RX6 79 yX11_within "ApologyUp" ∈ lw_tbl := zy_t4 (List.mem_of_getElem? (i := 66) (by decide +kernel))
theorem zx_n_5_128 : Cond.methodLinkNest RX5 128 yX11_within "ApologyUp" ∈ lw_tbl := zy_t3 (List.mem_of_getElem? (i := 143) (by decide +kernel))
theorem zx_o_World : Cond.arrayOver (.object "ApologyUp$World") ∈ lw_tbl := zy_t1 (List.mem_of_getElem? (i := 144) (by decide +kernel))
theorem zx_o_Law : Cond.arrayOver (.object "ApologyUp$Law") ∈ lw_tbl := zy_t1 (List.mem_of_getElem? (i := 146) (by decide +kernel))
theorem zx_o_Word : Cond.arrayOver (.object "ApologyUp$Word") ∈ lw_tbl := zy_t2 (List.mem_of_getElem? (i := 142) (by decide +kernel))
