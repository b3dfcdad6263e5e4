/-! ===== printed: the layout of the cells: the reference (positions 0 ..), the class (from 15 on) ===== -/
def zy_N : Nat := 766
abbrev zy_cl : List vw_C := [(RX0, TX0, 2), (RX1, TX1, 10), (RX2, TX2, 4), (RX3, TX3, 11), (RX4, TX4, 4), (RX5, TX5, 11), (RX6, TX6, 13), (RX7, TX7, 6), (RX8, TX8, 5), (RX0, TX0, 2), (RX10, TX10, 13), (RX11, TX11, 10), (RX12, TX12, 35)]
def zy_l0 : List (Nat × Nat) := [(12, 35), (100, 4544), (100, 4544), (100, 2820), (100, 300), (100, 160), (100, 9), (103, 330), (102, 330), (100, 90), (100, 10), (100, 11), (100, 11), (100, 11), (100, 8), (11, 10)]
def zy_ls : List (Nat × Nat) := [(6, 13), (7, 6), (100, 10), (100, 10), (100, 10), (100, 10), (100, 10), (10, 13), (100, 10), (100, 10), (100, 10), (100, 10), (100, 10), (100, 10), (100, 10), (100, 10), (100, 120), (104, 30), (105, 4), (4, 4), (100, 8), (100, 8), (100, 10), (100, 8), (100, 8)]
def zy_ll : List (Nat × Nat) := [(1, 10), (100, 24), (100, 24), (100, 24), (100, 24), (100, 3), (100, 3), (100, 300), (100, 300)]
def zy_lw : List (Nat × Nat) := [(10, 13), (100, 10), (100, 10), (100, 10), (100, 10), (100, 10), (100, 10), (100, 10), (100, 10), (100, 120)]
def zy_lt : List (Nat × Nat) := [(10, 13), (100, 10), (100, 10), (100, 10), (100, 10), (100, 10), (100, 10), (100, 10), (100, 10), (100, 120), (2, 4), (100, 9), (100, 300), (0, 2), (8, 5), (100, 10), (100, 10), (100, 10), (100, 10), (3, 11), (100, 10), (100, 10), (100, 10), (5, 11), (106, 301), (100, 301), (100, 301), (101, 300)]
def zy_sv (r : Nat) : Nat × Nat := if r < 25 then zy_ls.getD r (999, 0) else if r < 61 then zy_ll.getD ((r - 25) % 9) (999, 0) else zy_lw.getD ((r - 61) % 10) (999, 0)
def zy_ly (p : Nat) : Nat × Nat := if p < 16 then zy_l0.getD p (999, 0) else if p < 738 then zy_sv ((p - 16) % 361) else zy_lt.getD (p - 738) (999, 0)
def zy_fl : List (List (Nat × Nat)) := [[(3, 17), (3, 748)], [(0, 0), (2, 1), (2, 2), (2, 3), (2, 4), (2, 5), (2, 6), (0, 0), (2, 7), (2, 8)], [(3, 17), (2, 1), (2, 2), (0, 0)], [(2, 1), (2, 2), (0, 0), (0, 0), (3, 17), (3, 748), (2, 3), (4, 0), (0, 0), (0, 0), (0, 0)], [(0, 0), (0, 0), (2, 1), (2, 2)], [(0, 1), (0, 0), (0, 0), (2, 1), (2, 2), (2, 3), (0, 0), (0, 0), (4, 0), (0, 0), (4, 0)], [(2, 1), (2, 7), (2, 17), (0, 0), (0, 0), (2, 18), (0, 0), (0, 0), (2, 19), (2, 22), (0, 0), (2, 23), (2, 24)], [(0, 0), (2, 1), (2, 2), (2, 3), (2, 4), (2, 5)], [(3, 17), (2, 1), (2, 2), (2, 3), (2, 4)], [], [(0, 0), (0, 0), (0, 0), (2, 1), (2, 2), (2, 3), (2, 4), (2, 5), (2, 6), (2, 7), (2, 8), (0, 0), (2, 9)], [(2, 1), (2, 362), (2, 723), (2, 733), (2, 736), (2, 737), (2, 742), (2, 746), (2, 750), (0, 0)], [(2, 1), (2, 2), (2, 3), (2, 4), (0, 0), (0, 0), (0, 0), (0, 0), (0, 0), (0, 0), (0, 0), (1, 0), (0, 0), (0, 0), (0, 0), (2, 5), (0, 0), (0, 0), (0, 1), (0, 0), (2, 6), (2, 7), (2, 8), (0, 1), (0, 0), (0, 0), (2, 9), (2, 10), (2, 11), (2, 12), (2, 13), (0, 0), (0, 0), (2, 14), (0, 0)]]
def zy_fk (ci k : Nat) : Nat × Nat := (zy_fl.getD ci []).getD k (9, 0)
/-- where the places of an array of references lead: 4 the Worlds of a Service, 5 its Laws -/
def zy_el (t p i : Nat) : Nat := if t = 4 then p + 44 + 10 * i else p + 7 + 9 * i
def zy_on (own : Nat) : String := match own with
  | 0 => RX0
  | 1 => RX1
  | 2 => RX2
  | 3 => RX3
  | 4 => RX4
  | 5 => RX5
  | 6 => RX6
  | 7 => RX7
  | 8 => RX8
  | 9 => RX9
  | 10 => RX10
  | 11 => RX11
  | 12 => RX12
  | 13 => RJ7
  | _ => RL
/-- the words of the class: their names, what they hold, how they are spelled -/
def zz_nm : List String := ["ADDS", "PARDONS", "WEARS", "OFFICER", "COUSIN", "WRONG", "AWAY", "SEND", "DAY", "SIZE", "WHO", "PRIDE", "RANK", "FROM", "TO", "DAYS", "DESK", "UNDER", "HALVES", "BY", "RANKS", "IF", "THEN", "ELSE", "END", "OR", "AND", "NOT", "LESS", "AT_MOST", "MORE", "AT_LEAST", "ALIKE", "UNLIKE", "PLUS", "MINUS", "TIMES", "OVER", "OPEN", "CLOSE", "SEMICOLON", "NUMBER", "UNKNOWN", "STOP"]
def zz_ck : List Int32 := [0, 1, 2, 3, 4, 5, 6, 7, 8, (-1), (-1), (-1), (-1), (-1), (-1), (-1), (-1), (-1), (-1), (-1), (-1), (-1), (-1), (-1), (-1), (-1), (-1), (-1), (-1), (-1), (-1), (-1), (-1), (-1), (-1), (-1), (-1), (-1), (-1), (-1), (-1), (-1), (-1), (-1)]
def zz_nc : List Int32 := [(-1), (-1), (-1), (-1), (-1), (-1), (-1), (-1), 0, 1, 2, 3, 4, 5, 6, 7, 8, (-1), (-1), (-1), (-1), (-1), (-1), (-1), (-1), (-1), (-1), (-1), (-1), (-1), (-1), (-1), (-1), (-1), (-1), (-1), (-1), (-1), (-1), (-1), (-1), (-1), (-1), (-1)]
def zz_oc : List Int32 := [(-1), (-1), (-1), (-1), (-1), (-1), (-1), (-1), (-1), (-1), (-1), (-1), (-1), (-1), (-1), (-1), (-1), (-1), (-1), (-1), (-1), (-1), (-1), (-1), (-1), (-1), (-1), (-1), 12, 13, 14, 15, 16, 17, 7, 8, 9, 10, (-1), (-1), (-1), (-1), (-1), (-1)]
def zz_F : List (String × String × String × List Int32) := [("ApologyUp$Word", "clauseKind", "I", zz_ck), ("ApologyUp$Word", "nameCode", "I", zz_nc), ("ApologyUp$Word", "opCode", "I", zz_oc)]
def zz_sp : List (List Int32) := [[97, 100, 100, 115], [112, 97, 114, 100, 111, 110, 115], [119, 101, 97, 114, 115], [111, 102, 102, 105, 99, 101, 114], [99, 111, 117, 115, 105, 110], [119, 114, 111, 110, 103], [97, 119, 97, 121], [115, 101, 110, 100], [100, 97, 121], [115, 105, 122, 101], [119, 104, 111], [112, 114, 105, 100, 101], [114, 97, 110, 107], [102, 114, 111, 109], [116, 111], [100, 97, 121, 115], [100, 101, 115, 107], [117, 110, 100, 101, 114], [104, 97, 108, 118, 101, 115], [98, 121], [114, 97, 110, 107, 115], [105, 102], [116, 104, 101, 110], [101, 108, 115, 101], [101, 110, 100], [111, 114], [97, 110, 100], [110, 111, 116], [60], [60, 61], [62], [62, 61], [61], [35], [43], [45], [42], [47], [40], [41], [59], [], [], []]
def zz_ln : List Nat := [4, 7, 5, 7, 6, 5, 4, 4, 3, 4, 3, 5, 4, 4, 2, 4, 4, 5, 6, 2, 5, 2, 4, 4, 3, 2, 3, 3, 1, 2, 1, 2, 1, 1, 1, 1, 1, 1, 1, 1, 1, 0, 0, 0]
/-- word i lies at 1000 + i, the row of all words at 1100 -/
def zm_WD (ad : Nat → Nat) (A : Nat → Prop) (U : State) (H : Heap) : Prop :=
  va_En "ApologyUp$Word" "LApologyUp$Word;" zz_nm zz_F (fun i => ad (1000 + i)) A U H
  ∧ (∃ adK adV : Nat → Nat, ∀ i, i < 44 → va_OF "ApologyUp$Word" "spelling" "Ljava/lang/String;" (.ref (adK i)) (ad (1000 + i)) A U H ∧ va_O "java/lang/String" (adK i) A U H ∧ va_OF "java/lang/String" "coder" "B" (.int 0) (adK i) A U H ∧ va_OF "java/lang/String" "value" "[B" (.ref (adV i)) (adK i) A U H ∧ va_T .byte (adV i) (zz_ln.getD i 0) (fun j => .int ((zz_sp.getD i []).getD j 0)) A U H)
  ∧ va_Z "ApologyUp$Reader" "WORDS" "[LApologyUp$Word;" (.ref (ad 1100)) A U H
  ∧ va_T (.object "ApologyUp$Word") (ad 1100) 44 (fun j => .ref (ad (1000 + j))) A U H
  ∧ va_Z "java/lang/String" "COMPACT_STRINGS" "Z" (.int 1) A U H
  ∧ va_Zq "jdk/internal/util/Preconditions" "SIOOBE_FORMATTER" "Ljava/util/function/BiFunction;" A U H
theorem zm_WD_moved {ad : Nat → Nat} {A : Nat → Prop} {u U : State} {H : Heap} (hvm : u.vm.Alike U.vm) (h : zm_WD ad A u H) : zm_WD ad A U H := by
  obtain ⟨h1, ⟨adK, adV, h2⟩, h3, h4, h5, h6⟩ := h
  exact ⟨va_En.moved hvm h1, ⟨adK, adV, fun i hi => ⟨va_OF.moved hvm (h2 i hi).1, va_O.moved hvm (h2 i hi).2.1, va_OF.moved hvm (h2 i hi).2.2.1, va_OF.moved hvm (h2 i hi).2.2.2.1, va_T.moved hvm (h2 i hi).2.2.2.2⟩⟩, va_Z.moved hvm h3, va_T.moved hvm h4, va_Z.moved hvm h5, va_Zq.moved hvm h6⟩
theorem zm_WD_kept {ad : Nat → Nat} {A : Nat → Prop} {U : State} {H H1 : Heap} (h : zm_WD ad A U H) (hk : ∀ q : Nat, q < H.size → ¬ A q → H1[q]? = H[q]?) : zm_WD ad A U H1 := by
  obtain ⟨h1, ⟨adK, adV, h2⟩, h3, h4, h5, h6⟩ := h
  exact ⟨h1.kept hk, ⟨adK, adV, fun i hi => ⟨(h2 i hi).1.kept hk, (h2 i hi).2.1.kept hk, (h2 i hi).2.2.1.kept hk, (h2 i hi).2.2.2.1.kept hk, (h2 i hi).2.2.2.2.kept hk⟩⟩, h3.kept hk, h4.kept hk, h5.kept hk, h6.kept hk⟩
/-- what is known of constants that lie there from the start -/
def zm_SF (ad : Nat → Nat) (A : Nat → Prop) (U : State) (H : Heap) : Prop := va_Nw (.methodLinkNest RX6 79 yX11_within "ApologyUp") U ∧ va_Nw (.methodLinkNest RX5 128 yX11_within "ApologyUp") U ∧ zm_WD ad A U H
theorem zm_SF_kept {ad : Nat → Nat} {A : Nat → Prop} {U : State} {H H1 : Heap} (h : zm_SF ad A U H) (hs : H.size ≤ H1.size) (hk : ∀ q : Nat, q < H.size → ¬ A q → H1[q]? = H[q]?) : zm_SF ad A U H1 := ⟨h.1, h.2.1, zm_WD_kept h.2.2 hk⟩
theorem zm_SF_warm {ad : Nat → Nat} {A : Nat → Prop} {s U : State} {H : Heap} (hW : s.WarmedH U.vm) (h : zm_SF ad A s H) : zm_SF ad A U H := ⟨va_Nw.warmM hW h.1, va_Nw.warmM hW h.2.1, zm_WD_moved hW.alike h.2.2⟩
theorem zm_SF_same {ad : Nat → Nat} {A : Nat → Prop} {u U : State} {H : Heap} (hvm : u.vm = U.vm) (h : zm_SF ad A u H) : zm_SF ad A U H := ⟨va_Nw.same rfl hvm h.1, va_Nw.same rfl hvm h.2.1, zm_WD_moved (by rw [hvm]; exact Vm.Alike.refl U.vm) h.2.2⟩
def zy_T : List Cond := lw_tbl.filter goodWord
theorem zy_mem {w : Cond} (h : w ∈ lw_tbl) (hg : goodWord w = true) : w ∈ zy_T := List.mem_filter.mpr ⟨h, hg⟩
theorem zy_good {w : Cond} (h : w ∈ zy_T) : w ∈ zy_T ∧ ((w.onTables && w.keeps) = true ∨ ∃ ty, w = .arrayClass ty) := ⟨h, good_of_word (List.mem_filter.mp h).2⟩
theorem zy_in0 : ∀ w ∈ wsX00, w ∈ zy_T := by decide +kernel
theorem zy_in1 : ∀ w ∈ wsX10, w ∈ zy_T := by decide +kernel
theorem zy_in2 : ∀ w ∈ wsX20, w ∈ zy_T := by decide +kernel
theorem zy_in3 : ∀ w ∈ wsX30, w ∈ zy_T := by decide +kernel
theorem zy_in4 : ∀ w ∈ wsX40, w ∈ zy_T := by decide +kernel
theorem zy_in5 : ∀ w ∈ wsX50, w ∈ zy_T := by decide +kernel
theorem zy_in6 : ∀ w ∈ wsX60, w ∈ zy_T := by decide +kernel
theorem zy_in7 : ∀ w ∈ wsX70, w ∈ zy_T := by decide +kernel
theorem zy_in8 : ∀ w ∈ wsX80, w ∈ zy_T := by decide +kernel
theorem zy_in9 : ∀ w ∈ wsX90, w ∈ zy_T := by decide +kernel
theorem zy_in10 : ∀ w ∈ wsX100, w ∈ zy_T := by decide +kernel
theorem zy_in11 : ∀ w ∈ wsX110, w ∈ zy_T := by decide +kernel
theorem zy_in12 : ∀ w ∈ wsX120, w ∈ zy_T := by decide +kernel
