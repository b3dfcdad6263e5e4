/-! ===== printed: the layout of the cells: the reference (positions 0 ..), the class (from 15 on) ===== -/
def zy_N : Nat := 766
abbrev zy_cl : List vw_C := [(RX0, TX0, 2), (RX1, TX1, 10), (RX2, TX2, 4), (RX3, TX3, 11), (RX4, TX4, 4), (RX5, TX5, 11), (RX6, TX6, 13), (RX7, TX7, 6), (RX8, TX8, 5), (RX9, TX9, 0), (RX10, TX10, 13), (RX11, TX11, 10), (RX12, TX12, 35)]
def zy_l0 : List (Nat × Nat) := [(12, 35), (100, 4544), (100, 4544), (100, 2820), (100, 300), (100, 160), (100, 9), (103, 330), (102, 330), (100, 90), (100, 10), (100, 11), (100, 11), (100, 11), (100, 8), (11, 10)]
def zy_ls : List (Nat × Nat) := [(6, 13), (7, 6), (100, 10), (100, 10), (100, 10), (100, 10), (100, 10), (10, 13), (100, 10), (100, 10), (100, 10), (100, 10), (100, 10), (100, 10), (100, 10), (100, 10), (100, 120), (104, 30), (105, 4), (4, 4), (100, 8), (100, 8), (100, 10), (100, 8), (100, 8)]
def zy_ll : List (Nat × Nat) := [(1, 10), (100, 24), (100, 24), (100, 24), (100, 24), (100, 3), (100, 3), (100, 300), (100, 300)]
def zy_lw : List (Nat × Nat) := [(10, 13), (100, 10), (100, 10), (100, 10), (100, 10), (100, 10), (100, 10), (100, 10), (100, 10), (100, 120)]
def zy_lt : List (Nat × Nat) := [(10, 13), (100, 10), (100, 10), (100, 10), (100, 10), (100, 10), (100, 10), (100, 10), (100, 10), (100, 120), (2, 4), (100, 9), (100, 300), (0, 2), (8, 5), (100, 10), (100, 10), (100, 10), (100, 10), (3, 11), (100, 10), (100, 10), (100, 10), (5, 11), (106, 301), (100, 301), (100, 301), (101, 300)]
def zy_sv (r : Nat) : Nat × Nat := if r < 25 then zy_ls.getD r (999, 0) else if r < 61 then zy_ll.getD ((r - 25) % 9) (999, 0) else zy_lw.getD ((r - 61) % 10) (999, 0)
def zy_ly (p : Nat) : Nat × Nat := if p < 16 then zy_l0.getD p (999, 0) else if p < 738 then zy_sv ((p - 16) % 361) else zy_lt.getD (p - 738) (999, 0)
def zy_fl : List (List (Nat × Nat)) := [[(3, 17), (3, 748)], [(0, 0), (2, 1), (2, 2), (2, 3), (2, 4), (2, 5), (2, 6), (0, 0), (2, 7), (2, 8)], [(3, 17), (2, 1), (2, 2), (0, 0)], [(2, 1), (2, 2), (0, 0), (0, 0), (3, 17), (3, 748), (2, 3), (4, 0), (0, 0), (0, 0), (0, 0)], [(0, 0), (0, 0), (2, 1), (2, 2)], [(0, 1), (0, 0), (0, 0), (2, 1), (2, 2), (2, 3), (0, 0), (0, 0), (4, 0), (0, 0), (4, 0)], [(2, 1), (2, 7), (2, 17), (0, 0), (0, 0), (2, 18), (0, 0), (0, 0), (2, 19), (2, 22), (0, 0), (2, 23), (2, 24)], [(0, 0), (2, 1), (2, 2), (2, 3), (2, 4), (2, 5)], [(3, 17), (2, 1), (2, 2), (2, 3), (2, 4)], [], [(0, 0), (0, 0), (0, 0), (2, 1), (2, 2), (2, 3), (2, 4), (2, 5), (2, 6), (2, 7), (2, 8), (0, 0), (2, 9)], [(2, 1), (2, 362), (2, 723), (2, 733), (2, 736), (2, 737), (2, 742), (2, 746), (2, 750), (0, 0)], [(2, 1), (2, 2), (2, 3), (2, 4), (0, 0), (0, 0), (0, 0), (0, 0), (0, 0), (0, 0), (0, 0), (1, 0), (0, 0), (0, 0), (0, 0), (2, 5), (0, 0), (0, 0), (0, 1), (0, 0), (2, 6), (2, 7), (2, 8), (0, 1), (0, 0), (0, 0), (2, 9), (2, 10), (2, 11), (2, 12), (2, 13), (0, 0), (0, 0), (2, 14), (0, 0)]]
def zy_fk (ci k : Nat) : Nat × Nat := (zy_fl.getD ci []).getD k (9, 0)
/-- where the places of an array of references lead: 4 the Worlds of a Service, 5 its Laws -/
def zy_el (t p i : Nat) : Nat := if t = 4 then p + 44 + 10 * i else p + 7 + 9 * i
def zy_on (own : Nat) : String := match own with
  | 0 => RX0
  | 1 => RX1
  | 2 => RX2
  | 3 => RX3
  | 4 => RX4
  | 5 => RX5
  | 6 => RX6
  | 7 => RX7
  | 8 => RX8
  | 9 => RX9
  | 10 => RX10
  | 11 => RX11
  | 12 => RX12
  | 13 => RJ7
  | _ => RL
/-- what is known of constants that lie there from the start -/
def zm_SF (ad : Nat → Nat) (A : Nat → Prop) (U : State) (H : Heap) : Prop := va_Nw (.methodLinkNest RX6 79 yX11_within "ApologyUp") U ∧ va_Nw (.methodLinkNest RX5 125 yX11_within "ApologyUp") U
theorem zm_SF_kept {ad : Nat → Nat} {A : Nat → Prop} {U : State} {H H1 : Heap} (h : zm_SF ad A U H) (hs : H.size ≤ H1.size) (hk : ∀ q : Nat, q < H.size → ¬ A q → H1[q]? = H[q]?) : zm_SF ad A U H1 := h
theorem zm_SF_warm {ad : Nat → Nat} {A : Nat → Prop} {s U : State} {H : Heap} (hW : s.WarmedH U.vm) (h : zm_SF ad A s H) : zm_SF ad A U H := ⟨va_Nw.warmM hW h.1, va_Nw.warmM hW h.2⟩
theorem zm_SF_same {ad : Nat → Nat} {A : Nat → Prop} {u U : State} {H : Heap} (hvm : u.vm = U.vm) (h : zm_SF ad A u H) : zm_SF ad A U H := ⟨va_Nw.same rfl hvm h.1, va_Nw.same rfl hvm h.2⟩
def zy_T : List Cond := lw_tbl.filter goodWord
theorem zy_mem {w : Cond} (h : w ∈ lw_tbl) (hg : goodWord w = true) : w ∈ zy_T := List.mem_filter.mpr ⟨h, hg⟩
theorem zy_good {w : Cond} (h : w ∈ zy_T) : w ∈ zy_T ∧ ((w.onTables && w.keeps) = true ∨ ∃ ty, w = .arrayClass ty) := ⟨h, good_of_word (List.mem_filter.mp h).2⟩
theorem zy_in0 : ∀ w ∈ wsX00, w ∈ zy_T := by decide +kernel
theorem zy_in1 : ∀ w ∈ wsX10, w ∈ zy_T := by decide +kernel
theorem zy_in2 : ∀ w ∈ wsX20, w ∈ zy_T := by decide +kernel
theorem zy_in3 : ∀ w ∈ wsX30, w ∈ zy_T := by decide +kernel
theorem zy_in4 : ∀ w ∈ wsX40, w ∈ zy_T := by decide +kernel
theorem zy_in5 : ∀ w ∈ wsX50, w ∈ zy_T := by decide +kernel
theorem zy_in6 : ∀ w ∈ wsX60, w ∈ zy_T := by decide +kernel
theorem zy_in7 : ∀ w ∈ wsX70, w ∈ zy_T := by decide +kernel
theorem zy_in8 : ∀ w ∈ wsX80, w ∈ zy_T := by decide +kernel
theorem zy_in9 : ∀ w ∈ wsX90, w ∈ zy_T := by decide +kernel
theorem zy_in10 : ∀ w ∈ wsX100, w ∈ zy_T := by decide +kernel
theorem zy_in11 : ∀ w ∈ wsX110, w ∈ zy_T := by decide +kernel
theorem zy_in12 : ∀ w ∈ wsX120, w ∈ zy_T := by decide +kernel
