/-! THE ABSTRACT MACHINE, 5: what was there before: the constants of the enum Token, its list, the map of the switches, the texts, the script. Their numbers: 0 the script, 1 .. 59 the constants, 60 their list, 61 the map, 62 .. the texts -/
def tk_E : String := "CascadeStore$Token"
def tk_d : String := "LCascadeStore$Token;"
def tk_n : List String := ["BAD", "END", "NAME", "NUMBER", "AFTER", "ALL", "AND", "BACK", "BEFORE", "BEGIN", "CASCADE", "CHECK", "COMMIT", "DEFAULT", "DELETE", "DO", "DROP", "INSERT", "IS", "LATE", "LET", "MARK", "MUST", "NEW", "NOT", "NOW", "NULL", "OLD", "ON", "OR", "PRIMARY", "RAISE", "REFER", "SET", "SOME", "STOP", "TABLE", "TO", "TRIGGER", "UNIQUE", "UPDATE", "WHEN", "WHERE", "OPEN", "CLOSE", "OPEN_SQUARE", "CLOSE_SQUARE", "COMMA", "DOT", "EQUAL", "UNLIKE", "LESS", "AT_MOST", "MORE", "AT_LEAST", "PLUS", "MINUS", "TIMES", "OVER"]
def tk_l : List Int64 := [0, 0, 0, 0, 418330731890, 6384748, 6385252, 1650549611, 108187649798757, 422608071022, 27973170910815333, 426953237355, 109330228406644, 28258988067220596, 110386773062757, 25711, 1685221232, 115923103347316, 26995, 1818326117, 7103860, 1835102827, 1836413812, 7234935, 7237492, 7237495, 1853189228, 7302244, 28526, 28530, 31650994523828857, 491260572517, 491327481202, 7562612, 1936682341, 1937010544, 499850046565, 29807, 32776894330398066, 129117075895653, 129125580895333, 2003330414, 512852587109, 40, 41, 91, 93, 44, 46, 61, 35, 60, 15421, 62, 15933, 43, 45, 42, 47]
def tk_s : List Int32 := [0, 0, 22, 20, 0, 0, 0, 6, 0, 3, 30, 27, 5, 31, 12, 0, 4, 10, 13, 8, 0, 7, 0, 23, 0, 9, 21, 24, 0, 0, 25, 0, 28, 0, 0, 29, 1, 0, 2, 26, 11, 0, 0, 0, 0, 0, 0, 0, 0, 14, 15, 16, 17, 18, 19, 0, 0, 0, 0]
def tx_l : List (Nat × Nat × String) := [(1, 86, "a fault in the text"), (6, 84, "the statement ends"), (0, 55, "n is not 1 .. 8"), (0, 66, "the tape has no room for these"), (0, 99, "there is no such thing to tell"), (0, 120, "there is no such thing to count"), (0, 122, "there is no such kind"), (0, 144, "there is no such table"), (0, 147, "there is no such thing to tell of a table"), (0, 166, "there is no such column"), (0, 171, "there is no such row"), (0, 185, "there is no such rule"), (0, 213, "there is no such thing to tell of a rule"), (0, 219, "there is no such trigger"), (0, 242, "there is no such thing to tell of a trigger")]
def ab_tk (sa : Nat → Nat) (A : Nat → Prop) (U : State) (Hs : Heap) : Prop := ∀ i, i < 59 → va_Z tk_E (tk_n.getD i "") tk_d (.ref (sa (1 + i))) A U Hs ∧ va_O tk_E (sa (1 + i)) A U Hs ∧ va_OF "java/lang/Enum" "ordinal" "I" (.int (nI i)) (sa (1 + i)) A U Hs ∧ va_OF tk_E "letters" "J" (.long (tk_l.getD i 0)) (sa (1 + i)) A U Hs
def ab_St (sa : Nat → Nat) (L : Nat) (xs : Nat → Int32) (A : Nat → Prop) (U : State) (Hs : Heap) : Prop :=
  ab_tk sa A U Hs ∧ (va_Z tk_E "KNOWN" "[LCascadeStore$Token;" (.ref (sa 60)) A U Hs ∧ va_T (.object tk_E) (sa 60) 59 (fun j => .ref (sa (1 + j))) A U Hs) ∧ (va_Z "CascadeStore$1" "$SwitchMap$CascadeStore$Token" "[I" (.ref (sa 61)) A U Hs ∧ va_T .int (sa 61) 59 (fun j => .int (tk_s.getD j 0)) A U Hs) ∧
  (va_Zq Bundle.tN "UNASSIGNED_STACK" Bundle.steD A U Hs ∧ va_Zq Bundle.tN "SUPPRESSED_SENTINEL" Bundle.listD A U Hs) ∧ (∀ i q, tx_l[i]? = some q → vk_R (own.getD q.1 "") q.2.1 q.2.2 (sa (62 + i)) U) ∧ (va_X (sa 0) L xs U Hs ∧ sa 0 < Hs.size ∧ ¬ A (sa 0))
theorem ab_St.warm {sa : Nat → Nat} {L : Nat} {xs : Nat → Int32} {A : Nat → Prop} {u U : State} {Hs : Heap} (hW : u.WarmedH U.vm) (h : ab_St sa L xs A u Hs) : ab_St sa L xs A U Hs := by
  obtain ⟨h1, ⟨h2, h3⟩, ⟨h4, h5⟩, ⟨h6, h7⟩, h8, h9, h10⟩ := h
  have hv := hW.alike
  exact ⟨fun i hi => ⟨va_Z.moved hv (h1 i hi).1, va_O.moved hv (h1 i hi).2.1, va_OF.moved hv (h1 i hi).2.2.1, va_OF.moved hv (h1 i hi).2.2.2⟩, ⟨va_Z.moved hv h2, va_T.moved hv h3⟩, ⟨va_Z.moved hv h4, va_T.moved hv h5⟩, ⟨va_Zq.moved hv h6, va_Zq.moved hv h7⟩, fun i q hq => vk_R.warm hW (h8 i q hq), va_X.moved hv h9, h10⟩
theorem ab_St.kept {sa : Nat → Nat} {L : Nat} {xs : Nat → Int32} {A : Nat → Prop} {U : State} {Hs H1 : Heap} (h : ab_St sa L xs A U Hs) (hz : Hs.size ≤ H1.size) (hq : ∀ a : Nat, a < Hs.size → ¬ A a → H1[a]? = Hs[a]?) : ab_St sa L xs A U H1 := by
  obtain ⟨h1, ⟨h2, h3⟩, ⟨h4, h5⟩, ⟨h6, h7⟩, h8, h9, h10, h11⟩ := h
  exact ⟨fun i hi => ⟨(h1 i hi).1.kept hq, (h1 i hi).2.1.kept hq, (h1 i hi).2.2.1.kept hq, (h1 i hi).2.2.2.kept hq⟩, ⟨h2.kept hq, h3.kept hq⟩, ⟨h4.kept hq, h5.kept hq⟩, ⟨h6.kept hq, h7.kept hq⟩, h8, h9.kept (hq _ h10 h11), Nat.lt_of_lt_of_le h10 hz, h11⟩
theorem ab_tk_inj {sa : Nat → Nat} {A : Nat → Prop} {U : State} {Hs : Heap} (h : ab_tk sa A U Hs) : ∀ i j, i < 59 → j < 59 → sa (1 + i) = sa (1 + j) → i = j := by
  intro i j hi hj e
  obtain ⟨cf, k, ix, f, cell, g1, g2, g3, g4, g5, g6⟩ := (h i hi).2.2.1
  obtain ⟨cf', k', ix', f', cell', g1', g2', g3', g4', g5', g6'⟩ := (h j hj).2.2.1
  have e1 : some (cf, k, ix, f) = some (cf', k', ix', f') := g1.symm.trans g1'
  cases e1
  rw [e] at g3
  cases g3.symm.trans g3'
  have e2 : (some (Value.int (nI i)) : Option Value) = some (.int (nI j)) := g5.symm.trans g5'
  have e3 : nI i = nI j := Value.int.inj (Option.some.inj e2)
  exact (nI_eq (by omega) (by omega)).mp e3
/-- links to statics: owner, index, the number of what it holds -/
def gs_1 : List (Nat × Nat × Nat) := [(0, 271, 37), (1, 33, 3), (1, 37, 2), (1, 40, 1), (1, 102, 4), (4, 53, 37), (4, 58, 39), (4, 107, 2), (4, 125, 44), (4, 135, 48), (4, 142, 45), (4, 149, 3), (4, 188, 20), (4, 204, 14), (4, 215, 23), (4, 224, 57), (4, 227, 4), (4, 240, 38), (4, 256, 15), (4, 265, 41), (4, 275, 5), (4, 278, 9), (4, 284, 29), (4, 293, 42), (4, 296, 16), (4, 299, 21), (4, 306, 32), (4, 330, 50), (4, 351, 43), (4, 362, 34), (4, 383, 6), (5, 91, 30), (5, 109, 7), (5, 112, 25), (5, 118, 46), (5, 121, 47), (5, 134, 27), (5, 141, 35), (5, 159, 56), (5, 162, 57), (5, 168, 58), (5, 171, 59), (5, 182, 24), (5, 188, 49), (5, 194, 44), (5, 197, 45), (5, 203, 3), (15, 10, 3)]
def gs_2 : List (Nat × Nat × Nat) := [(15, 214, 60)]
def gs_3 : List (Nat × Nat × Nat) := [(4, 65, 61), (5, 144, 61), (0, 254, 61)]
def gs : List (Nat × Nat × Nat) := gs_1 ++ (gs_2 ++ gs_3)
set_option maxRecDepth 40000 in
theorem gs_1_in : ∀ q ∈ gs_1, Cond.fieldLink (own.getD q.1 "") q.2.1 tk_E (tk_n.getD (q.2.2 - 1) "") tk_d ∈ lw_tbl := pl_all (f := fun q : Nat × Nat × Nat => Cond.fieldLink (own.getD q.1 "") q.2.1 tk_E (tk_n.getD (q.2.2 - 1) "") tk_d) [(6, 118), (3, 215), (3, 217), (3, 219), (4, 7), (4, 19), (4, 21), (6, 95), (4, 112), (5, 4), (5, 6), (4, 66), (5, 8), (4, 140), (4, 161), (4, 150), (4, 152), (5, 142), (5, 156), (5, 162), (5, 169), (5, 171), (5, 181), (5, 183), (5, 185), (5, 187), (6, 3), (5, 237), (6, 24), (6, 22), (6, 85), (5, 103), (5, 101), (5, 26), (5, 42), (5, 44), (5, 96), (5, 99), (5, 86), (5, 79), (5, 82), (5, 84), (5, 67), (5, 73), (5, 80), (5, 81), (5, 65), (4, 14)] rfl
theorem gs_1_t : ∀ q ∈ gs_1, 1 ≤ q.2.2 ∧ q.2.2 ≤ 59 := by decide
set_option maxRecDepth 40000 in
theorem gs_2_in : ∀ q ∈ gs_2, Cond.fieldLink (own.getD q.1 "") q.2.1 tk_E "KNOWN" "[LCascadeStore$Token;" ∈ lw_tbl := pl_all (f := fun q : Nat × Nat × Nat => Cond.fieldLink (own.getD q.1 "") q.2.1 tk_E "KNOWN" "[LCascadeStore$Token;") [(4, 12)] rfl
set_option maxRecDepth 40000 in
theorem gs_3_in : ∀ q ∈ gs_3, Cond.fieldLink (own.getD q.1 "") q.2.1 "CascadeStore$1" "$SwitchMap$CascadeStore$Token" "[I" ∈ lw_tbl := pl_all (f := fun q : Nat × Nat × Nat => Cond.fieldLink (own.getD q.1 "") q.2.1 "CascadeStore$1" "$SwitchMap$CascadeStore$Token" "[I") [(4, 49), (5, 59), (6, 116)] rfl
/-- long constants -/
def kl : List (Nat × Nat × Int64) := [(1, 98, 10), (1, 100, 48), (2, 82, -9223372036854775808), (3, 29, -9223372036854775808), (6, 173, -9223372036854775808), (6, 185, -9223372036854775807), (7, 74, -9223372036854775808), (8, 28, -9223372036854775808), (8, 42, -9223372036854775807), (8, 48, 2), (11, 208, 8), (11, 221, 255), (11, 236, 418330731890), (11, 238, 6384748), (11, 240, 6385252), (11, 242, 1650549611), (11, 244, 108187649798757), (11, 246, 422608071022), (11, 248, 27973170910815333), (11, 250, 426953237355), (11, 252, 109330228406644), (11, 254, 28258988067220596), (11, 256, 110386773062757), (11, 258, 25711), (11, 260, 1685221232), (11, 262, 115923103347316), (11, 264, 26995), (11, 266, 1818326117), (11, 268, 7103860), (11, 270, 1835102827), (11, 272, 1836413812), (11, 274, 7234935), (11, 276, 7237492), (11, 278, 7237495), (11, 280, 1853189228), (11, 282, 7302244), (11, 284, 28526), (11, 286, 28530), (11, 288, 31650994523828857), (11, 290, 491260572517), (11, 292, 491327481202), (11, 294, 7562612), (11, 296, 1936682341), (11, 298, 1937010544), (11, 300, 499850046565), (11, 302, 29807), (11, 304, 32776894330398066), (11, 306, 129117075895653), (11, 308, 129125580895333), (11, 310, 2003330414), (11, 312, 512852587109), (11, 346, 10), (11, 348, 48), (11, 481, -9223372036854775808), (11, 524, 61), (11, 526, 35), (11, 528, 60), (11, 530, 160), (11, 532, 62), (11, 534, 43), (11, 536, 45), (11, 538, 42), (11, 540, 47), (11, 665, 24), (11, 733, -1), (11, 756, 7), (11, 758, 6), (11, 760, 5), (11, 762, 4), (11, 764, 9), (11, 766, 23), (16, 52, 4294967295)]
set_option maxRecDepth 40000 in
theorem kl_in : ∀ q ∈ kl, Cond.constantLong (own.getD q.1 "") q.2.1 q.2.2 ∈ lw_tbl := pl_all (f := fun q : Nat × Nat × Int64 => Cond.constantLong (own.getD q.1 "") q.2.1 q.2.2) [(4, 1), (4, 2), (4, 139), (7, 52), (6, 162), (6, 194), (7, 39), (6, 167), (6, 193), (6, 178), (9, 122), (9, 130), (9, 177), (9, 178), (9, 179), (9, 180), (9, 181), (9, 182), (9, 183), (9, 184), (9, 185), (9, 186), (9, 187), (9, 188), (9, 189), (9, 190), (9, 191), (9, 192), (9, 193), (9, 194), (9, 195), (9, 196), (9, 197), (9, 198), (9, 199), (9, 200), (9, 201), (9, 202), (9, 203), (9, 204), (9, 205), (9, 206), (9, 207), (9, 208), (9, 209), (9, 210), (9, 211), (9, 212), (9, 213), (9, 214), (9, 215), (9, 220), (9, 221), (10, 21), (10, 193), (10, 194), (10, 195), (10, 196), (10, 197), (10, 186), (10, 187), (10, 188), (10, 189), (10, 158), (9, 135), (11, 86), (11, 91), (11, 100), (11, 101), (11, 102), (11, 111), (11, 124)] rfl
/-- where an exception is thrown: owner, index of its class, of its constructor, its class -/
def xs_l : List (Nat × Nat × Nat × Nat) := [(1, 84, 88, 12), (6, 56, 86, 12), (0, 64, 68, 12), (0, 53, 57, 13), (0, 142, 146, 14)]
def xs_n : List String := ["java/lang/RuntimeException", "java/lang/Exception"]
def xs_R (k : Nat) : String := match k with
  | 12 => R12
  | 13 => R13
  | _ => R14
def xs_h (w : Cond) : Bool := match w with
  | .isRef _ => true
  | _ => false
set_option maxRecDepth 40000 in
theorem xs_0 : ∀ w ∈ (Bundle.ownAtoms (own.getD 1 "") 88 (xs_R 12) xs_n).filter (fun w => !xs_h w), w ∈ lw_tbl := pl_mem [(1, 9), (2, 111), (2, 120), (2, 125), (2, 128), (2, 130), (2, 112), (2, 113), (1, 40), (1, 41), (2, 114), (2, 119), (2, 126), (3, 121), (2, 101), (3, 122), (2, 103), (3, 123), (2, 105), (2, 115), (2, 116), (2, 117), (2, 118), (2, 107), (3, 117), (3, 118), (3, 120), (2, 107), (4, 82), (4, 83), (4, 84), (3, 111), (2, 93), (3, 111), (3, 112), (3, 113), (3, 114), (2, 95), (3, 114), (3, 115), (3, 116), (3, 117), (2, 97), (4, 81), (4, 72), (4, 73), (4, 74), (2, 123), (4, 75), (4, 76), (4, 77), (4, 78), (2, 110), (2, 109), (4, 79)] rfl
theorem xs_0_c : Cond.classLink (own.getD 1 "") 84 (xs_R 12) ∈ lw_tbl ∧ Cond.initialized (xs_R 12) ∈ lw_tbl := ⟨pl_w_mem (q := (4, 71)) rfl, pl_w_mem (q := (1, 26)) rfl⟩
set_option maxRecDepth 40000 in
theorem xs_1 : ∀ w ∈ (Bundle.ownAtoms (own.getD 6 "") 86 (xs_R 12) xs_n).filter (fun w => !xs_h w), w ∈ lw_tbl := pl_mem [(1, 9), (2, 111), (2, 120), (2, 125), (2, 128), (2, 130), (2, 112), (2, 113), (1, 40), (1, 41), (2, 114), (2, 119), (2, 126), (3, 121), (2, 101), (3, 122), (2, 103), (3, 123), (2, 105), (2, 115), (2, 116), (2, 117), (2, 118), (2, 107), (3, 117), (3, 118), (3, 120), (2, 107), (4, 82), (4, 83), (4, 84), (3, 111), (2, 93), (3, 111), (3, 112), (3, 113), (3, 114), (2, 95), (3, 114), (3, 115), (3, 116), (3, 117), (2, 97), (6, 200), (4, 72), (4, 73), (4, 74), (2, 123), (4, 75), (4, 76), (4, 77), (4, 78), (2, 110), (2, 109), (4, 79)] rfl
theorem xs_1_c : Cond.classLink (own.getD 6 "") 56 (xs_R 12) ∈ lw_tbl ∧ Cond.initialized (xs_R 12) ∈ lw_tbl := ⟨pl_w_mem (q := (6, 136)) rfl, pl_w_mem (q := (1, 26)) rfl⟩
set_option maxRecDepth 40000 in
theorem xs_2 : ∀ w ∈ (Bundle.ownAtoms (own.getD 0 "") 68 (xs_R 12) xs_n).filter (fun w => !xs_h w), w ∈ lw_tbl := pl_mem [(1, 9), (2, 111), (2, 120), (2, 125), (2, 128), (2, 130), (2, 112), (2, 113), (1, 40), (1, 41), (2, 114), (2, 119), (2, 126), (3, 121), (2, 101), (3, 122), (2, 103), (3, 123), (2, 105), (2, 115), (2, 116), (2, 117), (2, 118), (2, 107), (3, 117), (3, 118), (3, 120), (2, 107), (4, 82), (4, 83), (4, 84), (3, 111), (2, 93), (3, 111), (3, 112), (3, 113), (3, 114), (2, 95), (3, 114), (3, 115), (3, 116), (3, 117), (2, 97), (7, 160), (4, 72), (4, 73), (4, 74), (2, 123), (4, 75), (4, 76), (4, 77), (4, 78), (2, 110), (2, 109), (4, 79)] rfl
theorem xs_2_c : Cond.classLink (own.getD 0 "") 64 (xs_R 12) ∈ lw_tbl ∧ Cond.initialized (xs_R 12) ∈ lw_tbl := ⟨pl_w_mem (q := (3, 198)) rfl, pl_w_mem (q := (1, 26)) rfl⟩
set_option maxRecDepth 40000 in
theorem xs_3 : ∀ w ∈ (Bundle.ownAtoms (own.getD 0 "") 57 (xs_R 13) xs_n).filter (fun w => !xs_h w), w ∈ lw_tbl := pl_mem [(1, 9), (2, 111), (2, 120), (2, 125), (2, 128), (2, 130), (2, 112), (2, 113), (1, 40), (1, 41), (2, 114), (2, 119), (2, 126), (3, 121), (2, 101), (3, 122), (2, 103), (3, 123), (2, 105), (2, 115), (2, 116), (2, 117), (2, 118), (2, 107), (3, 117), (3, 118), (3, 120), (2, 107), (3, 108), (3, 109), (3, 110), (3, 111), (2, 93), (3, 111), (3, 112), (3, 113), (3, 114), (2, 95), (3, 114), (3, 115), (3, 116), (3, 117), (2, 97), (7, 158), (2, 90), (2, 91), (2, 98), (2, 99), (2, 100), (2, 102), (2, 104), (2, 106), (2, 110), (2, 109), (2, 108)] rfl
theorem xs_3_c : Cond.classLink (own.getD 0 "") 53 (xs_R 13) ∈ lw_tbl ∧ Cond.initialized (xs_R 13) ∈ lw_tbl := ⟨pl_w_mem (q := (7, 156)) rfl, pl_w_mem (q := (1, 12)) rfl⟩
set_option maxRecDepth 40000 in
theorem xs_4 : ∀ w ∈ (Bundle.ownAtoms (own.getD 0 "") 146 (xs_R 14) xs_n).filter (fun w => !xs_h w), w ∈ lw_tbl := pl_mem [(1, 9), (2, 111), (2, 120), (2, 125), (2, 128), (2, 130), (2, 112), (2, 113), (1, 40), (1, 41), (2, 114), (2, 119), (2, 126), (3, 121), (2, 101), (3, 122), (2, 103), (3, 123), (2, 105), (2, 115), (2, 116), (2, 117), (2, 118), (2, 107), (3, 117), (3, 118), (3, 120), (2, 107), (3, 168), (3, 169), (3, 170), (3, 111), (2, 93), (3, 111), (3, 112), (3, 113), (3, 114), (2, 95), (3, 114), (3, 115), (3, 116), (3, 117), (2, 97), (7, 225), (7, 216), (7, 217), (7, 218), (2, 124), (7, 219), (7, 220), (7, 221), (7, 222), (2, 110), (2, 109), (7, 223)] rfl
theorem xs_4_c : Cond.classLink (own.getD 0 "") 142 (xs_R 14) ∈ lw_tbl ∧ Cond.initialized (xs_R 14) ∈ lw_tbl := ⟨pl_w_mem (q := (7, 215)) rfl, pl_w_mem (q := (1, 23)) rfl⟩
theorem xs_all : ∀ q ∈ xs_l, (∀ w ∈ (Bundle.ownAtoms (own.getD q.1 "") q.2.2.1 (xs_R q.2.2.2) xs_n).filter (fun w => !xs_h w), w ∈ lw_tbl) ∧ Cond.classLink (own.getD q.1 "") q.2.1 (xs_R q.2.2.2) ∈ lw_tbl ∧ Cond.initialized (xs_R q.2.2.2) ∈ lw_tbl := by
  intro q hq
  simp only [xs_l, List.mem_cons, List.not_mem_nil, or_false] at hq
  rcases hq with rfl | rfl | rfl | rfl | rfl
  · exact ⟨xs_0, xs_0_c⟩
  · exact ⟨xs_1, xs_1_c⟩
  · exact ⟨xs_2, xs_2_c⟩
  · exact ⟨xs_3, xs_3_c⟩
  · exact ⟨xs_4, xs_4_c⟩
