/-! THE OTHER SIDE'S TAPE, 1: bytes, letters, words and signs -/
section MTP
variable {L : Nat} {xs : Nat → Int32} {C : co_T} {t h : ab_H} {d sl n p b : Nat} {B : Nat → Nat}
def tpM (C : co_T) (B : Nat → Nat) (n : Nat) : Prop := C.1 76 2 = nI n ∧ n ≤ 600 ∧ ∀ i, i < n → B i < 256 ∧ C.1 77 i = nI (B i)
def bt (B : Nat → Nat) (n p : Nat) : Nat := if p < n then B p else 0
set_option maxRecDepth 100000 in
theorem bt_L : isL (bt B n p) = atL B n p := by
  unfold bt atL
  split
  · rename_i hp
    rw [decide_eq_true hp, Bool.true_and]
  · rename_i hp
    rw [decide_eq_false hp, Bool.false_and]
    rfl
set_option maxRecDepth 100000 in
theorem bt_F : isF (bt B n p) = atF B n p := by
  unfold bt atF
  split
  · rename_i hp
    rw [decide_eq_true hp, Bool.true_and]
  · rename_i hp
    rw [decide_eq_false hp, Bool.false_and]
    rfl
set_option maxRecDepth 100000 in
theorem bt_lt (T : tpM C B n) : bt B n p < 256 := by
  unfold bt
  split
  · rename_i hp
    exact (T.2.2 p hp).1
  · decide
def wl : List Int64 := [418330731890, 6384748, 6385252, 1650549611, 108187649798757, 422608071022, 27973170910815333, 426953237355, 109330228406644, 28258988067220596, 110386773062757, 25711, 1685221232, 115923103347316, 26995, 1818326117, 7103860, 1835102827, 1836413812, 7234935, 7237492, 7237495, 1853189228, 7302244, 28526, 28530, 31650994523828857, 491260572517, 491327481202, 7562612, 1936682341, 1937010544, 499850046565, 29807, 32776894330398066, 129117075895653, 129125580895333, 2003330414, 512852587109]
def isWd (w : Int64) : Bool := wl.contains w
def sgl : List Nat := [40, 41, 91, 93, 44, 46, 61, 35, 60, 62, 43, 45, 42, 47]
def isSg (b : Nat) : Bool := sgl.contains b
set_option maxRecDepth 100000 in
theorem m_196 (T : tpM C B n) (hp : p ≤ 601) : Wd L xs d y_196 (0, [(0, .ref 176), (1, .int (nI p))], [], MH C t, sl) (Rt (some (.int (nI (bt B n p)))) (MH C t) sl) nX := by
  have h6 := T.2.1
  unfold bt
  by_cases hn : p < n
  · rw [if_pos hn]
    refine w_p (pc1 := 1) rfl rfl ?_
    refine w_p (pc1 := 2) rfl rfl ?_
    refine w_m0 (pc1 := 5) (st1 := .int (nI (n)) :: _) rfl rfl (h_gIe rfl rfl rfl rfl rfl (T.1)) rfl ?_
    refine w_f (a := 17) (b := 8) (bN_ge_f (a := p) (b := n) (by omega) (by omega) (by omega)) rfl rfl ?_
    refine w_p (pc1 := 9) rfl rfl ?_
    refine w_m0 (pc1 := 12) rfl rfl (h_gC rfl rfl rfl rfl) rfl ?_
    refine w_p (pc1 := 13) rfl rfl ?_
    refine w_m0 (pc1 := 14) (st1 := .int (nI (B p)) :: _) rfl rfl (n_ile (e := p) rfl rfl rfl (by omega) ((T.2.2 p hn).2)) rfl ?_
    refine w_p (pc1 := 18) rfl rfl ?_
    refine w_r rfl rfl rfl (fun _ _ => rfl) cr_int ?_
    exact ⟨rfl, rfl, rfl⟩
  · rw [if_neg hn]
    refine w_p (pc1 := 1) rfl rfl ?_
    refine w_p (pc1 := 2) rfl rfl ?_
    refine w_m0 (pc1 := 5) (st1 := .int (nI (n)) :: _) rfl rfl (h_gIe rfl rfl rfl rfl rfl (T.1)) rfl ?_
    refine w_t (a := 17) (b := 8) (bN_ge_t (a := p) (b := n) (by omega) (by omega) (by omega)) rfl rfl ?_
    refine w_p (pc1 := 18) (st1 := .int 0 :: _) rfl rfl ?_
    refine w_r rfl rfl rfl (fun _ _ => rfl) cr_int ?_
    exact ⟨rfl, rfl, rfl⟩
set_option maxRecDepth 100000 in
theorem m_197t (hb : b < 256) (h1 : isL b = true) : Wd L xs d y_197 (0, [(0, .int (nI b))], [], h, sl) (Rt (some (.int 1)) h sl) nX := by
  have h2 : 97 ≤ b ∧ b ≤ 122 := by simpa [isL] using h1
  refine w_p (pc1 := 1) rfl rfl ?_
  refine w_p (pc1 := 3) (st1 := .int 97 :: _) rfl rfl ?_
  refine w_f (a := 16) (b := 6) (bN_lt_f (a := b) (b := 97) (by omega) (by omega) (by omega)) rfl rfl ?_
  refine w_p (pc1 := 7) rfl rfl ?_
  refine w_p (pc1 := 9) (st1 := .int 122 :: _) rfl rfl ?_
  refine w_f (a := 16) (b := 12) (bN_gt_f (a := b) (b := 122) (by omega) (by omega) (by omega)) rfl rfl ?_
  refine w_p (pc1 := 13) (st1 := .int 1 :: _) rfl rfl ?_
  refine w_p (pc1 := 17) rfl rfl ?_
  refine w_r rfl rfl rfl (fun _ _ => rfl) rfl ?_
  exact ⟨rfl, rfl, rfl⟩
set_option maxRecDepth 100000 in
theorem m_197f (hb : b < 256) (h1 : isL b = false) : Wd L xs d y_197 (0, [(0, .int (nI b))], [], h, sl) (Rt (some (.int 0)) h sl) nX := by
  by_cases h2 : 97 ≤ b
  · have h3 : 122 < b := by
      simp only [isL, Bool.and_eq_false_iff, decide_eq_false_iff_not] at h1
      omega
    refine w_p (pc1 := 1) rfl rfl ?_
    refine w_p (pc1 := 3) (st1 := .int 97 :: _) rfl rfl ?_
    refine w_f (a := 16) (b := 6) (bN_lt_f (a := b) (b := 97) (by omega) (by omega) (by omega)) rfl rfl ?_
    refine w_p (pc1 := 7) rfl rfl ?_
    refine w_p (pc1 := 9) (st1 := .int 122 :: _) rfl rfl ?_
    refine w_t (a := 16) (b := 12) (bN_gt_t (a := b) (b := 122) (by omega) (by omega) (by omega)) rfl rfl ?_
    refine w_p (pc1 := 17) (st1 := .int 0 :: _) rfl rfl ?_
    refine w_r rfl rfl rfl (fun _ _ => rfl) rfl ?_
    exact ⟨rfl, rfl, rfl⟩
  · skip
    refine w_p (pc1 := 1) rfl rfl ?_
    refine w_p (pc1 := 3) (st1 := .int 97 :: _) rfl rfl ?_
    refine w_t (a := 16) (b := 6) (bN_lt_t (a := b) (b := 97) (by omega) (by omega) (by omega)) rfl rfl ?_
    refine w_p (pc1 := 17) (st1 := .int 0 :: _) rfl rfl ?_
    refine w_r rfl rfl rfl (fun _ _ => rfl) rfl ?_
    exact ⟨rfl, rfl, rfl⟩
set_option maxRecDepth 100000 in
theorem m_199t (hb : b < 256) (h1 : isF b = true) : Wd L xs d y_199 (0, [(0, .int (nI b))], [], h, sl) (Rt (some (.int 1)) h sl) nX := by
  have h2 : 48 ≤ b ∧ b ≤ 57 := by simpa [isF] using h1
  refine w_p (pc1 := 1) rfl rfl ?_
  refine w_p (pc1 := 3) (st1 := .int 48 :: _) rfl rfl ?_
  refine w_f (a := 16) (b := 6) (bN_lt_f (a := b) (b := 48) (by omega) (by omega) (by omega)) rfl rfl ?_
  refine w_p (pc1 := 7) rfl rfl ?_
  refine w_p (pc1 := 9) (st1 := .int 57 :: _) rfl rfl ?_
  refine w_f (a := 16) (b := 12) (bN_gt_f (a := b) (b := 57) (by omega) (by omega) (by omega)) rfl rfl ?_
  refine w_p (pc1 := 13) (st1 := .int 1 :: _) rfl rfl ?_
  refine w_p (pc1 := 17) rfl rfl ?_
  refine w_r rfl rfl rfl (fun _ _ => rfl) rfl ?_
  exact ⟨rfl, rfl, rfl⟩
set_option maxRecDepth 100000 in
theorem m_199f (hb : b < 256) (h1 : isF b = false) : Wd L xs d y_199 (0, [(0, .int (nI b))], [], h, sl) (Rt (some (.int 0)) h sl) nX := by
  by_cases h2 : 48 ≤ b
  · have h3 : 57 < b := by
      simp only [isF, Bool.and_eq_false_iff, decide_eq_false_iff_not] at h1
      omega
    refine w_p (pc1 := 1) rfl rfl ?_
    refine w_p (pc1 := 3) (st1 := .int 48 :: _) rfl rfl ?_
    refine w_f (a := 16) (b := 6) (bN_lt_f (a := b) (b := 48) (by omega) (by omega) (by omega)) rfl rfl ?_
    refine w_p (pc1 := 7) rfl rfl ?_
    refine w_p (pc1 := 9) (st1 := .int 57 :: _) rfl rfl ?_
    refine w_t (a := 16) (b := 12) (bN_gt_t (a := b) (b := 57) (by omega) (by omega) (by omega)) rfl rfl ?_
    refine w_p (pc1 := 17) (st1 := .int 0 :: _) rfl rfl ?_
    refine w_r rfl rfl rfl (fun _ _ => rfl) rfl ?_
    exact ⟨rfl, rfl, rfl⟩
  · skip
    refine w_p (pc1 := 1) rfl rfl ?_
    refine w_p (pc1 := 3) (st1 := .int 48 :: _) rfl rfl ?_
    refine w_t (a := 16) (b := 6) (bN_lt_t (a := b) (b := 48) (by omega) (by omega) (by omega)) rfl rfl ?_
    refine w_p (pc1 := 17) (st1 := .int 0 :: _) rfl rfl ?_
    refine w_r rfl rfl rfl (fun _ _ => rfl) rfl ?_
    exact ⟨rfl, rfl, rfl⟩
set_option maxHeartbeats 8000000 in
set_option maxRecDepth 100000 in
theorem m_202t {w : Int64} (hw : isWd w = true) : Wd L xs d y_202 (0, [(0, .long w)], [], h, sl) (Rt (some (.int 1)) h sl) nX := by
  have hw2 : w ∈ wl := List.contains_iff_mem.mp hw
  simp only [wl, List.mem_cons, List.not_mem_nil, or_false] at hw2
  rcases hw2 with rfl | rfl | rfl | rfl | rfl | rfl | rfl | rfl | rfl | rfl | rfl | rfl | rfl | rfl | rfl | rfl | rfl | rfl | rfl | rfl | rfl | rfl | rfl | rfl | rfl | rfl | rfl | rfl | rfl | rfl | rfl | rfl | rfl | rfl | rfl | rfl | rfl | rfl | rfl
  · skip
    refine w_p (pc1 := 1) rfl rfl ?_
    refine w_m0 (pc1 := 4) (st1 := .long 418330731890 :: _) rfl rfl rfl rfl ?_
    refine w_p (pc1 := 5) (st1 := .int 0 :: _) rfl rfl ?_
    refine w_t (a := 80) (b := 8) rfl rfl rfl ?_
    refine w_p (pc1 := 81) (st1 := .int 1 :: _) rfl rfl ?_
    refine w_p (pc1 := 85) rfl rfl ?_
    refine w_p (pc1 := 86) (al1 := [(2, .int 1), (0, .long 418330731890)]) rfl rfl ?_
    refine w_p (pc1 := 87) rfl rfl ?_
    refine w_m0 (pc1 := 90) (st1 := .long 110386773062757 :: _) rfl rfl rfl rfl ?_
    refine w_p (pc1 := 91) (st1 := .int (-1) :: _) rfl rfl ?_
    refine w_f (a := 166) (b := 94) rfl rfl rfl ?_
    refine w_p (pc1 := 95) rfl rfl ?_
    refine w_m0 (pc1 := 98) (st1 := .long 25711 :: _) rfl rfl rfl rfl ?_
    refine w_p (pc1 := 99) (st1 := .int 1 :: _) rfl rfl ?_
    refine w_f (a := 166) (b := 102) rfl rfl rfl ?_
    refine w_p (pc1 := 103) rfl rfl ?_
    refine w_m0 (pc1 := 106) (st1 := .long 1685221232 :: _) rfl rfl rfl rfl ?_
    refine w_p (pc1 := 107) (st1 := .int 1 :: _) rfl rfl ?_
    refine w_f (a := 166) (b := 110) rfl rfl rfl ?_
    refine w_p (pc1 := 111) rfl rfl ?_
    refine w_m0 (pc1 := 114) (st1 := .long 115923103347316 :: _) rfl rfl rfl rfl ?_
    refine w_p (pc1 := 115) (st1 := .int (-1) :: _) rfl rfl ?_
    refine w_f (a := 166) (b := 118) rfl rfl rfl ?_
    refine w_p (pc1 := 119) rfl rfl ?_
    refine w_m0 (pc1 := 122) (st1 := .long 26995 :: _) rfl rfl rfl rfl ?_
    refine w_p (pc1 := 123) (st1 := .int 1 :: _) rfl rfl ?_
    refine w_f (a := 166) (b := 126) rfl rfl rfl ?_
    refine w_p (pc1 := 127) rfl rfl ?_
    refine w_m0 (pc1 := 130) (st1 := .long 1818326117 :: _) rfl rfl rfl rfl ?_
    refine w_p (pc1 := 131) (st1 := .int 1 :: _) rfl rfl ?_
    refine w_f (a := 166) (b := 134) rfl rfl rfl ?_
    refine w_p (pc1 := 135) rfl rfl ?_
    refine w_m0 (pc1 := 138) (st1 := .long 7103860 :: _) rfl rfl rfl rfl ?_
    refine w_p (pc1 := 139) (st1 := .int 1 :: _) rfl rfl ?_
    refine w_f (a := 166) (b := 142) rfl rfl rfl ?_
    refine w_p (pc1 := 143) rfl rfl ?_
    refine w_m0 (pc1 := 146) (st1 := .long 1835102827 :: _) rfl rfl rfl rfl ?_
    refine w_p (pc1 := 147) (st1 := .int 1 :: _) rfl rfl ?_
    refine w_f (a := 166) (b := 150) rfl rfl rfl ?_
    refine w_p (pc1 := 151) rfl rfl ?_
    refine w_m0 (pc1 := 154) (st1 := .long 1836413812 :: _) rfl rfl rfl rfl ?_
    refine w_p (pc1 := 155) (st1 := .int 1 :: _) rfl rfl ?_
    refine w_f (a := 166) (b := 158) rfl rfl rfl ?_
    refine w_p (pc1 := 159) rfl rfl ?_
    refine w_m0 (pc1 := 162) (st1 := .long 7234935 :: _) rfl rfl rfl rfl ?_
    refine w_p (pc1 := 163) (st1 := .int 1 :: _) rfl rfl ?_
    refine w_t (a := 170) (b := 166) rfl rfl rfl ?_
    refine w_p (pc1 := 171) (st1 := .int 0 :: _) rfl rfl ?_
    refine w_p (pc1 := 172) (al1 := [(3, .int 0), (2, .int 1), (0, .long 418330731890)]) rfl rfl ?_
    refine w_p (pc1 := 173) rfl rfl ?_
    refine w_m0 (pc1 := 176) (st1 := .long 7237492 :: _) rfl rfl rfl rfl ?_
    refine w_p (pc1 := 177) (st1 := .int 1 :: _) rfl rfl ?_
    refine w_f (a := 252) (b := 180) rfl rfl rfl ?_
    refine w_p (pc1 := 181) rfl rfl ?_
    refine w_m0 (pc1 := 184) (st1 := .long 7237495 :: _) rfl rfl rfl rfl ?_
    refine w_p (pc1 := 185) (st1 := .int 1 :: _) rfl rfl ?_
    refine w_f (a := 252) (b := 188) rfl rfl rfl ?_
    refine w_p (pc1 := 189) rfl rfl ?_
    refine w_m0 (pc1 := 192) (st1 := .long 1853189228 :: _) rfl rfl rfl rfl ?_
    refine w_p (pc1 := 193) (st1 := .int 1 :: _) rfl rfl ?_
    refine w_f (a := 252) (b := 196) rfl rfl rfl ?_
    refine w_p (pc1 := 197) rfl rfl ?_
    refine w_m0 (pc1 := 200) (st1 := .long 7302244 :: _) rfl rfl rfl rfl ?_
    refine w_p (pc1 := 201) (st1 := .int 1 :: _) rfl rfl ?_
    refine w_f (a := 252) (b := 204) rfl rfl rfl ?_
    refine w_p (pc1 := 205) rfl rfl ?_
    refine w_m0 (pc1 := 208) (st1 := .long 28526 :: _) rfl rfl rfl rfl ?_
    refine w_p (pc1 := 209) (st1 := .int 1 :: _) rfl rfl ?_
    refine w_f (a := 252) (b := 212) rfl rfl rfl ?_
    refine w_p (pc1 := 213) rfl rfl ?_
    refine w_m0 (pc1 := 216) (st1 := .long 28530 :: _) rfl rfl rfl rfl ?_
    refine w_p (pc1 := 217) (st1 := .int 1 :: _) rfl rfl ?_
    refine w_f (a := 252) (b := 220) rfl rfl rfl ?_
    refine w_p (pc1 := 221) rfl rfl ?_
    refine w_m0 (pc1 := 224) (st1 := .long 31650994523828857 :: _) rfl rfl rfl rfl ?_
    refine w_p (pc1 := 225) (st1 := .int (-1) :: _) rfl rfl ?_
    refine w_f (a := 252) (b := 228) rfl rfl rfl ?_
    refine w_p (pc1 := 229) rfl rfl ?_
    refine w_m0 (pc1 := 232) (st1 := .long 491260572517 :: _) rfl rfl rfl rfl ?_
    refine w_p (pc1 := 233) (st1 := .int (-1) :: _) rfl rfl ?_
    refine w_f (a := 252) (b := 236) rfl rfl rfl ?_
    refine w_p (pc1 := 237) rfl rfl ?_
    refine w_m0 (pc1 := 240) (st1 := .long 491327481202 :: _) rfl rfl rfl rfl ?_
    refine w_p (pc1 := 241) (st1 := .int (-1) :: _) rfl rfl ?_
    refine w_f (a := 252) (b := 244) rfl rfl rfl ?_
    refine w_p (pc1 := 245) rfl rfl ?_
    refine w_m0 (pc1 := 248) (st1 := .long 7562612 :: _) rfl rfl rfl rfl ?_
    refine w_p (pc1 := 249) (st1 := .int 1 :: _) rfl rfl ?_
    refine w_t (a := 256) (b := 252) rfl rfl rfl ?_
    refine w_p (pc1 := 257) (st1 := .int 0 :: _) rfl rfl ?_
    refine w_p (pc1 := 259) (al1 := [(4, .int 0), (3, .int 0), (2, .int 1), (0, .long 418330731890)]) rfl rfl ?_
    refine w_p (pc1 := 260) rfl rfl ?_
    refine w_t (a := 344) (b := 263) rfl rfl rfl ?_
    refine w_p (pc1 := 345) (st1 := .int 1 :: _) rfl rfl ?_
    refine w_p (pc1 := 349) rfl rfl ?_
    refine w_r rfl rfl rfl (fun _ _ => rfl) rfl ?_
    exact ⟨rfl, rfl, rfl⟩
  · skip
    refine w_p (pc1 := 1) rfl rfl ?_
    refine w_m0 (pc1 := 4) (st1 := .long 418330731890 :: _) rfl rfl rfl rfl ?_
    refine w_p (pc1 := 5) (st1 := .int (-1) :: _) rfl rfl ?_
    refine w_f (a := 80) (b := 8) rfl rfl rfl ?_
    refine w_p (pc1 := 9) rfl rfl ?_
    refine w_m0 (pc1 := 12) (st1 := .long 6384748 :: _) rfl rfl rfl rfl ?_
    refine w_p (pc1 := 13) (st1 := .int 0 :: _) rfl rfl ?_
    refine w_t (a := 80) (b := 16) rfl rfl rfl ?_
    refine w_p (pc1 := 81) (st1 := .int 1 :: _) rfl rfl ?_
    refine w_p (pc1 := 85) rfl rfl ?_
    refine w_p (pc1 := 86) (al1 := [(2, .int 1), (0, .long 6384748)]) rfl rfl ?_
    refine w_p (pc1 := 87) rfl rfl ?_
    refine w_m0 (pc1 := 90) (st1 := .long 110386773062757 :: _) rfl rfl rfl rfl ?_
    refine w_p (pc1 := 91) (st1 := .int (-1) :: _) rfl rfl ?_
    refine w_f (a := 166) (b := 94) rfl rfl rfl ?_
    refine w_p (pc1 := 95) rfl rfl ?_
    refine w_m0 (pc1 := 98) (st1 := .long 25711 :: _) rfl rfl rfl rfl ?_
    refine w_p (pc1 := 99) (st1 := .int 1 :: _) rfl rfl ?_
    refine w_f (a := 166) (b := 102) rfl rfl rfl ?_
    refine w_p (pc1 := 103) rfl rfl ?_
    refine w_m0 (pc1 := 106) (st1 := .long 1685221232 :: _) rfl rfl rfl rfl ?_
    refine w_p (pc1 := 107) (st1 := .int (-1) :: _) rfl rfl ?_
    refine w_f (a := 166) (b := 110) rfl rfl rfl ?_
    refine w_p (pc1 := 111) rfl rfl ?_
    refine w_m0 (pc1 := 114) (st1 := .long 115923103347316 :: _) rfl rfl rfl rfl ?_
    refine w_p (pc1 := 115) (st1 := .int (-1) :: _) rfl rfl ?_
    refine w_f (a := 166) (b := 118) rfl rfl rfl ?_
    refine w_p (pc1 := 119) rfl rfl ?_
    refine w_m0 (pc1 := 122) (st1 := .long 26995 :: _) rfl rfl rfl rfl ?_
    refine w_p (pc1 := 123) (st1 := .int 1 :: _) rfl rfl ?_
    refine w_f (a := 166) (b := 126) rfl rfl rfl ?_
    refine w_p (pc1 := 127) rfl rfl ?_
    refine w_m0 (pc1 := 130) (st1 := .long 1818326117 :: _) rfl rfl rfl rfl ?_
    refine w_p (pc1 := 131) (st1 := .int (-1) :: _) rfl rfl ?_
    refine w_f (a := 166) (b := 134) rfl rfl rfl ?_
    refine w_p (pc1 := 135) rfl rfl ?_
    refine w_m0 (pc1 := 138) (st1 := .long 7103860 :: _) rfl rfl rfl rfl ?_
    refine w_p (pc1 := 139) (st1 := .int (-1) :: _) rfl rfl ?_
    refine w_f (a := 166) (b := 142) rfl rfl rfl ?_
    refine w_p (pc1 := 143) rfl rfl ?_
    refine w_m0 (pc1 := 146) (st1 := .long 1835102827 :: _) rfl rfl rfl rfl ?_
    refine w_p (pc1 := 147) (st1 := .int (-1) :: _) rfl rfl ?_
    refine w_f (a := 166) (b := 150) rfl rfl rfl ?_
    refine w_p (pc1 := 151) rfl rfl ?_
    refine w_m0 (pc1 := 154) (st1 := .long 1836413812 :: _) rfl rfl rfl rfl ?_
    refine w_p (pc1 := 155) (st1 := .int (-1) :: _) rfl rfl ?_
    refine w_f (a := 166) (b := 158) rfl rfl rfl ?_
    refine w_p (pc1 := 159) rfl rfl ?_
    refine w_m0 (pc1 := 162) (st1 := .long 7234935 :: _) rfl rfl rfl rfl ?_
    refine w_p (pc1 := 163) (st1 := .int (-1) :: _) rfl rfl ?_
    refine w_t (a := 170) (b := 166) rfl rfl rfl ?_
    refine w_p (pc1 := 171) (st1 := .int 0 :: _) rfl rfl ?_
    refine w_p (pc1 := 172) (al1 := [(3, .int 0), (2, .int 1), (0, .long 6384748)]) rfl rfl ?_
    refine w_p (pc1 := 173) rfl rfl ?_
    refine w_m0 (pc1 := 176) (st1 := .long 7237492 :: _) rfl rfl rfl rfl ?_
    refine w_p (pc1 := 177) (st1 := .int (-1) :: _) rfl rfl ?_
    refine w_f (a := 252) (b := 180) rfl rfl rfl ?_
    refine w_p (pc1 := 181) rfl rfl ?_
    refine w_m0 (pc1 := 184) (st1 := .long 7237495 :: _) rfl rfl rfl rfl ?_
    refine w_p (pc1 := 185) (st1 := .int (-1) :: _) rfl rfl ?_
    refine w_f (a := 252) (b := 188) rfl rfl rfl ?_
    refine w_p (pc1 := 189) rfl rfl ?_
    refine w_m0 (pc1 := 192) (st1 := .long 1853189228 :: _) rfl rfl rfl rfl ?_
    refine w_p (pc1 := 193) (st1 := .int (-1) :: _) rfl rfl ?_
    refine w_f (a := 252) (b := 196) rfl rfl rfl ?_
    refine w_p (pc1 := 197) rfl rfl ?_
    refine w_m0 (pc1 := 200) (st1 := .long 7302244 :: _) rfl rfl rfl rfl ?_
    refine w_p (pc1 := 201) (st1 := .int (-1) :: _) rfl rfl ?_
    refine w_f (a := 252) (b := 204) rfl rfl rfl ?_
    refine w_p (pc1 := 205) rfl rfl ?_
    refine w_m0 (pc1 := 208) (st1 := .long 28526 :: _) rfl rfl rfl rfl ?_
    refine w_p (pc1 := 209) (st1 := .int 1 :: _) rfl rfl ?_
    refine w_f (a := 252) (b := 212) rfl rfl rfl ?_
    refine w_p (pc1 := 213) rfl rfl ?_
    refine w_m0 (pc1 := 216) (st1 := .long 28530 :: _) rfl rfl rfl rfl ?_
    refine w_p (pc1 := 217) (st1 := .int 1 :: _) rfl rfl ?_
    refine w_f (a := 252) (b := 220) rfl rfl rfl ?_
    refine w_p (pc1 := 221) rfl rfl ?_
    refine w_m0 (pc1 := 224) (st1 := .long 31650994523828857 :: _) rfl rfl rfl rfl ?_
    refine w_p (pc1 := 225) (st1 := .int (-1) :: _) rfl rfl ?_
    refine w_f (a := 252) (b := 228) rfl rfl rfl ?_
    refine w_p (pc1 := 229) rfl rfl ?_
    refine w_m0 (pc1 := 232) (st1 := .long 491260572517 :: _) rfl rfl rfl rfl ?_
    refine w_p (pc1 := 233) (st1 := .int (-1) :: _) rfl rfl ?_
    refine w_f (a := 252) (b := 236) rfl rfl rfl ?_
    refine w_p (pc1 := 237) rfl rfl ?_
    refine w_m0 (pc1 := 240) (st1 := .long 491327481202 :: _) rfl rfl rfl rfl ?_
    refine w_p (pc1 := 241) (st1 := .int (-1) :: _) rfl rfl ?_
    refine w_f (a := 252) (b := 244) rfl rfl rfl ?_
    refine w_p (pc1 := 245) rfl rfl ?_
    refine w_m0 (pc1 := 248) (st1 := .long 7562612 :: _) rfl rfl rfl rfl ?_
    refine w_p (pc1 := 249) (st1 := .int (-1) :: _) rfl rfl ?_
    refine w_t (a := 256) (b := 252) rfl rfl rfl ?_
    refine w_p (pc1 := 257) (st1 := .int 0 :: _) rfl rfl ?_
    refine w_p (pc1 := 259) (al1 := [(4, .int 0), (3, .int 0), (2, .int 1), (0, .long 6384748)]) rfl rfl ?_
    refine w_p (pc1 := 260) rfl rfl ?_
    refine w_t (a := 344) (b := 263) rfl rfl rfl ?_
    refine w_p (pc1 := 345) (st1 := .int 1 :: _) rfl rfl ?_
    refine w_p (pc1 := 349) rfl rfl ?_
    refine w_r rfl rfl rfl (fun _ _ => rfl) rfl ?_
    exact ⟨rfl, rfl, rfl⟩
  · skip
    refine w_p (pc1 := 1) rfl rfl ?_
    refine w_m0 (pc1 := 4) (st1 := .long 418330731890 :: _) rfl rfl rfl rfl ?_
    refine w_p (pc1 := 5) (st1 := .int (-1) :: _) rfl rfl ?_
    refine w_f (a := 80) (b := 8) rfl rfl rfl ?_
    refine w_p (pc1 := 9) rfl rfl ?_
    refine w_m0 (pc1 := 12) (st1 := .long 6384748 :: _) rfl rfl rfl rfl ?_
    refine w_p (pc1 := 13) (st1 := .int 1 :: _) rfl rfl ?_
    refine w_f (a := 80) (b := 16) rfl rfl rfl ?_
    refine w_p (pc1 := 17) rfl rfl ?_
    refine w_m0 (pc1 := 20) (st1 := .long 6385252 :: _) rfl rfl rfl rfl ?_
    refine w_p (pc1 := 21) (st1 := .int 0 :: _) rfl rfl ?_
    refine w_t (a := 80) (b := 24) rfl rfl rfl ?_
    refine w_p (pc1 := 81) (st1 := .int 1 :: _) rfl rfl ?_
    refine w_p (pc1 := 85) rfl rfl ?_
    refine w_p (pc1 := 86) (al1 := [(2, .int 1), (0, .long 6385252)]) rfl rfl ?_
    refine w_p (pc1 := 87) rfl rfl ?_
    refine w_m0 (pc1 := 90) (st1 := .long 110386773062757 :: _) rfl rfl rfl rfl ?_
    refine w_p (pc1 := 91) (st1 := .int (-1) :: _) rfl rfl ?_
    refine w_f (a := 166) (b := 94) rfl rfl rfl ?_
    refine w_p (pc1 := 95) rfl rfl ?_
    refine w_m0 (pc1 := 98) (st1 := .long 25711 :: _) rfl rfl rfl rfl ?_
    refine w_p (pc1 := 99) (st1 := .int 1 :: _) rfl rfl ?_
    refine w_f (a := 166) (b := 102) rfl rfl rfl ?_
    refine w_p (pc1 := 103) rfl rfl ?_
    refine w_m0 (pc1 := 106) (st1 := .long 1685221232 :: _) rfl rfl rfl rfl ?_
    refine w_p (pc1 := 107) (st1 := .int (-1) :: _) rfl rfl ?_
    refine w_f (a := 166) (b := 110) rfl rfl rfl ?_
    refine w_p (pc1 := 111) rfl rfl ?_
    refine w_m0 (pc1 := 114) (st1 := .long 115923103347316 :: _) rfl rfl rfl rfl ?_
    refine w_p (pc1 := 115) (st1 := .int (-1) :: _) rfl rfl ?_
    refine w_f (a := 166) (b := 118) rfl rfl rfl ?_
    refine w_p (pc1 := 119) rfl rfl ?_
    refine w_m0 (pc1 := 122) (st1 := .long 26995 :: _) rfl rfl rfl rfl ?_
    refine w_p (pc1 := 123) (st1 := .int 1 :: _) rfl rfl ?_
    refine w_f (a := 166) (b := 126) rfl rfl rfl ?_
    refine w_p (pc1 := 127) rfl rfl ?_
    refine w_m0 (pc1 := 130) (st1 := .long 1818326117 :: _) rfl rfl rfl rfl ?_
    refine w_p (pc1 := 131) (st1 := .int (-1) :: _) rfl rfl ?_
    refine w_f (a := 166) (b := 134) rfl rfl rfl ?_
    refine w_p (pc1 := 135) rfl rfl ?_
    refine w_m0 (pc1 := 138) (st1 := .long 7103860 :: _) rfl rfl rfl rfl ?_
    refine w_p (pc1 := 139) (st1 := .int (-1) :: _) rfl rfl ?_
    refine w_f (a := 166) (b := 142) rfl rfl rfl ?_
    refine w_p (pc1 := 143) rfl rfl ?_
    refine w_m0 (pc1 := 146) (st1 := .long 1835102827 :: _) rfl rfl rfl rfl ?_
    refine w_p (pc1 := 147) (st1 := .int (-1) :: _) rfl rfl ?_
    refine w_f (a := 166) (b := 150) rfl rfl rfl ?_
    refine w_p (pc1 := 151) rfl rfl ?_
    refine w_m0 (pc1 := 154) (st1 := .long 1836413812 :: _) rfl rfl rfl rfl ?_
    refine w_p (pc1 := 155) (st1 := .int (-1) :: _) rfl rfl ?_
    refine w_f (a := 166) (b := 158) rfl rfl rfl ?_
    refine w_p (pc1 := 159) rfl rfl ?_
    refine w_m0 (pc1 := 162) (st1 := .long 7234935 :: _) rfl rfl rfl rfl ?_
    refine w_p (pc1 := 163) (st1 := .int (-1) :: _) rfl rfl ?_
    refine w_t (a := 170) (b := 166) rfl rfl rfl ?_
    refine w_p (pc1 := 171) (st1 := .int 0 :: _) rfl rfl ?_
    refine w_p (pc1 := 172) (al1 := [(3, .int 0), (2, .int 1), (0, .long 6385252)]) rfl rfl ?_
    refine w_p (pc1 := 173) rfl rfl ?_
    refine w_m0 (pc1 := 176) (st1 := .long 7237492 :: _) rfl rfl rfl rfl ?_
    refine w_p (pc1 := 177) (st1 := .int (-1) :: _) rfl rfl ?_
    refine w_f (a := 252) (b := 180) rfl rfl rfl ?_
    refine w_p (pc1 := 181) rfl rfl ?_
    refine w_m0 (pc1 := 184) (st1 := .long 7237495 :: _) rfl rfl rfl rfl ?_
    refine w_p (pc1 := 185) (st1 := .int (-1) :: _) rfl rfl ?_
    refine w_f (a := 252) (b := 188) rfl rfl rfl ?_
    refine w_p (pc1 := 189) rfl rfl ?_
    refine w_m0 (pc1 := 192) (st1 := .long 1853189228 :: _) rfl rfl rfl rfl ?_
    refine w_p (pc1 := 193) (st1 := .int (-1) :: _) rfl rfl ?_
    refine w_f (a := 252) (b := 196) rfl rfl rfl ?_
    refine w_p (pc1 := 197) rfl rfl ?_
    refine w_m0 (pc1 := 200) (st1 := .long 7302244 :: _) rfl rfl rfl rfl ?_
    refine w_p (pc1 := 201) (st1 := .int (-1) :: _) rfl rfl ?_
    refine w_f (a := 252) (b := 204) rfl rfl rfl ?_
    refine w_p (pc1 := 205) rfl rfl ?_
    refine w_m0 (pc1 := 208) (st1 := .long 28526 :: _) rfl rfl rfl rfl ?_
    refine w_p (pc1 := 209) (st1 := .int 1 :: _) rfl rfl ?_
    refine w_f (a := 252) (b := 212) rfl rfl rfl ?_
    refine w_p (pc1 := 213) rfl rfl ?_
    refine w_m0 (pc1 := 216) (st1 := .long 28530 :: _) rfl rfl rfl rfl ?_
    refine w_p (pc1 := 217) (st1 := .int 1 :: _) rfl rfl ?_
    refine w_f (a := 252) (b := 220) rfl rfl rfl ?_
    refine w_p (pc1 := 221) rfl rfl ?_
    refine w_m0 (pc1 := 224) (st1 := .long 31650994523828857 :: _) rfl rfl rfl rfl ?_
    refine w_p (pc1 := 225) (st1 := .int (-1) :: _) rfl rfl ?_
    refine w_f (a := 252) (b := 228) rfl rfl rfl ?_
    refine w_p (pc1 := 229) rfl rfl ?_
    refine w_m0 (pc1 := 232) (st1 := .long 491260572517 :: _) rfl rfl rfl rfl ?_
    refine w_p (pc1 := 233) (st1 := .int (-1) :: _) rfl rfl ?_
    refine w_f (a := 252) (b := 236) rfl rfl rfl ?_
    refine w_p (pc1 := 237) rfl rfl ?_
    refine w_m0 (pc1 := 240) (st1 := .long 491327481202 :: _) rfl rfl rfl rfl ?_
    refine w_p (pc1 := 241) (st1 := .int (-1) :: _) rfl rfl ?_
    refine w_f (a := 252) (b := 244) rfl rfl rfl ?_
    refine w_p (pc1 := 245) rfl rfl ?_
    refine w_m0 (pc1 := 248) (st1 := .long 7562612 :: _) rfl rfl rfl rfl ?_
    refine w_p (pc1 := 249) (st1 := .int (-1) :: _) rfl rfl ?_
    refine w_t (a := 256) (b := 252) rfl rfl rfl ?_
    refine w_p (pc1 := 257) (st1 := .int 0 :: _) rfl rfl ?_
    refine w_p (pc1 := 259) (al1 := [(4, .int 0), (3, .int 0), (2, .int 1), (0, .long 6385252)]) rfl rfl ?_
    refine w_p (pc1 := 260) rfl rfl ?_
    refine w_t (a := 344) (b := 263) rfl rfl rfl ?_
    refine w_p (pc1 := 345) (st1 := .int 1 :: _) rfl rfl ?_
    refine w_p (pc1 := 349) rfl rfl ?_
    refine w_r rfl rfl rfl (fun _ _ => rfl) rfl ?_
    exact ⟨rfl, rfl, rfl⟩
  · skip
    refine w_p (pc1 := 1) rfl rfl ?_
    refine w_m0 (pc1 := 4) (st1 := .long 418330731890 :: _) rfl rfl rfl rfl ?_
    refine w_p (pc1 := 5) (st1 := .int (-1) :: _) rfl rfl ?_
    refine w_f (a := 80) (b := 8) rfl rfl rfl ?_
    refine w_p (pc1 := 9) rfl rfl ?_
    refine w_m0 (pc1 := 12) (st1 := .long 6384748 :: _) rfl rfl rfl rfl ?_
    refine w_p (pc1 := 13) (st1 := .int 1 :: _) rfl rfl ?_
    refine w_f (a := 80) (b := 16) rfl rfl rfl ?_
    refine w_p (pc1 := 17) rfl rfl ?_
    refine w_m0 (pc1 := 20) (st1 := .long 6385252 :: _) rfl rfl rfl rfl ?_
    refine w_p (pc1 := 21) (st1 := .int 1 :: _) rfl rfl ?_
    refine w_f (a := 80) (b := 24) rfl rfl rfl ?_
    refine w_p (pc1 := 25) rfl rfl ?_
    refine w_m0 (pc1 := 28) (st1 := .long 1650549611 :: _) rfl rfl rfl rfl ?_
    refine w_p (pc1 := 29) (st1 := .int 0 :: _) rfl rfl ?_
    refine w_t (a := 80) (b := 32) rfl rfl rfl ?_
    refine w_p (pc1 := 81) (st1 := .int 1 :: _) rfl rfl ?_
    refine w_p (pc1 := 85) rfl rfl ?_
    refine w_p (pc1 := 86) (al1 := [(2, .int 1), (0, .long 1650549611)]) rfl rfl ?_
    refine w_p (pc1 := 87) rfl rfl ?_
    refine w_m0 (pc1 := 90) (st1 := .long 110386773062757 :: _) rfl rfl rfl rfl ?_
    refine w_p (pc1 := 91) (st1 := .int (-1) :: _) rfl rfl ?_
    refine w_f (a := 166) (b := 94) rfl rfl rfl ?_
    refine w_p (pc1 := 95) rfl rfl ?_
    refine w_m0 (pc1 := 98) (st1 := .long 25711 :: _) rfl rfl rfl rfl ?_
    refine w_p (pc1 := 99) (st1 := .int 1 :: _) rfl rfl ?_
    refine w_f (a := 166) (b := 102) rfl rfl rfl ?_
    refine w_p (pc1 := 103) rfl rfl ?_
    refine w_m0 (pc1 := 106) (st1 := .long 1685221232 :: _) rfl rfl rfl rfl ?_
    refine w_p (pc1 := 107) (st1 := .int (-1) :: _) rfl rfl ?_
    refine w_f (a := 166) (b := 110) rfl rfl rfl ?_
    refine w_p (pc1 := 111) rfl rfl ?_
    refine w_m0 (pc1 := 114) (st1 := .long 115923103347316 :: _) rfl rfl rfl rfl ?_
    refine w_p (pc1 := 115) (st1 := .int (-1) :: _) rfl rfl ?_
    refine w_f (a := 166) (b := 118) rfl rfl rfl ?_
    refine w_p (pc1 := 119) rfl rfl ?_
    refine w_m0 (pc1 := 122) (st1 := .long 26995 :: _) rfl rfl rfl rfl ?_
    refine w_p (pc1 := 123) (st1 := .int 1 :: _) rfl rfl ?_
    refine w_f (a := 166) (b := 126) rfl rfl rfl ?_
    refine w_p (pc1 := 127) rfl rfl ?_
    refine w_m0 (pc1 := 130) (st1 := .long 1818326117 :: _) rfl rfl rfl rfl ?_
    refine w_p (pc1 := 131) (st1 := .int (-1) :: _) rfl rfl ?_
    refine w_f (a := 166) (b := 134) rfl rfl rfl ?_
    refine w_p (pc1 := 135) rfl rfl ?_
    refine w_m0 (pc1 := 138) (st1 := .long 7103860 :: _) rfl rfl rfl rfl ?_
    refine w_p (pc1 := 139) (st1 := .int 1 :: _) rfl rfl ?_
    refine w_f (a := 166) (b := 142) rfl rfl rfl ?_
    refine w_p (pc1 := 143) rfl rfl ?_
    refine w_m0 (pc1 := 146) (st1 := .long 1835102827 :: _) rfl rfl rfl rfl ?_
    refine w_p (pc1 := 147) (st1 := .int (-1) :: _) rfl rfl ?_
    refine w_f (a := 166) (b := 150) rfl rfl rfl ?_
    refine w_p (pc1 := 151) rfl rfl ?_
    refine w_m0 (pc1 := 154) (st1 := .long 1836413812 :: _) rfl rfl rfl rfl ?_
    refine w_p (pc1 := 155) (st1 := .int (-1) :: _) rfl rfl ?_
    refine w_f (a := 166) (b := 158) rfl rfl rfl ?_
    refine w_p (pc1 := 159) rfl rfl ?_
    refine w_m0 (pc1 := 162) (st1 := .long 7234935 :: _) rfl rfl rfl rfl ?_
    refine w_p (pc1 := 163) (st1 := .int 1 :: _) rfl rfl ?_
    refine w_t (a := 170) (b := 166) rfl rfl rfl ?_
    refine w_p (pc1 := 171) (st1 := .int 0 :: _) rfl rfl ?_
    refine w_p (pc1 := 172) (al1 := [(3, .int 0), (2, .int 1), (0, .long 1650549611)]) rfl rfl ?_
    refine w_p (pc1 := 173) rfl rfl ?_
    refine w_m0 (pc1 := 176) (st1 := .long 7237492 :: _) rfl rfl rfl rfl ?_
    refine w_p (pc1 := 177) (st1 := .int 1 :: _) rfl rfl ?_
    refine w_f (a := 252) (b := 180) rfl rfl rfl ?_
    refine w_p (pc1 := 181) rfl rfl ?_
    refine w_m0 (pc1 := 184) (st1 := .long 7237495 :: _) rfl rfl rfl rfl ?_
    refine w_p (pc1 := 185) (st1 := .int 1 :: _) rfl rfl ?_
    refine w_f (a := 252) (b := 188) rfl rfl rfl ?_
    refine w_p (pc1 := 189) rfl rfl ?_
    refine w_m0 (pc1 := 192) (st1 := .long 1853189228 :: _) rfl rfl rfl rfl ?_
    refine w_p (pc1 := 193) (st1 := .int (-1) :: _) rfl rfl ?_
    refine w_f (a := 252) (b := 196) rfl rfl rfl ?_
    refine w_p (pc1 := 197) rfl rfl ?_
    refine w_m0 (pc1 := 200) (st1 := .long 7302244 :: _) rfl rfl rfl rfl ?_
    refine w_p (pc1 := 201) (st1 := .int 1 :: _) rfl rfl ?_
    refine w_f (a := 252) (b := 204) rfl rfl rfl ?_
    refine w_p (pc1 := 205) rfl rfl ?_
    refine w_m0 (pc1 := 208) (st1 := .long 28526 :: _) rfl rfl rfl rfl ?_
    refine w_p (pc1 := 209) (st1 := .int 1 :: _) rfl rfl ?_
    refine w_f (a := 252) (b := 212) rfl rfl rfl ?_
    refine w_p (pc1 := 213) rfl rfl ?_
    refine w_m0 (pc1 := 216) (st1 := .long 28530 :: _) rfl rfl rfl rfl ?_
    refine w_p (pc1 := 217) (st1 := .int 1 :: _) rfl rfl ?_
    refine w_f (a := 252) (b := 220) rfl rfl rfl ?_
    refine w_p (pc1 := 221) rfl rfl ?_
    refine w_m0 (pc1 := 224) (st1 := .long 31650994523828857 :: _) rfl rfl rfl rfl ?_
    refine w_p (pc1 := 225) (st1 := .int (-1) :: _) rfl rfl ?_
    refine w_f (a := 252) (b := 228) rfl rfl rfl ?_
    refine w_p (pc1 := 229) rfl rfl ?_
    refine w_m0 (pc1 := 232) (st1 := .long 491260572517 :: _) rfl rfl rfl rfl ?_
    refine w_p (pc1 := 233) (st1 := .int (-1) :: _) rfl rfl ?_
    refine w_f (a := 252) (b := 236) rfl rfl rfl ?_
    refine w_p (pc1 := 237) rfl rfl ?_
    refine w_m0 (pc1 := 240) (st1 := .long 491327481202 :: _) rfl rfl rfl rfl ?_
    refine w_p (pc1 := 241) (st1 := .int (-1) :: _) rfl rfl ?_
    refine w_f (a := 252) (b := 244) rfl rfl rfl ?_
    refine w_p (pc1 := 245) rfl rfl ?_
    refine w_m0 (pc1 := 248) (st1 := .long 7562612 :: _) rfl rfl rfl rfl ?_
    refine w_p (pc1 := 249) (st1 := .int 1 :: _) rfl rfl ?_
    refine w_t (a := 256) (b := 252) rfl rfl rfl ?_
    refine w_p (pc1 := 257) (st1 := .int 0 :: _) rfl rfl ?_
    refine w_p (pc1 := 259) (al1 := [(4, .int 0), (3, .int 0), (2, .int 1), (0, .long 1650549611)]) rfl rfl ?_
    refine w_p (pc1 := 260) rfl rfl ?_
    refine w_t (a := 344) (b := 263) rfl rfl rfl ?_
    refine w_p (pc1 := 345) (st1 := .int 1 :: _) rfl rfl ?_
    refine w_p (pc1 := 349) rfl rfl ?_
    refine w_r rfl rfl rfl (fun _ _ => rfl) rfl ?_
    exact ⟨rfl, rfl, rfl⟩
  · skip
    refine w_p (pc1 := 1) rfl rfl ?_
    refine w_m0 (pc1 := 4) (st1 := .long 418330731890 :: _) rfl rfl rfl rfl ?_
    refine w_p (pc1 := 5) (st1 := .int 1 :: _) rfl rfl ?_
    refine w_f (a := 80) (b := 8) rfl rfl rfl ?_
    refine w_p (pc1 := 9) rfl rfl ?_
    refine w_m0 (pc1 := 12) (st1 := .long 6384748 :: _) rfl rfl rfl rfl ?_
    refine w_p (pc1 := 13) (st1 := .int 1 :: _) rfl rfl ?_
    refine w_f (a := 80) (b := 16) rfl rfl rfl ?_
    refine w_p (pc1 := 17) rfl rfl ?_
    refine w_m0 (pc1 := 20) (st1 := .long 6385252 :: _) rfl rfl rfl rfl ?_
    refine w_p (pc1 := 21) (st1 := .int 1 :: _) rfl rfl ?_
    refine w_f (a := 80) (b := 24) rfl rfl rfl ?_
    refine w_p (pc1 := 25) rfl rfl ?_
    refine w_m0 (pc1 := 28) (st1 := .long 1650549611 :: _) rfl rfl rfl rfl ?_
    refine w_p (pc1 := 29) (st1 := .int 1 :: _) rfl rfl ?_
    refine w_f (a := 80) (b := 32) rfl rfl rfl ?_
    refine w_p (pc1 := 33) rfl rfl ?_
    refine w_m0 (pc1 := 36) (st1 := .long 108187649798757 :: _) rfl rfl rfl rfl ?_
    refine w_p (pc1 := 37) (st1 := .int 0 :: _) rfl rfl ?_
    refine w_t (a := 80) (b := 40) rfl rfl rfl ?_
    refine w_p (pc1 := 81) (st1 := .int 1 :: _) rfl rfl ?_
    refine w_p (pc1 := 85) rfl rfl ?_
    refine w_p (pc1 := 86) (al1 := [(2, .int 1), (0, .long 108187649798757)]) rfl rfl ?_
    refine w_p (pc1 := 87) rfl rfl ?_
    refine w_m0 (pc1 := 90) (st1 := .long 110386773062757 :: _) rfl rfl rfl rfl ?_
    refine w_p (pc1 := 91) (st1 := .int (-1) :: _) rfl rfl ?_
    refine w_f (a := 166) (b := 94) rfl rfl rfl ?_
    refine w_p (pc1 := 95) rfl rfl ?_
    refine w_m0 (pc1 := 98) (st1 := .long 25711 :: _) rfl rfl rfl rfl ?_
    refine w_p (pc1 := 99) (st1 := .int 1 :: _) rfl rfl ?_
    refine w_f (a := 166) (b := 102) rfl rfl rfl ?_
    refine w_p (pc1 := 103) rfl rfl ?_
    refine w_m0 (pc1 := 106) (st1 := .long 1685221232 :: _) rfl rfl rfl rfl ?_
    refine w_p (pc1 := 107) (st1 := .int 1 :: _) rfl rfl ?_
    refine w_f (a := 166) (b := 110) rfl rfl rfl ?_
    refine w_p (pc1 := 111) rfl rfl ?_
    refine w_m0 (pc1 := 114) (st1 := .long 115923103347316 :: _) rfl rfl rfl rfl ?_
    refine w_p (pc1 := 115) (st1 := .int (-1) :: _) rfl rfl ?_
    refine w_f (a := 166) (b := 118) rfl rfl rfl ?_
    refine w_p (pc1 := 119) rfl rfl ?_
    refine w_m0 (pc1 := 122) (st1 := .long 26995 :: _) rfl rfl rfl rfl ?_
    refine w_p (pc1 := 123) (st1 := .int 1 :: _) rfl rfl ?_
    refine w_f (a := 166) (b := 126) rfl rfl rfl ?_
    refine w_p (pc1 := 127) rfl rfl ?_
    refine w_m0 (pc1 := 130) (st1 := .long 1818326117 :: _) rfl rfl rfl rfl ?_
    refine w_p (pc1 := 131) (st1 := .int 1 :: _) rfl rfl ?_
    refine w_f (a := 166) (b := 134) rfl rfl rfl ?_
    refine w_p (pc1 := 135) rfl rfl ?_
    refine w_m0 (pc1 := 138) (st1 := .long 7103860 :: _) rfl rfl rfl rfl ?_
    refine w_p (pc1 := 139) (st1 := .int 1 :: _) rfl rfl ?_
    refine w_f (a := 166) (b := 142) rfl rfl rfl ?_
    refine w_p (pc1 := 143) rfl rfl ?_
    refine w_m0 (pc1 := 146) (st1 := .long 1835102827 :: _) rfl rfl rfl rfl ?_
    refine w_p (pc1 := 147) (st1 := .int 1 :: _) rfl rfl ?_
    refine w_f (a := 166) (b := 150) rfl rfl rfl ?_
    refine w_p (pc1 := 151) rfl rfl ?_
    refine w_m0 (pc1 := 154) (st1 := .long 1836413812 :: _) rfl rfl rfl rfl ?_
    refine w_p (pc1 := 155) (st1 := .int 1 :: _) rfl rfl ?_
    refine w_f (a := 166) (b := 158) rfl rfl rfl ?_
    refine w_p (pc1 := 159) rfl rfl ?_
    refine w_m0 (pc1 := 162) (st1 := .long 7234935 :: _) rfl rfl rfl rfl ?_
    refine w_p (pc1 := 163) (st1 := .int 1 :: _) rfl rfl ?_
    refine w_t (a := 170) (b := 166) rfl rfl rfl ?_
    refine w_p (pc1 := 171) (st1 := .int 0 :: _) rfl rfl ?_
    refine w_p (pc1 := 172) (al1 := [(3, .int 0), (2, .int 1), (0, .long 108187649798757)]) rfl rfl ?_
    refine w_p (pc1 := 173) rfl rfl ?_
    refine w_m0 (pc1 := 176) (st1 := .long 7237492 :: _) rfl rfl rfl rfl ?_
    refine w_p (pc1 := 177) (st1 := .int 1 :: _) rfl rfl ?_
    refine w_f (a := 252) (b := 180) rfl rfl rfl ?_
    refine w_p (pc1 := 181) rfl rfl ?_
    refine w_m0 (pc1 := 184) (st1 := .long 7237495 :: _) rfl rfl rfl rfl ?_
    refine w_p (pc1 := 185) (st1 := .int 1 :: _) rfl rfl ?_
    refine w_f (a := 252) (b := 188) rfl rfl rfl ?_
    refine w_p (pc1 := 189) rfl rfl ?_
    refine w_m0 (pc1 := 192) (st1 := .long 1853189228 :: _) rfl rfl rfl rfl ?_
    refine w_p (pc1 := 193) (st1 := .int 1 :: _) rfl rfl ?_
    refine w_f (a := 252) (b := 196) rfl rfl rfl ?_
    refine w_p (pc1 := 197) rfl rfl ?_
    refine w_m0 (pc1 := 200) (st1 := .long 7302244 :: _) rfl rfl rfl rfl ?_
    refine w_p (pc1 := 201) (st1 := .int 1 :: _) rfl rfl ?_
    refine w_f (a := 252) (b := 204) rfl rfl rfl ?_
    refine w_p (pc1 := 205) rfl rfl ?_
    refine w_m0 (pc1 := 208) (st1 := .long 28526 :: _) rfl rfl rfl rfl ?_
    refine w_p (pc1 := 209) (st1 := .int 1 :: _) rfl rfl ?_
    refine w_f (a := 252) (b := 212) rfl rfl rfl ?_
    refine w_p (pc1 := 213) rfl rfl ?_
    refine w_m0 (pc1 := 216) (st1 := .long 28530 :: _) rfl rfl rfl rfl ?_
    refine w_p (pc1 := 217) (st1 := .int 1 :: _) rfl rfl ?_
    refine w_f (a := 252) (b := 220) rfl rfl rfl ?_
    refine w_p (pc1 := 221) rfl rfl ?_
    refine w_m0 (pc1 := 224) (st1 := .long 31650994523828857 :: _) rfl rfl rfl rfl ?_
    refine w_p (pc1 := 225) (st1 := .int (-1) :: _) rfl rfl ?_
    refine w_f (a := 252) (b := 228) rfl rfl rfl ?_
    refine w_p (pc1 := 229) rfl rfl ?_
    refine w_m0 (pc1 := 232) (st1 := .long 491260572517 :: _) rfl rfl rfl rfl ?_
    refine w_p (pc1 := 233) (st1 := .int 1 :: _) rfl rfl ?_
    refine w_f (a := 252) (b := 236) rfl rfl rfl ?_
    refine w_p (pc1 := 237) rfl rfl ?_
    refine w_m0 (pc1 := 240) (st1 := .long 491327481202 :: _) rfl rfl rfl rfl ?_
    refine w_p (pc1 := 241) (st1 := .int 1 :: _) rfl rfl ?_
    refine w_f (a := 252) (b := 244) rfl rfl rfl ?_
    refine w_p (pc1 := 245) rfl rfl ?_
    refine w_m0 (pc1 := 248) (st1 := .long 7562612 :: _) rfl rfl rfl rfl ?_
    refine w_p (pc1 := 249) (st1 := .int 1 :: _) rfl rfl ?_
    refine w_t (a := 256) (b := 252) rfl rfl rfl ?_
    refine w_p (pc1 := 257) (st1 := .int 0 :: _) rfl rfl ?_
    refine w_p (pc1 := 259) (al1 := [(4, .int 0), (3, .int 0), (2, .int 1), (0, .long 108187649798757)]) rfl rfl ?_
    refine w_p (pc1 := 260) rfl rfl ?_
    refine w_t (a := 344) (b := 263) rfl rfl rfl ?_
    refine w_p (pc1 := 345) (st1 := .int 1 :: _) rfl rfl ?_
    refine w_p (pc1 := 349) rfl rfl ?_
    refine w_r rfl rfl rfl (fun _ _ => rfl) rfl ?_
    exact ⟨rfl, rfl, rfl⟩
  · skip
    refine w_p (pc1 := 1) rfl rfl ?_
    refine w_m0 (pc1 := 4) (st1 := .long 418330731890 :: _) rfl rfl rfl rfl ?_
    refine w_p (pc1 := 5) (st1 := .int 1 :: _) rfl rfl ?_
    refine w_f (a := 80) (b := 8) rfl rfl rfl ?_
    refine w_p (pc1 := 9) rfl rfl ?_
    refine w_m0 (pc1 := 12) (st1 := .long 6384748 :: _) rfl rfl rfl rfl ?_
    refine w_p (pc1 := 13) (st1 := .int 1 :: _) rfl rfl ?_
    refine w_f (a := 80) (b := 16) rfl rfl rfl ?_
    refine w_p (pc1 := 17) rfl rfl ?_
    refine w_m0 (pc1 := 20) (st1 := .long 6385252 :: _) rfl rfl rfl rfl ?_
    refine w_p (pc1 := 21) (st1 := .int 1 :: _) rfl rfl ?_
    refine w_f (a := 80) (b := 24) rfl rfl rfl ?_
    refine w_p (pc1 := 25) rfl rfl ?_
    refine w_m0 (pc1 := 28) (st1 := .long 1650549611 :: _) rfl rfl rfl rfl ?_
    refine w_p (pc1 := 29) (st1 := .int 1 :: _) rfl rfl ?_
    refine w_f (a := 80) (b := 32) rfl rfl rfl ?_
    refine w_p (pc1 := 33) rfl rfl ?_
    refine w_m0 (pc1 := 36) (st1 := .long 108187649798757 :: _) rfl rfl rfl rfl ?_
    refine w_p (pc1 := 37) (st1 := .int (-1) :: _) rfl rfl ?_
    refine w_f (a := 80) (b := 40) rfl rfl rfl ?_
    refine w_p (pc1 := 41) rfl rfl ?_
    refine w_m0 (pc1 := 44) (st1 := .long 422608071022 :: _) rfl rfl rfl rfl ?_
    refine w_p (pc1 := 45) (st1 := .int 0 :: _) rfl rfl ?_
    refine w_t (a := 80) (b := 48) rfl rfl rfl ?_
    refine w_p (pc1 := 81) (st1 := .int 1 :: _) rfl rfl ?_
    refine w_p (pc1 := 85) rfl rfl ?_
    refine w_p (pc1 := 86) (al1 := [(2, .int 1), (0, .long 422608071022)]) rfl rfl ?_
    refine w_p (pc1 := 87) rfl rfl ?_
    refine w_m0 (pc1 := 90) (st1 := .long 110386773062757 :: _) rfl rfl rfl rfl ?_
    refine w_p (pc1 := 91) (st1 := .int (-1) :: _) rfl rfl ?_
    refine w_f (a := 166) (b := 94) rfl rfl rfl ?_
    refine w_p (pc1 := 95) rfl rfl ?_
    refine w_m0 (pc1 := 98) (st1 := .long 25711 :: _) rfl rfl rfl rfl ?_
    refine w_p (pc1 := 99) (st1 := .int 1 :: _) rfl rfl ?_
    refine w_f (a := 166) (b := 102) rfl rfl rfl ?_
    refine w_p (pc1 := 103) rfl rfl ?_
    refine w_m0 (pc1 := 106) (st1 := .long 1685221232 :: _) rfl rfl rfl rfl ?_
    refine w_p (pc1 := 107) (st1 := .int 1 :: _) rfl rfl ?_
    refine w_f (a := 166) (b := 110) rfl rfl rfl ?_
    refine w_p (pc1 := 111) rfl rfl ?_
    refine w_m0 (pc1 := 114) (st1 := .long 115923103347316 :: _) rfl rfl rfl rfl ?_
    refine w_p (pc1 := 115) (st1 := .int (-1) :: _) rfl rfl ?_
    refine w_f (a := 166) (b := 118) rfl rfl rfl ?_
    refine w_p (pc1 := 119) rfl rfl ?_
    refine w_m0 (pc1 := 122) (st1 := .long 26995 :: _) rfl rfl rfl rfl ?_
    refine w_p (pc1 := 123) (st1 := .int 1 :: _) rfl rfl ?_
    refine w_f (a := 166) (b := 126) rfl rfl rfl ?_
    refine w_p (pc1 := 127) rfl rfl ?_
    refine w_m0 (pc1 := 130) (st1 := .long 1818326117 :: _) rfl rfl rfl rfl ?_
    refine w_p (pc1 := 131) (st1 := .int 1 :: _) rfl rfl ?_
    refine w_f (a := 166) (b := 134) rfl rfl rfl ?_
    refine w_p (pc1 := 135) rfl rfl ?_
    refine w_m0 (pc1 := 138) (st1 := .long 7103860 :: _) rfl rfl rfl rfl ?_
    refine w_p (pc1 := 139) (st1 := .int 1 :: _) rfl rfl ?_
    refine w_f (a := 166) (b := 142) rfl rfl rfl ?_
    refine w_p (pc1 := 143) rfl rfl ?_
    refine w_m0 (pc1 := 146) (st1 := .long 1835102827 :: _) rfl rfl rfl rfl ?_
    refine w_p (pc1 := 147) (st1 := .int 1 :: _) rfl rfl ?_
    refine w_f (a := 166) (b := 150) rfl rfl rfl ?_
    refine w_p (pc1 := 151) rfl rfl ?_
    refine w_m0 (pc1 := 154) (st1 := .long 1836413812 :: _) rfl rfl rfl rfl ?_
    refine w_p (pc1 := 155) (st1 := .int 1 :: _) rfl rfl ?_
    refine w_f (a := 166) (b := 158) rfl rfl rfl ?_
    refine w_p (pc1 := 159) rfl rfl ?_
    refine w_m0 (pc1 := 162) (st1 := .long 7234935 :: _) rfl rfl rfl rfl ?_
    refine w_p (pc1 := 163) (st1 := .int 1 :: _) rfl rfl ?_
    refine w_t (a := 170) (b := 166) rfl rfl rfl ?_
    refine w_p (pc1 := 171) (st1 := .int 0 :: _) rfl rfl ?_
    refine w_p (pc1 := 172) (al1 := [(3, .int 0), (2, .int 1), (0, .long 422608071022)]) rfl rfl ?_
    refine w_p (pc1 := 173) rfl rfl ?_
    refine w_m0 (pc1 := 176) (st1 := .long 7237492 :: _) rfl rfl rfl rfl ?_
    refine w_p (pc1 := 177) (st1 := .int 1 :: _) rfl rfl ?_
    refine w_f (a := 252) (b := 180) rfl rfl rfl ?_
    refine w_p (pc1 := 181) rfl rfl ?_
    refine w_m0 (pc1 := 184) (st1 := .long 7237495 :: _) rfl rfl rfl rfl ?_
    refine w_p (pc1 := 185) (st1 := .int 1 :: _) rfl rfl ?_
    refine w_f (a := 252) (b := 188) rfl rfl rfl ?_
    refine w_p (pc1 := 189) rfl rfl ?_
    refine w_m0 (pc1 := 192) (st1 := .long 1853189228 :: _) rfl rfl rfl rfl ?_
    refine w_p (pc1 := 193) (st1 := .int 1 :: _) rfl rfl ?_
    refine w_f (a := 252) (b := 196) rfl rfl rfl ?_
    refine w_p (pc1 := 197) rfl rfl ?_
    refine w_m0 (pc1 := 200) (st1 := .long 7302244 :: _) rfl rfl rfl rfl ?_
    refine w_p (pc1 := 201) (st1 := .int 1 :: _) rfl rfl ?_
    refine w_f (a := 252) (b := 204) rfl rfl rfl ?_
    refine w_p (pc1 := 205) rfl rfl ?_
    refine w_m0 (pc1 := 208) (st1 := .long 28526 :: _) rfl rfl rfl rfl ?_
    refine w_p (pc1 := 209) (st1 := .int 1 :: _) rfl rfl ?_
    refine w_f (a := 252) (b := 212) rfl rfl rfl ?_
    refine w_p (pc1 := 213) rfl rfl ?_
    refine w_m0 (pc1 := 216) (st1 := .long 28530 :: _) rfl rfl rfl rfl ?_
    refine w_p (pc1 := 217) (st1 := .int 1 :: _) rfl rfl ?_
    refine w_f (a := 252) (b := 220) rfl rfl rfl ?_
    refine w_p (pc1 := 221) rfl rfl ?_
    refine w_m0 (pc1 := 224) (st1 := .long 31650994523828857 :: _) rfl rfl rfl rfl ?_
    refine w_p (pc1 := 225) (st1 := .int (-1) :: _) rfl rfl ?_
    refine w_f (a := 252) (b := 228) rfl rfl rfl ?_
    refine w_p (pc1 := 229) rfl rfl ?_
    refine w_m0 (pc1 := 232) (st1 := .long 491260572517 :: _) rfl rfl rfl rfl ?_
    refine w_p (pc1 := 233) (st1 := .int (-1) :: _) rfl rfl ?_
    refine w_f (a := 252) (b := 236) rfl rfl rfl ?_
    refine w_p (pc1 := 237) rfl rfl ?_
    refine w_m0 (pc1 := 240) (st1 := .long 491327481202 :: _) rfl rfl rfl rfl ?_
    refine w_p (pc1 := 241) (st1 := .int (-1) :: _) rfl rfl ?_
    refine w_f (a := 252) (b := 244) rfl rfl rfl ?_
    refine w_p (pc1 := 245) rfl rfl ?_
    refine w_m0 (pc1 := 248) (st1 := .long 7562612 :: _) rfl rfl rfl rfl ?_
    refine w_p (pc1 := 249) (st1 := .int 1 :: _) rfl rfl ?_
    refine w_t (a := 256) (b := 252) rfl rfl rfl ?_
    refine w_p (pc1 := 257) (st1 := .int 0 :: _) rfl rfl ?_
    refine w_p (pc1 := 259) (al1 := [(4, .int 0), (3, .int 0), (2, .int 1), (0, .long 422608071022)]) rfl rfl ?_
    refine w_p (pc1 := 260) rfl rfl ?_
    refine w_t (a := 344) (b := 263) rfl rfl rfl ?_
    refine w_p (pc1 := 345) (st1 := .int 1 :: _) rfl rfl ?_
    refine w_p (pc1 := 349) rfl rfl ?_
    refine w_r rfl rfl rfl (fun _ _ => rfl) rfl ?_
    exact ⟨rfl, rfl, rfl⟩
  · skip
    refine w_p (pc1 := 1) rfl rfl ?_
    refine w_m0 (pc1 := 4) (st1 := .long 418330731890 :: _) rfl rfl rfl rfl ?_
    refine w_p (pc1 := 5) (st1 := .int 1 :: _) rfl rfl ?_
    refine w_f (a := 80) (b := 8) rfl rfl rfl ?_
    refine w_p (pc1 := 9) rfl rfl ?_
    refine w_m0 (pc1 := 12) (st1 := .long 6384748 :: _) rfl rfl rfl rfl ?_
    refine w_p (pc1 := 13) (st1 := .int 1 :: _) rfl rfl ?_
    refine w_f (a := 80) (b := 16) rfl rfl rfl ?_
    refine w_p (pc1 := 17) rfl rfl ?_
    refine w_m0 (pc1 := 20) (st1 := .long 6385252 :: _) rfl rfl rfl rfl ?_
    refine w_p (pc1 := 21) (st1 := .int 1 :: _) rfl rfl ?_
    refine w_f (a := 80) (b := 24) rfl rfl rfl ?_
    refine w_p (pc1 := 25) rfl rfl ?_
    refine w_m0 (pc1 := 28) (st1 := .long 1650549611 :: _) rfl rfl rfl rfl ?_
    refine w_p (pc1 := 29) (st1 := .int 1 :: _) rfl rfl ?_
    refine w_f (a := 80) (b := 32) rfl rfl rfl ?_
    refine w_p (pc1 := 33) rfl rfl ?_
    refine w_m0 (pc1 := 36) (st1 := .long 108187649798757 :: _) rfl rfl rfl rfl ?_
    refine w_p (pc1 := 37) (st1 := .int 1 :: _) rfl rfl ?_
    refine w_f (a := 80) (b := 40) rfl rfl rfl ?_
    refine w_p (pc1 := 41) rfl rfl ?_
    refine w_m0 (pc1 := 44) (st1 := .long 422608071022 :: _) rfl rfl rfl rfl ?_
    refine w_p (pc1 := 45) (st1 := .int 1 :: _) rfl rfl ?_
    refine w_f (a := 80) (b := 48) rfl rfl rfl ?_
    refine w_p (pc1 := 49) rfl rfl ?_
    refine w_m0 (pc1 := 52) (st1 := .long 27973170910815333 :: _) rfl rfl rfl rfl ?_
    refine w_p (pc1 := 53) (st1 := .int 0 :: _) rfl rfl ?_
    refine w_t (a := 80) (b := 56) rfl rfl rfl ?_
    refine w_p (pc1 := 81) (st1 := .int 1 :: _) rfl rfl ?_
    refine w_p (pc1 := 85) rfl rfl ?_
    refine w_p (pc1 := 86) (al1 := [(2, .int 1), (0, .long 27973170910815333)]) rfl rfl ?_
    refine w_p (pc1 := 87) rfl rfl ?_
    refine w_m0 (pc1 := 90) (st1 := .long 110386773062757 :: _) rfl rfl rfl rfl ?_
    refine w_p (pc1 := 91) (st1 := .int 1 :: _) rfl rfl ?_
    refine w_f (a := 166) (b := 94) rfl rfl rfl ?_
    refine w_p (pc1 := 95) rfl rfl ?_
    refine w_m0 (pc1 := 98) (st1 := .long 25711 :: _) rfl rfl rfl rfl ?_
    refine w_p (pc1 := 99) (st1 := .int 1 :: _) rfl rfl ?_
    refine w_f (a := 166) (b := 102) rfl rfl rfl ?_
    refine w_p (pc1 := 103) rfl rfl ?_
    refine w_m0 (pc1 := 106) (st1 := .long 1685221232 :: _) rfl rfl rfl rfl ?_
    refine w_p (pc1 := 107) (st1 := .int 1 :: _) rfl rfl ?_
    refine w_f (a := 166) (b := 110) rfl rfl rfl ?_
    refine w_p (pc1 := 111) rfl rfl ?_
    refine w_m0 (pc1 := 114) (st1 := .long 115923103347316 :: _) rfl rfl rfl rfl ?_
    refine w_p (pc1 := 115) (st1 := .int 1 :: _) rfl rfl ?_
    refine w_f (a := 166) (b := 118) rfl rfl rfl ?_
    refine w_p (pc1 := 119) rfl rfl ?_
    refine w_m0 (pc1 := 122) (st1 := .long 26995 :: _) rfl rfl rfl rfl ?_
    refine w_p (pc1 := 123) (st1 := .int 1 :: _) rfl rfl ?_
    refine w_f (a := 166) (b := 126) rfl rfl rfl ?_
    refine w_p (pc1 := 127) rfl rfl ?_
    refine w_m0 (pc1 := 130) (st1 := .long 1818326117 :: _) rfl rfl rfl rfl ?_
    refine w_p (pc1 := 131) (st1 := .int 1 :: _) rfl rfl ?_
    refine w_f (a := 166) (b := 134) rfl rfl rfl ?_
    refine w_p (pc1 := 135) rfl rfl ?_
    refine w_m0 (pc1 := 138) (st1 := .long 7103860 :: _) rfl rfl rfl rfl ?_
    refine w_p (pc1 := 139) (st1 := .int 1 :: _) rfl rfl ?_
    refine w_f (a := 166) (b := 142) rfl rfl rfl ?_
    refine w_p (pc1 := 143) rfl rfl ?_
    refine w_m0 (pc1 := 146) (st1 := .long 1835102827 :: _) rfl rfl rfl rfl ?_
    refine w_p (pc1 := 147) (st1 := .int 1 :: _) rfl rfl ?_
    refine w_f (a := 166) (b := 150) rfl rfl rfl ?_
    refine w_p (pc1 := 151) rfl rfl ?_
    refine w_m0 (pc1 := 154) (st1 := .long 1836413812 :: _) rfl rfl rfl rfl ?_
    refine w_p (pc1 := 155) (st1 := .int 1 :: _) rfl rfl ?_
    refine w_f (a := 166) (b := 158) rfl rfl rfl ?_
    refine w_p (pc1 := 159) rfl rfl ?_
    refine w_m0 (pc1 := 162) (st1 := .long 7234935 :: _) rfl rfl rfl rfl ?_
    refine w_p (pc1 := 163) (st1 := .int 1 :: _) rfl rfl ?_
    refine w_t (a := 170) (b := 166) rfl rfl rfl ?_
    refine w_p (pc1 := 171) (st1 := .int 0 :: _) rfl rfl ?_
    refine w_p (pc1 := 172) (al1 := [(3, .int 0), (2, .int 1), (0, .long 27973170910815333)]) rfl rfl ?_
    refine w_p (pc1 := 173) rfl rfl ?_
    refine w_m0 (pc1 := 176) (st1 := .long 7237492 :: _) rfl rfl rfl rfl ?_
    refine w_p (pc1 := 177) (st1 := .int 1 :: _) rfl rfl ?_
    refine w_f (a := 252) (b := 180) rfl rfl rfl ?_
    refine w_p (pc1 := 181) rfl rfl ?_
    refine w_m0 (pc1 := 184) (st1 := .long 7237495 :: _) rfl rfl rfl rfl ?_
    refine w_p (pc1 := 185) (st1 := .int 1 :: _) rfl rfl ?_
    refine w_f (a := 252) (b := 188) rfl rfl rfl ?_
    refine w_p (pc1 := 189) rfl rfl ?_
    refine w_m0 (pc1 := 192) (st1 := .long 1853189228 :: _) rfl rfl rfl rfl ?_
    refine w_p (pc1 := 193) (st1 := .int 1 :: _) rfl rfl ?_
    refine w_f (a := 252) (b := 196) rfl rfl rfl ?_
    refine w_p (pc1 := 197) rfl rfl ?_
    refine w_m0 (pc1 := 200) (st1 := .long 7302244 :: _) rfl rfl rfl rfl ?_
    refine w_p (pc1 := 201) (st1 := .int 1 :: _) rfl rfl ?_
    refine w_f (a := 252) (b := 204) rfl rfl rfl ?_
    refine w_p (pc1 := 205) rfl rfl ?_
    refine w_m0 (pc1 := 208) (st1 := .long 28526 :: _) rfl rfl rfl rfl ?_
    refine w_p (pc1 := 209) (st1 := .int 1 :: _) rfl rfl ?_
    refine w_f (a := 252) (b := 212) rfl rfl rfl ?_
    refine w_p (pc1 := 213) rfl rfl ?_
    refine w_m0 (pc1 := 216) (st1 := .long 28530 :: _) rfl rfl rfl rfl ?_
    refine w_p (pc1 := 217) (st1 := .int 1 :: _) rfl rfl ?_
    refine w_f (a := 252) (b := 220) rfl rfl rfl ?_
    refine w_p (pc1 := 221) rfl rfl ?_
    refine w_m0 (pc1 := 224) (st1 := .long 31650994523828857 :: _) rfl rfl rfl rfl ?_
    refine w_p (pc1 := 225) (st1 := .int (-1) :: _) rfl rfl ?_
    refine w_f (a := 252) (b := 228) rfl rfl rfl ?_
    refine w_p (pc1 := 229) rfl rfl ?_
    refine w_m0 (pc1 := 232) (st1 := .long 491260572517 :: _) rfl rfl rfl rfl ?_
    refine w_p (pc1 := 233) (st1 := .int 1 :: _) rfl rfl ?_
    refine w_f (a := 252) (b := 236) rfl rfl rfl ?_
    refine w_p (pc1 := 237) rfl rfl ?_
    refine w_m0 (pc1 := 240) (st1 := .long 491327481202 :: _) rfl rfl rfl rfl ?_
    refine w_p (pc1 := 241) (st1 := .int 1 :: _) rfl rfl ?_
    refine w_f (a := 252) (b := 244) rfl rfl rfl ?_
    refine w_p (pc1 := 245) rfl rfl ?_
    refine w_m0 (pc1 := 248) (st1 := .long 7562612 :: _) rfl rfl rfl rfl ?_
    refine w_p (pc1 := 249) (st1 := .int 1 :: _) rfl rfl ?_
    refine w_t (a := 256) (b := 252) rfl rfl rfl ?_
    refine w_p (pc1 := 257) (st1 := .int 0 :: _) rfl rfl ?_
    refine w_p (pc1 := 259) (al1 := [(4, .int 0), (3, .int 0), (2, .int 1), (0, .long 27973170910815333)]) rfl rfl ?_
    refine w_p (pc1 := 260) rfl rfl ?_
    refine w_t (a := 344) (b := 263) rfl rfl rfl ?_
    refine w_p (pc1 := 345) (st1 := .int 1 :: _) rfl rfl ?_
    refine w_p (pc1 := 349) rfl rfl ?_
    refine w_r rfl rfl rfl (fun _ _ => rfl) rfl ?_
    exact ⟨rfl, rfl, rfl⟩
  · skip
    refine w_p (pc1 := 1) rfl rfl ?_
    refine w_m0 (pc1 := 4) (st1 := .long 418330731890 :: _) rfl rfl rfl rfl ?_
    refine w_p (pc1 := 5) (st1 := .int 1 :: _) rfl rfl ?_
    refine w_f (a := 80) (b := 8) rfl rfl rfl ?_
    refine w_p (pc1 := 9) rfl rfl ?_
    refine w_m0 (pc1 := 12) (st1 := .long 6384748 :: _) rfl rfl rfl rfl ?_
    refine w_p (pc1 := 13) (st1 := .int 1 :: _) rfl rfl ?_
    refine w_f (a := 80) (b := 16) rfl rfl rfl ?_
    refine w_p (pc1 := 17) rfl rfl ?_
    refine w_m0 (pc1 := 20) (st1 := .long 6385252 :: _) rfl rfl rfl rfl ?_
    refine w_p (pc1 := 21) (st1 := .int 1 :: _) rfl rfl ?_
    refine w_f (a := 80) (b := 24) rfl rfl rfl ?_
    refine w_p (pc1 := 25) rfl rfl ?_
    refine w_m0 (pc1 := 28) (st1 := .long 1650549611 :: _) rfl rfl rfl rfl ?_
    refine w_p (pc1 := 29) (st1 := .int 1 :: _) rfl rfl ?_
    refine w_f (a := 80) (b := 32) rfl rfl rfl ?_
    refine w_p (pc1 := 33) rfl rfl ?_
    refine w_m0 (pc1 := 36) (st1 := .long 108187649798757 :: _) rfl rfl rfl rfl ?_
    refine w_p (pc1 := 37) (st1 := .int (-1) :: _) rfl rfl ?_
    refine w_f (a := 80) (b := 40) rfl rfl rfl ?_
    refine w_p (pc1 := 41) rfl rfl ?_
    refine w_m0 (pc1 := 44) (st1 := .long 422608071022 :: _) rfl rfl rfl rfl ?_
    refine w_p (pc1 := 45) (st1 := .int 1 :: _) rfl rfl ?_
    refine w_f (a := 80) (b := 48) rfl rfl rfl ?_
    refine w_p (pc1 := 49) rfl rfl ?_
    refine w_m0 (pc1 := 52) (st1 := .long 27973170910815333 :: _) rfl rfl rfl rfl ?_
    refine w_p (pc1 := 53) (st1 := .int (-1) :: _) rfl rfl ?_
    refine w_f (a := 80) (b := 56) rfl rfl rfl ?_
    refine w_p (pc1 := 57) rfl rfl ?_
    refine w_m0 (pc1 := 60) (st1 := .long 426953237355 :: _) rfl rfl rfl rfl ?_
    refine w_p (pc1 := 61) (st1 := .int 0 :: _) rfl rfl ?_
    refine w_t (a := 80) (b := 64) rfl rfl rfl ?_
    refine w_p (pc1 := 81) (st1 := .int 1 :: _) rfl rfl ?_
    refine w_p (pc1 := 85) rfl rfl ?_
    refine w_p (pc1 := 86) (al1 := [(2, .int 1), (0, .long 426953237355)]) rfl rfl ?_
    refine w_p (pc1 := 87) rfl rfl ?_
    refine w_m0 (pc1 := 90) (st1 := .long 110386773062757 :: _) rfl rfl rfl rfl ?_
    refine w_p (pc1 := 91) (st1 := .int (-1) :: _) rfl rfl ?_
    refine w_f (a := 166) (b := 94) rfl rfl rfl ?_
    refine w_p (pc1 := 95) rfl rfl ?_
    refine w_m0 (pc1 := 98) (st1 := .long 25711 :: _) rfl rfl rfl rfl ?_
    refine w_p (pc1 := 99) (st1 := .int 1 :: _) rfl rfl ?_
    refine w_f (a := 166) (b := 102) rfl rfl rfl ?_
    refine w_p (pc1 := 103) rfl rfl ?_
    refine w_m0 (pc1 := 106) (st1 := .long 1685221232 :: _) rfl rfl rfl rfl ?_
    refine w_p (pc1 := 107) (st1 := .int 1 :: _) rfl rfl ?_
    refine w_f (a := 166) (b := 110) rfl rfl rfl ?_
    refine w_p (pc1 := 111) rfl rfl ?_
    refine w_m0 (pc1 := 114) (st1 := .long 115923103347316 :: _) rfl rfl rfl rfl ?_
    refine w_p (pc1 := 115) (st1 := .int (-1) :: _) rfl rfl ?_
    refine w_f (a := 166) (b := 118) rfl rfl rfl ?_
    refine w_p (pc1 := 119) rfl rfl ?_
    refine w_m0 (pc1 := 122) (st1 := .long 26995 :: _) rfl rfl rfl rfl ?_
    refine w_p (pc1 := 123) (st1 := .int 1 :: _) rfl rfl ?_
    refine w_f (a := 166) (b := 126) rfl rfl rfl ?_
    refine w_p (pc1 := 127) rfl rfl ?_
    refine w_m0 (pc1 := 130) (st1 := .long 1818326117 :: _) rfl rfl rfl rfl ?_
    refine w_p (pc1 := 131) (st1 := .int 1 :: _) rfl rfl ?_
    refine w_f (a := 166) (b := 134) rfl rfl rfl ?_
    refine w_p (pc1 := 135) rfl rfl ?_
    refine w_m0 (pc1 := 138) (st1 := .long 7103860 :: _) rfl rfl rfl rfl ?_
    refine w_p (pc1 := 139) (st1 := .int 1 :: _) rfl rfl ?_
    refine w_f (a := 166) (b := 142) rfl rfl rfl ?_
    refine w_p (pc1 := 143) rfl rfl ?_
    refine w_m0 (pc1 := 146) (st1 := .long 1835102827 :: _) rfl rfl rfl rfl ?_
    refine w_p (pc1 := 147) (st1 := .int 1 :: _) rfl rfl ?_
    refine w_f (a := 166) (b := 150) rfl rfl rfl ?_
    refine w_p (pc1 := 151) rfl rfl ?_
    refine w_m0 (pc1 := 154) (st1 := .long 1836413812 :: _) rfl rfl rfl rfl ?_
    refine w_p (pc1 := 155) (st1 := .int 1 :: _) rfl rfl ?_
    refine w_f (a := 166) (b := 158) rfl rfl rfl ?_
    refine w_p (pc1 := 159) rfl rfl ?_
    refine w_m0 (pc1 := 162) (st1 := .long 7234935 :: _) rfl rfl rfl rfl ?_
    refine w_p (pc1 := 163) (st1 := .int 1 :: _) rfl rfl ?_
    refine w_t (a := 170) (b := 166) rfl rfl rfl ?_
    refine w_p (pc1 := 171) (st1 := .int 0 :: _) rfl rfl ?_
    refine w_p (pc1 := 172) (al1 := [(3, .int 0), (2, .int 1), (0, .long 426953237355)]) rfl rfl ?_
    refine w_p (pc1 := 173) rfl rfl ?_
    refine w_m0 (pc1 := 176) (st1 := .long 7237492 :: _) rfl rfl rfl rfl ?_
    refine w_p (pc1 := 177) (st1 := .int 1 :: _) rfl rfl ?_
    refine w_f (a := 252) (b := 180) rfl rfl rfl ?_
    refine w_p (pc1 := 181) rfl rfl ?_
    refine w_m0 (pc1 := 184) (st1 := .long 7237495 :: _) rfl rfl rfl rfl ?_
    refine w_p (pc1 := 185) (st1 := .int 1 :: _) rfl rfl ?_
    refine w_f (a := 252) (b := 188) rfl rfl rfl ?_
    refine w_p (pc1 := 189) rfl rfl ?_
    refine w_m0 (pc1 := 192) (st1 := .long 1853189228 :: _) rfl rfl rfl rfl ?_
    refine w_p (pc1 := 193) (st1 := .int 1 :: _) rfl rfl ?_
    refine w_f (a := 252) (b := 196) rfl rfl rfl ?_
    refine w_p (pc1 := 197) rfl rfl ?_
    refine w_m0 (pc1 := 200) (st1 := .long 7302244 :: _) rfl rfl rfl rfl ?_
    refine w_p (pc1 := 201) (st1 := .int 1 :: _) rfl rfl ?_
    refine w_f (a := 252) (b := 204) rfl rfl rfl ?_
    refine w_p (pc1 := 205) rfl rfl ?_
    refine w_m0 (pc1 := 208) (st1 := .long 28526 :: _) rfl rfl rfl rfl ?_
    refine w_p (pc1 := 209) (st1 := .int 1 :: _) rfl rfl ?_
    refine w_f (a := 252) (b := 212) rfl rfl rfl ?_
    refine w_p (pc1 := 213) rfl rfl ?_
    refine w_m0 (pc1 := 216) (st1 := .long 28530 :: _) rfl rfl rfl rfl ?_
    refine w_p (pc1 := 217) (st1 := .int 1 :: _) rfl rfl ?_
    refine w_f (a := 252) (b := 220) rfl rfl rfl ?_
    refine w_p (pc1 := 221) rfl rfl ?_
    refine w_m0 (pc1 := 224) (st1 := .long 31650994523828857 :: _) rfl rfl rfl rfl ?_
    refine w_p (pc1 := 225) (st1 := .int (-1) :: _) rfl rfl ?_
    refine w_f (a := 252) (b := 228) rfl rfl rfl ?_
    refine w_p (pc1 := 229) rfl rfl ?_
    refine w_m0 (pc1 := 232) (st1 := .long 491260572517 :: _) rfl rfl rfl rfl ?_
    refine w_p (pc1 := 233) (st1 := .int (-1) :: _) rfl rfl ?_
    refine w_f (a := 252) (b := 236) rfl rfl rfl ?_
    refine w_p (pc1 := 237) rfl rfl ?_
    refine w_m0 (pc1 := 240) (st1 := .long 491327481202 :: _) rfl rfl rfl rfl ?_
    refine w_p (pc1 := 241) (st1 := .int (-1) :: _) rfl rfl ?_
    refine w_f (a := 252) (b := 244) rfl rfl rfl ?_
    refine w_p (pc1 := 245) rfl rfl ?_
    refine w_m0 (pc1 := 248) (st1 := .long 7562612 :: _) rfl rfl rfl rfl ?_
    refine w_p (pc1 := 249) (st1 := .int 1 :: _) rfl rfl ?_
    refine w_t (a := 256) (b := 252) rfl rfl rfl ?_
    refine w_p (pc1 := 257) (st1 := .int 0 :: _) rfl rfl ?_
    refine w_p (pc1 := 259) (al1 := [(4, .int 0), (3, .int 0), (2, .int 1), (0, .long 426953237355)]) rfl rfl ?_
    refine w_p (pc1 := 260) rfl rfl ?_
    refine w_t (a := 344) (b := 263) rfl rfl rfl ?_
    refine w_p (pc1 := 345) (st1 := .int 1 :: _) rfl rfl ?_
    refine w_p (pc1 := 349) rfl rfl ?_
    refine w_r rfl rfl rfl (fun _ _ => rfl) rfl ?_
    exact ⟨rfl, rfl, rfl⟩
  · skip
    refine w_p (pc1 := 1) rfl rfl ?_
    refine w_m0 (pc1 := 4) (st1 := .long 418330731890 :: _) rfl rfl rfl rfl ?_
    refine w_p (pc1 := 5) (st1 := .int 1 :: _) rfl rfl ?_
    refine w_f (a := 80) (b := 8) rfl rfl rfl ?_
    refine w_p (pc1 := 9) rfl rfl ?_
    refine w_m0 (pc1 := 12) (st1 := .long 6384748 :: _) rfl rfl rfl rfl ?_
    refine w_p (pc1 := 13) (st1 := .int 1 :: _) rfl rfl ?_
    refine w_f (a := 80) (b := 16) rfl rfl rfl ?_
    refine w_p (pc1 := 17) rfl rfl ?_
    refine w_m0 (pc1 := 20) (st1 := .long 6385252 :: _) rfl rfl rfl rfl ?_
    refine w_p (pc1 := 21) (st1 := .int 1 :: _) rfl rfl ?_
    refine w_f (a := 80) (b := 24) rfl rfl rfl ?_
    refine w_p (pc1 := 25) rfl rfl ?_
    refine w_m0 (pc1 := 28) (st1 := .long 1650549611 :: _) rfl rfl rfl rfl ?_
    refine w_p (pc1 := 29) (st1 := .int 1 :: _) rfl rfl ?_
    refine w_f (a := 80) (b := 32) rfl rfl rfl ?_
    refine w_p (pc1 := 33) rfl rfl ?_
    refine w_m0 (pc1 := 36) (st1 := .long 108187649798757 :: _) rfl rfl rfl rfl ?_
    refine w_p (pc1 := 37) (st1 := .int 1 :: _) rfl rfl ?_
    refine w_f (a := 80) (b := 40) rfl rfl rfl ?_
    refine w_p (pc1 := 41) rfl rfl ?_
    refine w_m0 (pc1 := 44) (st1 := .long 422608071022 :: _) rfl rfl rfl rfl ?_
    refine w_p (pc1 := 45) (st1 := .int 1 :: _) rfl rfl ?_
    refine w_f (a := 80) (b := 48) rfl rfl rfl ?_
    refine w_p (pc1 := 49) rfl rfl ?_
    refine w_m0 (pc1 := 52) (st1 := .long 27973170910815333 :: _) rfl rfl rfl rfl ?_
    refine w_p (pc1 := 53) (st1 := .int (-1) :: _) rfl rfl ?_
    refine w_f (a := 80) (b := 56) rfl rfl rfl ?_
    refine w_p (pc1 := 57) rfl rfl ?_
    refine w_m0 (pc1 := 60) (st1 := .long 426953237355 :: _) rfl rfl rfl rfl ?_
    refine w_p (pc1 := 61) (st1 := .int 1 :: _) rfl rfl ?_
    refine w_f (a := 80) (b := 64) rfl rfl rfl ?_
    refine w_p (pc1 := 65) rfl rfl ?_
    refine w_m0 (pc1 := 68) (st1 := .long 109330228406644 :: _) rfl rfl rfl rfl ?_
    refine w_p (pc1 := 69) (st1 := .int 0 :: _) rfl rfl ?_
    refine w_t (a := 80) (b := 72) rfl rfl rfl ?_
    refine w_p (pc1 := 81) (st1 := .int 1 :: _) rfl rfl ?_
    refine w_p (pc1 := 85) rfl rfl ?_
    refine w_p (pc1 := 86) (al1 := [(2, .int 1), (0, .long 109330228406644)]) rfl rfl ?_
    refine w_p (pc1 := 87) rfl rfl ?_
    refine w_m0 (pc1 := 90) (st1 := .long 110386773062757 :: _) rfl rfl rfl rfl ?_
    refine w_p (pc1 := 91) (st1 := .int (-1) :: _) rfl rfl ?_
    refine w_f (a := 166) (b := 94) rfl rfl rfl ?_
    refine w_p (pc1 := 95) rfl rfl ?_
    refine w_m0 (pc1 := 98) (st1 := .long 25711 :: _) rfl rfl rfl rfl ?_
    refine w_p (pc1 := 99) (st1 := .int 1 :: _) rfl rfl ?_
    refine w_f (a := 166) (b := 102) rfl rfl rfl ?_
    refine w_p (pc1 := 103) rfl rfl ?_
    refine w_m0 (pc1 := 106) (st1 := .long 1685221232 :: _) rfl rfl rfl rfl ?_
    refine w_p (pc1 := 107) (st1 := .int 1 :: _) rfl rfl ?_
    refine w_f (a := 166) (b := 110) rfl rfl rfl ?_
    refine w_p (pc1 := 111) rfl rfl ?_
    refine w_m0 (pc1 := 114) (st1 := .long 115923103347316 :: _) rfl rfl rfl rfl ?_
    refine w_p (pc1 := 115) (st1 := .int (-1) :: _) rfl rfl ?_
    refine w_f (a := 166) (b := 118) rfl rfl rfl ?_
    refine w_p (pc1 := 119) rfl rfl ?_
    refine w_m0 (pc1 := 122) (st1 := .long 26995 :: _) rfl rfl rfl rfl ?_
    refine w_p (pc1 := 123) (st1 := .int 1 :: _) rfl rfl ?_
    refine w_f (a := 166) (b := 126) rfl rfl rfl ?_
    refine w_p (pc1 := 127) rfl rfl ?_
    refine w_m0 (pc1 := 130) (st1 := .long 1818326117 :: _) rfl rfl rfl rfl ?_
    refine w_p (pc1 := 131) (st1 := .int 1 :: _) rfl rfl ?_
    refine w_f (a := 166) (b := 134) rfl rfl rfl ?_
    refine w_p (pc1 := 135) rfl rfl ?_
    refine w_m0 (pc1 := 138) (st1 := .long 7103860 :: _) rfl rfl rfl rfl ?_
    refine w_p (pc1 := 139) (st1 := .int 1 :: _) rfl rfl ?_
    refine w_f (a := 166) (b := 142) rfl rfl rfl ?_
    refine w_p (pc1 := 143) rfl rfl ?_
    refine w_m0 (pc1 := 146) (st1 := .long 1835102827 :: _) rfl rfl rfl rfl ?_
    refine w_p (pc1 := 147) (st1 := .int 1 :: _) rfl rfl ?_
    refine w_f (a := 166) (b := 150) rfl rfl rfl ?_
    refine w_p (pc1 := 151) rfl rfl ?_
    refine w_m0 (pc1 := 154) (st1 := .long 1836413812 :: _) rfl rfl rfl rfl ?_
    refine w_p (pc1 := 155) (st1 := .int 1 :: _) rfl rfl ?_
    refine w_f (a := 166) (b := 158) rfl rfl rfl ?_
    refine w_p (pc1 := 159) rfl rfl ?_
    refine w_m0 (pc1 := 162) (st1 := .long 7234935 :: _) rfl rfl rfl rfl ?_
    refine w_p (pc1 := 163) (st1 := .int 1 :: _) rfl rfl ?_
    refine w_t (a := 170) (b := 166) rfl rfl rfl ?_
    refine w_p (pc1 := 171) (st1 := .int 0 :: _) rfl rfl ?_
    refine w_p (pc1 := 172) (al1 := [(3, .int 0), (2, .int 1), (0, .long 109330228406644)]) rfl rfl ?_
    refine w_p (pc1 := 173) rfl rfl ?_
    refine w_m0 (pc1 := 176) (st1 := .long 7237492 :: _) rfl rfl rfl rfl ?_
    refine w_p (pc1 := 177) (st1 := .int 1 :: _) rfl rfl ?_
    refine w_f (a := 252) (b := 180) rfl rfl rfl ?_
    refine w_p (pc1 := 181) rfl rfl ?_
    refine w_m0 (pc1 := 184) (st1 := .long 7237495 :: _) rfl rfl rfl rfl ?_
    refine w_p (pc1 := 185) (st1 := .int 1 :: _) rfl rfl ?_
    refine w_f (a := 252) (b := 188) rfl rfl rfl ?_
    refine w_p (pc1 := 189) rfl rfl ?_
    refine w_m0 (pc1 := 192) (st1 := .long 1853189228 :: _) rfl rfl rfl rfl ?_
    refine w_p (pc1 := 193) (st1 := .int 1 :: _) rfl rfl ?_
    refine w_f (a := 252) (b := 196) rfl rfl rfl ?_
    refine w_p (pc1 := 197) rfl rfl ?_
    refine w_m0 (pc1 := 200) (st1 := .long 7302244 :: _) rfl rfl rfl rfl ?_
    refine w_p (pc1 := 201) (st1 := .int 1 :: _) rfl rfl ?_
    refine w_f (a := 252) (b := 204) rfl rfl rfl ?_
    refine w_p (pc1 := 205) rfl rfl ?_
    refine w_m0 (pc1 := 208) (st1 := .long 28526 :: _) rfl rfl rfl rfl ?_
    refine w_p (pc1 := 209) (st1 := .int 1 :: _) rfl rfl ?_
    refine w_f (a := 252) (b := 212) rfl rfl rfl ?_
    refine w_p (pc1 := 213) rfl rfl ?_
    refine w_m0 (pc1 := 216) (st1 := .long 28530 :: _) rfl rfl rfl rfl ?_
    refine w_p (pc1 := 217) (st1 := .int 1 :: _) rfl rfl ?_
    refine w_f (a := 252) (b := 220) rfl rfl rfl ?_
    refine w_p (pc1 := 221) rfl rfl ?_
    refine w_m0 (pc1 := 224) (st1 := .long 31650994523828857 :: _) rfl rfl rfl rfl ?_
    refine w_p (pc1 := 225) (st1 := .int (-1) :: _) rfl rfl ?_
    refine w_f (a := 252) (b := 228) rfl rfl rfl ?_
    refine w_p (pc1 := 229) rfl rfl ?_
    refine w_m0 (pc1 := 232) (st1 := .long 491260572517 :: _) rfl rfl rfl rfl ?_
    refine w_p (pc1 := 233) (st1 := .int 1 :: _) rfl rfl ?_
    refine w_f (a := 252) (b := 236) rfl rfl rfl ?_
    refine w_p (pc1 := 237) rfl rfl ?_
    refine w_m0 (pc1 := 240) (st1 := .long 491327481202 :: _) rfl rfl rfl rfl ?_
    refine w_p (pc1 := 241) (st1 := .int 1 :: _) rfl rfl ?_
    refine w_f (a := 252) (b := 244) rfl rfl rfl ?_
    refine w_p (pc1 := 245) rfl rfl ?_
    refine w_m0 (pc1 := 248) (st1 := .long 7562612 :: _) rfl rfl rfl rfl ?_
    refine w_p (pc1 := 249) (st1 := .int 1 :: _) rfl rfl ?_
    refine w_t (a := 256) (b := 252) rfl rfl rfl ?_
    refine w_p (pc1 := 257) (st1 := .int 0 :: _) rfl rfl ?_
    refine w_p (pc1 := 259) (al1 := [(4, .int 0), (3, .int 0), (2, .int 1), (0, .long 109330228406644)]) rfl rfl ?_
    refine w_p (pc1 := 260) rfl rfl ?_
    refine w_t (a := 344) (b := 263) rfl rfl rfl ?_
    refine w_p (pc1 := 345) (st1 := .int 1 :: _) rfl rfl ?_
    refine w_p (pc1 := 349) rfl rfl ?_
    refine w_r rfl rfl rfl (fun _ _ => rfl) rfl ?_
    exact ⟨rfl, rfl, rfl⟩
  · skip
    refine w_p (pc1 := 1) rfl rfl ?_
    refine w_m0 (pc1 := 4) (st1 := .long 418330731890 :: _) rfl rfl rfl rfl ?_
    refine w_p (pc1 := 5) (st1 := .int 1 :: _) rfl rfl ?_
    refine w_f (a := 80) (b := 8) rfl rfl rfl ?_
    refine w_p (pc1 := 9) rfl rfl ?_
    refine w_m0 (pc1 := 12) (st1 := .long 6384748 :: _) rfl rfl rfl rfl ?_
    refine w_p (pc1 := 13) (st1 := .int 1 :: _) rfl rfl ?_
    refine w_f (a := 80) (b := 16) rfl rfl rfl ?_
    refine w_p (pc1 := 17) rfl rfl ?_
    refine w_m0 (pc1 := 20) (st1 := .long 6385252 :: _) rfl rfl rfl rfl ?_
    refine w_p (pc1 := 21) (st1 := .int 1 :: _) rfl rfl ?_
    refine w_f (a := 80) (b := 24) rfl rfl rfl ?_
    refine w_p (pc1 := 25) rfl rfl ?_
    refine w_m0 (pc1 := 28) (st1 := .long 1650549611 :: _) rfl rfl rfl rfl ?_
    refine w_p (pc1 := 29) (st1 := .int 1 :: _) rfl rfl ?_
    refine w_f (a := 80) (b := 32) rfl rfl rfl ?_
    refine w_p (pc1 := 33) rfl rfl ?_
    refine w_m0 (pc1 := 36) (st1 := .long 108187649798757 :: _) rfl rfl rfl rfl ?_
    refine w_p (pc1 := 37) (st1 := .int 1 :: _) rfl rfl ?_
    refine w_f (a := 80) (b := 40) rfl rfl rfl ?_
    refine w_p (pc1 := 41) rfl rfl ?_
    refine w_m0 (pc1 := 44) (st1 := .long 422608071022 :: _) rfl rfl rfl rfl ?_
    refine w_p (pc1 := 45) (st1 := .int 1 :: _) rfl rfl ?_
    refine w_f (a := 80) (b := 48) rfl rfl rfl ?_
    refine w_p (pc1 := 49) rfl rfl ?_
    refine w_m0 (pc1 := 52) (st1 := .long 27973170910815333 :: _) rfl rfl rfl rfl ?_
    refine w_p (pc1 := 53) (st1 := .int 1 :: _) rfl rfl ?_
    refine w_f (a := 80) (b := 56) rfl rfl rfl ?_
    refine w_p (pc1 := 57) rfl rfl ?_
    refine w_m0 (pc1 := 60) (st1 := .long 426953237355 :: _) rfl rfl rfl rfl ?_
    refine w_p (pc1 := 61) (st1 := .int 1 :: _) rfl rfl ?_
    refine w_f (a := 80) (b := 64) rfl rfl rfl ?_
    refine w_p (pc1 := 65) rfl rfl ?_
    refine w_m0 (pc1 := 68) (st1 := .long 109330228406644 :: _) rfl rfl rfl rfl ?_
    refine w_p (pc1 := 69) (st1 := .int 1 :: _) rfl rfl ?_
    refine w_f (a := 80) (b := 72) rfl rfl rfl ?_
    refine w_p (pc1 := 73) rfl rfl ?_
    refine w_m0 (pc1 := 76) (st1 := .long 28258988067220596 :: _) rfl rfl rfl rfl ?_
    refine w_p (pc1 := 77) (st1 := .int 0 :: _) rfl rfl ?_
    refine w_f (a := 84) (b := 80) rfl rfl rfl ?_
    refine w_p (pc1 := 81) (st1 := .int 1 :: _) rfl rfl ?_
    refine w_p (pc1 := 85) rfl rfl ?_
    refine w_p (pc1 := 86) (al1 := [(2, .int 1), (0, .long 28258988067220596)]) rfl rfl ?_
    refine w_p (pc1 := 87) rfl rfl ?_
    refine w_m0 (pc1 := 90) (st1 := .long 110386773062757 :: _) rfl rfl rfl rfl ?_
    refine w_p (pc1 := 91) (st1 := .int 1 :: _) rfl rfl ?_
    refine w_f (a := 166) (b := 94) rfl rfl rfl ?_
    refine w_p (pc1 := 95) rfl rfl ?_
    refine w_m0 (pc1 := 98) (st1 := .long 25711 :: _) rfl rfl rfl rfl ?_
    refine w_p (pc1 := 99) (st1 := .int 1 :: _) rfl rfl ?_
    refine w_f (a := 166) (b := 102) rfl rfl rfl ?_
    refine w_p (pc1 := 103) rfl rfl ?_
    refine w_m0 (pc1 := 106) (st1 := .long 1685221232 :: _) rfl rfl rfl rfl ?_
    refine w_p (pc1 := 107) (st1 := .int 1 :: _) rfl rfl ?_
    refine w_f (a := 166) (b := 110) rfl rfl rfl ?_
    refine w_p (pc1 := 111) rfl rfl ?_
    refine w_m0 (pc1 := 114) (st1 := .long 115923103347316 :: _) rfl rfl rfl rfl ?_
    refine w_p (pc1 := 115) (st1 := .int 1 :: _) rfl rfl ?_
    refine w_f (a := 166) (b := 118) rfl rfl rfl ?_
    refine w_p (pc1 := 119) rfl rfl ?_
    refine w_m0 (pc1 := 122) (st1 := .long 26995 :: _) rfl rfl rfl rfl ?_
    refine w_p (pc1 := 123) (st1 := .int 1 :: _) rfl rfl ?_
    refine w_f (a := 166) (b := 126) rfl rfl rfl ?_
    refine w_p (pc1 := 127) rfl rfl ?_
    refine w_m0 (pc1 := 130) (st1 := .long 1818326117 :: _) rfl rfl rfl rfl ?_
    refine w_p (pc1 := 131) (st1 := .int 1 :: _) rfl rfl ?_
    refine w_f (a := 166) (b := 134) rfl rfl rfl ?_
    refine w_p (pc1 := 135) rfl rfl ?_
    refine w_m0 (pc1 := 138) (st1 := .long 7103860 :: _) rfl rfl rfl rfl ?_
    refine w_p (pc1 := 139) (st1 := .int 1 :: _) rfl rfl ?_
    refine w_f (a := 166) (b := 142) rfl rfl rfl ?_
    refine w_p (pc1 := 143) rfl rfl ?_
    refine w_m0 (pc1 := 146) (st1 := .long 1835102827 :: _) rfl rfl rfl rfl ?_
    refine w_p (pc1 := 147) (st1 := .int 1 :: _) rfl rfl ?_
    refine w_f (a := 166) (b := 150) rfl rfl rfl ?_
    refine w_p (pc1 := 151) rfl rfl ?_
    refine w_m0 (pc1 := 154) (st1 := .long 1836413812 :: _) rfl rfl rfl rfl ?_
    refine w_p (pc1 := 155) (st1 := .int 1 :: _) rfl rfl ?_
    refine w_f (a := 166) (b := 158) rfl rfl rfl ?_
    refine w_p (pc1 := 159) rfl rfl ?_
    refine w_m0 (pc1 := 162) (st1 := .long 7234935 :: _) rfl rfl rfl rfl ?_
    refine w_p (pc1 := 163) (st1 := .int 1 :: _) rfl rfl ?_
    refine w_t (a := 170) (b := 166) rfl rfl rfl ?_
    refine w_p (pc1 := 171) (st1 := .int 0 :: _) rfl rfl ?_
    refine w_p (pc1 := 172) (al1 := [(3, .int 0), (2, .int 1), (0, .long 28258988067220596)]) rfl rfl ?_
    refine w_p (pc1 := 173) rfl rfl ?_
    refine w_m0 (pc1 := 176) (st1 := .long 7237492 :: _) rfl rfl rfl rfl ?_
    refine w_p (pc1 := 177) (st1 := .int 1 :: _) rfl rfl ?_
    refine w_f (a := 252) (b := 180) rfl rfl rfl ?_
    refine w_p (pc1 := 181) rfl rfl ?_
    refine w_m0 (pc1 := 184) (st1 := .long 7237495 :: _) rfl rfl rfl rfl ?_
    refine w_p (pc1 := 185) (st1 := .int 1 :: _) rfl rfl ?_
    refine w_f (a := 252) (b := 188) rfl rfl rfl ?_
    refine w_p (pc1 := 189) rfl rfl ?_
    refine w_m0 (pc1 := 192) (st1 := .long 1853189228 :: _) rfl rfl rfl rfl ?_
    refine w_p (pc1 := 193) (st1 := .int 1 :: _) rfl rfl ?_
    refine w_f (a := 252) (b := 196) rfl rfl rfl ?_
    refine w_p (pc1 := 197) rfl rfl ?_
    refine w_m0 (pc1 := 200) (st1 := .long 7302244 :: _) rfl rfl rfl rfl ?_
    refine w_p (pc1 := 201) (st1 := .int 1 :: _) rfl rfl ?_
    refine w_f (a := 252) (b := 204) rfl rfl rfl ?_
    refine w_p (pc1 := 205) rfl rfl ?_
    refine w_m0 (pc1 := 208) (st1 := .long 28526 :: _) rfl rfl rfl rfl ?_
    refine w_p (pc1 := 209) (st1 := .int 1 :: _) rfl rfl ?_
    refine w_f (a := 252) (b := 212) rfl rfl rfl ?_
    refine w_p (pc1 := 213) rfl rfl ?_
    refine w_m0 (pc1 := 216) (st1 := .long 28530 :: _) rfl rfl rfl rfl ?_
    refine w_p (pc1 := 217) (st1 := .int 1 :: _) rfl rfl ?_
    refine w_f (a := 252) (b := 220) rfl rfl rfl ?_
    refine w_p (pc1 := 221) rfl rfl ?_
    refine w_m0 (pc1 := 224) (st1 := .long 31650994523828857 :: _) rfl rfl rfl rfl ?_
    refine w_p (pc1 := 225) (st1 := .int (-1) :: _) rfl rfl ?_
    refine w_f (a := 252) (b := 228) rfl rfl rfl ?_
    refine w_p (pc1 := 229) rfl rfl ?_
    refine w_m0 (pc1 := 232) (st1 := .long 491260572517 :: _) rfl rfl rfl rfl ?_
    refine w_p (pc1 := 233) (st1 := .int 1 :: _) rfl rfl ?_
    refine w_f (a := 252) (b := 236) rfl rfl rfl ?_
    refine w_p (pc1 := 237) rfl rfl ?_
    refine w_m0 (pc1 := 240) (st1 := .long 491327481202 :: _) rfl rfl rfl rfl ?_
    refine w_p (pc1 := 241) (st1 := .int 1 :: _) rfl rfl ?_
    refine w_f (a := 252) (b := 244) rfl rfl rfl ?_
    refine w_p (pc1 := 245) rfl rfl ?_
    refine w_m0 (pc1 := 248) (st1 := .long 7562612 :: _) rfl rfl rfl rfl ?_
    refine w_p (pc1 := 249) (st1 := .int 1 :: _) rfl rfl ?_
    refine w_t (a := 256) (b := 252) rfl rfl rfl ?_
    refine w_p (pc1 := 257) (st1 := .int 0 :: _) rfl rfl ?_
    refine w_p (pc1 := 259) (al1 := [(4, .int 0), (3, .int 0), (2, .int 1), (0, .long 28258988067220596)]) rfl rfl ?_
    refine w_p (pc1 := 260) rfl rfl ?_
    refine w_t (a := 344) (b := 263) rfl rfl rfl ?_
    refine w_p (pc1 := 345) (st1 := .int 1 :: _) rfl rfl ?_
    refine w_p (pc1 := 349) rfl rfl ?_
    refine w_r rfl rfl rfl (fun _ _ => rfl) rfl ?_
    exact ⟨rfl, rfl, rfl⟩
  · skip
    refine w_p (pc1 := 1) rfl rfl ?_
    refine w_m0 (pc1 := 4) (st1 := .long 418330731890 :: _) rfl rfl rfl rfl ?_
    refine w_p (pc1 := 5) (st1 := .int 1 :: _) rfl rfl ?_
    refine w_f (a := 80) (b := 8) rfl rfl rfl ?_
    refine w_p (pc1 := 9) rfl rfl ?_
    refine w_m0 (pc1 := 12) (st1 := .long 6384748 :: _) rfl rfl rfl rfl ?_
    refine w_p (pc1 := 13) (st1 := .int 1 :: _) rfl rfl ?_
    refine w_f (a := 80) (b := 16) rfl rfl rfl ?_
    refine w_p (pc1 := 17) rfl rfl ?_
    refine w_m0 (pc1 := 20) (st1 := .long 6385252 :: _) rfl rfl rfl rfl ?_
    refine w_p (pc1 := 21) (st1 := .int 1 :: _) rfl rfl ?_
    refine w_f (a := 80) (b := 24) rfl rfl rfl ?_
    refine w_p (pc1 := 25) rfl rfl ?_
    refine w_m0 (pc1 := 28) (st1 := .long 1650549611 :: _) rfl rfl rfl rfl ?_
    refine w_p (pc1 := 29) (st1 := .int 1 :: _) rfl rfl ?_
    refine w_f (a := 80) (b := 32) rfl rfl rfl ?_
    refine w_p (pc1 := 33) rfl rfl ?_
    refine w_m0 (pc1 := 36) (st1 := .long 108187649798757 :: _) rfl rfl rfl rfl ?_
    refine w_p (pc1 := 37) (st1 := .int 1 :: _) rfl rfl ?_
    refine w_f (a := 80) (b := 40) rfl rfl rfl ?_
    refine w_p (pc1 := 41) rfl rfl ?_
    refine w_m0 (pc1 := 44) (st1 := .long 422608071022 :: _) rfl rfl rfl rfl ?_
    refine w_p (pc1 := 45) (st1 := .int 1 :: _) rfl rfl ?_
    refine w_f (a := 80) (b := 48) rfl rfl rfl ?_
    refine w_p (pc1 := 49) rfl rfl ?_
    refine w_m0 (pc1 := 52) (st1 := .long 27973170910815333 :: _) rfl rfl rfl rfl ?_
    refine w_p (pc1 := 53) (st1 := .int (-1) :: _) rfl rfl ?_
    refine w_f (a := 80) (b := 56) rfl rfl rfl ?_
    refine w_p (pc1 := 57) rfl rfl ?_
    refine w_m0 (pc1 := 60) (st1 := .long 426953237355 :: _) rfl rfl rfl rfl ?_
    refine w_p (pc1 := 61) (st1 := .int 1 :: _) rfl rfl ?_
    refine w_f (a := 80) (b := 64) rfl rfl rfl ?_
    refine w_p (pc1 := 65) rfl rfl ?_
    refine w_m0 (pc1 := 68) (st1 := .long 109330228406644 :: _) rfl rfl rfl rfl ?_
    refine w_p (pc1 := 69) (st1 := .int 1 :: _) rfl rfl ?_
    refine w_f (a := 80) (b := 72) rfl rfl rfl ?_
    refine w_p (pc1 := 73) rfl rfl ?_
    refine w_m0 (pc1 := 76) (st1 := .long 28258988067220596 :: _) rfl rfl rfl rfl ?_
    refine w_p (pc1 := 77) (st1 := .int (-1) :: _) rfl rfl ?_
    refine w_t (a := 84) (b := 80) rfl rfl rfl ?_
    refine w_p (pc1 := 85) (st1 := .int 0 :: _) rfl rfl ?_
    refine w_p (pc1 := 86) (al1 := [(2, .int 0), (0, .long 110386773062757)]) rfl rfl ?_
    refine w_p (pc1 := 87) rfl rfl ?_
    refine w_m0 (pc1 := 90) (st1 := .long 110386773062757 :: _) rfl rfl rfl rfl ?_
    refine w_p (pc1 := 91) (st1 := .int 0 :: _) rfl rfl ?_
    refine w_t (a := 166) (b := 94) rfl rfl rfl ?_
    refine w_p (pc1 := 167) (st1 := .int 1 :: _) rfl rfl ?_
    refine w_p (pc1 := 171) rfl rfl ?_
    refine w_p (pc1 := 172) (al1 := [(3, .int 1), (2, .int 0), (0, .long 110386773062757)]) rfl rfl ?_
    refine w_p (pc1 := 173) rfl rfl ?_
    refine w_m0 (pc1 := 176) (st1 := .long 7237492 :: _) rfl rfl rfl rfl ?_
    refine w_p (pc1 := 177) (st1 := .int 1 :: _) rfl rfl ?_
    refine w_f (a := 252) (b := 180) rfl rfl rfl ?_
    refine w_p (pc1 := 181) rfl rfl ?_
    refine w_m0 (pc1 := 184) (st1 := .long 7237495 :: _) rfl rfl rfl rfl ?_
    refine w_p (pc1 := 185) (st1 := .int 1 :: _) rfl rfl ?_
    refine w_f (a := 252) (b := 188) rfl rfl rfl ?_
    refine w_p (pc1 := 189) rfl rfl ?_
    refine w_m0 (pc1 := 192) (st1 := .long 1853189228 :: _) rfl rfl rfl rfl ?_
    refine w_p (pc1 := 193) (st1 := .int 1 :: _) rfl rfl ?_
    refine w_f (a := 252) (b := 196) rfl rfl rfl ?_
    refine w_p (pc1 := 197) rfl rfl ?_
    refine w_m0 (pc1 := 200) (st1 := .long 7302244 :: _) rfl rfl rfl rfl ?_
    refine w_p (pc1 := 201) (st1 := .int 1 :: _) rfl rfl ?_
    refine w_f (a := 252) (b := 204) rfl rfl rfl ?_
    refine w_p (pc1 := 205) rfl rfl ?_
    refine w_m0 (pc1 := 208) (st1 := .long 28526 :: _) rfl rfl rfl rfl ?_
    refine w_p (pc1 := 209) (st1 := .int 1 :: _) rfl rfl ?_
    refine w_f (a := 252) (b := 212) rfl rfl rfl ?_
    refine w_p (pc1 := 213) rfl rfl ?_
    refine w_m0 (pc1 := 216) (st1 := .long 28530 :: _) rfl rfl rfl rfl ?_
    refine w_p (pc1 := 217) (st1 := .int 1 :: _) rfl rfl ?_
    refine w_f (a := 252) (b := 220) rfl rfl rfl ?_
    refine w_p (pc1 := 221) rfl rfl ?_
    refine w_m0 (pc1 := 224) (st1 := .long 31650994523828857 :: _) rfl rfl rfl rfl ?_
    refine w_p (pc1 := 225) (st1 := .int (-1) :: _) rfl rfl ?_
    refine w_f (a := 252) (b := 228) rfl rfl rfl ?_
    refine w_p (pc1 := 229) rfl rfl ?_
    refine w_m0 (pc1 := 232) (st1 := .long 491260572517 :: _) rfl rfl rfl rfl ?_
    refine w_p (pc1 := 233) (st1 := .int 1 :: _) rfl rfl ?_
    refine w_f (a := 252) (b := 236) rfl rfl rfl ?_
    refine w_p (pc1 := 237) rfl rfl ?_
    refine w_m0 (pc1 := 240) (st1 := .long 491327481202 :: _) rfl rfl rfl rfl ?_
    refine w_p (pc1 := 241) (st1 := .int 1 :: _) rfl rfl ?_
    refine w_f (a := 252) (b := 244) rfl rfl rfl ?_
    refine w_p (pc1 := 245) rfl rfl ?_
    refine w_m0 (pc1 := 248) (st1 := .long 7562612 :: _) rfl rfl rfl rfl ?_
    refine w_p (pc1 := 249) (st1 := .int 1 :: _) rfl rfl ?_
    refine w_t (a := 256) (b := 252) rfl rfl rfl ?_
    refine w_p (pc1 := 257) (st1 := .int 0 :: _) rfl rfl ?_
    refine w_p (pc1 := 259) (al1 := [(4, .int 0), (3, .int 1), (2, .int 0), (0, .long 110386773062757)]) rfl rfl ?_
    refine w_p (pc1 := 260) rfl rfl ?_
    refine w_f (a := 344) (b := 263) rfl rfl rfl ?_
    refine w_p (pc1 := 264) rfl rfl ?_
    refine w_t (a := 344) (b := 267) rfl rfl rfl ?_
    refine w_p (pc1 := 345) (st1 := .int 1 :: _) rfl rfl ?_
    refine w_p (pc1 := 349) rfl rfl ?_
    refine w_r rfl rfl rfl (fun _ _ => rfl) rfl ?_
    exact ⟨rfl, rfl, rfl⟩
  · skip
    refine w_p (pc1 := 1) rfl rfl ?_
    refine w_m0 (pc1 := 4) (st1 := .long 418330731890 :: _) rfl rfl rfl rfl ?_
    refine w_p (pc1 := 5) (st1 := .int (-1) :: _) rfl rfl ?_
    refine w_f (a := 80) (b := 8) rfl rfl rfl ?_
    refine w_p (pc1 := 9) rfl rfl ?_
    refine w_m0 (pc1 := 12) (st1 := .long 6384748 :: _) rfl rfl rfl rfl ?_
    refine w_p (pc1 := 13) (st1 := .int (-1) :: _) rfl rfl ?_
    refine w_f (a := 80) (b := 16) rfl rfl rfl ?_
    refine w_p (pc1 := 17) rfl rfl ?_
    refine w_m0 (pc1 := 20) (st1 := .long 6385252 :: _) rfl rfl rfl rfl ?_
    refine w_p (pc1 := 21) (st1 := .int (-1) :: _) rfl rfl ?_
    refine w_f (a := 80) (b := 24) rfl rfl rfl ?_
    refine w_p (pc1 := 25) rfl rfl ?_
    refine w_m0 (pc1 := 28) (st1 := .long 1650549611 :: _) rfl rfl rfl rfl ?_
    refine w_p (pc1 := 29) (st1 := .int (-1) :: _) rfl rfl ?_
    refine w_f (a := 80) (b := 32) rfl rfl rfl ?_
    refine w_p (pc1 := 33) rfl rfl ?_
    refine w_m0 (pc1 := 36) (st1 := .long 108187649798757 :: _) rfl rfl rfl rfl ?_
    refine w_p (pc1 := 37) (st1 := .int (-1) :: _) rfl rfl ?_
    refine w_f (a := 80) (b := 40) rfl rfl rfl ?_
    refine w_p (pc1 := 41) rfl rfl ?_
    refine w_m0 (pc1 := 44) (st1 := .long 422608071022 :: _) rfl rfl rfl rfl ?_
    refine w_p (pc1 := 45) (st1 := .int (-1) :: _) rfl rfl ?_
    refine w_f (a := 80) (b := 48) rfl rfl rfl ?_
    refine w_p (pc1 := 49) rfl rfl ?_
    refine w_m0 (pc1 := 52) (st1 := .long 27973170910815333 :: _) rfl rfl rfl rfl ?_
    refine w_p (pc1 := 53) (st1 := .int (-1) :: _) rfl rfl ?_
    refine w_f (a := 80) (b := 56) rfl rfl rfl ?_
    refine w_p (pc1 := 57) rfl rfl ?_
    refine w_m0 (pc1 := 60) (st1 := .long 426953237355 :: _) rfl rfl rfl rfl ?_
    refine w_p (pc1 := 61) (st1 := .int (-1) :: _) rfl rfl ?_
    refine w_f (a := 80) (b := 64) rfl rfl rfl ?_
    refine w_p (pc1 := 65) rfl rfl ?_
    refine w_m0 (pc1 := 68) (st1 := .long 109330228406644 :: _) rfl rfl rfl rfl ?_
    refine w_p (pc1 := 69) (st1 := .int (-1) :: _) rfl rfl ?_
    refine w_f (a := 80) (b := 72) rfl rfl rfl ?_
    refine w_p (pc1 := 73) rfl rfl ?_
    refine w_m0 (pc1 := 76) (st1 := .long 28258988067220596 :: _) rfl rfl rfl rfl ?_
    refine w_p (pc1 := 77) (st1 := .int (-1) :: _) rfl rfl ?_
    refine w_t (a := 84) (b := 80) rfl rfl rfl ?_
    refine w_p (pc1 := 85) (st1 := .int 0 :: _) rfl rfl ?_
    refine w_p (pc1 := 86) (al1 := [(2, .int 0), (0, .long 25711)]) rfl rfl ?_
    refine w_p (pc1 := 87) rfl rfl ?_
    refine w_m0 (pc1 := 90) (st1 := .long 110386773062757 :: _) rfl rfl rfl rfl ?_
    refine w_p (pc1 := 91) (st1 := .int (-1) :: _) rfl rfl ?_
    refine w_f (a := 166) (b := 94) rfl rfl rfl ?_
    refine w_p (pc1 := 95) rfl rfl ?_
    refine w_m0 (pc1 := 98) (st1 := .long 25711 :: _) rfl rfl rfl rfl ?_
    refine w_p (pc1 := 99) (st1 := .int 0 :: _) rfl rfl ?_
    refine w_t (a := 166) (b := 102) rfl rfl rfl ?_
    refine w_p (pc1 := 167) (st1 := .int 1 :: _) rfl rfl ?_
    refine w_p (pc1 := 171) rfl rfl ?_
    refine w_p (pc1 := 172) (al1 := [(3, .int 1), (2, .int 0), (0, .long 25711)]) rfl rfl ?_
    refine w_p (pc1 := 173) rfl rfl ?_
    refine w_m0 (pc1 := 176) (st1 := .long 7237492 :: _) rfl rfl rfl rfl ?_
    refine w_p (pc1 := 177) (st1 := .int (-1) :: _) rfl rfl ?_
    refine w_f (a := 252) (b := 180) rfl rfl rfl ?_
    refine w_p (pc1 := 181) rfl rfl ?_
    refine w_m0 (pc1 := 184) (st1 := .long 7237495 :: _) rfl rfl rfl rfl ?_
    refine w_p (pc1 := 185) (st1 := .int (-1) :: _) rfl rfl ?_
    refine w_f (a := 252) (b := 188) rfl rfl rfl ?_
    refine w_p (pc1 := 189) rfl rfl ?_
    refine w_m0 (pc1 := 192) (st1 := .long 1853189228 :: _) rfl rfl rfl rfl ?_
    refine w_p (pc1 := 193) (st1 := .int (-1) :: _) rfl rfl ?_
    refine w_f (a := 252) (b := 196) rfl rfl rfl ?_
    refine w_p (pc1 := 197) rfl rfl ?_
    refine w_m0 (pc1 := 200) (st1 := .long 7302244 :: _) rfl rfl rfl rfl ?_
    refine w_p (pc1 := 201) (st1 := .int (-1) :: _) rfl rfl ?_
    refine w_f (a := 252) (b := 204) rfl rfl rfl ?_
    refine w_p (pc1 := 205) rfl rfl ?_
    refine w_m0 (pc1 := 208) (st1 := .long 28526 :: _) rfl rfl rfl rfl ?_
    refine w_p (pc1 := 209) (st1 := .int (-1) :: _) rfl rfl ?_
    refine w_f (a := 252) (b := 212) rfl rfl rfl ?_
    refine w_p (pc1 := 213) rfl rfl ?_
    refine w_m0 (pc1 := 216) (st1 := .long 28530 :: _) rfl rfl rfl rfl ?_
    refine w_p (pc1 := 217) (st1 := .int (-1) :: _) rfl rfl ?_
    refine w_f (a := 252) (b := 220) rfl rfl rfl ?_
    refine w_p (pc1 := 221) rfl rfl ?_
    refine w_m0 (pc1 := 224) (st1 := .long 31650994523828857 :: _) rfl rfl rfl rfl ?_
    refine w_p (pc1 := 225) (st1 := .int (-1) :: _) rfl rfl ?_
    refine w_f (a := 252) (b := 228) rfl rfl rfl ?_
    refine w_p (pc1 := 229) rfl rfl ?_
    refine w_m0 (pc1 := 232) (st1 := .long 491260572517 :: _) rfl rfl rfl rfl ?_
    refine w_p (pc1 := 233) (st1 := .int (-1) :: _) rfl rfl ?_
    refine w_f (a := 252) (b := 236) rfl rfl rfl ?_
    refine w_p (pc1 := 237) rfl rfl ?_
    refine w_m0 (pc1 := 240) (st1 := .long 491327481202 :: _) rfl rfl rfl rfl ?_
    refine w_p (pc1 := 241) (st1 := .int (-1) :: _) rfl rfl ?_
    refine w_f (a := 252) (b := 244) rfl rfl rfl ?_
    refine w_p (pc1 := 245) rfl rfl ?_
    refine w_m0 (pc1 := 248) (st1 := .long 7562612 :: _) rfl rfl rfl rfl ?_
    refine w_p (pc1 := 249) (st1 := .int (-1) :: _) rfl rfl ?_
    refine w_t (a := 256) (b := 252) rfl rfl rfl ?_
    refine w_p (pc1 := 257) (st1 := .int 0 :: _) rfl rfl ?_
    refine w_p (pc1 := 259) (al1 := [(4, .int 0), (3, .int 1), (2, .int 0), (0, .long 25711)]) rfl rfl ?_
    refine w_p (pc1 := 260) rfl rfl ?_
    refine w_f (a := 344) (b := 263) rfl rfl rfl ?_
    refine w_p (pc1 := 264) rfl rfl ?_
    refine w_t (a := 344) (b := 267) rfl rfl rfl ?_
    refine w_p (pc1 := 345) (st1 := .int 1 :: _) rfl rfl ?_
    refine w_p (pc1 := 349) rfl rfl ?_
    refine w_r rfl rfl rfl (fun _ _ => rfl) rfl ?_
    exact ⟨rfl, rfl, rfl⟩
  · skip
    refine w_p (pc1 := 1) rfl rfl ?_
    refine w_m0 (pc1 := 4) (st1 := .long 418330731890 :: _) rfl rfl rfl rfl ?_
    refine w_p (pc1 := 5) (st1 := .int (-1) :: _) rfl rfl ?_
    refine w_f (a := 80) (b := 8) rfl rfl rfl ?_
    refine w_p (pc1 := 9) rfl rfl ?_
    refine w_m0 (pc1 := 12) (st1 := .long 6384748 :: _) rfl rfl rfl rfl ?_
    refine w_p (pc1 := 13) (st1 := .int 1 :: _) rfl rfl ?_
    refine w_f (a := 80) (b := 16) rfl rfl rfl ?_
    refine w_p (pc1 := 17) rfl rfl ?_
    refine w_m0 (pc1 := 20) (st1 := .long 6385252 :: _) rfl rfl rfl rfl ?_
    refine w_p (pc1 := 21) (st1 := .int 1 :: _) rfl rfl ?_
    refine w_f (a := 80) (b := 24) rfl rfl rfl ?_
    refine w_p (pc1 := 25) rfl rfl ?_
    refine w_m0 (pc1 := 28) (st1 := .long 1650549611 :: _) rfl rfl rfl rfl ?_
    refine w_p (pc1 := 29) (st1 := .int 1 :: _) rfl rfl ?_
    refine w_f (a := 80) (b := 32) rfl rfl rfl ?_
    refine w_p (pc1 := 33) rfl rfl ?_
    refine w_m0 (pc1 := 36) (st1 := .long 108187649798757 :: _) rfl rfl rfl rfl ?_
    refine w_p (pc1 := 37) (st1 := .int (-1) :: _) rfl rfl ?_
    refine w_f (a := 80) (b := 40) rfl rfl rfl ?_
    refine w_p (pc1 := 41) rfl rfl ?_
    refine w_m0 (pc1 := 44) (st1 := .long 422608071022 :: _) rfl rfl rfl rfl ?_
    refine w_p (pc1 := 45) (st1 := .int (-1) :: _) rfl rfl ?_
    refine w_f (a := 80) (b := 48) rfl rfl rfl ?_
    refine w_p (pc1 := 49) rfl rfl ?_
    refine w_m0 (pc1 := 52) (st1 := .long 27973170910815333 :: _) rfl rfl rfl rfl ?_
    refine w_p (pc1 := 53) (st1 := .int (-1) :: _) rfl rfl ?_
    refine w_f (a := 80) (b := 56) rfl rfl rfl ?_
    refine w_p (pc1 := 57) rfl rfl ?_
    refine w_m0 (pc1 := 60) (st1 := .long 426953237355 :: _) rfl rfl rfl rfl ?_
    refine w_p (pc1 := 61) (st1 := .int (-1) :: _) rfl rfl ?_
    refine w_f (a := 80) (b := 64) rfl rfl rfl ?_
    refine w_p (pc1 := 65) rfl rfl ?_
    refine w_m0 (pc1 := 68) (st1 := .long 109330228406644 :: _) rfl rfl rfl rfl ?_
    refine w_p (pc1 := 69) (st1 := .int (-1) :: _) rfl rfl ?_
    refine w_f (a := 80) (b := 72) rfl rfl rfl ?_
    refine w_p (pc1 := 73) rfl rfl ?_
    refine w_m0 (pc1 := 76) (st1 := .long 28258988067220596 :: _) rfl rfl rfl rfl ?_
    refine w_p (pc1 := 77) (st1 := .int (-1) :: _) rfl rfl ?_
    refine w_t (a := 84) (b := 80) rfl rfl rfl ?_
    refine w_p (pc1 := 85) (st1 := .int 0 :: _) rfl rfl ?_
    refine w_p (pc1 := 86) (al1 := [(2, .int 0), (0, .long 1685221232)]) rfl rfl ?_
    refine w_p (pc1 := 87) rfl rfl ?_
    refine w_m0 (pc1 := 90) (st1 := .long 110386773062757 :: _) rfl rfl rfl rfl ?_
    refine w_p (pc1 := 91) (st1 := .int (-1) :: _) rfl rfl ?_
    refine w_f (a := 166) (b := 94) rfl rfl rfl ?_
    refine w_p (pc1 := 95) rfl rfl ?_
    refine w_m0 (pc1 := 98) (st1 := .long 25711 :: _) rfl rfl rfl rfl ?_
    refine w_p (pc1 := 99) (st1 := .int 1 :: _) rfl rfl ?_
    refine w_f (a := 166) (b := 102) rfl rfl rfl ?_
    refine w_p (pc1 := 103) rfl rfl ?_
    refine w_m0 (pc1 := 106) (st1 := .long 1685221232 :: _) rfl rfl rfl rfl ?_
    refine w_p (pc1 := 107) (st1 := .int 0 :: _) rfl rfl ?_
    refine w_t (a := 166) (b := 110) rfl rfl rfl ?_
    refine w_p (pc1 := 167) (st1 := .int 1 :: _) rfl rfl ?_
    refine w_p (pc1 := 171) rfl rfl ?_
    refine w_p (pc1 := 172) (al1 := [(3, .int 1), (2, .int 0), (0, .long 1685221232)]) rfl rfl ?_
    refine w_p (pc1 := 173) rfl rfl ?_
    refine w_m0 (pc1 := 176) (st1 := .long 7237492 :: _) rfl rfl rfl rfl ?_
    refine w_p (pc1 := 177) (st1 := .int 1 :: _) rfl rfl ?_
    refine w_f (a := 252) (b := 180) rfl rfl rfl ?_
    refine w_p (pc1 := 181) rfl rfl ?_
    refine w_m0 (pc1 := 184) (st1 := .long 7237495 :: _) rfl rfl rfl rfl ?_
    refine w_p (pc1 := 185) (st1 := .int 1 :: _) rfl rfl ?_
    refine w_f (a := 252) (b := 188) rfl rfl rfl ?_
    refine w_p (pc1 := 189) rfl rfl ?_
    refine w_m0 (pc1 := 192) (st1 := .long 1853189228 :: _) rfl rfl rfl rfl ?_
    refine w_p (pc1 := 193) (st1 := .int (-1) :: _) rfl rfl ?_
    refine w_f (a := 252) (b := 196) rfl rfl rfl ?_
    refine w_p (pc1 := 197) rfl rfl ?_
    refine w_m0 (pc1 := 200) (st1 := .long 7302244 :: _) rfl rfl rfl rfl ?_
    refine w_p (pc1 := 201) (st1 := .int 1 :: _) rfl rfl ?_
    refine w_f (a := 252) (b := 204) rfl rfl rfl ?_
    refine w_p (pc1 := 205) rfl rfl ?_
    refine w_m0 (pc1 := 208) (st1 := .long 28526 :: _) rfl rfl rfl rfl ?_
    refine w_p (pc1 := 209) (st1 := .int 1 :: _) rfl rfl ?_
    refine w_f (a := 252) (b := 212) rfl rfl rfl ?_
    refine w_p (pc1 := 213) rfl rfl ?_
    refine w_m0 (pc1 := 216) (st1 := .long 28530 :: _) rfl rfl rfl rfl ?_
    refine w_p (pc1 := 217) (st1 := .int 1 :: _) rfl rfl ?_
    refine w_f (a := 252) (b := 220) rfl rfl rfl ?_
    refine w_p (pc1 := 221) rfl rfl ?_
    refine w_m0 (pc1 := 224) (st1 := .long 31650994523828857 :: _) rfl rfl rfl rfl ?_
    refine w_p (pc1 := 225) (st1 := .int (-1) :: _) rfl rfl ?_
    refine w_f (a := 252) (b := 228) rfl rfl rfl ?_
    refine w_p (pc1 := 229) rfl rfl ?_
    refine w_m0 (pc1 := 232) (st1 := .long 491260572517 :: _) rfl rfl rfl rfl ?_
    refine w_p (pc1 := 233) (st1 := .int (-1) :: _) rfl rfl ?_
    refine w_f (a := 252) (b := 236) rfl rfl rfl ?_
    refine w_p (pc1 := 237) rfl rfl ?_
    refine w_m0 (pc1 := 240) (st1 := .long 491327481202 :: _) rfl rfl rfl rfl ?_
    refine w_p (pc1 := 241) (st1 := .int (-1) :: _) rfl rfl ?_
    refine w_f (a := 252) (b := 244) rfl rfl rfl ?_
    refine w_p (pc1 := 245) rfl rfl ?_
    refine w_m0 (pc1 := 248) (st1 := .long 7562612 :: _) rfl rfl rfl rfl ?_
    refine w_p (pc1 := 249) (st1 := .int 1 :: _) rfl rfl ?_
    refine w_t (a := 256) (b := 252) rfl rfl rfl ?_
    refine w_p (pc1 := 257) (st1 := .int 0 :: _) rfl rfl ?_
    refine w_p (pc1 := 259) (al1 := [(4, .int 0), (3, .int 1), (2, .int 0), (0, .long 1685221232)]) rfl rfl ?_
    refine w_p (pc1 := 260) rfl rfl ?_
    refine w_f (a := 344) (b := 263) rfl rfl rfl ?_
    refine w_p (pc1 := 264) rfl rfl ?_
    refine w_t (a := 344) (b := 267) rfl rfl rfl ?_
    refine w_p (pc1 := 345) (st1 := .int 1 :: _) rfl rfl ?_
    refine w_p (pc1 := 349) rfl rfl ?_
    refine w_r rfl rfl rfl (fun _ _ => rfl) rfl ?_
    exact ⟨rfl, rfl, rfl⟩
  · skip
    refine w_p (pc1 := 1) rfl rfl ?_
    refine w_m0 (pc1 := 4) (st1 := .long 418330731890 :: _) rfl rfl rfl rfl ?_
    refine w_p (pc1 := 5) (st1 := .int 1 :: _) rfl rfl ?_
    refine w_f (a := 80) (b := 8) rfl rfl rfl ?_
    refine w_p (pc1 := 9) rfl rfl ?_
    refine w_m0 (pc1 := 12) (st1 := .long 6384748 :: _) rfl rfl rfl rfl ?_
    refine w_p (pc1 := 13) (st1 := .int 1 :: _) rfl rfl ?_
    refine w_f (a := 80) (b := 16) rfl rfl rfl ?_
    refine w_p (pc1 := 17) rfl rfl ?_
    refine w_m0 (pc1 := 20) (st1 := .long 6385252 :: _) rfl rfl rfl rfl ?_
    refine w_p (pc1 := 21) (st1 := .int 1 :: _) rfl rfl ?_
    refine w_f (a := 80) (b := 24) rfl rfl rfl ?_
    refine w_p (pc1 := 25) rfl rfl ?_
    refine w_m0 (pc1 := 28) (st1 := .long 1650549611 :: _) rfl rfl rfl rfl ?_
    refine w_p (pc1 := 29) (st1 := .int 1 :: _) rfl rfl ?_
    refine w_f (a := 80) (b := 32) rfl rfl rfl ?_
    refine w_p (pc1 := 33) rfl rfl ?_
    refine w_m0 (pc1 := 36) (st1 := .long 108187649798757 :: _) rfl rfl rfl rfl ?_
    refine w_p (pc1 := 37) (st1 := .int 1 :: _) rfl rfl ?_
    refine w_f (a := 80) (b := 40) rfl rfl rfl ?_
    refine w_p (pc1 := 41) rfl rfl ?_
    refine w_m0 (pc1 := 44) (st1 := .long 422608071022 :: _) rfl rfl rfl rfl ?_
    refine w_p (pc1 := 45) (st1 := .int 1 :: _) rfl rfl ?_
    refine w_f (a := 80) (b := 48) rfl rfl rfl ?_
    refine w_p (pc1 := 49) rfl rfl ?_
    refine w_m0 (pc1 := 52) (st1 := .long 27973170910815333 :: _) rfl rfl rfl rfl ?_
    refine w_p (pc1 := 53) (st1 := .int (-1) :: _) rfl rfl ?_
    refine w_f (a := 80) (b := 56) rfl rfl rfl ?_
    refine w_p (pc1 := 57) rfl rfl ?_
    refine w_m0 (pc1 := 60) (st1 := .long 426953237355 :: _) rfl rfl rfl rfl ?_
    refine w_p (pc1 := 61) (st1 := .int 1 :: _) rfl rfl ?_
    refine w_f (a := 80) (b := 64) rfl rfl rfl ?_
    refine w_p (pc1 := 65) rfl rfl ?_
    refine w_m0 (pc1 := 68) (st1 := .long 109330228406644 :: _) rfl rfl rfl rfl ?_
    refine w_p (pc1 := 69) (st1 := .int 1 :: _) rfl rfl ?_
    refine w_f (a := 80) (b := 72) rfl rfl rfl ?_
    refine w_p (pc1 := 73) rfl rfl ?_
    refine w_m0 (pc1 := 76) (st1 := .long 28258988067220596 :: _) rfl rfl rfl rfl ?_
    refine w_p (pc1 := 77) (st1 := .int (-1) :: _) rfl rfl ?_
    refine w_t (a := 84) (b := 80) rfl rfl rfl ?_
    refine w_p (pc1 := 85) (st1 := .int 0 :: _) rfl rfl ?_
    refine w_p (pc1 := 86) (al1 := [(2, .int 0), (0, .long 115923103347316)]) rfl rfl ?_
    refine w_p (pc1 := 87) rfl rfl ?_
    refine w_m0 (pc1 := 90) (st1 := .long 110386773062757 :: _) rfl rfl rfl rfl ?_
    refine w_p (pc1 := 91) (st1 := .int 1 :: _) rfl rfl ?_
    refine w_f (a := 166) (b := 94) rfl rfl rfl ?_
    refine w_p (pc1 := 95) rfl rfl ?_
    refine w_m0 (pc1 := 98) (st1 := .long 25711 :: _) rfl rfl rfl rfl ?_
    refine w_p (pc1 := 99) (st1 := .int 1 :: _) rfl rfl ?_
    refine w_f (a := 166) (b := 102) rfl rfl rfl ?_
    refine w_p (pc1 := 103) rfl rfl ?_
    refine w_m0 (pc1 := 106) (st1 := .long 1685221232 :: _) rfl rfl rfl rfl ?_
    refine w_p (pc1 := 107) (st1 := .int 1 :: _) rfl rfl ?_
    refine w_f (a := 166) (b := 110) rfl rfl rfl ?_
    refine w_p (pc1 := 111) rfl rfl ?_
    refine w_m0 (pc1 := 114) (st1 := .long 115923103347316 :: _) rfl rfl rfl rfl ?_
    refine w_p (pc1 := 115) (st1 := .int 0 :: _) rfl rfl ?_
    refine w_t (a := 166) (b := 118) rfl rfl rfl ?_
    refine w_p (pc1 := 167) (st1 := .int 1 :: _) rfl rfl ?_
    refine w_p (pc1 := 171) rfl rfl ?_
    refine w_p (pc1 := 172) (al1 := [(3, .int 1), (2, .int 0), (0, .long 115923103347316)]) rfl rfl ?_
    refine w_p (pc1 := 173) rfl rfl ?_
    refine w_m0 (pc1 := 176) (st1 := .long 7237492 :: _) rfl rfl rfl rfl ?_
    refine w_p (pc1 := 177) (st1 := .int 1 :: _) rfl rfl ?_
    refine w_f (a := 252) (b := 180) rfl rfl rfl ?_
    refine w_p (pc1 := 181) rfl rfl ?_
    refine w_m0 (pc1 := 184) (st1 := .long 7237495 :: _) rfl rfl rfl rfl ?_
    refine w_p (pc1 := 185) (st1 := .int 1 :: _) rfl rfl ?_
    refine w_f (a := 252) (b := 188) rfl rfl rfl ?_
    refine w_p (pc1 := 189) rfl rfl ?_
    refine w_m0 (pc1 := 192) (st1 := .long 1853189228 :: _) rfl rfl rfl rfl ?_
    refine w_p (pc1 := 193) (st1 := .int 1 :: _) rfl rfl ?_
    refine w_f (a := 252) (b := 196) rfl rfl rfl ?_
    refine w_p (pc1 := 197) rfl rfl ?_
    refine w_m0 (pc1 := 200) (st1 := .long 7302244 :: _) rfl rfl rfl rfl ?_
    refine w_p (pc1 := 201) (st1 := .int 1 :: _) rfl rfl ?_
    refine w_f (a := 252) (b := 204) rfl rfl rfl ?_
    refine w_p (pc1 := 205) rfl rfl ?_
    refine w_m0 (pc1 := 208) (st1 := .long 28526 :: _) rfl rfl rfl rfl ?_
    refine w_p (pc1 := 209) (st1 := .int 1 :: _) rfl rfl ?_
    refine w_f (a := 252) (b := 212) rfl rfl rfl ?_
    refine w_p (pc1 := 213) rfl rfl ?_
    refine w_m0 (pc1 := 216) (st1 := .long 28530 :: _) rfl rfl rfl rfl ?_
    refine w_p (pc1 := 217) (st1 := .int 1 :: _) rfl rfl ?_
    refine w_f (a := 252) (b := 220) rfl rfl rfl ?_
    refine w_p (pc1 := 221) rfl rfl ?_
    refine w_m0 (pc1 := 224) (st1 := .long 31650994523828857 :: _) rfl rfl rfl rfl ?_
    refine w_p (pc1 := 225) (st1 := .int (-1) :: _) rfl rfl ?_
    refine w_f (a := 252) (b := 228) rfl rfl rfl ?_
    refine w_p (pc1 := 229) rfl rfl ?_
    refine w_m0 (pc1 := 232) (st1 := .long 491260572517 :: _) rfl rfl rfl rfl ?_
    refine w_p (pc1 := 233) (st1 := .int 1 :: _) rfl rfl ?_
    refine w_f (a := 252) (b := 236) rfl rfl rfl ?_
    refine w_p (pc1 := 237) rfl rfl ?_
    refine w_m0 (pc1 := 240) (st1 := .long 491327481202 :: _) rfl rfl rfl rfl ?_
    refine w_p (pc1 := 241) (st1 := .int 1 :: _) rfl rfl ?_
    refine w_f (a := 252) (b := 244) rfl rfl rfl ?_
    refine w_p (pc1 := 245) rfl rfl ?_
    refine w_m0 (pc1 := 248) (st1 := .long 7562612 :: _) rfl rfl rfl rfl ?_
    refine w_p (pc1 := 249) (st1 := .int 1 :: _) rfl rfl ?_
    refine w_t (a := 256) (b := 252) rfl rfl rfl ?_
    refine w_p (pc1 := 257) (st1 := .int 0 :: _) rfl rfl ?_
    refine w_p (pc1 := 259) (al1 := [(4, .int 0), (3, .int 1), (2, .int 0), (0, .long 115923103347316)]) rfl rfl ?_
    refine w_p (pc1 := 260) rfl rfl ?_
    refine w_f (a := 344) (b := 263) rfl rfl rfl ?_
    refine w_p (pc1 := 264) rfl rfl ?_
    refine w_t (a := 344) (b := 267) rfl rfl rfl ?_
    refine w_p (pc1 := 345) (st1 := .int 1 :: _) rfl rfl ?_
    refine w_p (pc1 := 349) rfl rfl ?_
    refine w_r rfl rfl rfl (fun _ _ => rfl) rfl ?_
    exact ⟨rfl, rfl, rfl⟩
  · skip
    refine w_p (pc1 := 1) rfl rfl ?_
    refine w_m0 (pc1 := 4) (st1 := .long 418330731890 :: _) rfl rfl rfl rfl ?_
    refine w_p (pc1 := 5) (st1 := .int (-1) :: _) rfl rfl ?_
    refine w_f (a := 80) (b := 8) rfl rfl rfl ?_
    refine w_p (pc1 := 9) rfl rfl ?_
    refine w_m0 (pc1 := 12) (st1 := .long 6384748 :: _) rfl rfl rfl rfl ?_
    refine w_p (pc1 := 13) (st1 := .int (-1) :: _) rfl rfl ?_
    refine w_f (a := 80) (b := 16) rfl rfl rfl ?_
    refine w_p (pc1 := 17) rfl rfl ?_
    refine w_m0 (pc1 := 20) (st1 := .long 6385252 :: _) rfl rfl rfl rfl ?_
    refine w_p (pc1 := 21) (st1 := .int (-1) :: _) rfl rfl ?_
    refine w_f (a := 80) (b := 24) rfl rfl rfl ?_
    refine w_p (pc1 := 25) rfl rfl ?_
    refine w_m0 (pc1 := 28) (st1 := .long 1650549611 :: _) rfl rfl rfl rfl ?_
    refine w_p (pc1 := 29) (st1 := .int (-1) :: _) rfl rfl ?_
    refine w_f (a := 80) (b := 32) rfl rfl rfl ?_
    refine w_p (pc1 := 33) rfl rfl ?_
    refine w_m0 (pc1 := 36) (st1 := .long 108187649798757 :: _) rfl rfl rfl rfl ?_
    refine w_p (pc1 := 37) (st1 := .int (-1) :: _) rfl rfl ?_
    refine w_f (a := 80) (b := 40) rfl rfl rfl ?_
    refine w_p (pc1 := 41) rfl rfl ?_
    refine w_m0 (pc1 := 44) (st1 := .long 422608071022 :: _) rfl rfl rfl rfl ?_
    refine w_p (pc1 := 45) (st1 := .int (-1) :: _) rfl rfl ?_
    refine w_f (a := 80) (b := 48) rfl rfl rfl ?_
    refine w_p (pc1 := 49) rfl rfl ?_
    refine w_m0 (pc1 := 52) (st1 := .long 27973170910815333 :: _) rfl rfl rfl rfl ?_
    refine w_p (pc1 := 53) (st1 := .int (-1) :: _) rfl rfl ?_
    refine w_f (a := 80) (b := 56) rfl rfl rfl ?_
    refine w_p (pc1 := 57) rfl rfl ?_
    refine w_m0 (pc1 := 60) (st1 := .long 426953237355 :: _) rfl rfl rfl rfl ?_
    refine w_p (pc1 := 61) (st1 := .int (-1) :: _) rfl rfl ?_
    refine w_f (a := 80) (b := 64) rfl rfl rfl ?_
    refine w_p (pc1 := 65) rfl rfl ?_
    refine w_m0 (pc1 := 68) (st1 := .long 109330228406644 :: _) rfl rfl rfl rfl ?_
    refine w_p (pc1 := 69) (st1 := .int (-1) :: _) rfl rfl ?_
    refine w_f (a := 80) (b := 72) rfl rfl rfl ?_
    refine w_p (pc1 := 73) rfl rfl ?_
    refine w_m0 (pc1 := 76) (st1 := .long 28258988067220596 :: _) rfl rfl rfl rfl ?_
    refine w_p (pc1 := 77) (st1 := .int (-1) :: _) rfl rfl ?_
    refine w_t (a := 84) (b := 80) rfl rfl rfl ?_
    refine w_p (pc1 := 85) (st1 := .int 0 :: _) rfl rfl ?_
    refine w_p (pc1 := 86) (al1 := [(2, .int 0), (0, .long 26995)]) rfl rfl ?_
    refine w_p (pc1 := 87) rfl rfl ?_
    refine w_m0 (pc1 := 90) (st1 := .long 110386773062757 :: _) rfl rfl rfl rfl ?_
    refine w_p (pc1 := 91) (st1 := .int (-1) :: _) rfl rfl ?_
    refine w_f (a := 166) (b := 94) rfl rfl rfl ?_
    refine w_p (pc1 := 95) rfl rfl ?_
    refine w_m0 (pc1 := 98) (st1 := .long 25711 :: _) rfl rfl rfl rfl ?_
    refine w_p (pc1 := 99) (st1 := .int 1 :: _) rfl rfl ?_
    refine w_f (a := 166) (b := 102) rfl rfl rfl ?_
    refine w_p (pc1 := 103) rfl rfl ?_
    refine w_m0 (pc1 := 106) (st1 := .long 1685221232 :: _) rfl rfl rfl rfl ?_
    refine w_p (pc1 := 107) (st1 := .int (-1) :: _) rfl rfl ?_
    refine w_f (a := 166) (b := 110) rfl rfl rfl ?_
    refine w_p (pc1 := 111) rfl rfl ?_
    refine w_m0 (pc1 := 114) (st1 := .long 115923103347316 :: _) rfl rfl rfl rfl ?_
    refine w_p (pc1 := 115) (st1 := .int (-1) :: _) rfl rfl ?_
    refine w_f (a := 166) (b := 118) rfl rfl rfl ?_
    refine w_p (pc1 := 119) rfl rfl ?_
    refine w_m0 (pc1 := 122) (st1 := .long 26995 :: _) rfl rfl rfl rfl ?_
    refine w_p (pc1 := 123) (st1 := .int 0 :: _) rfl rfl ?_
    refine w_t (a := 166) (b := 126) rfl rfl rfl ?_
    refine w_p (pc1 := 167) (st1 := .int 1 :: _) rfl rfl ?_
    refine w_p (pc1 := 171) rfl rfl ?_
    refine w_p (pc1 := 172) (al1 := [(3, .int 1), (2, .int 0), (0, .long 26995)]) rfl rfl ?_
    refine w_p (pc1 := 173) rfl rfl ?_
    refine w_m0 (pc1 := 176) (st1 := .long 7237492 :: _) rfl rfl rfl rfl ?_
    refine w_p (pc1 := 177) (st1 := .int (-1) :: _) rfl rfl ?_
    refine w_f (a := 252) (b := 180) rfl rfl rfl ?_
    refine w_p (pc1 := 181) rfl rfl ?_
    refine w_m0 (pc1 := 184) (st1 := .long 7237495 :: _) rfl rfl rfl rfl ?_
    refine w_p (pc1 := 185) (st1 := .int (-1) :: _) rfl rfl ?_
    refine w_f (a := 252) (b := 188) rfl rfl rfl ?_
    refine w_p (pc1 := 189) rfl rfl ?_
    refine w_m0 (pc1 := 192) (st1 := .long 1853189228 :: _) rfl rfl rfl rfl ?_
    refine w_p (pc1 := 193) (st1 := .int (-1) :: _) rfl rfl ?_
    refine w_f (a := 252) (b := 196) rfl rfl rfl ?_
    refine w_p (pc1 := 197) rfl rfl ?_
    refine w_m0 (pc1 := 200) (st1 := .long 7302244 :: _) rfl rfl rfl rfl ?_
    refine w_p (pc1 := 201) (st1 := .int (-1) :: _) rfl rfl ?_
    refine w_f (a := 252) (b := 204) rfl rfl rfl ?_
    refine w_p (pc1 := 205) rfl rfl ?_
    refine w_m0 (pc1 := 208) (st1 := .long 28526 :: _) rfl rfl rfl rfl ?_
    refine w_p (pc1 := 209) (st1 := .int (-1) :: _) rfl rfl ?_
    refine w_f (a := 252) (b := 212) rfl rfl rfl ?_
    refine w_p (pc1 := 213) rfl rfl ?_
    refine w_m0 (pc1 := 216) (st1 := .long 28530 :: _) rfl rfl rfl rfl ?_
    refine w_p (pc1 := 217) (st1 := .int (-1) :: _) rfl rfl ?_
    refine w_f (a := 252) (b := 220) rfl rfl rfl ?_
    refine w_p (pc1 := 221) rfl rfl ?_
    refine w_m0 (pc1 := 224) (st1 := .long 31650994523828857 :: _) rfl rfl rfl rfl ?_
    refine w_p (pc1 := 225) (st1 := .int (-1) :: _) rfl rfl ?_
    refine w_f (a := 252) (b := 228) rfl rfl rfl ?_
    refine w_p (pc1 := 229) rfl rfl ?_
    refine w_m0 (pc1 := 232) (st1 := .long 491260572517 :: _) rfl rfl rfl rfl ?_
    refine w_p (pc1 := 233) (st1 := .int (-1) :: _) rfl rfl ?_
    refine w_f (a := 252) (b := 236) rfl rfl rfl ?_
    refine w_p (pc1 := 237) rfl rfl ?_
    refine w_m0 (pc1 := 240) (st1 := .long 491327481202 :: _) rfl rfl rfl rfl ?_
    refine w_p (pc1 := 241) (st1 := .int (-1) :: _) rfl rfl ?_
    refine w_f (a := 252) (b := 244) rfl rfl rfl ?_
    refine w_p (pc1 := 245) rfl rfl ?_
    refine w_m0 (pc1 := 248) (st1 := .long 7562612 :: _) rfl rfl rfl rfl ?_
    refine w_p (pc1 := 249) (st1 := .int (-1) :: _) rfl rfl ?_
    refine w_t (a := 256) (b := 252) rfl rfl rfl ?_
    refine w_p (pc1 := 257) (st1 := .int 0 :: _) rfl rfl ?_
    refine w_p (pc1 := 259) (al1 := [(4, .int 0), (3, .int 1), (2, .int 0), (0, .long 26995)]) rfl rfl ?_
    refine w_p (pc1 := 260) rfl rfl ?_
    refine w_f (a := 344) (b := 263) rfl rfl rfl ?_
    refine w_p (pc1 := 264) rfl rfl ?_
    refine w_t (a := 344) (b := 267) rfl rfl rfl ?_
    refine w_p (pc1 := 345) (st1 := .int 1 :: _) rfl rfl ?_
    refine w_p (pc1 := 349) rfl rfl ?_
    refine w_r rfl rfl rfl (fun _ _ => rfl) rfl ?_
    exact ⟨rfl, rfl, rfl⟩
  · skip
    refine w_p (pc1 := 1) rfl rfl ?_
    refine w_m0 (pc1 := 4) (st1 := .long 418330731890 :: _) rfl rfl rfl rfl ?_
    refine w_p (pc1 := 5) (st1 := .int (-1) :: _) rfl rfl ?_
    refine w_f (a := 80) (b := 8) rfl rfl rfl ?_
    refine w_p (pc1 := 9) rfl rfl ?_
    refine w_m0 (pc1 := 12) (st1 := .long 6384748 :: _) rfl rfl rfl rfl ?_
    refine w_p (pc1 := 13) (st1 := .int 1 :: _) rfl rfl ?_
    refine w_f (a := 80) (b := 16) rfl rfl rfl ?_
    refine w_p (pc1 := 17) rfl rfl ?_
    refine w_m0 (pc1 := 20) (st1 := .long 6385252 :: _) rfl rfl rfl rfl ?_
    refine w_p (pc1 := 21) (st1 := .int 1 :: _) rfl rfl ?_
    refine w_f (a := 80) (b := 24) rfl rfl rfl ?_
    refine w_p (pc1 := 25) rfl rfl ?_
    refine w_m0 (pc1 := 28) (st1 := .long 1650549611 :: _) rfl rfl rfl rfl ?_
    refine w_p (pc1 := 29) (st1 := .int 1 :: _) rfl rfl ?_
    refine w_f (a := 80) (b := 32) rfl rfl rfl ?_
    refine w_p (pc1 := 33) rfl rfl ?_
    refine w_m0 (pc1 := 36) (st1 := .long 108187649798757 :: _) rfl rfl rfl rfl ?_
    refine w_p (pc1 := 37) (st1 := .int (-1) :: _) rfl rfl ?_
    refine w_f (a := 80) (b := 40) rfl rfl rfl ?_
    refine w_p (pc1 := 41) rfl rfl ?_
    refine w_m0 (pc1 := 44) (st1 := .long 422608071022 :: _) rfl rfl rfl rfl ?_
    refine w_p (pc1 := 45) (st1 := .int (-1) :: _) rfl rfl ?_
    refine w_f (a := 80) (b := 48) rfl rfl rfl ?_
    refine w_p (pc1 := 49) rfl rfl ?_
    refine w_m0 (pc1 := 52) (st1 := .long 27973170910815333 :: _) rfl rfl rfl rfl ?_
    refine w_p (pc1 := 53) (st1 := .int (-1) :: _) rfl rfl ?_
    refine w_f (a := 80) (b := 56) rfl rfl rfl ?_
    refine w_p (pc1 := 57) rfl rfl ?_
    refine w_m0 (pc1 := 60) (st1 := .long 426953237355 :: _) rfl rfl rfl rfl ?_
    refine w_p (pc1 := 61) (st1 := .int (-1) :: _) rfl rfl ?_
    refine w_f (a := 80) (b := 64) rfl rfl rfl ?_
    refine w_p (pc1 := 65) rfl rfl ?_
    refine w_m0 (pc1 := 68) (st1 := .long 109330228406644 :: _) rfl rfl rfl rfl ?_
    refine w_p (pc1 := 69) (st1 := .int (-1) :: _) rfl rfl ?_
    refine w_f (a := 80) (b := 72) rfl rfl rfl ?_
    refine w_p (pc1 := 73) rfl rfl ?_
    refine w_m0 (pc1 := 76) (st1 := .long 28258988067220596 :: _) rfl rfl rfl rfl ?_
    refine w_p (pc1 := 77) (st1 := .int (-1) :: _) rfl rfl ?_
    refine w_t (a := 84) (b := 80) rfl rfl rfl ?_
    refine w_p (pc1 := 85) (st1 := .int 0 :: _) rfl rfl ?_
    refine w_p (pc1 := 86) (al1 := [(2, .int 0), (0, .long 1818326117)]) rfl rfl ?_
    refine w_p (pc1 := 87) rfl rfl ?_
    refine w_m0 (pc1 := 90) (st1 := .long 110386773062757 :: _) rfl rfl rfl rfl ?_
    refine w_p (pc1 := 91) (st1 := .int (-1) :: _) rfl rfl ?_
    refine w_f (a := 166) (b := 94) rfl rfl rfl ?_
    refine w_p (pc1 := 95) rfl rfl ?_
    refine w_m0 (pc1 := 98) (st1 := .long 25711 :: _) rfl rfl rfl rfl ?_
    refine w_p (pc1 := 99) (st1 := .int 1 :: _) rfl rfl ?_
    refine w_f (a := 166) (b := 102) rfl rfl rfl ?_
    refine w_p (pc1 := 103) rfl rfl ?_
    refine w_m0 (pc1 := 106) (st1 := .long 1685221232 :: _) rfl rfl rfl rfl ?_
    refine w_p (pc1 := 107) (st1 := .int 1 :: _) rfl rfl ?_
    refine w_f (a := 166) (b := 110) rfl rfl rfl ?_
    refine w_p (pc1 := 111) rfl rfl ?_
    refine w_m0 (pc1 := 114) (st1 := .long 115923103347316 :: _) rfl rfl rfl rfl ?_
    refine w_p (pc1 := 115) (st1 := .int (-1) :: _) rfl rfl ?_
    refine w_f (a := 166) (b := 118) rfl rfl rfl ?_
    refine w_p (pc1 := 119) rfl rfl ?_
    refine w_m0 (pc1 := 122) (st1 := .long 26995 :: _) rfl rfl rfl rfl ?_
    refine w_p (pc1 := 123) (st1 := .int 1 :: _) rfl rfl ?_
    refine w_f (a := 166) (b := 126) rfl rfl rfl ?_
    refine w_p (pc1 := 127) rfl rfl ?_
    refine w_m0 (pc1 := 130) (st1 := .long 1818326117 :: _) rfl rfl rfl rfl ?_
    refine w_p (pc1 := 131) (st1 := .int 0 :: _) rfl rfl ?_
    refine w_t (a := 166) (b := 134) rfl rfl rfl ?_
    refine w_p (pc1 := 167) (st1 := .int 1 :: _) rfl rfl ?_
    refine w_p (pc1 := 171) rfl rfl ?_
    refine w_p (pc1 := 172) (al1 := [(3, .int 1), (2, .int 0), (0, .long 1818326117)]) rfl rfl ?_
    refine w_p (pc1 := 173) rfl rfl ?_
    refine w_m0 (pc1 := 176) (st1 := .long 7237492 :: _) rfl rfl rfl rfl ?_
    refine w_p (pc1 := 177) (st1 := .int 1 :: _) rfl rfl ?_
    refine w_f (a := 252) (b := 180) rfl rfl rfl ?_
    refine w_p (pc1 := 181) rfl rfl ?_
    refine w_m0 (pc1 := 184) (st1 := .long 7237495 :: _) rfl rfl rfl rfl ?_
    refine w_p (pc1 := 185) (st1 := .int 1 :: _) rfl rfl ?_
    refine w_f (a := 252) (b := 188) rfl rfl rfl ?_
    refine w_p (pc1 := 189) rfl rfl ?_
    refine w_m0 (pc1 := 192) (st1 := .long 1853189228 :: _) rfl rfl rfl rfl ?_
    refine w_p (pc1 := 193) (st1 := .int (-1) :: _) rfl rfl ?_
    refine w_f (a := 252) (b := 196) rfl rfl rfl ?_
    refine w_p (pc1 := 197) rfl rfl ?_
    refine w_m0 (pc1 := 200) (st1 := .long 7302244 :: _) rfl rfl rfl rfl ?_
    refine w_p (pc1 := 201) (st1 := .int 1 :: _) rfl rfl ?_
    refine w_f (a := 252) (b := 204) rfl rfl rfl ?_
    refine w_p (pc1 := 205) rfl rfl ?_
    refine w_m0 (pc1 := 208) (st1 := .long 28526 :: _) rfl rfl rfl rfl ?_
    refine w_p (pc1 := 209) (st1 := .int 1 :: _) rfl rfl ?_
    refine w_f (a := 252) (b := 212) rfl rfl rfl ?_
    refine w_p (pc1 := 213) rfl rfl ?_
    refine w_m0 (pc1 := 216) (st1 := .long 28530 :: _) rfl rfl rfl rfl ?_
    refine w_p (pc1 := 217) (st1 := .int 1 :: _) rfl rfl ?_
    refine w_f (a := 252) (b := 220) rfl rfl rfl ?_
    refine w_p (pc1 := 221) rfl rfl ?_
    refine w_m0 (pc1 := 224) (st1 := .long 31650994523828857 :: _) rfl rfl rfl rfl ?_
    refine w_p (pc1 := 225) (st1 := .int (-1) :: _) rfl rfl ?_
    refine w_f (a := 252) (b := 228) rfl rfl rfl ?_
    refine w_p (pc1 := 229) rfl rfl ?_
    refine w_m0 (pc1 := 232) (st1 := .long 491260572517 :: _) rfl rfl rfl rfl ?_
    refine w_p (pc1 := 233) (st1 := .int (-1) :: _) rfl rfl ?_
    refine w_f (a := 252) (b := 236) rfl rfl rfl ?_
    refine w_p (pc1 := 237) rfl rfl ?_
    refine w_m0 (pc1 := 240) (st1 := .long 491327481202 :: _) rfl rfl rfl rfl ?_
    refine w_p (pc1 := 241) (st1 := .int (-1) :: _) rfl rfl ?_
    refine w_f (a := 252) (b := 244) rfl rfl rfl ?_
    refine w_p (pc1 := 245) rfl rfl ?_
    refine w_m0 (pc1 := 248) (st1 := .long 7562612 :: _) rfl rfl rfl rfl ?_
    refine w_p (pc1 := 249) (st1 := .int 1 :: _) rfl rfl ?_
    refine w_t (a := 256) (b := 252) rfl rfl rfl ?_
    refine w_p (pc1 := 257) (st1 := .int 0 :: _) rfl rfl ?_
    refine w_p (pc1 := 259) (al1 := [(4, .int 0), (3, .int 1), (2, .int 0), (0, .long 1818326117)]) rfl rfl ?_
    refine w_p (pc1 := 260) rfl rfl ?_
    refine w_f (a := 344) (b := 263) rfl rfl rfl ?_
    refine w_p (pc1 := 264) rfl rfl ?_
    refine w_t (a := 344) (b := 267) rfl rfl rfl ?_
    refine w_p (pc1 := 345) (st1 := .int 1 :: _) rfl rfl ?_
    refine w_p (pc1 := 349) rfl rfl ?_
    refine w_r rfl rfl rfl (fun _ _ => rfl) rfl ?_
    exact ⟨rfl, rfl, rfl⟩
  · skip
    refine w_p (pc1 := 1) rfl rfl ?_
    refine w_m0 (pc1 := 4) (st1 := .long 418330731890 :: _) rfl rfl rfl rfl ?_
    refine w_p (pc1 := 5) (st1 := .int (-1) :: _) rfl rfl ?_
    refine w_f (a := 80) (b := 8) rfl rfl rfl ?_
    refine w_p (pc1 := 9) rfl rfl ?_
    refine w_m0 (pc1 := 12) (st1 := .long 6384748 :: _) rfl rfl rfl rfl ?_
    refine w_p (pc1 := 13) (st1 := .int 1 :: _) rfl rfl ?_
    refine w_f (a := 80) (b := 16) rfl rfl rfl ?_
    refine w_p (pc1 := 17) rfl rfl ?_
    refine w_m0 (pc1 := 20) (st1 := .long 6385252 :: _) rfl rfl rfl rfl ?_
    refine w_p (pc1 := 21) (st1 := .int 1 :: _) rfl rfl ?_
    refine w_f (a := 80) (b := 24) rfl rfl rfl ?_
    refine w_p (pc1 := 25) rfl rfl ?_
    refine w_m0 (pc1 := 28) (st1 := .long 1650549611 :: _) rfl rfl rfl rfl ?_
    refine w_p (pc1 := 29) (st1 := .int (-1) :: _) rfl rfl ?_
    refine w_f (a := 80) (b := 32) rfl rfl rfl ?_
    refine w_p (pc1 := 33) rfl rfl ?_
    refine w_m0 (pc1 := 36) (st1 := .long 108187649798757 :: _) rfl rfl rfl rfl ?_
    refine w_p (pc1 := 37) (st1 := .int (-1) :: _) rfl rfl ?_
    refine w_f (a := 80) (b := 40) rfl rfl rfl ?_
    refine w_p (pc1 := 41) rfl rfl ?_
    refine w_m0 (pc1 := 44) (st1 := .long 422608071022 :: _) rfl rfl rfl rfl ?_
    refine w_p (pc1 := 45) (st1 := .int (-1) :: _) rfl rfl ?_
    refine w_f (a := 80) (b := 48) rfl rfl rfl ?_
    refine w_p (pc1 := 49) rfl rfl ?_
    refine w_m0 (pc1 := 52) (st1 := .long 27973170910815333 :: _) rfl rfl rfl rfl ?_
    refine w_p (pc1 := 53) (st1 := .int (-1) :: _) rfl rfl ?_
    refine w_f (a := 80) (b := 56) rfl rfl rfl ?_
    refine w_p (pc1 := 57) rfl rfl ?_
    refine w_m0 (pc1 := 60) (st1 := .long 426953237355 :: _) rfl rfl rfl rfl ?_
    refine w_p (pc1 := 61) (st1 := .int (-1) :: _) rfl rfl ?_
    refine w_f (a := 80) (b := 64) rfl rfl rfl ?_
    refine w_p (pc1 := 65) rfl rfl ?_
    refine w_m0 (pc1 := 68) (st1 := .long 109330228406644 :: _) rfl rfl rfl rfl ?_
    refine w_p (pc1 := 69) (st1 := .int (-1) :: _) rfl rfl ?_
    refine w_f (a := 80) (b := 72) rfl rfl rfl ?_
    refine w_p (pc1 := 73) rfl rfl ?_
    refine w_m0 (pc1 := 76) (st1 := .long 28258988067220596 :: _) rfl rfl rfl rfl ?_
    refine w_p (pc1 := 77) (st1 := .int (-1) :: _) rfl rfl ?_
    refine w_t (a := 84) (b := 80) rfl rfl rfl ?_
    refine w_p (pc1 := 85) (st1 := .int 0 :: _) rfl rfl ?_
    refine w_p (pc1 := 86) (al1 := [(2, .int 0), (0, .long 7103860)]) rfl rfl ?_
    refine w_p (pc1 := 87) rfl rfl ?_
    refine w_m0 (pc1 := 90) (st1 := .long 110386773062757 :: _) rfl rfl rfl rfl ?_
    refine w_p (pc1 := 91) (st1 := .int (-1) :: _) rfl rfl ?_
    refine w_f (a := 166) (b := 94) rfl rfl rfl ?_
    refine w_p (pc1 := 95) rfl rfl ?_
    refine w_m0 (pc1 := 98) (st1 := .long 25711 :: _) rfl rfl rfl rfl ?_
    refine w_p (pc1 := 99) (st1 := .int 1 :: _) rfl rfl ?_
    refine w_f (a := 166) (b := 102) rfl rfl rfl ?_
    refine w_p (pc1 := 103) rfl rfl ?_
    refine w_m0 (pc1 := 106) (st1 := .long 1685221232 :: _) rfl rfl rfl rfl ?_
    refine w_p (pc1 := 107) (st1 := .int (-1) :: _) rfl rfl ?_
    refine w_f (a := 166) (b := 110) rfl rfl rfl ?_
    refine w_p (pc1 := 111) rfl rfl ?_
    refine w_m0 (pc1 := 114) (st1 := .long 115923103347316 :: _) rfl rfl rfl rfl ?_
    refine w_p (pc1 := 115) (st1 := .int (-1) :: _) rfl rfl ?_
    refine w_f (a := 166) (b := 118) rfl rfl rfl ?_
    refine w_p (pc1 := 119) rfl rfl ?_
    refine w_m0 (pc1 := 122) (st1 := .long 26995 :: _) rfl rfl rfl rfl ?_
    refine w_p (pc1 := 123) (st1 := .int 1 :: _) rfl rfl ?_
    refine w_f (a := 166) (b := 126) rfl rfl rfl ?_
    refine w_p (pc1 := 127) rfl rfl ?_
    refine w_m0 (pc1 := 130) (st1 := .long 1818326117 :: _) rfl rfl rfl rfl ?_
    refine w_p (pc1 := 131) (st1 := .int (-1) :: _) rfl rfl ?_
    refine w_f (a := 166) (b := 134) rfl rfl rfl ?_
    refine w_p (pc1 := 135) rfl rfl ?_
    refine w_m0 (pc1 := 138) (st1 := .long 7103860 :: _) rfl rfl rfl rfl ?_
    refine w_p (pc1 := 139) (st1 := .int 0 :: _) rfl rfl ?_
    refine w_t (a := 166) (b := 142) rfl rfl rfl ?_
    refine w_p (pc1 := 167) (st1 := .int 1 :: _) rfl rfl ?_
    refine w_p (pc1 := 171) rfl rfl ?_
    refine w_p (pc1 := 172) (al1 := [(3, .int 1), (2, .int 0), (0, .long 7103860)]) rfl rfl ?_
    refine w_p (pc1 := 173) rfl rfl ?_
    refine w_m0 (pc1 := 176) (st1 := .long 7237492 :: _) rfl rfl rfl rfl ?_
    refine w_p (pc1 := 177) (st1 := .int (-1) :: _) rfl rfl ?_
    refine w_f (a := 252) (b := 180) rfl rfl rfl ?_
    refine w_p (pc1 := 181) rfl rfl ?_
    refine w_m0 (pc1 := 184) (st1 := .long 7237495 :: _) rfl rfl rfl rfl ?_
    refine w_p (pc1 := 185) (st1 := .int (-1) :: _) rfl rfl ?_
    refine w_f (a := 252) (b := 188) rfl rfl rfl ?_
    refine w_p (pc1 := 189) rfl rfl ?_
    refine w_m0 (pc1 := 192) (st1 := .long 1853189228 :: _) rfl rfl rfl rfl ?_
    refine w_p (pc1 := 193) (st1 := .int (-1) :: _) rfl rfl ?_
    refine w_f (a := 252) (b := 196) rfl rfl rfl ?_
    refine w_p (pc1 := 197) rfl rfl ?_
    refine w_m0 (pc1 := 200) (st1 := .long 7302244 :: _) rfl rfl rfl rfl ?_
    refine w_p (pc1 := 201) (st1 := .int (-1) :: _) rfl rfl ?_
    refine w_f (a := 252) (b := 204) rfl rfl rfl ?_
    refine w_p (pc1 := 205) rfl rfl ?_
    refine w_m0 (pc1 := 208) (st1 := .long 28526 :: _) rfl rfl rfl rfl ?_
    refine w_p (pc1 := 209) (st1 := .int 1 :: _) rfl rfl ?_
    refine w_f (a := 252) (b := 212) rfl rfl rfl ?_
    refine w_p (pc1 := 213) rfl rfl ?_
    refine w_m0 (pc1 := 216) (st1 := .long 28530 :: _) rfl rfl rfl rfl ?_
    refine w_p (pc1 := 217) (st1 := .int 1 :: _) rfl rfl ?_
    refine w_f (a := 252) (b := 220) rfl rfl rfl ?_
    refine w_p (pc1 := 221) rfl rfl ?_
    refine w_m0 (pc1 := 224) (st1 := .long 31650994523828857 :: _) rfl rfl rfl rfl ?_
    refine w_p (pc1 := 225) (st1 := .int (-1) :: _) rfl rfl ?_
    refine w_f (a := 252) (b := 228) rfl rfl rfl ?_
    refine w_p (pc1 := 229) rfl rfl ?_
    refine w_m0 (pc1 := 232) (st1 := .long 491260572517 :: _) rfl rfl rfl rfl ?_
    refine w_p (pc1 := 233) (st1 := .int (-1) :: _) rfl rfl ?_
    refine w_f (a := 252) (b := 236) rfl rfl rfl ?_
    refine w_p (pc1 := 237) rfl rfl ?_
    refine w_m0 (pc1 := 240) (st1 := .long 491327481202 :: _) rfl rfl rfl rfl ?_
    refine w_p (pc1 := 241) (st1 := .int (-1) :: _) rfl rfl ?_
    refine w_f (a := 252) (b := 244) rfl rfl rfl ?_
    refine w_p (pc1 := 245) rfl rfl ?_
    refine w_m0 (pc1 := 248) (st1 := .long 7562612 :: _) rfl rfl rfl rfl ?_
    refine w_p (pc1 := 249) (st1 := .int (-1) :: _) rfl rfl ?_
    refine w_t (a := 256) (b := 252) rfl rfl rfl ?_
    refine w_p (pc1 := 257) (st1 := .int 0 :: _) rfl rfl ?_
    refine w_p (pc1 := 259) (al1 := [(4, .int 0), (3, .int 1), (2, .int 0), (0, .long 7103860)]) rfl rfl ?_
    refine w_p (pc1 := 260) rfl rfl ?_
    refine w_f (a := 344) (b := 263) rfl rfl rfl ?_
    refine w_p (pc1 := 264) rfl rfl ?_
    refine w_t (a := 344) (b := 267) rfl rfl rfl ?_
    refine w_p (pc1 := 345) (st1 := .int 1 :: _) rfl rfl ?_
    refine w_p (pc1 := 349) rfl rfl ?_
    refine w_r rfl rfl rfl (fun _ _ => rfl) rfl ?_
    exact ⟨rfl, rfl, rfl⟩
  · skip
    refine w_p (pc1 := 1) rfl rfl ?_
    refine w_m0 (pc1 := 4) (st1 := .long 418330731890 :: _) rfl rfl rfl rfl ?_
    refine w_p (pc1 := 5) (st1 := .int (-1) :: _) rfl rfl ?_
    refine w_f (a := 80) (b := 8) rfl rfl rfl ?_
    refine w_p (pc1 := 9) rfl rfl ?_
    refine w_m0 (pc1 := 12) (st1 := .long 6384748 :: _) rfl rfl rfl rfl ?_
    refine w_p (pc1 := 13) (st1 := .int 1 :: _) rfl rfl ?_
    refine w_f (a := 80) (b := 16) rfl rfl rfl ?_
    refine w_p (pc1 := 17) rfl rfl ?_
    refine w_m0 (pc1 := 20) (st1 := .long 6385252 :: _) rfl rfl rfl rfl ?_
    refine w_p (pc1 := 21) (st1 := .int 1 :: _) rfl rfl ?_
    refine w_f (a := 80) (b := 24) rfl rfl rfl ?_
    refine w_p (pc1 := 25) rfl rfl ?_
    refine w_m0 (pc1 := 28) (st1 := .long 1650549611 :: _) rfl rfl rfl rfl ?_
    refine w_p (pc1 := 29) (st1 := .int 1 :: _) rfl rfl ?_
    refine w_f (a := 80) (b := 32) rfl rfl rfl ?_
    refine w_p (pc1 := 33) rfl rfl ?_
    refine w_m0 (pc1 := 36) (st1 := .long 108187649798757 :: _) rfl rfl rfl rfl ?_
    refine w_p (pc1 := 37) (st1 := .int (-1) :: _) rfl rfl ?_
    refine w_f (a := 80) (b := 40) rfl rfl rfl ?_
    refine w_p (pc1 := 41) rfl rfl ?_
    refine w_m0 (pc1 := 44) (st1 := .long 422608071022 :: _) rfl rfl rfl rfl ?_
    refine w_p (pc1 := 45) (st1 := .int (-1) :: _) rfl rfl ?_
    refine w_f (a := 80) (b := 48) rfl rfl rfl ?_
    refine w_p (pc1 := 49) rfl rfl ?_
    refine w_m0 (pc1 := 52) (st1 := .long 27973170910815333 :: _) rfl rfl rfl rfl ?_
    refine w_p (pc1 := 53) (st1 := .int (-1) :: _) rfl rfl ?_
    refine w_f (a := 80) (b := 56) rfl rfl rfl ?_
    refine w_p (pc1 := 57) rfl rfl ?_
    refine w_m0 (pc1 := 60) (st1 := .long 426953237355 :: _) rfl rfl rfl rfl ?_
    refine w_p (pc1 := 61) (st1 := .int (-1) :: _) rfl rfl ?_
    refine w_f (a := 80) (b := 64) rfl rfl rfl ?_
    refine w_p (pc1 := 65) rfl rfl ?_
    refine w_m0 (pc1 := 68) (st1 := .long 109330228406644 :: _) rfl rfl rfl rfl ?_
    refine w_p (pc1 := 69) (st1 := .int (-1) :: _) rfl rfl ?_
    refine w_f (a := 80) (b := 72) rfl rfl rfl ?_
    refine w_p (pc1 := 73) rfl rfl ?_
    refine w_m0 (pc1 := 76) (st1 := .long 28258988067220596 :: _) rfl rfl rfl rfl ?_
    refine w_p (pc1 := 77) (st1 := .int (-1) :: _) rfl rfl ?_
    refine w_t (a := 84) (b := 80) rfl rfl rfl ?_
    refine w_p (pc1 := 85) (st1 := .int 0 :: _) rfl rfl ?_
    refine w_p (pc1 := 86) (al1 := [(2, .int 0), (0, .long 1835102827)]) rfl rfl ?_
    refine w_p (pc1 := 87) rfl rfl ?_
    refine w_m0 (pc1 := 90) (st1 := .long 110386773062757 :: _) rfl rfl rfl rfl ?_
    refine w_p (pc1 := 91) (st1 := .int (-1) :: _) rfl rfl ?_
    refine w_f (a := 166) (b := 94) rfl rfl rfl ?_
    refine w_p (pc1 := 95) rfl rfl ?_
    refine w_m0 (pc1 := 98) (st1 := .long 25711 :: _) rfl rfl rfl rfl ?_
    refine w_p (pc1 := 99) (st1 := .int 1 :: _) rfl rfl ?_
    refine w_f (a := 166) (b := 102) rfl rfl rfl ?_
    refine w_p (pc1 := 103) rfl rfl ?_
    refine w_m0 (pc1 := 106) (st1 := .long 1685221232 :: _) rfl rfl rfl rfl ?_
    refine w_p (pc1 := 107) (st1 := .int 1 :: _) rfl rfl ?_
    refine w_f (a := 166) (b := 110) rfl rfl rfl ?_
    refine w_p (pc1 := 111) rfl rfl ?_
    refine w_m0 (pc1 := 114) (st1 := .long 115923103347316 :: _) rfl rfl rfl rfl ?_
    refine w_p (pc1 := 115) (st1 := .int (-1) :: _) rfl rfl ?_
    refine w_f (a := 166) (b := 118) rfl rfl rfl ?_
    refine w_p (pc1 := 119) rfl rfl ?_
    refine w_m0 (pc1 := 122) (st1 := .long 26995 :: _) rfl rfl rfl rfl ?_
    refine w_p (pc1 := 123) (st1 := .int 1 :: _) rfl rfl ?_
    refine w_f (a := 166) (b := 126) rfl rfl rfl ?_
    refine w_p (pc1 := 127) rfl rfl ?_
    refine w_m0 (pc1 := 130) (st1 := .long 1818326117 :: _) rfl rfl rfl rfl ?_
    refine w_p (pc1 := 131) (st1 := .int 1 :: _) rfl rfl ?_
    refine w_f (a := 166) (b := 134) rfl rfl rfl ?_
    refine w_p (pc1 := 135) rfl rfl ?_
    refine w_m0 (pc1 := 138) (st1 := .long 7103860 :: _) rfl rfl rfl rfl ?_
    refine w_p (pc1 := 139) (st1 := .int 1 :: _) rfl rfl ?_
    refine w_f (a := 166) (b := 142) rfl rfl rfl ?_
    refine w_p (pc1 := 143) rfl rfl ?_
    refine w_m0 (pc1 := 146) (st1 := .long 1835102827 :: _) rfl rfl rfl rfl ?_
    refine w_p (pc1 := 147) (st1 := .int 0 :: _) rfl rfl ?_
    refine w_t (a := 166) (b := 150) rfl rfl rfl ?_
    refine w_p (pc1 := 167) (st1 := .int 1 :: _) rfl rfl ?_
    refine w_p (pc1 := 171) rfl rfl ?_
    refine w_p (pc1 := 172) (al1 := [(3, .int 1), (2, .int 0), (0, .long 1835102827)]) rfl rfl ?_
    refine w_p (pc1 := 173) rfl rfl ?_
    refine w_m0 (pc1 := 176) (st1 := .long 7237492 :: _) rfl rfl rfl rfl ?_
    refine w_p (pc1 := 177) (st1 := .int 1 :: _) rfl rfl ?_
    refine w_f (a := 252) (b := 180) rfl rfl rfl ?_
    refine w_p (pc1 := 181) rfl rfl ?_
    refine w_m0 (pc1 := 184) (st1 := .long 7237495 :: _) rfl rfl rfl rfl ?_
    refine w_p (pc1 := 185) (st1 := .int 1 :: _) rfl rfl ?_
    refine w_f (a := 252) (b := 188) rfl rfl rfl ?_
    refine w_p (pc1 := 189) rfl rfl ?_
    refine w_m0 (pc1 := 192) (st1 := .long 1853189228 :: _) rfl rfl rfl rfl ?_
    refine w_p (pc1 := 193) (st1 := .int (-1) :: _) rfl rfl ?_
    refine w_f (a := 252) (b := 196) rfl rfl rfl ?_
    refine w_p (pc1 := 197) rfl rfl ?_
    refine w_m0 (pc1 := 200) (st1 := .long 7302244 :: _) rfl rfl rfl rfl ?_
    refine w_p (pc1 := 201) (st1 := .int 1 :: _) rfl rfl ?_
    refine w_f (a := 252) (b := 204) rfl rfl rfl ?_
    refine w_p (pc1 := 205) rfl rfl ?_
    refine w_m0 (pc1 := 208) (st1 := .long 28526 :: _) rfl rfl rfl rfl ?_
    refine w_p (pc1 := 209) (st1 := .int 1 :: _) rfl rfl ?_
    refine w_f (a := 252) (b := 212) rfl rfl rfl ?_
    refine w_p (pc1 := 213) rfl rfl ?_
    refine w_m0 (pc1 := 216) (st1 := .long 28530 :: _) rfl rfl rfl rfl ?_
    refine w_p (pc1 := 217) (st1 := .int 1 :: _) rfl rfl ?_
    refine w_f (a := 252) (b := 220) rfl rfl rfl ?_
    refine w_p (pc1 := 221) rfl rfl ?_
    refine w_m0 (pc1 := 224) (st1 := .long 31650994523828857 :: _) rfl rfl rfl rfl ?_
    refine w_p (pc1 := 225) (st1 := .int (-1) :: _) rfl rfl ?_
    refine w_f (a := 252) (b := 228) rfl rfl rfl ?_
    refine w_p (pc1 := 229) rfl rfl ?_
    refine w_m0 (pc1 := 232) (st1 := .long 491260572517 :: _) rfl rfl rfl rfl ?_
    refine w_p (pc1 := 233) (st1 := .int (-1) :: _) rfl rfl ?_
    refine w_f (a := 252) (b := 236) rfl rfl rfl ?_
    refine w_p (pc1 := 237) rfl rfl ?_
    refine w_m0 (pc1 := 240) (st1 := .long 491327481202 :: _) rfl rfl rfl rfl ?_
    refine w_p (pc1 := 241) (st1 := .int (-1) :: _) rfl rfl ?_
    refine w_f (a := 252) (b := 244) rfl rfl rfl ?_
    refine w_p (pc1 := 245) rfl rfl ?_
    refine w_m0 (pc1 := 248) (st1 := .long 7562612 :: _) rfl rfl rfl rfl ?_
    refine w_p (pc1 := 249) (st1 := .int 1 :: _) rfl rfl ?_
    refine w_t (a := 256) (b := 252) rfl rfl rfl ?_
    refine w_p (pc1 := 257) (st1 := .int 0 :: _) rfl rfl ?_
    refine w_p (pc1 := 259) (al1 := [(4, .int 0), (3, .int 1), (2, .int 0), (0, .long 1835102827)]) rfl rfl ?_
    refine w_p (pc1 := 260) rfl rfl ?_
    refine w_f (a := 344) (b := 263) rfl rfl rfl ?_
    refine w_p (pc1 := 264) rfl rfl ?_
    refine w_t (a := 344) (b := 267) rfl rfl rfl ?_
    refine w_p (pc1 := 345) (st1 := .int 1 :: _) rfl rfl ?_
    refine w_p (pc1 := 349) rfl rfl ?_
    refine w_r rfl rfl rfl (fun _ _ => rfl) rfl ?_
    exact ⟨rfl, rfl, rfl⟩
  · skip
    refine w_p (pc1 := 1) rfl rfl ?_
    refine w_m0 (pc1 := 4) (st1 := .long 418330731890 :: _) rfl rfl rfl rfl ?_
    refine w_p (pc1 := 5) (st1 := .int (-1) :: _) rfl rfl ?_
    refine w_f (a := 80) (b := 8) rfl rfl rfl ?_
    refine w_p (pc1 := 9) rfl rfl ?_
    refine w_m0 (pc1 := 12) (st1 := .long 6384748 :: _) rfl rfl rfl rfl ?_
    refine w_p (pc1 := 13) (st1 := .int 1 :: _) rfl rfl ?_
    refine w_f (a := 80) (b := 16) rfl rfl rfl ?_
    refine w_p (pc1 := 17) rfl rfl ?_
    refine w_m0 (pc1 := 20) (st1 := .long 6385252 :: _) rfl rfl rfl rfl ?_
    refine w_p (pc1 := 21) (st1 := .int 1 :: _) rfl rfl ?_
    refine w_f (a := 80) (b := 24) rfl rfl rfl ?_
    refine w_p (pc1 := 25) rfl rfl ?_
    refine w_m0 (pc1 := 28) (st1 := .long 1650549611 :: _) rfl rfl rfl rfl ?_
    refine w_p (pc1 := 29) (st1 := .int 1 :: _) rfl rfl ?_
    refine w_f (a := 80) (b := 32) rfl rfl rfl ?_
    refine w_p (pc1 := 33) rfl rfl ?_
    refine w_m0 (pc1 := 36) (st1 := .long 108187649798757 :: _) rfl rfl rfl rfl ?_
    refine w_p (pc1 := 37) (st1 := .int (-1) :: _) rfl rfl ?_
    refine w_f (a := 80) (b := 40) rfl rfl rfl ?_
    refine w_p (pc1 := 41) rfl rfl ?_
    refine w_m0 (pc1 := 44) (st1 := .long 422608071022 :: _) rfl rfl rfl rfl ?_
    refine w_p (pc1 := 45) (st1 := .int (-1) :: _) rfl rfl ?_
    refine w_f (a := 80) (b := 48) rfl rfl rfl ?_
    refine w_p (pc1 := 49) rfl rfl ?_
    refine w_m0 (pc1 := 52) (st1 := .long 27973170910815333 :: _) rfl rfl rfl rfl ?_
    refine w_p (pc1 := 53) (st1 := .int (-1) :: _) rfl rfl ?_
    refine w_f (a := 80) (b := 56) rfl rfl rfl ?_
    refine w_p (pc1 := 57) rfl rfl ?_
    refine w_m0 (pc1 := 60) (st1 := .long 426953237355 :: _) rfl rfl rfl rfl ?_
    refine w_p (pc1 := 61) (st1 := .int (-1) :: _) rfl rfl ?_
    refine w_f (a := 80) (b := 64) rfl rfl rfl ?_
    refine w_p (pc1 := 65) rfl rfl ?_
    refine w_m0 (pc1 := 68) (st1 := .long 109330228406644 :: _) rfl rfl rfl rfl ?_
    refine w_p (pc1 := 69) (st1 := .int (-1) :: _) rfl rfl ?_
    refine w_f (a := 80) (b := 72) rfl rfl rfl ?_
    refine w_p (pc1 := 73) rfl rfl ?_
    refine w_m0 (pc1 := 76) (st1 := .long 28258988067220596 :: _) rfl rfl rfl rfl ?_
    refine w_p (pc1 := 77) (st1 := .int (-1) :: _) rfl rfl ?_
    refine w_t (a := 84) (b := 80) rfl rfl rfl ?_
    refine w_p (pc1 := 85) (st1 := .int 0 :: _) rfl rfl ?_
    refine w_p (pc1 := 86) (al1 := [(2, .int 0), (0, .long 1836413812)]) rfl rfl ?_
    refine w_p (pc1 := 87) rfl rfl ?_
    refine w_m0 (pc1 := 90) (st1 := .long 110386773062757 :: _) rfl rfl rfl rfl ?_
    refine w_p (pc1 := 91) (st1 := .int (-1) :: _) rfl rfl ?_
    refine w_f (a := 166) (b := 94) rfl rfl rfl ?_
    refine w_p (pc1 := 95) rfl rfl ?_
    refine w_m0 (pc1 := 98) (st1 := .long 25711 :: _) rfl rfl rfl rfl ?_
    refine w_p (pc1 := 99) (st1 := .int 1 :: _) rfl rfl ?_
    refine w_f (a := 166) (b := 102) rfl rfl rfl ?_
    refine w_p (pc1 := 103) rfl rfl ?_
    refine w_m0 (pc1 := 106) (st1 := .long 1685221232 :: _) rfl rfl rfl rfl ?_
    refine w_p (pc1 := 107) (st1 := .int 1 :: _) rfl rfl ?_
    refine w_f (a := 166) (b := 110) rfl rfl rfl ?_
    refine w_p (pc1 := 111) rfl rfl ?_
    refine w_m0 (pc1 := 114) (st1 := .long 115923103347316 :: _) rfl rfl rfl rfl ?_
    refine w_p (pc1 := 115) (st1 := .int (-1) :: _) rfl rfl ?_
    refine w_f (a := 166) (b := 118) rfl rfl rfl ?_
    refine w_p (pc1 := 119) rfl rfl ?_
    refine w_m0 (pc1 := 122) (st1 := .long 26995 :: _) rfl rfl rfl rfl ?_
    refine w_p (pc1 := 123) (st1 := .int 1 :: _) rfl rfl ?_
    refine w_f (a := 166) (b := 126) rfl rfl rfl ?_
    refine w_p (pc1 := 127) rfl rfl ?_
    refine w_m0 (pc1 := 130) (st1 := .long 1818326117 :: _) rfl rfl rfl rfl ?_
    refine w_p (pc1 := 131) (st1 := .int 1 :: _) rfl rfl ?_
    refine w_f (a := 166) (b := 134) rfl rfl rfl ?_
    refine w_p (pc1 := 135) rfl rfl ?_
    refine w_m0 (pc1 := 138) (st1 := .long 7103860 :: _) rfl rfl rfl rfl ?_
    refine w_p (pc1 := 139) (st1 := .int 1 :: _) rfl rfl ?_
    refine w_f (a := 166) (b := 142) rfl rfl rfl ?_
    refine w_p (pc1 := 143) rfl rfl ?_
    refine w_m0 (pc1 := 146) (st1 := .long 1835102827 :: _) rfl rfl rfl rfl ?_
    refine w_p (pc1 := 147) (st1 := .int 1 :: _) rfl rfl ?_
    refine w_f (a := 166) (b := 150) rfl rfl rfl ?_
    refine w_p (pc1 := 151) rfl rfl ?_
    refine w_m0 (pc1 := 154) (st1 := .long 1836413812 :: _) rfl rfl rfl rfl ?_
    refine w_p (pc1 := 155) (st1 := .int 0 :: _) rfl rfl ?_
    refine w_t (a := 166) (b := 158) rfl rfl rfl ?_
    refine w_p (pc1 := 167) (st1 := .int 1 :: _) rfl rfl ?_
    refine w_p (pc1 := 171) rfl rfl ?_
    refine w_p (pc1 := 172) (al1 := [(3, .int 1), (2, .int 0), (0, .long 1836413812)]) rfl rfl ?_
    refine w_p (pc1 := 173) rfl rfl ?_
    refine w_m0 (pc1 := 176) (st1 := .long 7237492 :: _) rfl rfl rfl rfl ?_
    refine w_p (pc1 := 177) (st1 := .int 1 :: _) rfl rfl ?_
    refine w_f (a := 252) (b := 180) rfl rfl rfl ?_
    refine w_p (pc1 := 181) rfl rfl ?_
    refine w_m0 (pc1 := 184) (st1 := .long 7237495 :: _) rfl rfl rfl rfl ?_
    refine w_p (pc1 := 185) (st1 := .int 1 :: _) rfl rfl ?_
    refine w_f (a := 252) (b := 188) rfl rfl rfl ?_
    refine w_p (pc1 := 189) rfl rfl ?_
    refine w_m0 (pc1 := 192) (st1 := .long 1853189228 :: _) rfl rfl rfl rfl ?_
    refine w_p (pc1 := 193) (st1 := .int (-1) :: _) rfl rfl ?_
    refine w_f (a := 252) (b := 196) rfl rfl rfl ?_
    refine w_p (pc1 := 197) rfl rfl ?_
    refine w_m0 (pc1 := 200) (st1 := .long 7302244 :: _) rfl rfl rfl rfl ?_
    refine w_p (pc1 := 201) (st1 := .int 1 :: _) rfl rfl ?_
    refine w_f (a := 252) (b := 204) rfl rfl rfl ?_
    refine w_p (pc1 := 205) rfl rfl ?_
    refine w_m0 (pc1 := 208) (st1 := .long 28526 :: _) rfl rfl rfl rfl ?_
    refine w_p (pc1 := 209) (st1 := .int 1 :: _) rfl rfl ?_
    refine w_f (a := 252) (b := 212) rfl rfl rfl ?_
    refine w_p (pc1 := 213) rfl rfl ?_
    refine w_m0 (pc1 := 216) (st1 := .long 28530 :: _) rfl rfl rfl rfl ?_
    refine w_p (pc1 := 217) (st1 := .int 1 :: _) rfl rfl ?_
    refine w_f (a := 252) (b := 220) rfl rfl rfl ?_
    refine w_p (pc1 := 221) rfl rfl ?_
    refine w_m0 (pc1 := 224) (st1 := .long 31650994523828857 :: _) rfl rfl rfl rfl ?_
    refine w_p (pc1 := 225) (st1 := .int (-1) :: _) rfl rfl ?_
    refine w_f (a := 252) (b := 228) rfl rfl rfl ?_
    refine w_p (pc1 := 229) rfl rfl ?_
    refine w_m0 (pc1 := 232) (st1 := .long 491260572517 :: _) rfl rfl rfl rfl ?_
    refine w_p (pc1 := 233) (st1 := .int (-1) :: _) rfl rfl ?_
    refine w_f (a := 252) (b := 236) rfl rfl rfl ?_
    refine w_p (pc1 := 237) rfl rfl ?_
    refine w_m0 (pc1 := 240) (st1 := .long 491327481202 :: _) rfl rfl rfl rfl ?_
    refine w_p (pc1 := 241) (st1 := .int (-1) :: _) rfl rfl ?_
    refine w_f (a := 252) (b := 244) rfl rfl rfl ?_
    refine w_p (pc1 := 245) rfl rfl ?_
    refine w_m0 (pc1 := 248) (st1 := .long 7562612 :: _) rfl rfl rfl rfl ?_
    refine w_p (pc1 := 249) (st1 := .int 1 :: _) rfl rfl ?_
    refine w_t (a := 256) (b := 252) rfl rfl rfl ?_
    refine w_p (pc1 := 257) (st1 := .int 0 :: _) rfl rfl ?_
    refine w_p (pc1 := 259) (al1 := [(4, .int 0), (3, .int 1), (2, .int 0), (0, .long 1836413812)]) rfl rfl ?_
    refine w_p (pc1 := 260) rfl rfl ?_
    refine w_f (a := 344) (b := 263) rfl rfl rfl ?_
    refine w_p (pc1 := 264) rfl rfl ?_
    refine w_t (a := 344) (b := 267) rfl rfl rfl ?_
    refine w_p (pc1 := 345) (st1 := .int 1 :: _) rfl rfl ?_
    refine w_p (pc1 := 349) rfl rfl ?_
    refine w_r rfl rfl rfl (fun _ _ => rfl) rfl ?_
    exact ⟨rfl, rfl, rfl⟩
  · skip
    refine w_p (pc1 := 1) rfl rfl ?_
    refine w_m0 (pc1 := 4) (st1 := .long 418330731890 :: _) rfl rfl rfl rfl ?_
    refine w_p (pc1 := 5) (st1 := .int (-1) :: _) rfl rfl ?_
    refine w_f (a := 80) (b := 8) rfl rfl rfl ?_
    refine w_p (pc1 := 9) rfl rfl ?_
    refine w_m0 (pc1 := 12) (st1 := .long 6384748 :: _) rfl rfl rfl rfl ?_
    refine w_p (pc1 := 13) (st1 := .int 1 :: _) rfl rfl ?_
    refine w_f (a := 80) (b := 16) rfl rfl rfl ?_
    refine w_p (pc1 := 17) rfl rfl ?_
    refine w_m0 (pc1 := 20) (st1 := .long 6385252 :: _) rfl rfl rfl rfl ?_
    refine w_p (pc1 := 21) (st1 := .int 1 :: _) rfl rfl ?_
    refine w_f (a := 80) (b := 24) rfl rfl rfl ?_
    refine w_p (pc1 := 25) rfl rfl ?_
    refine w_m0 (pc1 := 28) (st1 := .long 1650549611 :: _) rfl rfl rfl rfl ?_
    refine w_p (pc1 := 29) (st1 := .int (-1) :: _) rfl rfl ?_
    refine w_f (a := 80) (b := 32) rfl rfl rfl ?_
    refine w_p (pc1 := 33) rfl rfl ?_
    refine w_m0 (pc1 := 36) (st1 := .long 108187649798757 :: _) rfl rfl rfl rfl ?_
    refine w_p (pc1 := 37) (st1 := .int (-1) :: _) rfl rfl ?_
    refine w_f (a := 80) (b := 40) rfl rfl rfl ?_
    refine w_p (pc1 := 41) rfl rfl ?_
    refine w_m0 (pc1 := 44) (st1 := .long 422608071022 :: _) rfl rfl rfl rfl ?_
    refine w_p (pc1 := 45) (st1 := .int (-1) :: _) rfl rfl ?_
    refine w_f (a := 80) (b := 48) rfl rfl rfl ?_
    refine w_p (pc1 := 49) rfl rfl ?_
    refine w_m0 (pc1 := 52) (st1 := .long 27973170910815333 :: _) rfl rfl rfl rfl ?_
    refine w_p (pc1 := 53) (st1 := .int (-1) :: _) rfl rfl ?_
    refine w_f (a := 80) (b := 56) rfl rfl rfl ?_
    refine w_p (pc1 := 57) rfl rfl ?_
    refine w_m0 (pc1 := 60) (st1 := .long 426953237355 :: _) rfl rfl rfl rfl ?_
    refine w_p (pc1 := 61) (st1 := .int (-1) :: _) rfl rfl ?_
    refine w_f (a := 80) (b := 64) rfl rfl rfl ?_
    refine w_p (pc1 := 65) rfl rfl ?_
    refine w_m0 (pc1 := 68) (st1 := .long 109330228406644 :: _) rfl rfl rfl rfl ?_
    refine w_p (pc1 := 69) (st1 := .int (-1) :: _) rfl rfl ?_
    refine w_f (a := 80) (b := 72) rfl rfl rfl ?_
    refine w_p (pc1 := 73) rfl rfl ?_
    refine w_m0 (pc1 := 76) (st1 := .long 28258988067220596 :: _) rfl rfl rfl rfl ?_
    refine w_p (pc1 := 77) (st1 := .int (-1) :: _) rfl rfl ?_
    refine w_t (a := 84) (b := 80) rfl rfl rfl ?_
    refine w_p (pc1 := 85) (st1 := .int 0 :: _) rfl rfl ?_
    refine w_p (pc1 := 86) (al1 := [(2, .int 0), (0, .long 7234935)]) rfl rfl ?_
    refine w_p (pc1 := 87) rfl rfl ?_
    refine w_m0 (pc1 := 90) (st1 := .long 110386773062757 :: _) rfl rfl rfl rfl ?_
    refine w_p (pc1 := 91) (st1 := .int (-1) :: _) rfl rfl ?_
    refine w_f (a := 166) (b := 94) rfl rfl rfl ?_
    refine w_p (pc1 := 95) rfl rfl ?_
    refine w_m0 (pc1 := 98) (st1 := .long 25711 :: _) rfl rfl rfl rfl ?_
    refine w_p (pc1 := 99) (st1 := .int 1 :: _) rfl rfl ?_
    refine w_f (a := 166) (b := 102) rfl rfl rfl ?_
    refine w_p (pc1 := 103) rfl rfl ?_
    refine w_m0 (pc1 := 106) (st1 := .long 1685221232 :: _) rfl rfl rfl rfl ?_
    refine w_p (pc1 := 107) (st1 := .int (-1) :: _) rfl rfl ?_
    refine w_f (a := 166) (b := 110) rfl rfl rfl ?_
    refine w_p (pc1 := 111) rfl rfl ?_
    refine w_m0 (pc1 := 114) (st1 := .long 115923103347316 :: _) rfl rfl rfl rfl ?_
    refine w_p (pc1 := 115) (st1 := .int (-1) :: _) rfl rfl ?_
    refine w_f (a := 166) (b := 118) rfl rfl rfl ?_
    refine w_p (pc1 := 119) rfl rfl ?_
    refine w_m0 (pc1 := 122) (st1 := .long 26995 :: _) rfl rfl rfl rfl ?_
    refine w_p (pc1 := 123) (st1 := .int 1 :: _) rfl rfl ?_
    refine w_f (a := 166) (b := 126) rfl rfl rfl ?_
    refine w_p (pc1 := 127) rfl rfl ?_
    refine w_m0 (pc1 := 130) (st1 := .long 1818326117 :: _) rfl rfl rfl rfl ?_
    refine w_p (pc1 := 131) (st1 := .int (-1) :: _) rfl rfl ?_
    refine w_f (a := 166) (b := 134) rfl rfl rfl ?_
    refine w_p (pc1 := 135) rfl rfl ?_
    refine w_m0 (pc1 := 138) (st1 := .long 7103860 :: _) rfl rfl rfl rfl ?_
    refine w_p (pc1 := 139) (st1 := .int 1 :: _) rfl rfl ?_
    refine w_f (a := 166) (b := 142) rfl rfl rfl ?_
    refine w_p (pc1 := 143) rfl rfl ?_
    refine w_m0 (pc1 := 146) (st1 := .long 1835102827 :: _) rfl rfl rfl rfl ?_
    refine w_p (pc1 := 147) (st1 := .int (-1) :: _) rfl rfl ?_
    refine w_f (a := 166) (b := 150) rfl rfl rfl ?_
    refine w_p (pc1 := 151) rfl rfl ?_
    refine w_m0 (pc1 := 154) (st1 := .long 1836413812 :: _) rfl rfl rfl rfl ?_
    refine w_p (pc1 := 155) (st1 := .int (-1) :: _) rfl rfl ?_
    refine w_f (a := 166) (b := 158) rfl rfl rfl ?_
    refine w_p (pc1 := 159) rfl rfl ?_
    refine w_m0 (pc1 := 162) (st1 := .long 7234935 :: _) rfl rfl rfl rfl ?_
    refine w_p (pc1 := 163) (st1 := .int 0 :: _) rfl rfl ?_
    refine w_f (a := 170) (b := 166) rfl rfl rfl ?_
    refine w_p (pc1 := 167) (st1 := .int 1 :: _) rfl rfl ?_
    refine w_p (pc1 := 171) rfl rfl ?_
    refine w_p (pc1 := 172) (al1 := [(3, .int 1), (2, .int 0), (0, .long 7234935)]) rfl rfl ?_
    refine w_p (pc1 := 173) rfl rfl ?_
    refine w_m0 (pc1 := 176) (st1 := .long 7237492 :: _) rfl rfl rfl rfl ?_
    refine w_p (pc1 := 177) (st1 := .int (-1) :: _) rfl rfl ?_
    refine w_f (a := 252) (b := 180) rfl rfl rfl ?_
    refine w_p (pc1 := 181) rfl rfl ?_
    refine w_m0 (pc1 := 184) (st1 := .long 7237495 :: _) rfl rfl rfl rfl ?_
    refine w_p (pc1 := 185) (st1 := .int (-1) :: _) rfl rfl ?_
    refine w_f (a := 252) (b := 188) rfl rfl rfl ?_
    refine w_p (pc1 := 189) rfl rfl ?_
    refine w_m0 (pc1 := 192) (st1 := .long 1853189228 :: _) rfl rfl rfl rfl ?_
    refine w_p (pc1 := 193) (st1 := .int (-1) :: _) rfl rfl ?_
    refine w_f (a := 252) (b := 196) rfl rfl rfl ?_
    refine w_p (pc1 := 197) rfl rfl ?_
    refine w_m0 (pc1 := 200) (st1 := .long 7302244 :: _) rfl rfl rfl rfl ?_
    refine w_p (pc1 := 201) (st1 := .int (-1) :: _) rfl rfl ?_
    refine w_f (a := 252) (b := 204) rfl rfl rfl ?_
    refine w_p (pc1 := 205) rfl rfl ?_
    refine w_m0 (pc1 := 208) (st1 := .long 28526 :: _) rfl rfl rfl rfl ?_
    refine w_p (pc1 := 209) (st1 := .int 1 :: _) rfl rfl ?_
    refine w_f (a := 252) (b := 212) rfl rfl rfl ?_
    refine w_p (pc1 := 213) rfl rfl ?_
    refine w_m0 (pc1 := 216) (st1 := .long 28530 :: _) rfl rfl rfl rfl ?_
    refine w_p (pc1 := 217) (st1 := .int 1 :: _) rfl rfl ?_
    refine w_f (a := 252) (b := 220) rfl rfl rfl ?_
    refine w_p (pc1 := 221) rfl rfl ?_
    refine w_m0 (pc1 := 224) (st1 := .long 31650994523828857 :: _) rfl rfl rfl rfl ?_
    refine w_p (pc1 := 225) (st1 := .int (-1) :: _) rfl rfl ?_
    refine w_f (a := 252) (b := 228) rfl rfl rfl ?_
    refine w_p (pc1 := 229) rfl rfl ?_
    refine w_m0 (pc1 := 232) (st1 := .long 491260572517 :: _) rfl rfl rfl rfl ?_
    refine w_p (pc1 := 233) (st1 := .int (-1) :: _) rfl rfl ?_
    refine w_f (a := 252) (b := 236) rfl rfl rfl ?_
    refine w_p (pc1 := 237) rfl rfl ?_
    refine w_m0 (pc1 := 240) (st1 := .long 491327481202 :: _) rfl rfl rfl rfl ?_
    refine w_p (pc1 := 241) (st1 := .int (-1) :: _) rfl rfl ?_
    refine w_f (a := 252) (b := 244) rfl rfl rfl ?_
    refine w_p (pc1 := 245) rfl rfl ?_
    refine w_m0 (pc1 := 248) (st1 := .long 7562612 :: _) rfl rfl rfl rfl ?_
    refine w_p (pc1 := 249) (st1 := .int (-1) :: _) rfl rfl ?_
    refine w_t (a := 256) (b := 252) rfl rfl rfl ?_
    refine w_p (pc1 := 257) (st1 := .int 0 :: _) rfl rfl ?_
    refine w_p (pc1 := 259) (al1 := [(4, .int 0), (3, .int 1), (2, .int 0), (0, .long 7234935)]) rfl rfl ?_
    refine w_p (pc1 := 260) rfl rfl ?_
    refine w_f (a := 344) (b := 263) rfl rfl rfl ?_
    refine w_p (pc1 := 264) rfl rfl ?_
    refine w_t (a := 344) (b := 267) rfl rfl rfl ?_
    refine w_p (pc1 := 345) (st1 := .int 1 :: _) rfl rfl ?_
    refine w_p (pc1 := 349) rfl rfl ?_
    refine w_r rfl rfl rfl (fun _ _ => rfl) rfl ?_
    exact ⟨rfl, rfl, rfl⟩
  · skip
    refine w_p (pc1 := 1) rfl rfl ?_
    refine w_m0 (pc1 := 4) (st1 := .long 418330731890 :: _) rfl rfl rfl rfl ?_
    refine w_p (pc1 := 5) (st1 := .int (-1) :: _) rfl rfl ?_
    refine w_f (a := 80) (b := 8) rfl rfl rfl ?_
    refine w_p (pc1 := 9) rfl rfl ?_
    refine w_m0 (pc1 := 12) (st1 := .long 6384748 :: _) rfl rfl rfl rfl ?_
    refine w_p (pc1 := 13) (st1 := .int 1 :: _) rfl rfl ?_
    refine w_f (a := 80) (b := 16) rfl rfl rfl ?_
    refine w_p (pc1 := 17) rfl rfl ?_
    refine w_m0 (pc1 := 20) (st1 := .long 6385252 :: _) rfl rfl rfl rfl ?_
    refine w_p (pc1 := 21) (st1 := .int 1 :: _) rfl rfl ?_
    refine w_f (a := 80) (b := 24) rfl rfl rfl ?_
    refine w_p (pc1 := 25) rfl rfl ?_
    refine w_m0 (pc1 := 28) (st1 := .long 1650549611 :: _) rfl rfl rfl rfl ?_
    refine w_p (pc1 := 29) (st1 := .int (-1) :: _) rfl rfl ?_
    refine w_f (a := 80) (b := 32) rfl rfl rfl ?_
    refine w_p (pc1 := 33) rfl rfl ?_
    refine w_m0 (pc1 := 36) (st1 := .long 108187649798757 :: _) rfl rfl rfl rfl ?_
    refine w_p (pc1 := 37) (st1 := .int (-1) :: _) rfl rfl ?_
    refine w_f (a := 80) (b := 40) rfl rfl rfl ?_
    refine w_p (pc1 := 41) rfl rfl ?_
    refine w_m0 (pc1 := 44) (st1 := .long 422608071022 :: _) rfl rfl rfl rfl ?_
    refine w_p (pc1 := 45) (st1 := .int (-1) :: _) rfl rfl ?_
    refine w_f (a := 80) (b := 48) rfl rfl rfl ?_
    refine w_p (pc1 := 49) rfl rfl ?_
    refine w_m0 (pc1 := 52) (st1 := .long 27973170910815333 :: _) rfl rfl rfl rfl ?_
    refine w_p (pc1 := 53) (st1 := .int (-1) :: _) rfl rfl ?_
    refine w_f (a := 80) (b := 56) rfl rfl rfl ?_
    refine w_p (pc1 := 57) rfl rfl ?_
    refine w_m0 (pc1 := 60) (st1 := .long 426953237355 :: _) rfl rfl rfl rfl ?_
    refine w_p (pc1 := 61) (st1 := .int (-1) :: _) rfl rfl ?_
    refine w_f (a := 80) (b := 64) rfl rfl rfl ?_
    refine w_p (pc1 := 65) rfl rfl ?_
    refine w_m0 (pc1 := 68) (st1 := .long 109330228406644 :: _) rfl rfl rfl rfl ?_
    refine w_p (pc1 := 69) (st1 := .int (-1) :: _) rfl rfl ?_
    refine w_f (a := 80) (b := 72) rfl rfl rfl ?_
    refine w_p (pc1 := 73) rfl rfl ?_
    refine w_m0 (pc1 := 76) (st1 := .long 28258988067220596 :: _) rfl rfl rfl rfl ?_
    refine w_p (pc1 := 77) (st1 := .int (-1) :: _) rfl rfl ?_
    refine w_t (a := 84) (b := 80) rfl rfl rfl ?_
    refine w_p (pc1 := 85) (st1 := .int 0 :: _) rfl rfl ?_
    refine w_p (pc1 := 86) (al1 := [(2, .int 0), (0, .long 7237492)]) rfl rfl ?_
    refine w_p (pc1 := 87) rfl rfl ?_
    refine w_m0 (pc1 := 90) (st1 := .long 110386773062757 :: _) rfl rfl rfl rfl ?_
    refine w_p (pc1 := 91) (st1 := .int (-1) :: _) rfl rfl ?_
    refine w_f (a := 166) (b := 94) rfl rfl rfl ?_
    refine w_p (pc1 := 95) rfl rfl ?_
    refine w_m0 (pc1 := 98) (st1 := .long 25711 :: _) rfl rfl rfl rfl ?_
    refine w_p (pc1 := 99) (st1 := .int 1 :: _) rfl rfl ?_
    refine w_f (a := 166) (b := 102) rfl rfl rfl ?_
    refine w_p (pc1 := 103) rfl rfl ?_
    refine w_m0 (pc1 := 106) (st1 := .long 1685221232 :: _) rfl rfl rfl rfl ?_
    refine w_p (pc1 := 107) (st1 := .int (-1) :: _) rfl rfl ?_
    refine w_f (a := 166) (b := 110) rfl rfl rfl ?_
    refine w_p (pc1 := 111) rfl rfl ?_
    refine w_m0 (pc1 := 114) (st1 := .long 115923103347316 :: _) rfl rfl rfl rfl ?_
    refine w_p (pc1 := 115) (st1 := .int (-1) :: _) rfl rfl ?_
    refine w_f (a := 166) (b := 118) rfl rfl rfl ?_
    refine w_p (pc1 := 119) rfl rfl ?_
    refine w_m0 (pc1 := 122) (st1 := .long 26995 :: _) rfl rfl rfl rfl ?_
    refine w_p (pc1 := 123) (st1 := .int 1 :: _) rfl rfl ?_
    refine w_f (a := 166) (b := 126) rfl rfl rfl ?_
    refine w_p (pc1 := 127) rfl rfl ?_
    refine w_m0 (pc1 := 130) (st1 := .long 1818326117 :: _) rfl rfl rfl rfl ?_
    refine w_p (pc1 := 131) (st1 := .int (-1) :: _) rfl rfl ?_
    refine w_f (a := 166) (b := 134) rfl rfl rfl ?_
    refine w_p (pc1 := 135) rfl rfl ?_
    refine w_m0 (pc1 := 138) (st1 := .long 7103860 :: _) rfl rfl rfl rfl ?_
    refine w_p (pc1 := 139) (st1 := .int 1 :: _) rfl rfl ?_
    refine w_f (a := 166) (b := 142) rfl rfl rfl ?_
    refine w_p (pc1 := 143) rfl rfl ?_
    refine w_m0 (pc1 := 146) (st1 := .long 1835102827 :: _) rfl rfl rfl rfl ?_
    refine w_p (pc1 := 147) (st1 := .int (-1) :: _) rfl rfl ?_
    refine w_f (a := 166) (b := 150) rfl rfl rfl ?_
    refine w_p (pc1 := 151) rfl rfl ?_
    refine w_m0 (pc1 := 154) (st1 := .long 1836413812 :: _) rfl rfl rfl rfl ?_
    refine w_p (pc1 := 155) (st1 := .int (-1) :: _) rfl rfl ?_
    refine w_f (a := 166) (b := 158) rfl rfl rfl ?_
    refine w_p (pc1 := 159) rfl rfl ?_
    refine w_m0 (pc1 := 162) (st1 := .long 7234935 :: _) rfl rfl rfl rfl ?_
    refine w_p (pc1 := 163) (st1 := .int 1 :: _) rfl rfl ?_
    refine w_t (a := 170) (b := 166) rfl rfl rfl ?_
    refine w_p (pc1 := 171) (st1 := .int 0 :: _) rfl rfl ?_
    refine w_p (pc1 := 172) (al1 := [(3, .int 0), (2, .int 0), (0, .long 7237492)]) rfl rfl ?_
    refine w_p (pc1 := 173) rfl rfl ?_
    refine w_m0 (pc1 := 176) (st1 := .long 7237492 :: _) rfl rfl rfl rfl ?_
    refine w_p (pc1 := 177) (st1 := .int 0 :: _) rfl rfl ?_
    refine w_t (a := 252) (b := 180) rfl rfl rfl ?_
    refine w_p (pc1 := 253) (st1 := .int 1 :: _) rfl rfl ?_
    refine w_p (pc1 := 257) rfl rfl ?_
    refine w_p (pc1 := 259) (al1 := [(4, .int 1), (3, .int 0), (2, .int 0), (0, .long 7237492)]) rfl rfl ?_
    refine w_p (pc1 := 260) rfl rfl ?_
    refine w_f (a := 344) (b := 263) rfl rfl rfl ?_
    refine w_p (pc1 := 264) rfl rfl ?_
    refine w_f (a := 344) (b := 267) rfl rfl rfl ?_
    refine w_p (pc1 := 269) rfl rfl ?_
    refine w_t (a := 344) (b := 272) rfl rfl rfl ?_
    refine w_p (pc1 := 345) (st1 := .int 1 :: _) rfl rfl ?_
    refine w_p (pc1 := 349) rfl rfl ?_
    refine w_r rfl rfl rfl (fun _ _ => rfl) rfl ?_
    exact ⟨rfl, rfl, rfl⟩
  · skip
    refine w_p (pc1 := 1) rfl rfl ?_
    refine w_m0 (pc1 := 4) (st1 := .long 418330731890 :: _) rfl rfl rfl rfl ?_
    refine w_p (pc1 := 5) (st1 := .int (-1) :: _) rfl rfl ?_
    refine w_f (a := 80) (b := 8) rfl rfl rfl ?_
    refine w_p (pc1 := 9) rfl rfl ?_
    refine w_m0 (pc1 := 12) (st1 := .long 6384748 :: _) rfl rfl rfl rfl ?_
    refine w_p (pc1 := 13) (st1 := .int 1 :: _) rfl rfl ?_
    refine w_f (a := 80) (b := 16) rfl rfl rfl ?_
    refine w_p (pc1 := 17) rfl rfl ?_
    refine w_m0 (pc1 := 20) (st1 := .long 6385252 :: _) rfl rfl rfl rfl ?_
    refine w_p (pc1 := 21) (st1 := .int 1 :: _) rfl rfl ?_
    refine w_f (a := 80) (b := 24) rfl rfl rfl ?_
    refine w_p (pc1 := 25) rfl rfl ?_
    refine w_m0 (pc1 := 28) (st1 := .long 1650549611 :: _) rfl rfl rfl rfl ?_
    refine w_p (pc1 := 29) (st1 := .int (-1) :: _) rfl rfl ?_
    refine w_f (a := 80) (b := 32) rfl rfl rfl ?_
    refine w_p (pc1 := 33) rfl rfl ?_
    refine w_m0 (pc1 := 36) (st1 := .long 108187649798757 :: _) rfl rfl rfl rfl ?_
    refine w_p (pc1 := 37) (st1 := .int (-1) :: _) rfl rfl ?_
    refine w_f (a := 80) (b := 40) rfl rfl rfl ?_
    refine w_p (pc1 := 41) rfl rfl ?_
    refine w_m0 (pc1 := 44) (st1 := .long 422608071022 :: _) rfl rfl rfl rfl ?_
    refine w_p (pc1 := 45) (st1 := .int (-1) :: _) rfl rfl ?_
    refine w_f (a := 80) (b := 48) rfl rfl rfl ?_
    refine w_p (pc1 := 49) rfl rfl ?_
    refine w_m0 (pc1 := 52) (st1 := .long 27973170910815333 :: _) rfl rfl rfl rfl ?_
    refine w_p (pc1 := 53) (st1 := .int (-1) :: _) rfl rfl ?_
    refine w_f (a := 80) (b := 56) rfl rfl rfl ?_
    refine w_p (pc1 := 57) rfl rfl ?_
    refine w_m0 (pc1 := 60) (st1 := .long 426953237355 :: _) rfl rfl rfl rfl ?_
    refine w_p (pc1 := 61) (st1 := .int (-1) :: _) rfl rfl ?_
    refine w_f (a := 80) (b := 64) rfl rfl rfl ?_
    refine w_p (pc1 := 65) rfl rfl ?_
    refine w_m0 (pc1 := 68) (st1 := .long 109330228406644 :: _) rfl rfl rfl rfl ?_
    refine w_p (pc1 := 69) (st1 := .int (-1) :: _) rfl rfl ?_
    refine w_f (a := 80) (b := 72) rfl rfl rfl ?_
    refine w_p (pc1 := 73) rfl rfl ?_
    refine w_m0 (pc1 := 76) (st1 := .long 28258988067220596 :: _) rfl rfl rfl rfl ?_
    refine w_p (pc1 := 77) (st1 := .int (-1) :: _) rfl rfl ?_
    refine w_t (a := 84) (b := 80) rfl rfl rfl ?_
    refine w_p (pc1 := 85) (st1 := .int 0 :: _) rfl rfl ?_
    refine w_p (pc1 := 86) (al1 := [(2, .int 0), (0, .long 7237495)]) rfl rfl ?_
    refine w_p (pc1 := 87) rfl rfl ?_
    refine w_m0 (pc1 := 90) (st1 := .long 110386773062757 :: _) rfl rfl rfl rfl ?_
    refine w_p (pc1 := 91) (st1 := .int (-1) :: _) rfl rfl ?_
    refine w_f (a := 166) (b := 94) rfl rfl rfl ?_
    refine w_p (pc1 := 95) rfl rfl ?_
    refine w_m0 (pc1 := 98) (st1 := .long 25711 :: _) rfl rfl rfl rfl ?_
    refine w_p (pc1 := 99) (st1 := .int 1 :: _) rfl rfl ?_
    refine w_f (a := 166) (b := 102) rfl rfl rfl ?_
    refine w_p (pc1 := 103) rfl rfl ?_
    refine w_m0 (pc1 := 106) (st1 := .long 1685221232 :: _) rfl rfl rfl rfl ?_
    refine w_p (pc1 := 107) (st1 := .int (-1) :: _) rfl rfl ?_
    refine w_f (a := 166) (b := 110) rfl rfl rfl ?_
    refine w_p (pc1 := 111) rfl rfl ?_
    refine w_m0 (pc1 := 114) (st1 := .long 115923103347316 :: _) rfl rfl rfl rfl ?_
    refine w_p (pc1 := 115) (st1 := .int (-1) :: _) rfl rfl ?_
    refine w_f (a := 166) (b := 118) rfl rfl rfl ?_
    refine w_p (pc1 := 119) rfl rfl ?_
    refine w_m0 (pc1 := 122) (st1 := .long 26995 :: _) rfl rfl rfl rfl ?_
    refine w_p (pc1 := 123) (st1 := .int 1 :: _) rfl rfl ?_
    refine w_f (a := 166) (b := 126) rfl rfl rfl ?_
    refine w_p (pc1 := 127) rfl rfl ?_
    refine w_m0 (pc1 := 130) (st1 := .long 1818326117 :: _) rfl rfl rfl rfl ?_
    refine w_p (pc1 := 131) (st1 := .int (-1) :: _) rfl rfl ?_
    refine w_f (a := 166) (b := 134) rfl rfl rfl ?_
    refine w_p (pc1 := 135) rfl rfl ?_
    refine w_m0 (pc1 := 138) (st1 := .long 7103860 :: _) rfl rfl rfl rfl ?_
    refine w_p (pc1 := 139) (st1 := .int 1 :: _) rfl rfl ?_
    refine w_f (a := 166) (b := 142) rfl rfl rfl ?_
    refine w_p (pc1 := 143) rfl rfl ?_
    refine w_m0 (pc1 := 146) (st1 := .long 1835102827 :: _) rfl rfl rfl rfl ?_
    refine w_p (pc1 := 147) (st1 := .int (-1) :: _) rfl rfl ?_
    refine w_f (a := 166) (b := 150) rfl rfl rfl ?_
    refine w_p (pc1 := 151) rfl rfl ?_
    refine w_m0 (pc1 := 154) (st1 := .long 1836413812 :: _) rfl rfl rfl rfl ?_
    refine w_p (pc1 := 155) (st1 := .int (-1) :: _) rfl rfl ?_
    refine w_f (a := 166) (b := 158) rfl rfl rfl ?_
    refine w_p (pc1 := 159) rfl rfl ?_
    refine w_m0 (pc1 := 162) (st1 := .long 7234935 :: _) rfl rfl rfl rfl ?_
    refine w_p (pc1 := 163) (st1 := .int 1 :: _) rfl rfl ?_
    refine w_t (a := 170) (b := 166) rfl rfl rfl ?_
    refine w_p (pc1 := 171) (st1 := .int 0 :: _) rfl rfl ?_
    refine w_p (pc1 := 172) (al1 := [(3, .int 0), (2, .int 0), (0, .long 7237495)]) rfl rfl ?_
    refine w_p (pc1 := 173) rfl rfl ?_
    refine w_m0 (pc1 := 176) (st1 := .long 7237492 :: _) rfl rfl rfl rfl ?_
    refine w_p (pc1 := 177) (st1 := .int 1 :: _) rfl rfl ?_
    refine w_f (a := 252) (b := 180) rfl rfl rfl ?_
    refine w_p (pc1 := 181) rfl rfl ?_
    refine w_m0 (pc1 := 184) (st1 := .long 7237495 :: _) rfl rfl rfl rfl ?_
    refine w_p (pc1 := 185) (st1 := .int 0 :: _) rfl rfl ?_
    refine w_t (a := 252) (b := 188) rfl rfl rfl ?_
    refine w_p (pc1 := 253) (st1 := .int 1 :: _) rfl rfl ?_
    refine w_p (pc1 := 257) rfl rfl ?_
    refine w_p (pc1 := 259) (al1 := [(4, .int 1), (3, .int 0), (2, .int 0), (0, .long 7237495)]) rfl rfl ?_
    refine w_p (pc1 := 260) rfl rfl ?_
    refine w_f (a := 344) (b := 263) rfl rfl rfl ?_
    refine w_p (pc1 := 264) rfl rfl ?_
    refine w_f (a := 344) (b := 267) rfl rfl rfl ?_
    refine w_p (pc1 := 269) rfl rfl ?_
    refine w_t (a := 344) (b := 272) rfl rfl rfl ?_
    refine w_p (pc1 := 345) (st1 := .int 1 :: _) rfl rfl ?_
    refine w_p (pc1 := 349) rfl rfl ?_
    refine w_r rfl rfl rfl (fun _ _ => rfl) rfl ?_
    exact ⟨rfl, rfl, rfl⟩
  · skip
    refine w_p (pc1 := 1) rfl rfl ?_
    refine w_m0 (pc1 := 4) (st1 := .long 418330731890 :: _) rfl rfl rfl rfl ?_
    refine w_p (pc1 := 5) (st1 := .int (-1) :: _) rfl rfl ?_
    refine w_f (a := 80) (b := 8) rfl rfl rfl ?_
    refine w_p (pc1 := 9) rfl rfl ?_
    refine w_m0 (pc1 := 12) (st1 := .long 6384748 :: _) rfl rfl rfl rfl ?_
    refine w_p (pc1 := 13) (st1 := .int 1 :: _) rfl rfl ?_
    refine w_f (a := 80) (b := 16) rfl rfl rfl ?_
    refine w_p (pc1 := 17) rfl rfl ?_
    refine w_m0 (pc1 := 20) (st1 := .long 6385252 :: _) rfl rfl rfl rfl ?_
    refine w_p (pc1 := 21) (st1 := .int 1 :: _) rfl rfl ?_
    refine w_f (a := 80) (b := 24) rfl rfl rfl ?_
    refine w_p (pc1 := 25) rfl rfl ?_
    refine w_m0 (pc1 := 28) (st1 := .long 1650549611 :: _) rfl rfl rfl rfl ?_
    refine w_p (pc1 := 29) (st1 := .int 1 :: _) rfl rfl ?_
    refine w_f (a := 80) (b := 32) rfl rfl rfl ?_
    refine w_p (pc1 := 33) rfl rfl ?_
    refine w_m0 (pc1 := 36) (st1 := .long 108187649798757 :: _) rfl rfl rfl rfl ?_
    refine w_p (pc1 := 37) (st1 := .int (-1) :: _) rfl rfl ?_
    refine w_f (a := 80) (b := 40) rfl rfl rfl ?_
    refine w_p (pc1 := 41) rfl rfl ?_
    refine w_m0 (pc1 := 44) (st1 := .long 422608071022 :: _) rfl rfl rfl rfl ?_
    refine w_p (pc1 := 45) (st1 := .int (-1) :: _) rfl rfl ?_
    refine w_f (a := 80) (b := 48) rfl rfl rfl ?_
    refine w_p (pc1 := 49) rfl rfl ?_
    refine w_m0 (pc1 := 52) (st1 := .long 27973170910815333 :: _) rfl rfl rfl rfl ?_
    refine w_p (pc1 := 53) (st1 := .int (-1) :: _) rfl rfl ?_
    refine w_f (a := 80) (b := 56) rfl rfl rfl ?_
    refine w_p (pc1 := 57) rfl rfl ?_
    refine w_m0 (pc1 := 60) (st1 := .long 426953237355 :: _) rfl rfl rfl rfl ?_
    refine w_p (pc1 := 61) (st1 := .int (-1) :: _) rfl rfl ?_
    refine w_f (a := 80) (b := 64) rfl rfl rfl ?_
    refine w_p (pc1 := 65) rfl rfl ?_
    refine w_m0 (pc1 := 68) (st1 := .long 109330228406644 :: _) rfl rfl rfl rfl ?_
    refine w_p (pc1 := 69) (st1 := .int (-1) :: _) rfl rfl ?_
    refine w_f (a := 80) (b := 72) rfl rfl rfl ?_
    refine w_p (pc1 := 73) rfl rfl ?_
    refine w_m0 (pc1 := 76) (st1 := .long 28258988067220596 :: _) rfl rfl rfl rfl ?_
    refine w_p (pc1 := 77) (st1 := .int (-1) :: _) rfl rfl ?_
    refine w_t (a := 84) (b := 80) rfl rfl rfl ?_
    refine w_p (pc1 := 85) (st1 := .int 0 :: _) rfl rfl ?_
    refine w_p (pc1 := 86) (al1 := [(2, .int 0), (0, .long 1853189228)]) rfl rfl ?_
    refine w_p (pc1 := 87) rfl rfl ?_
    refine w_m0 (pc1 := 90) (st1 := .long 110386773062757 :: _) rfl rfl rfl rfl ?_
    refine w_p (pc1 := 91) (st1 := .int (-1) :: _) rfl rfl ?_
    refine w_f (a := 166) (b := 94) rfl rfl rfl ?_
    refine w_p (pc1 := 95) rfl rfl ?_
    refine w_m0 (pc1 := 98) (st1 := .long 25711 :: _) rfl rfl rfl rfl ?_
    refine w_p (pc1 := 99) (st1 := .int 1 :: _) rfl rfl ?_
    refine w_f (a := 166) (b := 102) rfl rfl rfl ?_
    refine w_p (pc1 := 103) rfl rfl ?_
    refine w_m0 (pc1 := 106) (st1 := .long 1685221232 :: _) rfl rfl rfl rfl ?_
    refine w_p (pc1 := 107) (st1 := .int 1 :: _) rfl rfl ?_
    refine w_f (a := 166) (b := 110) rfl rfl rfl ?_
    refine w_p (pc1 := 111) rfl rfl ?_
    refine w_m0 (pc1 := 114) (st1 := .long 115923103347316 :: _) rfl rfl rfl rfl ?_
    refine w_p (pc1 := 115) (st1 := .int (-1) :: _) rfl rfl ?_
    refine w_f (a := 166) (b := 118) rfl rfl rfl ?_
    refine w_p (pc1 := 119) rfl rfl ?_
    refine w_m0 (pc1 := 122) (st1 := .long 26995 :: _) rfl rfl rfl rfl ?_
    refine w_p (pc1 := 123) (st1 := .int 1 :: _) rfl rfl ?_
    refine w_f (a := 166) (b := 126) rfl rfl rfl ?_
    refine w_p (pc1 := 127) rfl rfl ?_
    refine w_m0 (pc1 := 130) (st1 := .long 1818326117 :: _) rfl rfl rfl rfl ?_
    refine w_p (pc1 := 131) (st1 := .int 1 :: _) rfl rfl ?_
    refine w_f (a := 166) (b := 134) rfl rfl rfl ?_
    refine w_p (pc1 := 135) rfl rfl ?_
    refine w_m0 (pc1 := 138) (st1 := .long 7103860 :: _) rfl rfl rfl rfl ?_
    refine w_p (pc1 := 139) (st1 := .int 1 :: _) rfl rfl ?_
    refine w_f (a := 166) (b := 142) rfl rfl rfl ?_
    refine w_p (pc1 := 143) rfl rfl ?_
    refine w_m0 (pc1 := 146) (st1 := .long 1835102827 :: _) rfl rfl rfl rfl ?_
    refine w_p (pc1 := 147) (st1 := .int 1 :: _) rfl rfl ?_
    refine w_f (a := 166) (b := 150) rfl rfl rfl ?_
    refine w_p (pc1 := 151) rfl rfl ?_
    refine w_m0 (pc1 := 154) (st1 := .long 1836413812 :: _) rfl rfl rfl rfl ?_
    refine w_p (pc1 := 155) (st1 := .int 1 :: _) rfl rfl ?_
    refine w_f (a := 166) (b := 158) rfl rfl rfl ?_
    refine w_p (pc1 := 159) rfl rfl ?_
    refine w_m0 (pc1 := 162) (st1 := .long 7234935 :: _) rfl rfl rfl rfl ?_
    refine w_p (pc1 := 163) (st1 := .int 1 :: _) rfl rfl ?_
    refine w_t (a := 170) (b := 166) rfl rfl rfl ?_
    refine w_p (pc1 := 171) (st1 := .int 0 :: _) rfl rfl ?_
    refine w_p (pc1 := 172) (al1 := [(3, .int 0), (2, .int 0), (0, .long 1853189228)]) rfl rfl ?_
    refine w_p (pc1 := 173) rfl rfl ?_
    refine w_m0 (pc1 := 176) (st1 := .long 7237492 :: _) rfl rfl rfl rfl ?_
    refine w_p (pc1 := 177) (st1 := .int 1 :: _) rfl rfl ?_
    refine w_f (a := 252) (b := 180) rfl rfl rfl ?_
    refine w_p (pc1 := 181) rfl rfl ?_
    refine w_m0 (pc1 := 184) (st1 := .long 7237495 :: _) rfl rfl rfl rfl ?_
    refine w_p (pc1 := 185) (st1 := .int 1 :: _) rfl rfl ?_
    refine w_f (a := 252) (b := 188) rfl rfl rfl ?_
    refine w_p (pc1 := 189) rfl rfl ?_
    refine w_m0 (pc1 := 192) (st1 := .long 1853189228 :: _) rfl rfl rfl rfl ?_
    refine w_p (pc1 := 193) (st1 := .int 0 :: _) rfl rfl ?_
    refine w_t (a := 252) (b := 196) rfl rfl rfl ?_
    refine w_p (pc1 := 253) (st1 := .int 1 :: _) rfl rfl ?_
    refine w_p (pc1 := 257) rfl rfl ?_
    refine w_p (pc1 := 259) (al1 := [(4, .int 1), (3, .int 0), (2, .int 0), (0, .long 1853189228)]) rfl rfl ?_
    refine w_p (pc1 := 260) rfl rfl ?_
    refine w_f (a := 344) (b := 263) rfl rfl rfl ?_
    refine w_p (pc1 := 264) rfl rfl ?_
    refine w_f (a := 344) (b := 267) rfl rfl rfl ?_
    refine w_p (pc1 := 269) rfl rfl ?_
    refine w_t (a := 344) (b := 272) rfl rfl rfl ?_
    refine w_p (pc1 := 345) (st1 := .int 1 :: _) rfl rfl ?_
    refine w_p (pc1 := 349) rfl rfl ?_
    refine w_r rfl rfl rfl (fun _ _ => rfl) rfl ?_
    exact ⟨rfl, rfl, rfl⟩
  · skip
    refine w_p (pc1 := 1) rfl rfl ?_
    refine w_m0 (pc1 := 4) (st1 := .long 418330731890 :: _) rfl rfl rfl rfl ?_
    refine w_p (pc1 := 5) (st1 := .int (-1) :: _) rfl rfl ?_
    refine w_f (a := 80) (b := 8) rfl rfl rfl ?_
    refine w_p (pc1 := 9) rfl rfl ?_
    refine w_m0 (pc1 := 12) (st1 := .long 6384748 :: _) rfl rfl rfl rfl ?_
    refine w_p (pc1 := 13) (st1 := .int 1 :: _) rfl rfl ?_
    refine w_f (a := 80) (b := 16) rfl rfl rfl ?_
    refine w_p (pc1 := 17) rfl rfl ?_
    refine w_m0 (pc1 := 20) (st1 := .long 6385252 :: _) rfl rfl rfl rfl ?_
    refine w_p (pc1 := 21) (st1 := .int 1 :: _) rfl rfl ?_
    refine w_f (a := 80) (b := 24) rfl rfl rfl ?_
    refine w_p (pc1 := 25) rfl rfl ?_
    refine w_m0 (pc1 := 28) (st1 := .long 1650549611 :: _) rfl rfl rfl rfl ?_
    refine w_p (pc1 := 29) (st1 := .int (-1) :: _) rfl rfl ?_
    refine w_f (a := 80) (b := 32) rfl rfl rfl ?_
    refine w_p (pc1 := 33) rfl rfl ?_
    refine w_m0 (pc1 := 36) (st1 := .long 108187649798757 :: _) rfl rfl rfl rfl ?_
    refine w_p (pc1 := 37) (st1 := .int (-1) :: _) rfl rfl ?_
    refine w_f (a := 80) (b := 40) rfl rfl rfl ?_
    refine w_p (pc1 := 41) rfl rfl ?_
    refine w_m0 (pc1 := 44) (st1 := .long 422608071022 :: _) rfl rfl rfl rfl ?_
    refine w_p (pc1 := 45) (st1 := .int (-1) :: _) rfl rfl ?_
    refine w_f (a := 80) (b := 48) rfl rfl rfl ?_
    refine w_p (pc1 := 49) rfl rfl ?_
    refine w_m0 (pc1 := 52) (st1 := .long 27973170910815333 :: _) rfl rfl rfl rfl ?_
    refine w_p (pc1 := 53) (st1 := .int (-1) :: _) rfl rfl ?_
    refine w_f (a := 80) (b := 56) rfl rfl rfl ?_
    refine w_p (pc1 := 57) rfl rfl ?_
    refine w_m0 (pc1 := 60) (st1 := .long 426953237355 :: _) rfl rfl rfl rfl ?_
    refine w_p (pc1 := 61) (st1 := .int (-1) :: _) rfl rfl ?_
    refine w_f (a := 80) (b := 64) rfl rfl rfl ?_
    refine w_p (pc1 := 65) rfl rfl ?_
    refine w_m0 (pc1 := 68) (st1 := .long 109330228406644 :: _) rfl rfl rfl rfl ?_
    refine w_p (pc1 := 69) (st1 := .int (-1) :: _) rfl rfl ?_
    refine w_f (a := 80) (b := 72) rfl rfl rfl ?_
    refine w_p (pc1 := 73) rfl rfl ?_
    refine w_m0 (pc1 := 76) (st1 := .long 28258988067220596 :: _) rfl rfl rfl rfl ?_
    refine w_p (pc1 := 77) (st1 := .int (-1) :: _) rfl rfl ?_
    refine w_t (a := 84) (b := 80) rfl rfl rfl ?_
    refine w_p (pc1 := 85) (st1 := .int 0 :: _) rfl rfl ?_
    refine w_p (pc1 := 86) (al1 := [(2, .int 0), (0, .long 7302244)]) rfl rfl ?_
    refine w_p (pc1 := 87) rfl rfl ?_
    refine w_m0 (pc1 := 90) (st1 := .long 110386773062757 :: _) rfl rfl rfl rfl ?_
    refine w_p (pc1 := 91) (st1 := .int (-1) :: _) rfl rfl ?_
    refine w_f (a := 166) (b := 94) rfl rfl rfl ?_
    refine w_p (pc1 := 95) rfl rfl ?_
    refine w_m0 (pc1 := 98) (st1 := .long 25711 :: _) rfl rfl rfl rfl ?_
    refine w_p (pc1 := 99) (st1 := .int 1 :: _) rfl rfl ?_
    refine w_f (a := 166) (b := 102) rfl rfl rfl ?_
    refine w_p (pc1 := 103) rfl rfl ?_
    refine w_m0 (pc1 := 106) (st1 := .long 1685221232 :: _) rfl rfl rfl rfl ?_
    refine w_p (pc1 := 107) (st1 := .int (-1) :: _) rfl rfl ?_
    refine w_f (a := 166) (b := 110) rfl rfl rfl ?_
    refine w_p (pc1 := 111) rfl rfl ?_
    refine w_m0 (pc1 := 114) (st1 := .long 115923103347316 :: _) rfl rfl rfl rfl ?_
    refine w_p (pc1 := 115) (st1 := .int (-1) :: _) rfl rfl ?_
    refine w_f (a := 166) (b := 118) rfl rfl rfl ?_
    refine w_p (pc1 := 119) rfl rfl ?_
    refine w_m0 (pc1 := 122) (st1 := .long 26995 :: _) rfl rfl rfl rfl ?_
    refine w_p (pc1 := 123) (st1 := .int 1 :: _) rfl rfl ?_
    refine w_f (a := 166) (b := 126) rfl rfl rfl ?_
    refine w_p (pc1 := 127) rfl rfl ?_
    refine w_m0 (pc1 := 130) (st1 := .long 1818326117 :: _) rfl rfl rfl rfl ?_
    refine w_p (pc1 := 131) (st1 := .int (-1) :: _) rfl rfl ?_
    refine w_f (a := 166) (b := 134) rfl rfl rfl ?_
    refine w_p (pc1 := 135) rfl rfl ?_
    refine w_m0 (pc1 := 138) (st1 := .long 7103860 :: _) rfl rfl rfl rfl ?_
    refine w_p (pc1 := 139) (st1 := .int 1 :: _) rfl rfl ?_
    refine w_f (a := 166) (b := 142) rfl rfl rfl ?_
    refine w_p (pc1 := 143) rfl rfl ?_
    refine w_m0 (pc1 := 146) (st1 := .long 1835102827 :: _) rfl rfl rfl rfl ?_
    refine w_p (pc1 := 147) (st1 := .int (-1) :: _) rfl rfl ?_
    refine w_f (a := 166) (b := 150) rfl rfl rfl ?_
    refine w_p (pc1 := 151) rfl rfl ?_
    refine w_m0 (pc1 := 154) (st1 := .long 1836413812 :: _) rfl rfl rfl rfl ?_
    refine w_p (pc1 := 155) (st1 := .int (-1) :: _) rfl rfl ?_
    refine w_f (a := 166) (b := 158) rfl rfl rfl ?_
    refine w_p (pc1 := 159) rfl rfl ?_
    refine w_m0 (pc1 := 162) (st1 := .long 7234935 :: _) rfl rfl rfl rfl ?_
    refine w_p (pc1 := 163) (st1 := .int 1 :: _) rfl rfl ?_
    refine w_t (a := 170) (b := 166) rfl rfl rfl ?_
    refine w_p (pc1 := 171) (st1 := .int 0 :: _) rfl rfl ?_
    refine w_p (pc1 := 172) (al1 := [(3, .int 0), (2, .int 0), (0, .long 7302244)]) rfl rfl ?_
    refine w_p (pc1 := 173) rfl rfl ?_
    refine w_m0 (pc1 := 176) (st1 := .long 7237492 :: _) rfl rfl rfl rfl ?_
    refine w_p (pc1 := 177) (st1 := .int 1 :: _) rfl rfl ?_
    refine w_f (a := 252) (b := 180) rfl rfl rfl ?_
    refine w_p (pc1 := 181) rfl rfl ?_
    refine w_m0 (pc1 := 184) (st1 := .long 7237495 :: _) rfl rfl rfl rfl ?_
    refine w_p (pc1 := 185) (st1 := .int 1 :: _) rfl rfl ?_
    refine w_f (a := 252) (b := 188) rfl rfl rfl ?_
    refine w_p (pc1 := 189) rfl rfl ?_
    refine w_m0 (pc1 := 192) (st1 := .long 1853189228 :: _) rfl rfl rfl rfl ?_
    refine w_p (pc1 := 193) (st1 := .int (-1) :: _) rfl rfl ?_
    refine w_f (a := 252) (b := 196) rfl rfl rfl ?_
    refine w_p (pc1 := 197) rfl rfl ?_
    refine w_m0 (pc1 := 200) (st1 := .long 7302244 :: _) rfl rfl rfl rfl ?_
    refine w_p (pc1 := 201) (st1 := .int 0 :: _) rfl rfl ?_
    refine w_t (a := 252) (b := 204) rfl rfl rfl ?_
    refine w_p (pc1 := 253) (st1 := .int 1 :: _) rfl rfl ?_
    refine w_p (pc1 := 257) rfl rfl ?_
    refine w_p (pc1 := 259) (al1 := [(4, .int 1), (3, .int 0), (2, .int 0), (0, .long 7302244)]) rfl rfl ?_
    refine w_p (pc1 := 260) rfl rfl ?_
    refine w_f (a := 344) (b := 263) rfl rfl rfl ?_
    refine w_p (pc1 := 264) rfl rfl ?_
    refine w_f (a := 344) (b := 267) rfl rfl rfl ?_
    refine w_p (pc1 := 269) rfl rfl ?_
    refine w_t (a := 344) (b := 272) rfl rfl rfl ?_
    refine w_p (pc1 := 345) (st1 := .int 1 :: _) rfl rfl ?_
    refine w_p (pc1 := 349) rfl rfl ?_
    refine w_r rfl rfl rfl (fun _ _ => rfl) rfl ?_
    exact ⟨rfl, rfl, rfl⟩
  · skip
    refine w_p (pc1 := 1) rfl rfl ?_
    refine w_m0 (pc1 := 4) (st1 := .long 418330731890 :: _) rfl rfl rfl rfl ?_
    refine w_p (pc1 := 5) (st1 := .int (-1) :: _) rfl rfl ?_
    refine w_f (a := 80) (b := 8) rfl rfl rfl ?_
    refine w_p (pc1 := 9) rfl rfl ?_
    refine w_m0 (pc1 := 12) (st1 := .long 6384748 :: _) rfl rfl rfl rfl ?_
    refine w_p (pc1 := 13) (st1 := .int (-1) :: _) rfl rfl ?_
    refine w_f (a := 80) (b := 16) rfl rfl rfl ?_
    refine w_p (pc1 := 17) rfl rfl ?_
    refine w_m0 (pc1 := 20) (st1 := .long 6385252 :: _) rfl rfl rfl rfl ?_
    refine w_p (pc1 := 21) (st1 := .int (-1) :: _) rfl rfl ?_
    refine w_f (a := 80) (b := 24) rfl rfl rfl ?_
    refine w_p (pc1 := 25) rfl rfl ?_
    refine w_m0 (pc1 := 28) (st1 := .long 1650549611 :: _) rfl rfl rfl rfl ?_
    refine w_p (pc1 := 29) (st1 := .int (-1) :: _) rfl rfl ?_
    refine w_f (a := 80) (b := 32) rfl rfl rfl ?_
    refine w_p (pc1 := 33) rfl rfl ?_
    refine w_m0 (pc1 := 36) (st1 := .long 108187649798757 :: _) rfl rfl rfl rfl ?_
    refine w_p (pc1 := 37) (st1 := .int (-1) :: _) rfl rfl ?_
    refine w_f (a := 80) (b := 40) rfl rfl rfl ?_
    refine w_p (pc1 := 41) rfl rfl ?_
    refine w_m0 (pc1 := 44) (st1 := .long 422608071022 :: _) rfl rfl rfl rfl ?_
    refine w_p (pc1 := 45) (st1 := .int (-1) :: _) rfl rfl ?_
    refine w_f (a := 80) (b := 48) rfl rfl rfl ?_
    refine w_p (pc1 := 49) rfl rfl ?_
    refine w_m0 (pc1 := 52) (st1 := .long 27973170910815333 :: _) rfl rfl rfl rfl ?_
    refine w_p (pc1 := 53) (st1 := .int (-1) :: _) rfl rfl ?_
    refine w_f (a := 80) (b := 56) rfl rfl rfl ?_
    refine w_p (pc1 := 57) rfl rfl ?_
    refine w_m0 (pc1 := 60) (st1 := .long 426953237355 :: _) rfl rfl rfl rfl ?_
    refine w_p (pc1 := 61) (st1 := .int (-1) :: _) rfl rfl ?_
    refine w_f (a := 80) (b := 64) rfl rfl rfl ?_
    refine w_p (pc1 := 65) rfl rfl ?_
    refine w_m0 (pc1 := 68) (st1 := .long 109330228406644 :: _) rfl rfl rfl rfl ?_
    refine w_p (pc1 := 69) (st1 := .int (-1) :: _) rfl rfl ?_
    refine w_f (a := 80) (b := 72) rfl rfl rfl ?_
    refine w_p (pc1 := 73) rfl rfl ?_
    refine w_m0 (pc1 := 76) (st1 := .long 28258988067220596 :: _) rfl rfl rfl rfl ?_
    refine w_p (pc1 := 77) (st1 := .int (-1) :: _) rfl rfl ?_
    refine w_t (a := 84) (b := 80) rfl rfl rfl ?_
    refine w_p (pc1 := 85) (st1 := .int 0 :: _) rfl rfl ?_
    refine w_p (pc1 := 86) (al1 := [(2, .int 0), (0, .long 28526)]) rfl rfl ?_
    refine w_p (pc1 := 87) rfl rfl ?_
    refine w_m0 (pc1 := 90) (st1 := .long 110386773062757 :: _) rfl rfl rfl rfl ?_
    refine w_p (pc1 := 91) (st1 := .int (-1) :: _) rfl rfl ?_
    refine w_f (a := 166) (b := 94) rfl rfl rfl ?_
    refine w_p (pc1 := 95) rfl rfl ?_
    refine w_m0 (pc1 := 98) (st1 := .long 25711 :: _) rfl rfl rfl rfl ?_
    refine w_p (pc1 := 99) (st1 := .int 1 :: _) rfl rfl ?_
    refine w_f (a := 166) (b := 102) rfl rfl rfl ?_
    refine w_p (pc1 := 103) rfl rfl ?_
    refine w_m0 (pc1 := 106) (st1 := .long 1685221232 :: _) rfl rfl rfl rfl ?_
    refine w_p (pc1 := 107) (st1 := .int (-1) :: _) rfl rfl ?_
    refine w_f (a := 166) (b := 110) rfl rfl rfl ?_
    refine w_p (pc1 := 111) rfl rfl ?_
    refine w_m0 (pc1 := 114) (st1 := .long 115923103347316 :: _) rfl rfl rfl rfl ?_
    refine w_p (pc1 := 115) (st1 := .int (-1) :: _) rfl rfl ?_
    refine w_f (a := 166) (b := 118) rfl rfl rfl ?_
    refine w_p (pc1 := 119) rfl rfl ?_
    refine w_m0 (pc1 := 122) (st1 := .long 26995 :: _) rfl rfl rfl rfl ?_
    refine w_p (pc1 := 123) (st1 := .int 1 :: _) rfl rfl ?_
    refine w_f (a := 166) (b := 126) rfl rfl rfl ?_
    refine w_p (pc1 := 127) rfl rfl ?_
    refine w_m0 (pc1 := 130) (st1 := .long 1818326117 :: _) rfl rfl rfl rfl ?_
    refine w_p (pc1 := 131) (st1 := .int (-1) :: _) rfl rfl ?_
    refine w_f (a := 166) (b := 134) rfl rfl rfl ?_
    refine w_p (pc1 := 135) rfl rfl ?_
    refine w_m0 (pc1 := 138) (st1 := .long 7103860 :: _) rfl rfl rfl rfl ?_
    refine w_p (pc1 := 139) (st1 := .int (-1) :: _) rfl rfl ?_
    refine w_f (a := 166) (b := 142) rfl rfl rfl ?_
    refine w_p (pc1 := 143) rfl rfl ?_
    refine w_m0 (pc1 := 146) (st1 := .long 1835102827 :: _) rfl rfl rfl rfl ?_
    refine w_p (pc1 := 147) (st1 := .int (-1) :: _) rfl rfl ?_
    refine w_f (a := 166) (b := 150) rfl rfl rfl ?_
    refine w_p (pc1 := 151) rfl rfl ?_
    refine w_m0 (pc1 := 154) (st1 := .long 1836413812 :: _) rfl rfl rfl rfl ?_
    refine w_p (pc1 := 155) (st1 := .int (-1) :: _) rfl rfl ?_
    refine w_f (a := 166) (b := 158) rfl rfl rfl ?_
    refine w_p (pc1 := 159) rfl rfl ?_
    refine w_m0 (pc1 := 162) (st1 := .long 7234935 :: _) rfl rfl rfl rfl ?_
    refine w_p (pc1 := 163) (st1 := .int (-1) :: _) rfl rfl ?_
    refine w_t (a := 170) (b := 166) rfl rfl rfl ?_
    refine w_p (pc1 := 171) (st1 := .int 0 :: _) rfl rfl ?_
    refine w_p (pc1 := 172) (al1 := [(3, .int 0), (2, .int 0), (0, .long 28526)]) rfl rfl ?_
    refine w_p (pc1 := 173) rfl rfl ?_
    refine w_m0 (pc1 := 176) (st1 := .long 7237492 :: _) rfl rfl rfl rfl ?_
    refine w_p (pc1 := 177) (st1 := .int (-1) :: _) rfl rfl ?_
    refine w_f (a := 252) (b := 180) rfl rfl rfl ?_
    refine w_p (pc1 := 181) rfl rfl ?_
    refine w_m0 (pc1 := 184) (st1 := .long 7237495 :: _) rfl rfl rfl rfl ?_
    refine w_p (pc1 := 185) (st1 := .int (-1) :: _) rfl rfl ?_
    refine w_f (a := 252) (b := 188) rfl rfl rfl ?_
    refine w_p (pc1 := 189) rfl rfl ?_
    refine w_m0 (pc1 := 192) (st1 := .long 1853189228 :: _) rfl rfl rfl rfl ?_
    refine w_p (pc1 := 193) (st1 := .int (-1) :: _) rfl rfl ?_
    refine w_f (a := 252) (b := 196) rfl rfl rfl ?_
    refine w_p (pc1 := 197) rfl rfl ?_
    refine w_m0 (pc1 := 200) (st1 := .long 7302244 :: _) rfl rfl rfl rfl ?_
    refine w_p (pc1 := 201) (st1 := .int (-1) :: _) rfl rfl ?_
    refine w_f (a := 252) (b := 204) rfl rfl rfl ?_
    refine w_p (pc1 := 205) rfl rfl ?_
    refine w_m0 (pc1 := 208) (st1 := .long 28526 :: _) rfl rfl rfl rfl ?_
    refine w_p (pc1 := 209) (st1 := .int 0 :: _) rfl rfl ?_
    refine w_t (a := 252) (b := 212) rfl rfl rfl ?_
    refine w_p (pc1 := 253) (st1 := .int 1 :: _) rfl rfl ?_
    refine w_p (pc1 := 257) rfl rfl ?_
    refine w_p (pc1 := 259) (al1 := [(4, .int 1), (3, .int 0), (2, .int 0), (0, .long 28526)]) rfl rfl ?_
    refine w_p (pc1 := 260) rfl rfl ?_
    refine w_f (a := 344) (b := 263) rfl rfl rfl ?_
    refine w_p (pc1 := 264) rfl rfl ?_
    refine w_f (a := 344) (b := 267) rfl rfl rfl ?_
    refine w_p (pc1 := 269) rfl rfl ?_
    refine w_t (a := 344) (b := 272) rfl rfl rfl ?_
    refine w_p (pc1 := 345) (st1 := .int 1 :: _) rfl rfl ?_
    refine w_p (pc1 := 349) rfl rfl ?_
    refine w_r rfl rfl rfl (fun _ _ => rfl) rfl ?_
    exact ⟨rfl, rfl, rfl⟩
  · skip
    refine w_p (pc1 := 1) rfl rfl ?_
    refine w_m0 (pc1 := 4) (st1 := .long 418330731890 :: _) rfl rfl rfl rfl ?_
    refine w_p (pc1 := 5) (st1 := .int (-1) :: _) rfl rfl ?_
    refine w_f (a := 80) (b := 8) rfl rfl rfl ?_
    refine w_p (pc1 := 9) rfl rfl ?_
    refine w_m0 (pc1 := 12) (st1 := .long 6384748 :: _) rfl rfl rfl rfl ?_
    refine w_p (pc1 := 13) (st1 := .int (-1) :: _) rfl rfl ?_
    refine w_f (a := 80) (b := 16) rfl rfl rfl ?_
    refine w_p (pc1 := 17) rfl rfl ?_
    refine w_m0 (pc1 := 20) (st1 := .long 6385252 :: _) rfl rfl rfl rfl ?_
    refine w_p (pc1 := 21) (st1 := .int (-1) :: _) rfl rfl ?_
    refine w_f (a := 80) (b := 24) rfl rfl rfl ?_
    refine w_p (pc1 := 25) rfl rfl ?_
    refine w_m0 (pc1 := 28) (st1 := .long 1650549611 :: _) rfl rfl rfl rfl ?_
    refine w_p (pc1 := 29) (st1 := .int (-1) :: _) rfl rfl ?_
    refine w_f (a := 80) (b := 32) rfl rfl rfl ?_
    refine w_p (pc1 := 33) rfl rfl ?_
    refine w_m0 (pc1 := 36) (st1 := .long 108187649798757 :: _) rfl rfl rfl rfl ?_
    refine w_p (pc1 := 37) (st1 := .int (-1) :: _) rfl rfl ?_
    refine w_f (a := 80) (b := 40) rfl rfl rfl ?_
    refine w_p (pc1 := 41) rfl rfl ?_
    refine w_m0 (pc1 := 44) (st1 := .long 422608071022 :: _) rfl rfl rfl rfl ?_
    refine w_p (pc1 := 45) (st1 := .int (-1) :: _) rfl rfl ?_
    refine w_f (a := 80) (b := 48) rfl rfl rfl ?_
    refine w_p (pc1 := 49) rfl rfl ?_
    refine w_m0 (pc1 := 52) (st1 := .long 27973170910815333 :: _) rfl rfl rfl rfl ?_
    refine w_p (pc1 := 53) (st1 := .int (-1) :: _) rfl rfl ?_
    refine w_f (a := 80) (b := 56) rfl rfl rfl ?_
    refine w_p (pc1 := 57) rfl rfl ?_
    refine w_m0 (pc1 := 60) (st1 := .long 426953237355 :: _) rfl rfl rfl rfl ?_
    refine w_p (pc1 := 61) (st1 := .int (-1) :: _) rfl rfl ?_
    refine w_f (a := 80) (b := 64) rfl rfl rfl ?_
    refine w_p (pc1 := 65) rfl rfl ?_
    refine w_m0 (pc1 := 68) (st1 := .long 109330228406644 :: _) rfl rfl rfl rfl ?_
    refine w_p (pc1 := 69) (st1 := .int (-1) :: _) rfl rfl ?_
    refine w_f (a := 80) (b := 72) rfl rfl rfl ?_
    refine w_p (pc1 := 73) rfl rfl ?_
    refine w_m0 (pc1 := 76) (st1 := .long 28258988067220596 :: _) rfl rfl rfl rfl ?_
    refine w_p (pc1 := 77) (st1 := .int (-1) :: _) rfl rfl ?_
    refine w_t (a := 84) (b := 80) rfl rfl rfl ?_
    refine w_p (pc1 := 85) (st1 := .int 0 :: _) rfl rfl ?_
    refine w_p (pc1 := 86) (al1 := [(2, .int 0), (0, .long 28530)]) rfl rfl ?_
    refine w_p (pc1 := 87) rfl rfl ?_
    refine w_m0 (pc1 := 90) (st1 := .long 110386773062757 :: _) rfl rfl rfl rfl ?_
    refine w_p (pc1 := 91) (st1 := .int (-1) :: _) rfl rfl ?_
    refine w_f (a := 166) (b := 94) rfl rfl rfl ?_
    refine w_p (pc1 := 95) rfl rfl ?_
    refine w_m0 (pc1 := 98) (st1 := .long 25711 :: _) rfl rfl rfl rfl ?_
    refine w_p (pc1 := 99) (st1 := .int 1 :: _) rfl rfl ?_
    refine w_f (a := 166) (b := 102) rfl rfl rfl ?_
    refine w_p (pc1 := 103) rfl rfl ?_
    refine w_m0 (pc1 := 106) (st1 := .long 1685221232 :: _) rfl rfl rfl rfl ?_
    refine w_p (pc1 := 107) (st1 := .int (-1) :: _) rfl rfl ?_
    refine w_f (a := 166) (b := 110) rfl rfl rfl ?_
    refine w_p (pc1 := 111) rfl rfl ?_
    refine w_m0 (pc1 := 114) (st1 := .long 115923103347316 :: _) rfl rfl rfl rfl ?_
    refine w_p (pc1 := 115) (st1 := .int (-1) :: _) rfl rfl ?_
    refine w_f (a := 166) (b := 118) rfl rfl rfl ?_
    refine w_p (pc1 := 119) rfl rfl ?_
    refine w_m0 (pc1 := 122) (st1 := .long 26995 :: _) rfl rfl rfl rfl ?_
    refine w_p (pc1 := 123) (st1 := .int 1 :: _) rfl rfl ?_
    refine w_f (a := 166) (b := 126) rfl rfl rfl ?_
    refine w_p (pc1 := 127) rfl rfl ?_
    refine w_m0 (pc1 := 130) (st1 := .long 1818326117 :: _) rfl rfl rfl rfl ?_
    refine w_p (pc1 := 131) (st1 := .int (-1) :: _) rfl rfl ?_
    refine w_f (a := 166) (b := 134) rfl rfl rfl ?_
    refine w_p (pc1 := 135) rfl rfl ?_
    refine w_m0 (pc1 := 138) (st1 := .long 7103860 :: _) rfl rfl rfl rfl ?_
    refine w_p (pc1 := 139) (st1 := .int (-1) :: _) rfl rfl ?_
    refine w_f (a := 166) (b := 142) rfl rfl rfl ?_
    refine w_p (pc1 := 143) rfl rfl ?_
    refine w_m0 (pc1 := 146) (st1 := .long 1835102827 :: _) rfl rfl rfl rfl ?_
    refine w_p (pc1 := 147) (st1 := .int (-1) :: _) rfl rfl ?_
    refine w_f (a := 166) (b := 150) rfl rfl rfl ?_
    refine w_p (pc1 := 151) rfl rfl ?_
    refine w_m0 (pc1 := 154) (st1 := .long 1836413812 :: _) rfl rfl rfl rfl ?_
    refine w_p (pc1 := 155) (st1 := .int (-1) :: _) rfl rfl ?_
    refine w_f (a := 166) (b := 158) rfl rfl rfl ?_
    refine w_p (pc1 := 159) rfl rfl ?_
    refine w_m0 (pc1 := 162) (st1 := .long 7234935 :: _) rfl rfl rfl rfl ?_
    refine w_p (pc1 := 163) (st1 := .int (-1) :: _) rfl rfl ?_
    refine w_t (a := 170) (b := 166) rfl rfl rfl ?_
    refine w_p (pc1 := 171) (st1 := .int 0 :: _) rfl rfl ?_
    refine w_p (pc1 := 172) (al1 := [(3, .int 0), (2, .int 0), (0, .long 28530)]) rfl rfl ?_
    refine w_p (pc1 := 173) rfl rfl ?_
    refine w_m0 (pc1 := 176) (st1 := .long 7237492 :: _) rfl rfl rfl rfl ?_
    refine w_p (pc1 := 177) (st1 := .int (-1) :: _) rfl rfl ?_
    refine w_f (a := 252) (b := 180) rfl rfl rfl ?_
    refine w_p (pc1 := 181) rfl rfl ?_
    refine w_m0 (pc1 := 184) (st1 := .long 7237495 :: _) rfl rfl rfl rfl ?_
    refine w_p (pc1 := 185) (st1 := .int (-1) :: _) rfl rfl ?_
    refine w_f (a := 252) (b := 188) rfl rfl rfl ?_
    refine w_p (pc1 := 189) rfl rfl ?_
    refine w_m0 (pc1 := 192) (st1 := .long 1853189228 :: _) rfl rfl rfl rfl ?_
    refine w_p (pc1 := 193) (st1 := .int (-1) :: _) rfl rfl ?_
    refine w_f (a := 252) (b := 196) rfl rfl rfl ?_
    refine w_p (pc1 := 197) rfl rfl ?_
    refine w_m0 (pc1 := 200) (st1 := .long 7302244 :: _) rfl rfl rfl rfl ?_
    refine w_p (pc1 := 201) (st1 := .int (-1) :: _) rfl rfl ?_
    refine w_f (a := 252) (b := 204) rfl rfl rfl ?_
    refine w_p (pc1 := 205) rfl rfl ?_
    refine w_m0 (pc1 := 208) (st1 := .long 28526 :: _) rfl rfl rfl rfl ?_
    refine w_p (pc1 := 209) (st1 := .int 1 :: _) rfl rfl ?_
    refine w_f (a := 252) (b := 212) rfl rfl rfl ?_
    refine w_p (pc1 := 213) rfl rfl ?_
    refine w_m0 (pc1 := 216) (st1 := .long 28530 :: _) rfl rfl rfl rfl ?_
    refine w_p (pc1 := 217) (st1 := .int 0 :: _) rfl rfl ?_
    refine w_t (a := 252) (b := 220) rfl rfl rfl ?_
    refine w_p (pc1 := 253) (st1 := .int 1 :: _) rfl rfl ?_
    refine w_p (pc1 := 257) rfl rfl ?_
    refine w_p (pc1 := 259) (al1 := [(4, .int 1), (3, .int 0), (2, .int 0), (0, .long 28530)]) rfl rfl ?_
    refine w_p (pc1 := 260) rfl rfl ?_
    refine w_f (a := 344) (b := 263) rfl rfl rfl ?_
    refine w_p (pc1 := 264) rfl rfl ?_
    refine w_f (a := 344) (b := 267) rfl rfl rfl ?_
    refine w_p (pc1 := 269) rfl rfl ?_
    refine w_t (a := 344) (b := 272) rfl rfl rfl ?_
    refine w_p (pc1 := 345) (st1 := .int 1 :: _) rfl rfl ?_
    refine w_p (pc1 := 349) rfl rfl ?_
    refine w_r rfl rfl rfl (fun _ _ => rfl) rfl ?_
    exact ⟨rfl, rfl, rfl⟩
  · skip
    refine w_p (pc1 := 1) rfl rfl ?_
    refine w_m0 (pc1 := 4) (st1 := .long 418330731890 :: _) rfl rfl rfl rfl ?_
    refine w_p (pc1 := 5) (st1 := .int 1 :: _) rfl rfl ?_
    refine w_f (a := 80) (b := 8) rfl rfl rfl ?_
    refine w_p (pc1 := 9) rfl rfl ?_
    refine w_m0 (pc1 := 12) (st1 := .long 6384748 :: _) rfl rfl rfl rfl ?_
    refine w_p (pc1 := 13) (st1 := .int 1 :: _) rfl rfl ?_
    refine w_f (a := 80) (b := 16) rfl rfl rfl ?_
    refine w_p (pc1 := 17) rfl rfl ?_
    refine w_m0 (pc1 := 20) (st1 := .long 6385252 :: _) rfl rfl rfl rfl ?_
    refine w_p (pc1 := 21) (st1 := .int 1 :: _) rfl rfl ?_
    refine w_f (a := 80) (b := 24) rfl rfl rfl ?_
    refine w_p (pc1 := 25) rfl rfl ?_
    refine w_m0 (pc1 := 28) (st1 := .long 1650549611 :: _) rfl rfl rfl rfl ?_
    refine w_p (pc1 := 29) (st1 := .int 1 :: _) rfl rfl ?_
    refine w_f (a := 80) (b := 32) rfl rfl rfl ?_
    refine w_p (pc1 := 33) rfl rfl ?_
    refine w_m0 (pc1 := 36) (st1 := .long 108187649798757 :: _) rfl rfl rfl rfl ?_
    refine w_p (pc1 := 37) (st1 := .int 1 :: _) rfl rfl ?_
    refine w_f (a := 80) (b := 40) rfl rfl rfl ?_
    refine w_p (pc1 := 41) rfl rfl ?_
    refine w_m0 (pc1 := 44) (st1 := .long 422608071022 :: _) rfl rfl rfl rfl ?_
    refine w_p (pc1 := 45) (st1 := .int 1 :: _) rfl rfl ?_
    refine w_f (a := 80) (b := 48) rfl rfl rfl ?_
    refine w_p (pc1 := 49) rfl rfl ?_
    refine w_m0 (pc1 := 52) (st1 := .long 27973170910815333 :: _) rfl rfl rfl rfl ?_
    refine w_p (pc1 := 53) (st1 := .int 1 :: _) rfl rfl ?_
    refine w_f (a := 80) (b := 56) rfl rfl rfl ?_
    refine w_p (pc1 := 57) rfl rfl ?_
    refine w_m0 (pc1 := 60) (st1 := .long 426953237355 :: _) rfl rfl rfl rfl ?_
    refine w_p (pc1 := 61) (st1 := .int 1 :: _) rfl rfl ?_
    refine w_f (a := 80) (b := 64) rfl rfl rfl ?_
    refine w_p (pc1 := 65) rfl rfl ?_
    refine w_m0 (pc1 := 68) (st1 := .long 109330228406644 :: _) rfl rfl rfl rfl ?_
    refine w_p (pc1 := 69) (st1 := .int 1 :: _) rfl rfl ?_
    refine w_f (a := 80) (b := 72) rfl rfl rfl ?_
    refine w_p (pc1 := 73) rfl rfl ?_
    refine w_m0 (pc1 := 76) (st1 := .long 28258988067220596 :: _) rfl rfl rfl rfl ?_
    refine w_p (pc1 := 77) (st1 := .int 1 :: _) rfl rfl ?_
    refine w_t (a := 84) (b := 80) rfl rfl rfl ?_
    refine w_p (pc1 := 85) (st1 := .int 0 :: _) rfl rfl ?_
    refine w_p (pc1 := 86) (al1 := [(2, .int 0), (0, .long 31650994523828857)]) rfl rfl ?_
    refine w_p (pc1 := 87) rfl rfl ?_
    refine w_m0 (pc1 := 90) (st1 := .long 110386773062757 :: _) rfl rfl rfl rfl ?_
    refine w_p (pc1 := 91) (st1 := .int 1 :: _) rfl rfl ?_
    refine w_f (a := 166) (b := 94) rfl rfl rfl ?_
    refine w_p (pc1 := 95) rfl rfl ?_
    refine w_m0 (pc1 := 98) (st1 := .long 25711 :: _) rfl rfl rfl rfl ?_
    refine w_p (pc1 := 99) (st1 := .int 1 :: _) rfl rfl ?_
    refine w_f (a := 166) (b := 102) rfl rfl rfl ?_
    refine w_p (pc1 := 103) rfl rfl ?_
    refine w_m0 (pc1 := 106) (st1 := .long 1685221232 :: _) rfl rfl rfl rfl ?_
    refine w_p (pc1 := 107) (st1 := .int 1 :: _) rfl rfl ?_
    refine w_f (a := 166) (b := 110) rfl rfl rfl ?_
    refine w_p (pc1 := 111) rfl rfl ?_
    refine w_m0 (pc1 := 114) (st1 := .long 115923103347316 :: _) rfl rfl rfl rfl ?_
    refine w_p (pc1 := 115) (st1 := .int 1 :: _) rfl rfl ?_
    refine w_f (a := 166) (b := 118) rfl rfl rfl ?_
    refine w_p (pc1 := 119) rfl rfl ?_
    refine w_m0 (pc1 := 122) (st1 := .long 26995 :: _) rfl rfl rfl rfl ?_
    refine w_p (pc1 := 123) (st1 := .int 1 :: _) rfl rfl ?_
    refine w_f (a := 166) (b := 126) rfl rfl rfl ?_
    refine w_p (pc1 := 127) rfl rfl ?_
    refine w_m0 (pc1 := 130) (st1 := .long 1818326117 :: _) rfl rfl rfl rfl ?_
    refine w_p (pc1 := 131) (st1 := .int 1 :: _) rfl rfl ?_
    refine w_f (a := 166) (b := 134) rfl rfl rfl ?_
    refine w_p (pc1 := 135) rfl rfl ?_
    refine w_m0 (pc1 := 138) (st1 := .long 7103860 :: _) rfl rfl rfl rfl ?_
    refine w_p (pc1 := 139) (st1 := .int 1 :: _) rfl rfl ?_
    refine w_f (a := 166) (b := 142) rfl rfl rfl ?_
    refine w_p (pc1 := 143) rfl rfl ?_
    refine w_m0 (pc1 := 146) (st1 := .long 1835102827 :: _) rfl rfl rfl rfl ?_
    refine w_p (pc1 := 147) (st1 := .int 1 :: _) rfl rfl ?_
    refine w_f (a := 166) (b := 150) rfl rfl rfl ?_
    refine w_p (pc1 := 151) rfl rfl ?_
    refine w_m0 (pc1 := 154) (st1 := .long 1836413812 :: _) rfl rfl rfl rfl ?_
    refine w_p (pc1 := 155) (st1 := .int 1 :: _) rfl rfl ?_
    refine w_f (a := 166) (b := 158) rfl rfl rfl ?_
    refine w_p (pc1 := 159) rfl rfl ?_
    refine w_m0 (pc1 := 162) (st1 := .long 7234935 :: _) rfl rfl rfl rfl ?_
    refine w_p (pc1 := 163) (st1 := .int 1 :: _) rfl rfl ?_
    refine w_t (a := 170) (b := 166) rfl rfl rfl ?_
    refine w_p (pc1 := 171) (st1 := .int 0 :: _) rfl rfl ?_
    refine w_p (pc1 := 172) (al1 := [(3, .int 0), (2, .int 0), (0, .long 31650994523828857)]) rfl rfl ?_
    refine w_p (pc1 := 173) rfl rfl ?_
    refine w_m0 (pc1 := 176) (st1 := .long 7237492 :: _) rfl rfl rfl rfl ?_
    refine w_p (pc1 := 177) (st1 := .int 1 :: _) rfl rfl ?_
    refine w_f (a := 252) (b := 180) rfl rfl rfl ?_
    refine w_p (pc1 := 181) rfl rfl ?_
    refine w_m0 (pc1 := 184) (st1 := .long 7237495 :: _) rfl rfl rfl rfl ?_
    refine w_p (pc1 := 185) (st1 := .int 1 :: _) rfl rfl ?_
    refine w_f (a := 252) (b := 188) rfl rfl rfl ?_
    refine w_p (pc1 := 189) rfl rfl ?_
    refine w_m0 (pc1 := 192) (st1 := .long 1853189228 :: _) rfl rfl rfl rfl ?_
    refine w_p (pc1 := 193) (st1 := .int 1 :: _) rfl rfl ?_
    refine w_f (a := 252) (b := 196) rfl rfl rfl ?_
    refine w_p (pc1 := 197) rfl rfl ?_
    refine w_m0 (pc1 := 200) (st1 := .long 7302244 :: _) rfl rfl rfl rfl ?_
    refine w_p (pc1 := 201) (st1 := .int 1 :: _) rfl rfl ?_
    refine w_f (a := 252) (b := 204) rfl rfl rfl ?_
    refine w_p (pc1 := 205) rfl rfl ?_
    refine w_m0 (pc1 := 208) (st1 := .long 28526 :: _) rfl rfl rfl rfl ?_
    refine w_p (pc1 := 209) (st1 := .int 1 :: _) rfl rfl ?_
    refine w_f (a := 252) (b := 212) rfl rfl rfl ?_
    refine w_p (pc1 := 213) rfl rfl ?_
    refine w_m0 (pc1 := 216) (st1 := .long 28530 :: _) rfl rfl rfl rfl ?_
    refine w_p (pc1 := 217) (st1 := .int 1 :: _) rfl rfl ?_
    refine w_f (a := 252) (b := 220) rfl rfl rfl ?_
    refine w_p (pc1 := 221) rfl rfl ?_
    refine w_m0 (pc1 := 224) (st1 := .long 31650994523828857 :: _) rfl rfl rfl rfl ?_
    refine w_p (pc1 := 225) (st1 := .int 0 :: _) rfl rfl ?_
    refine w_t (a := 252) (b := 228) rfl rfl rfl ?_
    refine w_p (pc1 := 253) (st1 := .int 1 :: _) rfl rfl ?_
    refine w_p (pc1 := 257) rfl rfl ?_
    refine w_p (pc1 := 259) (al1 := [(4, .int 1), (3, .int 0), (2, .int 0), (0, .long 31650994523828857)]) rfl rfl ?_
    refine w_p (pc1 := 260) rfl rfl ?_
    refine w_f (a := 344) (b := 263) rfl rfl rfl ?_
    refine w_p (pc1 := 264) rfl rfl ?_
    refine w_f (a := 344) (b := 267) rfl rfl rfl ?_
    refine w_p (pc1 := 269) rfl rfl ?_
    refine w_t (a := 344) (b := 272) rfl rfl rfl ?_
    refine w_p (pc1 := 345) (st1 := .int 1 :: _) rfl rfl ?_
    refine w_p (pc1 := 349) rfl rfl ?_
    refine w_r rfl rfl rfl (fun _ _ => rfl) rfl ?_
    exact ⟨rfl, rfl, rfl⟩
  · skip
    refine w_p (pc1 := 1) rfl rfl ?_
    refine w_m0 (pc1 := 4) (st1 := .long 418330731890 :: _) rfl rfl rfl rfl ?_
    refine w_p (pc1 := 5) (st1 := .int 1 :: _) rfl rfl ?_
    refine w_f (a := 80) (b := 8) rfl rfl rfl ?_
    refine w_p (pc1 := 9) rfl rfl ?_
    refine w_m0 (pc1 := 12) (st1 := .long 6384748 :: _) rfl rfl rfl rfl ?_
    refine w_p (pc1 := 13) (st1 := .int 1 :: _) rfl rfl ?_
    refine w_f (a := 80) (b := 16) rfl rfl rfl ?_
    refine w_p (pc1 := 17) rfl rfl ?_
    refine w_m0 (pc1 := 20) (st1 := .long 6385252 :: _) rfl rfl rfl rfl ?_
    refine w_p (pc1 := 21) (st1 := .int 1 :: _) rfl rfl ?_
    refine w_f (a := 80) (b := 24) rfl rfl rfl ?_
    refine w_p (pc1 := 25) rfl rfl ?_
    refine w_m0 (pc1 := 28) (st1 := .long 1650549611 :: _) rfl rfl rfl rfl ?_
    refine w_p (pc1 := 29) (st1 := .int 1 :: _) rfl rfl ?_
    refine w_f (a := 80) (b := 32) rfl rfl rfl ?_
    refine w_p (pc1 := 33) rfl rfl ?_
    refine w_m0 (pc1 := 36) (st1 := .long 108187649798757 :: _) rfl rfl rfl rfl ?_
    refine w_p (pc1 := 37) (st1 := .int (-1) :: _) rfl rfl ?_
    refine w_f (a := 80) (b := 40) rfl rfl rfl ?_
    refine w_p (pc1 := 41) rfl rfl ?_
    refine w_m0 (pc1 := 44) (st1 := .long 422608071022 :: _) rfl rfl rfl rfl ?_
    refine w_p (pc1 := 45) (st1 := .int 1 :: _) rfl rfl ?_
    refine w_f (a := 80) (b := 48) rfl rfl rfl ?_
    refine w_p (pc1 := 49) rfl rfl ?_
    refine w_m0 (pc1 := 52) (st1 := .long 27973170910815333 :: _) rfl rfl rfl rfl ?_
    refine w_p (pc1 := 53) (st1 := .int (-1) :: _) rfl rfl ?_
    refine w_f (a := 80) (b := 56) rfl rfl rfl ?_
    refine w_p (pc1 := 57) rfl rfl ?_
    refine w_m0 (pc1 := 60) (st1 := .long 426953237355 :: _) rfl rfl rfl rfl ?_
    refine w_p (pc1 := 61) (st1 := .int 1 :: _) rfl rfl ?_
    refine w_f (a := 80) (b := 64) rfl rfl rfl ?_
    refine w_p (pc1 := 65) rfl rfl ?_
    refine w_m0 (pc1 := 68) (st1 := .long 109330228406644 :: _) rfl rfl rfl rfl ?_
    refine w_p (pc1 := 69) (st1 := .int (-1) :: _) rfl rfl ?_
    refine w_f (a := 80) (b := 72) rfl rfl rfl ?_
    refine w_p (pc1 := 73) rfl rfl ?_
    refine w_m0 (pc1 := 76) (st1 := .long 28258988067220596 :: _) rfl rfl rfl rfl ?_
    refine w_p (pc1 := 77) (st1 := .int (-1) :: _) rfl rfl ?_
    refine w_t (a := 84) (b := 80) rfl rfl rfl ?_
    refine w_p (pc1 := 85) (st1 := .int 0 :: _) rfl rfl ?_
    refine w_p (pc1 := 86) (al1 := [(2, .int 0), (0, .long 491260572517)]) rfl rfl ?_
    refine w_p (pc1 := 87) rfl rfl ?_
    refine w_m0 (pc1 := 90) (st1 := .long 110386773062757 :: _) rfl rfl rfl rfl ?_
    refine w_p (pc1 := 91) (st1 := .int (-1) :: _) rfl rfl ?_
    refine w_f (a := 166) (b := 94) rfl rfl rfl ?_
    refine w_p (pc1 := 95) rfl rfl ?_
    refine w_m0 (pc1 := 98) (st1 := .long 25711 :: _) rfl rfl rfl rfl ?_
    refine w_p (pc1 := 99) (st1 := .int 1 :: _) rfl rfl ?_
    refine w_f (a := 166) (b := 102) rfl rfl rfl ?_
    refine w_p (pc1 := 103) rfl rfl ?_
    refine w_m0 (pc1 := 106) (st1 := .long 1685221232 :: _) rfl rfl rfl rfl ?_
    refine w_p (pc1 := 107) (st1 := .int 1 :: _) rfl rfl ?_
    refine w_f (a := 166) (b := 110) rfl rfl rfl ?_
    refine w_p (pc1 := 111) rfl rfl ?_
    refine w_m0 (pc1 := 114) (st1 := .long 115923103347316 :: _) rfl rfl rfl rfl ?_
    refine w_p (pc1 := 115) (st1 := .int (-1) :: _) rfl rfl ?_
    refine w_f (a := 166) (b := 118) rfl rfl rfl ?_
    refine w_p (pc1 := 119) rfl rfl ?_
    refine w_m0 (pc1 := 122) (st1 := .long 26995 :: _) rfl rfl rfl rfl ?_
    refine w_p (pc1 := 123) (st1 := .int 1 :: _) rfl rfl ?_
    refine w_f (a := 166) (b := 126) rfl rfl rfl ?_
    refine w_p (pc1 := 127) rfl rfl ?_
    refine w_m0 (pc1 := 130) (st1 := .long 1818326117 :: _) rfl rfl rfl rfl ?_
    refine w_p (pc1 := 131) (st1 := .int 1 :: _) rfl rfl ?_
    refine w_f (a := 166) (b := 134) rfl rfl rfl ?_
    refine w_p (pc1 := 135) rfl rfl ?_
    refine w_m0 (pc1 := 138) (st1 := .long 7103860 :: _) rfl rfl rfl rfl ?_
    refine w_p (pc1 := 139) (st1 := .int 1 :: _) rfl rfl ?_
    refine w_f (a := 166) (b := 142) rfl rfl rfl ?_
    refine w_p (pc1 := 143) rfl rfl ?_
    refine w_m0 (pc1 := 146) (st1 := .long 1835102827 :: _) rfl rfl rfl rfl ?_
    refine w_p (pc1 := 147) (st1 := .int 1 :: _) rfl rfl ?_
    refine w_f (a := 166) (b := 150) rfl rfl rfl ?_
    refine w_p (pc1 := 151) rfl rfl ?_
    refine w_m0 (pc1 := 154) (st1 := .long 1836413812 :: _) rfl rfl rfl rfl ?_
    refine w_p (pc1 := 155) (st1 := .int 1 :: _) rfl rfl ?_
    refine w_f (a := 166) (b := 158) rfl rfl rfl ?_
    refine w_p (pc1 := 159) rfl rfl ?_
    refine w_m0 (pc1 := 162) (st1 := .long 7234935 :: _) rfl rfl rfl rfl ?_
    refine w_p (pc1 := 163) (st1 := .int 1 :: _) rfl rfl ?_
    refine w_t (a := 170) (b := 166) rfl rfl rfl ?_
    refine w_p (pc1 := 171) (st1 := .int 0 :: _) rfl rfl ?_
    refine w_p (pc1 := 172) (al1 := [(3, .int 0), (2, .int 0), (0, .long 491260572517)]) rfl rfl ?_
    refine w_p (pc1 := 173) rfl rfl ?_
    refine w_m0 (pc1 := 176) (st1 := .long 7237492 :: _) rfl rfl rfl rfl ?_
    refine w_p (pc1 := 177) (st1 := .int 1 :: _) rfl rfl ?_
    refine w_f (a := 252) (b := 180) rfl rfl rfl ?_
    refine w_p (pc1 := 181) rfl rfl ?_
    refine w_m0 (pc1 := 184) (st1 := .long 7237495 :: _) rfl rfl rfl rfl ?_
    refine w_p (pc1 := 185) (st1 := .int 1 :: _) rfl rfl ?_
    refine w_f (a := 252) (b := 188) rfl rfl rfl ?_
    refine w_p (pc1 := 189) rfl rfl ?_
    refine w_m0 (pc1 := 192) (st1 := .long 1853189228 :: _) rfl rfl rfl rfl ?_
    refine w_p (pc1 := 193) (st1 := .int 1 :: _) rfl rfl ?_
    refine w_f (a := 252) (b := 196) rfl rfl rfl ?_
    refine w_p (pc1 := 197) rfl rfl ?_
    refine w_m0 (pc1 := 200) (st1 := .long 7302244 :: _) rfl rfl rfl rfl ?_
    refine w_p (pc1 := 201) (st1 := .int 1 :: _) rfl rfl ?_
    refine w_f (a := 252) (b := 204) rfl rfl rfl ?_
    refine w_p (pc1 := 205) rfl rfl ?_
    refine w_m0 (pc1 := 208) (st1 := .long 28526 :: _) rfl rfl rfl rfl ?_
    refine w_p (pc1 := 209) (st1 := .int 1 :: _) rfl rfl ?_
    refine w_f (a := 252) (b := 212) rfl rfl rfl ?_
    refine w_p (pc1 := 213) rfl rfl ?_
    refine w_m0 (pc1 := 216) (st1 := .long 28530 :: _) rfl rfl rfl rfl ?_
    refine w_p (pc1 := 217) (st1 := .int 1 :: _) rfl rfl ?_
    refine w_f (a := 252) (b := 220) rfl rfl rfl ?_
    refine w_p (pc1 := 221) rfl rfl ?_
    refine w_m0 (pc1 := 224) (st1 := .long 31650994523828857 :: _) rfl rfl rfl rfl ?_
    refine w_p (pc1 := 225) (st1 := .int (-1) :: _) rfl rfl ?_
    refine w_f (a := 252) (b := 228) rfl rfl rfl ?_
    refine w_p (pc1 := 229) rfl rfl ?_
    refine w_m0 (pc1 := 232) (st1 := .long 491260572517 :: _) rfl rfl rfl rfl ?_
    refine w_p (pc1 := 233) (st1 := .int 0 :: _) rfl rfl ?_
    refine w_t (a := 252) (b := 236) rfl rfl rfl ?_
    refine w_p (pc1 := 253) (st1 := .int 1 :: _) rfl rfl ?_
    refine w_p (pc1 := 257) rfl rfl ?_
    refine w_p (pc1 := 259) (al1 := [(4, .int 1), (3, .int 0), (2, .int 0), (0, .long 491260572517)]) rfl rfl ?_
    refine w_p (pc1 := 260) rfl rfl ?_
    refine w_f (a := 344) (b := 263) rfl rfl rfl ?_
    refine w_p (pc1 := 264) rfl rfl ?_
    refine w_f (a := 344) (b := 267) rfl rfl rfl ?_
    refine w_p (pc1 := 269) rfl rfl ?_
    refine w_t (a := 344) (b := 272) rfl rfl rfl ?_
    refine w_p (pc1 := 345) (st1 := .int 1 :: _) rfl rfl ?_
    refine w_p (pc1 := 349) rfl rfl ?_
    refine w_r rfl rfl rfl (fun _ _ => rfl) rfl ?_
    exact ⟨rfl, rfl, rfl⟩
  · skip
    refine w_p (pc1 := 1) rfl rfl ?_
    refine w_m0 (pc1 := 4) (st1 := .long 418330731890 :: _) rfl rfl rfl rfl ?_
    refine w_p (pc1 := 5) (st1 := .int 1 :: _) rfl rfl ?_
    refine w_f (a := 80) (b := 8) rfl rfl rfl ?_
    refine w_p (pc1 := 9) rfl rfl ?_
    refine w_m0 (pc1 := 12) (st1 := .long 6384748 :: _) rfl rfl rfl rfl ?_
    refine w_p (pc1 := 13) (st1 := .int 1 :: _) rfl rfl ?_
    refine w_f (a := 80) (b := 16) rfl rfl rfl ?_
    refine w_p (pc1 := 17) rfl rfl ?_
    refine w_m0 (pc1 := 20) (st1 := .long 6385252 :: _) rfl rfl rfl rfl ?_
    refine w_p (pc1 := 21) (st1 := .int 1 :: _) rfl rfl ?_
    refine w_f (a := 80) (b := 24) rfl rfl rfl ?_
    refine w_p (pc1 := 25) rfl rfl ?_
    refine w_m0 (pc1 := 28) (st1 := .long 1650549611 :: _) rfl rfl rfl rfl ?_
    refine w_p (pc1 := 29) (st1 := .int 1 :: _) rfl rfl ?_
    refine w_f (a := 80) (b := 32) rfl rfl rfl ?_
    refine w_p (pc1 := 33) rfl rfl ?_
    refine w_m0 (pc1 := 36) (st1 := .long 108187649798757 :: _) rfl rfl rfl rfl ?_
    refine w_p (pc1 := 37) (st1 := .int (-1) :: _) rfl rfl ?_
    refine w_f (a := 80) (b := 40) rfl rfl rfl ?_
    refine w_p (pc1 := 41) rfl rfl ?_
    refine w_m0 (pc1 := 44) (st1 := .long 422608071022 :: _) rfl rfl rfl rfl ?_
    refine w_p (pc1 := 45) (st1 := .int 1 :: _) rfl rfl ?_
    refine w_f (a := 80) (b := 48) rfl rfl rfl ?_
    refine w_p (pc1 := 49) rfl rfl ?_
    refine w_m0 (pc1 := 52) (st1 := .long 27973170910815333 :: _) rfl rfl rfl rfl ?_
    refine w_p (pc1 := 53) (st1 := .int (-1) :: _) rfl rfl ?_
    refine w_f (a := 80) (b := 56) rfl rfl rfl ?_
    refine w_p (pc1 := 57) rfl rfl ?_
    refine w_m0 (pc1 := 60) (st1 := .long 426953237355 :: _) rfl rfl rfl rfl ?_
    refine w_p (pc1 := 61) (st1 := .int 1 :: _) rfl rfl ?_
    refine w_f (a := 80) (b := 64) rfl rfl rfl ?_
    refine w_p (pc1 := 65) rfl rfl ?_
    refine w_m0 (pc1 := 68) (st1 := .long 109330228406644 :: _) rfl rfl rfl rfl ?_
    refine w_p (pc1 := 69) (st1 := .int (-1) :: _) rfl rfl ?_
    refine w_f (a := 80) (b := 72) rfl rfl rfl ?_
    refine w_p (pc1 := 73) rfl rfl ?_
    refine w_m0 (pc1 := 76) (st1 := .long 28258988067220596 :: _) rfl rfl rfl rfl ?_
    refine w_p (pc1 := 77) (st1 := .int (-1) :: _) rfl rfl ?_
    refine w_t (a := 84) (b := 80) rfl rfl rfl ?_
    refine w_p (pc1 := 85) (st1 := .int 0 :: _) rfl rfl ?_
    refine w_p (pc1 := 86) (al1 := [(2, .int 0), (0, .long 491327481202)]) rfl rfl ?_
    refine w_p (pc1 := 87) rfl rfl ?_
    refine w_m0 (pc1 := 90) (st1 := .long 110386773062757 :: _) rfl rfl rfl rfl ?_
    refine w_p (pc1 := 91) (st1 := .int (-1) :: _) rfl rfl ?_
    refine w_f (a := 166) (b := 94) rfl rfl rfl ?_
    refine w_p (pc1 := 95) rfl rfl ?_
    refine w_m0 (pc1 := 98) (st1 := .long 25711 :: _) rfl rfl rfl rfl ?_
    refine w_p (pc1 := 99) (st1 := .int 1 :: _) rfl rfl ?_
    refine w_f (a := 166) (b := 102) rfl rfl rfl ?_
    refine w_p (pc1 := 103) rfl rfl ?_
    refine w_m0 (pc1 := 106) (st1 := .long 1685221232 :: _) rfl rfl rfl rfl ?_
    refine w_p (pc1 := 107) (st1 := .int 1 :: _) rfl rfl ?_
    refine w_f (a := 166) (b := 110) rfl rfl rfl ?_
    refine w_p (pc1 := 111) rfl rfl ?_
    refine w_m0 (pc1 := 114) (st1 := .long 115923103347316 :: _) rfl rfl rfl rfl ?_
    refine w_p (pc1 := 115) (st1 := .int (-1) :: _) rfl rfl ?_
    refine w_f (a := 166) (b := 118) rfl rfl rfl ?_
    refine w_p (pc1 := 119) rfl rfl ?_
    refine w_m0 (pc1 := 122) (st1 := .long 26995 :: _) rfl rfl rfl rfl ?_
    refine w_p (pc1 := 123) (st1 := .int 1 :: _) rfl rfl ?_
    refine w_f (a := 166) (b := 126) rfl rfl rfl ?_
    refine w_p (pc1 := 127) rfl rfl ?_
    refine w_m0 (pc1 := 130) (st1 := .long 1818326117 :: _) rfl rfl rfl rfl ?_
    refine w_p (pc1 := 131) (st1 := .int 1 :: _) rfl rfl ?_
    refine w_f (a := 166) (b := 134) rfl rfl rfl ?_
    refine w_p (pc1 := 135) rfl rfl ?_
    refine w_m0 (pc1 := 138) (st1 := .long 7103860 :: _) rfl rfl rfl rfl ?_
    refine w_p (pc1 := 139) (st1 := .int 1 :: _) rfl rfl ?_
    refine w_f (a := 166) (b := 142) rfl rfl rfl ?_
    refine w_p (pc1 := 143) rfl rfl ?_
    refine w_m0 (pc1 := 146) (st1 := .long 1835102827 :: _) rfl rfl rfl rfl ?_
    refine w_p (pc1 := 147) (st1 := .int 1 :: _) rfl rfl ?_
    refine w_f (a := 166) (b := 150) rfl rfl rfl ?_
    refine w_p (pc1 := 151) rfl rfl ?_
    refine w_m0 (pc1 := 154) (st1 := .long 1836413812 :: _) rfl rfl rfl rfl ?_
    refine w_p (pc1 := 155) (st1 := .int 1 :: _) rfl rfl ?_
    refine w_f (a := 166) (b := 158) rfl rfl rfl ?_
    refine w_p (pc1 := 159) rfl rfl ?_
    refine w_m0 (pc1 := 162) (st1 := .long 7234935 :: _) rfl rfl rfl rfl ?_
    refine w_p (pc1 := 163) (st1 := .int 1 :: _) rfl rfl ?_
    refine w_t (a := 170) (b := 166) rfl rfl rfl ?_
    refine w_p (pc1 := 171) (st1 := .int 0 :: _) rfl rfl ?_
    refine w_p (pc1 := 172) (al1 := [(3, .int 0), (2, .int 0), (0, .long 491327481202)]) rfl rfl ?_
    refine w_p (pc1 := 173) rfl rfl ?_
    refine w_m0 (pc1 := 176) (st1 := .long 7237492 :: _) rfl rfl rfl rfl ?_
    refine w_p (pc1 := 177) (st1 := .int 1 :: _) rfl rfl ?_
    refine w_f (a := 252) (b := 180) rfl rfl rfl ?_
    refine w_p (pc1 := 181) rfl rfl ?_
    refine w_m0 (pc1 := 184) (st1 := .long 7237495 :: _) rfl rfl rfl rfl ?_
    refine w_p (pc1 := 185) (st1 := .int 1 :: _) rfl rfl ?_
    refine w_f (a := 252) (b := 188) rfl rfl rfl ?_
    refine w_p (pc1 := 189) rfl rfl ?_
    refine w_m0 (pc1 := 192) (st1 := .long 1853189228 :: _) rfl rfl rfl rfl ?_
    refine w_p (pc1 := 193) (st1 := .int 1 :: _) rfl rfl ?_
    refine w_f (a := 252) (b := 196) rfl rfl rfl ?_
    refine w_p (pc1 := 197) rfl rfl ?_
    refine w_m0 (pc1 := 200) (st1 := .long 7302244 :: _) rfl rfl rfl rfl ?_
    refine w_p (pc1 := 201) (st1 := .int 1 :: _) rfl rfl ?_
    refine w_f (a := 252) (b := 204) rfl rfl rfl ?_
    refine w_p (pc1 := 205) rfl rfl ?_
    refine w_m0 (pc1 := 208) (st1 := .long 28526 :: _) rfl rfl rfl rfl ?_
    refine w_p (pc1 := 209) (st1 := .int 1 :: _) rfl rfl ?_
    refine w_f (a := 252) (b := 212) rfl rfl rfl ?_
    refine w_p (pc1 := 213) rfl rfl ?_
    refine w_m0 (pc1 := 216) (st1 := .long 28530 :: _) rfl rfl rfl rfl ?_
    refine w_p (pc1 := 217) (st1 := .int 1 :: _) rfl rfl ?_
    refine w_f (a := 252) (b := 220) rfl rfl rfl ?_
    refine w_p (pc1 := 221) rfl rfl ?_
    refine w_m0 (pc1 := 224) (st1 := .long 31650994523828857 :: _) rfl rfl rfl rfl ?_
    refine w_p (pc1 := 225) (st1 := .int (-1) :: _) rfl rfl ?_
    refine w_f (a := 252) (b := 228) rfl rfl rfl ?_
    refine w_p (pc1 := 229) rfl rfl ?_
    refine w_m0 (pc1 := 232) (st1 := .long 491260572517 :: _) rfl rfl rfl rfl ?_
    refine w_p (pc1 := 233) (st1 := .int 1 :: _) rfl rfl ?_
    refine w_f (a := 252) (b := 236) rfl rfl rfl ?_
    refine w_p (pc1 := 237) rfl rfl ?_
    refine w_m0 (pc1 := 240) (st1 := .long 491327481202 :: _) rfl rfl rfl rfl ?_
    refine w_p (pc1 := 241) (st1 := .int 0 :: _) rfl rfl ?_
    refine w_t (a := 252) (b := 244) rfl rfl rfl ?_
    refine w_p (pc1 := 253) (st1 := .int 1 :: _) rfl rfl ?_
    refine w_p (pc1 := 257) rfl rfl ?_
    refine w_p (pc1 := 259) (al1 := [(4, .int 1), (3, .int 0), (2, .int 0), (0, .long 491327481202)]) rfl rfl ?_
    refine w_p (pc1 := 260) rfl rfl ?_
    refine w_f (a := 344) (b := 263) rfl rfl rfl ?_
    refine w_p (pc1 := 264) rfl rfl ?_
    refine w_f (a := 344) (b := 267) rfl rfl rfl ?_
    refine w_p (pc1 := 269) rfl rfl ?_
    refine w_t (a := 344) (b := 272) rfl rfl rfl ?_
    refine w_p (pc1 := 345) (st1 := .int 1 :: _) rfl rfl ?_
    refine w_p (pc1 := 349) rfl rfl ?_
    refine w_r rfl rfl rfl (fun _ _ => rfl) rfl ?_
    exact ⟨rfl, rfl, rfl⟩
  · skip
    refine w_p (pc1 := 1) rfl rfl ?_
    refine w_m0 (pc1 := 4) (st1 := .long 418330731890 :: _) rfl rfl rfl rfl ?_
    refine w_p (pc1 := 5) (st1 := .int (-1) :: _) rfl rfl ?_
    refine w_f (a := 80) (b := 8) rfl rfl rfl ?_
    refine w_p (pc1 := 9) rfl rfl ?_
    refine w_m0 (pc1 := 12) (st1 := .long 6384748 :: _) rfl rfl rfl rfl ?_
    refine w_p (pc1 := 13) (st1 := .int 1 :: _) rfl rfl ?_
    refine w_f (a := 80) (b := 16) rfl rfl rfl ?_
    refine w_p (pc1 := 17) rfl rfl ?_
    refine w_m0 (pc1 := 20) (st1 := .long 6385252 :: _) rfl rfl rfl rfl ?_
    refine w_p (pc1 := 21) (st1 := .int 1 :: _) rfl rfl ?_
    refine w_f (a := 80) (b := 24) rfl rfl rfl ?_
    refine w_p (pc1 := 25) rfl rfl ?_
    refine w_m0 (pc1 := 28) (st1 := .long 1650549611 :: _) rfl rfl rfl rfl ?_
    refine w_p (pc1 := 29) (st1 := .int (-1) :: _) rfl rfl ?_
    refine w_f (a := 80) (b := 32) rfl rfl rfl ?_
    refine w_p (pc1 := 33) rfl rfl ?_
    refine w_m0 (pc1 := 36) (st1 := .long 108187649798757 :: _) rfl rfl rfl rfl ?_
    refine w_p (pc1 := 37) (st1 := .int (-1) :: _) rfl rfl ?_
    refine w_f (a := 80) (b := 40) rfl rfl rfl ?_
    refine w_p (pc1 := 41) rfl rfl ?_
    refine w_m0 (pc1 := 44) (st1 := .long 422608071022 :: _) rfl rfl rfl rfl ?_
    refine w_p (pc1 := 45) (st1 := .int (-1) :: _) rfl rfl ?_
    refine w_f (a := 80) (b := 48) rfl rfl rfl ?_
    refine w_p (pc1 := 49) rfl rfl ?_
    refine w_m0 (pc1 := 52) (st1 := .long 27973170910815333 :: _) rfl rfl rfl rfl ?_
    refine w_p (pc1 := 53) (st1 := .int (-1) :: _) rfl rfl ?_
    refine w_f (a := 80) (b := 56) rfl rfl rfl ?_
    refine w_p (pc1 := 57) rfl rfl ?_
    refine w_m0 (pc1 := 60) (st1 := .long 426953237355 :: _) rfl rfl rfl rfl ?_
    refine w_p (pc1 := 61) (st1 := .int (-1) :: _) rfl rfl ?_
    refine w_f (a := 80) (b := 64) rfl rfl rfl ?_
    refine w_p (pc1 := 65) rfl rfl ?_
    refine w_m0 (pc1 := 68) (st1 := .long 109330228406644 :: _) rfl rfl rfl rfl ?_
    refine w_p (pc1 := 69) (st1 := .int (-1) :: _) rfl rfl ?_
    refine w_f (a := 80) (b := 72) rfl rfl rfl ?_
    refine w_p (pc1 := 73) rfl rfl ?_
    refine w_m0 (pc1 := 76) (st1 := .long 28258988067220596 :: _) rfl rfl rfl rfl ?_
    refine w_p (pc1 := 77) (st1 := .int (-1) :: _) rfl rfl ?_
    refine w_t (a := 84) (b := 80) rfl rfl rfl ?_
    refine w_p (pc1 := 85) (st1 := .int 0 :: _) rfl rfl ?_
    refine w_p (pc1 := 86) (al1 := [(2, .int 0), (0, .long 7562612)]) rfl rfl ?_
    refine w_p (pc1 := 87) rfl rfl ?_
    refine w_m0 (pc1 := 90) (st1 := .long 110386773062757 :: _) rfl rfl rfl rfl ?_
    refine w_p (pc1 := 91) (st1 := .int (-1) :: _) rfl rfl ?_
    refine w_f (a := 166) (b := 94) rfl rfl rfl ?_
    refine w_p (pc1 := 95) rfl rfl ?_
    refine w_m0 (pc1 := 98) (st1 := .long 25711 :: _) rfl rfl rfl rfl ?_
    refine w_p (pc1 := 99) (st1 := .int 1 :: _) rfl rfl ?_
    refine w_f (a := 166) (b := 102) rfl rfl rfl ?_
    refine w_p (pc1 := 103) rfl rfl ?_
    refine w_m0 (pc1 := 106) (st1 := .long 1685221232 :: _) rfl rfl rfl rfl ?_
    refine w_p (pc1 := 107) (st1 := .int (-1) :: _) rfl rfl ?_
    refine w_f (a := 166) (b := 110) rfl rfl rfl ?_
    refine w_p (pc1 := 111) rfl rfl ?_
    refine w_m0 (pc1 := 114) (st1 := .long 115923103347316 :: _) rfl rfl rfl rfl ?_
    refine w_p (pc1 := 115) (st1 := .int (-1) :: _) rfl rfl ?_
    refine w_f (a := 166) (b := 118) rfl rfl rfl ?_
    refine w_p (pc1 := 119) rfl rfl ?_
    refine w_m0 (pc1 := 122) (st1 := .long 26995 :: _) rfl rfl rfl rfl ?_
    refine w_p (pc1 := 123) (st1 := .int 1 :: _) rfl rfl ?_
    refine w_f (a := 166) (b := 126) rfl rfl rfl ?_
    refine w_p (pc1 := 127) rfl rfl ?_
    refine w_m0 (pc1 := 130) (st1 := .long 1818326117 :: _) rfl rfl rfl rfl ?_
    refine w_p (pc1 := 131) (st1 := .int (-1) :: _) rfl rfl ?_
    refine w_f (a := 166) (b := 134) rfl rfl rfl ?_
    refine w_p (pc1 := 135) rfl rfl ?_
    refine w_m0 (pc1 := 138) (st1 := .long 7103860 :: _) rfl rfl rfl rfl ?_
    refine w_p (pc1 := 139) (st1 := .int 1 :: _) rfl rfl ?_
    refine w_f (a := 166) (b := 142) rfl rfl rfl ?_
    refine w_p (pc1 := 143) rfl rfl ?_
    refine w_m0 (pc1 := 146) (st1 := .long 1835102827 :: _) rfl rfl rfl rfl ?_
    refine w_p (pc1 := 147) (st1 := .int (-1) :: _) rfl rfl ?_
    refine w_f (a := 166) (b := 150) rfl rfl rfl ?_
    refine w_p (pc1 := 151) rfl rfl ?_
    refine w_m0 (pc1 := 154) (st1 := .long 1836413812 :: _) rfl rfl rfl rfl ?_
    refine w_p (pc1 := 155) (st1 := .int (-1) :: _) rfl rfl ?_
    refine w_f (a := 166) (b := 158) rfl rfl rfl ?_
    refine w_p (pc1 := 159) rfl rfl ?_
    refine w_m0 (pc1 := 162) (st1 := .long 7234935 :: _) rfl rfl rfl rfl ?_
    refine w_p (pc1 := 163) (st1 := .int 1 :: _) rfl rfl ?_
    refine w_t (a := 170) (b := 166) rfl rfl rfl ?_
    refine w_p (pc1 := 171) (st1 := .int 0 :: _) rfl rfl ?_
    refine w_p (pc1 := 172) (al1 := [(3, .int 0), (2, .int 0), (0, .long 7562612)]) rfl rfl ?_
    refine w_p (pc1 := 173) rfl rfl ?_
    refine w_m0 (pc1 := 176) (st1 := .long 7237492 :: _) rfl rfl rfl rfl ?_
    refine w_p (pc1 := 177) (st1 := .int 1 :: _) rfl rfl ?_
    refine w_f (a := 252) (b := 180) rfl rfl rfl ?_
    refine w_p (pc1 := 181) rfl rfl ?_
    refine w_m0 (pc1 := 184) (st1 := .long 7237495 :: _) rfl rfl rfl rfl ?_
    refine w_p (pc1 := 185) (st1 := .int 1 :: _) rfl rfl ?_
    refine w_f (a := 252) (b := 188) rfl rfl rfl ?_
    refine w_p (pc1 := 189) rfl rfl ?_
    refine w_m0 (pc1 := 192) (st1 := .long 1853189228 :: _) rfl rfl rfl rfl ?_
    refine w_p (pc1 := 193) (st1 := .int (-1) :: _) rfl rfl ?_
    refine w_f (a := 252) (b := 196) rfl rfl rfl ?_
    refine w_p (pc1 := 197) rfl rfl ?_
    refine w_m0 (pc1 := 200) (st1 := .long 7302244 :: _) rfl rfl rfl rfl ?_
    refine w_p (pc1 := 201) (st1 := .int 1 :: _) rfl rfl ?_
    refine w_f (a := 252) (b := 204) rfl rfl rfl ?_
    refine w_p (pc1 := 205) rfl rfl ?_
    refine w_m0 (pc1 := 208) (st1 := .long 28526 :: _) rfl rfl rfl rfl ?_
    refine w_p (pc1 := 209) (st1 := .int 1 :: _) rfl rfl ?_
    refine w_f (a := 252) (b := 212) rfl rfl rfl ?_
    refine w_p (pc1 := 213) rfl rfl ?_
    refine w_m0 (pc1 := 216) (st1 := .long 28530 :: _) rfl rfl rfl rfl ?_
    refine w_p (pc1 := 217) (st1 := .int 1 :: _) rfl rfl ?_
    refine w_f (a := 252) (b := 220) rfl rfl rfl ?_
    refine w_p (pc1 := 221) rfl rfl ?_
    refine w_m0 (pc1 := 224) (st1 := .long 31650994523828857 :: _) rfl rfl rfl rfl ?_
    refine w_p (pc1 := 225) (st1 := .int (-1) :: _) rfl rfl ?_
    refine w_f (a := 252) (b := 228) rfl rfl rfl ?_
    refine w_p (pc1 := 229) rfl rfl ?_
    refine w_m0 (pc1 := 232) (st1 := .long 491260572517 :: _) rfl rfl rfl rfl ?_
    refine w_p (pc1 := 233) (st1 := .int (-1) :: _) rfl rfl ?_
    refine w_f (a := 252) (b := 236) rfl rfl rfl ?_
    refine w_p (pc1 := 237) rfl rfl ?_
    refine w_m0 (pc1 := 240) (st1 := .long 491327481202 :: _) rfl rfl rfl rfl ?_
    refine w_p (pc1 := 241) (st1 := .int (-1) :: _) rfl rfl ?_
    refine w_f (a := 252) (b := 244) rfl rfl rfl ?_
    refine w_p (pc1 := 245) rfl rfl ?_
    refine w_m0 (pc1 := 248) (st1 := .long 7562612 :: _) rfl rfl rfl rfl ?_
    refine w_p (pc1 := 249) (st1 := .int 0 :: _) rfl rfl ?_
    refine w_f (a := 256) (b := 252) rfl rfl rfl ?_
    refine w_p (pc1 := 253) (st1 := .int 1 :: _) rfl rfl ?_
    refine w_p (pc1 := 257) rfl rfl ?_
    refine w_p (pc1 := 259) (al1 := [(4, .int 1), (3, .int 0), (2, .int 0), (0, .long 7562612)]) rfl rfl ?_
    refine w_p (pc1 := 260) rfl rfl ?_
    refine w_f (a := 344) (b := 263) rfl rfl rfl ?_
    refine w_p (pc1 := 264) rfl rfl ?_
    refine w_f (a := 344) (b := 267) rfl rfl rfl ?_
    refine w_p (pc1 := 269) rfl rfl ?_
    refine w_t (a := 344) (b := 272) rfl rfl rfl ?_
    refine w_p (pc1 := 345) (st1 := .int 1 :: _) rfl rfl ?_
    refine w_p (pc1 := 349) rfl rfl ?_
    refine w_r rfl rfl rfl (fun _ _ => rfl) rfl ?_
    exact ⟨rfl, rfl, rfl⟩
  · skip
    refine w_p (pc1 := 1) rfl rfl ?_
    refine w_m0 (pc1 := 4) (st1 := .long 418330731890 :: _) rfl rfl rfl rfl ?_
    refine w_p (pc1 := 5) (st1 := .int (-1) :: _) rfl rfl ?_
    refine w_f (a := 80) (b := 8) rfl rfl rfl ?_
    refine w_p (pc1 := 9) rfl rfl ?_
    refine w_m0 (pc1 := 12) (st1 := .long 6384748 :: _) rfl rfl rfl rfl ?_
    refine w_p (pc1 := 13) (st1 := .int 1 :: _) rfl rfl ?_
    refine w_f (a := 80) (b := 16) rfl rfl rfl ?_
    refine w_p (pc1 := 17) rfl rfl ?_
    refine w_m0 (pc1 := 20) (st1 := .long 6385252 :: _) rfl rfl rfl rfl ?_
    refine w_p (pc1 := 21) (st1 := .int 1 :: _) rfl rfl ?_
    refine w_f (a := 80) (b := 24) rfl rfl rfl ?_
    refine w_p (pc1 := 25) rfl rfl ?_
    refine w_m0 (pc1 := 28) (st1 := .long 1650549611 :: _) rfl rfl rfl rfl ?_
    refine w_p (pc1 := 29) (st1 := .int 1 :: _) rfl rfl ?_
    refine w_f (a := 80) (b := 32) rfl rfl rfl ?_
    refine w_p (pc1 := 33) rfl rfl ?_
    refine w_m0 (pc1 := 36) (st1 := .long 108187649798757 :: _) rfl rfl rfl rfl ?_
    refine w_p (pc1 := 37) (st1 := .int (-1) :: _) rfl rfl ?_
    refine w_f (a := 80) (b := 40) rfl rfl rfl ?_
    refine w_p (pc1 := 41) rfl rfl ?_
    refine w_m0 (pc1 := 44) (st1 := .long 422608071022 :: _) rfl rfl rfl rfl ?_
    refine w_p (pc1 := 45) (st1 := .int (-1) :: _) rfl rfl ?_
    refine w_f (a := 80) (b := 48) rfl rfl rfl ?_
    refine w_p (pc1 := 49) rfl rfl ?_
    refine w_m0 (pc1 := 52) (st1 := .long 27973170910815333 :: _) rfl rfl rfl rfl ?_
    refine w_p (pc1 := 53) (st1 := .int (-1) :: _) rfl rfl ?_
    refine w_f (a := 80) (b := 56) rfl rfl rfl ?_
    refine w_p (pc1 := 57) rfl rfl ?_
    refine w_m0 (pc1 := 60) (st1 := .long 426953237355 :: _) rfl rfl rfl rfl ?_
    refine w_p (pc1 := 61) (st1 := .int (-1) :: _) rfl rfl ?_
    refine w_f (a := 80) (b := 64) rfl rfl rfl ?_
    refine w_p (pc1 := 65) rfl rfl ?_
    refine w_m0 (pc1 := 68) (st1 := .long 109330228406644 :: _) rfl rfl rfl rfl ?_
    refine w_p (pc1 := 69) (st1 := .int (-1) :: _) rfl rfl ?_
    refine w_f (a := 80) (b := 72) rfl rfl rfl ?_
    refine w_p (pc1 := 73) rfl rfl ?_
    refine w_m0 (pc1 := 76) (st1 := .long 28258988067220596 :: _) rfl rfl rfl rfl ?_
    refine w_p (pc1 := 77) (st1 := .int (-1) :: _) rfl rfl ?_
    refine w_t (a := 84) (b := 80) rfl rfl rfl ?_
    refine w_p (pc1 := 85) (st1 := .int 0 :: _) rfl rfl ?_
    refine w_p (pc1 := 86) (al1 := [(2, .int 0), (0, .long 1936682341)]) rfl rfl ?_
    refine w_p (pc1 := 87) rfl rfl ?_
    refine w_m0 (pc1 := 90) (st1 := .long 110386773062757 :: _) rfl rfl rfl rfl ?_
    refine w_p (pc1 := 91) (st1 := .int (-1) :: _) rfl rfl ?_
    refine w_f (a := 166) (b := 94) rfl rfl rfl ?_
    refine w_p (pc1 := 95) rfl rfl ?_
    refine w_m0 (pc1 := 98) (st1 := .long 25711 :: _) rfl rfl rfl rfl ?_
    refine w_p (pc1 := 99) (st1 := .int 1 :: _) rfl rfl ?_
    refine w_f (a := 166) (b := 102) rfl rfl rfl ?_
    refine w_p (pc1 := 103) rfl rfl ?_
    refine w_m0 (pc1 := 106) (st1 := .long 1685221232 :: _) rfl rfl rfl rfl ?_
    refine w_p (pc1 := 107) (st1 := .int 1 :: _) rfl rfl ?_
    refine w_f (a := 166) (b := 110) rfl rfl rfl ?_
    refine w_p (pc1 := 111) rfl rfl ?_
    refine w_m0 (pc1 := 114) (st1 := .long 115923103347316 :: _) rfl rfl rfl rfl ?_
    refine w_p (pc1 := 115) (st1 := .int (-1) :: _) rfl rfl ?_
    refine w_f (a := 166) (b := 118) rfl rfl rfl ?_
    refine w_p (pc1 := 119) rfl rfl ?_
    refine w_m0 (pc1 := 122) (st1 := .long 26995 :: _) rfl rfl rfl rfl ?_
    refine w_p (pc1 := 123) (st1 := .int 1 :: _) rfl rfl ?_
    refine w_f (a := 166) (b := 126) rfl rfl rfl ?_
    refine w_p (pc1 := 127) rfl rfl ?_
    refine w_m0 (pc1 := 130) (st1 := .long 1818326117 :: _) rfl rfl rfl rfl ?_
    refine w_p (pc1 := 131) (st1 := .int 1 :: _) rfl rfl ?_
    refine w_f (a := 166) (b := 134) rfl rfl rfl ?_
    refine w_p (pc1 := 135) rfl rfl ?_
    refine w_m0 (pc1 := 138) (st1 := .long 7103860 :: _) rfl rfl rfl rfl ?_
    refine w_p (pc1 := 139) (st1 := .int 1 :: _) rfl rfl ?_
    refine w_f (a := 166) (b := 142) rfl rfl rfl ?_
    refine w_p (pc1 := 143) rfl rfl ?_
    refine w_m0 (pc1 := 146) (st1 := .long 1835102827 :: _) rfl rfl rfl rfl ?_
    refine w_p (pc1 := 147) (st1 := .int 1 :: _) rfl rfl ?_
    refine w_f (a := 166) (b := 150) rfl rfl rfl ?_
    refine w_p (pc1 := 151) rfl rfl ?_
    refine w_m0 (pc1 := 154) (st1 := .long 1836413812 :: _) rfl rfl rfl rfl ?_
    refine w_p (pc1 := 155) (st1 := .int 1 :: _) rfl rfl ?_
    refine w_f (a := 166) (b := 158) rfl rfl rfl ?_
    refine w_p (pc1 := 159) rfl rfl ?_
    refine w_m0 (pc1 := 162) (st1 := .long 7234935 :: _) rfl rfl rfl rfl ?_
    refine w_p (pc1 := 163) (st1 := .int 1 :: _) rfl rfl ?_
    refine w_t (a := 170) (b := 166) rfl rfl rfl ?_
    refine w_p (pc1 := 171) (st1 := .int 0 :: _) rfl rfl ?_
    refine w_p (pc1 := 172) (al1 := [(3, .int 0), (2, .int 0), (0, .long 1936682341)]) rfl rfl ?_
    refine w_p (pc1 := 173) rfl rfl ?_
    refine w_m0 (pc1 := 176) (st1 := .long 7237492 :: _) rfl rfl rfl rfl ?_
    refine w_p (pc1 := 177) (st1 := .int 1 :: _) rfl rfl ?_
    refine w_f (a := 252) (b := 180) rfl rfl rfl ?_
    refine w_p (pc1 := 181) rfl rfl ?_
    refine w_m0 (pc1 := 184) (st1 := .long 7237495 :: _) rfl rfl rfl rfl ?_
    refine w_p (pc1 := 185) (st1 := .int 1 :: _) rfl rfl ?_
    refine w_f (a := 252) (b := 188) rfl rfl rfl ?_
    refine w_p (pc1 := 189) rfl rfl ?_
    refine w_m0 (pc1 := 192) (st1 := .long 1853189228 :: _) rfl rfl rfl rfl ?_
    refine w_p (pc1 := 193) (st1 := .int 1 :: _) rfl rfl ?_
    refine w_f (a := 252) (b := 196) rfl rfl rfl ?_
    refine w_p (pc1 := 197) rfl rfl ?_
    refine w_m0 (pc1 := 200) (st1 := .long 7302244 :: _) rfl rfl rfl rfl ?_
    refine w_p (pc1 := 201) (st1 := .int 1 :: _) rfl rfl ?_
    refine w_f (a := 252) (b := 204) rfl rfl rfl ?_
    refine w_p (pc1 := 205) rfl rfl ?_
    refine w_m0 (pc1 := 208) (st1 := .long 28526 :: _) rfl rfl rfl rfl ?_
    refine w_p (pc1 := 209) (st1 := .int 1 :: _) rfl rfl ?_
    refine w_f (a := 252) (b := 212) rfl rfl rfl ?_
    refine w_p (pc1 := 213) rfl rfl ?_
    refine w_m0 (pc1 := 216) (st1 := .long 28530 :: _) rfl rfl rfl rfl ?_
    refine w_p (pc1 := 217) (st1 := .int 1 :: _) rfl rfl ?_
    refine w_f (a := 252) (b := 220) rfl rfl rfl ?_
    refine w_p (pc1 := 221) rfl rfl ?_
    refine w_m0 (pc1 := 224) (st1 := .long 31650994523828857 :: _) rfl rfl rfl rfl ?_
    refine w_p (pc1 := 225) (st1 := .int (-1) :: _) rfl rfl ?_
    refine w_f (a := 252) (b := 228) rfl rfl rfl ?_
    refine w_p (pc1 := 229) rfl rfl ?_
    refine w_m0 (pc1 := 232) (st1 := .long 491260572517 :: _) rfl rfl rfl rfl ?_
    refine w_p (pc1 := 233) (st1 := .int (-1) :: _) rfl rfl ?_
    refine w_f (a := 252) (b := 236) rfl rfl rfl ?_
    refine w_p (pc1 := 237) rfl rfl ?_
    refine w_m0 (pc1 := 240) (st1 := .long 491327481202 :: _) rfl rfl rfl rfl ?_
    refine w_p (pc1 := 241) (st1 := .int (-1) :: _) rfl rfl ?_
    refine w_f (a := 252) (b := 244) rfl rfl rfl ?_
    refine w_p (pc1 := 245) rfl rfl ?_
    refine w_m0 (pc1 := 248) (st1 := .long 7562612 :: _) rfl rfl rfl rfl ?_
    refine w_p (pc1 := 249) (st1 := .int 1 :: _) rfl rfl ?_
    refine w_t (a := 256) (b := 252) rfl rfl rfl ?_
    refine w_p (pc1 := 257) (st1 := .int 0 :: _) rfl rfl ?_
    refine w_p (pc1 := 259) (al1 := [(4, .int 0), (3, .int 0), (2, .int 0), (0, .long 1936682341)]) rfl rfl ?_
    refine w_p (pc1 := 260) rfl rfl ?_
    refine w_f (a := 344) (b := 263) rfl rfl rfl ?_
    refine w_p (pc1 := 264) rfl rfl ?_
    refine w_f (a := 344) (b := 267) rfl rfl rfl ?_
    refine w_p (pc1 := 269) rfl rfl ?_
    refine w_f (a := 344) (b := 272) rfl rfl rfl ?_
    refine w_p (pc1 := 273) rfl rfl ?_
    refine w_m0 (pc1 := 276) (st1 := .long 1936682341 :: _) rfl rfl rfl rfl ?_
    refine w_p (pc1 := 277) (st1 := .int 0 :: _) rfl rfl ?_
    refine w_t (a := 344) (b := 280) rfl rfl rfl ?_
    refine w_p (pc1 := 345) (st1 := .int 1 :: _) rfl rfl ?_
    refine w_p (pc1 := 349) rfl rfl ?_
    refine w_r rfl rfl rfl (fun _ _ => rfl) rfl ?_
    exact ⟨rfl, rfl, rfl⟩
  · skip
    refine w_p (pc1 := 1) rfl rfl ?_
    refine w_m0 (pc1 := 4) (st1 := .long 418330731890 :: _) rfl rfl rfl rfl ?_
    refine w_p (pc1 := 5) (st1 := .int (-1) :: _) rfl rfl ?_
    refine w_f (a := 80) (b := 8) rfl rfl rfl ?_
    refine w_p (pc1 := 9) rfl rfl ?_
    refine w_m0 (pc1 := 12) (st1 := .long 6384748 :: _) rfl rfl rfl rfl ?_
    refine w_p (pc1 := 13) (st1 := .int 1 :: _) rfl rfl ?_
    refine w_f (a := 80) (b := 16) rfl rfl rfl ?_
    refine w_p (pc1 := 17) rfl rfl ?_
    refine w_m0 (pc1 := 20) (st1 := .long 6385252 :: _) rfl rfl rfl rfl ?_
    refine w_p (pc1 := 21) (st1 := .int 1 :: _) rfl rfl ?_
    refine w_f (a := 80) (b := 24) rfl rfl rfl ?_
    refine w_p (pc1 := 25) rfl rfl ?_
    refine w_m0 (pc1 := 28) (st1 := .long 1650549611 :: _) rfl rfl rfl rfl ?_
    refine w_p (pc1 := 29) (st1 := .int 1 :: _) rfl rfl ?_
    refine w_f (a := 80) (b := 32) rfl rfl rfl ?_
    refine w_p (pc1 := 33) rfl rfl ?_
    refine w_m0 (pc1 := 36) (st1 := .long 108187649798757 :: _) rfl rfl rfl rfl ?_
    refine w_p (pc1 := 37) (st1 := .int (-1) :: _) rfl rfl ?_
    refine w_f (a := 80) (b := 40) rfl rfl rfl ?_
    refine w_p (pc1 := 41) rfl rfl ?_
    refine w_m0 (pc1 := 44) (st1 := .long 422608071022 :: _) rfl rfl rfl rfl ?_
    refine w_p (pc1 := 45) (st1 := .int (-1) :: _) rfl rfl ?_
    refine w_f (a := 80) (b := 48) rfl rfl rfl ?_
    refine w_p (pc1 := 49) rfl rfl ?_
    refine w_m0 (pc1 := 52) (st1 := .long 27973170910815333 :: _) rfl rfl rfl rfl ?_
    refine w_p (pc1 := 53) (st1 := .int (-1) :: _) rfl rfl ?_
    refine w_f (a := 80) (b := 56) rfl rfl rfl ?_
    refine w_p (pc1 := 57) rfl rfl ?_
    refine w_m0 (pc1 := 60) (st1 := .long 426953237355 :: _) rfl rfl rfl rfl ?_
    refine w_p (pc1 := 61) (st1 := .int (-1) :: _) rfl rfl ?_
    refine w_f (a := 80) (b := 64) rfl rfl rfl ?_
    refine w_p (pc1 := 65) rfl rfl ?_
    refine w_m0 (pc1 := 68) (st1 := .long 109330228406644 :: _) rfl rfl rfl rfl ?_
    refine w_p (pc1 := 69) (st1 := .int (-1) :: _) rfl rfl ?_
    refine w_f (a := 80) (b := 72) rfl rfl rfl ?_
    refine w_p (pc1 := 73) rfl rfl ?_
    refine w_m0 (pc1 := 76) (st1 := .long 28258988067220596 :: _) rfl rfl rfl rfl ?_
    refine w_p (pc1 := 77) (st1 := .int (-1) :: _) rfl rfl ?_
    refine w_t (a := 84) (b := 80) rfl rfl rfl ?_
    refine w_p (pc1 := 85) (st1 := .int 0 :: _) rfl rfl ?_
    refine w_p (pc1 := 86) (al1 := [(2, .int 0), (0, .long 1937010544)]) rfl rfl ?_
    refine w_p (pc1 := 87) rfl rfl ?_
    refine w_m0 (pc1 := 90) (st1 := .long 110386773062757 :: _) rfl rfl rfl rfl ?_
    refine w_p (pc1 := 91) (st1 := .int (-1) :: _) rfl rfl ?_
    refine w_f (a := 166) (b := 94) rfl rfl rfl ?_
    refine w_p (pc1 := 95) rfl rfl ?_
    refine w_m0 (pc1 := 98) (st1 := .long 25711 :: _) rfl rfl rfl rfl ?_
    refine w_p (pc1 := 99) (st1 := .int 1 :: _) rfl rfl ?_
    refine w_f (a := 166) (b := 102) rfl rfl rfl ?_
    refine w_p (pc1 := 103) rfl rfl ?_
    refine w_m0 (pc1 := 106) (st1 := .long 1685221232 :: _) rfl rfl rfl rfl ?_
    refine w_p (pc1 := 107) (st1 := .int 1 :: _) rfl rfl ?_
    refine w_f (a := 166) (b := 110) rfl rfl rfl ?_
    refine w_p (pc1 := 111) rfl rfl ?_
    refine w_m0 (pc1 := 114) (st1 := .long 115923103347316 :: _) rfl rfl rfl rfl ?_
    refine w_p (pc1 := 115) (st1 := .int (-1) :: _) rfl rfl ?_
    refine w_f (a := 166) (b := 118) rfl rfl rfl ?_
    refine w_p (pc1 := 119) rfl rfl ?_
    refine w_m0 (pc1 := 122) (st1 := .long 26995 :: _) rfl rfl rfl rfl ?_
    refine w_p (pc1 := 123) (st1 := .int 1 :: _) rfl rfl ?_
    refine w_f (a := 166) (b := 126) rfl rfl rfl ?_
    refine w_p (pc1 := 127) rfl rfl ?_
    refine w_m0 (pc1 := 130) (st1 := .long 1818326117 :: _) rfl rfl rfl rfl ?_
    refine w_p (pc1 := 131) (st1 := .int 1 :: _) rfl rfl ?_
    refine w_f (a := 166) (b := 134) rfl rfl rfl ?_
    refine w_p (pc1 := 135) rfl rfl ?_
    refine w_m0 (pc1 := 138) (st1 := .long 7103860 :: _) rfl rfl rfl rfl ?_
    refine w_p (pc1 := 139) (st1 := .int 1 :: _) rfl rfl ?_
    refine w_f (a := 166) (b := 142) rfl rfl rfl ?_
    refine w_p (pc1 := 143) rfl rfl ?_
    refine w_m0 (pc1 := 146) (st1 := .long 1835102827 :: _) rfl rfl rfl rfl ?_
    refine w_p (pc1 := 147) (st1 := .int 1 :: _) rfl rfl ?_
    refine w_f (a := 166) (b := 150) rfl rfl rfl ?_
    refine w_p (pc1 := 151) rfl rfl ?_
    refine w_m0 (pc1 := 154) (st1 := .long 1836413812 :: _) rfl rfl rfl rfl ?_
    refine w_p (pc1 := 155) (st1 := .int 1 :: _) rfl rfl ?_
    refine w_f (a := 166) (b := 158) rfl rfl rfl ?_
    refine w_p (pc1 := 159) rfl rfl ?_
    refine w_m0 (pc1 := 162) (st1 := .long 7234935 :: _) rfl rfl rfl rfl ?_
    refine w_p (pc1 := 163) (st1 := .int 1 :: _) rfl rfl ?_
    refine w_t (a := 170) (b := 166) rfl rfl rfl ?_
    refine w_p (pc1 := 171) (st1 := .int 0 :: _) rfl rfl ?_
    refine w_p (pc1 := 172) (al1 := [(3, .int 0), (2, .int 0), (0, .long 1937010544)]) rfl rfl ?_
    refine w_p (pc1 := 173) rfl rfl ?_
    refine w_m0 (pc1 := 176) (st1 := .long 7237492 :: _) rfl rfl rfl rfl ?_
    refine w_p (pc1 := 177) (st1 := .int 1 :: _) rfl rfl ?_
    refine w_f (a := 252) (b := 180) rfl rfl rfl ?_
    refine w_p (pc1 := 181) rfl rfl ?_
    refine w_m0 (pc1 := 184) (st1 := .long 7237495 :: _) rfl rfl rfl rfl ?_
    refine w_p (pc1 := 185) (st1 := .int 1 :: _) rfl rfl ?_
    refine w_f (a := 252) (b := 188) rfl rfl rfl ?_
    refine w_p (pc1 := 189) rfl rfl ?_
    refine w_m0 (pc1 := 192) (st1 := .long 1853189228 :: _) rfl rfl rfl rfl ?_
    refine w_p (pc1 := 193) (st1 := .int 1 :: _) rfl rfl ?_
    refine w_f (a := 252) (b := 196) rfl rfl rfl ?_
    refine w_p (pc1 := 197) rfl rfl ?_
    refine w_m0 (pc1 := 200) (st1 := .long 7302244 :: _) rfl rfl rfl rfl ?_
    refine w_p (pc1 := 201) (st1 := .int 1 :: _) rfl rfl ?_
    refine w_f (a := 252) (b := 204) rfl rfl rfl ?_
    refine w_p (pc1 := 205) rfl rfl ?_
    refine w_m0 (pc1 := 208) (st1 := .long 28526 :: _) rfl rfl rfl rfl ?_
    refine w_p (pc1 := 209) (st1 := .int 1 :: _) rfl rfl ?_
    refine w_f (a := 252) (b := 212) rfl rfl rfl ?_
    refine w_p (pc1 := 213) rfl rfl ?_
    refine w_m0 (pc1 := 216) (st1 := .long 28530 :: _) rfl rfl rfl rfl ?_
    refine w_p (pc1 := 217) (st1 := .int 1 :: _) rfl rfl ?_
    refine w_f (a := 252) (b := 220) rfl rfl rfl ?_
    refine w_p (pc1 := 221) rfl rfl ?_
    refine w_m0 (pc1 := 224) (st1 := .long 31650994523828857 :: _) rfl rfl rfl rfl ?_
    refine w_p (pc1 := 225) (st1 := .int (-1) :: _) rfl rfl ?_
    refine w_f (a := 252) (b := 228) rfl rfl rfl ?_
    refine w_p (pc1 := 229) rfl rfl ?_
    refine w_m0 (pc1 := 232) (st1 := .long 491260572517 :: _) rfl rfl rfl rfl ?_
    refine w_p (pc1 := 233) (st1 := .int (-1) :: _) rfl rfl ?_
    refine w_f (a := 252) (b := 236) rfl rfl rfl ?_
    refine w_p (pc1 := 237) rfl rfl ?_
    refine w_m0 (pc1 := 240) (st1 := .long 491327481202 :: _) rfl rfl rfl rfl ?_
    refine w_p (pc1 := 241) (st1 := .int (-1) :: _) rfl rfl ?_
    refine w_f (a := 252) (b := 244) rfl rfl rfl ?_
    refine w_p (pc1 := 245) rfl rfl ?_
    refine w_m0 (pc1 := 248) (st1 := .long 7562612 :: _) rfl rfl rfl rfl ?_
    refine w_p (pc1 := 249) (st1 := .int 1 :: _) rfl rfl ?_
    refine w_t (a := 256) (b := 252) rfl rfl rfl ?_
    refine w_p (pc1 := 257) (st1 := .int 0 :: _) rfl rfl ?_
    refine w_p (pc1 := 259) (al1 := [(4, .int 0), (3, .int 0), (2, .int 0), (0, .long 1937010544)]) rfl rfl ?_
    refine w_p (pc1 := 260) rfl rfl ?_
    refine w_f (a := 344) (b := 263) rfl rfl rfl ?_
    refine w_p (pc1 := 264) rfl rfl ?_
    refine w_f (a := 344) (b := 267) rfl rfl rfl ?_
    refine w_p (pc1 := 269) rfl rfl ?_
    refine w_f (a := 344) (b := 272) rfl rfl rfl ?_
    refine w_p (pc1 := 273) rfl rfl ?_
    refine w_m0 (pc1 := 276) (st1 := .long 1936682341 :: _) rfl rfl rfl rfl ?_
    refine w_p (pc1 := 277) (st1 := .int 1 :: _) rfl rfl ?_
    refine w_f (a := 344) (b := 280) rfl rfl rfl ?_
    refine w_p (pc1 := 281) rfl rfl ?_
    refine w_m0 (pc1 := 284) (st1 := .long 1937010544 :: _) rfl rfl rfl rfl ?_
    refine w_p (pc1 := 285) (st1 := .int 0 :: _) rfl rfl ?_
    refine w_t (a := 344) (b := 288) rfl rfl rfl ?_
    refine w_p (pc1 := 345) (st1 := .int 1 :: _) rfl rfl ?_
    refine w_p (pc1 := 349) rfl rfl ?_
    refine w_r rfl rfl rfl (fun _ _ => rfl) rfl ?_
    exact ⟨rfl, rfl, rfl⟩
  · skip
    refine w_p (pc1 := 1) rfl rfl ?_
    refine w_m0 (pc1 := 4) (st1 := .long 418330731890 :: _) rfl rfl rfl rfl ?_
    refine w_p (pc1 := 5) (st1 := .int 1 :: _) rfl rfl ?_
    refine w_f (a := 80) (b := 8) rfl rfl rfl ?_
    refine w_p (pc1 := 9) rfl rfl ?_
    refine w_m0 (pc1 := 12) (st1 := .long 6384748 :: _) rfl rfl rfl rfl ?_
    refine w_p (pc1 := 13) (st1 := .int 1 :: _) rfl rfl ?_
    refine w_f (a := 80) (b := 16) rfl rfl rfl ?_
    refine w_p (pc1 := 17) rfl rfl ?_
    refine w_m0 (pc1 := 20) (st1 := .long 6385252 :: _) rfl rfl rfl rfl ?_
    refine w_p (pc1 := 21) (st1 := .int 1 :: _) rfl rfl ?_
    refine w_f (a := 80) (b := 24) rfl rfl rfl ?_
    refine w_p (pc1 := 25) rfl rfl ?_
    refine w_m0 (pc1 := 28) (st1 := .long 1650549611 :: _) rfl rfl rfl rfl ?_
    refine w_p (pc1 := 29) (st1 := .int 1 :: _) rfl rfl ?_
    refine w_f (a := 80) (b := 32) rfl rfl rfl ?_
    refine w_p (pc1 := 33) rfl rfl ?_
    refine w_m0 (pc1 := 36) (st1 := .long 108187649798757 :: _) rfl rfl rfl rfl ?_
    refine w_p (pc1 := 37) (st1 := .int (-1) :: _) rfl rfl ?_
    refine w_f (a := 80) (b := 40) rfl rfl rfl ?_
    refine w_p (pc1 := 41) rfl rfl ?_
    refine w_m0 (pc1 := 44) (st1 := .long 422608071022 :: _) rfl rfl rfl rfl ?_
    refine w_p (pc1 := 45) (st1 := .int 1 :: _) rfl rfl ?_
    refine w_f (a := 80) (b := 48) rfl rfl rfl ?_
    refine w_p (pc1 := 49) rfl rfl ?_
    refine w_m0 (pc1 := 52) (st1 := .long 27973170910815333 :: _) rfl rfl rfl rfl ?_
    refine w_p (pc1 := 53) (st1 := .int (-1) :: _) rfl rfl ?_
    refine w_f (a := 80) (b := 56) rfl rfl rfl ?_
    refine w_p (pc1 := 57) rfl rfl ?_
    refine w_m0 (pc1 := 60) (st1 := .long 426953237355 :: _) rfl rfl rfl rfl ?_
    refine w_p (pc1 := 61) (st1 := .int 1 :: _) rfl rfl ?_
    refine w_f (a := 80) (b := 64) rfl rfl rfl ?_
    refine w_p (pc1 := 65) rfl rfl ?_
    refine w_m0 (pc1 := 68) (st1 := .long 109330228406644 :: _) rfl rfl rfl rfl ?_
    refine w_p (pc1 := 69) (st1 := .int (-1) :: _) rfl rfl ?_
    refine w_f (a := 80) (b := 72) rfl rfl rfl ?_
    refine w_p (pc1 := 73) rfl rfl ?_
    refine w_m0 (pc1 := 76) (st1 := .long 28258988067220596 :: _) rfl rfl rfl rfl ?_
    refine w_p (pc1 := 77) (st1 := .int (-1) :: _) rfl rfl ?_
    refine w_t (a := 84) (b := 80) rfl rfl rfl ?_
    refine w_p (pc1 := 85) (st1 := .int 0 :: _) rfl rfl ?_
    refine w_p (pc1 := 86) (al1 := [(2, .int 0), (0, .long 499850046565)]) rfl rfl ?_
    refine w_p (pc1 := 87) rfl rfl ?_
    refine w_m0 (pc1 := 90) (st1 := .long 110386773062757 :: _) rfl rfl rfl rfl ?_
    refine w_p (pc1 := 91) (st1 := .int (-1) :: _) rfl rfl ?_
    refine w_f (a := 166) (b := 94) rfl rfl rfl ?_
    refine w_p (pc1 := 95) rfl rfl ?_
    refine w_m0 (pc1 := 98) (st1 := .long 25711 :: _) rfl rfl rfl rfl ?_
    refine w_p (pc1 := 99) (st1 := .int 1 :: _) rfl rfl ?_
    refine w_f (a := 166) (b := 102) rfl rfl rfl ?_
    refine w_p (pc1 := 103) rfl rfl ?_
    refine w_m0 (pc1 := 106) (st1 := .long 1685221232 :: _) rfl rfl rfl rfl ?_
    refine w_p (pc1 := 107) (st1 := .int 1 :: _) rfl rfl ?_
    refine w_f (a := 166) (b := 110) rfl rfl rfl ?_
    refine w_p (pc1 := 111) rfl rfl ?_
    refine w_m0 (pc1 := 114) (st1 := .long 115923103347316 :: _) rfl rfl rfl rfl ?_
    refine w_p (pc1 := 115) (st1 := .int (-1) :: _) rfl rfl ?_
    refine w_f (a := 166) (b := 118) rfl rfl rfl ?_
    refine w_p (pc1 := 119) rfl rfl ?_
    refine w_m0 (pc1 := 122) (st1 := .long 26995 :: _) rfl rfl rfl rfl ?_
    refine w_p (pc1 := 123) (st1 := .int 1 :: _) rfl rfl ?_
    refine w_f (a := 166) (b := 126) rfl rfl rfl ?_
    refine w_p (pc1 := 127) rfl rfl ?_
    refine w_m0 (pc1 := 130) (st1 := .long 1818326117 :: _) rfl rfl rfl rfl ?_
    refine w_p (pc1 := 131) (st1 := .int 1 :: _) rfl rfl ?_
    refine w_f (a := 166) (b := 134) rfl rfl rfl ?_
    refine w_p (pc1 := 135) rfl rfl ?_
    refine w_m0 (pc1 := 138) (st1 := .long 7103860 :: _) rfl rfl rfl rfl ?_
    refine w_p (pc1 := 139) (st1 := .int 1 :: _) rfl rfl ?_
    refine w_f (a := 166) (b := 142) rfl rfl rfl ?_
    refine w_p (pc1 := 143) rfl rfl ?_
    refine w_m0 (pc1 := 146) (st1 := .long 1835102827 :: _) rfl rfl rfl rfl ?_
    refine w_p (pc1 := 147) (st1 := .int 1 :: _) rfl rfl ?_
    refine w_f (a := 166) (b := 150) rfl rfl rfl ?_
    refine w_p (pc1 := 151) rfl rfl ?_
    refine w_m0 (pc1 := 154) (st1 := .long 1836413812 :: _) rfl rfl rfl rfl ?_
    refine w_p (pc1 := 155) (st1 := .int 1 :: _) rfl rfl ?_
    refine w_f (a := 166) (b := 158) rfl rfl rfl ?_
    refine w_p (pc1 := 159) rfl rfl ?_
    refine w_m0 (pc1 := 162) (st1 := .long 7234935 :: _) rfl rfl rfl rfl ?_
    refine w_p (pc1 := 163) (st1 := .int 1 :: _) rfl rfl ?_
    refine w_t (a := 170) (b := 166) rfl rfl rfl ?_
    refine w_p (pc1 := 171) (st1 := .int 0 :: _) rfl rfl ?_
    refine w_p (pc1 := 172) (al1 := [(3, .int 0), (2, .int 0), (0, .long 499850046565)]) rfl rfl ?_
    refine w_p (pc1 := 173) rfl rfl ?_
    refine w_m0 (pc1 := 176) (st1 := .long 7237492 :: _) rfl rfl rfl rfl ?_
    refine w_p (pc1 := 177) (st1 := .int 1 :: _) rfl rfl ?_
    refine w_f (a := 252) (b := 180) rfl rfl rfl ?_
    refine w_p (pc1 := 181) rfl rfl ?_
    refine w_m0 (pc1 := 184) (st1 := .long 7237495 :: _) rfl rfl rfl rfl ?_
    refine w_p (pc1 := 185) (st1 := .int 1 :: _) rfl rfl ?_
    refine w_f (a := 252) (b := 188) rfl rfl rfl ?_
    refine w_p (pc1 := 189) rfl rfl ?_
    refine w_m0 (pc1 := 192) (st1 := .long 1853189228 :: _) rfl rfl rfl rfl ?_
    refine w_p (pc1 := 193) (st1 := .int 1 :: _) rfl rfl ?_
    refine w_f (a := 252) (b := 196) rfl rfl rfl ?_
    refine w_p (pc1 := 197) rfl rfl ?_
    refine w_m0 (pc1 := 200) (st1 := .long 7302244 :: _) rfl rfl rfl rfl ?_
    refine w_p (pc1 := 201) (st1 := .int 1 :: _) rfl rfl ?_
    refine w_f (a := 252) (b := 204) rfl rfl rfl ?_
    refine w_p (pc1 := 205) rfl rfl ?_
    refine w_m0 (pc1 := 208) (st1 := .long 28526 :: _) rfl rfl rfl rfl ?_
    refine w_p (pc1 := 209) (st1 := .int 1 :: _) rfl rfl ?_
    refine w_f (a := 252) (b := 212) rfl rfl rfl ?_
    refine w_p (pc1 := 213) rfl rfl ?_
    refine w_m0 (pc1 := 216) (st1 := .long 28530 :: _) rfl rfl rfl rfl ?_
    refine w_p (pc1 := 217) (st1 := .int 1 :: _) rfl rfl ?_
    refine w_f (a := 252) (b := 220) rfl rfl rfl ?_
    refine w_p (pc1 := 221) rfl rfl ?_
    refine w_m0 (pc1 := 224) (st1 := .long 31650994523828857 :: _) rfl rfl rfl rfl ?_
    refine w_p (pc1 := 225) (st1 := .int (-1) :: _) rfl rfl ?_
    refine w_f (a := 252) (b := 228) rfl rfl rfl ?_
    refine w_p (pc1 := 229) rfl rfl ?_
    refine w_m0 (pc1 := 232) (st1 := .long 491260572517 :: _) rfl rfl rfl rfl ?_
    refine w_p (pc1 := 233) (st1 := .int 1 :: _) rfl rfl ?_
    refine w_f (a := 252) (b := 236) rfl rfl rfl ?_
    refine w_p (pc1 := 237) rfl rfl ?_
    refine w_m0 (pc1 := 240) (st1 := .long 491327481202 :: _) rfl rfl rfl rfl ?_
    refine w_p (pc1 := 241) (st1 := .int 1 :: _) rfl rfl ?_
    refine w_f (a := 252) (b := 244) rfl rfl rfl ?_
    refine w_p (pc1 := 245) rfl rfl ?_
    refine w_m0 (pc1 := 248) (st1 := .long 7562612 :: _) rfl rfl rfl rfl ?_
    refine w_p (pc1 := 249) (st1 := .int 1 :: _) rfl rfl ?_
    refine w_t (a := 256) (b := 252) rfl rfl rfl ?_
    refine w_p (pc1 := 257) (st1 := .int 0 :: _) rfl rfl ?_
    refine w_p (pc1 := 259) (al1 := [(4, .int 0), (3, .int 0), (2, .int 0), (0, .long 499850046565)]) rfl rfl ?_
    refine w_p (pc1 := 260) rfl rfl ?_
    refine w_f (a := 344) (b := 263) rfl rfl rfl ?_
    refine w_p (pc1 := 264) rfl rfl ?_
    refine w_f (a := 344) (b := 267) rfl rfl rfl ?_
    refine w_p (pc1 := 269) rfl rfl ?_
    refine w_f (a := 344) (b := 272) rfl rfl rfl ?_
    refine w_p (pc1 := 273) rfl rfl ?_
    refine w_m0 (pc1 := 276) (st1 := .long 1936682341 :: _) rfl rfl rfl rfl ?_
    refine w_p (pc1 := 277) (st1 := .int 1 :: _) rfl rfl ?_
    refine w_f (a := 344) (b := 280) rfl rfl rfl ?_
    refine w_p (pc1 := 281) rfl rfl ?_
    refine w_m0 (pc1 := 284) (st1 := .long 1937010544 :: _) rfl rfl rfl rfl ?_
    refine w_p (pc1 := 285) (st1 := .int 1 :: _) rfl rfl ?_
    refine w_f (a := 344) (b := 288) rfl rfl rfl ?_
    refine w_p (pc1 := 289) rfl rfl ?_
    refine w_m0 (pc1 := 292) (st1 := .long 499850046565 :: _) rfl rfl rfl rfl ?_
    refine w_p (pc1 := 293) (st1 := .int 0 :: _) rfl rfl ?_
    refine w_t (a := 344) (b := 296) rfl rfl rfl ?_
    refine w_p (pc1 := 345) (st1 := .int 1 :: _) rfl rfl ?_
    refine w_p (pc1 := 349) rfl rfl ?_
    refine w_r rfl rfl rfl (fun _ _ => rfl) rfl ?_
    exact ⟨rfl, rfl, rfl⟩
  · skip
    refine w_p (pc1 := 1) rfl rfl ?_
    refine w_m0 (pc1 := 4) (st1 := .long 418330731890 :: _) rfl rfl rfl rfl ?_
    refine w_p (pc1 := 5) (st1 := .int (-1) :: _) rfl rfl ?_
    refine w_f (a := 80) (b := 8) rfl rfl rfl ?_
    refine w_p (pc1 := 9) rfl rfl ?_
    refine w_m0 (pc1 := 12) (st1 := .long 6384748 :: _) rfl rfl rfl rfl ?_
    refine w_p (pc1 := 13) (st1 := .int (-1) :: _) rfl rfl ?_
    refine w_f (a := 80) (b := 16) rfl rfl rfl ?_
    refine w_p (pc1 := 17) rfl rfl ?_
    refine w_m0 (pc1 := 20) (st1 := .long 6385252 :: _) rfl rfl rfl rfl ?_
    refine w_p (pc1 := 21) (st1 := .int (-1) :: _) rfl rfl ?_
    refine w_f (a := 80) (b := 24) rfl rfl rfl ?_
    refine w_p (pc1 := 25) rfl rfl ?_
    refine w_m0 (pc1 := 28) (st1 := .long 1650549611 :: _) rfl rfl rfl rfl ?_
    refine w_p (pc1 := 29) (st1 := .int (-1) :: _) rfl rfl ?_
    refine w_f (a := 80) (b := 32) rfl rfl rfl ?_
    refine w_p (pc1 := 33) rfl rfl ?_
    refine w_m0 (pc1 := 36) (st1 := .long 108187649798757 :: _) rfl rfl rfl rfl ?_
    refine w_p (pc1 := 37) (st1 := .int (-1) :: _) rfl rfl ?_
    refine w_f (a := 80) (b := 40) rfl rfl rfl ?_
    refine w_p (pc1 := 41) rfl rfl ?_
    refine w_m0 (pc1 := 44) (st1 := .long 422608071022 :: _) rfl rfl rfl rfl ?_
    refine w_p (pc1 := 45) (st1 := .int (-1) :: _) rfl rfl ?_
    refine w_f (a := 80) (b := 48) rfl rfl rfl ?_
    refine w_p (pc1 := 49) rfl rfl ?_
    refine w_m0 (pc1 := 52) (st1 := .long 27973170910815333 :: _) rfl rfl rfl rfl ?_
    refine w_p (pc1 := 53) (st1 := .int (-1) :: _) rfl rfl ?_
    refine w_f (a := 80) (b := 56) rfl rfl rfl ?_
    refine w_p (pc1 := 57) rfl rfl ?_
    refine w_m0 (pc1 := 60) (st1 := .long 426953237355 :: _) rfl rfl rfl rfl ?_
    refine w_p (pc1 := 61) (st1 := .int (-1) :: _) rfl rfl ?_
    refine w_f (a := 80) (b := 64) rfl rfl rfl ?_
    refine w_p (pc1 := 65) rfl rfl ?_
    refine w_m0 (pc1 := 68) (st1 := .long 109330228406644 :: _) rfl rfl rfl rfl ?_
    refine w_p (pc1 := 69) (st1 := .int (-1) :: _) rfl rfl ?_
    refine w_f (a := 80) (b := 72) rfl rfl rfl ?_
    refine w_p (pc1 := 73) rfl rfl ?_
    refine w_m0 (pc1 := 76) (st1 := .long 28258988067220596 :: _) rfl rfl rfl rfl ?_
    refine w_p (pc1 := 77) (st1 := .int (-1) :: _) rfl rfl ?_
    refine w_t (a := 84) (b := 80) rfl rfl rfl ?_
    refine w_p (pc1 := 85) (st1 := .int 0 :: _) rfl rfl ?_
    refine w_p (pc1 := 86) (al1 := [(2, .int 0), (0, .long 29807)]) rfl rfl ?_
    refine w_p (pc1 := 87) rfl rfl ?_
    refine w_m0 (pc1 := 90) (st1 := .long 110386773062757 :: _) rfl rfl rfl rfl ?_
    refine w_p (pc1 := 91) (st1 := .int (-1) :: _) rfl rfl ?_
    refine w_f (a := 166) (b := 94) rfl rfl rfl ?_
    refine w_p (pc1 := 95) rfl rfl ?_
    refine w_m0 (pc1 := 98) (st1 := .long 25711 :: _) rfl rfl rfl rfl ?_
    refine w_p (pc1 := 99) (st1 := .int 1 :: _) rfl rfl ?_
    refine w_f (a := 166) (b := 102) rfl rfl rfl ?_
    refine w_p (pc1 := 103) rfl rfl ?_
    refine w_m0 (pc1 := 106) (st1 := .long 1685221232 :: _) rfl rfl rfl rfl ?_
    refine w_p (pc1 := 107) (st1 := .int (-1) :: _) rfl rfl ?_
    refine w_f (a := 166) (b := 110) rfl rfl rfl ?_
    refine w_p (pc1 := 111) rfl rfl ?_
    refine w_m0 (pc1 := 114) (st1 := .long 115923103347316 :: _) rfl rfl rfl rfl ?_
    refine w_p (pc1 := 115) (st1 := .int (-1) :: _) rfl rfl ?_
    refine w_f (a := 166) (b := 118) rfl rfl rfl ?_
    refine w_p (pc1 := 119) rfl rfl ?_
    refine w_m0 (pc1 := 122) (st1 := .long 26995 :: _) rfl rfl rfl rfl ?_
    refine w_p (pc1 := 123) (st1 := .int 1 :: _) rfl rfl ?_
    refine w_f (a := 166) (b := 126) rfl rfl rfl ?_
    refine w_p (pc1 := 127) rfl rfl ?_
    refine w_m0 (pc1 := 130) (st1 := .long 1818326117 :: _) rfl rfl rfl rfl ?_
    refine w_p (pc1 := 131) (st1 := .int (-1) :: _) rfl rfl ?_
    refine w_f (a := 166) (b := 134) rfl rfl rfl ?_
    refine w_p (pc1 := 135) rfl rfl ?_
    refine w_m0 (pc1 := 138) (st1 := .long 7103860 :: _) rfl rfl rfl rfl ?_
    refine w_p (pc1 := 139) (st1 := .int (-1) :: _) rfl rfl ?_
    refine w_f (a := 166) (b := 142) rfl rfl rfl ?_
    refine w_p (pc1 := 143) rfl rfl ?_
    refine w_m0 (pc1 := 146) (st1 := .long 1835102827 :: _) rfl rfl rfl rfl ?_
    refine w_p (pc1 := 147) (st1 := .int (-1) :: _) rfl rfl ?_
    refine w_f (a := 166) (b := 150) rfl rfl rfl ?_
    refine w_p (pc1 := 151) rfl rfl ?_
    refine w_m0 (pc1 := 154) (st1 := .long 1836413812 :: _) rfl rfl rfl rfl ?_
    refine w_p (pc1 := 155) (st1 := .int (-1) :: _) rfl rfl ?_
    refine w_f (a := 166) (b := 158) rfl rfl rfl ?_
    refine w_p (pc1 := 159) rfl rfl ?_
    refine w_m0 (pc1 := 162) (st1 := .long 7234935 :: _) rfl rfl rfl rfl ?_
    refine w_p (pc1 := 163) (st1 := .int (-1) :: _) rfl rfl ?_
    refine w_t (a := 170) (b := 166) rfl rfl rfl ?_
    refine w_p (pc1 := 171) (st1 := .int 0 :: _) rfl rfl ?_
    refine w_p (pc1 := 172) (al1 := [(3, .int 0), (2, .int 0), (0, .long 29807)]) rfl rfl ?_
    refine w_p (pc1 := 173) rfl rfl ?_
    refine w_m0 (pc1 := 176) (st1 := .long 7237492 :: _) rfl rfl rfl rfl ?_
    refine w_p (pc1 := 177) (st1 := .int (-1) :: _) rfl rfl ?_
    refine w_f (a := 252) (b := 180) rfl rfl rfl ?_
    refine w_p (pc1 := 181) rfl rfl ?_
    refine w_m0 (pc1 := 184) (st1 := .long 7237495 :: _) rfl rfl rfl rfl ?_
    refine w_p (pc1 := 185) (st1 := .int (-1) :: _) rfl rfl ?_
    refine w_f (a := 252) (b := 188) rfl rfl rfl ?_
    refine w_p (pc1 := 189) rfl rfl ?_
    refine w_m0 (pc1 := 192) (st1 := .long 1853189228 :: _) rfl rfl rfl rfl ?_
    refine w_p (pc1 := 193) (st1 := .int (-1) :: _) rfl rfl ?_
    refine w_f (a := 252) (b := 196) rfl rfl rfl ?_
    refine w_p (pc1 := 197) rfl rfl ?_
    refine w_m0 (pc1 := 200) (st1 := .long 7302244 :: _) rfl rfl rfl rfl ?_
    refine w_p (pc1 := 201) (st1 := .int (-1) :: _) rfl rfl ?_
    refine w_f (a := 252) (b := 204) rfl rfl rfl ?_
    refine w_p (pc1 := 205) rfl rfl ?_
    refine w_m0 (pc1 := 208) (st1 := .long 28526 :: _) rfl rfl rfl rfl ?_
    refine w_p (pc1 := 209) (st1 := .int 1 :: _) rfl rfl ?_
    refine w_f (a := 252) (b := 212) rfl rfl rfl ?_
    refine w_p (pc1 := 213) rfl rfl ?_
    refine w_m0 (pc1 := 216) (st1 := .long 28530 :: _) rfl rfl rfl rfl ?_
    refine w_p (pc1 := 217) (st1 := .int 1 :: _) rfl rfl ?_
    refine w_f (a := 252) (b := 220) rfl rfl rfl ?_
    refine w_p (pc1 := 221) rfl rfl ?_
    refine w_m0 (pc1 := 224) (st1 := .long 31650994523828857 :: _) rfl rfl rfl rfl ?_
    refine w_p (pc1 := 225) (st1 := .int (-1) :: _) rfl rfl ?_
    refine w_f (a := 252) (b := 228) rfl rfl rfl ?_
    refine w_p (pc1 := 229) rfl rfl ?_
    refine w_m0 (pc1 := 232) (st1 := .long 491260572517 :: _) rfl rfl rfl rfl ?_
    refine w_p (pc1 := 233) (st1 := .int (-1) :: _) rfl rfl ?_
    refine w_f (a := 252) (b := 236) rfl rfl rfl ?_
    refine w_p (pc1 := 237) rfl rfl ?_
    refine w_m0 (pc1 := 240) (st1 := .long 491327481202 :: _) rfl rfl rfl rfl ?_
    refine w_p (pc1 := 241) (st1 := .int (-1) :: _) rfl rfl ?_
    refine w_f (a := 252) (b := 244) rfl rfl rfl ?_
    refine w_p (pc1 := 245) rfl rfl ?_
    refine w_m0 (pc1 := 248) (st1 := .long 7562612 :: _) rfl rfl rfl rfl ?_
    refine w_p (pc1 := 249) (st1 := .int (-1) :: _) rfl rfl ?_
    refine w_t (a := 256) (b := 252) rfl rfl rfl ?_
    refine w_p (pc1 := 257) (st1 := .int 0 :: _) rfl rfl ?_
    refine w_p (pc1 := 259) (al1 := [(4, .int 0), (3, .int 0), (2, .int 0), (0, .long 29807)]) rfl rfl ?_
    refine w_p (pc1 := 260) rfl rfl ?_
    refine w_f (a := 344) (b := 263) rfl rfl rfl ?_
    refine w_p (pc1 := 264) rfl rfl ?_
    refine w_f (a := 344) (b := 267) rfl rfl rfl ?_
    refine w_p (pc1 := 269) rfl rfl ?_
    refine w_f (a := 344) (b := 272) rfl rfl rfl ?_
    refine w_p (pc1 := 273) rfl rfl ?_
    refine w_m0 (pc1 := 276) (st1 := .long 1936682341 :: _) rfl rfl rfl rfl ?_
    refine w_p (pc1 := 277) (st1 := .int (-1) :: _) rfl rfl ?_
    refine w_f (a := 344) (b := 280) rfl rfl rfl ?_
    refine w_p (pc1 := 281) rfl rfl ?_
    refine w_m0 (pc1 := 284) (st1 := .long 1937010544 :: _) rfl rfl rfl rfl ?_
    refine w_p (pc1 := 285) (st1 := .int (-1) :: _) rfl rfl ?_
    refine w_f (a := 344) (b := 288) rfl rfl rfl ?_
    refine w_p (pc1 := 289) rfl rfl ?_
    refine w_m0 (pc1 := 292) (st1 := .long 499850046565 :: _) rfl rfl rfl rfl ?_
    refine w_p (pc1 := 293) (st1 := .int (-1) :: _) rfl rfl ?_
    refine w_f (a := 344) (b := 296) rfl rfl rfl ?_
    refine w_p (pc1 := 297) rfl rfl ?_
    refine w_m0 (pc1 := 300) (st1 := .long 29807 :: _) rfl rfl rfl rfl ?_
    refine w_p (pc1 := 301) (st1 := .int 0 :: _) rfl rfl ?_
    refine w_t (a := 344) (b := 304) rfl rfl rfl ?_
    refine w_p (pc1 := 345) (st1 := .int 1 :: _) rfl rfl ?_
    refine w_p (pc1 := 349) rfl rfl ?_
    refine w_r rfl rfl rfl (fun _ _ => rfl) rfl ?_
    exact ⟨rfl, rfl, rfl⟩
  · skip
    refine w_p (pc1 := 1) rfl rfl ?_
    refine w_m0 (pc1 := 4) (st1 := .long 418330731890 :: _) rfl rfl rfl rfl ?_
    refine w_p (pc1 := 5) (st1 := .int 1 :: _) rfl rfl ?_
    refine w_f (a := 80) (b := 8) rfl rfl rfl ?_
    refine w_p (pc1 := 9) rfl rfl ?_
    refine w_m0 (pc1 := 12) (st1 := .long 6384748 :: _) rfl rfl rfl rfl ?_
    refine w_p (pc1 := 13) (st1 := .int 1 :: _) rfl rfl ?_
    refine w_f (a := 80) (b := 16) rfl rfl rfl ?_
    refine w_p (pc1 := 17) rfl rfl ?_
    refine w_m0 (pc1 := 20) (st1 := .long 6385252 :: _) rfl rfl rfl rfl ?_
    refine w_p (pc1 := 21) (st1 := .int 1 :: _) rfl rfl ?_
    refine w_f (a := 80) (b := 24) rfl rfl rfl ?_
    refine w_p (pc1 := 25) rfl rfl ?_
    refine w_m0 (pc1 := 28) (st1 := .long 1650549611 :: _) rfl rfl rfl rfl ?_
    refine w_p (pc1 := 29) (st1 := .int 1 :: _) rfl rfl ?_
    refine w_f (a := 80) (b := 32) rfl rfl rfl ?_
    refine w_p (pc1 := 33) rfl rfl ?_
    refine w_m0 (pc1 := 36) (st1 := .long 108187649798757 :: _) rfl rfl rfl rfl ?_
    refine w_p (pc1 := 37) (st1 := .int 1 :: _) rfl rfl ?_
    refine w_f (a := 80) (b := 40) rfl rfl rfl ?_
    refine w_p (pc1 := 41) rfl rfl ?_
    refine w_m0 (pc1 := 44) (st1 := .long 422608071022 :: _) rfl rfl rfl rfl ?_
    refine w_p (pc1 := 45) (st1 := .int 1 :: _) rfl rfl ?_
    refine w_f (a := 80) (b := 48) rfl rfl rfl ?_
    refine w_p (pc1 := 49) rfl rfl ?_
    refine w_m0 (pc1 := 52) (st1 := .long 27973170910815333 :: _) rfl rfl rfl rfl ?_
    refine w_p (pc1 := 53) (st1 := .int 1 :: _) rfl rfl ?_
    refine w_f (a := 80) (b := 56) rfl rfl rfl ?_
    refine w_p (pc1 := 57) rfl rfl ?_
    refine w_m0 (pc1 := 60) (st1 := .long 426953237355 :: _) rfl rfl rfl rfl ?_
    refine w_p (pc1 := 61) (st1 := .int 1 :: _) rfl rfl ?_
    refine w_f (a := 80) (b := 64) rfl rfl rfl ?_
    refine w_p (pc1 := 65) rfl rfl ?_
    refine w_m0 (pc1 := 68) (st1 := .long 109330228406644 :: _) rfl rfl rfl rfl ?_
    refine w_p (pc1 := 69) (st1 := .int 1 :: _) rfl rfl ?_
    refine w_f (a := 80) (b := 72) rfl rfl rfl ?_
    refine w_p (pc1 := 73) rfl rfl ?_
    refine w_m0 (pc1 := 76) (st1 := .long 28258988067220596 :: _) rfl rfl rfl rfl ?_
    refine w_p (pc1 := 77) (st1 := .int 1 :: _) rfl rfl ?_
    refine w_t (a := 84) (b := 80) rfl rfl rfl ?_
    refine w_p (pc1 := 85) (st1 := .int 0 :: _) rfl rfl ?_
    refine w_p (pc1 := 86) (al1 := [(2, .int 0), (0, .long 32776894330398066)]) rfl rfl ?_
    refine w_p (pc1 := 87) rfl rfl ?_
    refine w_m0 (pc1 := 90) (st1 := .long 110386773062757 :: _) rfl rfl rfl rfl ?_
    refine w_p (pc1 := 91) (st1 := .int 1 :: _) rfl rfl ?_
    refine w_f (a := 166) (b := 94) rfl rfl rfl ?_
    refine w_p (pc1 := 95) rfl rfl ?_
    refine w_m0 (pc1 := 98) (st1 := .long 25711 :: _) rfl rfl rfl rfl ?_
    refine w_p (pc1 := 99) (st1 := .int 1 :: _) rfl rfl ?_
    refine w_f (a := 166) (b := 102) rfl rfl rfl ?_
    refine w_p (pc1 := 103) rfl rfl ?_
    refine w_m0 (pc1 := 106) (st1 := .long 1685221232 :: _) rfl rfl rfl rfl ?_
    refine w_p (pc1 := 107) (st1 := .int 1 :: _) rfl rfl ?_
    refine w_f (a := 166) (b := 110) rfl rfl rfl ?_
    refine w_p (pc1 := 111) rfl rfl ?_
    refine w_m0 (pc1 := 114) (st1 := .long 115923103347316 :: _) rfl rfl rfl rfl ?_
    refine w_p (pc1 := 115) (st1 := .int 1 :: _) rfl rfl ?_
    refine w_f (a := 166) (b := 118) rfl rfl rfl ?_
    refine w_p (pc1 := 119) rfl rfl ?_
    refine w_m0 (pc1 := 122) (st1 := .long 26995 :: _) rfl rfl rfl rfl ?_
    refine w_p (pc1 := 123) (st1 := .int 1 :: _) rfl rfl ?_
    refine w_f (a := 166) (b := 126) rfl rfl rfl ?_
    refine w_p (pc1 := 127) rfl rfl ?_
    refine w_m0 (pc1 := 130) (st1 := .long 1818326117 :: _) rfl rfl rfl rfl ?_
    refine w_p (pc1 := 131) (st1 := .int 1 :: _) rfl rfl ?_
    refine w_f (a := 166) (b := 134) rfl rfl rfl ?_
    refine w_p (pc1 := 135) rfl rfl ?_
    refine w_m0 (pc1 := 138) (st1 := .long 7103860 :: _) rfl rfl rfl rfl ?_
    refine w_p (pc1 := 139) (st1 := .int 1 :: _) rfl rfl ?_
    refine w_f (a := 166) (b := 142) rfl rfl rfl ?_
    refine w_p (pc1 := 143) rfl rfl ?_
    refine w_m0 (pc1 := 146) (st1 := .long 1835102827 :: _) rfl rfl rfl rfl ?_
    refine w_p (pc1 := 147) (st1 := .int 1 :: _) rfl rfl ?_
    refine w_f (a := 166) (b := 150) rfl rfl rfl ?_
    refine w_p (pc1 := 151) rfl rfl ?_
    refine w_m0 (pc1 := 154) (st1 := .long 1836413812 :: _) rfl rfl rfl rfl ?_
    refine w_p (pc1 := 155) (st1 := .int 1 :: _) rfl rfl ?_
    refine w_f (a := 166) (b := 158) rfl rfl rfl ?_
    refine w_p (pc1 := 159) rfl rfl ?_
    refine w_m0 (pc1 := 162) (st1 := .long 7234935 :: _) rfl rfl rfl rfl ?_
    refine w_p (pc1 := 163) (st1 := .int 1 :: _) rfl rfl ?_
    refine w_t (a := 170) (b := 166) rfl rfl rfl ?_
    refine w_p (pc1 := 171) (st1 := .int 0 :: _) rfl rfl ?_
    refine w_p (pc1 := 172) (al1 := [(3, .int 0), (2, .int 0), (0, .long 32776894330398066)]) rfl rfl ?_
    refine w_p (pc1 := 173) rfl rfl ?_
    refine w_m0 (pc1 := 176) (st1 := .long 7237492 :: _) rfl rfl rfl rfl ?_
    refine w_p (pc1 := 177) (st1 := .int 1 :: _) rfl rfl ?_
    refine w_f (a := 252) (b := 180) rfl rfl rfl ?_
    refine w_p (pc1 := 181) rfl rfl ?_
    refine w_m0 (pc1 := 184) (st1 := .long 7237495 :: _) rfl rfl rfl rfl ?_
    refine w_p (pc1 := 185) (st1 := .int 1 :: _) rfl rfl ?_
    refine w_f (a := 252) (b := 188) rfl rfl rfl ?_
    refine w_p (pc1 := 189) rfl rfl ?_
    refine w_m0 (pc1 := 192) (st1 := .long 1853189228 :: _) rfl rfl rfl rfl ?_
    refine w_p (pc1 := 193) (st1 := .int 1 :: _) rfl rfl ?_
    refine w_f (a := 252) (b := 196) rfl rfl rfl ?_
    refine w_p (pc1 := 197) rfl rfl ?_
    refine w_m0 (pc1 := 200) (st1 := .long 7302244 :: _) rfl rfl rfl rfl ?_
    refine w_p (pc1 := 201) (st1 := .int 1 :: _) rfl rfl ?_
    refine w_f (a := 252) (b := 204) rfl rfl rfl ?_
    refine w_p (pc1 := 205) rfl rfl ?_
    refine w_m0 (pc1 := 208) (st1 := .long 28526 :: _) rfl rfl rfl rfl ?_
    refine w_p (pc1 := 209) (st1 := .int 1 :: _) rfl rfl ?_
    refine w_f (a := 252) (b := 212) rfl rfl rfl ?_
    refine w_p (pc1 := 213) rfl rfl ?_
    refine w_m0 (pc1 := 216) (st1 := .long 28530 :: _) rfl rfl rfl rfl ?_
    refine w_p (pc1 := 217) (st1 := .int 1 :: _) rfl rfl ?_
    refine w_f (a := 252) (b := 220) rfl rfl rfl ?_
    refine w_p (pc1 := 221) rfl rfl ?_
    refine w_m0 (pc1 := 224) (st1 := .long 31650994523828857 :: _) rfl rfl rfl rfl ?_
    refine w_p (pc1 := 225) (st1 := .int 1 :: _) rfl rfl ?_
    refine w_f (a := 252) (b := 228) rfl rfl rfl ?_
    refine w_p (pc1 := 229) rfl rfl ?_
    refine w_m0 (pc1 := 232) (st1 := .long 491260572517 :: _) rfl rfl rfl rfl ?_
    refine w_p (pc1 := 233) (st1 := .int 1 :: _) rfl rfl ?_
    refine w_f (a := 252) (b := 236) rfl rfl rfl ?_
    refine w_p (pc1 := 237) rfl rfl ?_
    refine w_m0 (pc1 := 240) (st1 := .long 491327481202 :: _) rfl rfl rfl rfl ?_
    refine w_p (pc1 := 241) (st1 := .int 1 :: _) rfl rfl ?_
    refine w_f (a := 252) (b := 244) rfl rfl rfl ?_
    refine w_p (pc1 := 245) rfl rfl ?_
    refine w_m0 (pc1 := 248) (st1 := .long 7562612 :: _) rfl rfl rfl rfl ?_
    refine w_p (pc1 := 249) (st1 := .int 1 :: _) rfl rfl ?_
    refine w_t (a := 256) (b := 252) rfl rfl rfl ?_
    refine w_p (pc1 := 257) (st1 := .int 0 :: _) rfl rfl ?_
    refine w_p (pc1 := 259) (al1 := [(4, .int 0), (3, .int 0), (2, .int 0), (0, .long 32776894330398066)]) rfl rfl ?_
    refine w_p (pc1 := 260) rfl rfl ?_
    refine w_f (a := 344) (b := 263) rfl rfl rfl ?_
    refine w_p (pc1 := 264) rfl rfl ?_
    refine w_f (a := 344) (b := 267) rfl rfl rfl ?_
    refine w_p (pc1 := 269) rfl rfl ?_
    refine w_f (a := 344) (b := 272) rfl rfl rfl ?_
    refine w_p (pc1 := 273) rfl rfl ?_
    refine w_m0 (pc1 := 276) (st1 := .long 1936682341 :: _) rfl rfl rfl rfl ?_
    refine w_p (pc1 := 277) (st1 := .int 1 :: _) rfl rfl ?_
    refine w_f (a := 344) (b := 280) rfl rfl rfl ?_
    refine w_p (pc1 := 281) rfl rfl ?_
    refine w_m0 (pc1 := 284) (st1 := .long 1937010544 :: _) rfl rfl rfl rfl ?_
    refine w_p (pc1 := 285) (st1 := .int 1 :: _) rfl rfl ?_
    refine w_f (a := 344) (b := 288) rfl rfl rfl ?_
    refine w_p (pc1 := 289) rfl rfl ?_
    refine w_m0 (pc1 := 292) (st1 := .long 499850046565 :: _) rfl rfl rfl rfl ?_
    refine w_p (pc1 := 293) (st1 := .int 1 :: _) rfl rfl ?_
    refine w_f (a := 344) (b := 296) rfl rfl rfl ?_
    refine w_p (pc1 := 297) rfl rfl ?_
    refine w_m0 (pc1 := 300) (st1 := .long 29807 :: _) rfl rfl rfl rfl ?_
    refine w_p (pc1 := 301) (st1 := .int 1 :: _) rfl rfl ?_
    refine w_f (a := 344) (b := 304) rfl rfl rfl ?_
    refine w_p (pc1 := 305) rfl rfl ?_
    refine w_m0 (pc1 := 308) (st1 := .long 32776894330398066 :: _) rfl rfl rfl rfl ?_
    refine w_p (pc1 := 309) (st1 := .int 0 :: _) rfl rfl ?_
    refine w_t (a := 344) (b := 312) rfl rfl rfl ?_
    refine w_p (pc1 := 345) (st1 := .int 1 :: _) rfl rfl ?_
    refine w_p (pc1 := 349) rfl rfl ?_
    refine w_r rfl rfl rfl (fun _ _ => rfl) rfl ?_
    exact ⟨rfl, rfl, rfl⟩
  · skip
    refine w_p (pc1 := 1) rfl rfl ?_
    refine w_m0 (pc1 := 4) (st1 := .long 418330731890 :: _) rfl rfl rfl rfl ?_
    refine w_p (pc1 := 5) (st1 := .int 1 :: _) rfl rfl ?_
    refine w_f (a := 80) (b := 8) rfl rfl rfl ?_
    refine w_p (pc1 := 9) rfl rfl ?_
    refine w_m0 (pc1 := 12) (st1 := .long 6384748 :: _) rfl rfl rfl rfl ?_
    refine w_p (pc1 := 13) (st1 := .int 1 :: _) rfl rfl ?_
    refine w_f (a := 80) (b := 16) rfl rfl rfl ?_
    refine w_p (pc1 := 17) rfl rfl ?_
    refine w_m0 (pc1 := 20) (st1 := .long 6385252 :: _) rfl rfl rfl rfl ?_
    refine w_p (pc1 := 21) (st1 := .int 1 :: _) rfl rfl ?_
    refine w_f (a := 80) (b := 24) rfl rfl rfl ?_
    refine w_p (pc1 := 25) rfl rfl ?_
    refine w_m0 (pc1 := 28) (st1 := .long 1650549611 :: _) rfl rfl rfl rfl ?_
    refine w_p (pc1 := 29) (st1 := .int 1 :: _) rfl rfl ?_
    refine w_f (a := 80) (b := 32) rfl rfl rfl ?_
    refine w_p (pc1 := 33) rfl rfl ?_
    refine w_m0 (pc1 := 36) (st1 := .long 108187649798757 :: _) rfl rfl rfl rfl ?_
    refine w_p (pc1 := 37) (st1 := .int 1 :: _) rfl rfl ?_
    refine w_f (a := 80) (b := 40) rfl rfl rfl ?_
    refine w_p (pc1 := 41) rfl rfl ?_
    refine w_m0 (pc1 := 44) (st1 := .long 422608071022 :: _) rfl rfl rfl rfl ?_
    refine w_p (pc1 := 45) (st1 := .int 1 :: _) rfl rfl ?_
    refine w_f (a := 80) (b := 48) rfl rfl rfl ?_
    refine w_p (pc1 := 49) rfl rfl ?_
    refine w_m0 (pc1 := 52) (st1 := .long 27973170910815333 :: _) rfl rfl rfl rfl ?_
    refine w_p (pc1 := 53) (st1 := .int (-1) :: _) rfl rfl ?_
    refine w_f (a := 80) (b := 56) rfl rfl rfl ?_
    refine w_p (pc1 := 57) rfl rfl ?_
    refine w_m0 (pc1 := 60) (st1 := .long 426953237355 :: _) rfl rfl rfl rfl ?_
    refine w_p (pc1 := 61) (st1 := .int 1 :: _) rfl rfl ?_
    refine w_f (a := 80) (b := 64) rfl rfl rfl ?_
    refine w_p (pc1 := 65) rfl rfl ?_
    refine w_m0 (pc1 := 68) (st1 := .long 109330228406644 :: _) rfl rfl rfl rfl ?_
    refine w_p (pc1 := 69) (st1 := .int 1 :: _) rfl rfl ?_
    refine w_f (a := 80) (b := 72) rfl rfl rfl ?_
    refine w_p (pc1 := 73) rfl rfl ?_
    refine w_m0 (pc1 := 76) (st1 := .long 28258988067220596 :: _) rfl rfl rfl rfl ?_
    refine w_p (pc1 := 77) (st1 := .int (-1) :: _) rfl rfl ?_
    refine w_t (a := 84) (b := 80) rfl rfl rfl ?_
    refine w_p (pc1 := 85) (st1 := .int 0 :: _) rfl rfl ?_
    refine w_p (pc1 := 86) (al1 := [(2, .int 0), (0, .long 129117075895653)]) rfl rfl ?_
    refine w_p (pc1 := 87) rfl rfl ?_
    refine w_m0 (pc1 := 90) (st1 := .long 110386773062757 :: _) rfl rfl rfl rfl ?_
    refine w_p (pc1 := 91) (st1 := .int 1 :: _) rfl rfl ?_
    refine w_f (a := 166) (b := 94) rfl rfl rfl ?_
    refine w_p (pc1 := 95) rfl rfl ?_
    refine w_m0 (pc1 := 98) (st1 := .long 25711 :: _) rfl rfl rfl rfl ?_
    refine w_p (pc1 := 99) (st1 := .int 1 :: _) rfl rfl ?_
    refine w_f (a := 166) (b := 102) rfl rfl rfl ?_
    refine w_p (pc1 := 103) rfl rfl ?_
    refine w_m0 (pc1 := 106) (st1 := .long 1685221232 :: _) rfl rfl rfl rfl ?_
    refine w_p (pc1 := 107) (st1 := .int 1 :: _) rfl rfl ?_
    refine w_f (a := 166) (b := 110) rfl rfl rfl ?_
    refine w_p (pc1 := 111) rfl rfl ?_
    refine w_m0 (pc1 := 114) (st1 := .long 115923103347316 :: _) rfl rfl rfl rfl ?_
    refine w_p (pc1 := 115) (st1 := .int 1 :: _) rfl rfl ?_
    refine w_f (a := 166) (b := 118) rfl rfl rfl ?_
    refine w_p (pc1 := 119) rfl rfl ?_
    refine w_m0 (pc1 := 122) (st1 := .long 26995 :: _) rfl rfl rfl rfl ?_
    refine w_p (pc1 := 123) (st1 := .int 1 :: _) rfl rfl ?_
    refine w_f (a := 166) (b := 126) rfl rfl rfl ?_
    refine w_p (pc1 := 127) rfl rfl ?_
    refine w_m0 (pc1 := 130) (st1 := .long 1818326117 :: _) rfl rfl rfl rfl ?_
    refine w_p (pc1 := 131) (st1 := .int 1 :: _) rfl rfl ?_
    refine w_f (a := 166) (b := 134) rfl rfl rfl ?_
    refine w_p (pc1 := 135) rfl rfl ?_
    refine w_m0 (pc1 := 138) (st1 := .long 7103860 :: _) rfl rfl rfl rfl ?_
    refine w_p (pc1 := 139) (st1 := .int 1 :: _) rfl rfl ?_
    refine w_f (a := 166) (b := 142) rfl rfl rfl ?_
    refine w_p (pc1 := 143) rfl rfl ?_
    refine w_m0 (pc1 := 146) (st1 := .long 1835102827 :: _) rfl rfl rfl rfl ?_
    refine w_p (pc1 := 147) (st1 := .int 1 :: _) rfl rfl ?_
    refine w_f (a := 166) (b := 150) rfl rfl rfl ?_
    refine w_p (pc1 := 151) rfl rfl ?_
    refine w_m0 (pc1 := 154) (st1 := .long 1836413812 :: _) rfl rfl rfl rfl ?_
    refine w_p (pc1 := 155) (st1 := .int 1 :: _) rfl rfl ?_
    refine w_f (a := 166) (b := 158) rfl rfl rfl ?_
    refine w_p (pc1 := 159) rfl rfl ?_
    refine w_m0 (pc1 := 162) (st1 := .long 7234935 :: _) rfl rfl rfl rfl ?_
    refine w_p (pc1 := 163) (st1 := .int 1 :: _) rfl rfl ?_
    refine w_t (a := 170) (b := 166) rfl rfl rfl ?_
    refine w_p (pc1 := 171) (st1 := .int 0 :: _) rfl rfl ?_
    refine w_p (pc1 := 172) (al1 := [(3, .int 0), (2, .int 0), (0, .long 129117075895653)]) rfl rfl ?_
    refine w_p (pc1 := 173) rfl rfl ?_
    refine w_m0 (pc1 := 176) (st1 := .long 7237492 :: _) rfl rfl rfl rfl ?_
    refine w_p (pc1 := 177) (st1 := .int 1 :: _) rfl rfl ?_
    refine w_f (a := 252) (b := 180) rfl rfl rfl ?_
    refine w_p (pc1 := 181) rfl rfl ?_
    refine w_m0 (pc1 := 184) (st1 := .long 7237495 :: _) rfl rfl rfl rfl ?_
    refine w_p (pc1 := 185) (st1 := .int 1 :: _) rfl rfl ?_
    refine w_f (a := 252) (b := 188) rfl rfl rfl ?_
    refine w_p (pc1 := 189) rfl rfl ?_
    refine w_m0 (pc1 := 192) (st1 := .long 1853189228 :: _) rfl rfl rfl rfl ?_
    refine w_p (pc1 := 193) (st1 := .int 1 :: _) rfl rfl ?_
    refine w_f (a := 252) (b := 196) rfl rfl rfl ?_
    refine w_p (pc1 := 197) rfl rfl ?_
    refine w_m0 (pc1 := 200) (st1 := .long 7302244 :: _) rfl rfl rfl rfl ?_
    refine w_p (pc1 := 201) (st1 := .int 1 :: _) rfl rfl ?_
    refine w_f (a := 252) (b := 204) rfl rfl rfl ?_
    refine w_p (pc1 := 205) rfl rfl ?_
    refine w_m0 (pc1 := 208) (st1 := .long 28526 :: _) rfl rfl rfl rfl ?_
    refine w_p (pc1 := 209) (st1 := .int 1 :: _) rfl rfl ?_
    refine w_f (a := 252) (b := 212) rfl rfl rfl ?_
    refine w_p (pc1 := 213) rfl rfl ?_
    refine w_m0 (pc1 := 216) (st1 := .long 28530 :: _) rfl rfl rfl rfl ?_
    refine w_p (pc1 := 217) (st1 := .int 1 :: _) rfl rfl ?_
    refine w_f (a := 252) (b := 220) rfl rfl rfl ?_
    refine w_p (pc1 := 221) rfl rfl ?_
    refine w_m0 (pc1 := 224) (st1 := .long 31650994523828857 :: _) rfl rfl rfl rfl ?_
    refine w_p (pc1 := 225) (st1 := .int (-1) :: _) rfl rfl ?_
    refine w_f (a := 252) (b := 228) rfl rfl rfl ?_
    refine w_p (pc1 := 229) rfl rfl ?_
    refine w_m0 (pc1 := 232) (st1 := .long 491260572517 :: _) rfl rfl rfl rfl ?_
    refine w_p (pc1 := 233) (st1 := .int 1 :: _) rfl rfl ?_
    refine w_f (a := 252) (b := 236) rfl rfl rfl ?_
    refine w_p (pc1 := 237) rfl rfl ?_
    refine w_m0 (pc1 := 240) (st1 := .long 491327481202 :: _) rfl rfl rfl rfl ?_
    refine w_p (pc1 := 241) (st1 := .int 1 :: _) rfl rfl ?_
    refine w_f (a := 252) (b := 244) rfl rfl rfl ?_
    refine w_p (pc1 := 245) rfl rfl ?_
    refine w_m0 (pc1 := 248) (st1 := .long 7562612 :: _) rfl rfl rfl rfl ?_
    refine w_p (pc1 := 249) (st1 := .int 1 :: _) rfl rfl ?_
    refine w_t (a := 256) (b := 252) rfl rfl rfl ?_
    refine w_p (pc1 := 257) (st1 := .int 0 :: _) rfl rfl ?_
    refine w_p (pc1 := 259) (al1 := [(4, .int 0), (3, .int 0), (2, .int 0), (0, .long 129117075895653)]) rfl rfl ?_
    refine w_p (pc1 := 260) rfl rfl ?_
    refine w_f (a := 344) (b := 263) rfl rfl rfl ?_
    refine w_p (pc1 := 264) rfl rfl ?_
    refine w_f (a := 344) (b := 267) rfl rfl rfl ?_
    refine w_p (pc1 := 269) rfl rfl ?_
    refine w_f (a := 344) (b := 272) rfl rfl rfl ?_
    refine w_p (pc1 := 273) rfl rfl ?_
    refine w_m0 (pc1 := 276) (st1 := .long 1936682341 :: _) rfl rfl rfl rfl ?_
    refine w_p (pc1 := 277) (st1 := .int 1 :: _) rfl rfl ?_
    refine w_f (a := 344) (b := 280) rfl rfl rfl ?_
    refine w_p (pc1 := 281) rfl rfl ?_
    refine w_m0 (pc1 := 284) (st1 := .long 1937010544 :: _) rfl rfl rfl rfl ?_
    refine w_p (pc1 := 285) (st1 := .int 1 :: _) rfl rfl ?_
    refine w_f (a := 344) (b := 288) rfl rfl rfl ?_
    refine w_p (pc1 := 289) rfl rfl ?_
    refine w_m0 (pc1 := 292) (st1 := .long 499850046565 :: _) rfl rfl rfl rfl ?_
    refine w_p (pc1 := 293) (st1 := .int 1 :: _) rfl rfl ?_
    refine w_f (a := 344) (b := 296) rfl rfl rfl ?_
    refine w_p (pc1 := 297) rfl rfl ?_
    refine w_m0 (pc1 := 300) (st1 := .long 29807 :: _) rfl rfl rfl rfl ?_
    refine w_p (pc1 := 301) (st1 := .int 1 :: _) rfl rfl ?_
    refine w_f (a := 344) (b := 304) rfl rfl rfl ?_
    refine w_p (pc1 := 305) rfl rfl ?_
    refine w_m0 (pc1 := 308) (st1 := .long 32776894330398066 :: _) rfl rfl rfl rfl ?_
    refine w_p (pc1 := 309) (st1 := .int (-1) :: _) rfl rfl ?_
    refine w_f (a := 344) (b := 312) rfl rfl rfl ?_
    refine w_p (pc1 := 313) rfl rfl ?_
    refine w_m0 (pc1 := 316) (st1 := .long 129117075895653 :: _) rfl rfl rfl rfl ?_
    refine w_p (pc1 := 317) (st1 := .int 0 :: _) rfl rfl ?_
    refine w_t (a := 344) (b := 320) rfl rfl rfl ?_
    refine w_p (pc1 := 345) (st1 := .int 1 :: _) rfl rfl ?_
    refine w_p (pc1 := 349) rfl rfl ?_
    refine w_r rfl rfl rfl (fun _ _ => rfl) rfl ?_
    exact ⟨rfl, rfl, rfl⟩
  · skip
    refine w_p (pc1 := 1) rfl rfl ?_
    refine w_m0 (pc1 := 4) (st1 := .long 418330731890 :: _) rfl rfl rfl rfl ?_
    refine w_p (pc1 := 5) (st1 := .int 1 :: _) rfl rfl ?_
    refine w_f (a := 80) (b := 8) rfl rfl rfl ?_
    refine w_p (pc1 := 9) rfl rfl ?_
    refine w_m0 (pc1 := 12) (st1 := .long 6384748 :: _) rfl rfl rfl rfl ?_
    refine w_p (pc1 := 13) (st1 := .int 1 :: _) rfl rfl ?_
    refine w_f (a := 80) (b := 16) rfl rfl rfl ?_
    refine w_p (pc1 := 17) rfl rfl ?_
    refine w_m0 (pc1 := 20) (st1 := .long 6385252 :: _) rfl rfl rfl rfl ?_
    refine w_p (pc1 := 21) (st1 := .int 1 :: _) rfl rfl ?_
    refine w_f (a := 80) (b := 24) rfl rfl rfl ?_
    refine w_p (pc1 := 25) rfl rfl ?_
    refine w_m0 (pc1 := 28) (st1 := .long 1650549611 :: _) rfl rfl rfl rfl ?_
    refine w_p (pc1 := 29) (st1 := .int 1 :: _) rfl rfl ?_
    refine w_f (a := 80) (b := 32) rfl rfl rfl ?_
    refine w_p (pc1 := 33) rfl rfl ?_
    refine w_m0 (pc1 := 36) (st1 := .long 108187649798757 :: _) rfl rfl rfl rfl ?_
    refine w_p (pc1 := 37) (st1 := .int 1 :: _) rfl rfl ?_
    refine w_f (a := 80) (b := 40) rfl rfl rfl ?_
    refine w_p (pc1 := 41) rfl rfl ?_
    refine w_m0 (pc1 := 44) (st1 := .long 422608071022 :: _) rfl rfl rfl rfl ?_
    refine w_p (pc1 := 45) (st1 := .int 1 :: _) rfl rfl ?_
    refine w_f (a := 80) (b := 48) rfl rfl rfl ?_
    refine w_p (pc1 := 49) rfl rfl ?_
    refine w_m0 (pc1 := 52) (st1 := .long 27973170910815333 :: _) rfl rfl rfl rfl ?_
    refine w_p (pc1 := 53) (st1 := .int (-1) :: _) rfl rfl ?_
    refine w_f (a := 80) (b := 56) rfl rfl rfl ?_
    refine w_p (pc1 := 57) rfl rfl ?_
    refine w_m0 (pc1 := 60) (st1 := .long 426953237355 :: _) rfl rfl rfl rfl ?_
    refine w_p (pc1 := 61) (st1 := .int 1 :: _) rfl rfl ?_
    refine w_f (a := 80) (b := 64) rfl rfl rfl ?_
    refine w_p (pc1 := 65) rfl rfl ?_
    refine w_m0 (pc1 := 68) (st1 := .long 109330228406644 :: _) rfl rfl rfl rfl ?_
    refine w_p (pc1 := 69) (st1 := .int 1 :: _) rfl rfl ?_
    refine w_f (a := 80) (b := 72) rfl rfl rfl ?_
    refine w_p (pc1 := 73) rfl rfl ?_
    refine w_m0 (pc1 := 76) (st1 := .long 28258988067220596 :: _) rfl rfl rfl rfl ?_
    refine w_p (pc1 := 77) (st1 := .int (-1) :: _) rfl rfl ?_
    refine w_t (a := 84) (b := 80) rfl rfl rfl ?_
    refine w_p (pc1 := 85) (st1 := .int 0 :: _) rfl rfl ?_
    refine w_p (pc1 := 86) (al1 := [(2, .int 0), (0, .long 129125580895333)]) rfl rfl ?_
    refine w_p (pc1 := 87) rfl rfl ?_
    refine w_m0 (pc1 := 90) (st1 := .long 110386773062757 :: _) rfl rfl rfl rfl ?_
    refine w_p (pc1 := 91) (st1 := .int 1 :: _) rfl rfl ?_
    refine w_f (a := 166) (b := 94) rfl rfl rfl ?_
    refine w_p (pc1 := 95) rfl rfl ?_
    refine w_m0 (pc1 := 98) (st1 := .long 25711 :: _) rfl rfl rfl rfl ?_
    refine w_p (pc1 := 99) (st1 := .int 1 :: _) rfl rfl ?_
    refine w_f (a := 166) (b := 102) rfl rfl rfl ?_
    refine w_p (pc1 := 103) rfl rfl ?_
    refine w_m0 (pc1 := 106) (st1 := .long 1685221232 :: _) rfl rfl rfl rfl ?_
    refine w_p (pc1 := 107) (st1 := .int 1 :: _) rfl rfl ?_
    refine w_f (a := 166) (b := 110) rfl rfl rfl ?_
    refine w_p (pc1 := 111) rfl rfl ?_
    refine w_m0 (pc1 := 114) (st1 := .long 115923103347316 :: _) rfl rfl rfl rfl ?_
    refine w_p (pc1 := 115) (st1 := .int 1 :: _) rfl rfl ?_
    refine w_f (a := 166) (b := 118) rfl rfl rfl ?_
    refine w_p (pc1 := 119) rfl rfl ?_
    refine w_m0 (pc1 := 122) (st1 := .long 26995 :: _) rfl rfl rfl rfl ?_
    refine w_p (pc1 := 123) (st1 := .int 1 :: _) rfl rfl ?_
    refine w_f (a := 166) (b := 126) rfl rfl rfl ?_
    refine w_p (pc1 := 127) rfl rfl ?_
    refine w_m0 (pc1 := 130) (st1 := .long 1818326117 :: _) rfl rfl rfl rfl ?_
    refine w_p (pc1 := 131) (st1 := .int 1 :: _) rfl rfl ?_
    refine w_f (a := 166) (b := 134) rfl rfl rfl ?_
    refine w_p (pc1 := 135) rfl rfl ?_
    refine w_m0 (pc1 := 138) (st1 := .long 7103860 :: _) rfl rfl rfl rfl ?_
    refine w_p (pc1 := 139) (st1 := .int 1 :: _) rfl rfl ?_
    refine w_f (a := 166) (b := 142) rfl rfl rfl ?_
    refine w_p (pc1 := 143) rfl rfl ?_
    refine w_m0 (pc1 := 146) (st1 := .long 1835102827 :: _) rfl rfl rfl rfl ?_
    refine w_p (pc1 := 147) (st1 := .int 1 :: _) rfl rfl ?_
    refine w_f (a := 166) (b := 150) rfl rfl rfl ?_
    refine w_p (pc1 := 151) rfl rfl ?_
    refine w_m0 (pc1 := 154) (st1 := .long 1836413812 :: _) rfl rfl rfl rfl ?_
    refine w_p (pc1 := 155) (st1 := .int 1 :: _) rfl rfl ?_
    refine w_f (a := 166) (b := 158) rfl rfl rfl ?_
    refine w_p (pc1 := 159) rfl rfl ?_
    refine w_m0 (pc1 := 162) (st1 := .long 7234935 :: _) rfl rfl rfl rfl ?_
    refine w_p (pc1 := 163) (st1 := .int 1 :: _) rfl rfl ?_
    refine w_t (a := 170) (b := 166) rfl rfl rfl ?_
    refine w_p (pc1 := 171) (st1 := .int 0 :: _) rfl rfl ?_
    refine w_p (pc1 := 172) (al1 := [(3, .int 0), (2, .int 0), (0, .long 129125580895333)]) rfl rfl ?_
    refine w_p (pc1 := 173) rfl rfl ?_
    refine w_m0 (pc1 := 176) (st1 := .long 7237492 :: _) rfl rfl rfl rfl ?_
    refine w_p (pc1 := 177) (st1 := .int 1 :: _) rfl rfl ?_
    refine w_f (a := 252) (b := 180) rfl rfl rfl ?_
    refine w_p (pc1 := 181) rfl rfl ?_
    refine w_m0 (pc1 := 184) (st1 := .long 7237495 :: _) rfl rfl rfl rfl ?_
    refine w_p (pc1 := 185) (st1 := .int 1 :: _) rfl rfl ?_
    refine w_f (a := 252) (b := 188) rfl rfl rfl ?_
    refine w_p (pc1 := 189) rfl rfl ?_
    refine w_m0 (pc1 := 192) (st1 := .long 1853189228 :: _) rfl rfl rfl rfl ?_
    refine w_p (pc1 := 193) (st1 := .int 1 :: _) rfl rfl ?_
    refine w_f (a := 252) (b := 196) rfl rfl rfl ?_
    refine w_p (pc1 := 197) rfl rfl ?_
    refine w_m0 (pc1 := 200) (st1 := .long 7302244 :: _) rfl rfl rfl rfl ?_
    refine w_p (pc1 := 201) (st1 := .int 1 :: _) rfl rfl ?_
    refine w_f (a := 252) (b := 204) rfl rfl rfl ?_
    refine w_p (pc1 := 205) rfl rfl ?_
    refine w_m0 (pc1 := 208) (st1 := .long 28526 :: _) rfl rfl rfl rfl ?_
    refine w_p (pc1 := 209) (st1 := .int 1 :: _) rfl rfl ?_
    refine w_f (a := 252) (b := 212) rfl rfl rfl ?_
    refine w_p (pc1 := 213) rfl rfl ?_
    refine w_m0 (pc1 := 216) (st1 := .long 28530 :: _) rfl rfl rfl rfl ?_
    refine w_p (pc1 := 217) (st1 := .int 1 :: _) rfl rfl ?_
    refine w_f (a := 252) (b := 220) rfl rfl rfl ?_
    refine w_p (pc1 := 221) rfl rfl ?_
    refine w_m0 (pc1 := 224) (st1 := .long 31650994523828857 :: _) rfl rfl rfl rfl ?_
    refine w_p (pc1 := 225) (st1 := .int (-1) :: _) rfl rfl ?_
    refine w_f (a := 252) (b := 228) rfl rfl rfl ?_
    refine w_p (pc1 := 229) rfl rfl ?_
    refine w_m0 (pc1 := 232) (st1 := .long 491260572517 :: _) rfl rfl rfl rfl ?_
    refine w_p (pc1 := 233) (st1 := .int 1 :: _) rfl rfl ?_
    refine w_f (a := 252) (b := 236) rfl rfl rfl ?_
    refine w_p (pc1 := 237) rfl rfl ?_
    refine w_m0 (pc1 := 240) (st1 := .long 491327481202 :: _) rfl rfl rfl rfl ?_
    refine w_p (pc1 := 241) (st1 := .int 1 :: _) rfl rfl ?_
    refine w_f (a := 252) (b := 244) rfl rfl rfl ?_
    refine w_p (pc1 := 245) rfl rfl ?_
    refine w_m0 (pc1 := 248) (st1 := .long 7562612 :: _) rfl rfl rfl rfl ?_
    refine w_p (pc1 := 249) (st1 := .int 1 :: _) rfl rfl ?_
    refine w_t (a := 256) (b := 252) rfl rfl rfl ?_
    refine w_p (pc1 := 257) (st1 := .int 0 :: _) rfl rfl ?_
    refine w_p (pc1 := 259) (al1 := [(4, .int 0), (3, .int 0), (2, .int 0), (0, .long 129125580895333)]) rfl rfl ?_
    refine w_p (pc1 := 260) rfl rfl ?_
    refine w_f (a := 344) (b := 263) rfl rfl rfl ?_
    refine w_p (pc1 := 264) rfl rfl ?_
    refine w_f (a := 344) (b := 267) rfl rfl rfl ?_
    refine w_p (pc1 := 269) rfl rfl ?_
    refine w_f (a := 344) (b := 272) rfl rfl rfl ?_
    refine w_p (pc1 := 273) rfl rfl ?_
    refine w_m0 (pc1 := 276) (st1 := .long 1936682341 :: _) rfl rfl rfl rfl ?_
    refine w_p (pc1 := 277) (st1 := .int 1 :: _) rfl rfl ?_
    refine w_f (a := 344) (b := 280) rfl rfl rfl ?_
    refine w_p (pc1 := 281) rfl rfl ?_
    refine w_m0 (pc1 := 284) (st1 := .long 1937010544 :: _) rfl rfl rfl rfl ?_
    refine w_p (pc1 := 285) (st1 := .int 1 :: _) rfl rfl ?_
    refine w_f (a := 344) (b := 288) rfl rfl rfl ?_
    refine w_p (pc1 := 289) rfl rfl ?_
    refine w_m0 (pc1 := 292) (st1 := .long 499850046565 :: _) rfl rfl rfl rfl ?_
    refine w_p (pc1 := 293) (st1 := .int 1 :: _) rfl rfl ?_
    refine w_f (a := 344) (b := 296) rfl rfl rfl ?_
    refine w_p (pc1 := 297) rfl rfl ?_
    refine w_m0 (pc1 := 300) (st1 := .long 29807 :: _) rfl rfl rfl rfl ?_
    refine w_p (pc1 := 301) (st1 := .int 1 :: _) rfl rfl ?_
    refine w_f (a := 344) (b := 304) rfl rfl rfl ?_
    refine w_p (pc1 := 305) rfl rfl ?_
    refine w_m0 (pc1 := 308) (st1 := .long 32776894330398066 :: _) rfl rfl rfl rfl ?_
    refine w_p (pc1 := 309) (st1 := .int (-1) :: _) rfl rfl ?_
    refine w_f (a := 344) (b := 312) rfl rfl rfl ?_
    refine w_p (pc1 := 313) rfl rfl ?_
    refine w_m0 (pc1 := 316) (st1 := .long 129117075895653 :: _) rfl rfl rfl rfl ?_
    refine w_p (pc1 := 317) (st1 := .int 1 :: _) rfl rfl ?_
    refine w_f (a := 344) (b := 320) rfl rfl rfl ?_
    refine w_p (pc1 := 321) rfl rfl ?_
    refine w_m0 (pc1 := 324) (st1 := .long 129125580895333 :: _) rfl rfl rfl rfl ?_
    refine w_p (pc1 := 325) (st1 := .int 0 :: _) rfl rfl ?_
    refine w_t (a := 344) (b := 328) rfl rfl rfl ?_
    refine w_p (pc1 := 345) (st1 := .int 1 :: _) rfl rfl ?_
    refine w_p (pc1 := 349) rfl rfl ?_
    refine w_r rfl rfl rfl (fun _ _ => rfl) rfl ?_
    exact ⟨rfl, rfl, rfl⟩
  · skip
    refine w_p (pc1 := 1) rfl rfl ?_
    refine w_m0 (pc1 := 4) (st1 := .long 418330731890 :: _) rfl rfl rfl rfl ?_
    refine w_p (pc1 := 5) (st1 := .int (-1) :: _) rfl rfl ?_
    refine w_f (a := 80) (b := 8) rfl rfl rfl ?_
    refine w_p (pc1 := 9) rfl rfl ?_
    refine w_m0 (pc1 := 12) (st1 := .long 6384748 :: _) rfl rfl rfl rfl ?_
    refine w_p (pc1 := 13) (st1 := .int 1 :: _) rfl rfl ?_
    refine w_f (a := 80) (b := 16) rfl rfl rfl ?_
    refine w_p (pc1 := 17) rfl rfl ?_
    refine w_m0 (pc1 := 20) (st1 := .long 6385252 :: _) rfl rfl rfl rfl ?_
    refine w_p (pc1 := 21) (st1 := .int 1 :: _) rfl rfl ?_
    refine w_f (a := 80) (b := 24) rfl rfl rfl ?_
    refine w_p (pc1 := 25) rfl rfl ?_
    refine w_m0 (pc1 := 28) (st1 := .long 1650549611 :: _) rfl rfl rfl rfl ?_
    refine w_p (pc1 := 29) (st1 := .int 1 :: _) rfl rfl ?_
    refine w_f (a := 80) (b := 32) rfl rfl rfl ?_
    refine w_p (pc1 := 33) rfl rfl ?_
    refine w_m0 (pc1 := 36) (st1 := .long 108187649798757 :: _) rfl rfl rfl rfl ?_
    refine w_p (pc1 := 37) (st1 := .int (-1) :: _) rfl rfl ?_
    refine w_f (a := 80) (b := 40) rfl rfl rfl ?_
    refine w_p (pc1 := 41) rfl rfl ?_
    refine w_m0 (pc1 := 44) (st1 := .long 422608071022 :: _) rfl rfl rfl rfl ?_
    refine w_p (pc1 := 45) (st1 := .int (-1) :: _) rfl rfl ?_
    refine w_f (a := 80) (b := 48) rfl rfl rfl ?_
    refine w_p (pc1 := 49) rfl rfl ?_
    refine w_m0 (pc1 := 52) (st1 := .long 27973170910815333 :: _) rfl rfl rfl rfl ?_
    refine w_p (pc1 := 53) (st1 := .int (-1) :: _) rfl rfl ?_
    refine w_f (a := 80) (b := 56) rfl rfl rfl ?_
    refine w_p (pc1 := 57) rfl rfl ?_
    refine w_m0 (pc1 := 60) (st1 := .long 426953237355 :: _) rfl rfl rfl rfl ?_
    refine w_p (pc1 := 61) (st1 := .int (-1) :: _) rfl rfl ?_
    refine w_f (a := 80) (b := 64) rfl rfl rfl ?_
    refine w_p (pc1 := 65) rfl rfl ?_
    refine w_m0 (pc1 := 68) (st1 := .long 109330228406644 :: _) rfl rfl rfl rfl ?_
    refine w_p (pc1 := 69) (st1 := .int (-1) :: _) rfl rfl ?_
    refine w_f (a := 80) (b := 72) rfl rfl rfl ?_
    refine w_p (pc1 := 73) rfl rfl ?_
    refine w_m0 (pc1 := 76) (st1 := .long 28258988067220596 :: _) rfl rfl rfl rfl ?_
    refine w_p (pc1 := 77) (st1 := .int (-1) :: _) rfl rfl ?_
    refine w_t (a := 84) (b := 80) rfl rfl rfl ?_
    refine w_p (pc1 := 85) (st1 := .int 0 :: _) rfl rfl ?_
    refine w_p (pc1 := 86) (al1 := [(2, .int 0), (0, .long 2003330414)]) rfl rfl ?_
    refine w_p (pc1 := 87) rfl rfl ?_
    refine w_m0 (pc1 := 90) (st1 := .long 110386773062757 :: _) rfl rfl rfl rfl ?_
    refine w_p (pc1 := 91) (st1 := .int (-1) :: _) rfl rfl ?_
    refine w_f (a := 166) (b := 94) rfl rfl rfl ?_
    refine w_p (pc1 := 95) rfl rfl ?_
    refine w_m0 (pc1 := 98) (st1 := .long 25711 :: _) rfl rfl rfl rfl ?_
    refine w_p (pc1 := 99) (st1 := .int 1 :: _) rfl rfl ?_
    refine w_f (a := 166) (b := 102) rfl rfl rfl ?_
    refine w_p (pc1 := 103) rfl rfl ?_
    refine w_m0 (pc1 := 106) (st1 := .long 1685221232 :: _) rfl rfl rfl rfl ?_
    refine w_p (pc1 := 107) (st1 := .int 1 :: _) rfl rfl ?_
    refine w_f (a := 166) (b := 110) rfl rfl rfl ?_
    refine w_p (pc1 := 111) rfl rfl ?_
    refine w_m0 (pc1 := 114) (st1 := .long 115923103347316 :: _) rfl rfl rfl rfl ?_
    refine w_p (pc1 := 115) (st1 := .int (-1) :: _) rfl rfl ?_
    refine w_f (a := 166) (b := 118) rfl rfl rfl ?_
    refine w_p (pc1 := 119) rfl rfl ?_
    refine w_m0 (pc1 := 122) (st1 := .long 26995 :: _) rfl rfl rfl rfl ?_
    refine w_p (pc1 := 123) (st1 := .int 1 :: _) rfl rfl ?_
    refine w_f (a := 166) (b := 126) rfl rfl rfl ?_
    refine w_p (pc1 := 127) rfl rfl ?_
    refine w_m0 (pc1 := 130) (st1 := .long 1818326117 :: _) rfl rfl rfl rfl ?_
    refine w_p (pc1 := 131) (st1 := .int 1 :: _) rfl rfl ?_
    refine w_f (a := 166) (b := 134) rfl rfl rfl ?_
    refine w_p (pc1 := 135) rfl rfl ?_
    refine w_m0 (pc1 := 138) (st1 := .long 7103860 :: _) rfl rfl rfl rfl ?_
    refine w_p (pc1 := 139) (st1 := .int 1 :: _) rfl rfl ?_
    refine w_f (a := 166) (b := 142) rfl rfl rfl ?_
    refine w_p (pc1 := 143) rfl rfl ?_
    refine w_m0 (pc1 := 146) (st1 := .long 1835102827 :: _) rfl rfl rfl rfl ?_
    refine w_p (pc1 := 147) (st1 := .int 1 :: _) rfl rfl ?_
    refine w_f (a := 166) (b := 150) rfl rfl rfl ?_
    refine w_p (pc1 := 151) rfl rfl ?_
    refine w_m0 (pc1 := 154) (st1 := .long 1836413812 :: _) rfl rfl rfl rfl ?_
    refine w_p (pc1 := 155) (st1 := .int 1 :: _) rfl rfl ?_
    refine w_f (a := 166) (b := 158) rfl rfl rfl ?_
    refine w_p (pc1 := 159) rfl rfl ?_
    refine w_m0 (pc1 := 162) (st1 := .long 7234935 :: _) rfl rfl rfl rfl ?_
    refine w_p (pc1 := 163) (st1 := .int 1 :: _) rfl rfl ?_
    refine w_t (a := 170) (b := 166) rfl rfl rfl ?_
    refine w_p (pc1 := 171) (st1 := .int 0 :: _) rfl rfl ?_
    refine w_p (pc1 := 172) (al1 := [(3, .int 0), (2, .int 0), (0, .long 2003330414)]) rfl rfl ?_
    refine w_p (pc1 := 173) rfl rfl ?_
    refine w_m0 (pc1 := 176) (st1 := .long 7237492 :: _) rfl rfl rfl rfl ?_
    refine w_p (pc1 := 177) (st1 := .int 1 :: _) rfl rfl ?_
    refine w_f (a := 252) (b := 180) rfl rfl rfl ?_
    refine w_p (pc1 := 181) rfl rfl ?_
    refine w_m0 (pc1 := 184) (st1 := .long 7237495 :: _) rfl rfl rfl rfl ?_
    refine w_p (pc1 := 185) (st1 := .int 1 :: _) rfl rfl ?_
    refine w_f (a := 252) (b := 188) rfl rfl rfl ?_
    refine w_p (pc1 := 189) rfl rfl ?_
    refine w_m0 (pc1 := 192) (st1 := .long 1853189228 :: _) rfl rfl rfl rfl ?_
    refine w_p (pc1 := 193) (st1 := .int 1 :: _) rfl rfl ?_
    refine w_f (a := 252) (b := 196) rfl rfl rfl ?_
    refine w_p (pc1 := 197) rfl rfl ?_
    refine w_m0 (pc1 := 200) (st1 := .long 7302244 :: _) rfl rfl rfl rfl ?_
    refine w_p (pc1 := 201) (st1 := .int 1 :: _) rfl rfl ?_
    refine w_f (a := 252) (b := 204) rfl rfl rfl ?_
    refine w_p (pc1 := 205) rfl rfl ?_
    refine w_m0 (pc1 := 208) (st1 := .long 28526 :: _) rfl rfl rfl rfl ?_
    refine w_p (pc1 := 209) (st1 := .int 1 :: _) rfl rfl ?_
    refine w_f (a := 252) (b := 212) rfl rfl rfl ?_
    refine w_p (pc1 := 213) rfl rfl ?_
    refine w_m0 (pc1 := 216) (st1 := .long 28530 :: _) rfl rfl rfl rfl ?_
    refine w_p (pc1 := 217) (st1 := .int 1 :: _) rfl rfl ?_
    refine w_f (a := 252) (b := 220) rfl rfl rfl ?_
    refine w_p (pc1 := 221) rfl rfl ?_
    refine w_m0 (pc1 := 224) (st1 := .long 31650994523828857 :: _) rfl rfl rfl rfl ?_
    refine w_p (pc1 := 225) (st1 := .int (-1) :: _) rfl rfl ?_
    refine w_f (a := 252) (b := 228) rfl rfl rfl ?_
    refine w_p (pc1 := 229) rfl rfl ?_
    refine w_m0 (pc1 := 232) (st1 := .long 491260572517 :: _) rfl rfl rfl rfl ?_
    refine w_p (pc1 := 233) (st1 := .int (-1) :: _) rfl rfl ?_
    refine w_f (a := 252) (b := 236) rfl rfl rfl ?_
    refine w_p (pc1 := 237) rfl rfl ?_
    refine w_m0 (pc1 := 240) (st1 := .long 491327481202 :: _) rfl rfl rfl rfl ?_
    refine w_p (pc1 := 241) (st1 := .int (-1) :: _) rfl rfl ?_
    refine w_f (a := 252) (b := 244) rfl rfl rfl ?_
    refine w_p (pc1 := 245) rfl rfl ?_
    refine w_m0 (pc1 := 248) (st1 := .long 7562612 :: _) rfl rfl rfl rfl ?_
    refine w_p (pc1 := 249) (st1 := .int 1 :: _) rfl rfl ?_
    refine w_t (a := 256) (b := 252) rfl rfl rfl ?_
    refine w_p (pc1 := 257) (st1 := .int 0 :: _) rfl rfl ?_
    refine w_p (pc1 := 259) (al1 := [(4, .int 0), (3, .int 0), (2, .int 0), (0, .long 2003330414)]) rfl rfl ?_
    refine w_p (pc1 := 260) rfl rfl ?_
    refine w_f (a := 344) (b := 263) rfl rfl rfl ?_
    refine w_p (pc1 := 264) rfl rfl ?_
    refine w_f (a := 344) (b := 267) rfl rfl rfl ?_
    refine w_p (pc1 := 269) rfl rfl ?_
    refine w_f (a := 344) (b := 272) rfl rfl rfl ?_
    refine w_p (pc1 := 273) rfl rfl ?_
    refine w_m0 (pc1 := 276) (st1 := .long 1936682341 :: _) rfl rfl rfl rfl ?_
    refine w_p (pc1 := 277) (st1 := .int 1 :: _) rfl rfl ?_
    refine w_f (a := 344) (b := 280) rfl rfl rfl ?_
    refine w_p (pc1 := 281) rfl rfl ?_
    refine w_m0 (pc1 := 284) (st1 := .long 1937010544 :: _) rfl rfl rfl rfl ?_
    refine w_p (pc1 := 285) (st1 := .int 1 :: _) rfl rfl ?_
    refine w_f (a := 344) (b := 288) rfl rfl rfl ?_
    refine w_p (pc1 := 289) rfl rfl ?_
    refine w_m0 (pc1 := 292) (st1 := .long 499850046565 :: _) rfl rfl rfl rfl ?_
    refine w_p (pc1 := 293) (st1 := .int (-1) :: _) rfl rfl ?_
    refine w_f (a := 344) (b := 296) rfl rfl rfl ?_
    refine w_p (pc1 := 297) rfl rfl ?_
    refine w_m0 (pc1 := 300) (st1 := .long 29807 :: _) rfl rfl rfl rfl ?_
    refine w_p (pc1 := 301) (st1 := .int 1 :: _) rfl rfl ?_
    refine w_f (a := 344) (b := 304) rfl rfl rfl ?_
    refine w_p (pc1 := 305) rfl rfl ?_
    refine w_m0 (pc1 := 308) (st1 := .long 32776894330398066 :: _) rfl rfl rfl rfl ?_
    refine w_p (pc1 := 309) (st1 := .int (-1) :: _) rfl rfl ?_
    refine w_f (a := 344) (b := 312) rfl rfl rfl ?_
    refine w_p (pc1 := 313) rfl rfl ?_
    refine w_m0 (pc1 := 316) (st1 := .long 129117075895653 :: _) rfl rfl rfl rfl ?_
    refine w_p (pc1 := 317) (st1 := .int (-1) :: _) rfl rfl ?_
    refine w_f (a := 344) (b := 320) rfl rfl rfl ?_
    refine w_p (pc1 := 321) rfl rfl ?_
    refine w_m0 (pc1 := 324) (st1 := .long 129125580895333 :: _) rfl rfl rfl rfl ?_
    refine w_p (pc1 := 325) (st1 := .int (-1) :: _) rfl rfl ?_
    refine w_f (a := 344) (b := 328) rfl rfl rfl ?_
    refine w_p (pc1 := 329) rfl rfl ?_
    refine w_m0 (pc1 := 332) (st1 := .long 2003330414 :: _) rfl rfl rfl rfl ?_
    refine w_p (pc1 := 333) (st1 := .int 0 :: _) rfl rfl ?_
    refine w_t (a := 344) (b := 336) rfl rfl rfl ?_
    refine w_p (pc1 := 345) (st1 := .int 1 :: _) rfl rfl ?_
    refine w_p (pc1 := 349) rfl rfl ?_
    refine w_r rfl rfl rfl (fun _ _ => rfl) rfl ?_
    exact ⟨rfl, rfl, rfl⟩
  · skip
    refine w_p (pc1 := 1) rfl rfl ?_
    refine w_m0 (pc1 := 4) (st1 := .long 418330731890 :: _) rfl rfl rfl rfl ?_
    refine w_p (pc1 := 5) (st1 := .int 1 :: _) rfl rfl ?_
    refine w_f (a := 80) (b := 8) rfl rfl rfl ?_
    refine w_p (pc1 := 9) rfl rfl ?_
    refine w_m0 (pc1 := 12) (st1 := .long 6384748 :: _) rfl rfl rfl rfl ?_
    refine w_p (pc1 := 13) (st1 := .int 1 :: _) rfl rfl ?_
    refine w_f (a := 80) (b := 16) rfl rfl rfl ?_
    refine w_p (pc1 := 17) rfl rfl ?_
    refine w_m0 (pc1 := 20) (st1 := .long 6385252 :: _) rfl rfl rfl rfl ?_
    refine w_p (pc1 := 21) (st1 := .int 1 :: _) rfl rfl ?_
    refine w_f (a := 80) (b := 24) rfl rfl rfl ?_
    refine w_p (pc1 := 25) rfl rfl ?_
    refine w_m0 (pc1 := 28) (st1 := .long 1650549611 :: _) rfl rfl rfl rfl ?_
    refine w_p (pc1 := 29) (st1 := .int 1 :: _) rfl rfl ?_
    refine w_f (a := 80) (b := 32) rfl rfl rfl ?_
    refine w_p (pc1 := 33) rfl rfl ?_
    refine w_m0 (pc1 := 36) (st1 := .long 108187649798757 :: _) rfl rfl rfl rfl ?_
    refine w_p (pc1 := 37) (st1 := .int (-1) :: _) rfl rfl ?_
    refine w_f (a := 80) (b := 40) rfl rfl rfl ?_
    refine w_p (pc1 := 41) rfl rfl ?_
    refine w_m0 (pc1 := 44) (st1 := .long 422608071022 :: _) rfl rfl rfl rfl ?_
    refine w_p (pc1 := 45) (st1 := .int 1 :: _) rfl rfl ?_
    refine w_f (a := 80) (b := 48) rfl rfl rfl ?_
    refine w_p (pc1 := 49) rfl rfl ?_
    refine w_m0 (pc1 := 52) (st1 := .long 27973170910815333 :: _) rfl rfl rfl rfl ?_
    refine w_p (pc1 := 53) (st1 := .int (-1) :: _) rfl rfl ?_
    refine w_f (a := 80) (b := 56) rfl rfl rfl ?_
    refine w_p (pc1 := 57) rfl rfl ?_
    refine w_m0 (pc1 := 60) (st1 := .long 426953237355 :: _) rfl rfl rfl rfl ?_
    refine w_p (pc1 := 61) (st1 := .int 1 :: _) rfl rfl ?_
    refine w_f (a := 80) (b := 64) rfl rfl rfl ?_
    refine w_p (pc1 := 65) rfl rfl ?_
    refine w_m0 (pc1 := 68) (st1 := .long 109330228406644 :: _) rfl rfl rfl rfl ?_
    refine w_p (pc1 := 69) (st1 := .int (-1) :: _) rfl rfl ?_
    refine w_f (a := 80) (b := 72) rfl rfl rfl ?_
    refine w_p (pc1 := 73) rfl rfl ?_
    refine w_m0 (pc1 := 76) (st1 := .long 28258988067220596 :: _) rfl rfl rfl rfl ?_
    refine w_p (pc1 := 77) (st1 := .int (-1) :: _) rfl rfl ?_
    refine w_t (a := 84) (b := 80) rfl rfl rfl ?_
    refine w_p (pc1 := 85) (st1 := .int 0 :: _) rfl rfl ?_
    refine w_p (pc1 := 86) (al1 := [(2, .int 0), (0, .long 512852587109)]) rfl rfl ?_
    refine w_p (pc1 := 87) rfl rfl ?_
    refine w_m0 (pc1 := 90) (st1 := .long 110386773062757 :: _) rfl rfl rfl rfl ?_
    refine w_p (pc1 := 91) (st1 := .int (-1) :: _) rfl rfl ?_
    refine w_f (a := 166) (b := 94) rfl rfl rfl ?_
    refine w_p (pc1 := 95) rfl rfl ?_
    refine w_m0 (pc1 := 98) (st1 := .long 25711 :: _) rfl rfl rfl rfl ?_
    refine w_p (pc1 := 99) (st1 := .int 1 :: _) rfl rfl ?_
    refine w_f (a := 166) (b := 102) rfl rfl rfl ?_
    refine w_p (pc1 := 103) rfl rfl ?_
    refine w_m0 (pc1 := 106) (st1 := .long 1685221232 :: _) rfl rfl rfl rfl ?_
    refine w_p (pc1 := 107) (st1 := .int 1 :: _) rfl rfl ?_
    refine w_f (a := 166) (b := 110) rfl rfl rfl ?_
    refine w_p (pc1 := 111) rfl rfl ?_
    refine w_m0 (pc1 := 114) (st1 := .long 115923103347316 :: _) rfl rfl rfl rfl ?_
    refine w_p (pc1 := 115) (st1 := .int (-1) :: _) rfl rfl ?_
    refine w_f (a := 166) (b := 118) rfl rfl rfl ?_
    refine w_p (pc1 := 119) rfl rfl ?_
    refine w_m0 (pc1 := 122) (st1 := .long 26995 :: _) rfl rfl rfl rfl ?_
    refine w_p (pc1 := 123) (st1 := .int 1 :: _) rfl rfl ?_
    refine w_f (a := 166) (b := 126) rfl rfl rfl ?_
    refine w_p (pc1 := 127) rfl rfl ?_
    refine w_m0 (pc1 := 130) (st1 := .long 1818326117 :: _) rfl rfl rfl rfl ?_
    refine w_p (pc1 := 131) (st1 := .int 1 :: _) rfl rfl ?_
    refine w_f (a := 166) (b := 134) rfl rfl rfl ?_
    refine w_p (pc1 := 135) rfl rfl ?_
    refine w_m0 (pc1 := 138) (st1 := .long 7103860 :: _) rfl rfl rfl rfl ?_
    refine w_p (pc1 := 139) (st1 := .int 1 :: _) rfl rfl ?_
    refine w_f (a := 166) (b := 142) rfl rfl rfl ?_
    refine w_p (pc1 := 143) rfl rfl ?_
    refine w_m0 (pc1 := 146) (st1 := .long 1835102827 :: _) rfl rfl rfl rfl ?_
    refine w_p (pc1 := 147) (st1 := .int 1 :: _) rfl rfl ?_
    refine w_f (a := 166) (b := 150) rfl rfl rfl ?_
    refine w_p (pc1 := 151) rfl rfl ?_
    refine w_m0 (pc1 := 154) (st1 := .long 1836413812 :: _) rfl rfl rfl rfl ?_
    refine w_p (pc1 := 155) (st1 := .int 1 :: _) rfl rfl ?_
    refine w_f (a := 166) (b := 158) rfl rfl rfl ?_
    refine w_p (pc1 := 159) rfl rfl ?_
    refine w_m0 (pc1 := 162) (st1 := .long 7234935 :: _) rfl rfl rfl rfl ?_
    refine w_p (pc1 := 163) (st1 := .int 1 :: _) rfl rfl ?_
    refine w_t (a := 170) (b := 166) rfl rfl rfl ?_
    refine w_p (pc1 := 171) (st1 := .int 0 :: _) rfl rfl ?_
    refine w_p (pc1 := 172) (al1 := [(3, .int 0), (2, .int 0), (0, .long 512852587109)]) rfl rfl ?_
    refine w_p (pc1 := 173) rfl rfl ?_
    refine w_m0 (pc1 := 176) (st1 := .long 7237492 :: _) rfl rfl rfl rfl ?_
    refine w_p (pc1 := 177) (st1 := .int 1 :: _) rfl rfl ?_
    refine w_f (a := 252) (b := 180) rfl rfl rfl ?_
    refine w_p (pc1 := 181) rfl rfl ?_
    refine w_m0 (pc1 := 184) (st1 := .long 7237495 :: _) rfl rfl rfl rfl ?_
    refine w_p (pc1 := 185) (st1 := .int 1 :: _) rfl rfl ?_
    refine w_f (a := 252) (b := 188) rfl rfl rfl ?_
    refine w_p (pc1 := 189) rfl rfl ?_
    refine w_m0 (pc1 := 192) (st1 := .long 1853189228 :: _) rfl rfl rfl rfl ?_
    refine w_p (pc1 := 193) (st1 := .int 1 :: _) rfl rfl ?_
    refine w_f (a := 252) (b := 196) rfl rfl rfl ?_
    refine w_p (pc1 := 197) rfl rfl ?_
    refine w_m0 (pc1 := 200) (st1 := .long 7302244 :: _) rfl rfl rfl rfl ?_
    refine w_p (pc1 := 201) (st1 := .int 1 :: _) rfl rfl ?_
    refine w_f (a := 252) (b := 204) rfl rfl rfl ?_
    refine w_p (pc1 := 205) rfl rfl ?_
    refine w_m0 (pc1 := 208) (st1 := .long 28526 :: _) rfl rfl rfl rfl ?_
    refine w_p (pc1 := 209) (st1 := .int 1 :: _) rfl rfl ?_
    refine w_f (a := 252) (b := 212) rfl rfl rfl ?_
    refine w_p (pc1 := 213) rfl rfl ?_
    refine w_m0 (pc1 := 216) (st1 := .long 28530 :: _) rfl rfl rfl rfl ?_
    refine w_p (pc1 := 217) (st1 := .int 1 :: _) rfl rfl ?_
    refine w_f (a := 252) (b := 220) rfl rfl rfl ?_
    refine w_p (pc1 := 221) rfl rfl ?_
    refine w_m0 (pc1 := 224) (st1 := .long 31650994523828857 :: _) rfl rfl rfl rfl ?_
    refine w_p (pc1 := 225) (st1 := .int (-1) :: _) rfl rfl ?_
    refine w_f (a := 252) (b := 228) rfl rfl rfl ?_
    refine w_p (pc1 := 229) rfl rfl ?_
    refine w_m0 (pc1 := 232) (st1 := .long 491260572517 :: _) rfl rfl rfl rfl ?_
    refine w_p (pc1 := 233) (st1 := .int 1 :: _) rfl rfl ?_
    refine w_f (a := 252) (b := 236) rfl rfl rfl ?_
    refine w_p (pc1 := 237) rfl rfl ?_
    refine w_m0 (pc1 := 240) (st1 := .long 491327481202 :: _) rfl rfl rfl rfl ?_
    refine w_p (pc1 := 241) (st1 := .int 1 :: _) rfl rfl ?_
    refine w_f (a := 252) (b := 244) rfl rfl rfl ?_
    refine w_p (pc1 := 245) rfl rfl ?_
    refine w_m0 (pc1 := 248) (st1 := .long 7562612 :: _) rfl rfl rfl rfl ?_
    refine w_p (pc1 := 249) (st1 := .int 1 :: _) rfl rfl ?_
    refine w_t (a := 256) (b := 252) rfl rfl rfl ?_
    refine w_p (pc1 := 257) (st1 := .int 0 :: _) rfl rfl ?_
    refine w_p (pc1 := 259) (al1 := [(4, .int 0), (3, .int 0), (2, .int 0), (0, .long 512852587109)]) rfl rfl ?_
    refine w_p (pc1 := 260) rfl rfl ?_
    refine w_f (a := 344) (b := 263) rfl rfl rfl ?_
    refine w_p (pc1 := 264) rfl rfl ?_
    refine w_f (a := 344) (b := 267) rfl rfl rfl ?_
    refine w_p (pc1 := 269) rfl rfl ?_
    refine w_f (a := 344) (b := 272) rfl rfl rfl ?_
    refine w_p (pc1 := 273) rfl rfl ?_
    refine w_m0 (pc1 := 276) (st1 := .long 1936682341 :: _) rfl rfl rfl rfl ?_
    refine w_p (pc1 := 277) (st1 := .int 1 :: _) rfl rfl ?_
    refine w_f (a := 344) (b := 280) rfl rfl rfl ?_
    refine w_p (pc1 := 281) rfl rfl ?_
    refine w_m0 (pc1 := 284) (st1 := .long 1937010544 :: _) rfl rfl rfl rfl ?_
    refine w_p (pc1 := 285) (st1 := .int 1 :: _) rfl rfl ?_
    refine w_f (a := 344) (b := 288) rfl rfl rfl ?_
    refine w_p (pc1 := 289) rfl rfl ?_
    refine w_m0 (pc1 := 292) (st1 := .long 499850046565 :: _) rfl rfl rfl rfl ?_
    refine w_p (pc1 := 293) (st1 := .int 1 :: _) rfl rfl ?_
    refine w_f (a := 344) (b := 296) rfl rfl rfl ?_
    refine w_p (pc1 := 297) rfl rfl ?_
    refine w_m0 (pc1 := 300) (st1 := .long 29807 :: _) rfl rfl rfl rfl ?_
    refine w_p (pc1 := 301) (st1 := .int 1 :: _) rfl rfl ?_
    refine w_f (a := 344) (b := 304) rfl rfl rfl ?_
    refine w_p (pc1 := 305) rfl rfl ?_
    refine w_m0 (pc1 := 308) (st1 := .long 32776894330398066 :: _) rfl rfl rfl rfl ?_
    refine w_p (pc1 := 309) (st1 := .int (-1) :: _) rfl rfl ?_
    refine w_f (a := 344) (b := 312) rfl rfl rfl ?_
    refine w_p (pc1 := 313) rfl rfl ?_
    refine w_m0 (pc1 := 316) (st1 := .long 129117075895653 :: _) rfl rfl rfl rfl ?_
    refine w_p (pc1 := 317) (st1 := .int (-1) :: _) rfl rfl ?_
    refine w_f (a := 344) (b := 320) rfl rfl rfl ?_
    refine w_p (pc1 := 321) rfl rfl ?_
    refine w_m0 (pc1 := 324) (st1 := .long 129125580895333 :: _) rfl rfl rfl rfl ?_
    refine w_p (pc1 := 325) (st1 := .int (-1) :: _) rfl rfl ?_
    refine w_f (a := 344) (b := 328) rfl rfl rfl ?_
    refine w_p (pc1 := 329) rfl rfl ?_
    refine w_m0 (pc1 := 332) (st1 := .long 2003330414 :: _) rfl rfl rfl rfl ?_
    refine w_p (pc1 := 333) (st1 := .int 1 :: _) rfl rfl ?_
    refine w_f (a := 344) (b := 336) rfl rfl rfl ?_
    refine w_p (pc1 := 337) rfl rfl ?_
    refine w_m0 (pc1 := 340) (st1 := .long 512852587109 :: _) rfl rfl rfl rfl ?_
    refine w_p (pc1 := 341) (st1 := .int 0 :: _) rfl rfl ?_
    refine w_f (a := 348) (b := 344) rfl rfl rfl ?_
    refine w_p (pc1 := 345) (st1 := .int 1 :: _) rfl rfl ?_
    refine w_p (pc1 := 349) rfl rfl ?_
    refine w_r rfl rfl rfl (fun _ _ => rfl) rfl ?_
    exact ⟨rfl, rfl, rfl⟩
set_option maxRecDepth 100000 in
theorem m_202f {w : Int64} (hw : isWd w = false) : Wd L xs d y_202 (0, [(0, .long w)], [], h, sl) (Rt (some (.int 0)) h sl) nX := by
  have hn : ∀ z : Int64, isWd z = true → w ≠ z := fun z hz e => by rw [e, hz] at hw; cases hw
  refine w_p (pc1 := 1) rfl rfl ?_
  refine w_m0 (pc1 := 4) (st1 := .long 418330731890 :: _) rfl rfl rfl rfl ?_
  refine w_p (pc1 := 5) rfl rfl ?_
  refine w_f (a := 80) (b := 8) (lb_eq_f (by exact hn 418330731890 (by decide))) rfl rfl ?_
  refine w_p (pc1 := 9) rfl rfl ?_
  refine w_m0 (pc1 := 12) (st1 := .long 6384748 :: _) rfl rfl rfl rfl ?_
  refine w_p (pc1 := 13) rfl rfl ?_
  refine w_f (a := 80) (b := 16) (lb_eq_f (by exact hn 6384748 (by decide))) rfl rfl ?_
  refine w_p (pc1 := 17) rfl rfl ?_
  refine w_m0 (pc1 := 20) (st1 := .long 6385252 :: _) rfl rfl rfl rfl ?_
  refine w_p (pc1 := 21) rfl rfl ?_
  refine w_f (a := 80) (b := 24) (lb_eq_f (by exact hn 6385252 (by decide))) rfl rfl ?_
  refine w_p (pc1 := 25) rfl rfl ?_
  refine w_m0 (pc1 := 28) (st1 := .long 1650549611 :: _) rfl rfl rfl rfl ?_
  refine w_p (pc1 := 29) rfl rfl ?_
  refine w_f (a := 80) (b := 32) (lb_eq_f (by exact hn 1650549611 (by decide))) rfl rfl ?_
  refine w_p (pc1 := 33) rfl rfl ?_
  refine w_m0 (pc1 := 36) (st1 := .long 108187649798757 :: _) rfl rfl rfl rfl ?_
  refine w_p (pc1 := 37) rfl rfl ?_
  refine w_f (a := 80) (b := 40) (lb_eq_f (by exact hn 108187649798757 (by decide))) rfl rfl ?_
  refine w_p (pc1 := 41) rfl rfl ?_
  refine w_m0 (pc1 := 44) (st1 := .long 422608071022 :: _) rfl rfl rfl rfl ?_
  refine w_p (pc1 := 45) rfl rfl ?_
  refine w_f (a := 80) (b := 48) (lb_eq_f (by exact hn 422608071022 (by decide))) rfl rfl ?_
  refine w_p (pc1 := 49) rfl rfl ?_
  refine w_m0 (pc1 := 52) (st1 := .long 27973170910815333 :: _) rfl rfl rfl rfl ?_
  refine w_p (pc1 := 53) rfl rfl ?_
  refine w_f (a := 80) (b := 56) (lb_eq_f (by exact hn 27973170910815333 (by decide))) rfl rfl ?_
  refine w_p (pc1 := 57) rfl rfl ?_
  refine w_m0 (pc1 := 60) (st1 := .long 426953237355 :: _) rfl rfl rfl rfl ?_
  refine w_p (pc1 := 61) rfl rfl ?_
  refine w_f (a := 80) (b := 64) (lb_eq_f (by exact hn 426953237355 (by decide))) rfl rfl ?_
  refine w_p (pc1 := 65) rfl rfl ?_
  refine w_m0 (pc1 := 68) (st1 := .long 109330228406644 :: _) rfl rfl rfl rfl ?_
  refine w_p (pc1 := 69) rfl rfl ?_
  refine w_f (a := 80) (b := 72) (lb_eq_f (by exact hn 109330228406644 (by decide))) rfl rfl ?_
  refine w_p (pc1 := 73) rfl rfl ?_
  refine w_m0 (pc1 := 76) (st1 := .long 28258988067220596 :: _) rfl rfl rfl rfl ?_
  refine w_p (pc1 := 77) rfl rfl ?_
  refine w_t (a := 84) (b := 80) (lb_ne_t (by exact hn 28258988067220596 (by decide))) rfl rfl ?_
  refine w_p (pc1 := 85) (st1 := .int 0 :: _) rfl rfl ?_
  refine w_p (pc1 := 86) (al1 := [(2, .int 0), (0, .long (w))]) rfl rfl ?_
  refine w_p (pc1 := 87) rfl rfl ?_
  refine w_m0 (pc1 := 90) (st1 := .long 110386773062757 :: _) rfl rfl rfl rfl ?_
  refine w_p (pc1 := 91) rfl rfl ?_
  refine w_f (a := 166) (b := 94) (lb_eq_f (by exact hn 110386773062757 (by decide))) rfl rfl ?_
  refine w_p (pc1 := 95) rfl rfl ?_
  refine w_m0 (pc1 := 98) (st1 := .long 25711 :: _) rfl rfl rfl rfl ?_
  refine w_p (pc1 := 99) rfl rfl ?_
  refine w_f (a := 166) (b := 102) (lb_eq_f (by exact hn 25711 (by decide))) rfl rfl ?_
  refine w_p (pc1 := 103) rfl rfl ?_
  refine w_m0 (pc1 := 106) (st1 := .long 1685221232 :: _) rfl rfl rfl rfl ?_
  refine w_p (pc1 := 107) rfl rfl ?_
  refine w_f (a := 166) (b := 110) (lb_eq_f (by exact hn 1685221232 (by decide))) rfl rfl ?_
  refine w_p (pc1 := 111) rfl rfl ?_
  refine w_m0 (pc1 := 114) (st1 := .long 115923103347316 :: _) rfl rfl rfl rfl ?_
  refine w_p (pc1 := 115) rfl rfl ?_
  refine w_f (a := 166) (b := 118) (lb_eq_f (by exact hn 115923103347316 (by decide))) rfl rfl ?_
  refine w_p (pc1 := 119) rfl rfl ?_
  refine w_m0 (pc1 := 122) (st1 := .long 26995 :: _) rfl rfl rfl rfl ?_
  refine w_p (pc1 := 123) rfl rfl ?_
  refine w_f (a := 166) (b := 126) (lb_eq_f (by exact hn 26995 (by decide))) rfl rfl ?_
  refine w_p (pc1 := 127) rfl rfl ?_
  refine w_m0 (pc1 := 130) (st1 := .long 1818326117 :: _) rfl rfl rfl rfl ?_
  refine w_p (pc1 := 131) rfl rfl ?_
  refine w_f (a := 166) (b := 134) (lb_eq_f (by exact hn 1818326117 (by decide))) rfl rfl ?_
  refine w_p (pc1 := 135) rfl rfl ?_
  refine w_m0 (pc1 := 138) (st1 := .long 7103860 :: _) rfl rfl rfl rfl ?_
  refine w_p (pc1 := 139) rfl rfl ?_
  refine w_f (a := 166) (b := 142) (lb_eq_f (by exact hn 7103860 (by decide))) rfl rfl ?_
  refine w_p (pc1 := 143) rfl rfl ?_
  refine w_m0 (pc1 := 146) (st1 := .long 1835102827 :: _) rfl rfl rfl rfl ?_
  refine w_p (pc1 := 147) rfl rfl ?_
  refine w_f (a := 166) (b := 150) (lb_eq_f (by exact hn 1835102827 (by decide))) rfl rfl ?_
  refine w_p (pc1 := 151) rfl rfl ?_
  refine w_m0 (pc1 := 154) (st1 := .long 1836413812 :: _) rfl rfl rfl rfl ?_
  refine w_p (pc1 := 155) rfl rfl ?_
  refine w_f (a := 166) (b := 158) (lb_eq_f (by exact hn 1836413812 (by decide))) rfl rfl ?_
  refine w_p (pc1 := 159) rfl rfl ?_
  refine w_m0 (pc1 := 162) (st1 := .long 7234935 :: _) rfl rfl rfl rfl ?_
  refine w_p (pc1 := 163) rfl rfl ?_
  refine w_t (a := 170) (b := 166) (lb_ne_t (by exact hn 7234935 (by decide))) rfl rfl ?_
  refine w_p (pc1 := 171) (st1 := .int 0 :: _) rfl rfl ?_
  refine w_p (pc1 := 172) (al1 := [(3, .int 0), (2, .int 0), (0, .long (w))]) rfl rfl ?_
  refine w_p (pc1 := 173) rfl rfl ?_
  refine w_m0 (pc1 := 176) (st1 := .long 7237492 :: _) rfl rfl rfl rfl ?_
  refine w_p (pc1 := 177) rfl rfl ?_
  refine w_f (a := 252) (b := 180) (lb_eq_f (by exact hn 7237492 (by decide))) rfl rfl ?_
  refine w_p (pc1 := 181) rfl rfl ?_
  refine w_m0 (pc1 := 184) (st1 := .long 7237495 :: _) rfl rfl rfl rfl ?_
  refine w_p (pc1 := 185) rfl rfl ?_
  refine w_f (a := 252) (b := 188) (lb_eq_f (by exact hn 7237495 (by decide))) rfl rfl ?_
  refine w_p (pc1 := 189) rfl rfl ?_
  refine w_m0 (pc1 := 192) (st1 := .long 1853189228 :: _) rfl rfl rfl rfl ?_
  refine w_p (pc1 := 193) rfl rfl ?_
  refine w_f (a := 252) (b := 196) (lb_eq_f (by exact hn 1853189228 (by decide))) rfl rfl ?_
  refine w_p (pc1 := 197) rfl rfl ?_
  refine w_m0 (pc1 := 200) (st1 := .long 7302244 :: _) rfl rfl rfl rfl ?_
  refine w_p (pc1 := 201) rfl rfl ?_
  refine w_f (a := 252) (b := 204) (lb_eq_f (by exact hn 7302244 (by decide))) rfl rfl ?_
  refine w_p (pc1 := 205) rfl rfl ?_
  refine w_m0 (pc1 := 208) (st1 := .long 28526 :: _) rfl rfl rfl rfl ?_
  refine w_p (pc1 := 209) rfl rfl ?_
  refine w_f (a := 252) (b := 212) (lb_eq_f (by exact hn 28526 (by decide))) rfl rfl ?_
  refine w_p (pc1 := 213) rfl rfl ?_
  refine w_m0 (pc1 := 216) (st1 := .long 28530 :: _) rfl rfl rfl rfl ?_
  refine w_p (pc1 := 217) rfl rfl ?_
  refine w_f (a := 252) (b := 220) (lb_eq_f (by exact hn 28530 (by decide))) rfl rfl ?_
  refine w_p (pc1 := 221) rfl rfl ?_
  refine w_m0 (pc1 := 224) (st1 := .long 31650994523828857 :: _) rfl rfl rfl rfl ?_
  refine w_p (pc1 := 225) rfl rfl ?_
  refine w_f (a := 252) (b := 228) (lb_eq_f (by exact hn 31650994523828857 (by decide))) rfl rfl ?_
  refine w_p (pc1 := 229) rfl rfl ?_
  refine w_m0 (pc1 := 232) (st1 := .long 491260572517 :: _) rfl rfl rfl rfl ?_
  refine w_p (pc1 := 233) rfl rfl ?_
  refine w_f (a := 252) (b := 236) (lb_eq_f (by exact hn 491260572517 (by decide))) rfl rfl ?_
  refine w_p (pc1 := 237) rfl rfl ?_
  refine w_m0 (pc1 := 240) (st1 := .long 491327481202 :: _) rfl rfl rfl rfl ?_
  refine w_p (pc1 := 241) rfl rfl ?_
  refine w_f (a := 252) (b := 244) (lb_eq_f (by exact hn 491327481202 (by decide))) rfl rfl ?_
  refine w_p (pc1 := 245) rfl rfl ?_
  refine w_m0 (pc1 := 248) (st1 := .long 7562612 :: _) rfl rfl rfl rfl ?_
  refine w_p (pc1 := 249) rfl rfl ?_
  refine w_t (a := 256) (b := 252) (lb_ne_t (by exact hn 7562612 (by decide))) rfl rfl ?_
  refine w_p (pc1 := 257) (st1 := .int 0 :: _) rfl rfl ?_
  refine w_p (pc1 := 259) (al1 := [(4, .int 0), (3, .int 0), (2, .int 0), (0, .long (w))]) rfl rfl ?_
  refine w_p (pc1 := 260) rfl rfl ?_
  refine w_f (a := 344) (b := 263) rfl rfl rfl ?_
  refine w_p (pc1 := 264) rfl rfl ?_
  refine w_f (a := 344) (b := 267) rfl rfl rfl ?_
  refine w_p (pc1 := 269) rfl rfl ?_
  refine w_f (a := 344) (b := 272) rfl rfl rfl ?_
  refine w_p (pc1 := 273) rfl rfl ?_
  refine w_m0 (pc1 := 276) (st1 := .long 1936682341 :: _) rfl rfl rfl rfl ?_
  refine w_p (pc1 := 277) rfl rfl ?_
  refine w_f (a := 344) (b := 280) (lb_eq_f (by exact hn 1936682341 (by decide))) rfl rfl ?_
  refine w_p (pc1 := 281) rfl rfl ?_
  refine w_m0 (pc1 := 284) (st1 := .long 1937010544 :: _) rfl rfl rfl rfl ?_
  refine w_p (pc1 := 285) rfl rfl ?_
  refine w_f (a := 344) (b := 288) (lb_eq_f (by exact hn 1937010544 (by decide))) rfl rfl ?_
  refine w_p (pc1 := 289) rfl rfl ?_
  refine w_m0 (pc1 := 292) (st1 := .long 499850046565 :: _) rfl rfl rfl rfl ?_
  refine w_p (pc1 := 293) rfl rfl ?_
  refine w_f (a := 344) (b := 296) (lb_eq_f (by exact hn 499850046565 (by decide))) rfl rfl ?_
  refine w_p (pc1 := 297) rfl rfl ?_
  refine w_m0 (pc1 := 300) (st1 := .long 29807 :: _) rfl rfl rfl rfl ?_
  refine w_p (pc1 := 301) rfl rfl ?_
  refine w_f (a := 344) (b := 304) (lb_eq_f (by exact hn 29807 (by decide))) rfl rfl ?_
  refine w_p (pc1 := 305) rfl rfl ?_
  refine w_m0 (pc1 := 308) (st1 := .long 32776894330398066 :: _) rfl rfl rfl rfl ?_
  refine w_p (pc1 := 309) rfl rfl ?_
  refine w_f (a := 344) (b := 312) (lb_eq_f (by exact hn 32776894330398066 (by decide))) rfl rfl ?_
  refine w_p (pc1 := 313) rfl rfl ?_
  refine w_m0 (pc1 := 316) (st1 := .long 129117075895653 :: _) rfl rfl rfl rfl ?_
  refine w_p (pc1 := 317) rfl rfl ?_
  refine w_f (a := 344) (b := 320) (lb_eq_f (by exact hn 129117075895653 (by decide))) rfl rfl ?_
  refine w_p (pc1 := 321) rfl rfl ?_
  refine w_m0 (pc1 := 324) (st1 := .long 129125580895333 :: _) rfl rfl rfl rfl ?_
  refine w_p (pc1 := 325) rfl rfl ?_
  refine w_f (a := 344) (b := 328) (lb_eq_f (by exact hn 129125580895333 (by decide))) rfl rfl ?_
  refine w_p (pc1 := 329) rfl rfl ?_
  refine w_m0 (pc1 := 332) (st1 := .long 2003330414 :: _) rfl rfl rfl rfl ?_
  refine w_p (pc1 := 333) rfl rfl ?_
  refine w_f (a := 344) (b := 336) (lb_eq_f (by exact hn 2003330414 (by decide))) rfl rfl ?_
  refine w_p (pc1 := 337) rfl rfl ?_
  refine w_m0 (pc1 := 340) (st1 := .long 512852587109 :: _) rfl rfl rfl rfl ?_
  refine w_p (pc1 := 341) rfl rfl ?_
  refine w_t (a := 348) (b := 344) (lb_ne_t (by exact hn 512852587109 (by decide))) rfl rfl ?_
  refine w_p (pc1 := 349) (st1 := .int 0 :: _) rfl rfl ?_
  refine w_r rfl rfl rfl (fun _ _ => rfl) rfl ?_
  exact ⟨rfl, rfl, rfl⟩
set_option maxRecDepth 100000 in
theorem m_204t (hb : isSg b = true) : Wd L xs d y_204 (0, [(0, .int (nI b))], [], h, sl) (Rt (some (.int 1)) h sl) nX := by
  have hb2 : b ∈ sgl := List.contains_iff_mem.mp hb
  simp only [sgl, List.mem_cons, List.not_mem_nil, or_false] at hb2
  rcases hb2 with rfl | rfl | rfl | rfl | rfl | rfl | rfl | rfl | rfl | rfl | rfl | rfl | rfl | rfl
  · skip
    refine w_p (pc1 := 1) rfl rfl ?_
    refine w_p (pc1 := 3) (st1 := .int 40 :: _) rfl rfl ?_
    refine w_t (a := 84) (b := 6) rfl rfl rfl ?_
    refine w_p (pc1 := 85) (st1 := .int 1 :: _) rfl rfl ?_
    refine w_p (pc1 := 89) rfl rfl ?_
    refine w_r rfl rfl rfl (fun _ _ => rfl) rfl ?_
    exact ⟨rfl, rfl, rfl⟩
  · skip
    refine w_p (pc1 := 1) rfl rfl ?_
    refine w_p (pc1 := 3) (st1 := .int 40 :: _) rfl rfl ?_
    refine w_f (a := 84) (b := 6) rfl rfl rfl ?_
    refine w_p (pc1 := 7) rfl rfl ?_
    refine w_p (pc1 := 9) (st1 := .int 41 :: _) rfl rfl ?_
    refine w_t (a := 84) (b := 12) rfl rfl rfl ?_
    refine w_p (pc1 := 85) (st1 := .int 1 :: _) rfl rfl ?_
    refine w_p (pc1 := 89) rfl rfl ?_
    refine w_r rfl rfl rfl (fun _ _ => rfl) rfl ?_
    exact ⟨rfl, rfl, rfl⟩
  · skip
    refine w_p (pc1 := 1) rfl rfl ?_
    refine w_p (pc1 := 3) (st1 := .int 40 :: _) rfl rfl ?_
    refine w_f (a := 84) (b := 6) rfl rfl rfl ?_
    refine w_p (pc1 := 7) rfl rfl ?_
    refine w_p (pc1 := 9) (st1 := .int 41 :: _) rfl rfl ?_
    refine w_f (a := 84) (b := 12) rfl rfl rfl ?_
    refine w_p (pc1 := 13) rfl rfl ?_
    refine w_p (pc1 := 15) (st1 := .int 91 :: _) rfl rfl ?_
    refine w_t (a := 84) (b := 18) rfl rfl rfl ?_
    refine w_p (pc1 := 85) (st1 := .int 1 :: _) rfl rfl ?_
    refine w_p (pc1 := 89) rfl rfl ?_
    refine w_r rfl rfl rfl (fun _ _ => rfl) rfl ?_
    exact ⟨rfl, rfl, rfl⟩
  · skip
    refine w_p (pc1 := 1) rfl rfl ?_
    refine w_p (pc1 := 3) (st1 := .int 40 :: _) rfl rfl ?_
    refine w_f (a := 84) (b := 6) rfl rfl rfl ?_
    refine w_p (pc1 := 7) rfl rfl ?_
    refine w_p (pc1 := 9) (st1 := .int 41 :: _) rfl rfl ?_
    refine w_f (a := 84) (b := 12) rfl rfl rfl ?_
    refine w_p (pc1 := 13) rfl rfl ?_
    refine w_p (pc1 := 15) (st1 := .int 91 :: _) rfl rfl ?_
    refine w_f (a := 84) (b := 18) rfl rfl rfl ?_
    refine w_p (pc1 := 19) rfl rfl ?_
    refine w_p (pc1 := 21) (st1 := .int 93 :: _) rfl rfl ?_
    refine w_t (a := 84) (b := 24) rfl rfl rfl ?_
    refine w_p (pc1 := 85) (st1 := .int 1 :: _) rfl rfl ?_
    refine w_p (pc1 := 89) rfl rfl ?_
    refine w_r rfl rfl rfl (fun _ _ => rfl) rfl ?_
    exact ⟨rfl, rfl, rfl⟩
  · skip
    refine w_p (pc1 := 1) rfl rfl ?_
    refine w_p (pc1 := 3) (st1 := .int 40 :: _) rfl rfl ?_
    refine w_f (a := 84) (b := 6) rfl rfl rfl ?_
    refine w_p (pc1 := 7) rfl rfl ?_
    refine w_p (pc1 := 9) (st1 := .int 41 :: _) rfl rfl ?_
    refine w_f (a := 84) (b := 12) rfl rfl rfl ?_
    refine w_p (pc1 := 13) rfl rfl ?_
    refine w_p (pc1 := 15) (st1 := .int 91 :: _) rfl rfl ?_
    refine w_f (a := 84) (b := 18) rfl rfl rfl ?_
    refine w_p (pc1 := 19) rfl rfl ?_
    refine w_p (pc1 := 21) (st1 := .int 93 :: _) rfl rfl ?_
    refine w_f (a := 84) (b := 24) rfl rfl rfl ?_
    refine w_p (pc1 := 25) rfl rfl ?_
    refine w_p (pc1 := 27) (st1 := .int 44 :: _) rfl rfl ?_
    refine w_t (a := 84) (b := 30) rfl rfl rfl ?_
    refine w_p (pc1 := 85) (st1 := .int 1 :: _) rfl rfl ?_
    refine w_p (pc1 := 89) rfl rfl ?_
    refine w_r rfl rfl rfl (fun _ _ => rfl) rfl ?_
    exact ⟨rfl, rfl, rfl⟩
  · skip
    refine w_p (pc1 := 1) rfl rfl ?_
    refine w_p (pc1 := 3) (st1 := .int 40 :: _) rfl rfl ?_
    refine w_f (a := 84) (b := 6) rfl rfl rfl ?_
    refine w_p (pc1 := 7) rfl rfl ?_
    refine w_p (pc1 := 9) (st1 := .int 41 :: _) rfl rfl ?_
    refine w_f (a := 84) (b := 12) rfl rfl rfl ?_
    refine w_p (pc1 := 13) rfl rfl ?_
    refine w_p (pc1 := 15) (st1 := .int 91 :: _) rfl rfl ?_
    refine w_f (a := 84) (b := 18) rfl rfl rfl ?_
    refine w_p (pc1 := 19) rfl rfl ?_
    refine w_p (pc1 := 21) (st1 := .int 93 :: _) rfl rfl ?_
    refine w_f (a := 84) (b := 24) rfl rfl rfl ?_
    refine w_p (pc1 := 25) rfl rfl ?_
    refine w_p (pc1 := 27) (st1 := .int 44 :: _) rfl rfl ?_
    refine w_f (a := 84) (b := 30) rfl rfl rfl ?_
    refine w_p (pc1 := 31) rfl rfl ?_
    refine w_p (pc1 := 33) (st1 := .int 46 :: _) rfl rfl ?_
    refine w_t (a := 84) (b := 36) rfl rfl rfl ?_
    refine w_p (pc1 := 85) (st1 := .int 1 :: _) rfl rfl ?_
    refine w_p (pc1 := 89) rfl rfl ?_
    refine w_r rfl rfl rfl (fun _ _ => rfl) rfl ?_
    exact ⟨rfl, rfl, rfl⟩
  · skip
    refine w_p (pc1 := 1) rfl rfl ?_
    refine w_p (pc1 := 3) (st1 := .int 40 :: _) rfl rfl ?_
    refine w_f (a := 84) (b := 6) rfl rfl rfl ?_
    refine w_p (pc1 := 7) rfl rfl ?_
    refine w_p (pc1 := 9) (st1 := .int 41 :: _) rfl rfl ?_
    refine w_f (a := 84) (b := 12) rfl rfl rfl ?_
    refine w_p (pc1 := 13) rfl rfl ?_
    refine w_p (pc1 := 15) (st1 := .int 91 :: _) rfl rfl ?_
    refine w_f (a := 84) (b := 18) rfl rfl rfl ?_
    refine w_p (pc1 := 19) rfl rfl ?_
    refine w_p (pc1 := 21) (st1 := .int 93 :: _) rfl rfl ?_
    refine w_f (a := 84) (b := 24) rfl rfl rfl ?_
    refine w_p (pc1 := 25) rfl rfl ?_
    refine w_p (pc1 := 27) (st1 := .int 44 :: _) rfl rfl ?_
    refine w_f (a := 84) (b := 30) rfl rfl rfl ?_
    refine w_p (pc1 := 31) rfl rfl ?_
    refine w_p (pc1 := 33) (st1 := .int 46 :: _) rfl rfl ?_
    refine w_f (a := 84) (b := 36) rfl rfl rfl ?_
    refine w_p (pc1 := 37) rfl rfl ?_
    refine w_p (pc1 := 39) (st1 := .int 61 :: _) rfl rfl ?_
    refine w_t (a := 84) (b := 42) rfl rfl rfl ?_
    refine w_p (pc1 := 85) (st1 := .int 1 :: _) rfl rfl ?_
    refine w_p (pc1 := 89) rfl rfl ?_
    refine w_r rfl rfl rfl (fun _ _ => rfl) rfl ?_
    exact ⟨rfl, rfl, rfl⟩
  · skip
    refine w_p (pc1 := 1) rfl rfl ?_
    refine w_p (pc1 := 3) (st1 := .int 40 :: _) rfl rfl ?_
    refine w_f (a := 84) (b := 6) rfl rfl rfl ?_
    refine w_p (pc1 := 7) rfl rfl ?_
    refine w_p (pc1 := 9) (st1 := .int 41 :: _) rfl rfl ?_
    refine w_f (a := 84) (b := 12) rfl rfl rfl ?_
    refine w_p (pc1 := 13) rfl rfl ?_
    refine w_p (pc1 := 15) (st1 := .int 91 :: _) rfl rfl ?_
    refine w_f (a := 84) (b := 18) rfl rfl rfl ?_
    refine w_p (pc1 := 19) rfl rfl ?_
    refine w_p (pc1 := 21) (st1 := .int 93 :: _) rfl rfl ?_
    refine w_f (a := 84) (b := 24) rfl rfl rfl ?_
    refine w_p (pc1 := 25) rfl rfl ?_
    refine w_p (pc1 := 27) (st1 := .int 44 :: _) rfl rfl ?_
    refine w_f (a := 84) (b := 30) rfl rfl rfl ?_
    refine w_p (pc1 := 31) rfl rfl ?_
    refine w_p (pc1 := 33) (st1 := .int 46 :: _) rfl rfl ?_
    refine w_f (a := 84) (b := 36) rfl rfl rfl ?_
    refine w_p (pc1 := 37) rfl rfl ?_
    refine w_p (pc1 := 39) (st1 := .int 61 :: _) rfl rfl ?_
    refine w_f (a := 84) (b := 42) rfl rfl rfl ?_
    refine w_p (pc1 := 43) rfl rfl ?_
    refine w_p (pc1 := 45) (st1 := .int 35 :: _) rfl rfl ?_
    refine w_t (a := 84) (b := 48) rfl rfl rfl ?_
    refine w_p (pc1 := 85) (st1 := .int 1 :: _) rfl rfl ?_
    refine w_p (pc1 := 89) rfl rfl ?_
    refine w_r rfl rfl rfl (fun _ _ => rfl) rfl ?_
    exact ⟨rfl, rfl, rfl⟩
  · skip
    refine w_p (pc1 := 1) rfl rfl ?_
    refine w_p (pc1 := 3) (st1 := .int 40 :: _) rfl rfl ?_
    refine w_f (a := 84) (b := 6) rfl rfl rfl ?_
    refine w_p (pc1 := 7) rfl rfl ?_
    refine w_p (pc1 := 9) (st1 := .int 41 :: _) rfl rfl ?_
    refine w_f (a := 84) (b := 12) rfl rfl rfl ?_
    refine w_p (pc1 := 13) rfl rfl ?_
    refine w_p (pc1 := 15) (st1 := .int 91 :: _) rfl rfl ?_
    refine w_f (a := 84) (b := 18) rfl rfl rfl ?_
    refine w_p (pc1 := 19) rfl rfl ?_
    refine w_p (pc1 := 21) (st1 := .int 93 :: _) rfl rfl ?_
    refine w_f (a := 84) (b := 24) rfl rfl rfl ?_
    refine w_p (pc1 := 25) rfl rfl ?_
    refine w_p (pc1 := 27) (st1 := .int 44 :: _) rfl rfl ?_
    refine w_f (a := 84) (b := 30) rfl rfl rfl ?_
    refine w_p (pc1 := 31) rfl rfl ?_
    refine w_p (pc1 := 33) (st1 := .int 46 :: _) rfl rfl ?_
    refine w_f (a := 84) (b := 36) rfl rfl rfl ?_
    refine w_p (pc1 := 37) rfl rfl ?_
    refine w_p (pc1 := 39) (st1 := .int 61 :: _) rfl rfl ?_
    refine w_f (a := 84) (b := 42) rfl rfl rfl ?_
    refine w_p (pc1 := 43) rfl rfl ?_
    refine w_p (pc1 := 45) (st1 := .int 35 :: _) rfl rfl ?_
    refine w_f (a := 84) (b := 48) rfl rfl rfl ?_
    refine w_p (pc1 := 49) rfl rfl ?_
    refine w_p (pc1 := 51) (st1 := .int 60 :: _) rfl rfl ?_
    refine w_t (a := 84) (b := 54) rfl rfl rfl ?_
    refine w_p (pc1 := 85) (st1 := .int 1 :: _) rfl rfl ?_
    refine w_p (pc1 := 89) rfl rfl ?_
    refine w_r rfl rfl rfl (fun _ _ => rfl) rfl ?_
    exact ⟨rfl, rfl, rfl⟩
  · skip
    refine w_p (pc1 := 1) rfl rfl ?_
    refine w_p (pc1 := 3) (st1 := .int 40 :: _) rfl rfl ?_
    refine w_f (a := 84) (b := 6) rfl rfl rfl ?_
    refine w_p (pc1 := 7) rfl rfl ?_
    refine w_p (pc1 := 9) (st1 := .int 41 :: _) rfl rfl ?_
    refine w_f (a := 84) (b := 12) rfl rfl rfl ?_
    refine w_p (pc1 := 13) rfl rfl ?_
    refine w_p (pc1 := 15) (st1 := .int 91 :: _) rfl rfl ?_
    refine w_f (a := 84) (b := 18) rfl rfl rfl ?_
    refine w_p (pc1 := 19) rfl rfl ?_
    refine w_p (pc1 := 21) (st1 := .int 93 :: _) rfl rfl ?_
    refine w_f (a := 84) (b := 24) rfl rfl rfl ?_
    refine w_p (pc1 := 25) rfl rfl ?_
    refine w_p (pc1 := 27) (st1 := .int 44 :: _) rfl rfl ?_
    refine w_f (a := 84) (b := 30) rfl rfl rfl ?_
    refine w_p (pc1 := 31) rfl rfl ?_
    refine w_p (pc1 := 33) (st1 := .int 46 :: _) rfl rfl ?_
    refine w_f (a := 84) (b := 36) rfl rfl rfl ?_
    refine w_p (pc1 := 37) rfl rfl ?_
    refine w_p (pc1 := 39) (st1 := .int 61 :: _) rfl rfl ?_
    refine w_f (a := 84) (b := 42) rfl rfl rfl ?_
    refine w_p (pc1 := 43) rfl rfl ?_
    refine w_p (pc1 := 45) (st1 := .int 35 :: _) rfl rfl ?_
    refine w_f (a := 84) (b := 48) rfl rfl rfl ?_
    refine w_p (pc1 := 49) rfl rfl ?_
    refine w_p (pc1 := 51) (st1 := .int 60 :: _) rfl rfl ?_
    refine w_f (a := 84) (b := 54) rfl rfl rfl ?_
    refine w_p (pc1 := 55) rfl rfl ?_
    refine w_p (pc1 := 57) (st1 := .int 62 :: _) rfl rfl ?_
    refine w_t (a := 84) (b := 60) rfl rfl rfl ?_
    refine w_p (pc1 := 85) (st1 := .int 1 :: _) rfl rfl ?_
    refine w_p (pc1 := 89) rfl rfl ?_
    refine w_r rfl rfl rfl (fun _ _ => rfl) rfl ?_
    exact ⟨rfl, rfl, rfl⟩
  · skip
    refine w_p (pc1 := 1) rfl rfl ?_
    refine w_p (pc1 := 3) (st1 := .int 40 :: _) rfl rfl ?_
    refine w_f (a := 84) (b := 6) rfl rfl rfl ?_
    refine w_p (pc1 := 7) rfl rfl ?_
    refine w_p (pc1 := 9) (st1 := .int 41 :: _) rfl rfl ?_
    refine w_f (a := 84) (b := 12) rfl rfl rfl ?_
    refine w_p (pc1 := 13) rfl rfl ?_
    refine w_p (pc1 := 15) (st1 := .int 91 :: _) rfl rfl ?_
    refine w_f (a := 84) (b := 18) rfl rfl rfl ?_
    refine w_p (pc1 := 19) rfl rfl ?_
    refine w_p (pc1 := 21) (st1 := .int 93 :: _) rfl rfl ?_
    refine w_f (a := 84) (b := 24) rfl rfl rfl ?_
    refine w_p (pc1 := 25) rfl rfl ?_
    refine w_p (pc1 := 27) (st1 := .int 44 :: _) rfl rfl ?_
    refine w_f (a := 84) (b := 30) rfl rfl rfl ?_
    refine w_p (pc1 := 31) rfl rfl ?_
    refine w_p (pc1 := 33) (st1 := .int 46 :: _) rfl rfl ?_
    refine w_f (a := 84) (b := 36) rfl rfl rfl ?_
    refine w_p (pc1 := 37) rfl rfl ?_
    refine w_p (pc1 := 39) (st1 := .int 61 :: _) rfl rfl ?_
    refine w_f (a := 84) (b := 42) rfl rfl rfl ?_
    refine w_p (pc1 := 43) rfl rfl ?_
    refine w_p (pc1 := 45) (st1 := .int 35 :: _) rfl rfl ?_
    refine w_f (a := 84) (b := 48) rfl rfl rfl ?_
    refine w_p (pc1 := 49) rfl rfl ?_
    refine w_p (pc1 := 51) (st1 := .int 60 :: _) rfl rfl ?_
    refine w_f (a := 84) (b := 54) rfl rfl rfl ?_
    refine w_p (pc1 := 55) rfl rfl ?_
    refine w_p (pc1 := 57) (st1 := .int 62 :: _) rfl rfl ?_
    refine w_f (a := 84) (b := 60) rfl rfl rfl ?_
    refine w_p (pc1 := 61) rfl rfl ?_
    refine w_p (pc1 := 63) (st1 := .int 43 :: _) rfl rfl ?_
    refine w_t (a := 84) (b := 66) rfl rfl rfl ?_
    refine w_p (pc1 := 85) (st1 := .int 1 :: _) rfl rfl ?_
    refine w_p (pc1 := 89) rfl rfl ?_
    refine w_r rfl rfl rfl (fun _ _ => rfl) rfl ?_
    exact ⟨rfl, rfl, rfl⟩
  · skip
    refine w_p (pc1 := 1) rfl rfl ?_
    refine w_p (pc1 := 3) (st1 := .int 40 :: _) rfl rfl ?_
    refine w_f (a := 84) (b := 6) rfl rfl rfl ?_
    refine w_p (pc1 := 7) rfl rfl ?_
    refine w_p (pc1 := 9) (st1 := .int 41 :: _) rfl rfl ?_
    refine w_f (a := 84) (b := 12) rfl rfl rfl ?_
    refine w_p (pc1 := 13) rfl rfl ?_
    refine w_p (pc1 := 15) (st1 := .int 91 :: _) rfl rfl ?_
    refine w_f (a := 84) (b := 18) rfl rfl rfl ?_
    refine w_p (pc1 := 19) rfl rfl ?_
    refine w_p (pc1 := 21) (st1 := .int 93 :: _) rfl rfl ?_
    refine w_f (a := 84) (b := 24) rfl rfl rfl ?_
    refine w_p (pc1 := 25) rfl rfl ?_
    refine w_p (pc1 := 27) (st1 := .int 44 :: _) rfl rfl ?_
    refine w_f (a := 84) (b := 30) rfl rfl rfl ?_
    refine w_p (pc1 := 31) rfl rfl ?_
    refine w_p (pc1 := 33) (st1 := .int 46 :: _) rfl rfl ?_
    refine w_f (a := 84) (b := 36) rfl rfl rfl ?_
    refine w_p (pc1 := 37) rfl rfl ?_
    refine w_p (pc1 := 39) (st1 := .int 61 :: _) rfl rfl ?_
    refine w_f (a := 84) (b := 42) rfl rfl rfl ?_
    refine w_p (pc1 := 43) rfl rfl ?_
    refine w_p (pc1 := 45) (st1 := .int 35 :: _) rfl rfl ?_
    refine w_f (a := 84) (b := 48) rfl rfl rfl ?_
    refine w_p (pc1 := 49) rfl rfl ?_
    refine w_p (pc1 := 51) (st1 := .int 60 :: _) rfl rfl ?_
    refine w_f (a := 84) (b := 54) rfl rfl rfl ?_
    refine w_p (pc1 := 55) rfl rfl ?_
    refine w_p (pc1 := 57) (st1 := .int 62 :: _) rfl rfl ?_
    refine w_f (a := 84) (b := 60) rfl rfl rfl ?_
    refine w_p (pc1 := 61) rfl rfl ?_
    refine w_p (pc1 := 63) (st1 := .int 43 :: _) rfl rfl ?_
    refine w_f (a := 84) (b := 66) rfl rfl rfl ?_
    refine w_p (pc1 := 67) rfl rfl ?_
    refine w_p (pc1 := 69) (st1 := .int 45 :: _) rfl rfl ?_
    refine w_t (a := 84) (b := 72) rfl rfl rfl ?_
    refine w_p (pc1 := 85) (st1 := .int 1 :: _) rfl rfl ?_
    refine w_p (pc1 := 89) rfl rfl ?_
    refine w_r rfl rfl rfl (fun _ _ => rfl) rfl ?_
    exact ⟨rfl, rfl, rfl⟩
  · skip
    refine w_p (pc1 := 1) rfl rfl ?_
    refine w_p (pc1 := 3) (st1 := .int 40 :: _) rfl rfl ?_
    refine w_f (a := 84) (b := 6) rfl rfl rfl ?_
    refine w_p (pc1 := 7) rfl rfl ?_
    refine w_p (pc1 := 9) (st1 := .int 41 :: _) rfl rfl ?_
    refine w_f (a := 84) (b := 12) rfl rfl rfl ?_
    refine w_p (pc1 := 13) rfl rfl ?_
    refine w_p (pc1 := 15) (st1 := .int 91 :: _) rfl rfl ?_
    refine w_f (a := 84) (b := 18) rfl rfl rfl ?_
    refine w_p (pc1 := 19) rfl rfl ?_
    refine w_p (pc1 := 21) (st1 := .int 93 :: _) rfl rfl ?_
    refine w_f (a := 84) (b := 24) rfl rfl rfl ?_
    refine w_p (pc1 := 25) rfl rfl ?_
    refine w_p (pc1 := 27) (st1 := .int 44 :: _) rfl rfl ?_
    refine w_f (a := 84) (b := 30) rfl rfl rfl ?_
    refine w_p (pc1 := 31) rfl rfl ?_
    refine w_p (pc1 := 33) (st1 := .int 46 :: _) rfl rfl ?_
    refine w_f (a := 84) (b := 36) rfl rfl rfl ?_
    refine w_p (pc1 := 37) rfl rfl ?_
    refine w_p (pc1 := 39) (st1 := .int 61 :: _) rfl rfl ?_
    refine w_f (a := 84) (b := 42) rfl rfl rfl ?_
    refine w_p (pc1 := 43) rfl rfl ?_
    refine w_p (pc1 := 45) (st1 := .int 35 :: _) rfl rfl ?_
    refine w_f (a := 84) (b := 48) rfl rfl rfl ?_
    refine w_p (pc1 := 49) rfl rfl ?_
    refine w_p (pc1 := 51) (st1 := .int 60 :: _) rfl rfl ?_
    refine w_f (a := 84) (b := 54) rfl rfl rfl ?_
    refine w_p (pc1 := 55) rfl rfl ?_
    refine w_p (pc1 := 57) (st1 := .int 62 :: _) rfl rfl ?_
    refine w_f (a := 84) (b := 60) rfl rfl rfl ?_
    refine w_p (pc1 := 61) rfl rfl ?_
    refine w_p (pc1 := 63) (st1 := .int 43 :: _) rfl rfl ?_
    refine w_f (a := 84) (b := 66) rfl rfl rfl ?_
    refine w_p (pc1 := 67) rfl rfl ?_
    refine w_p (pc1 := 69) (st1 := .int 45 :: _) rfl rfl ?_
    refine w_f (a := 84) (b := 72) rfl rfl rfl ?_
    refine w_p (pc1 := 73) rfl rfl ?_
    refine w_p (pc1 := 75) (st1 := .int 42 :: _) rfl rfl ?_
    refine w_t (a := 84) (b := 78) rfl rfl rfl ?_
    refine w_p (pc1 := 85) (st1 := .int 1 :: _) rfl rfl ?_
    refine w_p (pc1 := 89) rfl rfl ?_
    refine w_r rfl rfl rfl (fun _ _ => rfl) rfl ?_
    exact ⟨rfl, rfl, rfl⟩
  · skip
    refine w_p (pc1 := 1) rfl rfl ?_
    refine w_p (pc1 := 3) (st1 := .int 40 :: _) rfl rfl ?_
    refine w_f (a := 84) (b := 6) rfl rfl rfl ?_
    refine w_p (pc1 := 7) rfl rfl ?_
    refine w_p (pc1 := 9) (st1 := .int 41 :: _) rfl rfl ?_
    refine w_f (a := 84) (b := 12) rfl rfl rfl ?_
    refine w_p (pc1 := 13) rfl rfl ?_
    refine w_p (pc1 := 15) (st1 := .int 91 :: _) rfl rfl ?_
    refine w_f (a := 84) (b := 18) rfl rfl rfl ?_
    refine w_p (pc1 := 19) rfl rfl ?_
    refine w_p (pc1 := 21) (st1 := .int 93 :: _) rfl rfl ?_
    refine w_f (a := 84) (b := 24) rfl rfl rfl ?_
    refine w_p (pc1 := 25) rfl rfl ?_
    refine w_p (pc1 := 27) (st1 := .int 44 :: _) rfl rfl ?_
    refine w_f (a := 84) (b := 30) rfl rfl rfl ?_
    refine w_p (pc1 := 31) rfl rfl ?_
    refine w_p (pc1 := 33) (st1 := .int 46 :: _) rfl rfl ?_
    refine w_f (a := 84) (b := 36) rfl rfl rfl ?_
    refine w_p (pc1 := 37) rfl rfl ?_
    refine w_p (pc1 := 39) (st1 := .int 61 :: _) rfl rfl ?_
    refine w_f (a := 84) (b := 42) rfl rfl rfl ?_
    refine w_p (pc1 := 43) rfl rfl ?_
    refine w_p (pc1 := 45) (st1 := .int 35 :: _) rfl rfl ?_
    refine w_f (a := 84) (b := 48) rfl rfl rfl ?_
    refine w_p (pc1 := 49) rfl rfl ?_
    refine w_p (pc1 := 51) (st1 := .int 60 :: _) rfl rfl ?_
    refine w_f (a := 84) (b := 54) rfl rfl rfl ?_
    refine w_p (pc1 := 55) rfl rfl ?_
    refine w_p (pc1 := 57) (st1 := .int 62 :: _) rfl rfl ?_
    refine w_f (a := 84) (b := 60) rfl rfl rfl ?_
    refine w_p (pc1 := 61) rfl rfl ?_
    refine w_p (pc1 := 63) (st1 := .int 43 :: _) rfl rfl ?_
    refine w_f (a := 84) (b := 66) rfl rfl rfl ?_
    refine w_p (pc1 := 67) rfl rfl ?_
    refine w_p (pc1 := 69) (st1 := .int 45 :: _) rfl rfl ?_
    refine w_f (a := 84) (b := 72) rfl rfl rfl ?_
    refine w_p (pc1 := 73) rfl rfl ?_
    refine w_p (pc1 := 75) (st1 := .int 42 :: _) rfl rfl ?_
    refine w_f (a := 84) (b := 78) rfl rfl rfl ?_
    refine w_p (pc1 := 79) rfl rfl ?_
    refine w_p (pc1 := 81) (st1 := .int 47 :: _) rfl rfl ?_
    refine w_f (a := 88) (b := 84) rfl rfl rfl ?_
    refine w_p (pc1 := 85) (st1 := .int 1 :: _) rfl rfl ?_
    refine w_p (pc1 := 89) rfl rfl ?_
    refine w_r rfl rfl rfl (fun _ _ => rfl) rfl ?_
    exact ⟨rfl, rfl, rfl⟩
set_option maxRecDepth 100000 in
theorem m_204f (hb : b < 256) (hs : isSg b = false) : Wd L xs d y_204 (0, [(0, .int (nI b))], [], h, sl) (Rt (some (.int 0)) h sl) nX := by
  have hn : ∀ z : Nat, isSg z = true → b ≠ z := fun z hz e => by rw [e, hz] at hs; cases hs
  refine w_p (pc1 := 1) rfl rfl ?_
  refine w_p (pc1 := 3) (st1 := .int 40 :: _) rfl rfl ?_
  refine w_f (a := 84) (b := 6) (bN_eq_f (a := b) (b := 40) (by omega) (by omega) (by exact hn 40 (by decide))) rfl rfl ?_
  refine w_p (pc1 := 7) rfl rfl ?_
  refine w_p (pc1 := 9) (st1 := .int 41 :: _) rfl rfl ?_
  refine w_f (a := 84) (b := 12) (bN_eq_f (a := b) (b := 41) (by omega) (by omega) (by exact hn 41 (by decide))) rfl rfl ?_
  refine w_p (pc1 := 13) rfl rfl ?_
  refine w_p (pc1 := 15) (st1 := .int 91 :: _) rfl rfl ?_
  refine w_f (a := 84) (b := 18) (bN_eq_f (a := b) (b := 91) (by omega) (by omega) (by exact hn 91 (by decide))) rfl rfl ?_
  refine w_p (pc1 := 19) rfl rfl ?_
  refine w_p (pc1 := 21) (st1 := .int 93 :: _) rfl rfl ?_
  refine w_f (a := 84) (b := 24) (bN_eq_f (a := b) (b := 93) (by omega) (by omega) (by exact hn 93 (by decide))) rfl rfl ?_
  refine w_p (pc1 := 25) rfl rfl ?_
  refine w_p (pc1 := 27) (st1 := .int 44 :: _) rfl rfl ?_
  refine w_f (a := 84) (b := 30) (bN_eq_f (a := b) (b := 44) (by omega) (by omega) (by exact hn 44 (by decide))) rfl rfl ?_
  refine w_p (pc1 := 31) rfl rfl ?_
  refine w_p (pc1 := 33) (st1 := .int 46 :: _) rfl rfl ?_
  refine w_f (a := 84) (b := 36) (bN_eq_f (a := b) (b := 46) (by omega) (by omega) (by exact hn 46 (by decide))) rfl rfl ?_
  refine w_p (pc1 := 37) rfl rfl ?_
  refine w_p (pc1 := 39) (st1 := .int 61 :: _) rfl rfl ?_
  refine w_f (a := 84) (b := 42) (bN_eq_f (a := b) (b := 61) (by omega) (by omega) (by exact hn 61 (by decide))) rfl rfl ?_
  refine w_p (pc1 := 43) rfl rfl ?_
  refine w_p (pc1 := 45) (st1 := .int 35 :: _) rfl rfl ?_
  refine w_f (a := 84) (b := 48) (bN_eq_f (a := b) (b := 35) (by omega) (by omega) (by exact hn 35 (by decide))) rfl rfl ?_
  refine w_p (pc1 := 49) rfl rfl ?_
  refine w_p (pc1 := 51) (st1 := .int 60 :: _) rfl rfl ?_
  refine w_f (a := 84) (b := 54) (bN_eq_f (a := b) (b := 60) (by omega) (by omega) (by exact hn 60 (by decide))) rfl rfl ?_
  refine w_p (pc1 := 55) rfl rfl ?_
  refine w_p (pc1 := 57) (st1 := .int 62 :: _) rfl rfl ?_
  refine w_f (a := 84) (b := 60) (bN_eq_f (a := b) (b := 62) (by omega) (by omega) (by exact hn 62 (by decide))) rfl rfl ?_
  refine w_p (pc1 := 61) rfl rfl ?_
  refine w_p (pc1 := 63) (st1 := .int 43 :: _) rfl rfl ?_
  refine w_f (a := 84) (b := 66) (bN_eq_f (a := b) (b := 43) (by omega) (by omega) (by exact hn 43 (by decide))) rfl rfl ?_
  refine w_p (pc1 := 67) rfl rfl ?_
  refine w_p (pc1 := 69) (st1 := .int 45 :: _) rfl rfl ?_
  refine w_f (a := 84) (b := 72) (bN_eq_f (a := b) (b := 45) (by omega) (by omega) (by exact hn 45 (by decide))) rfl rfl ?_
  refine w_p (pc1 := 73) rfl rfl ?_
  refine w_p (pc1 := 75) (st1 := .int 42 :: _) rfl rfl ?_
  refine w_f (a := 84) (b := 78) (bN_eq_f (a := b) (b := 42) (by omega) (by omega) (by exact hn 42 (by decide))) rfl rfl ?_
  refine w_p (pc1 := 79) rfl rfl ?_
  refine w_p (pc1 := 81) (st1 := .int 47 :: _) rfl rfl ?_
  refine w_t (a := 88) (b := 84) (bN_ne_t (a := b) (b := 47) (by omega) (by omega) (by exact hn 47 (by decide))) rfl rfl ?_
  refine w_p (pc1 := 89) (st1 := .int 0 :: _) rfl rfl ?_
  refine w_r rfl rfl rfl (fun _ _ => rfl) rfl ?_
  exact ⟨rfl, rfl, rfl⟩
def wdC (C : co_T) (w : Int64) : Bool := decide (C.1 76 4 = 3) && decide (C.2.1 76 7 = w)
def sgC (C : co_T) (c : Int32) : Bool := decide (C.1 76 4 = 4) && decide (C.2.1 76 7 = c.toInt64)
set_option maxRecDepth 100000 in
theorem m_205 {w : Int64} : Wd L xs d y_205 (0, [(0, .ref 176), (1, .long w)], [], MH C t, sl) (Rt (some (.int (bif wdC C w then 1 else 0))) (MH C t) sl) nX := by
  refine w_p (pc1 := 1) rfl rfl ?_
  refine w_m0 (pc1 := 4) rfl rfl (h_gI rfl rfl rfl rfl rfl) rfl ?_
  refine w_p (pc1 := 5) (st1 := .int 3 :: _) rfl rfl ?_
  refine w_b (a := 21) (b := 8) rfl rfl (fun c5 => ?_) (fun c5 => ?_)
  · replace c5 := cc_ne_t c5
    refine w_p (pc1 := 22) (st1 := .int 0 :: _) rfl rfl ?_
    refine w_r rfl rfl rfl (fun _ _ => rfl) rfl ?_
    refine ⟨?_, rfl, rfl⟩; simp_all [wdC]
  · replace c5 := cc_ne_f c5
    refine w_p (pc1 := 9) rfl rfl ?_
    refine w_m0 (pc1 := 12) rfl rfl (h_gJ rfl rfl rfl rfl rfl) rfl ?_
    refine w_p (pc1 := 13) rfl rfl ?_
    refine w_p (pc1 := 14) rfl rfl ?_
    refine w_b (a := 21) (b := 17) rfl rfl (fun c14 => ?_) (fun c14 => ?_)
    · replace c14 := lc_ne_t c14
      refine w_p (pc1 := 22) (st1 := .int 0 :: _) rfl rfl ?_
      refine w_r rfl rfl rfl (fun _ _ => rfl) rfl ?_
      refine ⟨?_, rfl, rfl⟩; simp_all [wdC]
    · replace c14 := lc_ne_f c14
      refine w_p (pc1 := 18) (st1 := .int 1 :: _) rfl rfl ?_
      refine w_p (pc1 := 22) rfl rfl ?_
      refine w_r rfl rfl rfl (fun _ _ => rfl) rfl ?_
      refine ⟨?_, rfl, rfl⟩; simp_all [wdC]
set_option maxRecDepth 100000 in
theorem m_205t {w : Int64} (hz : wdC C w = true) : Wd L xs d y_205 (0, [(0, .ref 176), (1, .long w)], [], MH C t, sl) (Rt (some (.int 1)) (MH C t) sl) nX := by
  have z := m_205 (L := L) (xs := xs) (C := C) (t := t) (d := d) (sl := sl) (w := w)
  rw [hz] at z
  exact z
set_option maxRecDepth 100000 in
theorem m_205f {w : Int64} (hz : wdC C w = false) : Wd L xs d y_205 (0, [(0, .ref 176), (1, .long w)], [], MH C t, sl) (Rt (some (.int 0)) (MH C t) sl) nX := by
  have z := m_205 (L := L) (xs := xs) (C := C) (t := t) (d := d) (sl := sl) (w := w)
  rw [hz] at z
  exact z
set_option maxRecDepth 100000 in
theorem m_210 {c : Int32} : Wd L xs d y_210 (0, [(0, .ref 176), (1, .int c)], [], MH C t, sl) (Rt (some (.int (bif sgC C c then 1 else 0))) (MH C t) sl) nX := by
  refine w_p (pc1 := 1) rfl rfl ?_
  refine w_m0 (pc1 := 4) rfl rfl (h_gI rfl rfl rfl rfl rfl) rfl ?_
  refine w_p (pc1 := 5) (st1 := .int 4 :: _) rfl rfl ?_
  refine w_b (a := 22) (b := 8) rfl rfl (fun c5 => ?_) (fun c5 => ?_)
  · replace c5 := cc_ne_t c5
    refine w_p (pc1 := 23) (st1 := .int 0 :: _) rfl rfl ?_
    refine w_r rfl rfl rfl (fun _ _ => rfl) rfl ?_
    refine ⟨?_, rfl, rfl⟩; simp_all [sgC]
  · replace c5 := cc_ne_f c5
    refine w_p (pc1 := 9) rfl rfl ?_
    refine w_m0 (pc1 := 12) rfl rfl (h_gJ rfl rfl rfl rfl rfl) rfl ?_
    refine w_p (pc1 := 13) rfl rfl ?_
    refine w_p (pc1 := 14) rfl rfl ?_
    refine w_p (pc1 := 15) rfl rfl ?_
    refine w_b (a := 22) (b := 18) rfl rfl (fun c15 => ?_) (fun c15 => ?_)
    · replace c15 := lc_ne_t c15
      refine w_p (pc1 := 23) (st1 := .int 0 :: _) rfl rfl ?_
      refine w_r rfl rfl rfl (fun _ _ => rfl) rfl ?_
      refine ⟨?_, rfl, rfl⟩; simp_all [sgC]
    · replace c15 := lc_ne_f c15
      refine w_p (pc1 := 19) (st1 := .int 1 :: _) rfl rfl ?_
      refine w_p (pc1 := 23) rfl rfl ?_
      refine w_r rfl rfl rfl (fun _ _ => rfl) rfl ?_
      refine ⟨?_, rfl, rfl⟩; simp_all [sgC]
set_option maxRecDepth 100000 in
theorem m_210t {c : Int32} (hz : sgC C c = true) : Wd L xs d y_210 (0, [(0, .ref 176), (1, .int c)], [], MH C t, sl) (Rt (some (.int 1)) (MH C t) sl) nX := by
  have z := m_210 (L := L) (xs := xs) (C := C) (t := t) (d := d) (sl := sl) (c := c)
  rw [hz] at z
  exact z
set_option maxRecDepth 100000 in
theorem m_210f {c : Int32} (hz : sgC C c = false) : Wd L xs d y_210 (0, [(0, .ref 176), (1, .int c)], [], MH C t, sl) (Rt (some (.int 0)) (MH C t) sl) nX := by
  have z := m_210 (L := L) (xs := xs) (C := C) (t := t) (d := d) (sl := sl) (c := c)
  rw [hz] at z
  exact z
end MTP
