/-! THE START: what the Statement gives of it -/
def pn_w (q : Nat × Nat) : Option Cond := match q.1 with
  | 1 => (flatC narrow_1_1)[q.2]?
  | 2 => (flatC narrow_1_2)[q.2]?
  | 3 => (flatC narrow_1_3)[q.2]?
  | _ => none
theorem pn_s {args : Array Value} {s : State} (h : (Jvm.Cond.and given_1 narrow_1).before args s = true) {q : Nat × Nat} {w : Cond} (hq : pn_w q = some w) : w.before args s = true := by
  refine flat_of_before _ h w ?_
  obtain ⟨k, j⟩ := q
  have e : flatC (Jvm.Cond.and given_1 narrow_1) = flatC given_1 ++ (flatC narrow_1_1 ++ (flatC narrow_1_2 ++ (flatC narrow_1_3))) := rfl
  rw [e]
  simp only [List.mem_append]
  match k, hq with
  | 1, hq => exact Or.inr (Or.inl (List.mem_of_getElem? hq))
  | 2, hq => exact Or.inr (Or.inr (Or.inl (List.mem_of_getElem? hq)))
  | 3, hq => exact Or.inr (Or.inr (Or.inr (List.mem_of_getElem? hq)))
  | 0, hq => cases hq
  | k + 4, hq => cases hq
theorem pn_all {args : Array Value} {s : State} (h : (Jvm.Cond.and given_1 narrow_1).before args s = true) {n : Nat} {f : Nat → Cond} (ps : List (Nat × Nat)) (e : (List.range n).map (fun i => some (f i)) = ps.map pn_w) : ∀ i, i < n → (f i).before args s = true := by
  intro i hi
  have h1 : ((List.range n).map (fun i => some (f i)))[i]? = some (some (f i)) := by simp [hi]
  rw [e, List.getElem?_map] at h1
  obtain ⟨q, -, h2⟩ := Option.map_eq_some_iff.mp h1
  exact pn_s h h2
theorem pl_alln {args : Array Value} {s : State} (h : ∀ w ∈ lw_tbl, w.before args s = true) {n : Nat} {f : Nat → Cond} (ps : List (Nat × Nat)) (e : (List.range n).map (fun i => some (f i)) = ps.map pl_w) : ∀ i, i < n → (f i).before args s = true := by
  intro i hi
  have h1 : ((List.range n).map (fun i => some (f i)))[i]? = some (some (f i)) := by simp [hi]
  rw [e, List.getElem?_map] at h1
  obtain ⟨q, -, h2⟩ := Option.map_eq_some_iff.mp h1
  exact h _ (pl_w_mem h2)
section STT
variable {args : Array Value} {s : State}
set_option maxRecDepth 100000 in
theorem sg_ex (h : (Jvm.Cond.and given_1 narrow_1).before args s = true) : ∀ i, i < 59 → (Cond.exactly (.static tk_E (tk_n.getD i "") tk_d) tk_E).before args s = true := pn_all h (f := fun i => Cond.exactly (.static tk_E (tk_n.getD i "") tk_d) tk_E) [(1, 221), (1, 218), (1, 215), (1, 224), (2, 25), (2, 55), (2, 10), (2, 58), (2, 28), (2, 61), (2, 64), (2, 67), (2, 70), (1, 362), (2, 19), (2, 37), (2, 73), (2, 76), (2, 79), (1, 377), (2, 40), (2, 82), (1, 368), (1, 389), (1, 380), (2, 85), (2, 4), (2, 88), (2, 31), (2, 13), (2, 91), (2, 46), (2, 94), (2, 49), (2, 7), (2, 97), (1, 291), (2, 16), (1, 294), (2, 100), (2, 22), (2, 34), (2, 52), (1, 359), (1, 374), (1, 383), (1, 386), (1, 371), (1, 392), (2, 43), (2, 103), (2, 106), (2, 109), (2, 112), (2, 115), (2, 1), (1, 365), (1, 395), (1, 398)] (by rfl)
set_option maxRecDepth 100000 in
theorem sg_or (h : (Jvm.Cond.and given_1 narrow_1).before args s = true) : ∀ i, i < 59 → (Cond.eq (.field (.static tk_E (tk_n.getD i "") tk_d) "java/lang/Enum" "ordinal" "I") (.int (nI i))).before args s = true := pn_all h (f := fun i => Cond.eq (.field (.static tk_E (tk_n.getD i "") tk_d) "java/lang/Enum" "ordinal" "I") (.int (nI i))) [(1, 222), (1, 219), (1, 216), (1, 225), (2, 26), (2, 56), (2, 11), (2, 59), (2, 29), (2, 62), (2, 65), (2, 68), (2, 71), (1, 363), (2, 20), (2, 38), (2, 74), (2, 77), (2, 80), (1, 378), (2, 41), (2, 83), (1, 369), (1, 390), (1, 381), (2, 86), (2, 5), (2, 89), (2, 32), (2, 14), (2, 92), (2, 47), (2, 95), (2, 50), (2, 8), (2, 98), (1, 292), (2, 17), (1, 295), (2, 101), (2, 23), (2, 35), (2, 53), (1, 360), (1, 375), (1, 384), (1, 387), (1, 372), (1, 393), (2, 44), (2, 104), (2, 107), (2, 110), (2, 113), (2, 116), (2, 2), (1, 366), (1, 396), (1, 399)] (by rfl)
set_option maxRecDepth 100000 in
theorem sg_le (h : (Jvm.Cond.and given_1 narrow_1).before args s = true) : ∀ i, i < 59 → (Cond.eq (.field (.static tk_E (tk_n.getD i "") tk_d) tk_E "letters" "J") (.long (tk_l.getD i 0))).before args s = true := pn_all h (f := fun i => Cond.eq (.field (.static tk_E (tk_n.getD i "") tk_d) tk_E "letters" "J") (.long (tk_l.getD i 0))) [(1, 223), (1, 220), (1, 217), (1, 226), (2, 27), (2, 57), (2, 12), (2, 60), (2, 30), (2, 63), (2, 66), (2, 69), (2, 72), (1, 364), (2, 21), (2, 39), (2, 75), (2, 78), (2, 81), (1, 379), (2, 42), (2, 84), (1, 370), (1, 391), (1, 382), (2, 87), (2, 6), (2, 90), (2, 33), (2, 15), (2, 93), (2, 48), (2, 96), (2, 51), (2, 9), (2, 99), (1, 293), (2, 18), (1, 296), (2, 102), (2, 24), (2, 36), (2, 54), (1, 361), (1, 376), (1, 385), (1, 388), (1, 373), (1, 394), (2, 45), (2, 105), (2, 108), (2, 111), (2, 114), (2, 117), (2, 3), (1, 367), (1, 397), (2, 0)] (by rfl)
set_option maxRecDepth 100000 in
theorem sg_kn (h : (Jvm.Cond.and given_1 narrow_1).before args s = true) : ∀ i, i < 59 → (Cond.eq (.elem (.static tk_E "KNOWN" "[LCascadeStore$Token;") (.int (Int32.ofNat i))) (.static tk_E (tk_n.getD i "") tk_d)).before args s = true := pn_all h (f := fun i => Cond.eq (.elem (.static tk_E "KNOWN" "[LCascadeStore$Token;") (.int (Int32.ofNat i))) (.static tk_E (tk_n.getD i "") tk_d)) [(1, 232), (1, 233), (1, 234), (1, 235), (1, 236), (1, 237), (1, 238), (1, 239), (1, 240), (1, 241), (1, 242), (1, 243), (1, 244), (1, 245), (1, 246), (1, 247), (1, 248), (1, 249), (1, 250), (1, 251), (1, 252), (1, 253), (1, 254), (1, 255), (1, 256), (1, 257), (1, 258), (1, 259), (1, 260), (1, 261), (1, 262), (1, 263), (1, 264), (1, 265), (1, 266), (1, 267), (1, 268), (1, 269), (1, 270), (1, 271), (1, 272), (1, 273), (1, 274), (1, 275), (1, 276), (1, 277), (1, 278), (1, 279), (1, 280), (1, 281), (1, 282), (1, 283), (1, 284), (1, 285), (1, 286), (1, 287), (1, 288), (1, 289), (1, 290)] (by rfl)
set_option maxRecDepth 100000 in
theorem sg_sm (h : (Jvm.Cond.and given_1 narrow_1).before args s = true) : ∀ i, i < 59 → (Cond.eq (.elem (.static "CascadeStore$1" "$SwitchMap$CascadeStore$Token" "[I") (.int (Int32.ofNat i))) (.int (tk_s.getD i 0))).before args s = true := pn_all h (f := fun i => Cond.eq (.elem (.static "CascadeStore$1" "$SwitchMap$CascadeStore$Token" "[I") (.int (Int32.ofNat i))) (.int (tk_s.getD i 0))) [(1, 300), (1, 301), (1, 302), (1, 303), (1, 304), (1, 305), (1, 306), (1, 307), (1, 308), (1, 309), (1, 310), (1, 311), (1, 312), (1, 313), (1, 314), (1, 315), (1, 316), (1, 317), (1, 318), (1, 319), (1, 320), (1, 321), (1, 322), (1, 323), (1, 324), (1, 325), (1, 326), (1, 327), (1, 328), (1, 329), (1, 330), (1, 331), (1, 332), (1, 333), (1, 334), (1, 335), (1, 336), (1, 337), (1, 338), (1, 339), (1, 340), (1, 341), (1, 342), (1, 343), (1, 344), (1, 345), (1, 346), (1, 347), (1, 348), (1, 349), (1, 350), (1, 351), (1, 352), (1, 353), (1, 354), (1, 355), (1, 356), (1, 357), (1, 358)] (by rfl)
theorem sg_kna (h : (Jvm.Cond.and given_1 narrow_1).before args s = true) : (Cond.arrayOf (.static tk_E "KNOWN" "[LCascadeStore$Token;") (.object tk_E)).before args s = true := pn_s h (q := (1, 229)) (by rfl)
theorem sg_knl (h : (Jvm.Cond.and given_1 narrow_1).before args s = true) : (Cond.eq (.length (.static tk_E "KNOWN" "[LCascadeStore$Token;")) (.int (Int32.ofNat 59))).before args s = true := pn_s h (q := (1, 230)) (by rfl)
theorem sg_sma (h : (Jvm.Cond.and given_1 narrow_1).before args s = true) : (Cond.arrayOf (.static "CascadeStore$1" "$SwitchMap$CascadeStore$Token" "[I") .int).before args s = true := pn_s h (q := (1, 298)) (by rfl)
theorem sg_sml (h : (Jvm.Cond.and given_1 narrow_1).before args s = true) : (Cond.eq (.length (.static "CascadeStore$1" "$SwitchMap$CascadeStore$Token" "[I")) (.int (Int32.ofNat 59))).before args s = true := pn_s h (q := (1, 299)) (by rfl)
theorem sg_us (h : (Jvm.Cond.and given_1 narrow_1).before args s = true) : (Cond.isRef (.static Bundle.tN "UNASSIGNED_STACK" Bundle.steD)).before args s = true := pn_s h (q := (1, 2)) (by rfl)
theorem sg_ss (h : (Jvm.Cond.and given_1 narrow_1).before args s = true) : (Cond.isRef (.static Bundle.tN "SUPPRESSED_SENTINEL" Bundle.listD)).before args s = true := pn_s h (q := (1, 3)) (by rfl)
set_option maxRecDepth 100000 in
theorem sg_ls (h : ∀ w ∈ lw_tbl, w.before args s = true) : ∀ i, i < 59 → (Cond.laysStatic tk_E (tk_n.getD i "") tk_d).before args s = true := pl_alln h (f := fun i => Cond.laysStatic tk_E (tk_n.getD i "") tk_d) [(3, 220), (3, 218), (3, 216), (4, 8), (5, 170), (6, 86), (5, 102), (11, 137), (5, 172), (11, 138), (11, 139), (11, 140), (11, 141), (4, 141), (5, 157), (5, 186), (11, 142), (11, 143), (11, 144), (5, 9), (5, 188), (11, 145), (4, 162), (5, 68), (5, 27), (11, 146), (5, 97), (11, 147), (5, 182), (5, 104), (11, 148), (6, 4), (11, 149), (6, 23), (5, 100), (11, 150), (4, 20), (5, 143), (4, 22), (11, 151), (5, 163), (5, 184), (6, 25), (4, 113), (5, 7), (5, 43), (5, 45), (5, 5), (5, 74), (5, 238), (11, 152), (11, 153), (11, 154), (11, 155), (11, 156), (5, 87), (4, 151), (5, 83), (5, 85)] (by rfl)
theorem sg_ini (h : ∀ w ∈ lw_tbl, w.before args s = true) : (Cond.initialized tk_E).before args s = true := h _ (pl_w_mem (q := (1, 28)) rfl)
theorem sg_in1 (h : ∀ w ∈ lw_tbl, w.before args s = true) : (Cond.initialized "CascadeStore$1").before args s = true := h _ (pl_w_mem (q := (1, 29)) rfl)
theorem sg_int (h : ∀ w ∈ lw_tbl, w.before args s = true) : (Cond.initialized Bundle.tN).before args s = true := h _ (pl_w_mem (q := (1, 9)) rfl)
theorem sg_lk (h : ∀ w ∈ lw_tbl, w.before args s = true) : (Cond.laysStatic tk_E "KNOWN" "[LCascadeStore$Token;").before args s = true := h _ (pl_w_mem (q := (4, 13)) rfl)
theorem sg_l1 (h : ∀ w ∈ lw_tbl, w.before args s = true) : (Cond.laysStatic "CascadeStore$1" "$SwitchMap$CascadeStore$Token" "[I").before args s = true := h _ (pl_w_mem (q := (4, 50)) rfl)
theorem sg_lu (h : ∀ w ∈ lw_tbl, w.before args s = true) : (Cond.laysStatic Bundle.tN "UNASSIGNED_STACK" Bundle.steD).before args s = true := h _ (pl_w_mem (q := (2, 116)) rfl)
theorem sg_lz (h : ∀ w ∈ lw_tbl, w.before args s = true) : (Cond.laysStatic Bundle.tN "SUPPRESSED_SENTINEL" Bundle.listD).before args s = true := h _ (pl_w_mem (q := (2, 118)) rfl)
set_option maxRecDepth 100000 in
theorem sg_te (h : (Jvm.Cond.and given_1 narrow_1).before args s = true) : ∀ i, i < 15 → (Cond.exactly (.string (own.getD (tx_l.getD i (0, 0, "")).1 "") (tx_l.getD i (0, 0, "")).2.1) "java/lang/String").before args s = true := pn_all h (f := fun i => Cond.exactly (.string (own.getD (tx_l.getD i (0, 0, "")).1 "") (tx_l.getD i (0, 0, "")).2.1) "java/lang/String") [(2, 243), (2, 266), (2, 288), (2, 307), (2, 341), (2, 375), (3, 10), (3, 35), (3, 61), (3, 106), (3, 133), (3, 157), (3, 182), (3, 226), (3, 254)] (by rfl)
set_option maxRecDepth 100000 in
theorem sg_tr (h : ∀ w ∈ lw_tbl, w.before args s = true) : ∀ i, i < 15 → (Cond.stringRef (own.getD (tx_l.getD i (0, 0, "")).1 "") (tx_l.getD i (0, 0, "")).2.1 (tx_l.getD i (0, 0, "")).2.2).before args s = true := pl_alln h (f := fun i => Cond.stringRef (own.getD (tx_l.getD i (0, 0, "")).1 "") (tx_l.getD i (0, 0, "")).2.1 (tx_l.getD i (0, 0, "")).2.2) [(4, 80), (6, 199), (7, 157), (7, 159), (7, 172), (7, 193), (7, 201), (7, 224), (7, 228), (7, 230), (7, 238), (8, 9), (8, 14), (8, 23), (8, 24)] (by rfl)
theorem sg_tn : tx_l.length = 15 := rfl
def sg_n : List Nat := [5, 11, 13, 4, 11, 11, 12, 10, 4, 7, 6, 103, 6, 6, 6]
set_option maxRecDepth 100000 in
theorem sg_cl (h : ∀ w ∈ lw_tbl, w.before args s = true) : ∀ i, i < 15 → (Cond.instantiable ((cls.map (fun q => q.1)).getD i "") (sg_n.getD i 0)).before args s = true := pl_alln h (f := fun i => Cond.instantiable ((cls.map (fun q => q.1)).getD i "") (sg_n.getD i 0)) [(1, 35), (1, 43), (1, 95), (1, 105), (1, 179), (1, 185), (2, 30), (4, 175), (5, 112), (5, 194), (6, 27), (8, 34), (4, 72), (2, 90), (7, 216)] (by rfl)
def sg_p : List (Nat × Nat) := [(12, 13), (12, 14), (13, 12), (13, 14), (14, 12), (14, 13)]
set_option maxRecDepth 100000 in
theorem sg_nc (h : (Jvm.Cond.and given_1 narrow_1).before args s = true) : ∀ i, i < 6 → (Cond.not (.castable (xs_R (sg_p.getD i (0, 0)).1) (xs_R (sg_p.getD i (0, 0)).2))).before args s = true := pn_all h (f := fun i => Cond.not (.castable (xs_R (sg_p.getD i (0, 0)).1) (xs_R (sg_p.getD i (0, 0)).2))) [(2, 147), (2, 165), (2, 125), (2, 161), (2, 135), (2, 153)] (by rfl)
end STT
