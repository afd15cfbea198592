/-! THE FIXED CELLS AS FUNCTIONS: what arrays and fields of the 141 cells hold, by kind (ints, longs, references); behind them a tail of cells that are made later -/
abbrev sk_T : Type := Nat × Nat × Nat × List (Nat × Nat)
/-- a field: an int, a long, a reference that may change, one that doesn't -/
def fv (C : co_T) (k j : Nat) (q : Nat × Nat) : Value := match q.1 with
  | 0 => .int (C.1 k j)
  | 1 => .long (C.2.1 k j)
  | 2 => va_rf (C.2.2 k j)
  | _ => .ref q.2
def fvs (C : co_T) (k : Nat) : Nat → List (Nat × Nat) → List Value
  | _, [] => []
  | j, q :: r => fv C k j q :: fvs C k (j + 1) r
def mk1 (C : co_T) (k : Nat) (s : sk_T) : ab_C := match s.1 with
  | 0 => .inl (s.2.1, s.2.2.1, .inl (C.1 k))
  | 1 => .inl (s.2.1, s.2.2.1, .inr (.inl (C.2.1 k)))
  | 2 => .inl (s.2.1, s.2.2.1, .inr (.inr (.inr (.inr (C.2.2 k)))))
  | _ => .inr (s.2.1, fvs C k 0 s.2.2.2)
def SK : List sk_T := [(3, 0, 5, [(3, 101), (3, 106), (3, 120), (3, 124), (3, 175)]),
  (3, 1, 11, [(3, 102), (3, 103), (3, 104), (3, 105), (0, 0), (0, 0), (2, 0), (0, 0), (1, 0), (0, 0), (0, 0)]),
  (0, 2, 600, []),
  (2, 4, 601, []),
  (0, 0, 601, []),
  (1, 1, 601, []),
  (3, 2, 13, [(3, 107), (3, 108), (3, 109), (3, 110), (3, 111), (3, 112), (3, 113), (0, 0), (0, 0), (2, 0), (3, 118), (3, 119), (0, 0)]),
  (1, 1, 6, []),
  (0, 0, 6, []),
  (1, 1, 36, []),
  (1, 1, 36, []),
  (2, 5, 24, []),
  (2, 6, 8, []),
  (3, 3, 4, [(3, 114), (3, 115), (3, 116), (3, 117)]),
  (1, 1, 1440, []),
  (0, 0, 240, []),
  (0, 0, 6, []),
  (0, 0, 6, []),
  (2, 7, 6, []),
  (1, 1, 6, []),
  (3, 4, 11, [(3, 101), (3, 106), (3, 121), (2, 0), (2, 0), (0, 0), (1, 0), (0, 0), (2, 0), (2, 0), (0, 0)]),
  (3, 5, 11, [(3, 101), (3, 106), (3, 122), (3, 123), (0, 0), (0, 0), (0, 0), (0, 0), (0, 0), (0, 0), (0, 0)]),
  (0, 0, 600, []),
  (0, 0, 600, []),
  (3, 6, 12, [(3, 106), (3, 113), (3, 125), (3, 130), (3, 145), (3, 160), (0, 0), (0, 0), (0, 0), (0, 0), (0, 0), (0, 0)]),
  (3, 3, 4, [(3, 126), (3, 127), (3, 128), (3, 129)]),
  (1, 1, 1440, []),
  (0, 0, 240, []),
  (0, 0, 6, []),
  (0, 0, 6, []),
  (2, 9, 14, []),
  (1, 1, 6, []),
  (1, 1, 6, []),
  (1, 1, 6, []),
  (1, 1, 6, []),
  (1, 1, 6, []),
  (1, 1, 6, []),
  (1, 1, 6, []),
  (1, 1, 6, []),
  (1, 1, 6, []),
  (1, 1, 6, []),
  (1, 1, 6, []),
  (1, 1, 6, []),
  (1, 1, 6, []),
  (1, 1, 6, []),
  (2, 9, 14, []),
  (1, 1, 6, []),
  (1, 1, 6, []),
  (1, 1, 6, []),
  (1, 1, 6, []),
  (1, 1, 6, []),
  (1, 1, 6, []),
  (1, 1, 6, []),
  (1, 1, 6, []),
  (1, 1, 6, []),
  (1, 1, 6, []),
  (1, 1, 6, []),
  (1, 1, 6, []),
  (1, 1, 6, []),
  (1, 1, 6, []),
  (2, 10, 14, []),
  (0, 0, 40, []),
  (0, 0, 40, []),
  (0, 0, 40, []),
  (0, 0, 40, []),
  (0, 0, 40, []),
  (0, 0, 40, []),
  (0, 0, 40, []),
  (0, 0, 40, []),
  (0, 0, 40, []),
  (0, 0, 40, []),
  (0, 0, 40, []),
  (0, 0, 40, []),
  (0, 0, 40, []),
  (0, 0, 40, []),
  (0, 0, 8, []),
  (3, 11, 103, [(0, 0), (3, 177), (0, 0), (0, 0), (0, 0), (0, 0), (0, 0), (1, 0), (0, 0), (0, 0), (3, 178), (3, 179), (3, 180), (3, 181), (3, 182), (3, 183), (3, 184), (3, 185), (3, 186), (3, 187), (3, 188), (3, 189), (3, 190), (3, 191), (3, 192), (3, 193), (3, 194), (3, 195), (3, 196), (3, 197), (3, 198), (3, 199), (3, 200), (3, 201), (3, 202), (3, 203), (3, 204), (3, 205), (3, 206), (3, 207), (0, 0), (0, 0), (0, 0), (0, 0), (0, 0), (0, 0), (0, 0), (0, 0), (0, 0), (0, 0), (3, 208), (3, 209), (0, 0), (3, 210), (3, 211), (3, 212), (3, 213), (0, 0), (0, 0), (3, 214), (0, 0), (3, 215), (3, 216), (3, 217), (3, 218), (3, 219), (3, 220), (3, 221), (3, 222), (0, 0), (0, 0), (3, 223), (3, 224), (0, 0), (0, 0), (0, 0), (3, 225), (3, 226), (3, 227), (3, 228), (3, 229), (3, 230), (3, 231), (3, 232), (3, 233), (3, 234), (3, 235), (3, 236), (3, 237), (0, 0), (0, 0), (0, 0), (1, 0), (0, 0), (0, 0), (0, 0), (3, 238), (0, 0), (0, 0), (1, 0), (3, 239), (0, 0), (0, 0)]),
  (0, 0, 600, []),
  (0, 3, 6, []),
  (1, 1, 6, []),
  (0, 0, 6, []),
  (1, 1, 36, []),
  (1, 1, 36, []),
  (0, 3, 24, []),
  (0, 0, 24, []),
  (0, 0, 24, []),
  (0, 0, 24, []),
  (0, 0, 24, []),
  (0, 0, 144, []),
  (0, 0, 144, []),
  (0, 3, 24, []),
  (0, 3, 24, []),
  (0, 0, 24, []),
  (0, 0, 24, []),
  (0, 0, 24, []),
  (0, 3, 8, []),
  (1, 1, 8, []),
  (0, 0, 8, []),
  (0, 0, 8, []),
  (0, 0, 8, []),
  (0, 0, 8, []),
  (0, 0, 8, []),
  (0, 0, 8, []),
  (1, 1, 8, []),
  (0, 3, 8, []),
  (0, 0, 8, []),
  (0, 0, 25420, []),
  (1, 1, 25420, []),
  (0, 0, 700, []),
  (1, 1, 700, []),
  (0, 0, 41, []),
  (0, 0, 41, []),
  (0, 0, 41, []),
  (0, 0, 41, []),
  (0, 0, 25, []),
  (0, 0, 240, []),
  (1, 1, 1440, []),
  (0, 0, 6, []),
  (0, 0, 6, []),
  (0, 0, 1920, []),
  (1, 1, 11520, []),
  (0, 0, 48, []),
  (0, 0, 48, []),
  (1, 1, 6, []),
  (1, 1, 700, []),
  (0, 0, 40, []),
  (0, 0, 40, []),
  (0, 0, 40, []),
  (0, 0, 40, []),
  (0, 0, 40, []),
  (0, 0, 40, []),
  (0, 0, 40, []),
  (0, 0, 40, []),
  (0, 0, 1600, []),
  (0, 0, 40, []),
  (0, 0, 40, []),
  (1, 1, 240, []),
  (1, 1, 240, []),
  (1, 1, 6, []),
  (0, 3, 24, []),
  (1, 1, 1, [])]
def MH (C : co_T) (t : ab_H) : ab_H := SK.mapIdx (fun k s => mk1 C k s) ++ t
theorem MH_len (C : co_T) (t : ab_H) : (MH C t).length = 141 + t.length := by
  unfold MH
  rw [List.length_append, List.length_mapIdx]
  rfl
theorem MH_get {C : co_T} {t : ab_H} {k : Nat} {s : sk_T} (h : SK[k]? = some s) : (MH C t)[k]? = some (mk1 C k s) := by
  unfold MH
  rw [List.getElem?_append_left (by rw [List.length_mapIdx]; exact (List.getElem?_eq_some_iff.mp h).1), List.getElem?_mapIdx, h]
  rfl
theorem MH_app (C : co_T) (t u : ab_H) : MH C t ++ u = MH C (t ++ u) := by
  unfold MH
  rw [List.append_assoc]
/-- other contents of one cell -/
def sA (C : co_T) (k : Nat) (f : Nat → Int32) : co_T := (fun q => if q = k then f else C.1 q, C.2)
def sB (C : co_T) (k : Nat) (f : Nat → Int64) : co_T := (C.1, fun q => if q = k then f else C.2.1 q, C.2.2)
def sR (C : co_T) (k : Nat) (f : Nat → Option Nat) : co_T := (C.1, C.2.1, fun q => if q = k then f else C.2.2 q)
/-- one element, or one field -/
def sI (C : co_T) (k j : Nat) (v : Int32) : co_T := sA C k (upd (C.1 k) j v)
def sJ (C : co_T) (k j : Nat) (v : Int64) : co_T := sB C k (vp_updL (C.2.1 k) j v)
def sQ (C : co_T) (k j : Nat) (v : Option Nat) : co_T := sR C k (va_up (C.2.2 k) j v)
theorem mx_set {S : List sk_T} {C C' : co_T} {t : ab_H} {k : Nat} {s : sk_T} {c : ab_C} (h : S[k]? = some s) (e1 : mk1 C' k s = c) (e2 : ∀ q z, q ≠ k → mk1 C' q z = mk1 C q z) : (S.mapIdx (fun k s => mk1 C k s) ++ t).set k c = S.mapIdx (fun k s => mk1 C' k s) ++ t := by
  have hk := (List.getElem?_eq_some_iff.mp h).1
  rw [List.set_append_left _ _ (by rw [List.length_mapIdx]; exact hk)]
  congr 1
  apply List.ext_getElem?
  intro q
  rw [List.getElem?_set, List.getElem?_mapIdx, List.getElem?_mapIdx, List.length_mapIdx]
  by_cases hq : k = q
  · subst hq
    rw [if_pos rfl, if_pos hk, h, Option.map_some, e1]
  · rw [if_neg hq]
    cases S[q]? with
    | none => rfl
    | some z => rw [Option.map_some, Option.map_some, e2 q z (fun e => hq e.symm)]
theorem MH_set {C C' : co_T} {t : ab_H} {k : Nat} {s : sk_T} {c : ab_C} (h : SK[k]? = some s) (e1 : mk1 C' k s = c) (e2 : ∀ q z, q ≠ k → mk1 C' q z = mk1 C q z) : (MH C t).set k c = MH C' t := mx_set h e1 e2
theorem fvs_ne {C C' : co_T} {q : Nat} (h1 : C'.1 q = C.1 q) (h2 : C'.2.1 q = C.2.1 q) (h3 : C'.2.2 q = C.2.2 q) : ∀ (l : List (Nat × Nat)) (j : Nat), fvs C' q j l = fvs C q j l
  | [], _ => rfl
  | a :: r, j => by
    rw [fvs, fvs, fvs_ne h1 h2 h3 r (j + 1)]
    unfold fv
    rw [h1, h2, h3]
theorem mk1_ne {C C' : co_T} {q : Nat} (h1 : C'.1 q = C.1 q) (h2 : C'.2.1 q = C.2.1 q) (h3 : C'.2.2 q = C.2.2 q) (z : sk_T) : mk1 C' q z = mk1 C q z := by
  unfold mk1
  rw [h1, h2, h3, fvs_ne h1 h2 h3]
theorem sA_ne {C : co_T} {k q : Nat} {f : Nat → Int32} (hq : q ≠ k) (z : sk_T) : mk1 (sA C k f) q z = mk1 C q z := mk1_ne (C := C) (C' := sA C k f) (by simp [sA, hq]) rfl rfl z
theorem sB_ne {C : co_T} {k q : Nat} {f : Nat → Int64} (hq : q ≠ k) (z : sk_T) : mk1 (sB C k f) q z = mk1 C q z := mk1_ne (C := C) (C' := sB C k f) rfl (by simp [sB, hq]) rfl z
theorem sR_ne {C : co_T} {k q : Nat} {f : Nat → Option Nat} (hq : q ≠ k) (z : sk_T) : mk1 (sR C k f) q z = mk1 C q z := mk1_ne (C := C) (C' := sR C k f) rfl rfl (by simp [sR, hq]) z
theorem MH_sA {C : co_T} {t : ab_H} {k ty n : Nat} {l : List (Nat × Nat)} {f : Nat → Int32} (h : SK[k]? = some (0, ty, n, l)) : (MH C t).set k (.inl (ty, n, .inl f)) = MH (sA C k f) t :=
  MH_set h (by simp [mk1, sA]) (fun _ z hq => sA_ne hq z)
theorem MH_sB {C : co_T} {t : ab_H} {k ty n : Nat} {l : List (Nat × Nat)} {f : Nat → Int64} (h : SK[k]? = some (1, ty, n, l)) : (MH C t).set k (.inl (ty, n, .inr (.inl f))) = MH (sB C k f) t :=
  MH_set h (by simp [mk1, sB]) (fun _ z hq => sB_ne hq z)
theorem MH_sR {C : co_T} {t : ab_H} {k ty n : Nat} {l : List (Nat × Nat)} {f : Nat → Option Nat} (h : SK[k]? = some (2, ty, n, l)) : (MH C t).set k (.inl (ty, n, .inr (.inr (.inr (.inr f))))) = MH (sR C k f) t :=
  MH_set h (by simp [mk1, sR]) (fun _ z hq => sR_ne hq z)
theorem fvs_len (C : co_T) (k : Nat) : ∀ (l : List (Nat × Nat)) (j : Nat), (fvs C k j l).length = l.length
  | [], _ => rfl
  | _ :: r, j => by rw [fvs, List.length_cons, List.length_cons, fvs_len C k r]
theorem fvs_get (C : co_T) (k : Nat) : ∀ (l : List (Nat × Nat)) (b j : Nat) (q : Nat × Nat), l[j]? = some q → (fvs C k b l)[j]? = some (fv C k (b + j) q)
  | [], _, _, _, h => by cases h
  | a :: r, b, 0, q, h => by cases h; rfl
  | a :: r, b, j + 1, q, h => by
    have := fvs_get C k r (b + 1) j q h
    rw [Nat.add_assoc, Nat.add_comm 1 j] at this
    exact this
theorem fvs_set {C C' : co_T} {k : Nat} {v : Value} : ∀ (l : List (Nat × Nat)) (b j : Nat) (q : Nat × Nat), l[j]? = some q → fv C' k (b + j) q = v → (∀ i z, l[i]? = some z → i ≠ j → fv C' k (b + i) z = fv C k (b + i) z) → (fvs C k b l).set j v = fvs C' k b l
  | [], _, _, _, h, _, _ => by cases h
  | a :: r, b, 0, q, h, hv, hn => by
    obtain rfl : a = q := by simpa using h
    rw [fvs, fvs, List.set_cons_zero]
    rw [show fv C' k b a = v from hv]
    congr 1
    apply List.ext_getElem?
    intro i
    by_cases hi : i < r.length
    · obtain ⟨z, hz⟩ : ∃ z, r[i]? = some z := ⟨_, List.getElem?_eq_getElem hi⟩
      rw [fvs_get C k r _ _ _ hz, fvs_get C' k r _ _ _ hz]
      have := hn (i + 1) z hz (by omega)
      rw [show b + 1 + i = b + (i + 1) by omega, this]
    · rw [List.getElem?_eq_none (by rw [fvs_len]; omega), List.getElem?_eq_none (by rw [fvs_len]; omega)]
  | a :: r, b, j + 1, q, h, hv, hn => by
    rw [fvs, fvs, List.set_cons_succ]
    congr 1
    · exact (hn 0 a rfl (by omega)).symm
    · exact fvs_set r (b + 1) j q h (by rw [← hv]; congr 1; omega) (fun i z hz hi => by
        have := hn (i + 1) z hz (by omega)
        rw [show b + 1 + i = b + (i + 1) by omega]
        exact this)
theorem MH_fI {C : co_T} {t : ab_H} {k ci n j x : Nat} {l : List (Nat × Nat)} {v : Int32} (h : SK[k]? = some (3, ci, n, l)) (hj : l[j]? = some (0, x)) : (MH C t).set k (.inr (ci, (fvs C k 0 l).set j (.int v))) = MH (sI C k j v) t := by
  refine MH_set h ?_ (fun _ z hq => sA_ne hq z)
  show (.inr (ci, fvs (sI C k j v) k 0 l) : ab_C) = _
  rw [fvs_set (C' := sI C k j v) l 0 j _ hj (by simp [fv, sI, sA, upd]) (fun i z _ hi => by simp [fv, sI, sA, upd, hi])]
theorem MH_fJ {C : co_T} {t : ab_H} {k ci n j x : Nat} {l : List (Nat × Nat)} {v : Int64} (h : SK[k]? = some (3, ci, n, l)) (hj : l[j]? = some (1, x)) : (MH C t).set k (.inr (ci, (fvs C k 0 l).set j (.long v))) = MH (sJ C k j v) t := by
  refine MH_set h ?_ (fun _ z hq => sB_ne hq z)
  show (.inr (ci, fvs (sJ C k j v) k 0 l) : ab_C) = _
  rw [fvs_set (C' := sJ C k j v) l 0 j _ hj (by simp [fv, sJ, sB, vp_updL]) (fun i z _ hi => by simp [fv, sJ, sB, vp_updL, hi])]
theorem MH_fR {C : co_T} {t : ab_H} {k ci n j x : Nat} {l : List (Nat × Nat)} {v : Option Nat} (h : SK[k]? = some (3, ci, n, l)) (hj : l[j]? = some (2, x)) : (MH C t).set k (.inr (ci, (fvs C k 0 l).set j (va_rf v))) = MH (sQ C k j v) t := by
  refine MH_set h ?_ (fun _ z hq => sR_ne hq z)
  show (.inr (ci, fvs (sQ C k j v) k 0 l) : ab_C) = _
  rw [fvs_set (C' := sQ C k j v) l 0 j _ hj (by simp [fv, sQ, sR, va_up]) (fun i z _ hi => by simp [fv, sQ, sR, va_up, hi])]
/-- what the cells are -/
theorem MH_obj {C : co_T} {t : ab_H} {a k ci n : Nat} {l : List (Nat × Nat)} (ha : a = k + 100) (h : SK[k]? = some (3, ci, n, l)) : mo_obj (MH C t) a = some (ci, fvs C k 0 l) := by
  subst ha
  unfold mo_obj
  rw [if_pos (Nat.le_add_left _ _), Nat.add_sub_cancel, MH_get h]
  rfl
theorem MH_arI {C : co_T} {t : ab_H} {a k ty n : Nat} {l : List (Nat × Nat)} (ha : a = k + 100) (h : SK[k]? = some (0, ty, n, l)) : mo_arr (MH C t) a = some (ty, n, .inl (C.1 k)) := by
  subst ha
  unfold mo_arr
  rw [if_pos (Nat.le_add_left _ _), Nat.add_sub_cancel, MH_get h]
  rfl
theorem MH_arJ {C : co_T} {t : ab_H} {a k ty n : Nat} {l : List (Nat × Nat)} (ha : a = k + 100) (h : SK[k]? = some (1, ty, n, l)) : mo_arr (MH C t) a = some (ty, n, .inr (.inl (C.2.1 k))) := by
  subst ha
  unfold mo_arr
  rw [if_pos (Nat.le_add_left _ _), Nat.add_sub_cancel, MH_get h]
  rfl
theorem MH_arR {C : co_T} {t : ab_H} {a k ty n : Nat} {l : List (Nat × Nat)} (ha : a = k + 100) (h : SK[k]? = some (2, ty, n, l)) : mo_arr (MH C t) a = some (ty, n, .inr (.inr (.inr (.inr (C.2.2 k))))) := by
  subst ha
  unfold mo_arr
  rw [if_pos (Nat.le_add_left _ _), Nat.add_sub_cancel, MH_get h]
  rfl
section MHR
variable {L : Nat} {xs : Nat → Int32} {o : Nat} {ini : Bool} {C : co_T} {t : ab_H} {a b k idx ci n j ty x : Nat} {l : List (Nat × Nat)} {q : List Value} {e : fl_T}
theorem h_gf {z : Nat × Nat} (hf : mo_fl o idx = some e) (ha : a = k + 100) (h : SK[k]? = some (3, e.2.2.1, n, l)) (hj : l[e.2.2.2.1]? = some z) : mo L xs o ini (.getfield idx) 3 (MH C t) (.ref a :: q) = some (fv C k e.2.2.2.1 z :: q, MH C t, 0) := by
  show mo_gf o idx (MH C t) (.ref a :: q) = _
  unfold mo_gf
  simp only
  rw [hf]
  simp only
  rw [MH_obj ha h]
  simp only
  rw [if_pos trivial, fvs_get C k l 0 _ _ hj, Nat.zero_add]
  rfl
theorem h_gI (hf : mo_fl o idx = some e) (ha : a = k + 100) (h : SK[k]? = some (3, e.2.2.1, n, l)) (hj : l[e.2.2.2.1]? = some (0, x)) (hk : e.2.2.2.1 = j) : mo L xs o ini (.getfield idx) 3 (MH C t) (.ref a :: q) = some (.int (C.1 k j) :: q, MH C t, 0) := by
  subst hk
  exact h_gf hf ha h hj
theorem h_gJ (hf : mo_fl o idx = some e) (ha : a = k + 100) (h : SK[k]? = some (3, e.2.2.1, n, l)) (hj : l[e.2.2.2.1]? = some (1, x)) (hk : e.2.2.2.1 = j) : mo L xs o ini (.getfield idx) 3 (MH C t) (.ref a :: q) = some (.long (C.2.1 k j) :: q, MH C t, 0) := by
  subst hk
  exact h_gf hf ha h hj
theorem h_gR (hf : mo_fl o idx = some e) (ha : a = k + 100) (h : SK[k]? = some (3, e.2.2.1, n, l)) (hj : l[e.2.2.2.1]? = some (2, x)) (hk : e.2.2.2.1 = j) : mo L xs o ini (.getfield idx) 3 (MH C t) (.ref a :: q) = some (va_rf (C.2.2 k j) :: q, MH C t, 0) := by
  subst hk
  exact h_gf hf ha h hj
theorem h_gC (hf : mo_fl o idx = some e) (ha : a = k + 100) (h : SK[k]? = some (3, e.2.2.1, n, l)) (hj : l[e.2.2.2.1]? = some (3, b)) : mo L xs o ini (.getfield idx) 3 (MH C t) (.ref a :: q) = some (.ref b :: q, MH C t, 0) := h_gf hf ha h hj
theorem h_pf {v : Value} {z : vw_C} {tyv : FieldType} (hf : mo_fl o idx = some e) (ha : a = k + 100) (h : SK[k]? = some (3, e.2.2.1, n, l)) (hj : e.2.2.2.1 < l.length) (hz : cls[e.2.2.1]? = some z) (hp : parseFieldDescriptor (z.2.1 e.2.2.2.1).2.2.1 = some tyv) (hv : narrow tyv v = v ∧ fits tyv v = true) (hfin : (z.2.1 e.2.2.2.1).2.2.2 = false) :
    mo L xs o ini (.putfield idx) 3 (MH C t) (v :: .ref a :: q) = some (q, (MH C t).set k (.inr (e.2.2.1, (fvs C k 0 l).set e.2.2.2.1 v)), 0) := by
  show mo_pf o ini idx (MH C t) (v :: .ref a :: q) = _
  unfold mo_pf
  simp only
  rw [hf]
  simp only
  rw [MH_obj ha h]
  simp only
  rw [hz]
  simp only
  rw [hp]
  simp only
  rw [if_pos ⟨trivial, by rw [fvs_len]; exact hj, hv, Or.inl hfin⟩]
  rw [show a - 100 = k by omega]
theorem h_pI {v : Int32} {z : vw_C} {tyv : FieldType} (hf : mo_fl o idx = some e) (ha : a = k + 100) (h : SK[k]? = some (3, e.2.2.1, n, l)) (hj : l[e.2.2.2.1]? = some (0, x)) (hz : cls[e.2.2.1]? = some z) (hp : parseFieldDescriptor (z.2.1 e.2.2.2.1).2.2.1 = some tyv) (hfin : (z.2.1 e.2.2.2.1).2.2.2 = false) (hv : narrow tyv (.int v) = .int v ∧ fits tyv (.int v) = true) (hk : e.2.2.2.1 = j) :
    mo L xs o ini (.putfield idx) 3 (MH C t) (.int v :: .ref a :: q) = some (q, MH (sI C k j v) t, 0) := by
  subst hk
  rw [h_pf hf ha h (List.getElem?_eq_some_iff.mp hj).1 hz hp hv hfin, MH_fI h hj]
theorem h_pJ {v : Int64} {z : vw_C} {tyv : FieldType} (hf : mo_fl o idx = some e) (ha : a = k + 100) (h : SK[k]? = some (3, e.2.2.1, n, l)) (hj : l[e.2.2.2.1]? = some (1, x)) (hz : cls[e.2.2.1]? = some z) (hp : parseFieldDescriptor (z.2.1 e.2.2.2.1).2.2.1 = some tyv) (hfin : (z.2.1 e.2.2.2.1).2.2.2 = false) (hv : narrow tyv (.long v) = .long v ∧ fits tyv (.long v) = true) (hk : e.2.2.2.1 = j) :
    mo L xs o ini (.putfield idx) 3 (MH C t) (.long v :: .ref a :: q) = some (q, MH (sJ C k j v) t, 0) := by
  subst hk
  rw [h_pf hf ha h (List.getElem?_eq_some_iff.mp hj).1 hz hp hv hfin, MH_fJ h hj]
theorem h_pR {v : Option Nat} {z : vw_C} {tyv : FieldType} (hf : mo_fl o idx = some e) (ha : a = k + 100) (h : SK[k]? = some (3, e.2.2.1, n, l)) (hj : l[e.2.2.2.1]? = some (2, x)) (hz : cls[e.2.2.1]? = some z) (hp : parseFieldDescriptor (z.2.1 e.2.2.2.1).2.2.1 = some tyv) (hfin : (z.2.1 e.2.2.2.1).2.2.2 = false) (hv : narrow tyv (va_rf v) = va_rf v ∧ fits tyv (va_rf v) = true) (hk : e.2.2.2.1 = j) :
    mo L xs o ini (.putfield idx) 3 (MH C t) (va_rf v :: .ref a :: q) = some (q, MH (sQ C k j v) t, 0) := by
  subst hk
  rw [h_pf hf ha h (List.getElem?_eq_some_iff.mp hj).1 hz hp hv hfin, MH_fR h hj]
theorem h_il {i : Int32} (ha : a = k + 100) (h : SK[k]? = some (0, 0, n, l)) (hi : mo_in i n = true) : mo L xs o ini .iaload 1 (MH C t) (.int i :: .ref a :: q) = some (.int (C.1 k i.toNatClampNeg) :: q, MH C t, 0) := by
  show mo_il L xs (MH C t) (.int i :: .ref a :: q) = _
  unfold mo_il
  simp only
  rw [MH_arI ha h]
  simp only
  rw [if_pos hi]
theorem h_bl {i : Int32} (ha : a = k + 100) (h : SK[k]? = some (0, ty, n, l)) (ht : ty = 2 ∨ ty = 3) (hi : mo_in i n = true) : mo L xs o ini .baload 1 (MH C t) (.int i :: .ref a :: q) = some (.int (C.1 k i.toNatClampNeg) :: q, MH C t, 0) := by
  show mo_bl (MH C t) (.int i :: .ref a :: q) = _
  unfold mo_bl
  simp only
  rw [MH_arI ha h]
  simp only
  rw [if_pos ⟨ht, hi⟩]
theorem h_ll {i : Int32} (ha : a = k + 100) (h : SK[k]? = some (1, 1, n, l)) (hi : mo_in i n = true) : mo L xs o ini .laload 1 (MH C t) (.int i :: .ref a :: q) = some (.long (C.2.1 k i.toNatClampNeg) :: q, MH C t, 0) := by
  show mo_ll (MH C t) (.int i :: .ref a :: q) = _
  unfold mo_ll
  simp only
  rw [MH_arJ ha h]
  simp only
  rw [if_pos hi]
theorem h_al {i : Int32} (ha : a = k + 100) (h : SK[k]? = some (2, ty, n, l)) (ht : 4 ≤ ty ∧ ty < 11) (hi : mo_in i n = true) : mo L xs o ini .aaload 1 (MH C t) (.int i :: .ref a :: q) = some (va_rf (C.2.2 k i.toNatClampNeg) :: q, MH C t, 0) := by
  show mo_al (MH C t) (.int i :: .ref a :: q) = _
  unfold mo_al
  simp only
  rw [MH_arR ha h]
  simp only
  rw [if_pos ⟨ht, hi⟩]
theorem h_is {i v : Int32} (ha : a = k + 100) (h : SK[k]? = some (0, 0, n, l)) (hi : mo_in i n = true) : mo L xs o ini .iastore 1 (MH C t) (.int v :: .int i :: .ref a :: q) = some (q, MH (sI C k i.toNatClampNeg v) t, 0) := by
  show mo_is (MH C t) (.int v :: .int i :: .ref a :: q) = _
  unfold mo_is
  simp only
  rw [MH_arI ha h]
  simp only
  rw [if_pos hi, show a - 100 = k by omega, MH_sA h]
  rfl
theorem h_bs {i v : Int32} (ha : a = k + 100) (h : SK[k]? = some (0, ty, n, l)) (ht : ty = 2 ∨ ty = 3) (hi : mo_in i n = true) : mo L xs o ini .bastore 1 (MH C t) (.int v :: .int i :: .ref a :: q) = some (q, MH (sI C k i.toNatClampNeg (vp_nar (ab_ty ty) v)) t, 0) := by
  show mo_bs (MH C t) (.int v :: .int i :: .ref a :: q) = _
  unfold mo_bs
  simp only
  rw [MH_arI ha h]
  simp only
  rw [if_pos ⟨ht, hi⟩, show a - 100 = k by omega, MH_sA h]
  rfl
theorem h_ls {i : Int32} {v : Int64} (ha : a = k + 100) (h : SK[k]? = some (1, 1, n, l)) (hi : mo_in i n = true) : mo L xs o ini .lastore 1 (MH C t) (.long v :: .int i :: .ref a :: q) = some (q, MH (sJ C k i.toNatClampNeg v) t, 0) := by
  show mo_ls (MH C t) (.long v :: .int i :: .ref a :: q) = _
  unfold mo_ls
  simp only
  rw [MH_arJ ha h]
  simp only
  rw [if_pos hi, show a - 100 = k by omega, MH_sB h]
  rfl
theorem h_lnI (ha : a = k + 100) (h : SK[k]? = some (0, ty, n, l)) (ht : ty < 11) : mo L xs o ini .arraylength 1 (MH C t) (.ref a :: q) = some (.int (nI n) :: q, MH C t, 0) := by
  show mo_ln L (MH C t) (.ref a :: q) = _
  unfold mo_ln
  simp only
  rw [MH_arI ha h]
  simp only
  rw [if_pos ht]
  rfl
theorem h_lnJ (ha : a = k + 100) (h : SK[k]? = some (1, ty, n, l)) (ht : ty < 11) : mo L xs o ini .arraylength 1 (MH C t) (.ref a :: q) = some (.int (nI n) :: q, MH C t, 0) := by
  show mo_ln L (MH C t) (.ref a :: q) = _
  unfold mo_ln
  simp only
  rw [MH_arJ ha h]
  simp only
  rw [if_pos ht]
  rfl
theorem h_lnR (ha : a = k + 100) (h : SK[k]? = some (2, ty, n, l)) (ht : ty < 11) : mo L xs o ini .arraylength 1 (MH C t) (.ref a :: q) = some (.int (nI n) :: q, MH C t, 0) := by
  show mo_ln L (MH C t) (.ref a :: q) = _
  unfold mo_ln
  simp only
  rw [MH_arR ha h]
  simp only
  rw [if_pos ht]
  rfl
end MHR
/-- the cells at the start: fields are 0 or null, arrays too but for three kinds -/
def isob (k : Nat) : Bool := [0, 1, 6, 13, 20, 21, 24, 25, 76].contains k
def co0 (C : co_T) : co_T := (fun k j => bif isob k then 0 else C.1 k j, fun k j => bif isob k then 0 else C.2.1 k j, fun k j => bif isob k then none else C.2.2 k j)
def ckv (v : Value) (q : Nat × Nat) : Bool := match v with
  | .int x => decide (q.1 = 0) && decide (x = 0)
  | .long x => decide (q.1 = 1) && decide (x = 0)
  | .null => decide (q.1 = 2)
  | .ref a => decide (q.1 = 3) && decide (a = q.2)
  | _ => false
theorem ckv_s {C : co_T} {k j : Nat} (hk : isob k = true) {v : Value} {q : Nat × Nat} (h : ckv v q = true) : v = fv (co0 C) k j q := by
  obtain ⟨q1, q2⟩ := q
  cases v <;> simp [ckv] at h
  · obtain ⟨rfl, rfl⟩ := h
    simp [fv, co0, hk]
  · obtain ⟨rfl, rfl⟩ := h
    simp [fv, co0, hk]
  · subst h
    simp [fv, co0, hk, va_rf]
  · obtain ⟨rfl, rfl⟩ := h
    rfl
def ckf : List Value → List (Nat × Nat) → Bool
  | [], [] => true
  | v :: r, q :: s => ckv v q && ckf r s
  | _, _ => false
theorem ckf_s {C : co_T} {k : Nat} (hk : isob k = true) : ∀ (l1 : List Value) (l2 : List (Nat × Nat)) (j : Nat), ckf l1 l2 = true → l1 = fvs (co0 C) k j l2
  | [], [], _, _ => rfl
  | [], _ :: _, _, h => by cases h
  | _ :: _, [], _, h => by cases h
  | v :: r, q :: s, j, h => by
    rw [ckf, Bool.and_eq_true] at h
    rw [fvs, ← ckf_s hk r s (j + 1) h.2, ← ckv_s hk h.1]
def cks (k : Nat) (a : sh_T) (b : sk_T) : Bool := match a.1 with
  | 0 => decide (b.1 = 0) && decide (a.2.1 = b.2.1) && decide (a.2.2.1 = b.2.2.1) && !isob k
  | 1 => decide (b.1 = 1) && decide (a.2.1 = b.2.1) && decide (a.2.2.1 = b.2.2.1) && !isob k
  | 2 => decide (b.1 = 2) && decide (a.2.1 = b.2.1) && decide (a.2.2.1 = b.2.2.1) && !isob k
  | 3 => decide (b.1 = 3) && decide (a.2.1 = b.2.1) && isob k && ckf a.2.2.2 b.2.2.2
  | _ => false
theorem cks_s {C : co_T} {k : Nat} {a : sh_T} {b : sk_T} (h : cks k a b = true) : mkc C k a = mk1 (co0 C) k b := by
  obtain ⟨a1, a2, a3, a4⟩ := a
  obtain ⟨b1, b2, b3, b4⟩ := b
  unfold cks at h
  simp only at h
  split at h
  · simp only [Bool.and_eq_true, decide_eq_true_eq, Bool.not_eq_true'] at h
    obtain ⟨⟨⟨rfl, rfl⟩, rfl⟩, h⟩ := h
    simp [mkc, mk1, co0, h]
  · simp only [Bool.and_eq_true, decide_eq_true_eq, Bool.not_eq_true'] at h
    obtain ⟨⟨⟨rfl, rfl⟩, rfl⟩, h⟩ := h
    simp [mkc, mk1, co0, h]
  · simp only [Bool.and_eq_true, decide_eq_true_eq, Bool.not_eq_true'] at h
    obtain ⟨⟨⟨rfl, rfl⟩, rfl⟩, h⟩ := h
    simp [mkc, mk1, co0, h]
  · simp only [Bool.and_eq_true, decide_eq_true_eq] at h
    obtain ⟨⟨⟨rfl, rfl⟩, h⟩, h2⟩ := h
    simp only [mkc, mk1]
    rw [← ckf_s h a4 b4 0 h2]
  · cases h
def ckS : Nat → List sh_T → List sk_T → Bool
  | _, [], [] => true
  | k, a :: r, b :: s => cks k a b && ckS (k + 1) r s
  | _, _, _ => false
theorem ckS_s {C : co_T} : ∀ (l1 : List sh_T) (l2 : List sk_T) (b : Nat), ckS b l1 l2 = true → mkh C b l1 = l2.mapIdx (fun k s => mk1 (co0 C) (b + k) s)
  | [], [], _, _ => rfl
  | [], _ :: _, _, h => by cases h
  | _ :: _, [], _, h => by cases h
  | x :: r, z :: s, b, h => by
    rw [ckS, Bool.and_eq_true] at h
    rw [mkh, List.mapIdx_cons, ckS_s r s (b + 1) h.2, cks_s h.1]
    congr 1
    apply List.mapIdx_eq_mapIdx_iff.mpr
    intro i hi
    rw [Nat.add_assoc, Nat.add_comm 1 i]
theorem ckS_0 : ckS 0 SH0 SK = true := by decide +kernel
theorem mkh_MH (C : co_T) : mkh C 0 SH0 = MH (co0 C) [] := by
  unfold MH
  rw [List.append_nil, ckS_s SH0 SK 0 ckS_0]
  congr 1
  funext k s
  rw [Nat.zero_add]
def sI0 (k i : Nat) : Int32 := if k = 75 then (if i < 5 then -1 else 0) else if k = 118 then 1 else 0
def sR0 (k i : Nat) : Option Nat := if k = 30 then some (131 + i) else if k = 45 then some (146 + i) else if k = 60 then some (161 + i) else none
def ck1 (k : Nat) : ab_C → Bool
  | .inl (_, n, .inl f) => (List.range n).all (fun i => decide (f i = sI0 k i))
  | .inl (_, n, .inr (.inl f)) => (List.range n).all (fun i => decide (f i = 0))
  | .inl (_, n, .inr (.inr (.inr (.inr f)))) => (List.range n).all (fun i => decide (f i = sR0 k i))
  | _ => true
def ckh : Nat → ab_H → Bool
  | _, [] => true
  | k, c :: r => ck1 k c && ckh (k + 1) r
set_option maxRecDepth 1000000 in
theorem kc0_z : ckh 0 (kh kc0) = true := by decide +kernel
theorem ckh_s : ∀ (h : ab_H) (b k : Nat) (c : ab_C), ckh b h = true → h[k]? = some c → ck1 (b + k) c = true
  | [], _, _, _, _, hc => by cases hc
  | c0 :: r, b, 0, c, h, hc => by
    cases hc
    rw [ckh, Bool.and_eq_true] at h
    exact h.1
  | c0 :: r, b, k + 1, c, h, hc => by
    rw [ckh, Bool.and_eq_true] at h
    have := ckh_s r (b + 1) k c h.2 hc
    rw [Nat.add_assoc, Nat.add_comm 1 k] at this
    exact this
theorem hc0_m : ∃ C : co_T, kh kc0 = MH C [] ∧ (∀ k j, isob k = true → C.1 k j = 0 ∧ C.2.1 k j = 0 ∧ C.2.2 k j = none) ∧ (∀ k ty n l i, SK[k]? = some (0, ty, n, l) → i < n → C.1 k i = sI0 k i) ∧ (∀ k ty n l i, SK[k]? = some (1, ty, n, l) → i < n → C.2.1 k i = 0) ∧ (∀ k ty n l i, SK[k]? = some (2, ty, n, l) → i < n → C.2.2 k i = sR0 k i) := by
  obtain ⟨C, hC⟩ := hc0_e
  have hz := kc0_z
  rw [hC, mkh_MH] at hz
  refine ⟨co0 C, by rw [hC, mkh_MH], fun k j h => by simp [co0, h], fun k ty n l i hk hi => ?_, fun k ty n l i hk hi => ?_, fun k ty n l i hk hi => ?_⟩
  · have := ckh_s _ 0 k _ hz (MH_get hk)
    rw [Nat.zero_add] at this
    exact of_decide_eq_true (List.all_eq_true.mp this i (List.mem_range.mpr hi))
  · have := ckh_s _ 0 k _ hz (MH_get hk)
    exact of_decide_eq_true (List.all_eq_true.mp this i (List.mem_range.mpr hi))
  · have := ckh_s _ 0 k _ hz (MH_get hk)
    rw [Nat.zero_add] at this
    exact of_decide_eq_true (List.all_eq_true.mp this i (List.mem_range.mpr hi))
