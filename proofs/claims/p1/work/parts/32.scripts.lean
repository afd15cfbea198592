/-! ROWS FOR SCRIPTS: branches in words of numbers, calls, native rows and throws with any room -/
section SCR
variable {L : Nat} {xs : Nat → Int32} {d pc sl pc0 len pc1 a b : Nat} {y : mc_T} {al al1 : List (Nat × Value)} {st st1 q : List Value} {h h1 : ab_H} {i : Instr} {P P' : Option Value → ab_H → Nat → Prop} {X X' : Nat → ab_H → Nat → Prop}
set_option maxRecDepth 100000 in
theorem w_m0 (hf : y.2.2.find? (fun x => x.1 == pc) = some (pc0, i, len)) (hp : ab_p y.1.2.2.1 i len pc al st = none) (hm : mo L xs y.2.1 (y.1.1.name == "<init>") i len h st = some (st1, h1, 0)) (hpc : pc + len = pc1) (w : Wd L xs d y (pc1, al, st1, h1, sl) P X) : Wd L xs d y (pc, al, st, h, sl) P X := w_m hf hp hm hpc w
set_option maxRecDepth 100000 in
theorem w_nl {v : Option Nat} {off : Int} (hf : y.2.2.find? (fun x => x.1 == pc) = some (pc0, .ifnull off, 3)) (hj : ab_j pc off = some a) (hb : pc + 3 = b) (wn : v = none → Wd L xs d y (a, al, q, h, sl) P X) (ws : ∀ {r}, v = some r → Wd L xs d y (b, al, q, h, sl) P X) : Wd L xs d y (pc, al, va_rf v :: q, h, sl) P X := by
  subst hb
  cases v with
  | none => exact w_p hf (by show ab_ifn pc al false off (.null :: q) = _; unfold ab_ifn ab_g1; simp only [hj]; rfl) (wn rfl)
  | some r => exact w_p hf (by show ab_ifn pc al false off (.ref r :: q) = _; unfold ab_ifn ab_g1; simp only [hj]; rfl) (ws rfl)
set_option maxRecDepth 100000 in
theorem w_nn {v : Option Nat} {off : Int} (hf : y.2.2.find? (fun x => x.1 == pc) = some (pc0, .ifnonnull off, 3)) (hj : ab_j pc off = some a) (hb : pc + 3 = b) (ws : ∀ {r}, v = some r → Wd L xs d y (a, al, q, h, sl) P X) (wn : v = none → Wd L xs d y (b, al, q, h, sl) P X) : Wd L xs d y (pc, al, va_rf v :: q, h, sl) P X := by
  subst hb
  cases v with
  | none => exact w_p hf (by show ab_ifn pc al true off (.null :: q) = _; unfold ab_ifn ab_g1; simp only [hj]; rfl) (wn rfl)
  | some r => exact w_p hf (by show ab_ifn pc al true off (.ref r :: q) = _; unfold ab_ifn ab_g1; simp only [hj]; rfl) (ws rfl)
set_option maxRecDepth 100000 in
theorem w_sd {x : Int32} {dflt lo hi : Int} {offs : Array Int} (hf : y.2.2.find? (fun x => x.1 == pc) = some (pc0, .tableswitch dflt lo hi offs, len)) (hj : ab_j pc dflt = some a) (hx : x.toInt < lo ∨ hi < x.toInt) (w : Wd L xs d y (a, al, q, h, sl) P X) : Wd L xs d y (pc, al, .int x :: q, h, sl) P X :=
  w_p hf (by show ab_ts pc al dflt lo hi offs (.int x :: q) = _; unfold ab_ts; simp only; rw [if_pos hx, hj]; rfl) w
set_option maxRecDepth 100000 in
theorem w_nl_n {v : Option Nat} {off : Int} (hv : v = none) (hf : y.2.2.find? (fun x => x.1 == pc) = some (pc0, .ifnull off, 3)) (hj : ab_j pc off = some a) (hb : pc + 3 = b) (w : Wd L xs d y (a, al, q, h, sl) P X) : Wd L xs d y (pc, al, va_rf v :: q, h, sl) P X := w_nl hf hj hb (fun _ => w) (fun e => by rw [hv] at e; cases e)
set_option maxRecDepth 100000 in
theorem w_nl_s {v : Option Nat} {off : Int} {r : Nat} (hv : v = some r) (hf : y.2.2.find? (fun x => x.1 == pc) = some (pc0, .ifnull off, 3)) (hj : ab_j pc off = some a) (hb : pc + 3 = b) (w : Wd L xs d y (b, al, q, h, sl) P X) : Wd L xs d y (pc, al, va_rf v :: q, h, sl) P X := w_nl hf hj hb (fun e => by rw [hv] at e; cases e) (fun _ => w)
set_option maxRecDepth 100000 in
theorem w_nn_n {v : Option Nat} {off : Int} (hv : v = none) (hf : y.2.2.find? (fun x => x.1 == pc) = some (pc0, .ifnonnull off, 3)) (hj : ab_j pc off = some a) (hb : pc + 3 = b) (w : Wd L xs d y (b, al, q, h, sl) P X) : Wd L xs d y (pc, al, va_rf v :: q, h, sl) P X := w_nn hf hj hb (fun e => by rw [hv] at e; cases e) (fun _ => w)
set_option maxRecDepth 100000 in
theorem w_nn_s {v : Option Nat} {off : Int} {r : Nat} (hv : v = some r) (hf : y.2.2.find? (fun x => x.1 == pc) = some (pc0, .ifnonnull off, 3)) (hj : ab_j pc off = some a) (hb : pc + 3 = b) (w : Wd L xs d y (a, al, q, h, sl) P X) : Wd L xs d y (pc, al, va_rf v :: q, h, sl) P X := w_nn hf hj hb (fun _ => w) (fun e => by rw [hv] at e; cases e)
/-! the script's own rows -/
set_option maxRecDepth 100000 in
theorem h_lnS {o : Nat} {ini : Bool} : mo L xs o ini .arraylength 1 h (.ref 0 :: q) = some (.int (nI L) :: q, h, 0) := rfl
set_option maxRecDepth 100000 in
theorem h_xs {o : Nat} {ini : Bool} {i : Int32} (hi : mo_in i L = true) : mo L xs o ini .iaload 1 h (.int i :: .ref 0 :: q) = some (.int (xs i.toNatClampNeg) :: q, h, 0) := by
  show mo_il L xs h (.int i :: .ref 0 :: q) = _
  unfold mo_il
  simp only
  rw [show mo_arr h 0 = none from rfl]
  simp only
  rw [if_neg (fun e => absurd e.1 (by decide)), if_pos ⟨trivial, hi⟩]
/-! an element that is null -/
set_option maxRecDepth 100000 in
theorem h_alN {o : Nat} {ini : Bool} {C : co_T} {t : ab_H} {a k ty n : Nat} {l : List (Nat × Nat)} {i : Int32} (ha : a = k + 100) (h : SK[k]? = some (2, ty, n, l)) (ht : 4 ≤ ty ∧ ty < 11) (hi : mo_in i n = true) (hn : C.2.2 k i.toNatClampNeg = none) : mo L xs o ini .aaload 1 (MH C t) (.int i :: .ref a :: q) = some (.null :: q, MH C t, 0) := by
  rw [h_al ha h ht hi, hn]
  rfl
def nP : Option Value → ab_H → Nat → Prop := fun _ _ _ => False
/-! a call whose callee is known -/
set_option maxRecDepth 100000 in
theorem w_je {yc : mc_T} {al0 : List (Nat × Value)} {vs rest : List Value} {v : Option Value} {d1 : Nat} (kc : Wd L xs d yc (0, al0, [], h, 0) (Rt v h1 d1) nX) (hf : y.2.2.find? (fun x => x.1 == pc) = some (pc0, i, len)) (hp : ab_p y.1.2.2.1 i len pc al st = none) (hm : mo L xs y.2.1 (y.1.1.name == "<init>") i len h st = none) (hc : ∀ fr lo, cn y.2.1 fr lo i len h st = none) (hr : cr y.1.2.2.2.1 i len st = none) (hl : cl y.2.1 h i len st = some (yc, vs, rest)) (hv : lv_args 0 vs = al0) (hs : sumc rest + (yc.1.2.2.1 + 11) ≤ 64) (ha : (lg_sl vs).length ≤ yc.1.2.2.1) (hpc : pc + 3 = pc1) (hst : v.toList ++ rest = st1)
    (k : Wd L xs (d + 1) y (pc1, al, st1, h1, sl + d1) P X) : Wd L xs (d + 1) y (pc, al, st, h, sl) P X := by
  subst hv
  subst hst
  exact w_e hf hp hm hc hr hl hs ha hpc kc k
set_option maxRecDepth 100000 in
theorem w_ji {yc : mc_T} {al0 : List (Nat × Value)} {vs rest : List Value} {Pc : Option Value → ab_H → Nat → Prop} {Xc : Nat → ab_H → Nat → Prop} (kc : Wd L xs d yc (0, al0, [], h, 0) Pc Xc) (hf : y.2.2.find? (fun x => x.1 == pc) = some (pc0, i, len)) (hp : ab_p y.1.2.2.1 i len pc al st = none) (hm : mo L xs y.2.1 (y.1.1.name == "<init>") i len h st = none) (hc : ∀ fr lo, cn y.2.1 fr lo i len h st = none) (hr : cr y.1.2.2.2.1 i len st = none) (hl : cl y.2.1 h i len st = some (yc, vs, rest)) (hv : lv_args 0 vs = al0) (hs : sumc rest + (yc.1.2.2.1 + 11) ≤ 64) (ha : (lg_sl vs).length ≤ yc.1.2.2.1) (hpc : pc + 3 = pc1)
    (k : ∀ v h1 d1, Pc v h1 d1 → Wd L xs (d + 1) y (pc1, al, v.toList ++ rest, h1, sl + d1) P X) (kx : ∀ a h1 d1, Xc a h1 d1 → (ch y h1 a pc = some none ∧ X a h1 (sl + d1)) ∨ ∃ hp, ch y h1 a pc = some (some hp) ∧ Wd L xs (d + 1) y (hp, al, [.ref a], h1, sl + d1) P X) : Wd L xs (d + 1) y (pc, al, st, h, sl) P X := by
  subst hv
  exact w_i hf hp hm hc hr hl hs ha hpc kc k kx
/-! what is thrown lies behind all cells -/
def Xk (ci : Nat) (C : co_T) (t : ab_H) (n : Nat) : Nat → ab_H → Nat → Prop := fun a h n' => 241 + t.length = a ∧ MH C (t ++ [.inr (ci, [])]) = h ∧ n + 6 = n'
set_option maxRecDepth 100000 in
theorem Xk_i {ci n : Nat} {C : co_T} {t : ab_H} : Xk ci C t n (100 + (MH C t).length) (MH C t ++ [.inr (ci, [])]) (n + 6) := ⟨by rw [MH_len]; omega, (MH_app _ _ _).symm, rfl⟩
set_option maxRecDepth 100000 in
theorem MH_tl {C : co_T} {t : ab_H} {k : Nat} : (MH C t)[141 + k]? = t[k]? := by
  unfold MH
  rw [List.getElem?_append_right (by rw [List.length_mapIdx]; show 141 ≤ _; omega), List.length_mapIdx]
  congr 1
  show 141 + k - 141 = k
  omega
set_option maxRecDepth 100000 in
theorem ch_new {ci pc : Nat} {C : co_T} {t : ab_H} {z : Option (Option Nat)} (hc : ci = 12 ∨ ci = 13 ∨ ci = 14) (e : chL y.2.1 ci pc y.1.2.2.2.2 = z) : ch y (MH C (t ++ [.inr (ci, [])])) (241 + t.length) pc = z := by
  unfold ch mo_obj
  rw [if_pos (by omega), show 241 + t.length - 100 = 141 + t.length by omega, MH_tl, List.getElem?_append_right (Nat.le_refl _), Nat.sub_self]
  simp only [List.getElem?_cons_zero]
  rw [if_pos hc, e]
set_option maxRecDepth 100000 in
theorem ch_thr {ci pc : Nat} {C : co_T} {t : ab_H} {z : Option (Option Nat)} (hc : ci = 12 ∨ ci = 13 ∨ ci = 14) (e : chL y.2.1 ci pc y.1.2.2.2.2 = z) : ch y (MH C t ++ [.inr (ci, [])]) (100 + (MH C t).length) pc = z := by
  rw [MH_app, MH_len, show 100 + (141 + t.length) = 241 + t.length by omega]
  exact ch_new hc e
/-! more room does no harm to a native row, nor to a throw -/
set_option maxRecDepth 100000 in
theorem n_or {o idx fr lo a : Nat} (hl : or_l.contains (o, idx) = true) (ha : 1 ≤ a ∧ a ≤ 59) (hs : sumc q ≤ 52) (h1 : 1 ≤ fr) (h2 : 64 ≤ lo) : cn o fr lo (.invokevirtual idx) 3 h (.ref a :: q) = some (.int (nI (a - 1)) :: q, h, 0) := by
  show (if (or_l.contains (o, idx)) = true ∧ (1 ≤ a ∧ a ≤ 59) ∧ 1 ≤ fr ∧ sumc q + 12 ≤ lo then _ else none) = _
  rw [if_pos ⟨hl, ha, h1, by omega⟩]
set_option maxRecDepth 100000 in
theorem n_oi {o idx fr lo a : Nat} (hl : oi_l.contains (o, idx) = true) (hs : sumc q ≤ 52) (h1 : 1 ≤ fr) (h2 : 64 ≤ lo) : cn o fr lo (.invokespecial idx) 3 h (.ref a :: q) = some (q, h, 0) := by
  show (if (oi_l.contains (o, idx)) = true ∧ 1 ≤ fr ∧ sumc q + 12 ≤ lo then _ else none) = _
  rw [if_pos ⟨hl, h1, by omega⟩]
set_option maxRecDepth 100000 in
theorem cn_ac_no {o idx fr lo : Nat} (ha : ac_l.contains (o, idx) = false) : cn_ac o idx fr lo h st = none := by
  unfold cn_ac
  split
  · split
    · rw [if_neg (by rw [ha]; intro e; cases e.1)]
    · rw [if_neg (by rw [ha]; intro e; cases e.1)]
    · rfl
  · rfl
set_option maxRecDepth 100000 in
theorem n_mi {o idx fr lo : Nat} {x y : Int32} (hl : mi_l.contains (o, idx) = true) (ha : ac_l.contains (o, idx) = false) (hs : sumc q ≤ 50) (h1 : 1 ≤ fr) (h2 : 64 ≤ lo) : cn o fr lo (.invokestatic idx) 3 h (.int y :: .int x :: q) = some (.int (if y < x then y else x) :: q, h, 0) := by
  show (cn_ac o idx fr lo h (.int y :: .int x :: q)).orElse (fun _ => cn_mi o idx fr lo h (.int y :: .int x :: q)) = _
  rw [cn_ac_no ha]
  show (if 1 ≤ fr ∧ sumc q + 13 ≤ lo then (if (mi_l.contains (o, idx)) = true then _ else _) else none) = _
  rw [if_pos ⟨h1, by omega⟩, if_pos hl]
set_option maxRecDepth 100000 in
theorem n_ma {o idx fr lo : Nat} {x y : Int32} (hn : mi_l.contains (o, idx) = false) (hl : ma_l.contains (o, idx) = true) (ha : ac_l.contains (o, idx) = false) (hs : sumc q ≤ 50) (h1 : 1 ≤ fr) (h2 : 64 ≤ lo) : cn o fr lo (.invokestatic idx) 3 h (.int y :: .int x :: q) = some (.int (if x < y then y else x) :: q, h, 0) := by
  show (cn_ac o idx fr lo h (.int y :: .int x :: q)).orElse (fun _ => cn_mi o idx fr lo h (.int y :: .int x :: q)) = _
  rw [cn_ac_no ha]
  show (if 1 ≤ fr ∧ sumc q + 13 ≤ lo then (if (mi_l.contains (o, idx)) = true then _ else (if (ma_l.contains (o, idx)) = true then _ else none)) else none) = _
  rw [if_pos ⟨h1, by omega⟩, if_neg (by rw [hn]; decide), if_pos hl]
set_option maxRecDepth 100000 in
theorem n_mal {o idx fr lo : Nat} {x y : Int64} (hl : mal_l.contains (o, idx) = true) (ha : ac_l.contains (o, idx) = false) (hs : sumc q ≤ 48) (h1 : 1 ≤ fr) (h2 : 64 ≤ lo) : cn o fr lo (.invokestatic idx) 3 h (.long y :: .long x :: q) = some (.long (if y < x then x else y) :: q, h, 0) := by
  show (cn_ac o idx fr lo h (.long y :: .long x :: q)).orElse (fun _ => cn_mi o idx fr lo h (.long y :: .long x :: q)) = _
  rw [cn_ac_no ha]
  show (if (mal_l.contains (o, idx)) = true ∧ 1 ≤ fr ∧ sumc q + 15 ≤ lo then _ else none) = _
  rw [if_pos ⟨hl, h1, by omega⟩]
set_option maxRecDepth 100000 in
theorem cx_ok {fr lo ci : Nat} (h1 : 6 ≤ fr) (h2 : 384 ≤ lo) (e : cx y 6 384 i len pc st = some ci) : cx y fr lo i len pc st = some ci := by
  unfold cx at e ⊢
  split at e
  · split at e
    · split at e
      · split at e
        · rename_i hc
          rw [if_pos ⟨by omega, by have := hc.2; omega⟩]
          exact e
        · cases e
      · cases e
    · cases e
  · cases e
/-! calls -/
set_option maxRecDepth 100000 in
theorem cl_v {o idx m n ci : Nat} {e : ml_T} {yc : mc_T} {as rest fs : List Value} {ob : Nat} (hy : mc[m]? = some yc) (hq : mlV.find? (fun q => q.1 == o && q.2.1 == idx) = some e) (hm : e.2.2.1 = m) (hn : na_l[m]? = some n) (hl : n ≤ st.length) (hd : st.drop n = Value.ref ob :: rest) (ho : mo_obj h ob = some (ci, fs)) (hc : ci = yc.2.1) (h12 : ci < 12) (hV : mV.contains m = true) (ha : (st.take n).reverse = as) : cl o h (.invokevirtual idx) 3 st = some (yc, Value.ref ob :: as, rest) := by
  unfold cl
  simp only
  rw [hq]
  have : cl_ar e.2.2.1 st = some (yc, as, Value.ref ob :: rest) := by
    unfold cl_ar
    rw [hm, hy, hn]
    simp only
    rw [if_pos hl, ha, hd]
  simp only
  rw [this]
  simp only
  rw [ho]
  simp only
  rw [if_pos ⟨hc, h12, by rw [hm]; exact hV⟩]
set_option maxRecDepth 100000 in
theorem cl_s {o idx m n : Nat} {e : ml_T} {yc : mc_T} {as : List Value} (hy : mc[m]? = some yc) (hq : mlS.find? (fun q => q.1 == o && q.2.1 == idx) = some e) (hm : e.2.2.1 = m) (hn : na_l[m]? = some n) (hl : n ≤ st.length) (hS : mS.contains m = true) (ha : (st.take n).reverse = as) : cl o h (.invokestatic idx) 3 st = some (yc, as, st.drop n) := by
  unfold cl
  simp only
  rw [hq]
  have : cl_ar e.2.2.1 st = some (yc, as, st.drop n) := by
    unfold cl_ar
    rw [hm, hy, hn]
    simp only
    rw [if_pos hl, ha]
  simp only
  rw [this]
  simp only
  rw [if_pos (by rw [hm]; exact hS)]
end SCR
/-! what a branch knows -/
section CC
variable {x y : Int32} {u v : Int64}
set_option maxRecDepth 100000 in
theorem cc_eq_t (h : ab_cc .eq x y = true) : x = y := of_decide_eq_true h
set_option maxRecDepth 100000 in
theorem cc_eq_f (h : ab_cc .eq x y = false) : x ≠ y := of_decide_eq_false h
set_option maxRecDepth 100000 in
theorem cc_ne_t (h : ab_cc .ne x y = true) : x ≠ y := by unfold ab_cc at h; simpa using h
set_option maxRecDepth 100000 in
theorem cc_ne_f (h : ab_cc .ne x y = false) : x = y := by unfold ab_cc at h; simpa using h
set_option maxRecDepth 100000 in
theorem cc_lt_t (h : ab_cc .lt x y = true) : x.toInt < y.toInt := Int32.lt_iff_toInt_lt.mp (of_decide_eq_true h)
set_option maxRecDepth 100000 in
theorem cc_lt_f (h : ab_cc .lt x y = false) : y.toInt ≤ x.toInt := by
  have := of_decide_eq_false h
  rw [Int32.lt_iff_toInt_lt] at this
  omega
set_option maxRecDepth 100000 in
theorem cc_ge_t (h : ab_cc .ge x y = true) : y.toInt ≤ x.toInt := by
  unfold ab_cc at h
  simp only [Bool.not_eq_true', decide_eq_false_iff_not, decide_eq_true_eq, ge_iff_le, Int32.le_iff_toInt_le, Int32.lt_iff_toInt_lt] at h
  omega
set_option maxRecDepth 100000 in
theorem cc_ge_f (h : ab_cc .ge x y = false) : x.toInt < y.toInt := by
  unfold ab_cc at h
  simp only [Bool.not_eq_false', decide_eq_false_iff_not, decide_eq_true_eq, ge_iff_le, Int32.le_iff_toInt_le, Int32.lt_iff_toInt_lt] at h
  omega
set_option maxRecDepth 100000 in
theorem cc_gt_t (h : ab_cc .gt x y = true) : y.toInt < x.toInt := by
  unfold ab_cc at h
  simp only [Bool.not_eq_true', decide_eq_false_iff_not, decide_eq_true_eq, gt_iff_lt, Int32.le_iff_toInt_le, Int32.lt_iff_toInt_lt] at h
  omega
set_option maxRecDepth 100000 in
theorem cc_gt_f (h : ab_cc .gt x y = false) : x.toInt ≤ y.toInt := by
  unfold ab_cc at h
  simp only [Bool.not_eq_false', decide_eq_false_iff_not, decide_eq_true_eq, gt_iff_lt, Int32.le_iff_toInt_le, Int32.lt_iff_toInt_lt] at h
  omega
set_option maxRecDepth 100000 in
theorem cc_le_t (h : ab_cc .le x y = true) : x.toInt ≤ y.toInt := by
  unfold ab_cc at h
  simp only [Bool.not_eq_true', decide_eq_false_iff_not, decide_eq_true_eq, Int32.le_iff_toInt_le, Int32.lt_iff_toInt_lt] at h
  omega
set_option maxRecDepth 100000 in
theorem cc_le_f (h : ab_cc .le x y = false) : y.toInt < x.toInt := by
  unfold ab_cc at h
  simp only [Bool.not_eq_false', decide_eq_false_iff_not, decide_eq_true_eq, Int32.le_iff_toInt_le, Int32.lt_iff_toInt_lt] at h
  omega
/-! the same, against a number -/
section CK
variable {n : Int}
set_option maxRecDepth 100000 in
theorem ck_lt_t (e : y.toInt = n) (h : ab_cc .lt x y = true) : x.toInt < n := e ▸ cc_lt_t h
set_option maxRecDepth 100000 in
theorem ck_lt_f (e : y.toInt = n) (h : ab_cc .lt x y = false) : n ≤ x.toInt := e ▸ cc_lt_f h
set_option maxRecDepth 100000 in
theorem ck_ge_t (e : y.toInt = n) (h : ab_cc .ge x y = true) : n ≤ x.toInt := e ▸ cc_ge_t h
set_option maxRecDepth 100000 in
theorem ck_ge_f (e : y.toInt = n) (h : ab_cc .ge x y = false) : x.toInt < n := e ▸ cc_ge_f h
set_option maxRecDepth 100000 in
theorem ck_gt_t (e : y.toInt = n) (h : ab_cc .gt x y = true) : n < x.toInt := e ▸ cc_gt_t h
set_option maxRecDepth 100000 in
theorem ck_gt_f (e : y.toInt = n) (h : ab_cc .gt x y = false) : x.toInt ≤ n := e ▸ cc_gt_f h
set_option maxRecDepth 100000 in
theorem ck_le_t (e : y.toInt = n) (h : ab_cc .le x y = true) : x.toInt ≤ n := e ▸ cc_le_t h
set_option maxRecDepth 100000 in
theorem ck_le_f (e : y.toInt = n) (h : ab_cc .le x y = false) : n < x.toInt := e ▸ cc_le_f h
end CK
/-! what decides a branch -/
set_option maxRecDepth 100000 in
theorem cb_eq_t (h : x = y) : ab_cc .eq x y = true := decide_eq_true h
set_option maxRecDepth 100000 in
theorem cb_eq_f (h : x ≠ y) : ab_cc .eq x y = false := decide_eq_false h
set_option maxRecDepth 100000 in
theorem cb_ne_t (h : x ≠ y) : ab_cc .ne x y = true := by unfold ab_cc; simp [h]
set_option maxRecDepth 100000 in
theorem cb_ne_f (h : x = y) : ab_cc .ne x y = false := by unfold ab_cc; simp [h]
set_option maxRecDepth 100000 in
theorem cb_lt_t (h : x.toInt < y.toInt) : ab_cc .lt x y = true := decide_eq_true (Int32.lt_iff_toInt_lt.mpr h)
set_option maxRecDepth 100000 in
theorem cb_lt_f (h : y.toInt ≤ x.toInt) : ab_cc .lt x y = false := by cases e : ab_cc .lt x y with | false => rfl | true => have := cc_lt_t e; omega
set_option maxRecDepth 100000 in
theorem cb_ge_t (h : y.toInt ≤ x.toInt) : ab_cc .ge x y = true := by cases e : ab_cc .ge x y with | true => rfl | false => have := cc_ge_f e; omega
set_option maxRecDepth 100000 in
theorem cb_ge_f (h : x.toInt < y.toInt) : ab_cc .ge x y = false := by cases e : ab_cc .ge x y with | false => rfl | true => have := cc_ge_t e; omega
set_option maxRecDepth 100000 in
theorem cb_gt_t (h : y.toInt < x.toInt) : ab_cc .gt x y = true := by cases e : ab_cc .gt x y with | true => rfl | false => have := cc_gt_f e; omega
set_option maxRecDepth 100000 in
theorem cb_gt_f (h : x.toInt ≤ y.toInt) : ab_cc .gt x y = false := by cases e : ab_cc .gt x y with | false => rfl | true => have := cc_gt_t e; omega
set_option maxRecDepth 100000 in
theorem cb_le_t (h : x.toInt ≤ y.toInt) : ab_cc .le x y = true := by cases e : ab_cc .le x y with | true => rfl | false => have := cc_le_f e; omega
set_option maxRecDepth 100000 in
theorem cb_le_f (h : y.toInt < x.toInt) : ab_cc .le x y = false := by cases e : ab_cc .le x y with | false => rfl | true => have := cc_le_t e; omega
/-! of longs -/
set_option maxRecDepth 100000 in
theorem lg_eq : lg_cmp u v = 0 ↔ u = v := by
  unfold lg_cmp
  split
  · rename_i h
    refine ⟨fun e => (by cases e), fun e => ?_⟩
    subst e
    rw [gt_iff_lt, Int64.lt_iff_toInt_lt] at h
    omega
  · split
    · simp [*]
    · refine ⟨fun e => (by cases e), fun e => (by contradiction)⟩
set_option maxRecDepth 100000 in
theorem lg_lt : (lg_cmp u v).toInt < 0 ↔ u.toInt < v.toInt := by
  unfold lg_cmp
  split
  · rename_i h
    rw [gt_iff_lt, Int64.lt_iff_toInt_lt] at h
    constructor
    · intro e
      exact absurd e (by decide)
    · intro e
      omega
  · rename_i h
    rw [gt_iff_lt, Int64.lt_iff_toInt_lt] at h
    split
    · rename_i e
      subst e
      constructor
      · intro e
        exact absurd e (by decide)
      · intro e
        omega
    · rename_i e
      have : u.toInt ≠ v.toInt := fun z => e (Int64.toInt_inj.mp z)
      refine ⟨fun _ => by omega, fun _ => by decide⟩
set_option maxRecDepth 100000 in
theorem lg_gt : 0 < (lg_cmp u v).toInt ↔ v.toInt < u.toInt := by
  unfold lg_cmp
  split
  · rename_i h
    rw [gt_iff_lt, Int64.lt_iff_toInt_lt] at h
    refine ⟨fun _ => h, fun _ => by decide⟩
  · rename_i h
    rw [gt_iff_lt, Int64.lt_iff_toInt_lt] at h
    split
    · refine ⟨fun e => absurd e (by decide), fun e => by omega⟩
    · refine ⟨fun e => absurd e (by decide), fun e => by omega⟩
set_option maxRecDepth 100000 in
theorem lc_eq_t (h : ab_cc .eq (lg_cmp u v) 0 = true) : u = v := lg_eq.mp (cc_eq_t h)
set_option maxRecDepth 100000 in
theorem lc_eq_f (h : ab_cc .eq (lg_cmp u v) 0 = false) : u ≠ v := fun e => cc_eq_f h (lg_eq.mpr e)
set_option maxRecDepth 100000 in
theorem lc_ne_t (h : ab_cc .ne (lg_cmp u v) 0 = true) : u ≠ v := fun e => cc_ne_t h (lg_eq.mpr e)
set_option maxRecDepth 100000 in
theorem lc_ne_f (h : ab_cc .ne (lg_cmp u v) 0 = false) : u = v := lg_eq.mp (cc_ne_f h)
set_option maxRecDepth 100000 in
theorem lc_lt_t (h : ab_cc .lt (lg_cmp u v) 0 = true) : u.toInt < v.toInt := lg_lt.mp (cc_lt_t h)
set_option maxRecDepth 100000 in
theorem lc_lt_f (h : ab_cc .lt (lg_cmp u v) 0 = false) : v.toInt ≤ u.toInt := by
  have h1 : 0 ≤ (lg_cmp u v).toInt := cc_lt_f h
  have h2 := @lg_lt u v
  omega
set_option maxRecDepth 100000 in
theorem lc_ge_t (h : ab_cc .ge (lg_cmp u v) 0 = true) : v.toInt ≤ u.toInt := by
  have h1 : 0 ≤ (lg_cmp u v).toInt := cc_ge_t h
  have h2 := @lg_lt u v
  omega
set_option maxRecDepth 100000 in
theorem lc_ge_f (h : ab_cc .ge (lg_cmp u v) 0 = false) : u.toInt < v.toInt := lg_lt.mp (cc_ge_f h)
set_option maxRecDepth 100000 in
theorem lc_gt_t (h : ab_cc .gt (lg_cmp u v) 0 = true) : v.toInt < u.toInt := lg_gt.mp (cc_gt_t h)
set_option maxRecDepth 100000 in
theorem lc_gt_f (h : ab_cc .gt (lg_cmp u v) 0 = false) : u.toInt ≤ v.toInt := by
  have h1 : (lg_cmp u v).toInt ≤ 0 := cc_gt_f h
  have h2 := @lg_gt u v
  omega
set_option maxRecDepth 100000 in
theorem lc_le_t (h : ab_cc .le (lg_cmp u v) 0 = true) : u.toInt ≤ v.toInt := by
  have h1 : (lg_cmp u v).toInt ≤ 0 := cc_le_t h
  have h2 := @lg_gt u v
  omega
set_option maxRecDepth 100000 in
theorem lc_le_f (h : ab_cc .le (lg_cmp u v) 0 = false) : v.toInt < u.toInt := lg_gt.mp (cc_le_f h)
set_option maxRecDepth 100000 in
theorem lb_eq_t (h : u = v) : ab_cc .eq (lg_cmp u v) 0 = true := cb_eq_t (lg_eq.mpr h)
set_option maxRecDepth 100000 in
theorem lb_eq_f (h : u ≠ v) : ab_cc .eq (lg_cmp u v) 0 = false := cb_eq_f (fun e => h (lg_eq.mp e))
set_option maxRecDepth 100000 in
theorem lb_ne_t (h : u ≠ v) : ab_cc .ne (lg_cmp u v) 0 = true := cb_ne_t (fun e => h (lg_eq.mp e))
set_option maxRecDepth 100000 in
theorem lb_ne_f (h : u = v) : ab_cc .ne (lg_cmp u v) 0 = false := cb_ne_f (lg_eq.mpr h)
end CC
set_option maxRecDepth 100000 in
theorem cr_int {v : Int32} : cr (some .int) .ireturn 1 [.int v] = some (.returned (some (.int v))) := if_pos rfl
set_option maxRecDepth 100000 in
theorem cr_bool {v : Int32} (h : v = 0 ∨ v = 1) : cr (some .boolean) .ireturn 1 [.int v] = some (.returned (some (.int v))) := if_pos (by rcases h with rfl | rfl <;> rfl)
set_option maxRecDepth 100000 in
theorem cr_bif {c : Prop} [Decidable c] : cr (some .boolean) .ireturn 1 [.int (if c then 1 else 0)] = some (.returned (some (.int (if c then 1 else 0)))) := cr_bool (by by_cases h : c <;> simp [h])
/-! contents after a change -/
set_option maxRecDepth 100000 in
theorem sI_1 {C : co_T} {k j k' j' : Nat} {v : Int32} : (sI C k j v).1 k' j' = if k' = k ∧ j' = j then v else C.1 k' j' := by
  unfold sI sA upd
  by_cases hk : k' = k
  · subst hk
    by_cases hj : j' = j <;> simp [hj]
  · simp [hk]
set_option maxRecDepth 100000 in
theorem sI_2 {C : co_T} {k j : Nat} {v : Int32} : (sI C k j v).2 = C.2 := rfl
set_option maxRecDepth 100000 in
theorem sJ_1 {C : co_T} {k j : Nat} {v : Int64} : (sJ C k j v).1 = C.1 := rfl
set_option maxRecDepth 100000 in
theorem sJ_2 {C : co_T} {k j k' j' : Nat} {v : Int64} : (sJ C k j v).2.1 k' j' = if k' = k ∧ j' = j then v else C.2.1 k' j' := by
  unfold sJ sB vp_updL
  by_cases hk : k' = k
  · subst hk
    by_cases hj : j' = j <;> simp [hj]
  · simp [hk]
set_option maxRecDepth 100000 in
theorem sJ_3 {C : co_T} {k j : Nat} {v : Int64} : (sJ C k j v).2.2 = C.2.2 := rfl
set_option maxRecDepth 100000 in
theorem sQ_1 {C : co_T} {k j : Nat} {v : Option Nat} : (sQ C k j v).1 = C.1 := rfl
set_option maxRecDepth 100000 in
theorem sQ_2 {C : co_T} {k j : Nat} {v : Option Nat} : (sQ C k j v).2.1 = C.2.1 := rfl
set_option maxRecDepth 100000 in
theorem sQ_3 {C : co_T} {k j k' j' : Nat} {v : Option Nat} : (sQ C k j v).2.2 k' j' = if k' = k ∧ j' = j then v else C.2.2 k' j' := by
  unfold sQ sR va_up
  by_cases hk : k' = k
  · subst hk
    by_cases hj : j' = j <;> simp [hj]
  · simp [hk]
/-! an index within -/
set_option maxRecDepth 100000 in
theorem in_ok {x : Int32} {n : Nat} (h0 : 0 ≤ x.toInt) (h1 : x.toInt < n) : mo_in x n = true := by
  unfold mo_in
  have : ¬ x < 0 := by
    rw [Int32.lt_iff_toInt_lt]
    show ¬ x.toInt < 0
    omega
  have h3 : x.toNatClampNeg = x.toInt.toNat := rfl
  simp only [this, decide_false, Bool.false_or, Bool.not_eq_true', decide_eq_false_iff_not]
  omega
set_option maxRecDepth 100000 in
theorem nK_int {k : Nat} (h : k < 2147483648) : (nI k).toInt = k := by
  unfold nI
  rw [Int32.toInt_ofNat_of_lt (by simpa using h)]
set_option maxRecDepth 100000 in
theorem nK_nat {k : Nat} (h : k < 2147483648) : (nI k).toNatClampNeg = k := by
  show (nI k).toInt.toNat = k
  rw [nK_int h]
  rfl
set_option maxRecDepth 100000 in
theorem nK_of {x : Int32} (h : 0 ≤ x.toInt) : x = nI x.toNatClampNeg := by
  apply Int32.toInt_inj.mp
  have h2 : x.toNatClampNeg = x.toInt.toNat := rfl
  have h3 := x.toInt_lt
  rw [nK_int (by rw [h2]; omega), h2]
  omega
set_option maxRecDepth 100000 in
theorem nK_1 {k : Nat} : nI k + 1 = nI (k + 1) := by
  unfold nI
  rw [Int32.ofNat_add]
  rfl
set_option maxRecDepth 100000 in
theorem sI_o {C : co_T} {k j k' : Nat} {v : Int32} (h : k' ≠ k) : (sI C k j v).1 k' = C.1 k' := by
  unfold sI sA
  simp [h]
set_option maxRecDepth 100000 in
theorem nat_of {x : Int32} {n : Nat} (h0 : 0 ≤ x.toInt) (h1 : x.toInt < n) : x.toNatClampNeg < n := by
  have h3 : x.toNatClampNeg = x.toInt.toNat := rfl
  omega
set_option maxRecDepth 100000 in
theorem i64 (x : Int32) : x.toInt64.toInt = x.toInt := Int32.toInt_toInt64 x
