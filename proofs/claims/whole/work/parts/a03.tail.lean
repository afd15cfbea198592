/-! THE TAIL: rows for cells that are made later -/
section TLR
variable {L : Nat} {xs : Nat → Int32} {o : Nat} {ini : Bool} {C : co_T} {t : ab_H} {k idx ci n j e : Nat} {q : List Value} {f : Nat → Int32} {g : Nat → Int64} {r : Nat → Option Nat}
set_option maxRecDepth 100000 in
theorem T_set {c : ab_C} : (MH C t).set (141 + k) c = MH C (t.set k c) := by
  unfold MH
  rw [List.set_append_right _ _ (by rw [List.length_mapIdx]; show 141 ≤ _; omega), List.length_mapIdx]
  congr 2
  show 141 + k - 141 = k
  omega
set_option maxRecDepth 100000 in
theorem x_obj {z : Nat × List Value} (h : t[k]? = some (.inr z)) : mo_obj (MH C t) (241 + k) = some z := by
  unfold mo_obj
  rw [if_pos (by omega), show 241 + k - 100 = 141 + k by omega, MH_tl, h]
set_option maxRecDepth 100000 in
theorem x_arr {z : Nat × vp_A} (h : t[k]? = some (.inl z)) : mo_arr (MH C t) (241 + k) = some z := by
  unfold mo_arr
  rw [if_pos (by omega), show 241 + k - 100 = 141 + k by omega, MH_tl, h]
set_option maxRecDepth 100000 in
theorem x_gf {fs : List Value} {e : fl_T} {v : Value} (hf : mo_fl o idx = some e) (h : t[k]? = some (.inr (e.2.2.1, fs))) (hv : fs[e.2.2.2.1]? = some v) : mo L xs o ini (.getfield idx) 3 (MH C t) (.ref (241 + k) :: q) = some (v :: q, MH C t, 0) := by
  show mo_gf o idx (MH C t) (.ref (241 + k) :: q) = _
  unfold mo_gf
  simp only
  rw [hf]
  simp only
  rw [x_obj h]
  simp only
  rw [if_pos trivial, hv]
  rfl
set_option maxRecDepth 100000 in
theorem x_pf {fs fs' : List Value} {e : fl_T} {v : Value} {z : vw_C} {ty : FieldType} (hf : mo_fl o idx = some e) (h : t[k]? = some (.inr (e.2.2.1, fs))) (hz : cls[e.2.2.1]? = some z) (hp : parseFieldDescriptor (z.2.1 e.2.2.2.1).2.2.1 = some ty) (hv : narrow ty v = v ∧ fits ty v = true) (hfin : (z.2.1 e.2.2.2.1).2.2.2 = false ∨ (ini = true ∧ z.1 = own.getD o "" ∧ e.2.2.2.2 = false)) (hj : e.2.2.2.1 < fs.length) (hs : fs.set e.2.2.2.1 v = fs') :
    mo L xs o ini (.putfield idx) 3 (MH C t) (v :: .ref (241 + k) :: q) = some (q, MH C (t.set k (.inr (e.2.2.1, fs'))), 0) := by
  subst hs
  show mo_pf o ini idx (MH C t) (v :: .ref (241 + k) :: q) = _
  unfold mo_pf
  simp only
  rw [hf]
  simp only
  rw [x_obj h]
  simp only
  rw [hz]
  simp only
  rw [hp]
  simp only
  rw [if_pos ⟨trivial, hj, hv, hfin⟩, show 241 + k - 100 = 141 + k by omega, T_set]
set_option maxRecDepth 100000 in
theorem x_il (h : t[k]? = some (.inl (0, n, .inl f))) (hn : n < 2147483648) (hi : e < n) : mo L xs o ini .iaload 1 (MH C t) (.int (nI e) :: .ref (241 + k) :: q) = some (.int (f e) :: q, MH C t, 0) := by
  show mo_il L xs (MH C t) (.int (nI e) :: .ref (241 + k) :: q) = _
  unfold mo_il
  simp only
  rw [x_arr h]
  simp only
  rw [if_pos (in_nI hi hn), nK_nat (Nat.lt_trans hi hn)]
set_option maxRecDepth 100000 in
theorem x_ile {v : Int32} (h : t[k]? = some (.inl (0, n, .inl f))) (hn : n < 2147483648) (hi : e < n) (hv : f e = v) : mo L xs o ini .iaload 1 (MH C t) (.int (nI e) :: .ref (241 + k) :: q) = some (.int v :: q, MH C t, 0) := by
  subst hv
  exact x_il h hn hi
set_option maxRecDepth 100000 in
theorem x_ll (h : t[k]? = some (.inl (1, n, .inr (.inl g)))) (hn : n < 2147483648) (hi : e < n) : mo L xs o ini .laload 1 (MH C t) (.int (nI e) :: .ref (241 + k) :: q) = some (.long (g e) :: q, MH C t, 0) := by
  show mo_ll (MH C t) (.int (nI e) :: .ref (241 + k) :: q) = _
  unfold mo_ll
  simp only
  rw [x_arr h]
  simp only
  rw [if_pos (in_nI hi hn), nK_nat (Nat.lt_trans hi hn)]
set_option maxRecDepth 100000 in
theorem x_lle {v : Int64} (h : t[k]? = some (.inl (1, n, .inr (.inl g)))) (hn : n < 2147483648) (hi : e < n) (hv : g e = v) : mo L xs o ini .laload 1 (MH C t) (.int (nI e) :: .ref (241 + k) :: q) = some (.long v :: q, MH C t, 0) := by
  subst hv
  exact x_ll h hn hi
set_option maxRecDepth 100000 in
theorem x_al {ty : Nat} (h : t[k]? = some (.inl (ty, n, .inr (.inr (.inr (.inr r)))))) (ht : 4 ≤ ty ∧ ty < 11) (hn : n < 2147483648) (hi : e < n) : mo L xs o ini .aaload 1 (MH C t) (.int (nI e) :: .ref (241 + k) :: q) = some (va_rf (r e) :: q, MH C t, 0) := by
  show mo_al (MH C t) (.int (nI e) :: .ref (241 + k) :: q) = _
  unfold mo_al
  simp only
  rw [x_arr h]
  simp only
  rw [if_pos ⟨ht, in_nI hi hn⟩, nK_nat (Nat.lt_trans hi hn)]
set_option maxRecDepth 100000 in
theorem x_als {ty b : Nat} (h : t[k]? = some (.inl (ty, n, .inr (.inr (.inr (.inr r)))))) (ht : 4 ≤ ty ∧ ty < 11) (hn : n < 2147483648) (hi : e < n) (hv : r e = some b) : mo L xs o ini .aaload 1 (MH C t) (.int (nI e) :: .ref (241 + k) :: q) = some (.ref b :: q, MH C t, 0) := by
  rw [x_al h ht hn hi, hv]
  rfl
set_option maxRecDepth 100000 in
theorem x_aln {ty : Nat} (h : t[k]? = some (.inl (ty, n, .inr (.inr (.inr (.inr r)))))) (ht : 4 ≤ ty ∧ ty < 11) (hn : n < 2147483648) (hi : e < n) (hv : r e = none) : mo L xs o ini .aaload 1 (MH C t) (.int (nI e) :: .ref (241 + k) :: q) = some (.null :: q, MH C t, 0) := by
  rw [x_al h ht hn hi, hv]
  rfl
set_option maxRecDepth 100000 in
theorem x_ln {ty : Nat} {x : vp_A} (h : t[k]? = some (.inl (ty, x))) (ht : ty < 11) : mo L xs o ini .arraylength 1 (MH C t) (.ref (241 + k) :: q) = some (.int (nI x.1) :: q, MH C t, 0) := by
  show mo_ln L (MH C t) (.ref (241 + k) :: q) = _
  unfold mo_ln
  simp only
  rw [x_arr h]
  simp only
  rw [if_pos ht]
  rfl
set_option maxRecDepth 100000 in
theorem x_is {v : Int32} (h : t[k]? = some (.inl (0, n, .inl f))) (hn : n < 2147483648) (hi : e < n) : mo L xs o ini .iastore 1 (MH C t) (.int v :: .int (nI e) :: .ref (241 + k) :: q) = some (q, MH C (t.set k (.inl (0, n, .inl (upd f e v)))), 0) := by
  show mo_is (MH C t) (.int v :: .int (nI e) :: .ref (241 + k) :: q) = _
  unfold mo_is
  simp only
  rw [x_arr h]
  simp only
  rw [if_pos (in_nI hi hn), nK_nat (Nat.lt_trans hi hn), show 241 + k - 100 = 141 + k by omega, T_set]
set_option maxRecDepth 100000 in
theorem x_ls {v : Int64} (h : t[k]? = some (.inl (1, n, .inr (.inl g)))) (hn : n < 2147483648) (hi : e < n) : mo L xs o ini .lastore 1 (MH C t) (.long v :: .int (nI e) :: .ref (241 + k) :: q) = some (q, MH C (t.set k (.inl (1, n, .inr (.inl (vp_updL g e v))))), 0) := by
  show mo_ls (MH C t) (.long v :: .int (nI e) :: .ref (241 + k) :: q) = _
  unfold mo_ls
  simp only
  rw [x_arr h]
  simp only
  rw [if_pos (in_nI hi hn), nK_nat (Nat.lt_trans hi hn), show 241 + k - 100 = 141 + k by omega, T_set]
set_option maxRecDepth 100000 in
theorem x_asn {ty : Nat} (h : t[k]? = some (.inl (ty, n, .inr (.inr (.inr (.inr r)))))) (ht : 4 ≤ ty ∧ ty < 9) (hn : n < 2147483648) (hi : e < n) : mo L xs o ini .aastore 1 (MH C t) (.null :: .int (nI e) :: .ref (241 + k) :: q) = some (q, MH C (t.set k (.inl (ty, n, .inr (.inr (.inr (.inr (va_up r e none))))))), 0) := by
  show mo_as (MH C t) (.null :: .int (nI e) :: .ref (241 + k) :: q) = _
  unfold mo_as
  simp only
  rw [x_arr h]
  simp only
  rw [if_pos ⟨ht, in_nI hi hn⟩, nK_nat (Nat.lt_trans hi hn), show 241 + k - 100 = 141 + k by omega, T_set]
set_option maxRecDepth 100000 in
theorem x_ass {ty b : Nat} {fs : List Value} (h : t[k]? = some (.inl (ty, n, .inr (.inr (.inr (.inr r)))))) (hb : t[b]? = some (.inr (ci, fs))) (ht : ab_el ty = some ci) (hn : n < 2147483648) (hi : e < n) : mo L xs o ini .aastore 1 (MH C t) (.ref (241 + b) :: .int (nI e) :: .ref (241 + k) :: q) = some (q, MH C (t.set k (.inl (ty, n, .inr (.inr (.inr (.inr (va_up r e (some (241 + b))))))))), 0) := by
  show mo_as (MH C t) (.ref (241 + b) :: .int (nI e) :: .ref (241 + k) :: q) = _
  unfold mo_as
  simp only
  rw [x_arr h]
  simp only
  rw [x_obj hb]
  simp only
  rw [if_pos ⟨ht, in_nI hi hn⟩, nK_nat (Nat.lt_trans hi hn), show 241 + k - 100 = 141 + k by omega, T_set]
/-! a reference to a new cell into one of the fixed arrays; into a fixed field (h_pR) -/
set_option maxRecDepth 100000 in
theorem x_asF {a ty b : Nat} {l : List (Nat × Nat)} {fs : List Value} (ha : a = k + 100) (h : SK[k]? = some (2, ty, n, l)) (hb : t[b]? = some (.inr (ci, fs))) (ht : ab_el ty = some ci) (hn : n < 2147483648) (hi : e < n) : mo L xs o ini .aastore 1 (MH C t) (.ref (241 + b) :: .int (nI e) :: .ref a :: q) = some (q, MH (sQ C k e (some (241 + b))) t, 0) := by
  show mo_as (MH C t) (.ref (241 + b) :: .int (nI e) :: .ref a :: q) = _
  unfold mo_as
  simp only
  rw [MH_arR ha h]
  simp only
  rw [x_obj hb]
  simp only
  rw [if_pos ⟨ht, in_nI hi hn⟩, nK_nat (Nat.lt_trans hi hn), show a - 100 = k by omega, MH_sR h]
  rfl
set_option maxRecDepth 100000 in
theorem x_asFn {a ty : Nat} {l : List (Nat × Nat)} (ha : a = k + 100) (h : SK[k]? = some (2, ty, n, l)) (ht : 4 ≤ ty ∧ ty < 9) (hn : n < 2147483648) (hi : e < n) : mo L xs o ini .aastore 1 (MH C t) (.null :: .int (nI e) :: .ref a :: q) = some (q, MH (sQ C k e none) t, 0) := by
  show mo_as (MH C t) (.null :: .int (nI e) :: .ref a :: q) = _
  unfold mo_as
  simp only
  rw [MH_arR ha h]
  simp only
  rw [if_pos ⟨ht, in_nI hi hn⟩, nK_nat (Nat.lt_trans hi hn), show a - 100 = k by omega, MH_sR h]
  rfl
/-! new cells -/
set_option maxRecDepth 100000 in
theorem x_nw {w : vw_C} {c du : Nat} {fs : List Value} {e : Nat × Nat × Nat} (hf : ab_cl.find? (fun q => q.1 == o && q.2.1 == idx) = some e) (hc : e.2.2 = c) (hw : cls[c]? = some w) (hfs : ab_df w = fs) (hdu : w.2.2 = du) : mo L xs o ini (.new idx) 3 (MH C t) q = some (.ref (241 + t.length) :: q, MH C (t ++ [.inr (c, fs)]), du) := by
  subst hfs hdu hc
  show mo_nw o idx (MH C t) q = _
  unfold mo_nw
  rw [hf]
  simp only
  rw [hw]
  simp only
  rw [MH_app, MH_len, show 100 + (141 + t.length) = 241 + t.length by omega]
set_option maxRecDepth 100000 in
theorem x_naI (hn : n ≤ 60000000) : mo L xs o ini (.newarray .int) 2 (MH C t) (.int (nI n) :: q) = some (.ref (241 + t.length) :: q, MH C (t ++ [.inl (0, n, .inl (fun _ => 0))]), n) := by
  show mo_na .int (MH C t) (.int (nI n) :: q) = _
  unfold mo_na
  simp only
  rw [show ab_at .int = some (0, fun n => (n, .inl (fun _ => 0))) from rfl]
  simp only
  have h1 : (nI n).toNatClampNeg = n := nK_nat (by omega)
  rw [h1, if_pos ⟨by rw [Int32.lt_iff_toInt_lt, nK_int (by omega)]; show ¬ (n : Int) < 0; omega, hn⟩, MH_app, MH_len, show 100 + (141 + t.length) = 241 + t.length by omega]
set_option maxRecDepth 100000 in
theorem x_naJ (hn : n ≤ 60000000) : mo L xs o ini (.newarray .long) 2 (MH C t) (.int (nI n) :: q) = some (.ref (241 + t.length) :: q, MH C (t ++ [.inl (1, n, .inr (.inl (fun _ => 0)))]), n) := by
  show mo_na .long (MH C t) (.int (nI n) :: q) = _
  unfold mo_na
  simp only
  rw [show ab_at .long = some (1, fun n => (n, .inr (.inl (fun _ => 0)))) from rfl]
  simp only
  have h1 : (nI n).toNatClampNeg = n := nK_nat (by omega)
  rw [h1, if_pos ⟨by rw [Int32.lt_iff_toInt_lt, nK_int (by omega)]; show ¬ (n : Int) < 0; omega, hn⟩, MH_app, MH_len, show 100 + (141 + t.length) = 241 + t.length by omega]
set_option maxRecDepth 100000 in
theorem x_an {c : Nat} {e : Nat × Nat × Nat} (hf : ab_ak.find? (fun q => q.1 == o && q.2.1 == idx) = some e) (hc : e.2.2 = c) (hn : n ≤ 60000000) : mo L xs o ini (.anewarray idx) 3 (MH C t) (.int (nI n) :: q) = some (.ref (241 + t.length) :: q, MH C (t ++ [.inl (c, n, .inr (.inr (.inr (.inr (fun _ => none)))))]), n) := by
  subst hc
  show mo_an o idx (MH C t) (.int (nI n) :: q) = _
  unfold mo_an
  simp only
  rw [hf]
  simp only
  have h1 : (nI n).toNatClampNeg = n := nK_nat (by omega)
  rw [h1, if_pos ⟨by rw [Int32.lt_iff_toInt_lt, nK_int (by omega)]; show ¬ (n : Int) < 0; omega, hn⟩, MH_app, MH_len, show 100 + (141 + t.length) = 241 + t.length by omega]
end TLR
section WLD
variable {L : Nat} {xs : Nat → Int32} {d pc sl pc0 pc1 : Nat} {y : mc_T} {al : List (Nat × Value)} {q : List Value} {h : ab_H} {P : Option Value → ab_H → Nat → Prop} {X : Nat → ab_H → Nat → Prop}
set_option maxRecDepth 100000 in
theorem w_ldiv {u v : Int64} (hf : y.2.2.find? (fun x => x.1 == pc) = some (pc0, .ldiv, 1)) (hv : v ≠ 0) (hpc : pc + 1 = pc1) (w : Wd L xs d y (pc1, al, .long (u / v) :: q, h, sl) P X) : Wd L xs d y (pc, al, .long v :: .long u :: q, h, sl) P X := by
  subst hpc
  refine w_p hf ?_ w
  show (if v = 0 then none else some (pc + 1, al, Value.long (u / v) :: q)) = _
  rw [if_neg hv]
end WLD
/-! what lies in the tail stays: appended, set elsewhere -/
section TLS
variable {t u : ab_H} {k j : Nat} {c z : ab_C}
set_option maxRecDepth 100000 in
theorem tl_app (h : t[k]? = some c) : (t ++ u)[k]? = some c := by
  rw [List.getElem?_append_left (List.getElem?_eq_some_iff.mp h).1]
  exact h
set_option maxRecDepth 100000 in
theorem tl_new : (t ++ [c])[t.length]? = some c := by
  rw [List.getElem?_append_right (Nat.le_refl _), Nat.sub_self]
  rfl
set_option maxRecDepth 100000 in
theorem tl_set (h : t[k]? = some c) (hj : j ≠ k) : (t.set j z)[k]? = some c := by
  rw [List.getElem?_set_ne hj]
  exact h
set_option maxRecDepth 100000 in
theorem tl_self (h : t[k]? = some c) : (t.set k z)[k]? = some z := by
  rw [List.getElem?_set_self (List.getElem?_eq_some_iff.mp h).1]
set_option maxRecDepth 100000 in
theorem tl_ne (h : t[k]? = some c) (g : t[j]? = some z) (hc : c ≠ z) : j ≠ k := by
  intro e
  subst e
  rw [h] at g
  cases g
  exact hc rfl
end TLS
section WLI
variable {L : Nat} {xs : Nat → Int32} {d pc sl pc0 pc1 : Nat} {y : mc_T} {al : List (Nat × Value)} {q : List Value} {h : ab_H} {P : Option Value → ab_H → Nat → Prop} {X : Nat → ab_H → Nat → Prop}
set_option maxRecDepth 100000 in
theorem w_l2i {u : Int64} {z : Int32} (hf : y.2.2.find? (fun x => x.1 == pc) = some (pc0, .l2i, 1)) (e : u.toInt32 = z) (hpc : pc + 1 = pc1) (w : Wd L xs d y (pc1, al, .int z :: q, h, sl) P X) : Wd L xs d y (pc, al, .long u :: q, h, sl) P X := by
  subst hpc
  subst e
  exact w_p hf rfl w
end WLI
/-! locals in another order, told by their places -/
def ndb : List Nat → Bool
  | [] => true
  | a :: l => !l.contains a && ndb l
set_option maxRecDepth 100000 in
theorem ndb_w : ∀ al : List (Nat × Value), ndb (al.map Prod.fst) = true → wfa al
  | [], _ => List.Pairwise.nil
  | a :: l, h => by
    rw [List.map_cons, ndb, Bool.and_eq_true] at h
    refine List.Pairwise.cons (fun b hb e => ?_) (ndb_w l h.2)
    have h1 := h.1
    rw [Bool.not_eq_true'] at h1
    have h2 : (l.map Prod.fst).contains a.1 = true := by
      rw [List.contains_iff_mem, e]
      exact List.mem_map_of_mem hb
    rw [h2] at h1
    cases h1
set_option maxRecDepth 100000 in
theorem sba_p {al al' : List (Nat × Value)} (ks : List Nat) (h : ks.map (fun i => al'[i]?) = al.map some) (hw : ndb (al'.map Prod.fst) = true) : sba al al' := by
  refine ⟨fun q hq => ?_, ndb_w al' hw⟩
  have h1 : some q ∈ al.map some := List.mem_map_of_mem hq
  rw [← h, List.mem_map] at h1
  obtain ⟨i, _, hi⟩ := h1
  exact List.mem_of_getElem? hi
