/-! ROWS FOR SCRIPTS, 2: ints that are numbers of Nat -/
set_option maxRecDepth 100000 in
theorem nK_add {a b : Nat} : nI a + nI b = nI (a + b) := by
  unfold nI
  rw [Int32.ofNat_add]
set_option maxRecDepth 100000 in
theorem nK_mul {a b : Nat} : nI a * nI b = nI (a * b) := by
  unfold nI
  rw [Int32.ofNat_mul]
set_option maxRecDepth 100000 in
theorem nK_sub {a b : Nat} (h : b ≤ a) : nI a - nI b = nI (a - b) := by
  obtain ⟨c, rfl⟩ := Nat.le.dest h
  rw [Nat.add_sub_cancel_left, ← nK_add, Int32.add_comm]
  exact Int32.add_sub_cancel _ _
set_option maxRecDepth 100000 in
theorem nK_inj {a b : Nat} (ha : a < 2147483648) (hb : b < 2147483648) : nI a = nI b ↔ a = b := by
  constructor
  · intro h
    have h2 := congrArg Int32.toInt h
    rw [nK_int ha, nK_int hb] at h2
    omega
  · intro h
    rw [h]
set_option maxRecDepth 100000 in
theorem in_nI {e n : Nat} (h : e < n) (hn : n < 2147483648) : mo_in (nI e) n = true := in_ok (by rw [nK_int (by omega)]; omega) (by rw [nK_int (by omega)]; omega)
section CN
variable {a b : Nat}
set_option maxRecDepth 100000 in
theorem cN_eq_t (ha : a < 2147483648) (hb : b < 2147483648) (h : ab_cc .eq (nI a) (nI b) = true) : a = b := (nK_inj ha hb).mp (cc_eq_t h)
set_option maxRecDepth 100000 in
theorem cN_eq_f (_ : a < 2147483648) (_ : b < 2147483648) (h : ab_cc .eq (nI a) (nI b) = false) : a ≠ b := fun e => cc_eq_f h (by rw [e])
set_option maxRecDepth 100000 in
theorem cN_ne_t (_ : a < 2147483648) (_ : b < 2147483648) (h : ab_cc .ne (nI a) (nI b) = true) : a ≠ b := fun e => cc_ne_t h (by rw [e])
set_option maxRecDepth 100000 in
theorem cN_ne_f (ha : a < 2147483648) (hb : b < 2147483648) (h : ab_cc .ne (nI a) (nI b) = false) : a = b := (nK_inj ha hb).mp (cc_ne_f h)
set_option maxRecDepth 100000 in
theorem cN_lt_t (ha : a < 2147483648) (hb : b < 2147483648) (h : ab_cc .lt (nI a) (nI b) = true) : a < b := by
  have h1 := cc_lt_t h
  rw [nK_int ha, nK_int hb] at h1
  omega
set_option maxRecDepth 100000 in
theorem cN_lt_f (ha : a < 2147483648) (hb : b < 2147483648) (h : ab_cc .lt (nI a) (nI b) = false) : b ≤ a := by
  have h1 := cc_lt_f h
  rw [nK_int ha, nK_int hb] at h1
  omega
set_option maxRecDepth 100000 in
theorem cN_ge_t (ha : a < 2147483648) (hb : b < 2147483648) (h : ab_cc .ge (nI a) (nI b) = true) : b ≤ a := by
  have h1 := cc_ge_t h
  rw [nK_int ha, nK_int hb] at h1
  omega
set_option maxRecDepth 100000 in
theorem cN_ge_f (ha : a < 2147483648) (hb : b < 2147483648) (h : ab_cc .ge (nI a) (nI b) = false) : a < b := by
  have h1 := cc_ge_f h
  rw [nK_int ha, nK_int hb] at h1
  omega
set_option maxRecDepth 100000 in
theorem cN_gt_t (ha : a < 2147483648) (hb : b < 2147483648) (h : ab_cc .gt (nI a) (nI b) = true) : b < a := by
  have h1 := cc_gt_t h
  rw [nK_int ha, nK_int hb] at h1
  omega
set_option maxRecDepth 100000 in
theorem cN_gt_f (ha : a < 2147483648) (hb : b < 2147483648) (h : ab_cc .gt (nI a) (nI b) = false) : a ≤ b := by
  have h1 := cc_gt_f h
  rw [nK_int ha, nK_int hb] at h1
  omega
set_option maxRecDepth 100000 in
theorem cN_le_t (ha : a < 2147483648) (hb : b < 2147483648) (h : ab_cc .le (nI a) (nI b) = true) : a ≤ b := by
  have h1 := cc_le_t h
  rw [nK_int ha, nK_int hb] at h1
  omega
set_option maxRecDepth 100000 in
theorem cN_le_f (ha : a < 2147483648) (hb : b < 2147483648) (h : ab_cc .le (nI a) (nI b) = false) : b < a := by
  have h1 := cc_le_f h
  rw [nK_int ha, nK_int hb] at h1
  omega
set_option maxRecDepth 100000 in
theorem bN_lt_t (ha : a < 2147483648) (hb : b < 2147483648) (h : a < b) : ab_cc .lt (nI a) (nI b) = true := cb_lt_t (by rw [nK_int ha, nK_int hb]; omega)
set_option maxRecDepth 100000 in
theorem bN_lt_f (ha : a < 2147483648) (hb : b < 2147483648) (h : b ≤ a) : ab_cc .lt (nI a) (nI b) = false := cb_lt_f (by rw [nK_int ha, nK_int hb]; omega)
set_option maxRecDepth 100000 in
theorem bN_ge_t (ha : a < 2147483648) (hb : b < 2147483648) (h : b ≤ a) : ab_cc .ge (nI a) (nI b) = true := cb_ge_t (by rw [nK_int ha, nK_int hb]; omega)
set_option maxRecDepth 100000 in
theorem bN_ge_f (ha : a < 2147483648) (hb : b < 2147483648) (h : a < b) : ab_cc .ge (nI a) (nI b) = false := cb_ge_f (by rw [nK_int ha, nK_int hb]; omega)
set_option maxRecDepth 100000 in
theorem bN_gt_t (ha : a < 2147483648) (hb : b < 2147483648) (h : b < a) : ab_cc .gt (nI a) (nI b) = true := cb_gt_t (by rw [nK_int ha, nK_int hb]; omega)
set_option maxRecDepth 100000 in
theorem bN_gt_f (ha : a < 2147483648) (hb : b < 2147483648) (h : a ≤ b) : ab_cc .gt (nI a) (nI b) = false := cb_gt_f (by rw [nK_int ha, nK_int hb]; omega)
set_option maxRecDepth 100000 in
theorem bN_le_t (ha : a < 2147483648) (hb : b < 2147483648) (h : a ≤ b) : ab_cc .le (nI a) (nI b) = true := cb_le_t (by rw [nK_int ha, nK_int hb]; omega)
set_option maxRecDepth 100000 in
theorem bN_le_f (ha : a < 2147483648) (hb : b < 2147483648) (h : b < a) : ab_cc .le (nI a) (nI b) = false := cb_le_f (by rw [nK_int ha, nK_int hb]; omega)
set_option maxRecDepth 100000 in
theorem bN_ne_t (ha : a < 2147483648) (hb : b < 2147483648) (h : a ≠ b) : ab_cc .ne (nI a) (nI b) = true := cb_ne_t (fun e => h ((nK_inj ha hb).mp e))
set_option maxRecDepth 100000 in
theorem bN_ne_f (_ : a < 2147483648) (_ : b < 2147483648) (h : a = b) : ab_cc .ne (nI a) (nI b) = false := cb_ne_f (by rw [h])
set_option maxRecDepth 100000 in
theorem bN_eq_t (_ : a < 2147483648) (_ : b < 2147483648) (h : a = b) : ab_cc .eq (nI a) (nI b) = true := cb_eq_t (by rw [h])
set_option maxRecDepth 100000 in
theorem bN_eq_f (ha : a < 2147483648) (hb : b < 2147483648) (h : a ≠ b) : ab_cc .eq (nI a) (nI b) = false := cb_eq_f (fun e => h ((nK_inj ha hb).mp e))
end CN
section NAT
variable {L : Nat} {xs : Nat → Int32} {d pc sl pc0 pc1 : Nat} {y : mc_T} {al al1 : List (Nat × Value)} {q : List Value} {h : ab_H} {P : Option Value → ab_H → Nat → Prop} {X : Nat → ab_H → Nat → Prop} {u v z : Int32}
set_option maxRecDepth 100000 in
theorem w_iadd (hf : y.2.2.find? (fun x => x.1 == pc) = some (pc0, .iadd, 1)) (e : u + v = z) (hpc : pc + 1 = pc1) (w : Wd L xs d y (pc1, al, .int z :: q, h, sl) P X) : Wd L xs d y (pc, al, .int v :: .int u :: q, h, sl) P X := by
  subst e
  subst hpc
  exact w_p hf rfl w
set_option maxRecDepth 100000 in
theorem w_isub (hf : y.2.2.find? (fun x => x.1 == pc) = some (pc0, .isub, 1)) (e : u - v = z) (hpc : pc + 1 = pc1) (w : Wd L xs d y (pc1, al, .int z :: q, h, sl) P X) : Wd L xs d y (pc, al, .int v :: .int u :: q, h, sl) P X := by
  subst e
  subst hpc
  exact w_p hf rfl w
set_option maxRecDepth 100000 in
theorem w_imul (hf : y.2.2.find? (fun x => x.1 == pc) = some (pc0, .imul, 1)) (e : u * v = z) (hpc : pc + 1 = pc1) (w : Wd L xs d y (pc1, al, .int z :: q, h, sl) P X) : Wd L xs d y (pc, al, .int v :: .int u :: q, h, sl) P X := by
  subst e
  subst hpc
  exact w_p hf rfl w
set_option maxRecDepth 100000 in
theorem w_iinc {j : Nat} {n : Int} {st : List Value} (hf : y.2.2.find? (fun x => x.1 == pc) = some (pc0, .iinc j n, 3)) (hl : ab_ld al j = some (.int u)) (hj : Nat.ble (j + 1) y.1.2.2.1 = true) (e : u + Int32.ofInt n = z) (hal : ab_s1 al j (.int z) = al1) (hpc : pc + 3 = pc1) (w : Wd L xs d y (pc1, al1, st, h, sl) P X) : Wd L xs d y (pc, al, st, h, sl) P X := by
  subst e
  subst hpc
  subst hal
  refine w_p hf ?_ w
  show ab_inc y.1.2.2.1 (pc + 3) j n al st = _
  unfold ab_inc
  rw [hl]
  simp only
  rw [if_pos (show j < y.1.2.2.1 from Nat.le_of_ble_eq_true hj)]
end NAT
section NMH
variable {L : Nat} {xs : Nat → Int32} {o : Nat} {ini : Bool} {C : co_T} {t : ab_H} {a k n ty e : Nat} {l : List (Nat × Nat)} {q : List Value}
set_option maxRecDepth 100000 in
theorem n_il (ha : a = k + 100) (h : SK[k]? = some (0, 0, n, l)) (hn : Nat.blt n 2147483648 = true) (hi : e < n) : mo L xs o ini .iaload 1 (MH C t) (.int (nI e) :: .ref a :: q) = some (.int (C.1 k e) :: q, MH C t, 0) := by
  have hn := Nat.le_of_ble_eq_true hn
  rw [h_il ha h (in_nI hi hn), nK_nat (Nat.lt_trans hi hn)]
set_option maxRecDepth 100000 in
theorem n_bl (ha : a = k + 100) (h : SK[k]? = some (0, ty, n, l)) (ht : ty = 2 ∨ ty = 3) (hn : Nat.blt n 2147483648 = true) (hi : e < n) : mo L xs o ini .baload 1 (MH C t) (.int (nI e) :: .ref a :: q) = some (.int (C.1 k e) :: q, MH C t, 0) := by
  have hn := Nat.le_of_ble_eq_true hn
  rw [h_bl ha h ht (in_nI hi hn), nK_nat (Nat.lt_trans hi hn)]
set_option maxRecDepth 100000 in
theorem n_ll (ha : a = k + 100) (h : SK[k]? = some (1, 1, n, l)) (hn : Nat.blt n 2147483648 = true) (hi : e < n) : mo L xs o ini .laload 1 (MH C t) (.int (nI e) :: .ref a :: q) = some (.long (C.2.1 k e) :: q, MH C t, 0) := by
  have hn := Nat.le_of_ble_eq_true hn
  rw [h_ll ha h (in_nI hi hn), nK_nat (Nat.lt_trans hi hn)]
set_option maxRecDepth 100000 in
theorem n_al (ha : a = k + 100) (h : SK[k]? = some (2, ty, n, l)) (ht : 4 ≤ ty ∧ ty < 11) (hn : Nat.blt n 2147483648 = true) (hi : e < n) : mo L xs o ini .aaload 1 (MH C t) (.int (nI e) :: .ref a :: q) = some (va_rf (C.2.2 k e) :: q, MH C t, 0) := by
  have hn := Nat.le_of_ble_eq_true hn
  rw [h_al ha h ht (in_nI hi hn), nK_nat (Nat.lt_trans hi hn)]
set_option maxRecDepth 100000 in
theorem n_is {v : Int32} (ha : a = k + 100) (h : SK[k]? = some (0, 0, n, l)) (hn : Nat.blt n 2147483648 = true) (hi : e < n) : mo L xs o ini .iastore 1 (MH C t) (.int v :: .int (nI e) :: .ref a :: q) = some (q, MH (sI C k e v) t, 0) := by
  have hn := Nat.le_of_ble_eq_true hn
  rw [h_is ha h (in_nI hi hn), nK_nat (Nat.lt_trans hi hn)]
set_option maxRecDepth 100000 in
theorem n_bs {v : Int32} (ha : a = k + 100) (h : SK[k]? = some (0, ty, n, l)) (ht : ty = 2 ∨ ty = 3) (hn : Nat.blt n 2147483648 = true) (hi : e < n) : mo L xs o ini .bastore 1 (MH C t) (.int v :: .int (nI e) :: .ref a :: q) = some (q, MH (sI C k e (vp_nar (ab_ty ty) v)) t, 0) := by
  have hn := Nat.le_of_ble_eq_true hn
  rw [h_bs ha h ht (in_nI hi hn), nK_nat (Nat.lt_trans hi hn)]
set_option maxRecDepth 100000 in
theorem n_ls {v : Int64} (ha : a = k + 100) (h : SK[k]? = some (1, 1, n, l)) (hn : Nat.blt n 2147483648 = true) (hi : e < n) : mo L xs o ini .lastore 1 (MH C t) (.long v :: .int (nI e) :: .ref a :: q) = some (q, MH (sJ C k e v) t, 0) := by
  have hn := Nat.le_of_ble_eq_true hn
  rw [h_ls ha h (in_nI hi hn), nK_nat (Nat.lt_trans hi hn)]
/-! the same, what is read being known -/
set_option maxRecDepth 100000 in
theorem n_ile {v : Int32} (ha : a = k + 100) (h : SK[k]? = some (0, 0, n, l)) (hn : Nat.blt n 2147483648 = true) (hi : e < n) (hv : C.1 k e = v) : mo L xs o ini .iaload 1 (MH C t) (.int (nI e) :: .ref a :: q) = some (.int v :: q, MH C t, 0) := by
  subst hv
  exact n_il ha h hn hi
set_option maxRecDepth 100000 in
theorem n_ble {v : Int32} (ha : a = k + 100) (h : SK[k]? = some (0, ty, n, l)) (ht : ty = 2 ∨ ty = 3) (hn : Nat.blt n 2147483648 = true) (hi : e < n) (hv : C.1 k e = v) : mo L xs o ini .baload 1 (MH C t) (.int (nI e) :: .ref a :: q) = some (.int v :: q, MH C t, 0) := by
  subst hv
  exact n_bl ha h ht hn hi
set_option maxRecDepth 100000 in
theorem n_lle {v : Int64} (ha : a = k + 100) (h : SK[k]? = some (1, 1, n, l)) (hn : Nat.blt n 2147483648 = true) (hi : e < n) (hv : C.2.1 k e = v) : mo L xs o ini .laload 1 (MH C t) (.int (nI e) :: .ref a :: q) = some (.long v :: q, MH C t, 0) := by
  subst hv
  exact n_ll ha h hn hi
set_option maxRecDepth 100000 in
theorem n_als {b : Nat} (ha : a = k + 100) (h : SK[k]? = some (2, ty, n, l)) (ht : 4 ≤ ty ∧ ty < 11) (hn : Nat.blt n 2147483648 = true) (hi : e < n) (hv : C.2.2 k e = some b) : mo L xs o ini .aaload 1 (MH C t) (.int (nI e) :: .ref a :: q) = some (.ref b :: q, MH C t, 0) := by
  rw [n_al ha h ht hn hi, hv]
  rfl
set_option maxRecDepth 100000 in
theorem n_aln (ha : a = k + 100) (h : SK[k]? = some (2, ty, n, l)) (ht : 4 ≤ ty ∧ ty < 11) (hn : Nat.blt n 2147483648 = true) (hi : e < n) (hv : C.2.2 k e = none) : mo L xs o ini .aaload 1 (MH C t) (.int (nI e) :: .ref a :: q) = some (.null :: q, MH C t, 0) := by
  rw [n_al ha h ht hn hi, hv]
  rfl
set_option maxRecDepth 100000 in
theorem h_gIe {idx j x : Nat} {f : fl_T} {v : Int32} (hf : mo_fl o idx = some f) (ha : a = k + 100) (h : SK[k]? = some (3, f.2.2.1, n, l)) (hj : l[f.2.2.2.1]? = some (0, x)) (hk : f.2.2.2.1 = j) (hv : C.1 k j = v) : mo L xs o ini (.getfield idx) 3 (MH C t) (.ref a :: q) = some (.int v :: q, MH C t, 0) := by
  subst hv
  exact h_gI hf ha h hj hk
set_option maxRecDepth 100000 in
theorem h_gJe {idx j x : Nat} {f : fl_T} {v : Int64} (hf : mo_fl o idx = some f) (ha : a = k + 100) (h : SK[k]? = some (3, f.2.2.1, n, l)) (hj : l[f.2.2.2.1]? = some (1, x)) (hk : f.2.2.2.1 = j) (hv : C.2.1 k j = v) : mo L xs o ini (.getfield idx) 3 (MH C t) (.ref a :: q) = some (.long v :: q, MH C t, 0) := by
  subst hv
  exact h_gJ hf ha h hj hk
set_option maxRecDepth 100000 in
theorem h_gRs {idx j x b : Nat} {f : fl_T} (hf : mo_fl o idx = some f) (ha : a = k + 100) (h : SK[k]? = some (3, f.2.2.1, n, l)) (hj : l[f.2.2.2.1]? = some (2, x)) (hk : f.2.2.2.1 = j) (hv : C.2.2 k j = some b) : mo L xs o ini (.getfield idx) 3 (MH C t) (.ref a :: q) = some (.ref b :: q, MH C t, 0) := by
  rw [h_gR hf ha h hj hk, hv]
  rfl
set_option maxRecDepth 100000 in
theorem h_gRn {idx j x : Nat} {f : fl_T} (hf : mo_fl o idx = some f) (ha : a = k + 100) (h : SK[k]? = some (3, f.2.2.1, n, l)) (hj : l[f.2.2.2.1]? = some (2, x)) (hk : f.2.2.2.1 = j) (hv : C.2.2 k j = none) : mo L xs o ini (.getfield idx) 3 (MH C t) (.ref a :: q) = some (.null :: q, MH C t, 0) := by
  rw [h_gR hf ha h hj hk, hv]
  rfl
end NMH
