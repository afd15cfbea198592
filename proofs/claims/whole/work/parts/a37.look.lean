
/-! BITS (begun from the kit's starting text); RULES ARE LOOKED AT, on both sides -/
def btI (x : Int32) (i : Nat) : Bool := x.toBitVec.getLsbD i
set_option maxRecDepth 100000 in
theorem bbI_ext {x y : Int32} (h : ∀ i, i < 32 → btI x i = btI y i) : x = y := Int32.toBitVec_inj.mp (BitVec.eq_of_getLsbD_eq (fun i hi => h i hi))
set_option maxRecDepth 100000 in
theorem bbI_or (x y : Int32) (i : Nat) : btI (x ||| y) i = (btI x i || btI y i) := by unfold btI; rw [Int32.toBitVec_or, BitVec.getLsbD_or]
set_option maxRecDepth 100000 in
theorem bbI_and (x y : Int32) (i : Nat) : btI (x &&& y) i = (btI x i && btI y i) := by unfold btI; rw [Int32.toBitVec_and, BitVec.getLsbD_and]
set_option maxRecDepth 100000 in
theorem bbI_xor (x y : Int32) (i : Nat) : btI (x ^^^ y) i = (btI x i ^^ btI y i) := by unfold btI; rw [Int32.toBitVec_xor, BitVec.getLsbD_xor]
set_option maxRecDepth 100000 in
theorem bbI_big {x : Int32} {i : Nat} (h : 32 ≤ i) : btI x i = false := BitVec.getLsbD_of_ge _ _ h
set_option maxRecDepth 100000 in
theorem bbI_255 (i : Nat) : btI 255 i = decide (i < 8) := by
  rcases Nat.lt_or_ge i 32 with h | h
  · exact (by decide +kernel : ∀ i, i < 32 → btI 255 i = decide (i < 8)) i h
  · rw [bbI_big h, decide_eq_false (by omega)]
set_option maxRecDepth 100000 in
theorem bbI_65535 (i : Nat) : btI 65535 i = decide (i < 16) := by
  rcases Nat.lt_or_ge i 32 with h | h
  · exact (by decide +kernel : ∀ i, i < 32 → btI 65535 i = decide (i < 16)) i h
  · rw [bbI_big h, decide_eq_false (by omega)]
set_option maxRecDepth 100000 in
theorem bbI_m1 : ∀ i, i < 32 → btI (-1) i = true := by decide +kernel
set_option maxRecDepth 100000 in
theorem bbI_0 (i : Nat) : btI 0 i = false := BitVec.getLsbD_zero
set_option maxRecDepth 100000 in
theorem bbI_sl : ∀ n, n < 32 → ((nI n &&& 31).toBitVec.smod 32).toNat = n := by decide +kernel
set_option maxRecDepth 100000 in
theorem bbI_su : ∀ n, n < 32 → (((nI n).toUInt32 &&& Int32.toUInt32 31).toBitVec % 32).toNat = n := by decide +kernel
set_option maxRecDepth 100000 in
theorem bbI_shl (n : Nat) (hn : n < 32) (x : Int32) {i : Nat} (hi : i < 32) : btI (x <<< (nI n &&& 31)) i = (decide (n ≤ i) && btI x (i - n)) := by
  unfold btI
  rw [Int32.toBitVec_shiftLeft]
  show (x.toBitVec <<< ((nI n &&& 31).toBitVec.smod 32).toNat).getLsbD i = _
  rw [bbI_sl n hn, BitVec.getLsbD_shiftLeft]
  rcases Nat.lt_or_ge i n with h | h
  · simp [h, Nat.not_le.mpr h]
  · simp [hi, h, Nat.not_lt.mpr h]
set_option maxRecDepth 100000 in
theorem bbI_ushr (n : Nat) (hn : n < 32) (x : Int32) (i : Nat) : btI ((x.toUInt32 >>> ((nI n).toUInt32 &&& Int32.toUInt32 31)).toInt32) i = btI x (n + i) := by
  show (x.toUInt32 >>> ((nI n).toUInt32 &&& Int32.toUInt32 31)).toBitVec.getLsbD i = x.toUInt32.toBitVec.getLsbD (n + i)
  rw [UInt32.toBitVec_shiftRight]
  show (x.toUInt32.toBitVec >>> (((nI n).toUInt32 &&& Int32.toUInt32 31).toBitVec % 32).toNat).getLsbD i = _
  rw [bbI_su n hn, BitVec.getLsbD_ushiftRight]
set_option maxRecDepth 100000 in
theorem bbI_sshr (n : Nat) (hn : n < 32) (x : Int32) {i : Nat} (hi : i < 32) : btI (x >>> (nI n &&& 31)) i = if n + i < 32 then btI x (n + i) else btI x 31 := by
  unfold btI
  rw [Int32.toBitVec_shiftRight]
  show (x.toBitVec.sshiftRight ((nI n &&& 31).toBitVec.smod 32).toNat).getLsbD i = _
  rw [bbI_sl n hn, BitVec.getLsbD_sshiftRight, BitVec.msb_eq_getLsbD_last]
  simp [hi]
set_option maxRecDepth 100000 in
theorem btI_01 (x : Int32) (i : Nat) (h : i < 32) : x >>> (nI i &&& 31) &&& 1 = if btI x i = true then 1 else 0 := by
  refine bbI_ext (fun j hj => ?_)
  rw [bbI_and, bbI_sshr i h x hj]
  by_cases e : j = 0
  · subst e
    rw [if_pos (by omega), Nat.add_zero, show btI 1 0 = true from by decide, Bool.and_true]
    cases btI x i <;> decide
  · have e1 : btI 1 j = false := by
      have : ∀ q, q < 32 → q ≠ 0 → btI 1 q = false := by decide +kernel
      exact this j hj e
    rw [e1, Bool.and_false]
    cases btI x i
    · rw [if_neg (by decide), bbI_0]
    · rw [if_pos rfl, e1]
set_option maxRecDepth 100000 in
theorem btI_t {x : Int32} {i : Nat} (h : i < 32) (e : btI x i = true) : x >>> (nI i &&& 31) &&& 1 = 1 := by rw [btI_01 x i h, if_pos e]
set_option maxRecDepth 100000 in
theorem btI_f {x : Int32} {i : Nat} (h : i < 32) (e : btI x i = false) : x >>> (nI i &&& 31) &&& 1 = 0 := by rw [btI_01 x i h, if_neg (by rw [e]; decide)]
/-! the first rule that is broken, of those that are looked at -/
def lkR (S : st_T) (rs : rs_T) (p : Nat → Bool) : List Nat → Option (Nat × Int32)
  | [] => none
  | i :: l => match sRu S i with
    | none => lkR S rs p l
    | some u => bif p i && !decide (fbk u rs = -1) then some (i, fbk u rs) else lkR S rs p l
def lkC (C : co_T) : Option (Nat × Int32) → co_T
  | none => C
  | some (i, id) => sI (sI C 24 9 (nI i)) 24 10 id
def lkV : Option (Nat × Int32) → Int32
  | none => 0
  | some _ => 2
def lkM (C : co_T) : Option (Nat × Int32) → co_T
  | none => C
  | some (i, id) => sI (sI C 76 90 (nI i)) 76 91 id
section LKA
variable {L : Nat} {xs : Nat → Int32} {C C0 : co_T} {t : ab_H} {d sl i n : Nat} {S : st_T} {rs : rs_T} {p : Nat → Bool} {w : Int32} {z : Bool} {wt nm : Nat → Bool}
set_option maxRecDepth 100000 in
theorem lkR_n {l : List Nat} (h : sRu S i = none) : lkR S rs p (i :: l) = lkR S rs p l := by
  show (match sRu S i with | none => lkR S rs p l | some u => bif p i && !decide (fbk u rs = -1) then some (i, fbk u rs) else lkR S rs p l) = _
  rw [h]
set_option maxRecDepth 100000 in
theorem lkR_f {l : List Nat} {u : ru_T} (h : sRu S i = some u) (hp : p i = false ∨ fbk u rs = -1) : lkR S rs p (i :: l) = lkR S rs p l := by
  show (match sRu S i with | none => lkR S rs p l | some u => bif p i && !decide (fbk u rs = -1) then some (i, fbk u rs) else lkR S rs p l) = _
  rw [h]
  show (bif p i && !decide (fbk u rs = -1) then some (i, fbk u rs) else lkR S rs p l) = _
  rcases hp with hp | hp
  · rw [hp, Bool.false_and, cond_false]
  · rw [decide_eq_true hp, Bool.not_true, Bool.and_false, cond_false]
set_option maxRecDepth 100000 in
theorem lkR_t {l : List Nat} {u : ru_T} (h : sRu S i = some u) (hp : p i = true) (hb : fbk u rs ≠ -1) : lkR S rs p (i :: l) = some (i, fbk u rs) := by
  show (match sRu S i with | none => lkR S rs p l | some u => bif p i && !decide (fbk u rs = -1) then some (i, fbk u rs) else lkR S rs p l) = _
  rw [h]
  show (bif p i && !decide (fbk u rs = -1) then some (i, fbk u rs) else lkR S rs p l) = _
  rw [hp, decide_eq_false hb]
  rfl
def LKP (C : co_T) (t : ab_H) (sl : Nat) (x : Option (Nat × Int32)) : Option Value → ab_H → Nat → Prop := fun v h m => some (.int (lkV x)) = v ∧ (∃ t', stk t t' ∧ MH (lkC C x) t' = h) ∧ sl = m
set_option maxRecDepth 100000 in
theorem lp_145 (W : RWK C (sWd S) rs) (ho : okSt S) {t0 : ab_H} : ∀ (n i : Nat) (t : ab_H), i + n = 24 → stk t0 t → KS C t S → Wd L xs (d + 5) y_145 (2, [(2, .int (nI (i))), (0, .ref 124), (1, .int (w))], [], MH C t, sl) (LKP C t0 sl (lkR S rs (btI w) (rng i n))) nX
  | 0, i, t, hi, hst, K => by
    obtain rfl : i = 24 := by omega
    refine w_p (pc1 := 3) rfl rfl ?_
    refine w_p (pc1 := 5) (st1 := .int 24 :: _) rfl rfl ?_
    refine w_t (a := 68) (b := 8) (bN_ge_t (a := 24) (b := 24) (by omega) (by omega) (by omega)) rfl rfl ?_
    refine w_p (pc1 := 69) (st1 := .int 0 :: _) rfl rfl ?_
    refine w_r rfl rfl rfl (fun _ _ => rfl) cr_int ?_
    exact ⟨rfl, ⟨t, hst, rfl⟩, rfl⟩
  | n + 1, i, t, hi, hst, K => by
    have IH := fun t' h1 h2 => lp_145 (t0 := t0) W ho n (i + 1) t' (by omega) h1 h2
    have hRu := K.2.1 i (by omega)
    have er : rng i (n + 1) = i :: rng (i + 1) n := rfl
    cases hG : sRu S i with
    | none =>
      rw [hG] at hRu
      have hm1 := m_96_n (L := L) (xs := xs) (t := t) (d := d + 4) (sl := 0) (i := i) (by omega) hRu
      rw [er, lkR_n hG]
      refine w_p (pc1 := 3) rfl rfl ?_
      refine w_p (pc1 := 5) (st1 := .int 24 :: _) rfl rfl ?_
      refine w_f (a := 68) (b := 8) (bN_ge_f (a := i) (b := 24) (by omega) (by omega) (by omega)) rfl rfl ?_
      refine w_p (pc1 := 9) rfl rfl ?_
      refine w_m0 (pc1 := 12) rfl rfl (h_gC rfl rfl rfl rfl) rfl ?_
      refine w_p (pc1 := 13) rfl rfl ?_
      refine w_je (pc1 := 16) (vs := [.ref 106, .int (nI (i))]) (rest := []) (st1 := [.null]) (hm1) rfl rfl rfl (fun _ _ => rfl) rfl (by exact cl_v my_96 rfl rfl rfl (Nat.le_of_ble_eq_true rfl) rfl (MH_obj rfl rfl) rfl (by decide) rfl rfl) (by rfl) (Nat.le_of_ble_eq_true rfl) (Nat.le_of_ble_eq_true rfl) rfl (by rfl) ?_
      refine w_p (pc1 := 17) (al1 := [(3, .null), (2, .int (nI (i))), (0, .ref 124), (1, .int (w))]) rfl rfl ?_
      refine w_p (pc1 := 18) rfl rfl ?_
      refine w_t (a := 29) (b := 21) rfl rfl rfl ?_
      refine w_p (pc1 := 30) (st1 := .int (-1) :: _) rfl rfl ?_
      refine w_p (pc1 := 41) rfl rfl ?_
      refine w_p (pc1 := 43) (al1 := [(4, .int (-1)), (3, .null), (2, .int (nI (i))), (0, .ref 124), (1, .int (w))]) rfl rfl ?_
      refine w_p (pc1 := 45) rfl rfl ?_
      refine w_p (pc1 := 46) (st1 := .int (-1) :: _) rfl rfl ?_
      refine w_t (a := 62) (b := 49) rfl rfl rfl ?_
      refine w_iinc (pc1 := 65) (u := nI (i)) (z := nI (i + 1)) (al1 := [(2, .int (nI (i + 1))), (4, .int (-1)), (3, .null), (0, .ref 124), (1, .int (w))]) rfl rfl rfl nK_1 rfl rfl ?_
      refine w_p (pc1 := 2) rfl rfl ?_
      refine Wd_al (al := [(2, .int (nI (i + 1))), (0, .ref 124), (1, .int (w))]) (sba_p [0, 3, 4] rfl rfl) ?_
      exact IH t hst K
    | some u =>
      rw [hG] at hRu
      obtain ⟨k0, hk0, U⟩ := hRu
      obtain ⟨kc, kt, fc, ft, vc, U1, hck⟩ := id U
      have hm1 := m_96_s (L := L) (xs := xs) (t := t) (d := d + 4) (sl := 0) (i := i) (by omega) hk0
      have hR := ho.2.1 i u (by omega) hG
      have hm2 := m_146 (L := L) (xs := xs) (t := t) (d := d) (sl := 0) W hR U
      cases hp : btI w i with
      | false =>
        have hb := btI_f (by omega) hp
        rw [er, lkR_f hG (Or.inl hp)]
        refine w_p (pc1 := 3) rfl rfl ?_
        refine w_p (pc1 := 5) (st1 := .int 24 :: _) rfl rfl ?_
        refine w_f (a := 68) (b := 8) (bN_ge_f (a := i) (b := 24) (by omega) (by omega) (by omega)) rfl rfl ?_
        refine w_p (pc1 := 9) rfl rfl ?_
        refine w_m0 (pc1 := 12) rfl rfl (h_gC rfl rfl rfl rfl) rfl ?_
        refine w_p (pc1 := 13) rfl rfl ?_
        refine w_je (pc1 := 16) (vs := [.ref 106, .int (nI (i))]) (rest := []) (st1 := [.ref (241 + k0)]) (hm1) rfl rfl rfl (fun _ _ => rfl) rfl (by exact cl_v my_96 rfl rfl rfl (Nat.le_of_ble_eq_true rfl) rfl (MH_obj rfl rfl) rfl (by decide) rfl rfl) (by rfl) (Nat.le_of_ble_eq_true rfl) (Nat.le_of_ble_eq_true rfl) rfl (by rfl) ?_
        refine w_p (pc1 := 17) (al1 := [(3, .ref (241 + k0)), (2, .int (nI (i))), (0, .ref 124), (1, .int (w))]) rfl rfl ?_
        refine w_p (pc1 := 18) rfl rfl ?_
        refine w_f (a := 29) (b := 21) rfl rfl rfl ?_
        refine w_p (pc1 := 22) rfl rfl ?_
        refine w_p (pc1 := 23) rfl rfl ?_
        refine w_p (pc1 := 24) rfl rfl ?_
        refine w_p (pc1 := 25) (st1 := .int 1 :: _) rfl rfl ?_
        refine w_p (pc1 := 26) rfl rfl ?_
        refine w_f (a := 33) (b := 29) (cb_ne_f (by exact hb)) rfl rfl ?_
        refine w_p (pc1 := 30) (st1 := .int (-1) :: _) rfl rfl ?_
        refine w_p (pc1 := 41) rfl rfl ?_
        refine w_p (pc1 := 43) (al1 := [(4, .int (-1)), (3, .ref (241 + k0)), (2, .int (nI (i))), (0, .ref 124), (1, .int (w))]) rfl rfl ?_
        refine w_p (pc1 := 45) rfl rfl ?_
        refine w_p (pc1 := 46) (st1 := .int (-1) :: _) rfl rfl ?_
        refine w_t (a := 62) (b := 49) rfl rfl rfl ?_
        refine w_iinc (pc1 := 65) (u := nI (i)) (z := nI (i + 1)) (al1 := [(2, .int (nI (i + 1))), (4, .int (-1)), (3, .ref (241 + k0)), (0, .ref 124), (1, .int (w))]) rfl rfl rfl nK_1 rfl rfl ?_
        refine w_p (pc1 := 2) rfl rfl ?_
        refine Wd_al (al := [(2, .int (nI (i + 1))), (0, .ref 124), (1, .int (w))]) (sba_p [0, 3, 4] rfl rfl) ?_
        exact IH t hst K
      | true =>
        have hb := btI_t (by omega) hp
        by_cases hf : fbk u rs = -1
        · rw [er, lkR_f hG (Or.inr hf)]
          rw [hf] at hm2
          refine w_p (pc1 := 3) rfl rfl ?_
          refine w_p (pc1 := 5) (st1 := .int 24 :: _) rfl rfl ?_
          refine w_f (a := 68) (b := 8) (bN_ge_f (a := i) (b := 24) (by omega) (by omega) (by omega)) rfl rfl ?_
          refine w_p (pc1 := 9) rfl rfl ?_
          refine w_m0 (pc1 := 12) rfl rfl (h_gC rfl rfl rfl rfl) rfl ?_
          refine w_p (pc1 := 13) rfl rfl ?_
          refine w_je (pc1 := 16) (vs := [.ref 106, .int (nI (i))]) (rest := []) (st1 := [.ref (241 + k0)]) (hm1) rfl rfl rfl (fun _ _ => rfl) rfl (by exact cl_v my_96 rfl rfl rfl (Nat.le_of_ble_eq_true rfl) rfl (MH_obj rfl rfl) rfl (by decide) rfl rfl) (by rfl) (Nat.le_of_ble_eq_true rfl) (Nat.le_of_ble_eq_true rfl) rfl (by rfl) ?_
          refine w_p (pc1 := 17) (al1 := [(3, .ref (241 + k0)), (2, .int (nI (i))), (0, .ref 124), (1, .int (w))]) rfl rfl ?_
          refine w_p (pc1 := 18) rfl rfl ?_
          refine w_f (a := 29) (b := 21) rfl rfl rfl ?_
          refine w_p (pc1 := 22) rfl rfl ?_
          refine w_p (pc1 := 23) rfl rfl ?_
          refine w_p (pc1 := 24) rfl rfl ?_
          refine w_p (pc1 := 25) (st1 := .int 1 :: _) rfl rfl ?_
          refine w_p (pc1 := 26) rfl rfl ?_
          refine w_t (a := 33) (b := 29) (cb_ne_t (by show w >>> (nI i &&& 31) &&& 1 ≠ 0; rw [hb]; decide)) rfl rfl ?_
          refine w_p (pc1 := 34) rfl rfl ?_
          refine w_p (pc1 := 35) rfl rfl ?_
          refine w_m0 (pc1 := 38) rfl rfl (h_gC rfl rfl rfl rfl) rfl ?_
          refine w_ji (pc1 := 41) (vs := [.ref (241 + k0), .ref 113]) (rest := []) (hm2) rfl rfl rfl (fun _ _ => rfl) rfl (by exact cl_v my_146 rfl rfl rfl (Nat.le_of_ble_eq_true rfl) rfl (x_obj U1.1) rfl (by decide) rfl rfl) (by rfl) (Nat.le_of_ble_eq_true rfl) (Nat.le_of_ble_eq_true rfl) rfl (fun v h m hq => ?_) (fun _ _ _ e => e.elim)
          obtain ⟨rfl, ⟨t1, hs1, rfl⟩, rfl⟩ := hq
          refine w_p (pc1 := 43) (al1 := [(4, .int (-1)), (3, .ref (241 + k0)), (2, .int (nI (i))), (0, .ref 124), (1, .int (w))]) rfl rfl ?_
          refine w_p (pc1 := 45) rfl rfl ?_
          refine w_p (pc1 := 46) (st1 := .int (-1) :: _) rfl rfl ?_
          refine w_t (a := 62) (b := 49) rfl rfl rfl ?_
          refine w_iinc (pc1 := 65) (u := nI (i)) (z := nI (i + 1)) (al1 := [(2, .int (nI (i + 1))), (4, .int (-1)), (3, .ref (241 + k0)), (0, .ref 124), (1, .int (w))]) rfl rfl rfl nK_1 rfl rfl ?_
          refine w_p (pc1 := 2) rfl rfl ?_
          refine Wd_al (al := [(2, .int (nI (i + 1))), (0, .ref 124), (1, .int (w))]) (sba_p [0, 3, 4] rfl rfl) ?_
          exact IH t1 (stk_t hst hs1) (KS_s K hs1)
        · rw [er, lkR_t hG hp hf]
          refine w_p (pc1 := 3) rfl rfl ?_
          refine w_p (pc1 := 5) (st1 := .int 24 :: _) rfl rfl ?_
          refine w_f (a := 68) (b := 8) (bN_ge_f (a := i) (b := 24) (by omega) (by omega) (by omega)) rfl rfl ?_
          refine w_p (pc1 := 9) rfl rfl ?_
          refine w_m0 (pc1 := 12) rfl rfl (h_gC rfl rfl rfl rfl) rfl ?_
          refine w_p (pc1 := 13) rfl rfl ?_
          refine w_je (pc1 := 16) (vs := [.ref 106, .int (nI (i))]) (rest := []) (st1 := [.ref (241 + k0)]) (hm1) rfl rfl rfl (fun _ _ => rfl) rfl (by exact cl_v my_96 rfl rfl rfl (Nat.le_of_ble_eq_true rfl) rfl (MH_obj rfl rfl) rfl (by decide) rfl rfl) (by rfl) (Nat.le_of_ble_eq_true rfl) (Nat.le_of_ble_eq_true rfl) rfl (by rfl) ?_
          refine w_p (pc1 := 17) (al1 := [(3, .ref (241 + k0)), (2, .int (nI (i))), (0, .ref 124), (1, .int (w))]) rfl rfl ?_
          refine w_p (pc1 := 18) rfl rfl ?_
          refine w_f (a := 29) (b := 21) rfl rfl rfl ?_
          refine w_p (pc1 := 22) rfl rfl ?_
          refine w_p (pc1 := 23) rfl rfl ?_
          refine w_p (pc1 := 24) rfl rfl ?_
          refine w_p (pc1 := 25) (st1 := .int 1 :: _) rfl rfl ?_
          refine w_p (pc1 := 26) rfl rfl ?_
          refine w_t (a := 33) (b := 29) (cb_ne_t (by show w >>> (nI i &&& 31) &&& 1 ≠ 0; rw [hb]; decide)) rfl rfl ?_
          refine w_p (pc1 := 34) rfl rfl ?_
          refine w_p (pc1 := 35) rfl rfl ?_
          refine w_m0 (pc1 := 38) rfl rfl (h_gC rfl rfl rfl rfl) rfl ?_
          refine w_ji (pc1 := 41) (vs := [.ref (241 + k0), .ref 113]) (rest := []) (hm2) rfl rfl rfl (fun _ _ => rfl) rfl (by exact cl_v my_146 rfl rfl rfl (Nat.le_of_ble_eq_true rfl) rfl (x_obj U1.1) rfl (by decide) rfl rfl) (by rfl) (Nat.le_of_ble_eq_true rfl) (Nat.le_of_ble_eq_true rfl) rfl (fun v h m hq => ?_) (fun _ _ _ e => e.elim)
          obtain ⟨rfl, ⟨t1, hs1, rfl⟩, rfl⟩ := hq
          refine w_p (pc1 := 43) (al1 := [(4, .int (fbk u rs)), (3, .ref (241 + k0)), (2, .int (nI (i))), (0, .ref 124), (1, .int (w))]) rfl rfl ?_
          refine w_p (pc1 := 45) rfl rfl ?_
          refine w_p (pc1 := 46) (st1 := .int (-1) :: _) rfl rfl ?_
          refine w_f (a := 62) (b := 49) (cb_eq_f (by exact hf)) rfl rfl ?_
          refine w_p (pc1 := 50) rfl rfl ?_
          refine w_p (pc1 := 51) rfl rfl ?_
          refine w_m0 (pc1 := 54) rfl rfl (h_pI (j := 9) rfl rfl rfl rfl rfl rfl rfl ⟨rfl, rfl⟩ rfl) rfl ?_
          refine w_p (pc1 := 55) rfl rfl ?_
          refine w_p (pc1 := 57) rfl rfl ?_
          refine w_m0 (pc1 := 60) rfl rfl (h_pI (j := 10) rfl rfl rfl rfl rfl rfl rfl ⟨rfl, rfl⟩ rfl) rfl ?_
          refine w_p (pc1 := 61) (st1 := .int 2 :: _) rfl rfl ?_
          refine w_r rfl rfl rfl (fun _ _ => rfl) cr_int ?_
          exact ⟨rfl, ⟨t1, stk_t hst hs1, rfl⟩, rfl⟩
set_option maxRecDepth 100000 in
theorem m_145 (K : KS C t S) (W : RWK C (sWd S) rs) (ho : okSt S) : Wd L xs (d + 5) y_145 (0, [(0, .ref 124), (1, .int (w))], [], MH C t, sl) (LKP C t sl (lkR S rs (btI w) (rng 0 24))) nX := by
  refine w_p (pc1 := 1) (st1 := .int 0 :: _) rfl rfl ?_
  refine w_p (pc1 := 2) (al1 := [(2, .int 0), (0, .ref 124), (1, .int (w))]) rfl rfl ?_
  exact lp_145 W ho 24 0 t rfl stk_r K
def LMP (C : co_T) (t : ab_H) (sl : Nat) (x : Option (Nat × Int32)) : Option Value → ab_H → Nat → Prop := fun v h m => some (.int (ck x.isSome)) = v ∧ (∃ C', frZ C C' ∧ MH (lkM C' x) t = h) ∧ sl = m
set_option maxRecDepth 100000 in
theorem lp_273_0 (W : RWM C0 (sWd S) rs) (K : MSt C0 S) (ho : okSt S) (hz : C0.1 76 74 = ck z) : ∀ (n i : Nat) (C : co_T), i + n = 24 → frZ C0 C → Wd L xs (d + 6) y_273 (2, [(2, .int (nI (i))), (0, .ref 176), (1, .int 0)], [], MH C t, sl) (LMP C0 t sl (lkR S rs (fun _ => true) (rng i n))) nX
  | 0, i, C, hi, hf => by
    obtain rfl : i = 24 := by omega
    refine w_p (pc1 := 3) rfl rfl ?_
    refine w_p (pc1 := 5) (st1 := .int 24 :: _) rfl rfl ?_
    refine w_t (a := 95) (b := 8) (bN_ge_t (a := 24) (b := 24) (by omega) (by omega) (by omega)) rfl rfl ?_
    refine w_p (pc1 := 96) (st1 := .int 0 :: _) rfl rfl ?_
    refine w_r rfl rfl rfl (fun _ _ => rfl) rfl ?_
    exact ⟨rfl, ⟨C, hf, rfl⟩, rfl⟩
  | n + 1, i, C, hi, hf => by
    have IH := fun C' h1 => lp_273_0 W K ho hz n (i + 1) C' (by omega) h1
    have K1 := MSt_Q (frQ_W (f := 0) hf.1) K
    have hRu := K1.2.1 i (by omega)
    have er : rng i (n + 1) = i :: rng (i + 1) n := rfl
    cases hG : sRu S i with
    | none =>
      rw [hG] at hRu
      have t0 : C.1 83 i = 0 := hRu
      rw [er, lkR_n hG]
      refine w_p (pc1 := 3) rfl rfl ?_
      refine w_p (pc1 := 5) (st1 := .int 24 :: _) rfl rfl ?_
      refine w_f (a := 95) (b := 8) (bN_ge_f (a := i) (b := 24) (by omega) (by omega) (by omega)) rfl rfl ?_
      refine w_p (pc1 := 9) rfl rfl ?_
      refine w_m0 (pc1 := 12) rfl rfl (h_gC rfl rfl rfl rfl) rfl ?_
      refine w_p (pc1 := 13) rfl rfl ?_
      refine w_m0 (pc1 := 14) (st1 := .int 0 :: _) rfl rfl (n_ble (e := i) rfl rfl (by decide) rfl (by omega) (t0)) rfl ?_
      refine w_t (a := 53) (b := 17) rfl rfl rfl ?_
      refine w_p (pc1 := 54) (st1 := .int 0 :: _) rfl rfl ?_
      refine w_p (pc1 := 55) (al1 := [(3, .int 0), (2, .int (nI (i))), (0, .ref 176), (1, .int 0)]) rfl rfl ?_
      refine w_p (pc1 := 56) rfl rfl ?_
      refine w_t (a := 67) (b := 59) rfl rfl rfl ?_
      refine w_p (pc1 := 68) (st1 := .int (-1) :: _) rfl rfl ?_
      refine w_p (pc1 := 70) (al1 := [(4, .int (-1)), (3, .int 0), (2, .int (nI (i))), (0, .ref 176), (1, .int 0)]) rfl rfl ?_
      refine w_p (pc1 := 72) rfl rfl ?_
      refine w_p (pc1 := 73) (st1 := .int (-1) :: _) rfl rfl ?_
      refine w_t (a := 89) (b := 76) rfl rfl rfl ?_
      refine w_iinc (pc1 := 92) (u := nI (i)) (z := nI (i + 1)) (al1 := [(2, .int (nI (i + 1))), (4, .int (-1)), (3, .int 0), (0, .ref 176), (1, .int 0)]) rfl rfl rfl nK_1 rfl rfl ?_
      refine w_p (pc1 := 2) rfl rfl ?_
      refine Wd_al (al := [(2, .int (nI (i + 1))), (0, .ref 176), (1, .int 0)]) (sba_p [0, 3, 4] rfl rfl) ?_
      exact IH C hf
    | some u =>
      rw [hG] at hRu
      obtain ⟨t0, U⟩ : C.1 83 i = 1 ∧ RUM C i u := hRu
      have hR := ho.2.1 i u (by omega) hG
      have hm2 := m_274 (L := L) (xs := xs) (t := t) (d := d) (sl := 0) (RWM_f hf.1 W) U (by omega) hR (hf.2.trans hz)
      by_cases hfb : fbk u rs = -1
      · rw [er, lkR_f hG (Or.inr hfb)]
        rw [hfb] at hm2
        refine w_p (pc1 := 3) rfl rfl ?_
        refine w_p (pc1 := 5) (st1 := .int 24 :: _) rfl rfl ?_
        refine w_f (a := 95) (b := 8) (bN_ge_f (a := i) (b := 24) (by omega) (by omega) (by omega)) rfl rfl ?_
        refine w_p (pc1 := 9) rfl rfl ?_
        refine w_m0 (pc1 := 12) rfl rfl (h_gC rfl rfl rfl rfl) rfl ?_
        refine w_p (pc1 := 13) rfl rfl ?_
        refine w_m0 (pc1 := 14) (st1 := .int 1 :: _) rfl rfl (n_ble (e := i) rfl rfl (by decide) rfl (by omega) (t0)) rfl ?_
        refine w_f (a := 53) (b := 17) rfl rfl rfl ?_
        refine w_p (pc1 := 18) rfl rfl ?_
        refine w_t (a := 49) (b := 21) rfl rfl rfl ?_
        refine w_p (pc1 := 50) (st1 := .int 1 :: _) rfl rfl ?_
        refine w_p (pc1 := 54) rfl rfl ?_
        refine w_p (pc1 := 55) (al1 := [(3, .int 1), (2, .int (nI (i))), (0, .ref 176), (1, .int 0)]) rfl rfl ?_
        refine w_p (pc1 := 56) rfl rfl ?_
        refine w_f (a := 67) (b := 59) rfl rfl rfl ?_
        refine w_p (pc1 := 60) rfl rfl ?_
        refine w_p (pc1 := 61) rfl rfl ?_
        refine w_ji (pc1 := 64) (vs := [.ref 176, .int (nI (i))]) (rest := []) (hm2) rfl rfl rfl (fun _ _ => rfl) rfl (by exact cl_v my_274 rfl rfl rfl (Nat.le_of_ble_eq_true rfl) rfl (MH_obj rfl rfl) rfl (by decide) rfl rfl) (by rfl) (Nat.le_of_ble_eq_true rfl) (Nat.le_of_ble_eq_true rfl) rfl (fun v h m hq => ?_) (fun _ _ _ e => e.elim)
        obtain ⟨rfl, ⟨C1, f1, rfl⟩, rfl⟩ := hq
        refine w_p (pc1 := 68) rfl rfl ?_
        refine w_p (pc1 := 70) (al1 := [(4, .int (-1)), (3, .int 1), (2, .int (nI (i))), (0, .ref 176), (1, .int 0)]) rfl rfl ?_
        refine w_p (pc1 := 72) rfl rfl ?_
        refine w_p (pc1 := 73) (st1 := .int (-1) :: _) rfl rfl ?_
        refine w_t (a := 89) (b := 76) rfl rfl rfl ?_
        refine w_iinc (pc1 := 92) (u := nI (i)) (z := nI (i + 1)) (al1 := [(2, .int (nI (i + 1))), (4, .int (-1)), (3, .int 1), (0, .ref 176), (1, .int 0)]) rfl rfl rfl nK_1 rfl rfl ?_
        refine w_p (pc1 := 2) rfl rfl ?_
        refine Wd_al (al := [(2, .int (nI (i + 1))), (0, .ref 176), (1, .int 0)]) (sba_p [0, 3, 4] rfl rfl) ?_
        exact IH C1 (frZ_t hf f1)
      · rw [er, lkR_t (p := (fun _ => true)) hG rfl hfb]
        refine w_p (pc1 := 3) rfl rfl ?_
        refine w_p (pc1 := 5) (st1 := .int 24 :: _) rfl rfl ?_
        refine w_f (a := 95) (b := 8) (bN_ge_f (a := i) (b := 24) (by omega) (by omega) (by omega)) rfl rfl ?_
        refine w_p (pc1 := 9) rfl rfl ?_
        refine w_m0 (pc1 := 12) rfl rfl (h_gC rfl rfl rfl rfl) rfl ?_
        refine w_p (pc1 := 13) rfl rfl ?_
        refine w_m0 (pc1 := 14) (st1 := .int 1 :: _) rfl rfl (n_ble (e := i) rfl rfl (by decide) rfl (by omega) (t0)) rfl ?_
        refine w_f (a := 53) (b := 17) rfl rfl rfl ?_
        refine w_p (pc1 := 18) rfl rfl ?_
        refine w_t (a := 49) (b := 21) rfl rfl rfl ?_
        refine w_p (pc1 := 50) (st1 := .int 1 :: _) rfl rfl ?_
        refine w_p (pc1 := 54) rfl rfl ?_
        refine w_p (pc1 := 55) (al1 := [(3, .int 1), (2, .int (nI (i))), (0, .ref 176), (1, .int 0)]) rfl rfl ?_
        refine w_p (pc1 := 56) rfl rfl ?_
        refine w_f (a := 67) (b := 59) rfl rfl rfl ?_
        refine w_p (pc1 := 60) rfl rfl ?_
        refine w_p (pc1 := 61) rfl rfl ?_
        refine w_ji (pc1 := 64) (vs := [.ref 176, .int (nI (i))]) (rest := []) (hm2) rfl rfl rfl (fun _ _ => rfl) rfl (by exact cl_v my_274 rfl rfl rfl (Nat.le_of_ble_eq_true rfl) rfl (MH_obj rfl rfl) rfl (by decide) rfl rfl) (by rfl) (Nat.le_of_ble_eq_true rfl) (Nat.le_of_ble_eq_true rfl) rfl (fun v h m hq => ?_) (fun _ _ _ e => e.elim)
        obtain ⟨rfl, ⟨C1, f1, rfl⟩, rfl⟩ := hq
        refine w_p (pc1 := 68) rfl rfl ?_
        refine w_p (pc1 := 70) (al1 := [(4, .int (fbk u rs)), (3, .int 1), (2, .int (nI (i))), (0, .ref 176), (1, .int 0)]) rfl rfl ?_
        refine w_p (pc1 := 72) rfl rfl ?_
        refine w_p (pc1 := 73) (st1 := .int (-1) :: _) rfl rfl ?_
        refine w_f (a := 89) (b := 76) (cb_eq_f (by exact hfb)) rfl rfl ?_
        refine w_p (pc1 := 77) rfl rfl ?_
        refine w_p (pc1 := 78) rfl rfl ?_
        refine w_m0 (pc1 := 81) rfl rfl (h_pI (j := 90) rfl rfl rfl rfl rfl rfl rfl ⟨rfl, rfl⟩ rfl) rfl ?_
        refine w_p (pc1 := 82) rfl rfl ?_
        refine w_p (pc1 := 84) rfl rfl ?_
        refine w_m0 (pc1 := 87) rfl rfl (h_pI (j := 91) rfl rfl rfl rfl rfl rfl rfl ⟨rfl, rfl⟩ rfl) rfl ?_
        refine w_p (pc1 := 88) (st1 := .int 1 :: _) rfl rfl ?_
        refine w_r rfl rfl rfl (fun _ _ => rfl) rfl ?_
        exact ⟨rfl, ⟨C1, frZ_t hf f1, rfl⟩, rfl⟩
set_option maxRecDepth 100000 in
theorem m_273_0 (W : RWM C (sWd S) rs) (K : MSt C S) (ho : okSt S) (hz : C.1 76 74 = ck z) : Wd L xs (d + 6) y_273 (0, [(0, .ref 176), (1, .int 0)], [], MH C t, sl) (LMP C t sl (lkR S rs (fun _ => true) (rng 0 24))) nX := by
  refine w_p (pc1 := 1) (st1 := .int 0 :: _) rfl rfl ?_
  refine w_p (pc1 := 2) (al1 := [(2, .int 0), (0, .ref 176), (1, .int 0)]) rfl rfl ?_
  exact lp_273_0 W K ho hz 24 0 C rfl frZ_r
set_option maxRecDepth 100000 in
theorem lp_273_1 (W : RWM C0 (sWd S) rs) (K : MSt C0 S) (ho : okSt S) (hw : ∀ j, j < 24 → C0.1 91 j = ck (wt j)) (hz : C0.1 76 74 = ck z) : ∀ (n i : Nat) (C : co_T), i + n = 24 → frZ C0 C → Wd L xs (d + 6) y_273 (2, [(2, .int (nI (i))), (0, .ref 176), (1, .int 1)], [], MH C t, sl) (LMP C0 t sl (lkR S rs (fun j => !wt j) (rng i n))) nX
  | 0, i, C, hi, hf => by
    obtain rfl : i = 24 := by omega
    refine w_p (pc1 := 3) rfl rfl ?_
    refine w_p (pc1 := 5) (st1 := .int 24 :: _) rfl rfl ?_
    refine w_t (a := 95) (b := 8) (bN_ge_t (a := 24) (b := 24) (by omega) (by omega) (by omega)) rfl rfl ?_
    refine w_p (pc1 := 96) (st1 := .int 0 :: _) rfl rfl ?_
    refine w_r rfl rfl rfl (fun _ _ => rfl) rfl ?_
    exact ⟨rfl, ⟨C, hf, rfl⟩, rfl⟩
  | n + 1, i, C, hi, hf => by
    have IH := fun C' h1 => lp_273_1 W K ho hw hz n (i + 1) C' (by omega) h1
    have K1 := MSt_Q (frQ_W (f := 0) hf.1) K
    have hRu := K1.2.1 i (by omega)
    have er : rng i (n + 1) = i :: rng (i + 1) n := rfl
    cases hG : sRu S i with
    | none =>
      rw [hG] at hRu
      have t0 : C.1 83 i = 0 := hRu
      rw [er, lkR_n hG]
      refine w_p (pc1 := 3) rfl rfl ?_
      refine w_p (pc1 := 5) (st1 := .int 24 :: _) rfl rfl ?_
      refine w_f (a := 95) (b := 8) (bN_ge_f (a := i) (b := 24) (by omega) (by omega) (by omega)) rfl rfl ?_
      refine w_p (pc1 := 9) rfl rfl ?_
      refine w_m0 (pc1 := 12) rfl rfl (h_gC rfl rfl rfl rfl) rfl ?_
      refine w_p (pc1 := 13) rfl rfl ?_
      refine w_m0 (pc1 := 14) (st1 := .int 0 :: _) rfl rfl (n_ble (e := i) rfl rfl (by decide) rfl (by omega) (t0)) rfl ?_
      refine w_t (a := 53) (b := 17) rfl rfl rfl ?_
      refine w_p (pc1 := 54) (st1 := .int 0 :: _) rfl rfl ?_
      refine w_p (pc1 := 55) (al1 := [(3, .int 0), (2, .int (nI (i))), (0, .ref 176), (1, .int 1)]) rfl rfl ?_
      refine w_p (pc1 := 56) rfl rfl ?_
      refine w_t (a := 67) (b := 59) rfl rfl rfl ?_
      refine w_p (pc1 := 68) (st1 := .int (-1) :: _) rfl rfl ?_
      refine w_p (pc1 := 70) (al1 := [(4, .int (-1)), (3, .int 0), (2, .int (nI (i))), (0, .ref 176), (1, .int 1)]) rfl rfl ?_
      refine w_p (pc1 := 72) rfl rfl ?_
      refine w_p (pc1 := 73) (st1 := .int (-1) :: _) rfl rfl ?_
      refine w_t (a := 89) (b := 76) rfl rfl rfl ?_
      refine w_iinc (pc1 := 92) (u := nI (i)) (z := nI (i + 1)) (al1 := [(2, .int (nI (i + 1))), (4, .int (-1)), (3, .int 0), (0, .ref 176), (1, .int 1)]) rfl rfl rfl nK_1 rfl rfl ?_
      refine w_p (pc1 := 2) rfl rfl ?_
      refine Wd_al (al := [(2, .int (nI (i + 1))), (0, .ref 176), (1, .int 1)]) (sba_p [0, 3, 4] rfl rfl) ?_
      exact IH C hf
    | some u =>
      rw [hG] at hRu
      obtain ⟨t0, U⟩ : C.1 83 i = 1 ∧ RUM C i u := hRu
      have hR := ho.2.1 i u (by omega) hG
      have hm2 := m_274 (L := L) (xs := xs) (t := t) (d := d) (sl := 0) (RWM_f hf.1 W) U (by omega) hR (hf.2.trans hz)
      have hwi : C.1 91 i = ck (wt i) := (hf.1.1 91 i (by omega)).trans (hw i (by omega))
      cases hwt : wt i with
      | true =>
        rw [hwt] at hwi
        rw [er, lkR_f (p := (fun j => !wt j)) hG (Or.inl (by show (!wt i) = false; rw [hwt]; rfl))]
        refine w_p (pc1 := 3) rfl rfl ?_
        refine w_p (pc1 := 5) (st1 := .int 24 :: _) rfl rfl ?_
        refine w_f (a := 95) (b := 8) (bN_ge_f (a := i) (b := 24) (by omega) (by omega) (by omega)) rfl rfl ?_
        refine w_p (pc1 := 9) rfl rfl ?_
        refine w_m0 (pc1 := 12) rfl rfl (h_gC rfl rfl rfl rfl) rfl ?_
        refine w_p (pc1 := 13) rfl rfl ?_
        refine w_m0 (pc1 := 14) (st1 := .int 1 :: _) rfl rfl (n_ble (e := i) rfl rfl (by decide) rfl (by omega) (t0)) rfl ?_
        refine w_f (a := 53) (b := 17) rfl rfl rfl ?_
        refine w_p (pc1 := 18) rfl rfl ?_
        refine w_f (a := 49) (b := 21) rfl rfl rfl ?_
        refine w_p (pc1 := 22) rfl rfl ?_
        refine w_p (pc1 := 23) (st1 := .int 1 :: _) rfl rfl ?_
        refine w_f (a := 35) (b := 26) rfl rfl rfl ?_
        refine w_p (pc1 := 27) rfl rfl ?_
        refine w_m0 (pc1 := 30) rfl rfl (h_gC rfl rfl rfl rfl) rfl ?_
        refine w_p (pc1 := 31) rfl rfl ?_
        refine w_m0 (pc1 := 32) (st1 := .int 1 :: _) rfl rfl (n_ble (e := i) rfl rfl (by decide) rfl (by omega) (hwi)) rfl ?_
        refine w_f (a := 49) (b := 35) rfl rfl rfl ?_
        refine w_p (pc1 := 36) rfl rfl ?_
        refine w_p (pc1 := 37) (st1 := .int 2 :: _) rfl rfl ?_
        refine w_t (a := 53) (b := 40) rfl rfl rfl ?_
        refine w_p (pc1 := 54) (st1 := .int 0 :: _) rfl rfl ?_
        refine w_p (pc1 := 55) (al1 := [(3, .int 0), (2, .int (nI (i))), (0, .ref 176), (1, .int 1)]) rfl rfl ?_
        refine w_p (pc1 := 56) rfl rfl ?_
        refine w_t (a := 67) (b := 59) rfl rfl rfl ?_
        refine w_p (pc1 := 68) (st1 := .int (-1) :: _) rfl rfl ?_
        refine w_p (pc1 := 70) (al1 := [(4, .int (-1)), (3, .int 0), (2, .int (nI (i))), (0, .ref 176), (1, .int 1)]) rfl rfl ?_
        refine w_p (pc1 := 72) rfl rfl ?_
        refine w_p (pc1 := 73) (st1 := .int (-1) :: _) rfl rfl ?_
        refine w_t (a := 89) (b := 76) rfl rfl rfl ?_
        refine w_iinc (pc1 := 92) (u := nI (i)) (z := nI (i + 1)) (al1 := [(2, .int (nI (i + 1))), (4, .int (-1)), (3, .int 0), (0, .ref 176), (1, .int 1)]) rfl rfl rfl nK_1 rfl rfl ?_
        refine w_p (pc1 := 2) rfl rfl ?_
        refine Wd_al (al := [(2, .int (nI (i + 1))), (0, .ref 176), (1, .int 1)]) (sba_p [0, 3, 4] rfl rfl) ?_
        exact IH C hf
      | false =>
        rw [hwt] at hwi
        by_cases hfb : fbk u rs = -1
        · rw [er, lkR_f hG (Or.inr hfb)]
          rw [hfb] at hm2
          refine w_p (pc1 := 3) rfl rfl ?_
          refine w_p (pc1 := 5) (st1 := .int 24 :: _) rfl rfl ?_
          refine w_f (a := 95) (b := 8) (bN_ge_f (a := i) (b := 24) (by omega) (by omega) (by omega)) rfl rfl ?_
          refine w_p (pc1 := 9) rfl rfl ?_
          refine w_m0 (pc1 := 12) rfl rfl (h_gC rfl rfl rfl rfl) rfl ?_
          refine w_p (pc1 := 13) rfl rfl ?_
          refine w_m0 (pc1 := 14) (st1 := .int 1 :: _) rfl rfl (n_ble (e := i) rfl rfl (by decide) rfl (by omega) (t0)) rfl ?_
          refine w_f (a := 53) (b := 17) rfl rfl rfl ?_
          refine w_p (pc1 := 18) rfl rfl ?_
          refine w_f (a := 49) (b := 21) rfl rfl rfl ?_
          refine w_p (pc1 := 22) rfl rfl ?_
          refine w_p (pc1 := 23) (st1 := .int 1 :: _) rfl rfl ?_
          refine w_f (a := 35) (b := 26) rfl rfl rfl ?_
          refine w_p (pc1 := 27) rfl rfl ?_
          refine w_m0 (pc1 := 30) rfl rfl (h_gC rfl rfl rfl rfl) rfl ?_
          refine w_p (pc1 := 31) rfl rfl ?_
          refine w_m0 (pc1 := 32) (st1 := .int 0 :: _) rfl rfl (n_ble (e := i) rfl rfl (by decide) rfl (by omega) (hwi)) rfl ?_
          refine w_t (a := 49) (b := 35) rfl rfl rfl ?_
          refine w_p (pc1 := 50) (st1 := .int 1 :: _) rfl rfl ?_
          refine w_p (pc1 := 54) rfl rfl ?_
          refine w_p (pc1 := 55) (al1 := [(3, .int 1), (2, .int (nI (i))), (0, .ref 176), (1, .int 1)]) rfl rfl ?_
          refine w_p (pc1 := 56) rfl rfl ?_
          refine w_f (a := 67) (b := 59) rfl rfl rfl ?_
          refine w_p (pc1 := 60) rfl rfl ?_
          refine w_p (pc1 := 61) rfl rfl ?_
          refine w_ji (pc1 := 64) (vs := [.ref 176, .int (nI (i))]) (rest := []) (hm2) rfl rfl rfl (fun _ _ => rfl) rfl (by exact cl_v my_274 rfl rfl rfl (Nat.le_of_ble_eq_true rfl) rfl (MH_obj rfl rfl) rfl (by decide) rfl rfl) (by rfl) (Nat.le_of_ble_eq_true rfl) (Nat.le_of_ble_eq_true rfl) rfl (fun v h m hq => ?_) (fun _ _ _ e => e.elim)
          obtain ⟨rfl, ⟨C1, f1, rfl⟩, rfl⟩ := hq
          refine w_p (pc1 := 68) rfl rfl ?_
          refine w_p (pc1 := 70) (al1 := [(4, .int (-1)), (3, .int 1), (2, .int (nI (i))), (0, .ref 176), (1, .int 1)]) rfl rfl ?_
          refine w_p (pc1 := 72) rfl rfl ?_
          refine w_p (pc1 := 73) (st1 := .int (-1) :: _) rfl rfl ?_
          refine w_t (a := 89) (b := 76) rfl rfl rfl ?_
          refine w_iinc (pc1 := 92) (u := nI (i)) (z := nI (i + 1)) (al1 := [(2, .int (nI (i + 1))), (4, .int (-1)), (3, .int 1), (0, .ref 176), (1, .int 1)]) rfl rfl rfl nK_1 rfl rfl ?_
          refine w_p (pc1 := 2) rfl rfl ?_
          refine Wd_al (al := [(2, .int (nI (i + 1))), (0, .ref 176), (1, .int 1)]) (sba_p [0, 3, 4] rfl rfl) ?_
          exact IH C1 (frZ_t hf f1)
        · rw [er, lkR_t (p := (fun j => !wt j)) hG (by show (!wt i) = true; rw [hwt]; rfl) hfb]
          refine w_p (pc1 := 3) rfl rfl ?_
          refine w_p (pc1 := 5) (st1 := .int 24 :: _) rfl rfl ?_
          refine w_f (a := 95) (b := 8) (bN_ge_f (a := i) (b := 24) (by omega) (by omega) (by omega)) rfl rfl ?_
          refine w_p (pc1 := 9) rfl rfl ?_
          refine w_m0 (pc1 := 12) rfl rfl (h_gC rfl rfl rfl rfl) rfl ?_
          refine w_p (pc1 := 13) rfl rfl ?_
          refine w_m0 (pc1 := 14) (st1 := .int 1 :: _) rfl rfl (n_ble (e := i) rfl rfl (by decide) rfl (by omega) (t0)) rfl ?_
          refine w_f (a := 53) (b := 17) rfl rfl rfl ?_
          refine w_p (pc1 := 18) rfl rfl ?_
          refine w_f (a := 49) (b := 21) rfl rfl rfl ?_
          refine w_p (pc1 := 22) rfl rfl ?_
          refine w_p (pc1 := 23) (st1 := .int 1 :: _) rfl rfl ?_
          refine w_f (a := 35) (b := 26) rfl rfl rfl ?_
          refine w_p (pc1 := 27) rfl rfl ?_
          refine w_m0 (pc1 := 30) rfl rfl (h_gC rfl rfl rfl rfl) rfl ?_
          refine w_p (pc1 := 31) rfl rfl ?_
          refine w_m0 (pc1 := 32) (st1 := .int 0 :: _) rfl rfl (n_ble (e := i) rfl rfl (by decide) rfl (by omega) (hwi)) rfl ?_
          refine w_t (a := 49) (b := 35) rfl rfl rfl ?_
          refine w_p (pc1 := 50) (st1 := .int 1 :: _) rfl rfl ?_
          refine w_p (pc1 := 54) rfl rfl ?_
          refine w_p (pc1 := 55) (al1 := [(3, .int 1), (2, .int (nI (i))), (0, .ref 176), (1, .int 1)]) rfl rfl ?_
          refine w_p (pc1 := 56) rfl rfl ?_
          refine w_f (a := 67) (b := 59) rfl rfl rfl ?_
          refine w_p (pc1 := 60) rfl rfl ?_
          refine w_p (pc1 := 61) rfl rfl ?_
          refine w_ji (pc1 := 64) (vs := [.ref 176, .int (nI (i))]) (rest := []) (hm2) rfl rfl rfl (fun _ _ => rfl) rfl (by exact cl_v my_274 rfl rfl rfl (Nat.le_of_ble_eq_true rfl) rfl (MH_obj rfl rfl) rfl (by decide) rfl rfl) (by rfl) (Nat.le_of_ble_eq_true rfl) (Nat.le_of_ble_eq_true rfl) rfl (fun v h m hq => ?_) (fun _ _ _ e => e.elim)
          obtain ⟨rfl, ⟨C1, f1, rfl⟩, rfl⟩ := hq
          refine w_p (pc1 := 68) rfl rfl ?_
          refine w_p (pc1 := 70) (al1 := [(4, .int (fbk u rs)), (3, .int 1), (2, .int (nI (i))), (0, .ref 176), (1, .int 1)]) rfl rfl ?_
          refine w_p (pc1 := 72) rfl rfl ?_
          refine w_p (pc1 := 73) (st1 := .int (-1) :: _) rfl rfl ?_
          refine w_f (a := 89) (b := 76) (cb_eq_f (by exact hfb)) rfl rfl ?_
          refine w_p (pc1 := 77) rfl rfl ?_
          refine w_p (pc1 := 78) rfl rfl ?_
          refine w_m0 (pc1 := 81) rfl rfl (h_pI (j := 90) rfl rfl rfl rfl rfl rfl rfl ⟨rfl, rfl⟩ rfl) rfl ?_
          refine w_p (pc1 := 82) rfl rfl ?_
          refine w_p (pc1 := 84) rfl rfl ?_
          refine w_m0 (pc1 := 87) rfl rfl (h_pI (j := 91) rfl rfl rfl rfl rfl rfl rfl ⟨rfl, rfl⟩ rfl) rfl ?_
          refine w_p (pc1 := 88) (st1 := .int 1 :: _) rfl rfl ?_
          refine w_r rfl rfl rfl (fun _ _ => rfl) rfl ?_
          exact ⟨rfl, ⟨C1, frZ_t hf f1, rfl⟩, rfl⟩
set_option maxRecDepth 100000 in
theorem m_273_1 (W : RWM C (sWd S) rs) (K : MSt C S) (ho : okSt S) (hw : ∀ j, j < 24 → C.1 91 j = ck (wt j)) (hz : C.1 76 74 = ck z) : Wd L xs (d + 6) y_273 (0, [(0, .ref 176), (1, .int 1)], [], MH C t, sl) (LMP C t sl (lkR S rs (fun j => !wt j) (rng 0 24))) nX := by
  refine w_p (pc1 := 1) (st1 := .int 0 :: _) rfl rfl ?_
  refine w_p (pc1 := 2) (al1 := [(2, .int 0), (0, .ref 176), (1, .int 1)]) rfl rfl ?_
  exact lp_273_1 W K ho hw hz 24 0 C rfl frZ_r
set_option maxRecDepth 100000 in
theorem lp_273_2 (W : RWM C0 (sWd S) rs) (K : MSt C0 S) (ho : okSt S) (hw : ∀ j, j < 24 → C0.1 139 j = ck (nm j)) (hz : C0.1 76 74 = ck z) : ∀ (n i : Nat) (C : co_T), i + n = 24 → frZ C0 C → Wd L xs (d + 6) y_273 (2, [(2, .int (nI (i))), (0, .ref 176), (1, .int 2)], [], MH C t, sl) (LMP C0 t sl (lkR S rs nm (rng i n))) nX
  | 0, i, C, hi, hf => by
    obtain rfl : i = 24 := by omega
    refine w_p (pc1 := 3) rfl rfl ?_
    refine w_p (pc1 := 5) (st1 := .int 24 :: _) rfl rfl ?_
    refine w_t (a := 95) (b := 8) (bN_ge_t (a := 24) (b := 24) (by omega) (by omega) (by omega)) rfl rfl ?_
    refine w_p (pc1 := 96) (st1 := .int 0 :: _) rfl rfl ?_
    refine w_r rfl rfl rfl (fun _ _ => rfl) rfl ?_
    exact ⟨rfl, ⟨C, hf, rfl⟩, rfl⟩
  | n + 1, i, C, hi, hf => by
    have IH := fun C' h1 => lp_273_2 W K ho hw hz n (i + 1) C' (by omega) h1
    have K1 := MSt_Q (frQ_W (f := 0) hf.1) K
    have hRu := K1.2.1 i (by omega)
    have er : rng i (n + 1) = i :: rng (i + 1) n := rfl
    cases hG : sRu S i with
    | none =>
      rw [hG] at hRu
      have t0 : C.1 83 i = 0 := hRu
      rw [er, lkR_n hG]
      refine w_p (pc1 := 3) rfl rfl ?_
      refine w_p (pc1 := 5) (st1 := .int 24 :: _) rfl rfl ?_
      refine w_f (a := 95) (b := 8) (bN_ge_f (a := i) (b := 24) (by omega) (by omega) (by omega)) rfl rfl ?_
      refine w_p (pc1 := 9) rfl rfl ?_
      refine w_m0 (pc1 := 12) rfl rfl (h_gC rfl rfl rfl rfl) rfl ?_
      refine w_p (pc1 := 13) rfl rfl ?_
      refine w_m0 (pc1 := 14) (st1 := .int 0 :: _) rfl rfl (n_ble (e := i) rfl rfl (by decide) rfl (by omega) (t0)) rfl ?_
      refine w_t (a := 53) (b := 17) rfl rfl rfl ?_
      refine w_p (pc1 := 54) (st1 := .int 0 :: _) rfl rfl ?_
      refine w_p (pc1 := 55) (al1 := [(3, .int 0), (2, .int (nI (i))), (0, .ref 176), (1, .int 2)]) rfl rfl ?_
      refine w_p (pc1 := 56) rfl rfl ?_
      refine w_t (a := 67) (b := 59) rfl rfl rfl ?_
      refine w_p (pc1 := 68) (st1 := .int (-1) :: _) rfl rfl ?_
      refine w_p (pc1 := 70) (al1 := [(4, .int (-1)), (3, .int 0), (2, .int (nI (i))), (0, .ref 176), (1, .int 2)]) rfl rfl ?_
      refine w_p (pc1 := 72) rfl rfl ?_
      refine w_p (pc1 := 73) (st1 := .int (-1) :: _) rfl rfl ?_
      refine w_t (a := 89) (b := 76) rfl rfl rfl ?_
      refine w_iinc (pc1 := 92) (u := nI (i)) (z := nI (i + 1)) (al1 := [(2, .int (nI (i + 1))), (4, .int (-1)), (3, .int 0), (0, .ref 176), (1, .int 2)]) rfl rfl rfl nK_1 rfl rfl ?_
      refine w_p (pc1 := 2) rfl rfl ?_
      refine Wd_al (al := [(2, .int (nI (i + 1))), (0, .ref 176), (1, .int 2)]) (sba_p [0, 3, 4] rfl rfl) ?_
      exact IH C hf
    | some u =>
      rw [hG] at hRu
      obtain ⟨t0, U⟩ : C.1 83 i = 1 ∧ RUM C i u := hRu
      have hR := ho.2.1 i u (by omega) hG
      have hm2 := m_274 (L := L) (xs := xs) (t := t) (d := d) (sl := 0) (RWM_f hf.1 W) U (by omega) hR (hf.2.trans hz)
      have hwi : C.1 139 i = ck (nm i) := (hf.1.1 139 i (by omega)).trans (hw i (by omega))
      cases hwt : nm i with
      | false =>
        rw [hwt] at hwi
        rw [er, lkR_f (p := nm) hG (Or.inl hwt)]
        refine w_p (pc1 := 3) rfl rfl ?_
        refine w_p (pc1 := 5) (st1 := .int 24 :: _) rfl rfl ?_
        refine w_f (a := 95) (b := 8) (bN_ge_f (a := i) (b := 24) (by omega) (by omega) (by omega)) rfl rfl ?_
        refine w_p (pc1 := 9) rfl rfl ?_
        refine w_m0 (pc1 := 12) rfl rfl (h_gC rfl rfl rfl rfl) rfl ?_
        refine w_p (pc1 := 13) rfl rfl ?_
        refine w_m0 (pc1 := 14) (st1 := .int 1 :: _) rfl rfl (n_ble (e := i) rfl rfl (by decide) rfl (by omega) (t0)) rfl ?_
        refine w_f (a := 53) (b := 17) rfl rfl rfl ?_
        refine w_p (pc1 := 18) rfl rfl ?_
        refine w_f (a := 49) (b := 21) rfl rfl rfl ?_
        refine w_p (pc1 := 22) rfl rfl ?_
        refine w_p (pc1 := 23) (st1 := .int 1 :: _) rfl rfl ?_
        refine w_t (a := 35) (b := 26) rfl rfl rfl ?_
        refine w_p (pc1 := 36) rfl rfl ?_
        refine w_p (pc1 := 37) (st1 := .int 2 :: _) rfl rfl ?_
        refine w_f (a := 53) (b := 40) rfl rfl rfl ?_
        refine w_p (pc1 := 41) rfl rfl ?_
        refine w_m0 (pc1 := 44) rfl rfl (h_gC rfl rfl rfl rfl) rfl ?_
        refine w_p (pc1 := 45) rfl rfl ?_
        refine w_m0 (pc1 := 46) (st1 := .int 0 :: _) rfl rfl (n_ble (e := i) rfl rfl (by decide) rfl (by omega) (hwi)) rfl ?_
        refine w_t (a := 53) (b := 49) rfl rfl rfl ?_
        refine w_p (pc1 := 54) (st1 := .int 0 :: _) rfl rfl ?_
        refine w_p (pc1 := 55) (al1 := [(3, .int 0), (2, .int (nI (i))), (0, .ref 176), (1, .int 2)]) rfl rfl ?_
        refine w_p (pc1 := 56) rfl rfl ?_
        refine w_t (a := 67) (b := 59) rfl rfl rfl ?_
        refine w_p (pc1 := 68) (st1 := .int (-1) :: _) rfl rfl ?_
        refine w_p (pc1 := 70) (al1 := [(4, .int (-1)), (3, .int 0), (2, .int (nI (i))), (0, .ref 176), (1, .int 2)]) rfl rfl ?_
        refine w_p (pc1 := 72) rfl rfl ?_
        refine w_p (pc1 := 73) (st1 := .int (-1) :: _) rfl rfl ?_
        refine w_t (a := 89) (b := 76) rfl rfl rfl ?_
        refine w_iinc (pc1 := 92) (u := nI (i)) (z := nI (i + 1)) (al1 := [(2, .int (nI (i + 1))), (4, .int (-1)), (3, .int 0), (0, .ref 176), (1, .int 2)]) rfl rfl rfl nK_1 rfl rfl ?_
        refine w_p (pc1 := 2) rfl rfl ?_
        refine Wd_al (al := [(2, .int (nI (i + 1))), (0, .ref 176), (1, .int 2)]) (sba_p [0, 3, 4] rfl rfl) ?_
        exact IH C hf
      | true =>
        rw [hwt] at hwi
        by_cases hfb : fbk u rs = -1
        · rw [er, lkR_f hG (Or.inr hfb)]
          rw [hfb] at hm2
          refine w_p (pc1 := 3) rfl rfl ?_
          refine w_p (pc1 := 5) (st1 := .int 24 :: _) rfl rfl ?_
          refine w_f (a := 95) (b := 8) (bN_ge_f (a := i) (b := 24) (by omega) (by omega) (by omega)) rfl rfl ?_
          refine w_p (pc1 := 9) rfl rfl ?_
          refine w_m0 (pc1 := 12) rfl rfl (h_gC rfl rfl rfl rfl) rfl ?_
          refine w_p (pc1 := 13) rfl rfl ?_
          refine w_m0 (pc1 := 14) (st1 := .int 1 :: _) rfl rfl (n_ble (e := i) rfl rfl (by decide) rfl (by omega) (t0)) rfl ?_
          refine w_f (a := 53) (b := 17) rfl rfl rfl ?_
          refine w_p (pc1 := 18) rfl rfl ?_
          refine w_f (a := 49) (b := 21) rfl rfl rfl ?_
          refine w_p (pc1 := 22) rfl rfl ?_
          refine w_p (pc1 := 23) (st1 := .int 1 :: _) rfl rfl ?_
          refine w_t (a := 35) (b := 26) rfl rfl rfl ?_
          refine w_p (pc1 := 36) rfl rfl ?_
          refine w_p (pc1 := 37) (st1 := .int 2 :: _) rfl rfl ?_
          refine w_f (a := 53) (b := 40) rfl rfl rfl ?_
          refine w_p (pc1 := 41) rfl rfl ?_
          refine w_m0 (pc1 := 44) rfl rfl (h_gC rfl rfl rfl rfl) rfl ?_
          refine w_p (pc1 := 45) rfl rfl ?_
          refine w_m0 (pc1 := 46) (st1 := .int 1 :: _) rfl rfl (n_ble (e := i) rfl rfl (by decide) rfl (by omega) (hwi)) rfl ?_
          refine w_f (a := 53) (b := 49) rfl rfl rfl ?_
          refine w_p (pc1 := 50) (st1 := .int 1 :: _) rfl rfl ?_
          refine w_p (pc1 := 54) rfl rfl ?_
          refine w_p (pc1 := 55) (al1 := [(3, .int 1), (2, .int (nI (i))), (0, .ref 176), (1, .int 2)]) rfl rfl ?_
          refine w_p (pc1 := 56) rfl rfl ?_
          refine w_f (a := 67) (b := 59) rfl rfl rfl ?_
          refine w_p (pc1 := 60) rfl rfl ?_
          refine w_p (pc1 := 61) rfl rfl ?_
          refine w_ji (pc1 := 64) (vs := [.ref 176, .int (nI (i))]) (rest := []) (hm2) rfl rfl rfl (fun _ _ => rfl) rfl (by exact cl_v my_274 rfl rfl rfl (Nat.le_of_ble_eq_true rfl) rfl (MH_obj rfl rfl) rfl (by decide) rfl rfl) (by rfl) (Nat.le_of_ble_eq_true rfl) (Nat.le_of_ble_eq_true rfl) rfl (fun v h m hq => ?_) (fun _ _ _ e => e.elim)
          obtain ⟨rfl, ⟨C1, f1, rfl⟩, rfl⟩ := hq
          refine w_p (pc1 := 68) rfl rfl ?_
          refine w_p (pc1 := 70) (al1 := [(4, .int (-1)), (3, .int 1), (2, .int (nI (i))), (0, .ref 176), (1, .int 2)]) rfl rfl ?_
          refine w_p (pc1 := 72) rfl rfl ?_
          refine w_p (pc1 := 73) (st1 := .int (-1) :: _) rfl rfl ?_
          refine w_t (a := 89) (b := 76) rfl rfl rfl ?_
          refine w_iinc (pc1 := 92) (u := nI (i)) (z := nI (i + 1)) (al1 := [(2, .int (nI (i + 1))), (4, .int (-1)), (3, .int 1), (0, .ref 176), (1, .int 2)]) rfl rfl rfl nK_1 rfl rfl ?_
          refine w_p (pc1 := 2) rfl rfl ?_
          refine Wd_al (al := [(2, .int (nI (i + 1))), (0, .ref 176), (1, .int 2)]) (sba_p [0, 3, 4] rfl rfl) ?_
          exact IH C1 (frZ_t hf f1)
        · rw [er, lkR_t (p := nm) hG hwt hfb]
          refine w_p (pc1 := 3) rfl rfl ?_
          refine w_p (pc1 := 5) (st1 := .int 24 :: _) rfl rfl ?_
          refine w_f (a := 95) (b := 8) (bN_ge_f (a := i) (b := 24) (by omega) (by omega) (by omega)) rfl rfl ?_
          refine w_p (pc1 := 9) rfl rfl ?_
          refine w_m0 (pc1 := 12) rfl rfl (h_gC rfl rfl rfl rfl) rfl ?_
          refine w_p (pc1 := 13) rfl rfl ?_
          refine w_m0 (pc1 := 14) (st1 := .int 1 :: _) rfl rfl (n_ble (e := i) rfl rfl (by decide) rfl (by omega) (t0)) rfl ?_
          refine w_f (a := 53) (b := 17) rfl rfl rfl ?_
          refine w_p (pc1 := 18) rfl rfl ?_
          refine w_f (a := 49) (b := 21) rfl rfl rfl ?_
          refine w_p (pc1 := 22) rfl rfl ?_
          refine w_p (pc1 := 23) (st1 := .int 1 :: _) rfl rfl ?_
          refine w_t (a := 35) (b := 26) rfl rfl rfl ?_
          refine w_p (pc1 := 36) rfl rfl ?_
          refine w_p (pc1 := 37) (st1 := .int 2 :: _) rfl rfl ?_
          refine w_f (a := 53) (b := 40) rfl rfl rfl ?_
          refine w_p (pc1 := 41) rfl rfl ?_
          refine w_m0 (pc1 := 44) rfl rfl (h_gC rfl rfl rfl rfl) rfl ?_
          refine w_p (pc1 := 45) rfl rfl ?_
          refine w_m0 (pc1 := 46) (st1 := .int 1 :: _) rfl rfl (n_ble (e := i) rfl rfl (by decide) rfl (by omega) (hwi)) rfl ?_
          refine w_f (a := 53) (b := 49) rfl rfl rfl ?_
          refine w_p (pc1 := 50) (st1 := .int 1 :: _) rfl rfl ?_
          refine w_p (pc1 := 54) rfl rfl ?_
          refine w_p (pc1 := 55) (al1 := [(3, .int 1), (2, .int (nI (i))), (0, .ref 176), (1, .int 2)]) rfl rfl ?_
          refine w_p (pc1 := 56) rfl rfl ?_
          refine w_f (a := 67) (b := 59) rfl rfl rfl ?_
          refine w_p (pc1 := 60) rfl rfl ?_
          refine w_p (pc1 := 61) rfl rfl ?_
          refine w_ji (pc1 := 64) (vs := [.ref 176, .int (nI (i))]) (rest := []) (hm2) rfl rfl rfl (fun _ _ => rfl) rfl (by exact cl_v my_274 rfl rfl rfl (Nat.le_of_ble_eq_true rfl) rfl (MH_obj rfl rfl) rfl (by decide) rfl rfl) (by rfl) (Nat.le_of_ble_eq_true rfl) (Nat.le_of_ble_eq_true rfl) rfl (fun v h m hq => ?_) (fun _ _ _ e => e.elim)
          obtain ⟨rfl, ⟨C1, f1, rfl⟩, rfl⟩ := hq
          refine w_p (pc1 := 68) rfl rfl ?_
          refine w_p (pc1 := 70) (al1 := [(4, .int (fbk u rs)), (3, .int 1), (2, .int (nI (i))), (0, .ref 176), (1, .int 2)]) rfl rfl ?_
          refine w_p (pc1 := 72) rfl rfl ?_
          refine w_p (pc1 := 73) (st1 := .int (-1) :: _) rfl rfl ?_
          refine w_f (a := 89) (b := 76) (cb_eq_f (by exact hfb)) rfl rfl ?_
          refine w_p (pc1 := 77) rfl rfl ?_
          refine w_p (pc1 := 78) rfl rfl ?_
          refine w_m0 (pc1 := 81) rfl rfl (h_pI (j := 90) rfl rfl rfl rfl rfl rfl rfl ⟨rfl, rfl⟩ rfl) rfl ?_
          refine w_p (pc1 := 82) rfl rfl ?_
          refine w_p (pc1 := 84) rfl rfl ?_
          refine w_m0 (pc1 := 87) rfl rfl (h_pI (j := 91) rfl rfl rfl rfl rfl rfl rfl ⟨rfl, rfl⟩ rfl) rfl ?_
          refine w_p (pc1 := 88) (st1 := .int 1 :: _) rfl rfl ?_
          refine w_r rfl rfl rfl (fun _ _ => rfl) rfl ?_
          exact ⟨rfl, ⟨C1, frZ_t hf f1, rfl⟩, rfl⟩
set_option maxRecDepth 100000 in
theorem m_273_2 (W : RWM C (sWd S) rs) (K : MSt C S) (ho : okSt S) (hw : ∀ j, j < 24 → C.1 139 j = ck (nm j)) (hz : C.1 76 74 = ck z) : Wd L xs (d + 6) y_273 (0, [(0, .ref 176), (1, .int 2)], [], MH C t, sl) (LMP C t sl (lkR S rs nm (rng 0 24))) nX := by
  refine w_p (pc1 := 1) (st1 := .int 0 :: _) rfl rfl ?_
  refine w_p (pc1 := 2) (al1 := [(2, .int 0), (0, .ref 176), (1, .int 2)]) rfl rfl ?_
  exact lp_273_2 W K ho hw hz 24 0 C rfl frZ_r
end LKA
