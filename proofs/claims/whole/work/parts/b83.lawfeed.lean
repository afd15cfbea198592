
/-! THE LAW: feed, run -/
section LWF
variable {L : Nat} {xs : Nat → Int32} {B B' : Nat → Nat} {n n' m d sl i b l : Nat} {C C' : co_T} {t : ab_H} {Ks : List Nat} {W : wo_T} {an : Nat → Int32} {P : Option Value → ab_H → Nat → Prop} {X : Nat → ab_H → Nat → Prop} {x : Int32} {a v : Int64}
/-! a byte, as either side keeps it -/
set_option maxRecDepth 100000 in
theorem by_M (y : Int64) : (y &&& 255).toInt32 = nI (y.toBitVec.toNat % 256) := by
  apply Int32.toInt_inj.mp
  rw [nK_int (by omega), Int64.toInt_toInt32]
  have e : (y &&& 255).toInt = ((y.toBitVec.toNat % 256 : Nat) : Int) := by
    show (y &&& 255).toBitVec.toInt = _
    have h1 : (y &&& 255).toBitVec.toNat = y.toBitVec.toNat % 256 := by
      rw [Int64.toBitVec_and, BitVec.toNat_and]
      exact Nat.and_two_pow_sub_one_eq_mod _ 8
    rw [BitVec.toInt_eq_toNat_of_lt (by rw [h1]; omega), h1]
  rw [e]
  exact Int.bmod_eq_of_le (by omega) (by omega)
set_option maxRecDepth 100000 in
theorem by_K (y : Int64) : vp_nar (ab_ty 2) (y.toInt32.toInt8.toInt32) = sb (y.toBitVec.toNat % 256) := by
  have e0 : ab_ty 2 = .byte := rfl
  rw [e0, vp_nar_byte]
  apply Int32.toInt_inj.mp
  rw [sb_int (by omega), Int8.toInt_toInt32, Int32.toInt_toInt8, Int8.toInt_toInt32, Int32.toInt_toInt8, Int64.toInt_toInt32, Int.bmod_bmod, Int.bmod_bmod_of_dvd (by decide)]
  have h : y.toInt = if 2 * y.toBitVec.toNat < 2 ^ 64 then (y.toBitVec.toNat : Int) else (y.toBitVec.toNat : Int) - ((2 ^ 64 : Nat) : Int) := BitVec.toInt_eq_toNat_cond _
  rw [Int.bmod_def]
  split at h <;> split <;> split <;> omega
def byN (b : Int64) (m : Nat) : Nat := (b >>> ((8 * nI m).toInt64 &&& 63)).toBitVec.toNat % 256
set_option maxRecDepth 100000 in
theorem byN_M {b : Int64} : byM b m = nI (byN b m) := by_M _
set_option maxRecDepth 100000 in
theorem byN_K {b : Int64} : byK b m = sb (byN b m) := by_K _
def apB (b : Int64) : Nat → Nat → (Nat → Nat) → Nat → Nat
  | 0, _, B => B
  | m + 1, l, B => apB b m (l + 1) (fun q => if q = l then byN b m else B q)
set_option maxRecDepth 100000 in
theorem tpK_1 {b : Int64} (h : l + 1 ≤ 600) (T : tpK C B l) : tpK (sI (sI C 2 (C.1 1 4).toNatClampNeg (byK b m)) 1 4 (C.1 1 4 + 1)) (fun q => if q = l then byN b m else B q) (l + 1) := by
  refine ⟨by rw [sI_1, if_pos ⟨rfl, rfl⟩, T.1, nK_1], h, fun i hi => ?_⟩
  rw [sI_1, if_neg (by omega), sI_1, T.1, nK_nat (by omega)]
  by_cases e : i = l
  · have e2 : (fun q => if q = l then byN b m else B q) i = byN b m := if_pos e
    rw [if_pos ⟨rfl, e⟩, e2]
    exact ⟨Nat.mod_lt _ (by omega), byN_K⟩
  · have e2 : (fun q => if q = l then byN b m else B q) i = B i := if_neg e
    rw [if_neg (fun z => e z.2), e2]
    exact T.2.2 i (by omega)
set_option maxRecDepth 100000 in
theorem tpM_1 {b : Int64} (h : l + 1 ≤ 600) (T : tpM C B l) : tpM (sI (sI C 77 (C.1 76 2).toNatClampNeg (byM b m)) 76 2 (C.1 76 2 + 1)) (fun q => if q = l then byN b m else B q) (l + 1) := by
  refine ⟨by rw [sI_1, if_pos ⟨rfl, rfl⟩, T.1, nK_1], h, fun i hi => ?_⟩
  rw [sI_1, if_neg (by omega), sI_1, T.1, nK_nat (by omega)]
  by_cases e : i = l
  · have e2 : (fun q => if q = l then byN b m else B q) i = byN b m := if_pos e
    rw [if_pos ⟨rfl, e⟩, e2]
    exact ⟨Nat.mod_lt _ (by omega), byN_M⟩
  · have e2 : (fun q => if q = l then byN b m else B q) i = B i := if_neg e
    rw [if_neg (fun z => e z.2), e2]
    exact T.2.2 i (by omega)
set_option maxRecDepth 100000 in
theorem tpK_a {b : Int64} : ∀ (m l : Nat) (C : co_T) (B : Nat → Nat), l + m ≤ 600 → tpK C B l → tpK (apK C b m) (apB b m l B) (l + m)
  | 0, _, _, _, _, T => T
  | m + 1, l, C, B, h, T => by
    have : tpK (apK _ b m) (apB b m (l + 1) _) (l + 1 + m) := tpK_a m (l + 1) _ _ (by omega) (tpK_1 (b := b) (m := m) (by omega) T)
    rw [show l + (m + 1) = l + 1 + m from by omega]
    exact this
set_option maxRecDepth 100000 in
theorem tpM_a {b : Int64} : ∀ (m l : Nat) (C : co_T) (B : Nat → Nat), l + m ≤ 600 → tpM C B l → tpM (apM C b m) (apB b m l B) (l + m)
  | 0, _, _, _, _, T => T
  | m + 1, l, C, B, h, T => by
    have : tpM (apM _ b m) (apB b m (l + 1) _) (l + 1 + m) := tpM_a m (l + 1) _ _ (by omega) (tpM_1 (b := b) (m := m) (by omega) T)
    rw [show l + (m + 1) = l + 1 + m from by omega]
    exact this
set_option maxRecDepth 100000 in
theorem apK_R {R : co_T → Prop} {b : Int64} (h1 : ∀ C e v, R C → R (sI C 2 e v)) (h2 : ∀ C v, R C → R (sI C 1 4 v)) : ∀ (m : Nat) (C : co_T), R C → R (apK C b m)
  | 0, _, h => h
  | m + 1, C, h => apK_R h1 h2 m _ (h2 _ _ (h1 _ _ _ h))
set_option maxRecDepth 100000 in
theorem apM_R {R : co_T → Prop} {b : Int64} (h1 : ∀ C e v, R C → R (sI C 77 e v)) (h2 : ∀ C v, R C → R (sI C 76 2 v)) : ∀ (m : Nat) (C : co_T), R C → R (apM C b m)
  | 0, _, h => h
  | m + 1, C, h => apM_R h1 h2 m _ (h2 _ _ (h1 _ _ _ h))
set_option maxRecDepth 100000 in
theorem la_0 (hi : i + 4 ≤ L) (hL : L < 2147483648) (H : LI C t Ks W B n an) (kk : LC L xs (d + 66) i P X t n sl) : Wd L xs (d + 66) y_296 (96, al4 i, [], MH C t, sl) P X := by
  have n6 := H.2.2.2.1.1.2.1
  by_cases hx : 1 ≤ (xs (i + 3)).toInt ∧ (xs (i + 3)).toInt ≤ 8
  · rcases i_sp 9 (by omega) (xs (i + 3)) with h | ⟨m, h9, hm⟩
    · omega
    · have h1 : 1 ≤ m := by
        have := hx.1
        rw [hm, nK_int (by omega)] at this
        omega
      by_cases h6 : n + m ≤ 600
      · refine lw_0 (d := d + 65) (Pk := fun a => Rt (some (.int 0)) (MH (sJ (apK C a m) 140 0 (nI (n + m)).toInt64) t) 0) hi hL (fun a => ?_) (fun a v h q hq => ?_)
        · rw [hm]
          exact m_162i (d := d + 63) (sl := 0) H.2.2.2.1.1.1 h1 (by omega) h6
        · obtain ⟨rfl, rfl, rfl⟩ := hq
          have K2 : KI (apK C a m) t Ks W := apK_R (R := fun C => KI C t Ks W) (fun C e v h => h) (fun C v h => h) m C H.1
          have M2 : MI (apK C a m) W := apK_R (R := fun C => MI C W) (fun C e v h => h) (fun C v h => h) m C H.2.1
          have T2 : tpM (apK C a m) B n := apK_R (R := fun C => tpM C B n) (fun C e v h => h) (fun C v h => h) m C H.2.2.2.1.2
          have A2 : ∀ x, x < 8 → (apK C a m).1 75 x = an x := apK_R (R := fun C => ∀ x, x < 8 → C.1 75 x = an x) (fun C e v h => h) (fun C v h => h) m C H.2.2.2.2.1
          have D2 : ∀ x, x < 8 → tld (apK C a m) (nI x) = an x := apK_R (R := fun C => ∀ x, x < 8 → tld C (nI x) = an x) (fun C e v h => h) (fun C v h => h) m C H.2.2.2.2.2
          have S2 : tpK (apK C a m) (apB a m n B) (n + m) := tpK_a m n C B h6 H.2.2.2.1.1
          refine ⟨0, _, t, rfl, rfl, by omega, Rt (some (.int (nI (n + m)))) (MH (apM (sI (sJ (apK C a m) 140 0 (nI (n + m)).toInt64) 76 0 0) a m) t) 0, ?_, fun v2 h2 q2 hq2 => ?_⟩
          · rw [hm]
            exact m_188i (d := d + 64) (sl := 0) T2.1 h1 (by omega) h6
          · obtain ⟨rfl, rfl, rfl⟩ := hq2
            refine ⟨nI (n + m), _, t, rfl, rfl, by rw [apM_0]; rfl, fun _ => by rw [apM_2]; rfl, kk _ t Ks W (apB a m n B) (n + m) an _ ⟨?_, ?_, H.2.2.1, ⟨?_, ?_⟩, ?_, ?_⟩ (by omega) (by omega)⟩
            · exact apM_R (R := fun C => KI C t Ks W) (fun C e v h => h) (fun C v h => h) m (sI (sJ (apK C a m) 140 0 (nI (n + m)).toInt64) 76 0 0) K2
            · exact apM_R (R := fun C => MI C W) (fun C e v h => h) (fun C v h => h) m (sI (sJ (apK C a m) 140 0 (nI (n + m)).toInt64) 76 0 0) M2
            · exact apM_R (R := fun C => tpK C (apB a m n B) (n + m)) (fun C e v h => h) (fun C v h => h) m (sI (sJ (apK C a m) 140 0 (nI (n + m)).toInt64) 76 0 0) S2
            · exact tpM_a m n _ B h6 T2
            · exact apM_R (R := fun C => ∀ x, x < 8 → C.1 75 x = an x) (fun C e v h => h) (fun C v h => h) m (sI (sJ (apK C a m) 140 0 (nI (n + m)).toInt64) 76 0 0) A2
            · exact apM_R (R := fun C => ∀ x, x < 8 → tld C (nI x) = an x) (fun C e v h => h) (fun C v h => h) m (sI (sJ (apK C a m) 140 0 (nI (n + m)).toInt64) 76 0 0) D2
      · refine lw_0 (d := d + 65) (Pk := fun a => Rt (some (.int 2)) (MH C (t ++ [.inr (12, [])])) 6) hi hL (fun a => ?_) (fun a v h q hq => ?_)
        · rw [hm]
          exact m_162s (d := d + 58) (sl := 0) H.2.2.2.1.1.1 n6 h1 (by omega) h6
        · obtain ⟨rfl, rfl, rfl⟩ := hq
          refine ⟨2, C, _, rfl, rfl, by omega, Rt (some (.int 0)) (MH (sI C 76 0 2) (t ++ [.inr (12, [])])) 0, ?_, fun v2 h2 q2 hq2 => ?_⟩
          · rw [hm]
            exact m_188s (d := d + 64) (sl := 0) H.2.2.2.1.2.1 n6 h1 (by omega) h6
          · obtain ⟨rfl, rfl, rfl⟩ := hq2
            exact ⟨0, _, _, rfl, rfl, rfl, fun z => by omega, kk _ _ Ks W B n an _ (LI_0 (LI_a H)) (by rw [List.length_append]; show t.length + 1 + _ ≤ _; omega) (by omega)⟩
  · refine lw_0 (d := d + 65) (Pk := fun a => Rt (some (.int 1)) (MH C (t ++ [.inr (13, [])])) 6) hi hL (fun a => ?_) (fun a v h q hq => ?_)
    · exact m_162a (d := d + 58) (sl := 0) hx
    · obtain ⟨rfl, rfl, rfl⟩ := hq
      refine ⟨1, C, _, rfl, rfl, by omega, Rt (some (.int 0)) (MH (sI C 76 0 1) (t ++ [.inr (13, [])])) 0, ?_, fun v2 h2 q2 hq2 => ?_⟩
      · exact m_188a (d := d + 64) (sl := 0) hx
      · obtain ⟨rfl, rfl, rfl⟩ := hq2
        exact ⟨0, _, _, rfl, rfl, rfl, fun z => by omega, kk _ _ Ks W B n an _ (LI_0 (LI_a H)) (by rw [List.length_append]; show t.length + 1 + _ ≤ _; omega) (by omega)⟩
/-! one side's cells from here, the other's from there -/
def mxM (C C' : co_T) : co_T := (fun k j => if 76 ≤ k then C.1 k j else C'.1 k j, fun k j => if 76 ≤ k then C.2.1 k j else C'.2.1 k j, fun k j => if 76 ≤ k then C.2.2 k j else C'.2.2 k j)
def mxK (C C' : co_T) : co_T := (fun k j => if k < 76 then C.1 k j else C'.1 k j, fun k j => if k < 76 then C.2.1 k j else C'.2.1 k j, fun k j => if k < 76 then C.2.2 k j else C'.2.2 k j)
set_option maxRecDepth 100000 in
theorem mxM_e (h : loE C C') : mxM C C' = C' := by
  have e1 : ∀ k j, (mxM C C').1 k j = C'.1 k j ∧ (mxM C C').2.1 k j = C'.2.1 k j ∧ (mxM C C').2.2 k j = C'.2.2 k j := fun k j => by
    unfold mxM
    by_cases hk : 76 ≤ k
    · simp only [if_pos hk]
      exact ⟨(h k j hk).1.symm, (h k j hk).2.1.symm, (h k j hk).2.2.symm⟩
    · simp only [if_neg hk]
      exact ⟨trivial, trivial, trivial⟩
  exact Prod.ext (funext fun k => funext fun j => (e1 k j).1) (Prod.ext (funext fun k => funext fun j => (e1 k j).2.1) (funext fun k => funext fun j => (e1 k j).2.2))
set_option maxRecDepth 100000 in
theorem mxK_e (h : upE C C') : mxK C C' = C' := by
  have e1 : ∀ k j, (mxK C C').1 k j = C'.1 k j ∧ (mxK C C').2.1 k j = C'.2.1 k j ∧ (mxK C C').2.2 k j = C'.2.2 k j := fun k j => by
    unfold mxK
    by_cases hk : k < 76
    · simp only [if_pos hk]
      exact ⟨(h k j (Or.inl hk)).1.symm, (h k j (Or.inl hk)).2.1.symm, (h k j (Or.inl hk)).2.2.symm⟩
    · simp only [if_neg hk]
      exact ⟨trivial, trivial, trivial⟩
  exact Prod.ext (funext fun k => funext fun j => (e1 k j).1) (Prod.ext (funext fun k => funext fun j => (e1 k j).2.1) (funext fun k => funext fun j => (e1 k j).2.2))
set_option maxRecDepth 100000 in
theorem MI_lo (h : loE C C') (H : MI C W) : MI C' W := by
  have h1 : MI (mxM C C') W := H
  rwa [mxM_e h] at h1
set_option maxRecDepth 100000 in
theorem tpM_lo (h : loE C C') (H : tpM C B n) : tpM C' B n := ⟨(h 76 2 (by omega)).1.trans H.1, H.2.1, fun i hi => ⟨(H.2.2 i hi).1, (h 77 i (by omega)).1.trans (H.2.2 i hi).2⟩⟩
set_option maxRecDepth 100000 in
theorem KI_up (h : upE C C') (H : KI C t Ks W) : KI C' t Ks W := by
  have h1 : KI (mxK C C') t Ks W := H
  rwa [mxK_e h] at h1
set_option maxRecDepth 100000 in
theorem fnW_8 {α : Type} {r : pz_T (α × Nat × Option Nat)} {f : α → xr_T} (h : ∀ a, (f a).1 < 8) : (fnW W B n r f).1 < 8 := by
  unfold fnW
  cases r with
  | inl e => show 1 < 8; omega
  | inr x =>
    by_cases e : kd B n x.2.1 = 2
    · simp only [if_pos e]; exact h _
    · simp only [if_neg e]; show 1 < 8; omega
set_option maxRecDepth 100000 in
theorem xTab_8 {T : tb_S} : (xTab W T).1 < 8 := by unfold xTab; cases xIn (wX W) <;> (first | exact no8 | exact ok8)
set_option maxRecDepth 100000 in
theorem runX_8 : (runX W B n).1 < 8 := by
  unfold runX
  repeat' split
  · exact fnW_8 (fun a => xTab_8)
  · exact fnW_8 (fun a => xTrg_8)
  · exact fnW_8 (fun a => xDrp_8)
  · exact fnW_8 (fun a => xChg_8)
  · exact fnW_8 (fun a => xBeg_8)
  · exact fnW_8 (fun a => xCom_8)
  · exact fnW_8 (fun a => xBck_8)
  · exact fnW_8 (fun a => xMrk_8)
  · exact fnW_8 (fun a => xLat_8)
  · exact fnW_8 (fun a => xNow_8)
  · show 1 < 8; omega
set_option maxRecDepth 100000 in
theorem la_1 (H : LI C t Ks W B n an) (kk : LC L xs (d + 66) i P X t n sl) : Wd L xs (d + 66) y_296 (196, al4 i, [], MH C t, sl) P X := by
  obtain ⟨m, hm⟩ := lst_ex (B := B) (n := n)
  have hmn := lst_le hm
  have n6 := H.2.2.2.1.1.2.1
  refine lw_1 (d := d + 65) (runK (d := d) (sl := 0) H.2.2.1 H.1 H.2.2.2.1.1 hm) (fun v h q hq => ?_)
  obtain ⟨rfl, ⟨C1, t1, Ks1, ⟨K1, z1, a1, l1, lo⟩, rfl⟩, hq⟩ := hq
  refine ⟨(runX W B n).1, C1, t1, rfl, rfl, runX_8, _, runM (d := d + 45) (sl := 0) H.2.2.1 (MI_lo lo H.2.1) (tpM_lo lo H.2.2.2.1.2) hm, fun v2 h2 q2 hq2 => ?_⟩
  obtain ⟨rfl, ⟨C2, ⟨M2, z2, a2, up⟩, rfl⟩, rfl⟩ := hq2
  refine ⟨C2, t1, rfl, rfl, kk C2 t1 Ks1 (runX W B n).2.2 B 0 (ans (runX W B n).1 (runX W B n).2.1 (dfW W (runX W B n).2.2)) _ ⟨KI_up up K1, M2, runX_al hm (by omega) H.2.2.1, ⟨⟨?_, by omega, fun i hi => by omega⟩, z2, by omega, fun i hi => by omega⟩, fun x hx => ?_, a2⟩ (by omega) (by omega)⟩
  · rw [(up 1 4 (by omega)).1, z1]; rfl
  · rw [(up 75 x (by omega)).1, a1 x hx]
end LWF
