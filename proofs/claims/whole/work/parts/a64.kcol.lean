
/-! ONE SIDE: a table is read, 7: a new column -/
def addC (T : tb_S) (b : Nat) (v : Int64) : tb_S := ((T.1.1, (fun q => if q = b then T.1.2.1 b + 1 else T.1.2.1 q), fun q c => if q = b ∧ c = T.1.2.1 b then v else T.1.2.2 q c), (fun q c => if q = b ∧ c = T.1.2.1 b then none else T.2.1 q c), T.2.2)
def setD (T : tb_S) (b c : Nat) (x : Option Int32) : tb_S := (T.1, (fun q k => if q = b ∧ k = c then x else T.2.1 q k), T.2.2)
def rNnl (K : tv2) (T : tb_S) (b c i : Nat) (nl : Option Nat) : pz_T (tb_S × Nat × Option Nat) := if K.1 i = 23 then (if ruN T.2.2 = -1 then .inl (6, i) else .inr (addR T (0, b, [c], none, [], false, 0, 0, none), i + 1, nl)) else .inr (T, i, nl)
def rDft (K : tv2) (T : tb_S) (b c i : Nat) (nl : Option Nat) : pz_T (tb_S × Nat × Option Nat) := if K.1 i = 14 then pb (rInt K (i + 1)) (fun x => rNnl K (setD T b c (some x.1.toInt32)) b c x.2 nl) else rNnl K T b c i nl
def rNwc (K : tv2) (T : tb_S) (b i : Nat) (nl : Option Nat) : pz_T (tb_S × Nat × Option Nat) := if clF T.1 b (K.2 i) = -1 then (if 6 ≤ T.1.2.1 b then .inl (6, i) else rDft K (addC T b (K.2 i)) b (T.1.2.1 b) (i + 1) nl) else .inl (3, i)
section TCO
variable {L : Nat} {xs : Nat → Int32} {B : Nat → Nat} {n m : Nat} {C C' C0 C1 : co_T} {t t0 t1 : ab_H} {d sl sl0 sl1 i i0 i1 j b e ti k k0 kc ks w c : Nat} {sc : sc_T} {row : Option Nat} {tg : Option (Nat × Nat)} {nl : Option Nat} {kd0 tb0 : Int32} {P : Option Value → ab_H → Nat → Prop} {X : Nat → ab_H → Nat → Prop} {cs : List Nat} {ss : List (Option (List op_T))} {E : fe_T} {tr : Nat → Option tr_T} {ru : Nat → Option ru_T} {T : tb_S}
set_option maxRecDepth 100000 in
theorem num_nat (h : kd B n i = 4) : ∃ N : Nat, (vl B n i).toInt = N ∧ N < 1000000000 := by
  have hlt : tkA B n i < n := kd_end (by rw [h]; decide)
  have hz : tkZ B n i = tkE B n (tkA B n i) := by unfold tkZ tkZ1; rw [if_pos hlt]
  have hle := tkE_le (B := B) hlt
  have hs := spt_get (v := vl B n i) 59 0
  cases hF : atF B n (tkA B n i) with
  | false =>
    exfalso
    have hk := h
    unfold kd tkK at hk
    rw [if_neg (by omega), hF, cond_false] at hk
    have h4 : spt (vl B n i) 59 0 = 4 := by
      cases hL : atL B n (tkA B n i) with
      | true =>
        rw [hL, cond_true] at hk
        split at hk
        · omega
        · exact hk
      | false =>
        rw [hL, cond_false] at hk
        split at hk
        · omega
        · exact hk
    have := hs (by rw [h4]; decide)
    rw [h4] at this
    have h0 : vl B n i = 0 := this.symm
    rw [h0] at h4
    exact absurd h4 (by decide)
  | true =>
    have hk := h
    unfold kd tkK at hk
    rw [if_neg (by omega), hF, cond_true, hz] at hk
    split at hk
    · omega
    · rename_i h9
      have hv : vl B n i = dgV B (tkE B n (tkA B n i) - tkA B n i) (tkA B n i) 0 := by unfold vl tkV; rw [hF, cond_true, hz]
      have hf1 : isF (B (tkA B n i)) = true := by
        rw [atF, Bool.and_eq_true] at hF
        exact hF.2
      have hl : isL (B (tkA B n i)) = false := by
        simp only [isF, Bool.and_eq_true, decide_eq_true_eq] at hf1
        simp only [isL, Bool.and_eq_false_iff, decide_eq_false_iff_not]
        omega
      have hE : tkE B n (tkA B n i) = adv (atF B n) (n - tkA B n i) (tkA B n i) := by
        rw [adv_1 hlt hF]
        unfold tkE
        rw [hl, hf1]
        rfl
      have g := dgV_int (B := B) (tkE B n (tkA B n i) - tkA B n i) (tkA B n i) 0 0 0 rfl (by decide) (by omega) (fun x h1 h2 => by
        have := adv_all (q := atF B n) (n - tkA B n i) (tkA B n i) x h1 (by rw [← hE]; omega)
        rw [atF, Bool.and_eq_true] at this
        have h3 := this.2
        simp only [isF, Bool.and_eq_true, decide_eq_true_eq] at h3
        exact h3)
      rw [hv]
      refine ⟨_, g.1, Nat.lt_of_lt_of_le g.2 ?_⟩
      exact Nat.pow_le_pow_right (by decide) (show 0 + (tkE B n (tkA B n i) - tkA B n i) ≤ 9 by omega)
set_option maxRecDepth 100000 in
theorem neg_fit {v : Int64} {N : Nat} (h : v.toInt = N) (hN : N < 1000000000) : -v = (-v).toInt32.toInt64 := by
  apply Int64.toInt_inj.mp
  have e : (-v).toInt = -(N : Int) := by
    rw [Int64.toInt_neg, h]
    exact Int.bmod_eq_of_le (by omega) (by omega)
  rw [i64, Int64.toInt_toInt32, e]
  exact (Int.bmod_eq_of_le (by omega) (by omega)).symm
set_option maxRecDepth 100000 in
theorem rInt_fit {v : Int64} {i1 : Nat} (h : rInt (tkP B n) i = .inr (v, i1)) : v = v.toInt32.toInt64 := by
  unfold rInt at h
  split at h
  · split at h
    · rename_i h1 h2
      cases h
      obtain ⟨N, a, b⟩ := num_nat (B := B) (n := n) h2
      exact neg_fit a b
    · cases h
  · split at h
    · rename_i h1 h2
      cases h
      exact num_fit h2
    · cases h
set_option maxRecDepth 100000 in
theorem ac_1 {v : Int64} {k j : Nat} : (acC C b w v).1 k j = if k = 8 ∧ j = b then nI (w + 1) else C.1 k j := by
  unfold acC
  rw [sI_1]
  rfl
set_option maxRecDepth 100000 in
theorem ac_2 {v : Int64} {k j : Nat} : (acC C b w v).2.1 k j = if k = 10 ∧ j = b * 6 + w then -9223372036854775808 else if k = 9 ∧ j = b * 6 + w then v else C.2.1 k j := by
  show (sJ (sJ C 9 (b * 6 + w) v) 10 (b * 6 + w) (-9223372036854775808)).2.1 k j = _
  rw [sJ_2, sJ_2]
set_option maxRecDepth 100000 in
theorem STB_ac {v : Int64} (hw : w < 6) : STB b C t (acC C b w v) t := ⟨⟨⟨fun k j _ _ _ _ _ h => by rw [ac_1, if_neg (by omega)], fun k j _ _ _ h9 h10 => by rw [ac_2, if_neg (by omega), if_neg (by omega)], fun _ _ _ _ _ => rfl⟩, tlE_r⟩, ⟨fun j hj => ⟨by rw [ac_2, if_neg (by omega), if_neg (by omega)], by rw [ac_1, if_neg (by omega)]⟩, by rw [ac_2, if_neg (by omega), if_neg (by omega)], fun k hk => ⟨by rw [ac_2, if_neg (by omega), if_neg (by omega)], by rw [ac_2, if_neg (by omega), if_neg (by omega)]⟩⟩, fun i _ => Or.inl rfl, by rw [ac_1, if_neg (by omega)], rfl, fun j _ => by rw [ac_1, if_neg (by omega)]⟩
set_option maxRecDepth 100000 in
theorem BK_ac {v : Int64} (K : BK C t T) (hb : b < 6) (hw : T.1.2.1 b = w) (hw6 : w < 6) : BK (acC C b w v) t (addC T b v) := by
  subst hw
  refine ⟨⟨fun q hq => ?_, fun q hq => ?_⟩, fun q c hq hc => ?_, K.2.2⟩
  · rw [ac_2, if_neg (by omega), if_neg (by omega)]
    exact K.1.1 q hq
  · by_cases e : q = b
    · subst e
      have ew : (addC T q v).1.2.1 q = T.1.2.1 q + 1 := if_pos rfl
      rw [ew]
      refine ⟨by rw [ac_1, if_pos ⟨rfl, rfl⟩], by omega, fun c hc => ?_⟩
      show _ = if q = q ∧ c = T.1.2.1 q then v else T.1.2.2 q c
      by_cases e2 : c = T.1.2.1 q
      · rw [ac_2, if_neg (by omega), if_pos ⟨rfl, by rw [e2]⟩, if_pos ⟨rfl, e2⟩]
      · rw [ac_2, if_neg (by omega), if_neg (by omega), if_neg (fun h => e2 h.2)]
        exact (K.1.2 q hq).2.2 c (by omega)
    · have ew : (addC T b v).1.2.1 q = T.1.2.1 q := if_neg e
      rw [ew]
      have k6 := (K.1.2 q hq).2.1
      refine ⟨by rw [ac_1, if_neg (by omega)]; exact (K.1.2 q hq).1, k6, fun c hc => ?_⟩
      show _ = if q = b ∧ c = T.1.2.1 b then v else T.1.2.2 q c
      rw [ac_2, if_neg (by omega), if_neg (by omega), if_neg (fun h => e h.1)]
      exact (K.1.2 q hq).2.2 c hc
  · show _ = e_V (if q = b ∧ c = T.1.2.1 b then none else T.2.1 q c)
    by_cases e : q = b
    · subst e
      have hc : c < T.1.2.1 q + 1 := by
        have ew : (addC T q v).1.2.1 q = T.1.2.1 q + 1 := if_pos rfl
        rw [ew] at hc
        exact hc
      by_cases e2 : c = T.1.2.1 q
      · rw [ac_2, if_pos ⟨rfl, by rw [e2]⟩, if_pos ⟨rfl, e2⟩]
        rfl
      · rw [ac_2, if_neg (by omega), if_neg (by omega), if_neg (fun h => e2 h.2)]
        exact K.2.1 q c hq (by omega)
    · have hc : c < T.1.2.1 q := by
        have ew : (addC T b v).1.2.1 q = T.1.2.1 q := if_neg e
        rw [ew] at hc
        exact hc
      have k6 := (K.1.2 q hq).2.1
      rw [ac_2, if_neg (by omega), if_neg (by omega), if_neg (fun h => e h.1)]
      exact K.2.1 q c hq hc
set_option maxRecDepth 100000 in
theorem STB_sd {v : Int64} (hc : c < 6) : STB b C t (sJ C 10 (b * 6 + c) v) t := ⟨⟨⟨fun _ _ _ _ _ _ _ _ => rfl, fun k j _ _ _ _ h10 => by rw [sJ_2, if_neg (by omega)], fun _ _ _ _ _ => rfl⟩, tlE_r⟩, ⟨fun j _ => ⟨by rw [sJ_2, if_neg (by omega)], rfl⟩, by rw [sJ_2, if_neg (by omega)], fun k hk => ⟨by rw [sJ_2, if_neg (by omega)], by rw [sJ_2, if_neg (by omega)]⟩⟩, fun i _ => Or.inl rfl, rfl, rfl, fun j _ => rfl⟩
set_option maxRecDepth 100000 in
theorem BK_sd {x : Option Int32} (K : BK C t T) (hb : b < 6) (hc6 : c < 6) : BK (sJ C 10 (b * 6 + c) (e_V x)) t (setD T b c x) := by
  refine ⟨⟨fun q hq => ?_, fun q hq => ⟨(K.1.2 q hq).1, (K.1.2 q hq).2.1, fun k hk => ?_⟩⟩, fun q k hq hk => ?_, K.2.2⟩
  · rw [sJ_2, if_neg (by omega)]
    exact K.1.1 q hq
  · rw [sJ_2, if_neg (by omega)]
    exact (K.1.2 q hq).2.2 k hk
  · have k6 := (K.1.2 q hq).2.1
    have hk : k < T.1.2.1 q := hk
    show _ = e_V (if q = b ∧ k = c then x else T.2.1 q k)
    by_cases e : q = b ∧ k = c
    · rw [sJ_2, if_pos ⟨rfl, by rw [e.1, e.2]⟩, if_pos e]
    · rw [sJ_2, if_neg (by omega), if_neg e]
      exact K.2.1 q k hq hk
end TCO
