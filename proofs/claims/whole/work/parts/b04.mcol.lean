
/-! THE OTHER SIDE READS A TABLE, 5: columns -/
section MTE2
variable {L : Nat} {xs : Nat → Int32} {B : Nat → Nat} {n : Nat} {C C' C0 C1 : co_T} {t : ab_H} {d i i0 i1 j b e p k w q : Nat} {U V : Nat → Prop} {c : Int32} {sc : sc_T} {row : Option Nat} {tg : Option (Nat × Nat)} {nl : Option Nat} {E : fe_T} {tr : Nat → Option tr_T}
variable {r : Nat} {l : List Nat} {o : Option Nat} {Tb : tb_S} {u : ru_T} {P : Option Value → ab_H → Nat → Prop}
set_option maxRecDepth 100000 in
theorem RUM_x (H : RUM C q u) (h1 : ∀ x y, 84 ≤ x → x ≤ 113 → C'.1 x y = C.1 x y) (h2 : ∀ y, C'.2.1 107 y = C.2.1 107 y) : RUM C' q u := by
  obtain ⟨⟨a1, a2, a3, a4, a5, a6⟩, ⟨b1, b2, b3⟩, c1, c2⟩ := H
  have e : ∀ x y, (84 ≤ x ∧ x ≤ 113) → C'.1 x y = C.1 x y := fun x y hx => h1 x y hx.1 hx.2
  exact ⟨⟨(e 84 q (by omega)).trans a1, (e 85 q (by omega)).trans a2, (e 86 q (by omega)).trans a3, (e 87 q (by omega)).trans a4, fun j x hx => (e 88 _ (by omega)).trans (a5 j x hx), fun j x hx => (e 89 _ (by omega)).trans (a6 j x hx)⟩, ⟨(e 90 q (by omega)).trans b1, (e 92 q (by omega)).trans b2, (e 93 q (by omega)).trans b3⟩, fun O hO => ⟨(e 113 q (by omega)).trans (c1 O hO).1, foM_o (c1 O hO).2.1 (fun j => e 106 j (by omega)) h2, (e 94 q (by omega)).trans (c1 O hO).2.2⟩, fun h => (e 94 q (by omega)).trans (c2 h)⟩
def ncC (C : co_T) (b w : Nat) (v : Int64) : co_T := sI (sJ (sJ C 81 (6 * b + w) v) 82 (6 * b + w) (-9223372036854775808)) 80 b (nI (w + 1))
set_option maxRecDepth 100000 in
theorem TMo_a {v : Int64} (H : TMo C b Tb l none) (hw : Tb.1.2.1 b < 6) : TMo (ncC C b (Tb.1.2.1 b) v) b (addC Tb b v) l none := by
  obtain ⟨⟨a1, a2, a3, a4⟩, b1, c1, ⟨d1, d2, d3, d4⟩, e1, g1, bo⟩ := H
  have s1 : ∀ k j, ¬ (k = 80 ∧ j = b) → (ncC C b (Tb.1.2.1 b) v).1 k j = C.1 k j := fun k j h => by
    unfold ncC
    rw [sI_1, if_neg h]
    rfl
  have s2 : ∀ k j, ¬ ((k = 81 ∨ k = 82) ∧ j = 6 * b + Tb.1.2.1 b) → (ncC C b (Tb.1.2.1 b) v).2.1 k j = C.2.1 k j := fun k j h => by
    show (sJ (sJ C 81 (6 * b + Tb.1.2.1 b) v) 82 (6 * b + Tb.1.2.1 b) (-9223372036854775808)).2.1 k j = _
    rw [sJ_2, if_neg (by omega), sJ_2, if_neg (by omega)]
  have s3 : (ncC C b (Tb.1.2.1 b) v).2.1 81 (6 * b + Tb.1.2.1 b) = v := by
    show (sJ (sJ C 81 (6 * b + Tb.1.2.1 b) v) 82 (6 * b + Tb.1.2.1 b) (-9223372036854775808)).2.1 81 _ = _
    rw [sJ_2, if_neg (by omega), sJ_2, if_pos ⟨rfl, rfl⟩]
  have s4 : (ncC C b (Tb.1.2.1 b) v).2.1 82 (6 * b + Tb.1.2.1 b) = -9223372036854775808 := by
    show (sJ (sJ C 81 (6 * b + Tb.1.2.1 b) v) 82 (6 * b + Tb.1.2.1 b) (-9223372036854775808)).2.1 82 _ = _
    rw [sJ_2, if_pos ⟨rfl, rfl⟩]
  have s5 : (ncC C b (Tb.1.2.1 b) v).1 80 b = nI (Tb.1.2.1 b + 1) := by
    unfold ncC
    rw [sI_1, if_pos ⟨rfl, rfl⟩]
  refine ⟨⟨(s1 76 57 (by omega)).trans a1, a2, (s1 78 b (by omega)).trans a3, a4⟩, fun q hq hz => ?_, fun q hq hz => (s1 78 q (by omega)).trans (c1 q hq hz), ⟨(s1 76 58 (by omega)).trans d1, fun x hx => ⟨(d2 x hx).1, (s1 91 x (by omega)).trans (d2 x hx).2⟩, d3, fun k x hx => (s1 114 k (by omega)).trans (d4 k x hx)⟩, fun q hq hn => ?_, fun x hx => (by cases hx), by rw [s1 76 48 (by omega), s1 76 49 (by omega)]; exact bo⟩
  · obtain ⟨h1, h2, h3, h4⟩ := b1 q hq hz
    by_cases hqb : q = b
    · subst hqb
      have w1 : (addC Tb q v).1.2.1 q = Tb.1.2.1 q + 1 := if_pos rfl
      have hz2 : ∀ c, c < Tb.1.2.1 q → (addC Tb q v).1.2.2 q c = Tb.1.2.2 q c ∧ (addC Tb q v).2.1 q c = Tb.2.1 q c := fun c hc => ⟨if_neg (by omega), if_neg (by omega)⟩
      have hz3 : (addC Tb q v).1.2.2 q (Tb.1.2.1 q) = v ∧ (addC Tb q v).2.1 q (Tb.1.2.1 q) = none := ⟨if_pos ⟨rfl, rfl⟩, if_pos ⟨rfl, rfl⟩⟩
      refine ⟨fun h => absurd rfl h, (s2 79 q (by omega)).trans h2, ⟨hq, by rw [w1]; exact s5, by rw [w1]; omega, fun c hc => ?_⟩, fun c hc => ?_⟩
      · rw [w1] at hc
        by_cases hcw : c = Tb.1.2.1 q
        · rw [hcw, s3, hz3.1]
        · rw [s2 81 _ (by omega), (hz2 c (by omega)).1]
          exact h3.2.2.2 c (by omega)
      · rw [w1] at hc
        by_cases hcw : c = Tb.1.2.1 q
        · rw [hcw, s4, hz3.2]
          rfl
        · rw [s2 82 _ (by omega), (hz2 c (by omega)).2]
          exact h4 c (by omega)
    · have w1 : (addC Tb b v).1.2.1 q = Tb.1.2.1 q := if_neg hqb
      have hz2 : ∀ c, (addC Tb b v).1.2.2 q c = Tb.1.2.2 q c ∧ (addC Tb b v).2.1 q c = Tb.2.1 q c := fun c => ⟨if_neg (by omega), if_neg (by omega)⟩
      have h5 := h3.2.2.1
      refine ⟨fun h => (s1 78 q (by omega)).trans (h1 h), (s2 79 q (by omega)).trans h2, ⟨hq, by rw [w1]; exact (s1 80 q (by omega)).trans h3.2.1, by rw [w1]; exact h5, fun c hc => ?_⟩, fun c hc => ?_⟩
      · rw [w1] at hc
        rw [s2 81 _ (by omega), (hz2 c).1]
        exact h3.2.2.2 c hc
      · rw [w1] at hc
        rw [s2 82 _ (by omega), (hz2 c).2]
        exact h4 c hc
  · rcases e1 q hq hn with ⟨h1, h2, h3⟩ | ⟨u, h1, h2, h3, h4⟩
    · exact Or.inl ⟨h1, (s1 83 q (by omega)).trans h2, h3⟩
    · refine Or.inr ⟨u, h1, RUM_x h2 (fun x y _ _ => s1 x y (by omega)) (fun y => s2 107 y (by omega)), h3, ?_⟩
      rw [s1 83 q (by omega)]
      exact h4
set_option maxRecDepth 100000 in
theorem TMo_d {x : Int64} {c : Nat} (H : TMo C b Tb l none) (hc : c < Tb.1.2.1 b) (hx : x = x.toInt32.toInt64) : TMo (sJ C 82 (6 * b + c) x) b (setD Tb b c (some x.toInt32)) l none := by
  obtain ⟨⟨a1, a2, a3, a4⟩, b1, c1, d1, e1, g1, bo⟩ := H
  have s2 : ∀ k j, ¬ (k = 82 ∧ j = 6 * b + c) → (sJ C 82 (6 * b + c) x).2.1 k j = C.2.1 k j := fun k j h => by rw [sJ_2, if_neg h]
  refine ⟨⟨a1, a2, a3, a4⟩, fun q hq hz => ?_, c1, d1, fun q hq hn => ?_, fun x hx => (by cases hx), bo⟩
  · obtain ⟨h1, h2, h3, h4⟩ := b1 q hq hz
    have h5 := (b1 b a2 a4).2.2.1.2.2.1
    have h6 := h3.2.2.1
    refine ⟨h1, (s2 79 q (by omega)).trans h2, TBM_o h3 (fun _ => rfl) (fun j => s2 81 j (by omega)), fun k hk => ?_⟩
    have hk : k < Tb.1.2.1 q := hk
    show _ = e_V (if q = b ∧ k = c then some x.toInt32 else Tb.2.1 q k)
    by_cases hA : q = b ∧ k = c
    · rw [if_pos hA, hA.1, hA.2, sJ_2, if_pos ⟨rfl, rfl⟩]
      exact hx
    · rw [if_neg hA, s2 82 _ (by omega)]
      exact h4 k hk
  · rcases e1 q hq hn with ⟨h1, h2, h3⟩ | ⟨u, h1, h2, h3, h4⟩
    · exact Or.inl ⟨h1, h2, h3⟩
    · exact Or.inr ⟨u, h1, RUM_x h2 (fun _ _ _ _ => rfl) (fun y => s2 107 y (by omega)), h3, h4⟩
def PTI (B : Nat → Nat) (n : Nat) (U V : Nat → Prop) (C0 : co_T) (t : ab_H) (b : Nat) (x : pz_T (tb_S × Nat × Option Nat)) : Option Value → ab_H → Nat → Prop := fun v h m => (none = v ∧ (∃ C', (∃ T' l' i' nl', x = .inr (T', i', nl') ∧ kd B n i' ≠ 1 ∧ MS B n U V C0 C' i' nl' ∧ TMo C' b T' l' none) ∧ MH C' t = h) ∧ 0 = m) ∨ (none = v ∧ (∃ C', (∃ c j, flS B n (fun y : tb_S × Nat × Option Nat => y.2.1) x c j ∧ FS B n U V C0 C' c j) ∧ MH C' t = h) ∧ 0 = m)
set_option maxRecDepth 100000 in
theorem sx_t (hV : V b) : sxI U V 80 b := Or.inr (Or.inr (Or.inr (Or.inr (Or.inr (Or.inr (Or.inr ⟨rfl, hV⟩))))))
set_option maxRecDepth 100000 in
theorem sj_t (hV : V b) (hk : k = 81 ∨ k = 82) (hj : 6 * b ≤ j ∧ j < 6 * b + 6) : sxJ U V k j := Or.inr (Or.inr (Or.inr (Or.inr (Or.inr ⟨hk, by rw [show j / 6 = b by omega]; exact hV⟩))))
set_option maxRecDepth 100000 in
theorem MS_a {v : Int64} (hV : V b) (M : MS B n U V C0 C i nl) (hw : w < 6) : MS B n U V C0 (ncC C b w v) i nl := MS_I (MS_J (MS_J M (sj_t hV (by omega) (by omega)) (by omega)) (sj_t hV (by omega) (by omega)) (by omega)) (sx_t hV) (by omega)
set_option maxRecDepth 100000 in
theorem FS_a {v : Int64} (hV : V b) (F : FS B n U V C0 C c i) (hw : w < 6) : FS B n U V C0 (ncC C b w v) c i := FS_I (FS_J (FS_J F (sj_t hV (by omega) (by omega))) (sj_t hV (by omega) (by omega))) (sx_t hV) (by omega)
/-! MUST -/
variable {e2 : Nat}
set_option maxRecDepth 100000 in
theorem c200f {x : Int32} (F : FS B n U V C0 C c i) (H : P none (MH C t) 0) : Wd L xs d y_212 (200, [(2, .int x), (1, .int (nI b)), (0, .ref 176)], [], MH C t, 0) P nX := by
  have h0 := FS_0 F
  refine w_p (pc1 := 201) rfl rfl ?_
  refine w_m0 (pc1 := 204) rfl rfl (h_gI (j := 8) rfl rfl rfl rfl rfl) rfl ?_
  refine w_t (a := 252) (b := 207) (cb_ne_t (by exact h0)) rfl rfl ?_
  refine w_r rfl rfl rfl (fun _ _ => rfl) rfl ?_
  exact H
set_option maxRecDepth 100000 in
theorem c200 (hU : ∀ r, r < 24 → Tb.2.2 r = none → U r) (M : MS B n U V C0 C i nl) (H : TMo C b Tb l none) (hc : w < 6) : Wd L xs (d + 4) y_212 (200, [(2, .int (nI w)), (1, .int (nI b)), (0, .ref 176)], [], MH C t, 0) (PTI B n U V C0 t b (rNnl (tkP B n) Tb b w i nl)) nX := by
  have hk1 : kd B n i ≠ 1 := M.2.1.1
  by_cases hk : kd B n i = 23
  · by_cases hr : ruN Tb.2.2 = -1
    · have hx : rNnl (tkP B n) Tb b w i nl = .inl (6, i) := by
        unfold rNnl
        rw [if_pos (show (tkP B n).1 i = 23 from hk), if_pos hr]
      have F := FS_new (c := 6) M (by decide)
      refine w_p (pc1 := 201) rfl rfl ?_
      refine w_m0 (pc1 := 204) (st1 := .int 0 :: _) rfl rfl (h_gIe (j := 8) rfl rfl rfl rfl rfl (M.2.1.2.1)) rfl ?_
      refine w_f (a := 252) (b := 207) rfl rfl rfl ?_
      refine w_p (pc1 := 208) rfl rfl ?_
      refine w_m0 (pc1 := 211) (st1 := .long 1836413812 :: _) rfl rfl rfl rfl ?_
      refine w_je (pc1 := 214) (vs := [.ref 176, .long 1836413812]) (rest := []) (st1 := [.int 1]) (m_205t (d := _) (sl := 0) ((wd_k (k := 23) M.2.1 (by decide) (by decide)).trans (decide_eq_true hk))) rfl rfl rfl (fun _ _ => rfl) rfl (by exact cl_v my_205 rfl rfl rfl (Nat.le_of_ble_eq_true rfl) rfl (MH_obj rfl rfl) rfl (by decide) rfl rfl) (by rfl) (Nat.le_of_ble_eq_true rfl) (Nat.le_of_ble_eq_true rfl) rfl (by rfl) ?_
      refine w_f (a := 252) (b := 217) rfl rfl rfl ?_
      refine w_p (pc1 := 218) rfl rfl ?_
      refine w_p (pc1 := 219) (st1 := .int 0 :: _) rfl rfl ?_
      refine w_je (pc1 := 222) (vs := [.ref 176, .int 0]) (rest := []) (st1 := [.int 0]) (m_214f (d := _) M H hr) rfl rfl rfl (fun _ _ => rfl) rfl (by exact cl_v my_214 rfl rfl rfl (Nat.le_of_ble_eq_true rfl) rfl (MH_obj rfl rfl) rfl (by decide) rfl rfl) (by rfl) (Nat.le_of_ble_eq_true rfl) (Nat.le_of_ble_eq_true rfl) rfl (by rfl) ?_
      refine w_p (pc1 := 223) (al1 := [(3, .int 0), (2, .int (nI (w))), (1, .int (nI (b))), (0, .ref 176)]) rfl rfl ?_
      refine w_p (pc1 := 224) rfl rfl ?_
      refine w_m0 (pc1 := 227) (st1 := .int 6 :: _) rfl rfl (h_gIe (j := 8) rfl rfl rfl rfl rfl (F.1.2.1)) rfl ?_
      refine w_f (a := 231) (b := 230) rfl rfl rfl ?_
      refine w_r rfl rfl rfl (fun _ _ => rfl) rfl ?_
      exact Or.inr ⟨rfl, ⟨_, ⟨6, i, flS_n hx hk1, F⟩, rfl⟩, rfl⟩
    · obtain ⟨r, hr1, hr2, hr3⟩ := ruN_s hr
      have hUr := hU r hr2 hr3
      have hx : rNnl (tkP B n) Tb b w i nl = .inr (addR Tb (0, b, [w], none, [], false, 0, 0, none), i + 1, nl) := by
        unfold rNnl
        rw [if_pos (show (tkP B n).1 i = 23 from hk), if_neg hr]
      refine w_p (pc1 := 201) rfl rfl ?_
      refine w_m0 (pc1 := 204) (st1 := .int 0 :: _) rfl rfl (h_gIe (j := 8) rfl rfl rfl rfl rfl (M.2.1.2.1)) rfl ?_
      refine w_f (a := 252) (b := 207) rfl rfl rfl ?_
      refine w_p (pc1 := 208) rfl rfl ?_
      refine w_m0 (pc1 := 211) (st1 := .long 1836413812 :: _) rfl rfl rfl rfl ?_
      refine w_je (pc1 := 214) (vs := [.ref 176, .long 1836413812]) (rest := []) (st1 := [.int 1]) (m_205t (d := _) (sl := 0) ((wd_k (k := 23) M.2.1 (by decide) (by decide)).trans (decide_eq_true hk))) rfl rfl rfl (fun _ _ => rfl) rfl (by exact cl_v my_205 rfl rfl rfl (Nat.le_of_ble_eq_true rfl) rfl (MH_obj rfl rfl) rfl (by decide) rfl rfl) (by rfl) (Nat.le_of_ble_eq_true rfl) (Nat.le_of_ble_eq_true rfl) rfl (by rfl) ?_
      refine w_f (a := 252) (b := 217) rfl rfl rfl ?_
      refine w_p (pc1 := 218) rfl rfl ?_
      refine w_p (pc1 := 219) (st1 := .int 0 :: _) rfl rfl ?_
      refine w_ji (pc1 := 222) (vs := [.ref 176, .int 0]) (rest := []) (m_214 (d := _) hUr M H hr1 hr2 hr3) rfl rfl rfl (fun _ _ => rfl) rfl (by exact cl_v my_214 rfl rfl rfl (Nat.le_of_ble_eq_true rfl) rfl (MH_obj rfl rfl) rfl (by decide) rfl rfl) (by rfl) (Nat.le_of_ble_eq_true rfl) (Nat.le_of_ble_eq_true rfl) rfl (fun v h1 d1 hq => ?_) (fun _ _ _ e => e.elim)
      rcases hq with ⟨hv, ⟨C1, ⟨M1, H1, R0, e40⟩, hh⟩, hn⟩
      · subst hv; subst hh; subst hn
        refine w_p (pc1 := 223) (al1 := [(3, .int (nI (r))), (2, .int (nI (w))), (1, .int (nI (b))), (0, .ref 176)]) rfl rfl ?_
        refine w_p (pc1 := 224) rfl rfl ?_
        refine w_m0 (pc1 := 227) (st1 := .int 0 :: _) rfl rfl (h_gIe (j := 8) rfl rfl rfl rfl rfl (M1.2.1.2.1)) rfl ?_
        refine w_t (a := 231) (b := 230) rfl rfl rfl ?_
        refine w_p (pc1 := 232) rfl rfl ?_
        refine w_m0 (pc1 := 235) rfl rfl (h_gC rfl rfl rfl rfl) rfl ?_
        refine w_p (pc1 := 237) (st1 := .int 6 :: _) rfl rfl ?_
        refine w_p (pc1 := 238) rfl rfl ?_
        refine w_imul (pc1 := 239) (u := nI (6)) (v := nI (r)) (z := nI (6 * r)) rfl (nK_mul) rfl ?_
        refine w_p (pc1 := 240) rfl rfl ?_
        refine w_m0 (pc1 := 241) rfl rfl (n_is (e := 6 * r) rfl rfl rfl (by omega)) rfl ?_
        refine w_p (pc1 := 242) rfl rfl ?_
        refine w_m0 (pc1 := 245) rfl rfl (h_gC rfl rfl rfl rfl) rfl ?_
        refine w_p (pc1 := 246) rfl rfl ?_
        refine w_p (pc1 := 247) (st1 := .int 1 :: _) rfl rfl ?_
        refine w_m0 (pc1 := 248) rfl rfl (n_is (e := r) rfl rfl rfl (by omega)) rfl ?_
        have M2 : MS B n U V C0 (sI (sI C1 88 (6 * r) (nI w)) 87 r 1) i nl := MS_I (MS_I M1 (sx_c hUr (by omega) (by omega)) (by omega)) (sx_r hUr (by omega)) (by omega)
        have f2 : fP r C1 (sI (sI C1 88 (6 * r) (nI w)) 87 r 1) := fP_t (fP_C (by omega)) (fP_I (by omega))
        have R2 : RUM (sI (sI C1 88 (6 * r) (nI w)) 87 r 1) r (0, b, [w], none, [], false, 0, 0, none) := by
          obtain ⟨u1, u2, u3, u4, u5, u6, u7, u8⟩ := R0
          have e : ∀ k, k ≠ 87 → k ≠ 88 → (sI (sI C1 88 (6 * r) (nI w)) 87 r 1).1 k r = C1.1 k r := fun k h1 h2 => by rw [sI_1, if_neg (by omega), sI_1, if_neg (by omega)]
          refine ⟨⟨(e 84 (by omega) (by omega)).trans u1, (e 85 (by omega) (by omega)).trans u2, (e 86 (by omega) (by omega)).trans u3, ?_, fun j x hx => ?_, fun j x hx => (by cases hx)⟩, ⟨(e 90 (by omega) (by omega)).trans u5, (e 92 (by omega) (by omega)).trans u6, (e 93 (by omega) (by omega)).trans u7⟩, fun O hO => (by cases hO), fun _ => (e 94 (by omega) (by omega)).trans u8⟩
          · rw [sI_1, if_pos ⟨rfl, rfl⟩]
            rfl
          · have hj : j = 0 := by
              have := (List.getElem?_eq_some_iff.mp hx).1
              have : j < 1 := this
              omega
            subst hj
            cases hx
            rw [sI_1, if_neg (by omega), sI_1, if_pos ⟨rfl, by omega⟩]
        have H2 := TMo_c (TMo_P H1 (Or.inl rfl) f2) hr1 R2 ⟨by show 1 ≤ 6; decide, Nat.zero_le _, fun O hO => (by cases hO)⟩
        refine w_p (pc1 := 249) rfl rfl ?_
        refine w_ji (pc1 := 252) (vs := [.ref 176]) (rest := []) (nS (d := _) M2 (by rw [hk]; decide)) rfl rfl rfl (fun _ _ => rfl) rfl (by exact cl_v my_195 rfl rfl rfl (Nat.le_of_ble_eq_true rfl) rfl (MH_obj rfl rfl) rfl (by decide) rfl rfl) (by rfl) (Nat.le_of_ble_eq_true rfl) (Nat.le_of_ble_eq_true rfl) rfl (fun v h1 d1 hq => ?_) (fun _ _ _ e => e.elim)
        rcases hq with ⟨hv, ⟨C3, ⟨g3, M3, f3⟩, hh⟩, hn⟩ | ⟨hv, ⟨C3, ⟨g3, F3, f3⟩, hh⟩, hn⟩
        · subst hv; subst hh; subst hn
          refine w_r rfl rfl rfl (fun _ _ => rfl) rfl ?_
          exact Or.inl ⟨rfl, ⟨_, ⟨_, _, _, _, hx, g3, M3, TMo_T H2 f3⟩, rfl⟩, rfl⟩
        · subst hv; subst hh; subst hn
          refine w_r rfl rfl rfl (fun _ _ => rfl) rfl ?_
          exact Or.inr ⟨rfl, ⟨_, ⟨1, i + 1, flS_e hx rfl g3, F3⟩, rfl⟩, rfl⟩
  · have hx : rNnl (tkP B n) Tb b w i nl = .inr (Tb, i, nl) := if_neg hk
    refine w_p (pc1 := 201) rfl rfl ?_
    refine w_m0 (pc1 := 204) (st1 := .int 0 :: _) rfl rfl (h_gIe (j := 8) rfl rfl rfl rfl rfl (M.2.1.2.1)) rfl ?_
    refine w_f (a := 252) (b := 207) rfl rfl rfl ?_
    refine w_p (pc1 := 208) rfl rfl ?_
    refine w_m0 (pc1 := 211) (st1 := .long 1836413812 :: _) rfl rfl rfl rfl ?_
    refine w_je (pc1 := 214) (vs := [.ref 176, .long 1836413812]) (rest := []) (st1 := [.int 0]) (m_205f (d := _) (sl := 0) ((wd_k (k := 23) M.2.1 (by decide) (by decide)).trans (decide_eq_false hk))) rfl rfl rfl (fun _ _ => rfl) rfl (by exact cl_v my_205 rfl rfl rfl (Nat.le_of_ble_eq_true rfl) rfl (MH_obj rfl rfl) rfl (by decide) rfl rfl) (by rfl) (Nat.le_of_ble_eq_true rfl) (Nat.le_of_ble_eq_true rfl) rfl (by rfl) ?_
    refine w_t (a := 252) (b := 217) rfl rfl rfl ?_
    refine w_r rfl rfl rfl (fun _ _ => rfl) rfl ?_
    exact Or.inl ⟨rfl, ⟨_, ⟨_, _, _, _, hx, hk1, M, H⟩, rfl⟩, rfl⟩
end MTE2
