
/-! WHAT IS READ CAN STAND: tables -/
section WET
variable {B : Nat → Nat} {n m i b c w1 w2 w3 md : Nat} {sc : sc_T} {nl : Option Nat} {E : fe_T} {K : tv2} {T T' : tb_S} {u : ru_T} {wd wd' : Nat → Nat} {cs : List Nat}
set_option maxRecDepth 100000 in
theorem inb_m {x : Int32} {w w' : Nat} (h : w ≤ w') (e : inb x w = true) : inb x w' = true := by
  have := inb_t.mp e
  exact inb_t.mpr ⟨this.1, Nat.lt_of_lt_of_le this.2 h⟩
set_option maxRecDepth 100000 in
theorem t_1m {w1' : Nat} {q : op_T} {l l' : List Bool} (h : w1 ≤ w1') (e : t_1 w1 w2 w3 q l = some l') : t_1 w1' w2 w3 q l = some l' := by
  unfold t_1 at e ⊢
  by_cases h0 : q.1 = 0
  · rw [if_pos h0] at e ⊢; exact e
  · rw [if_neg h0] at e ⊢
    by_cases h1 : q.1 = 1
    · rw [if_pos h1] at e ⊢; exact e
    · rw [if_neg h1] at e ⊢
      by_cases h2 : q.1 = 2
      · rw [if_pos h2] at e ⊢
        cases hb : inb q.2 w1 with
        | true =>
          rw [inb_m h hb]
          rw [hb] at e
          exact e
        | false =>
          rw [hb] at e
          cases e
      · rw [if_neg h2] at e ⊢; exact e
set_option maxRecDepth 100000 in
theorem t_lm {w1' : Nat} (h : w1 ≤ w1') : ∀ (l : List op_T) (s s' : List Bool), t_l w1 w2 w3 l s = some s' → t_l w1' w2 w3 l s = some s'
  | [], s, s', e => e
  | q :: l, s, s', e => by
    have e : (t_1 w1 w2 w3 q s).bind (t_l w1 w2 w3 l) = some s' := e
    show (t_1 w1' w2 w3 q s).bind (t_l w1' w2 w3 l) = some s'
    cases h1 : t_1 w1 w2 w3 q s with
    | none => rw [h1] at e; cases e
    | some s1 =>
      rw [h1] at e
      rw [t_1m h h1]
      exact t_lm h l s1 s' e
set_option maxRecDepth 100000 in
theorem okR_m (h : ∀ q, wd q ≤ wd' q) (R : okR wd u) : okR wd' u := by
  obtain ⟨⟨a1, a2, a3, a4⟩, a5, a6, a7, a8⟩ := R
  refine ⟨⟨a1, a2, a3, fun c hc => Nat.lt_of_lt_of_le (a4 c hc) (h _)⟩, fun e => ?_, a6, fun e => ?_, a8⟩
  · obtain ⟨⟨b, e1, e2, e3⟩, e4⟩ := a5 e
    exact ⟨⟨b, e1, e2, fun c hc => Nat.lt_of_lt_of_le (e3 c hc) (h _)⟩, e4⟩
  · obtain ⟨e1, O, e2, e3, e4⟩ := a7 e
    exact ⟨e1, O, e2, e3, t_lm (h _) O _ _ e4⟩
def lvU (tn : Nat → Int64) (u : ru_T) : Prop := tn (rTb u) ≠ 0 ∧ ∀ c, rTg u = some c → c < 6 ∧ tn c ≠ 0
def tWl (T : tb_S) : Prop := (∀ q, q < 6 → T.1.2.1 q ≤ 6) ∧ ∀ i u, T.2.2 i = some u → okR T.1.2.1 u ∧ lvU T.1.1 u
def tWs (b : Nat) (T T' : tb_S) : Prop := T'.1.1 = T.1.1 ∧ (∀ q, q ≠ b → T'.1.2.1 q = T.1.2.1 q) ∧ ∀ i, 24 ≤ i → T'.2.2 i = T.2.2 i
set_option maxRecDepth 100000 in
theorem tWs_r : tWs b T T := ⟨rfl, fun _ _ => rfl, fun _ _ => rfl⟩
set_option maxRecDepth 100000 in
theorem tWs_t {T1 T2 T3 : tb_S} (h : tWs b T1 T2) (g : tWs b T2 T3) : tWs b T1 T3 := ⟨g.1.trans h.1, fun q hq => (g.2.1 q hq).trans (h.2.1 q hq), fun i hi => (g.2.2 i hi).trans (h.2.2 i hi)⟩
set_option maxRecDepth 100000 in
theorem addR_w (W : tWl T) (h1 : okR T.1.2.1 u) (h2 : lvU T.1.1 u) : tWl (addR T u) := by
  refine ⟨W.1, fun i v e => ?_⟩
  have e : (if i = (ruN T.2.2).toNatClampNeg then some u else T.2.2 i) = some v := e
  split at e
  · cases e
    exact ⟨h1, h2⟩
  · exact W.2 i v e
set_option maxRecDepth 100000 in
theorem ruN_24 {ru : Nat → Option ru_T} : (ruN ru).toNatClampNeg < 24 := by
  by_cases h : ruN ru = -1
  · rw [h]; decide
  · obtain ⟨s, e1, e2, _⟩ := ruN_s h
    rw [e1, nK_nat (by omega)]
    exact e2
set_option maxRecDepth 100000 in
theorem addR_s : tWs b T (addR T u) := ⟨rfl, fun _ _ => rfl, fun i hi => if_neg (fun e => by have := ruN_24 (ru := T.2.2); omega)⟩
set_option maxRecDepth 100000 in
theorem rNnl_w (W : tWl T) (hb : b < 6) (hz : T.1.1 b ≠ 0) (hc : c < T.1.2.1 b) {x : tb_S × Nat × Option Nat} (h : rNnl K T b c i nl = .inr x) : tWl x.1 ∧ tWs b T x.1 := by
  unfold rNnl at h
  split at h
  · split at h
    · cases h
    · cases h
      refine ⟨addR_w W ⟨⟨by show 0 ≤ 4; omega, hb, by show 1 ≤ 6; omega, fun q hq => ?_⟩, fun e => (by cases e), fun _ => rfl, fun e => (by cases e), by show 0 ≤ 4; omega, by show 0 ≤ 4; omega⟩ ⟨hz, fun c e => by cases e⟩, addR_s⟩
      rcases List.mem_cons.mp hq with rfl | hq
      · exact hc
      · cases hq
  · cases h
    exact ⟨W, tWs_r⟩
set_option maxRecDepth 100000 in
theorem addC_w {v : Int64} (W : tWl T) (hc : T.1.2.1 b < 6) : tWl (addC T b v) ∧ tWs b T (addC T b v) ∧ T.1.2.1 b < (addC T b v).1.2.1 b := by
  have e1 : ∀ q, (addC T b v).1.2.1 q = if q = b then T.1.2.1 b + 1 else T.1.2.1 q := fun q => rfl
  refine ⟨⟨fun q hq => ?_, fun i u e => ?_⟩, ⟨rfl, fun q hq => ?_, fun _ _ => rfl⟩, ?_⟩
  · rw [e1]
    split
    · omega
    · exact W.1 q hq
  · obtain ⟨h1, h2⟩ := W.2 i u e
    refine ⟨okR_m (fun q => ?_) h1, h2⟩
    rw [e1]
    split
    · next z => rw [z]; omega
    · exact Nat.le_refl _
  · rw [e1, if_neg hq]
  · rw [e1, if_pos rfl]
    omega
set_option maxRecDepth 100000 in
theorem setD_w {x : Option Int32} (W : tWl T) : tWl (setD T b c x) := W
set_option maxRecDepth 100000 in
theorem rNwc_w (W : tWl T) (hb : b < 6) (hz : T.1.1 b ≠ 0) {x : tb_S × Nat × Option Nat} (h : rNwc K T b i nl = .inr x) : tWl x.1 ∧ tWs b T x.1 := by
  unfold rNwc at h
  split at h
  · split at h
    · cases h
    · rename_i hc
      obtain ⟨g1, g2, g3⟩ := addC_w (v := K.2 i) W (b := b) (by omega)
      unfold rDft at h
      split at h
      · obtain ⟨y, h1, h⟩ := pb_inr h
        have q := rNnl_w (T := setD (addC T b (K.2 i)) b (T.1.2.1 b) (some y.1.toInt32)) g1 hb hz g3 h
        exact ⟨q.1, tWs_t g2 q.2⟩
      · have q := rNnl_w g1 hb hz g3 h
        exact ⟨q.1, tWs_t g2 q.2⟩
  · cases h
set_option maxRecDepth 100000 in
theorem rNam_w (h6 : sc.2.1 b ≤ 6) {y : List Nat × Nat} (h : rNam K sc b 7 [] i = .inr y) : y.1.length ≤ 6 ∧ ∀ c, c ∈ y.1 → c < sc.2.1 b := by
  obtain ⟨cs, i'⟩ := y
  have g := (rNam_ok h6 7 [] i cs i' h (fun x hx => by cases hx) List.nodup_nil).1
  exact ⟨(rNam_6 h6 h).1, fun c hc => g c (by simpa using hc)⟩
set_option maxRecDepth 100000 in
theorem rKey_w {kk : Nat} (hk : kk = 1 ∨ kk = 2) (W : tWl T) (hb : b < 6) (hz : T.1.1 b ≠ 0) {x : tb_S × Nat × Option Nat} (h : rKey K T b kk i nl = .inr x) : tWl x.1 ∧ tWs b T x.1 := by
  unfold rKey at h
  split at h
  · cases h
  · obtain ⟨j, h1, h⟩ := pb_inr h
    obtain ⟨y, h2, h⟩ := pb_inr h
    obtain ⟨j2, h3, h⟩ := pb_inr h
    cases h
    have g := rNam_w (W.1 b hb) h2
    exact ⟨addR_w W ⟨⟨by show kk ≤ 4; omega, hb, g.1, g.2⟩, fun e => (by have e : kk = 4 := e; omega), fun _ => rfl, fun e => (by have e : kk = 3 := e; omega), by show 0 ≤ 4; omega, by show 0 ≤ 4; omega⟩ ⟨hz, fun c e => by cases e⟩, addR_s⟩
set_option maxRecDepth 100000 in
theorem rChk_w (hm : lst B n m) (h6 : m ≤ 600) (hi : i + 1 ≤ m) (W : tWl T) (hb : b < 6) (hz : T.1.1 b ≠ 0) {x : tb_S × Nat × Option Nat} (h : rChk (tkP B n) T b i nl = .inr x) : tWl x.1 ∧ tWs b T x.1 := by
  unfold rChk at h
  split at h
  · cases h
  · obtain ⟨y, h1, h⟩ := pb_inr h
    cases h
    have hE := eW_f (K := tkP B n) (sc := T.1) (row := some b) (tg := none) (fun q e => by cases e; exact W.1 b hb) (fun p e => by cases e)
    have g := rFm_w (E := fE (tkP B n) T.1 (some b) none) rfl hm h6 hi hE (Or.inr rfl) h1
    exact ⟨addR_w W ⟨⟨by show 3 ≤ 4; omega, hb, by show 0 ≤ 6; omega, fun c hc => by cases hc⟩, fun e => (by cases e), fun _ => rfl, fun _ => ⟨rfl, y.1, rfl, g.1, g.2⟩, by show 0 ≤ 4; omega, by show 0 ≤ 4; omega⟩ ⟨hz, fun c e => by cases e⟩, addR_s⟩
set_option maxRecDepth 100000 in
theorem rOn_w {w : Nat} {x : Nat × Nat} (h : rOn K w i = .inr x) : x.1 ≤ 4 := by
  unfold rOn at h
  split at h
  · unfold rAcn acN at h
    split at h
    · cases h
    · rename_i a ha
      cases h
      split at ha
      · cases ha; show 1 ≤ 4; omega
      · split at ha
        · cases ha; show 2 ≤ 4; omega
        · split at ha
          · cases ha; show 3 ≤ 4; omega
          · split at ha
            · cases ha; show 4 ≤ 4; omega
            · cases ha
  · cases h
    exact Nat.zero_le 4
set_option maxRecDepth 100000 in
theorem rRef_w (W : tWl T) (hb : b < 6) (hz : T.1.1 b ≠ 0) {x : tb_S × Nat × Option Nat} (h : rRef K T b i nl = .inr x) : tWl x.1 ∧ tWs b T x.1 := by
  unfold rRef at h
  split at h
  · cases h
  · obtain ⟨j, h1, h⟩ := pb_inr h
    obtain ⟨y, h2, h⟩ := pb_inr h
    have g := rNam_w (W.1 b hb) h2
    obtain ⟨j2, h3, h⟩ := pb_inr h
    obtain ⟨j3, h4, h⟩ := pb_inr h
    obtain ⟨tb, h5, h⟩ := pb_inr h
    obtain ⟨tb1, tb2⟩ := tb
    obtain ⟨_, hb2, hz2⟩ := rTab_i h5
    obtain ⟨j4, h6, h⟩ := pb_inr h
    obtain ⟨ts, h7, h⟩ := pb_inr h
    have g2 := rNam_w (W.1 tb1 hb2) h7
    split at h
    · split at h
      · rename_i hl
        obtain ⟨d, h8, h⟩ := pb_inr h
        obtain ⟨u, h9, h⟩ := pb_inr h
        cases h
        exact ⟨addR_w W ⟨⟨by show 4 ≤ 4; omega, hb, g.1, g.2⟩, fun _ => ⟨⟨tb1, rfl, hb2, g2.2⟩, hl.1⟩, fun e => absurd rfl e, fun e => (by cases e), rOn_w h8, rOn_w h9⟩ ⟨hz, fun c e => by cases e; exact ⟨hb2, hz2⟩⟩, addR_s⟩
      · cases h
    · cases h
set_option maxRecDepth 100000 in
theorem rItm_w (hm : lst B n m) (h6 : m ≤ 600) (hi : i ≤ m) (W : tWl T) (hb : b < 6) (hz : T.1.1 b ≠ 0) {x : tb_S × Nat × Option Nat} (h : rItm (tkP B n) T b i nl = .inr x) : tWl x.1 ∧ tWs b T x.1 := by
  unfold rItm at h
  split at h
  · exact rNwc_w W hb hz h
  · split at h
    · exact rKey_w (Or.inl rfl) W hb hz h
    · split at h
      · exact rKey_w (Or.inr rfl) W hb hz h
      · split at h
        · rename_i h12
          exact rChk_w hm h6 (st1 hm hi h12 (by decide) (by decide)) W hb hz h
        · split at h
          · exact rRef_w W hb hz h
          · cases h
set_option maxRecDepth 100000 in
theorem rEnd_w (W : tWl T) {x : tb_S × Nat × Option Nat} (h : rEnd K T b i nl = .inr x) : x.1 = T ∧ 1 ≤ T.1.2.1 b := by
  unfold rEnd at h
  split at h
  · split at h
    · rename_i hw
      cases h
      exact ⟨rfl, hw⟩
    · cases h
  · cases h
set_option maxRecDepth 100000 in
theorem rItm_mm (hm : lst B n m) (h6 : m ≤ 600) (hi : i ≤ m) (hW : wok T) (hb : b < 6) {x : tb_S × Nat × Option Nat} (h : rItm (tkP B n) T b i nl = .inr x) : x.2.1 ≤ m := (rItm_g hm h6 hi hW hb).2 x h |>.2
set_option maxRecDepth 100000 in
theorem rIts_w (hm : lst B n m) (h6 : m ≤ 600) (hb : b < 6) : ∀ (f : Nat) (T : tb_S) (i : Nat) (nl : Option Nat) (x : tb_S × Nat × Option Nat), i ≤ m → tWl T → T.1.1 b ≠ 0 → rIts (tkP B n) b f T i nl = .inr x → tWl x.1 ∧ tWs b T x.1 ∧ 1 ≤ x.1.1.2.1 b
  | 0, T, i, nl, x, hi, W, hz, h => by
    obtain ⟨e1, e2⟩ := rEnd_w W h
    rw [e1]
    exact ⟨W, tWs_r, e2⟩
  | f + 1, T, i, nl, x, hi, W, hz, h => by
    have h : (if (tkP B n).1 i = 48 then pb (rItm (tkP B n) T b (i + 1) nl) (fun x => rIts (tkP B n) b f x.1 x.2.1 x.2.2) else rEnd (tkP B n) T b i nl) = .inr x := h
    split at h
    · rename_i h48
      obtain ⟨y, h1, h⟩ := pb_inr h
      have hi' := st1 hm hi h48 (by decide) (by decide)
      obtain ⟨g1, g2⟩ := rItm_w hm h6 hi' W hb hz h1
      obtain ⟨q1, q2, q3⟩ := rIts_w hm h6 hb f y.1 y.2.1 y.2.2 x (rItm_mm hm h6 hi' W.1 hb h1) g1 (by rw [g2.1]; exact hz) h
      exact ⟨q1, tWs_t g2 q2, q3⟩
    · obtain ⟨e1, e2⟩ := rEnd_w W h
      rw [e1]
      exact ⟨W, tWs_r, e2⟩
/-! names, widths, rules that go together -/
def tLv (T : tb_S) : Prop := scL T.1 ∧ ∀ i u, T.2.2 i = some u → okR T.1.2.1 u ∧ lvU T.1.1 u
set_option maxRecDepth 100000 in
theorem tbN_w {tn : Nat → Int64} (h : tbN tn ≠ -1) : ∃ b, tbN tn = nI b ∧ b < 6 ∧ tn b = 0 ∧ (tbN tn).toNatClampNeg = b := by
  rcases fnd_b (fun j => decide (tn j = 0)) 6 0 with z | ⟨j, h1, h2, h3, h4⟩
  · exact absurd z h
  · exact ⟨j, h1, by omega, of_decide_eq_true h4, by unfold tbN; rw [h1]; exact nK_nat (by omega)⟩
set_option maxRecDepth 100000 in
theorem rTbl_w (hm : lst B n m) (h6 : m ≤ 600) (hi : i + 1 ≤ m) (W : tLv T) {x : tb_S × Nat × Option Nat} (h : rTbl (tkP B n) T i nl = .inr x) : tLv x.1 ∧ ∃ b nm, tbN T.1.1 = nI b ∧ b < 6 ∧ T.1.1 b = 0 ∧ nm ≠ 0 ∧ x.1.1.1 = (fun q => if q = b then nm else T.1.1 q) ∧ (∀ q, q ≠ b → x.1.1.2.1 q = T.1.2.1 q) ∧ ∀ i, 24 ≤ i → x.1.2.2 i = T.2.2 i := by
  obtain ⟨nm, h0, h⟩ := pb_inr h
  have m0 := rNew_m hm hi h0
  have hn : tbN T.1.1 ≠ -1 ∧ nm.1 ≠ 0 := by
    unfold rNew at h0
    split at h0
    · rename_i h3
      split at h0
      · split at h0
        · cases h0
        · rename_i hw
          cases h0
          exact ⟨hw, nam_nz h3⟩
      · cases h0
    · cases h0
  obtain ⟨b, e1, hb, e3, e4⟩ := tbN_w hn.1
  rw [e4] at h
  have n1 : ∀ q, (nwT T b nm.1).1.1 q = if q = b then nm.1 else T.1.1 q := fun q => rfl
  have hz : (nwT T b nm.1).1.1 b ≠ 0 := by rw [n1, if_pos rfl]; exact hn.2
  have W0 : tWl (nwT T b nm.1) := by
    refine ⟨fun q hq => (W.1 q hq).1, fun i u e => ?_⟩
    obtain ⟨g1, g2, g3⟩ := W.2 i u e
    refine ⟨g1, ?_, fun c hc => ⟨(g3 c hc).1, ?_⟩⟩
    · rw [n1]
      split
      · exact hn.2
      · exact g2
    · rw [n1]
      split
      · exact hn.2
      · exact (g3 c hc).2
  obtain ⟨j, h1, h⟩ := pb_inr h
  have m1 := xpP_m hm m0 (by decide) (by decide) h1
  obtain ⟨y, h2, h⟩ := pb_inr h
  obtain ⟨g1, g2⟩ := rItm_w hm h6 m1 W0 hb hz h2
  obtain ⟨q1, q2, q3⟩ := rIts_w hm h6 hb 600 y.1 y.2.1 y.2.2 x (rItm_mm hm h6 m1 W0.1 hb h2) g1 (by rw [g2.1]; exact hz) h
  have s := tWs_t g2 q2
  refine ⟨⟨fun q hq => ⟨q1.1 q hq, fun z => ?_, fun z => ?_⟩, q1.2⟩, b, nm.1, e1, hb, e3, hn.2, s.1, fun q hq => s.2.1 q hq, s.2.2⟩
  · by_cases e : q = b
    · subst e; exact q3
    · rw [s.2.1 q e]
      rw [s.1, n1, if_neg e] at z
      exact (W.1 q hq).2.1 z
  · by_cases e : q = b
    · subst e
      rw [s.1] at z
      exact absurd z hz
    · rw [s.2.1 q e]
      rw [s.1, n1, if_neg e] at z
      exact (W.1 q hq).2.2 z
end WET
