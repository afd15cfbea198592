
/-! A STATEMENT IS READ: the fuel is enough for triggers and tables -/
section FU2
variable {B : Nat → Nat} {n m i i' b e ti c k w f : Nat} {sc : sc_T} {row : Option Nat} {tg : Option (Nat × Nat)} {nl nl' : Option Nat} {tr : Nat → Option tr_T} {T : tb_S} {p : Nat × Nat} {nm : Int64}
def gd {α : Type} (Q : α → Nat → Prop) (r : pz_T (α × Nat × Option Nat)) : Prop := nzp r ∧ ∀ a, r = .inr a → Q a.1 a.2.1
set_option maxRecDepth 100000 in
theorem gd_pb {α β : Type} {Q : α → Nat → Prop} {r : pz_T β} {g : β → pz_T (α × Nat × Option Nat)} (h : nzp r) (k : ∀ a, r = .inr a → gd Q (g a)) : gd Q (pb r g) := ⟨nzp_pb h (fun a e => (k a e).1), fun a e => by
  obtain ⟨x, hx, e⟩ := pb_inr e
  exact (k x hx).2 a e⟩
set_option maxRecDepth 100000 in
theorem gd_l {α : Type} {Q : α → Nat → Prop} {c : Int32} {j : Nat} (h : c ≠ 0) : gd Q (.inl (c, j)) := ⟨nzp_l h, fun a e => by cases e⟩
set_option maxRecDepth 100000 in
theorem gd_r {α : Type} {Q : α → Nat → Prop} {a : α × Nat × Option Nat} (h : Q a.1 a.2.1) : gd Q (.inr a) := ⟨nzp_r, fun x e => by cases e; exact h⟩
set_option maxRecDepth 100000 in
theorem gd_i {α : Type} {Q : α → Nat → Prop} {p : Prop} [Decidable p] {x y : pz_T (α × Nat × Option Nat)} (h1 : p → gd Q x) (h2 : ¬ p → gd Q y) : gd Q (if p then x else y) := by
  by_cases h : p
  · rw [if_pos h]
    exact h1 h
  · rw [if_neg h]
    exact h2 h
set_option maxRecDepth 100000 in
theorem rNew_z {K : tv2} {g : Int64 → Int32} {x : Int32} : nzp (rNew K g x i) := nzp_i (fun _ => nzp_i (fun _ => nzp_i (fun _ => nzp_l (by decide)) (fun _ => nzp_r)) (fun _ => nzp_l (by decide))) (fun _ => nzp_l (by decide))
set_option maxRecDepth 100000 in
theorem rNew_m (hm : lst B n m) (hi : i ≤ m) {g : Int64 → Int32} {x : Int32} {y : Int64 × Nat} (h : rNew (tkP B n) g x i = .inr y) : y.2 ≤ m := by
  by_cases h3 : (tkP B n).1 i = 3
  · rw [(rNew_s h).1]
    exact st1 hm hi h3 (by decide) (by decide)
  · have : rNew (tkP B n) g x i = .inl (2, i) := if_neg h3
    rw [this] at h
    cases h
set_option maxRecDepth 100000 in
theorem rTim_z {K : tv2} : nzp (rTim K i) := nzp_i (fun _ => nzp_r) (fun _ => nzp_i (fun _ => nzp_r) (fun _ => nzp_l (by decide)))
set_option maxRecDepth 100000 in
theorem rTim_m (hm : lst B n m) (hi : i ≤ m) {x : Nat × Nat} (h : rTim (tkP B n) i = .inr x) : x.2 ≤ m := by
  unfold rTim at h
  split at h
  · rename_i h5
    cases h
    exact st1 hm hi h5 (by decide) (by decide)
  · split at h
    · rename_i h9
      cases h
      exact st1 hm hi h9 (by decide) (by decide)
    · cases h
set_option maxRecDepth 100000 in
theorem rAct_z (hm : lst B n m) (h6 : m ≤ 600) (hi : i ≤ m) : nzp (rAct (tkP B n) sc p ti i nl) := by
  refine nzp_i (fun h21 => nzp_i (fun _ => nzp_l (by decide)) (fun _ => ?_)) (fun _ => nzp_i (fun _ => nzp_i (fun _ => nzp_r) (fun _ => nzp_l (by decide))) (fun _ => rChg_z hm h6 hi))
  have h21 : kd B n i = 21 := h21
  have h1 := st1 hm hi h21 (by decide) (by decide)
  refine nzp_pb rCol_z (fun c hc => nzp_pb xpP_z (fun j hj => nzp_pb (rFm_z rfl hm h6 ?_ (Or.inl rfl)) (fun _ _ => nzp_r)))
  exact xpP_m hm (rCol_m hm h1 hc) (by decide) (by decide) hj
set_option maxRecDepth 100000 in
theorem rTrg_z (hm : lst B n m) (h6 : m ≤ 600) (hi : i + 1 ≤ m) : nzp (rTrg (tkP B n) sc tr i nl) := by
  refine nzp_pb rNew_z (fun nm hn => nzp_pb rTim_z (fun ti ht => nzp_pb rEvt_z (fun ev he => nzp_pb xpP_z (fun j hj => nzp_pb rTab_z (fun tb hb => nzp_pb ?_ (fun w hw => nzp_pb xpP_z (fun j2 hj2 => nzp_pb ?_ (fun _ _ => nzp_r))))))))
  · have h1 := rTab_m hm (xpP_m hm (rEvt_m hm (rTim_m hm (rNew_m hm hi hn) ht) he) (by decide) (by decide) hj) hb
    refine nzp_i (fun h42 => ?_) (fun _ => nzp_r)
    have h42 : kd B n tb.2 = 42 := h42
    exact nzp_pb (rFm_z rfl hm h6 (st1 hm h1 h42 (by decide) (by decide)) (Or.inr rfl)) (fun _ _ => nzp_r)
  · have h1 := rTab_m hm (xpP_m hm (rEvt_m hm (rTim_m hm (rNew_m hm hi hn) ht) he) (by decide) (by decide) hj) hb
    have h2 : w.2.1 ≤ m := by
      unfold rWhn at hw
      split at hw
      · rename_i h42
        have h42 : kd B n tb.2 = 42 := h42
        obtain ⟨x, hx, hw⟩ := pb_inr hw
        cases hw
        exact (rFm_m rfl hm (st1 hm h1 h42 (by decide) (by decide)) (Or.inr rfl) hx).2
      · cases hw
        exact h1
    exact rAct_z hm h6 (xpP_m hm h2 (by decide) (by decide) hj2)
/-! tables -/
def wok (T : tb_S) : Prop := ∀ q, q < 6 → T.1.2.1 q ≤ 6
set_option maxRecDepth 100000 in
theorem rNam_z {K : tv2} (h6 : sc.2.1 b ≤ 6) : ∀ (f : Nat) (acc : List Nat) (i : Nat), acc.length + f = 7 → (∀ x, x ∈ acc → x < sc.2.1 b) → acc.Nodup → nzp (rNam K sc b f acc i)
  | 0, acc, i, hf, ha, hn => absurd (php _ acc ha hn) (by omega)
  | f + 1, acc, i, hf, ha, hn => by
    refine nzp_pb rCol_z (fun c hc => nzp_i (fun h48 => nzp_pb ?_ (fun _ _ => nzp_r)) (fun _ => nzp_r))
    have hcc : c.1 < sc.2.1 b ∧ acc.contains c.1 = false := by
      unfold rCol at hc
      split at hc
      · split at hc
        · cases hc
        · rename_i hf
          obtain ⟨c', e1, e2, e3⟩ := clF_b h6 hf
          rw [e3] at hc
          split at hc
          · cases hc
          · rename_i hcn
            cases hc
            exact ⟨e2, Bool.eq_false_iff.mpr hcn⟩
      · cases hc
    refine rNam_z h6 f (acc ++ [c.1]) _ (by rw [len_s]; omega) (fun x hx => ?_) (nd_s hn hcc.2)
    rcases List.mem_append.mp hx with h | h
    · exact ha x h
    · rcases List.mem_cons.mp h with rfl | h
      · exact hcc.1
      · cases h
set_option maxRecDepth 100000 in
theorem rNam_0 {K : tv2} (h6 : sc.2.1 b ≤ 6) : nzp (rNam K sc b 7 [] i) := rNam_z h6 7 [] i rfl (fun x hx => by cases hx) List.nodup_nil
set_option maxRecDepth 100000 in
theorem rNam_m (hm : lst B n m) : ∀ (f : Nat) (acc : List Nat) (i : Nat) (x : List Nat × Nat), i ≤ m → rNam (tkP B n) sc b f acc i = .inr x → x.2 ≤ m
  | 0, acc, i, x, hi, h => by cases h
  | f + 1, acc, i, x, hi, h => by
    rw [rNam] at h
    obtain ⟨c, hc, h⟩ := pb_inr h
    have h1 := rCol_m hm hi hc
    split at h
    · rename_i h48
      have h48 : kd B n c.2 = 48 := h48
      obtain ⟨y, hy, h⟩ := pb_inr h
      cases h
      exact rNam_m hm f _ _ y (st1 hm h1 h48 (by decide) (by decide)) hy
    · cases h
      exact h1
set_option maxRecDepth 100000 in
theorem rDef_m (hm : lst B n m) (hi : i ≤ m) : (rDef (tkP B n) i).2 ≤ m := by
  unfold rDef
  split
  · rename_i h
    exact st1 hm hi h (by decide) (by decide)
  · exact hi
set_option maxRecDepth 100000 in
theorem rInt_z {K : tv2} : nzp (rInt K i) := nzp_i (fun _ => nzp_i (fun _ => nzp_r) (fun _ => nzp_l (by decide))) (fun _ => nzp_i (fun _ => nzp_r) (fun _ => nzp_l (by decide)))
set_option maxRecDepth 100000 in
theorem rInt_m (hm : lst B n m) (hi : i ≤ m) {x : Int64 × Nat} (h : rInt (tkP B n) i = .inr x) : x.2 ≤ m := by
  unfold rInt at h
  split at h
  · rename_i h57
    split at h
    · rename_i h4
      cases h
      exact st1 hm (st1 hm hi h57 (by decide) (by decide)) h4 (by decide) (by decide)
    · cases h
  · split at h
    · rename_i h4
      cases h
      exact st1 hm hi h4 (by decide) (by decide)
    · cases h
set_option maxRecDepth 100000 in
theorem rOn_z {K : tv2} : nzp (rOn K w i) := by
  refine nzp_i (fun _ => ?_) (fun _ => nzp_r)
  unfold rAcn
  split
  · exact nzp_l (by decide)
  · exact nzp_r
set_option maxRecDepth 100000 in
theorem rOn_m (hm : lst B n m) (hi : i ≤ m) (h1 : w ≠ 1) (h2 : w ≠ 2) {x : Nat × Nat} (h : rOn (tkP B n) w i = .inr x) : x.2 ≤ m := by
  unfold rOn at h
  split at h
  · rename_i hw
    have h3 := st1 hm hi hw h1 h2
    unfold rAcn at h
    split at h
    · cases h
    · rename_i a ha
      cases h
      rcases acN_s ha with ⟨e, _⟩ | ⟨e, _⟩ | ⟨e, _⟩ | ⟨e, _⟩
      · exact st1 hm h3 e (by decide) (by decide)
      · exact st1 hm h3 e (by decide) (by decide)
      · exact st1 hm h3 e (by decide) (by decide)
      · exact st1 hm h3 e (by decide) (by decide)
  · cases h
    exact hi
set_option maxRecDepth 100000 in
theorem rNnl_g (hm : lst B n m) (hi : i ≤ m) (hW : wok T) : gd (fun T j => wok T ∧ j ≤ m) (rNnl (tkP B n) T b c i nl) := gd_i (fun h23 => gd_i (fun _ => gd_l (by decide)) (fun _ => gd_r ⟨hW, st1 hm hi h23 (by decide) (by decide)⟩)) (fun _ => gd_r ⟨hW, hi⟩)
set_option maxRecDepth 100000 in
theorem rItm_g (hm : lst B n m) (h6 : m ≤ 600) (hi : i ≤ m) (hW : wok T) (hb : b < 6) : gd (fun T j => wok T ∧ j ≤ m) (rItm (tkP B n) T b i nl) := by
  have key : ∀ k, kd B n i ≠ 1 → kd B n i ≠ 2 → gd (fun T j => wok T ∧ j ≤ m) (rKey (tkP B n) T b k i nl) := fun k h1 h2 => by
    have hi1 := st1 hm hi rfl h1 h2
    refine gd_i (fun _ => gd_l (by decide)) (fun _ => gd_pb xpP_z (fun j hj => gd_pb (rNam_0 (hW b hb)) (fun y hy => gd_pb xpP_z (fun j2 hj2 => gd_r ⟨hW, rDef_m hm ?_⟩))))
    exact xpP_m hm (rNam_m hm 7 [] j y (xpP_m hm hi1 (by decide) (by decide) hj) hy) (by decide) (by decide) hj2
  refine gd_i (fun h3 => ?_) (fun _ => gd_i (fun h => key 1 (by have h : kd B n i = 31 := h; omega) (by have h : kd B n i = 31 := h; omega)) (fun _ => gd_i (fun h => key 2 (by have h : kd B n i = 40 := h; omega) (by have h : kd B n i = 40 := h; omega)) (fun _ => gd_i (fun h12 => ?_) (fun _ => gd_i (fun h33 => ?_) (fun _ => gd_l (by decide))))))
  · have h3 : kd B n i = 3 := h3
    have hi1 := st1 hm hi h3 (by decide) (by decide)
    refine gd_i (fun _ => gd_i (fun _ => gd_l (by decide)) (fun hw => ?_)) (fun _ => gd_l (by decide))
    have hW1 : wok (addC T b ((tkP B n).2 i)) := fun q hq => by
      show (if q = b then T.1.2.1 b + 1 else T.1.2.1 q) ≤ 6
      split
      · omega
      · exact hW q hq
    refine gd_i (fun h14 => ?_) (fun _ => rNnl_g hm hi1 hW1)
    have h14 : kd B n (i + 1) = 14 := h14
    exact gd_pb rInt_z (fun x hx => rNnl_g hm (rInt_m hm (st1 hm hi1 h14 (by decide) (by decide)) hx) hW1)
  · have h12 : kd B n i = 12 := h12
    have hi1 := st1 hm hi h12 (by decide) (by decide)
    refine gd_i (fun _ => gd_l (by decide)) (fun _ => gd_pb (rFm_z rfl hm h6 hi1 (Or.inr rfl)) (fun x hx => gd_r ⟨hW, rDef_m hm ?_⟩))
    exact (rFm_m rfl hm hi1 (Or.inr rfl) hx).2
  · have h33 : kd B n i = 33 := h33
    have hi1 := st1 hm hi h33 (by decide) (by decide)
    refine gd_i (fun _ => gd_l (by decide)) (fun _ => gd_pb xpP_z (fun j hj => gd_pb (rNam_0 (hW b hb)) (fun y hy => gd_pb xpP_z (fun j2 hj2 => gd_pb xpP_z (fun j3 hj3 => gd_pb rTab_z (fun tb ht => gd_pb xpP_z (fun j4 hj4 => gd_pb (rNam_0 (hW _ (rTab_i ht).2.1)) (fun ts hts => ?_))))))))
    have h1 := rNam_m hm 7 [] j y (xpP_m hm hi1 (by decide) (by decide) hj) hy
    have h2 := xpP_m hm (xpP_m hm h1 (by decide) (by decide) hj2) (by decide) (by decide) hj3
    have h3 := xpP_m hm (rTab_m hm h2 ht) (by decide) (by decide) hj4
    have h4 := rNam_m hm 7 [] j4 ts h3 hts
    refine gd_i (fun h45 => gd_i (fun _ => ?_) (fun _ => gd_l (by decide))) (fun _ => gd_l (by decide))
    have h45 : kd B n ts.2 = 45 := h45
    have h5 := st1 hm h4 h45 (by decide) (by decide)
    exact gd_pb rOn_z (fun d hd => gd_pb rOn_z (fun u hu => gd_r ⟨hW, rDef_m hm (rOn_m hm (rOn_m hm h5 (by decide) (by decide) hd) (by decide) (by decide) hu)⟩))
set_option maxRecDepth 100000 in
theorem rIts_z (hm : lst B n m) (h6 : m ≤ 600) (hb : b < 6) : ∀ (f : Nat) (T : tb_S) (i : Nat) (nl : Option Nat), i ≤ m → wok T → nzp (rIts (tkP B n) b f T i nl)
  | 0, T, i, nl, hi, hW => nzp_i (fun _ => nzp_i (fun _ => nzp_r) (fun _ => nzp_l (by decide))) (fun _ => nzp_l (by decide))
  | f + 1, T, i, nl, hi, hW => by
    refine nzp_i (fun h48 => ?_) (fun _ => nzp_i (fun _ => nzp_i (fun _ => nzp_r) (fun _ => nzp_l (by decide))) (fun _ => nzp_l (by decide)))
    have h48 : kd B n i = 48 := h48
    have hg := rItm_g (nl := nl) hm h6 (st1 hm hi h48 (by decide) (by decide)) hW hb
    exact nzp_pb hg.1 (fun x hx => rIts_z hm h6 hb f _ _ _ (hg.2 x hx).2 (hg.2 x hx).1)
set_option maxRecDepth 100000 in
theorem rTbl_z (hm : lst B n m) (h6 : m ≤ 600) (hi : i + 1 ≤ m) (hW : wok T) : nzp (rTbl (tkP B n) T i nl) := by
  refine nzp_pb rNew_z (fun nm hn => nzp_pb xpP_z (fun j hj => ?_))
  obtain ⟨b, eb, hb6, _⟩ := tbN_s (rNew_s hn).2.1
  have enat : (tbN T.1.1).toNatClampNeg = b := by rw [eb, nK_nat (by omega)]
  rw [enat]
  have hg := rItm_g (T := nwT T b nm.1) (b := b) (nl := nl) hm h6 (xpP_m hm (rNew_m hm hi hn) (by decide) (by decide) hj) hW hb6
  exact nzp_pb hg.1 (fun x hx => rIts_z hm h6 hb6 600 _ _ _ (hg.2 x hx).2 (hg.2 x hx).1)
end FU2
