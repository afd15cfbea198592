
/-! EVERY WORLD BEHIND A STATEMENT IS ONE THAT CAN BE -/
section WOK
variable {B : Nat → Nat} {n m i b c : Nat} {W : wo_T} {T : tb_S} {u : ru_T} {g : tr_T} {wd wd' : Nat → Nat} {K : tv2} {nl : Option Nat} {tn tn' : Nat → Int64}
set_option maxRecDepth 100000 in
theorem okR_c (h1 : wd' (rTb u) = wd (rTb u)) (h2 : ∀ c, rTg u = some c → wd' c = wd c) (R : okR wd u) : okR wd' u := by
  obtain ⟨⟨a1, a2, a3, a4⟩, a5, a6, a7, a8⟩ := R
  refine ⟨⟨a1, a2, a3, fun c hc => by rw [h1]; exact a4 c hc⟩, fun e => ?_, a6, fun e => ?_, a8⟩
  · obtain ⟨⟨b, e1, e2, e3⟩, e4⟩ := a5 e
    exact ⟨⟨b, e1, e2, fun c hc => by rw [h2 b e1]; exact e3 c hc⟩, e4⟩
  · obtain ⟨e1, O, e2, e3, e4⟩ := a7 e
    exact ⟨e1, O, e2, e3, by rw [h1]; exact e4⟩
set_option maxRecDepth 100000 in
theorem okA2_c {w0 w2 w3 : Nat} {a : ac_T} (h : ∀ c, aTb a = some c → wd' c = wd c) (A : okA2 wd w0 w2 w3 a) : okA2 wd' w0 w2 w3 a := by
  rcases A with ⟨k, b, a1, a2, a3, a4, a5⟩ | ⟨k, b, a1, a2, a3, a4, a5, a6, a7⟩ | ⟨k, b, a1, a2, a3⟩ | A | A
  · exact Or.inl ⟨k, b, a1, a2, by rw [h b a1]; exact a3, a4, by rw [h b a1]; exact a5⟩
  · exact Or.inr (Or.inl ⟨k, b, a1, a2, a3, a4, fun c hc => by rw [h b a1]; exact a5 c hc, fun s hs => by rw [h b a1]; exact a6 s hs, by rw [h b a1]; exact a7⟩)
  · exact Or.inr (Or.inr (Or.inl ⟨k, b, a1, a2, by rw [h b a1]; exact a3⟩))
  · exact Or.inr (Or.inr (Or.inr (Or.inl A)))
  · exact Or.inr (Or.inr (Or.inr (Or.inr A)))
set_option maxRecDepth 100000 in
theorem okG_c (h1 : wd' (gTb g) = wd (gTb g)) (h2 : ∀ c, aTb (gAc g) = some c → wd' c = wd c) (G : okG wd g) : okG wd' g := by
  obtain ⟨a1, a2, a3, a4, a5⟩ := G
  have e1 : wN wd' (gTb g) (gEv g) = wN wd (gTb g) (gEv g) := by unfold wN; rw [h1]
  have e2 : wO wd' (gTb g) (gEv g) = wO wd (gTb g) (gEv g) := by unfold wO; rw [h1]
  refine ⟨a1, a2, a3, by rw [e1, e2]; exact a4, ?_⟩
  rw [e1, e2, h1]
  exact okA2_c h2 a5
set_option maxRecDepth 100000 in
theorem fnW_ok {α : Type} {r : pz_T (α × Nat × Option Nat)} {f : α → xr_T} (h : wOk W) (hf : ∀ a i nl, r = .inr (a, i, nl) → wOk (f a).2.2) : wOk (fnW W B n r f).2.2 := by
  unfold fnW
  split
  · exact h
  · rename_i x
    split
    · exact hf x.1 x.2.1 x.2.2 rfl
    · exact h
set_option maxRecDepth 100000 in
theorem smN_le {f g : Nat → Nat} : ∀ (n k : Nat), (∀ j, f j ≤ g j) → smN f n k ≤ smN g n k
  | 0, _, _ => Nat.le_refl _
  | n + 1, k, h => Nat.add_le_add (h k) (smN_le n (k + 1) h)
/-! nodes of a table that was read -/
set_option maxRecDepth 100000 in
theorem rIts_l : ∀ (f : Nat) (T : tb_S) (i : Nat) (nl : Option Nat), okY T i nl (rIts K b f T i nl)
  | 0, T, i, nl => by
    show okY T i nl (rEnd K T b i nl)
    unfold rEnd
    exact okY_i (fun _ => okY_i (fun _ => okY_r (Nat.le_succ i)) (fun _ => okY_l)) (fun _ => okY_l)
  | f + 1, T, i, nl => by
    show okY T i nl (if K.1 i = 48 then pb (rItm K T b (i + 1) nl) (fun x => rIts K b f x.1 x.2.1 x.2.2) else rEnd K T b i nl)
    refine okY_i (fun _ => ?_) (fun _ => ?_)
    · intro T' i' nl' e
      obtain ⟨y, h1, h2⟩ := pb_inr e
      have g1 := rItm_n (K := K) (Tb := T) (b := b) (i := i + 1) (nl := nl) y.1 y.2.1 y.2.2 h1
      have g2 := rIts_l f y.1 y.2.1 y.2.2 T' i' nl' h2
      refine ⟨by omega, fun k hk => ?_⟩
      obtain ⟨k1, e1, e2⟩ := g1.2 k hk
      obtain ⟨k2, e3, e4⟩ := g2.2 k1 e1
      exact ⟨k2, e3, by omega⟩
    · unfold rEnd
      exact okY_i (fun _ => okY_i (fun _ => okY_r (Nat.le_succ i)) (fun _ => okY_l)) (fun _ => okY_l)
set_option maxRecDepth 100000 in
theorem rTbl_l {x : tb_S × Nat × Option Nat} {k : Nat} (h : rTbl K T i (some k) = .inr x) : ndT x.1 ≤ ndT T + k := by
  obtain ⟨nm, h0, h⟩ := pb_inr h
  obtain ⟨j, h1, h⟩ := pb_inr h
  obtain ⟨y, h2, h⟩ := pb_inr h
  obtain ⟨k1, e1, e2⟩ := (rItm_n y.1 y.2.1 y.2.2 h2).2 k rfl
  obtain ⟨k2, e3, e4⟩ := (rIts_l 600 y.1 y.2.1 y.2.2 x.1 x.2.1 x.2.2 h).2 k1 e1
  have e5 : ndT (nwT T (tbN T.1.1).toNatClampNeg nm.1) = ndT T := rfl
  omega
set_option maxRecDepth 100000 in
theorem ndS_T {ru : Nat → Option ru_T} {tr : Nat → Option tr_T} : ndS ru tr = smN (fun i => ndU (ru i)) 24 0 + smN (fun i => ndG (tr i)) 8 0 := rfl
set_option maxRecDepth 100000 in
theorem xTab_ok (hm : lst B n m) (h6 : m ≤ 600) (h1 : 0 + 1 ≤ m) (h : wOk W) {T' : tb_S} {i' : Nat} {nl' : Option Nat} (hr : rTbl (tkP B n) (wT W) 0 (nlW W) = .inr (T', i', nl')) : wOk (xTab W T').2.2 := by
  unfold xTab
  cases hx : xIn (wX W) with
  | true => exact h
  | false =>
    show wOk (T', W.2)
    obtain ⟨h1', h2, h3, h4, h5⟩ := h
    obtain ⟨g1, b, nm, e1, e2, e3, e4, e5, e6, _⟩ := rTbl_w hm h6 h1 h1' hr
    have e5 : ∀ q, T'.1.1 q = if q = b then nm else (wT W).1.1 q := fun q => by rw [show T'.1.1 = _ from e5]
    have e6 : ∀ q, q ≠ b → T'.1.2.1 q = (wT W).1.2.1 q := e6
    have nb : ∀ q, (wT W).1.1 q ≠ 0 → q ≠ b := fun q hq e => hq (by rw [e]; exact e3)
    refine ⟨g1, fun i g hg => ?_, ?_, ?_, ?_⟩
    · obtain ⟨a1, a2, a3, a4⟩ := h2 i g hg
      refine ⟨okG_c (e6 _ (nb _ a2)) (fun c hc => e6 _ (nb _ (a3 c hc).2)) a1, ?_, fun c hc => ⟨(a3 c hc).1, ?_⟩, a4⟩
      · show T'.1.1 (gTb g) ≠ 0
        rw [e5, if_neg (nb _ a2)]; exact a2
      · show T'.1.1 c ≠ 0
        rw [e5, if_neg (nb _ (a3 c hc).2)]; exact (a3 c hc).2
    · have := rTbl_l (k := 400 - ndS (wU W) (wG W)) hr
      have q1 : ndS (wU W) (wG W) = ndT (wT W) + smN (fun i => ndG (wG W i)) 8 0 := rfl
      have q2 : ndS (wU (T', W.2)) (wG (T', W.2)) = ndT T' + smN (fun i => ndG (wG W i)) 8 0 := rfl
      have q3 : ndT (T', i', nl').1 = ndT T' := rfl
      omega
    · have z := h4.2.1 hx
      exact ⟨fun i _ => z.1 i, fun _ => z, h4.2.2⟩
    · refine ⟨fun q hq hz => ?_, fun z => ?_, fun j hj => ?_⟩
      · have hz : T'.1.1 q = 0 := hz
        rw [e5] at hz
        split at hz
        · exact absurd hz e4
        · exact h5.1 q hq hz
      · have z : xIn (wX W) = true := z
        rw [hx] at z
        cases z
      · have hj : j < (xMk (wX W)).1 := hj
        rw [(h4.2.1 hx).2] at hj
        omega
set_option maxRecDepth 100000 in
theorem trN_w {tr : Nat → Option tr_T} (h : trN tr ≠ -1) : ∃ s, trN tr = nI s ∧ s < 8 ∧ tr s = none ∧ (trN tr).toNatClampNeg = s := by
  rcases fnd_b (fun j => (tr j).isNone) 8 0 with z | ⟨j, h1, h2, h3, h4⟩
  · exact absurd z h
  · exact ⟨j, h1, by omega, Option.isNone_iff_eq_none.mp h4, by unfold trN; rw [h1]; exact nK_nat (by omega)⟩
set_option maxRecDepth 100000 in
theorem rNew_v {f : Int64 → Int32} {w : Int32} {x : Int64 × Nat} (h : rNew K f w i = .inr x) : w ≠ -1 := by
  unfold rNew at h
  split at h
  · split at h
    · split at h
      · cases h
      · rename_i hw
        exact hw
    · cases h
  · cases h
set_option maxRecDepth 100000 in
theorem rTrg_s {sc : sc_T} {tr : Nat → Option tr_T} {x : tr_T × Nat × Option Nat} (h : rTrg K sc tr i nl = .inr x) : trN tr ≠ -1 := by
  obtain ⟨nm, h0, h⟩ := pb_inr h
  exact rNew_v h0
set_option maxRecDepth 100000 in
theorem xTrg_ok (hm : lst B n m) (h6 : m ≤ 600) (h1 : 0 + 1 ≤ m) (h : wOk W) {G : tr_T} {i' : Nat} {nl' : Option Nat} (hr : rTrg (tkP B n) (wT W).1 (wG W) 0 (nlW W) = .inr (G, i', nl')) : wOk (xTrg W G).2.2 := by
  unfold xTrg
  cases hx : xIn (wX W) with
  | true => exact h
  | false =>
    show wOk (wT W, upG (wG W) (trN (wG W)).toNatClampNeg (some G), W.2.2)
    obtain ⟨h1', h2, h3, h4, h5⟩ := h
    obtain ⟨s, e1, e2, e3, e4⟩ := trN_w (rTrg_s hr)
    rw [e4]
    obtain ⟨g1, g2⟩ := rTrg_w hm h6 h1 (fun b hb hz => ⟨(h1'.1 b hb).1, (h1'.1 b hb).2.1 hz⟩) hr
    refine ⟨h1', fun i g hg => ?_, ?_, h4, h5⟩
    · have hg : (if i = s then some G else wG W i) = some g := hg
      split at hg
      · cases hg
        exact ⟨g1, g2⟩
      · exact h2 i g hg
    · have hl := rTrg_l hr
      have hs := smN_up (r := s) (f := fun i => ndG (wG W i)) (g := fun i => ndG (upG (wG W) s (some G) i)) 8 0 (fun j _ _ hj => by
        show ndG (if j = s then some G else wG W j) = _
        rw [if_neg hj]) (by omega) (by omega)
      have q0 : ndG (wG W s) = 0 := by rw [e3]; rfl
      have q1 : ndG (upG (wG W) s (some G) s) = ndG (some G) := by
        show ndG (if s = s then some G else wG W s) = _
        rw [if_pos rfl]
      simp only [q0, q1] at hs
      rcases hl with ⟨z, _⟩ | ⟨a, b, z1, z2, z3⟩
      · cases z
      · cases z1
        have q2 : ndS (wU W) (wG W) = ndT (wT W) + smN (fun i => ndG (wG W i)) 8 0 := rfl
        have q3 : ndS (wU (wT W, upG (wG W) s (some G), W.2.2)) (wG (wT W, upG (wG W) s (some G), W.2.2)) = ndT (wT W) + smN (fun i => ndG (upG (wG W) s (some G) i)) 8 0 := rfl
        have z3 : 400 - ndS (wU W) (wG W) = b + ndG (some G) := z3
        omega
end WOK
