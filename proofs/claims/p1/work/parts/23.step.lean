/-! THE EVALUATOR is right, 5: the step; every run -/
section STP
variable {l : Launch} {sa : Nat → Nat} {tC : Nat → ClassId} {B L : Nat} {xs : Nat → Int32} {D : va_G} {go : ev_F}
theorem xs_find {o ia ic : Nat} {q : Nat × Nat × Nat × Nat} (h : xs_l.find? (fun q => q.1 == o && (q.2.1 == ia && q.2.2.1 == ic)) = some q) : (o, ia, ic, q.2.2.2) ∈ xs_l := by
  have h1 := List.find?_some h
  have h2 := List.mem_of_find?_eq_some h
  simp only [Bool.and_eq_true, beq_iff_eq] at h1
  obtain ⟨q1, q2, q3, q4⟩ := q
  obtain ⟨h3, h4, h5⟩ := h1
  have h3 : q1 = o := h3
  have h4 : q2 = ia := h4
  have h5 : q3 = ic := h5
  subst h3
  subst h4
  subst h5
  exact h2
theorem tx_find {o ib : Nat} {q : Nat × Nat × String} (h : tx_l.find? (fun q => q.1 == o && q.2.1 == ib) = some q) : ∃ k : Nat, tx_l[k]? = some (o, ib, q.2.2) := by
  have h1 := List.find?_some h
  have h2 := List.mem_of_find?_eq_some h
  simp only [Bool.and_eq_true, beq_iff_eq] at h1
  obtain ⟨q1, q2, q3⟩ := q
  obtain ⟨h3, h4⟩ := h1
  have h3 : q1 = o := h3
  have h4 : q2 = ib := h4
  subst h3
  subst h4
  exact List.getElem?_of_mem h2
theorem fx_sizeT {p : Program} {e : Env} {R : Room} {s : State} {m : MethodId} {args : Array Value} {below : List Frame} {meth : Method} {c : Code} {H : Heap} {locs : List Loc} {cells slots : Nat} {Q : State → Prop} {g : JFrame} {a : Addr} (k : H.size ≤ s.heap.size + cells → fx_T p l e R s m args below meth c H locs cells slots Q g a) : fx_T p l e R s m args below meth c H locs cells slots Q g a := by
  intro T hT X
  exact k (by rw [← hT]; exact X.heapSize) T hT X
set_option maxHeartbeats 4000000 in
theorem ev_step (htr : ∀ e : Env, l.admits e → e.platform.stackTraces = false) (IH : ev_S l sa tC B L xs D go) : ev_S l sa tC B L xs D (ev_s L xs go) := by
  intro fr lo y pc al st h sl o h' sl' hy hev
  unfold ev_s at hev
  split at hev
  · cases hev
  · rename_i pc0 i len hfd
    have hd : decode y.1.2.1 pc = .ok (i, len) := cd_dec hy hfd
    split at hev
    · rename_i pc1 al1 st1 hp
      obtain ⟨i1, i2, i3⟩ := IH _ _ _ _ _ _ _ _ _ _ _ hy hev
      refine ⟨i1, i2, ?_⟩
      intro p e s m args below meth c R ls H locs cells cf C hf hl hcf hRc hRs hls hP hS hsz
      obtain ⟨c1, c2, c3, c4, c5, c6, c7, c8, c9, w1, w2, w3, w4, w5, w6⟩ := id C
      exact ab_p_ok c1 c2 (ab_inj w2) hd hp hls (fun ls' hl' => i3 p e s m args below meth c R ls' H locs cells cf C hf hl hcf hRc hRs hl' hP hS hsz)
    · split at hev
      · rename_i st1 h1 du hmo
        obtain ⟨i1, i2, i3⟩ := IH _ _ _ _ _ _ _ _ _ _ _ hy hev
        have hlen := mo_len hmo
        refine ⟨Nat.le_trans hlen i1, by omega, ?_⟩
        intro p e s m args below meth c R ls H locs cells cf C hf hl hcf hRc hRs hls hP hS hsz
        obtain ⟨c1, c2, c3, c4, c5, c6, c7, c8, c9, w1, w2, w3, w4, w5, w6⟩ := id C
        exact (mo_ok c1 c2 w1 w2 w3 w4 (cd_own hy) c9 (fun hn => c8 (by simpa using hn)) hP hS hsz hd hmo (by omega) (by omega) (fun H1 locs1 g1 g2 => i3 p e s m args below meth c R ls H1 locs1 (cells + (h1.length - h.length)) cf C hf hl (by omega) hRc hRs hls g1 g2 (by omega))).1
      · split at hev
        · rename_i st1 h1 du hcn
          obtain ⟨i1, i2, i3⟩ := IH _ _ _ _ _ _ _ _ _ _ _ hy hev
          have hlen := cn_len hcn
          refine ⟨Nat.le_trans hlen i1, by omega, ?_⟩
          intro p e s m args below meth c R ls H locs cells cf C hf hl hcf hRc hRs hls hP hS hsz
          obtain ⟨c1, c2, c3, c4, c5, c6, c7, c8, c9, w1, w2, w3, w4, w5, w6⟩ := id C
          exact cn_ok c1 c2 (by rw [c3]; exact hls.1.symm) w1 w2 w3 w4 (cd_own hy) c9 (by omega) (by omega) hP hS hsz hd hcn (by omega) (by omega) (fun H1 locs1 g1 g2 => i3 p e s m args below meth c R ls H1 locs1 (cells + (h1.length - h.length)) cf C hf hl (by omega) hRc hRs hls g1 g2 (by omega))
        · split at hev
          · rename_i o1 hcr
            cases hev
            refine ⟨Nat.le_refl _, Nat.le_refl _, ?_⟩
            intro p e s m args below meth c R ls H locs cells cf C hf hl hcf hRc hRs hls hP hS hsz
            obtain ⟨c1, c2, c3, c4, c5, c6, c7, c8, c9, w1, w2, w3, w4, w5, w6⟩ := id C
            have e1 : cf = cells := by omega
            subst e1
            refine fx_size (fun hz => ?_)
            have hz' := ab_size hP hS w4 hsz hz
            exact cr_ok c1 c2 c5 c4 hcr hd (fun t ht _ => ⟨rfl, by rw [ht]; exact hP, by rw [ht]; exact hS.1, fun q h1 h2 => by rw [ht]; exact hS.2.1 q h1 h2, by rw [ht]; exact hz'⟩) hS.2.2
          · split at hev
            · rename_i yc vs rest hcl
              obtain ⟨k1, k2, k3, k4⟩ := cl_ok (l := l) (sa := sa) (tC := tC) (B := B) (L := L) (xs := xs) (D := D) hy hcl
              subst k3
              split at hev
              · rename_i e1
                obtain ⟨e1, e2, e3⟩ := e1
                have fin : ∀ (o1 : Outcome) (h1 : ab_H) (d1 : Nat), go (fr - 1) (lo - (sumc rest + (yc.1.2.2.1 + 11))) yc 0 (lv_args 0 vs) [] h 0 = some (o1, h1, d1) → h1.length ≤ h'.length → sl + d1 ≤ sl' → h.length ≤ h1.length ∧
                    ∀ (p : Program) (e : Env) (s : State) (m : MethodId) (args : Array Value) (below : List Frame) (meth : Method) (c : Code) (R : Room) (ls : Array Slot) (H : Heap) (locs : List Loc) (cells cf : Nat) (Q : State → Prop),
                    ev_C sa tC B L xs D y p e s m args meth c → R.frames = fr → R.locals = lo → cells + h'.length = cf + h.length → cf ≤ R.cells → sl' ≤ R.slots → lv_has ls y.1.2.2.1 (ab_L (ab_r sa B) al) → va_P D cls (ab_w (ab_r sa B) tC B h) H → va_S (fun q => B ≤ q) s.heap H locs → s.heap.size + cells = B + h.length →
                    (∀ (v : Option Value) (H1 : Heap) (locs1 : List Loc), o1 = .returned v → va_P D cls (ab_w (ab_r sa B) tC B h1) H1 → va_S (fun q => B ≤ q) s.heap H1 locs1 → s.heap.size + (cells + (h1.length - h.length)) = B + h1.length → W p l e R s m args below meth c H1 locs1 (cells + (h1.length - h.length)) (sl + d1) Q (F0 m (pc + 3) ls ((v.toList ++ rest).map (ab_v (ab_r sa B))))) →
                    (∀ (a : Nat) (H1 : Heap) (locs1 : List Loc), o1 = .threw a → va_P D cls (ab_w (ab_r sa B) tC B h1) H1 → va_S (fun q => B ≤ q) s.heap H1 locs1 → s.heap.size + (cells + (h1.length - h.length)) = B + h1.length → H1.size = B + h1.length → fx_T p l e R s m args below meth c H1 locs1 (cells + (h1.length - h.length)) (sl + d1) Q (F0 m pc ls (rest.map (ab_v (ab_r sa B)))) (ab_r sa B a)) →
                    W p l e R s m args below meth c H locs cells sl Q (F0 m pc ls (st.map (ab_v (ab_r sa B)))) := by
                  intro o1 h1 d1 hgo hl1 hs1
                  obtain ⟨j1, -, -⟩ := IH _ _ _ _ _ _ _ _ _ _ _ k1 hgo
                  refine ⟨j1, ?_⟩
                  intro p e s m args below meth c R ls H locs cells cf Q C hf hl hcf hRc hRs hls hP hS hsz kr kt
                  obtain ⟨c1, c2, c3, c4, c5, c6, c7, c8, c9, c10⟩ := id C
                  obtain ⟨w1, w2, w3, w4, w5, w6⟩ := id c10
                  refine fx_size (fun hz => ?_)
                  have hz' := ab_size hP hS w4 hsz hz
                  have hM := ev_met htr IH k1 k2 hgo e3
                  have hback : ∀ (st0 t : State) (Lx : List Loc), st0.heap = H → (st0.heap.size ≤ t.heap.size ∧ (∀ q : Nat, q < st0.heap.size → ¬ B ≤ q → t.heap[q]? = st0.heap[q]?)) → (∀ q ∈ Lx, B ≤ q.base) → va_S (fun q => B ≤ q) s.heap t.heap (locs ++ Lx) := by
                    intro st0 t Lx g1 g2 g3
                    rw [g1] at g2
                    refine ⟨Nat.le_trans hS.1 g2.1, fun q h1 h2 => ?_, fun q hq => ?_⟩
                    · rw [g2.2 q (Nat.lt_of_lt_of_le h1 hS.1) h2]
                      exact hS.2.1 q h1 h2
                    · rcases List.mem_append.mp hq with z | z
                      · exact hS.2.2 q z
                      · exact g3 q z
                  refine fx_call (rest := rest.map (ab_v (ab_r sa B))) (bytes := yc.1.2.1) (maxL := yc.1.2.2.1) (ret := yc.1.2.2.2.1) (hh := yc.1.2.2.2.2) (k4 p e s m args below meth c R ls pc H locs cells sl C hd hP) hM (fun U hU => ?_) (by show fr - 1 + 1 ≤ R.frames; omega) (by rw [c3]; exact hls.1) (by rw [c2]; exact hd)
                    (by rw [sumc_v]; show sumc rest + (yc.1.2.2.1 + 11) + (lo - (sumc rest + (yc.1.2.2.1 + 11))) ≤ R.locals; omega) (by show cells + (h1.length - h.length) ≤ R.cells; omega) (by show sl + d1 ≤ R.slots; omega) (fun U hU hW => ?_) (fun v st0 t Lx g1 g2 g3 g4 g5 => ?_) (fun x st0 t Lx g1 g2 g3 g4 g5 => ?_)
                  · have hu : ∀ w ∈ lw_tbl, ab_gw w = true → w.before (vs.map (ab_v (ab_r sa B))).toArray U = true := fun w hw hg => ab_word hg hU (w1 w hw)
                    refine ⟨mt_cd (hu _ (mt_in _ k2) (mt_gw _)), hu _ (mt_ini _ k2) rfl, atoms_intro (fun w hw => ?_)⟩
                    rw [List.mem_singleton.mp hw]
                    exact hu _ (mt_in _ k2) (mt_gw _)
                  · exact ⟨rfl, c10.on hP hS hz' hU hW, by rw [hU]; exact hP, by rw [hU]; exact hz'⟩
                  · obtain ⟨f1, f2, f3, f4, f5⟩ := g3
                    have f1 : Outcome.returned v = ab_o (ab_r sa B) o1 := f1
                    cases o1 with
                    | returned v0 =>
                      have f6 : v = v0.map (ab_v (ab_r sa B)) := Outcome.returned.inj f1
                      have := kr v0 t.heap (locs ++ Lx) rfl f2 (hback st0 t Lx g1 ⟨f3, f4⟩ g4) (by omega)
                      rw [List.map_append] at this
                      rw [f6]
                      cases v0 with
                      | none => exact this
                      | some z => exact this
                    | threw a0 => cases f1
                  · obtain ⟨f1, f2, f3, f4, f5⟩ := g3
                    have f1 : Outcome.threw x = ab_o (ab_r sa B) o1 := f1
                    cases o1 with
                    | returned v0 => cases f1
                    | threw a0 =>
                      have f6 : x = ab_r sa B a0 := Outcome.threw.inj f1
                      rw [f6]
                      exact kt a0 t.heap (locs ++ Lx) rfl f2 (hback st0 t Lx g1 ⟨f3, f4⟩ g4) (by omega) f5
                split at hev
                · cases hev
                · rename_i v h1 d1 hgo
                  obtain ⟨i1, i2, i3⟩ := IH _ _ _ _ _ _ _ _ _ _ _ hy hev
                  obtain ⟨j1, j2⟩ := fin _ _ _ hgo i1 i2
                  refine ⟨Nat.le_trans j1 i1, by omega, ?_⟩
                  intro p e s m args below meth c R ls H locs cells cf C hf hl hcf hRc hRs hls hP hS hsz
                  refine j2 p e s m args below meth c R ls H locs cells cf _ C hf hl hcf hRc hRs hls hP hS hsz (fun v0 H1 locs1 z1 z2 z3 z4 => ?_) (fun a0 H1 locs1 z1 z2 z3 z4 z5 => by cases z1)
                  cases z1
                  exact i3 p e s m args below meth c R ls H1 locs1 (cells + (h1.length - h.length)) cf C hf hl (by omega) hRc hRs hls z2 z3 z4
                · rename_i a h1 d1 hgo
                  obtain ⟨i1, i2, i3⟩ := ev_thr IH hy hev
                  obtain ⟨j1, j2⟩ := fin _ _ _ hgo i1 i2
                  refine ⟨Nat.le_trans j1 i1, by omega, ?_⟩
                  intro p e s m args below meth c R ls H locs cells cf C hf hl hcf hRc hRs hls hP hS hsz
                  refine j2 p e s m args below meth c R ls H locs cells cf _ C hf hl hcf hRc hRs hls hP hS hsz (fun v0 H1 locs1 z1 z2 z3 z4 => by cases z1) (fun a0 H1 locs1 z1 z2 z3 z4 z5 => ?_)
                  cases z1
                  exact i3 p e s m args below meth c R ls H1 locs1 (cells + (h1.length - h.length)) cf _ C hf hl (by omega) hRc hRs hls z2 z3 z4 z5
              · cases hev
            · split at hev
              · rename_i ci hcx
                obtain ⟨i1, i2, i3⟩ := ev_thr IH hy hev
                rw [List.length_append, List.length_singleton] at i1
                refine ⟨by omega, by omega, ?_⟩
                intro p e s m args below meth c R ls H locs cells cf C hf hl hcf hRc hRs hls hP hS hsz
                obtain ⟨c1, c2, c3, c4, c5, c6, c7, c8, c9, w1, w2, w3, w4, w5, w6⟩ := id C
                unfold cx at hcx
                split at hcx
                · rename_i ia
                  split at hcx
                  · rename_i x1 x2 ib x3 ic x4 q3 q4 q6 q9
                    split at hcx
                    · rename_i q q2 hx1 hx2
                      split at hcx
                      · rename_i e1
                        cases hcx
                        obtain ⟨kx, hkx⟩ := tx_find hx2
                        refine ab_throw c1 c2 c7 w1 w2 w3 hP hS w4 hsz w5 (by rw [c3]; exact hls.1.symm) (xs_find hx1) hkx (cd_own hy) c9 hd (cd_dec hy q3) (cd_dec hy q4) (cd_dec hy q6) (cd_dec hy q9) (by omega) (by rw [sumc_v]; omega) (by omega) (by omega) (fun H1 locs1 g1 g2 => ?_)
                        have hl1 : (h ++ ([.inr (q.2.2.2, [])] : ab_H)).length = h.length + 1 := by simp
                        refine fx_sizeT (fun hz => ?_)
                        have hz' := ab_size g1 g2 w4 (cells := cells + 1) (by rw [hl1]; omega) hz
                        exact i3 p e s m args below meth c R ls H1 locs1 (cells + 1) cf _ C hf hl (by rw [hl1]; omega) hRc hRs hls g1 g2 (by rw [hl1]; omega) hz'
                      · cases hcx
                    · cases hcx
                  · cases hcx
                · cases hcx
              · cases hev
theorem ev_ok (htr : ∀ e : Env, l.admits e → e.platform.stackTraces = false) : ∀ n : Nat, ev_S l sa tC B L xs D (ev L xs n)
  | 0 => fun _ _ _ _ _ _ _ _ _ _ _ _ h => by cases h
  | n + 1 => ev_step htr (ev_ok htr n)
end STP
