/-! THE EVALUATOR is right, 2: calls within the row, the method's end -/
theorem ct_in {l : List (Nat × Nat)} {q : Nat × Nat} (h : l.contains q = true) : q ∈ l := by simpa using h
section CTL
variable {p : Program} {l : Launch} {e : Env} {R : Room} {s : State} {m : MethodId} {args : Array Value} {below : List Frame} {meth : Method} {c : Code} {H : Heap} {locs : List Loc} {cells slots : Nat} {Q : State → Prop}
variable {cc : ByteArray} {pc : Nat} {ls : Array Slot} {D : va_G} {sa : Nat → Nat} {tC : Nat → ClassId} {B L : Nat} {xs : Nat → Int32}
set_option maxHeartbeats 4000000 in
theorem cn_ok (hx : p.tables.exec = Jvm.exec) (hb : c.code = cc) (hml : c.maxLocals = ls.size) (hts : ∀ w ∈ lw_tbl, w.before args s = true) (hSt : ab_St sa L xs (fun q => B ≤ q) s s.heap) (hK : va_K D cls (ab_tys tC) s) (hB : B ≤ s.heap.size) {o : Nat} {ow : String} (how : own.getD o "" = ow) (hown : s.vm.findClass ow = some m.cls)
    {h h' : ab_H} {st st' : List Value} {i : Instr} {len du fr lo : Nat} (hfr : fr ≤ R.frames) (hlo : lo ≤ R.locals) (hP : va_P D cls (ab_w (ab_r sa B) tC B h) H) (hS : va_S (fun q => B ≤ q) s.heap H locs) (hsz : s.heap.size + cells = B + h.length) (hd : decode cc pc = .ok (i, len)) (hm : cn o fr lo i len h st = some (st', h', du))
    (hRc : cells + (h'.length - h.length) ≤ R.cells) (hRs : slots + du ≤ R.slots)
    (kk : ∀ (H1 : Heap) (locs1 : List Loc), va_P D cls (ab_w (ab_r sa B) tC B h') H1 → va_S (fun q => B ≤ q) s.heap H1 locs1 → W p l e R s m args below meth c H1 locs1 (cells + (h'.length - h.length)) (slots + du) Q (F0 m (pc + len) ls (st'.map (ab_v (ab_r sa B))))) :
    W p l e R s m args below meth c H locs cells slots Q (F0 m pc ls (st.map (ab_v (ab_r sa B)))) := by
  have hown' : s.vm.findClass (own.getD o "") = some m.cls := by rw [how]; exact hown
  unfold cn at hm
  split at hm
  · unfold cn_or at hm
    split at hm
    · rename_i a q
      split at hm
      · rename_i e1
        obtain ⟨e1, ⟨e2, e3⟩, e4, e5⟩ := e1
        cases hm
        rw [Nat.sub_self] at kk hRc
        have key : ∀ n : Nat, 1 ≤ n → n ≤ 59 → n = 1 + (n - 1) ∧ n - 1 < 59 := by omega
        obtain ⟨ea, eb⟩ := key a e2 e3
        show W p l e R s m args below meth c H locs cells slots Q (F0 m pc ls (.ref (ab_r sa B a) :: _))
        rw [ea]
        exact ab_ordinal hx hb hts hSt hS hml (or_l_in _ (ct_in e1)) hown' eb (by omega) (by rw [sumc_v]; omega) (by omega) (by omega) hd (fun locs1 g => kk H locs1 hP g)
      · cases hm
    · cases hm
  · rename_i idx
    cases hc : cn_ac o idx fr lo h st with
    | none =>
      rw [hc] at hm
      have hm : cn_mi o idx fr lo h st = some (st', h', du) := hm
      unfold cn_mi at hm
      split at hm
      · split at hm
        · rename_i e0
          split at hm
          · rename_i e1
            cases hm
            rw [Nat.sub_self] at kk hRc
            exact ab_min hx hb hml hts (mi_l_in _ (ct_in e1)) hown' (by omega) (by rw [sumc_v]; omega) (by omega) (by omega) hd (kk H locs hP hS)
          · split at hm
            · rename_i e1
              cases hm
              rw [Nat.sub_self] at kk hRc
              exact ab_max hx hb hml hts (ma_l_in _ (ct_in e1)) hown' (by omega) (by rw [sumc_v]; omega) (by omega) (by omega) hd (kk H locs hP hS)
            · cases hm
        · cases hm
      · split at hm
        · rename_i e1
          cases hm
          rw [Nat.sub_self] at kk hRc
          exact ab_maxl hx hb hml hts (mal_l_in _ (ct_in e1.1)) hown' (by omega) (by rw [sumc_v]; omega) (by omega) (by omega) hd (kk H locs hP hS)
        · cases hm
      · cases hm
    | some z =>
      rw [hc] at hm
      have e9 : z = (st', h', du) := Option.some.inj hm
      subst e9
      clear hm
      unfold cn_ac at hc
      split at hc
      · split at hc
        · rename_i x1 x2
          obtain ⟨ha0, hc0⟩ := mo_arr_s x1
          obtain ⟨ha, hc1⟩ := mo_arr_s x2
          split at hc
          · rename_i e1
            obtain ⟨e1, ⟨e2, e3, e4⟩, e5, e6, e7, e8⟩ := e1
            cases hc
            rw [List.length_set, Nat.sub_self] at kk
            exact ab_copyi hx hb hml hts hK hP hS (ac_l_in _ (ct_in e1)) hown' ha0 ha hc0 hc1 e2 e3 e4 e5 e6 (by omega) (by rw [sumc_v]; omega) hd (fun H1 locs1 g1 g2 => kk H1 locs1 g1 g2)
          · cases hc
        · rename_i x1 x2
          obtain ⟨ha0, hc0⟩ := mo_arr_s x1
          obtain ⟨ha, hc1⟩ := mo_arr_s x2
          split at hc
          · rename_i e1
            obtain ⟨e1, ⟨e2, e3, e4⟩, e5, e6, e7, e8⟩ := e1
            cases hc
            rw [List.length_set, Nat.sub_self] at kk
            exact ab_copyl hx hb hml hts hK hP hS (ac_l_in _ (ct_in e1)) hown' ha0 ha hc0 hc1 e2 e3 e4 e5 e6 (by omega) (by rw [sumc_v]; omega) hd (fun H1 locs1 g1 g2 => kk H1 locs1 g1 g2)
          · cases hc
        · cases hc
      · cases hc
  · unfold cn_oi at hm
    split at hm
    · rename_i a q
      split at hm
      · rename_i e1
        cases hm
        rw [Nat.sub_self] at kk hRc
        exact W.objInit hx hb hown' (hts _ (oi_l_in _ (ct_in e1.1))) (hts _ oi_i) (hts _ oi_c) (g := F0 m pc ls (.ref (ab_r sa B a) :: st'.map (ab_v (ab_r sa B)))) rfl hml.symm rfl hd (by omega) (by show 2 * 0 + _ + 12 ≤ _; rw [sumc_v]; omega) (kk H locs hP hS)
      · cases hm
    · cases hm
  · rename_i idx
    unfold cn_mu at hm
    split at hm
    · rename_i k n q
      split at hm
      · rename_i e1
        obtain ⟨rfl, e2, ⟨e3, e4⟩, e5, e6⟩ := e1
        have how2 : ow = "CascadeStore$Engine" := how.symm
        subst how2
        rcases e2 with rfl | rfl
        · cases hm
          simp only [if_true] at kk hRc
          rw [mu_fill_len, List.length_append, List.length_singleton, show h.length + 1 + n.toNatClampNeg - h.length = 1 + n.toNatClampNeg by omega] at kk hRc
          exact ab_multi hx hb hK hP hS hB hsz (ty := .long) (t1 := 1) (t2 := 9) hown (hts _ mj_w) (hts _ mj_o) ⟨by decide, rfl⟩ ⟨by decide, rfl⟩ (fun z => z) (by decide) rfl (fun cA M => rfl) (fun M => rfl) e3 e4 e5 e6 hRc hRs hd (fun H1 locs1 g1 g2 => kk H1 locs1 g1 g2)
        · cases hm
          simp only [show ¬ ((26 : Nat) = 18) by decide, if_false] at kk hRc
          rw [mu_fill_len, List.length_append, List.length_singleton, show h.length + 1 + n.toNatClampNeg - h.length = 1 + n.toNatClampNeg by omega] at kk hRc
          exact ab_multi hx hb hK hP hS hB hsz (ty := .int) (t1 := 0) (t2 := 10) hown (hts _ mi2_w) (hts _ mi2_o) ⟨by decide, rfl⟩ ⟨by decide, rfl⟩ (fun z => z) (by decide) rfl (fun cA M => rfl) (fun M => rfl) e3 e4 e5 e6 hRc hRs hd (fun H1 locs1 g1 g2 => kk H1 locs1 g1 g2)
      · cases hm
    · cases hm
  · cases hm
theorem cr_ok {Qc : Array Value → State → Outcome → State → Prop} {free : Addr → Prop} (hx : p.tables.exec = Jvm.exec) (hb : c.code = cc) (hlocks : meth.locks = false) {ret : Option FieldType} (hr : meth.sig.returnType = ret) {r : Nat → Nat} {i : Instr} {len : Nat} {st : List Value} {o : Outcome} (hm : cr ret i len st = some o) (hd : decode cc pc = .ok (i, len))
    (hq : ∀ t : State, t.heap = H → s.WarmedH t.vm → Qc args s (ab_o r o) t) (hf : ∀ q ∈ locs, free q.base) : W p l e R s m args below meth c H locs cells slots (fx_Q below Qc args s cells slots free) (F0 m pc ls (st.map (ab_v r))) := by
  subst hr
  generalize hret : meth.sig.returnType = ret at hm
  unfold cr at hm
  split at hm
  · split at hm
    · cases hm
      exact fx_ofMQ (W.vret hx hb hret (fun t ht hW => hq t ht hW) hf hd hlocks)
    · cases hm
  · split at hm
    · split at hm
      · rename_i e1
        cases hm
        exact fx_ofMQ (W.zret hx hb hret e1 (fun t ht hW => hq t ht hW) hf hd hlocks)
      · cases hm
    · cases hm
  · split at hm
    · cases hm
      exact fx_ofMQ (W.lret hx hb hret (fun t ht hW => hq t ht hW) hf hd hlocks)
    · cases hm
  · split at hm
    · cases hm
      exact fx_ofMQ (W.aret (v := .null) hx hb hret (Or.inl ⟨_, rfl⟩) (Or.inl rfl) (fun t ht hW => hq t ht hW) hf hd hlocks)
    · cases hm
      exact fx_ofMQ (W.aret (v := .null) hx hb hret (Or.inr ⟨_, rfl⟩) (Or.inl rfl) (fun t ht hW => hq t ht hW) hf hd hlocks)
    · cases hm
  · split at hm
    · cases hm
      exact fx_ofMQ (W.aret hx hb hret (Or.inl ⟨_, rfl⟩) (Or.inr ⟨_, rfl⟩) (fun t ht hW => hq t ht hW) hf hd hlocks)
    · cases hm
      exact fx_ofMQ (W.aret hx hb hret (Or.inr ⟨_, rfl⟩) (Or.inr ⟨_, rfl⟩) (fun t ht hW => hq t ht hW) hf hd hlocks)
    · cases hm
  · cases hm
end CTL
