/-! THE EVALUATOR is right, 4: the entry of a call; the step; every run -/
theorem na_lt {k n : Nat} (h : na_l[k]? = some n) : k < mt.length := by
  have h1 := (List.getElem?_eq_some_iff.mp h).1
  have h2 : na_l.length = 296 := by decide +kernel
  have h3 : mt.length = 296 := by decide +kernel
  omega
theorem cl_ar_s {k : Nat} {st as tl : List Value} {y : mc_T} (h : cl_ar k st = some (y, as, tl)) : y ∈ mc ∧ mt[k]? = some y.1 ∧ st = as.reverse ++ tl ∧ ∀ sig, parseMethodDescriptor y.1.1.desc = some sig → as.length = sig.parameters.length := by
  unfold cl_ar at h
  split at h
  · rename_i y0 n h1 h2
    split at h
    · rename_i h3
      cases h
      have hk := na_lt h2
      have e1 : (mc.map (fun y => y.1))[k]? = some y.1 := by rw [List.getElem?_map, h1]; rfl
      rw [mc_mt, List.getElem?_append_left hk] at e1
      refine ⟨List.mem_of_getElem? h1, e1, by rw [List.reverse_reverse, List.take_append_drop], fun sig hs => ?_⟩
      have e2 : (mt.zip na_l)[k]? = some (y.1, n) := by rw [List.getElem?_zip_eq_some]; exact ⟨e1, h2⟩
      have e3 := List.all_eq_true.mp na_ck _ (List.mem_of_getElem? e2)
      simp only [hs, Option.map_some, decide_eq_true_eq, Option.some.injEq] at e3
      rw [List.length_reverse, List.length_take, e3]
      omega
    · cases h
  · cases h
theorem ml_link {q : ml_T} {r : mt_T} {o : Nat} {args : Array Value} {s : State} (hr : mt[q.2.2.1]? = some r) (ho : q.1 = o) (h : (ml_word q).before args s = true) : (Cond.methodLink (own.getD o "") q.2.1 r.1).before args s = true ∨ ∃ host, (Cond.methodLinkNest (own.getD o "") q.2.1 r.1 host).before args s = true := by
  unfold ml_word at h
  rw [hr, ho] at h
  simp only at h
  split at h
  · exact Or.inr ⟨_, h⟩
  · exact Or.inl h
theorem ml_find {l : List ml_T} {o idx : Nat} {q : ml_T} (h : l.find? (fun q => q.1 == o && q.2.1 == idx) = some q) : q ∈ l ∧ q.1 = o ∧ q.2.1 = idx := by
  have h1 := List.find?_some h
  simp only [Bool.and_eq_true, beq_iff_eq] at h1
  exact ⟨List.mem_of_find?_eq_some h, h1.1, h1.2⟩
theorem cls_own {ci : Nat} (h : ci < 12) : ∃ r : vw_C, cls[ci]? = some r ∧ r.1 = own.getD ci "" := by
  match ci, h with
  | 0, _ => exact ⟨_, rfl, rfl⟩
  | 1, _ => exact ⟨_, rfl, rfl⟩
  | 2, _ => exact ⟨_, rfl, rfl⟩
  | 3, _ => exact ⟨_, rfl, rfl⟩
  | 4, _ => exact ⟨_, rfl, rfl⟩
  | 5, _ => exact ⟨_, rfl, rfl⟩
  | 6, _ => exact ⟨_, rfl, rfl⟩
  | 7, _ => exact ⟨_, rfl, rfl⟩
  | 8, _ => exact ⟨_, rfl, rfl⟩
  | 9, _ => exact ⟨_, rfl, rfl⟩
  | 10, _ => exact ⟨_, rfl, rfl⟩
  | 11, _ => exact ⟨_, rfl, rfl⟩
theorem ctn {l : List Nat} {q : Nat} (h : l.contains q = true) : q ∈ l := by simpa using h
section CLS
variable {l : Launch} {sa : Nat → Nat} {tC : Nat → ClassId} {B L : Nat} {xs : Nat → Int32} {D : va_G} {go : ev_F}
theorem cl_ok {y yc : mc_T} {h : ab_H} {i : Instr} {len : Nat} {st vs rest : List Value} (hy : y ∈ mc) (hcl : cl y.2.1 h i len st = some (yc, vs, rest)) :
    yc ∈ mc ∧ yc.1 ∈ mt ∧ len = 3 ∧ ∀ (p : Program) (e : Env) (s : State) (m : MethodId) (args : Array Value) (below : List Frame) (meth : Method) (c : Code) (R : Room) (ls : Array Slot) (pc : Nat) (H : Heap) (locs : List Loc) (cells slots : Nat),
      ev_C sa tC B L xs D y p e s m args meth c → decode y.1.2.1 pc = .ok (i, len) → va_P D cls (ab_w (ab_r sa B) tC B h) H → ∀ T : State, T.heap = H → Stand p l e R s m args below meth c T locs cells slots →
      fx_En p l e R s m args below meth c T locs cells slots (F0 m pc ls (st.map (ab_v (ab_r sa B)))) (rest.map (ab_v (ab_r sa B))) yc.1.1 (vs.map (ab_v (ab_r sa B))).toArray := by
  unfold cl at hcl
  split at hcl
  · rename_i idx
    split at hcl
    · rename_i q hq
      obtain ⟨m1, m2, m3⟩ := ml_find hq
      split at hcl
      · rename_i y0 as b tl har
        obtain ⟨a1, a2, a3, a4⟩ := cl_ar_s har
        split at hcl
        · rename_i ci fs hob
          split at hcl
          · rename_i e1
            obtain ⟨e1, e2, e3⟩ := e1
            cases hcl
            have hmt := List.mem_of_getElem? a2
            refine ⟨a1, hmt, rfl, ?_⟩
            intro p e s m args below meth c R ls pc H locs cells slots C hd hP T hT X
            obtain ⟨c1, c2, c3, c4, c5, c6, c7, c8, c9, w1, w2, w3, w4, w5, w6⟩ := C
            have hown : s.vm.findClass (own.getD y.2.1 "") = some m.cls := by rw [cd_own hy]; exact c9
            have hlink := ml_link a2 m2 (w1 _ (mlV_in q m1))
            rw [m3] at hlink
            have hin := w1 _ (mV_i _ (ctn e3))
            have hse := w1 _ (mV_s _ (ctn e3))
            unfold mi_word at hin
            unfold ms_word at hse
            rw [a2] at hin hse
            obtain ⟨r, hr, hrn⟩ := cls_own e2
            obtain ⟨cell, g1, g2, g3⟩ := ab_obj w3 hP hob hr
            rw [hrn, e1, cd_own a1] at g3
            have hmh : yc.1.1.cls ≠ "java/lang/invoke/MethodHandle" ∧ yc.1.1.cls ≠ "java/lang/invoke/VarHandle" := by
              have := List.all_eq_true.mp mt_mh _ hmt
              simpa using this
            have key := fx_enV X c1 hown hlink hin hse (mt_cd (w1 _ (mt_in _ hmt))) hmh (b := ab_r sa B b) (cellB := cell) (by rw [hT]; exact g1) g2 g3 (g := F0 m pc ls (st.map (ab_v (ab_r sa B)))) rfl (argsL := as.map (ab_v (ab_r sa B))) (rest := rest.map (ab_v (ab_r sa B))) (fun sig hs => by rw [List.length_map]; exact a4 sig hs)
              (by show st.map (ab_v (ab_r sa B)) = _; rw [a3, List.map_append, List.map_cons, List.map_reverse]; rfl) (by rw [c2]; exact hd)
            exact key
          · cases hcl
        · cases hcl
      · cases hcl
    · cases hcl
  · rename_i idx
    split at hcl
    · rename_i q hq
      obtain ⟨m1, m2, m3⟩ := ml_find hq
      split at hcl
      · rename_i y0 as tl har
        obtain ⟨a1, a2, a3, a4⟩ := cl_ar_s har
        split at hcl
        · rename_i e3
          cases hcl
          have hmt := List.mem_of_getElem? a2
          refine ⟨a1, hmt, rfl, ?_⟩
          intro p e s m args below meth c R ls pc H locs cells slots C hd hP T hT X
          obtain ⟨c1, c2, c3, c4, c5, c6, c7, c8, c9, w1, w2, w3, w4, w5, w6⟩ := C
          have hown : s.vm.findClass (own.getD y.2.1 "") = some m.cls := by rw [cd_own hy]; exact c9
          have hlink := ml_link a2 m2 (w1 _ (mlS_in q m1))
          rw [m3] at hlink
          have hst := w1 _ (mS_i _ (ctn e3))
          unfold mx_word at hst
          rw [a2] at hst
          have hmh : yc.1.1.cls ≠ "java/lang/invoke/MethodHandle" ∧ yc.1.1.cls ≠ "java/lang/invoke/VarHandle" := by
            have := List.all_eq_true.mp mt_mh _ hmt
            simpa using this
          exact fx_enS X c1 hown hlink hst (w1 _ (mt_ini _ hmt)) (mt_cd (w1 _ (mt_in _ hmt))) hmh (g := F0 m pc ls (st.map (ab_v (ab_r sa B)))) rfl (argsL := vs.map (ab_v (ab_r sa B))) (rest := rest.map (ab_v (ab_r sa B))) (fun sig hs => by rw [List.length_map]; exact a4 sig hs)
              (by show st.map (ab_v (ab_r sa B)) = _; rw [a3, List.map_append, List.map_reverse]) (by rw [c2]; exact hd)
        · cases hcl
      · cases hcl
    · cases hcl
  · rename_i idx
    split at hcl
    · rename_i q hq
      obtain ⟨m1, m2, m3⟩ := ml_find hq
      split at hcl
      · rename_i y0 as b tl har
        obtain ⟨a1, a2, a3, a4⟩ := cl_ar_s har
        split at hcl
        · rename_i e1
          obtain ⟨e3, e4, e5, e6⟩ := e1
          cases hcl
          have hmt := List.mem_of_getElem? a2
          refine ⟨a1, hmt, rfl, ?_⟩
          intro p e s m args below meth c R ls pc H locs cells slots C hd hP T hT X
          obtain ⟨c1, c2, c3, c4, c5, c6, c7, c8, c9, w1, w2, w3, w4, w5, w6⟩ := C
          have hown : s.vm.findClass (own.getD y.2.1 "") = some m.cls := by rw [cd_own hy]; exact c9
          have hlink := ml_link a2 m2 (w1 _ (mlI_in q m1))
          rw [m3] at hlink
          have hin := w1 _ (mN_i _ (ctn e3))
          unfold mi_word at hin
          rw [a2] at hin
          have hcode := w1 _ (mt_in _ hmt)
          unfold mt_word at hcode
          rw [e6, e5] at hcode
          have hmh : yc.1.1.cls ≠ "java/lang/invoke/MethodHandle" ∧ yc.1.1.cls ≠ "java/lang/invoke/VarHandle" := by
            have := List.all_eq_true.mp mt_mh _ hmt
            simpa using this
          exact fx_enI X c1 hown e4 hlink hin hcode hmh (g := F0 m pc ls (st.map (ab_v (ab_r sa B)))) rfl (b := ab_r sa B b) (argsL := as.map (ab_v (ab_r sa B))) (rest := rest.map (ab_v (ab_r sa B))) (fun sig hs => by rw [List.length_map]; exact a4 sig hs)
            (by show st.map (ab_v (ab_r sa B)) = _; rw [a3, List.map_append, List.map_cons, List.map_reverse]; rfl) (by rw [c2]; exact hd)
        · cases hcl
      · cases hcl
    · cases hcl
  · cases hcl
/-- what a callee finds holds wherever it is called -/
theorem ev_Wd.on {args a' : Array Value} {s U : State} {h : ab_H} {H : Heap} {locs : List Loc} (w : ev_Wd sa tC B L xs D args s) (hP : va_P D cls (ab_w (ab_r sa B) tC B h) H) (hS : va_S (fun q => B ≤ q) s.heap H locs) (hz : H.size = B + h.length) (hU : U.heap = H) (hW : s.WarmedH U.vm) : ev_Wd sa tC B L xs D a' U := by
  obtain ⟨w1, w2, w3, w4, w5, w6⟩ := w
  refine ⟨ab_hts hW (fun x h1 h2 => by rw [hU]; exact hS.2.1 x h1 h2) w5 w1 a', ?_, w3.moved hW.alike, by rw [hU]; exact Nat.le_trans w4 hS.1, by rw [hU]; exact ab_Ns hP hz, w6.warm hW.alike⟩
  rw [hU]
  exact (w2.kept hS.1 hS.2.1).warm hW
end CLS
