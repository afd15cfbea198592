/-! THE EVALUATOR is right, 3: calls, exceptions; the whole -/
def ev_Wd (sa : Nat → Nat) (tC : Nat → ClassId) (B L : Nat) (xs : Nat → Int32) (D : va_G) (args : Array Value) (s : State) : Prop :=
  (∀ w ∈ lw_tbl, w.before args s = true) ∧ ab_St sa L xs (fun q => B ≤ q) s s.heap ∧ va_K D cls (ab_tys tC) s ∧ B ≤ s.heap.size ∧ (∀ (x : Nat) (cell : Cell), B ≤ x → s.heap[x]? = some cell → cell.vm.isStatics = false) ∧ ab_nc s
def ev_C (sa : Nat → Nat) (tC : Nat → ClassId) (B L : Nat) (xs : Nat → Int32) (D : va_G) (y : mc_T) (p : Program) (e : Env) (s : State) (m : MethodId) (args : Array Value) (meth : Method) (c : Code) : Prop :=
  p.tables.exec = Jvm.exec ∧ c.code = y.1.2.1 ∧ c.maxLocals = y.1.2.2.1 ∧ meth.sig.returnType = y.1.2.2.2.1 ∧ meth.locks = false ∧ c.exceptionTable.toList.map ex_q = y.1.2.2.2.2 ∧ e.platform.stackTraces = false ∧ (y.1.1.name = "<init>" → meth.name = "<init>") ∧ s.vm.findClass y.1.1.cls = some m.cls ∧ ev_Wd sa tC B L xs D args s
def ev_Q (sa : Nat → Nat) (tC : Nat → ClassId) (B : Nat) (D : va_G) (o : Outcome) (h' : ab_H) : Array Value → State → Outcome → State → Prop := fun _ st o' t =>
  o' = ab_o (ab_r sa B) o ∧ va_P D cls (ab_w (ab_r sa B) tC B h') t.heap ∧ st.heap.size ≤ t.heap.size ∧ (∀ q : Nat, q < st.heap.size → ¬ B ≤ q → t.heap[q]? = st.heap[q]?) ∧ t.heap.size = B + h'.length
/-- what a run of the evaluator says of the machine -/
def ev_G (l : Launch) (sa : Nat → Nat) (tC : Nat → ClassId) (B L : Nat) (xs : Nat → Int32) (D : va_G) (fr lo : Nat) (y : mc_T) (pc : Nat) (al : List (Nat × Value)) (st : List Value) (h : ab_H) (sl : Nat) (o : Outcome) (h' : ab_H) (sl' : Nat) : Prop :=
  h.length ≤ h'.length ∧ sl ≤ sl' ∧ ∀ (p : Program) (e : Env) (s : State) (m : MethodId) (args : Array Value) (below : List Frame) (meth : Method) (c : Code) (R : Room) (ls : Array Slot) (H : Heap) (locs : List Loc) (cells cf : Nat),
    ev_C sa tC B L xs D y p e s m args meth c → R.frames = fr → R.locals = lo → cells + h'.length = cf + h.length → cf ≤ R.cells → sl' ≤ R.slots → lv_has ls y.1.2.2.1 (ab_L (ab_r sa B) al) → va_P D cls (ab_w (ab_r sa B) tC B h) H → va_S (fun q => B ≤ q) s.heap H locs → s.heap.size + cells = B + h.length →
    W p l e R s m args below meth c H locs cells sl (fx_Q below (ev_Q sa tC B D o h') args s cf sl' (fun q => B ≤ q)) (F0 m pc ls (st.map (ab_v (ab_r sa B))))
def ev_S (l : Launch) (sa : Nat → Nat) (tC : Nat → ClassId) (B L : Nat) (xs : Nat → Int32) (D : va_G) (go : ev_F) : Prop := ∀ (fr lo : Nat) (y : mc_T) (pc : Nat) (al : List (Nat × Value)) (st : List Value) (h : ab_H) (sl : Nat) (o : Outcome) (h' : ab_H) (sl' : Nat), y ∈ mc → go fr lo y pc al st h sl = some (o, h', sl') → ev_G l sa tC B L xs D fr lo y pc al st h sl o h' sl'
theorem lg_sl_len (r : Nat → Nat) (vs : List Value) : (lg_sl (vs.map (ab_v r))).length = (lg_sl vs).length := by
  induction vs with
  | nil => rfl
  | cons v t ih =>
    simp only [lg_sl, List.map_cons, List.flatMap_cons, List.length_append, ab_v_cat] at ih ⊢
    rw [ih]
    by_cases hv : v.category = 2 <;> simp [hv]
theorem lv_args_L (r : Nat → Nat) : ∀ (vs : List Value) (i : Nat), lv_args i (vs.map (ab_v r)) = ab_L r (lv_args i vs)
  | [], _ => rfl
  | v :: vs, i => by
    simp only [List.map_cons, lv_args, ab_L, ab_v_cat]
    rw [lv_args_L r vs]
    rfl
theorem mt_mh : mt.all (fun q => decide (q.1.cls ≠ "java/lang/invoke/MethodHandle" ∧ q.1.cls ≠ "java/lang/invoke/VarHandle")) = true := by decide +kernel
theorem mt_cd {q : mt_T} {a : Array Value} {U : State} (h : (mt_word q).before a U = true) : fx_Cd q.1 q.2.1 q.2.2.1 q.2.2.2.1 q.2.2.2.2 U := by
  obtain ⟨y, b, n, rt, hh⟩ := q
  cases hh with
  | nil => exact fx_Cd.of h
  | cons z r => exact fx_Cd.ofH h
theorem mt_gw (q : mt_T) : ab_gw (mt_word q) = true := by
  obtain ⟨y, b, n, rt, hh⟩ := q
  cases hh <;> rfl
section SND
variable {l : Launch} {sa : Nat → Nat} {tC : Nat → ClassId} {B L : Nat} {xs : Nat → Int32} {D : va_G} {go : ev_F}
/-- what a callee finds -/
def ev_P (sa : Nat → Nat) (tC : Nat → ClassId) (B L : Nat) (xs : Nat → Int32) (D : va_G) (vs : List Value) (h : ab_H) : Array Value → State → Prop := fun a U =>
  a = (vs.map (ab_v (ab_r sa B))).toArray ∧ ev_Wd sa tC B L xs D a U ∧ va_P D cls (ab_w (ab_r sa B) tC B h) U.heap ∧ U.heap.size = B + h.length
theorem ev_met (htr : ∀ e : Env, l.admits e → e.platform.stackTraces = false) (IH : ev_S l sa tC B L xs D go) {fr lo : Nat} {yc : mc_T} {vs : List Value} {h h1 : ab_H} {o : Outcome} {d1 : Nat} (hyc : yc ∈ mc) (hmt : yc.1 ∈ mt) (hgo : go fr lo yc 0 (lv_args 0 vs) [] h 0 = some (o, h1, d1)) (hlen : (lg_sl vs).length ≤ yc.1.2.2.1) :
    fx_Met l yc.1.1 [mt_word yc.1] { frames := fr, cells := h1.length - h.length, slots := d1, locals := lo } (ev_P sa tC B L xs D vs h) (ev_Q sa tC B D o h1) (h1.length - h.length) d1 (fun q => B ≤ q) := by
  obtain ⟨i1, i2, i3⟩ := IH _ _ _ _ _ _ _ _ _ _ _ hyc hgo
  have hpl : plainName yc.1.1.cls = true := List.all_eq_true.mp mt_plain _ hmt
  have body : ∀ p e s m args below meth c s₁, BodyLoose p l yc.1.1 (headSpec [mt_word yc.1] { frames := fr, cells := h1.length - h.length, slots := d1, locals := lo }) yc.1.2.1 yc.1.2.2.1 yc.1.2.2.2.1 e s m args below meth c s₁ → c.maxLocals = yc.1.2.2.1 → ev_P sa tC B L xs D vs h args s →
      W p l e (headSpec [mt_word yc.1] { frames := fr, cells := h1.length - h.length, slots := d1, locals := lo }).room s m args below meth c s.heap [] 0 0 (fx_Q below (ev_Q sa tC B D o h1) args s (h1.length - h.length) d1 (fun q => B ≤ q)) (entryFrame m args yc.1.2.2.1) := by
    intro p e s m args below meth c s₁ Bd hml hPc
    obtain ⟨rfl, hW, hP, hsz⟩ := hPc
    have X := Stand.of_body Bd
    obtain ⟨m9, meth9, c9, n1, n2, n3, n4, n5, n6, n7, n8, n9⟩ := mt_cd (hW.1 _ (mt_in _ hmt))
    cases Bd.named.symm.trans n1
    cases Bd.method.symm.trans n2
    cases X.code.symm.trans n3
    have C : ev_C sa tC B L xs D yc p e s m (vs.map (ab_v (ab_r sa B))).toArray meth c := ⟨Bd.exec, Bd.bytes, hml, Bd.returns, Bd.notSynchronized, n6, htr e Bd.admits, fun hn => by rw [(name_of_methodNamed Bd.named Bd.method).1]; exact hn, findClass_of_methodNamed Bd.named, hW⟩
    have hl := lv_entry (vs.map (ab_v (ab_r sa B))) (n := yc.1.2.2.1) (by rw [lg_sl_len]; exact hlen)
    rw [lv_args_L] at hl
    rw [lg_entry_eq]
    exact i3 p e s m _ below meth c _ _ s.heap [] 0 (h1.length - h.length) C rfl rfl (by omega) (Nat.le_refl _) (Nat.le_refl _) hl hP va_S.rf (by rw [hsz]; omega)
  generalize hw : mt_word yc.1 = w at body ⊢
  obtain ⟨⟨yn, b, n, rt, hh⟩, yo, yl⟩ := yc
  cases hh with
  | nil => exact fx_ofW hpl (by rw [← hw]; rfl) body
  | cons z r => exact fx_ofWH hpl (by rw [← hw]; rfl) body
variable {p : Program} {e : Env} {R : Room} {s : State} {m : MethodId} {args : Array Value} {below : List Frame} {meth : Method} {c : Code} {H : Heap} {locs : List Loc} {cells slots : Nat} {Q : State → Prop}
/-- an exception under way -/
theorem ev_thr (IH : ev_S l sa tC B L xs D go) {fr lo : Nat} {y : mc_T} (hy : y ∈ mc) {pc : Nat} {al : List (Nat × Value)} {a : Nat} {h h' : ab_H} {sl sl' : Nat} {o : Outcome} (hev : ev_x go fr lo y pc al a h sl = some (o, h', sl')) :
    h.length ≤ h'.length ∧ sl ≤ sl' ∧ ∀ (p : Program) (e : Env) (s : State) (m : MethodId) (args : Array Value) (below : List Frame) (meth : Method) (c : Code) (R : Room) (ls : Array Slot) (H : Heap) (locs : List Loc) (cells cf : Nat) (rest : List Value),
      ev_C sa tC B L xs D y p e s m args meth c → R.frames = fr → R.locals = lo → cells + h'.length = cf + h.length → cf ≤ R.cells → sl' ≤ R.slots → lv_has ls y.1.2.2.1 (ab_L (ab_r sa B) al) → va_P D cls (ab_w (ab_r sa B) tC B h) H → va_S (fun q => B ≤ q) s.heap H locs → s.heap.size + cells = B + h.length → H.size = B + h.length →
      fx_T p l e R s m args below meth c H locs cells sl (fx_Q below (ev_Q sa tC B D o h') args s cf sl' (fun q => B ≤ q)) (F0 m pc ls rest) (ab_r sa B a) := by
  unfold ev_x at hev
  split at hev
  · cases hev
  · rename_i hch
    cases hev
    refine ⟨Nat.le_refl _, Nat.le_refl _, ?_⟩
    intro p e s m args below meth c R ls H locs cells cf rest C _ _ hcf _ _ _ hP hS hsz hz
    obtain ⟨c1, c2, c3, c4, c5, c6, c7, c8, c9, c10⟩ := C
    have e1 : cf = cells := by omega
    subst e1
    unfold ch at hch
    split at hch
    · split at hch
      · rw [← c6] at hch
        exact fx_leave c5 rfl rfl rfl (chL_out _ hch) (fun t ht _ => ⟨rfl, by rw [ht]; exact hP, by rw [ht]; exact hS.1, fun q h1 h2 => by rw [ht]; exact hS.2.1 q h1 h2, by rw [ht]; exact hz⟩) hS.2.2
      · cases hch
    · cases hch
  · rename_i hp hch
    obtain ⟨i1, i2, i3⟩ := IH _ _ _ _ _ _ _ _ _ _ _ hy hev
    refine ⟨i1, i2, ?_⟩
    intro p e s m args below meth c R ls H locs cells cf rest C hf hl hcf hRc hRs hls hP hS hsz hz
    have hk := i3 p e s m args below meth c R ls H locs cells cf C hf hl hcf hRc hRs hls hP hS hsz
    obtain ⟨c1, c2, c3, c4, c5, c6, c7, c8, c9, c10⟩ := C
    obtain ⟨w1, w2, w3, w4, w5, w6⟩ := c10
    unfold ch at hch
    split at hch
    · rename_i ci fs hob
      split at hch
      · rename_i hci
        rw [← c6] at hch
        obtain ⟨pre, x, r2, e1, e2, e3, e4, e5⟩ := chL_in _ hch
        have hcl : ∃ r : vw_C, cls[ci]? = some r ∧ r.1 = xs_R ci := by
          rcases hci with rfl | rfl | rfl
          · exact ⟨_, rfl, rfl⟩
          · exact ⟨_, rfl, rfl⟩
          · exact ⟨_, rfl, rfl⟩
        obtain ⟨r, hr, hrn⟩ := hcl
        obtain ⟨cell, g1, g2, g3⟩ := ab_obj w3 hP hob hr
        rw [hrn] at g3
        have hown : s.vm.findClass (own.getD y.2.1 "") = some m.cls := by rw [cd_own hy]; exact c9
        have hcast : (Cond.castable (xs_R ci) (xs_R ci)).before args s = true := by
          rcases hci with rfl | rfl | rfl
          · exact w1 _ hc_12
          · exact w1 _ hc_13
          · exact w1 _ hc_14
        refine fx_catch hown rfl pre x r2 e1 e2 (ht_t _ e4).1 (name := xs_R ci) (X := xs_R ci) (w1 _ (ht_in _ e4)) hcast (fun z hz => ?_) g1 g2 g3 (by rw [e3]; exact hk)
        rcases e5 z hz with h1 | ⟨cj, h1, h2⟩
        · exact Or.inl h1
        · exact Or.inr ⟨(ht_t _ h1).1, xs_R cj, w1 _ (ht_in _ h1), nc_args (w6 ci cj hci (ht_t _ h1).2 h2)⟩
      · cases hch
    · cases hch
end SND
