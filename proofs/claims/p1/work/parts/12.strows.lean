/-! THE ABSTRACT MACHINE, 7: rows for what was there before; the throw of an exception -/
def or_y : MethodName := ⟨"java/lang/Enum", "ordinal", "()I"⟩
def or_x : MethodName := ⟨"CascadeStore$Token", "ordinal", "()I"⟩
def or_w : List Cond := [.code or_y prog_19_method_2_code 1 (some .int), .fieldLink "java/lang/Enum" 7 "java/lang/Enum" "ordinal" "I"]
theorem or_d0 : decode prog_19_method_2_code 0 = .ok (.aload_n 0, 1) := by decide +kernel
theorem or_d1 : decode prog_19_method_2_code 1 = .ok (.getfield 7, 3) := by decide +kernel
theorem or_d4 : decode prog_19_method_2_code 4 = .ok (.ireturn, 1) := by decide +kernel
theorem or_met (l : Launch) (b : Nat) (i : Int32) : fx_Met l or_y or_w { frames := 0, cells := 0, slots := 0, locals := 0 } (fun a U => a = #[.ref b] ∧ va_OF "java/lang/Enum" "ordinal" "I" (.int i) b (fun _ => False) U U.heap) (fun _ st o t => o = .returned (some (.int i)) ∧ t.heap = st.heap) 0 0 (fun _ => False) := by
  refine fx_ofW (cc := prog_19_method_2_code) (maxL := 1) (ret := some .int) (by decide) rfl ?_
  intro p e s m args below meth c s₁ B hml hv
  obtain ⟨rfl, hO⟩ := hv
  have hx := B.exec
  have hb := B.bytes
  have hr := B.returns
  have hts := atoms_spec (ws := or_w) B.pre
  have hown : s.vm.findClass "java/lang/Enum" = some m.cls := findClass_of_methodNamed B.named
  have hlocks := B.notSynchronized
  have hl := lv_entry ([.ref b]) (n := 1) (Nat.le_of_ble_eq_true rfl)
  show W p l e _ s m #[.ref b] below meth c s.heap [] 0 0 _ (entryFrame m ([.ref b] : List Value).toArray 1)
  rw [lg_entry_eq]
  generalize (lg_sl ([.ref b]) ++ List.replicate (1 - (lg_sl ([.ref b])).length) Slot.unset).toArray = ls at hl ⊢
  have hl : lv_has ls 1 [(0, .ref b)] := hl
  refine lv_aload_n hx hb or_d0 rfl (lv_at hl 0 rfl) ?_
  obtain ⟨cf, k, fi, f, cell, h1, h2, h3, h4, h5, h6⟩ := hO
  refine W.getf hx hb hown (hts (.fieldLink "java/lang/Enum" 7 "java/lang/Enum" "ordinal" "I") (by simp [or_w])) h1 h2 h3 h4 (v := .int i) h5 rfl rfl or_d1 ?_
  exact fx_ofMQ (W.iret hx hb hr (fun t ht hW => ⟨rfl, ht⟩) (fun q hq => by cases hq) or_d4)
theorem or_sig : ∀ sig, parseMethodDescriptor or_x.desc = some sig → ([] : List Value).length = sig.parameters.length := by
  intro sig hs
  have e : parseMethodDescriptor or_x.desc = some ⟨[], some .int⟩ := by decide +kernel
  rw [e] at hs
  cases hs
  rfl
section ABS
variable {p : Program} {l : Launch} {e : Env} {R : Room} {s : State} {m : MethodId} {args : Array Value} {below : List Frame} {meth : Method} {c : Code} {H : Heap} {locs : List Loc} {cells slots : Nat} {Q : State → Prop}
variable {cc : ByteArray} {pc : Nat} {ls : Array Slot} {rest : List Value} {D : va_G} {sa : Nat → Nat} {tC : Nat → ClassId} {B L : Nat} {h : ab_H} {xs : Nat → Int32}
theorem fx_enU {T : State} (X : Stand p l e R s m args below meth c T locs cells slots) (hexec : p.tables.exec = Jvm.exec) {own C owner : String} {index : Nat} {x y : MethodName} (hown : s.vm.findClass own = some m.cls) (hlink : (Cond.methodLink own index x).before args s = true) (hsame : (Cond.sameMethod x.cls owner x.name x.desc).before args s = true)
    (hd0 : va_Decl s ⟨owner, x.name, x.desc⟩) (howner : owner ≠ "java/lang/invoke/MethodHandle" ∧ owner ≠ "java/lang/invoke/VarHandle") (hsel : (Cond.selects C x y).before args s = true) (hinst : (Cond.instanceMethod y).before args s = true)
    {b : Addr} {cellB : Cell} (hcell : T.heap[b]? = some cellB) (hobj : cellB.vm.isStatics = false) (hcls : s.vm.findClass C = some cellB.cls) {g : JFrame} (hg : g.method = m) {argsL rest : List Value} (hlen : ∀ sig, parseMethodDescriptor x.desc = some sig → argsL.length = sig.parameters.length)
    (hstack : g.stack = argsL.reverse ++ .ref b :: rest) (hdg : decode c.code g.pc = .ok (.invokevirtual index, 3)) : fx_En p l e R s m args below meth c T locs cells slots g rest y (Value.ref b :: argsL).toArray := by
  obtain ⟨r0, r, hn, hrm, hstR, hsigR⟩ := hd0
  obtain ⟨cn, ck, r1, hcn, hck, hni, hf, hn1⟩ := Cond.sameMethod_found hsame
  cases hn.symm.trans hn1
  obtain ⟨mk, methM, hnamed, hmethM, -, habM⟩ := Cond.instanceMethod_spec hinst
  obtain ⟨c2, r2, m2, q1, q2, q3, q4, kP, hkP, hkPi⟩ := Cond.selects_spec hsel
  cases hcls.symm.trans q1
  cases hf.symm.trans q2
  cases hnamed.symm.trans q3
  have hselP : selectMethod e.platform s.vm cellB.cls r0 = .method mk := by rw [Launch.admits_selectMethod X.admits]; exact q4
  obtain ⟨vm₁, X₁, hstep₁⟩ := X.invokevirtualUp hexec hown hlink hsame howner hn hrm hstR (a := b) (cell := cellB) hcell
    (fun z h => by rw [h] at hobj; cases hobj) hselP hmethM habM hkP hkPi (g := g) hg (argsL := argsL) (rest := rest) (hlen _ hsigR) hstack hdg
  exact ⟨vm₁, mk, X₁, hnamed, fun target h => hstep₁ _ fun acts => by rw [doInvoke_state]; exact h⟩
theorem ab_getstatic (hx : p.tables.exec = Jvm.exec) (hb : c.code = cc) (hts : ∀ w ∈ lw_tbl, w.before args s = true) (hSt : ab_St sa L xs (fun q => B ≤ q) s s.heap) (hS : va_S (fun q => B ≤ q) s.heap H locs) {q : Nat × Nat × Nat} (hq : q ∈ gs) (hown : s.vm.findClass (own.getD q.1 "") = some m.cls) (hd : decode cc pc = .ok (.getstatic q.2.1, 3))
    (kk : W p l e R s m args below meth c H locs cells slots Q (F0 m (pc + 3) ls (.ref (ab_r sa B q.2.2) :: rest))) : W p l e R s m args below meth c H locs cells slots Q (F0 m pc ls rest) := by
  obtain ⟨h1, ⟨h2, h3⟩, ⟨h4, h5⟩, -⟩ := hSt
  rcases List.mem_append.mp hq with hq | hq
  · have ht := gs_1_t q hq
    rw [ab_r_lt (by omega)] at kk
    have hz := (h1 (q.2.2 - 1) (by omega)).1
    rw [show 1 + (q.2.2 - 1) = q.2.2 by omega] at hz
    exact va_gets hx hb hz hS hown (hts _ (gs_1_in q hq)) (fun _ z => z) hd kk
  · rcases List.mem_append.mp hq with hq | hq
    · have hw := hts _ (gs_2_in q hq)
      have ht := gs_2_t q hq
      rw [ht, ab_r_lt (by omega)] at kk
      exact va_gets hx hb h2 hS hown hw (fun _ z => z) hd kk
    · have hw := hts _ (gs_3_in q hq)
      have ht := gs_3_t q hq
      rw [ht, ab_r_lt (by omega)] at kk
      exact va_gets hx hb h4 hS hown hw (fun _ z => z) hd kk
theorem ab_letters (hx : p.tables.exec = Jvm.exec) (hb : c.code = cc) (hts : ∀ w ∈ lw_tbl, w.before args s = true) (hSt : ab_St sa L xs (fun q => B ≤ q) s s.heap) (hS : va_S (fun q => B ≤ q) s.heap H locs) (hown : s.vm.findClass "CascadeStore$Token" = some m.cls) {i : Nat} (hi : i < 59) (hd : decode cc pc = .ok (.getfield 210, 3))
    (kk : W p l e R s m args below meth c H locs cells slots Q (F0 m (pc + 3) ls (.long (tk_l.getD i 0) :: rest))) : W p l e R s m args below meth c H locs cells slots Q (F0 m pc ls (.ref (ab_r sa B (1 + i)) :: rest)) := by
  rw [ab_r_lt (by omega)]
  obtain ⟨cf, k, fi, f, cell, g1, g2, g3, g4, g5, g6⟩ := ((hSt.1 i hi).2.2.2).kept hS.2.1
  exact W.getf hx hb hown (hts _ (pl_w_mem (q := (11, 135)) rfl)) g1 g2 g3 g4 (v := .long (tk_l.getD i 0)) g5 rfl rfl hd kk
theorem ab_known (hx : p.tables.exec = Jvm.exec) (hb : c.code = cc) (hSt : ab_St sa L xs (fun q => B ≤ q) s s.heap) (hS : va_S (fun q => B ≤ q) s.heap H locs) {i : Int32} (hin : vp_in i 59) (hd : decode cc pc = .ok (.aaload, 1))
    (kk : W p l e R s m args below meth c H locs cells slots Q (F0 m (pc + 1) ls (.ref (ab_r sa B (1 + i.toNatClampNeg)) :: rest))) : W p l e R s m args below meth c H locs cells slots Q (F0 m pc ls (.int i :: .ref (ab_r sa B 60) :: rest)) := by
  have hlt : i.toNatClampNeg < 59 := Nat.not_le.mp fun q => hin (Or.inr q)
  rw [ab_r_lt (by omega)] at kk ⊢
  exact vb_tq hx hb hSt.2.1.2 hS hin rfl hd kk
theorem ab_knownL (hx : p.tables.exec = Jvm.exec) (hb : c.code = cc) (hSt : ab_St sa L xs (fun q => B ≤ q) s s.heap) (hS : va_S (fun q => B ≤ q) s.heap H locs) (hd : decode cc pc = .ok (.arraylength, 1))
    (kk : W p l e R s m args below meth c H locs cells slots Q (F0 m (pc + 1) ls (.int 59 :: rest))) : W p l e R s m args below meth c H locs cells slots Q (F0 m pc ls (.ref (ab_r sa B 60) :: rest)) := by
  rw [ab_r_lt (by omega)]
  exact va_tlen hx hb hSt.2.1.2 hS rfl hd kk
theorem ab_smap (hx : p.tables.exec = Jvm.exec) (hb : c.code = cc) (hSt : ab_St sa L xs (fun q => B ≤ q) s s.heap) (hS : va_S (fun q => B ≤ q) s.heap H locs) {i : Int32} (hin : vp_in i 59) (hd : decode cc pc = .ok (.iaload, 1))
    (kk : W p l e R s m args below meth c H locs cells slots Q (F0 m (pc + 1) ls (.int (tk_s.getD i.toNatClampNeg 0) :: rest))) : W p l e R s m args below meth c H locs cells slots Q (F0 m pc ls (.int i :: .ref (ab_r sa B 61) :: rest)) := by
  rw [ab_r_lt (by omega)]
  exact va_ti hx hb hSt.2.2.1.2 hS hin rfl hd kk
theorem ab_script (hx : p.tables.exec = Jvm.exec) (hb : c.code = cc) (hSt : ab_St sa L xs (fun q => B ≤ q) s s.heap) (hS : va_S (fun q => B ≤ q) s.heap H locs) {i : Int32} (hin : vp_in i L) (hd : decode cc pc = .ok (.iaload, 1))
    (kk : W p l e R s m args below meth c H locs cells slots Q (F0 m (pc + 1) ls (.int (xs i.toNatClampNeg) :: rest))) : W p l e R s m args below meth c H locs cells slots Q (F0 m pc ls (.int i :: .ref (ab_r sa B 0) :: rest)) := by
  rw [ab_r_lt (by omega)]
  obtain ⟨-, -, -, -, -, h9, h10, h11⟩ := hSt
  exact va_sld hx hb h9 h10 h11 hS hin hd kk
theorem ab_scriptL (hx : p.tables.exec = Jvm.exec) (hb : c.code = cc) (hSt : ab_St sa L xs (fun q => B ≤ q) s s.heap) (hS : va_S (fun q => B ≤ q) s.heap H locs) (hd : decode cc pc = .ok (.arraylength, 1))
    (kk : W p l e R s m args below meth c H locs cells slots Q (F0 m (pc + 1) ls (.int (Int32.ofNat L) :: rest))) : W p l e R s m args below meth c H locs cells slots Q (F0 m pc ls (.ref (ab_r sa B 0) :: rest)) := by
  rw [ab_r_lt (by omega)]
  obtain ⟨-, -, -, -, -, h9, h10, h11⟩ := hSt
  exact va_slen hx hb h9 h10 h11 hS hd kk
theorem ab_anyTk {E : String} (hE : E = tk_E) (hSt : ab_St sa L xs (fun q => B ≤ q) s s.heap) (hS : va_S (fun q => B ≤ q) s.heap H locs) {i : Nat} (hi : i < 59) : va_Any E s H (ab_r sa B (1 + i)) := by
  rw [ab_r_lt (by omega)]
  subst hE
  obtain ⟨cell, g1, g2, g3, -⟩ := ((hSt.1 i hi).2.1).kept hS.2.1
  obtain ⟨kC, hkC, -⟩ := Vm.findClass_spec g3
  exact ⟨cell, g1, g2, ⟨kC, hkC⟩, fun comp hc => by cases g3.symm.trans hc; exact va_asg _ _⟩
theorem ab_ordinal (hx : p.tables.exec = Jvm.exec) (hb : c.code = cc) (hts : ∀ w ∈ lw_tbl, w.before args s = true) (hSt : ab_St sa L xs (fun q => B ≤ q) s s.heap) (hS : va_S (fun q => B ≤ q) s.heap H locs) (hml : c.maxLocals = ls.size) {o idx : Nat} (hlink : Cond.methodLink (own.getD o "") idx or_x ∈ lw_tbl) (hown : s.vm.findClass (own.getD o "") = some m.cls) {i : Nat} (hi : i < 59)
    (hframes : 1 ≤ R.frames) (hlocals : (rest.map fun v => v.category).sum + 12 ≤ R.locals) (hRc : cells ≤ R.cells) (hRs : slots ≤ R.slots) (hd : decode cc pc = .ok (.invokevirtual idx, 3))
    (kk : ∀ (locs1 : List Loc), va_S (fun q => B ≤ q) s.heap H locs1 → W p l e R s m args below meth c H locs1 cells slots Q (F0 m (pc + 3) ls (.int (nI i) :: rest))) : W p l e R s m args below meth c H locs cells slots Q (F0 m pc ls (.ref (ab_r sa B (1 + i)) :: rest)) := by
  rw [ab_r_lt (by omega)]
  obtain ⟨cell, g1, g2, g3, -⟩ := ((hSt.1 i hi).2.1).kept hS.2.1
  have hO := (((hSt.1 i hi).2.2.1).kept hS.2.1).narrow (B := fun _ => False) (fun _ z => z.elim)
  have wc := (pl_w_mem (q := (4, 56)) rfl : Cond.code or_y prog_19_method_2_code 1 (some .int) ∈ lw_tbl)
  have wl := (pl_w_mem (q := (11, 136)) rfl : Cond.fieldLink "java/lang/Enum" 7 "java/lang/Enum" "ordinal" "I" ∈ lw_tbl)
  refine fx_call (y := or_y) (ws := or_w) (rest := rest) (a := #[.ref (sa (1 + i))]) (bytes := prog_19_method_2_code) (maxL := 1) (ret := some .int) (hh := []) (ig := .invokevirtual idx) (fun T hT X => ?_) (or_met l (sa (1 + i)) (nI i)) (fun U hU => ?_) hframes hml.symm (by rw [hb]; exact hd) hlocals hRc hRs (fun U hU hW => ?_) (fun v st t L0 e1 e2 e3 e4 e5 => ?_) (fun x st t L0 e1 e2 e3 e4 e5 => ?_)
  · exact fx_enU X hx hown (hts _ hlink) (C := "CascadeStore$Token") (owner := "java/lang/Enum") (x := or_x) (y := or_y) (hts _ (pl_w_mem (q := (4, 52)) rfl)) (va_Decl.abs (va_Nw.of rfl (hts _ (pl_w_mem (q := (4, 53)) rfl)))) (by decide) (hts _ (pl_w_mem (q := (4, 54)) rfl)) (hts _ (pl_w_mem (q := (4, 55)) rfl)) (by rw [hT]; exact g1) g2 g3 rfl (argsL := []) (rest := rest) or_sig rfl (by rw [hb]; exact hd)
  · have hu : ∀ w ∈ lw_tbl, ab_gw w = true → w.before #[.ref (sa (1 + i))] U = true := fun w hw hg => ab_word hg hU (hts w hw)
    refine ⟨fx_Cd.of (hu _ wc (by decide)), hu _ ((pl_w_mem (q := (1, 27)) rfl) : Cond.initialized or_y.cls ∈ lw_tbl) (by decide), atoms_intro (fun w hw => ?_)⟩
    simp only [or_w, List.mem_cons, List.not_mem_nil, or_false] at hw
    rcases hw with rfl | rfl
    · exact hu _ wc (by decide)
    · exact hu _ wl (by decide)
  · exact ⟨rfl, va_OF.moved hW.alike (by rw [hU]; exact hO)⟩
  · obtain ⟨f1, f2⟩ := e3
    cases f1
    rw [f2, e1]
    exact kk (locs ++ L0) ⟨hS.1, hS.2.1, fun q hq => (List.mem_append.mp hq).elim (hS.2.2 q) (fun z => (e4 q z).elim)⟩
  · obtain ⟨f1, f2⟩ := e3
    cases f1
/-- how large the heap is -/
theorem ab_size (hP : va_P D cls (ab_w (ab_r sa B) tC B h) H) (hS : va_S (fun q => B ≤ q) s.heap H locs) (hB : B ≤ s.heap.size) (hsz : s.heap.size + cells = B + h.length) (hz : H.size ≤ s.heap.size + cells) : H.size = B + h.length := by
  have h1 := hS.1
  rcases Nat.eq_zero_or_pos h.length with h0 | h0
  · omega
  · have hk : h.length - 1 < h.length := by omega
    have := (hP (h.length - 1) _ (ab_w_get (List.getElem?_eq_getElem hk))).lt
    have h2 : B + (h.length - 1) < H.size := this
    omega
theorem ab_isr {C n d : String} (hz : va_Zq C n d (fun q => B ≤ q) s s.heap) : (Cond.isRef (.static C n d)).before args s = true := by
  have ev : ∀ v, va_Z C n d v (fun q => B ≤ q) s s.heap → (Term.static C n d).eval args s none [] s = some v := by
    intro v hv
    obtain ⟨cf, kf, fi, f, a, cell, g1, g2, g3, g4, g5, g6, g7, g8⟩ := hv
    simp [Term.eval, State.fieldNamed?, g1, g2, g4, g5, g6, g7]
  rcases hz with hz | ⟨t, hz⟩
  · simp [Cond.before, Cond.holds, Cond.value, ev _ hz]
  · simp [Cond.before, Cond.holds, Cond.value, ev _ hz]
theorem ab_xat (hts : ∀ w ∈ lw_tbl, w.before args s = true) (hSt : ab_St sa L xs (fun q => B ≤ q) s s.heap) {o X : String} {ic : Nat} (hA : ∀ w ∈ (Bundle.ownAtoms o ic X xs_n).filter (fun w => !xs_h w), w ∈ lw_tbl) : ∀ a ∈ Bundle.ownAtoms o ic X xs_n, a.before args s = true := by
  intro a ha
  by_cases hh : xs_h a = true
  · have this := List.mem_filter.mpr ⟨ha, hh⟩
    rw [xs_f] at this
    rcases List.mem_cons.mp this with rfl | this
    · exact ab_isr hSt.2.2.2.1.1
    · rw [List.mem_singleton.mp this]
      exact ab_isr hSt.2.2.2.1.2
  · exact hts _ (hA a (List.mem_filter.mpr ⟨ha, by simpa using hh⟩))
theorem xs_c {k : Nat} (h : k = 12 ∨ k = 13 ∨ k = 14) : Bundle.fit (xs_R k) = true ∧ ∃ T0 : u_T, cls[k]? = some (xs_R k, T0, 0) := by
  rcases h with rfl | rfl | rfl
  · exact ⟨by decide +kernel, T12, rfl⟩
  · exact ⟨by decide +kernel, T13, rfl⟩
  · exact ⟨by decide +kernel, T14, rfl⟩
theorem xs_nf : ∀ n ∈ xs_n, Bundle.fit n = true := by decide +kernel
/-- the world behind a new cell of which only the class is known -/
theorem ab_pushX {H1 : Heap} {k : Nat} {X : String} {T0 : u_T} {ce : Cell} (hc0 : cls[k]? = some (X, T0, 0)) (hK : va_K D cls (ab_tys tC) s) (hP : va_P D cls (ab_w (ab_r sa B) tC B h) H) (hHs : H.size = B + h.length) (g1 : s.vm.findClass X = some ce.cls) (g2 : ce.vm = .none) (g4 : H1[B + h.length]? = some ce) (g5 : ∀ j, j < B + h.length → H1[j]? = H[j]?) : va_P D cls (ab_w (ab_r sa B) tC B (h ++ [.inr (k, [])])) H1 := by
  rw [ab_w_push]
  refine va_P.app (hP.kept (fun i x hx => ?_)) (fun i x hx => ?_)
  · have := (hP i x hx).lt
    exact g5 _ (by omega)
  · have hk0 : i = 0 := by
      have := (List.getElem?_eq_some_iff.mp hx).1
      simp at this
      omega
    subst hk0
    have hx' : x = (B + h.length, ab_e (ab_r sa B) tC (.inr (k, []))) := (Option.some.inj hx).symm
    rw [hx']
    have hcl : s.vm.findClass X = some (D.1 k) := (hK.1 _ _ hc0).2.1
    exact ⟨(X, T0, 0), hc0, ce, g4, Option.some.inj (g1.symm.trans hcl), g2, fun j hj => absurd hj (Nat.not_lt_zero j)⟩
set_option maxHeartbeats 4000000 in
theorem ab_throw (hx : p.tables.exec = Jvm.exec) (hb : c.code = cc) (htr : e.platform.stackTraces = false) (hts : ∀ w ∈ lw_tbl, w.before args s = true) (hSt : ab_St sa L xs (fun q => B ≤ q) s s.heap) (hK : va_K D cls (ab_tys tC) s) (hP : va_P D cls (ab_w (ab_r sa B) tC B h) H) (hS : va_S (fun q => B ≤ q) s.heap H locs) (hB : B ≤ s.heap.size) (hsz : s.heap.size + cells = B + h.length)
    (hNs : ∀ (x : Nat) (cell : Cell), B ≤ x → s.heap[x]? = some cell → cell.vm.isStatics = false) (hml : c.maxLocals = ls.size) {o ia ic ci : Nat} (hq : (o, ia, ic, ci) ∈ xs_l) {k ib : Nat} {tx : String} (htx : tx_l[k]? = some (o, ib, tx)) {ow : String} (how : own.getD o "" = ow) (hown : s.vm.findClass ow = some m.cls)
    (hd0 : decode cc pc = .ok (.new ia, 3)) (hd3 : decode cc (pc + 3) = .ok (.dup, 1)) (hd4 : decode cc (pc + 4) = .ok (.ldc ib, 2)) (hd6 : decode cc (pc + 6) = .ok (.invokespecial ic, 3)) (hd9 : decode cc (pc + 9) = .ok (.athrow, 1))
    (hRf : 5 < R.frames) (hRl : 1 + (rest.map fun v => v.category).sum + 81 ≤ R.locals) (hRc : cells + 1 ≤ R.cells) (hRs : slots + 6 ≤ R.slots)
    (kk : ∀ (H1 : Heap) (locs1 : List Loc), va_P D cls (ab_w (ab_r sa B) tC B (h ++ [.inr (ci, [])])) H1 → va_S (fun q => B ≤ q) s.heap H1 locs1 → fx_T p l e R s m args below meth c H1 locs1 (cells + 1) (slots + 6) Q (F0 m (pc + 9) ls rest) (ab_r sa B (100 + h.length))) :
    W p l e R s m args below meth c H locs cells slots Q (F0 m pc ls rest) := by
  have e2 : ab_r sa B (100 + h.length) = B + h.length := by rw [ab_r_ge (by omega)]; omega
  obtain ⟨hA1, hA2, hA3⟩ := xs_all _ hq
  dsimp only at hA1 hA2 hA3
  rw [how] at hA1 hA2
  obtain ⟨hfit, T0, hc0⟩ := xs_c (xs_t _ hq)
  dsimp only at hfit hc0
  have hZ := hSt.2.2.2.2.1 k _ htx
  dsimp only at hZ
  rw [how] at hZ
  have hat := ab_xat hts hSt hA1
  have w2 := hts _ hA2
  have w3 := hts _ hA3
  generalize xs_R ci = X at hfit hc0 hat w2 w3
  refine fx_size (fun hz => ?_)
  have hHs := ab_size hP hS hB hsz hz
  refine fx_throw hx hb htr (tx := tx) (q := sa (62 + k)) (names := xs_n) hown hfit xs_nf hat w2 w3 hZ (fun x hx cell hc => hNs x.base cell (hS.2.2 x hx) hc) hS.1 hml.symm hd0 hd3 hd4 hd6 hd9 hRf hRl hRc hRs (fun H1 ce L0 g1 g2 g3 g4 g5 g6 => ?_)
  rw [hHs] at g3 g4 g6 ⊢
  rw [← e2]
  refine kk H1 (locs ++ L0) (ab_pushX hc0 hK hP hHs g1 g2 g4 (fun j hj => g5 j (by omega))) ?_
  refine ⟨by have := hS.1; omega, fun x h1 h2 => ?_, fun y hy => ?_⟩
  · rw [g5 x (by have := hS.1; omega)]
    exact hS.2.1 x h1 h2
  · rcases List.mem_append.mp hy with z | z
    · exact hS.2.2 y z
    · show B ≤ y.base
      rw [g6 y z]
      omega
end ABS
