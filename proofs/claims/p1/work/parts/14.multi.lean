/-! THE ABSTRACT MACHINE, 9: an array of arrays (multianewarray, two dimensions) -/
def mu_z (t M : Nat) : vp_A := if t = 1 then (M, .inr (.inl (fun _ => 0))) else (M, .inl (fun _ => 0))
def mu_fill (t2 t1 N M a : Nat) : Nat → Nat → (Nat → Option Nat) → ab_H → ab_H
  | 0, _, _, h => h
  | k + 1, i, f, h => mu_fill t2 t1 N M a k (i + 1) (va_up f i (some (100 + h.length))) ((h ++ ([.inl (t1, mu_z t1 M)] : ab_H)).set a (.inl (t2, N, .inr (.inr (.inr (.inr (va_up f i (some (100 + h.length)))))))))
theorem mu_fill_len (t2 t1 N M a : Nat) : ∀ (k i : Nat) (f : Nat → Option Nat) (h : ab_H), (mu_fill t2 t1 N M a k i f h).length = h.length + k
  | 0, _, _, _ => rfl
  | k + 1, i, f, h => by
    rw [mu_fill, mu_fill_len t2 t1 N M a k]
    simp
    omega
section MUA
variable {p : Program} {l : Launch} {e : Env} {R : Room} {s : State} {m : MethodId} {args : Array Value} {below : List Frame} {meth : Method} {c : Code}
variable {D : va_G} {sa : Nat → Nat} {tC : Nat → ClassId} {B : Nat} {H0 : Heap}
theorem mu_loop {t1 t2 N M a0 : Nat} {m1 : Int32} {ty : FieldType} {f0 : JFrame} {k2 k1 : Class} {cc1 : ClassId} {body : Nat → PUnit → Sem (ForInStep PUnit)}
    (hbody : ∀ i u, body i u = (multianewarray.make (tC t1) [m1] >>= fun a => Jvm.writeLoc (B + a0) i (.ref a) >>= fun _ => Pure.pure (ForInStep.yield PUnit.unit)))
    (hcell : ∀ cA : ClassId, vp_cell cA (mu_z t1 M) = arrV cA M (fun _ => defaultValue ty)) (hza : ab_a (ab_r sa B) (mu_z t1 M) = mu_z t1 M)
    (hm : ¬ m1 < 0) (hM : m1.toNatClampNeg = M) (hl2 : ¬ M > e.platform.arrayLengthLimit) (hh2 : ¬ M * componentBytes ty > e.platform.maxHeapBytes) (hdf : fits ty (defaultValue ty) = true)
    (hk2 : k2.kind = .array (tC t1) (.array ty)) (hk1 : k1.kind = .array cc1 ty) :
    ∀ (k i : Nat) (f : Nat → Option Nat) (h : ab_H) (T : State) (locs : List Loc) (cells slots : Nat), T.vm.classes[tC t2]? = some k2 → T.vm.classes[tC t1]? = some k1 →
      h[a0]? = some (.inl (t2, N, .inr (.inr (.inr (.inr f))))) → i + k = N → Stand p l e R s m args below meth c T locs cells slots → va_P D cls (ab_w (ab_r sa B) tC B h) T.heap → va_S (fun q => B ≤ q) H0 T.heap locs → T.heap.size = B + h.length →
      cells + k ≤ R.cells → slots + k * M ≤ R.slots →
      ∃ (T' : State) (locs' : List Loc), Stand p l e R s m args below meth c T' locs' (cells + k) (slots + k * M) ∧ va_P D cls (ab_w (ab_r sa B) tC B (mu_fill t2 t1 N M a0 k i f h)) T'.heap ∧ va_S (fun q => B ≤ q) H0 T'.heap locs' ∧
        ∀ (E : CtlPost) (d : Bool) (acts : List Action) (Q : PUnit → Pre), (∀ d' acts', Q PUnit.unit d' acts' (T'.setTop f0)) → wp (forIn (List.range' i k) PUnit.unit body) Q E e d acts (T.setTop f0)
  | 0, i, f, h, T, locs, cells, slots, _, _, _, _, X, hP, hS, _, _, _ => by
    refine ⟨T, locs, ?_, hP, hS, ?_⟩
    · rw [Nat.zero_mul]; exact X
    · intro E d acts Q hq
      simp only [List.range'_zero, List.forIn_nil, wp_pure']
      exact hq _ _
  | k + 1, i, f, h, T, locs, cells, slots, hc2, hc1, ha, hik, X, hP, hS, hsz, hRc, hRs => by
    have hmul : (k + 1) * M = M + k * M := by rw [Nat.succ_mul]; omega
    rw [hmul] at hRs
    have halt : a0 < h.length := (List.getElem?_eq_some_iff.mp ha).1
    let cell1 : Cell := { cls := tC t1, slots := Array.replicate M (defaultValue ty), vm := .none }
    have e1 : cell1 = vp_cell (tC t1) (mu_z t1 M) := by rw [hcell]; exact arrV_new _ _ _
    have z1 : cell1.slots.size = M := by simp [cell1]
    have hra : ab_r sa B (100 + h.length) = T.heap.size := by rw [ab_r_ge (by omega), hsz]; omega
    have hg0 : T.heap[B + a0]? = some (vp_cell (tC t2) (N, .inr (.inr (.inr (.inr (fun j => (f j).map (ab_r sa B))))))) := hP a0 _ (ab_w_get ha)
    have hlt : B + a0 < T.heap.size := by omega
    have hp1 : (T.pushCell cell1).heap[B + a0]? = some (vp_cell (tC t2) (N, .inr (.inr (.inr (.inr (fun j => (f j).map (ab_r sa B))))))) := by rw [State.heap_pushCell_of_lt (h := hlt)]; exact hg0
    have hold : ∀ q : Nat, q < T.heap.size → (T.pushCell cell1).heap[q]? = T.heap[q]? := fun q hq => State.heap_pushCell_of_lt _ _ hq
    have hnew : (T.pushCell cell1).heap[T.heap.size]? = some cell1 := State.heap_pushCell_size _ _
    have P1 : va_P D cls (ab_w (ab_r sa B) tC B (h ++ [.inl (t1, mu_z t1 M)])) (T.pushCell cell1).heap := by
      rw [ab_w_push]
      refine (hP.kept (fun k q hk => hold _ ((hP k q hk).lt))).app (fun k q hk => ?_)
      have hz : k < 1 := (List.getElem?_eq_some_iff.mp hk).1
      rw [show k = 0 by omega] at hk
      cases hk
      show (T.pushCell cell1).heap[B + h.length]? = some (vp_cell (tC t1) (ab_a (ab_r sa B) (mu_z t1 M)))
      rw [hza, ← e1, ← hsz]
      exact hnew
    have X1 := X.pushed cell1
    rw [z1] at X1
    have X2 := X1.stored hp1 i (.ref T.heap.size)
    generalize hT2 : (T.pushCell cell1).setCell (B + a0) (Cell.setSlot (vp_cell (tC t2) (N, .inr (.inr (.inr (.inr (fun j => (f j).map (ab_r sa B))))))) i (.ref T.heap.size)) = T2 at X2
    have hvm2 : T2.vm = T.vm := by rw [← hT2]; rfl
    have hsz1 : (T.pushCell cell1).heap.size = T.heap.size + 1 := by simp
    have hsz2 : T2.heap.size = T.heap.size + 1 := by rw [← hT2]; simp [State.setCell]
    have hoq : ∀ q : Nat, q ≠ B + a0 → T2.heap[q]? = (T.pushCell cell1).heap[q]? := fun q hq => by rw [← hT2]; exact State.heap_setCell_other (Ne.symm hq)
    have hself : T2.heap[B + a0]? = some (vp_cell (tC t2) (N, .inr (.inr (.inr (.inr (fun j => (va_up f i (some (100 + h.length)) j).map (ab_r sa B))))))) := by
      rw [← hT2, State.heap_setCell_self hp1, ab_upr, vp_cell_q, vp_cell_q, arrV_store]
      congr 2
      funext q
      by_cases hq : q = i
      · subst hq
        simp [updV, va_up, va_rf, hra]
      · simp [updV, va_up, hq]
    have hga : (ab_w (ab_r sa B) tC B (h ++ [.inl (t1, mu_z t1 M)]))[a0]? = some (B + a0, ab_e (ab_r sa B) tC (.inl (t2, N, .inr (.inr (.inr (.inr f)))))) := ab_w_get (by rw [List.getElem?_append_left halt]; exact ha)
    have P2 := P1.set (e := ab_e (ab_r sa B) tC (.inl (t2, N, .inr (.inr (.inr (.inr (va_up f i (some (100 + h.length))))))))) ab_D hga hself hoq
    rw [ab_w_set] at P2
    have S2 : va_S (fun q => B ≤ q) H0 T2.heap (locs ++ [⟨B + a0, i⟩]) := by
      refine ⟨by have := hS.1; omega, fun q h1 h2 => ?_, fun l hl => ?_⟩
      · have hne : q ≠ B + a0 := fun h3 => h2 (by show B ≤ q; omega)
        have := hS.1
        rw [hoq q hne, hold q (by omega)]
        exact hS.2.1 q h1 h2
      · rcases List.mem_append.mp hl with h3 | h3
        · exact hS.2.2 l h3
        · rw [List.mem_singleton.mp h3]; show B ≤ B + a0; omega
    have ih := mu_loop (f0 := f0) hbody hcell hza hm hM hl2 hh2 hdf hk2 hk1 k (i + 1) (va_up f i (some (100 + h.length))) ((h ++ ([.inl (t1, mu_z t1 M)] : ab_H)).set a0 (.inl (t2, N, .inr (.inr (.inr (.inr (va_up f i (some (100 + h.length))))))))) T2 (locs ++ [⟨B + a0, i⟩]) (cells + 1) (slots + M) (by rw [hvm2]; exact hc2) (by rw [hvm2]; exact hc1)
      (by rw [List.getElem?_set_self]; simp; omega) (by omega) X2 P2 S2 (by rw [hsz2, hsz]; simp; omega) (by omega) (by omega)
    obtain ⟨T', locs', X', P', S', w'⟩ := ih
    refine ⟨T', locs', ?_, P', S', ?_⟩
    · rw [show cells + (k + 1) = cells + 1 + k by omega, hmul, show slots + (M + k * M) = slots + M + k * M by omega]
      exact X'
    · intro E d acts Q hq
      obtain ⟨hr1, hr2⟩ := X.roomAbove (show cells + 1 ≤ R.cells by omega) (show slots + M ≤ R.slots by omega)
      rw [List.range'_succ]
      simp only [List.forIn_cons, wp_bind', hbody]
      rw [multianewarray.make]
      simp only [wp_bind', W.ite, hm, if_false, wp_pure', W.theClass]
      refine ⟨k1, hc1, ?_⟩
      rw [hk1]
      simp only [hM]
      refine W.newArray_of (k := k1) (comp := cc1) (type := ty) hc1 hk1 hl2 hh2 (by show T.heap.size < _; omega) (by show T.slotsUsed + M ≤ _; omega) hdf (fun acts' => ?_)
      simp only [wp_bind', W.writeLoc, wp_pure']
      refine ⟨_, hp1, by rw [vp_cell_q]; simp [arrV], ?_, ?_, ?_⟩
      · rw [vp_cell_q, arrV_size]; omega
      · show State.fitsSlot _ _ _ _ _ = true
        simp [State.fitsSlot, State.slotType?, vp_cell_q, arrV, hc2, hk2, fits]
      · have := w' E true (writeActs { base := B + a0, slot := i } Mode.plain (Value.ref (Array.size (T.setTop f0).heap)) acts') Q hq
        rw [← hT2] at this
        exact this
theorem mu_over {args : Array Value} {s : State} {t : FieldType} (h : (Cond.arrayOver (.array t)).before args s = true) :
    ∃ comp c k, s.vm.findClass (FieldType.array t).toString = some comp ∧ s.vm.classes[c]? = some k ∧ k.kind = .array comp (.array t) ∧ s.vm.findClass ("[" ++ (FieldType.array t).toString) = some c := by
  have h : (Cond.arrayOver (.array t)).holds args s none s [] = true := h
  simp only [Cond.holds, Cond.value, beq_iff_eq] at h
  cases hc : s.vm.findClass (FieldType.array t).toString with
  | none => rw [hc] at h; simp at h
  | some comp =>
    simp only [hc, Option.bind_some, Option.bind_eq_some_iff, Option.map_eq_some_iff] at h
    obtain ⟨c, hi, k, hk, hb⟩ := h
    obtain ⟨hlt, hp, -⟩ := Array.findIdx?_eq_some_iff_getElem.mp hi
    rw [(Array.getElem?_eq_some_iff.mp hk).2] at hp
    cases hkind : k.kind with
    | array component ty =>
      rw [hkind] at hb hp
      simp at hb hp
      exact ⟨comp, c, k, rfl, hk, by rw [hkind, hp, hb.1], hb.2⟩
    | _ => rw [hkind] at hb; simp at hb
variable {H : Heap} {locs : List Loc} {cells slots : Nat} {Q : State → Prop} {cc : ByteArray} {pc : Nat} {ls : Array Slot} {rest : List Value} {h : ab_H}
theorem ab_multi (hx : p.tables.exec = Jvm.exec) (hb : c.code = cc) (hK : va_K D cls (ab_tys tC) s) (hP : va_P D cls (ab_w (ab_r sa B) tC B h) H) (hS : va_S (fun q => B ≤ q) s.heap H locs) (hB : B ≤ s.heap.size) (hsz : s.heap.size + cells = B + h.length)
    {ow : String} {index t1 t2 : Nat} {ty : FieldType} (hown : s.vm.findClass ow = some m.cls) (hw1 : (Cond.classLink ow index ("[" ++ (FieldType.array ty).toString)).before args s = true) (hw2 : (Cond.arrayOver (.array ty)).before args s = true)
    (ht1 : t1 < 11 ∧ ab_ty t1 = ty) (ht2 : t2 < 11 ∧ ab_ty t2 = .array ty) (hr1 : va_RA s (tC t1) ty → s.vm.findClass (FieldType.array ty).toString = some (tC t1)) (hbt : componentBytes ty ≤ 8) (hdf : fits ty (defaultValue ty) = true)
    (hcell : ∀ (cA : ClassId) (M : Nat), vp_cell cA (mu_z t1 M) = arrV cA M (fun _ => defaultValue ty)) (hza : ∀ M, ab_a (ab_r sa B) (mu_z t1 M) = mu_z t1 M)
    {n k : Int32} (hn : ¬ n < 0) (hk : ¬ k < 0) (hn2 : n.toNatClampNeg ≤ 60000000) (hk2 : k.toNatClampNeg ≤ 60000000)
    (hRc : cells + (1 + n.toNatClampNeg) ≤ R.cells) (hRs : slots + (n.toNatClampNeg + n.toNatClampNeg * k.toNatClampNeg) ≤ R.slots) (hd : decode cc pc = .ok (.multianewarray index 2, 4))
    (kk : ∀ (H1 : Heap) (locs1 : List Loc), va_P D cls (ab_w (ab_r sa B) tC B (mu_fill t2 t1 n.toNatClampNeg k.toNatClampNeg h.length n.toNatClampNeg 0 (fun _ => none) (h ++ [.inl (t2, n.toNatClampNeg, .inr (.inr (.inr (.inr (fun _ => none)))))]))) H1 → va_S (fun q => B ≤ q) s.heap H1 locs1 → W p l e R s m args below meth c H1 locs1 (cells + (1 + n.toNatClampNeg)) (slots + (n.toNatClampNeg + n.toNatClampNeg * k.toNatClampNeg)) Q (F0 m (pc + 4) ls (.ref (ab_r sa B (100 + h.length)) :: rest))) :
    W p l e R s m args below meth c H locs cells slots Q (F0 m pc ls (.int k :: .int n :: rest)) := by
  refine fx_size (fun hz0 => ?_)
  have hz := ab_size hP hS hB hsz hz0
  intro T hT X
  subst hT
  have hpl : e.platform.magicAccessors = ({} : Platform).magicAccessors := by rw [X.admits.platform]
  obtain ⟨comp, cA, kA, hcomp, hkA, hkindA, hnameA⟩ := mu_over hw2
  obtain ⟨hA1, hR1⟩ := hK.2 t1 _ (ab_tys_at ht1.1)
  obtain ⟨hA2, hR2⟩ := hK.2 t2 _ (ab_tys_at ht2.1)
  rw [ht1.2] at hA1 hR1
  rw [ht2.2] at hR2
  have hR2' : s.vm.findClass ("[" ++ (FieldType.array ty).toString) = some (tC t2) := hR2
  have eA : cA = tC t2 := Option.some.inj (hnameA.symm.trans hR2')
  have eC : comp = tC t1 := Option.some.inj (hcomp.symm.trans (hr1 hR1))
  subst eA
  subst eC
  obtain ⟨-, kC, hkC, cc1, hkindC⟩ := hA1 0 (fun _ => .null)
  obtain ⟨c0, hfc0, hcl⟩ := Cond.classLink_spec hown hw1 e.platform hpl
  have e0 : c0 = tC t2 := Option.some.inj (hfc0.symm.trans hR2')
  subst e0
  obtain ⟨hg₁, hwarm₁, hready₁⟩ := State.classEntry (e := e) X.warmed hcl
  generalize T.vm.noted m.cls index (.cls (tC t2)) = vm₁ at hg₁ hwarm₁ hready₁
  have hal : s.vm.Alike vm₁ := hwarm₁.alike
  obtain ⟨kA₁, hkA₁, heA⟩ := hal.2.2 _ _ hkA
  obtain ⟨kC₁, hkC₁, heC⟩ := hal.2.2 _ _ hkC
  have hkindA₁ : kA₁.kind = .array (tC t1) (.array ty) := by rw [heA]; exact hkindA
  have hkindC₁ : kC₁.kind = .array cc1 ty := by rw [heC]; exact hkindC
  have X₁ := X.noted hwarm₁
  have hl : ∀ q : Nat, q ≤ 60000000 → ¬ q > e.platform.arrayLengthLimit := fun q hq => by rw [Launch.admits_arrayLengthLimit X.admits]; omega
  have hh1 : ¬ n.toNatClampNeg * componentBytes (.array ty) > e.platform.maxHeapBytes := by
    rw [Launch.admits_maxHeapBytes X.admits]; show ¬ n.toNatClampNeg * 4 > 536870912; omega
  have hh2 : ¬ k.toNatClampNeg * componentBytes ty > e.platform.maxHeapBytes := by
    rw [Launch.admits_maxHeapBytes X.admits]
    have := Nat.mul_le_mul hk2 hbt
    omega
  let cell0 : Cell := { cls := tC t2, slots := Array.replicate n.toNatClampNeg .null, vm := .none }
  have X₂ := X₁.pushed cell0
  have z0 : cell0.slots.size = n.toNatClampNeg := by simp [cell0]
  rw [z0] at X₂
  have hold : ∀ q : Nat, q < T.heap.size → ((T.setVm vm₁).pushCell cell0).heap[q]? = T.heap[q]? := fun q hq => State.heap_pushCell_of_lt (T.setVm vm₁) _ hq
  have hnew : ((T.setVm vm₁).pushCell cell0).heap[T.heap.size]? = some cell0 := State.heap_pushCell_size (T.setVm vm₁) _
  have hsz2 : ((T.setVm vm₁).pushCell cell0).heap.size = T.heap.size + 1 := by simp
  have P2 : va_P D cls (ab_w (ab_r sa B) tC B (h ++ [.inl (t2, n.toNatClampNeg, .inr (.inr (.inr (.inr (fun _ => none)))))])) ((T.setVm vm₁).pushCell cell0).heap := by
    rw [ab_w_push]
    refine (hP.kept (fun k q hk => hold _ ((hP k q hk).lt))).app (fun k q hk => ?_)
    have hz3 : k < 1 := (List.getElem?_eq_some_iff.mp hk).1
    rw [show k = 0 by omega] at hk
    cases hk
    show ((T.setVm vm₁).pushCell cell0).heap[B + h.length]? = some (vp_cell (tC t2) (n.toNatClampNeg, .inr (.inr (.inr (.inr (fun _ => none))))))
    rw [vp_cell_q, ← hz, hnew]
    exact congrArg some (arrV_new _ _ _)
  have S2 : va_S (fun q => B ≤ q) s.heap ((T.setVm vm₁).pushCell cell0).heap locs := ⟨by have := hS.1; omega, fun q h1 h2 => by rw [hold q (by have := hS.1; omega)]; exact hS.2.1 q h1 h2, hS.2.2⟩
  obtain ⟨T', locs', X', P', S', w'⟩ := mu_loop (f0 := F0 m pc ls rest) (N := n.toNatClampNeg) (a0 := h.length) (body := fun i _ => (multianewarray.make (tC t1) [k] >>= fun a => Jvm.writeLoc (B + h.length) i (.ref a) >>= fun _ => Pure.pure (ForInStep.yield PUnit.unit))) (fun _ _ => rfl) (fun cA => hcell cA k.toNatClampNeg) (hza _) hk rfl (hl _ hk2) hh2 hdf hkindA₁ hkindC₁ n.toNatClampNeg 0 (fun _ => none) (h ++ [.inl (t2, n.toNatClampNeg, .inr (.inr (.inr (.inr (fun _ => none)))))]) ((T.setVm vm₁).pushCell cell0) locs (cells + 1) (slots + n.toNatClampNeg)
    hkA₁ hkC₁ (by simp) (by omega) X₂ P2 S2 (by rw [hsz2, hz]; simp; omega) (by omega) (by omega)
  have k1 := kk T'.heap locs' P' S' T' rfl (by rw [← Nat.add_assoc cells, ← Nat.add_assoc slots]; exact X')
  obtain ⟨t, a1, b1⟩ := k1
  refine ⟨t, ?_, b1⟩
  obtain ⟨hr1, hr2⟩ := X₁.roomAbove (show cells + 1 ≤ R.cells by omega) (show slots + n.toNatClampNeg ≤ R.slots by omega)
  have er : ab_r sa B (100 + h.length) = T.heap.size := by rw [ab_r_ge (by omega), hz]; omega
  rw [er] at a1
  jvm_step X.here [hx, hb, hd]
  simp only [multianewarray.sem, wp_bind', W.resolveClassAt_links (State.method?_setTop (F0 m pc ls (.int k :: .int n :: rest)) X.here.top) hg₁]
  rw [W.popN, if_neg (by decide)]
  refine ⟨F0 m pc ls (.int k :: .int n :: rest), State.topJava?_setTop' (s := T.setVm vm₁) _ X.here.top, [.int n, .int k], rest, rfl, rfl, ?_⟩
  simp only [List.mapM_cons, List.mapM_nil, wp_bind', wp_pure']
  rw [multianewarray.make]
  simp only [wp_bind', W.ite, hn, if_false, wp_pure', W.theClass]
  refine ⟨kA₁, hkA₁, ?_⟩
  rw [hkindA₁]
  simp only [wp_bind']
  refine W.newArray_of (k := kA₁) (comp := tC t1) (type := .array ty) hkA₁ hkindA₁ (hl _ hn2) hh1 (by show T.heap.size + 1 ≤ _; exact hr1) (by show T.slotsUsed + _ ≤ _; exact hr2) rfl (fun acts' => ?_)
  have hfind : ([k].find? (· < 0)) = none := by simp [hk]
  simp only [hfind]
  rw [ite_self, wp_bind', Std.Legacy.Range.forIn_eq_forIn_range']
  have hszr : ([:n.toNatClampNeg] : Std.Legacy.Range).size = n.toNatClampNeg := by simp [Std.Legacy.Range.size]
  rw [hszr]
  have eS : (((T.setTop (F0 m pc ls (.int k :: .int n :: rest))).setVm vm₁).setTop (F0 m pc ls rest)).pushCell cell0 = ((T.setVm vm₁).pushCell cell0).setTop (F0 m pc ls rest) := by
    show ((((T.setVm vm₁).setTop _).setTop _).pushCell cell0) = _
    rw [State.setTop_setTop]
    rfl
  show wp (forIn (List.range' 0 n.toNatClampNeg 1) PUnit.unit (fun i _ => (multianewarray.make (tC t1) [k] >>= fun a => Jvm.writeLoc T.heap.size i (.ref a) >>= fun _ => Pure.pure (ForInStep.yield PUnit.unit)))) _ _ e true acts' ((((T.setTop (F0 m pc ls (.int k :: .int n :: rest))).setVm vm₁).setTop (F0 m pc ls rest)).pushCell cell0)
  rw [eS, hz]
  refine w' _ _ _ _ (fun d' acts' => ?_)
  have e9 : Array.size (((T.setTop (F0 m pc ls (.int k :: .int n :: rest))).setVm vm₁).setTop (F0 m pc ls rest)).heap = T.heap.size := rfl
  simp only [wp_pure', wp_bind', W.mark, W.pushRef, State.topJava?_setTop' _ X'.here.top, Option.some.injEq, exists_eq_left', State.setTop_setTop]
  intro acts
  simp [jvm, X'.here.top]
  exact a1
end MUA
