/-! THE ABSTRACT MACHINE, 6: the words stay; rows for what was there before; the throw of an exception -/
/-- words that stay true under warmer tables, whatever the arguments -/
def ab_gw (w : Cond) : Bool := goodWord w || (match w with
  | .fieldLinkNest .. => true
  | .methodLinkNest .. => true
  | .stringRef .. => true
  | .castable .. => true
  | .declares .. => true
  | .arrayOver (.object _) => true
  | .arrayOver (.array _) => true
  | .privateMethod .. => true
  | _ => false)
def ab_gl (w : Cond) : Bool := match w with
  | .laysStatic .. => true
  | _ => false
theorem ab_gw_all : lw_tbl.all (fun w => ab_gw w || ab_gl w) = true := by decide +kernel
theorem ab_over {t : FieldType} {args a' : Array Value} {u U : State} (hvm : u.vm.Alike U.vm) (h : (Cond.arrayOver (.array t)).before args u = true) : (Cond.arrayOver (.array t)).before a' U = true := by
  unfold Cond.before Cond.holds at h ⊢
  simp only [Cond.value, beq_iff_eq] at h ⊢
  rw [hvm.findClass]
  cases hc : u.vm.findClass (FieldType.array t).toString with
  | none => simp [hc] at h
  | some comp =>
    simp only [hc, Option.bind_some, Option.bind_eq_some_iff, Option.map_eq_some_iff] at h ⊢
    obtain ⟨c, hi, k, hk, hb⟩ := h
    obtain ⟨k', hk', he⟩ := hvm.2.2 _ _ hk
    have e1 := va_idx_bare U.vm comp
    have e2 := va_idx_bare u.vm comp
    have e3 : U.vm.bare = u.vm.bare := by first | exact hvm.bare_eq | exact hvm.bare_eq.symm
    rw [e3] at e1
    have e4 := (e1.symm.trans e2).trans hi
    have hkind : k'.kind = k.kind := by rw [he]
    refine ⟨c, e4, k', hk', ?_⟩
    rw [hkind, hvm.findClass]
    exact hb
theorem ab_word {w : Cond} {args a' : Array Value} {s U : State} (hg : ab_gw w = true) (hW : s.WarmedH U.vm) (h : w.before args s = true) : w.before a' U = true := by
  unfold ab_gw at hg
  rw [Bool.or_eq_true] at hg
  rcases hg with hg | hg
  · exact word_at hW (good_of_word hg) h
  · split at hg
    · exact va_Nw.use rfl (va_Nw.warmF hW (va_Nw.of rfl h))
    · exact va_Nw.use rfl (va_Nw.warmM hW (va_Nw.of rfl h))
    · have h1 := Cond.stringRef_warmed (args := args) hW h
      simp only [Cond.before, Cond.holds, Cond.value, State.names, State.poolOf?, State.resolvedAt?, State.vm_setVm] at h1 ⊢
      exact h1
    · exact va_Nw.use rfl (va_Nw.warmC hW (va_Nw.of rfl h))
    · exact va_Nw.use rfl (va_Nw.warmD hW (va_Nw.of rfl h))
    · exact va_AO.use (va_AO.moved hW.alike (va_AO.of h))
    · exact ab_over hW.alike h
    · exact Cond.privateMethod_warm hW h
    · cases hg
theorem ab_lays {C n d : String} {args a' : Array Value} {B : Nat} {s U : State} (hW : s.WarmedH U.vm) (hq : ∀ x : Nat, x < s.heap.size → ¬ B ≤ x → U.heap[x]? = s.heap[x]?) (hNs : ∀ (x : Nat) (cell : Cell), B ≤ x → s.heap[x]? = some cell → cell.vm.isStatics = false) (h : (Cond.laysStatic C n d).before args s = true) : (Cond.laysStatic C n d).before a' U = true := by
  obtain ⟨c, k, i, f, a, cell, h1, h2, h3, h4, h5, h6, h7, h8, h9⟩ := Cond.laysStatic_spec h
  obtain ⟨k', hi', he⟩ := State.fieldFound?_setVm hW.alike h2
  have hnb : ¬ B ≤ a := fun z => by rw [hNs a cell z h5] at h6; cases h6
  have g1 : U.vm.findClass C = some c := by rw [hW.alike.findClass]; exact h1
  have g2 : U.fieldFound? C n d = some (c, k', i, f) := hi'
  have g4 : k'.statics = some a := by rw [he]; exact h4
  have g9 : k'.staticTypes[f.slot]? = some f.type := by rw [he]; exact h9
  have g5 : U.heap[a]? = some cell := by rw [hq a (Array.getElem?_eq_some_iff.mp h5).1 hnb]; exact h5
  simp [Cond.before, Cond.holds, Cond.value, g1, g2, g4, g5, h3, h6, h7, h8, g9]
theorem ab_hts {args : Array Value} {B : Nat} {s U : State} (hW : s.WarmedH U.vm) (hq : ∀ x : Nat, x < s.heap.size → ¬ B ≤ x → U.heap[x]? = s.heap[x]?) (hNs : ∀ (x : Nat) (cell : Cell), B ≤ x → s.heap[x]? = some cell → cell.vm.isStatics = false) (h : ∀ w ∈ lw_tbl, w.before args s = true) (a' : Array Value) : ∀ w ∈ lw_tbl, w.before a' U = true := by
  intro w hw
  have hg := List.all_eq_true.mp ab_gw_all w hw
  rw [Bool.or_eq_true] at hg
  rcases hg with hg | hg
  · exact ab_word hg hW (h w hw)
  · unfold ab_gl at hg
    split at hg
    · exact ab_lays hW hq hNs (h _ hw)
    · cases hg
theorem gs_2_t : ∀ q ∈ gs_2, q.2.2 = 60 := by decide
theorem gs_3_t : ∀ q ∈ gs_3, q.2.2 = 61 := by decide
theorem xs_t : ∀ q ∈ xs_l, q.2.2.2 = 12 ∨ q.2.2.2 = 13 ∨ q.2.2.2 = 14 := by decide
theorem xs_f (o X : String) (ic : Nat) : (Bundle.ownAtoms o ic X xs_n).filter xs_h = [.isRef (.static Bundle.tN "UNASSIGNED_STACK" Bundle.steD), .isRef (.static Bundle.tN "SUPPRESSED_SENTINEL" Bundle.listD)] := rfl
