/-! decode looks at an instruction's own bytes alone: so a method's code can be held against its decoded text piece by piece -/
def dl_b (A : ByteArray) (j : Nat) : Option UInt8 := A.data.toList[j]?
/-- B has from q on what A has from p on, and as many bytes ahead of it, but for a multiple of four -/
def dl_A (A : ByteArray) (p : Nat) (B : ByteArray) (q : Nat) : Prop := p % 4 = q % 4 ∧ (∀ j v, dl_b A (p + j) = some v → dl_b B (q + j) = some v) ∧ (p ≤ A.size → q ≤ B.size)
theorem dl_lt {A : ByteArray} {j : Nat} {v : UInt8} (h : dl_b A j = some v) : j < A.size := by
  obtain ⟨h1, -⟩ := List.getElem?_eq_some_iff.mp h
  rw [Array.length_toList] at h1
  exact h1
theorem dl_get {A : ByteArray} {j : Nat} (h : j < A.size) : dl_b A j = some A[j] := by
  have h2 : j < A.data.toList.length := by rw [Array.length_toList]; exact h
  show A.data.toList[j]? = _
  rw [List.getElem?_eq_getElem h2]
  rfl
theorem dl_A.on {A B : ByteArray} {p q : Nat} (h : dl_A A p B q) (d : Nat) : dl_A A (p + d) B (q + d) := by
  refine ⟨by have := h.1; omega, fun j v hv => ?_, fun hp => ?_⟩
  · have := h.2.1 (d + j) v (by rw [← Nat.add_assoc]; exact hv)
    rw [← Nat.add_assoc] at this
    exact this
  · rcases Nat.eq_zero_or_pos d with h0 | h0
    · subst h0; exact h.2.2 hp
    · have h1 := dl_lt (h.2.1 (d - 1) _ (dl_get (show p + (d - 1) < A.size by omega)))
      omega
/-- a reader over A from p, and one over B from q, give the same and go as far -/
def dl_R {α : Type} (r r' : Reader DecodeError α) : Prop := ∀ A B p q a k, dl_A A p B q → r A p = .ok (a, k) → ∃ d, k = p + d ∧ r' B q = .ok (a, q + d)
theorem dl_pure {α : Type} (a : α) : dl_R (Pure.pure a : Reader DecodeError α) (Pure.pure a) := by
  intro A B p q b k _ h
  have h : (.ok (a, p) : Except DecodeError (α × Nat)) = .ok (b, k) := h
  cases h
  exact ⟨0, rfl, rfl⟩
theorem dl_throw {α : Type} (e : DecodeError) (r' : Reader DecodeError α) : dl_R (throw e : Reader DecodeError α) r' := by
  intro A B p q b k _ h
  have h : (.error e : Except DecodeError (α × Nat)) = .ok (b, k) := h
  cases h
theorem dl_step {α β : Type} (r : Reader DecodeError α) (f : α → Reader DecodeError β) (A : ByteArray) (p : Nat) : (r >>= f) A p = (match r A p with | .ok x => f x.1 A x.2 | .error e => .error e) := by
  show (r A p >>= fun x => f x.1 A x.2) = _
  cases r A p <;> rfl
theorem dl_bind {α β : Type} {r r' : Reader DecodeError α} {f f' : α → Reader DecodeError β} (h : dl_R r r') (hf : ∀ a, dl_R (f a) (f' a)) : dl_R (r >>= f) (r' >>= f') := by
  intro A B p q b k hA h1
  rw [dl_step] at h1
  rw [dl_step]
  cases hr : r A p with
  | error e => rw [hr] at h1; cases h1
  | ok x =>
    obtain ⟨a, i⟩ := x
    rw [hr] at h1
    obtain ⟨d, rfl, g⟩ := h A B p q a i hA hr
    obtain ⟨d2, rfl, g2⟩ := hf a A B _ _ b k (hA.on d) h1
    refine ⟨d + d2, by omega, ?_⟩
    rw [g, ← Nat.add_assoc]
    exact g2
theorem dl_map {α β : Type} {r r' : Reader DecodeError α} (g : α → β) (h : dl_R r r') : dl_R (g <$> r) (g <$> r') := by
  have e : ∀ z : Reader DecodeError α, (g <$> z) = (z >>= fun a => Pure.pure (g a)) := fun z => by
    funext A p
    rw [dl_step]
    show (z A p >>= fun x => Pure.pure (g x.1, x.2)) = _
    cases z A p <;> rfl
  rw [e, e]
  exact dl_bind h (fun a => dl_pure _)
theorem dl_u1e (C : ByteArray) (i : Nat) : (Reader.u1 : Reader DecodeError Nat) C i = (if h : i < C.size then .ok (C[i].toNat, i + 1) else .error (HasTruncated.truncated i)) := by
  by_cases hi : i < C.size
  · rw [dif_pos hi]
    show (if h : i < C.size then _ else _ : Reader DecodeError Nat) C i = _
    rw [dif_pos hi]
    rfl
  · rw [dif_neg hi]
    show (if h : i < C.size then _ else _ : Reader DecodeError Nat) C i = _
    rw [dif_neg hi]
    rfl
theorem dl_u1 : dl_R (Reader.u1 : Reader DecodeError Nat) Reader.u1 := by
  intro A B p q a k hA h
  rw [dl_u1e] at h
  by_cases hp : p < A.size
  · rw [dif_pos hp] at h
    cases h
    have h2 : dl_b B q = some A[p] := hA.2.1 0 A[p] (dl_get hp)
    have hq := dl_lt h2
    have h4 : A[p] = B[q] := Option.some.inj (h2.symm.trans (dl_get hq))
    exact ⟨1, rfl, by rw [dl_u1e, dif_pos hq, h4]⟩
  · rw [dif_neg hp] at h
    cases h
theorem dl_u2 : dl_R (Reader.u2 : Reader DecodeError Nat) Reader.u2 := dl_bind dl_u1 fun _ => dl_bind dl_u1 fun _ => dl_pure _
theorem dl_u4 : dl_R (Reader.u4 : Reader DecodeError Nat) Reader.u4 := dl_bind dl_u2 fun _ => dl_bind dl_u2 fun _ => dl_pure _
theorem dl_s1 : dl_R (Reader.s1 : Reader DecodeError Int) Reader.s1 := dl_map _ dl_u1
theorem dl_s2 : dl_R (Reader.s2 : Reader DecodeError Int) Reader.s2 := dl_map _ dl_u2
theorem dl_s4 : dl_R (Reader.s4 : Reader DecodeError Int) Reader.s4 := dl_map _ dl_u4
theorem dl_go {α : Type} {r : Reader DecodeError α} (h : dl_R r r) : ∀ (n : Nat) (acc : Array α), dl_R (Reader.times.go r n acc) (Reader.times.go r n acc)
  | 0, acc => dl_pure _
  | n + 1, acc => dl_bind h fun _ => dl_go h n _
theorem dl_times {α : Type} {r : Reader DecodeError α} (h : dl_R r r) (n : Nat) : dl_R (Reader.times n r) (Reader.times n r) := dl_go h n _
theorem dl_pade (C : ByteArray) (i : Nat) : (Decoder.padding : Reader DecodeError Unit) C i = (if i + (4 - i % 4) % 4 ≤ C.size then .ok ((), i + (4 - i % 4) % 4) else .error (HasTruncated.truncated C.size)) := by
  by_cases hi : i + (4 - i % 4) % 4 ≤ C.size
  · rw [if_pos hi]
    show (do let _ ← (if i + (4 - i % 4) % 4 ≤ C.size then _ else _ : Reader DecodeError ByteArray); Pure.pure () : Reader DecodeError Unit) C i = _
    rw [if_pos hi]
    rfl
  · rw [if_neg hi]
    show (do let _ ← (if i + (4 - i % 4) % 4 ≤ C.size then _ else _ : Reader DecodeError ByteArray); Pure.pure () : Reader DecodeError Unit) C i = _
    rw [if_neg hi]
    rfl
theorem dl_pad : dl_R (Decoder.padding : Reader DecodeError Unit) Decoder.padding := by
  intro A B p q a k hA h
  rw [dl_pade] at h
  by_cases hp : p + (4 - p % 4) % 4 ≤ A.size
  · rw [if_pos hp] at h
    cases h
    have hq := (hA.on ((4 - p % 4) % 4)).2.2 hp
    exact ⟨(4 - p % 4) % 4, rfl, by rw [dl_pade, ← hA.1, if_pos hq]⟩
  · rw [if_neg hp] at h
    cases h
theorem dl_swT (i j : Nat) : dl_R (Decoder.tableswitch i) (Decoder.tableswitch j) := by
  unfold Decoder.tableswitch
  refine dl_bind dl_pad fun _ => dl_bind dl_s4 fun d => dl_bind dl_s4 fun lo => dl_bind dl_s4 fun hi => ?_
  by_cases h : lo ≤ hi
  · rw [if_pos h, if_pos h]
    exact dl_bind (dl_times dl_s4 _) fun _ => dl_pure _
  · rw [if_neg h, if_neg h]
    exact dl_bind (dl_throw _ _) fun _ => dl_bind (dl_times dl_s4 _) fun _ => dl_pure _
theorem dl_swL (i j : Nat) : dl_R (Decoder.lookupswitch i) (Decoder.lookupswitch j) := by
  unfold Decoder.lookupswitch
  have hp : dl_R (do Pure.pure (← Reader.s4, ← Reader.s4) : Reader DecodeError (Int × Int)) (do Pure.pure (← Reader.s4, ← Reader.s4)) := dl_bind dl_s4 fun _ => dl_bind dl_s4 fun _ => dl_pure _
  refine dl_bind dl_pad fun _ => dl_bind dl_s4 fun d => dl_bind dl_s4 fun n => ?_
  by_cases h : 0 ≤ n
  · rw [if_pos h, if_pos h]
    refine dl_bind (dl_times hp _) fun ps => ?_
    by_cases h : Decoder.increasing (ps.toList.map (·.1)) = true
    · rw [if_pos h, if_pos h]; exact dl_pure _
    · rw [if_neg h, if_neg h]; exact dl_bind (dl_throw _ _) fun _ => dl_pure _
  · rw [if_neg h, if_neg h]
    refine dl_bind (dl_throw _ _) fun _ => ?_
    refine dl_bind (dl_times hp _) fun ps => ?_
    by_cases h : Decoder.increasing (ps.toList.map (·.1)) = true
    · rw [if_pos h, if_pos h]; exact dl_pure _
    · rw [if_neg h, if_neg h]; exact dl_bind (dl_throw _ _) fun _ => dl_pure _
theorem dl_ifc (i j : Nat) : dl_R (Decoder.invokeinterface i) (Decoder.invokeinterface j) := by
  unfold Decoder.invokeinterface
  refine dl_bind dl_u2 fun _ => dl_bind dl_u1 fun a => dl_bind dl_u1 fun b => ?_
  by_cases h : (a != 0 && b == 0) = true
  · rw [if_pos h, if_pos h]; exact dl_pure _
  · rw [if_neg h, if_neg h]; exact dl_bind (dl_throw _ _) fun _ => dl_pure _
theorem dl_idy (i j : Nat) : dl_R (Decoder.invokedynamic i) (Decoder.invokedynamic j) := by
  unfold Decoder.invokedynamic
  refine dl_bind dl_u2 fun _ => dl_bind dl_u2 fun a => ?_
  by_cases h : (a == 0) = true
  · rw [if_pos h, if_pos h]; exact dl_pure _
  · rw [if_neg h, if_neg h]; exact dl_bind (dl_throw _ _) fun _ => dl_pure _
theorem dl_wide (i j : Nat) : dl_R (Decoder.wide i) (Decoder.wide j) := by
  unfold Decoder.wide
  refine dl_bind dl_u1 fun b => ?_
  split <;> first | exact dl_bind dl_u2 fun _ => dl_pure _ | exact dl_bind dl_u2 fun _ => dl_bind dl_s2 fun _ => dl_pure _ | exact dl_throw _ _
theorem dl_newa (i j : Nat) : dl_R (Decoder.newarray i) (Decoder.newarray j) := by
  unfold Decoder.newarray
  refine dl_bind dl_u1 fun b => ?_
  split <;> first | exact dl_pure _ | exact dl_throw _ _
theorem dl_multi (i j : Nat) : dl_R (Decoder.multianewarray i) (Decoder.multianewarray j) := by
  unfold Decoder.multianewarray
  refine dl_bind dl_u2 fun _ => dl_bind dl_u1 fun n => ?_
  by_cases h : (n != 0) = true
  · rw [if_pos h, if_pos h]; exact dl_pure _
  · rw [if_neg h, if_neg h]; exact dl_bind (dl_throw _ _) fun _ => dl_pure _
set_option maxRecDepth 16384 in
set_option maxHeartbeats 4000000 in
theorem dl_instr (i j : Nat) : dl_R (Decoder.instr i) (Decoder.instr j) := by
  delta Decoder.instr
  refine dl_bind dl_u1 fun b => ?_
  split <;> first | exact dl_pure _ | exact dl_bind dl_u2 fun _ => dl_pure _ | exact dl_bind dl_u1 fun _ => dl_pure _ | exact dl_bind dl_s2 fun _ => dl_pure _ | exact dl_bind dl_s1 fun _ => dl_pure _ | exact dl_bind dl_s4 fun _ => dl_pure _ | exact dl_bind dl_u1 fun _ => dl_bind dl_s1 fun _ => dl_pure _ | exact dl_throw _ _ | exact dl_swT i j | exact dl_swL i j | exact dl_newa i j | exact dl_multi i j | exact dl_ifc i j | exact dl_idy i j | exact dl_wide i j
theorem dl_decode {A B : ByteArray} {p q : Nat} {r : Instr × Nat} (hA : dl_A A p B q) (h : decode A p = .ok r) : decode B q = .ok r := by
  have e : ∀ (C : ByteArray) (i : Nat), decode C i = (match (Decoder.instr i) C i with | .ok x => .ok (x.1, x.2 - i) | .error e => .error e) := fun C i => by
    show ((Decoder.instr i) C i >>= fun x => Pure.pure (x.1, x.2 - i)) = _
    cases (Decoder.instr i) C i <;> rfl
  rw [e] at h
  rw [e]
  cases hr : (Decoder.instr p) A p with
  | error z => rw [hr] at h; cases h
  | ok x =>
    obtain ⟨a, k⟩ := x
    rw [hr] at h
    obtain ⟨d, rfl, g⟩ := dl_instr p q A B p q a k hA hr
    rw [g]
    cases h
    show Except.ok (a, q + d - q) = Except.ok (a, p + d - p)
    rw [Nat.add_sub_cancel_left, Nat.add_sub_cancel_left]
/-- the bytes from one place on, held against a list of instructions, piece by piece -/
def dl_ck : Nat → List UInt8 → List (Nat × Instr × Nat) → Bool
  | _, _, [] => true
  | pc, bs, y :: r => decide (y.1 = pc) && decide ((bs.take y.2.2).length = y.2.2) && decide (decode ⟨(List.replicate (pc % 4) 0 ++ bs.take y.2.2).toArray⟩ (pc % 4) = .ok y.2) && dl_ck (pc + y.2.2) (bs.drop y.2.2) r
theorem dl_ck_ok (C : ByteArray) : ∀ (l : List (Nat × Instr × Nat)) (pc : Nat), dl_ck pc (C.data.toList.drop pc) l = true → pc ≤ C.size → ∀ y ∈ l, decode C y.1 = .ok y.2
  | [], _, _, _, y, hy => by cases hy
  | z :: r, pc, h, hpc, y, hy => by
    simp only [dl_ck, Bool.and_eq_true, decide_eq_true_eq] at h
    obtain ⟨⟨⟨h1, h0⟩, h2⟩, h3⟩ := h
    rw [List.length_take, List.length_drop, Array.length_toList] at h0
    have hsz : pc + z.2.2 ≤ C.size := by
      have : C.data.size = C.size := rfl
      omega
    rw [List.drop_drop] at h3
    rcases List.mem_cons.mp hy with rfl | hy
    · rw [h1]
      refine dl_decode ⟨Nat.mod_mod _ _, fun j v hv => ?_, fun _ => hpc⟩ h2
      have hv : (List.replicate (pc % 4) 0 ++ (C.data.toList.drop pc).take y.2.2)[pc % 4 + j]? = some v := hv
      rw [List.getElem?_append_right (by simp), List.length_replicate, Nat.add_sub_cancel_left] at hv
      have h5 := (List.getElem?_eq_some_iff.mp hv).1
      rw [List.length_take] at h5
      rw [List.getElem?_take_of_lt (by omega), List.getElem?_drop] at hv
      exact hv
    · exact dl_ck_ok C r (pc + z.2.2) h3 hsz y hy
