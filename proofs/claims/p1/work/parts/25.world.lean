/-! THE START, 2: the world at the law's entry -/
section WLD
variable {args : Array Value} {s : State}
theorem sw_K (hts : ∀ w ∈ lw_tbl, w.before args s = true) : ∃ (D : va_G) (tC : Nat → ClassId), va_K D cls (ab_tys tC) s := by
  have h0 : ∀ ci : Nat, ∃ (z : ClassId × (Nat → Nat)), ∀ q : vw_C, cls[ci]? = some q → u_Kn s q.1 q.2.1 q.2.2 z.1 z.2 := by
    intro ci
    cases hq : cls[ci]? with
    | none => exact ⟨(0, fun _ => 0), fun q h => by cases h⟩
    | some q =>
      have hlt : ci < 15 := (List.getElem?_eq_some_iff.mp hq).1
      have hi := sg_cl hts ci hlt
      have e1 : (cls.map (fun q => q.1)).getD ci "" = q.1 := by
        rw [List.getD_eq_getElem?_getD, List.getElem?_map, hq]
        rfl
      rw [e1] at hi
      obtain ⟨cC, iS, h⟩ := u_known hts (cls_ok ci q hq).1 hi
      exact ⟨(cC, iS), fun q' h' => by cases h'; exact h⟩
  obtain ⟨z, hz⟩ := Classical.axiomOfChoice h0
  have h1 : ∀ t : Nat, ∃ cA : ClassId, t < 11 → ArrOfT s cA (ab_ty t) ∧ va_RA s cA (ab_ty t) := by
    have pr : ∀ ty : FieldType, Cond.arrayClass ty ∈ lw_tbl → (∀ U cA, U.vm.findClass ("[" ++ ty.toString) = some cA → va_RA U cA ty) → ∃ cA : ClassId, ArrOfT s cA ty ∧ va_RA s cA ty := by
      intro ty hw hra
      obtain ⟨c, k, comp, g1, g2, g3⟩ := Cond.arrayClass_spec (hts _ hw)
      exact ⟨c, fun N z => ⟨(fun k h => by cases h), k, g2, comp, g3⟩, hra _ _ g1⟩
    have ob : ∀ C : String, Cond.arrayOver (.object C) ∈ lw_tbl → ∃ cA : ClassId, ArrOfT s cA (.object C) ∧ va_RA s cA (.object C) := by
      intro C hw
      obtain ⟨comp, c, k, g1, g2, g3, g4, g5⟩ := Cond.arrayOver_spec (hts _ hw)
      exact ⟨c, fun N z => ⟨(fun k h => by cases h), k, g3, comp, g4⟩, k, comp, g3, g4, g1, g5⟩
    have ar : ∀ ty : FieldType, Cond.arrayOver (.array ty) ∈ lw_tbl → ∃ cA : ClassId, ArrOfT s cA (.array ty) ∧ va_RA s cA (.array ty) := by
      intro ty hw
      obtain ⟨comp, c, k, g1, g3, g4, g5⟩ := mu_over (hts _ hw)
      exact ⟨c, fun N z => ⟨(fun k h => by cases h), k, g3, comp, g4⟩, g5⟩
    intro t
    match t with
    | 0 => obtain ⟨c, h⟩ := pr .int (pl_w_mem (q := (1, 92)) rfl) (fun _ _ z => z); exact ⟨c, fun _ => h⟩
    | 1 => obtain ⟨c, h⟩ := pr .long (pl_w_mem (q := (1, 93)) rfl) (fun _ _ z => z); exact ⟨c, fun _ => h⟩
    | 2 => obtain ⟨c, h⟩ := pr .byte (pl_w_mem (q := (1, 91)) rfl) (fun _ _ z => z); exact ⟨c, fun _ => h⟩
    | 3 => obtain ⟨c, h⟩ := pr .boolean (pl_w_mem (q := (9, 113)) rfl) (fun _ _ z => z); exact ⟨c, fun _ => h⟩
    | 4 => obtain ⟨c, h⟩ := ob _ (ab_ako_in (1, 15, 4) (by decide)); exact ⟨c, fun _ => h⟩
    | 5 => obtain ⟨c, h⟩ := ob _ (ab_ako_in (2, 25, 5) (by decide)); exact ⟨c, fun _ => h⟩
    | 6 => obtain ⟨c, h⟩ := ob _ (ab_ako_in (2, 31, 6) (by decide)); exact ⟨c, fun _ => h⟩
    | 7 => obtain ⟨c, h⟩ := ob _ (ab_ako_in (2, 37, 7) (by decide)); exact ⟨c, fun _ => h⟩
    | 8 => obtain ⟨c, h⟩ := ob _ (ab_ako_in (9, 15, 8) (by decide)); exact ⟨c, fun _ => h⟩
    | 9 => obtain ⟨c, h⟩ := ar .long mj_o; exact ⟨c, fun _ => h⟩
    | 10 => obtain ⟨c, h⟩ := ar .int mi2_o; exact ⟨c, fun _ => h⟩
    | t + 11 => exact ⟨0, fun h => absurd h (by omega)⟩
  obtain ⟨tC, hC⟩ := Classical.axiomOfChoice h1
  refine ⟨(fun c => (z c).1, fun c => (z c).2), tC, fun c q hq => hz c q hq, fun k q hk => ?_⟩
  have hlt : k < 11 := by
    have := (List.getElem?_eq_some_iff.mp hk).1
    simpa [ab_tys] using this
  rw [ab_tys_at hlt] at hk
  cases hk
  exact hC k hlt
theorem sw_nc (hg : (Jvm.Cond.and given_1 narrow_1).before args s = true) : ab_nc s := by
  have h := sg_nc hg
  intro i j hi hj hij
  rcases hi with rfl | rfl | rfl <;> rcases hj with rfl | rfl | rfl
  · exact absurd rfl hij
  · exact nc_args (h 0 (by decide))
  · exact nc_args (h 1 (by decide))
  · exact nc_args (h 2 (by decide))
  · exact absurd rfl hij
  · exact nc_args (h 3 (by decide))
  · exact nc_args (h 4 (by decide))
  · exact nc_args (h 5 (by decide))
  · exact absurd rfl hij
theorem sw_of {o n d : String} {t : Term} {v : Value} {u : Term} {a : Nat} {A : Nat → Prop} (ht : t.eval args s none [] s = some (.ref a)) (hf : (Cond.eq (.field t o n d) u).before args s = true) (hu : u.eval args s none [] s = some v) (hA : ∀ a : Nat, a < s.heap.size → ¬ A a) : va_OF o n d v a A s s.heap := by
  have hv := va_eqv hf hu
  cases hfo : s.fieldFound? o n d with
  | none =>
    rw [va_fe ht] at hv
    simp [State.fieldOf?, State.fieldNamed?, hfo] at hv
  | some x =>
    obtain ⟨cf, k, fi, f⟩ := x
    obtain ⟨g1, cell, g2, g3, -, -, g6⟩ := Term.field_spec hfo ht hv
    exact ⟨cf, k, fi, f, cell, hfo, g1, g2, g3, g6, hA _ (Array.getElem?_eq_some_iff.mp g2).1⟩
theorem sw_St {b L : Nat} {xs : Nat → Int32} (hts : ∀ w ∈ lw_tbl, w.before args s = true) (hg : (Jvm.Cond.and given_1 narrow_1).before args s = true) (hX : va_X b L xs s s.heap) (hb : b < s.heap.size) : ∃ sa : Nat → Nat, sa 0 = b ∧ ab_St sa L xs (fun q => s.heap.size ≤ q) s s.heap := by
  have hA : ∀ a : Nat, a < s.heap.size → ¬ (fun q => s.heap.size ≤ q) a := fun a h1 h2 => absurd h1 (Nat.not_lt.mpr h2)
  have tk : ∀ i : Nat, ∃ t : Nat, i < 59 → (Term.static tk_E (tk_n.getD i "") tk_d).eval args s none [] s = some (.ref t) := by
    intro i
    by_cases hi : i < 59
    · obtain ⟨a, c, cell, k, q1, -⟩ := Cond.exactly_spec (sg_ex hg i hi)
      exact ⟨a, fun _ => q1⟩
    · exact ⟨0, fun h => absurd h hi⟩
  obtain ⟨ad, had⟩ := Classical.axiomOfChoice tk
  have tt : ∀ i : Nat, ∃ t : Nat, i < 15 → (Term.string (own.getD (tx_l.getD i (0, 0, "")).1 "") (tx_l.getD i (0, 0, "")).2.1).eval args s none [] s = some (.ref t) := by
    intro i
    by_cases hi : i < 15
    · obtain ⟨a, c, cell, k, q1, -⟩ := Cond.exactly_spec (sg_te hg i hi)
      exact ⟨a, fun _ => q1⟩
    · exact ⟨0, fun h => absurd h hi⟩
  obtain ⟨td, htd⟩ := Classical.axiomOfChoice tt
  obtain ⟨kn, k1, k2⟩ := va_Tof (N := 59) (f := fun j => .ref (ad j)) (A := fun q => s.heap.size ≤ q) (by decide) (sg_kna hg) (va_eqt (sg_knl hg)) (fun j hj => va_eqv (sg_kn hg j hj) (had j hj)) hA
  obtain ⟨sm, m1, m2⟩ := va_Tof (N := 59) (f := fun j => .int (tk_s.getD j 0)) (A := fun q => s.heap.size ≤ q) (by decide) (sg_sma hg) (va_eqt (sg_sml hg)) (fun j hj => va_eqt (sg_sm hg j hj)) hA
  obtain ⟨sa, e0, e1, e60, e61, e62⟩ : ∃ sa : Nat → Nat, sa 0 = b ∧ (∀ i, i < 59 → sa (1 + i) = ad i) ∧ sa 60 = kn ∧ sa 61 = sm ∧ ∀ i, sa (62 + i) = td i := by
    refine ⟨fun k => if k = 0 then b else if k < 60 then ad (k - 1) else if k = 60 then kn else if k = 61 then sm else td (k - 62), rfl, fun i hi => ?_, rfl, rfl, fun i => ?_⟩
    · show (if 1 + i = 0 then b else if 1 + i < 60 then ad (1 + i - 1) else if 1 + i = 60 then kn else if 1 + i = 61 then sm else td (1 + i - 62)) = ad i
      rw [if_neg (by omega), if_pos (by omega), Nat.add_sub_cancel_left]
    · show (if 62 + i = 0 then b else if 62 + i < 60 then ad (62 + i - 1) else if 62 + i = 60 then kn else if 62 + i = 61 then sm else td (62 + i - 62)) = td i
      rw [if_neg (by omega), if_neg (by omega), if_neg (by omega), if_neg (by omega), Nat.add_sub_cancel_left]
  refine ⟨sa, e0, fun i hi => ?_, ⟨?_, ?_⟩, ⟨?_, ?_⟩, ⟨va_Zqof (sg_lu hts) (sg_int hts) (sg_us hg) hA, va_Zqof (sg_lz hts) (sg_int hts) (sg_ss hg) hA⟩, fun i q hq => ?_, by rw [e0]; exact hX, by rw [e0]; exact hb, by rw [e0]; exact Nat.not_le.mpr hb⟩
  · rw [e1 i hi]
    exact ⟨va_Zref (sg_ls hts i hi) (sg_ini hts) (had i hi) hA, va_Oof (sg_ex hg i hi) (had i hi) hA, sw_of (had i hi) (sg_or hg i hi) rfl hA, sw_of (had i hi) (sg_le hg i hi) rfl hA⟩
  · rw [e60]
    exact va_Zref (sg_lk hts) (sg_ini hts) k1 hA
  · rw [e60]
    obtain ⟨cell, g1, g2, g3, g4, g5, g6, g7⟩ := k2
    exact ⟨cell, g1, g2, g3, g4, g5, fun j hj => by show _ = some (Value.ref (sa (1 + j))); rw [e1 j hj]; exact g6 j hj, g7⟩
  · rw [e61]
    exact va_Zref (sg_l1 hts) (sg_in1 hts) m1 hA
  · rw [e61]
    exact m2
  · have hlt : i < 15 := (List.getElem?_eq_some_iff.mp hq).1
    have e2 : tx_l.getD i (0, 0, "") = q := by rw [List.getD_eq_getElem?_getD, hq]; rfl
    have h1 := htd i hlt
    have h2 := sg_tr hts i hlt
    rw [e2] at h1 h2
    rw [e62 i]
    exact vk_R.of h2 h1
end WLD
