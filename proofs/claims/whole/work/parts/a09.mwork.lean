/-! THE OTHER SIDE WORKS A FORMULA OUT: its small steps -/
set_option maxRecDepth 100000 in
theorem i6432 (x : Int32) : x.toInt64.toInt32 = x := by
  apply Int32.toInt_inj.mp
  have h := i64 x
  have h1 := Int32.le_toInt x
  have h2 := Int32.toInt_lt x
  rw [Int64.toInt_toInt32, h]
  exact Int.bmod_eq_of_le (by omega) (by omega)
def o2M : Option tv_T → Int64
  | none => 0
  | some r => v_M r
section MWS
variable {L : Nat} {xs : Nat → Int32} {C : co_T} {t : ab_H} {d sl : Nat} {v w : Option Int32} {x y : Int32} {g z : Bool}
set_option maxRecDepth 100000 in
theorem m_253_19 {u z : Option Bool} : Wd L xs d y_253 (0, [(0, .int 1), (1, .long (t_M u)), (3, .long (t_M z))], [], MH C t, sl) (Rt (some (.long (o2M (u_2 true 19 (.inr u) (.inr z))))) (MH C t) sl) nX := by
  rcases u with _ | _ | _ <;> rcases z with _ | _ | _
  · skip
    refine w_p (pc1 := 1) rfl rfl ?_
    refine w_f (a := 8) (b := 4) rfl rfl rfl ?_
    refine w_p (pc1 := 5) (st1 := .long 0 :: _) rfl rfl ?_
    refine w_p (pc1 := 9) rfl rfl ?_
    refine w_p (pc1 := 11) (al1 := [(5, .long 0), (0, .int 1), (1, .long (t_M none)), (3, .long (t_M none))]) rfl rfl ?_
    refine w_p (pc1 := 12) rfl rfl ?_
    refine w_p (pc1 := 14) rfl rfl ?_
    refine w_p (pc1 := 15) rfl rfl ?_
    refine w_f (a := 25) (b := 18) (lb_eq_f (by decide)) rfl rfl ?_
    refine w_p (pc1 := 19) rfl rfl ?_
    refine w_p (pc1 := 21) rfl rfl ?_
    refine w_p (pc1 := 22) rfl rfl ?_
    refine w_t (a := 30) (b := 25) (lb_ne_t (by decide)) rfl rfl ?_
    refine w_p (pc1 := 31) rfl rfl ?_
    refine w_m0 (pc1 := 34) (st1 := .long (-9223372036854775808) :: _) rfl rfl rfl rfl ?_
    refine w_p (pc1 := 35) rfl rfl ?_
    refine w_t (a := 46) (b := 38) (lb_eq_t (by decide)) rfl rfl ?_
    refine w_m0 (pc1 := 49) (st1 := .long (-9223372036854775808) :: _) rfl rfl rfl rfl ?_
    refine w_p (pc1 := 56) rfl rfl ?_
    refine w_r rfl rfl rfl (fun _ _ => rfl) rfl ?_
    exact ⟨congrArg (fun q => some (Value.long q)) (by show t_M (u_b 19 none none) = _; decide), rfl, rfl⟩
  · skip
    refine w_p (pc1 := 1) rfl rfl ?_
    refine w_f (a := 8) (b := 4) rfl rfl rfl ?_
    refine w_p (pc1 := 5) (st1 := .long 0 :: _) rfl rfl ?_
    refine w_p (pc1 := 9) rfl rfl ?_
    refine w_p (pc1 := 11) (al1 := [(5, .long 0), (0, .int 1), (1, .long (t_M none)), (3, .long (t_M (some false)))]) rfl rfl ?_
    refine w_p (pc1 := 12) rfl rfl ?_
    refine w_p (pc1 := 14) rfl rfl ?_
    refine w_p (pc1 := 15) rfl rfl ?_
    refine w_f (a := 25) (b := 18) (lb_eq_f (by decide)) rfl rfl ?_
    refine w_p (pc1 := 19) rfl rfl ?_
    refine w_p (pc1 := 21) rfl rfl ?_
    refine w_p (pc1 := 22) rfl rfl ?_
    refine w_f (a := 30) (b := 25) (lb_ne_f (by decide)) rfl rfl ?_
    refine w_p (pc1 := 27) rfl rfl ?_
    refine w_p (pc1 := 56) rfl rfl ?_
    refine w_r rfl rfl rfl (fun _ _ => rfl) rfl ?_
    exact ⟨congrArg (fun q => some (Value.long q)) (by show t_M (u_b 19 none (some false)) = _; decide), rfl, rfl⟩
  · skip
    refine w_p (pc1 := 1) rfl rfl ?_
    refine w_f (a := 8) (b := 4) rfl rfl rfl ?_
    refine w_p (pc1 := 5) (st1 := .long 0 :: _) rfl rfl ?_
    refine w_p (pc1 := 9) rfl rfl ?_
    refine w_p (pc1 := 11) (al1 := [(5, .long 0), (0, .int 1), (1, .long (t_M none)), (3, .long (t_M (some true)))]) rfl rfl ?_
    refine w_p (pc1 := 12) rfl rfl ?_
    refine w_p (pc1 := 14) rfl rfl ?_
    refine w_p (pc1 := 15) rfl rfl ?_
    refine w_f (a := 25) (b := 18) (lb_eq_f (by decide)) rfl rfl ?_
    refine w_p (pc1 := 19) rfl rfl ?_
    refine w_p (pc1 := 21) rfl rfl ?_
    refine w_p (pc1 := 22) rfl rfl ?_
    refine w_t (a := 30) (b := 25) (lb_ne_t (by decide)) rfl rfl ?_
    refine w_p (pc1 := 31) rfl rfl ?_
    refine w_m0 (pc1 := 34) (st1 := .long (-9223372036854775808) :: _) rfl rfl rfl rfl ?_
    refine w_p (pc1 := 35) rfl rfl ?_
    refine w_t (a := 46) (b := 38) (lb_eq_t (by decide)) rfl rfl ?_
    refine w_m0 (pc1 := 49) (st1 := .long (-9223372036854775808) :: _) rfl rfl rfl rfl ?_
    refine w_p (pc1 := 56) rfl rfl ?_
    refine w_r rfl rfl rfl (fun _ _ => rfl) rfl ?_
    exact ⟨congrArg (fun q => some (Value.long q)) (by show t_M (u_b 19 none (some true)) = _; decide), rfl, rfl⟩
  · skip
    refine w_p (pc1 := 1) rfl rfl ?_
    refine w_f (a := 8) (b := 4) rfl rfl rfl ?_
    refine w_p (pc1 := 5) (st1 := .long 0 :: _) rfl rfl ?_
    refine w_p (pc1 := 9) rfl rfl ?_
    refine w_p (pc1 := 11) (al1 := [(5, .long 0), (0, .int 1), (1, .long (t_M (some false))), (3, .long (t_M none))]) rfl rfl ?_
    refine w_p (pc1 := 12) rfl rfl ?_
    refine w_p (pc1 := 14) rfl rfl ?_
    refine w_p (pc1 := 15) rfl rfl ?_
    refine w_t (a := 25) (b := 18) (lb_eq_t (by decide)) rfl rfl ?_
    refine w_p (pc1 := 27) rfl rfl ?_
    refine w_p (pc1 := 56) rfl rfl ?_
    refine w_r rfl rfl rfl (fun _ _ => rfl) rfl ?_
    exact ⟨congrArg (fun q => some (Value.long q)) (by show t_M (u_b 19 (some false) none) = _; decide), rfl, rfl⟩
  · skip
    refine w_p (pc1 := 1) rfl rfl ?_
    refine w_f (a := 8) (b := 4) rfl rfl rfl ?_
    refine w_p (pc1 := 5) (st1 := .long 0 :: _) rfl rfl ?_
    refine w_p (pc1 := 9) rfl rfl ?_
    refine w_p (pc1 := 11) (al1 := [(5, .long 0), (0, .int 1), (1, .long (t_M (some false))), (3, .long (t_M (some false)))]) rfl rfl ?_
    refine w_p (pc1 := 12) rfl rfl ?_
    refine w_p (pc1 := 14) rfl rfl ?_
    refine w_p (pc1 := 15) rfl rfl ?_
    refine w_t (a := 25) (b := 18) (lb_eq_t (by decide)) rfl rfl ?_
    refine w_p (pc1 := 27) rfl rfl ?_
    refine w_p (pc1 := 56) rfl rfl ?_
    refine w_r rfl rfl rfl (fun _ _ => rfl) rfl ?_
    exact ⟨congrArg (fun q => some (Value.long q)) (by show t_M (u_b 19 (some false) (some false)) = _; decide), rfl, rfl⟩
  · skip
    refine w_p (pc1 := 1) rfl rfl ?_
    refine w_f (a := 8) (b := 4) rfl rfl rfl ?_
    refine w_p (pc1 := 5) (st1 := .long 0 :: _) rfl rfl ?_
    refine w_p (pc1 := 9) rfl rfl ?_
    refine w_p (pc1 := 11) (al1 := [(5, .long 0), (0, .int 1), (1, .long (t_M (some false))), (3, .long (t_M (some true)))]) rfl rfl ?_
    refine w_p (pc1 := 12) rfl rfl ?_
    refine w_p (pc1 := 14) rfl rfl ?_
    refine w_p (pc1 := 15) rfl rfl ?_
    refine w_t (a := 25) (b := 18) (lb_eq_t (by decide)) rfl rfl ?_
    refine w_p (pc1 := 27) rfl rfl ?_
    refine w_p (pc1 := 56) rfl rfl ?_
    refine w_r rfl rfl rfl (fun _ _ => rfl) rfl ?_
    exact ⟨congrArg (fun q => some (Value.long q)) (by show t_M (u_b 19 (some false) (some true)) = _; decide), rfl, rfl⟩
  · skip
    refine w_p (pc1 := 1) rfl rfl ?_
    refine w_f (a := 8) (b := 4) rfl rfl rfl ?_
    refine w_p (pc1 := 5) (st1 := .long 0 :: _) rfl rfl ?_
    refine w_p (pc1 := 9) rfl rfl ?_
    refine w_p (pc1 := 11) (al1 := [(5, .long 0), (0, .int 1), (1, .long (t_M (some true))), (3, .long (t_M none))]) rfl rfl ?_
    refine w_p (pc1 := 12) rfl rfl ?_
    refine w_p (pc1 := 14) rfl rfl ?_
    refine w_p (pc1 := 15) rfl rfl ?_
    refine w_f (a := 25) (b := 18) (lb_eq_f (by decide)) rfl rfl ?_
    refine w_p (pc1 := 19) rfl rfl ?_
    refine w_p (pc1 := 21) rfl rfl ?_
    refine w_p (pc1 := 22) rfl rfl ?_
    refine w_t (a := 30) (b := 25) (lb_ne_t (by decide)) rfl rfl ?_
    refine w_p (pc1 := 31) rfl rfl ?_
    refine w_m0 (pc1 := 34) (st1 := .long (-9223372036854775808) :: _) rfl rfl rfl rfl ?_
    refine w_p (pc1 := 35) rfl rfl ?_
    refine w_f (a := 46) (b := 38) (lb_eq_f (by decide)) rfl rfl ?_
    refine w_p (pc1 := 39) rfl rfl ?_
    refine w_m0 (pc1 := 42) (st1 := .long (-9223372036854775808) :: _) rfl rfl rfl rfl ?_
    refine w_p (pc1 := 43) rfl rfl ?_
    refine w_f (a := 52) (b := 46) (lb_ne_f (by decide)) rfl rfl ?_
    refine w_m0 (pc1 := 49) (st1 := .long (-9223372036854775808) :: _) rfl rfl rfl rfl ?_
    refine w_p (pc1 := 56) rfl rfl ?_
    refine w_r rfl rfl rfl (fun _ _ => rfl) rfl ?_
    exact ⟨congrArg (fun q => some (Value.long q)) (by show t_M (u_b 19 (some true) none) = _; decide), rfl, rfl⟩
  · skip
    refine w_p (pc1 := 1) rfl rfl ?_
    refine w_f (a := 8) (b := 4) rfl rfl rfl ?_
    refine w_p (pc1 := 5) (st1 := .long 0 :: _) rfl rfl ?_
    refine w_p (pc1 := 9) rfl rfl ?_
    refine w_p (pc1 := 11) (al1 := [(5, .long 0), (0, .int 1), (1, .long (t_M (some true))), (3, .long (t_M (some false)))]) rfl rfl ?_
    refine w_p (pc1 := 12) rfl rfl ?_
    refine w_p (pc1 := 14) rfl rfl ?_
    refine w_p (pc1 := 15) rfl rfl ?_
    refine w_f (a := 25) (b := 18) (lb_eq_f (by decide)) rfl rfl ?_
    refine w_p (pc1 := 19) rfl rfl ?_
    refine w_p (pc1 := 21) rfl rfl ?_
    refine w_p (pc1 := 22) rfl rfl ?_
    refine w_f (a := 30) (b := 25) (lb_ne_f (by decide)) rfl rfl ?_
    refine w_p (pc1 := 27) rfl rfl ?_
    refine w_p (pc1 := 56) rfl rfl ?_
    refine w_r rfl rfl rfl (fun _ _ => rfl) rfl ?_
    exact ⟨congrArg (fun q => some (Value.long q)) (by show t_M (u_b 19 (some true) (some false)) = _; decide), rfl, rfl⟩
  · skip
    refine w_p (pc1 := 1) rfl rfl ?_
    refine w_f (a := 8) (b := 4) rfl rfl rfl ?_
    refine w_p (pc1 := 5) (st1 := .long 0 :: _) rfl rfl ?_
    refine w_p (pc1 := 9) rfl rfl ?_
    refine w_p (pc1 := 11) (al1 := [(5, .long 0), (0, .int 1), (1, .long (t_M (some true))), (3, .long (t_M (some true)))]) rfl rfl ?_
    refine w_p (pc1 := 12) rfl rfl ?_
    refine w_p (pc1 := 14) rfl rfl ?_
    refine w_p (pc1 := 15) rfl rfl ?_
    refine w_f (a := 25) (b := 18) (lb_eq_f (by decide)) rfl rfl ?_
    refine w_p (pc1 := 19) rfl rfl ?_
    refine w_p (pc1 := 21) rfl rfl ?_
    refine w_p (pc1 := 22) rfl rfl ?_
    refine w_t (a := 30) (b := 25) (lb_ne_t (by decide)) rfl rfl ?_
    refine w_p (pc1 := 31) rfl rfl ?_
    refine w_m0 (pc1 := 34) (st1 := .long (-9223372036854775808) :: _) rfl rfl rfl rfl ?_
    refine w_p (pc1 := 35) rfl rfl ?_
    refine w_f (a := 46) (b := 38) (lb_eq_f (by decide)) rfl rfl ?_
    refine w_p (pc1 := 39) rfl rfl ?_
    refine w_m0 (pc1 := 42) (st1 := .long (-9223372036854775808) :: _) rfl rfl rfl rfl ?_
    refine w_p (pc1 := 43) rfl rfl ?_
    refine w_t (a := 52) (b := 46) (lb_ne_t (by decide)) rfl rfl ?_
    refine w_p (pc1 := 53) (st1 := .long 1 :: _) rfl rfl ?_
    refine w_p (pc1 := 55) rfl rfl ?_
    refine w_p (pc1 := 56) (st1 := .long (((1 : Int64)) - ((0 : Int64))) :: _) rfl rfl ?_
    refine w_r rfl rfl rfl (fun _ _ => rfl) rfl ?_
    exact ⟨congrArg (fun q => some (Value.long q)) (by show t_M (u_b 19 (some true) (some true)) = _; decide), rfl, rfl⟩
set_option maxRecDepth 100000 in
theorem m_253_20 {u z : Option Bool} : Wd L xs d y_253 (0, [(0, .int 0), (1, .long (t_M u)), (3, .long (t_M z))], [], MH C t, sl) (Rt (some (.long (o2M (u_2 true 20 (.inr u) (.inr z))))) (MH C t) sl) nX := by
  rcases u with _ | _ | _ <;> rcases z with _ | _ | _
  · skip
    refine w_p (pc1 := 1) rfl rfl ?_
    refine w_t (a := 8) (b := 4) rfl rfl rfl ?_
    refine w_p (pc1 := 9) (st1 := .long 1 :: _) rfl rfl ?_
    refine w_p (pc1 := 11) (al1 := [(5, .long 1), (0, .int 0), (1, .long (t_M none)), (3, .long (t_M none))]) rfl rfl ?_
    refine w_p (pc1 := 12) rfl rfl ?_
    refine w_p (pc1 := 14) rfl rfl ?_
    refine w_p (pc1 := 15) rfl rfl ?_
    refine w_f (a := 25) (b := 18) (lb_eq_f (by decide)) rfl rfl ?_
    refine w_p (pc1 := 19) rfl rfl ?_
    refine w_p (pc1 := 21) rfl rfl ?_
    refine w_p (pc1 := 22) rfl rfl ?_
    refine w_t (a := 30) (b := 25) (lb_ne_t (by decide)) rfl rfl ?_
    refine w_p (pc1 := 31) rfl rfl ?_
    refine w_m0 (pc1 := 34) (st1 := .long (-9223372036854775808) :: _) rfl rfl rfl rfl ?_
    refine w_p (pc1 := 35) rfl rfl ?_
    refine w_t (a := 46) (b := 38) (lb_eq_t (by decide)) rfl rfl ?_
    refine w_m0 (pc1 := 49) (st1 := .long (-9223372036854775808) :: _) rfl rfl rfl rfl ?_
    refine w_p (pc1 := 56) rfl rfl ?_
    refine w_r rfl rfl rfl (fun _ _ => rfl) rfl ?_
    exact ⟨congrArg (fun q => some (Value.long q)) (by show t_M (u_b 20 none none) = _; decide), rfl, rfl⟩
  · skip
    refine w_p (pc1 := 1) rfl rfl ?_
    refine w_t (a := 8) (b := 4) rfl rfl rfl ?_
    refine w_p (pc1 := 9) (st1 := .long 1 :: _) rfl rfl ?_
    refine w_p (pc1 := 11) (al1 := [(5, .long 1), (0, .int 0), (1, .long (t_M none)), (3, .long (t_M (some false)))]) rfl rfl ?_
    refine w_p (pc1 := 12) rfl rfl ?_
    refine w_p (pc1 := 14) rfl rfl ?_
    refine w_p (pc1 := 15) rfl rfl ?_
    refine w_f (a := 25) (b := 18) (lb_eq_f (by decide)) rfl rfl ?_
    refine w_p (pc1 := 19) rfl rfl ?_
    refine w_p (pc1 := 21) rfl rfl ?_
    refine w_p (pc1 := 22) rfl rfl ?_
    refine w_t (a := 30) (b := 25) (lb_ne_t (by decide)) rfl rfl ?_
    refine w_p (pc1 := 31) rfl rfl ?_
    refine w_m0 (pc1 := 34) (st1 := .long (-9223372036854775808) :: _) rfl rfl rfl rfl ?_
    refine w_p (pc1 := 35) rfl rfl ?_
    refine w_t (a := 46) (b := 38) (lb_eq_t (by decide)) rfl rfl ?_
    refine w_m0 (pc1 := 49) (st1 := .long (-9223372036854775808) :: _) rfl rfl rfl rfl ?_
    refine w_p (pc1 := 56) rfl rfl ?_
    refine w_r rfl rfl rfl (fun _ _ => rfl) rfl ?_
    exact ⟨congrArg (fun q => some (Value.long q)) (by show t_M (u_b 20 none (some false)) = _; decide), rfl, rfl⟩
  · skip
    refine w_p (pc1 := 1) rfl rfl ?_
    refine w_t (a := 8) (b := 4) rfl rfl rfl ?_
    refine w_p (pc1 := 9) (st1 := .long 1 :: _) rfl rfl ?_
    refine w_p (pc1 := 11) (al1 := [(5, .long 1), (0, .int 0), (1, .long (t_M none)), (3, .long (t_M (some true)))]) rfl rfl ?_
    refine w_p (pc1 := 12) rfl rfl ?_
    refine w_p (pc1 := 14) rfl rfl ?_
    refine w_p (pc1 := 15) rfl rfl ?_
    refine w_f (a := 25) (b := 18) (lb_eq_f (by decide)) rfl rfl ?_
    refine w_p (pc1 := 19) rfl rfl ?_
    refine w_p (pc1 := 21) rfl rfl ?_
    refine w_p (pc1 := 22) rfl rfl ?_
    refine w_f (a := 30) (b := 25) (lb_ne_f (by decide)) rfl rfl ?_
    refine w_p (pc1 := 27) rfl rfl ?_
    refine w_p (pc1 := 56) rfl rfl ?_
    refine w_r rfl rfl rfl (fun _ _ => rfl) rfl ?_
    exact ⟨congrArg (fun q => some (Value.long q)) (by show t_M (u_b 20 none (some true)) = _; decide), rfl, rfl⟩
  · skip
    refine w_p (pc1 := 1) rfl rfl ?_
    refine w_t (a := 8) (b := 4) rfl rfl rfl ?_
    refine w_p (pc1 := 9) (st1 := .long 1 :: _) rfl rfl ?_
    refine w_p (pc1 := 11) (al1 := [(5, .long 1), (0, .int 0), (1, .long (t_M (some false))), (3, .long (t_M none))]) rfl rfl ?_
    refine w_p (pc1 := 12) rfl rfl ?_
    refine w_p (pc1 := 14) rfl rfl ?_
    refine w_p (pc1 := 15) rfl rfl ?_
    refine w_f (a := 25) (b := 18) (lb_eq_f (by decide)) rfl rfl ?_
    refine w_p (pc1 := 19) rfl rfl ?_
    refine w_p (pc1 := 21) rfl rfl ?_
    refine w_p (pc1 := 22) rfl rfl ?_
    refine w_t (a := 30) (b := 25) (lb_ne_t (by decide)) rfl rfl ?_
    refine w_p (pc1 := 31) rfl rfl ?_
    refine w_m0 (pc1 := 34) (st1 := .long (-9223372036854775808) :: _) rfl rfl rfl rfl ?_
    refine w_p (pc1 := 35) rfl rfl ?_
    refine w_f (a := 46) (b := 38) (lb_eq_f (by decide)) rfl rfl ?_
    refine w_p (pc1 := 39) rfl rfl ?_
    refine w_m0 (pc1 := 42) (st1 := .long (-9223372036854775808) :: _) rfl rfl rfl rfl ?_
    refine w_p (pc1 := 43) rfl rfl ?_
    refine w_f (a := 52) (b := 46) (lb_ne_f (by decide)) rfl rfl ?_
    refine w_m0 (pc1 := 49) (st1 := .long (-9223372036854775808) :: _) rfl rfl rfl rfl ?_
    refine w_p (pc1 := 56) rfl rfl ?_
    refine w_r rfl rfl rfl (fun _ _ => rfl) rfl ?_
    exact ⟨congrArg (fun q => some (Value.long q)) (by show t_M (u_b 20 (some false) none) = _; decide), rfl, rfl⟩
  · skip
    refine w_p (pc1 := 1) rfl rfl ?_
    refine w_t (a := 8) (b := 4) rfl rfl rfl ?_
    refine w_p (pc1 := 9) (st1 := .long 1 :: _) rfl rfl ?_
    refine w_p (pc1 := 11) (al1 := [(5, .long 1), (0, .int 0), (1, .long (t_M (some false))), (3, .long (t_M (some false)))]) rfl rfl ?_
    refine w_p (pc1 := 12) rfl rfl ?_
    refine w_p (pc1 := 14) rfl rfl ?_
    refine w_p (pc1 := 15) rfl rfl ?_
    refine w_f (a := 25) (b := 18) (lb_eq_f (by decide)) rfl rfl ?_
    refine w_p (pc1 := 19) rfl rfl ?_
    refine w_p (pc1 := 21) rfl rfl ?_
    refine w_p (pc1 := 22) rfl rfl ?_
    refine w_t (a := 30) (b := 25) (lb_ne_t (by decide)) rfl rfl ?_
    refine w_p (pc1 := 31) rfl rfl ?_
    refine w_m0 (pc1 := 34) (st1 := .long (-9223372036854775808) :: _) rfl rfl rfl rfl ?_
    refine w_p (pc1 := 35) rfl rfl ?_
    refine w_f (a := 46) (b := 38) (lb_eq_f (by decide)) rfl rfl ?_
    refine w_p (pc1 := 39) rfl rfl ?_
    refine w_m0 (pc1 := 42) (st1 := .long (-9223372036854775808) :: _) rfl rfl rfl rfl ?_
    refine w_p (pc1 := 43) rfl rfl ?_
    refine w_t (a := 52) (b := 46) (lb_ne_t (by decide)) rfl rfl ?_
    refine w_p (pc1 := 53) (st1 := .long 1 :: _) rfl rfl ?_
    refine w_p (pc1 := 55) rfl rfl ?_
    refine w_p (pc1 := 56) (st1 := .long (((1 : Int64)) - ((1 : Int64))) :: _) rfl rfl ?_
    refine w_r rfl rfl rfl (fun _ _ => rfl) rfl ?_
    exact ⟨congrArg (fun q => some (Value.long q)) (by show t_M (u_b 20 (some false) (some false)) = _; decide), rfl, rfl⟩
  · skip
    refine w_p (pc1 := 1) rfl rfl ?_
    refine w_t (a := 8) (b := 4) rfl rfl rfl ?_
    refine w_p (pc1 := 9) (st1 := .long 1 :: _) rfl rfl ?_
    refine w_p (pc1 := 11) (al1 := [(5, .long 1), (0, .int 0), (1, .long (t_M (some false))), (3, .long (t_M (some true)))]) rfl rfl ?_
    refine w_p (pc1 := 12) rfl rfl ?_
    refine w_p (pc1 := 14) rfl rfl ?_
    refine w_p (pc1 := 15) rfl rfl ?_
    refine w_f (a := 25) (b := 18) (lb_eq_f (by decide)) rfl rfl ?_
    refine w_p (pc1 := 19) rfl rfl ?_
    refine w_p (pc1 := 21) rfl rfl ?_
    refine w_p (pc1 := 22) rfl rfl ?_
    refine w_f (a := 30) (b := 25) (lb_ne_f (by decide)) rfl rfl ?_
    refine w_p (pc1 := 27) rfl rfl ?_
    refine w_p (pc1 := 56) rfl rfl ?_
    refine w_r rfl rfl rfl (fun _ _ => rfl) rfl ?_
    exact ⟨congrArg (fun q => some (Value.long q)) (by show t_M (u_b 20 (some false) (some true)) = _; decide), rfl, rfl⟩
  · skip
    refine w_p (pc1 := 1) rfl rfl ?_
    refine w_t (a := 8) (b := 4) rfl rfl rfl ?_
    refine w_p (pc1 := 9) (st1 := .long 1 :: _) rfl rfl ?_
    refine w_p (pc1 := 11) (al1 := [(5, .long 1), (0, .int 0), (1, .long (t_M (some true))), (3, .long (t_M none))]) rfl rfl ?_
    refine w_p (pc1 := 12) rfl rfl ?_
    refine w_p (pc1 := 14) rfl rfl ?_
    refine w_p (pc1 := 15) rfl rfl ?_
    refine w_t (a := 25) (b := 18) (lb_eq_t (by decide)) rfl rfl ?_
    refine w_p (pc1 := 27) rfl rfl ?_
    refine w_p (pc1 := 56) rfl rfl ?_
    refine w_r rfl rfl rfl (fun _ _ => rfl) rfl ?_
    exact ⟨congrArg (fun q => some (Value.long q)) (by show t_M (u_b 20 (some true) none) = _; decide), rfl, rfl⟩
  · skip
    refine w_p (pc1 := 1) rfl rfl ?_
    refine w_t (a := 8) (b := 4) rfl rfl rfl ?_
    refine w_p (pc1 := 9) (st1 := .long 1 :: _) rfl rfl ?_
    refine w_p (pc1 := 11) (al1 := [(5, .long 1), (0, .int 0), (1, .long (t_M (some true))), (3, .long (t_M (some false)))]) rfl rfl ?_
    refine w_p (pc1 := 12) rfl rfl ?_
    refine w_p (pc1 := 14) rfl rfl ?_
    refine w_p (pc1 := 15) rfl rfl ?_
    refine w_t (a := 25) (b := 18) (lb_eq_t (by decide)) rfl rfl ?_
    refine w_p (pc1 := 27) rfl rfl ?_
    refine w_p (pc1 := 56) rfl rfl ?_
    refine w_r rfl rfl rfl (fun _ _ => rfl) rfl ?_
    exact ⟨congrArg (fun q => some (Value.long q)) (by show t_M (u_b 20 (some true) (some false)) = _; decide), rfl, rfl⟩
  · skip
    refine w_p (pc1 := 1) rfl rfl ?_
    refine w_t (a := 8) (b := 4) rfl rfl rfl ?_
    refine w_p (pc1 := 9) (st1 := .long 1 :: _) rfl rfl ?_
    refine w_p (pc1 := 11) (al1 := [(5, .long 1), (0, .int 0), (1, .long (t_M (some true))), (3, .long (t_M (some true)))]) rfl rfl ?_
    refine w_p (pc1 := 12) rfl rfl ?_
    refine w_p (pc1 := 14) rfl rfl ?_
    refine w_p (pc1 := 15) rfl rfl ?_
    refine w_t (a := 25) (b := 18) (lb_eq_t (by decide)) rfl rfl ?_
    refine w_p (pc1 := 27) rfl rfl ?_
    refine w_p (pc1 := 56) rfl rfl ?_
    refine w_r rfl rfl rfl (fun _ _ => rfl) rfl ?_
    exact ⟨congrArg (fun q => some (Value.long q)) (by show t_M (u_b 20 (some true) (some true)) = _; decide), rfl, rfl⟩
set_option maxRecDepth 100000 in
theorem m_255_13 : Wd L xs d y_255 (0, [(0, .long 61), (2, .long (e_V v)), (4, .long (e_V w))], [], MH C t, sl) (Rt (some (.long (o2M (u_2 g 13 (.inl v) (.inl w))))) (MH C t) sl) nX := by
  rw [u2_B (by unfold isB; decide)]
  cases v with
  | none =>
    refine w_p (pc1 := 1) rfl rfl ?_
    refine w_m0 (pc1 := 4) (st1 := .long (-9223372036854775808) :: _) rfl rfl rfl rfl ?_
    refine w_p (pc1 := 5) rfl rfl ?_
    refine w_t (a := 17) (b := 8) (lb_eq_t (by rfl)) rfl rfl ?_
    refine w_m0 (pc1 := 20) (st1 := .long (-9223372036854775808) :: _) rfl rfl rfl rfl ?_
    refine w_r rfl rfl rfl (fun _ _ => rfl) rfl ?_
    exact ⟨rfl, rfl, rfl⟩
  | some x => cases w with
    | none =>
      refine w_p (pc1 := 1) rfl rfl ?_
      refine w_m0 (pc1 := 4) (st1 := .long (-9223372036854775808) :: _) rfl rfl rfl rfl ?_
      refine w_p (pc1 := 5) rfl rfl ?_
      refine w_f (a := 17) (b := 8) (lb_eq_f (by exact e_V_ne x)) rfl rfl ?_
      refine w_p (pc1 := 10) rfl rfl ?_
      refine w_m0 (pc1 := 13) (st1 := .long (-9223372036854775808) :: _) rfl rfl rfl rfl ?_
      refine w_p (pc1 := 14) rfl rfl ?_
      refine w_f (a := 21) (b := 17) (lb_ne_f (by rfl)) rfl rfl ?_
      refine w_m0 (pc1 := 20) (st1 := .long (-9223372036854775808) :: _) rfl rfl rfl rfl ?_
      refine w_r rfl rfl rfl (fun _ _ => rfl) rfl ?_
      exact ⟨rfl, rfl, rfl⟩
    | some y =>
      show Wd L xs d y_255 (0, [(0, .long 61), (2, .long (x.toInt64)), (4, .long (y.toInt64))], [], MH C t, sl) (Rt (some (.long (t_M (some (u_c 13 x y))))) (MH C t) sl) nX
      refine w_p (pc1 := 1) rfl rfl ?_
      refine w_m0 (pc1 := 4) (st1 := .long (-9223372036854775808) :: _) rfl rfl rfl rfl ?_
      refine w_p (pc1 := 5) rfl rfl ?_
      refine w_f (a := 17) (b := 8) (lb_eq_f (by exact e_V_ne x)) rfl rfl ?_
      refine w_p (pc1 := 10) rfl rfl ?_
      refine w_m0 (pc1 := 13) (st1 := .long (-9223372036854775808) :: _) rfl rfl rfl rfl ?_
      refine w_p (pc1 := 14) rfl rfl ?_
      refine w_t (a := 21) (b := 17) (lb_ne_t (by exact e_V_ne y)) rfl rfl ?_
      refine w_p (pc1 := 22) rfl rfl ?_
      refine w_m0 (pc1 := 25) (st1 := .long 61 :: _) rfl rfl rfl rfl ?_
      refine w_p (pc1 := 26) (st1 := .int 0 :: _) rfl rfl ?_
      refine w_f (a := 44) (b := 29) rfl rfl rfl ?_
      refine w_p (pc1 := 30) rfl rfl ?_
      refine w_p (pc1 := 32) rfl rfl ?_
      refine w_p (pc1 := 33) rfl rfl ?_
      refine w_b (a := 40) (b := 36) rfl rfl (fun c33 => ?_) (fun c33 => ?_)
      · replace c33 := lc_ne_t c33
        refine w_p (pc1 := 41) (st1 := .int 0 :: _) rfl rfl ?_
        refine w_p (pc1 := 148) rfl rfl ?_
        refine w_p (pc1 := 150) (al1 := [(6, .int 0), (0, .long 61), (2, .long (x.toInt64)), (4, .long (y.toInt64))]) rfl rfl ?_
        refine w_p (pc1 := 152) rfl rfl ?_
        refine w_t (a := 159) (b := 155) rfl rfl rfl ?_
        refine w_p (pc1 := 160) (st1 := .long 0 :: _) rfl rfl ?_
        refine w_r rfl rfl rfl (fun _ _ => rfl) rfl ?_
        first | (rw [uc_13, decide_eq_false c33]; exact ⟨rfl, rfl, rfl⟩) | (rw [uc_13, decide_eq_true c33]; exact ⟨rfl, rfl, rfl⟩)
      · replace c33 := lc_ne_f c33
        refine w_p (pc1 := 37) (st1 := .int 1 :: _) rfl rfl ?_
        refine w_p (pc1 := 148) rfl rfl ?_
        refine w_p (pc1 := 150) (al1 := [(6, .int 1), (0, .long 61), (2, .long (x.toInt64)), (4, .long (y.toInt64))]) rfl rfl ?_
        refine w_p (pc1 := 152) rfl rfl ?_
        refine w_f (a := 159) (b := 155) rfl rfl rfl ?_
        refine w_p (pc1 := 156) (st1 := .long 1 :: _) rfl rfl ?_
        refine w_p (pc1 := 160) rfl rfl ?_
        refine w_r rfl rfl rfl (fun _ _ => rfl) rfl ?_
        first | (rw [uc_13, decide_eq_false c33]; exact ⟨rfl, rfl, rfl⟩) | (rw [uc_13, decide_eq_true c33]; exact ⟨rfl, rfl, rfl⟩)
set_option maxRecDepth 100000 in
theorem m_255_14 : Wd L xs d y_255 (0, [(0, .long 35), (2, .long (e_V v)), (4, .long (e_V w))], [], MH C t, sl) (Rt (some (.long (o2M (u_2 g 14 (.inl v) (.inl w))))) (MH C t) sl) nX := by
  rw [u2_B (by unfold isB; decide)]
  cases v with
  | none =>
    refine w_p (pc1 := 1) rfl rfl ?_
    refine w_m0 (pc1 := 4) (st1 := .long (-9223372036854775808) :: _) rfl rfl rfl rfl ?_
    refine w_p (pc1 := 5) rfl rfl ?_
    refine w_t (a := 17) (b := 8) (lb_eq_t (by rfl)) rfl rfl ?_
    refine w_m0 (pc1 := 20) (st1 := .long (-9223372036854775808) :: _) rfl rfl rfl rfl ?_
    refine w_r rfl rfl rfl (fun _ _ => rfl) rfl ?_
    exact ⟨rfl, rfl, rfl⟩
  | some x => cases w with
    | none =>
      refine w_p (pc1 := 1) rfl rfl ?_
      refine w_m0 (pc1 := 4) (st1 := .long (-9223372036854775808) :: _) rfl rfl rfl rfl ?_
      refine w_p (pc1 := 5) rfl rfl ?_
      refine w_f (a := 17) (b := 8) (lb_eq_f (by exact e_V_ne x)) rfl rfl ?_
      refine w_p (pc1 := 10) rfl rfl ?_
      refine w_m0 (pc1 := 13) (st1 := .long (-9223372036854775808) :: _) rfl rfl rfl rfl ?_
      refine w_p (pc1 := 14) rfl rfl ?_
      refine w_f (a := 21) (b := 17) (lb_ne_f (by rfl)) rfl rfl ?_
      refine w_m0 (pc1 := 20) (st1 := .long (-9223372036854775808) :: _) rfl rfl rfl rfl ?_
      refine w_r rfl rfl rfl (fun _ _ => rfl) rfl ?_
      exact ⟨rfl, rfl, rfl⟩
    | some y =>
      show Wd L xs d y_255 (0, [(0, .long 35), (2, .long (x.toInt64)), (4, .long (y.toInt64))], [], MH C t, sl) (Rt (some (.long (t_M (some (u_c 14 x y))))) (MH C t) sl) nX
      refine w_p (pc1 := 1) rfl rfl ?_
      refine w_m0 (pc1 := 4) (st1 := .long (-9223372036854775808) :: _) rfl rfl rfl rfl ?_
      refine w_p (pc1 := 5) rfl rfl ?_
      refine w_f (a := 17) (b := 8) (lb_eq_f (by exact e_V_ne x)) rfl rfl ?_
      refine w_p (pc1 := 10) rfl rfl ?_
      refine w_m0 (pc1 := 13) (st1 := .long (-9223372036854775808) :: _) rfl rfl rfl rfl ?_
      refine w_p (pc1 := 14) rfl rfl ?_
      refine w_t (a := 21) (b := 17) (lb_ne_t (by exact e_V_ne y)) rfl rfl ?_
      refine w_p (pc1 := 22) rfl rfl ?_
      refine w_m0 (pc1 := 25) (st1 := .long 61 :: _) rfl rfl rfl rfl ?_
      refine w_p (pc1 := 26) (st1 := .int (-1) :: _) rfl rfl ?_
      refine w_t (a := 44) (b := 29) rfl rfl rfl ?_
      refine w_p (pc1 := 45) rfl rfl ?_
      refine w_m0 (pc1 := 48) (st1 := .long 35 :: _) rfl rfl rfl rfl ?_
      refine w_p (pc1 := 49) (st1 := .int 0 :: _) rfl rfl ?_
      refine w_f (a := 67) (b := 52) rfl rfl rfl ?_
      refine w_p (pc1 := 53) rfl rfl ?_
      refine w_p (pc1 := 55) rfl rfl ?_
      refine w_p (pc1 := 56) rfl rfl ?_
      refine w_b (a := 63) (b := 59) rfl rfl (fun c56 => ?_) (fun c56 => ?_)
      · replace c56 := lc_eq_t c56
        refine w_p (pc1 := 64) (st1 := .int 0 :: _) rfl rfl ?_
        refine w_p (pc1 := 148) rfl rfl ?_
        refine w_p (pc1 := 150) (al1 := [(6, .int 0), (0, .long 35), (2, .long (x.toInt64)), (4, .long (y.toInt64))]) rfl rfl ?_
        refine w_p (pc1 := 152) rfl rfl ?_
        refine w_t (a := 159) (b := 155) rfl rfl rfl ?_
        refine w_p (pc1 := 160) (st1 := .long 0 :: _) rfl rfl ?_
        refine w_r rfl rfl rfl (fun _ _ => rfl) rfl ?_
        first | (rw [uc_14, decide_eq_true c56]; exact ⟨rfl, rfl, rfl⟩) | (rw [uc_14, decide_eq_false c56]; exact ⟨rfl, rfl, rfl⟩)
      · replace c56 := lc_eq_f c56
        refine w_p (pc1 := 60) (st1 := .int 1 :: _) rfl rfl ?_
        refine w_p (pc1 := 148) rfl rfl ?_
        refine w_p (pc1 := 150) (al1 := [(6, .int 1), (0, .long 35), (2, .long (x.toInt64)), (4, .long (y.toInt64))]) rfl rfl ?_
        refine w_p (pc1 := 152) rfl rfl ?_
        refine w_f (a := 159) (b := 155) rfl rfl rfl ?_
        refine w_p (pc1 := 156) (st1 := .long 1 :: _) rfl rfl ?_
        refine w_p (pc1 := 160) rfl rfl ?_
        refine w_r rfl rfl rfl (fun _ _ => rfl) rfl ?_
        first | (rw [uc_14, decide_eq_true c56]; exact ⟨rfl, rfl, rfl⟩) | (rw [uc_14, decide_eq_false c56]; exact ⟨rfl, rfl, rfl⟩)
set_option maxRecDepth 100000 in
theorem m_255_15 : Wd L xs d y_255 (0, [(0, .long 60), (2, .long (e_V v)), (4, .long (e_V w))], [], MH C t, sl) (Rt (some (.long (o2M (u_2 g 15 (.inl v) (.inl w))))) (MH C t) sl) nX := by
  rw [u2_B (by unfold isB; decide)]
  cases v with
  | none =>
    refine w_p (pc1 := 1) rfl rfl ?_
    refine w_m0 (pc1 := 4) (st1 := .long (-9223372036854775808) :: _) rfl rfl rfl rfl ?_
    refine w_p (pc1 := 5) rfl rfl ?_
    refine w_t (a := 17) (b := 8) (lb_eq_t (by rfl)) rfl rfl ?_
    refine w_m0 (pc1 := 20) (st1 := .long (-9223372036854775808) :: _) rfl rfl rfl rfl ?_
    refine w_r rfl rfl rfl (fun _ _ => rfl) rfl ?_
    exact ⟨rfl, rfl, rfl⟩
  | some x => cases w with
    | none =>
      refine w_p (pc1 := 1) rfl rfl ?_
      refine w_m0 (pc1 := 4) (st1 := .long (-9223372036854775808) :: _) rfl rfl rfl rfl ?_
      refine w_p (pc1 := 5) rfl rfl ?_
      refine w_f (a := 17) (b := 8) (lb_eq_f (by exact e_V_ne x)) rfl rfl ?_
      refine w_p (pc1 := 10) rfl rfl ?_
      refine w_m0 (pc1 := 13) (st1 := .long (-9223372036854775808) :: _) rfl rfl rfl rfl ?_
      refine w_p (pc1 := 14) rfl rfl ?_
      refine w_f (a := 21) (b := 17) (lb_ne_f (by rfl)) rfl rfl ?_
      refine w_m0 (pc1 := 20) (st1 := .long (-9223372036854775808) :: _) rfl rfl rfl rfl ?_
      refine w_r rfl rfl rfl (fun _ _ => rfl) rfl ?_
      exact ⟨rfl, rfl, rfl⟩
    | some y =>
      show Wd L xs d y_255 (0, [(0, .long 60), (2, .long (x.toInt64)), (4, .long (y.toInt64))], [], MH C t, sl) (Rt (some (.long (t_M (some (u_c 15 x y))))) (MH C t) sl) nX
      refine w_p (pc1 := 1) rfl rfl ?_
      refine w_m0 (pc1 := 4) (st1 := .long (-9223372036854775808) :: _) rfl rfl rfl rfl ?_
      refine w_p (pc1 := 5) rfl rfl ?_
      refine w_f (a := 17) (b := 8) (lb_eq_f (by exact e_V_ne x)) rfl rfl ?_
      refine w_p (pc1 := 10) rfl rfl ?_
      refine w_m0 (pc1 := 13) (st1 := .long (-9223372036854775808) :: _) rfl rfl rfl rfl ?_
      refine w_p (pc1 := 14) rfl rfl ?_
      refine w_t (a := 21) (b := 17) (lb_ne_t (by exact e_V_ne y)) rfl rfl ?_
      refine w_p (pc1 := 22) rfl rfl ?_
      refine w_m0 (pc1 := 25) (st1 := .long 61 :: _) rfl rfl rfl rfl ?_
      refine w_p (pc1 := 26) (st1 := .int (-1) :: _) rfl rfl ?_
      refine w_t (a := 44) (b := 29) rfl rfl rfl ?_
      refine w_p (pc1 := 45) rfl rfl ?_
      refine w_m0 (pc1 := 48) (st1 := .long 35 :: _) rfl rfl rfl rfl ?_
      refine w_p (pc1 := 49) (st1 := .int 1 :: _) rfl rfl ?_
      refine w_t (a := 67) (b := 52) rfl rfl rfl ?_
      refine w_p (pc1 := 68) rfl rfl ?_
      refine w_m0 (pc1 := 71) (st1 := .long 60 :: _) rfl rfl rfl rfl ?_
      refine w_p (pc1 := 72) (st1 := .int 0 :: _) rfl rfl ?_
      refine w_f (a := 90) (b := 75) rfl rfl rfl ?_
      refine w_p (pc1 := 76) rfl rfl ?_
      refine w_p (pc1 := 78) rfl rfl ?_
      refine w_p (pc1 := 79) rfl rfl ?_
      refine w_b (a := 86) (b := 82) rfl rfl (fun c79 => ?_) (fun c79 => ?_)
      · replace c79 := lc_ge_t c79
        refine w_p (pc1 := 87) (st1 := .int 0 :: _) rfl rfl ?_
        refine w_p (pc1 := 148) rfl rfl ?_
        refine w_p (pc1 := 150) (al1 := [(6, .int 0), (0, .long 60), (2, .long (x.toInt64)), (4, .long (y.toInt64))]) rfl rfl ?_
        refine w_p (pc1 := 152) rfl rfl ?_
        refine w_t (a := 159) (b := 155) rfl rfl rfl ?_
        refine w_p (pc1 := 160) (st1 := .long 0 :: _) rfl rfl ?_
        refine w_r rfl rfl rfl (fun _ _ => rfl) rfl ?_
        first | (rw [uc_15, decide_eq_true (by omega)]; exact ⟨rfl, rfl, rfl⟩) | (rw [uc_15, decide_eq_false (by omega)]; exact ⟨rfl, rfl, rfl⟩)
      · replace c79 := lc_ge_f c79
        refine w_p (pc1 := 83) (st1 := .int 1 :: _) rfl rfl ?_
        refine w_p (pc1 := 148) rfl rfl ?_
        refine w_p (pc1 := 150) (al1 := [(6, .int 1), (0, .long 60), (2, .long (x.toInt64)), (4, .long (y.toInt64))]) rfl rfl ?_
        refine w_p (pc1 := 152) rfl rfl ?_
        refine w_f (a := 159) (b := 155) rfl rfl rfl ?_
        refine w_p (pc1 := 156) (st1 := .long 1 :: _) rfl rfl ?_
        refine w_p (pc1 := 160) rfl rfl ?_
        refine w_r rfl rfl rfl (fun _ _ => rfl) rfl ?_
        first | (rw [uc_15, decide_eq_true (by omega)]; exact ⟨rfl, rfl, rfl⟩) | (rw [uc_15, decide_eq_false (by omega)]; exact ⟨rfl, rfl, rfl⟩)
set_option maxRecDepth 100000 in
theorem m_255_16 : Wd L xs d y_255 (0, [(0, .long 160), (2, .long (e_V v)), (4, .long (e_V w))], [], MH C t, sl) (Rt (some (.long (o2M (u_2 g 16 (.inl v) (.inl w))))) (MH C t) sl) nX := by
  rw [u2_B (by unfold isB; decide)]
  cases v with
  | none =>
    refine w_p (pc1 := 1) rfl rfl ?_
    refine w_m0 (pc1 := 4) (st1 := .long (-9223372036854775808) :: _) rfl rfl rfl rfl ?_
    refine w_p (pc1 := 5) rfl rfl ?_
    refine w_t (a := 17) (b := 8) (lb_eq_t (by rfl)) rfl rfl ?_
    refine w_m0 (pc1 := 20) (st1 := .long (-9223372036854775808) :: _) rfl rfl rfl rfl ?_
    refine w_r rfl rfl rfl (fun _ _ => rfl) rfl ?_
    exact ⟨rfl, rfl, rfl⟩
  | some x => cases w with
    | none =>
      refine w_p (pc1 := 1) rfl rfl ?_
      refine w_m0 (pc1 := 4) (st1 := .long (-9223372036854775808) :: _) rfl rfl rfl rfl ?_
      refine w_p (pc1 := 5) rfl rfl ?_
      refine w_f (a := 17) (b := 8) (lb_eq_f (by exact e_V_ne x)) rfl rfl ?_
      refine w_p (pc1 := 10) rfl rfl ?_
      refine w_m0 (pc1 := 13) (st1 := .long (-9223372036854775808) :: _) rfl rfl rfl rfl ?_
      refine w_p (pc1 := 14) rfl rfl ?_
      refine w_f (a := 21) (b := 17) (lb_ne_f (by rfl)) rfl rfl ?_
      refine w_m0 (pc1 := 20) (st1 := .long (-9223372036854775808) :: _) rfl rfl rfl rfl ?_
      refine w_r rfl rfl rfl (fun _ _ => rfl) rfl ?_
      exact ⟨rfl, rfl, rfl⟩
    | some y =>
      show Wd L xs d y_255 (0, [(0, .long 160), (2, .long (x.toInt64)), (4, .long (y.toInt64))], [], MH C t, sl) (Rt (some (.long (t_M (some (u_c 16 x y))))) (MH C t) sl) nX
      refine w_p (pc1 := 1) rfl rfl ?_
      refine w_m0 (pc1 := 4) (st1 := .long (-9223372036854775808) :: _) rfl rfl rfl rfl ?_
      refine w_p (pc1 := 5) rfl rfl ?_
      refine w_f (a := 17) (b := 8) (lb_eq_f (by exact e_V_ne x)) rfl rfl ?_
      refine w_p (pc1 := 10) rfl rfl ?_
      refine w_m0 (pc1 := 13) (st1 := .long (-9223372036854775808) :: _) rfl rfl rfl rfl ?_
      refine w_p (pc1 := 14) rfl rfl ?_
      refine w_t (a := 21) (b := 17) (lb_ne_t (by exact e_V_ne y)) rfl rfl ?_
      refine w_p (pc1 := 22) rfl rfl ?_
      refine w_m0 (pc1 := 25) (st1 := .long 61 :: _) rfl rfl rfl rfl ?_
      refine w_p (pc1 := 26) (st1 := .int 1 :: _) rfl rfl ?_
      refine w_t (a := 44) (b := 29) rfl rfl rfl ?_
      refine w_p (pc1 := 45) rfl rfl ?_
      refine w_m0 (pc1 := 48) (st1 := .long 35 :: _) rfl rfl rfl rfl ?_
      refine w_p (pc1 := 49) (st1 := .int 1 :: _) rfl rfl ?_
      refine w_t (a := 67) (b := 52) rfl rfl rfl ?_
      refine w_p (pc1 := 68) rfl rfl ?_
      refine w_m0 (pc1 := 71) (st1 := .long 60 :: _) rfl rfl rfl rfl ?_
      refine w_p (pc1 := 72) (st1 := .int 1 :: _) rfl rfl ?_
      refine w_t (a := 90) (b := 75) rfl rfl rfl ?_
      refine w_p (pc1 := 91) rfl rfl ?_
      refine w_m0 (pc1 := 94) (st1 := .long 160 :: _) rfl rfl rfl rfl ?_
      refine w_p (pc1 := 95) (st1 := .int 0 :: _) rfl rfl ?_
      refine w_f (a := 113) (b := 98) rfl rfl rfl ?_
      refine w_p (pc1 := 99) rfl rfl ?_
      refine w_p (pc1 := 101) rfl rfl ?_
      refine w_p (pc1 := 102) rfl rfl ?_
      refine w_b (a := 109) (b := 105) rfl rfl (fun c102 => ?_) (fun c102 => ?_)
      · replace c102 := lc_gt_t c102
        refine w_p (pc1 := 110) (st1 := .int 0 :: _) rfl rfl ?_
        refine w_p (pc1 := 148) rfl rfl ?_
        refine w_p (pc1 := 150) (al1 := [(6, .int 0), (0, .long 160), (2, .long (x.toInt64)), (4, .long (y.toInt64))]) rfl rfl ?_
        refine w_p (pc1 := 152) rfl rfl ?_
        refine w_t (a := 159) (b := 155) rfl rfl rfl ?_
        refine w_p (pc1 := 160) (st1 := .long 0 :: _) rfl rfl ?_
        refine w_r rfl rfl rfl (fun _ _ => rfl) rfl ?_
        first | (rw [uc_16, decide_eq_true (by omega)]; exact ⟨rfl, rfl, rfl⟩) | (rw [uc_16, decide_eq_false (by omega)]; exact ⟨rfl, rfl, rfl⟩)
      · replace c102 := lc_gt_f c102
        refine w_p (pc1 := 106) (st1 := .int 1 :: _) rfl rfl ?_
        refine w_p (pc1 := 148) rfl rfl ?_
        refine w_p (pc1 := 150) (al1 := [(6, .int 1), (0, .long 160), (2, .long (x.toInt64)), (4, .long (y.toInt64))]) rfl rfl ?_
        refine w_p (pc1 := 152) rfl rfl ?_
        refine w_f (a := 159) (b := 155) rfl rfl rfl ?_
        refine w_p (pc1 := 156) (st1 := .long 1 :: _) rfl rfl ?_
        refine w_p (pc1 := 160) rfl rfl ?_
        refine w_r rfl rfl rfl (fun _ _ => rfl) rfl ?_
        first | (rw [uc_16, decide_eq_true (by omega)]; exact ⟨rfl, rfl, rfl⟩) | (rw [uc_16, decide_eq_false (by omega)]; exact ⟨rfl, rfl, rfl⟩)
set_option maxRecDepth 100000 in
theorem m_255_17 : Wd L xs d y_255 (0, [(0, .long 62), (2, .long (e_V v)), (4, .long (e_V w))], [], MH C t, sl) (Rt (some (.long (o2M (u_2 g 17 (.inl v) (.inl w))))) (MH C t) sl) nX := by
  rw [u2_B (by unfold isB; decide)]
  cases v with
  | none =>
    refine w_p (pc1 := 1) rfl rfl ?_
    refine w_m0 (pc1 := 4) (st1 := .long (-9223372036854775808) :: _) rfl rfl rfl rfl ?_
    refine w_p (pc1 := 5) rfl rfl ?_
    refine w_t (a := 17) (b := 8) (lb_eq_t (by rfl)) rfl rfl ?_
    refine w_m0 (pc1 := 20) (st1 := .long (-9223372036854775808) :: _) rfl rfl rfl rfl ?_
    refine w_r rfl rfl rfl (fun _ _ => rfl) rfl ?_
    exact ⟨rfl, rfl, rfl⟩
  | some x => cases w with
    | none =>
      refine w_p (pc1 := 1) rfl rfl ?_
      refine w_m0 (pc1 := 4) (st1 := .long (-9223372036854775808) :: _) rfl rfl rfl rfl ?_
      refine w_p (pc1 := 5) rfl rfl ?_
      refine w_f (a := 17) (b := 8) (lb_eq_f (by exact e_V_ne x)) rfl rfl ?_
      refine w_p (pc1 := 10) rfl rfl ?_
      refine w_m0 (pc1 := 13) (st1 := .long (-9223372036854775808) :: _) rfl rfl rfl rfl ?_
      refine w_p (pc1 := 14) rfl rfl ?_
      refine w_f (a := 21) (b := 17) (lb_ne_f (by rfl)) rfl rfl ?_
      refine w_m0 (pc1 := 20) (st1 := .long (-9223372036854775808) :: _) rfl rfl rfl rfl ?_
      refine w_r rfl rfl rfl (fun _ _ => rfl) rfl ?_
      exact ⟨rfl, rfl, rfl⟩
    | some y =>
      show Wd L xs d y_255 (0, [(0, .long 62), (2, .long (x.toInt64)), (4, .long (y.toInt64))], [], MH C t, sl) (Rt (some (.long (t_M (some (u_c 17 x y))))) (MH C t) sl) nX
      refine w_p (pc1 := 1) rfl rfl ?_
      refine w_m0 (pc1 := 4) (st1 := .long (-9223372036854775808) :: _) rfl rfl rfl rfl ?_
      refine w_p (pc1 := 5) rfl rfl ?_
      refine w_f (a := 17) (b := 8) (lb_eq_f (by exact e_V_ne x)) rfl rfl ?_
      refine w_p (pc1 := 10) rfl rfl ?_
      refine w_m0 (pc1 := 13) (st1 := .long (-9223372036854775808) :: _) rfl rfl rfl rfl ?_
      refine w_p (pc1 := 14) rfl rfl ?_
      refine w_t (a := 21) (b := 17) (lb_ne_t (by exact e_V_ne y)) rfl rfl ?_
      refine w_p (pc1 := 22) rfl rfl ?_
      refine w_m0 (pc1 := 25) (st1 := .long 61 :: _) rfl rfl rfl rfl ?_
      refine w_p (pc1 := 26) (st1 := .int 1 :: _) rfl rfl ?_
      refine w_t (a := 44) (b := 29) rfl rfl rfl ?_
      refine w_p (pc1 := 45) rfl rfl ?_
      refine w_m0 (pc1 := 48) (st1 := .long 35 :: _) rfl rfl rfl rfl ?_
      refine w_p (pc1 := 49) (st1 := .int 1 :: _) rfl rfl ?_
      refine w_t (a := 67) (b := 52) rfl rfl rfl ?_
      refine w_p (pc1 := 68) rfl rfl ?_
      refine w_m0 (pc1 := 71) (st1 := .long 60 :: _) rfl rfl rfl rfl ?_
      refine w_p (pc1 := 72) (st1 := .int 1 :: _) rfl rfl ?_
      refine w_t (a := 90) (b := 75) rfl rfl rfl ?_
      refine w_p (pc1 := 91) rfl rfl ?_
      refine w_m0 (pc1 := 94) (st1 := .long 160 :: _) rfl rfl rfl rfl ?_
      refine w_p (pc1 := 95) (st1 := .int (-1) :: _) rfl rfl ?_
      refine w_t (a := 113) (b := 98) rfl rfl rfl ?_
      refine w_p (pc1 := 114) rfl rfl ?_
      refine w_m0 (pc1 := 117) (st1 := .long 62 :: _) rfl rfl rfl rfl ?_
      refine w_p (pc1 := 118) (st1 := .int 0 :: _) rfl rfl ?_
      refine w_f (a := 136) (b := 121) rfl rfl rfl ?_
      refine w_p (pc1 := 122) rfl rfl ?_
      refine w_p (pc1 := 124) rfl rfl ?_
      refine w_p (pc1 := 125) rfl rfl ?_
      refine w_b (a := 132) (b := 128) rfl rfl (fun c125 => ?_) (fun c125 => ?_)
      · replace c125 := lc_le_t c125
        refine w_p (pc1 := 133) (st1 := .int 0 :: _) rfl rfl ?_
        refine w_p (pc1 := 148) rfl rfl ?_
        refine w_p (pc1 := 150) (al1 := [(6, .int 0), (0, .long 62), (2, .long (x.toInt64)), (4, .long (y.toInt64))]) rfl rfl ?_
        refine w_p (pc1 := 152) rfl rfl ?_
        refine w_t (a := 159) (b := 155) rfl rfl rfl ?_
        refine w_p (pc1 := 160) (st1 := .long 0 :: _) rfl rfl ?_
        refine w_r rfl rfl rfl (fun _ _ => rfl) rfl ?_
        first | (rw [uc_17, decide_eq_true (by omega)]; exact ⟨rfl, rfl, rfl⟩) | (rw [uc_17, decide_eq_false (by omega)]; exact ⟨rfl, rfl, rfl⟩)
      · replace c125 := lc_le_f c125
        refine w_p (pc1 := 129) (st1 := .int 1 :: _) rfl rfl ?_
        refine w_p (pc1 := 148) rfl rfl ?_
        refine w_p (pc1 := 150) (al1 := [(6, .int 1), (0, .long 62), (2, .long (x.toInt64)), (4, .long (y.toInt64))]) rfl rfl ?_
        refine w_p (pc1 := 152) rfl rfl ?_
        refine w_f (a := 159) (b := 155) rfl rfl rfl ?_
        refine w_p (pc1 := 156) (st1 := .long 1 :: _) rfl rfl ?_
        refine w_p (pc1 := 160) rfl rfl ?_
        refine w_r rfl rfl rfl (fun _ _ => rfl) rfl ?_
        first | (rw [uc_17, decide_eq_true (by omega)]; exact ⟨rfl, rfl, rfl⟩) | (rw [uc_17, decide_eq_false (by omega)]; exact ⟨rfl, rfl, rfl⟩)
set_option maxRecDepth 100000 in
theorem m_255_18 : Wd L xs d y_255 (0, [(0, .long 162), (2, .long (e_V v)), (4, .long (e_V w))], [], MH C t, sl) (Rt (some (.long (o2M (u_2 g 18 (.inl v) (.inl w))))) (MH C t) sl) nX := by
  rw [u2_B (by unfold isB; decide)]
  cases v with
  | none =>
    refine w_p (pc1 := 1) rfl rfl ?_
    refine w_m0 (pc1 := 4) (st1 := .long (-9223372036854775808) :: _) rfl rfl rfl rfl ?_
    refine w_p (pc1 := 5) rfl rfl ?_
    refine w_t (a := 17) (b := 8) (lb_eq_t (by rfl)) rfl rfl ?_
    refine w_m0 (pc1 := 20) (st1 := .long (-9223372036854775808) :: _) rfl rfl rfl rfl ?_
    refine w_r rfl rfl rfl (fun _ _ => rfl) rfl ?_
    exact ⟨rfl, rfl, rfl⟩
  | some x => cases w with
    | none =>
      refine w_p (pc1 := 1) rfl rfl ?_
      refine w_m0 (pc1 := 4) (st1 := .long (-9223372036854775808) :: _) rfl rfl rfl rfl ?_
      refine w_p (pc1 := 5) rfl rfl ?_
      refine w_f (a := 17) (b := 8) (lb_eq_f (by exact e_V_ne x)) rfl rfl ?_
      refine w_p (pc1 := 10) rfl rfl ?_
      refine w_m0 (pc1 := 13) (st1 := .long (-9223372036854775808) :: _) rfl rfl rfl rfl ?_
      refine w_p (pc1 := 14) rfl rfl ?_
      refine w_f (a := 21) (b := 17) (lb_ne_f (by rfl)) rfl rfl ?_
      refine w_m0 (pc1 := 20) (st1 := .long (-9223372036854775808) :: _) rfl rfl rfl rfl ?_
      refine w_r rfl rfl rfl (fun _ _ => rfl) rfl ?_
      exact ⟨rfl, rfl, rfl⟩
    | some y =>
      show Wd L xs d y_255 (0, [(0, .long 162), (2, .long (x.toInt64)), (4, .long (y.toInt64))], [], MH C t, sl) (Rt (some (.long (t_M (some (u_c 18 x y))))) (MH C t) sl) nX
      refine w_p (pc1 := 1) rfl rfl ?_
      refine w_m0 (pc1 := 4) (st1 := .long (-9223372036854775808) :: _) rfl rfl rfl rfl ?_
      refine w_p (pc1 := 5) rfl rfl ?_
      refine w_f (a := 17) (b := 8) (lb_eq_f (by exact e_V_ne x)) rfl rfl ?_
      refine w_p (pc1 := 10) rfl rfl ?_
      refine w_m0 (pc1 := 13) (st1 := .long (-9223372036854775808) :: _) rfl rfl rfl rfl ?_
      refine w_p (pc1 := 14) rfl rfl ?_
      refine w_t (a := 21) (b := 17) (lb_ne_t (by exact e_V_ne y)) rfl rfl ?_
      refine w_p (pc1 := 22) rfl rfl ?_
      refine w_m0 (pc1 := 25) (st1 := .long 61 :: _) rfl rfl rfl rfl ?_
      refine w_p (pc1 := 26) (st1 := .int 1 :: _) rfl rfl ?_
      refine w_t (a := 44) (b := 29) rfl rfl rfl ?_
      refine w_p (pc1 := 45) rfl rfl ?_
      refine w_m0 (pc1 := 48) (st1 := .long 35 :: _) rfl rfl rfl rfl ?_
      refine w_p (pc1 := 49) (st1 := .int 1 :: _) rfl rfl ?_
      refine w_t (a := 67) (b := 52) rfl rfl rfl ?_
      refine w_p (pc1 := 68) rfl rfl ?_
      refine w_m0 (pc1 := 71) (st1 := .long 60 :: _) rfl rfl rfl rfl ?_
      refine w_p (pc1 := 72) (st1 := .int 1 :: _) rfl rfl ?_
      refine w_t (a := 90) (b := 75) rfl rfl rfl ?_
      refine w_p (pc1 := 91) rfl rfl ?_
      refine w_m0 (pc1 := 94) (st1 := .long 160 :: _) rfl rfl rfl rfl ?_
      refine w_p (pc1 := 95) (st1 := .int 1 :: _) rfl rfl ?_
      refine w_t (a := 113) (b := 98) rfl rfl rfl ?_
      refine w_p (pc1 := 114) rfl rfl ?_
      refine w_m0 (pc1 := 117) (st1 := .long 62 :: _) rfl rfl rfl rfl ?_
      refine w_p (pc1 := 118) (st1 := .int 1 :: _) rfl rfl ?_
      refine w_t (a := 136) (b := 121) rfl rfl rfl ?_
      refine w_p (pc1 := 137) rfl rfl ?_
      refine w_p (pc1 := 139) rfl rfl ?_
      refine w_p (pc1 := 140) rfl rfl ?_
      refine w_b (a := 147) (b := 143) rfl rfl (fun c140 => ?_) (fun c140 => ?_)
      · replace c140 := lc_lt_t c140
        refine w_p (pc1 := 148) (st1 := .int 0 :: _) rfl rfl ?_
        refine w_p (pc1 := 150) (al1 := [(6, .int 0), (0, .long 162), (2, .long (x.toInt64)), (4, .long (y.toInt64))]) rfl rfl ?_
        refine w_p (pc1 := 152) rfl rfl ?_
        refine w_t (a := 159) (b := 155) rfl rfl rfl ?_
        refine w_p (pc1 := 160) (st1 := .long 0 :: _) rfl rfl ?_
        refine w_r rfl rfl rfl (fun _ _ => rfl) rfl ?_
        first | (rw [uc_18, decide_eq_true (by omega)]; exact ⟨rfl, rfl, rfl⟩) | (rw [uc_18, decide_eq_false (by omega)]; exact ⟨rfl, rfl, rfl⟩)
      · replace c140 := lc_lt_f c140
        refine w_p (pc1 := 144) (st1 := .int 1 :: _) rfl rfl ?_
        refine w_p (pc1 := 148) rfl rfl ?_
        refine w_p (pc1 := 150) (al1 := [(6, .int 1), (0, .long 162), (2, .long (x.toInt64)), (4, .long (y.toInt64))]) rfl rfl ?_
        refine w_p (pc1 := 152) rfl rfl ?_
        refine w_f (a := 159) (b := 155) rfl rfl rfl ?_
        refine w_p (pc1 := 156) (st1 := .long 1 :: _) rfl rfl ?_
        refine w_p (pc1 := 160) rfl rfl ?_
        refine w_r rfl rfl rfl (fun _ _ => rfl) rfl ?_
        first | (rw [uc_18, decide_eq_true (by omega)]; exact ⟨rfl, rfl, rfl⟩) | (rw [uc_18, decide_eq_false (by omega)]; exact ⟨rfl, rfl, rfl⟩)
set_option maxRecDepth 100000 in
theorem m_254_13 : Wd L xs (d + 1) y_254 (0, [(0, .ref 176), (1, .long 61), (3, .long (e_V v)), (5, .long (e_V w)), (7, .int (ck g))], [], MH C t, sl) (Rt (some (.long (o2M (u_2 true 13 (.inl v) (.inl w))))) (MH C t) sl) nX := by
  refine w_p (pc1 := 1) rfl rfl ?_
  refine w_m0 (pc1 := 4) (st1 := .long 43 :: _) rfl rfl rfl rfl ?_
  refine w_p (pc1 := 5) (st1 := .int 1 :: _) rfl rfl ?_
  refine w_f (a := 40) (b := 8) rfl rfl rfl ?_
  refine w_p (pc1 := 9) rfl rfl ?_
  refine w_m0 (pc1 := 12) (st1 := .long 45 :: _) rfl rfl rfl rfl ?_
  refine w_p (pc1 := 13) (st1 := .int 1 :: _) rfl rfl ?_
  refine w_f (a := 40) (b := 16) rfl rfl rfl ?_
  refine w_p (pc1 := 17) rfl rfl ?_
  refine w_m0 (pc1 := 20) (st1 := .long 42 :: _) rfl rfl rfl rfl ?_
  refine w_p (pc1 := 21) (st1 := .int 1 :: _) rfl rfl ?_
  refine w_f (a := 40) (b := 24) rfl rfl rfl ?_
  refine w_p (pc1 := 25) rfl rfl ?_
  refine w_m0 (pc1 := 28) (st1 := .long 47 :: _) rfl rfl rfl rfl ?_
  refine w_p (pc1 := 29) (st1 := .int 1 :: _) rfl rfl ?_
  refine w_f (a := 40) (b := 32) rfl rfl rfl ?_
  refine w_p (pc1 := 33) rfl rfl ?_
  refine w_p (pc1 := 34) rfl rfl ?_
  refine w_p (pc1 := 36) rfl rfl ?_
  refine w_je (pc1 := 39) (vs := [.long 61, .long (e_V v), .long (e_V w)]) (rest := []) (st1 := [.long (o2M (u_2 true 13 (.inl v) (.inl w)))]) (m_255_13 (g := true) (d := d) (sl := 0)) rfl rfl rfl (fun _ _ => rfl) rfl (by exact cl_s my_255 rfl rfl rfl (Nat.le_of_ble_eq_true rfl) rfl rfl) (by rfl) (Nat.le_of_ble_eq_true rfl) (Nat.le_of_ble_eq_true rfl) rfl (by rfl) ?_
  refine w_r rfl rfl rfl (fun _ _ => rfl) rfl ?_
  exact ⟨rfl, rfl, rfl⟩
set_option maxRecDepth 100000 in
theorem m_254_14 : Wd L xs (d + 1) y_254 (0, [(0, .ref 176), (1, .long 35), (3, .long (e_V v)), (5, .long (e_V w)), (7, .int (ck g))], [], MH C t, sl) (Rt (some (.long (o2M (u_2 true 14 (.inl v) (.inl w))))) (MH C t) sl) nX := by
  refine w_p (pc1 := 1) rfl rfl ?_
  refine w_m0 (pc1 := 4) (st1 := .long 43 :: _) rfl rfl rfl rfl ?_
  refine w_p (pc1 := 5) (st1 := .int (-1) :: _) rfl rfl ?_
  refine w_f (a := 40) (b := 8) rfl rfl rfl ?_
  refine w_p (pc1 := 9) rfl rfl ?_
  refine w_m0 (pc1 := 12) (st1 := .long 45 :: _) rfl rfl rfl rfl ?_
  refine w_p (pc1 := 13) (st1 := .int (-1) :: _) rfl rfl ?_
  refine w_f (a := 40) (b := 16) rfl rfl rfl ?_
  refine w_p (pc1 := 17) rfl rfl ?_
  refine w_m0 (pc1 := 20) (st1 := .long 42 :: _) rfl rfl rfl rfl ?_
  refine w_p (pc1 := 21) (st1 := .int (-1) :: _) rfl rfl ?_
  refine w_f (a := 40) (b := 24) rfl rfl rfl ?_
  refine w_p (pc1 := 25) rfl rfl ?_
  refine w_m0 (pc1 := 28) (st1 := .long 47 :: _) rfl rfl rfl rfl ?_
  refine w_p (pc1 := 29) (st1 := .int (-1) :: _) rfl rfl ?_
  refine w_f (a := 40) (b := 32) rfl rfl rfl ?_
  refine w_p (pc1 := 33) rfl rfl ?_
  refine w_p (pc1 := 34) rfl rfl ?_
  refine w_p (pc1 := 36) rfl rfl ?_
  refine w_je (pc1 := 39) (vs := [.long 35, .long (e_V v), .long (e_V w)]) (rest := []) (st1 := [.long (o2M (u_2 true 14 (.inl v) (.inl w)))]) (m_255_14 (g := true) (d := d) (sl := 0)) rfl rfl rfl (fun _ _ => rfl) rfl (by exact cl_s my_255 rfl rfl rfl (Nat.le_of_ble_eq_true rfl) rfl rfl) (by rfl) (Nat.le_of_ble_eq_true rfl) (Nat.le_of_ble_eq_true rfl) rfl (by rfl) ?_
  refine w_r rfl rfl rfl (fun _ _ => rfl) rfl ?_
  exact ⟨rfl, rfl, rfl⟩
set_option maxRecDepth 100000 in
theorem m_254_15 : Wd L xs (d + 1) y_254 (0, [(0, .ref 176), (1, .long 60), (3, .long (e_V v)), (5, .long (e_V w)), (7, .int (ck g))], [], MH C t, sl) (Rt (some (.long (o2M (u_2 true 15 (.inl v) (.inl w))))) (MH C t) sl) nX := by
  refine w_p (pc1 := 1) rfl rfl ?_
  refine w_m0 (pc1 := 4) (st1 := .long 43 :: _) rfl rfl rfl rfl ?_
  refine w_p (pc1 := 5) (st1 := .int 1 :: _) rfl rfl ?_
  refine w_f (a := 40) (b := 8) rfl rfl rfl ?_
  refine w_p (pc1 := 9) rfl rfl ?_
  refine w_m0 (pc1 := 12) (st1 := .long 45 :: _) rfl rfl rfl rfl ?_
  refine w_p (pc1 := 13) (st1 := .int 1 :: _) rfl rfl ?_
  refine w_f (a := 40) (b := 16) rfl rfl rfl ?_
  refine w_p (pc1 := 17) rfl rfl ?_
  refine w_m0 (pc1 := 20) (st1 := .long 42 :: _) rfl rfl rfl rfl ?_
  refine w_p (pc1 := 21) (st1 := .int 1 :: _) rfl rfl ?_
  refine w_f (a := 40) (b := 24) rfl rfl rfl ?_
  refine w_p (pc1 := 25) rfl rfl ?_
  refine w_m0 (pc1 := 28) (st1 := .long 47 :: _) rfl rfl rfl rfl ?_
  refine w_p (pc1 := 29) (st1 := .int 1 :: _) rfl rfl ?_
  refine w_f (a := 40) (b := 32) rfl rfl rfl ?_
  refine w_p (pc1 := 33) rfl rfl ?_
  refine w_p (pc1 := 34) rfl rfl ?_
  refine w_p (pc1 := 36) rfl rfl ?_
  refine w_je (pc1 := 39) (vs := [.long 60, .long (e_V v), .long (e_V w)]) (rest := []) (st1 := [.long (o2M (u_2 true 15 (.inl v) (.inl w)))]) (m_255_15 (g := true) (d := d) (sl := 0)) rfl rfl rfl (fun _ _ => rfl) rfl (by exact cl_s my_255 rfl rfl rfl (Nat.le_of_ble_eq_true rfl) rfl rfl) (by rfl) (Nat.le_of_ble_eq_true rfl) (Nat.le_of_ble_eq_true rfl) rfl (by rfl) ?_
  refine w_r rfl rfl rfl (fun _ _ => rfl) rfl ?_
  exact ⟨rfl, rfl, rfl⟩
set_option maxRecDepth 100000 in
theorem m_254_16 : Wd L xs (d + 1) y_254 (0, [(0, .ref 176), (1, .long 160), (3, .long (e_V v)), (5, .long (e_V w)), (7, .int (ck g))], [], MH C t, sl) (Rt (some (.long (o2M (u_2 true 16 (.inl v) (.inl w))))) (MH C t) sl) nX := by
  refine w_p (pc1 := 1) rfl rfl ?_
  refine w_m0 (pc1 := 4) (st1 := .long 43 :: _) rfl rfl rfl rfl ?_
  refine w_p (pc1 := 5) (st1 := .int 1 :: _) rfl rfl ?_
  refine w_f (a := 40) (b := 8) rfl rfl rfl ?_
  refine w_p (pc1 := 9) rfl rfl ?_
  refine w_m0 (pc1 := 12) (st1 := .long 45 :: _) rfl rfl rfl rfl ?_
  refine w_p (pc1 := 13) (st1 := .int 1 :: _) rfl rfl ?_
  refine w_f (a := 40) (b := 16) rfl rfl rfl ?_
  refine w_p (pc1 := 17) rfl rfl ?_
  refine w_m0 (pc1 := 20) (st1 := .long 42 :: _) rfl rfl rfl rfl ?_
  refine w_p (pc1 := 21) (st1 := .int 1 :: _) rfl rfl ?_
  refine w_f (a := 40) (b := 24) rfl rfl rfl ?_
  refine w_p (pc1 := 25) rfl rfl ?_
  refine w_m0 (pc1 := 28) (st1 := .long 47 :: _) rfl rfl rfl rfl ?_
  refine w_p (pc1 := 29) (st1 := .int 1 :: _) rfl rfl ?_
  refine w_f (a := 40) (b := 32) rfl rfl rfl ?_
  refine w_p (pc1 := 33) rfl rfl ?_
  refine w_p (pc1 := 34) rfl rfl ?_
  refine w_p (pc1 := 36) rfl rfl ?_
  refine w_je (pc1 := 39) (vs := [.long 160, .long (e_V v), .long (e_V w)]) (rest := []) (st1 := [.long (o2M (u_2 true 16 (.inl v) (.inl w)))]) (m_255_16 (g := true) (d := d) (sl := 0)) rfl rfl rfl (fun _ _ => rfl) rfl (by exact cl_s my_255 rfl rfl rfl (Nat.le_of_ble_eq_true rfl) rfl rfl) (by rfl) (Nat.le_of_ble_eq_true rfl) (Nat.le_of_ble_eq_true rfl) rfl (by rfl) ?_
  refine w_r rfl rfl rfl (fun _ _ => rfl) rfl ?_
  exact ⟨rfl, rfl, rfl⟩
set_option maxRecDepth 100000 in
theorem m_254_17 : Wd L xs (d + 1) y_254 (0, [(0, .ref 176), (1, .long 62), (3, .long (e_V v)), (5, .long (e_V w)), (7, .int (ck g))], [], MH C t, sl) (Rt (some (.long (o2M (u_2 true 17 (.inl v) (.inl w))))) (MH C t) sl) nX := by
  refine w_p (pc1 := 1) rfl rfl ?_
  refine w_m0 (pc1 := 4) (st1 := .long 43 :: _) rfl rfl rfl rfl ?_
  refine w_p (pc1 := 5) (st1 := .int 1 :: _) rfl rfl ?_
  refine w_f (a := 40) (b := 8) rfl rfl rfl ?_
  refine w_p (pc1 := 9) rfl rfl ?_
  refine w_m0 (pc1 := 12) (st1 := .long 45 :: _) rfl rfl rfl rfl ?_
  refine w_p (pc1 := 13) (st1 := .int 1 :: _) rfl rfl ?_
  refine w_f (a := 40) (b := 16) rfl rfl rfl ?_
  refine w_p (pc1 := 17) rfl rfl ?_
  refine w_m0 (pc1 := 20) (st1 := .long 42 :: _) rfl rfl rfl rfl ?_
  refine w_p (pc1 := 21) (st1 := .int 1 :: _) rfl rfl ?_
  refine w_f (a := 40) (b := 24) rfl rfl rfl ?_
  refine w_p (pc1 := 25) rfl rfl ?_
  refine w_m0 (pc1 := 28) (st1 := .long 47 :: _) rfl rfl rfl rfl ?_
  refine w_p (pc1 := 29) (st1 := .int 1 :: _) rfl rfl ?_
  refine w_f (a := 40) (b := 32) rfl rfl rfl ?_
  refine w_p (pc1 := 33) rfl rfl ?_
  refine w_p (pc1 := 34) rfl rfl ?_
  refine w_p (pc1 := 36) rfl rfl ?_
  refine w_je (pc1 := 39) (vs := [.long 62, .long (e_V v), .long (e_V w)]) (rest := []) (st1 := [.long (o2M (u_2 true 17 (.inl v) (.inl w)))]) (m_255_17 (g := true) (d := d) (sl := 0)) rfl rfl rfl (fun _ _ => rfl) rfl (by exact cl_s my_255 rfl rfl rfl (Nat.le_of_ble_eq_true rfl) rfl rfl) (by rfl) (Nat.le_of_ble_eq_true rfl) (Nat.le_of_ble_eq_true rfl) rfl (by rfl) ?_
  refine w_r rfl rfl rfl (fun _ _ => rfl) rfl ?_
  exact ⟨rfl, rfl, rfl⟩
set_option maxRecDepth 100000 in
theorem m_254_18 : Wd L xs (d + 1) y_254 (0, [(0, .ref 176), (1, .long 162), (3, .long (e_V v)), (5, .long (e_V w)), (7, .int (ck g))], [], MH C t, sl) (Rt (some (.long (o2M (u_2 true 18 (.inl v) (.inl w))))) (MH C t) sl) nX := by
  refine w_p (pc1 := 1) rfl rfl ?_
  refine w_m0 (pc1 := 4) (st1 := .long 43 :: _) rfl rfl rfl rfl ?_
  refine w_p (pc1 := 5) (st1 := .int 1 :: _) rfl rfl ?_
  refine w_f (a := 40) (b := 8) rfl rfl rfl ?_
  refine w_p (pc1 := 9) rfl rfl ?_
  refine w_m0 (pc1 := 12) (st1 := .long 45 :: _) rfl rfl rfl rfl ?_
  refine w_p (pc1 := 13) (st1 := .int 1 :: _) rfl rfl ?_
  refine w_f (a := 40) (b := 16) rfl rfl rfl ?_
  refine w_p (pc1 := 17) rfl rfl ?_
  refine w_m0 (pc1 := 20) (st1 := .long 42 :: _) rfl rfl rfl rfl ?_
  refine w_p (pc1 := 21) (st1 := .int 1 :: _) rfl rfl ?_
  refine w_f (a := 40) (b := 24) rfl rfl rfl ?_
  refine w_p (pc1 := 25) rfl rfl ?_
  refine w_m0 (pc1 := 28) (st1 := .long 47 :: _) rfl rfl rfl rfl ?_
  refine w_p (pc1 := 29) (st1 := .int 1 :: _) rfl rfl ?_
  refine w_f (a := 40) (b := 32) rfl rfl rfl ?_
  refine w_p (pc1 := 33) rfl rfl ?_
  refine w_p (pc1 := 34) rfl rfl ?_
  refine w_p (pc1 := 36) rfl rfl ?_
  refine w_je (pc1 := 39) (vs := [.long 162, .long (e_V v), .long (e_V w)]) (rest := []) (st1 := [.long (o2M (u_2 true 18 (.inl v) (.inl w)))]) (m_255_18 (g := true) (d := d) (sl := 0)) rfl rfl rfl (fun _ _ => rfl) rfl (by exact cl_s my_255 rfl rfl rfl (Nat.le_of_ble_eq_true rfl) rfl rfl) (by rfl) (Nat.le_of_ble_eq_true rfl) (Nat.le_of_ble_eq_true rfl) rfl (by rfl) ?_
  refine w_r rfl rfl rfl (fun _ _ => rfl) rfl ?_
  exact ⟨rfl, rfl, rfl⟩
set_option maxRecDepth 100000 in
theorem m_254_9 : Wd L xs (d + 1) y_254 (0, [(0, .ref 176), (1, .long 43), (3, .long (e_V v)), (5, .long (e_V w)), (7, .int (ck g))], [], MH C t, sl) (Rt (some (.long (o2M (u_2 true 9 (.inl v) (.inl w))))) (MH C t) sl) nX := by
  rw [u2_A (by unfold isA; decide)]
  cases v with
  | none =>
    refine w_p (pc1 := 1) rfl rfl ?_
    refine w_m0 (pc1 := 4) (st1 := .long 43 :: _) rfl rfl rfl rfl ?_
    refine w_p (pc1 := 5) (st1 := .int 0 :: _) rfl rfl ?_
    refine w_t (a := 40) (b := 8) rfl rfl rfl ?_
    refine w_p (pc1 := 41) rfl rfl ?_
    refine w_m0 (pc1 := 44) (st1 := .long (-9223372036854775808) :: _) rfl rfl rfl rfl ?_
    refine w_p (pc1 := 45) rfl rfl ?_
    refine w_t (a := 57) (b := 48) (lb_eq_t (by rfl)) rfl rfl ?_
    refine w_m0 (pc1 := 60) (st1 := .long (-9223372036854775808) :: _) rfl rfl rfl rfl ?_
    refine w_r rfl rfl rfl (fun _ _ => rfl) rfl ?_
    exact ⟨rfl, rfl, rfl⟩
  | some x => cases w with
    | none =>
      refine w_p (pc1 := 1) rfl rfl ?_
      refine w_m0 (pc1 := 4) (st1 := .long 43 :: _) rfl rfl rfl rfl ?_
      refine w_p (pc1 := 5) (st1 := .int 0 :: _) rfl rfl ?_
      refine w_t (a := 40) (b := 8) rfl rfl rfl ?_
      refine w_p (pc1 := 41) rfl rfl ?_
      refine w_m0 (pc1 := 44) (st1 := .long (-9223372036854775808) :: _) rfl rfl rfl rfl ?_
      refine w_p (pc1 := 45) rfl rfl ?_
      refine w_f (a := 57) (b := 48) (lb_eq_f (by exact e_V_ne x)) rfl rfl ?_
      refine w_p (pc1 := 50) rfl rfl ?_
      refine w_m0 (pc1 := 53) (st1 := .long (-9223372036854775808) :: _) rfl rfl rfl rfl ?_
      refine w_p (pc1 := 54) rfl rfl ?_
      refine w_f (a := 61) (b := 57) (lb_ne_f (by rfl)) rfl rfl ?_
      refine w_m0 (pc1 := 60) (st1 := .long (-9223372036854775808) :: _) rfl rfl rfl rfl ?_
      refine w_r rfl rfl rfl (fun _ _ => rfl) rfl ?_
      exact ⟨rfl, rfl, rfl⟩
    | some y =>
      refine w_p (pc1 := 1) rfl rfl ?_
      refine w_m0 (pc1 := 4) (st1 := .long 43 :: _) rfl rfl rfl rfl ?_
      refine w_p (pc1 := 5) (st1 := .int 0 :: _) rfl rfl ?_
      refine w_t (a := 40) (b := 8) rfl rfl rfl ?_
      refine w_p (pc1 := 41) rfl rfl ?_
      refine w_m0 (pc1 := 44) (st1 := .long (-9223372036854775808) :: _) rfl rfl rfl rfl ?_
      refine w_p (pc1 := 45) rfl rfl ?_
      refine w_f (a := 57) (b := 48) (lb_eq_f (by exact e_V_ne x)) rfl rfl ?_
      refine w_p (pc1 := 50) rfl rfl ?_
      refine w_m0 (pc1 := 53) (st1 := .long (-9223372036854775808) :: _) rfl rfl rfl rfl ?_
      refine w_p (pc1 := 54) rfl rfl ?_
      refine w_t (a := 61) (b := 57) (lb_ne_t (by exact e_V_ne y)) rfl rfl ?_
      refine w_p (pc1 := 62) rfl rfl ?_
      refine w_m0 (pc1 := 65) (st1 := .long 47 :: _) rfl rfl rfl rfl ?_
      refine w_p (pc1 := 66) (st1 := .int (-1) :: _) rfl rfl ?_
      refine w_t (a := 101) (b := 69) rfl rfl rfl ?_
      refine w_p (pc1 := 102) rfl rfl ?_
      refine w_m0 (pc1 := 105) (st1 := .long 43 :: _) rfl rfl rfl rfl ?_
      refine w_p (pc1 := 106) (st1 := .int 0 :: _) rfl rfl ?_
      refine w_f (a := 118) (b := 109) rfl rfl rfl ?_
      refine w_p (pc1 := 110) rfl rfl ?_
      refine w_p (pc1 := 112) rfl rfl ?_
      refine w_p (pc1 := 113) (st1 := .long ((e_V (some x)) + (e_V (some y))) :: _) rfl rfl ?_
      refine w_p (pc1 := 114) (st1 := .int (((e_V (some x)) + (e_V (some y))).toInt32) :: _) rfl rfl ?_
      refine w_p (pc1 := 115) (st1 := .long ((((e_V (some x)) + (e_V (some y))).toInt32).toInt64) :: _) rfl rfl ?_
      refine w_p (pc1 := 158) rfl rfl ?_
      refine w_r rfl rfl rfl (fun _ _ => rfl) rfl ?_
      exact ⟨rfl, rfl, rfl⟩
set_option maxRecDepth 100000 in
theorem m_254_10 : Wd L xs (d + 1) y_254 (0, [(0, .ref 176), (1, .long 45), (3, .long (e_V v)), (5, .long (e_V w)), (7, .int (ck g))], [], MH C t, sl) (Rt (some (.long (o2M (u_2 true 10 (.inl v) (.inl w))))) (MH C t) sl) nX := by
  rw [u2_A (by unfold isA; decide)]
  cases v with
  | none =>
    refine w_p (pc1 := 1) rfl rfl ?_
    refine w_m0 (pc1 := 4) (st1 := .long 43 :: _) rfl rfl rfl rfl ?_
    refine w_p (pc1 := 5) (st1 := .int 1 :: _) rfl rfl ?_
    refine w_f (a := 40) (b := 8) rfl rfl rfl ?_
    refine w_p (pc1 := 9) rfl rfl ?_
    refine w_m0 (pc1 := 12) (st1 := .long 45 :: _) rfl rfl rfl rfl ?_
    refine w_p (pc1 := 13) (st1 := .int 0 :: _) rfl rfl ?_
    refine w_t (a := 40) (b := 16) rfl rfl rfl ?_
    refine w_p (pc1 := 41) rfl rfl ?_
    refine w_m0 (pc1 := 44) (st1 := .long (-9223372036854775808) :: _) rfl rfl rfl rfl ?_
    refine w_p (pc1 := 45) rfl rfl ?_
    refine w_t (a := 57) (b := 48) (lb_eq_t (by rfl)) rfl rfl ?_
    refine w_m0 (pc1 := 60) (st1 := .long (-9223372036854775808) :: _) rfl rfl rfl rfl ?_
    refine w_r rfl rfl rfl (fun _ _ => rfl) rfl ?_
    exact ⟨rfl, rfl, rfl⟩
  | some x => cases w with
    | none =>
      refine w_p (pc1 := 1) rfl rfl ?_
      refine w_m0 (pc1 := 4) (st1 := .long 43 :: _) rfl rfl rfl rfl ?_
      refine w_p (pc1 := 5) (st1 := .int 1 :: _) rfl rfl ?_
      refine w_f (a := 40) (b := 8) rfl rfl rfl ?_
      refine w_p (pc1 := 9) rfl rfl ?_
      refine w_m0 (pc1 := 12) (st1 := .long 45 :: _) rfl rfl rfl rfl ?_
      refine w_p (pc1 := 13) (st1 := .int 0 :: _) rfl rfl ?_
      refine w_t (a := 40) (b := 16) rfl rfl rfl ?_
      refine w_p (pc1 := 41) rfl rfl ?_
      refine w_m0 (pc1 := 44) (st1 := .long (-9223372036854775808) :: _) rfl rfl rfl rfl ?_
      refine w_p (pc1 := 45) rfl rfl ?_
      refine w_f (a := 57) (b := 48) (lb_eq_f (by exact e_V_ne x)) rfl rfl ?_
      refine w_p (pc1 := 50) rfl rfl ?_
      refine w_m0 (pc1 := 53) (st1 := .long (-9223372036854775808) :: _) rfl rfl rfl rfl ?_
      refine w_p (pc1 := 54) rfl rfl ?_
      refine w_f (a := 61) (b := 57) (lb_ne_f (by rfl)) rfl rfl ?_
      refine w_m0 (pc1 := 60) (st1 := .long (-9223372036854775808) :: _) rfl rfl rfl rfl ?_
      refine w_r rfl rfl rfl (fun _ _ => rfl) rfl ?_
      exact ⟨rfl, rfl, rfl⟩
    | some y =>
      refine w_p (pc1 := 1) rfl rfl ?_
      refine w_m0 (pc1 := 4) (st1 := .long 43 :: _) rfl rfl rfl rfl ?_
      refine w_p (pc1 := 5) (st1 := .int 1 :: _) rfl rfl ?_
      refine w_f (a := 40) (b := 8) rfl rfl rfl ?_
      refine w_p (pc1 := 9) rfl rfl ?_
      refine w_m0 (pc1 := 12) (st1 := .long 45 :: _) rfl rfl rfl rfl ?_
      refine w_p (pc1 := 13) (st1 := .int 0 :: _) rfl rfl ?_
      refine w_t (a := 40) (b := 16) rfl rfl rfl ?_
      refine w_p (pc1 := 41) rfl rfl ?_
      refine w_m0 (pc1 := 44) (st1 := .long (-9223372036854775808) :: _) rfl rfl rfl rfl ?_
      refine w_p (pc1 := 45) rfl rfl ?_
      refine w_f (a := 57) (b := 48) (lb_eq_f (by exact e_V_ne x)) rfl rfl ?_
      refine w_p (pc1 := 50) rfl rfl ?_
      refine w_m0 (pc1 := 53) (st1 := .long (-9223372036854775808) :: _) rfl rfl rfl rfl ?_
      refine w_p (pc1 := 54) rfl rfl ?_
      refine w_t (a := 61) (b := 57) (lb_ne_t (by exact e_V_ne y)) rfl rfl ?_
      refine w_p (pc1 := 62) rfl rfl ?_
      refine w_m0 (pc1 := 65) (st1 := .long 47 :: _) rfl rfl rfl rfl ?_
      refine w_p (pc1 := 66) (st1 := .int (-1) :: _) rfl rfl ?_
      refine w_t (a := 101) (b := 69) rfl rfl rfl ?_
      refine w_p (pc1 := 102) rfl rfl ?_
      refine w_m0 (pc1 := 105) (st1 := .long 43 :: _) rfl rfl rfl rfl ?_
      refine w_p (pc1 := 106) (st1 := .int 1 :: _) rfl rfl ?_
      refine w_t (a := 118) (b := 109) rfl rfl rfl ?_
      refine w_p (pc1 := 119) rfl rfl ?_
      refine w_m0 (pc1 := 122) (st1 := .long 45 :: _) rfl rfl rfl rfl ?_
      refine w_p (pc1 := 123) (st1 := .int 0 :: _) rfl rfl ?_
      refine w_f (a := 135) (b := 126) rfl rfl rfl ?_
      refine w_p (pc1 := 127) rfl rfl ?_
      refine w_p (pc1 := 129) rfl rfl ?_
      refine w_p (pc1 := 130) (st1 := .long ((e_V (some x)) - (e_V (some y))) :: _) rfl rfl ?_
      refine w_p (pc1 := 131) (st1 := .int (((e_V (some x)) - (e_V (some y))).toInt32) :: _) rfl rfl ?_
      refine w_p (pc1 := 132) (st1 := .long ((((e_V (some x)) - (e_V (some y))).toInt32).toInt64) :: _) rfl rfl ?_
      refine w_p (pc1 := 158) rfl rfl ?_
      refine w_r rfl rfl rfl (fun _ _ => rfl) rfl ?_
      exact ⟨rfl, rfl, rfl⟩
set_option maxRecDepth 100000 in
theorem m_254_11 : Wd L xs (d + 1) y_254 (0, [(0, .ref 176), (1, .long 42), (3, .long (e_V v)), (5, .long (e_V w)), (7, .int (ck g))], [], MH C t, sl) (Rt (some (.long (o2M (u_2 true 11 (.inl v) (.inl w))))) (MH C t) sl) nX := by
  rw [u2_A (by unfold isA; decide)]
  cases v with
  | none =>
    refine w_p (pc1 := 1) rfl rfl ?_
    refine w_m0 (pc1 := 4) (st1 := .long 43 :: _) rfl rfl rfl rfl ?_
    refine w_p (pc1 := 5) (st1 := .int (-1) :: _) rfl rfl ?_
    refine w_f (a := 40) (b := 8) rfl rfl rfl ?_
    refine w_p (pc1 := 9) rfl rfl ?_
    refine w_m0 (pc1 := 12) (st1 := .long 45 :: _) rfl rfl rfl rfl ?_
    refine w_p (pc1 := 13) (st1 := .int (-1) :: _) rfl rfl ?_
    refine w_f (a := 40) (b := 16) rfl rfl rfl ?_
    refine w_p (pc1 := 17) rfl rfl ?_
    refine w_m0 (pc1 := 20) (st1 := .long 42 :: _) rfl rfl rfl rfl ?_
    refine w_p (pc1 := 21) (st1 := .int 0 :: _) rfl rfl ?_
    refine w_t (a := 40) (b := 24) rfl rfl rfl ?_
    refine w_p (pc1 := 41) rfl rfl ?_
    refine w_m0 (pc1 := 44) (st1 := .long (-9223372036854775808) :: _) rfl rfl rfl rfl ?_
    refine w_p (pc1 := 45) rfl rfl ?_
    refine w_t (a := 57) (b := 48) (lb_eq_t (by rfl)) rfl rfl ?_
    refine w_m0 (pc1 := 60) (st1 := .long (-9223372036854775808) :: _) rfl rfl rfl rfl ?_
    refine w_r rfl rfl rfl (fun _ _ => rfl) rfl ?_
    exact ⟨rfl, rfl, rfl⟩
  | some x => cases w with
    | none =>
      refine w_p (pc1 := 1) rfl rfl ?_
      refine w_m0 (pc1 := 4) (st1 := .long 43 :: _) rfl rfl rfl rfl ?_
      refine w_p (pc1 := 5) (st1 := .int (-1) :: _) rfl rfl ?_
      refine w_f (a := 40) (b := 8) rfl rfl rfl ?_
      refine w_p (pc1 := 9) rfl rfl ?_
      refine w_m0 (pc1 := 12) (st1 := .long 45 :: _) rfl rfl rfl rfl ?_
      refine w_p (pc1 := 13) (st1 := .int (-1) :: _) rfl rfl ?_
      refine w_f (a := 40) (b := 16) rfl rfl rfl ?_
      refine w_p (pc1 := 17) rfl rfl ?_
      refine w_m0 (pc1 := 20) (st1 := .long 42 :: _) rfl rfl rfl rfl ?_
      refine w_p (pc1 := 21) (st1 := .int 0 :: _) rfl rfl ?_
      refine w_t (a := 40) (b := 24) rfl rfl rfl ?_
      refine w_p (pc1 := 41) rfl rfl ?_
      refine w_m0 (pc1 := 44) (st1 := .long (-9223372036854775808) :: _) rfl rfl rfl rfl ?_
      refine w_p (pc1 := 45) rfl rfl ?_
      refine w_f (a := 57) (b := 48) (lb_eq_f (by exact e_V_ne x)) rfl rfl ?_
      refine w_p (pc1 := 50) rfl rfl ?_
      refine w_m0 (pc1 := 53) (st1 := .long (-9223372036854775808) :: _) rfl rfl rfl rfl ?_
      refine w_p (pc1 := 54) rfl rfl ?_
      refine w_f (a := 61) (b := 57) (lb_ne_f (by rfl)) rfl rfl ?_
      refine w_m0 (pc1 := 60) (st1 := .long (-9223372036854775808) :: _) rfl rfl rfl rfl ?_
      refine w_r rfl rfl rfl (fun _ _ => rfl) rfl ?_
      exact ⟨rfl, rfl, rfl⟩
    | some y =>
      refine w_p (pc1 := 1) rfl rfl ?_
      refine w_m0 (pc1 := 4) (st1 := .long 43 :: _) rfl rfl rfl rfl ?_
      refine w_p (pc1 := 5) (st1 := .int (-1) :: _) rfl rfl ?_
      refine w_f (a := 40) (b := 8) rfl rfl rfl ?_
      refine w_p (pc1 := 9) rfl rfl ?_
      refine w_m0 (pc1 := 12) (st1 := .long 45 :: _) rfl rfl rfl rfl ?_
      refine w_p (pc1 := 13) (st1 := .int (-1) :: _) rfl rfl ?_
      refine w_f (a := 40) (b := 16) rfl rfl rfl ?_
      refine w_p (pc1 := 17) rfl rfl ?_
      refine w_m0 (pc1 := 20) (st1 := .long 42 :: _) rfl rfl rfl rfl ?_
      refine w_p (pc1 := 21) (st1 := .int 0 :: _) rfl rfl ?_
      refine w_t (a := 40) (b := 24) rfl rfl rfl ?_
      refine w_p (pc1 := 41) rfl rfl ?_
      refine w_m0 (pc1 := 44) (st1 := .long (-9223372036854775808) :: _) rfl rfl rfl rfl ?_
      refine w_p (pc1 := 45) rfl rfl ?_
      refine w_f (a := 57) (b := 48) (lb_eq_f (by exact e_V_ne x)) rfl rfl ?_
      refine w_p (pc1 := 50) rfl rfl ?_
      refine w_m0 (pc1 := 53) (st1 := .long (-9223372036854775808) :: _) rfl rfl rfl rfl ?_
      refine w_p (pc1 := 54) rfl rfl ?_
      refine w_t (a := 61) (b := 57) (lb_ne_t (by exact e_V_ne y)) rfl rfl ?_
      refine w_p (pc1 := 62) rfl rfl ?_
      refine w_m0 (pc1 := 65) (st1 := .long 47 :: _) rfl rfl rfl rfl ?_
      refine w_p (pc1 := 66) (st1 := .int (-1) :: _) rfl rfl ?_
      refine w_t (a := 101) (b := 69) rfl rfl rfl ?_
      refine w_p (pc1 := 102) rfl rfl ?_
      refine w_m0 (pc1 := 105) (st1 := .long 43 :: _) rfl rfl rfl rfl ?_
      refine w_p (pc1 := 106) (st1 := .int (-1) :: _) rfl rfl ?_
      refine w_t (a := 118) (b := 109) rfl rfl rfl ?_
      refine w_p (pc1 := 119) rfl rfl ?_
      refine w_m0 (pc1 := 122) (st1 := .long 45 :: _) rfl rfl rfl rfl ?_
      refine w_p (pc1 := 123) (st1 := .int (-1) :: _) rfl rfl ?_
      refine w_t (a := 135) (b := 126) rfl rfl rfl ?_
      refine w_p (pc1 := 136) rfl rfl ?_
      refine w_m0 (pc1 := 139) (st1 := .long 42 :: _) rfl rfl rfl rfl ?_
      refine w_p (pc1 := 140) (st1 := .int 0 :: _) rfl rfl ?_
      refine w_f (a := 152) (b := 143) rfl rfl rfl ?_
      refine w_p (pc1 := 144) rfl rfl ?_
      refine w_p (pc1 := 146) rfl rfl ?_
      refine w_p (pc1 := 147) (st1 := .long ((e_V (some x)) * (e_V (some y))) :: _) rfl rfl ?_
      refine w_p (pc1 := 148) (st1 := .int (((e_V (some x)) * (e_V (some y))).toInt32) :: _) rfl rfl ?_
      refine w_p (pc1 := 149) (st1 := .long ((((e_V (some x)) * (e_V (some y))).toInt32).toInt64) :: _) rfl rfl ?_
      refine w_p (pc1 := 158) rfl rfl ?_
      refine w_r rfl rfl rfl (fun _ _ => rfl) rfl ?_
      exact ⟨rfl, rfl, rfl⟩
set_option maxRecDepth 100000 in
theorem m_254_12a : Wd L xs (d + 1) y_254 (0, [(0, .ref 176), (1, .long 47), (3, .long (e_V none)), (5, .long (e_V w)), (7, .int (ck g))], [], MH C t, sl) (Rt (some (.long (e_V none))) (MH C t) sl) nX := by
  refine w_p (pc1 := 1) rfl rfl ?_
  refine w_m0 (pc1 := 4) (st1 := .long 43 :: _) rfl rfl rfl rfl ?_
  refine w_p (pc1 := 5) (st1 := .int 1 :: _) rfl rfl ?_
  refine w_f (a := 40) (b := 8) rfl rfl rfl ?_
  refine w_p (pc1 := 9) rfl rfl ?_
  refine w_m0 (pc1 := 12) (st1 := .long 45 :: _) rfl rfl rfl rfl ?_
  refine w_p (pc1 := 13) (st1 := .int 1 :: _) rfl rfl ?_
  refine w_f (a := 40) (b := 16) rfl rfl rfl ?_
  refine w_p (pc1 := 17) rfl rfl ?_
  refine w_m0 (pc1 := 20) (st1 := .long 42 :: _) rfl rfl rfl rfl ?_
  refine w_p (pc1 := 21) (st1 := .int 1 :: _) rfl rfl ?_
  refine w_f (a := 40) (b := 24) rfl rfl rfl ?_
  refine w_p (pc1 := 25) rfl rfl ?_
  refine w_m0 (pc1 := 28) (st1 := .long 47 :: _) rfl rfl rfl rfl ?_
  refine w_p (pc1 := 29) (st1 := .int 0 :: _) rfl rfl ?_
  refine w_t (a := 40) (b := 32) rfl rfl rfl ?_
  refine w_p (pc1 := 41) rfl rfl ?_
  refine w_m0 (pc1 := 44) (st1 := .long (-9223372036854775808) :: _) rfl rfl rfl rfl ?_
  refine w_p (pc1 := 45) rfl rfl ?_
  refine w_t (a := 57) (b := 48) (lb_eq_t (by rfl)) rfl rfl ?_
  refine w_m0 (pc1 := 60) (st1 := .long (-9223372036854775808) :: _) rfl rfl rfl rfl ?_
  refine w_r rfl rfl rfl (fun _ _ => rfl) rfl ?_
  exact ⟨rfl, rfl, rfl⟩
set_option maxRecDepth 100000 in
theorem m_254_12b : Wd L xs (d + 1) y_254 (0, [(0, .ref 176), (1, .long 47), (3, .long (e_V (some x))), (5, .long (e_V none)), (7, .int (ck g))], [], MH C t, sl) (Rt (some (.long (e_V none))) (MH C t) sl) nX := by
  refine w_p (pc1 := 1) rfl rfl ?_
  refine w_m0 (pc1 := 4) (st1 := .long 43 :: _) rfl rfl rfl rfl ?_
  refine w_p (pc1 := 5) (st1 := .int 1 :: _) rfl rfl ?_
  refine w_f (a := 40) (b := 8) rfl rfl rfl ?_
  refine w_p (pc1 := 9) rfl rfl ?_
  refine w_m0 (pc1 := 12) (st1 := .long 45 :: _) rfl rfl rfl rfl ?_
  refine w_p (pc1 := 13) (st1 := .int 1 :: _) rfl rfl ?_
  refine w_f (a := 40) (b := 16) rfl rfl rfl ?_
  refine w_p (pc1 := 17) rfl rfl ?_
  refine w_m0 (pc1 := 20) (st1 := .long 42 :: _) rfl rfl rfl rfl ?_
  refine w_p (pc1 := 21) (st1 := .int 1 :: _) rfl rfl ?_
  refine w_f (a := 40) (b := 24) rfl rfl rfl ?_
  refine w_p (pc1 := 25) rfl rfl ?_
  refine w_m0 (pc1 := 28) (st1 := .long 47 :: _) rfl rfl rfl rfl ?_
  refine w_p (pc1 := 29) (st1 := .int 0 :: _) rfl rfl ?_
  refine w_t (a := 40) (b := 32) rfl rfl rfl ?_
  refine w_p (pc1 := 41) rfl rfl ?_
  refine w_m0 (pc1 := 44) (st1 := .long (-9223372036854775808) :: _) rfl rfl rfl rfl ?_
  refine w_p (pc1 := 45) rfl rfl ?_
  refine w_f (a := 57) (b := 48) (lb_eq_f (by exact e_V_ne x)) rfl rfl ?_
  refine w_p (pc1 := 50) rfl rfl ?_
  refine w_m0 (pc1 := 53) (st1 := .long (-9223372036854775808) :: _) rfl rfl rfl rfl ?_
  refine w_p (pc1 := 54) rfl rfl ?_
  refine w_f (a := 61) (b := 57) (lb_ne_f (by rfl)) rfl rfl ?_
  refine w_m0 (pc1 := 60) (st1 := .long (-9223372036854775808) :: _) rfl rfl rfl rfl ?_
  refine w_r rfl rfl rfl (fun _ _ => rfl) rfl ?_
  exact ⟨rfl, rfl, rfl⟩
set_option maxRecDepth 100000 in
theorem m_254_12d (hy : y.toInt64 ≠ 0) : Wd L xs (d + 1) y_254 (0, [(0, .ref 176), (1, .long 47), (3, .long (e_V (some x))), (5, .long (e_V (some y))), (7, .int (ck g))], [], MH C t, sl) (Rt (some (.long (e_V (some (x.toInt64 / y.toInt64).toInt32)))) (MH C t) sl) nX := by
  refine w_p (pc1 := 1) rfl rfl ?_
  refine w_m0 (pc1 := 4) (st1 := .long 43 :: _) rfl rfl rfl rfl ?_
  refine w_p (pc1 := 5) (st1 := .int 1 :: _) rfl rfl ?_
  refine w_f (a := 40) (b := 8) rfl rfl rfl ?_
  refine w_p (pc1 := 9) rfl rfl ?_
  refine w_m0 (pc1 := 12) (st1 := .long 45 :: _) rfl rfl rfl rfl ?_
  refine w_p (pc1 := 13) (st1 := .int 1 :: _) rfl rfl ?_
  refine w_f (a := 40) (b := 16) rfl rfl rfl ?_
  refine w_p (pc1 := 17) rfl rfl ?_
  refine w_m0 (pc1 := 20) (st1 := .long 42 :: _) rfl rfl rfl rfl ?_
  refine w_p (pc1 := 21) (st1 := .int 1 :: _) rfl rfl ?_
  refine w_f (a := 40) (b := 24) rfl rfl rfl ?_
  refine w_p (pc1 := 25) rfl rfl ?_
  refine w_m0 (pc1 := 28) (st1 := .long 47 :: _) rfl rfl rfl rfl ?_
  refine w_p (pc1 := 29) (st1 := .int 0 :: _) rfl rfl ?_
  refine w_t (a := 40) (b := 32) rfl rfl rfl ?_
  refine w_p (pc1 := 41) rfl rfl ?_
  refine w_m0 (pc1 := 44) (st1 := .long (-9223372036854775808) :: _) rfl rfl rfl rfl ?_
  refine w_p (pc1 := 45) rfl rfl ?_
  refine w_f (a := 57) (b := 48) (lb_eq_f (by exact e_V_ne x)) rfl rfl ?_
  refine w_p (pc1 := 50) rfl rfl ?_
  refine w_m0 (pc1 := 53) (st1 := .long (-9223372036854775808) :: _) rfl rfl rfl rfl ?_
  refine w_p (pc1 := 54) rfl rfl ?_
  refine w_t (a := 61) (b := 57) (lb_ne_t (by exact e_V_ne y)) rfl rfl ?_
  refine w_p (pc1 := 62) rfl rfl ?_
  refine w_m0 (pc1 := 65) (st1 := .long 47 :: _) rfl rfl rfl rfl ?_
  refine w_p (pc1 := 66) (st1 := .int 0 :: _) rfl rfl ?_
  refine w_f (a := 101) (b := 69) rfl rfl rfl ?_
  refine w_p (pc1 := 71) rfl rfl ?_
  refine w_p (pc1 := 72) (st1 := .long 0 :: _) rfl rfl ?_
  refine w_p (pc1 := 73) rfl rfl ?_
  refine w_t (a := 101) (b := 76) (lb_ne_t (by exact hy)) rfl rfl ?_
  refine w_p (pc1 := 102) rfl rfl ?_
  refine w_m0 (pc1 := 105) (st1 := .long 43 :: _) rfl rfl rfl rfl ?_
  refine w_p (pc1 := 106) (st1 := .int 1 :: _) rfl rfl ?_
  refine w_t (a := 118) (b := 109) rfl rfl rfl ?_
  refine w_p (pc1 := 119) rfl rfl ?_
  refine w_m0 (pc1 := 122) (st1 := .long 45 :: _) rfl rfl rfl rfl ?_
  refine w_p (pc1 := 123) (st1 := .int 1 :: _) rfl rfl ?_
  refine w_t (a := 135) (b := 126) rfl rfl rfl ?_
  refine w_p (pc1 := 136) rfl rfl ?_
  refine w_m0 (pc1 := 139) (st1 := .long 42 :: _) rfl rfl rfl rfl ?_
  refine w_p (pc1 := 140) (st1 := .int 1 :: _) rfl rfl ?_
  refine w_t (a := 152) (b := 143) rfl rfl rfl ?_
  refine w_p (pc1 := 153) rfl rfl ?_
  refine w_p (pc1 := 155) rfl rfl ?_
  refine w_ldiv (pc1 := 156) rfl (hy) rfl ?_
  refine w_p (pc1 := 157) (st1 := .int (((e_V (some x)) / (e_V (some y))).toInt32) :: _) rfl rfl ?_
  refine w_p (pc1 := 158) (st1 := .long ((((e_V (some x)) / (e_V (some y))).toInt32).toInt64) :: _) rfl rfl ?_
  refine w_r rfl rfl rfl (fun _ _ => rfl) rfl ?_
  exact ⟨rfl, rfl, rfl⟩
set_option maxRecDepth 100000 in
theorem m_254_12z (hy : y.toInt64 = 0) (hz : C.1 76 74 = ck z) : Wd L xs (d + 1) y_254 (0, [(0, .ref 176), (1, .long 47), (3, .long (e_V (some x))), (5, .long (e_V (some y))), (7, .int (ck g))], [], MH C t, sl) (Rt (some (.long (e_V none))) (MH (sI C 76 74 (ck (z || !g))) t) sl) nX := by
  cases z with
  | true =>
    refine w_p (pc1 := 1) rfl rfl ?_
    refine w_m0 (pc1 := 4) (st1 := .long 43 :: _) rfl rfl rfl rfl ?_
    refine w_p (pc1 := 5) (st1 := .int 1 :: _) rfl rfl ?_
    refine w_f (a := 40) (b := 8) rfl rfl rfl ?_
    refine w_p (pc1 := 9) rfl rfl ?_
    refine w_m0 (pc1 := 12) (st1 := .long 45 :: _) rfl rfl rfl rfl ?_
    refine w_p (pc1 := 13) (st1 := .int 1 :: _) rfl rfl ?_
    refine w_f (a := 40) (b := 16) rfl rfl rfl ?_
    refine w_p (pc1 := 17) rfl rfl ?_
    refine w_m0 (pc1 := 20) (st1 := .long 42 :: _) rfl rfl rfl rfl ?_
    refine w_p (pc1 := 21) (st1 := .int 1 :: _) rfl rfl ?_
    refine w_f (a := 40) (b := 24) rfl rfl rfl ?_
    refine w_p (pc1 := 25) rfl rfl ?_
    refine w_m0 (pc1 := 28) (st1 := .long 47 :: _) rfl rfl rfl rfl ?_
    refine w_p (pc1 := 29) (st1 := .int 0 :: _) rfl rfl ?_
    refine w_t (a := 40) (b := 32) rfl rfl rfl ?_
    refine w_p (pc1 := 41) rfl rfl ?_
    refine w_m0 (pc1 := 44) (st1 := .long (-9223372036854775808) :: _) rfl rfl rfl rfl ?_
    refine w_p (pc1 := 45) rfl rfl ?_
    refine w_f (a := 57) (b := 48) (lb_eq_f (by exact e_V_ne x)) rfl rfl ?_
    refine w_p (pc1 := 50) rfl rfl ?_
    refine w_m0 (pc1 := 53) (st1 := .long (-9223372036854775808) :: _) rfl rfl rfl rfl ?_
    refine w_p (pc1 := 54) rfl rfl ?_
    refine w_t (a := 61) (b := 57) (lb_ne_t (by exact e_V_ne y)) rfl rfl ?_
    refine w_p (pc1 := 62) rfl rfl ?_
    refine w_m0 (pc1 := 65) (st1 := .long 47 :: _) rfl rfl rfl rfl ?_
    refine w_p (pc1 := 66) (st1 := .int 0 :: _) rfl rfl ?_
    refine w_f (a := 101) (b := 69) rfl rfl rfl ?_
    refine w_p (pc1 := 71) rfl rfl ?_
    refine w_p (pc1 := 72) (st1 := .long 0 :: _) rfl rfl ?_
    refine w_p (pc1 := 73) rfl rfl ?_
    refine w_f (a := 101) (b := 76) (lb_ne_f (by exact hy)) rfl rfl ?_
    refine w_p (pc1 := 77) rfl rfl ?_
    refine w_p (pc1 := 78) rfl rfl ?_
    refine w_m0 (pc1 := 81) (st1 := .int 1 :: _) rfl rfl (h_gIe (j := 74) rfl rfl rfl rfl rfl (hz)) rfl ?_
    refine w_t (a := 89) (b := 84) rfl rfl rfl ?_
    refine w_p (pc1 := 90) (st1 := .int 1 :: _) rfl rfl ?_
    refine w_p (pc1 := 94) rfl rfl ?_
    refine w_m0 (pc1 := 97) rfl rfl (h_pI (j := 74) rfl rfl rfl rfl rfl rfl rfl ⟨rfl, rfl⟩ rfl) rfl ?_
    refine w_m0 (pc1 := 100) (st1 := .long (-9223372036854775808) :: _) rfl rfl rfl rfl ?_
    refine w_r rfl rfl rfl (fun _ _ => rfl) rfl ?_
    exact ⟨rfl, rfl, rfl⟩
  | false => cases g with
    | true =>
      refine w_p (pc1 := 1) rfl rfl ?_
      refine w_m0 (pc1 := 4) (st1 := .long 43 :: _) rfl rfl rfl rfl ?_
      refine w_p (pc1 := 5) (st1 := .int 1 :: _) rfl rfl ?_
      refine w_f (a := 40) (b := 8) rfl rfl rfl ?_
      refine w_p (pc1 := 9) rfl rfl ?_
      refine w_m0 (pc1 := 12) (st1 := .long 45 :: _) rfl rfl rfl rfl ?_
      refine w_p (pc1 := 13) (st1 := .int 1 :: _) rfl rfl ?_
      refine w_f (a := 40) (b := 16) rfl rfl rfl ?_
      refine w_p (pc1 := 17) rfl rfl ?_
      refine w_m0 (pc1 := 20) (st1 := .long 42 :: _) rfl rfl rfl rfl ?_
      refine w_p (pc1 := 21) (st1 := .int 1 :: _) rfl rfl ?_
      refine w_f (a := 40) (b := 24) rfl rfl rfl ?_
      refine w_p (pc1 := 25) rfl rfl ?_
      refine w_m0 (pc1 := 28) (st1 := .long 47 :: _) rfl rfl rfl rfl ?_
      refine w_p (pc1 := 29) (st1 := .int 0 :: _) rfl rfl ?_
      refine w_t (a := 40) (b := 32) rfl rfl rfl ?_
      refine w_p (pc1 := 41) rfl rfl ?_
      refine w_m0 (pc1 := 44) (st1 := .long (-9223372036854775808) :: _) rfl rfl rfl rfl ?_
      refine w_p (pc1 := 45) rfl rfl ?_
      refine w_f (a := 57) (b := 48) (lb_eq_f (by exact e_V_ne x)) rfl rfl ?_
      refine w_p (pc1 := 50) rfl rfl ?_
      refine w_m0 (pc1 := 53) (st1 := .long (-9223372036854775808) :: _) rfl rfl rfl rfl ?_
      refine w_p (pc1 := 54) rfl rfl ?_
      refine w_t (a := 61) (b := 57) (lb_ne_t (by exact e_V_ne y)) rfl rfl ?_
      refine w_p (pc1 := 62) rfl rfl ?_
      refine w_m0 (pc1 := 65) (st1 := .long 47 :: _) rfl rfl rfl rfl ?_
      refine w_p (pc1 := 66) (st1 := .int 0 :: _) rfl rfl ?_
      refine w_f (a := 101) (b := 69) rfl rfl rfl ?_
      refine w_p (pc1 := 71) rfl rfl ?_
      refine w_p (pc1 := 72) (st1 := .long 0 :: _) rfl rfl ?_
      refine w_p (pc1 := 73) rfl rfl ?_
      refine w_f (a := 101) (b := 76) (lb_ne_f (by exact hy)) rfl rfl ?_
      refine w_p (pc1 := 77) rfl rfl ?_
      refine w_p (pc1 := 78) rfl rfl ?_
      refine w_m0 (pc1 := 81) (st1 := .int 0 :: _) rfl rfl (h_gIe (j := 74) rfl rfl rfl rfl rfl (hz)) rfl ?_
      refine w_f (a := 89) (b := 84) rfl rfl rfl ?_
      refine w_p (pc1 := 86) rfl rfl ?_
      refine w_t (a := 93) (b := 89) rfl rfl rfl ?_
      refine w_p (pc1 := 94) (st1 := .int 0 :: _) rfl rfl ?_
      refine w_m0 (pc1 := 97) rfl rfl (h_pI (j := 74) rfl rfl rfl rfl rfl rfl rfl ⟨rfl, rfl⟩ rfl) rfl ?_
      refine w_m0 (pc1 := 100) (st1 := .long (-9223372036854775808) :: _) rfl rfl rfl rfl ?_
      refine w_r rfl rfl rfl (fun _ _ => rfl) rfl ?_
      exact ⟨rfl, rfl, rfl⟩
    | false =>
      refine w_p (pc1 := 1) rfl rfl ?_
      refine w_m0 (pc1 := 4) (st1 := .long 43 :: _) rfl rfl rfl rfl ?_
      refine w_p (pc1 := 5) (st1 := .int 1 :: _) rfl rfl ?_
      refine w_f (a := 40) (b := 8) rfl rfl rfl ?_
      refine w_p (pc1 := 9) rfl rfl ?_
      refine w_m0 (pc1 := 12) (st1 := .long 45 :: _) rfl rfl rfl rfl ?_
      refine w_p (pc1 := 13) (st1 := .int 1 :: _) rfl rfl ?_
      refine w_f (a := 40) (b := 16) rfl rfl rfl ?_
      refine w_p (pc1 := 17) rfl rfl ?_
      refine w_m0 (pc1 := 20) (st1 := .long 42 :: _) rfl rfl rfl rfl ?_
      refine w_p (pc1 := 21) (st1 := .int 1 :: _) rfl rfl ?_
      refine w_f (a := 40) (b := 24) rfl rfl rfl ?_
      refine w_p (pc1 := 25) rfl rfl ?_
      refine w_m0 (pc1 := 28) (st1 := .long 47 :: _) rfl rfl rfl rfl ?_
      refine w_p (pc1 := 29) (st1 := .int 0 :: _) rfl rfl ?_
      refine w_t (a := 40) (b := 32) rfl rfl rfl ?_
      refine w_p (pc1 := 41) rfl rfl ?_
      refine w_m0 (pc1 := 44) (st1 := .long (-9223372036854775808) :: _) rfl rfl rfl rfl ?_
      refine w_p (pc1 := 45) rfl rfl ?_
      refine w_f (a := 57) (b := 48) (lb_eq_f (by exact e_V_ne x)) rfl rfl ?_
      refine w_p (pc1 := 50) rfl rfl ?_
      refine w_m0 (pc1 := 53) (st1 := .long (-9223372036854775808) :: _) rfl rfl rfl rfl ?_
      refine w_p (pc1 := 54) rfl rfl ?_
      refine w_t (a := 61) (b := 57) (lb_ne_t (by exact e_V_ne y)) rfl rfl ?_
      refine w_p (pc1 := 62) rfl rfl ?_
      refine w_m0 (pc1 := 65) (st1 := .long 47 :: _) rfl rfl rfl rfl ?_
      refine w_p (pc1 := 66) (st1 := .int 0 :: _) rfl rfl ?_
      refine w_f (a := 101) (b := 69) rfl rfl rfl ?_
      refine w_p (pc1 := 71) rfl rfl ?_
      refine w_p (pc1 := 72) (st1 := .long 0 :: _) rfl rfl ?_
      refine w_p (pc1 := 73) rfl rfl ?_
      refine w_f (a := 101) (b := 76) (lb_ne_f (by exact hy)) rfl rfl ?_
      refine w_p (pc1 := 77) rfl rfl ?_
      refine w_p (pc1 := 78) rfl rfl ?_
      refine w_m0 (pc1 := 81) (st1 := .int 0 :: _) rfl rfl (h_gIe (j := 74) rfl rfl rfl rfl rfl (hz)) rfl ?_
      refine w_f (a := 89) (b := 84) rfl rfl rfl ?_
      refine w_p (pc1 := 86) rfl rfl ?_
      refine w_f (a := 93) (b := 89) rfl rfl rfl ?_
      refine w_p (pc1 := 90) (st1 := .int 1 :: _) rfl rfl ?_
      refine w_p (pc1 := 94) rfl rfl ?_
      refine w_m0 (pc1 := 97) rfl rfl (h_pI (j := 74) rfl rfl rfl rfl rfl rfl rfl ⟨rfl, rfl⟩ rfl) rfl ?_
      refine w_m0 (pc1 := 100) (st1 := .long (-9223372036854775808) :: _) rfl rfl rfl rfl ?_
      refine w_r rfl rfl rfl (fun _ _ => rfl) rfl ?_
      exact ⟨rfl, rfl, rfl⟩
end MWS
