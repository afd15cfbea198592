/-! THE EVALUATOR's links: what the control part looks up -/
def or_l : List (Nat × Nat) := [(0, 263), (4, 71), (5, 149)]
theorem or_l_in : ∀ q ∈ or_l, Cond.methodLink (own.getD q.1 "") q.2 or_x ∈ lw_tbl := pl_all (f := fun q : Nat × Nat => Cond.methodLink (own.getD q.1 "") q.2 or_x) [(6, 117), (4, 51), (5, 60)] rfl
def ac_l : List (Nat × Nat) := [(3, 55), (17, 150)]
theorem ac_l_in : ∀ q ∈ ac_l, Cond.methodLink (own.getD q.1 "") q.2 arraycopyName ∈ lw_tbl := pl_all (f := fun q : Nat × Nat => Cond.methodLink (own.getD q.1 "") q.2 arraycopyName) [(6, 149), (2, 206)] rfl
def mi_l : List (Nat × Nat) := [(3, 50), (5, 62), (17, 304)]
theorem mi_l_in : ∀ q ∈ mi_l, Cond.methodLink (own.getD q.1 "") q.2 Lib.Math.min.name ∈ lw_tbl := pl_all (f := fun q : Nat × Nat => Cond.methodLink (own.getD q.1 "") q.2 Lib.Math.min.name) [(6, 145), (5, 109), (2, 203)] rfl
def ma_l : List (Nat × Nat) := [(5, 68), (6, 187)]
theorem ma_l_in : ∀ q ∈ ma_l, Cond.methodLink (own.getD q.1 "") q.2 Lib.Math.max.name ∈ lw_tbl := pl_all (f := fun q : Nat × Nat => Cond.methodLink (own.getD q.1 "") q.2 Lib.Math.max.name) [(5, 110), (6, 209)] rfl
def mal_l : List (Nat × Nat) := [(8, 50)]
theorem mal_l_in : ∀ q ∈ mal_l, Cond.methodLink (own.getD q.1 "") q.2 Lib.MathLoose.max_long.x ∈ lw_tbl := pl_all (f := fun q : Nat × Nat => Cond.methodLink (own.getD q.1 "") q.2 Lib.MathLoose.max_long.x) [(6, 183)] rfl
def oi_l : List (Nat × Nat) := [(0, 3), (1, 3), (2, 3), (3, 3), (4, 3), (5, 3), (6, 3), (7, 3), (8, 5), (9, 3), (10, 1), (11, 1)]
theorem oi_l_in : ∀ q ∈ oi_l, Cond.methodLink (own.getD q.1 "") q.2 Lib.objectInit ∈ lw_tbl := pl_all (f := fun q : Nat × Nat => Cond.methodLink (own.getD q.1 "") q.2 Lib.objectInit) [(1, 39), (1, 47), (1, 99), (1, 109), (1, 183), (1, 189), (2, 34), (4, 179), (5, 124), (5, 198), (6, 31), (8, 38)] rfl
def ht_l : List (Nat × Nat × Nat) := [(17, 43, 13), (0, 64, 12), (1, 84, 12), (6, 56, 12), (16, 13, 13), (16, 15, 12), (0, 53, 13), (16, 32, 14), (0, 142, 14)]
theorem ht_in : ∀ q ∈ ht_l, Cond.classLink (own.getD q.1 "") q.2.1 (xs_R q.2.2) ∈ lw_tbl := pl_all (f := fun q : Nat × Nat × Nat => Cond.classLink (own.getD q.1 "") q.2.1 (xs_R q.2.2)) [(2, 89), (3, 198), (4, 71), (6, 136), (7, 150), (7, 151), (7, 156), (7, 209), (7, 215)] rfl
theorem ht_t : ∀ q ∈ ht_l, q.2.1 ≠ 0 ∧ (q.2.2 = 12 ∨ q.2.2 = 13 ∨ q.2.2 = 14) := by decide
theorem hc_12 : Cond.castable (xs_R 12) (xs_R 12) ∈ lw_tbl := pl_w_mem (q := (4, 73)) rfl
theorem hc_13 : Cond.castable (xs_R 13) (xs_R 13) ∈ lw_tbl := pl_w_mem (q := (2, 91)) rfl
theorem hc_14 : Cond.castable (xs_R 14) (xs_R 14) ∈ lw_tbl := pl_w_mem (q := (7, 217)) rfl
theorem oi_i : Cond.instanceMethod Lib.objectInit ∈ lw_tbl := pl_w_mem (q := (1, 40)) rfl
theorem oi_c : Cond.code Lib.objectInit ⟨#[0xb1]⟩ 1 none ∈ lw_tbl := pl_w_mem (q := (1, 41)) rfl
theorem mj_w : Cond.classLink "CascadeStore$Engine" 18 "[[J" ∈ lw_tbl := pl_w_mem (q := (2, 37)) rfl
theorem mj_o : Cond.arrayOver (.array .long) ∈ lw_tbl := pl_w_mem (q := (2, 38)) rfl
theorem mi2_w : Cond.classLink "CascadeStore$Engine" 26 "[[I" ∈ lw_tbl := pl_w_mem (q := (2, 39)) rfl
theorem mi2_o : Cond.arrayOver (.array .int) ∈ lw_tbl := pl_w_mem (q := (2, 40)) rfl
def na_l : List Nat := [0, 0, 0, 0, 2, 2, 1, 4, 3, 0, 0, 0, 0, 0, 1, 1, 1, 1, 2, 3, 1, 0, 1, 0, 0, 0, 0, 0, 0, 0, 1, 1, 1, 1, 1, 0, 0, 1, 1, 0, 0, 2, 2, 1, 1, 0, 3, 2, 1, 0, 3, 2, 1, 2, 3, 0, 0, 0, 0, 0, 0, 2, 0, 0, 0, 1, 1, 0, 0, 0, 0, 2, 3, 0, 0, 3, 2, 0, 0, 0, 0, 3, 2, 0, 0, 0, 1, 1, 6, 0, 0, 0, 1, 0, 0, 0, 1, 0, 1, 1, 0, 0, 1, 2, 1, 1, 1, 1, 2, 2, 2, 3, 4, 6, 2, 2, 3, 3, 3, 1, 2, 1, 4, 1, 3, 3, 1, 2, 3, 2, 2, 2, 2, 3, 3, 2, 4, 2, 6, 3, 3, 3, 3, 3, 3, 1, 1, 2, 5, 0, 0, 1, 1, 0, 0, 1, 1, 2, 2, 0, 0, 2, 4, 2, 2, 3, 1, 3, 1, 0, 0, 0, 4, 2, 4, 2, 5, 3, 4, 2, 0, 4, 2, 3, 1, 0, 0, 0, 2, 3, 2, 0, 0, 0, 0, 0, 1, 1, 0, 1, 1, 2, 1, 0, 1, 1, 0, 0, 1, 1, 1, 0, 0, 2, 1, 0, 3, 1, 1, 1, 3, 1, 0, 0, 2, 0, 0, 0, 0, 0, 2, 1, 1, 0, 0, 0, 0, 1, 0, 1, 1, 1, 1, 0, 0, 1, 1, 0, 0, 1, 2, 6, 5, 3, 4, 3, 1, 0, 1, 3, 3, 2, 3, 3, 5, 1, 2, 1, 2, 1, 2, 3, 1, 1, 1, 2, 3, 4, 1, 0, 0, 0, 2, 0, 0, 1, 1, 1, 1, 2, 2, 3, 2, 2, 1, 0]
set_option maxRecDepth 100000 in
theorem na_ck : (mt.zip na_l).all (fun y => decide ((parseMethodDescriptor y.1.1.desc).map (fun g => g.parameters.length) = some y.2)) = true := by decide +kernel
