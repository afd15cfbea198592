/-! THE OTHER SIDE WORKS A FORMULA OUT: any operation, the loop -/
section MW2
variable {L : Nat} {xs : Nat → Int32} {C : co_T} {t : ab_H} {d sl p k row f w1 w2 w3 : Nat} {R N O : rw_F} {g z : Bool} {st : List tv_T} {T1 : List Bool} {q : op_T} {b w : Int32} {v : Int64}
set_option maxRecDepth 100000 in
theorem eqO_0 (h : eqO (0, b) w v) : w = 1 ∧ v = b.toInt64 := by
  unfold eqO at h
  rcases h with h | h | h | h | h | h | h | h | h | h | h | h
  · exact h.2
  · exact absurd (show (0 : Int32) = 1 from h.1) (by decide)
  · exact absurd (show (0 : Int32) = 2 from h.1) (by decide)
  · exact absurd (show (0 : Int32) = 3 from h.1) (by decide)
  · exact absurd (show (0 : Int32) = 4 from h.1) (by decide)
  · exact absurd (show (0 : Int32) = 5 from h.1) (by decide)
  · exact absurd (show (0 : Int32) = 6 from h.1) (by decide)
  · exact absurd (show (0 : Int32) = 7 from h.1) (by decide)
  · exact absurd (show (0 : Int32) = 8 from h.1) (by decide)
  · exact absurd (show (0 : Int32) = 19 from h.1) (by decide)
  · exact absurd (show (0 : Int32) = 20 from h.1) (by decide)
  · obtain ⟨h1, h⟩ := h
    unfold sgO at h
    rcases h with h | h | h | h | h | h | h | h | h | h
    · exact absurd (show (0 : Int32) = 9 from h.1) (by decide)
    · exact absurd (show (0 : Int32) = 10 from h.1) (by decide)
    · exact absurd (show (0 : Int32) = 11 from h.1) (by decide)
    · exact absurd (show (0 : Int32) = 12 from h.1) (by decide)
    · exact absurd (show (0 : Int32) = 13 from h.1) (by decide)
    · exact absurd (show (0 : Int32) = 14 from h.1) (by decide)
    · exact absurd (show (0 : Int32) = 15 from h.1) (by decide)
    · exact absurd (show (0 : Int32) = 16 from h.1) (by decide)
    · exact absurd (show (0 : Int32) = 17 from h.1) (by decide)
    · exact absurd (show (0 : Int32) = 18 from h.1) (by decide)
set_option maxRecDepth 100000 in
theorem eqO_1 (h : eqO (1, b) w v) : w = 2 := by
  unfold eqO at h
  rcases h with h | h | h | h | h | h | h | h | h | h | h | h
  · exact absurd (show (1 : Int32) = 0 from h.1) (by decide)
  · exact h.2
  · exact absurd (show (1 : Int32) = 2 from h.1) (by decide)
  · exact absurd (show (1 : Int32) = 3 from h.1) (by decide)
  · exact absurd (show (1 : Int32) = 4 from h.1) (by decide)
  · exact absurd (show (1 : Int32) = 5 from h.1) (by decide)
  · exact absurd (show (1 : Int32) = 6 from h.1) (by decide)
  · exact absurd (show (1 : Int32) = 7 from h.1) (by decide)
  · exact absurd (show (1 : Int32) = 8 from h.1) (by decide)
  · exact absurd (show (1 : Int32) = 19 from h.1) (by decide)
  · exact absurd (show (1 : Int32) = 20 from h.1) (by decide)
  · obtain ⟨h1, h⟩ := h
    unfold sgO at h
    rcases h with h | h | h | h | h | h | h | h | h | h
    · exact absurd (show (1 : Int32) = 9 from h.1) (by decide)
    · exact absurd (show (1 : Int32) = 10 from h.1) (by decide)
    · exact absurd (show (1 : Int32) = 11 from h.1) (by decide)
    · exact absurd (show (1 : Int32) = 12 from h.1) (by decide)
    · exact absurd (show (1 : Int32) = 13 from h.1) (by decide)
    · exact absurd (show (1 : Int32) = 14 from h.1) (by decide)
    · exact absurd (show (1 : Int32) = 15 from h.1) (by decide)
    · exact absurd (show (1 : Int32) = 16 from h.1) (by decide)
    · exact absurd (show (1 : Int32) = 17 from h.1) (by decide)
    · exact absurd (show (1 : Int32) = 18 from h.1) (by decide)
set_option maxRecDepth 100000 in
theorem eqO_2 (h : eqO (2, b) w v) : w = 3 ∧ v = b.toInt64 := by
  unfold eqO at h
  rcases h with h | h | h | h | h | h | h | h | h | h | h | h
  · exact absurd (show (2 : Int32) = 0 from h.1) (by decide)
  · exact absurd (show (2 : Int32) = 1 from h.1) (by decide)
  · exact h.2
  · exact absurd (show (2 : Int32) = 3 from h.1) (by decide)
  · exact absurd (show (2 : Int32) = 4 from h.1) (by decide)
  · exact absurd (show (2 : Int32) = 5 from h.1) (by decide)
  · exact absurd (show (2 : Int32) = 6 from h.1) (by decide)
  · exact absurd (show (2 : Int32) = 7 from h.1) (by decide)
  · exact absurd (show (2 : Int32) = 8 from h.1) (by decide)
  · exact absurd (show (2 : Int32) = 19 from h.1) (by decide)
  · exact absurd (show (2 : Int32) = 20 from h.1) (by decide)
  · obtain ⟨h1, h⟩ := h
    unfold sgO at h
    rcases h with h | h | h | h | h | h | h | h | h | h
    · exact absurd (show (2 : Int32) = 9 from h.1) (by decide)
    · exact absurd (show (2 : Int32) = 10 from h.1) (by decide)
    · exact absurd (show (2 : Int32) = 11 from h.1) (by decide)
    · exact absurd (show (2 : Int32) = 12 from h.1) (by decide)
    · exact absurd (show (2 : Int32) = 13 from h.1) (by decide)
    · exact absurd (show (2 : Int32) = 14 from h.1) (by decide)
    · exact absurd (show (2 : Int32) = 15 from h.1) (by decide)
    · exact absurd (show (2 : Int32) = 16 from h.1) (by decide)
    · exact absurd (show (2 : Int32) = 17 from h.1) (by decide)
    · exact absurd (show (2 : Int32) = 18 from h.1) (by decide)
set_option maxRecDepth 100000 in
theorem eqO_3 (h : eqO (3, b) w v) : w = 4 ∧ v = b.toInt64 := by
  unfold eqO at h
  rcases h with h | h | h | h | h | h | h | h | h | h | h | h
  · exact absurd (show (3 : Int32) = 0 from h.1) (by decide)
  · exact absurd (show (3 : Int32) = 1 from h.1) (by decide)
  · exact absurd (show (3 : Int32) = 2 from h.1) (by decide)
  · exact h.2
  · exact absurd (show (3 : Int32) = 4 from h.1) (by decide)
  · exact absurd (show (3 : Int32) = 5 from h.1) (by decide)
  · exact absurd (show (3 : Int32) = 6 from h.1) (by decide)
  · exact absurd (show (3 : Int32) = 7 from h.1) (by decide)
  · exact absurd (show (3 : Int32) = 8 from h.1) (by decide)
  · exact absurd (show (3 : Int32) = 19 from h.1) (by decide)
  · exact absurd (show (3 : Int32) = 20 from h.1) (by decide)
  · obtain ⟨h1, h⟩ := h
    unfold sgO at h
    rcases h with h | h | h | h | h | h | h | h | h | h
    · exact absurd (show (3 : Int32) = 9 from h.1) (by decide)
    · exact absurd (show (3 : Int32) = 10 from h.1) (by decide)
    · exact absurd (show (3 : Int32) = 11 from h.1) (by decide)
    · exact absurd (show (3 : Int32) = 12 from h.1) (by decide)
    · exact absurd (show (3 : Int32) = 13 from h.1) (by decide)
    · exact absurd (show (3 : Int32) = 14 from h.1) (by decide)
    · exact absurd (show (3 : Int32) = 15 from h.1) (by decide)
    · exact absurd (show (3 : Int32) = 16 from h.1) (by decide)
    · exact absurd (show (3 : Int32) = 17 from h.1) (by decide)
    · exact absurd (show (3 : Int32) = 18 from h.1) (by decide)
set_option maxRecDepth 100000 in
theorem eqO_4 (h : eqO (4, b) w v) : w = 5 ∧ v = b.toInt64 := by
  unfold eqO at h
  rcases h with h | h | h | h | h | h | h | h | h | h | h | h
  · exact absurd (show (4 : Int32) = 0 from h.1) (by decide)
  · exact absurd (show (4 : Int32) = 1 from h.1) (by decide)
  · exact absurd (show (4 : Int32) = 2 from h.1) (by decide)
  · exact absurd (show (4 : Int32) = 3 from h.1) (by decide)
  · exact h.2
  · exact absurd (show (4 : Int32) = 5 from h.1) (by decide)
  · exact absurd (show (4 : Int32) = 6 from h.1) (by decide)
  · exact absurd (show (4 : Int32) = 7 from h.1) (by decide)
  · exact absurd (show (4 : Int32) = 8 from h.1) (by decide)
  · exact absurd (show (4 : Int32) = 19 from h.1) (by decide)
  · exact absurd (show (4 : Int32) = 20 from h.1) (by decide)
  · obtain ⟨h1, h⟩ := h
    unfold sgO at h
    rcases h with h | h | h | h | h | h | h | h | h | h
    · exact absurd (show (4 : Int32) = 9 from h.1) (by decide)
    · exact absurd (show (4 : Int32) = 10 from h.1) (by decide)
    · exact absurd (show (4 : Int32) = 11 from h.1) (by decide)
    · exact absurd (show (4 : Int32) = 12 from h.1) (by decide)
    · exact absurd (show (4 : Int32) = 13 from h.1) (by decide)
    · exact absurd (show (4 : Int32) = 14 from h.1) (by decide)
    · exact absurd (show (4 : Int32) = 15 from h.1) (by decide)
    · exact absurd (show (4 : Int32) = 16 from h.1) (by decide)
    · exact absurd (show (4 : Int32) = 17 from h.1) (by decide)
    · exact absurd (show (4 : Int32) = 18 from h.1) (by decide)
set_option maxRecDepth 100000 in
theorem eqO_5 (h : eqO (5, b) w v) : w = 6 := by
  unfold eqO at h
  rcases h with h | h | h | h | h | h | h | h | h | h | h | h
  · exact absurd (show (5 : Int32) = 0 from h.1) (by decide)
  · exact absurd (show (5 : Int32) = 1 from h.1) (by decide)
  · exact absurd (show (5 : Int32) = 2 from h.1) (by decide)
  · exact absurd (show (5 : Int32) = 3 from h.1) (by decide)
  · exact absurd (show (5 : Int32) = 4 from h.1) (by decide)
  · exact h.2
  · exact absurd (show (5 : Int32) = 6 from h.1) (by decide)
  · exact absurd (show (5 : Int32) = 7 from h.1) (by decide)
  · exact absurd (show (5 : Int32) = 8 from h.1) (by decide)
  · exact absurd (show (5 : Int32) = 19 from h.1) (by decide)
  · exact absurd (show (5 : Int32) = 20 from h.1) (by decide)
  · obtain ⟨h1, h⟩ := h
    unfold sgO at h
    rcases h with h | h | h | h | h | h | h | h | h | h
    · exact absurd (show (5 : Int32) = 9 from h.1) (by decide)
    · exact absurd (show (5 : Int32) = 10 from h.1) (by decide)
    · exact absurd (show (5 : Int32) = 11 from h.1) (by decide)
    · exact absurd (show (5 : Int32) = 12 from h.1) (by decide)
    · exact absurd (show (5 : Int32) = 13 from h.1) (by decide)
    · exact absurd (show (5 : Int32) = 14 from h.1) (by decide)
    · exact absurd (show (5 : Int32) = 15 from h.1) (by decide)
    · exact absurd (show (5 : Int32) = 16 from h.1) (by decide)
    · exact absurd (show (5 : Int32) = 17 from h.1) (by decide)
    · exact absurd (show (5 : Int32) = 18 from h.1) (by decide)
set_option maxRecDepth 100000 in
theorem eqO_6 (h : eqO (6, b) w v) : w = 7 := by
  unfold eqO at h
  rcases h with h | h | h | h | h | h | h | h | h | h | h | h
  · exact absurd (show (6 : Int32) = 0 from h.1) (by decide)
  · exact absurd (show (6 : Int32) = 1 from h.1) (by decide)
  · exact absurd (show (6 : Int32) = 2 from h.1) (by decide)
  · exact absurd (show (6 : Int32) = 3 from h.1) (by decide)
  · exact absurd (show (6 : Int32) = 4 from h.1) (by decide)
  · exact absurd (show (6 : Int32) = 5 from h.1) (by decide)
  · exact h.2
  · exact absurd (show (6 : Int32) = 7 from h.1) (by decide)
  · exact absurd (show (6 : Int32) = 8 from h.1) (by decide)
  · exact absurd (show (6 : Int32) = 19 from h.1) (by decide)
  · exact absurd (show (6 : Int32) = 20 from h.1) (by decide)
  · obtain ⟨h1, h⟩ := h
    unfold sgO at h
    rcases h with h | h | h | h | h | h | h | h | h | h
    · exact absurd (show (6 : Int32) = 9 from h.1) (by decide)
    · exact absurd (show (6 : Int32) = 10 from h.1) (by decide)
    · exact absurd (show (6 : Int32) = 11 from h.1) (by decide)
    · exact absurd (show (6 : Int32) = 12 from h.1) (by decide)
    · exact absurd (show (6 : Int32) = 13 from h.1) (by decide)
    · exact absurd (show (6 : Int32) = 14 from h.1) (by decide)
    · exact absurd (show (6 : Int32) = 15 from h.1) (by decide)
    · exact absurd (show (6 : Int32) = 16 from h.1) (by decide)
    · exact absurd (show (6 : Int32) = 17 from h.1) (by decide)
    · exact absurd (show (6 : Int32) = 18 from h.1) (by decide)
set_option maxRecDepth 100000 in
theorem eqO_7 (h : eqO (7, b) w v) : w = 8 := by
  unfold eqO at h
  rcases h with h | h | h | h | h | h | h | h | h | h | h | h
  · exact absurd (show (7 : Int32) = 0 from h.1) (by decide)
  · exact absurd (show (7 : Int32) = 1 from h.1) (by decide)
  · exact absurd (show (7 : Int32) = 2 from h.1) (by decide)
  · exact absurd (show (7 : Int32) = 3 from h.1) (by decide)
  · exact absurd (show (7 : Int32) = 4 from h.1) (by decide)
  · exact absurd (show (7 : Int32) = 5 from h.1) (by decide)
  · exact absurd (show (7 : Int32) = 6 from h.1) (by decide)
  · exact h.2
  · exact absurd (show (7 : Int32) = 8 from h.1) (by decide)
  · exact absurd (show (7 : Int32) = 19 from h.1) (by decide)
  · exact absurd (show (7 : Int32) = 20 from h.1) (by decide)
  · obtain ⟨h1, h⟩ := h
    unfold sgO at h
    rcases h with h | h | h | h | h | h | h | h | h | h
    · exact absurd (show (7 : Int32) = 9 from h.1) (by decide)
    · exact absurd (show (7 : Int32) = 10 from h.1) (by decide)
    · exact absurd (show (7 : Int32) = 11 from h.1) (by decide)
    · exact absurd (show (7 : Int32) = 12 from h.1) (by decide)
    · exact absurd (show (7 : Int32) = 13 from h.1) (by decide)
    · exact absurd (show (7 : Int32) = 14 from h.1) (by decide)
    · exact absurd (show (7 : Int32) = 15 from h.1) (by decide)
    · exact absurd (show (7 : Int32) = 16 from h.1) (by decide)
    · exact absurd (show (7 : Int32) = 17 from h.1) (by decide)
    · exact absurd (show (7 : Int32) = 18 from h.1) (by decide)
set_option maxRecDepth 100000 in
theorem eqO_8 (h : eqO (8, b) w v) : w = 9 := by
  unfold eqO at h
  rcases h with h | h | h | h | h | h | h | h | h | h | h | h
  · exact absurd (show (8 : Int32) = 0 from h.1) (by decide)
  · exact absurd (show (8 : Int32) = 1 from h.1) (by decide)
  · exact absurd (show (8 : Int32) = 2 from h.1) (by decide)
  · exact absurd (show (8 : Int32) = 3 from h.1) (by decide)
  · exact absurd (show (8 : Int32) = 4 from h.1) (by decide)
  · exact absurd (show (8 : Int32) = 5 from h.1) (by decide)
  · exact absurd (show (8 : Int32) = 6 from h.1) (by decide)
  · exact absurd (show (8 : Int32) = 7 from h.1) (by decide)
  · exact h.2
  · exact absurd (show (8 : Int32) = 19 from h.1) (by decide)
  · exact absurd (show (8 : Int32) = 20 from h.1) (by decide)
  · obtain ⟨h1, h⟩ := h
    unfold sgO at h
    rcases h with h | h | h | h | h | h | h | h | h | h
    · exact absurd (show (8 : Int32) = 9 from h.1) (by decide)
    · exact absurd (show (8 : Int32) = 10 from h.1) (by decide)
    · exact absurd (show (8 : Int32) = 11 from h.1) (by decide)
    · exact absurd (show (8 : Int32) = 12 from h.1) (by decide)
    · exact absurd (show (8 : Int32) = 13 from h.1) (by decide)
    · exact absurd (show (8 : Int32) = 14 from h.1) (by decide)
    · exact absurd (show (8 : Int32) = 15 from h.1) (by decide)
    · exact absurd (show (8 : Int32) = 16 from h.1) (by decide)
    · exact absurd (show (8 : Int32) = 17 from h.1) (by decide)
    · exact absurd (show (8 : Int32) = 18 from h.1) (by decide)
set_option maxRecDepth 100000 in
theorem eqO_9 (h : eqO (9, b) w v) : w = 12 ∧ v = 43 := by
  unfold eqO at h
  rcases h with h | h | h | h | h | h | h | h | h | h | h | h
  · exact absurd (show (9 : Int32) = 0 from h.1) (by decide)
  · exact absurd (show (9 : Int32) = 1 from h.1) (by decide)
  · exact absurd (show (9 : Int32) = 2 from h.1) (by decide)
  · exact absurd (show (9 : Int32) = 3 from h.1) (by decide)
  · exact absurd (show (9 : Int32) = 4 from h.1) (by decide)
  · exact absurd (show (9 : Int32) = 5 from h.1) (by decide)
  · exact absurd (show (9 : Int32) = 6 from h.1) (by decide)
  · exact absurd (show (9 : Int32) = 7 from h.1) (by decide)
  · exact absurd (show (9 : Int32) = 8 from h.1) (by decide)
  · exact absurd (show (9 : Int32) = 19 from h.1) (by decide)
  · exact absurd (show (9 : Int32) = 20 from h.1) (by decide)
  · obtain ⟨h1, h⟩ := h
    unfold sgO at h
    rcases h with h | h | h | h | h | h | h | h | h | h
    · exact ⟨h1, h.2⟩
    · exact absurd (show (9 : Int32) = 10 from h.1) (by decide)
    · exact absurd (show (9 : Int32) = 11 from h.1) (by decide)
    · exact absurd (show (9 : Int32) = 12 from h.1) (by decide)
    · exact absurd (show (9 : Int32) = 13 from h.1) (by decide)
    · exact absurd (show (9 : Int32) = 14 from h.1) (by decide)
    · exact absurd (show (9 : Int32) = 15 from h.1) (by decide)
    · exact absurd (show (9 : Int32) = 16 from h.1) (by decide)
    · exact absurd (show (9 : Int32) = 17 from h.1) (by decide)
    · exact absurd (show (9 : Int32) = 18 from h.1) (by decide)
set_option maxRecDepth 100000 in
theorem eqO_10 (h : eqO (10, b) w v) : w = 12 ∧ v = 45 := by
  unfold eqO at h
  rcases h with h | h | h | h | h | h | h | h | h | h | h | h
  · exact absurd (show (10 : Int32) = 0 from h.1) (by decide)
  · exact absurd (show (10 : Int32) = 1 from h.1) (by decide)
  · exact absurd (show (10 : Int32) = 2 from h.1) (by decide)
  · exact absurd (show (10 : Int32) = 3 from h.1) (by decide)
  · exact absurd (show (10 : Int32) = 4 from h.1) (by decide)
  · exact absurd (show (10 : Int32) = 5 from h.1) (by decide)
  · exact absurd (show (10 : Int32) = 6 from h.1) (by decide)
  · exact absurd (show (10 : Int32) = 7 from h.1) (by decide)
  · exact absurd (show (10 : Int32) = 8 from h.1) (by decide)
  · exact absurd (show (10 : Int32) = 19 from h.1) (by decide)
  · exact absurd (show (10 : Int32) = 20 from h.1) (by decide)
  · obtain ⟨h1, h⟩ := h
    unfold sgO at h
    rcases h with h | h | h | h | h | h | h | h | h | h
    · exact absurd (show (10 : Int32) = 9 from h.1) (by decide)
    · exact ⟨h1, h.2⟩
    · exact absurd (show (10 : Int32) = 11 from h.1) (by decide)
    · exact absurd (show (10 : Int32) = 12 from h.1) (by decide)
    · exact absurd (show (10 : Int32) = 13 from h.1) (by decide)
    · exact absurd (show (10 : Int32) = 14 from h.1) (by decide)
    · exact absurd (show (10 : Int32) = 15 from h.1) (by decide)
    · exact absurd (show (10 : Int32) = 16 from h.1) (by decide)
    · exact absurd (show (10 : Int32) = 17 from h.1) (by decide)
    · exact absurd (show (10 : Int32) = 18 from h.1) (by decide)
set_option maxRecDepth 100000 in
theorem eqO_11 (h : eqO (11, b) w v) : w = 12 ∧ v = 42 := by
  unfold eqO at h
  rcases h with h | h | h | h | h | h | h | h | h | h | h | h
  · exact absurd (show (11 : Int32) = 0 from h.1) (by decide)
  · exact absurd (show (11 : Int32) = 1 from h.1) (by decide)
  · exact absurd (show (11 : Int32) = 2 from h.1) (by decide)
  · exact absurd (show (11 : Int32) = 3 from h.1) (by decide)
  · exact absurd (show (11 : Int32) = 4 from h.1) (by decide)
  · exact absurd (show (11 : Int32) = 5 from h.1) (by decide)
  · exact absurd (show (11 : Int32) = 6 from h.1) (by decide)
  · exact absurd (show (11 : Int32) = 7 from h.1) (by decide)
  · exact absurd (show (11 : Int32) = 8 from h.1) (by decide)
  · exact absurd (show (11 : Int32) = 19 from h.1) (by decide)
  · exact absurd (show (11 : Int32) = 20 from h.1) (by decide)
  · obtain ⟨h1, h⟩ := h
    unfold sgO at h
    rcases h with h | h | h | h | h | h | h | h | h | h
    · exact absurd (show (11 : Int32) = 9 from h.1) (by decide)
    · exact absurd (show (11 : Int32) = 10 from h.1) (by decide)
    · exact ⟨h1, h.2⟩
    · exact absurd (show (11 : Int32) = 12 from h.1) (by decide)
    · exact absurd (show (11 : Int32) = 13 from h.1) (by decide)
    · exact absurd (show (11 : Int32) = 14 from h.1) (by decide)
    · exact absurd (show (11 : Int32) = 15 from h.1) (by decide)
    · exact absurd (show (11 : Int32) = 16 from h.1) (by decide)
    · exact absurd (show (11 : Int32) = 17 from h.1) (by decide)
    · exact absurd (show (11 : Int32) = 18 from h.1) (by decide)
set_option maxRecDepth 100000 in
theorem eqO_12 (h : eqO (12, b) w v) : w = 12 ∧ v = 47 := by
  unfold eqO at h
  rcases h with h | h | h | h | h | h | h | h | h | h | h | h
  · exact absurd (show (12 : Int32) = 0 from h.1) (by decide)
  · exact absurd (show (12 : Int32) = 1 from h.1) (by decide)
  · exact absurd (show (12 : Int32) = 2 from h.1) (by decide)
  · exact absurd (show (12 : Int32) = 3 from h.1) (by decide)
  · exact absurd (show (12 : Int32) = 4 from h.1) (by decide)
  · exact absurd (show (12 : Int32) = 5 from h.1) (by decide)
  · exact absurd (show (12 : Int32) = 6 from h.1) (by decide)
  · exact absurd (show (12 : Int32) = 7 from h.1) (by decide)
  · exact absurd (show (12 : Int32) = 8 from h.1) (by decide)
  · exact absurd (show (12 : Int32) = 19 from h.1) (by decide)
  · exact absurd (show (12 : Int32) = 20 from h.1) (by decide)
  · obtain ⟨h1, h⟩ := h
    unfold sgO at h
    rcases h with h | h | h | h | h | h | h | h | h | h
    · exact absurd (show (12 : Int32) = 9 from h.1) (by decide)
    · exact absurd (show (12 : Int32) = 10 from h.1) (by decide)
    · exact absurd (show (12 : Int32) = 11 from h.1) (by decide)
    · exact ⟨h1, h.2⟩
    · exact absurd (show (12 : Int32) = 13 from h.1) (by decide)
    · exact absurd (show (12 : Int32) = 14 from h.1) (by decide)
    · exact absurd (show (12 : Int32) = 15 from h.1) (by decide)
    · exact absurd (show (12 : Int32) = 16 from h.1) (by decide)
    · exact absurd (show (12 : Int32) = 17 from h.1) (by decide)
    · exact absurd (show (12 : Int32) = 18 from h.1) (by decide)
set_option maxRecDepth 100000 in
theorem eqO_13 (h : eqO (13, b) w v) : w = 12 ∧ v = 61 := by
  unfold eqO at h
  rcases h with h | h | h | h | h | h | h | h | h | h | h | h
  · exact absurd (show (13 : Int32) = 0 from h.1) (by decide)
  · exact absurd (show (13 : Int32) = 1 from h.1) (by decide)
  · exact absurd (show (13 : Int32) = 2 from h.1) (by decide)
  · exact absurd (show (13 : Int32) = 3 from h.1) (by decide)
  · exact absurd (show (13 : Int32) = 4 from h.1) (by decide)
  · exact absurd (show (13 : Int32) = 5 from h.1) (by decide)
  · exact absurd (show (13 : Int32) = 6 from h.1) (by decide)
  · exact absurd (show (13 : Int32) = 7 from h.1) (by decide)
  · exact absurd (show (13 : Int32) = 8 from h.1) (by decide)
  · exact absurd (show (13 : Int32) = 19 from h.1) (by decide)
  · exact absurd (show (13 : Int32) = 20 from h.1) (by decide)
  · obtain ⟨h1, h⟩ := h
    unfold sgO at h
    rcases h with h | h | h | h | h | h | h | h | h | h
    · exact absurd (show (13 : Int32) = 9 from h.1) (by decide)
    · exact absurd (show (13 : Int32) = 10 from h.1) (by decide)
    · exact absurd (show (13 : Int32) = 11 from h.1) (by decide)
    · exact absurd (show (13 : Int32) = 12 from h.1) (by decide)
    · exact ⟨h1, h.2⟩
    · exact absurd (show (13 : Int32) = 14 from h.1) (by decide)
    · exact absurd (show (13 : Int32) = 15 from h.1) (by decide)
    · exact absurd (show (13 : Int32) = 16 from h.1) (by decide)
    · exact absurd (show (13 : Int32) = 17 from h.1) (by decide)
    · exact absurd (show (13 : Int32) = 18 from h.1) (by decide)
set_option maxRecDepth 100000 in
theorem eqO_14 (h : eqO (14, b) w v) : w = 12 ∧ v = 35 := by
  unfold eqO at h
  rcases h with h | h | h | h | h | h | h | h | h | h | h | h
  · exact absurd (show (14 : Int32) = 0 from h.1) (by decide)
  · exact absurd (show (14 : Int32) = 1 from h.1) (by decide)
  · exact absurd (show (14 : Int32) = 2 from h.1) (by decide)
  · exact absurd (show (14 : Int32) = 3 from h.1) (by decide)
  · exact absurd (show (14 : Int32) = 4 from h.1) (by decide)
  · exact absurd (show (14 : Int32) = 5 from h.1) (by decide)
  · exact absurd (show (14 : Int32) = 6 from h.1) (by decide)
  · exact absurd (show (14 : Int32) = 7 from h.1) (by decide)
  · exact absurd (show (14 : Int32) = 8 from h.1) (by decide)
  · exact absurd (show (14 : Int32) = 19 from h.1) (by decide)
  · exact absurd (show (14 : Int32) = 20 from h.1) (by decide)
  · obtain ⟨h1, h⟩ := h
    unfold sgO at h
    rcases h with h | h | h | h | h | h | h | h | h | h
    · exact absurd (show (14 : Int32) = 9 from h.1) (by decide)
    · exact absurd (show (14 : Int32) = 10 from h.1) (by decide)
    · exact absurd (show (14 : Int32) = 11 from h.1) (by decide)
    · exact absurd (show (14 : Int32) = 12 from h.1) (by decide)
    · exact absurd (show (14 : Int32) = 13 from h.1) (by decide)
    · exact ⟨h1, h.2⟩
    · exact absurd (show (14 : Int32) = 15 from h.1) (by decide)
    · exact absurd (show (14 : Int32) = 16 from h.1) (by decide)
    · exact absurd (show (14 : Int32) = 17 from h.1) (by decide)
    · exact absurd (show (14 : Int32) = 18 from h.1) (by decide)
set_option maxRecDepth 100000 in
theorem eqO_15 (h : eqO (15, b) w v) : w = 12 ∧ v = 60 := by
  unfold eqO at h
  rcases h with h | h | h | h | h | h | h | h | h | h | h | h
  · exact absurd (show (15 : Int32) = 0 from h.1) (by decide)
  · exact absurd (show (15 : Int32) = 1 from h.1) (by decide)
  · exact absurd (show (15 : Int32) = 2 from h.1) (by decide)
  · exact absurd (show (15 : Int32) = 3 from h.1) (by decide)
  · exact absurd (show (15 : Int32) = 4 from h.1) (by decide)
  · exact absurd (show (15 : Int32) = 5 from h.1) (by decide)
  · exact absurd (show (15 : Int32) = 6 from h.1) (by decide)
  · exact absurd (show (15 : Int32) = 7 from h.1) (by decide)
  · exact absurd (show (15 : Int32) = 8 from h.1) (by decide)
  · exact absurd (show (15 : Int32) = 19 from h.1) (by decide)
  · exact absurd (show (15 : Int32) = 20 from h.1) (by decide)
  · obtain ⟨h1, h⟩ := h
    unfold sgO at h
    rcases h with h | h | h | h | h | h | h | h | h | h
    · exact absurd (show (15 : Int32) = 9 from h.1) (by decide)
    · exact absurd (show (15 : Int32) = 10 from h.1) (by decide)
    · exact absurd (show (15 : Int32) = 11 from h.1) (by decide)
    · exact absurd (show (15 : Int32) = 12 from h.1) (by decide)
    · exact absurd (show (15 : Int32) = 13 from h.1) (by decide)
    · exact absurd (show (15 : Int32) = 14 from h.1) (by decide)
    · exact ⟨h1, h.2⟩
    · exact absurd (show (15 : Int32) = 16 from h.1) (by decide)
    · exact absurd (show (15 : Int32) = 17 from h.1) (by decide)
    · exact absurd (show (15 : Int32) = 18 from h.1) (by decide)
set_option maxRecDepth 100000 in
theorem eqO_16 (h : eqO (16, b) w v) : w = 12 ∧ v = 160 := by
  unfold eqO at h
  rcases h with h | h | h | h | h | h | h | h | h | h | h | h
  · exact absurd (show (16 : Int32) = 0 from h.1) (by decide)
  · exact absurd (show (16 : Int32) = 1 from h.1) (by decide)
  · exact absurd (show (16 : Int32) = 2 from h.1) (by decide)
  · exact absurd (show (16 : Int32) = 3 from h.1) (by decide)
  · exact absurd (show (16 : Int32) = 4 from h.1) (by decide)
  · exact absurd (show (16 : Int32) = 5 from h.1) (by decide)
  · exact absurd (show (16 : Int32) = 6 from h.1) (by decide)
  · exact absurd (show (16 : Int32) = 7 from h.1) (by decide)
  · exact absurd (show (16 : Int32) = 8 from h.1) (by decide)
  · exact absurd (show (16 : Int32) = 19 from h.1) (by decide)
  · exact absurd (show (16 : Int32) = 20 from h.1) (by decide)
  · obtain ⟨h1, h⟩ := h
    unfold sgO at h
    rcases h with h | h | h | h | h | h | h | h | h | h
    · exact absurd (show (16 : Int32) = 9 from h.1) (by decide)
    · exact absurd (show (16 : Int32) = 10 from h.1) (by decide)
    · exact absurd (show (16 : Int32) = 11 from h.1) (by decide)
    · exact absurd (show (16 : Int32) = 12 from h.1) (by decide)
    · exact absurd (show (16 : Int32) = 13 from h.1) (by decide)
    · exact absurd (show (16 : Int32) = 14 from h.1) (by decide)
    · exact absurd (show (16 : Int32) = 15 from h.1) (by decide)
    · exact ⟨h1, h.2⟩
    · exact absurd (show (16 : Int32) = 17 from h.1) (by decide)
    · exact absurd (show (16 : Int32) = 18 from h.1) (by decide)
set_option maxRecDepth 100000 in
theorem eqO_17 (h : eqO (17, b) w v) : w = 12 ∧ v = 62 := by
  unfold eqO at h
  rcases h with h | h | h | h | h | h | h | h | h | h | h | h
  · exact absurd (show (17 : Int32) = 0 from h.1) (by decide)
  · exact absurd (show (17 : Int32) = 1 from h.1) (by decide)
  · exact absurd (show (17 : Int32) = 2 from h.1) (by decide)
  · exact absurd (show (17 : Int32) = 3 from h.1) (by decide)
  · exact absurd (show (17 : Int32) = 4 from h.1) (by decide)
  · exact absurd (show (17 : Int32) = 5 from h.1) (by decide)
  · exact absurd (show (17 : Int32) = 6 from h.1) (by decide)
  · exact absurd (show (17 : Int32) = 7 from h.1) (by decide)
  · exact absurd (show (17 : Int32) = 8 from h.1) (by decide)
  · exact absurd (show (17 : Int32) = 19 from h.1) (by decide)
  · exact absurd (show (17 : Int32) = 20 from h.1) (by decide)
  · obtain ⟨h1, h⟩ := h
    unfold sgO at h
    rcases h with h | h | h | h | h | h | h | h | h | h
    · exact absurd (show (17 : Int32) = 9 from h.1) (by decide)
    · exact absurd (show (17 : Int32) = 10 from h.1) (by decide)
    · exact absurd (show (17 : Int32) = 11 from h.1) (by decide)
    · exact absurd (show (17 : Int32) = 12 from h.1) (by decide)
    · exact absurd (show (17 : Int32) = 13 from h.1) (by decide)
    · exact absurd (show (17 : Int32) = 14 from h.1) (by decide)
    · exact absurd (show (17 : Int32) = 15 from h.1) (by decide)
    · exact absurd (show (17 : Int32) = 16 from h.1) (by decide)
    · exact ⟨h1, h.2⟩
    · exact absurd (show (17 : Int32) = 18 from h.1) (by decide)
set_option maxRecDepth 100000 in
theorem eqO_18 (h : eqO (18, b) w v) : w = 12 ∧ v = 162 := by
  unfold eqO at h
  rcases h with h | h | h | h | h | h | h | h | h | h | h | h
  · exact absurd (show (18 : Int32) = 0 from h.1) (by decide)
  · exact absurd (show (18 : Int32) = 1 from h.1) (by decide)
  · exact absurd (show (18 : Int32) = 2 from h.1) (by decide)
  · exact absurd (show (18 : Int32) = 3 from h.1) (by decide)
  · exact absurd (show (18 : Int32) = 4 from h.1) (by decide)
  · exact absurd (show (18 : Int32) = 5 from h.1) (by decide)
  · exact absurd (show (18 : Int32) = 6 from h.1) (by decide)
  · exact absurd (show (18 : Int32) = 7 from h.1) (by decide)
  · exact absurd (show (18 : Int32) = 8 from h.1) (by decide)
  · exact absurd (show (18 : Int32) = 19 from h.1) (by decide)
  · exact absurd (show (18 : Int32) = 20 from h.1) (by decide)
  · obtain ⟨h1, h⟩ := h
    unfold sgO at h
    rcases h with h | h | h | h | h | h | h | h | h | h
    · exact absurd (show (18 : Int32) = 9 from h.1) (by decide)
    · exact absurd (show (18 : Int32) = 10 from h.1) (by decide)
    · exact absurd (show (18 : Int32) = 11 from h.1) (by decide)
    · exact absurd (show (18 : Int32) = 12 from h.1) (by decide)
    · exact absurd (show (18 : Int32) = 13 from h.1) (by decide)
    · exact absurd (show (18 : Int32) = 14 from h.1) (by decide)
    · exact absurd (show (18 : Int32) = 15 from h.1) (by decide)
    · exact absurd (show (18 : Int32) = 16 from h.1) (by decide)
    · exact absurd (show (18 : Int32) = 17 from h.1) (by decide)
    · exact ⟨h1, h.2⟩
set_option maxRecDepth 100000 in
theorem eqO_19 (h : eqO (19, b) w v) : w = 11 := by
  unfold eqO at h
  rcases h with h | h | h | h | h | h | h | h | h | h | h | h
  · exact absurd (show (19 : Int32) = 0 from h.1) (by decide)
  · exact absurd (show (19 : Int32) = 1 from h.1) (by decide)
  · exact absurd (show (19 : Int32) = 2 from h.1) (by decide)
  · exact absurd (show (19 : Int32) = 3 from h.1) (by decide)
  · exact absurd (show (19 : Int32) = 4 from h.1) (by decide)
  · exact absurd (show (19 : Int32) = 5 from h.1) (by decide)
  · exact absurd (show (19 : Int32) = 6 from h.1) (by decide)
  · exact absurd (show (19 : Int32) = 7 from h.1) (by decide)
  · exact absurd (show (19 : Int32) = 8 from h.1) (by decide)
  · exact h.2
  · exact absurd (show (19 : Int32) = 20 from h.1) (by decide)
  · obtain ⟨h1, h⟩ := h
    unfold sgO at h
    rcases h with h | h | h | h | h | h | h | h | h | h
    · exact absurd (show (19 : Int32) = 9 from h.1) (by decide)
    · exact absurd (show (19 : Int32) = 10 from h.1) (by decide)
    · exact absurd (show (19 : Int32) = 11 from h.1) (by decide)
    · exact absurd (show (19 : Int32) = 12 from h.1) (by decide)
    · exact absurd (show (19 : Int32) = 13 from h.1) (by decide)
    · exact absurd (show (19 : Int32) = 14 from h.1) (by decide)
    · exact absurd (show (19 : Int32) = 15 from h.1) (by decide)
    · exact absurd (show (19 : Int32) = 16 from h.1) (by decide)
    · exact absurd (show (19 : Int32) = 17 from h.1) (by decide)
    · exact absurd (show (19 : Int32) = 18 from h.1) (by decide)
set_option maxRecDepth 100000 in
theorem eqO_20 (h : eqO (20, b) w v) : w = 10 := by
  unfold eqO at h
  rcases h with h | h | h | h | h | h | h | h | h | h | h | h
  · exact absurd (show (20 : Int32) = 0 from h.1) (by decide)
  · exact absurd (show (20 : Int32) = 1 from h.1) (by decide)
  · exact absurd (show (20 : Int32) = 2 from h.1) (by decide)
  · exact absurd (show (20 : Int32) = 3 from h.1) (by decide)
  · exact absurd (show (20 : Int32) = 4 from h.1) (by decide)
  · exact absurd (show (20 : Int32) = 5 from h.1) (by decide)
  · exact absurd (show (20 : Int32) = 6 from h.1) (by decide)
  · exact absurd (show (20 : Int32) = 7 from h.1) (by decide)
  · exact absurd (show (20 : Int32) = 8 from h.1) (by decide)
  · exact absurd (show (20 : Int32) = 19 from h.1) (by decide)
  · exact h.2
  · obtain ⟨h1, h⟩ := h
    unfold sgO at h
    rcases h with h | h | h | h | h | h | h | h | h | h
    · exact absurd (show (20 : Int32) = 9 from h.1) (by decide)
    · exact absurd (show (20 : Int32) = 10 from h.1) (by decide)
    · exact absurd (show (20 : Int32) = 11 from h.1) (by decide)
    · exact absurd (show (20 : Int32) = 12 from h.1) (by decide)
    · exact absurd (show (20 : Int32) = 13 from h.1) (by decide)
    · exact absurd (show (20 : Int32) = 14 from h.1) (by decide)
    · exact absurd (show (20 : Int32) = 15 from h.1) (by decide)
    · exact absurd (show (20 : Int32) = 16 from h.1) (by decide)
    · exact absurd (show (20 : Int32) = 17 from h.1) (by decide)
    · exact absurd (show (20 : Int32) = 18 from h.1) (by decide)
set_option maxRecDepth 100000 in
theorem m_252 (he : envM C row f w1 w2 w3 R N O) (hq : eqO q (C.1 106 (620 * p + k)) (C.2.1 107 (620 * p + k))) (hp : p ≤ 40) (hk : k < 620) (hT : t_1 w1 w2 w3 q (st.map tyv) = some T1) (hS : PIL C st) (hl : st.length < 700) (hz : C.1 76 74 = ck z) : Wd L xs (d + 2) y_252 (0, [(0, .ref 176), (1, .int (nI (p))), (2, .int (nI (k))), (3, .int (nI (row))), (4, .int (nI (f))), (5, .int (ck g))], [], MH C t, sl) (W1 C t sl g z R N O q st T1) nX := by
  obtain ⟨a, b⟩ := q
  rcases t_1c hT with ⟨e1, e2⟩ | ⟨e1, e2⟩ | ⟨e1, e3, e2⟩ | ⟨e1, e3, e2⟩ | ⟨e1, e3, e2⟩ | ⟨r, er, hr⟩ | ⟨r, er, e1, e2⟩ | ⟨r, er, hr⟩ | ⟨r, er, hr, e2⟩
  · obtain rfl : a = 0 := e1
    subst e2
    have h := eqO_0 hq
    exact w_p0 hp hk h.1 h.2 hz hS hl
  · obtain rfl : a = 1 := e1
    subst e2
    exact w_p1 hp hk (eqO_1 hq) rfl hz hS hl
  · obtain rfl : a = 2 := e1
    subst e2
    have h := eqO_2 hq
    obtain ⟨e3, e4⟩ := e3
    have hr := he.1.1
    have e4 : b.toNatClampNeg < w1 := e4
    exact w_p2 hp hk h.1 h.2 hz e3 rfl (by omega) (he.1.2 _ e4) hS hl
  · obtain rfl : a = 3 := e1
    subst e2
    have h := eqO_3 hq
    obtain ⟨e3, e4⟩ := e3
    have hr := he.2.1
    have e4 : b.toNatClampNeg < w2 := e4
    exact w_p3 hp hk h.1 h.2 hz e3 rfl (by omega) (he.2.2.1 _ e4) hS hl
  · obtain rfl : a = 4 := e1
    subst e2
    have h := eqO_4 hq
    obtain ⟨e3, e4⟩ := e3
    have hr := he.2.1
    have e4 : b.toNatClampNeg < w3 := e4
    exact w_p4 hp hk h.1 h.2 hz e3 rfl (by omega) (he.2.2.2 _ e4) hS hl
  · cases st with
    | nil => cases er
    | cons v0 r0 => cases v0 with
      | inr y => cases er
      | inl y =>
        have er : r0.map tyv = r := by cases er; rfl
        subst er
        rcases hr with ⟨e1, e2⟩ | ⟨e1, e2⟩
        · obtain rfl : a = 5 := e1
          subst e2
          exact w_u5 hp hk (eqO_5 hq) rfl hz hS hl
        · subst e2
          rcases e1 with e1 | e1
          · obtain rfl : a = 7 := e1
            exact w_u7 hp hk (eqO_7 hq) rfl hz hS hl
          · obtain rfl : a = 8 := e1
            exact w_u8 hp hk (eqO_8 hq) rfl hz hS hl
  · cases st with
    | nil => cases er
    | cons v0 r0 => cases v0 with
      | inl y => cases er
      | inr y =>
        have er : r0.map tyv = r := by cases er; rfl
        subst er
        obtain rfl : a = 6 := e1
        subst e2
        exact w_u6 hp hk (eqO_6 hq) rfl hz hS hl
  · cases st with
    | nil => cases er
    | cons y0 r1 => cases r1 with
      | nil => cases y0 <;> cases er
      | cons x0 r0 => cases y0 with
        | inr y => cases er
        | inl y => cases x0 with
          | inr x => cases er
          | inl x =>
            have er : r0.map tyv = r := by cases er; rfl
            subst er
            rcases hr with ⟨e1, e2⟩ | ⟨e1, e2⟩
            · subst e2
              rcases e1 with e1 | e1 | e1 | e1
              · obtain rfl : a = 9 := e1
                exact w_b9 (u := 0) hp hk (eqO_9 hq).1 (eqO_9 hq).2 hz hS hl
              · obtain rfl : a = 10 := e1
                exact w_b10 (u := 0) hp hk (eqO_10 hq).1 (eqO_10 hq).2 hz hS hl
              · obtain rfl : a = 11 := e1
                exact w_b11 (u := 0) hp hk (eqO_11 hq).1 (eqO_11 hq).2 hz hS hl
              · obtain rfl : a = 12 := e1
                cases x with
                | none => exact w_b12a (x := 0) (y := 0) hp hk (eqO_12 hq).1 (eqO_12 hq).2 hz hS hl
                | some x => cases y with
                  | none => exact w_b12b (y := 0) (v := none) hp hk (eqO_12 hq).1 (eqO_12 hq).2 hz hS hl
                  | some y =>
                    by_cases hy : y.toInt64 = 0
                    · exact w_b12z (v := none) hp hk (eqO_12 hq).1 (eqO_12 hq).2 hz hy hS hl
                    · exact w_b12d (v := none) hp hk (eqO_12 hq).1 (eqO_12 hq).2 hz hy hS hl
            · subst e2
              rcases e1 with e1 | e1 | e1 | e1 | e1 | e1
              · obtain rfl : a = 13 := e1
                exact w_b13 (u := 0) hp hk (eqO_13 hq).1 (eqO_13 hq).2 hz hS hl
              · obtain rfl : a = 14 := e1
                exact w_b14 (u := 0) hp hk (eqO_14 hq).1 (eqO_14 hq).2 hz hS hl
              · obtain rfl : a = 15 := e1
                exact w_b15 (u := 0) hp hk (eqO_15 hq).1 (eqO_15 hq).2 hz hS hl
              · obtain rfl : a = 16 := e1
                exact w_b16 (u := 0) hp hk (eqO_16 hq).1 (eqO_16 hq).2 hz hS hl
              · obtain rfl : a = 17 := e1
                exact w_b17 (u := 0) hp hk (eqO_17 hq).1 (eqO_17 hq).2 hz hS hl
              · obtain rfl : a = 18 := e1
                exact w_b18 (u := 0) hp hk (eqO_18 hq).1 (eqO_18 hq).2 hz hS hl
  · cases st with
    | nil => cases er
    | cons y0 r1 => cases r1 with
      | nil => cases y0 <;> cases er
      | cons x0 r0 => cases y0 with
        | inl y => cases er
        | inr y => cases x0 with
          | inl x => cases er
          | inr x =>
            have er : r0.map tyv = r := by cases er; rfl
            subst er
            subst e2
            rcases hr with e1 | e1
            · obtain rfl : a = 19 := e1
              exact w_b19 hp hk (eqO_19 hq) rfl hz hS hl
            · obtain rfl : a = 20 := e1
              exact w_b20 hp hk (eqO_20 hq) rfl hz hS hl
/-! both ways of dividing -/
set_option maxRecDepth 100000 in
theorem u2_t {a : Int32} {x y : tv_T} {r : tv_T} (h : u_2 g a x y = some r) : u_2 true a x y = some r := by
  cases x with
  | inr x => cases y <;> exact h
  | inl x => cases y with
    | inr y => exact h
    | inl y =>
      by_cases ha : a = 12
      · subst ha
        cases x with
        | none => exact h
        | some x => cases y with
          | none => exact h
          | some y =>
            by_cases hy : y.toInt64 = 0
            · rw [ua_z hy] at h ⊢
              cases g with
              | true => exact h
              | false => cases h
            · rw [ua_d hy] at h ⊢
              exact h
      · rw [u2_np ha] at h
        exact h
set_option maxRecDepth 100000 in
theorem f1_t {s1 : List tv_T} (h : f_1 g R N O q st = some s1) : f_1 true R N O q st = some s1 := by
  unfold f_1 at h ⊢
  split
  · rename_i e; rw [if_pos e] at h; exact h
  rename_i e0; rw [if_neg e0] at h
  split
  · rename_i e; rw [if_pos e] at h; exact h
  rename_i e1; rw [if_neg e1] at h
  split
  · rename_i e; rw [if_pos e] at h; exact h
  rename_i e2; rw [if_neg e2] at h
  split
  · rename_i e; rw [if_pos e] at h; exact h
  rename_i e3; rw [if_neg e3] at h
  split
  · rename_i e; rw [if_pos e] at h; exact h
  rename_i e4; rw [if_neg e4] at h
  split
  · rename_i e; rw [if_pos e] at h; exact h
  rename_i e5; rw [if_neg e5] at h
  cases st with
  | nil => cases h
  | cons w r => cases r with
    | nil => cases h
    | cons v r =>
      simp only [Option.map_eq_some_iff] at h ⊢
      obtain ⟨y, h1, h2⟩ := h
      exact ⟨y, u2_t h1, h2⟩
set_option maxRecDepth 100000 in
theorem fl_or {l : List op_T} {st1 : List tv_T} (h : f_1 true R N O q st = some st1) : ((z || (f_1 g R N O q st).isNone) || (f_l g R N O l st1).isNone) = (z || (f_l g R N O (q :: l) st).isNone) := by
  show _ = (z || ((f_1 g R N O q st).bind (f_l g R N O l)).isNone)
  cases hf : f_1 g R N O q st with
  | none => cases z <;> rfl
  | some s2 =>
    have h2 := f1_t hf
    rw [h] at h2
    cases h2
    cases z <;> rfl
set_option maxRecDepth 100000 in
theorem t_1len {T : List Bool} (h : t_1 w1 w2 w3 q T = some T1) : T1.length ≤ T.length + 1 := by
  rcases t_1c h with ⟨e1, e2⟩ | ⟨e1, e2⟩ | ⟨e1, e3, e2⟩ | ⟨e1, e3, e2⟩ | ⟨e1, e3, e2⟩ | ⟨r, er, hr⟩ | ⟨r, er, e1, e2⟩ | ⟨r, er, hr⟩ | ⟨r, er, hr, e2⟩
  · rw [e2]; exact Nat.le_refl _
  · rw [e2]; exact Nat.le_refl _
  · rw [e2]; exact Nat.le_refl _
  · rw [e2]; exact Nat.le_refl _
  · rw [e2]; exact Nat.le_refl _
  · rcases hr with ⟨_, e2⟩ | ⟨_, e2⟩ <;> simp only [e2, er, List.length_cons] <;> omega
  · simp only [e2, er, List.length_cons]; omega
  · rcases hr with ⟨_, e2⟩ | ⟨_, e2⟩ <;> simp only [e2, er, List.length_cons] <;> omega
  · simp only [e2, er, List.length_cons]; omega
def rsM (r : Option (List tv_T)) : Int64 := match r with
  | some (v :: _) => v_M v
  | _ => 0
def WM (C : co_T) (t : ab_H) (sl : Nat) (g z : Bool) (R N O : rw_F) (l : List op_T) (st : List tv_T) : Option Value → ab_H → Nat → Prop := fun v h m => some (.long (rsM (f_l true R N O l st))) = v ∧ (∃ C', (C'.1 76 74 = ck (z || (f_l g R N O l st).isNone) ∧ frW C C') ∧ MH C' t = h) ∧ sl = m
set_option maxRecDepth 100000 in
theorem lp_251 {a e : Nat} (hp : p ≤ 40) (he6 : e ≤ 619) : ∀ (l : List op_T) (k : Nat) (C : co_T) (st : List tv_T) (z : Bool), k + l.length = e → (∀ j q, l[j]? = some q → eqO q (C.1 106 (620 * p + (k + j))) (C.2.1 107 (620 * p + (k + j)))) → envM C row f w1 w2 w3 R N O → (∃ b, t_l w1 w2 w3 l (st.map tyv) = some [b]) → PIL C st → st.length ≤ k → C.1 76 74 = ck z → Wd L xs (d + 3) y_251 (8, [(7, .int (nI (k))), (0, .ref 176), (1, .int (nI (p))), (2, .int (nI (a))), (3, .int (nI (e))), (4, .int (nI (row))), (5, .int (nI (f))), (6, .int (ck g))], [], MH C t, sl) (WM C t sl g z R N O l st) nX
  | [], k, C, st, z, hk, hq, he, ht, hS, hl, hz => by
    obtain ⟨b, hb⟩ := ht
    have hb : some (st.map tyv) = some [b] := hb
    have hk : k = e := hk
    subst hk
    cases st with
    | nil => cases hb
    | cons v r => cases r with
      | cons u r => cases hb
      | nil =>
        have hs1 : C.2.1 124 0 = v_M v := hS.2.1
        refine w_p (pc1 := 10) rfl rfl ?_
        refine w_p (pc1 := 11) rfl rfl ?_
        refine w_t (a := 33) (b := 14) (bN_ge_t (a := k) (b := k) (by omega) (by omega) (by omega)) rfl rfl ?_
        refine w_p (pc1 := 34) rfl rfl ?_
        refine w_m0 (pc1 := 37) rfl rfl (h_gC rfl rfl rfl rfl) rfl ?_
        refine w_p (pc1 := 38) (st1 := .int 0 :: _) rfl rfl ?_
        refine w_m0 (pc1 := 39) (st1 := .long (v_M v) :: _) rfl rfl (n_lle (e := 0) rfl rfl rfl (by omega) (hs1)) rfl ?_
        refine w_r rfl rfl rfl (fun _ _ => rfl) rfl ?_
        exact ⟨rfl, ⟨C, ⟨by rw [hz]; cases z <;> rfl, frW_r⟩, rfl⟩, rfl⟩
  | q :: l, k, C, st, z, hk, hq, he, ht, hS, hl, hz => by
    have hk : k + (l.length + 1) = e := hk
    obtain ⟨b, hb⟩ := ht
    have hb : (t_1 w1 w2 w3 q (st.map tyv)).bind (t_l w1 w2 w3 l) = some [b] := hb
    cases hT : t_1 w1 w2 w3 q (st.map tyv) with
    | none => rw [hT] at hb; cases hb
    | some T1 =>
    rw [hT] at hb
    have hb : t_l w1 w2 w3 l T1 = some [b] := hb
    have h0 := hq 0 q rfl
    rw [Nat.add_zero] at h0
    refine w_p (pc1 := 10) rfl rfl ?_
    refine w_p (pc1 := 11) rfl rfl ?_
    refine w_f (a := 33) (b := 14) (bN_ge_f (a := k) (b := e) (by omega) (by omega) (by omega)) rfl rfl ?_
    refine w_p (pc1 := 15) rfl rfl ?_
    refine w_p (pc1 := 16) rfl rfl ?_
    refine w_p (pc1 := 18) rfl rfl ?_
    refine w_p (pc1 := 20) rfl rfl ?_
    refine w_p (pc1 := 22) rfl rfl ?_
    refine w_p (pc1 := 24) rfl rfl ?_
    refine w_ji (pc1 := 27) (vs := [.ref 176, .int (nI (p)), .int (nI (k)), .int (nI (row)), .int (nI (f)), .int (ck g)]) (rest := []) (m_252 (d := d) (sl := 0) (g := g) (z := z) he h0 hp (by omega) hT hS (by omega) hz) rfl rfl rfl (fun _ _ => rfl) rfl (by exact cl_v my_252 rfl rfl rfl (Nat.le_of_ble_eq_true rfl) rfl (MH_obj rfl rfl) rfl (by decide) rfl rfl) (by rfl) (Nat.le_of_ble_eq_true rfl) (Nat.le_of_ble_eq_true rfl) rfl (fun v h m hq1 => ?_) (fun _ _ _ e => e.elim)
    obtain ⟨rfl, ⟨C1, ⟨st1, f1, f2, f3, f4, f5⟩, rfl⟩, rfl⟩ := hq1
    refine w_iinc (pc1 := 30) (u := nI (k)) (z := nI (k + 1)) (al1 := [(7, .int (nI (k + 1))), (0, .ref 176), (1, .int (nI (p))), (2, .int (nI (a))), (3, .int (nI (e))), (4, .int (nI (row))), (5, .int (nI (f))), (6, .int (ck g))]) rfl rfl rfl nK_1 rfl rfl ?_
    refine w_p (pc1 := 8) rfl rfl ?_
    refine Wd_q (lp_251 (a := a) hp he6 l (k + 1) C1 st1 (z || (f_1 g R N O q st).isNone) (by omega) (fun j q1 hj => ?_) (envM_f he f5) ⟨b, by rw [f2]; exact hb⟩ f3 ?_ f4) (fun v h m hw => ?_) (fun _ _ _ e => e)
    · have := hq (j + 1) q1 hj
      rw [f5.1 106 _ (by omega), f5.2.1 107 _ (by decide), show k + 1 + j = k + (j + 1) by omega]
      exact this
    · have h3 := congrArg List.length f2
      have h4 := t_1len hT
      rw [List.length_map] at h3 h4
      omega
    · obtain ⟨e1, ⟨C2, ⟨e2, e3⟩, e4⟩, e5⟩ := hw
      refine ⟨?_, ⟨C2, ⟨?_, frW_t f5 e3⟩, e4⟩, e5⟩
      · rw [← e1]
        show some (Value.long (rsM ((f_1 true R N O q st).bind (f_l true R N O l)))) = _
        rw [f1]
        rfl
      · rw [e2]
        exact congrArg ck (fl_or f1)
set_option maxRecDepth 100000 in
theorem m_251 {a e : Nat} {l : List op_T} (hp : p ≤ 40) (he6 : e ≤ 619) (hk : a + l.length = e) (hq : ∀ j q, l[j]? = some q → eqO q (C.1 106 (620 * p + (a + j))) (C.2.1 107 (620 * p + (a + j)))) (he : envM C row f w1 w2 w3 R N O) {b : Bool} (ht : t_l w1 w2 w3 l [] = some [b]) (hz : C.1 76 74 = ck z) : Wd L xs (d + 3) y_251 (0, [(0, .ref 176), (1, .int (nI (p))), (2, .int (nI (a))), (3, .int (nI (e))), (4, .int (nI (row))), (5, .int (nI (f))), (6, .int (ck g))], [], MH C t, sl) (WM C t sl g z R N O l []) nX := by
  refine w_p (pc1 := 1) rfl rfl ?_
  refine w_p (pc1 := 2) (st1 := .int 0 :: _) rfl rfl ?_
  refine w_m0 (pc1 := 5) rfl rfl (h_pI (j := 73) rfl rfl rfl rfl rfl rfl rfl ⟨rfl, rfl⟩ rfl) rfl ?_
  refine w_p (pc1 := 6) rfl rfl ?_
  refine w_p (pc1 := 8) (al1 := [(7, .int (nI (a))), (0, .ref 176), (1, .int (nI (p))), (2, .int (nI (a))), (3, .int (nI (e))), (4, .int (nI (row))), (5, .int (nI (f))), (6, .int (ck g))]) rfl rfl ?_
  have hf : frW C (sI C 76 73 0) := frW_I (Or.inl rfl)
  refine Wd_q (lp_251 (a := a) hp he6 l a (sI C 76 73 0) [] z hk (fun j q hj => ?_) (envM_f he hf) ⟨b, ht⟩ ⟨rfl, trivial⟩ (Nat.zero_le _) hz) (fun v h m hw => ?_) (fun _ _ _ e => e)
  · have := hq j q hj
    rw [hf.1 106 _ (by omega), hf.2.1 107 _ (by decide)]
    exact this
  · obtain ⟨e1, ⟨C2, ⟨e2, e3⟩, e4⟩, e5⟩ := hw
    exact ⟨e1, ⟨C2, ⟨e2, frW_t hf e3⟩, e4⟩, e5⟩
end MW2
