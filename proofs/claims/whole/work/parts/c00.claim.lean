
/-! THE CLAIM -/
set_option maxRecDepth 100000 in
theorem i_vc : Claimed_1_1 ∧ Claimed_1_2 := lw_vc (fun L xs hL => by
  obtain ⟨⟨o, h', sl'⟩, ⟨n, hn⟩, hq⟩ := law_all (xs := xs) hL
  cases o with
  | returned v =>
    obtain ⟨hv, hh, hs⟩ := hq
    subst hv
    exact ⟨n, h', sl', hn, hh, hs⟩
  | threw a => exact hq.elim)
