/-! the law, but for the rate -/
section S55
variable {RT : DZ → Nat × Nat} {L : Nat} {xs : Nat → Int32}
def D0 : DZ := DZ.mk 0 0 0 0 (fun _ => 0) (fun _ => 0) (fun _ => 0) (fun _ => 0) (fun _ => 0) (fun _ => 0) (fun _ => 0) (fun _ => 0) []
theorem lw_W0 : LW RT (lw_I1 L xs) lw_J := by
  have e : ∀ c j, c < 1000 → c ≠ 62 → lw_I1 L xs c j = 0 := fun c j h1 h2 => lw_at h1 h2
  refine ⟨emD D0, DW_em, ?_, ?_, Or.inl ⟨e 0 4 (by decide) (by decide), e 69 1 (by decide) (by decide)⟩⟩
  · exact RD.mk (e 1 0 (by decide) (by decide)) (e 1 1 (by decide) (by decide)) (e 1 2 (by decide) (by decide)) (e 1 3 (by decide) (by decide)) (fun j hj => absurd hj (Nat.not_lt_zero _)) (fun j hj => absurd hj (Nat.not_lt_zero _)) (fun j hj => absurd hj (Nat.not_lt_zero _)) (fun j hj => absurd hj (Nat.not_lt_zero _)) (fun j hj => absurd hj (Nat.not_lt_zero _))
  · exact RMD.mk (e 69 2 (by decide) (by decide)) (e 69 5 (by decide) (by decide)) (e 69 11 (by decide) (by decide)) (e 69 14 (by decide) (by decide)) (e 69 17 (by decide) (by decide)) (fun j hj => absurd hj (Nat.not_lt_zero _)) (fun j hj => absurd hj (Nat.not_lt_zero _)) (fun j hj => absurd hj (Nat.not_lt_zero _)) (fun j hj => absurd hj (Nat.not_lt_zero _))
theorem lw_all (hE : RateE RT) (hR : RateM RT) : lw_goal := by
  intro L xs hL
  obtain ⟨σ', h⟩ := lw_loop (RT := RT) hE hR hL (L / 4) 0 (lw_I1 L xs) lw_J none none _ _ (by omega) (by omega) lw_W0 lw_n (show 1 + mC m_E_init + 1 + mC m_M_init + 1 ≤ 200 + 3 * 0 by decide) (show 5 + mS m_E_init + 45 + mS m_M_init + 1 ≤ 200000 + 18 * 0 by decide) rfl rfl
  exact ⟨σ', lw_pre h⟩
end S55
