/-! the law's beginning -/
section S22
variable {L : Nat} {xs : Nat → Int32}
def lw_I (L : Nat) (xs : Nat → Int32) : Nat → Nat → Int32 := fun c j => if c = 1000 then xs j else if c = 1001 then Int32.ofNat L else 0
def lw_J : Nat → Nat → Int64 := fun _ _ => 0
theorem lw_I0 {c : Nat} (h : c < 1000) (j : Nat) : lw_I L xs c j = 0 := by
  unfold lw_I
  rw [if_neg (by omega), if_neg (by omega)]
def lw_I1 (L : Nat) (xs : Nat → Int32) : Nat → Nat → Int32 := II_M (pm_uI (II_A (II_C (II_P (II_D (lw_I L xs))))) 0 4 0)
set_option maxRecDepth 20000 in
theorem lw_pre {out : pm_O} (h : pm_Go 11 m_L_law 23 [some (.ref 1000), some (.ref 0), some (.ref 69), some (.ref 103), some (.int 0), none, none, none] [] (1 + mC m_E_init + 1 + mC m_M_init + 1) (5 + mS m_E_init + 45 + mS m_M_init + 1) (ST (lw_I1 L xs) lw_J) out) : pm_Go 11 m_L_law 0 (pm_en [.ref 1000] 8) [] 0 0 (lw_σ L xs) out := by
  refine go_st (σ' := (0, fun _ _ => none, lw_I L xs, lw_J)) rfl ?_
  refine go_new d_L_law_0 rfl pc_E w_16 w_17 w_1 (Nat.le_of_ble_eq_true rfl) (Nat.le_of_ble_eq_true rfl) (Nat.le_of_ble_eq_true rfl) (fun j => lw_I0 (L := L) (xs := xs) (c := 0) (by decide) j) (fun j => rfl) rfl ?_
  refine go_st (σ' := (1, fun _ _ => none, lw_I L xs, lw_J)) rfl ?_
  refine go_dup d_L_law_3 rfl ?_
  refine go_callI (k2 := m_E_init) (As := []) (r := none) (σ2 := (69, PI_E3 (PI_A (PI_E2 (PI_C (PI_E1 (PI_P (PI_E0 (PI_D (fun _ _ => none)))))))), pm_uI (II_A (II_C (II_P (II_D (lw_I L xs))))) 0 4 0, lw_J)) d_L_law_4 ok_E_init il_L_78 rfl rfl (Nat.le_of_ble_eq_true rfl) (Nat.le_of_ble_eq_true rfl) (Nat.le_of_ble_eq_true rfl) (Nat.le_of_ble_eq_true rfl) rfl rfl rfl (sp_E_init (d := 8) (fun c h1 h2 j => lw_I0 h2 j) (fun c h1 j => rfl) (fun c h1 j => rfl)) ?_
  refine go_astore_n d_L_law_7 (Nat.le_of_ble_eq_true rfl) rfl ?_
  refine go_st (σ' := (69, PI_E3 (PI_A (PI_E2 (PI_C (PI_E1 (PI_P (PI_E0 (PI_D (fun _ _ => none)))))))), pm_uI (II_A (II_C (II_P (II_D (lw_I L xs))))) 0 4 0, lw_J)) rfl ?_
  refine go_new d_L_law_8 rfl pc_M w_695 w_696 w_6 (Nat.le_of_ble_eq_true rfl) (Nat.le_of_ble_eq_true rfl) (Nat.le_of_ble_eq_true rfl) (fun j => rfl) (fun j => rfl) rfl ?_
  refine go_st (σ' := (70, PI_E3 (PI_A (PI_E2 (PI_C (PI_E1 (PI_P (PI_E0 (PI_D (fun _ _ => none)))))))), pm_uI (II_A (II_C (II_P (II_D (lw_I L xs))))) 0 4 0, lw_J)) rfl ?_
  refine go_dup d_L_law_11 rfl ?_
  refine go_callI (k2 := m_M_init) (As := []) (r := none) (σ2 := (103, PI_M (PI_E3 (PI_A (PI_E2 (PI_C (PI_E1 (PI_P (PI_E0 (PI_D (fun _ _ => none))))))))), lw_I1 L xs, lw_J)) d_L_law_12 ok_M_init il_L_81 rfl rfl (Nat.le_of_ble_eq_true rfl) (Nat.le_of_ble_eq_true rfl) (Nat.le_of_ble_eq_true rfl) (Nat.le_of_ble_eq_true rfl) rfl rfl rfl (sp_M_init (d := 9) (fun c h1 h2 j => by
    simp only [II_A, II_C, II_P, II_D, uI_at]
    (repeat rw [if_neg (by omega)])
    exact lw_I0 h2 j)) ?_
  refine go_astore_n d_L_law_15 (Nat.le_of_ble_eq_true rfl) rfl ?_
  refine go_iconst (v := 1) d_L_law_16 (by decide) ?_
  refine go_newJ (n := 1) d_L_law_17 rfl (by decide) (by decide) (by decide) w_167 (Nat.le_of_ble_eq_true rfl) (Nat.le_of_ble_eq_true rfl) (Nat.le_of_ble_eq_true rfl) (fun j => rfl) rfl ?_
  refine go_st (σ' := ST (lw_I1 L xs) lw_J) (by show _ = (104, P0, lw_I1 L xs, lw_J); rw [P0_eq]) ?_
  refine go_astore_n d_L_law_19 (Nat.le_of_ble_eq_true rfl) rfl ?_
  refine go_iconst (v := 0) d_L_law_20 (by decide) ?_
  refine go_istore d_L_law_21 (Nat.le_of_ble_eq_true rfl) rfl ?_
  exact h
theorem lw_at {c j : Nat} (h1 : c < 1000) (h2 : c ≠ 62) : lw_I1 L xs c j = 0 := by
  simp [lw_I1, II_M, II_A, II_C, II_P, II_D, uI_at, lw_I0 h1, h2]
theorem lw_s {j : Nat} : lw_I1 L xs 1000 j = xs j := rfl
theorem lw_n {j : Nat} : lw_I1 L xs 1001 j = nI L := rfl
theorem lw_k : lw_I1 L xs 62 1 = 0 := rfl
end S22
