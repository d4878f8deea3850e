/-! the reference: what is asked first, what only looks -/
section S23
variable {d : Nat} {I : Nat → Nat → Int32} {J : Nat → Nat → Int64} {D : DZ} {s : MS}
theorem sp_M_thrown {v : Int32} (h : I 69 0 = v) : pm_Go d m_M_thrown 0 [some (.ref 69)] [] 0 0 (ST I J) (.inl (some (.int v)), ST I J) := by
  refine go_aload_n d_M_thrown_0 rfl ?_
  refine go_gI (j := 0) (v) d_M_thrown_1 (Nat.le_of_ble_eq_true rfl) rfl pc_M (Nat.le_of_ble_eq_true rfl) (by decide) w_702 h ?_
  exact go_ireturn (st := []) d_M_thrown_4 rfl (Nat.le_of_ble_eq_true rfl) (Nat.le_of_ble_eq_true rfl) rfl
theorem sp_noBlockN {n k : Nat} (hn : I 69 2 = nI n) (hn2 : n < 2 ^ 30) (h : k < n) : pm_Go d m_M_noBlock 0 [some (.ref 69), some (.int (nI k))] [] 0 0 (ST I J) (.inl (some (.int 0)), ST I J) := by
  refine go_iload_n d_M_noBlock_0 rfl ?_
  refine go_if_lt (tgt := 12) d_M_noBlock_1 (by decide) (fun z => absurd z (nI_pos (by omega))) (fun z => ?_)
  refine go_iload_n d_M_noBlock_4 rfl ?_
  refine go_aload_n d_M_noBlock_5 rfl ?_
  refine go_gI (j := 2) (nI n) d_M_noBlock_6 (Nat.le_of_ble_eq_true rfl) rfl pc_M (Nat.le_of_ble_eq_true rfl) (by decide) w_704 hn ?_
  refine go_icmp_lt (tgt := 16) d_M_noBlock_9 (by decide) (fun z => ?_) (fun z => absurd (nI_lt h (by omega)) z)
  refine go_iconst (v := 0) d_M_noBlock_16 (by decide) ?_
  exact go_zreturn (st := []) d_M_noBlock_17 rfl (Nat.le_of_ble_eq_true rfl) (Nat.le_of_ble_eq_true rfl) rfl (Or.inl rfl)
theorem sp_noBlockY {n : Nat} {x : Int32} (hn : I 69 2 = nI n) (hn2 : n < 2 ^ 30) (h : ¬ okN x n) : pm_Go d m_M_noBlock 0 [some (.ref 69), some (.int x)] [] 0 0 (ST I J) (.inl (some (.int 1)), ST I J) := by
  refine go_iload_n d_M_noBlock_0 rfl ?_
  by_cases h1 : x < 0
  · refine go_if_lt (tgt := 12) d_M_noBlock_1 (by decide) (fun z => ?_) (fun z => absurd h1 z)
    refine go_iconst (v := 1) d_M_noBlock_12 (by decide) ?_
    refine go_goto (tgt := 17) d_M_noBlock_13 (by decide) ?_
    exact go_zreturn (st := []) d_M_noBlock_17 rfl (Nat.le_of_ble_eq_true rfl) (Nat.le_of_ble_eq_true rfl) rfl (Or.inr rfl)
  · refine go_if_lt (tgt := 12) d_M_noBlock_1 (by decide) (fun z => absurd z h1) (fun z => ?_)
    refine go_iload_n d_M_noBlock_4 rfl ?_
    refine go_aload_n d_M_noBlock_5 rfl ?_
    refine go_gI (j := 2) (nI n) d_M_noBlock_6 (Nat.le_of_ble_eq_true rfl) rfl pc_M (Nat.le_of_ble_eq_true rfl) (by decide) w_704 hn ?_
    refine go_icmp_lt (tgt := 16) d_M_noBlock_9 (by decide) (fun z => absurd (okN_of (by omega) h1 z) h) (fun z => ?_)
    refine go_iconst (v := 1) d_M_noBlock_12 (by decide) ?_
    refine go_goto (tgt := 17) d_M_noBlock_13 (by decide) ?_
    exact go_zreturn (st := []) d_M_noBlock_17 rfl (Nat.le_of_ble_eq_true rfl) (Nat.le_of_ble_eq_true rfl) rfl (Or.inr rfl)
theorem sp_M_ticksN (h : I 69 1 = 0) : pm_Go (d + 1) m_M_ticks 0 [some (.ref 69)] [] 0 0 (ST I J) (.inl (some (.int 0)), ST (pm_uI I 69 0 1) J) := by
  refine go_aload_n d_M_ticks_0 rfl ?_
  refine go_aload_n d_M_ticks_1 rfl ?_
  refine go_gI (j := 1) (0) d_M_ticks_2 (Nat.le_of_ble_eq_true rfl) rfl pc_M (Nat.le_of_ble_eq_true rfl) (by decide) w_703 h ?_
  refine go_if_eq (tgt := 12) d_M_ticks_5 (by decide) (fun z => ?_) (fun z => absurd rfl z)
  refine go_iconst (v := 1) d_M_ticks_12 (by decide) ?_
  refine go_pI (j := 0) d_M_ticks_13 (Nat.le_of_ble_eq_true rfl) rfl pc_M (Nat.le_of_ble_eq_true rfl) (by decide) w_702 rfl (Or.inl rfl) ?_
  refine go_aload_n d_M_ticks_16 rfl ?_
  refine go_gI (j := 0) (1) d_M_ticks_17 (Nat.le_of_ble_eq_true rfl) rfl pc_M (Nat.le_of_ble_eq_true rfl) (by decide) w_702 rfl ?_
  refine go_if_le (tgt := 27) d_M_ticks_20 (by decide) (fun z => absurd z (by decide)) (fun z => ?_)
  refine go_iconst (v := 0) d_M_ticks_23 (by decide) ?_
  refine go_goto (tgt := 31) d_M_ticks_24 (by decide) ?_
  exact go_ireturn (st := []) d_M_ticks_31 rfl (Nat.le_of_ble_eq_true rfl) (Nat.le_of_ble_eq_true rfl) rfl
theorem sp_M_ticksY {v : Int32} (h : I 69 1 = 1) (hv : I 69 18 = v) : pm_Go (d + 1) m_M_ticks 0 [some (.ref 69)] [] 0 0 (ST I J) (.inl (some (.int v)), ST (pm_uI I 69 0 0) J) := by
  refine go_aload_n d_M_ticks_0 rfl ?_
  refine go_aload_n d_M_ticks_1 rfl ?_
  refine go_gI (j := 1) (1) d_M_ticks_2 (Nat.le_of_ble_eq_true rfl) rfl pc_M (Nat.le_of_ble_eq_true rfl) (by decide) w_703 h ?_
  refine go_if_eq (tgt := 12) d_M_ticks_5 (by decide) (fun z => absurd z (by decide)) (fun z => ?_)
  refine go_iconst (v := 0) d_M_ticks_8 (by decide) ?_
  refine go_goto (tgt := 13) d_M_ticks_9 (by decide) ?_
  refine go_pI (j := 0) d_M_ticks_13 (Nat.le_of_ble_eq_true rfl) rfl pc_M (Nat.le_of_ble_eq_true rfl) (by decide) w_702 rfl (Or.inl rfl) ?_
  refine go_aload_n d_M_ticks_16 rfl ?_
  refine go_gI (j := 0) (0) d_M_ticks_17 (Nat.le_of_ble_eq_true rfl) rfl pc_M (Nat.le_of_ble_eq_true rfl) (by decide) w_702 rfl ?_
  refine go_if_le (tgt := 27) d_M_ticks_20 (by decide) (fun z => ?_) (fun z => absurd (show (0 : Int32) ≤ 0 by decide) z)
  refine go_aload_n d_M_ticks_27 rfl ?_
  refine go_gI (j := 18) (v) d_M_ticks_28 (Nat.le_of_ble_eq_true rfl) rfl pc_M (Nat.le_of_ble_eq_true rfl) (by decide) w_720 hv ?_
  exact go_ireturn (st := []) d_M_ticks_31 rfl (Nat.le_of_ble_eq_true rfl) (Nat.le_of_ble_eq_true rfl) rfl
theorem sp_M_turnsN {a : Int32} (h : I 69 1 = 0) : pm_Go (d + 1) m_M_turns 0 [some (.ref 69), some (.int a)] [] 0 0 (ST I J) (.inl (some (.int 0)), ST (pm_uI I 69 0 1) J) := by
  refine go_aload_n d_M_turns_0 rfl ?_
  refine go_aload_n d_M_turns_1 rfl ?_
  refine go_gI (j := 1) (0) d_M_turns_2 (Nat.le_of_ble_eq_true rfl) rfl pc_M (Nat.le_of_ble_eq_true rfl) (by decide) w_703 h ?_
  refine go_if_ne (tgt := 12) d_M_turns_5 (by decide) (fun z => absurd rfl z) (fun z => ?_)
  refine go_iconst (v := 1) d_M_turns_8 (by decide) ?_
  refine go_goto (tgt := 25) d_M_turns_9 (by decide) ?_
  refine go_pI (j := 0) d_M_turns_25 (Nat.le_of_ble_eq_true rfl) rfl pc_M (Nat.le_of_ble_eq_true rfl) (by decide) w_702 rfl (Or.inl rfl) ?_
  refine go_aload_n d_M_turns_28 rfl ?_
  refine go_gI (j := 0) (1) d_M_turns_29 (Nat.le_of_ble_eq_true rfl) rfl pc_M (Nat.le_of_ble_eq_true rfl) (by decide) w_702 rfl ?_
  refine go_if_le (tgt := 39) d_M_turns_32 (by decide) (fun z => absurd z (by decide)) (fun z => ?_)
  refine go_iconst (v := 0) d_M_turns_35 (by decide) ?_
  refine go_goto (tgt := 45) d_M_turns_36 (by decide) ?_
  exact go_ireturn (st := []) d_M_turns_45 rfl (Nat.le_of_ble_eq_true rfl) (Nat.le_of_ble_eq_true rfl) rfl
theorem sp_M_turnsX {a : Int32} {n : Nat} (h : I 69 1 = 1) (hn : I 69 2 = nI n) (hn2 : n ≤ 10) (hx : ¬ okN a n) : pm_Go (d + 1) m_M_turns 0 [some (.ref 69), some (.int a)] [] 0 0 (ST I J) (.inl (some (.int 0)), ST (pm_uI I 69 0 2) J) := by
  refine go_aload_n d_M_turns_0 rfl ?_
  refine go_aload_n d_M_turns_1 rfl ?_
  refine go_gI (j := 1) (1) d_M_turns_2 (Nat.le_of_ble_eq_true rfl) rfl pc_M (Nat.le_of_ble_eq_true rfl) (by decide) w_703 h ?_
  refine go_if_ne (tgt := 12) d_M_turns_5 (by decide) (fun z => ?_) (fun z => absurd z (by decide))
  refine go_aload_n d_M_turns_12 rfl ?_
  refine go_iload_n d_M_turns_13 rfl ?_
  refine go_callV (k2 := m_M_noBlock) (As := [.int a]) (r := some (.int 1)) d_M_turns_14 ok_M_noBlock (Nat.le_of_ble_eq_true rfl) rfl pc_M rfl vl_M_121 rfl rfl (Nat.le_of_ble_eq_true rfl) (Nat.le_of_ble_eq_true rfl) (Nat.le_of_ble_eq_true rfl) (Nat.le_of_ble_eq_true rfl) rfl rfl (sp_noBlockY hn (by omega) hx) ?_
  refine go_if_eq (tgt := 24) d_M_turns_17 (by decide) (fun z => absurd z (by decide)) (fun z => ?_)
  refine go_iconst (v := 2) d_M_turns_20 (by decide) ?_
  refine go_goto (tgt := 25) d_M_turns_21 (by decide) ?_
  refine go_pI (j := 0) d_M_turns_25 (Nat.le_of_ble_eq_true rfl) rfl pc_M (Nat.le_of_ble_eq_true rfl) (by decide) w_702 rfl (Or.inl rfl) ?_
  refine go_aload_n d_M_turns_28 rfl ?_
  refine go_gI (j := 0) (2) d_M_turns_29 (Nat.le_of_ble_eq_true rfl) rfl pc_M (Nat.le_of_ble_eq_true rfl) (by decide) w_702 rfl ?_
  refine go_if_le (tgt := 39) d_M_turns_32 (by decide) (fun z => absurd z (by decide)) (fun z => ?_)
  refine go_iconst (v := 0) d_M_turns_35 (by decide) ?_
  refine go_goto (tgt := 45) d_M_turns_36 (by decide) ?_
  exact go_ireturn (st := []) d_M_turns_45 rfl (Nat.le_of_ble_eq_true rfl) (Nat.le_of_ble_eq_true rfl) rfl
theorem sp_M_turnsY {k n : Nat} {v : Int32} (h : I 69 1 = 1) (hn : I 69 2 = nI n) (hn2 : n ≤ 10) (hk : k < n) (hv : I 88 k = v) : pm_Go (d + 1) m_M_turns 0 [some (.ref 69), some (.int (nI k))] [] 0 0 (ST I J) (.inl (some (.int v)), ST (pm_uI I 69 0 0) J) := by
  refine go_aload_n d_M_turns_0 rfl ?_
  refine go_aload_n d_M_turns_1 rfl ?_
  refine go_gI (j := 1) (1) d_M_turns_2 (Nat.le_of_ble_eq_true rfl) rfl pc_M (Nat.le_of_ble_eq_true rfl) (by decide) w_703 h ?_
  refine go_if_ne (tgt := 12) d_M_turns_5 (by decide) (fun z => ?_) (fun z => absurd z (by decide))
  refine go_aload_n d_M_turns_12 rfl ?_
  refine go_iload_n d_M_turns_13 rfl ?_
  refine go_callV (k2 := m_M_noBlock) (As := [.int (nI k)]) (r := some (.int 0)) d_M_turns_14 ok_M_noBlock (Nat.le_of_ble_eq_true rfl) rfl pc_M rfl vl_M_121 rfl rfl (Nat.le_of_ble_eq_true rfl) (Nat.le_of_ble_eq_true rfl) (Nat.le_of_ble_eq_true rfl) (Nat.le_of_ble_eq_true rfl) rfl rfl (sp_noBlockN hn (by omega) hk) ?_
  refine go_if_eq (tgt := 24) d_M_turns_17 (by decide) (fun z => ?_) (fun z => absurd rfl z)
  refine go_iconst (v := 0) d_M_turns_24 (by decide) ?_
  refine go_pI (j := 0) d_M_turns_25 (Nat.le_of_ble_eq_true rfl) rfl pc_M (Nat.le_of_ble_eq_true rfl) (by decide) w_702 rfl (Or.inl rfl) ?_
  refine go_aload_n d_M_turns_28 rfl ?_
  refine go_gI (j := 0) (0) d_M_turns_29 (Nat.le_of_ble_eq_true rfl) rfl pc_M (Nat.le_of_ble_eq_true rfl) (by decide) w_702 rfl ?_
  refine go_if_le (tgt := 39) d_M_turns_32 (by decide) (fun z => ?_) (fun z => absurd (show (0 : Int32) ≤ 0 by decide) z)
  refine go_aload_n d_M_turns_39 rfl ?_
  refine go_getP (j := 26) d_M_turns_40 (Nat.le_of_ble_eq_true rfl) rfl pc_M (Nat.le_of_ble_eq_true rfl) rfl w_728 pt_M_26 ?_
  refine go_iload_n d_M_turns_43 rfl ?_
  refine go_ald k v d_M_turns_44 (Nat.le_of_ble_eq_true rfl) rfl rfl (by omega) (by decide) hv ?_
  exact go_ireturn (st := []) d_M_turns_45 rfl (Nat.le_of_ble_eq_true rfl) (Nat.le_of_ble_eq_true rfl) rfl
theorem sp_M_later {a b : Int32} : pm_Go d m_M_later 0 [some (.ref 69), some (.int a), some (.int b)] [] 0 0 (ST I J) (.inl (some (.int (if a ≤ b then b else a))), ST I J) := by
  refine go_iload_n d_M_later_0 rfl ?_
  refine go_iload_n d_M_later_1 rfl ?_
  by_cases h : a ≤ b
  · rw [if_pos h]
    refine go_icmp_le (tgt := 9) d_M_later_2 (by decide) (fun z => ?_) (fun z => absurd h z)
    refine go_iload_n d_M_later_9 rfl ?_
    exact go_ireturn (st := []) d_M_later_10 rfl (Nat.le_of_ble_eq_true rfl) (Nat.le_of_ble_eq_true rfl) rfl
  · rw [if_neg h]
    refine go_icmp_le (tgt := 9) d_M_later_2 (by decide) (fun z => absurd z h) (fun z => ?_)
    refine go_iload_n d_M_later_5 rfl ?_
    refine go_goto (tgt := 10) d_M_later_6 (by decide) ?_
    exact go_ireturn (st := []) d_M_later_10 rfl (Nat.le_of_ble_eq_true rfl) (Nat.le_of_ble_eq_true rfl) rfl
theorem sp_M_clear {n : Nat} (hn : I 69 2 = nI n) : pm_Go d m_M_clear 0 [some (.ref 69), none] [] 0 0 (ST I J) (.inl (some (.int (nI n))), ST (pm_uI (pm_uI (pm_uI (pm_uI (pm_uI (pm_uI (pm_uI I 69 0 0) 69 1 0) 69 2 0) 69 5 0) 69 11 0) 69 14 0) 69 17 0) J) := by
  refine go_aload_n d_M_clear_0 rfl ?_
  refine go_iconst (v := 0) d_M_clear_1 (by decide) ?_
  refine go_pI (j := 0) d_M_clear_2 (Nat.le_of_ble_eq_true rfl) rfl pc_M (Nat.le_of_ble_eq_true rfl) (by decide) w_702 rfl (Or.inl rfl) ?_
  refine go_aload_n d_M_clear_5 rfl ?_
  refine go_gI (j := 2) (nI n) d_M_clear_6 (Nat.le_of_ble_eq_true rfl) rfl pc_M (Nat.le_of_ble_eq_true rfl) (by decide) w_704 hn ?_
  refine go_istore_n d_M_clear_9 (Nat.le_of_ble_eq_true rfl) rfl ?_
  refine go_aload_n d_M_clear_10 rfl ?_
  refine go_iconst (v := 0) d_M_clear_11 (by decide) ?_
  refine go_pI (j := 1) d_M_clear_12 (Nat.le_of_ble_eq_true rfl) rfl pc_M (Nat.le_of_ble_eq_true rfl) (by decide) w_703 rfl (Or.inr ⟨rfl, Or.inl rfl⟩) ?_
  refine go_aload_n d_M_clear_15 rfl ?_
  refine go_iconst (v := 0) d_M_clear_16 (by decide) ?_
  refine go_pI (j := 2) d_M_clear_17 (Nat.le_of_ble_eq_true rfl) rfl pc_M (Nat.le_of_ble_eq_true rfl) (by decide) w_704 rfl (Or.inl rfl) ?_
  refine go_aload_n d_M_clear_20 rfl ?_
  refine go_iconst (v := 0) d_M_clear_21 (by decide) ?_
  refine go_pI (j := 5) d_M_clear_22 (Nat.le_of_ble_eq_true rfl) rfl pc_M (Nat.le_of_ble_eq_true rfl) (by decide) w_707 rfl (Or.inl rfl) ?_
  refine go_aload_n d_M_clear_25 rfl ?_
  refine go_iconst (v := 0) d_M_clear_26 (by decide) ?_
  refine go_pI (j := 11) d_M_clear_27 (Nat.le_of_ble_eq_true rfl) rfl pc_M (Nat.le_of_ble_eq_true rfl) (by decide) w_713 rfl (Or.inl rfl) ?_
  refine go_aload_n d_M_clear_30 rfl ?_
  refine go_iconst (v := 0) d_M_clear_31 (by decide) ?_
  refine go_pI (j := 14) d_M_clear_32 (Nat.le_of_ble_eq_true rfl) rfl pc_M (Nat.le_of_ble_eq_true rfl) (by decide) w_716 rfl (Or.inl rfl) ?_
  refine go_aload_n d_M_clear_35 rfl ?_
  refine go_iconst (v := 0) d_M_clear_36 (by decide) ?_
  refine go_pI (j := 17) d_M_clear_37 (Nat.le_of_ble_eq_true rfl) rfl pc_M (Nat.le_of_ble_eq_true rfl) (by decide) w_719 rfl (Or.inl rfl) ?_
  refine go_iload_n d_M_clear_40 rfl ?_
  exact go_ireturn (st := []) d_M_clear_41 rfl (Nat.le_of_ble_eq_true rfl) (Nat.le_of_ble_eq_true rfl) rfl
end S23
