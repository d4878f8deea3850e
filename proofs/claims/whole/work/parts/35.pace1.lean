/-! the pace: leaves -/
section S24
variable {d : Nat} {I : Nat → Nat → Int32} {J : Nat → Nat → Int64} {D : DZ}
theorem sp_addArc {n : Nat} {a b t l : Int32} (hn : I 62 5 = nI n) (h : n < 220) : pm_Go d m_A_addArc 0 [some (.ref 62), some (.int a), some (.int b), some (.int t), some (.int l)] [] 0 0 (ST I J) (.inl none, ST (pm_uI (pm_uI (pm_uI (pm_uI (pm_uI I 63 n a) 64 n b) 65 n t) 66 n l) 62 5 (nI (n + 1))) J) := by
  refine go_aload_n d_A_addArc_0 rfl ?_
  refine go_getP (j := 6) d_A_addArc_1 (Nat.le_of_ble_eq_true rfl) rfl pc_A (Nat.le_of_ble_eq_true rfl) rfl w_208 pt_A_6 ?_
  refine go_aload_n d_A_addArc_4 rfl ?_
  refine go_gI (j := 5) (nI n) d_A_addArc_5 (Nat.le_of_ble_eq_true rfl) rfl pc_A (Nat.le_of_ble_eq_true rfl) (by decide) w_207 hn ?_
  refine go_iload_n d_A_addArc_8 rfl ?_
  refine go_ast n d_A_addArc_9 (Nat.le_of_ble_eq_true rfl) rfl rfl h (by decide) ?_
  refine go_aload_n d_A_addArc_10 rfl ?_
  refine go_getP (j := 7) d_A_addArc_11 (Nat.le_of_ble_eq_true rfl) rfl pc_A (Nat.le_of_ble_eq_true rfl) rfl w_209 pt_A_7 ?_
  refine go_aload_n d_A_addArc_14 rfl ?_
  refine go_gI (j := 5) (nI n) d_A_addArc_15 (Nat.le_of_ble_eq_true rfl) rfl pc_A (Nat.le_of_ble_eq_true rfl) (by decide) w_207 hn ?_
  refine go_iload_n d_A_addArc_18 rfl ?_
  refine go_ast n d_A_addArc_19 (Nat.le_of_ble_eq_true rfl) rfl rfl h (by decide) ?_
  refine go_aload_n d_A_addArc_20 rfl ?_
  refine go_getP (j := 8) d_A_addArc_21 (Nat.le_of_ble_eq_true rfl) rfl pc_A (Nat.le_of_ble_eq_true rfl) rfl w_210 pt_A_8 ?_
  refine go_aload_n d_A_addArc_24 rfl ?_
  refine go_gI (j := 5) (nI n) d_A_addArc_25 (Nat.le_of_ble_eq_true rfl) rfl pc_A (Nat.le_of_ble_eq_true rfl) (by decide) w_207 hn ?_
  refine go_iload_n d_A_addArc_28 rfl ?_
  refine go_ast n d_A_addArc_29 (Nat.le_of_ble_eq_true rfl) rfl rfl h (by decide) ?_
  refine go_aload_n d_A_addArc_30 rfl ?_
  refine go_getP (j := 9) d_A_addArc_31 (Nat.le_of_ble_eq_true rfl) rfl pc_A (Nat.le_of_ble_eq_true rfl) rfl w_211 pt_A_9 ?_
  refine go_aload_n d_A_addArc_34 rfl ?_
  refine go_gI (j := 5) (nI n) d_A_addArc_35 (Nat.le_of_ble_eq_true rfl) rfl pc_A (Nat.le_of_ble_eq_true rfl) (by decide) w_207 hn ?_
  refine go_iload d_A_addArc_38 rfl ?_
  refine go_ast n d_A_addArc_40 (Nat.le_of_ble_eq_true rfl) rfl rfl h (by decide) ?_
  refine go_aload_n d_A_addArc_41 rfl ?_
  refine go_dup d_A_addArc_42 rfl ?_
  refine go_gI (j := 5) (nI n) d_A_addArc_43 (Nat.le_of_ble_eq_true rfl) rfl pc_A (Nat.le_of_ble_eq_true rfl) (by decide) w_207 hn ?_
  refine go_iconst (v := 1) d_A_addArc_46 (by decide) ?_
  refine go_iadd d_A_addArc_47 ?_
  refine go_top (nI (n + 1)) (nI_1 _) ?_
  refine go_pI (j := 5) d_A_addArc_48 (Nat.le_of_ble_eq_true rfl) rfl pc_A (Nat.le_of_ble_eq_true rfl) (by decide) w_207 rfl (Or.inl rfl) ?_
  exact go_vreturn (st := []) d_A_addArc_51 rfl (Nat.le_of_ble_eq_true rfl) (Nat.le_of_ble_eq_true rfl) rfl
theorem sp_nodeBeforeN {v : Nat} (hv : v < 100) (h : I 68 v = -1) : pm_Go d m_A_nodeBefore 0 [some (.ref 62), some (.int (nI v))] [] 0 0 (ST I J) (.inl (some (.int (-1))), ST I J) := by
  refine go_aload_n d_A_nodeBefore_0 rfl ?_
  refine go_getP (j := 11) d_A_nodeBefore_1 (Nat.le_of_ble_eq_true rfl) rfl pc_A (Nat.le_of_ble_eq_true rfl) rfl w_213 pt_A_11 ?_
  refine go_iload_n d_A_nodeBefore_4 rfl ?_
  refine go_ald v (-1) d_A_nodeBefore_5 (Nat.le_of_ble_eq_true rfl) rfl rfl hv (by decide) h ?_
  refine go_iconst (v := -1) d_A_nodeBefore_6 (by decide) ?_
  refine go_icmp_ne (tgt := 14) d_A_nodeBefore_7 (by decide) (fun z => absurd rfl z) (fun z => ?_)
  refine go_iconst (v := -1) d_A_nodeBefore_10 (by decide) ?_
  refine go_goto (tgt := 25) d_A_nodeBefore_11 (by decide) ?_
  exact go_ireturn (st := []) d_A_nodeBefore_25 rfl (Nat.le_of_ble_eq_true rfl) (Nat.le_of_ble_eq_true rfl) rfl
theorem nI_m1 {n : Nat} (h : n < 2 ^ 31) : nI n ≠ -1 := by
  intro e
  have := congrArg Int32.toInt e
  rw [nI_toInt h] at this
  have h2 : (-1 : Int32).toInt = -1 := by decide
  rw [h2] at this
  omega
theorem sp_nodeBeforeY {v e : Nat} {u : Int32} (hv : v < 100) (h : I 68 v = nI e) (he : e < 220) (hu : I 63 e = u) : pm_Go d m_A_nodeBefore 0 [some (.ref 62), some (.int (nI v))] [] 0 0 (ST I J) (.inl (some (.int u)), ST I J) := by
  refine go_aload_n d_A_nodeBefore_0 rfl ?_
  refine go_getP (j := 11) d_A_nodeBefore_1 (Nat.le_of_ble_eq_true rfl) rfl pc_A (Nat.le_of_ble_eq_true rfl) rfl w_213 pt_A_11 ?_
  refine go_iload_n d_A_nodeBefore_4 rfl ?_
  refine go_ald v (nI e) d_A_nodeBefore_5 (Nat.le_of_ble_eq_true rfl) rfl rfl hv (by decide) h ?_
  refine go_iconst (v := -1) d_A_nodeBefore_6 (by decide) ?_
  refine go_icmp_ne (tgt := 14) d_A_nodeBefore_7 (by decide) (fun z => ?_) (fun z => absurd z (nI_m1 (by omega)))
  refine go_aload_n d_A_nodeBefore_14 rfl ?_
  refine go_getP (j := 6) d_A_nodeBefore_15 (Nat.le_of_ble_eq_true rfl) rfl pc_A (Nat.le_of_ble_eq_true rfl) rfl w_208 pt_A_6 ?_
  refine go_aload_n d_A_nodeBefore_18 rfl ?_
  refine go_getP (j := 11) d_A_nodeBefore_19 (Nat.le_of_ble_eq_true rfl) rfl pc_A (Nat.le_of_ble_eq_true rfl) rfl w_213 pt_A_11 ?_
  refine go_iload_n d_A_nodeBefore_22 rfl ?_
  refine go_ald v (nI e) d_A_nodeBefore_23 (Nat.le_of_ble_eq_true rfl) rfl rfl hv (by decide) h ?_
  refine go_ald e u d_A_nodeBefore_24 (Nat.le_of_ble_eq_true rfl) rfl rfl he (by decide) hu ?_
  exact go_ireturn (st := []) d_A_nodeBefore_25 rfl (Nat.le_of_ble_eq_true rfl) (Nat.le_of_ble_eq_true rfl) rfl
end S24
