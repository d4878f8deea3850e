/-! The class's small methods -/
section S1
variable {d : Nat} {I : Nat → Nat → Int32} {J : Nat → Nat → Int64}
/-- put: behind the tokens of a buffer -/
theorem sp_put {b n : Nat} {v : Int32} (hb : b < 80) (hn : I 35 b = nI n) (h2 : n < 2) : pm_Go d m_P_put 0 [some (.ref 33), some (.int (nI b)), some (.int v)] [] 0 0 (ST I J) (.inl none, ST (pm_uI (pm_uI I 34 (b * 2 + n) v) 35 b (nI (n + 1))) J) := by
  refine go_aload_n d_P_put_0 rfl ?_
  refine go_getP (j := 2) d_P_put_1 (Nat.le_of_ble_eq_true rfl) rfl pc_P (Nat.le_of_ble_eq_true rfl) rfl w_116 pt_P_2 ?_
  refine go_iload_n d_P_put_4 rfl ?_
  refine go_iconst (v := 2) d_P_put_5 (by decide) ?_
  refine go_imul d_P_put_6 ?_
  refine go_aload_n d_P_put_7 rfl ?_
  refine go_getP (j := 3) d_P_put_8 (Nat.le_of_ble_eq_true rfl) rfl pc_P (Nat.le_of_ble_eq_true rfl) rfl w_117 pt_P_3 ?_
  refine go_iload_n d_P_put_11 rfl ?_
  refine go_ald b (nI n) d_P_put_12 (Nat.le_of_ble_eq_true rfl) rfl rfl hb (by decide) hn ?_
  refine go_iadd d_P_put_13 ?_
  refine go_iload_n d_P_put_14 rfl ?_
  refine go_ast (b * 2 + n) d_P_put_15 (Nat.le_of_ble_eq_true rfl) rfl (by rw [show (2 : Int32) = nI 2 from rfl, pk_mul, nI_add]) (by omega) (by decide) ?_
  refine go_aload_n d_P_put_16 rfl ?_
  refine go_getP (j := 3) d_P_put_17 (Nat.le_of_ble_eq_true rfl) rfl pc_P (Nat.le_of_ble_eq_true rfl) rfl w_117 pt_P_3 ?_
  refine go_iload_n d_P_put_20 rfl ?_
  refine go_dup2 d_P_put_21 rfl rfl ?_
  refine go_ald b (nI n) d_P_put_22 (Nat.le_of_ble_eq_true rfl) rfl rfl hb (by decide) hn ?_
  refine go_iconst (v := 1) d_P_put_23 (by decide) ?_
  refine go_iadd d_P_put_24 ?_
  refine go_top (nI (n + 1)) (nI_1 n) ?_
  refine go_ast b d_P_put_25 (Nat.le_of_ble_eq_true rfl) rfl rfl hb (by decide) ?_
  exact go_vreturn (st := []) d_P_put_26 rfl (Nat.le_of_ble_eq_true rfl) (Nat.le_of_ble_eq_true rfl) rfl
/-- drop: the first token of a buffer goes -/
theorem sp_drop {b n : Nat} (hb : b < 80) (hn : I 35 b = nI (n + 1)) (h2 : n < 2) : pm_Go d m_P_drop 0 [some (.ref 33), some (.int (nI b))] [] 0 0 (ST I J) (.inl none, ST (pm_uI (pm_uI I 34 (b * 2) (I 34 (b * 2 + 1))) 35 b (nI n)) J) := by
  refine go_aload_n d_P_drop_0 rfl ?_
  refine go_getP (j := 2) d_P_drop_1 (Nat.le_of_ble_eq_true rfl) rfl pc_P (Nat.le_of_ble_eq_true rfl) rfl w_116 pt_P_2 ?_
  refine go_iload_n d_P_drop_4 rfl ?_
  refine go_iconst (v := 2) d_P_drop_5 (by decide) ?_
  refine go_imul d_P_drop_6 ?_
  refine go_aload_n d_P_drop_7 rfl ?_
  refine go_getP (j := 2) d_P_drop_8 (Nat.le_of_ble_eq_true rfl) rfl pc_P (Nat.le_of_ble_eq_true rfl) rfl w_116 pt_P_2 ?_
  refine go_iload_n d_P_drop_11 rfl ?_
  refine go_iconst (v := 2) d_P_drop_12 (by decide) ?_
  refine go_imul d_P_drop_13 ?_
  refine go_iconst (v := 1) d_P_drop_14 (by decide) ?_
  refine go_iadd d_P_drop_15 ?_
  refine go_ald (b * 2 + 1) (I 34 (b * 2 + 1)) d_P_drop_16 (Nat.le_of_ble_eq_true rfl) rfl (by rw [show (2 : Int32) = nI 2 from rfl, pk_mul, nI_1]) (by omega) (by decide) rfl ?_
  refine go_ast (b * 2) d_P_drop_17 (Nat.le_of_ble_eq_true rfl) rfl (by rw [show (2 : Int32) = nI 2 from rfl, pk_mul]) (by omega) (by decide) ?_
  refine go_aload_n d_P_drop_18 rfl ?_
  refine go_getP (j := 3) d_P_drop_19 (Nat.le_of_ble_eq_true rfl) rfl pc_P (Nat.le_of_ble_eq_true rfl) rfl w_117 pt_P_3 ?_
  refine go_iload_n d_P_drop_22 rfl ?_
  refine go_dup2 d_P_drop_23 rfl rfl ?_
  refine go_ald b (nI (n + 1)) d_P_drop_24 (Nat.le_of_ble_eq_true rfl) rfl rfl hb (by decide) hn ?_
  refine go_iconst (v := 1) d_P_drop_25 (by decide) ?_
  refine go_isub d_P_drop_26 ?_
  refine go_top (nI n) (by rw [show (1 : Int32) = nI 1 from rfl, pk_sub (by omega)]; rfl) ?_
  refine go_ast b d_P_drop_27 (Nat.le_of_ble_eq_true rfl) rfl rfl hb (by decide) ?_
  exact go_vreturn (st := []) d_P_drop_28 rfl (Nat.le_of_ble_eq_true rfl) (Nat.le_of_ble_eq_true rfl) rfl
/-- lastBuffer -/
theorem sp_lastBuffer {c n : Nat} (hc : c < 20) (hn : I 7 c = nI n) : pm_Go d m_D_lastBuffer 0 [some (.ref 1), some (.int (nI c))] [] 0 0 (ST I J) (.inl (some (.int (nI (c * 4 + n)))), ST I J) := by
  refine go_iload_n d_D_lastBuffer_0 rfl ?_
  refine go_iconst (v := 4) d_D_lastBuffer_1 (by decide) ?_
  refine go_imul d_D_lastBuffer_2 ?_
  refine go_aload_n d_D_lastBuffer_3 rfl ?_
  refine go_getP (j := 9) d_D_lastBuffer_4 (Nat.le_of_ble_eq_true rfl) rfl pc_D (Nat.le_of_ble_eq_true rfl) rfl w_59 pt_D_9 ?_
  refine go_iload_n d_D_lastBuffer_7 rfl ?_
  refine go_ald c (nI n) d_D_lastBuffer_8 (Nat.le_of_ble_eq_true rfl) rfl rfl hc (by decide) hn ?_
  refine go_iadd d_D_lastBuffer_9 ?_
  refine go_top (nI (c * 4 + n)) (by rw [show (4 : Int32) = nI 4 from rfl, pk_mul, nI_add]) ?_
  exact go_ireturn (st := []) d_D_lastBuffer_10 rfl (Nat.le_of_ble_eq_true rfl) (Nat.le_of_ble_eq_true rfl) rfl
theorem sp_linkIn {b n : Nat} {v : Int32} (hb : b < 10) (hn : I 20 b = nI n) (h2 : n < 24) : pm_Go d m_D_linkIn 0 [some (.ref 1), some (.int (nI b)), some (.int v)] [] 0 0 (ST I J) (.inl none, ST (pm_uI (pm_uI I (10 + b) n v) 20 b (nI (n + 1))) J) := by
  refine go_aload_n d_D_linkIn_0 rfl ?_
  refine go_getP (j := 11) d_D_linkIn_1 (Nat.le_of_ble_eq_true rfl) rfl pc_D (Nat.le_of_ble_eq_true rfl) rfl w_64 pt_D_11 ?_
  refine go_iload_n d_D_linkIn_4 rfl ?_
  refine go_row3 b (10 + b) d_D_linkIn_5 (Nat.le_of_ble_eq_true rfl) rfl rfl hb (by decide) (pt_9 b hb) ?_
  refine go_aload_n d_D_linkIn_6 rfl ?_
  refine go_getP (j := 12) d_D_linkIn_7 (Nat.le_of_ble_eq_true rfl) rfl pc_D (Nat.le_of_ble_eq_true rfl) rfl w_66 pt_D_12 ?_
  refine go_iload_n d_D_linkIn_10 rfl ?_
  refine go_ald b (nI n) d_D_linkIn_11 (Nat.le_of_ble_eq_true rfl) rfl rfl hb (by decide) hn ?_
  refine go_iload_n d_D_linkIn_12 rfl ?_
  refine go_ast n d_D_linkIn_13 (show 10 + b < 104 by omega) (sh_10 b hb) rfl h2 (by decide) ?_
  refine go_aload_n d_D_linkIn_14 rfl ?_
  refine go_getP (j := 12) d_D_linkIn_15 (Nat.le_of_ble_eq_true rfl) rfl pc_D (Nat.le_of_ble_eq_true rfl) rfl w_66 pt_D_12 ?_
  refine go_iload_n d_D_linkIn_18 rfl ?_
  refine go_dup2 d_D_linkIn_19 rfl rfl ?_
  refine go_ald b (nI n) d_D_linkIn_20 (Nat.le_of_ble_eq_true rfl) rfl rfl hb (by decide) ((uI_ne (c := 10 + b) (j := n) (v := v) (by omega)).trans hn) ?_
  refine go_iconst (v := 1) d_D_linkIn_21 (by decide) ?_
  refine go_iadd d_D_linkIn_22 ?_
  refine go_top (nI (n + 1)) (nI_1 n) ?_
  refine go_ast b d_D_linkIn_23 (Nat.le_of_ble_eq_true rfl) rfl rfl hb (by decide) ?_
  exact go_vreturn (st := []) d_D_linkIn_24 rfl (Nat.le_of_ble_eq_true rfl) (Nat.le_of_ble_eq_true rfl) rfl
theorem sp_linkOut {b n : Nat} {v : Int32} (hb : b < 10) (hn : I 32 b = nI n) (h2 : n < 24) : pm_Go d m_D_linkOut 0 [some (.ref 1), some (.int (nI b)), some (.int v)] [] 0 0 (ST I J) (.inl none, ST (pm_uI (pm_uI I (22 + b) n v) 32 b (nI (n + 1))) J) := by
  refine go_aload_n d_D_linkOut_0 rfl ?_
  refine go_getP (j := 13) d_D_linkOut_1 (Nat.le_of_ble_eq_true rfl) rfl pc_D (Nat.le_of_ble_eq_true rfl) rfl w_68 pt_D_13 ?_
  refine go_iload_n d_D_linkOut_4 rfl ?_
  refine go_row3 b (22 + b) d_D_linkOut_5 (Nat.le_of_ble_eq_true rfl) rfl rfl hb (by decide) (pt_21 b hb) ?_
  refine go_aload_n d_D_linkOut_6 rfl ?_
  refine go_getP (j := 14) d_D_linkOut_7 (Nat.le_of_ble_eq_true rfl) rfl pc_D (Nat.le_of_ble_eq_true rfl) rfl w_70 pt_D_14 ?_
  refine go_iload_n d_D_linkOut_10 rfl ?_
  refine go_ald b (nI n) d_D_linkOut_11 (Nat.le_of_ble_eq_true rfl) rfl rfl hb (by decide) hn ?_
  refine go_iload_n d_D_linkOut_12 rfl ?_
  refine go_ast n d_D_linkOut_13 (show 22 + b < 104 by omega) (sh_22 b hb) rfl h2 (by decide) ?_
  refine go_aload_n d_D_linkOut_14 rfl ?_
  refine go_getP (j := 14) d_D_linkOut_15 (Nat.le_of_ble_eq_true rfl) rfl pc_D (Nat.le_of_ble_eq_true rfl) rfl w_70 pt_D_14 ?_
  refine go_iload_n d_D_linkOut_18 rfl ?_
  refine go_dup2 d_D_linkOut_19 rfl rfl ?_
  refine go_ald b (nI n) d_D_linkOut_20 (Nat.le_of_ble_eq_true rfl) rfl rfl hb (by decide) ((uI_ne (c := 22 + b) (j := n) (v := v) (by omega)).trans hn) ?_
  refine go_iconst (v := 1) d_D_linkOut_21 (by decide) ?_
  refine go_iadd d_D_linkOut_22 ?_
  refine go_top (nI (n + 1)) (nI_1 n) ?_
  refine go_ast b d_D_linkOut_23 (Nat.le_of_ble_eq_true rfl) rfl rfl hb (by decide) ?_
  exact go_vreturn (st := []) d_D_linkOut_24 rfl (Nat.le_of_ble_eq_true rfl) (Nat.le_of_ble_eq_true rfl) rfl
end S1
