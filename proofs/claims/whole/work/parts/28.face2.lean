/-! the face: what a built machine answers -/
section S17
variable {d : Nat} {I : Nat → Nat → Int32} {J : Nat → Nat → Int64} {D : DZ} {s : MS} {cy : Nat}
theorem sp_ticks (h : I 0 4 = 1) {T : Nat} (hT : I 33 1 = nI T) : pm_Go 9 m_E_ticks 0 [some (.ref 0)] [] 0 0 (ST I J) (.inl (some (.int (nI T))), ST I J) := by
  refine go_aload_n d_E_ticks_0 rfl ?_
  refine go_callV (k2 := m_E_mustBeBuilt) (As := []) (r := none) d_E_ticks_1 ok_E_mustBeBuilt (Nat.le_of_ble_eq_true rfl) rfl pc_E rfl vl_E_102 rfl rfl (Nat.le_of_ble_eq_true rfl) (Nat.le_of_ble_eq_true rfl) (Nat.le_of_ble_eq_true rfl) (Nat.le_of_ble_eq_true rfl) rfl rfl (sp_mustBeBuiltY h) ?_
  refine go_aload_n d_E_ticks_4 rfl ?_
  refine go_getP (j := 1) d_E_ticks_5 (Nat.le_of_ble_eq_true rfl) rfl pc_E (Nat.le_of_ble_eq_true rfl) rfl w_240 pt_E_1 ?_
  refine go_gI (j := 1) (nI T) d_E_ticks_8 (Nat.le_of_ble_eq_true rfl) rfl pc_P (Nat.le_of_ble_eq_true rfl) (by decide) w_115 hT ?_
  exact go_ireturn (st := []) d_E_ticks_11 rfl (Nat.le_of_ble_eq_true rfl) (Nat.le_of_ble_eq_true rfl) rfl
theorem sp_turns {k n : Nat} {v : Int32} (h : I 0 4 = 1) (hn : I 1 0 = nI n) (hn2 : n ≤ 10) (hk : k < n) (hv : I 38 k = v) : pm_Go 9 m_E_turns 0 [some (.ref 0), some (.int (nI k))] [] 0 0 (ST I J) (.inl (some (.int v)), ST I J) := by
  refine go_aload_n d_E_turns_0 rfl ?_
  refine go_callV (k2 := m_E_mustBeBuilt) (As := []) (r := none) d_E_turns_1 ok_E_mustBeBuilt (Nat.le_of_ble_eq_true rfl) rfl pc_E rfl vl_E_102 rfl rfl (Nat.le_of_ble_eq_true rfl) (Nat.le_of_ble_eq_true rfl) (Nat.le_of_ble_eq_true rfl) (Nat.le_of_ble_eq_true rfl) rfl rfl (sp_mustBeBuiltY h) ?_
  refine go_aload_n d_E_turns_4 rfl ?_
  refine go_getP (j := 0) d_E_turns_5 (Nat.le_of_ble_eq_true rfl) rfl pc_E (Nat.le_of_ble_eq_true rfl) rfl w_239 pt_E_0 ?_
  refine go_gI (j := 0) (nI n) d_E_turns_8 (Nat.le_of_ble_eq_true rfl) rfl pc_D (Nat.le_of_ble_eq_true rfl) (by decide) w_33 hn ?_
  refine go_iload_n d_E_turns_11 rfl ?_
  refine go_callS (k2 := m_E_mustBeOneOf) (As := [.int (nI n), .int (nI k)]) (r := none) d_E_turns_12 ok_E_mustBeOneOf sl_E_67 rfl rfl (Nat.le_of_ble_eq_true rfl) (Nat.le_of_ble_eq_true rfl) (Nat.le_of_ble_eq_true rfl) (Nat.le_of_ble_eq_true rfl) rfl rfl (sp_mustBeOneOfY (by omega) hk) ?_
  refine go_aload_n d_E_turns_15 rfl ?_
  refine go_getP (j := 1) d_E_turns_16 (Nat.le_of_ble_eq_true rfl) rfl pc_E (Nat.le_of_ble_eq_true rfl) rfl w_240 pt_E_1 ?_
  refine go_getP (j := 6) d_E_turns_19 (Nat.le_of_ble_eq_true rfl) rfl pc_P (Nat.le_of_ble_eq_true rfl) rfl w_122 pt_P_6 ?_
  refine go_iload_n d_E_turns_22 rfl ?_
  refine go_ald k v d_E_turns_23 (Nat.le_of_ble_eq_true rfl) rfl rfl (by omega) (by decide) hv ?_
  exact go_ireturn (st := []) d_E_turns_24 rfl (Nat.le_of_ble_eq_true rfl) (Nat.le_of_ble_eq_true rfl) rfl
theorem sp_got {k n : Nat} {v : Int32} (h : I 0 4 = 1) (hn : I 1 0 = nI n) (hn2 : n ≤ 10) (hk : k < n) (hv : I 39 k = v) : pm_Go 9 m_E_got 0 [some (.ref 0), some (.int (nI k))] [] 0 0 (ST I J) (.inl (some (.int v)), ST I J) := by
  refine go_aload_n d_E_got_0 rfl ?_
  refine go_callV (k2 := m_E_mustBeBuilt) (As := []) (r := none) d_E_got_1 ok_E_mustBeBuilt (Nat.le_of_ble_eq_true rfl) rfl pc_E rfl vl_E_102 rfl rfl (Nat.le_of_ble_eq_true rfl) (Nat.le_of_ble_eq_true rfl) (Nat.le_of_ble_eq_true rfl) (Nat.le_of_ble_eq_true rfl) rfl rfl (sp_mustBeBuiltY h) ?_
  refine go_aload_n d_E_got_4 rfl ?_
  refine go_getP (j := 0) d_E_got_5 (Nat.le_of_ble_eq_true rfl) rfl pc_E (Nat.le_of_ble_eq_true rfl) rfl w_239 pt_E_0 ?_
  refine go_gI (j := 0) (nI n) d_E_got_8 (Nat.le_of_ble_eq_true rfl) rfl pc_D (Nat.le_of_ble_eq_true rfl) (by decide) w_33 hn ?_
  refine go_iload_n d_E_got_11 rfl ?_
  refine go_callS (k2 := m_E_mustBeOneOf) (As := [.int (nI n), .int (nI k)]) (r := none) d_E_got_12 ok_E_mustBeOneOf sl_E_67 rfl rfl (Nat.le_of_ble_eq_true rfl) (Nat.le_of_ble_eq_true rfl) (Nat.le_of_ble_eq_true rfl) (Nat.le_of_ble_eq_true rfl) rfl rfl (sp_mustBeOneOfY (by omega) hk) ?_
  refine go_aload_n d_E_got_15 rfl ?_
  refine go_getP (j := 1) d_E_got_16 (Nat.le_of_ble_eq_true rfl) rfl pc_E (Nat.le_of_ble_eq_true rfl) rfl w_240 pt_E_1 ?_
  refine go_getP (j := 7) d_E_got_19 (Nat.le_of_ble_eq_true rfl) rfl pc_P (Nat.le_of_ble_eq_true rfl) rfl w_124 pt_P_7 ?_
  refine go_iload_n d_E_got_22 rfl ?_
  refine go_ald k v d_E_got_23 (Nat.le_of_ble_eq_true rfl) rfl rfl (by omega) (by decide) hv ?_
  exact go_ireturn (st := []) d_E_got_24 rfl (Nat.le_of_ble_eq_true rfl) (Nat.le_of_ble_eq_true rfl) rfl
theorem sp_taken {k n : Nat} {v : Int32} (h : I 0 4 = 1) (hn : I 1 2 = nI n) (hn2 : n ≤ 4) (hk : k < n) (hv : I 42 k = v) : pm_Go 9 m_E_taken 0 [some (.ref 0), some (.int (nI k))] [] 0 0 (ST I J) (.inl (some (.int v)), ST I J) := by
  refine go_aload_n d_E_taken_0 rfl ?_
  refine go_callV (k2 := m_E_mustBeBuilt) (As := []) (r := none) d_E_taken_1 ok_E_mustBeBuilt (Nat.le_of_ble_eq_true rfl) rfl pc_E rfl vl_E_102 rfl rfl (Nat.le_of_ble_eq_true rfl) (Nat.le_of_ble_eq_true rfl) (Nat.le_of_ble_eq_true rfl) (Nat.le_of_ble_eq_true rfl) rfl rfl (sp_mustBeBuiltY h) ?_
  refine go_aload_n d_E_taken_4 rfl ?_
  refine go_getP (j := 0) d_E_taken_5 (Nat.le_of_ble_eq_true rfl) rfl pc_E (Nat.le_of_ble_eq_true rfl) rfl w_239 pt_E_0 ?_
  refine go_gI (j := 2) (nI n) d_E_taken_8 (Nat.le_of_ble_eq_true rfl) rfl pc_D (Nat.le_of_ble_eq_true rfl) (by decide) w_45 hn ?_
  refine go_iload_n d_E_taken_11 rfl ?_
  refine go_callS (k2 := m_E_mustBeOneOf) (As := [.int (nI n), .int (nI k)]) (r := none) d_E_taken_12 ok_E_mustBeOneOf sl_E_67 rfl rfl (Nat.le_of_ble_eq_true rfl) (Nat.le_of_ble_eq_true rfl) (Nat.le_of_ble_eq_true rfl) (Nat.le_of_ble_eq_true rfl) rfl rfl (sp_mustBeOneOfY (by omega) hk) ?_
  refine go_aload_n d_E_taken_15 rfl ?_
  refine go_getP (j := 1) d_E_taken_16 (Nat.le_of_ble_eq_true rfl) rfl pc_E (Nat.le_of_ble_eq_true rfl) rfl w_240 pt_E_1 ?_
  refine go_getP (j := 11) d_E_taken_19 (Nat.le_of_ble_eq_true rfl) rfl pc_P (Nat.le_of_ble_eq_true rfl) rfl w_129 pt_P_11 ?_
  refine go_iload_n d_E_taken_22 rfl ?_
  refine go_ald k v d_E_taken_23 (Nat.le_of_ble_eq_true rfl) rfl rfl (by omega) (by decide) hv ?_
  exact go_ireturn (st := []) d_E_taken_24 rfl (Nat.le_of_ble_eq_true rfl) (Nat.le_of_ble_eq_true rfl) rfl
theorem sp_given {k n : Nat} {v : Int32} (h : I 0 4 = 1) (hn : I 1 3 = nI n) (hn2 : n ≤ 4) (hk : k < n) (hv : I 48 k = v) : pm_Go 9 m_E_given 0 [some (.ref 0), some (.int (nI k))] [] 0 0 (ST I J) (.inl (some (.int v)), ST I J) := by
  refine go_aload_n d_E_given_0 rfl ?_
  refine go_callV (k2 := m_E_mustBeBuilt) (As := []) (r := none) d_E_given_1 ok_E_mustBeBuilt (Nat.le_of_ble_eq_true rfl) rfl pc_E rfl vl_E_102 rfl rfl (Nat.le_of_ble_eq_true rfl) (Nat.le_of_ble_eq_true rfl) (Nat.le_of_ble_eq_true rfl) (Nat.le_of_ble_eq_true rfl) rfl rfl (sp_mustBeBuiltY h) ?_
  refine go_aload_n d_E_given_4 rfl ?_
  refine go_getP (j := 0) d_E_given_5 (Nat.le_of_ble_eq_true rfl) rfl pc_E (Nat.le_of_ble_eq_true rfl) rfl w_239 pt_E_0 ?_
  refine go_gI (j := 3) (nI n) d_E_given_8 (Nat.le_of_ble_eq_true rfl) rfl pc_D (Nat.le_of_ble_eq_true rfl) (by decide) w_48 hn ?_
  refine go_iload_n d_E_given_11 rfl ?_
  refine go_callS (k2 := m_E_mustBeOneOf) (As := [.int (nI n), .int (nI k)]) (r := none) d_E_given_12 ok_E_mustBeOneOf sl_E_67 rfl rfl (Nat.le_of_ble_eq_true rfl) (Nat.le_of_ble_eq_true rfl) (Nat.le_of_ble_eq_true rfl) (Nat.le_of_ble_eq_true rfl) rfl rfl (sp_mustBeOneOfY (by omega) hk) ?_
  refine go_aload_n d_E_given_15 rfl ?_
  refine go_getP (j := 1) d_E_given_16 (Nat.le_of_ble_eq_true rfl) rfl pc_E (Nat.le_of_ble_eq_true rfl) rfl w_240 pt_E_1 ?_
  refine go_getP (j := 13) d_E_given_19 (Nat.le_of_ble_eq_true rfl) rfl pc_P (Nat.le_of_ble_eq_true rfl) rfl w_133 pt_P_13 ?_
  refine go_iload_n d_E_given_22 rfl ?_
  refine go_ald k v d_E_given_23 (Nat.le_of_ble_eq_true rfl) rfl rfl (by omega) (by decide) hv ?_
  exact go_ireturn (st := []) d_E_given_24 rfl (Nat.le_of_ble_eq_true rfl) (Nat.le_of_ble_eq_true rfl) rfl
theorem sp_inside {k n x b : Nat} {v : Int32} (h : I 0 4 = 1) (hn : I 1 1 = nI n) (hn2 : n ≤ 20) (hk : k < n) (he : I 7 k = nI x) (hx3 : x ≤ 3) (hb : b < x + 1) (hv : I 35 (k * 4 + b) = v) : pm_Go 9 m_E_inside 0 [some (.ref 0), some (.int (nI k)), some (.int (nI b))] [] 0 0 (ST I J) (.inl (some (.int v)), ST I J) := by
  refine go_aload_n d_E_inside_0 rfl ?_
  refine go_callV (k2 := m_E_mustBeBuilt) (As := []) (r := none) d_E_inside_1 ok_E_mustBeBuilt (Nat.le_of_ble_eq_true rfl) rfl pc_E rfl vl_E_102 rfl rfl (Nat.le_of_ble_eq_true rfl) (Nat.le_of_ble_eq_true rfl) (Nat.le_of_ble_eq_true rfl) (Nat.le_of_ble_eq_true rfl) rfl rfl (sp_mustBeBuiltY h) ?_
  refine go_aload_n d_E_inside_4 rfl ?_
  refine go_getP (j := 0) d_E_inside_5 (Nat.le_of_ble_eq_true rfl) rfl pc_E (Nat.le_of_ble_eq_true rfl) rfl w_239 pt_E_0 ?_
  refine go_gI (j := 1) (nI n) d_E_inside_8 (Nat.le_of_ble_eq_true rfl) rfl pc_D (Nat.le_of_ble_eq_true rfl) (by decide) w_41 hn ?_
  refine go_iload_n d_E_inside_11 rfl ?_
  refine go_callS (k2 := m_E_mustBeOneOf) (As := [.int (nI n), .int (nI k)]) (r := none) d_E_inside_12 ok_E_mustBeOneOf sl_E_67 rfl rfl (Nat.le_of_ble_eq_true rfl) (Nat.le_of_ble_eq_true rfl) (Nat.le_of_ble_eq_true rfl) (Nat.le_of_ble_eq_true rfl) rfl rfl (sp_mustBeOneOfY (by omega) hk) ?_
  refine go_aload_n d_E_inside_15 rfl ?_
  refine go_getP (j := 0) d_E_inside_16 (Nat.le_of_ble_eq_true rfl) rfl pc_E (Nat.le_of_ble_eq_true rfl) rfl w_239 pt_E_0 ?_
  refine go_getP (j := 9) d_E_inside_19 (Nat.le_of_ble_eq_true rfl) rfl pc_D (Nat.le_of_ble_eq_true rfl) rfl w_61 pt_D_9 ?_
  refine go_iload_n d_E_inside_22 rfl ?_
  refine go_ald k (nI x) d_E_inside_23 (Nat.le_of_ble_eq_true rfl) rfl rfl (by omega) (by decide) he ?_
  refine go_iconst (v := 1) d_E_inside_24 (by decide) ?_
  refine go_iadd d_E_inside_25 ?_
  refine go_top (nI (x + 1)) (nI_1 _) ?_
  refine go_iload_n d_E_inside_26 rfl ?_
  refine go_callS (k2 := m_E_mustBeOneOf) (As := [.int (nI (x + 1)), .int (nI b)]) (r := none) d_E_inside_27 ok_E_mustBeOneOf sl_E_67 rfl rfl (Nat.le_of_ble_eq_true rfl) (Nat.le_of_ble_eq_true rfl) (Nat.le_of_ble_eq_true rfl) (Nat.le_of_ble_eq_true rfl) rfl rfl (sp_mustBeOneOfY (by omega) hb) ?_
  refine go_aload_n d_E_inside_30 rfl ?_
  refine go_getP (j := 1) d_E_inside_31 (Nat.le_of_ble_eq_true rfl) rfl pc_E (Nat.le_of_ble_eq_true rfl) rfl w_240 pt_E_1 ?_
  refine go_getP (j := 3) d_E_inside_34 (Nat.le_of_ble_eq_true rfl) rfl pc_P (Nat.le_of_ble_eq_true rfl) rfl w_118 pt_P_3 ?_
  refine go_iload_n d_E_inside_37 rfl ?_
  refine go_iconst (v := 4) d_E_inside_38 (by decide) ?_
  refine go_imul d_E_inside_39 ?_
  refine go_top (nI (k * 4)) (pk_mul k 4) ?_
  refine go_iload_n d_E_inside_40 rfl ?_
  refine go_iadd d_E_inside_41 ?_
  refine go_top (nI (k * 4 + b)) (nI_add _ _) ?_
  refine go_ald (k * 4 + b) v d_E_inside_42 (Nat.le_of_ble_eq_true rfl) rfl rfl (by omega) (by decide) hv ?_
  exact go_ireturn (st := []) d_E_inside_43 rfl (Nat.le_of_ble_eq_true rfl) (Nat.le_of_ble_eq_true rfl) rfl
theorem sp_value {k n m j : Nat} {v : Int64} (h : I 0 4 = 1) (hn : I 1 3 = nI n) (hn2 : n ≤ 4) (hk : k < n) (hm : I 48 k = nI m) (hm2 : m ≤ 1000) (hj : j < m) (hv : J (50 + k) j = v) : pm_Go 9 m_E_value 0 [some (.ref 0), some (.int (nI k)), some (.int (nI j))] [] 0 0 (ST I J) (.inl (some (.long v)), ST I J) := by
  refine go_aload_n d_E_value_0 rfl ?_
  refine go_callV (k2 := m_E_mustBeBuilt) (As := []) (r := none) d_E_value_1 ok_E_mustBeBuilt (Nat.le_of_ble_eq_true rfl) rfl pc_E rfl vl_E_102 rfl rfl (Nat.le_of_ble_eq_true rfl) (Nat.le_of_ble_eq_true rfl) (Nat.le_of_ble_eq_true rfl) (Nat.le_of_ble_eq_true rfl) rfl rfl (sp_mustBeBuiltY h) ?_
  refine go_aload_n d_E_value_4 rfl ?_
  refine go_getP (j := 0) d_E_value_5 (Nat.le_of_ble_eq_true rfl) rfl pc_E (Nat.le_of_ble_eq_true rfl) rfl w_239 pt_E_0 ?_
  refine go_gI (j := 3) (nI n) d_E_value_8 (Nat.le_of_ble_eq_true rfl) rfl pc_D (Nat.le_of_ble_eq_true rfl) (by decide) w_48 hn ?_
  refine go_iload_n d_E_value_11 rfl ?_
  refine go_callS (k2 := m_E_mustBeOneOf) (As := [.int (nI n), .int (nI k)]) (r := none) d_E_value_12 ok_E_mustBeOneOf sl_E_67 rfl rfl (Nat.le_of_ble_eq_true rfl) (Nat.le_of_ble_eq_true rfl) (Nat.le_of_ble_eq_true rfl) (Nat.le_of_ble_eq_true rfl) rfl rfl (sp_mustBeOneOfY (by omega) hk) ?_
  refine go_iload_n d_E_value_15 rfl ?_
  refine go_if_lt (tgt := 32) d_E_value_16 (by decide) (fun z => absurd z (nI_pos (by omega))) (fun z => ?_)
  refine go_iload_n d_E_value_19 rfl ?_
  refine go_aload_n d_E_value_20 rfl ?_
  refine go_getP (j := 1) d_E_value_21 (Nat.le_of_ble_eq_true rfl) rfl pc_E (Nat.le_of_ble_eq_true rfl) rfl w_240 pt_E_1 ?_
  refine go_getP (j := 13) d_E_value_24 (Nat.le_of_ble_eq_true rfl) rfl pc_P (Nat.le_of_ble_eq_true rfl) rfl w_133 pt_P_13 ?_
  refine go_iload_n d_E_value_27 rfl ?_
  refine go_ald k (nI m) d_E_value_28 (Nat.le_of_ble_eq_true rfl) rfl rfl (by omega) (by decide) hm ?_
  refine go_icmp_lt (tgt := 42) d_E_value_29 (by decide) (fun z => ?_) (fun z => absurd (nI_lt hj (by omega)) z)
  refine go_aload_n d_E_value_42 rfl ?_
  refine go_getP (j := 1) d_E_value_43 (Nat.le_of_ble_eq_true rfl) rfl pc_E (Nat.le_of_ble_eq_true rfl) rfl w_240 pt_E_1 ?_
  refine go_getP (j := 14) d_E_value_46 (Nat.le_of_ble_eq_true rfl) rfl pc_P (Nat.le_of_ble_eq_true rfl) rfl w_135 pt_P_14 ?_
  refine go_iload_n d_E_value_49 rfl ?_
  refine go_row4 k (50 + k) d_E_value_50 (Nat.le_of_ble_eq_true rfl) rfl rfl (by omega) (by decide) (pt_49 _ (by omega)) ?_
  refine go_iload_n d_E_value_51 rfl ?_
  refine go_lald j v d_E_value_52 (show 50 + k < 104 by omega) (sh_50 _ (by omega)) rfl (by omega) (by decide) hv ?_
  exact go_lreturn (st := []) d_E_value_53 rfl (Nat.le_of_ble_eq_true rfl) (Nat.le_of_ble_eq_true rfl) rfl
theorem sp_value_X3 {k n m : Nat} {b : Int32} (h : I 0 4 = 1) (hn : I 1 3 = nI n) (hn2 : n ≤ 4) (hk : k < n) (hm : I 48 k = nI m) (hm2 : m ≤ 1000) (hx : ¬ okN b m) : pm_Go 9 m_E_value 0 [some (.ref 0), some (.int (nI k)), some (.int b)] [] 0 0 (ST I J) (.inr "java/lang/IndexOutOfBoundsException", ST I J) := by
  refine go_aload_n d_E_value_0 rfl ?_
  refine go_callV (k2 := m_E_mustBeBuilt) (As := []) (r := none) d_E_value_1 ok_E_mustBeBuilt (Nat.le_of_ble_eq_true rfl) rfl pc_E rfl vl_E_102 rfl rfl (Nat.le_of_ble_eq_true rfl) (Nat.le_of_ble_eq_true rfl) (Nat.le_of_ble_eq_true rfl) (Nat.le_of_ble_eq_true rfl) rfl rfl (sp_mustBeBuiltY h) ?_
  refine go_aload_n d_E_value_4 rfl ?_
  refine go_getP (j := 0) d_E_value_5 (Nat.le_of_ble_eq_true rfl) rfl pc_E (Nat.le_of_ble_eq_true rfl) rfl w_239 pt_E_0 ?_
  refine go_gI (j := 3) (nI n) d_E_value_8 (Nat.le_of_ble_eq_true rfl) rfl pc_D (Nat.le_of_ble_eq_true rfl) (by decide) w_48 hn ?_
  refine go_iload_n d_E_value_11 rfl ?_
  refine go_callS (k2 := m_E_mustBeOneOf) (As := [.int (nI n), .int (nI k)]) (r := none) d_E_value_12 ok_E_mustBeOneOf sl_E_67 rfl rfl (Nat.le_of_ble_eq_true rfl) (Nat.le_of_ble_eq_true rfl) (Nat.le_of_ble_eq_true rfl) (Nat.le_of_ble_eq_true rfl) rfl rfl (sp_mustBeOneOfY (by omega) hk) ?_
  refine go_iload_n d_E_value_15 rfl ?_
  by_cases h1 : b < 0
  · refine go_if_lt (tgt := 32) d_E_value_16 (by decide) (fun z => ?_) (fun z => absurd h1 z)
    exact go_throwS d_E_value_32 d_E_value_35 d_E_value_36 d_E_value_38 d_E_value_41 tw_vl rfl (by decide) (by decide) (Nat.le_of_ble_eq_true rfl) (Nat.le_of_ble_eq_true rfl) rfl
  · refine go_if_lt (tgt := 32) d_E_value_16 (by decide) (fun z => absurd z h1) (fun z => ?_)
    refine go_iload_n d_E_value_19 rfl ?_
    refine go_aload_n d_E_value_20 rfl ?_
    refine go_getP (j := 1) d_E_value_21 (Nat.le_of_ble_eq_true rfl) rfl pc_E (Nat.le_of_ble_eq_true rfl) rfl w_240 pt_E_1 ?_
    refine go_getP (j := 13) d_E_value_24 (Nat.le_of_ble_eq_true rfl) rfl pc_P (Nat.le_of_ble_eq_true rfl) rfl w_133 pt_P_13 ?_
    refine go_iload_n d_E_value_27 rfl ?_
    refine go_ald k (nI m) d_E_value_28 (Nat.le_of_ble_eq_true rfl) rfl rfl (by omega) (by decide) hm ?_
    refine go_icmp_lt (tgt := 42) d_E_value_29 (by decide) (fun z => absurd (okN_of (by omega) h1 z) hx) (fun z => ?_)
    exact go_throwS d_E_value_32 d_E_value_35 d_E_value_36 d_E_value_38 d_E_value_41 tw_vl rfl (by decide) (by decide) (Nat.le_of_ble_eq_true rfl) (Nat.le_of_ble_eq_true rfl) rfl
theorem sp_E_start (hD : DW D) (rD : RD I D) : ∃ I', pm_Go (d + 2) m_E_standAtStart 0 [some (.ref 0)] [] 0 0 (ST I J) (.inl none, ST I' J) ∧ RQ I' J D (iniM D) ∧ RK I' D (iniM D) 0 ∧ fr [33, 34, 35, 38, 39, 42, 48, 54, 55] I I' := by
  obtain ⟨I1, a1, a2, a3⟩ := sp_reset (d := d) (J := J) hD rD
  obtain ⟨I2, b1, b2, b3⟩ := sp_C_reset (d := d) (J := J) hD (rD.fr hD a3 (by decide))
  refine ⟨I2, ?_, ?_, b2, (a3.up (by decide)).tr (b3.up (by decide))⟩
  · refine go_aload_n d_E_standAtStart_0 rfl ?_
    refine go_getP (j := 1) d_E_standAtStart_1 (Nat.le_of_ble_eq_true rfl) rfl pc_E (Nat.le_of_ble_eq_true rfl) rfl w_240 pt_E_1 ?_
    refine go_callV (k2 := m_P_reset) (As := []) (r := none) d_E_standAtStart_4 ok_P_reset (Nat.le_of_ble_eq_true rfl) rfl pc_P rfl vl_E_167 rfl rfl (Nat.le_of_ble_eq_true rfl) (Nat.le_of_ble_eq_true rfl) (Nat.le_of_ble_eq_true rfl) (Nat.le_of_ble_eq_true rfl) rfl rfl a1 ?_
    refine go_aload_n d_E_standAtStart_7 rfl ?_
    refine go_getP (j := 2) d_E_standAtStart_8 (Nat.le_of_ble_eq_true rfl) rfl pc_E (Nat.le_of_ble_eq_true rfl) rfl w_241 pt_E_2 ?_
    refine go_callV (k2 := m_C_reset) (As := []) (r := none) d_E_standAtStart_11 ok_C_reset (Nat.le_of_ble_eq_true rfl) rfl pc_C rfl vl_E_170 rfl rfl (Nat.le_of_ble_eq_true rfl) (Nat.le_of_ble_eq_true rfl) (Nat.le_of_ble_eq_true rfl) (Nat.le_of_ble_eq_true rfl) rfl rfl b1 ?_
    exact go_vreturn (st := []) d_E_standAtStart_14 rfl (Nat.le_of_ble_eq_true rfl) (Nat.le_of_ble_eq_true rfl) rfl
  · refine RQ.mk ?_ ?_ ?_ ?_ ?_ ?_ ?_ ?_
    · rw [b3 33 (by decide)]; exact a2.T
    · exact a2.B.fr b3 (by decide) (by decide)
    · rw [b3 38 (by decide)]; exact a2.tu
    · rw [b3 39 (by decide)]; exact a2.got
    · rw [b3 33 (by decide)]; exact a2.wt
    · rw [b3 41 (by decide)]; exact a2.wv
    · exact a2.tk.fr b3 (by decide)
    · exact a2.gv.fr b3 (by decide)
theorem sp_restart (h : I 0 4 = 1) (hD : DW D) (rD : RD I D) : ∃ I', pm_Go 9 m_E_restart 0 [some (.ref 0)] [] 0 0 (ST I J) (.inl none, ST I' J) ∧ RQ I' J D (iniM D) ∧ RK I' D (iniM D) 0 ∧ fr [33, 34, 35, 38, 39, 42, 48, 54, 55] I I' := by
  obtain ⟨I1, a1, a2⟩ := sp_E_start (d := 6) (J := J) hD rD
  refine ⟨I1, ?_, a2⟩
  refine go_aload_n d_E_restart_0 rfl ?_
  refine go_callV (k2 := m_E_mustBeBuilt) (As := []) (r := none) d_E_restart_1 ok_E_mustBeBuilt (Nat.le_of_ble_eq_true rfl) rfl pc_E rfl vl_E_102 rfl rfl (Nat.le_of_ble_eq_true rfl) (Nat.le_of_ble_eq_true rfl) (Nat.le_of_ble_eq_true rfl) (Nat.le_of_ble_eq_true rfl) rfl rfl (sp_mustBeBuiltY h) ?_
  refine go_aload_n d_E_restart_4 rfl ?_
  refine go_callV (k2 := m_E_standAtStart) (As := []) (r := none) d_E_restart_5 ok_E_standAtStart (Nat.le_of_ble_eq_true rfl) rfl pc_E rfl vl_E_92 rfl rfl (Nat.le_of_ble_eq_true rfl) (Nat.le_of_ble_eq_true rfl) (Nat.le_of_ble_eq_true rfl) (Nat.le_of_ble_eq_true rfl) rfl rfl a1 ?_
  exact go_vreturn (st := []) d_E_restart_8 rfl (Nat.le_of_ble_eq_true rfl) (Nat.le_of_ble_eq_true rfl) rfl
theorem sp_offerN {p : Nat} {v : Int32} (h : I 0 4 = 1) (hD : DW D) (rD : RD I D) (hM : MI D s) (hp : p < D.ni) (rQ : RQ I J D s) (ho : s.tu (D.ito p) < s.off p ∨ s.off p = 1000) : pm_Go 9 m_E_offer 0 [some (.ref 0), some (.int (nI p)), some (.int v)] [] 0 0 (ST I J) (.inl (some (.int 0)), ST I J) := by
  have hni := hD.ni
  refine go_aload_n d_E_offer_0 rfl ?_
  refine go_callV (k2 := m_E_mustBeBuilt) (As := []) (r := none) d_E_offer_1 ok_E_mustBeBuilt (Nat.le_of_ble_eq_true rfl) rfl pc_E rfl vl_E_102 rfl rfl (Nat.le_of_ble_eq_true rfl) (Nat.le_of_ble_eq_true rfl) (Nat.le_of_ble_eq_true rfl) (Nat.le_of_ble_eq_true rfl) rfl rfl (sp_mustBeBuiltY h) ?_
  refine go_aload_n d_E_offer_4 rfl ?_
  refine go_getP (j := 0) d_E_offer_5 (Nat.le_of_ble_eq_true rfl) rfl pc_E (Nat.le_of_ble_eq_true rfl) rfl w_239 pt_E_0 ?_
  refine go_gI (j := 2) (nI D.ni) d_E_offer_8 (Nat.le_of_ble_eq_true rfl) rfl pc_D (Nat.le_of_ble_eq_true rfl) (by decide) w_45 rD.ni ?_
  refine go_iload_n d_E_offer_11 rfl ?_
  refine go_callS (k2 := m_E_mustBeOneOf) (As := [.int (nI D.ni), .int (nI p)]) (r := none) d_E_offer_12 ok_E_mustBeOneOf sl_E_67 rfl rfl (Nat.le_of_ble_eq_true rfl) (Nat.le_of_ble_eq_true rfl) (Nat.le_of_ble_eq_true rfl) (Nat.le_of_ble_eq_true rfl) rfl rfl (sp_mustBeOneOfY (by omega) hp) ?_
  refine go_aload_n d_E_offer_15 rfl ?_
  refine go_getP (j := 1) d_E_offer_16 (Nat.le_of_ble_eq_true rfl) rfl pc_E (Nat.le_of_ble_eq_true rfl) rfl w_240 pt_E_1 ?_
  refine go_iload_n d_E_offer_19 rfl ?_
  refine go_iload_n d_E_offer_20 rfl ?_
  refine go_callV (k2 := m_P_letWait) (As := [.int (nI p), .int v]) (r := some (.int 0)) d_E_offer_21 ok_P_letWait (Nat.le_of_ble_eq_true rfl) rfl pc_P rfl vl_E_108 rfl rfl (Nat.le_of_ble_eq_true rfl) (Nat.le_of_ble_eq_true rfl) (Nat.le_of_ble_eq_true rfl) (Nat.le_of_ble_eq_true rfl) rfl rfl (sp_letWaitN hD hM hp rQ ho) ?_
  exact go_zreturn (st := []) d_E_offer_24 rfl (Nat.le_of_ble_eq_true rfl) (Nat.le_of_ble_eq_true rfl) rfl (Or.inl rfl)
theorem sp_offerY {p : Nat} {v : Int32} (h : I 0 4 = 1) (hD : DW D) (rD : RD I D) (hM : MI D s) (hp : p < D.ni) (rQ : RQ I J D s) (ho : s.off p = s.tu (D.ito p)) (ho2 : s.off p < 1000) : ∃ I', pm_Go 9 m_E_offer 0 [some (.ref 0), some (.int (nI p)), some (.int v)] [] 0 0 (ST I J) (.inl (some (.int 1)), ST I' J) ∧ RQ I' J D (ofM s p v) ∧ fr [33, 41] I I' := by
  have hni := hD.ni
  obtain ⟨I', a1, a2⟩ := sp_letWaitY (d := 7) (v := v) hD hM hp rQ ho ho2
  refine ⟨I', ?_, a2⟩
  refine go_aload_n d_E_offer_0 rfl ?_
  refine go_callV (k2 := m_E_mustBeBuilt) (As := []) (r := none) d_E_offer_1 ok_E_mustBeBuilt (Nat.le_of_ble_eq_true rfl) rfl pc_E rfl vl_E_102 rfl rfl (Nat.le_of_ble_eq_true rfl) (Nat.le_of_ble_eq_true rfl) (Nat.le_of_ble_eq_true rfl) (Nat.le_of_ble_eq_true rfl) rfl rfl (sp_mustBeBuiltY h) ?_
  refine go_aload_n d_E_offer_4 rfl ?_
  refine go_getP (j := 0) d_E_offer_5 (Nat.le_of_ble_eq_true rfl) rfl pc_E (Nat.le_of_ble_eq_true rfl) rfl w_239 pt_E_0 ?_
  refine go_gI (j := 2) (nI D.ni) d_E_offer_8 (Nat.le_of_ble_eq_true rfl) rfl pc_D (Nat.le_of_ble_eq_true rfl) (by decide) w_45 rD.ni ?_
  refine go_iload_n d_E_offer_11 rfl ?_
  refine go_callS (k2 := m_E_mustBeOneOf) (As := [.int (nI D.ni), .int (nI p)]) (r := none) d_E_offer_12 ok_E_mustBeOneOf sl_E_67 rfl rfl (Nat.le_of_ble_eq_true rfl) (Nat.le_of_ble_eq_true rfl) (Nat.le_of_ble_eq_true rfl) (Nat.le_of_ble_eq_true rfl) rfl rfl (sp_mustBeOneOfY (by omega) hp) ?_
  refine go_aload_n d_E_offer_15 rfl ?_
  refine go_getP (j := 1) d_E_offer_16 (Nat.le_of_ble_eq_true rfl) rfl pc_E (Nat.le_of_ble_eq_true rfl) rfl w_240 pt_E_1 ?_
  refine go_iload_n d_E_offer_19 rfl ?_
  refine go_iload_n d_E_offer_20 rfl ?_
  refine go_callV (k2 := m_P_letWait) (As := [.int (nI p), .int v]) (r := some (.int 1)) d_E_offer_21 ok_P_letWait (Nat.le_of_ble_eq_true rfl) rfl pc_P rfl vl_E_108 rfl rfl (Nat.le_of_ble_eq_true rfl) (Nat.le_of_ble_eq_true rfl) (Nat.le_of_ble_eq_true rfl) (Nat.le_of_ble_eq_true rfl) rfl rfl a1 ?_
  exact go_zreturn (st := []) d_E_offer_24 rfl (Nat.le_of_ble_eq_true rfl) (Nat.le_of_ble_eq_true rfl) rfl (Or.inr rfl)
theorem sp_tickN {a : Int32} (h : I 0 4 = 1) (hT : I 33 1 = nI 1000) : pm_Go 9 m_E_tick 0 [some (.ref 0), some (.int a)] [] 0 0 (ST I J) (.inl (some (.int (-1))), ST I J) := by
  refine go_aload_n d_E_tick_0 rfl ?_
  refine go_callV (k2 := m_E_mustBeBuilt) (As := []) (r := none) d_E_tick_1 ok_E_mustBeBuilt (Nat.le_of_ble_eq_true rfl) rfl pc_E rfl vl_E_102 rfl rfl (Nat.le_of_ble_eq_true rfl) (Nat.le_of_ble_eq_true rfl) (Nat.le_of_ble_eq_true rfl) (Nat.le_of_ble_eq_true rfl) rfl rfl (sp_mustBeBuiltY h) ?_
  refine go_aload_n d_E_tick_4 rfl ?_
  refine go_getP (j := 1) d_E_tick_5 (Nat.le_of_ble_eq_true rfl) rfl pc_E (Nat.le_of_ble_eq_true rfl) rfl w_240 pt_E_1 ?_
  refine go_gI (j := 1) (nI 1000) d_E_tick_8 (Nat.le_of_ble_eq_true rfl) rfl pc_P (Nat.le_of_ble_eq_true rfl) (by decide) w_115 hT ?_
  refine go_sipush (v := 1000) d_E_tick_11 (by decide) ?_
  refine go_icmp_lt (tgt := 19) d_E_tick_14 (by decide) (fun z => absurd z (by decide)) (fun z => ?_)
  refine go_iconst (v := -1) d_E_tick_17 (by decide) ?_
  exact go_ireturn (st := []) d_E_tick_18 rfl (Nat.le_of_ble_eq_true rfl) (Nat.le_of_ble_eq_true rfl) rfl
theorem sp_tickY {a : Int32} (h : I 0 4 = 1) (hD : DW D) (hM : MI D s) (hT : s.T < 1000) (rD : RD I D) (rQ : RQ I J D s) : ∃ I' J', pm_Go 9 m_E_tick 0 [some (.ref 0), some (.int a)] [] 0 0 (ST I J) (.inl (some (.int (tlM D s a D.nb))), ST I' J') ∧ RQ I' J' D (stepM D s a) ∧ fr [33, 34, 35, 36, 37, 38, 39, 40, 42, 44, 45, 46, 47, 48] I I' ∧ (∀ c, (c < 50 ∨ 53 < c) → J' c = J c) := by
  obtain ⟨I', J', a1, a2⟩ := sp_step (d := 4) (stl := a) hD hM hT rD rQ
  refine ⟨I', J', ?_, a2⟩
  refine go_aload_n d_E_tick_0 rfl ?_
  refine go_callV (k2 := m_E_mustBeBuilt) (As := []) (r := none) d_E_tick_1 ok_E_mustBeBuilt (Nat.le_of_ble_eq_true rfl) rfl pc_E rfl vl_E_102 rfl rfl (Nat.le_of_ble_eq_true rfl) (Nat.le_of_ble_eq_true rfl) (Nat.le_of_ble_eq_true rfl) (Nat.le_of_ble_eq_true rfl) rfl rfl (sp_mustBeBuiltY h) ?_
  refine go_aload_n d_E_tick_4 rfl ?_
  refine go_getP (j := 1) d_E_tick_5 (Nat.le_of_ble_eq_true rfl) rfl pc_E (Nat.le_of_ble_eq_true rfl) rfl w_240 pt_E_1 ?_
  refine go_gI (j := 1) (nI s.T) d_E_tick_8 (Nat.le_of_ble_eq_true rfl) rfl pc_P (Nat.le_of_ble_eq_true rfl) (by decide) w_115 rQ.T ?_
  refine go_sipush (v := 1000) d_E_tick_11 (by decide) ?_
  refine go_icmp_lt (tgt := 19) d_E_tick_14 (by decide) (fun z => ?_) (fun z => absurd (nI_lt hT (by decide)) z)
  refine go_aload_n d_E_tick_19 rfl ?_
  refine go_getP (j := 1) d_E_tick_20 (Nat.le_of_ble_eq_true rfl) rfl pc_E (Nat.le_of_ble_eq_true rfl) rfl w_240 pt_E_1 ?_
  refine go_iload_n d_E_tick_23 rfl ?_
  refine go_callV (k2 := m_P_step) (As := [.int a]) (r := some (.int (tlM D s a D.nb))) d_E_tick_24 ok_P_step (Nat.le_of_ble_eq_true rfl) rfl pc_P rfl vl_E_115 rfl rfl (Nat.le_of_ble_eq_true rfl) (Nat.le_of_ble_eq_true rfl) (Nat.le_of_ble_eq_true rfl) (Nat.le_of_ble_eq_true rfl) rfl rfl a1 ?_
  exact go_ireturn (st := []) d_E_tick_27 rfl (Nat.le_of_ble_eq_true rfl) (Nat.le_of_ble_eq_true rfl) rfl
end S17
