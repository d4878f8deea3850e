/-! the face: what is asked first -/
section S16
variable {d : Nat} {I : Nat → Nat → Int32} {J : Nat → Nat → Int64} {D : DZ} {s : MS} {cy : Nat}
def okN (x : Int32) (n : Nat) : Prop := ∃ k, k < n ∧ x = nI k
theorem okN_of {x : Int32} {n : Nat} (hn : n < 2 ^ 31) (h1 : ¬ x < 0) (h2 : x < nI n) : okN x n := by
  obtain ⟨j, hj, e⟩ := nI_of h1
  subst e
  exact ⟨j, (nI_ltI hj hn).mp h2, rfl⟩
theorem sp_mustBeBuiltY (h : I 0 4 = 1) : pm_Go d m_E_mustBeBuilt 0 [some (.ref 0)] [] 0 0 (ST I J) (.inl none, ST I J) := by
  refine go_aload_n d_E_mustBeBuilt_0 rfl ?_
  refine go_gI (j := 4) (1) d_E_mustBeBuilt_1 (Nat.le_of_ble_eq_true rfl) rfl pc_E (Nat.le_of_ble_eq_true rfl) (by decide) w_243 h ?_
  refine go_if_ne (tgt := 17) d_E_mustBeBuilt_4 (by decide) (fun z => ?_) (fun z => absurd z (by decide))
  exact go_vreturn (st := []) d_E_mustBeBuilt_17 rfl (Nat.le_of_ble_eq_true rfl) (Nat.le_of_ble_eq_true rfl) rfl
theorem sp_mustBeBuiltN (h : I 0 4 = 0) : pm_Go 8 m_E_mustBeBuilt 0 [some (.ref 0)] [] 0 0 (ST I J) (.inr "java/lang/IllegalStateException", ST I J) := by
  refine go_aload_n d_E_mustBeBuilt_0 rfl ?_
  refine go_gI (j := 4) (0) d_E_mustBeBuilt_1 (Nat.le_of_ble_eq_true rfl) rfl pc_E (Nat.le_of_ble_eq_true rfl) (by decide) w_243 h ?_
  refine go_if_ne (tgt := 17) d_E_mustBeBuilt_4 (by decide) (fun z => absurd rfl z) (fun z => ?_)
  exact go_throwS d_E_mustBeBuilt_7 d_E_mustBeBuilt_10 d_E_mustBeBuilt_11 d_E_mustBeBuilt_13 d_E_mustBeBuilt_16 tw_nb rfl (by decide) (by decide) (Nat.le_of_ble_eq_true rfl) (Nat.le_of_ble_eq_true rfl) rfl
theorem sp_mustNotBeBuiltY (h : I 0 4 = 0) : pm_Go d m_E_mustNotBeBuilt 0 [some (.ref 0)] [] 0 0 (ST I J) (.inl none, ST I J) := by
  refine go_aload_n d_E_mustNotBeBuilt_0 rfl ?_
  refine go_gI (j := 4) (0) d_E_mustNotBeBuilt_1 (Nat.le_of_ble_eq_true rfl) rfl pc_E (Nat.le_of_ble_eq_true rfl) (by decide) w_243 h ?_
  refine go_if_eq (tgt := 17) d_E_mustNotBeBuilt_4 (by decide) (fun z => ?_) (fun z => absurd rfl z)
  exact go_vreturn (st := []) d_E_mustNotBeBuilt_17 rfl (Nat.le_of_ble_eq_true rfl) (Nat.le_of_ble_eq_true rfl) rfl
theorem sp_mustNotBeBuiltN (h : I 0 4 = 1) : pm_Go 8 m_E_mustNotBeBuilt 0 [some (.ref 0)] [] 0 0 (ST I J) (.inr "java/lang/IllegalStateException", ST I J) := by
  refine go_aload_n d_E_mustNotBeBuilt_0 rfl ?_
  refine go_gI (j := 4) (1) d_E_mustNotBeBuilt_1 (Nat.le_of_ble_eq_true rfl) rfl pc_E (Nat.le_of_ble_eq_true rfl) (by decide) w_243 h ?_
  refine go_if_eq (tgt := 17) d_E_mustNotBeBuilt_4 (by decide) (fun z => absurd z (by decide)) (fun z => ?_)
  exact go_throwS d_E_mustNotBeBuilt_7 d_E_mustNotBeBuilt_10 d_E_mustNotBeBuilt_11 d_E_mustNotBeBuilt_13 d_E_mustNotBeBuilt_16 tw_bt rfl (by decide) (by decide) (Nat.le_of_ble_eq_true rfl) (Nat.le_of_ble_eq_true rfl) rfl
theorem sp_mustBeOneOfY {n k : Nat} (hn : n < 2 ^ 30) (h : k < n) : pm_Go d m_E_mustBeOneOf 0 [some (.int (nI n)), some (.int (nI k))] [] 0 0 (ST I J) (.inl none, ST I J) := by
  refine go_iload_n d_E_mustBeOneOf_0 rfl ?_
  refine go_if_lt (tgt := 9) d_E_mustBeOneOf_1 (by decide) (fun z => absurd z (nI_pos (by omega))) (fun z => ?_)
  refine go_iload_n d_E_mustBeOneOf_4 rfl ?_
  refine go_iload_n d_E_mustBeOneOf_5 rfl ?_
  refine go_icmp_lt (tgt := 19) d_E_mustBeOneOf_6 (by decide) (fun z => ?_) (fun z => absurd (nI_lt h (by omega)) z)
  exact go_vreturn (st := []) d_E_mustBeOneOf_19 rfl (Nat.le_of_ble_eq_true rfl) (Nat.le_of_ble_eq_true rfl) rfl
theorem sp_mustBeOneOfN {n : Nat} {x : Int32} (hn : n < 2 ^ 30) (h : ¬ okN x n) : pm_Go 8 m_E_mustBeOneOf 0 [some (.int (nI n)), some (.int x)] [] 0 0 (ST I J) (.inr "java/lang/IllegalArgumentException", ST I J) := by
  refine go_iload_n d_E_mustBeOneOf_0 rfl ?_
  by_cases h1 : x < 0
  · refine go_if_lt (tgt := 9) d_E_mustBeOneOf_1 (by decide) (fun z => ?_) (fun z => absurd h1 z)
    exact go_throwS d_E_mustBeOneOf_9 d_E_mustBeOneOf_12 d_E_mustBeOneOf_13 d_E_mustBeOneOf_15 d_E_mustBeOneOf_18 tw_no rfl (by decide) (by decide) (Nat.le_of_ble_eq_true rfl) (Nat.le_of_ble_eq_true rfl) rfl
  · refine go_if_lt (tgt := 9) d_E_mustBeOneOf_1 (by decide) (fun z => absurd z h1) (fun z => ?_)
    refine go_iload_n d_E_mustBeOneOf_4 rfl ?_
    refine go_iload_n d_E_mustBeOneOf_5 rfl ?_
    refine go_icmp_lt (tgt := 19) d_E_mustBeOneOf_6 (by decide) (fun z => absurd (okN_of (by omega) h1 z) h) (fun z => ?_)
    exact go_throwS d_E_mustBeOneOf_9 d_E_mustBeOneOf_12 d_E_mustBeOneOf_13 d_E_mustBeOneOf_15 d_E_mustBeOneOf_18 tw_no rfl (by decide) (by decide) (Nat.le_of_ble_eq_true rfl) (Nat.le_of_ble_eq_true rfl) rfl
theorem sp_block_X1 {a b : Int32} (h : I 0 4 = 1) : pm_Go 9 m_E_block 0 [some (.ref 0), some (.int a), some (.int b)] [] 0 0 (ST I J) (.inr "java/lang/IllegalStateException", ST I J) := by
  refine go_aload_n d_E_block_0 rfl ?_
  exact go_callVx (k2 := m_E_mustNotBeBuilt) (As := []) (E := "java/lang/IllegalStateException") d_E_block_1 ok_E_mustNotBeBuilt (Nat.le_of_ble_eq_true rfl) rfl pc_E rfl vl_E_49 rfl rfl (Nat.le_of_ble_eq_true rfl) (Nat.le_of_ble_eq_true rfl) (Nat.le_of_ble_eq_true rfl) (Nat.le_of_ble_eq_true rfl) rfl rfl rfl (sp_mustNotBeBuiltN h)
theorem sp_channel_X1 {a b c : Int32} (h : I 0 4 = 1) : pm_Go 9 m_E_channel 0 [some (.ref 0), some (.int a), some (.int b), some (.int c)] [] 0 0 (ST I J) (.inr "java/lang/IllegalStateException", ST I J) := by
  refine go_aload_n d_E_channel_0 rfl ?_
  exact go_callVx (k2 := m_E_mustNotBeBuilt) (As := []) (E := "java/lang/IllegalStateException") d_E_channel_1 ok_E_mustNotBeBuilt (Nat.le_of_ble_eq_true rfl) rfl pc_E rfl vl_E_49 rfl rfl (Nat.le_of_ble_eq_true rfl) (Nat.le_of_ble_eq_true rfl) (Nat.le_of_ble_eq_true rfl) (Nat.le_of_ble_eq_true rfl) rfl rfl rfl (sp_mustNotBeBuiltN h)
theorem sp_input_X1 {a : Int32} (h : I 0 4 = 1) : pm_Go 9 m_E_input 0 [some (.ref 0), some (.int a)] [] 0 0 (ST I J) (.inr "java/lang/IllegalStateException", ST I J) := by
  refine go_aload_n d_E_input_0 rfl ?_
  exact go_callVx (k2 := m_E_mustNotBeBuilt) (As := []) (E := "java/lang/IllegalStateException") d_E_input_1 ok_E_mustNotBeBuilt (Nat.le_of_ble_eq_true rfl) rfl pc_E rfl vl_E_49 rfl rfl (Nat.le_of_ble_eq_true rfl) (Nat.le_of_ble_eq_true rfl) (Nat.le_of_ble_eq_true rfl) (Nat.le_of_ble_eq_true rfl) rfl rfl rfl (sp_mustNotBeBuiltN h)
theorem sp_output_X1 {a : Int32} (h : I 0 4 = 1) : pm_Go 9 m_E_output 0 [some (.ref 0), some (.int a)] [] 0 0 (ST I J) (.inr "java/lang/IllegalStateException", ST I J) := by
  refine go_aload_n d_E_output_0 rfl ?_
  exact go_callVx (k2 := m_E_mustNotBeBuilt) (As := []) (E := "java/lang/IllegalStateException") d_E_output_1 ok_E_mustNotBeBuilt (Nat.le_of_ble_eq_true rfl) rfl pc_E rfl vl_E_49 rfl rfl (Nat.le_of_ble_eq_true rfl) (Nat.le_of_ble_eq_true rfl) (Nat.le_of_ble_eq_true rfl) (Nat.le_of_ble_eq_true rfl) rfl rfl rfl (sp_mustNotBeBuiltN h)
theorem sp_buffers_X1 {a b : Int32} (h : I 0 4 = 1) : pm_Go 9 m_E_buffers 0 [some (.ref 0), some (.int a), some (.int b), none] [] 0 0 (ST I J) (.inr "java/lang/IllegalStateException", ST I J) := by
  refine go_aload_n d_E_buffers_0 rfl ?_
  exact go_callVx (k2 := m_E_mustNotBeBuilt) (As := []) (E := "java/lang/IllegalStateException") d_E_buffers_1 ok_E_mustNotBeBuilt (Nat.le_of_ble_eq_true rfl) rfl pc_E rfl vl_E_49 rfl rfl (Nat.le_of_ble_eq_true rfl) (Nat.le_of_ble_eq_true rfl) (Nat.le_of_ble_eq_true rfl) (Nat.le_of_ble_eq_true rfl) rfl rfl rfl (sp_mustNotBeBuiltN h)
theorem sp_build_X1 (h : I 0 4 = 1) : pm_Go 9 m_E_build 0 [some (.ref 0)] [] 0 0 (ST I J) (.inr "java/lang/IllegalStateException", ST I J) := by
  refine go_aload_n d_E_build_0 rfl ?_
  exact go_callVx (k2 := m_E_mustNotBeBuilt) (As := []) (E := "java/lang/IllegalStateException") d_E_build_1 ok_E_mustNotBeBuilt (Nat.le_of_ble_eq_true rfl) rfl pc_E rfl vl_E_49 rfl rfl (Nat.le_of_ble_eq_true rfl) (Nat.le_of_ble_eq_true rfl) (Nat.le_of_ble_eq_true rfl) (Nat.le_of_ble_eq_true rfl) rfl rfl rfl (sp_mustNotBeBuiltN h)
theorem sp_restart_X1 (h : I 0 4 = 0) : pm_Go 9 m_E_restart 0 [some (.ref 0)] [] 0 0 (ST I J) (.inr "java/lang/IllegalStateException", ST I J) := by
  refine go_aload_n d_E_restart_0 rfl ?_
  exact go_callVx (k2 := m_E_mustBeBuilt) (As := []) (E := "java/lang/IllegalStateException") d_E_restart_1 ok_E_mustBeBuilt (Nat.le_of_ble_eq_true rfl) rfl pc_E rfl vl_E_102 rfl rfl (Nat.le_of_ble_eq_true rfl) (Nat.le_of_ble_eq_true rfl) (Nat.le_of_ble_eq_true rfl) (Nat.le_of_ble_eq_true rfl) rfl rfl rfl (sp_mustBeBuiltN h)
theorem sp_offer_X1 {a b : Int32} (h : I 0 4 = 0) : pm_Go 9 m_E_offer 0 [some (.ref 0), some (.int a), some (.int b)] [] 0 0 (ST I J) (.inr "java/lang/IllegalStateException", ST I J) := by
  refine go_aload_n d_E_offer_0 rfl ?_
  exact go_callVx (k2 := m_E_mustBeBuilt) (As := []) (E := "java/lang/IllegalStateException") d_E_offer_1 ok_E_mustBeBuilt (Nat.le_of_ble_eq_true rfl) rfl pc_E rfl vl_E_102 rfl rfl (Nat.le_of_ble_eq_true rfl) (Nat.le_of_ble_eq_true rfl) (Nat.le_of_ble_eq_true rfl) (Nat.le_of_ble_eq_true rfl) rfl rfl rfl (sp_mustBeBuiltN h)
theorem sp_tick_X1 {a : Int32} (h : I 0 4 = 0) : pm_Go 9 m_E_tick 0 [some (.ref 0), some (.int a)] [] 0 0 (ST I J) (.inr "java/lang/IllegalStateException", ST I J) := by
  refine go_aload_n d_E_tick_0 rfl ?_
  exact go_callVx (k2 := m_E_mustBeBuilt) (As := []) (E := "java/lang/IllegalStateException") d_E_tick_1 ok_E_mustBeBuilt (Nat.le_of_ble_eq_true rfl) rfl pc_E rfl vl_E_102 rfl rfl (Nat.le_of_ble_eq_true rfl) (Nat.le_of_ble_eq_true rfl) (Nat.le_of_ble_eq_true rfl) (Nat.le_of_ble_eq_true rfl) rfl rfl rfl (sp_mustBeBuiltN h)
theorem sp_run_X1 {a b : Int32} (h : I 0 4 = 0) : pm_Go 9 m_E_run 0 [some (.ref 0), some (.int a), some (.int b), none, none] [] 0 0 (ST I J) (.inr "java/lang/IllegalStateException", ST I J) := by
  refine go_aload_n d_E_run_0 rfl ?_
  exact go_callVx (k2 := m_E_mustBeBuilt) (As := []) (E := "java/lang/IllegalStateException") d_E_run_1 ok_E_mustBeBuilt (Nat.le_of_ble_eq_true rfl) rfl pc_E rfl vl_E_102 rfl rfl (Nat.le_of_ble_eq_true rfl) (Nat.le_of_ble_eq_true rfl) (Nat.le_of_ble_eq_true rfl) (Nat.le_of_ble_eq_true rfl) rfl rfl rfl (sp_mustBeBuiltN h)
theorem sp_ticks_X1 (h : I 0 4 = 0) : pm_Go 9 m_E_ticks 0 [some (.ref 0)] [] 0 0 (ST I J) (.inr "java/lang/IllegalStateException", ST I J) := by
  refine go_aload_n d_E_ticks_0 rfl ?_
  exact go_callVx (k2 := m_E_mustBeBuilt) (As := []) (E := "java/lang/IllegalStateException") d_E_ticks_1 ok_E_mustBeBuilt (Nat.le_of_ble_eq_true rfl) rfl pc_E rfl vl_E_102 rfl rfl (Nat.le_of_ble_eq_true rfl) (Nat.le_of_ble_eq_true rfl) (Nat.le_of_ble_eq_true rfl) (Nat.le_of_ble_eq_true rfl) rfl rfl rfl (sp_mustBeBuiltN h)
theorem sp_turns_X1 {a : Int32} (h : I 0 4 = 0) : pm_Go 9 m_E_turns 0 [some (.ref 0), some (.int a)] [] 0 0 (ST I J) (.inr "java/lang/IllegalStateException", ST I J) := by
  refine go_aload_n d_E_turns_0 rfl ?_
  exact go_callVx (k2 := m_E_mustBeBuilt) (As := []) (E := "java/lang/IllegalStateException") d_E_turns_1 ok_E_mustBeBuilt (Nat.le_of_ble_eq_true rfl) rfl pc_E rfl vl_E_102 rfl rfl (Nat.le_of_ble_eq_true rfl) (Nat.le_of_ble_eq_true rfl) (Nat.le_of_ble_eq_true rfl) (Nat.le_of_ble_eq_true rfl) rfl rfl rfl (sp_mustBeBuiltN h)
theorem sp_got_X1 {a : Int32} (h : I 0 4 = 0) : pm_Go 9 m_E_got 0 [some (.ref 0), some (.int a)] [] 0 0 (ST I J) (.inr "java/lang/IllegalStateException", ST I J) := by
  refine go_aload_n d_E_got_0 rfl ?_
  exact go_callVx (k2 := m_E_mustBeBuilt) (As := []) (E := "java/lang/IllegalStateException") d_E_got_1 ok_E_mustBeBuilt (Nat.le_of_ble_eq_true rfl) rfl pc_E rfl vl_E_102 rfl rfl (Nat.le_of_ble_eq_true rfl) (Nat.le_of_ble_eq_true rfl) (Nat.le_of_ble_eq_true rfl) (Nat.le_of_ble_eq_true rfl) rfl rfl rfl (sp_mustBeBuiltN h)
theorem sp_inside_X1 {a b : Int32} (h : I 0 4 = 0) : pm_Go 9 m_E_inside 0 [some (.ref 0), some (.int a), some (.int b)] [] 0 0 (ST I J) (.inr "java/lang/IllegalStateException", ST I J) := by
  refine go_aload_n d_E_inside_0 rfl ?_
  exact go_callVx (k2 := m_E_mustBeBuilt) (As := []) (E := "java/lang/IllegalStateException") d_E_inside_1 ok_E_mustBeBuilt (Nat.le_of_ble_eq_true rfl) rfl pc_E rfl vl_E_102 rfl rfl (Nat.le_of_ble_eq_true rfl) (Nat.le_of_ble_eq_true rfl) (Nat.le_of_ble_eq_true rfl) (Nat.le_of_ble_eq_true rfl) rfl rfl rfl (sp_mustBeBuiltN h)
theorem sp_taken_X1 {a : Int32} (h : I 0 4 = 0) : pm_Go 9 m_E_taken 0 [some (.ref 0), some (.int a)] [] 0 0 (ST I J) (.inr "java/lang/IllegalStateException", ST I J) := by
  refine go_aload_n d_E_taken_0 rfl ?_
  exact go_callVx (k2 := m_E_mustBeBuilt) (As := []) (E := "java/lang/IllegalStateException") d_E_taken_1 ok_E_mustBeBuilt (Nat.le_of_ble_eq_true rfl) rfl pc_E rfl vl_E_102 rfl rfl (Nat.le_of_ble_eq_true rfl) (Nat.le_of_ble_eq_true rfl) (Nat.le_of_ble_eq_true rfl) (Nat.le_of_ble_eq_true rfl) rfl rfl rfl (sp_mustBeBuiltN h)
theorem sp_given_X1 {a : Int32} (h : I 0 4 = 0) : pm_Go 9 m_E_given 0 [some (.ref 0), some (.int a)] [] 0 0 (ST I J) (.inr "java/lang/IllegalStateException", ST I J) := by
  refine go_aload_n d_E_given_0 rfl ?_
  exact go_callVx (k2 := m_E_mustBeBuilt) (As := []) (E := "java/lang/IllegalStateException") d_E_given_1 ok_E_mustBeBuilt (Nat.le_of_ble_eq_true rfl) rfl pc_E rfl vl_E_102 rfl rfl (Nat.le_of_ble_eq_true rfl) (Nat.le_of_ble_eq_true rfl) (Nat.le_of_ble_eq_true rfl) (Nat.le_of_ble_eq_true rfl) rfl rfl rfl (sp_mustBeBuiltN h)
theorem sp_value_X1 {a b : Int32} (h : I 0 4 = 0) : pm_Go 9 m_E_value 0 [some (.ref 0), some (.int a), some (.int b)] [] 0 0 (ST I J) (.inr "java/lang/IllegalStateException", ST I J) := by
  refine go_aload_n d_E_value_0 rfl ?_
  exact go_callVx (k2 := m_E_mustBeBuilt) (As := []) (E := "java/lang/IllegalStateException") d_E_value_1 ok_E_mustBeBuilt (Nat.le_of_ble_eq_true rfl) rfl pc_E rfl vl_E_102 rfl rfl (Nat.le_of_ble_eq_true rfl) (Nat.le_of_ble_eq_true rfl) (Nat.le_of_ble_eq_true rfl) (Nat.le_of_ble_eq_true rfl) rfl rfl rfl (sp_mustBeBuiltN h)
theorem sp_byClock_X1 {a b : Int32} (h : I 0 4 = 0) : pm_Go 9 m_E_byClock 0 [some (.ref 0), some (.int a), some (.int b)] [] 0 0 (ST I J) (.inr "java/lang/IllegalStateException", ST I J) := by
  refine go_aload_n d_E_byClock_0 rfl ?_
  exact go_callVx (k2 := m_E_mustBeBuilt) (As := []) (E := "java/lang/IllegalStateException") d_E_byClock_1 ok_E_mustBeBuilt (Nat.le_of_ble_eq_true rfl) rfl pc_E rfl vl_E_102 rfl rfl (Nat.le_of_ble_eq_true rfl) (Nat.le_of_ble_eq_true rfl) (Nat.le_of_ble_eq_true rfl) (Nat.le_of_ble_eq_true rfl) rfl rfl rfl (sp_mustBeBuiltN h)
theorem sp_rate_X1 {a : Int32} (h : I 0 4 = 0) : pm_Go 9 m_E_rate 0 [some (.ref 0), some (.int a)] [] 0 0 (ST I J) (.inr "java/lang/IllegalStateException", ST I J) := by
  refine go_aload_n d_E_rate_0 rfl ?_
  exact go_callVx (k2 := m_E_mustBeBuilt) (As := []) (E := "java/lang/IllegalStateException") d_E_rate_1 ok_E_mustBeBuilt (Nat.le_of_ble_eq_true rfl) rfl pc_E rfl vl_E_102 rfl rfl (Nat.le_of_ble_eq_true rfl) (Nat.le_of_ble_eq_true rfl) (Nat.le_of_ble_eq_true rfl) (Nat.le_of_ble_eq_true rfl) rfl rfl rfl (sp_mustBeBuiltN h)
theorem sp_channel_X2 {a b c : Int32} {n : Nat} (h : I 0 4 = 0) (hn : I 1 0 = nI n) (hn2 : n ≤ 20) (hx : ¬ okN a n) : pm_Go 9 m_E_channel 0 [some (.ref 0), some (.int a), some (.int b), some (.int c)] [] 0 0 (ST I J) (.inr "java/lang/IllegalArgumentException", ST I J) := by
  refine go_aload_n d_E_channel_0 rfl ?_
  refine go_callV (k2 := m_E_mustNotBeBuilt) (As := []) (r := none) d_E_channel_1 ok_E_mustNotBeBuilt (Nat.le_of_ble_eq_true rfl) rfl pc_E rfl vl_E_49 rfl rfl (Nat.le_of_ble_eq_true rfl) (Nat.le_of_ble_eq_true rfl) (Nat.le_of_ble_eq_true rfl) (Nat.le_of_ble_eq_true rfl) rfl rfl (sp_mustNotBeBuiltY h) ?_
  refine go_aload_n d_E_channel_4 rfl ?_
  refine go_getP (j := 0) d_E_channel_5 (Nat.le_of_ble_eq_true rfl) rfl pc_E (Nat.le_of_ble_eq_true rfl) rfl w_239 pt_E_0 ?_
  refine go_gI (j := 0) (nI n) d_E_channel_8 (Nat.le_of_ble_eq_true rfl) rfl pc_D (Nat.le_of_ble_eq_true rfl) (by decide) w_33 hn ?_
  refine go_iload_n d_E_channel_11 rfl ?_
  exact go_callSx (k2 := m_E_mustBeOneOf) (As := [.int (nI n), .int a]) (E := "java/lang/IllegalArgumentException") d_E_channel_12 ok_E_mustBeOneOf sl_E_67 rfl rfl (Nat.le_of_ble_eq_true rfl) (Nat.le_of_ble_eq_true rfl) (Nat.le_of_ble_eq_true rfl) (Nat.le_of_ble_eq_true rfl) rfl rfl rfl (sp_mustBeOneOfN (by omega) hx)
theorem sp_input_X2 {a : Int32} {n : Nat} (h : I 0 4 = 0) (hn : I 1 0 = nI n) (hn2 : n ≤ 20) (hx : ¬ okN a n) : pm_Go 9 m_E_input 0 [some (.ref 0), some (.int a)] [] 0 0 (ST I J) (.inr "java/lang/IllegalArgumentException", ST I J) := by
  refine go_aload_n d_E_input_0 rfl ?_
  refine go_callV (k2 := m_E_mustNotBeBuilt) (As := []) (r := none) d_E_input_1 ok_E_mustNotBeBuilt (Nat.le_of_ble_eq_true rfl) rfl pc_E rfl vl_E_49 rfl rfl (Nat.le_of_ble_eq_true rfl) (Nat.le_of_ble_eq_true rfl) (Nat.le_of_ble_eq_true rfl) (Nat.le_of_ble_eq_true rfl) rfl rfl (sp_mustNotBeBuiltY h) ?_
  refine go_aload_n d_E_input_4 rfl ?_
  refine go_getP (j := 0) d_E_input_5 (Nat.le_of_ble_eq_true rfl) rfl pc_E (Nat.le_of_ble_eq_true rfl) rfl w_239 pt_E_0 ?_
  refine go_gI (j := 0) (nI n) d_E_input_8 (Nat.le_of_ble_eq_true rfl) rfl pc_D (Nat.le_of_ble_eq_true rfl) (by decide) w_33 hn ?_
  refine go_iload_n d_E_input_11 rfl ?_
  exact go_callSx (k2 := m_E_mustBeOneOf) (As := [.int (nI n), .int a]) (E := "java/lang/IllegalArgumentException") d_E_input_12 ok_E_mustBeOneOf sl_E_67 rfl rfl (Nat.le_of_ble_eq_true rfl) (Nat.le_of_ble_eq_true rfl) (Nat.le_of_ble_eq_true rfl) (Nat.le_of_ble_eq_true rfl) rfl rfl rfl (sp_mustBeOneOfN (by omega) hx)
theorem sp_output_X2 {a : Int32} {n : Nat} (h : I 0 4 = 0) (hn : I 1 0 = nI n) (hn2 : n ≤ 20) (hx : ¬ okN a n) : pm_Go 9 m_E_output 0 [some (.ref 0), some (.int a)] [] 0 0 (ST I J) (.inr "java/lang/IllegalArgumentException", ST I J) := by
  refine go_aload_n d_E_output_0 rfl ?_
  refine go_callV (k2 := m_E_mustNotBeBuilt) (As := []) (r := none) d_E_output_1 ok_E_mustNotBeBuilt (Nat.le_of_ble_eq_true rfl) rfl pc_E rfl vl_E_49 rfl rfl (Nat.le_of_ble_eq_true rfl) (Nat.le_of_ble_eq_true rfl) (Nat.le_of_ble_eq_true rfl) (Nat.le_of_ble_eq_true rfl) rfl rfl (sp_mustNotBeBuiltY h) ?_
  refine go_aload_n d_E_output_4 rfl ?_
  refine go_getP (j := 0) d_E_output_5 (Nat.le_of_ble_eq_true rfl) rfl pc_E (Nat.le_of_ble_eq_true rfl) rfl w_239 pt_E_0 ?_
  refine go_gI (j := 0) (nI n) d_E_output_8 (Nat.le_of_ble_eq_true rfl) rfl pc_D (Nat.le_of_ble_eq_true rfl) (by decide) w_33 hn ?_
  refine go_iload_n d_E_output_11 rfl ?_
  exact go_callSx (k2 := m_E_mustBeOneOf) (As := [.int (nI n), .int a]) (E := "java/lang/IllegalArgumentException") d_E_output_12 ok_E_mustBeOneOf sl_E_67 rfl rfl (Nat.le_of_ble_eq_true rfl) (Nat.le_of_ble_eq_true rfl) (Nat.le_of_ble_eq_true rfl) (Nat.le_of_ble_eq_true rfl) rfl rfl rfl (sp_mustBeOneOfN (by omega) hx)
theorem sp_buffers_X2 {a b : Int32} {n : Nat} (h : I 0 4 = 0) (hn : I 1 1 = nI n) (hn2 : n ≤ 20) (hx : ¬ okN a n) : pm_Go 9 m_E_buffers 0 [some (.ref 0), some (.int a), some (.int b), none] [] 0 0 (ST I J) (.inr "java/lang/IllegalArgumentException", ST I J) := by
  refine go_aload_n d_E_buffers_0 rfl ?_
  refine go_callV (k2 := m_E_mustNotBeBuilt) (As := []) (r := none) d_E_buffers_1 ok_E_mustNotBeBuilt (Nat.le_of_ble_eq_true rfl) rfl pc_E rfl vl_E_49 rfl rfl (Nat.le_of_ble_eq_true rfl) (Nat.le_of_ble_eq_true rfl) (Nat.le_of_ble_eq_true rfl) (Nat.le_of_ble_eq_true rfl) rfl rfl (sp_mustNotBeBuiltY h) ?_
  refine go_aload_n d_E_buffers_4 rfl ?_
  refine go_getP (j := 0) d_E_buffers_5 (Nat.le_of_ble_eq_true rfl) rfl pc_E (Nat.le_of_ble_eq_true rfl) rfl w_239 pt_E_0 ?_
  refine go_gI (j := 1) (nI n) d_E_buffers_8 (Nat.le_of_ble_eq_true rfl) rfl pc_D (Nat.le_of_ble_eq_true rfl) (by decide) w_41 hn ?_
  refine go_iload_n d_E_buffers_11 rfl ?_
  exact go_callSx (k2 := m_E_mustBeOneOf) (As := [.int (nI n), .int a]) (E := "java/lang/IllegalArgumentException") d_E_buffers_12 ok_E_mustBeOneOf sl_E_67 rfl rfl (Nat.le_of_ble_eq_true rfl) (Nat.le_of_ble_eq_true rfl) (Nat.le_of_ble_eq_true rfl) (Nat.le_of_ble_eq_true rfl) rfl rfl rfl (sp_mustBeOneOfN (by omega) hx)
theorem sp_offer_X2 {a b : Int32} {n : Nat} (h : I 0 4 = 1) (hn : I 1 2 = nI n) (hn2 : n ≤ 20) (hx : ¬ okN a n) : pm_Go 9 m_E_offer 0 [some (.ref 0), some (.int a), some (.int b)] [] 0 0 (ST I J) (.inr "java/lang/IllegalArgumentException", ST I J) := by
  refine go_aload_n d_E_offer_0 rfl ?_
  refine go_callV (k2 := m_E_mustBeBuilt) (As := []) (r := none) d_E_offer_1 ok_E_mustBeBuilt (Nat.le_of_ble_eq_true rfl) rfl pc_E rfl vl_E_102 rfl rfl (Nat.le_of_ble_eq_true rfl) (Nat.le_of_ble_eq_true rfl) (Nat.le_of_ble_eq_true rfl) (Nat.le_of_ble_eq_true rfl) rfl rfl (sp_mustBeBuiltY h) ?_
  refine go_aload_n d_E_offer_4 rfl ?_
  refine go_getP (j := 0) d_E_offer_5 (Nat.le_of_ble_eq_true rfl) rfl pc_E (Nat.le_of_ble_eq_true rfl) rfl w_239 pt_E_0 ?_
  refine go_gI (j := 2) (nI n) d_E_offer_8 (Nat.le_of_ble_eq_true rfl) rfl pc_D (Nat.le_of_ble_eq_true rfl) (by decide) w_45 hn ?_
  refine go_iload_n d_E_offer_11 rfl ?_
  exact go_callSx (k2 := m_E_mustBeOneOf) (As := [.int (nI n), .int a]) (E := "java/lang/IllegalArgumentException") d_E_offer_12 ok_E_mustBeOneOf sl_E_67 rfl rfl (Nat.le_of_ble_eq_true rfl) (Nat.le_of_ble_eq_true rfl) (Nat.le_of_ble_eq_true rfl) (Nat.le_of_ble_eq_true rfl) rfl rfl rfl (sp_mustBeOneOfN (by omega) hx)
theorem sp_turns_X2 {a : Int32} {n : Nat} (h : I 0 4 = 1) (hn : I 1 0 = nI n) (hn2 : n ≤ 20) (hx : ¬ okN a n) : pm_Go 9 m_E_turns 0 [some (.ref 0), some (.int a)] [] 0 0 (ST I J) (.inr "java/lang/IllegalArgumentException", ST I J) := by
  refine go_aload_n d_E_turns_0 rfl ?_
  refine go_callV (k2 := m_E_mustBeBuilt) (As := []) (r := none) d_E_turns_1 ok_E_mustBeBuilt (Nat.le_of_ble_eq_true rfl) rfl pc_E rfl vl_E_102 rfl rfl (Nat.le_of_ble_eq_true rfl) (Nat.le_of_ble_eq_true rfl) (Nat.le_of_ble_eq_true rfl) (Nat.le_of_ble_eq_true rfl) rfl rfl (sp_mustBeBuiltY h) ?_
  refine go_aload_n d_E_turns_4 rfl ?_
  refine go_getP (j := 0) d_E_turns_5 (Nat.le_of_ble_eq_true rfl) rfl pc_E (Nat.le_of_ble_eq_true rfl) rfl w_239 pt_E_0 ?_
  refine go_gI (j := 0) (nI n) d_E_turns_8 (Nat.le_of_ble_eq_true rfl) rfl pc_D (Nat.le_of_ble_eq_true rfl) (by decide) w_33 hn ?_
  refine go_iload_n d_E_turns_11 rfl ?_
  exact go_callSx (k2 := m_E_mustBeOneOf) (As := [.int (nI n), .int a]) (E := "java/lang/IllegalArgumentException") d_E_turns_12 ok_E_mustBeOneOf sl_E_67 rfl rfl (Nat.le_of_ble_eq_true rfl) (Nat.le_of_ble_eq_true rfl) (Nat.le_of_ble_eq_true rfl) (Nat.le_of_ble_eq_true rfl) rfl rfl rfl (sp_mustBeOneOfN (by omega) hx)
theorem sp_got_X2 {a : Int32} {n : Nat} (h : I 0 4 = 1) (hn : I 1 0 = nI n) (hn2 : n ≤ 20) (hx : ¬ okN a n) : pm_Go 9 m_E_got 0 [some (.ref 0), some (.int a)] [] 0 0 (ST I J) (.inr "java/lang/IllegalArgumentException", ST I J) := by
  refine go_aload_n d_E_got_0 rfl ?_
  refine go_callV (k2 := m_E_mustBeBuilt) (As := []) (r := none) d_E_got_1 ok_E_mustBeBuilt (Nat.le_of_ble_eq_true rfl) rfl pc_E rfl vl_E_102 rfl rfl (Nat.le_of_ble_eq_true rfl) (Nat.le_of_ble_eq_true rfl) (Nat.le_of_ble_eq_true rfl) (Nat.le_of_ble_eq_true rfl) rfl rfl (sp_mustBeBuiltY h) ?_
  refine go_aload_n d_E_got_4 rfl ?_
  refine go_getP (j := 0) d_E_got_5 (Nat.le_of_ble_eq_true rfl) rfl pc_E (Nat.le_of_ble_eq_true rfl) rfl w_239 pt_E_0 ?_
  refine go_gI (j := 0) (nI n) d_E_got_8 (Nat.le_of_ble_eq_true rfl) rfl pc_D (Nat.le_of_ble_eq_true rfl) (by decide) w_33 hn ?_
  refine go_iload_n d_E_got_11 rfl ?_
  exact go_callSx (k2 := m_E_mustBeOneOf) (As := [.int (nI n), .int a]) (E := "java/lang/IllegalArgumentException") d_E_got_12 ok_E_mustBeOneOf sl_E_67 rfl rfl (Nat.le_of_ble_eq_true rfl) (Nat.le_of_ble_eq_true rfl) (Nat.le_of_ble_eq_true rfl) (Nat.le_of_ble_eq_true rfl) rfl rfl rfl (sp_mustBeOneOfN (by omega) hx)
theorem sp_inside_X2 {a b : Int32} {n : Nat} (h : I 0 4 = 1) (hn : I 1 1 = nI n) (hn2 : n ≤ 20) (hx : ¬ okN a n) : pm_Go 9 m_E_inside 0 [some (.ref 0), some (.int a), some (.int b)] [] 0 0 (ST I J) (.inr "java/lang/IllegalArgumentException", ST I J) := by
  refine go_aload_n d_E_inside_0 rfl ?_
  refine go_callV (k2 := m_E_mustBeBuilt) (As := []) (r := none) d_E_inside_1 ok_E_mustBeBuilt (Nat.le_of_ble_eq_true rfl) rfl pc_E rfl vl_E_102 rfl rfl (Nat.le_of_ble_eq_true rfl) (Nat.le_of_ble_eq_true rfl) (Nat.le_of_ble_eq_true rfl) (Nat.le_of_ble_eq_true rfl) rfl rfl (sp_mustBeBuiltY h) ?_
  refine go_aload_n d_E_inside_4 rfl ?_
  refine go_getP (j := 0) d_E_inside_5 (Nat.le_of_ble_eq_true rfl) rfl pc_E (Nat.le_of_ble_eq_true rfl) rfl w_239 pt_E_0 ?_
  refine go_gI (j := 1) (nI n) d_E_inside_8 (Nat.le_of_ble_eq_true rfl) rfl pc_D (Nat.le_of_ble_eq_true rfl) (by decide) w_41 hn ?_
  refine go_iload_n d_E_inside_11 rfl ?_
  exact go_callSx (k2 := m_E_mustBeOneOf) (As := [.int (nI n), .int a]) (E := "java/lang/IllegalArgumentException") d_E_inside_12 ok_E_mustBeOneOf sl_E_67 rfl rfl (Nat.le_of_ble_eq_true rfl) (Nat.le_of_ble_eq_true rfl) (Nat.le_of_ble_eq_true rfl) (Nat.le_of_ble_eq_true rfl) rfl rfl rfl (sp_mustBeOneOfN (by omega) hx)
theorem sp_taken_X2 {a : Int32} {n : Nat} (h : I 0 4 = 1) (hn : I 1 2 = nI n) (hn2 : n ≤ 20) (hx : ¬ okN a n) : pm_Go 9 m_E_taken 0 [some (.ref 0), some (.int a)] [] 0 0 (ST I J) (.inr "java/lang/IllegalArgumentException", ST I J) := by
  refine go_aload_n d_E_taken_0 rfl ?_
  refine go_callV (k2 := m_E_mustBeBuilt) (As := []) (r := none) d_E_taken_1 ok_E_mustBeBuilt (Nat.le_of_ble_eq_true rfl) rfl pc_E rfl vl_E_102 rfl rfl (Nat.le_of_ble_eq_true rfl) (Nat.le_of_ble_eq_true rfl) (Nat.le_of_ble_eq_true rfl) (Nat.le_of_ble_eq_true rfl) rfl rfl (sp_mustBeBuiltY h) ?_
  refine go_aload_n d_E_taken_4 rfl ?_
  refine go_getP (j := 0) d_E_taken_5 (Nat.le_of_ble_eq_true rfl) rfl pc_E (Nat.le_of_ble_eq_true rfl) rfl w_239 pt_E_0 ?_
  refine go_gI (j := 2) (nI n) d_E_taken_8 (Nat.le_of_ble_eq_true rfl) rfl pc_D (Nat.le_of_ble_eq_true rfl) (by decide) w_45 hn ?_
  refine go_iload_n d_E_taken_11 rfl ?_
  exact go_callSx (k2 := m_E_mustBeOneOf) (As := [.int (nI n), .int a]) (E := "java/lang/IllegalArgumentException") d_E_taken_12 ok_E_mustBeOneOf sl_E_67 rfl rfl (Nat.le_of_ble_eq_true rfl) (Nat.le_of_ble_eq_true rfl) (Nat.le_of_ble_eq_true rfl) (Nat.le_of_ble_eq_true rfl) rfl rfl rfl (sp_mustBeOneOfN (by omega) hx)
theorem sp_given_X2 {a : Int32} {n : Nat} (h : I 0 4 = 1) (hn : I 1 3 = nI n) (hn2 : n ≤ 20) (hx : ¬ okN a n) : pm_Go 9 m_E_given 0 [some (.ref 0), some (.int a)] [] 0 0 (ST I J) (.inr "java/lang/IllegalArgumentException", ST I J) := by
  refine go_aload_n d_E_given_0 rfl ?_
  refine go_callV (k2 := m_E_mustBeBuilt) (As := []) (r := none) d_E_given_1 ok_E_mustBeBuilt (Nat.le_of_ble_eq_true rfl) rfl pc_E rfl vl_E_102 rfl rfl (Nat.le_of_ble_eq_true rfl) (Nat.le_of_ble_eq_true rfl) (Nat.le_of_ble_eq_true rfl) (Nat.le_of_ble_eq_true rfl) rfl rfl (sp_mustBeBuiltY h) ?_
  refine go_aload_n d_E_given_4 rfl ?_
  refine go_getP (j := 0) d_E_given_5 (Nat.le_of_ble_eq_true rfl) rfl pc_E (Nat.le_of_ble_eq_true rfl) rfl w_239 pt_E_0 ?_
  refine go_gI (j := 3) (nI n) d_E_given_8 (Nat.le_of_ble_eq_true rfl) rfl pc_D (Nat.le_of_ble_eq_true rfl) (by decide) w_48 hn ?_
  refine go_iload_n d_E_given_11 rfl ?_
  exact go_callSx (k2 := m_E_mustBeOneOf) (As := [.int (nI n), .int a]) (E := "java/lang/IllegalArgumentException") d_E_given_12 ok_E_mustBeOneOf sl_E_67 rfl rfl (Nat.le_of_ble_eq_true rfl) (Nat.le_of_ble_eq_true rfl) (Nat.le_of_ble_eq_true rfl) (Nat.le_of_ble_eq_true rfl) rfl rfl rfl (sp_mustBeOneOfN (by omega) hx)
theorem sp_value_X2 {a b : Int32} {n : Nat} (h : I 0 4 = 1) (hn : I 1 3 = nI n) (hn2 : n ≤ 20) (hx : ¬ okN a n) : pm_Go 9 m_E_value 0 [some (.ref 0), some (.int a), some (.int b)] [] 0 0 (ST I J) (.inr "java/lang/IllegalArgumentException", ST I J) := by
  refine go_aload_n d_E_value_0 rfl ?_
  refine go_callV (k2 := m_E_mustBeBuilt) (As := []) (r := none) d_E_value_1 ok_E_mustBeBuilt (Nat.le_of_ble_eq_true rfl) rfl pc_E rfl vl_E_102 rfl rfl (Nat.le_of_ble_eq_true rfl) (Nat.le_of_ble_eq_true rfl) (Nat.le_of_ble_eq_true rfl) (Nat.le_of_ble_eq_true rfl) rfl rfl (sp_mustBeBuiltY h) ?_
  refine go_aload_n d_E_value_4 rfl ?_
  refine go_getP (j := 0) d_E_value_5 (Nat.le_of_ble_eq_true rfl) rfl pc_E (Nat.le_of_ble_eq_true rfl) rfl w_239 pt_E_0 ?_
  refine go_gI (j := 3) (nI n) d_E_value_8 (Nat.le_of_ble_eq_true rfl) rfl pc_D (Nat.le_of_ble_eq_true rfl) (by decide) w_48 hn ?_
  refine go_iload_n d_E_value_11 rfl ?_
  exact go_callSx (k2 := m_E_mustBeOneOf) (As := [.int (nI n), .int a]) (E := "java/lang/IllegalArgumentException") d_E_value_12 ok_E_mustBeOneOf sl_E_67 rfl rfl (Nat.le_of_ble_eq_true rfl) (Nat.le_of_ble_eq_true rfl) (Nat.le_of_ble_eq_true rfl) (Nat.le_of_ble_eq_true rfl) rfl rfl rfl (sp_mustBeOneOfN (by omega) hx)
theorem sp_byClock_X2 {a b : Int32} {n : Nat} (h : I 0 4 = 1) (hn : I 1 3 = nI n) (hn2 : n ≤ 20) (hx : ¬ okN a n) : pm_Go 9 m_E_byClock 0 [some (.ref 0), some (.int a), some (.int b)] [] 0 0 (ST I J) (.inr "java/lang/IllegalArgumentException", ST I J) := by
  refine go_aload_n d_E_byClock_0 rfl ?_
  refine go_callV (k2 := m_E_mustBeBuilt) (As := []) (r := none) d_E_byClock_1 ok_E_mustBeBuilt (Nat.le_of_ble_eq_true rfl) rfl pc_E rfl vl_E_102 rfl rfl (Nat.le_of_ble_eq_true rfl) (Nat.le_of_ble_eq_true rfl) (Nat.le_of_ble_eq_true rfl) (Nat.le_of_ble_eq_true rfl) rfl rfl (sp_mustBeBuiltY h) ?_
  refine go_aload_n d_E_byClock_4 rfl ?_
  refine go_getP (j := 0) d_E_byClock_5 (Nat.le_of_ble_eq_true rfl) rfl pc_E (Nat.le_of_ble_eq_true rfl) rfl w_239 pt_E_0 ?_
  refine go_gI (j := 3) (nI n) d_E_byClock_8 (Nat.le_of_ble_eq_true rfl) rfl pc_D (Nat.le_of_ble_eq_true rfl) (by decide) w_48 hn ?_
  refine go_iload_n d_E_byClock_11 rfl ?_
  exact go_callSx (k2 := m_E_mustBeOneOf) (As := [.int (nI n), .int a]) (E := "java/lang/IllegalArgumentException") d_E_byClock_12 ok_E_mustBeOneOf sl_E_67 rfl rfl (Nat.le_of_ble_eq_true rfl) (Nat.le_of_ble_eq_true rfl) (Nat.le_of_ble_eq_true rfl) (Nat.le_of_ble_eq_true rfl) rfl rfl rfl (sp_mustBeOneOfN (by omega) hx)
theorem sp_run_X2 {a b : Int32} (h : I 0 4 = 1) (hx : ¬ okN a 1001) : pm_Go 9 m_E_run 0 [some (.ref 0), some (.int a), some (.int b), none, none] [] 0 0 (ST I J) (.inr "java/lang/IllegalArgumentException", ST I J) := by
  refine go_aload_n d_E_run_0 rfl ?_
  refine go_callV (k2 := m_E_mustBeBuilt) (As := []) (r := none) d_E_run_1 ok_E_mustBeBuilt (Nat.le_of_ble_eq_true rfl) rfl pc_E rfl vl_E_102 rfl rfl (Nat.le_of_ble_eq_true rfl) (Nat.le_of_ble_eq_true rfl) (Nat.le_of_ble_eq_true rfl) (Nat.le_of_ble_eq_true rfl) rfl rfl (sp_mustBeBuiltY h) ?_
  refine go_sipush (v := 1001) d_E_run_4 (by decide) ?_
  refine go_iload_n d_E_run_7 rfl ?_
  exact go_callSx (k2 := m_E_mustBeOneOf) (As := [.int (nI 1001), .int a]) (E := "java/lang/IllegalArgumentException") d_E_run_8 ok_E_mustBeOneOf sl_E_67 rfl rfl (Nat.le_of_ble_eq_true rfl) (Nat.le_of_ble_eq_true rfl) (Nat.le_of_ble_eq_true rfl) (Nat.le_of_ble_eq_true rfl) rfl rfl rfl (sp_mustBeOneOfN (by decide) hx)
theorem sp_rate_X2 {a : Int32} (h : I 0 4 = 1) (hx : ¬ okN a 2) : pm_Go 9 m_E_rate 0 [some (.ref 0), some (.int a)] [] 0 0 (ST I J) (.inr "java/lang/IllegalArgumentException", ST I J) := by
  refine go_aload_n d_E_rate_0 rfl ?_
  refine go_callV (k2 := m_E_mustBeBuilt) (As := []) (r := none) d_E_rate_1 ok_E_mustBeBuilt (Nat.le_of_ble_eq_true rfl) rfl pc_E rfl vl_E_102 rfl rfl (Nat.le_of_ble_eq_true rfl) (Nat.le_of_ble_eq_true rfl) (Nat.le_of_ble_eq_true rfl) (Nat.le_of_ble_eq_true rfl) rfl rfl (sp_mustBeBuiltY h) ?_
  refine go_iconst (v := 2) d_E_rate_4 (by decide) ?_
  refine go_iload_n d_E_rate_5 rfl ?_
  exact go_callSx (k2 := m_E_mustBeOneOf) (As := [.int (nI 2), .int a]) (E := "java/lang/IllegalArgumentException") d_E_rate_6 ok_E_mustBeOneOf sl_E_67 rfl rfl (Nat.le_of_ble_eq_true rfl) (Nat.le_of_ble_eq_true rfl) (Nat.le_of_ble_eq_true rfl) (Nat.le_of_ble_eq_true rfl) rfl rfl rfl (sp_mustBeOneOfN (by decide) hx)
theorem sp_channel_X3 {b c : Int32} {k n : Nat} (h : I 0 4 = 0) (hn : I 1 0 = nI n) (hn2 : n ≤ 20) (hk : k < n) (hx : ¬ okN b n) : pm_Go 9 m_E_channel 0 [some (.ref 0), some (.int (nI k)), some (.int b), some (.int c)] [] 0 0 (ST I J) (.inr "java/lang/IllegalArgumentException", ST I J) := by
  refine go_aload_n d_E_channel_0 rfl ?_
  refine go_callV (k2 := m_E_mustNotBeBuilt) (As := []) (r := none) d_E_channel_1 ok_E_mustNotBeBuilt (Nat.le_of_ble_eq_true rfl) rfl pc_E rfl vl_E_49 rfl rfl (Nat.le_of_ble_eq_true rfl) (Nat.le_of_ble_eq_true rfl) (Nat.le_of_ble_eq_true rfl) (Nat.le_of_ble_eq_true rfl) rfl rfl (sp_mustNotBeBuiltY h) ?_
  refine go_aload_n d_E_channel_4 rfl ?_
  refine go_getP (j := 0) d_E_channel_5 (Nat.le_of_ble_eq_true rfl) rfl pc_E (Nat.le_of_ble_eq_true rfl) rfl w_239 pt_E_0 ?_
  refine go_gI (j := 0) (nI n) d_E_channel_8 (Nat.le_of_ble_eq_true rfl) rfl pc_D (Nat.le_of_ble_eq_true rfl) (by decide) w_33 hn ?_
  refine go_iload_n d_E_channel_11 rfl ?_
  refine go_callS (k2 := m_E_mustBeOneOf) (As := [.int (nI n), .int (nI k)]) (r := none) d_E_channel_12 ok_E_mustBeOneOf sl_E_67 rfl rfl (Nat.le_of_ble_eq_true rfl) (Nat.le_of_ble_eq_true rfl) (Nat.le_of_ble_eq_true rfl) (Nat.le_of_ble_eq_true rfl) rfl rfl (sp_mustBeOneOfY (by omega) hk) ?_
  refine go_aload_n d_E_channel_15 rfl ?_
  refine go_getP (j := 0) d_E_channel_16 (Nat.le_of_ble_eq_true rfl) rfl pc_E (Nat.le_of_ble_eq_true rfl) rfl w_239 pt_E_0 ?_
  refine go_gI (j := 0) (nI n) d_E_channel_19 (Nat.le_of_ble_eq_true rfl) rfl pc_D (Nat.le_of_ble_eq_true rfl) (by decide) w_33 hn ?_
  refine go_iload_n d_E_channel_22 rfl ?_
  exact go_callSx (k2 := m_E_mustBeOneOf) (As := [.int (nI n), .int b]) (E := "java/lang/IllegalArgumentException") d_E_channel_23 ok_E_mustBeOneOf sl_E_67 rfl rfl (Nat.le_of_ble_eq_true rfl) (Nat.le_of_ble_eq_true rfl) (Nat.le_of_ble_eq_true rfl) (Nat.le_of_ble_eq_true rfl) rfl rfl rfl (sp_mustBeOneOfN (by omega) hx)
theorem sp_buffers_X3 {b : Int32} {k n : Nat} (h : I 0 4 = 0) (hn : I 1 1 = nI n) (hn2 : n ≤ 20) (hk : k < n) (hx : ¬ okN b 4) : pm_Go 9 m_E_buffers 0 [some (.ref 0), some (.int (nI k)), some (.int b), none] [] 0 0 (ST I J) (.inr "java/lang/IllegalArgumentException", ST I J) := by
  refine go_aload_n d_E_buffers_0 rfl ?_
  refine go_callV (k2 := m_E_mustNotBeBuilt) (As := []) (r := none) d_E_buffers_1 ok_E_mustNotBeBuilt (Nat.le_of_ble_eq_true rfl) rfl pc_E rfl vl_E_49 rfl rfl (Nat.le_of_ble_eq_true rfl) (Nat.le_of_ble_eq_true rfl) (Nat.le_of_ble_eq_true rfl) (Nat.le_of_ble_eq_true rfl) rfl rfl (sp_mustNotBeBuiltY h) ?_
  refine go_aload_n d_E_buffers_4 rfl ?_
  refine go_getP (j := 0) d_E_buffers_5 (Nat.le_of_ble_eq_true rfl) rfl pc_E (Nat.le_of_ble_eq_true rfl) rfl w_239 pt_E_0 ?_
  refine go_gI (j := 1) (nI n) d_E_buffers_8 (Nat.le_of_ble_eq_true rfl) rfl pc_D (Nat.le_of_ble_eq_true rfl) (by decide) w_41 hn ?_
  refine go_iload_n d_E_buffers_11 rfl ?_
  refine go_callS (k2 := m_E_mustBeOneOf) (As := [.int (nI n), .int (nI k)]) (r := none) d_E_buffers_12 ok_E_mustBeOneOf sl_E_67 rfl rfl (Nat.le_of_ble_eq_true rfl) (Nat.le_of_ble_eq_true rfl) (Nat.le_of_ble_eq_true rfl) (Nat.le_of_ble_eq_true rfl) rfl rfl (sp_mustBeOneOfY (by omega) hk) ?_
  refine go_iconst (v := 4) d_E_buffers_15 (by decide) ?_
  refine go_iload_n d_E_buffers_16 rfl ?_
  exact go_callSx (k2 := m_E_mustBeOneOf) (As := [.int (nI 4), .int b]) (E := "java/lang/IllegalArgumentException") d_E_buffers_17 ok_E_mustBeOneOf sl_E_67 rfl rfl (Nat.le_of_ble_eq_true rfl) (Nat.le_of_ble_eq_true rfl) (Nat.le_of_ble_eq_true rfl) (Nat.le_of_ble_eq_true rfl) rfl rfl rfl (sp_mustBeOneOfN (by decide) hx)
theorem sp_inside_X3 {b : Int32} {k n x : Nat} (h : I 0 4 = 1) (hn : I 1 1 = nI n) (hn2 : n ≤ 20) (hk : k < n) (he : I 7 k = nI x) (hx3 : x ≤ 3) (hx : ¬ okN b (x + 1)) : pm_Go 9 m_E_inside 0 [some (.ref 0), some (.int (nI k)), some (.int b)] [] 0 0 (ST I J) (.inr "java/lang/IllegalArgumentException", ST I J) := by
  refine go_aload_n d_E_inside_0 rfl ?_
  refine go_callV (k2 := m_E_mustBeBuilt) (As := []) (r := none) d_E_inside_1 ok_E_mustBeBuilt (Nat.le_of_ble_eq_true rfl) rfl pc_E rfl vl_E_102 rfl rfl (Nat.le_of_ble_eq_true rfl) (Nat.le_of_ble_eq_true rfl) (Nat.le_of_ble_eq_true rfl) (Nat.le_of_ble_eq_true rfl) rfl rfl (sp_mustBeBuiltY h) ?_
  refine go_aload_n d_E_inside_4 rfl ?_
  refine go_getP (j := 0) d_E_inside_5 (Nat.le_of_ble_eq_true rfl) rfl pc_E (Nat.le_of_ble_eq_true rfl) rfl w_239 pt_E_0 ?_
  refine go_gI (j := 1) (nI n) d_E_inside_8 (Nat.le_of_ble_eq_true rfl) rfl pc_D (Nat.le_of_ble_eq_true rfl) (by decide) w_41 hn ?_
  refine go_iload_n d_E_inside_11 rfl ?_
  refine go_callS (k2 := m_E_mustBeOneOf) (As := [.int (nI n), .int (nI k)]) (r := none) d_E_inside_12 ok_E_mustBeOneOf sl_E_67 rfl rfl (Nat.le_of_ble_eq_true rfl) (Nat.le_of_ble_eq_true rfl) (Nat.le_of_ble_eq_true rfl) (Nat.le_of_ble_eq_true rfl) rfl rfl (sp_mustBeOneOfY (by omega) hk) ?_
  refine go_aload_n d_E_inside_15 rfl ?_
  refine go_getP (j := 0) d_E_inside_16 (Nat.le_of_ble_eq_true rfl) rfl pc_E (Nat.le_of_ble_eq_true rfl) rfl w_239 pt_E_0 ?_
  refine go_getP (j := 9) d_E_inside_19 (Nat.le_of_ble_eq_true rfl) rfl pc_D (Nat.le_of_ble_eq_true rfl) rfl w_61 pt_D_9 ?_
  refine go_iload_n d_E_inside_22 rfl ?_
  refine go_ald k (nI x) d_E_inside_23 (Nat.le_of_ble_eq_true rfl) rfl rfl (by omega) (by decide) he ?_
  refine go_iconst (v := 1) d_E_inside_24 (by decide) ?_
  refine go_iadd d_E_inside_25 ?_
  refine go_top (nI (x + 1)) (nI_1 _) ?_
  refine go_iload_n d_E_inside_26 rfl ?_
  exact go_callSx (k2 := m_E_mustBeOneOf) (As := [.int (nI (x + 1)), .int b]) (E := "java/lang/IllegalArgumentException") d_E_inside_27 ok_E_mustBeOneOf sl_E_67 rfl rfl (Nat.le_of_ble_eq_true rfl) (Nat.le_of_ble_eq_true rfl) (Nat.le_of_ble_eq_true rfl) (Nat.le_of_ble_eq_true rfl) rfl rfl rfl (sp_mustBeOneOfN (by omega) hx)
end S16
