/-! the law's wrappers -/
theorem lx_l1 : Cond.classLink "ElasticNetsLaw" 13 "java/lang/IllegalStateException" ∈ lw_gw := wd_t 266 (by decide +kernel) (by decide +kernel)
theorem lx_c1 : Cond.initialized "java/lang/IllegalStateException" ∈ lw_gw := wd_t 10 (by decide +kernel) (by decide +kernel)
theorem lx_l2 : Cond.classLink "ElasticNetsLaw" 15 "java/lang/IllegalArgumentException" ∈ lw_gw := wd_t 267 (by decide +kernel) (by decide +kernel)
theorem lx_c2 : Cond.initialized "java/lang/IllegalArgumentException" ∈ lw_gw := wd_t 11 (by decide +kernel) (by decide +kernel)
theorem lx_l3 : Cond.classLink "ElasticNetsLaw" 70 "java/lang/IndexOutOfBoundsException" ∈ lw_gw := wd_t 605 (by decide +kernel) (by decide +kernel)
theorem lx_c3 : Cond.initialized "java/lang/IndexOutOfBoundsException" ∈ lw_gw := wd_t 15 (by decide +kernel) (by decide +kernel)
section S51
variable {I : Nat → Nat → Int32} {J : Nat → Nat → Int64}
theorem lwok_block {a b : Int32} {r : Int32} {I1 : Nat → Nat → Int32} {J1 : Nat → Nat → Int64} (h : pm_Go 9 m_E_block 0 [some (.ref 0), some (.int a), some (.int b)] [] 0 0 (ST I J) (.inl (some (.int r)), ST I1 J1)) : pm_Go 10 m_L_block 0 [some (.ref 0), some (.int a), some (.int b), some (.ref 103), none] [] 0 0 (ST I J) (.inl (some (.int 0)), ST I1 (pm_uJ J1 103 0 r.toInt64)) := by
  refine go_aload_n d_L_block_0 rfl ?_
  refine go_iconst (v := 0) d_L_block_1 (by decide) ?_
  refine go_aload_n d_L_block_2 rfl ?_
  refine go_iload_n d_L_block_3 rfl ?_
  refine go_iload_n d_L_block_4 rfl ?_
  refine go_callV (k2 := m_E_block) (As := [.int a, .int b]) (r := some (.int r)) d_L_block_5 ok_E_block (Nat.le_of_ble_eq_true rfl) rfl pc_E rfl vl_L_7 rfl rfl (Nat.le_of_ble_eq_true rfl) (Nat.le_of_ble_eq_true rfl) (Nat.le_of_ble_eq_true rfl) (Nat.le_of_ble_eq_true rfl) rfl rfl h ?_
  refine go_i2l d_L_block_8 ?_
  refine go_last 0 d_L_block_9 (Nat.le_of_ble_eq_true rfl) rfl rfl (by decide) (by decide) ?_
  refine go_goto (tgt := 21) d_L_block_10 (by decide) ?_
  refine go_iconst (v := 0) d_L_block_21 (by decide) ?_
  exact go_ireturn (st := []) d_L_block_22 rfl (Nat.le_of_ble_eq_true rfl) (Nat.le_of_ble_eq_true rfl) rfl
theorem lwhd_block1 : pm_hd m_L_block 5 "java/lang/IllegalStateException" 13 :=
  ⟨[], ⟨0, 10, 13, 13⟩, _, rfl, (fun z hz => by cases hz), by decide, by decide, rfl, "java/lang/IllegalStateException", lx_l1, rfl, lx_c1⟩
theorem lwex_block1 {a b : Int32} (h : pm_Go 9 m_E_block 0 [some (.ref 0), some (.int a), some (.int b)] [] 0 0 (ST I J) (.inr "java/lang/IllegalStateException", ST I J)) : pm_Go 10 m_L_block 0 [some (.ref 0), some (.int a), some (.int b), some (.ref 103), none] [] 0 0 (ST I J) (.inl (some (.int 1)), ST I J) := by
  refine go_aload_n d_L_block_0 rfl ?_
  refine go_iconst (v := 0) d_L_block_1 (by decide) ?_
  refine go_aload_n d_L_block_2 rfl ?_
  refine go_iload_n d_L_block_3 rfl ?_
  refine go_iload_n d_L_block_4 rfl ?_
  refine go_callVc (k2 := m_E_block) (As := [.int a, .int b]) (E := "java/lang/IllegalStateException") (hpc := 13) (i := 4) d_L_block_5 ok_E_block (Nat.le_of_ble_eq_true rfl) rfl pc_E rfl vl_L_7 rfl rfl (Nat.le_of_ble_eq_true rfl) (Nat.le_of_ble_eq_true rfl) (Nat.le_of_ble_eq_true rfl) (Nat.le_of_ble_eq_true rfl) rfl lwhd_block1 d_L_block_13 (Nat.le_of_ble_eq_true rfl) rfl h ?_
  refine go_iconst (v := 1) d_L_block_15 (by decide) ?_
  exact go_ireturn (st := []) d_L_block_16 rfl (Nat.le_of_ble_eq_true rfl) (Nat.le_of_ble_eq_true rfl) rfl
theorem lwhd_block2 : pm_hd m_L_block 5 "java/lang/IllegalArgumentException" 17 :=
  ⟨[⟨0, 10, 13, 13⟩], ⟨0, 10, 17, 15⟩, _, rfl, (fun z hz => by
      simp only [List.mem_cons, List.not_mem_nil, or_false] at hz
      subst hz
      · exact Or.inr ⟨by decide, "java/lang/IllegalStateException", lx_l1, by decide⟩), by decide, by decide, rfl, "java/lang/IllegalArgumentException", lx_l2, rfl, lx_c2⟩
theorem lwex_block2 {a b : Int32} (h : pm_Go 9 m_E_block 0 [some (.ref 0), some (.int a), some (.int b)] [] 0 0 (ST I J) (.inr "java/lang/IllegalArgumentException", ST I J)) : pm_Go 10 m_L_block 0 [some (.ref 0), some (.int a), some (.int b), some (.ref 103), none] [] 0 0 (ST I J) (.inl (some (.int 2)), ST I J) := by
  refine go_aload_n d_L_block_0 rfl ?_
  refine go_iconst (v := 0) d_L_block_1 (by decide) ?_
  refine go_aload_n d_L_block_2 rfl ?_
  refine go_iload_n d_L_block_3 rfl ?_
  refine go_iload_n d_L_block_4 rfl ?_
  refine go_callVc (k2 := m_E_block) (As := [.int a, .int b]) (E := "java/lang/IllegalArgumentException") (hpc := 17) (i := 4) d_L_block_5 ok_E_block (Nat.le_of_ble_eq_true rfl) rfl pc_E rfl vl_L_7 rfl rfl (Nat.le_of_ble_eq_true rfl) (Nat.le_of_ble_eq_true rfl) (Nat.le_of_ble_eq_true rfl) (Nat.le_of_ble_eq_true rfl) rfl lwhd_block2 d_L_block_17 (Nat.le_of_ble_eq_true rfl) rfl h ?_
  refine go_iconst (v := 2) d_L_block_19 (by decide) ?_
  exact go_ireturn (st := []) d_L_block_20 rfl (Nat.le_of_ble_eq_true rfl) (Nat.le_of_ble_eq_true rfl) rfl
theorem lwok_channel {a b c : Int32} {r : Int32} {I1 : Nat → Nat → Int32} {J1 : Nat → Nat → Int64} (h : pm_Go 9 m_E_channel 0 [some (.ref 0), some (.int a), some (.int b), some (.int c)] [] 0 0 (ST I J) (.inl (some (.int r)), ST I1 J1)) : pm_Go 10 m_L_channel 0 [some (.ref 0), some (.int a), some (.int b), some (.int c), some (.ref 103), none] [] 0 0 (ST I J) (.inl (some (.int 0)), ST I1 (pm_uJ J1 103 0 r.toInt64)) := by
  refine go_aload d_L_channel_0 rfl ?_
  refine go_iconst (v := 0) d_L_channel_2 (by decide) ?_
  refine go_aload_n d_L_channel_3 rfl ?_
  refine go_iload_n d_L_channel_4 rfl ?_
  refine go_iload_n d_L_channel_5 rfl ?_
  refine go_iload_n d_L_channel_6 rfl ?_
  refine go_callV (k2 := m_E_channel) (As := [.int a, .int b, .int c]) (r := some (.int r)) d_L_channel_7 ok_E_channel (Nat.le_of_ble_eq_true rfl) rfl pc_E rfl vl_L_17 rfl rfl (Nat.le_of_ble_eq_true rfl) (Nat.le_of_ble_eq_true rfl) (Nat.le_of_ble_eq_true rfl) (Nat.le_of_ble_eq_true rfl) rfl rfl h ?_
  refine go_i2l d_L_channel_10 ?_
  refine go_last 0 d_L_channel_11 (Nat.le_of_ble_eq_true rfl) rfl rfl (by decide) (by decide) ?_
  refine go_goto (tgt := 23) d_L_channel_12 (by decide) ?_
  refine go_iconst (v := 0) d_L_channel_23 (by decide) ?_
  exact go_ireturn (st := []) d_L_channel_24 rfl (Nat.le_of_ble_eq_true rfl) (Nat.le_of_ble_eq_true rfl) rfl
theorem lwhd_channel1 : pm_hd m_L_channel 7 "java/lang/IllegalStateException" 15 :=
  ⟨[], ⟨0, 12, 15, 13⟩, _, rfl, (fun z hz => by cases hz), by decide, by decide, rfl, "java/lang/IllegalStateException", lx_l1, rfl, lx_c1⟩
theorem lwex_channel1 {a b c : Int32} (h : pm_Go 9 m_E_channel 0 [some (.ref 0), some (.int a), some (.int b), some (.int c)] [] 0 0 (ST I J) (.inr "java/lang/IllegalStateException", ST I J)) : pm_Go 10 m_L_channel 0 [some (.ref 0), some (.int a), some (.int b), some (.int c), some (.ref 103), none] [] 0 0 (ST I J) (.inl (some (.int 1)), ST I J) := by
  refine go_aload d_L_channel_0 rfl ?_
  refine go_iconst (v := 0) d_L_channel_2 (by decide) ?_
  refine go_aload_n d_L_channel_3 rfl ?_
  refine go_iload_n d_L_channel_4 rfl ?_
  refine go_iload_n d_L_channel_5 rfl ?_
  refine go_iload_n d_L_channel_6 rfl ?_
  refine go_callVc (k2 := m_E_channel) (As := [.int a, .int b, .int c]) (E := "java/lang/IllegalStateException") (hpc := 15) (i := 5) d_L_channel_7 ok_E_channel (Nat.le_of_ble_eq_true rfl) rfl pc_E rfl vl_L_17 rfl rfl (Nat.le_of_ble_eq_true rfl) (Nat.le_of_ble_eq_true rfl) (Nat.le_of_ble_eq_true rfl) (Nat.le_of_ble_eq_true rfl) rfl lwhd_channel1 d_L_channel_15 (Nat.le_of_ble_eq_true rfl) rfl h ?_
  refine go_iconst (v := 1) d_L_channel_17 (by decide) ?_
  exact go_ireturn (st := []) d_L_channel_18 rfl (Nat.le_of_ble_eq_true rfl) (Nat.le_of_ble_eq_true rfl) rfl
theorem lwhd_channel2 : pm_hd m_L_channel 7 "java/lang/IllegalArgumentException" 19 :=
  ⟨[⟨0, 12, 15, 13⟩], ⟨0, 12, 19, 15⟩, _, rfl, (fun z hz => by
      simp only [List.mem_cons, List.not_mem_nil, or_false] at hz
      subst hz
      · exact Or.inr ⟨by decide, "java/lang/IllegalStateException", lx_l1, by decide⟩), by decide, by decide, rfl, "java/lang/IllegalArgumentException", lx_l2, rfl, lx_c2⟩
theorem lwex_channel2 {a b c : Int32} (h : pm_Go 9 m_E_channel 0 [some (.ref 0), some (.int a), some (.int b), some (.int c)] [] 0 0 (ST I J) (.inr "java/lang/IllegalArgumentException", ST I J)) : pm_Go 10 m_L_channel 0 [some (.ref 0), some (.int a), some (.int b), some (.int c), some (.ref 103), none] [] 0 0 (ST I J) (.inl (some (.int 2)), ST I J) := by
  refine go_aload d_L_channel_0 rfl ?_
  refine go_iconst (v := 0) d_L_channel_2 (by decide) ?_
  refine go_aload_n d_L_channel_3 rfl ?_
  refine go_iload_n d_L_channel_4 rfl ?_
  refine go_iload_n d_L_channel_5 rfl ?_
  refine go_iload_n d_L_channel_6 rfl ?_
  refine go_callVc (k2 := m_E_channel) (As := [.int a, .int b, .int c]) (E := "java/lang/IllegalArgumentException") (hpc := 19) (i := 5) d_L_channel_7 ok_E_channel (Nat.le_of_ble_eq_true rfl) rfl pc_E rfl vl_L_17 rfl rfl (Nat.le_of_ble_eq_true rfl) (Nat.le_of_ble_eq_true rfl) (Nat.le_of_ble_eq_true rfl) (Nat.le_of_ble_eq_true rfl) rfl lwhd_channel2 d_L_channel_19 (Nat.le_of_ble_eq_true rfl) rfl h ?_
  refine go_iconst (v := 2) d_L_channel_21 (by decide) ?_
  exact go_ireturn (st := []) d_L_channel_22 rfl (Nat.le_of_ble_eq_true rfl) (Nat.le_of_ble_eq_true rfl) rfl
theorem lwok_input {a : Int32} {r : Int32} {I1 : Nat → Nat → Int32} {J1 : Nat → Nat → Int64} (h : pm_Go 9 m_E_input 0 [some (.ref 0), some (.int a)] [] 0 0 (ST I J) (.inl (some (.int r)), ST I1 J1)) : pm_Go 10 m_L_input 0 [some (.ref 0), some (.int a), some (.ref 103), none] [] 0 0 (ST I J) (.inl (some (.int 0)), ST I1 (pm_uJ J1 103 0 r.toInt64)) := by
  refine go_aload_n d_L_input_0 rfl ?_
  refine go_iconst (v := 0) d_L_input_1 (by decide) ?_
  refine go_aload_n d_L_input_2 rfl ?_
  refine go_iload_n d_L_input_3 rfl ?_
  refine go_callV (k2 := m_E_input) (As := [.int a]) (r := some (.int r)) d_L_input_4 ok_E_input (Nat.le_of_ble_eq_true rfl) rfl pc_E rfl vl_L_21 rfl rfl (Nat.le_of_ble_eq_true rfl) (Nat.le_of_ble_eq_true rfl) (Nat.le_of_ble_eq_true rfl) (Nat.le_of_ble_eq_true rfl) rfl rfl h ?_
  refine go_i2l d_L_input_7 ?_
  refine go_last 0 d_L_input_8 (Nat.le_of_ble_eq_true rfl) rfl rfl (by decide) (by decide) ?_
  refine go_goto (tgt := 18) d_L_input_9 (by decide) ?_
  refine go_iconst (v := 0) d_L_input_18 (by decide) ?_
  exact go_ireturn (st := []) d_L_input_19 rfl (Nat.le_of_ble_eq_true rfl) (Nat.le_of_ble_eq_true rfl) rfl
theorem lwhd_input1 : pm_hd m_L_input 4 "java/lang/IllegalStateException" 12 :=
  ⟨[], ⟨0, 9, 12, 13⟩, _, rfl, (fun z hz => by cases hz), by decide, by decide, rfl, "java/lang/IllegalStateException", lx_l1, rfl, lx_c1⟩
theorem lwex_input1 {a : Int32} (h : pm_Go 9 m_E_input 0 [some (.ref 0), some (.int a)] [] 0 0 (ST I J) (.inr "java/lang/IllegalStateException", ST I J)) : pm_Go 10 m_L_input 0 [some (.ref 0), some (.int a), some (.ref 103), none] [] 0 0 (ST I J) (.inl (some (.int 1)), ST I J) := by
  refine go_aload_n d_L_input_0 rfl ?_
  refine go_iconst (v := 0) d_L_input_1 (by decide) ?_
  refine go_aload_n d_L_input_2 rfl ?_
  refine go_iload_n d_L_input_3 rfl ?_
  refine go_callVc_n (k2 := m_E_input) (As := [.int a]) (E := "java/lang/IllegalStateException") (hpc := 12) (i := 3) d_L_input_4 ok_E_input (Nat.le_of_ble_eq_true rfl) rfl pc_E rfl vl_L_21 rfl rfl (Nat.le_of_ble_eq_true rfl) (Nat.le_of_ble_eq_true rfl) (Nat.le_of_ble_eq_true rfl) (Nat.le_of_ble_eq_true rfl) rfl lwhd_input1 d_L_input_12 (Nat.le_of_ble_eq_true rfl) rfl h ?_
  refine go_iconst (v := 1) d_L_input_13 (by decide) ?_
  exact go_ireturn (st := []) d_L_input_14 rfl (Nat.le_of_ble_eq_true rfl) (Nat.le_of_ble_eq_true rfl) rfl
theorem lwhd_input2 : pm_hd m_L_input 4 "java/lang/IllegalArgumentException" 15 :=
  ⟨[⟨0, 9, 12, 13⟩], ⟨0, 9, 15, 15⟩, _, rfl, (fun z hz => by
      simp only [List.mem_cons, List.not_mem_nil, or_false] at hz
      subst hz
      · exact Or.inr ⟨by decide, "java/lang/IllegalStateException", lx_l1, by decide⟩), by decide, by decide, rfl, "java/lang/IllegalArgumentException", lx_l2, rfl, lx_c2⟩
theorem lwex_input2 {a : Int32} (h : pm_Go 9 m_E_input 0 [some (.ref 0), some (.int a)] [] 0 0 (ST I J) (.inr "java/lang/IllegalArgumentException", ST I J)) : pm_Go 10 m_L_input 0 [some (.ref 0), some (.int a), some (.ref 103), none] [] 0 0 (ST I J) (.inl (some (.int 2)), ST I J) := by
  refine go_aload_n d_L_input_0 rfl ?_
  refine go_iconst (v := 0) d_L_input_1 (by decide) ?_
  refine go_aload_n d_L_input_2 rfl ?_
  refine go_iload_n d_L_input_3 rfl ?_
  refine go_callVc_n (k2 := m_E_input) (As := [.int a]) (E := "java/lang/IllegalArgumentException") (hpc := 15) (i := 3) d_L_input_4 ok_E_input (Nat.le_of_ble_eq_true rfl) rfl pc_E rfl vl_L_21 rfl rfl (Nat.le_of_ble_eq_true rfl) (Nat.le_of_ble_eq_true rfl) (Nat.le_of_ble_eq_true rfl) (Nat.le_of_ble_eq_true rfl) rfl lwhd_input2 d_L_input_15 (Nat.le_of_ble_eq_true rfl) rfl h ?_
  refine go_iconst (v := 2) d_L_input_16 (by decide) ?_
  exact go_ireturn (st := []) d_L_input_17 rfl (Nat.le_of_ble_eq_true rfl) (Nat.le_of_ble_eq_true rfl) rfl
theorem lwok_output {a : Int32} {r : Int32} {I1 : Nat → Nat → Int32} {J1 : Nat → Nat → Int64} (h : pm_Go 9 m_E_output 0 [some (.ref 0), some (.int a)] [] 0 0 (ST I J) (.inl (some (.int r)), ST I1 J1)) : pm_Go 10 m_L_output 0 [some (.ref 0), some (.int a), some (.ref 103), none] [] 0 0 (ST I J) (.inl (some (.int 0)), ST I1 (pm_uJ J1 103 0 r.toInt64)) := by
  refine go_aload_n d_L_output_0 rfl ?_
  refine go_iconst (v := 0) d_L_output_1 (by decide) ?_
  refine go_aload_n d_L_output_2 rfl ?_
  refine go_iload_n d_L_output_3 rfl ?_
  refine go_callV (k2 := m_E_output) (As := [.int a]) (r := some (.int r)) d_L_output_4 ok_E_output (Nat.le_of_ble_eq_true rfl) rfl pc_E rfl vl_L_25 rfl rfl (Nat.le_of_ble_eq_true rfl) (Nat.le_of_ble_eq_true rfl) (Nat.le_of_ble_eq_true rfl) (Nat.le_of_ble_eq_true rfl) rfl rfl h ?_
  refine go_i2l d_L_output_7 ?_
  refine go_last 0 d_L_output_8 (Nat.le_of_ble_eq_true rfl) rfl rfl (by decide) (by decide) ?_
  refine go_goto (tgt := 18) d_L_output_9 (by decide) ?_
  refine go_iconst (v := 0) d_L_output_18 (by decide) ?_
  exact go_ireturn (st := []) d_L_output_19 rfl (Nat.le_of_ble_eq_true rfl) (Nat.le_of_ble_eq_true rfl) rfl
theorem lwhd_output1 : pm_hd m_L_output 4 "java/lang/IllegalStateException" 12 :=
  ⟨[], ⟨0, 9, 12, 13⟩, _, rfl, (fun z hz => by cases hz), by decide, by decide, rfl, "java/lang/IllegalStateException", lx_l1, rfl, lx_c1⟩
theorem lwex_output1 {a : Int32} (h : pm_Go 9 m_E_output 0 [some (.ref 0), some (.int a)] [] 0 0 (ST I J) (.inr "java/lang/IllegalStateException", ST I J)) : pm_Go 10 m_L_output 0 [some (.ref 0), some (.int a), some (.ref 103), none] [] 0 0 (ST I J) (.inl (some (.int 1)), ST I J) := by
  refine go_aload_n d_L_output_0 rfl ?_
  refine go_iconst (v := 0) d_L_output_1 (by decide) ?_
  refine go_aload_n d_L_output_2 rfl ?_
  refine go_iload_n d_L_output_3 rfl ?_
  refine go_callVc_n (k2 := m_E_output) (As := [.int a]) (E := "java/lang/IllegalStateException") (hpc := 12) (i := 3) d_L_output_4 ok_E_output (Nat.le_of_ble_eq_true rfl) rfl pc_E rfl vl_L_25 rfl rfl (Nat.le_of_ble_eq_true rfl) (Nat.le_of_ble_eq_true rfl) (Nat.le_of_ble_eq_true rfl) (Nat.le_of_ble_eq_true rfl) rfl lwhd_output1 d_L_output_12 (Nat.le_of_ble_eq_true rfl) rfl h ?_
  refine go_iconst (v := 1) d_L_output_13 (by decide) ?_
  exact go_ireturn (st := []) d_L_output_14 rfl (Nat.le_of_ble_eq_true rfl) (Nat.le_of_ble_eq_true rfl) rfl
theorem lwhd_output2 : pm_hd m_L_output 4 "java/lang/IllegalArgumentException" 15 :=
  ⟨[⟨0, 9, 12, 13⟩], ⟨0, 9, 15, 15⟩, _, rfl, (fun z hz => by
      simp only [List.mem_cons, List.not_mem_nil, or_false] at hz
      subst hz
      · exact Or.inr ⟨by decide, "java/lang/IllegalStateException", lx_l1, by decide⟩), by decide, by decide, rfl, "java/lang/IllegalArgumentException", lx_l2, rfl, lx_c2⟩
theorem lwex_output2 {a : Int32} (h : pm_Go 9 m_E_output 0 [some (.ref 0), some (.int a)] [] 0 0 (ST I J) (.inr "java/lang/IllegalArgumentException", ST I J)) : pm_Go 10 m_L_output 0 [some (.ref 0), some (.int a), some (.ref 103), none] [] 0 0 (ST I J) (.inl (some (.int 2)), ST I J) := by
  refine go_aload_n d_L_output_0 rfl ?_
  refine go_iconst (v := 0) d_L_output_1 (by decide) ?_
  refine go_aload_n d_L_output_2 rfl ?_
  refine go_iload_n d_L_output_3 rfl ?_
  refine go_callVc_n (k2 := m_E_output) (As := [.int a]) (E := "java/lang/IllegalArgumentException") (hpc := 15) (i := 3) d_L_output_4 ok_E_output (Nat.le_of_ble_eq_true rfl) rfl pc_E rfl vl_L_25 rfl rfl (Nat.le_of_ble_eq_true rfl) (Nat.le_of_ble_eq_true rfl) (Nat.le_of_ble_eq_true rfl) (Nat.le_of_ble_eq_true rfl) rfl lwhd_output2 d_L_output_15 (Nat.le_of_ble_eq_true rfl) rfl h ?_
  refine go_iconst (v := 2) d_L_output_16 (by decide) ?_
  exact go_ireturn (st := []) d_L_output_17 rfl (Nat.le_of_ble_eq_true rfl) (Nat.le_of_ble_eq_true rfl) rfl
theorem lwok_buffers {a b : Int32} {r : Int32} {I1 : Nat → Nat → Int32} {J1 : Nat → Nat → Int64} (h : pm_Go 9 m_E_buffers 0 [some (.ref 0), some (.int a), some (.int b), none] [] 0 0 (ST I J) (.inl (some (.int r)), ST I1 J1)) : pm_Go 10 m_L_buffers 0 [some (.ref 0), some (.int a), some (.int b), some (.ref 103), none] [] 0 0 (ST I J) (.inl (some (.int 0)), ST I1 (pm_uJ J1 103 0 r.toInt64)) := by
  refine go_aload_n d_L_buffers_0 rfl ?_
  refine go_iconst (v := 0) d_L_buffers_1 (by decide) ?_
  refine go_aload_n d_L_buffers_2 rfl ?_
  refine go_iload_n d_L_buffers_3 rfl ?_
  refine go_iload_n d_L_buffers_4 rfl ?_
  refine go_callV (k2 := m_E_buffers) (As := [.int a, .int b]) (r := some (.int r)) d_L_buffers_5 ok_E_buffers (Nat.le_of_ble_eq_true rfl) rfl pc_E rfl vl_L_28 rfl rfl (Nat.le_of_ble_eq_true rfl) (Nat.le_of_ble_eq_true rfl) (Nat.le_of_ble_eq_true rfl) (Nat.le_of_ble_eq_true rfl) rfl rfl h ?_
  refine go_i2l d_L_buffers_8 ?_
  refine go_last 0 d_L_buffers_9 (Nat.le_of_ble_eq_true rfl) rfl rfl (by decide) (by decide) ?_
  refine go_goto (tgt := 21) d_L_buffers_10 (by decide) ?_
  refine go_iconst (v := 0) d_L_buffers_21 (by decide) ?_
  exact go_ireturn (st := []) d_L_buffers_22 rfl (Nat.le_of_ble_eq_true rfl) (Nat.le_of_ble_eq_true rfl) rfl
theorem lwhd_buffers1 : pm_hd m_L_buffers 5 "java/lang/IllegalStateException" 13 :=
  ⟨[], ⟨0, 10, 13, 13⟩, _, rfl, (fun z hz => by cases hz), by decide, by decide, rfl, "java/lang/IllegalStateException", lx_l1, rfl, lx_c1⟩
theorem lwex_buffers1 {a b : Int32} (h : pm_Go 9 m_E_buffers 0 [some (.ref 0), some (.int a), some (.int b), none] [] 0 0 (ST I J) (.inr "java/lang/IllegalStateException", ST I J)) : pm_Go 10 m_L_buffers 0 [some (.ref 0), some (.int a), some (.int b), some (.ref 103), none] [] 0 0 (ST I J) (.inl (some (.int 1)), ST I J) := by
  refine go_aload_n d_L_buffers_0 rfl ?_
  refine go_iconst (v := 0) d_L_buffers_1 (by decide) ?_
  refine go_aload_n d_L_buffers_2 rfl ?_
  refine go_iload_n d_L_buffers_3 rfl ?_
  refine go_iload_n d_L_buffers_4 rfl ?_
  refine go_callVc (k2 := m_E_buffers) (As := [.int a, .int b]) (E := "java/lang/IllegalStateException") (hpc := 13) (i := 4) d_L_buffers_5 ok_E_buffers (Nat.le_of_ble_eq_true rfl) rfl pc_E rfl vl_L_28 rfl rfl (Nat.le_of_ble_eq_true rfl) (Nat.le_of_ble_eq_true rfl) (Nat.le_of_ble_eq_true rfl) (Nat.le_of_ble_eq_true rfl) rfl lwhd_buffers1 d_L_buffers_13 (Nat.le_of_ble_eq_true rfl) rfl h ?_
  refine go_iconst (v := 1) d_L_buffers_15 (by decide) ?_
  exact go_ireturn (st := []) d_L_buffers_16 rfl (Nat.le_of_ble_eq_true rfl) (Nat.le_of_ble_eq_true rfl) rfl
theorem lwhd_buffers2 : pm_hd m_L_buffers 5 "java/lang/IllegalArgumentException" 17 :=
  ⟨[⟨0, 10, 13, 13⟩], ⟨0, 10, 17, 15⟩, _, rfl, (fun z hz => by
      simp only [List.mem_cons, List.not_mem_nil, or_false] at hz
      subst hz
      · exact Or.inr ⟨by decide, "java/lang/IllegalStateException", lx_l1, by decide⟩), by decide, by decide, rfl, "java/lang/IllegalArgumentException", lx_l2, rfl, lx_c2⟩
theorem lwex_buffers2 {a b : Int32} (h : pm_Go 9 m_E_buffers 0 [some (.ref 0), some (.int a), some (.int b), none] [] 0 0 (ST I J) (.inr "java/lang/IllegalArgumentException", ST I J)) : pm_Go 10 m_L_buffers 0 [some (.ref 0), some (.int a), some (.int b), some (.ref 103), none] [] 0 0 (ST I J) (.inl (some (.int 2)), ST I J) := by
  refine go_aload_n d_L_buffers_0 rfl ?_
  refine go_iconst (v := 0) d_L_buffers_1 (by decide) ?_
  refine go_aload_n d_L_buffers_2 rfl ?_
  refine go_iload_n d_L_buffers_3 rfl ?_
  refine go_iload_n d_L_buffers_4 rfl ?_
  refine go_callVc (k2 := m_E_buffers) (As := [.int a, .int b]) (E := "java/lang/IllegalArgumentException") (hpc := 17) (i := 4) d_L_buffers_5 ok_E_buffers (Nat.le_of_ble_eq_true rfl) rfl pc_E rfl vl_L_28 rfl rfl (Nat.le_of_ble_eq_true rfl) (Nat.le_of_ble_eq_true rfl) (Nat.le_of_ble_eq_true rfl) (Nat.le_of_ble_eq_true rfl) rfl lwhd_buffers2 d_L_buffers_17 (Nat.le_of_ble_eq_true rfl) rfl h ?_
  refine go_iconst (v := 2) d_L_buffers_19 (by decide) ?_
  exact go_ireturn (st := []) d_L_buffers_20 rfl (Nat.le_of_ble_eq_true rfl) (Nat.le_of_ble_eq_true rfl) rfl
theorem lwok_build {r : Int32} {I1 : Nat → Nat → Int32} {J1 : Nat → Nat → Int64} (h : pm_Go 9 m_E_build 0 [some (.ref 0)] [] 0 0 (ST I J) (.inl (some (.int r)), ST I1 J1)) : pm_Go 10 m_L_build 0 [some (.ref 0), some (.ref 103), none] [] 0 0 (ST I J) (.inl (some (.int 0)), ST I1 (pm_uJ J1 103 0 r.toInt64)) := by
  refine go_aload_n d_L_build_0 rfl ?_
  refine go_iconst (v := 0) d_L_build_1 (by decide) ?_
  refine go_aload_n d_L_build_2 rfl ?_
  refine go_callV (k2 := m_E_build) (As := []) (r := some (.int r)) d_L_build_3 ok_E_build (Nat.le_of_ble_eq_true rfl) rfl pc_E rfl vl_L_31 rfl rfl (Nat.le_of_ble_eq_true rfl) (Nat.le_of_ble_eq_true rfl) (Nat.le_of_ble_eq_true rfl) (Nat.le_of_ble_eq_true rfl) rfl rfl h ?_
  refine go_i2l d_L_build_6 ?_
  refine go_last 0 d_L_build_7 (Nat.le_of_ble_eq_true rfl) rfl rfl (by decide) (by decide) ?_
  refine go_goto (tgt := 14) d_L_build_8 (by decide) ?_
  refine go_iconst (v := 0) d_L_build_14 (by decide) ?_
  exact go_ireturn (st := []) d_L_build_15 rfl (Nat.le_of_ble_eq_true rfl) (Nat.le_of_ble_eq_true rfl) rfl
theorem lwhd_build1 : pm_hd m_L_build 3 "java/lang/IllegalStateException" 11 :=
  ⟨[], ⟨0, 8, 11, 13⟩, _, rfl, (fun z hz => by cases hz), by decide, by decide, rfl, "java/lang/IllegalStateException", lx_l1, rfl, lx_c1⟩
theorem lwex_build1 (h : pm_Go 9 m_E_build 0 [some (.ref 0)] [] 0 0 (ST I J) (.inr "java/lang/IllegalStateException", ST I J)) : pm_Go 10 m_L_build 0 [some (.ref 0), some (.ref 103), none] [] 0 0 (ST I J) (.inl (some (.int 1)), ST I J) := by
  refine go_aload_n d_L_build_0 rfl ?_
  refine go_iconst (v := 0) d_L_build_1 (by decide) ?_
  refine go_aload_n d_L_build_2 rfl ?_
  refine go_callVc_n (k2 := m_E_build) (As := []) (E := "java/lang/IllegalStateException") (hpc := 11) (i := 2) d_L_build_3 ok_E_build (Nat.le_of_ble_eq_true rfl) rfl pc_E rfl vl_L_31 rfl rfl (Nat.le_of_ble_eq_true rfl) (Nat.le_of_ble_eq_true rfl) (Nat.le_of_ble_eq_true rfl) (Nat.le_of_ble_eq_true rfl) rfl lwhd_build1 d_L_build_11 (Nat.le_of_ble_eq_true rfl) rfl h ?_
  refine go_iconst (v := 1) d_L_build_12 (by decide) ?_
  exact go_ireturn (st := []) d_L_build_13 rfl (Nat.le_of_ble_eq_true rfl) (Nat.le_of_ble_eq_true rfl) rfl
theorem lwok_restart {I1 : Nat → Nat → Int32} {J1 : Nat → Nat → Int64} (h : pm_Go 9 m_E_restart 0 [some (.ref 0)] [] 0 0 (ST I J) (.inl none, ST I1 J1)) : pm_Go 10 m_L_restart 0 [some (.ref 0), none] [] 0 0 (ST I J) (.inl (some (.int 0)), ST I1 J1) := by
  refine go_aload_n d_L_restart_0 rfl ?_
  refine go_callV (k2 := m_E_restart) (As := []) (r := none) d_L_restart_1 ok_E_restart (Nat.le_of_ble_eq_true rfl) rfl pc_E rfl vl_L_35 rfl rfl (Nat.le_of_ble_eq_true rfl) (Nat.le_of_ble_eq_true rfl) (Nat.le_of_ble_eq_true rfl) (Nat.le_of_ble_eq_true rfl) rfl rfl h ?_
  refine go_goto (tgt := 10) d_L_restart_4 (by decide) ?_
  refine go_iconst (v := 0) d_L_restart_10 (by decide) ?_
  exact go_ireturn (st := []) d_L_restart_11 rfl (Nat.le_of_ble_eq_true rfl) (Nat.le_of_ble_eq_true rfl) rfl
theorem lwhd_restart1 : pm_hd m_L_restart 1 "java/lang/IllegalStateException" 7 :=
  ⟨[], ⟨0, 4, 7, 13⟩, _, rfl, (fun z hz => by cases hz), by decide, by decide, rfl, "java/lang/IllegalStateException", lx_l1, rfl, lx_c1⟩
theorem lwex_restart1 (h : pm_Go 9 m_E_restart 0 [some (.ref 0)] [] 0 0 (ST I J) (.inr "java/lang/IllegalStateException", ST I J)) : pm_Go 10 m_L_restart 0 [some (.ref 0), none] [] 0 0 (ST I J) (.inl (some (.int 1)), ST I J) := by
  refine go_aload_n d_L_restart_0 rfl ?_
  refine go_callVc_n (k2 := m_E_restart) (As := []) (E := "java/lang/IllegalStateException") (hpc := 7) (i := 1) d_L_restart_1 ok_E_restart (Nat.le_of_ble_eq_true rfl) rfl pc_E rfl vl_L_35 rfl rfl (Nat.le_of_ble_eq_true rfl) (Nat.le_of_ble_eq_true rfl) (Nat.le_of_ble_eq_true rfl) (Nat.le_of_ble_eq_true rfl) rfl lwhd_restart1 d_L_restart_7 (Nat.le_of_ble_eq_true rfl) rfl h ?_
  refine go_iconst (v := 1) d_L_restart_8 (by decide) ?_
  exact go_ireturn (st := []) d_L_restart_9 rfl (Nat.le_of_ble_eq_true rfl) (Nat.le_of_ble_eq_true rfl) rfl
theorem lwok_offer0 {a b : Int32} {I1 : Nat → Nat → Int32} {J1 : Nat → Nat → Int64} (h : pm_Go 9 m_E_offer 0 [some (.ref 0), some (.int a), some (.int b)] [] 0 0 (ST I J) (.inl (some (.int 0)), ST I1 J1)) : pm_Go 10 m_L_offer 0 [some (.ref 0), some (.int a), some (.int b), some (.ref 103), none] [] 0 0 (ST I J) (.inl (some (.int 0)), ST I1 (pm_uJ J1 103 0 (0 : Int32).toInt64)) := by
  have e : (0 : Int32).toInt64 = 0 := by decide +kernel
  rw [e]
  refine go_aload_n d_L_offer_0 rfl ?_
  refine go_iconst (v := 0) d_L_offer_1 (by decide) ?_
  refine go_aload_n d_L_offer_2 rfl ?_
  refine go_iload_n d_L_offer_3 rfl ?_
  refine go_iload_n d_L_offer_4 rfl ?_
  refine go_callV (k2 := m_E_offer) (As := [.int a, .int b]) (r := some (.int 0)) d_L_offer_5 ok_E_offer (Nat.le_of_ble_eq_true rfl) rfl pc_E rfl vl_L_38 rfl rfl (Nat.le_of_ble_eq_true rfl) (Nat.le_of_ble_eq_true rfl) (Nat.le_of_ble_eq_true rfl) (Nat.le_of_ble_eq_true rfl) rfl rfl h ?_
  refine go_if_eq (tgt := 15) d_L_offer_8 (by decide) (fun z => ?_) (fun z => absurd rfl z)
  refine go_lconst (v := 0) d_L_offer_15 (by decide) ?_
  refine go_last 0 d_L_offer_16 (Nat.le_of_ble_eq_true rfl) rfl rfl (by decide) (by decide) ?_
  refine go_goto (tgt := 28) d_L_offer_17 (by decide) ?_
  refine go_iconst (v := 0) d_L_offer_28 (by decide) ?_
  exact go_ireturn (st := []) d_L_offer_29 rfl (Nat.le_of_ble_eq_true rfl) (Nat.le_of_ble_eq_true rfl) rfl
theorem lwok_offer1 {a b : Int32} {I1 : Nat → Nat → Int32} {J1 : Nat → Nat → Int64} (h : pm_Go 9 m_E_offer 0 [some (.ref 0), some (.int a), some (.int b)] [] 0 0 (ST I J) (.inl (some (.int 1)), ST I1 J1)) : pm_Go 10 m_L_offer 0 [some (.ref 0), some (.int a), some (.int b), some (.ref 103), none] [] 0 0 (ST I J) (.inl (some (.int 0)), ST I1 (pm_uJ J1 103 0 (1 : Int32).toInt64)) := by
  have e : (1 : Int32).toInt64 = 1 := by decide +kernel
  rw [e]
  refine go_aload_n d_L_offer_0 rfl ?_
  refine go_iconst (v := 0) d_L_offer_1 (by decide) ?_
  refine go_aload_n d_L_offer_2 rfl ?_
  refine go_iload_n d_L_offer_3 rfl ?_
  refine go_iload_n d_L_offer_4 rfl ?_
  refine go_callV (k2 := m_E_offer) (As := [.int a, .int b]) (r := some (.int 1)) d_L_offer_5 ok_E_offer (Nat.le_of_ble_eq_true rfl) rfl pc_E rfl vl_L_38 rfl rfl (Nat.le_of_ble_eq_true rfl) (Nat.le_of_ble_eq_true rfl) (Nat.le_of_ble_eq_true rfl) (Nat.le_of_ble_eq_true rfl) rfl rfl h ?_
  refine go_if_eq (tgt := 15) d_L_offer_8 (by decide) (fun z => absurd z (by decide)) (fun z => ?_)
  refine go_lconst (v := 1) d_L_offer_11 (by decide) ?_
  refine go_goto (tgt := 16) d_L_offer_12 (by decide) ?_
  refine go_last 0 d_L_offer_16 (Nat.le_of_ble_eq_true rfl) rfl rfl (by decide) (by decide) ?_
  refine go_goto (tgt := 28) d_L_offer_17 (by decide) ?_
  refine go_iconst (v := 0) d_L_offer_28 (by decide) ?_
  exact go_ireturn (st := []) d_L_offer_29 rfl (Nat.le_of_ble_eq_true rfl) (Nat.le_of_ble_eq_true rfl) rfl
theorem lwhd_offer1 : pm_hd m_L_offer 5 "java/lang/IllegalStateException" 20 :=
  ⟨[], ⟨0, 17, 20, 13⟩, _, rfl, (fun z hz => by cases hz), by decide, by decide, rfl, "java/lang/IllegalStateException", lx_l1, rfl, lx_c1⟩
theorem lwex_offer1 {a b : Int32} (h : pm_Go 9 m_E_offer 0 [some (.ref 0), some (.int a), some (.int b)] [] 0 0 (ST I J) (.inr "java/lang/IllegalStateException", ST I J)) : pm_Go 10 m_L_offer 0 [some (.ref 0), some (.int a), some (.int b), some (.ref 103), none] [] 0 0 (ST I J) (.inl (some (.int 1)), ST I J) := by
  refine go_aload_n d_L_offer_0 rfl ?_
  refine go_iconst (v := 0) d_L_offer_1 (by decide) ?_
  refine go_aload_n d_L_offer_2 rfl ?_
  refine go_iload_n d_L_offer_3 rfl ?_
  refine go_iload_n d_L_offer_4 rfl ?_
  refine go_callVc (k2 := m_E_offer) (As := [.int a, .int b]) (E := "java/lang/IllegalStateException") (hpc := 20) (i := 4) d_L_offer_5 ok_E_offer (Nat.le_of_ble_eq_true rfl) rfl pc_E rfl vl_L_38 rfl rfl (Nat.le_of_ble_eq_true rfl) (Nat.le_of_ble_eq_true rfl) (Nat.le_of_ble_eq_true rfl) (Nat.le_of_ble_eq_true rfl) rfl lwhd_offer1 d_L_offer_20 (Nat.le_of_ble_eq_true rfl) rfl h ?_
  refine go_iconst (v := 1) d_L_offer_22 (by decide) ?_
  exact go_ireturn (st := []) d_L_offer_23 rfl (Nat.le_of_ble_eq_true rfl) (Nat.le_of_ble_eq_true rfl) rfl
theorem lwhd_offer2 : pm_hd m_L_offer 5 "java/lang/IllegalArgumentException" 24 :=
  ⟨[⟨0, 17, 20, 13⟩], ⟨0, 17, 24, 15⟩, _, rfl, (fun z hz => by
      simp only [List.mem_cons, List.not_mem_nil, or_false] at hz
      subst hz
      · exact Or.inr ⟨by decide, "java/lang/IllegalStateException", lx_l1, by decide⟩), by decide, by decide, rfl, "java/lang/IllegalArgumentException", lx_l2, rfl, lx_c2⟩
theorem lwex_offer2 {a b : Int32} (h : pm_Go 9 m_E_offer 0 [some (.ref 0), some (.int a), some (.int b)] [] 0 0 (ST I J) (.inr "java/lang/IllegalArgumentException", ST I J)) : pm_Go 10 m_L_offer 0 [some (.ref 0), some (.int a), some (.int b), some (.ref 103), none] [] 0 0 (ST I J) (.inl (some (.int 2)), ST I J) := by
  refine go_aload_n d_L_offer_0 rfl ?_
  refine go_iconst (v := 0) d_L_offer_1 (by decide) ?_
  refine go_aload_n d_L_offer_2 rfl ?_
  refine go_iload_n d_L_offer_3 rfl ?_
  refine go_iload_n d_L_offer_4 rfl ?_
  refine go_callVc (k2 := m_E_offer) (As := [.int a, .int b]) (E := "java/lang/IllegalArgumentException") (hpc := 24) (i := 4) d_L_offer_5 ok_E_offer (Nat.le_of_ble_eq_true rfl) rfl pc_E rfl vl_L_38 rfl rfl (Nat.le_of_ble_eq_true rfl) (Nat.le_of_ble_eq_true rfl) (Nat.le_of_ble_eq_true rfl) (Nat.le_of_ble_eq_true rfl) rfl lwhd_offer2 d_L_offer_24 (Nat.le_of_ble_eq_true rfl) rfl h ?_
  refine go_iconst (v := 2) d_L_offer_26 (by decide) ?_
  exact go_ireturn (st := []) d_L_offer_27 rfl (Nat.le_of_ble_eq_true rfl) (Nat.le_of_ble_eq_true rfl) rfl
theorem lwok_tick {a : Int32} {r : Int32} {I1 : Nat → Nat → Int32} {J1 : Nat → Nat → Int64} (h : pm_Go 9 m_E_tick 0 [some (.ref 0), some (.int a)] [] 0 0 (ST I J) (.inl (some (.int r)), ST I1 J1)) : pm_Go 10 m_L_tick 0 [some (.ref 0), some (.int a), some (.ref 103), none] [] 0 0 (ST I J) (.inl (some (.int 0)), ST I1 (pm_uJ J1 103 0 r.toInt64)) := by
  refine go_aload_n d_L_tick_0 rfl ?_
  refine go_iconst (v := 0) d_L_tick_1 (by decide) ?_
  refine go_aload_n d_L_tick_2 rfl ?_
  refine go_iload_n d_L_tick_3 rfl ?_
  refine go_callV (k2 := m_E_tick) (As := [.int a]) (r := some (.int r)) d_L_tick_4 ok_E_tick (Nat.le_of_ble_eq_true rfl) rfl pc_E rfl vl_L_42 rfl rfl (Nat.le_of_ble_eq_true rfl) (Nat.le_of_ble_eq_true rfl) (Nat.le_of_ble_eq_true rfl) (Nat.le_of_ble_eq_true rfl) rfl rfl h ?_
  refine go_i2l d_L_tick_7 ?_
  refine go_last 0 d_L_tick_8 (Nat.le_of_ble_eq_true rfl) rfl rfl (by decide) (by decide) ?_
  refine go_goto (tgt := 15) d_L_tick_9 (by decide) ?_
  refine go_iconst (v := 0) d_L_tick_15 (by decide) ?_
  exact go_ireturn (st := []) d_L_tick_16 rfl (Nat.le_of_ble_eq_true rfl) (Nat.le_of_ble_eq_true rfl) rfl
theorem lwhd_tick1 : pm_hd m_L_tick 4 "java/lang/IllegalStateException" 12 :=
  ⟨[], ⟨0, 9, 12, 13⟩, _, rfl, (fun z hz => by cases hz), by decide, by decide, rfl, "java/lang/IllegalStateException", lx_l1, rfl, lx_c1⟩
theorem lwex_tick1 {a : Int32} (h : pm_Go 9 m_E_tick 0 [some (.ref 0), some (.int a)] [] 0 0 (ST I J) (.inr "java/lang/IllegalStateException", ST I J)) : pm_Go 10 m_L_tick 0 [some (.ref 0), some (.int a), some (.ref 103), none] [] 0 0 (ST I J) (.inl (some (.int 1)), ST I J) := by
  refine go_aload_n d_L_tick_0 rfl ?_
  refine go_iconst (v := 0) d_L_tick_1 (by decide) ?_
  refine go_aload_n d_L_tick_2 rfl ?_
  refine go_iload_n d_L_tick_3 rfl ?_
  refine go_callVc_n (k2 := m_E_tick) (As := [.int a]) (E := "java/lang/IllegalStateException") (hpc := 12) (i := 3) d_L_tick_4 ok_E_tick (Nat.le_of_ble_eq_true rfl) rfl pc_E rfl vl_L_42 rfl rfl (Nat.le_of_ble_eq_true rfl) (Nat.le_of_ble_eq_true rfl) (Nat.le_of_ble_eq_true rfl) (Nat.le_of_ble_eq_true rfl) rfl lwhd_tick1 d_L_tick_12 (Nat.le_of_ble_eq_true rfl) rfl h ?_
  refine go_iconst (v := 1) d_L_tick_13 (by decide) ?_
  exact go_ireturn (st := []) d_L_tick_14 rfl (Nat.le_of_ble_eq_true rfl) (Nat.le_of_ble_eq_true rfl) rfl
theorem lwok_run {a b : Int32} {r : Int32} {I1 : Nat → Nat → Int32} {J1 : Nat → Nat → Int64} (h : pm_Go 9 m_E_run 0 [some (.ref 0), some (.int a), some (.int b), none, none] [] 0 0 (ST I J) (.inl (some (.int r)), ST I1 J1)) : pm_Go 10 m_L_run 0 [some (.ref 0), some (.int a), some (.int b), some (.ref 103), none] [] 0 0 (ST I J) (.inl (some (.int 0)), ST I1 (pm_uJ J1 103 0 r.toInt64)) := by
  refine go_aload_n d_L_run_0 rfl ?_
  refine go_iconst (v := 0) d_L_run_1 (by decide) ?_
  refine go_aload_n d_L_run_2 rfl ?_
  refine go_iload_n d_L_run_3 rfl ?_
  refine go_iload_n d_L_run_4 rfl ?_
  refine go_callV (k2 := m_E_run) (As := [.int a, .int b]) (r := some (.int r)) d_L_run_5 ok_E_run (Nat.le_of_ble_eq_true rfl) rfl pc_E rfl vl_L_45 rfl rfl (Nat.le_of_ble_eq_true rfl) (Nat.le_of_ble_eq_true rfl) (Nat.le_of_ble_eq_true rfl) (Nat.le_of_ble_eq_true rfl) rfl rfl h ?_
  refine go_i2l d_L_run_8 ?_
  refine go_last 0 d_L_run_9 (Nat.le_of_ble_eq_true rfl) rfl rfl (by decide) (by decide) ?_
  refine go_goto (tgt := 21) d_L_run_10 (by decide) ?_
  refine go_iconst (v := 0) d_L_run_21 (by decide) ?_
  exact go_ireturn (st := []) d_L_run_22 rfl (Nat.le_of_ble_eq_true rfl) (Nat.le_of_ble_eq_true rfl) rfl
theorem lwhd_run1 : pm_hd m_L_run 5 "java/lang/IllegalStateException" 13 :=
  ⟨[], ⟨0, 10, 13, 13⟩, _, rfl, (fun z hz => by cases hz), by decide, by decide, rfl, "java/lang/IllegalStateException", lx_l1, rfl, lx_c1⟩
theorem lwex_run1 {a b : Int32} (h : pm_Go 9 m_E_run 0 [some (.ref 0), some (.int a), some (.int b), none, none] [] 0 0 (ST I J) (.inr "java/lang/IllegalStateException", ST I J)) : pm_Go 10 m_L_run 0 [some (.ref 0), some (.int a), some (.int b), some (.ref 103), none] [] 0 0 (ST I J) (.inl (some (.int 1)), ST I J) := by
  refine go_aload_n d_L_run_0 rfl ?_
  refine go_iconst (v := 0) d_L_run_1 (by decide) ?_
  refine go_aload_n d_L_run_2 rfl ?_
  refine go_iload_n d_L_run_3 rfl ?_
  refine go_iload_n d_L_run_4 rfl ?_
  refine go_callVc (k2 := m_E_run) (As := [.int a, .int b]) (E := "java/lang/IllegalStateException") (hpc := 13) (i := 4) d_L_run_5 ok_E_run (Nat.le_of_ble_eq_true rfl) rfl pc_E rfl vl_L_45 rfl rfl (Nat.le_of_ble_eq_true rfl) (Nat.le_of_ble_eq_true rfl) (Nat.le_of_ble_eq_true rfl) (Nat.le_of_ble_eq_true rfl) rfl lwhd_run1 d_L_run_13 (Nat.le_of_ble_eq_true rfl) rfl h ?_
  refine go_iconst (v := 1) d_L_run_15 (by decide) ?_
  exact go_ireturn (st := []) d_L_run_16 rfl (Nat.le_of_ble_eq_true rfl) (Nat.le_of_ble_eq_true rfl) rfl
theorem lwhd_run2 : pm_hd m_L_run 5 "java/lang/IllegalArgumentException" 17 :=
  ⟨[⟨0, 10, 13, 13⟩], ⟨0, 10, 17, 15⟩, _, rfl, (fun z hz => by
      simp only [List.mem_cons, List.not_mem_nil, or_false] at hz
      subst hz
      · exact Or.inr ⟨by decide, "java/lang/IllegalStateException", lx_l1, by decide⟩), by decide, by decide, rfl, "java/lang/IllegalArgumentException", lx_l2, rfl, lx_c2⟩
theorem lwex_run2 {a b : Int32} (h : pm_Go 9 m_E_run 0 [some (.ref 0), some (.int a), some (.int b), none, none] [] 0 0 (ST I J) (.inr "java/lang/IllegalArgumentException", ST I J)) : pm_Go 10 m_L_run 0 [some (.ref 0), some (.int a), some (.int b), some (.ref 103), none] [] 0 0 (ST I J) (.inl (some (.int 2)), ST I J) := by
  refine go_aload_n d_L_run_0 rfl ?_
  refine go_iconst (v := 0) d_L_run_1 (by decide) ?_
  refine go_aload_n d_L_run_2 rfl ?_
  refine go_iload_n d_L_run_3 rfl ?_
  refine go_iload_n d_L_run_4 rfl ?_
  refine go_callVc (k2 := m_E_run) (As := [.int a, .int b]) (E := "java/lang/IllegalArgumentException") (hpc := 17) (i := 4) d_L_run_5 ok_E_run (Nat.le_of_ble_eq_true rfl) rfl pc_E rfl vl_L_45 rfl rfl (Nat.le_of_ble_eq_true rfl) (Nat.le_of_ble_eq_true rfl) (Nat.le_of_ble_eq_true rfl) (Nat.le_of_ble_eq_true rfl) rfl lwhd_run2 d_L_run_17 (Nat.le_of_ble_eq_true rfl) rfl h ?_
  refine go_iconst (v := 2) d_L_run_19 (by decide) ?_
  exact go_ireturn (st := []) d_L_run_20 rfl (Nat.le_of_ble_eq_true rfl) (Nat.le_of_ble_eq_true rfl) rfl
theorem lwok_ticks {r : Int32} {I1 : Nat → Nat → Int32} {J1 : Nat → Nat → Int64} (h : pm_Go 9 m_E_ticks 0 [some (.ref 0)] [] 0 0 (ST I J) (.inl (some (.int r)), ST I1 J1)) : pm_Go 10 m_L_ticks 0 [some (.ref 0), some (.ref 103), none] [] 0 0 (ST I J) (.inl (some (.int 0)), ST I1 (pm_uJ J1 103 0 r.toInt64)) := by
  refine go_aload_n d_L_ticks_0 rfl ?_
  refine go_iconst (v := 0) d_L_ticks_1 (by decide) ?_
  refine go_aload_n d_L_ticks_2 rfl ?_
  refine go_callV (k2 := m_E_ticks) (As := []) (r := some (.int r)) d_L_ticks_3 ok_E_ticks (Nat.le_of_ble_eq_true rfl) rfl pc_E rfl vl_L_48 rfl rfl (Nat.le_of_ble_eq_true rfl) (Nat.le_of_ble_eq_true rfl) (Nat.le_of_ble_eq_true rfl) (Nat.le_of_ble_eq_true rfl) rfl rfl h ?_
  refine go_i2l d_L_ticks_6 ?_
  refine go_last 0 d_L_ticks_7 (Nat.le_of_ble_eq_true rfl) rfl rfl (by decide) (by decide) ?_
  refine go_goto (tgt := 14) d_L_ticks_8 (by decide) ?_
  refine go_iconst (v := 0) d_L_ticks_14 (by decide) ?_
  exact go_ireturn (st := []) d_L_ticks_15 rfl (Nat.le_of_ble_eq_true rfl) (Nat.le_of_ble_eq_true rfl) rfl
theorem lwhd_ticks1 : pm_hd m_L_ticks 3 "java/lang/IllegalStateException" 11 :=
  ⟨[], ⟨0, 8, 11, 13⟩, _, rfl, (fun z hz => by cases hz), by decide, by decide, rfl, "java/lang/IllegalStateException", lx_l1, rfl, lx_c1⟩
theorem lwex_ticks1 (h : pm_Go 9 m_E_ticks 0 [some (.ref 0)] [] 0 0 (ST I J) (.inr "java/lang/IllegalStateException", ST I J)) : pm_Go 10 m_L_ticks 0 [some (.ref 0), some (.ref 103), none] [] 0 0 (ST I J) (.inl (some (.int 1)), ST I J) := by
  refine go_aload_n d_L_ticks_0 rfl ?_
  refine go_iconst (v := 0) d_L_ticks_1 (by decide) ?_
  refine go_aload_n d_L_ticks_2 rfl ?_
  refine go_callVc_n (k2 := m_E_ticks) (As := []) (E := "java/lang/IllegalStateException") (hpc := 11) (i := 2) d_L_ticks_3 ok_E_ticks (Nat.le_of_ble_eq_true rfl) rfl pc_E rfl vl_L_48 rfl rfl (Nat.le_of_ble_eq_true rfl) (Nat.le_of_ble_eq_true rfl) (Nat.le_of_ble_eq_true rfl) (Nat.le_of_ble_eq_true rfl) rfl lwhd_ticks1 d_L_ticks_11 (Nat.le_of_ble_eq_true rfl) rfl h ?_
  refine go_iconst (v := 1) d_L_ticks_12 (by decide) ?_
  exact go_ireturn (st := []) d_L_ticks_13 rfl (Nat.le_of_ble_eq_true rfl) (Nat.le_of_ble_eq_true rfl) rfl
theorem lwok_turns {a : Int32} {r : Int32} {I1 : Nat → Nat → Int32} {J1 : Nat → Nat → Int64} (h : pm_Go 9 m_E_turns 0 [some (.ref 0), some (.int a)] [] 0 0 (ST I J) (.inl (some (.int r)), ST I1 J1)) : pm_Go 10 m_L_turns 0 [some (.ref 0), some (.int a), some (.ref 103), none] [] 0 0 (ST I J) (.inl (some (.int 0)), ST I1 (pm_uJ J1 103 0 r.toInt64)) := by
  refine go_aload_n d_L_turns_0 rfl ?_
  refine go_iconst (v := 0) d_L_turns_1 (by decide) ?_
  refine go_aload_n d_L_turns_2 rfl ?_
  refine go_iload_n d_L_turns_3 rfl ?_
  refine go_callV (k2 := m_E_turns) (As := [.int a]) (r := some (.int r)) d_L_turns_4 ok_E_turns (Nat.le_of_ble_eq_true rfl) rfl pc_E rfl vl_L_51 rfl rfl (Nat.le_of_ble_eq_true rfl) (Nat.le_of_ble_eq_true rfl) (Nat.le_of_ble_eq_true rfl) (Nat.le_of_ble_eq_true rfl) rfl rfl h ?_
  refine go_i2l d_L_turns_7 ?_
  refine go_last 0 d_L_turns_8 (Nat.le_of_ble_eq_true rfl) rfl rfl (by decide) (by decide) ?_
  refine go_goto (tgt := 18) d_L_turns_9 (by decide) ?_
  refine go_iconst (v := 0) d_L_turns_18 (by decide) ?_
  exact go_ireturn (st := []) d_L_turns_19 rfl (Nat.le_of_ble_eq_true rfl) (Nat.le_of_ble_eq_true rfl) rfl
theorem lwhd_turns1 : pm_hd m_L_turns 4 "java/lang/IllegalStateException" 12 :=
  ⟨[], ⟨0, 9, 12, 13⟩, _, rfl, (fun z hz => by cases hz), by decide, by decide, rfl, "java/lang/IllegalStateException", lx_l1, rfl, lx_c1⟩
theorem lwex_turns1 {a : Int32} (h : pm_Go 9 m_E_turns 0 [some (.ref 0), some (.int a)] [] 0 0 (ST I J) (.inr "java/lang/IllegalStateException", ST I J)) : pm_Go 10 m_L_turns 0 [some (.ref 0), some (.int a), some (.ref 103), none] [] 0 0 (ST I J) (.inl (some (.int 1)), ST I J) := by
  refine go_aload_n d_L_turns_0 rfl ?_
  refine go_iconst (v := 0) d_L_turns_1 (by decide) ?_
  refine go_aload_n d_L_turns_2 rfl ?_
  refine go_iload_n d_L_turns_3 rfl ?_
  refine go_callVc_n (k2 := m_E_turns) (As := [.int a]) (E := "java/lang/IllegalStateException") (hpc := 12) (i := 3) d_L_turns_4 ok_E_turns (Nat.le_of_ble_eq_true rfl) rfl pc_E rfl vl_L_51 rfl rfl (Nat.le_of_ble_eq_true rfl) (Nat.le_of_ble_eq_true rfl) (Nat.le_of_ble_eq_true rfl) (Nat.le_of_ble_eq_true rfl) rfl lwhd_turns1 d_L_turns_12 (Nat.le_of_ble_eq_true rfl) rfl h ?_
  refine go_iconst (v := 1) d_L_turns_13 (by decide) ?_
  exact go_ireturn (st := []) d_L_turns_14 rfl (Nat.le_of_ble_eq_true rfl) (Nat.le_of_ble_eq_true rfl) rfl
theorem lwhd_turns2 : pm_hd m_L_turns 4 "java/lang/IllegalArgumentException" 15 :=
  ⟨[⟨0, 9, 12, 13⟩], ⟨0, 9, 15, 15⟩, _, rfl, (fun z hz => by
      simp only [List.mem_cons, List.not_mem_nil, or_false] at hz
      subst hz
      · exact Or.inr ⟨by decide, "java/lang/IllegalStateException", lx_l1, by decide⟩), by decide, by decide, rfl, "java/lang/IllegalArgumentException", lx_l2, rfl, lx_c2⟩
theorem lwex_turns2 {a : Int32} (h : pm_Go 9 m_E_turns 0 [some (.ref 0), some (.int a)] [] 0 0 (ST I J) (.inr "java/lang/IllegalArgumentException", ST I J)) : pm_Go 10 m_L_turns 0 [some (.ref 0), some (.int a), some (.ref 103), none] [] 0 0 (ST I J) (.inl (some (.int 2)), ST I J) := by
  refine go_aload_n d_L_turns_0 rfl ?_
  refine go_iconst (v := 0) d_L_turns_1 (by decide) ?_
  refine go_aload_n d_L_turns_2 rfl ?_
  refine go_iload_n d_L_turns_3 rfl ?_
  refine go_callVc_n (k2 := m_E_turns) (As := [.int a]) (E := "java/lang/IllegalArgumentException") (hpc := 15) (i := 3) d_L_turns_4 ok_E_turns (Nat.le_of_ble_eq_true rfl) rfl pc_E rfl vl_L_51 rfl rfl (Nat.le_of_ble_eq_true rfl) (Nat.le_of_ble_eq_true rfl) (Nat.le_of_ble_eq_true rfl) (Nat.le_of_ble_eq_true rfl) rfl lwhd_turns2 d_L_turns_15 (Nat.le_of_ble_eq_true rfl) rfl h ?_
  refine go_iconst (v := 2) d_L_turns_16 (by decide) ?_
  exact go_ireturn (st := []) d_L_turns_17 rfl (Nat.le_of_ble_eq_true rfl) (Nat.le_of_ble_eq_true rfl) rfl
theorem lwok_got {a : Int32} {r : Int32} {I1 : Nat → Nat → Int32} {J1 : Nat → Nat → Int64} (h : pm_Go 9 m_E_got 0 [some (.ref 0), some (.int a)] [] 0 0 (ST I J) (.inl (some (.int r)), ST I1 J1)) : pm_Go 10 m_L_got 0 [some (.ref 0), some (.int a), some (.ref 103), none] [] 0 0 (ST I J) (.inl (some (.int 0)), ST I1 (pm_uJ J1 103 0 r.toInt64)) := by
  refine go_aload_n d_L_got_0 rfl ?_
  refine go_iconst (v := 0) d_L_got_1 (by decide) ?_
  refine go_aload_n d_L_got_2 rfl ?_
  refine go_iload_n d_L_got_3 rfl ?_
  refine go_callV (k2 := m_E_got) (As := [.int a]) (r := some (.int r)) d_L_got_4 ok_E_got (Nat.le_of_ble_eq_true rfl) rfl pc_E rfl vl_L_54 rfl rfl (Nat.le_of_ble_eq_true rfl) (Nat.le_of_ble_eq_true rfl) (Nat.le_of_ble_eq_true rfl) (Nat.le_of_ble_eq_true rfl) rfl rfl h ?_
  refine go_i2l d_L_got_7 ?_
  refine go_last 0 d_L_got_8 (Nat.le_of_ble_eq_true rfl) rfl rfl (by decide) (by decide) ?_
  refine go_goto (tgt := 18) d_L_got_9 (by decide) ?_
  refine go_iconst (v := 0) d_L_got_18 (by decide) ?_
  exact go_ireturn (st := []) d_L_got_19 rfl (Nat.le_of_ble_eq_true rfl) (Nat.le_of_ble_eq_true rfl) rfl
theorem lwhd_got1 : pm_hd m_L_got 4 "java/lang/IllegalStateException" 12 :=
  ⟨[], ⟨0, 9, 12, 13⟩, _, rfl, (fun z hz => by cases hz), by decide, by decide, rfl, "java/lang/IllegalStateException", lx_l1, rfl, lx_c1⟩
theorem lwex_got1 {a : Int32} (h : pm_Go 9 m_E_got 0 [some (.ref 0), some (.int a)] [] 0 0 (ST I J) (.inr "java/lang/IllegalStateException", ST I J)) : pm_Go 10 m_L_got 0 [some (.ref 0), some (.int a), some (.ref 103), none] [] 0 0 (ST I J) (.inl (some (.int 1)), ST I J) := by
  refine go_aload_n d_L_got_0 rfl ?_
  refine go_iconst (v := 0) d_L_got_1 (by decide) ?_
  refine go_aload_n d_L_got_2 rfl ?_
  refine go_iload_n d_L_got_3 rfl ?_
  refine go_callVc_n (k2 := m_E_got) (As := [.int a]) (E := "java/lang/IllegalStateException") (hpc := 12) (i := 3) d_L_got_4 ok_E_got (Nat.le_of_ble_eq_true rfl) rfl pc_E rfl vl_L_54 rfl rfl (Nat.le_of_ble_eq_true rfl) (Nat.le_of_ble_eq_true rfl) (Nat.le_of_ble_eq_true rfl) (Nat.le_of_ble_eq_true rfl) rfl lwhd_got1 d_L_got_12 (Nat.le_of_ble_eq_true rfl) rfl h ?_
  refine go_iconst (v := 1) d_L_got_13 (by decide) ?_
  exact go_ireturn (st := []) d_L_got_14 rfl (Nat.le_of_ble_eq_true rfl) (Nat.le_of_ble_eq_true rfl) rfl
theorem lwhd_got2 : pm_hd m_L_got 4 "java/lang/IllegalArgumentException" 15 :=
  ⟨[⟨0, 9, 12, 13⟩], ⟨0, 9, 15, 15⟩, _, rfl, (fun z hz => by
      simp only [List.mem_cons, List.not_mem_nil, or_false] at hz
      subst hz
      · exact Or.inr ⟨by decide, "java/lang/IllegalStateException", lx_l1, by decide⟩), by decide, by decide, rfl, "java/lang/IllegalArgumentException", lx_l2, rfl, lx_c2⟩
theorem lwex_got2 {a : Int32} (h : pm_Go 9 m_E_got 0 [some (.ref 0), some (.int a)] [] 0 0 (ST I J) (.inr "java/lang/IllegalArgumentException", ST I J)) : pm_Go 10 m_L_got 0 [some (.ref 0), some (.int a), some (.ref 103), none] [] 0 0 (ST I J) (.inl (some (.int 2)), ST I J) := by
  refine go_aload_n d_L_got_0 rfl ?_
  refine go_iconst (v := 0) d_L_got_1 (by decide) ?_
  refine go_aload_n d_L_got_2 rfl ?_
  refine go_iload_n d_L_got_3 rfl ?_
  refine go_callVc_n (k2 := m_E_got) (As := [.int a]) (E := "java/lang/IllegalArgumentException") (hpc := 15) (i := 3) d_L_got_4 ok_E_got (Nat.le_of_ble_eq_true rfl) rfl pc_E rfl vl_L_54 rfl rfl (Nat.le_of_ble_eq_true rfl) (Nat.le_of_ble_eq_true rfl) (Nat.le_of_ble_eq_true rfl) (Nat.le_of_ble_eq_true rfl) rfl lwhd_got2 d_L_got_15 (Nat.le_of_ble_eq_true rfl) rfl h ?_
  refine go_iconst (v := 2) d_L_got_16 (by decide) ?_
  exact go_ireturn (st := []) d_L_got_17 rfl (Nat.le_of_ble_eq_true rfl) (Nat.le_of_ble_eq_true rfl) rfl
theorem lwok_inside {a b : Int32} {r : Int32} {I1 : Nat → Nat → Int32} {J1 : Nat → Nat → Int64} (h : pm_Go 9 m_E_inside 0 [some (.ref 0), some (.int a), some (.int b)] [] 0 0 (ST I J) (.inl (some (.int r)), ST I1 J1)) : pm_Go 10 m_L_inside 0 [some (.ref 0), some (.int a), some (.int b), some (.ref 103), none] [] 0 0 (ST I J) (.inl (some (.int 0)), ST I1 (pm_uJ J1 103 0 r.toInt64)) := by
  refine go_aload_n d_L_inside_0 rfl ?_
  refine go_iconst (v := 0) d_L_inside_1 (by decide) ?_
  refine go_aload_n d_L_inside_2 rfl ?_
  refine go_iload_n d_L_inside_3 rfl ?_
  refine go_iload_n d_L_inside_4 rfl ?_
  refine go_callV (k2 := m_E_inside) (As := [.int a, .int b]) (r := some (.int r)) d_L_inside_5 ok_E_inside (Nat.le_of_ble_eq_true rfl) rfl pc_E rfl vl_L_57 rfl rfl (Nat.le_of_ble_eq_true rfl) (Nat.le_of_ble_eq_true rfl) (Nat.le_of_ble_eq_true rfl) (Nat.le_of_ble_eq_true rfl) rfl rfl h ?_
  refine go_i2l d_L_inside_8 ?_
  refine go_last 0 d_L_inside_9 (Nat.le_of_ble_eq_true rfl) rfl rfl (by decide) (by decide) ?_
  refine go_goto (tgt := 21) d_L_inside_10 (by decide) ?_
  refine go_iconst (v := 0) d_L_inside_21 (by decide) ?_
  exact go_ireturn (st := []) d_L_inside_22 rfl (Nat.le_of_ble_eq_true rfl) (Nat.le_of_ble_eq_true rfl) rfl
theorem lwhd_inside1 : pm_hd m_L_inside 5 "java/lang/IllegalStateException" 13 :=
  ⟨[], ⟨0, 10, 13, 13⟩, _, rfl, (fun z hz => by cases hz), by decide, by decide, rfl, "java/lang/IllegalStateException", lx_l1, rfl, lx_c1⟩
theorem lwex_inside1 {a b : Int32} (h : pm_Go 9 m_E_inside 0 [some (.ref 0), some (.int a), some (.int b)] [] 0 0 (ST I J) (.inr "java/lang/IllegalStateException", ST I J)) : pm_Go 10 m_L_inside 0 [some (.ref 0), some (.int a), some (.int b), some (.ref 103), none] [] 0 0 (ST I J) (.inl (some (.int 1)), ST I J) := by
  refine go_aload_n d_L_inside_0 rfl ?_
  refine go_iconst (v := 0) d_L_inside_1 (by decide) ?_
  refine go_aload_n d_L_inside_2 rfl ?_
  refine go_iload_n d_L_inside_3 rfl ?_
  refine go_iload_n d_L_inside_4 rfl ?_
  refine go_callVc (k2 := m_E_inside) (As := [.int a, .int b]) (E := "java/lang/IllegalStateException") (hpc := 13) (i := 4) d_L_inside_5 ok_E_inside (Nat.le_of_ble_eq_true rfl) rfl pc_E rfl vl_L_57 rfl rfl (Nat.le_of_ble_eq_true rfl) (Nat.le_of_ble_eq_true rfl) (Nat.le_of_ble_eq_true rfl) (Nat.le_of_ble_eq_true rfl) rfl lwhd_inside1 d_L_inside_13 (Nat.le_of_ble_eq_true rfl) rfl h ?_
  refine go_iconst (v := 1) d_L_inside_15 (by decide) ?_
  exact go_ireturn (st := []) d_L_inside_16 rfl (Nat.le_of_ble_eq_true rfl) (Nat.le_of_ble_eq_true rfl) rfl
theorem lwhd_inside2 : pm_hd m_L_inside 5 "java/lang/IllegalArgumentException" 17 :=
  ⟨[⟨0, 10, 13, 13⟩], ⟨0, 10, 17, 15⟩, _, rfl, (fun z hz => by
      simp only [List.mem_cons, List.not_mem_nil, or_false] at hz
      subst hz
      · exact Or.inr ⟨by decide, "java/lang/IllegalStateException", lx_l1, by decide⟩), by decide, by decide, rfl, "java/lang/IllegalArgumentException", lx_l2, rfl, lx_c2⟩
theorem lwex_inside2 {a b : Int32} (h : pm_Go 9 m_E_inside 0 [some (.ref 0), some (.int a), some (.int b)] [] 0 0 (ST I J) (.inr "java/lang/IllegalArgumentException", ST I J)) : pm_Go 10 m_L_inside 0 [some (.ref 0), some (.int a), some (.int b), some (.ref 103), none] [] 0 0 (ST I J) (.inl (some (.int 2)), ST I J) := by
  refine go_aload_n d_L_inside_0 rfl ?_
  refine go_iconst (v := 0) d_L_inside_1 (by decide) ?_
  refine go_aload_n d_L_inside_2 rfl ?_
  refine go_iload_n d_L_inside_3 rfl ?_
  refine go_iload_n d_L_inside_4 rfl ?_
  refine go_callVc (k2 := m_E_inside) (As := [.int a, .int b]) (E := "java/lang/IllegalArgumentException") (hpc := 17) (i := 4) d_L_inside_5 ok_E_inside (Nat.le_of_ble_eq_true rfl) rfl pc_E rfl vl_L_57 rfl rfl (Nat.le_of_ble_eq_true rfl) (Nat.le_of_ble_eq_true rfl) (Nat.le_of_ble_eq_true rfl) (Nat.le_of_ble_eq_true rfl) rfl lwhd_inside2 d_L_inside_17 (Nat.le_of_ble_eq_true rfl) rfl h ?_
  refine go_iconst (v := 2) d_L_inside_19 (by decide) ?_
  exact go_ireturn (st := []) d_L_inside_20 rfl (Nat.le_of_ble_eq_true rfl) (Nat.le_of_ble_eq_true rfl) rfl
theorem lwok_taken {a : Int32} {r : Int32} {I1 : Nat → Nat → Int32} {J1 : Nat → Nat → Int64} (h : pm_Go 9 m_E_taken 0 [some (.ref 0), some (.int a)] [] 0 0 (ST I J) (.inl (some (.int r)), ST I1 J1)) : pm_Go 10 m_L_taken 0 [some (.ref 0), some (.int a), some (.ref 103), none] [] 0 0 (ST I J) (.inl (some (.int 0)), ST I1 (pm_uJ J1 103 0 r.toInt64)) := by
  refine go_aload_n d_L_taken_0 rfl ?_
  refine go_iconst (v := 0) d_L_taken_1 (by decide) ?_
  refine go_aload_n d_L_taken_2 rfl ?_
  refine go_iload_n d_L_taken_3 rfl ?_
  refine go_callV (k2 := m_E_taken) (As := [.int a]) (r := some (.int r)) d_L_taken_4 ok_E_taken (Nat.le_of_ble_eq_true rfl) rfl pc_E rfl vl_L_60 rfl rfl (Nat.le_of_ble_eq_true rfl) (Nat.le_of_ble_eq_true rfl) (Nat.le_of_ble_eq_true rfl) (Nat.le_of_ble_eq_true rfl) rfl rfl h ?_
  refine go_i2l d_L_taken_7 ?_
  refine go_last 0 d_L_taken_8 (Nat.le_of_ble_eq_true rfl) rfl rfl (by decide) (by decide) ?_
  refine go_goto (tgt := 18) d_L_taken_9 (by decide) ?_
  refine go_iconst (v := 0) d_L_taken_18 (by decide) ?_
  exact go_ireturn (st := []) d_L_taken_19 rfl (Nat.le_of_ble_eq_true rfl) (Nat.le_of_ble_eq_true rfl) rfl
theorem lwhd_taken1 : pm_hd m_L_taken 4 "java/lang/IllegalStateException" 12 :=
  ⟨[], ⟨0, 9, 12, 13⟩, _, rfl, (fun z hz => by cases hz), by decide, by decide, rfl, "java/lang/IllegalStateException", lx_l1, rfl, lx_c1⟩
theorem lwex_taken1 {a : Int32} (h : pm_Go 9 m_E_taken 0 [some (.ref 0), some (.int a)] [] 0 0 (ST I J) (.inr "java/lang/IllegalStateException", ST I J)) : pm_Go 10 m_L_taken 0 [some (.ref 0), some (.int a), some (.ref 103), none] [] 0 0 (ST I J) (.inl (some (.int 1)), ST I J) := by
  refine go_aload_n d_L_taken_0 rfl ?_
  refine go_iconst (v := 0) d_L_taken_1 (by decide) ?_
  refine go_aload_n d_L_taken_2 rfl ?_
  refine go_iload_n d_L_taken_3 rfl ?_
  refine go_callVc_n (k2 := m_E_taken) (As := [.int a]) (E := "java/lang/IllegalStateException") (hpc := 12) (i := 3) d_L_taken_4 ok_E_taken (Nat.le_of_ble_eq_true rfl) rfl pc_E rfl vl_L_60 rfl rfl (Nat.le_of_ble_eq_true rfl) (Nat.le_of_ble_eq_true rfl) (Nat.le_of_ble_eq_true rfl) (Nat.le_of_ble_eq_true rfl) rfl lwhd_taken1 d_L_taken_12 (Nat.le_of_ble_eq_true rfl) rfl h ?_
  refine go_iconst (v := 1) d_L_taken_13 (by decide) ?_
  exact go_ireturn (st := []) d_L_taken_14 rfl (Nat.le_of_ble_eq_true rfl) (Nat.le_of_ble_eq_true rfl) rfl
theorem lwhd_taken2 : pm_hd m_L_taken 4 "java/lang/IllegalArgumentException" 15 :=
  ⟨[⟨0, 9, 12, 13⟩], ⟨0, 9, 15, 15⟩, _, rfl, (fun z hz => by
      simp only [List.mem_cons, List.not_mem_nil, or_false] at hz
      subst hz
      · exact Or.inr ⟨by decide, "java/lang/IllegalStateException", lx_l1, by decide⟩), by decide, by decide, rfl, "java/lang/IllegalArgumentException", lx_l2, rfl, lx_c2⟩
theorem lwex_taken2 {a : Int32} (h : pm_Go 9 m_E_taken 0 [some (.ref 0), some (.int a)] [] 0 0 (ST I J) (.inr "java/lang/IllegalArgumentException", ST I J)) : pm_Go 10 m_L_taken 0 [some (.ref 0), some (.int a), some (.ref 103), none] [] 0 0 (ST I J) (.inl (some (.int 2)), ST I J) := by
  refine go_aload_n d_L_taken_0 rfl ?_
  refine go_iconst (v := 0) d_L_taken_1 (by decide) ?_
  refine go_aload_n d_L_taken_2 rfl ?_
  refine go_iload_n d_L_taken_3 rfl ?_
  refine go_callVc_n (k2 := m_E_taken) (As := [.int a]) (E := "java/lang/IllegalArgumentException") (hpc := 15) (i := 3) d_L_taken_4 ok_E_taken (Nat.le_of_ble_eq_true rfl) rfl pc_E rfl vl_L_60 rfl rfl (Nat.le_of_ble_eq_true rfl) (Nat.le_of_ble_eq_true rfl) (Nat.le_of_ble_eq_true rfl) (Nat.le_of_ble_eq_true rfl) rfl lwhd_taken2 d_L_taken_15 (Nat.le_of_ble_eq_true rfl) rfl h ?_
  refine go_iconst (v := 2) d_L_taken_16 (by decide) ?_
  exact go_ireturn (st := []) d_L_taken_17 rfl (Nat.le_of_ble_eq_true rfl) (Nat.le_of_ble_eq_true rfl) rfl
theorem lwok_given {a : Int32} {r : Int32} {I1 : Nat → Nat → Int32} {J1 : Nat → Nat → Int64} (h : pm_Go 9 m_E_given 0 [some (.ref 0), some (.int a)] [] 0 0 (ST I J) (.inl (some (.int r)), ST I1 J1)) : pm_Go 10 m_L_given 0 [some (.ref 0), some (.int a), some (.ref 103), none] [] 0 0 (ST I J) (.inl (some (.int 0)), ST I1 (pm_uJ J1 103 0 r.toInt64)) := by
  refine go_aload_n d_L_given_0 rfl ?_
  refine go_iconst (v := 0) d_L_given_1 (by decide) ?_
  refine go_aload_n d_L_given_2 rfl ?_
  refine go_iload_n d_L_given_3 rfl ?_
  refine go_callV (k2 := m_E_given) (As := [.int a]) (r := some (.int r)) d_L_given_4 ok_E_given (Nat.le_of_ble_eq_true rfl) rfl pc_E rfl vl_L_63 rfl rfl (Nat.le_of_ble_eq_true rfl) (Nat.le_of_ble_eq_true rfl) (Nat.le_of_ble_eq_true rfl) (Nat.le_of_ble_eq_true rfl) rfl rfl h ?_
  refine go_i2l d_L_given_7 ?_
  refine go_last 0 d_L_given_8 (Nat.le_of_ble_eq_true rfl) rfl rfl (by decide) (by decide) ?_
  refine go_goto (tgt := 18) d_L_given_9 (by decide) ?_
  refine go_iconst (v := 0) d_L_given_18 (by decide) ?_
  exact go_ireturn (st := []) d_L_given_19 rfl (Nat.le_of_ble_eq_true rfl) (Nat.le_of_ble_eq_true rfl) rfl
theorem lwhd_given1 : pm_hd m_L_given 4 "java/lang/IllegalStateException" 12 :=
  ⟨[], ⟨0, 9, 12, 13⟩, _, rfl, (fun z hz => by cases hz), by decide, by decide, rfl, "java/lang/IllegalStateException", lx_l1, rfl, lx_c1⟩
theorem lwex_given1 {a : Int32} (h : pm_Go 9 m_E_given 0 [some (.ref 0), some (.int a)] [] 0 0 (ST I J) (.inr "java/lang/IllegalStateException", ST I J)) : pm_Go 10 m_L_given 0 [some (.ref 0), some (.int a), some (.ref 103), none] [] 0 0 (ST I J) (.inl (some (.int 1)), ST I J) := by
  refine go_aload_n d_L_given_0 rfl ?_
  refine go_iconst (v := 0) d_L_given_1 (by decide) ?_
  refine go_aload_n d_L_given_2 rfl ?_
  refine go_iload_n d_L_given_3 rfl ?_
  refine go_callVc_n (k2 := m_E_given) (As := [.int a]) (E := "java/lang/IllegalStateException") (hpc := 12) (i := 3) d_L_given_4 ok_E_given (Nat.le_of_ble_eq_true rfl) rfl pc_E rfl vl_L_63 rfl rfl (Nat.le_of_ble_eq_true rfl) (Nat.le_of_ble_eq_true rfl) (Nat.le_of_ble_eq_true rfl) (Nat.le_of_ble_eq_true rfl) rfl lwhd_given1 d_L_given_12 (Nat.le_of_ble_eq_true rfl) rfl h ?_
  refine go_iconst (v := 1) d_L_given_13 (by decide) ?_
  exact go_ireturn (st := []) d_L_given_14 rfl (Nat.le_of_ble_eq_true rfl) (Nat.le_of_ble_eq_true rfl) rfl
theorem lwhd_given2 : pm_hd m_L_given 4 "java/lang/IllegalArgumentException" 15 :=
  ⟨[⟨0, 9, 12, 13⟩], ⟨0, 9, 15, 15⟩, _, rfl, (fun z hz => by
      simp only [List.mem_cons, List.not_mem_nil, or_false] at hz
      subst hz
      · exact Or.inr ⟨by decide, "java/lang/IllegalStateException", lx_l1, by decide⟩), by decide, by decide, rfl, "java/lang/IllegalArgumentException", lx_l2, rfl, lx_c2⟩
theorem lwex_given2 {a : Int32} (h : pm_Go 9 m_E_given 0 [some (.ref 0), some (.int a)] [] 0 0 (ST I J) (.inr "java/lang/IllegalArgumentException", ST I J)) : pm_Go 10 m_L_given 0 [some (.ref 0), some (.int a), some (.ref 103), none] [] 0 0 (ST I J) (.inl (some (.int 2)), ST I J) := by
  refine go_aload_n d_L_given_0 rfl ?_
  refine go_iconst (v := 0) d_L_given_1 (by decide) ?_
  refine go_aload_n d_L_given_2 rfl ?_
  refine go_iload_n d_L_given_3 rfl ?_
  refine go_callVc_n (k2 := m_E_given) (As := [.int a]) (E := "java/lang/IllegalArgumentException") (hpc := 15) (i := 3) d_L_given_4 ok_E_given (Nat.le_of_ble_eq_true rfl) rfl pc_E rfl vl_L_63 rfl rfl (Nat.le_of_ble_eq_true rfl) (Nat.le_of_ble_eq_true rfl) (Nat.le_of_ble_eq_true rfl) (Nat.le_of_ble_eq_true rfl) rfl lwhd_given2 d_L_given_15 (Nat.le_of_ble_eq_true rfl) rfl h ?_
  refine go_iconst (v := 2) d_L_given_16 (by decide) ?_
  exact go_ireturn (st := []) d_L_given_17 rfl (Nat.le_of_ble_eq_true rfl) (Nat.le_of_ble_eq_true rfl) rfl
theorem lwok_value {a b : Int32} {r : Int64} {I1 : Nat → Nat → Int32} {J1 : Nat → Nat → Int64} (h : pm_Go 9 m_E_value 0 [some (.ref 0), some (.int a), some (.int b)] [] 0 0 (ST I J) (.inl (some (.long r)), ST I1 J1)) : pm_Go 10 m_L_value 0 [some (.ref 0), some (.int a), some (.int b), some (.ref 103), none] [] 0 0 (ST I J) (.inl (some (.int 0)), ST I1 (pm_uJ J1 103 0 r)) := by
  refine go_aload_n d_L_value_0 rfl ?_
  refine go_iconst (v := 0) d_L_value_1 (by decide) ?_
  refine go_aload_n d_L_value_2 rfl ?_
  refine go_iload_n d_L_value_3 rfl ?_
  refine go_iload_n d_L_value_4 rfl ?_
  refine go_callV (k2 := m_E_value) (As := [.int a, .int b]) (r := some (.long r)) d_L_value_5 ok_E_value (Nat.le_of_ble_eq_true rfl) rfl pc_E rfl vl_L_66 rfl rfl (Nat.le_of_ble_eq_true rfl) (Nat.le_of_ble_eq_true rfl) (Nat.le_of_ble_eq_true rfl) (Nat.le_of_ble_eq_true rfl) rfl rfl h ?_
  refine go_last 0 d_L_value_8 (Nat.le_of_ble_eq_true rfl) rfl rfl (by decide) (by decide) ?_
  refine go_goto (tgt := 24) d_L_value_9 (by decide) ?_
  refine go_iconst (v := 0) d_L_value_24 (by decide) ?_
  exact go_ireturn (st := []) d_L_value_25 rfl (Nat.le_of_ble_eq_true rfl) (Nat.le_of_ble_eq_true rfl) rfl
theorem lwhd_value1 : pm_hd m_L_value 5 "java/lang/IllegalStateException" 12 :=
  ⟨[], ⟨0, 9, 12, 13⟩, _, rfl, (fun z hz => by cases hz), by decide, by decide, rfl, "java/lang/IllegalStateException", lx_l1, rfl, lx_c1⟩
theorem lwex_value1 {a b : Int32} (h : pm_Go 9 m_E_value 0 [some (.ref 0), some (.int a), some (.int b)] [] 0 0 (ST I J) (.inr "java/lang/IllegalStateException", ST I J)) : pm_Go 10 m_L_value 0 [some (.ref 0), some (.int a), some (.int b), some (.ref 103), none] [] 0 0 (ST I J) (.inl (some (.int 1)), ST I J) := by
  refine go_aload_n d_L_value_0 rfl ?_
  refine go_iconst (v := 0) d_L_value_1 (by decide) ?_
  refine go_aload_n d_L_value_2 rfl ?_
  refine go_iload_n d_L_value_3 rfl ?_
  refine go_iload_n d_L_value_4 rfl ?_
  refine go_callVc (k2 := m_E_value) (As := [.int a, .int b]) (E := "java/lang/IllegalStateException") (hpc := 12) (i := 4) d_L_value_5 ok_E_value (Nat.le_of_ble_eq_true rfl) rfl pc_E rfl vl_L_66 rfl rfl (Nat.le_of_ble_eq_true rfl) (Nat.le_of_ble_eq_true rfl) (Nat.le_of_ble_eq_true rfl) (Nat.le_of_ble_eq_true rfl) rfl lwhd_value1 d_L_value_12 (Nat.le_of_ble_eq_true rfl) rfl h ?_
  refine go_iconst (v := 1) d_L_value_14 (by decide) ?_
  exact go_ireturn (st := []) d_L_value_15 rfl (Nat.le_of_ble_eq_true rfl) (Nat.le_of_ble_eq_true rfl) rfl
theorem lwhd_value2 : pm_hd m_L_value 5 "java/lang/IllegalArgumentException" 16 :=
  ⟨[⟨0, 9, 12, 13⟩], ⟨0, 9, 16, 15⟩, _, rfl, (fun z hz => by
      simp only [List.mem_cons, List.not_mem_nil, or_false] at hz
      subst hz
      · exact Or.inr ⟨by decide, "java/lang/IllegalStateException", lx_l1, by decide⟩), by decide, by decide, rfl, "java/lang/IllegalArgumentException", lx_l2, rfl, lx_c2⟩
theorem lwex_value2 {a b : Int32} (h : pm_Go 9 m_E_value 0 [some (.ref 0), some (.int a), some (.int b)] [] 0 0 (ST I J) (.inr "java/lang/IllegalArgumentException", ST I J)) : pm_Go 10 m_L_value 0 [some (.ref 0), some (.int a), some (.int b), some (.ref 103), none] [] 0 0 (ST I J) (.inl (some (.int 2)), ST I J) := by
  refine go_aload_n d_L_value_0 rfl ?_
  refine go_iconst (v := 0) d_L_value_1 (by decide) ?_
  refine go_aload_n d_L_value_2 rfl ?_
  refine go_iload_n d_L_value_3 rfl ?_
  refine go_iload_n d_L_value_4 rfl ?_
  refine go_callVc (k2 := m_E_value) (As := [.int a, .int b]) (E := "java/lang/IllegalArgumentException") (hpc := 16) (i := 4) d_L_value_5 ok_E_value (Nat.le_of_ble_eq_true rfl) rfl pc_E rfl vl_L_66 rfl rfl (Nat.le_of_ble_eq_true rfl) (Nat.le_of_ble_eq_true rfl) (Nat.le_of_ble_eq_true rfl) (Nat.le_of_ble_eq_true rfl) rfl lwhd_value2 d_L_value_16 (Nat.le_of_ble_eq_true rfl) rfl h ?_
  refine go_iconst (v := 2) d_L_value_18 (by decide) ?_
  exact go_ireturn (st := []) d_L_value_19 rfl (Nat.le_of_ble_eq_true rfl) (Nat.le_of_ble_eq_true rfl) rfl
theorem lwhd_value3 : pm_hd m_L_value 5 "java/lang/IndexOutOfBoundsException" 20 :=
  ⟨[⟨0, 9, 12, 13⟩, ⟨0, 9, 16, 15⟩], ⟨0, 9, 20, 70⟩, _, rfl, (fun z hz => by
      simp only [List.mem_cons, List.not_mem_nil, or_false] at hz
      rcases hz with rfl | rfl
      · exact Or.inr ⟨by decide, "java/lang/IllegalStateException", lx_l1, by decide⟩
      · exact Or.inr ⟨by decide, "java/lang/IllegalArgumentException", lx_l2, by decide⟩), by decide, by decide, rfl, "java/lang/IndexOutOfBoundsException", lx_l3, rfl, lx_c3⟩
theorem lwex_value3 {a b : Int32} (h : pm_Go 9 m_E_value 0 [some (.ref 0), some (.int a), some (.int b)] [] 0 0 (ST I J) (.inr "java/lang/IndexOutOfBoundsException", ST I J)) : pm_Go 10 m_L_value 0 [some (.ref 0), some (.int a), some (.int b), some (.ref 103), none] [] 0 0 (ST I J) (.inl (some (.int 3)), ST I J) := by
  refine go_aload_n d_L_value_0 rfl ?_
  refine go_iconst (v := 0) d_L_value_1 (by decide) ?_
  refine go_aload_n d_L_value_2 rfl ?_
  refine go_iload_n d_L_value_3 rfl ?_
  refine go_iload_n d_L_value_4 rfl ?_
  refine go_callVc (k2 := m_E_value) (As := [.int a, .int b]) (E := "java/lang/IndexOutOfBoundsException") (hpc := 20) (i := 4) d_L_value_5 ok_E_value (Nat.le_of_ble_eq_true rfl) rfl pc_E rfl vl_L_66 rfl rfl (Nat.le_of_ble_eq_true rfl) (Nat.le_of_ble_eq_true rfl) (Nat.le_of_ble_eq_true rfl) (Nat.le_of_ble_eq_true rfl) rfl lwhd_value3 d_L_value_20 (Nat.le_of_ble_eq_true rfl) rfl h ?_
  refine go_iconst (v := 3) d_L_value_22 (by decide) ?_
  exact go_ireturn (st := []) d_L_value_23 rfl (Nat.le_of_ble_eq_true rfl) (Nat.le_of_ble_eq_true rfl) rfl
theorem lwok_byClock {a b : Int32} {r : Int32} {I1 : Nat → Nat → Int32} {J1 : Nat → Nat → Int64} (h : pm_Go 9 m_E_byClock 0 [some (.ref 0), some (.int a), some (.int b)] [] 0 0 (ST I J) (.inl (some (.int r)), ST I1 J1)) : pm_Go 10 m_L_byClock 0 [some (.ref 0), some (.int a), some (.int b), some (.ref 103), none] [] 0 0 (ST I J) (.inl (some (.int 0)), ST I1 (pm_uJ J1 103 0 r.toInt64)) := by
  refine go_aload_n d_L_byClock_0 rfl ?_
  refine go_iconst (v := 0) d_L_byClock_1 (by decide) ?_
  refine go_aload_n d_L_byClock_2 rfl ?_
  refine go_iload_n d_L_byClock_3 rfl ?_
  refine go_iload_n d_L_byClock_4 rfl ?_
  refine go_callV (k2 := m_E_byClock) (As := [.int a, .int b]) (r := some (.int r)) d_L_byClock_5 ok_E_byClock (Nat.le_of_ble_eq_true rfl) rfl pc_E rfl vl_L_72 rfl rfl (Nat.le_of_ble_eq_true rfl) (Nat.le_of_ble_eq_true rfl) (Nat.le_of_ble_eq_true rfl) (Nat.le_of_ble_eq_true rfl) rfl rfl h ?_
  refine go_i2l d_L_byClock_8 ?_
  refine go_last 0 d_L_byClock_9 (Nat.le_of_ble_eq_true rfl) rfl rfl (by decide) (by decide) ?_
  refine go_goto (tgt := 25) d_L_byClock_10 (by decide) ?_
  refine go_iconst (v := 0) d_L_byClock_25 (by decide) ?_
  exact go_ireturn (st := []) d_L_byClock_26 rfl (Nat.le_of_ble_eq_true rfl) (Nat.le_of_ble_eq_true rfl) rfl
theorem lwhd_byClock1 : pm_hd m_L_byClock 5 "java/lang/IllegalStateException" 13 :=
  ⟨[], ⟨0, 10, 13, 13⟩, _, rfl, (fun z hz => by cases hz), by decide, by decide, rfl, "java/lang/IllegalStateException", lx_l1, rfl, lx_c1⟩
theorem lwex_byClock1 {a b : Int32} (h : pm_Go 9 m_E_byClock 0 [some (.ref 0), some (.int a), some (.int b)] [] 0 0 (ST I J) (.inr "java/lang/IllegalStateException", ST I J)) : pm_Go 10 m_L_byClock 0 [some (.ref 0), some (.int a), some (.int b), some (.ref 103), none] [] 0 0 (ST I J) (.inl (some (.int 1)), ST I J) := by
  refine go_aload_n d_L_byClock_0 rfl ?_
  refine go_iconst (v := 0) d_L_byClock_1 (by decide) ?_
  refine go_aload_n d_L_byClock_2 rfl ?_
  refine go_iload_n d_L_byClock_3 rfl ?_
  refine go_iload_n d_L_byClock_4 rfl ?_
  refine go_callVc (k2 := m_E_byClock) (As := [.int a, .int b]) (E := "java/lang/IllegalStateException") (hpc := 13) (i := 4) d_L_byClock_5 ok_E_byClock (Nat.le_of_ble_eq_true rfl) rfl pc_E rfl vl_L_72 rfl rfl (Nat.le_of_ble_eq_true rfl) (Nat.le_of_ble_eq_true rfl) (Nat.le_of_ble_eq_true rfl) (Nat.le_of_ble_eq_true rfl) rfl lwhd_byClock1 d_L_byClock_13 (Nat.le_of_ble_eq_true rfl) rfl h ?_
  refine go_iconst (v := 1) d_L_byClock_15 (by decide) ?_
  exact go_ireturn (st := []) d_L_byClock_16 rfl (Nat.le_of_ble_eq_true rfl) (Nat.le_of_ble_eq_true rfl) rfl
theorem lwhd_byClock2 : pm_hd m_L_byClock 5 "java/lang/IllegalArgumentException" 17 :=
  ⟨[⟨0, 10, 13, 13⟩], ⟨0, 10, 17, 15⟩, _, rfl, (fun z hz => by
      simp only [List.mem_cons, List.not_mem_nil, or_false] at hz
      subst hz
      · exact Or.inr ⟨by decide, "java/lang/IllegalStateException", lx_l1, by decide⟩), by decide, by decide, rfl, "java/lang/IllegalArgumentException", lx_l2, rfl, lx_c2⟩
theorem lwex_byClock2 {a b : Int32} (h : pm_Go 9 m_E_byClock 0 [some (.ref 0), some (.int a), some (.int b)] [] 0 0 (ST I J) (.inr "java/lang/IllegalArgumentException", ST I J)) : pm_Go 10 m_L_byClock 0 [some (.ref 0), some (.int a), some (.int b), some (.ref 103), none] [] 0 0 (ST I J) (.inl (some (.int 2)), ST I J) := by
  refine go_aload_n d_L_byClock_0 rfl ?_
  refine go_iconst (v := 0) d_L_byClock_1 (by decide) ?_
  refine go_aload_n d_L_byClock_2 rfl ?_
  refine go_iload_n d_L_byClock_3 rfl ?_
  refine go_iload_n d_L_byClock_4 rfl ?_
  refine go_callVc (k2 := m_E_byClock) (As := [.int a, .int b]) (E := "java/lang/IllegalArgumentException") (hpc := 17) (i := 4) d_L_byClock_5 ok_E_byClock (Nat.le_of_ble_eq_true rfl) rfl pc_E rfl vl_L_72 rfl rfl (Nat.le_of_ble_eq_true rfl) (Nat.le_of_ble_eq_true rfl) (Nat.le_of_ble_eq_true rfl) (Nat.le_of_ble_eq_true rfl) rfl lwhd_byClock2 d_L_byClock_17 (Nat.le_of_ble_eq_true rfl) rfl h ?_
  refine go_iconst (v := 2) d_L_byClock_19 (by decide) ?_
  exact go_ireturn (st := []) d_L_byClock_20 rfl (Nat.le_of_ble_eq_true rfl) (Nat.le_of_ble_eq_true rfl) rfl
theorem lwhd_byClock3 : pm_hd m_L_byClock 5 "java/lang/IndexOutOfBoundsException" 21 :=
  ⟨[⟨0, 10, 13, 13⟩, ⟨0, 10, 17, 15⟩], ⟨0, 10, 21, 70⟩, _, rfl, (fun z hz => by
      simp only [List.mem_cons, List.not_mem_nil, or_false] at hz
      rcases hz with rfl | rfl
      · exact Or.inr ⟨by decide, "java/lang/IllegalStateException", lx_l1, by decide⟩
      · exact Or.inr ⟨by decide, "java/lang/IllegalArgumentException", lx_l2, by decide⟩), by decide, by decide, rfl, "java/lang/IndexOutOfBoundsException", lx_l3, rfl, lx_c3⟩
theorem lwex_byClock3 {a b : Int32} (h : pm_Go 9 m_E_byClock 0 [some (.ref 0), some (.int a), some (.int b)] [] 0 0 (ST I J) (.inr "java/lang/IndexOutOfBoundsException", ST I J)) : pm_Go 10 m_L_byClock 0 [some (.ref 0), some (.int a), some (.int b), some (.ref 103), none] [] 0 0 (ST I J) (.inl (some (.int 3)), ST I J) := by
  refine go_aload_n d_L_byClock_0 rfl ?_
  refine go_iconst (v := 0) d_L_byClock_1 (by decide) ?_
  refine go_aload_n d_L_byClock_2 rfl ?_
  refine go_iload_n d_L_byClock_3 rfl ?_
  refine go_iload_n d_L_byClock_4 rfl ?_
  refine go_callVc (k2 := m_E_byClock) (As := [.int a, .int b]) (E := "java/lang/IndexOutOfBoundsException") (hpc := 21) (i := 4) d_L_byClock_5 ok_E_byClock (Nat.le_of_ble_eq_true rfl) rfl pc_E rfl vl_L_72 rfl rfl (Nat.le_of_ble_eq_true rfl) (Nat.le_of_ble_eq_true rfl) (Nat.le_of_ble_eq_true rfl) (Nat.le_of_ble_eq_true rfl) rfl lwhd_byClock3 d_L_byClock_21 (Nat.le_of_ble_eq_true rfl) rfl h ?_
  refine go_iconst (v := 3) d_L_byClock_23 (by decide) ?_
  exact go_ireturn (st := []) d_L_byClock_24 rfl (Nat.le_of_ble_eq_true rfl) (Nat.le_of_ble_eq_true rfl) rfl
theorem lwok_rate {a : Int32} {r : Int32} {I1 : Nat → Nat → Int32} {J1 : Nat → Nat → Int64} (h : pm_Go 9 m_E_rate 0 [some (.ref 0), some (.int a)] [] 0 0 (ST I J) (.inl (some (.int r)), ST I1 J1)) : pm_Go 10 m_L_rate 0 [some (.ref 0), some (.int a), some (.ref 103), none] [] 0 0 (ST I J) (.inl (some (.int 0)), ST I1 (pm_uJ J1 103 0 r.toInt64)) := by
  refine go_aload_n d_L_rate_0 rfl ?_
  refine go_iconst (v := 0) d_L_rate_1 (by decide) ?_
  refine go_aload_n d_L_rate_2 rfl ?_
  refine go_iload_n d_L_rate_3 rfl ?_
  refine go_callV (k2 := m_E_rate) (As := [.int a]) (r := some (.int r)) d_L_rate_4 ok_E_rate (Nat.le_of_ble_eq_true rfl) rfl pc_E rfl vl_L_75 rfl rfl (Nat.le_of_ble_eq_true rfl) (Nat.le_of_ble_eq_true rfl) (Nat.le_of_ble_eq_true rfl) (Nat.le_of_ble_eq_true rfl) rfl rfl h ?_
  refine go_i2l d_L_rate_7 ?_
  refine go_last 0 d_L_rate_8 (Nat.le_of_ble_eq_true rfl) rfl rfl (by decide) (by decide) ?_
  refine go_goto (tgt := 18) d_L_rate_9 (by decide) ?_
  refine go_iconst (v := 0) d_L_rate_18 (by decide) ?_
  exact go_ireturn (st := []) d_L_rate_19 rfl (Nat.le_of_ble_eq_true rfl) (Nat.le_of_ble_eq_true rfl) rfl
theorem lwhd_rate1 : pm_hd m_L_rate 4 "java/lang/IllegalStateException" 12 :=
  ⟨[], ⟨0, 9, 12, 13⟩, _, rfl, (fun z hz => by cases hz), by decide, by decide, rfl, "java/lang/IllegalStateException", lx_l1, rfl, lx_c1⟩
theorem lwex_rate1 {a : Int32} (h : pm_Go 9 m_E_rate 0 [some (.ref 0), some (.int a)] [] 0 0 (ST I J) (.inr "java/lang/IllegalStateException", ST I J)) : pm_Go 10 m_L_rate 0 [some (.ref 0), some (.int a), some (.ref 103), none] [] 0 0 (ST I J) (.inl (some (.int 1)), ST I J) := by
  refine go_aload_n d_L_rate_0 rfl ?_
  refine go_iconst (v := 0) d_L_rate_1 (by decide) ?_
  refine go_aload_n d_L_rate_2 rfl ?_
  refine go_iload_n d_L_rate_3 rfl ?_
  refine go_callVc_n (k2 := m_E_rate) (As := [.int a]) (E := "java/lang/IllegalStateException") (hpc := 12) (i := 3) d_L_rate_4 ok_E_rate (Nat.le_of_ble_eq_true rfl) rfl pc_E rfl vl_L_75 rfl rfl (Nat.le_of_ble_eq_true rfl) (Nat.le_of_ble_eq_true rfl) (Nat.le_of_ble_eq_true rfl) (Nat.le_of_ble_eq_true rfl) rfl lwhd_rate1 d_L_rate_12 (Nat.le_of_ble_eq_true rfl) rfl h ?_
  refine go_iconst (v := 1) d_L_rate_13 (by decide) ?_
  exact go_ireturn (st := []) d_L_rate_14 rfl (Nat.le_of_ble_eq_true rfl) (Nat.le_of_ble_eq_true rfl) rfl
theorem lwhd_rate2 : pm_hd m_L_rate 4 "java/lang/IllegalArgumentException" 15 :=
  ⟨[⟨0, 9, 12, 13⟩], ⟨0, 9, 15, 15⟩, _, rfl, (fun z hz => by
      simp only [List.mem_cons, List.not_mem_nil, or_false] at hz
      subst hz
      · exact Or.inr ⟨by decide, "java/lang/IllegalStateException", lx_l1, by decide⟩), by decide, by decide, rfl, "java/lang/IllegalArgumentException", lx_l2, rfl, lx_c2⟩
theorem lwex_rate2 {a : Int32} (h : pm_Go 9 m_E_rate 0 [some (.ref 0), some (.int a)] [] 0 0 (ST I J) (.inr "java/lang/IllegalArgumentException", ST I J)) : pm_Go 10 m_L_rate 0 [some (.ref 0), some (.int a), some (.ref 103), none] [] 0 0 (ST I J) (.inl (some (.int 2)), ST I J) := by
  refine go_aload_n d_L_rate_0 rfl ?_
  refine go_iconst (v := 0) d_L_rate_1 (by decide) ?_
  refine go_aload_n d_L_rate_2 rfl ?_
  refine go_iload_n d_L_rate_3 rfl ?_
  refine go_callVc_n (k2 := m_E_rate) (As := [.int a]) (E := "java/lang/IllegalArgumentException") (hpc := 15) (i := 3) d_L_rate_4 ok_E_rate (Nat.le_of_ble_eq_true rfl) rfl pc_E rfl vl_L_75 rfl rfl (Nat.le_of_ble_eq_true rfl) (Nat.le_of_ble_eq_true rfl) (Nat.le_of_ble_eq_true rfl) (Nat.le_of_ble_eq_true rfl) rfl lwhd_rate2 d_L_rate_15 (Nat.le_of_ble_eq_true rfl) rfl h ?_
  refine go_iconst (v := 2) d_L_rate_16 (by decide) ?_
  exact go_ireturn (st := []) d_L_rate_17 rfl (Nat.le_of_ble_eq_true rfl) (Nat.le_of_ble_eq_true rfl) rfl
end S51
