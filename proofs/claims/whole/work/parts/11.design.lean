/-! Design -/
section S2
variable {d : Nat} {I : Nat → Nat → Int32} {J : Nat → Nat → Int64}
theorem nlt_lit {a b : Nat} (ha : a < 2 ^ 31) (hb : b < 2 ^ 31) (h : nI a < nI b) : a < b := (nI_ltI ha hb).mp h
theorem sp_empty : pm_Go d m_D_empty 0 [some (.ref 1)] [] 0 0 (ST I J) (.inl none, ST (pm_uI (pm_uI (pm_uI (pm_uI I 1 0 0) 1 1 0) 1 2 0) 1 3 0) J) := by
  refine go_aload_n d_D_empty_0 rfl ?_
  refine go_iconst (v := 0) d_D_empty_1 (by decide) ?_
  refine go_pI (j := 0) d_D_empty_2 (Nat.le_of_ble_eq_true rfl) rfl pc_D (Nat.le_of_ble_eq_true rfl) (by decide) w_32 rfl (Or.inl rfl) ?_
  refine go_aload_n d_D_empty_5 rfl ?_
  refine go_iconst (v := 0) d_D_empty_6 (by decide) ?_
  refine go_pI (j := 1) d_D_empty_7 (Nat.le_of_ble_eq_true rfl) rfl pc_D (Nat.le_of_ble_eq_true rfl) (by decide) w_37 rfl (Or.inl rfl) ?_
  refine go_aload_n d_D_empty_10 rfl ?_
  refine go_iconst (v := 0) d_D_empty_11 (by decide) ?_
  refine go_pI (j := 2) d_D_empty_12 (Nat.le_of_ble_eq_true rfl) rfl pc_D (Nat.le_of_ble_eq_true rfl) (by decide) w_42 rfl (Or.inl rfl) ?_
  refine go_aload_n d_D_empty_15 rfl ?_
  refine go_iconst (v := 0) d_D_empty_16 (by decide) ?_
  refine go_pI (j := 3) d_D_empty_17 (Nat.le_of_ble_eq_true rfl) rfl pc_D (Nat.le_of_ble_eq_true rfl) (by decide) w_46 rfl (Or.inl rfl) ?_
  exact go_vreturn (st := []) d_D_empty_20 rfl (Nat.le_of_ble_eq_true rfl) (Nat.le_of_ble_eq_true rfl) rfl
theorem sp_addBlock {op c : Int32} {nb : Nat} (hb : I 1 0 = nI nb) (h : nb < 10) : pm_Go d m_D_addBlock 0 [some (.ref 1), some (.int op), some (.int c)] [] 0 0 (ST I J) (.inl (some (.int (nI nb))), ST (pm_uI (pm_uI (pm_uI (pm_uI (pm_uI I 2 nb op) 3 nb c) 20 nb 0) 32 nb 0) 1 0 (nI (nb + 1))) J) := by
  refine go_aload_n d_D_addBlock_0 rfl ?_
  refine go_gI (j := 0) (nI nb) d_D_addBlock_1 (Nat.le_of_ble_eq_true rfl) rfl pc_D (Nat.le_of_ble_eq_true rfl) (by decide) w_32 hb ?_
  refine go_bipush (v := 10) d_D_addBlock_4 (by decide) ?_
  refine go_icmp_lt (tgt := 11) d_D_addBlock_6 (by decide) (fun z => ?_) (fun z => absurd (nI_lt h (by decide)) z)
  refine go_aload_n d_D_addBlock_11 rfl ?_
  refine go_getP (j := 4) d_D_addBlock_12 (Nat.le_of_ble_eq_true rfl) rfl pc_D (Nat.le_of_ble_eq_true rfl) rfl w_49 pt_D_4 ?_
  refine go_aload_n d_D_addBlock_15 rfl ?_
  refine go_gI (j := 0) (nI nb) d_D_addBlock_16 (Nat.le_of_ble_eq_true rfl) rfl pc_D (Nat.le_of_ble_eq_true rfl) (by decide) w_32 hb ?_
  refine go_iload_n d_D_addBlock_19 rfl ?_
  refine go_ast nb d_D_addBlock_20 (Nat.le_of_ble_eq_true rfl) rfl rfl h (by decide) ?_
  refine go_aload_n d_D_addBlock_21 rfl ?_
  refine go_getP (j := 5) d_D_addBlock_22 (Nat.le_of_ble_eq_true rfl) rfl pc_D (Nat.le_of_ble_eq_true rfl) rfl w_50 pt_D_5 ?_
  refine go_aload_n d_D_addBlock_25 rfl ?_
  refine go_gI (j := 0) (nI nb) d_D_addBlock_26 (Nat.le_of_ble_eq_true rfl) rfl pc_D (Nat.le_of_ble_eq_true rfl) (by decide) w_32 hb ?_
  refine go_iload_n d_D_addBlock_29 rfl ?_
  refine go_ast nb d_D_addBlock_30 (Nat.le_of_ble_eq_true rfl) rfl rfl h (by decide) ?_
  refine go_aload_n d_D_addBlock_31 rfl ?_
  refine go_getP (j := 12) d_D_addBlock_32 (Nat.le_of_ble_eq_true rfl) rfl pc_D (Nat.le_of_ble_eq_true rfl) rfl w_66 pt_D_12 ?_
  refine go_aload_n d_D_addBlock_35 rfl ?_
  refine go_gI (j := 0) (nI nb) d_D_addBlock_36 (Nat.le_of_ble_eq_true rfl) rfl pc_D (Nat.le_of_ble_eq_true rfl) (by decide) w_32 hb ?_
  refine go_iconst (v := 0) d_D_addBlock_39 (by decide) ?_
  refine go_ast nb d_D_addBlock_40 (Nat.le_of_ble_eq_true rfl) rfl rfl h (by decide) ?_
  refine go_aload_n d_D_addBlock_41 rfl ?_
  refine go_getP (j := 14) d_D_addBlock_42 (Nat.le_of_ble_eq_true rfl) rfl pc_D (Nat.le_of_ble_eq_true rfl) rfl w_70 pt_D_14 ?_
  refine go_aload_n d_D_addBlock_45 rfl ?_
  refine go_gI (j := 0) (nI nb) d_D_addBlock_46 (Nat.le_of_ble_eq_true rfl) rfl pc_D (Nat.le_of_ble_eq_true rfl) (by decide) w_32 hb ?_
  refine go_iconst (v := 0) d_D_addBlock_49 (by decide) ?_
  refine go_ast nb d_D_addBlock_50 (Nat.le_of_ble_eq_true rfl) rfl rfl h (by decide) ?_
  refine go_aload_n d_D_addBlock_51 rfl ?_
  refine go_dup d_D_addBlock_52 rfl ?_
  refine go_gI (j := 0) (nI nb) d_D_addBlock_53 (Nat.le_of_ble_eq_true rfl) rfl pc_D (Nat.le_of_ble_eq_true rfl) (by decide) w_32 hb ?_
  refine go_dup_x1 d_D_addBlock_56 rfl rfl ?_
  refine go_iconst (v := 1) d_D_addBlock_57 (by decide) ?_
  refine go_iadd d_D_addBlock_58 ?_
  refine go_top (nI (nb + 1)) (nI_1 nb) ?_
  refine go_pI (j := 0) d_D_addBlock_59 (Nat.le_of_ble_eq_true rfl) rfl pc_D (Nat.le_of_ble_eq_true rfl) (by decide) w_32 rfl (Or.inl rfl) ?_
  exact go_ireturn (st := []) d_D_addBlock_62 rfl (Nat.le_of_ble_eq_true rfl) (Nat.le_of_ble_eq_true rfl) rfl
theorem sp_addBlockN {op c : Int32} (hb : I 1 0 = nI 10) : pm_Go d m_D_addBlock 0 [some (.ref 1), some (.int op), some (.int c)] [] 0 0 (ST I J) (.inl (some (.int (-1))), ST I J) := by
  refine go_aload_n d_D_addBlock_0 rfl ?_
  refine go_gI (j := 0) (nI 10) d_D_addBlock_1 (Nat.le_of_ble_eq_true rfl) rfl pc_D (Nat.le_of_ble_eq_true rfl) (by decide) w_32 hb ?_
  refine go_bipush (v := 10) d_D_addBlock_4 (by decide) ?_
  refine go_icmp_lt (tgt := 11) d_D_addBlock_6 (by decide) (fun z => absurd z (by decide)) (fun z => ?_)
  refine go_iconst (v := -1) d_D_addBlock_9 (by decide) ?_
  exact go_ireturn (st := []) d_D_addBlock_10 rfl (Nat.le_of_ble_eq_true rfl) (Nat.le_of_ble_eq_true rfl) rfl
theorem sp_addChannel {v : Int32} {nc f t nf nt : Nat} (hc : I 1 1 = nI nc) (h : nc < 20) (hf : f < 10) (ht : t < 10) (hnf : I 32 f = nI nf) (hnf2 : nf < 24) (hnt : I 20 t = nI nt) (hnt2 : nt < 24) : pm_Go (d + 1) m_D_addChannel 0 [some (.ref 1), some (.int (nI f)), some (.int (nI t)), some (.int v)] [] 0 0 (ST I J) (.inl (some (.int (nI nc))), ST (pm_uI (pm_uI (pm_uI (pm_uI (pm_uI (pm_uI (pm_uI (pm_uI (pm_uI I 4 nc (nI f)) 5 nc (nI t)) 6 nc v) 7 nc 0) (22 + f) nf (nI nc)) 32 f (nI (nf + 1))) (10 + t) nt (nI nc)) 20 t (nI (nt + 1))) 1 1 (nI (nc + 1))) J) := by
  refine go_aload_n d_D_addChannel_0 rfl ?_
  refine go_gI (j := 1) (nI nc) d_D_addChannel_1 (Nat.le_of_ble_eq_true rfl) rfl pc_D (Nat.le_of_ble_eq_true rfl) (by decide) w_37 hc ?_
  refine go_bipush (v := 20) d_D_addChannel_4 (by decide) ?_
  refine go_icmp_lt (tgt := 11) d_D_addChannel_6 (by decide) (fun z => ?_) (fun z => absurd (nI_lt h (by decide)) z)
  refine go_aload_n d_D_addChannel_11 rfl ?_
  refine go_getP (j := 6) d_D_addChannel_12 (Nat.le_of_ble_eq_true rfl) rfl pc_D (Nat.le_of_ble_eq_true rfl) rfl w_51 pt_D_6 ?_
  refine go_aload_n d_D_addChannel_15 rfl ?_
  refine go_gI (j := 1) (nI nc) d_D_addChannel_16 (Nat.le_of_ble_eq_true rfl) rfl pc_D (Nat.le_of_ble_eq_true rfl) (by decide) w_37 hc ?_
  refine go_iload_n d_D_addChannel_19 rfl ?_
  refine go_ast nc d_D_addChannel_20 (Nat.le_of_ble_eq_true rfl) rfl rfl h (by decide) ?_
  refine go_aload_n d_D_addChannel_21 rfl ?_
  refine go_getP (j := 7) d_D_addChannel_22 (Nat.le_of_ble_eq_true rfl) rfl pc_D (Nat.le_of_ble_eq_true rfl) rfl w_54 pt_D_7 ?_
  refine go_aload_n d_D_addChannel_25 rfl ?_
  refine go_gI (j := 1) (nI nc) d_D_addChannel_26 (Nat.le_of_ble_eq_true rfl) rfl pc_D (Nat.le_of_ble_eq_true rfl) (by decide) w_37 hc ?_
  refine go_iload_n d_D_addChannel_29 rfl ?_
  refine go_ast nc d_D_addChannel_30 (Nat.le_of_ble_eq_true rfl) rfl rfl h (by decide) ?_
  refine go_aload_n d_D_addChannel_31 rfl ?_
  refine go_getP (j := 8) d_D_addChannel_32 (Nat.le_of_ble_eq_true rfl) rfl pc_D (Nat.le_of_ble_eq_true rfl) rfl w_56 pt_D_8 ?_
  refine go_aload_n d_D_addChannel_35 rfl ?_
  refine go_gI (j := 1) (nI nc) d_D_addChannel_36 (Nat.le_of_ble_eq_true rfl) rfl pc_D (Nat.le_of_ble_eq_true rfl) (by decide) w_37 hc ?_
  refine go_iload_n d_D_addChannel_39 rfl ?_
  refine go_ast nc d_D_addChannel_40 (Nat.le_of_ble_eq_true rfl) rfl rfl h (by decide) ?_
  refine go_aload_n d_D_addChannel_41 rfl ?_
  refine go_getP (j := 9) d_D_addChannel_42 (Nat.le_of_ble_eq_true rfl) rfl pc_D (Nat.le_of_ble_eq_true rfl) rfl w_59 pt_D_9 ?_
  refine go_aload_n d_D_addChannel_45 rfl ?_
  refine go_gI (j := 1) (nI nc) d_D_addChannel_46 (Nat.le_of_ble_eq_true rfl) rfl pc_D (Nat.le_of_ble_eq_true rfl) (by decide) w_37 hc ?_
  refine go_iconst (v := 0) d_D_addChannel_49 (by decide) ?_
  refine go_ast nc d_D_addChannel_50 (Nat.le_of_ble_eq_true rfl) rfl rfl h (by decide) ?_
  refine go_aload_n d_D_addChannel_51 rfl ?_
  refine go_iload_n d_D_addChannel_52 rfl ?_
  refine go_aload_n d_D_addChannel_53 rfl ?_
  refine go_gI (j := 1) (nI nc) d_D_addChannel_54 (Nat.le_of_ble_eq_true rfl) rfl pc_D (Nat.le_of_ble_eq_true rfl) (by decide) w_37 hc ?_
  refine go_callV (k2 := m_D_linkOut) (As := [.int (nI f), .int (nI nc)]) (r := none) d_D_addChannel_57 ok_D_linkOut (Nat.le_of_ble_eq_true rfl) rfl pc_D rfl vl_D_60 rfl rfl (Nat.le_of_ble_eq_true rfl) (Nat.le_of_ble_eq_true rfl) (Nat.le_of_ble_eq_true rfl) (Nat.le_of_ble_eq_true rfl) rfl rfl (sp_linkOut hf hnf hnf2) ?_
  refine go_aload_n d_D_addChannel_60 rfl ?_
  refine go_iload_n d_D_addChannel_61 rfl ?_
  refine go_aload_n d_D_addChannel_62 rfl ?_
  refine go_gI (j := 1) (nI nc) d_D_addChannel_63 (Nat.le_of_ble_eq_true rfl) rfl pc_D (Nat.le_of_ble_eq_true rfl) (by decide) w_37 (by simp [uI_at, hc]) ?_
  refine go_callV (k2 := m_D_linkIn) (As := [.int (nI t), .int (nI nc)]) (r := none) d_D_addChannel_66 ok_D_linkIn (Nat.le_of_ble_eq_true rfl) rfl pc_D rfl vl_D_64 rfl rfl (Nat.le_of_ble_eq_true rfl) (Nat.le_of_ble_eq_true rfl) (Nat.le_of_ble_eq_true rfl) (Nat.le_of_ble_eq_true rfl) rfl rfl (sp_linkIn ht (by simp [uI_at, hnt]; intro z; omega) hnt2) ?_
  refine go_aload_n d_D_addChannel_69 rfl ?_
  refine go_dup d_D_addChannel_70 rfl ?_
  refine go_gI (j := 1) (nI nc) d_D_addChannel_71 (Nat.le_of_ble_eq_true rfl) rfl pc_D (Nat.le_of_ble_eq_true rfl) (by decide) w_37 (by simp [uI_at, hc]) ?_
  refine go_dup_x1 d_D_addChannel_74 rfl rfl ?_
  refine go_iconst (v := 1) d_D_addChannel_75 (by decide) ?_
  refine go_iadd d_D_addChannel_76 ?_
  refine go_top (nI (nc + 1)) (nI_1 nc) ?_
  refine go_pI (j := 1) d_D_addChannel_77 (Nat.le_of_ble_eq_true rfl) rfl pc_D (Nat.le_of_ble_eq_true rfl) (by decide) w_37 rfl (Or.inl rfl) ?_
  exact go_ireturn (st := []) d_D_addChannel_80 rfl (Nat.le_of_ble_eq_true rfl) (Nat.le_of_ble_eq_true rfl) rfl
theorem sp_addChannelN {x y v : Int32} (hc : I 1 1 = nI 20) : pm_Go (d + 1) m_D_addChannel 0 [some (.ref 1), some (.int x), some (.int y), some (.int v)] [] 0 0 (ST I J) (.inl (some (.int (-1))), ST I J) := by
  refine go_aload_n d_D_addChannel_0 rfl ?_
  refine go_gI (j := 1) (nI 20) d_D_addChannel_1 (Nat.le_of_ble_eq_true rfl) rfl pc_D (Nat.le_of_ble_eq_true rfl) (by decide) w_37 hc ?_
  refine go_bipush (v := 20) d_D_addChannel_4 (by decide) ?_
  refine go_icmp_lt (tgt := 11) d_D_addChannel_6 (by decide) (fun z => absurd z (by decide)) (fun z => ?_)
  refine go_iconst (v := -1) d_D_addChannel_9 (by decide) ?_
  exact go_ireturn (st := []) d_D_addChannel_10 rfl (Nat.le_of_ble_eq_true rfl) (Nat.le_of_ble_eq_true rfl) rfl
theorem sp_addInput {ni t nt : Nat} (hi : I 1 2 = nI ni) (h : ni < 4) (ht : t < 10) (hnt : I 20 t = nI nt) (hnt2 : nt < 24) : pm_Go (d + 1) m_D_addInput 0 [some (.ref 1), some (.int (nI t))] [] 0 0 (ST I J) (.inl (some (.int (nI ni))), ST (pm_uI (pm_uI (pm_uI I (10 + t) nt (nI (20 + ni))) 20 t (nI (nt + 1))) 1 2 (nI (ni + 1))) J) := by
  refine go_aload_n d_D_addInput_0 rfl ?_
  refine go_gI (j := 2) (nI ni) d_D_addInput_1 (Nat.le_of_ble_eq_true rfl) rfl pc_D (Nat.le_of_ble_eq_true rfl) (by decide) w_42 hi ?_
  refine go_iconst (v := 4) d_D_addInput_4 (by decide) ?_
  refine go_icmp_lt (tgt := 10) d_D_addInput_5 (by decide) (fun z => ?_) (fun z => absurd (nI_lt h (by decide)) z)
  refine go_aload_n d_D_addInput_10 rfl ?_
  refine go_iload_n d_D_addInput_11 rfl ?_
  refine go_bipush (v := 20) d_D_addInput_12 (by decide) ?_
  refine go_aload_n d_D_addInput_14 rfl ?_
  refine go_gI (j := 2) (nI ni) d_D_addInput_15 (Nat.le_of_ble_eq_true rfl) rfl pc_D (Nat.le_of_ble_eq_true rfl) (by decide) w_42 hi ?_
  refine go_iadd d_D_addInput_18 ?_
  refine go_top (nI (20 + ni)) (nI_add 20 ni) ?_
  refine go_callV (k2 := m_D_linkIn) (As := [.int (nI t), .int (nI (20 + ni))]) (r := none) d_D_addInput_19 ok_D_linkIn (Nat.le_of_ble_eq_true rfl) rfl pc_D rfl vl_D_64 rfl rfl (Nat.le_of_ble_eq_true rfl) (Nat.le_of_ble_eq_true rfl) (Nat.le_of_ble_eq_true rfl) (Nat.le_of_ble_eq_true rfl) rfl rfl (sp_linkIn ht hnt hnt2) ?_
  refine go_aload_n d_D_addInput_22 rfl ?_
  refine go_dup d_D_addInput_23 rfl ?_
  refine go_gI (j := 2) (nI ni) d_D_addInput_24 (Nat.le_of_ble_eq_true rfl) rfl pc_D (Nat.le_of_ble_eq_true rfl) (by decide) w_42 (by simp [uI_at, hi]; intro z; omega) ?_
  refine go_dup_x1 d_D_addInput_27 rfl rfl ?_
  refine go_iconst (v := 1) d_D_addInput_28 (by decide) ?_
  refine go_iadd d_D_addInput_29 ?_
  refine go_top (nI (ni + 1)) (nI_1 ni) ?_
  refine go_pI (j := 2) d_D_addInput_30 (Nat.le_of_ble_eq_true rfl) rfl pc_D (Nat.le_of_ble_eq_true rfl) (by decide) w_42 rfl (Or.inl rfl) ?_
  exact go_ireturn (st := []) d_D_addInput_33 rfl (Nat.le_of_ble_eq_true rfl) (Nat.le_of_ble_eq_true rfl) rfl
theorem sp_addInputN {x : Int32} (hi : I 1 2 = nI 4) : pm_Go (d + 1) m_D_addInput 0 [some (.ref 1), some (.int x)] [] 0 0 (ST I J) (.inl (some (.int (-1))), ST I J) := by
  refine go_aload_n d_D_addInput_0 rfl ?_
  refine go_gI (j := 2) (nI 4) d_D_addInput_1 (Nat.le_of_ble_eq_true rfl) rfl pc_D (Nat.le_of_ble_eq_true rfl) (by decide) w_42 hi ?_
  refine go_iconst (v := 4) d_D_addInput_4 (by decide) ?_
  refine go_icmp_lt (tgt := 10) d_D_addInput_5 (by decide) (fun z => absurd z (by decide)) (fun z => ?_)
  refine go_iconst (v := -1) d_D_addInput_8 (by decide) ?_
  exact go_ireturn (st := []) d_D_addInput_9 rfl (Nat.le_of_ble_eq_true rfl) (Nat.le_of_ble_eq_true rfl) rfl
theorem sp_addOutput {no f nf : Nat} (hi : I 1 3 = nI no) (h : no < 4) (hf : f < 10) (hnf : I 32 f = nI nf) (hnf2 : nf < 24) : pm_Go (d + 1) m_D_addOutput 0 [some (.ref 1), some (.int (nI f))] [] 0 0 (ST I J) (.inl (some (.int (nI no))), ST (pm_uI (pm_uI (pm_uI (pm_uI I 8 no (nI f)) (22 + f) nf (nI (20 + no))) 32 f (nI (nf + 1))) 1 3 (nI (no + 1))) J) := by
  refine go_aload_n d_D_addOutput_0 rfl ?_
  refine go_gI (j := 3) (nI no) d_D_addOutput_1 (Nat.le_of_ble_eq_true rfl) rfl pc_D (Nat.le_of_ble_eq_true rfl) (by decide) w_46 hi ?_
  refine go_iconst (v := 4) d_D_addOutput_4 (by decide) ?_
  refine go_icmp_lt (tgt := 10) d_D_addOutput_5 (by decide) (fun z => ?_) (fun z => absurd (nI_lt h (by decide)) z)
  refine go_aload_n d_D_addOutput_10 rfl ?_
  refine go_getP (j := 10) d_D_addOutput_11 (Nat.le_of_ble_eq_true rfl) rfl pc_D (Nat.le_of_ble_eq_true rfl) rfl w_62 pt_D_10 ?_
  refine go_aload_n d_D_addOutput_14 rfl ?_
  refine go_gI (j := 3) (nI no) d_D_addOutput_15 (Nat.le_of_ble_eq_true rfl) rfl pc_D (Nat.le_of_ble_eq_true rfl) (by decide) w_46 hi ?_
  refine go_iload_n d_D_addOutput_18 rfl ?_
  refine go_ast no d_D_addOutput_19 (Nat.le_of_ble_eq_true rfl) rfl rfl h (by decide) ?_
  refine go_aload_n d_D_addOutput_20 rfl ?_
  refine go_iload_n d_D_addOutput_21 rfl ?_
  refine go_bipush (v := 20) d_D_addOutput_22 (by decide) ?_
  refine go_aload_n d_D_addOutput_24 rfl ?_
  refine go_gI (j := 3) (nI no) d_D_addOutput_25 (Nat.le_of_ble_eq_true rfl) rfl pc_D (Nat.le_of_ble_eq_true rfl) (by decide) w_46 hi ?_
  refine go_iadd d_D_addOutput_28 ?_
  refine go_top (nI (20 + no)) (nI_add 20 no) ?_
  refine go_callV (k2 := m_D_linkOut) (As := [.int (nI f), .int (nI (20 + no))]) (r := none) d_D_addOutput_29 ok_D_linkOut (Nat.le_of_ble_eq_true rfl) rfl pc_D rfl vl_D_60 rfl rfl (Nat.le_of_ble_eq_true rfl) (Nat.le_of_ble_eq_true rfl) (Nat.le_of_ble_eq_true rfl) (Nat.le_of_ble_eq_true rfl) rfl rfl (sp_linkOut hf hnf hnf2) ?_
  refine go_aload_n d_D_addOutput_32 rfl ?_
  refine go_dup d_D_addOutput_33 rfl ?_
  refine go_gI (j := 3) (nI no) d_D_addOutput_34 (Nat.le_of_ble_eq_true rfl) rfl pc_D (Nat.le_of_ble_eq_true rfl) (by decide) w_46 (by simp [uI_at, hi]; intro z; omega) ?_
  refine go_dup_x1 d_D_addOutput_37 rfl rfl ?_
  refine go_iconst (v := 1) d_D_addOutput_38 (by decide) ?_
  refine go_iadd d_D_addOutput_39 ?_
  refine go_top (nI (no + 1)) (nI_1 no) ?_
  refine go_pI (j := 3) d_D_addOutput_40 (Nat.le_of_ble_eq_true rfl) rfl pc_D (Nat.le_of_ble_eq_true rfl) (by decide) w_46 rfl (Or.inl rfl) ?_
  exact go_ireturn (st := []) d_D_addOutput_43 rfl (Nat.le_of_ble_eq_true rfl) (Nat.le_of_ble_eq_true rfl) rfl
theorem sp_addOutputN {x : Int32} (hi : I 1 3 = nI 4) : pm_Go (d + 1) m_D_addOutput 0 [some (.ref 1), some (.int x)] [] 0 0 (ST I J) (.inl (some (.int (-1))), ST I J) := by
  refine go_aload_n d_D_addOutput_0 rfl ?_
  refine go_gI (j := 3) (nI 4) d_D_addOutput_1 (Nat.le_of_ble_eq_true rfl) rfl pc_D (Nat.le_of_ble_eq_true rfl) (by decide) w_46 hi ?_
  refine go_iconst (v := 4) d_D_addOutput_4 (by decide) ?_
  refine go_icmp_lt (tgt := 10) d_D_addOutput_5 (by decide) (fun z => absurd z (by decide)) (fun z => ?_)
  refine go_iconst (v := -1) d_D_addOutput_8 (by decide) ?_
  exact go_ireturn (st := []) d_D_addOutput_9 rfl (Nat.le_of_ble_eq_true rfl) (Nat.le_of_ble_eq_true rfl) rfl
/-- what a block's operation makes of two -/
def jn (op : Nat) (v x : Int32) : Int32 := if op = 0 then v + x else if op = 1 then v ^^^ x else if op = 2 then v * x else if op = 3 then (if v < x then x else v) else 31 * v + x
theorem sp_joined {op : Nat} {v x : Int32} (h : op < 5) : pm_Go (d + 1) m_D_joined 0 [some (.int (nI op)), some (.int v), some (.int x)] [] 0 0 (ST I J) (.inl (some (.int (jn op v x))), ST I J) := by
  refine go_iload_n d_D_joined_0 rfl ?_
  rcases (show op = 0 ∨ op = 1 ∨ op = 2 ∨ op = 3 ∨ op = 4 by omega) with rfl | rfl | rfl | rfl | rfl
  · refine go_tableIn (tgt := 32) d_D_joined_1 (by decide) (by decide) (show _ = some 31 by decide) (by decide) ?_
    refine go_iload_n d_D_joined_32 rfl ?_
    refine go_iload_n d_D_joined_33 rfl ?_
    refine go_iadd d_D_joined_34 ?_
    exact go_ireturn (st := []) d_D_joined_35 rfl (Nat.le_of_ble_eq_true rfl) (Nat.le_of_ble_eq_true rfl) rfl
  · refine go_tableIn (tgt := 36) d_D_joined_1 (by decide) (by decide) (show _ = some 35 by decide) (by decide) ?_
    refine go_iload_n d_D_joined_36 rfl ?_
    refine go_iload_n d_D_joined_37 rfl ?_
    refine go_ixor d_D_joined_38 ?_
    exact go_ireturn (st := []) d_D_joined_39 rfl (Nat.le_of_ble_eq_true rfl) (Nat.le_of_ble_eq_true rfl) rfl
  · refine go_tableIn (tgt := 40) d_D_joined_1 (by decide) (by decide) (show _ = some 39 by decide) (by decide) ?_
    refine go_iload_n d_D_joined_40 rfl ?_
    refine go_iload_n d_D_joined_41 rfl ?_
    refine go_imul d_D_joined_42 ?_
    exact go_ireturn (st := []) d_D_joined_43 rfl (Nat.le_of_ble_eq_true rfl) (Nat.le_of_ble_eq_true rfl) rfl
  · refine go_tableIn (tgt := 44) d_D_joined_1 (by decide) (by decide) (show _ = some 43 by decide) (by decide) ?_
    refine go_iload_n d_D_joined_44 rfl ?_
    refine go_iload_n d_D_joined_45 rfl ?_
    refine go_mmax d_D_joined_46 w_534 w_535 w_14 w_536 (Nat.le_of_ble_eq_true rfl) (Nat.le_of_ble_eq_true rfl) (Nat.le_of_ble_eq_true rfl) (Nat.le_of_ble_eq_true rfl) ?_
    exact go_ireturn (st := []) d_D_joined_49 rfl (Nat.le_of_ble_eq_true rfl) (Nat.le_of_ble_eq_true rfl) rfl
  · refine go_tableOut (tgt := 50) d_D_joined_1 (by decide) (by decide) ?_
    refine go_bipush (v := 31) d_D_joined_50 (by decide) ?_
    refine go_iload_n d_D_joined_52 rfl ?_
    refine go_imul d_D_joined_53 ?_
    refine go_iload_n d_D_joined_54 rfl ?_
    refine go_iadd d_D_joined_55 ?_
    exact go_ireturn (st := []) d_D_joined_56 rfl (Nat.le_of_ble_eq_true rfl) (Nat.le_of_ble_eq_true rfl) rfl
/-- a fold over numbers -/
def fo {α : Type} (f : α → Nat → α) (a : α) : Nat → α
  | 0 => a
  | n + 1 => f (fo f a n) n
theorem sp_makes {j s n op : Nat} {c : Int32} {lk : Nat → Nat} (hj : j < 10) (hs : s < 104) (hsh : pm_shp s = (1, 24)) (hc : I 3 j = c) (hn : I 20 j = nI n) (hn2 : n ≤ 24) (hop : I 2 j = nI op) (hop2 : op < 5) (hlk : ∀ i, i < n → I (10 + j) i = nI (lk i) ∧ lk i < 24) : pm_Go (d + 2) m_D_makes 0 [some (.ref 1), some (.int (nI j)), some (.ref s), none, none] [] 0 0 (ST I J) (.inl (some (.int (fo (fun v i => jn op v (I s (lk i))) c n))), ST I J) := by
  have loop : ∀ k i, n - i = k → i ≤ n → pm_Go (d + 2) m_D_makes 10 [some (.ref 1), some (.int (nI j)), some (.ref s), some (.int (fo (fun v i => jn op v (I s (lk i))) c i)), some (.int (nI i))] [] 0 0 (ST I J) (.inl (some (.int (fo (fun v i => jn op v (I s (lk i))) c n))), ST I J) := by
    intro k
    induction k with
    | zero =>
      intro i hk hi
      have : i = n := by omega
      subst this
      refine go_iload d_D_makes_10 rfl ?_
      refine go_aload_n d_D_makes_12 rfl ?_
      refine go_getP (j := 12) d_D_makes_13 (Nat.le_of_ble_eq_true rfl) rfl pc_D (Nat.le_of_ble_eq_true rfl) rfl w_66 pt_D_12 ?_
      refine go_iload_n d_D_makes_16 rfl ?_
      refine go_ald j (nI i) d_D_makes_17 (Nat.le_of_ble_eq_true rfl) rfl rfl hj (by decide) hn ?_
      refine go_icmp_ge (tgt := 49) d_D_makes_18 (by decide) (fun z => ?_) (fun z => absurd (nI_le (Nat.le_refl i) (by omega)) z)
      refine go_iload_n d_D_makes_49 rfl ?_
      exact go_ireturn (st := []) d_D_makes_50 rfl (Nat.le_of_ble_eq_true rfl) (Nat.le_of_ble_eq_true rfl) rfl
    | succ k ih =>
      intro i hk hi
      obtain ⟨l1, l2⟩ := hlk i (by omega)
      refine go_iload d_D_makes_10 rfl ?_
      refine go_aload_n d_D_makes_12 rfl ?_
      refine go_getP (j := 12) d_D_makes_13 (Nat.le_of_ble_eq_true rfl) rfl pc_D (Nat.le_of_ble_eq_true rfl) rfl w_66 pt_D_12 ?_
      refine go_iload_n d_D_makes_16 rfl ?_
      refine go_ald j (nI n) d_D_makes_17 (Nat.le_of_ble_eq_true rfl) rfl rfl hj (by decide) hn ?_
      refine go_icmp_ge (tgt := 49) d_D_makes_18 (by decide) (fun z => absurd z (nI_ge (by omega) (by omega))) (fun z => ?_)
      refine go_aload_n d_D_makes_21 rfl ?_
      refine go_getP (j := 4) d_D_makes_22 (Nat.le_of_ble_eq_true rfl) rfl pc_D (Nat.le_of_ble_eq_true rfl) rfl w_49 pt_D_4 ?_
      refine go_iload_n d_D_makes_25 rfl ?_
      refine go_ald j (nI op) d_D_makes_26 (Nat.le_of_ble_eq_true rfl) rfl rfl hj (by decide) hop ?_
      refine go_iload_n d_D_makes_27 rfl ?_
      refine go_aload_n d_D_makes_28 rfl ?_
      refine go_aload_n d_D_makes_29 rfl ?_
      refine go_getP (j := 11) d_D_makes_30 (Nat.le_of_ble_eq_true rfl) rfl pc_D (Nat.le_of_ble_eq_true rfl) rfl w_64 pt_D_11 ?_
      refine go_iload_n d_D_makes_33 rfl ?_
      refine go_row3 j (10 + j) d_D_makes_34 (Nat.le_of_ble_eq_true rfl) rfl rfl hj (by decide) (pt_9 j hj) ?_
      refine go_iload d_D_makes_35 rfl ?_
      refine go_ald i (nI (lk i)) d_D_makes_37 (show 10 + j < 104 by omega) (sh_10 j hj) rfl (by omega) (by decide) l1 ?_
      refine go_ald (lk i) (I s (lk i)) d_D_makes_38 hs hsh rfl l2 (by decide) rfl ?_
      refine go_callS (k2 := m_D_joined) (As := [.int (nI op), .int (fo (fun v i => jn op v (I s (lk i))) c i), .int (I s (lk i))]) (r := some (.int (jn op (fo (fun v i => jn op v (I s (lk i))) c i) (I s (lk i))))) d_D_makes_39 ok_D_joined sl_D_67 rfl rfl (Nat.le_of_ble_eq_true rfl) (Nat.le_of_ble_eq_true rfl) (Nat.le_of_ble_eq_true rfl) (Nat.le_of_ble_eq_true rfl) (by simp [pm_lt, pm_ltV, hs]) rfl (sp_joined hop2)  ?_
      refine go_istore_n d_D_makes_42 (Nat.le_of_ble_eq_true rfl) rfl ?_
      refine go_iinc (v := nI (i + 1)) d_D_makes_43 rfl (by first | rfl | exact nI_1 _) rfl ?_
      refine go_goto (tgt := 10) d_D_makes_46 (by decide) ?_
      exact ih (i + 1) (by omega) (by omega)
  refine go_aload_n d_D_makes_0 rfl ?_
  refine go_getP (j := 5) d_D_makes_1 (Nat.le_of_ble_eq_true rfl) rfl pc_D (Nat.le_of_ble_eq_true rfl) rfl w_50 pt_D_5 ?_
  refine go_iload_n d_D_makes_4 rfl ?_
  refine go_ald j c d_D_makes_5 (Nat.le_of_ble_eq_true rfl) rfl rfl hj (by decide) hc ?_
  refine go_istore_n d_D_makes_6 (Nat.le_of_ble_eq_true rfl) rfl ?_
  refine go_iconst (v := 0) d_D_makes_7 (by decide) ?_
  refine go_istore d_D_makes_8 (Nat.le_of_ble_eq_true rfl) rfl ?_
  exact loop n 0 (by omega) (by omega)
theorem sp_countBuffers {nc : Nat} {ex : Nat → Nat} (hc : I 1 1 = nI nc) (hc2 : nc ≤ 20) (hex : ∀ i, i < nc → I 7 i = nI (ex i)) : pm_Go d m_D_countBuffers 0 [some (.ref 1), none, none] [] 0 0 (ST I J) (.inl (some (.int (nI (fo (fun a i => a + ex i) nc nc)))), ST I J) := by
  have loop : ∀ k i, nc - i = k → i ≤ nc → pm_Go d m_D_countBuffers 7 [some (.ref 1), some (.int (nI (fo (fun a i => a + ex i) nc i))), some (.int (nI i))] [] 0 0 (ST I J) (.inl (some (.int (nI (fo (fun a i => a + ex i) nc nc)))), ST I J) := by
    intro k
    induction k with
    | zero =>
      intro i hk hi
      have : i = nc := by omega
      subst this
      refine go_iload_n d_D_countBuffers_7 rfl ?_
      refine go_aload_n d_D_countBuffers_8 rfl ?_
      refine go_gI (j := 1) (nI i) d_D_countBuffers_9 (Nat.le_of_ble_eq_true rfl) rfl pc_D (Nat.le_of_ble_eq_true rfl) (by decide) w_37 hc ?_
      refine go_icmp_ge (tgt := 30) d_D_countBuffers_12 (by decide) (fun z => ?_) (fun z => absurd (nI_le (Nat.le_refl i) (by omega)) z)
      refine go_iload_n d_D_countBuffers_30 rfl ?_
      exact go_ireturn (st := []) d_D_countBuffers_31 rfl (Nat.le_of_ble_eq_true rfl) (Nat.le_of_ble_eq_true rfl) rfl
    | succ k ih =>
      intro i hk hi
      refine go_iload_n d_D_countBuffers_7 rfl ?_
      refine go_aload_n d_D_countBuffers_8 rfl ?_
      refine go_gI (j := 1) (nI nc) d_D_countBuffers_9 (Nat.le_of_ble_eq_true rfl) rfl pc_D (Nat.le_of_ble_eq_true rfl) (by decide) w_37 hc ?_
      refine go_icmp_ge (tgt := 30) d_D_countBuffers_12 (by decide) (fun z => absurd z (nI_ge (by omega) (by omega))) (fun z => ?_)
      refine go_iload_n d_D_countBuffers_15 rfl ?_
      refine go_aload_n d_D_countBuffers_16 rfl ?_
      refine go_getP (j := 9) d_D_countBuffers_17 (Nat.le_of_ble_eq_true rfl) rfl pc_D (Nat.le_of_ble_eq_true rfl) rfl w_59 pt_D_9 ?_
      refine go_iload_n d_D_countBuffers_20 rfl ?_
      refine go_ald i (nI (ex i)) d_D_countBuffers_21 (Nat.le_of_ble_eq_true rfl) rfl rfl (by omega) (by decide) (hex i (by omega)) ?_
      refine go_iadd d_D_countBuffers_22 ?_
      refine go_top (nI (fo (fun a i => a + ex i) nc (i + 1))) (nI_add _ _) ?_
      refine go_istore_n d_D_countBuffers_23 (Nat.le_of_ble_eq_true rfl) rfl ?_
      refine go_iinc (v := nI (i + 1)) d_D_countBuffers_24 rfl (by first | rfl | exact nI_1 _) rfl ?_
      refine go_goto (tgt := 7) d_D_countBuffers_27 (by decide) ?_
      exact ih (i + 1) (by omega) (by omega)
  refine go_aload_n d_D_countBuffers_0 rfl ?_
  refine go_gI (j := 1) (nI nc) d_D_countBuffers_1 (Nat.le_of_ble_eq_true rfl) rfl pc_D (Nat.le_of_ble_eq_true rfl) (by decide) w_37 hc ?_
  refine go_istore_n d_D_countBuffers_4 (Nat.le_of_ble_eq_true rfl) rfl ?_
  refine go_iconst (v := 0) d_D_countBuffers_5 (by decide) ?_
  refine go_istore_n d_D_countBuffers_6 (Nat.le_of_ble_eq_true rfl) rfl ?_
  exact loop nc 0 (by omega) (by omega)
end S2
