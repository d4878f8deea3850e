/-! the reference: channel, input, output, buffers -/
section S26
variable {d : Nat} {I : Nat → Nat → Int32} {J : Nat → Nat → Int64} {D : DZ}
theorem sp_M_channelN {a b c : Int32} (h : I 69 1 = 1) : pm_Go (d + 1) m_M_channel 0 [some (.ref 69), some (.int a), some (.int b), some (.int c)] [] 0 0 (ST I J) (.inl (some (.int 0)), ST (pm_uI I 69 0 1) J) := by
  refine go_aload_n d_M_channel_0 rfl ?_
  refine go_aload_n d_M_channel_1 rfl ?_
  refine go_gI (j := 1) (1) d_M_channel_2 (Nat.le_of_ble_eq_true rfl) rfl pc_M (Nat.le_of_ble_eq_true rfl) (by decide) w_703 h ?_
  refine go_if_eq (tgt := 12) d_M_channel_5 (by decide) (fun z => absurd z (by decide)) (fun z => ?_)
  refine go_iconst (v := 1) d_M_channel_8 (by decide) ?_
  refine go_goto (tgt := 33) d_M_channel_9 (by decide) ?_
  refine go_pI (j := 0) d_M_channel_33 (Nat.le_of_ble_eq_true rfl) rfl pc_M (Nat.le_of_ble_eq_true rfl) (by decide) w_702 rfl (Or.inl rfl) ?_
  refine go_aload_n d_M_channel_36 rfl ?_
  refine go_gI (j := 0) (1) d_M_channel_37 (Nat.le_of_ble_eq_true rfl) rfl pc_M (Nat.le_of_ble_eq_true rfl) (by decide) w_702 rfl ?_
  refine go_if_le (tgt := 45) d_M_channel_40 (by decide) (fun z => absurd z (by decide)) (fun z => ?_)
  refine go_iconst (v := 0) d_M_channel_43 (by decide) ?_
  exact go_ireturn (st := []) d_M_channel_44 rfl (Nat.le_of_ble_eq_true rfl) (Nat.le_of_ble_eq_true rfl) rfl
theorem sp_M_channelX {a b c : Int32} (h : I 69 1 = 0) (hD : DW D) (rM : RMD I D) (hx : ¬ okN a D.nb ∨ ¬ okN b D.nb) : pm_Go (d + 1) m_M_channel 0 [some (.ref 69), some (.int a), some (.int b), some (.int c)] [] 0 0 (ST I J) (.inl (some (.int 0)), ST (pm_uI I 69 0 2) J) := by
  have hb10 := hD.nb
  refine go_aload_n d_M_channel_0 rfl ?_
  refine go_aload_n d_M_channel_1 rfl ?_
  refine go_gI (j := 1) (0) d_M_channel_2 (Nat.le_of_ble_eq_true rfl) rfl pc_M (Nat.le_of_ble_eq_true rfl) (by decide) w_703 h ?_
  refine go_if_eq (tgt := 12) d_M_channel_5 (by decide) (fun z => ?_) (fun z => absurd rfl z)
  refine go_aload_n d_M_channel_12 rfl ?_
  refine go_iload_n d_M_channel_13 rfl ?_
  by_cases ha : okN a D.nb
  · obtain ⟨k, hk, e⟩ := ha
    have hx2 : ¬ okN b D.nb := hx.resolve_left (fun z => z ⟨k, hk, e⟩)
    subst e
    refine go_callV (k2 := m_M_noBlock) (As := [.int (nI k)]) (r := some (.int 0)) d_M_channel_14 ok_M_noBlock (Nat.le_of_ble_eq_true rfl) rfl pc_M rfl vl_M_121 rfl rfl (Nat.le_of_ble_eq_true rfl) (Nat.le_of_ble_eq_true rfl) (Nat.le_of_ble_eq_true rfl) (Nat.le_of_ble_eq_true rfl) rfl rfl (sp_noBlockN rM.nb (by omega) hk) ?_
    refine go_if_ne (tgt := 28) d_M_channel_17 (by decide) (fun z => absurd rfl z) (fun z => ?_)
    refine go_aload_n d_M_channel_20 rfl ?_
    refine go_iload_n d_M_channel_21 rfl ?_
    refine go_callV (k2 := m_M_noBlock) (As := [.int b]) (r := some (.int 1)) d_M_channel_22 ok_M_noBlock (Nat.le_of_ble_eq_true rfl) rfl pc_M rfl vl_M_121 rfl rfl (Nat.le_of_ble_eq_true rfl) (Nat.le_of_ble_eq_true rfl) (Nat.le_of_ble_eq_true rfl) (Nat.le_of_ble_eq_true rfl) rfl rfl (sp_noBlockY rM.nb (by omega) hx2) ?_
    refine go_if_eq (tgt := 32) d_M_channel_25 (by decide) (fun z => absurd z (by decide)) (fun z => ?_)
    refine go_iconst (v := 2) d_M_channel_28 (by decide) ?_
    refine go_goto (tgt := 33) d_M_channel_29 (by decide) ?_
    refine go_pI (j := 0) d_M_channel_33 (Nat.le_of_ble_eq_true rfl) rfl pc_M (Nat.le_of_ble_eq_true rfl) (by decide) w_702 rfl (Or.inl rfl) ?_
    refine go_aload_n d_M_channel_36 rfl ?_
    refine go_gI (j := 0) (2) d_M_channel_37 (Nat.le_of_ble_eq_true rfl) rfl pc_M (Nat.le_of_ble_eq_true rfl) (by decide) w_702 rfl ?_
    refine go_if_le (tgt := 45) d_M_channel_40 (by decide) (fun z => absurd z (by decide)) (fun z => ?_)
    refine go_iconst (v := 0) d_M_channel_43 (by decide) ?_
    exact go_ireturn (st := []) d_M_channel_44 rfl (Nat.le_of_ble_eq_true rfl) (Nat.le_of_ble_eq_true rfl) rfl
  · refine go_callV (k2 := m_M_noBlock) (As := [.int a]) (r := some (.int 1)) d_M_channel_14 ok_M_noBlock (Nat.le_of_ble_eq_true rfl) rfl pc_M rfl vl_M_121 rfl rfl (Nat.le_of_ble_eq_true rfl) (Nat.le_of_ble_eq_true rfl) (Nat.le_of_ble_eq_true rfl) (Nat.le_of_ble_eq_true rfl) rfl rfl (sp_noBlockY rM.nb (by omega) ha) ?_
    refine go_if_ne (tgt := 28) d_M_channel_17 (by decide) (fun z => ?_) (fun z => absurd z (by decide))
    refine go_iconst (v := 2) d_M_channel_28 (by decide) ?_
    refine go_goto (tgt := 33) d_M_channel_29 (by decide) ?_
    refine go_pI (j := 0) d_M_channel_33 (Nat.le_of_ble_eq_true rfl) rfl pc_M (Nat.le_of_ble_eq_true rfl) (by decide) w_702 rfl (Or.inl rfl) ?_
    refine go_aload_n d_M_channel_36 rfl ?_
    refine go_gI (j := 0) (2) d_M_channel_37 (Nat.le_of_ble_eq_true rfl) rfl pc_M (Nat.le_of_ble_eq_true rfl) (by decide) w_702 rfl ?_
    refine go_if_le (tgt := 45) d_M_channel_40 (by decide) (fun z => absurd z (by decide)) (fun z => ?_)
    refine go_iconst (v := 0) d_M_channel_43 (by decide) ?_
    exact go_ireturn (st := []) d_M_channel_44 rfl (Nat.le_of_ble_eq_true rfl) (Nat.le_of_ble_eq_true rfl) rfl
theorem sp_M_channelF {f t : Nat} {c : Int32} (h : I 69 1 = 0) (hD : DW D) (rM : RMD I D) (hf : f < D.nb) (ht : t < D.nb) (hn : D.nc = 20) : pm_Go (d + 1) m_M_channel 0 [some (.ref 69), some (.int (nI f)), some (.int (nI t)), some (.int c)] [] 0 0 (ST I J) (.inl (some (.int (-1))), ST (pm_uI I 69 0 0) J) := by
  have hb10 := hD.nb
  have e5 := rM.nc
  rw [hn] at e5
  refine go_aload_n d_M_channel_0 rfl ?_
  refine go_aload_n d_M_channel_1 rfl ?_
  refine go_gI (j := 1) (0) d_M_channel_2 (Nat.le_of_ble_eq_true rfl) rfl pc_M (Nat.le_of_ble_eq_true rfl) (by decide) w_703 h ?_
  refine go_if_eq (tgt := 12) d_M_channel_5 (by decide) (fun z => ?_) (fun z => absurd rfl z)
  refine go_aload_n d_M_channel_12 rfl ?_
  refine go_iload_n d_M_channel_13 rfl ?_
  refine go_callV (k2 := m_M_noBlock) (As := [.int (nI f)]) (r := some (.int 0)) d_M_channel_14 ok_M_noBlock (Nat.le_of_ble_eq_true rfl) rfl pc_M rfl vl_M_121 rfl rfl (Nat.le_of_ble_eq_true rfl) (Nat.le_of_ble_eq_true rfl) (Nat.le_of_ble_eq_true rfl) (Nat.le_of_ble_eq_true rfl) rfl rfl (sp_noBlockN rM.nb (by omega) hf) ?_
  refine go_if_ne (tgt := 28) d_M_channel_17 (by decide) (fun z => absurd rfl z) (fun z => ?_)
  refine go_aload_n d_M_channel_20 rfl ?_
  refine go_iload_n d_M_channel_21 rfl ?_
  refine go_callV (k2 := m_M_noBlock) (As := [.int (nI t)]) (r := some (.int 0)) d_M_channel_22 ok_M_noBlock (Nat.le_of_ble_eq_true rfl) rfl pc_M rfl vl_M_121 rfl rfl (Nat.le_of_ble_eq_true rfl) (Nat.le_of_ble_eq_true rfl) (Nat.le_of_ble_eq_true rfl) (Nat.le_of_ble_eq_true rfl) rfl rfl (sp_noBlockN rM.nb (by omega) ht) ?_
  refine go_if_eq (tgt := 32) d_M_channel_25 (by decide) (fun z => ?_) (fun z => absurd rfl z)
  refine go_iconst (v := 0) d_M_channel_32 (by decide) ?_
  refine go_pI (j := 0) d_M_channel_33 (Nat.le_of_ble_eq_true rfl) rfl pc_M (Nat.le_of_ble_eq_true rfl) (by decide) w_702 rfl (Or.inl rfl) ?_
  refine go_aload_n d_M_channel_36 rfl ?_
  refine go_gI (j := 0) (0) d_M_channel_37 (Nat.le_of_ble_eq_true rfl) rfl pc_M (Nat.le_of_ble_eq_true rfl) (by decide) w_702 rfl ?_
  refine go_if_le (tgt := 45) d_M_channel_40 (by decide) (fun z => ?_) (fun z => absurd (show (0 : Int32) ≤ 0 by decide) z)
  refine go_aload_n d_M_channel_45 rfl ?_
  refine go_gI (j := 5) (nI 20) d_M_channel_46 (Nat.le_of_ble_eq_true rfl) rfl pc_M (Nat.le_of_ble_eq_true rfl) (by decide) w_707 e5 ?_
  refine go_bipush (v := 20) d_M_channel_49 (by decide) ?_
  refine go_icmp_ne (tgt := 56) d_M_channel_51 (by decide) (fun z => absurd rfl z) (fun z => ?_)
  refine go_iconst (v := -1) d_M_channel_54 (by decide) ?_
  exact go_ireturn (st := []) d_M_channel_55 rfl (Nat.le_of_ble_eq_true rfl) (Nat.le_of_ble_eq_true rfl) rfl
theorem sq_last {l : List Nat} {x : Nat} : (l ++ [x])[l.length]? = some x := by simp
theorem sq_old {l : List Nat} {x t y : Nat} (h : l[t]? = some y) : (l ++ [x])[t]? = some y := by
  rw [List.getElem?_append_left (List.getElem?_eq_some_iff.mp h).1]
  exact h
theorem sp_M_channelY {f t : Nat} {c : Int32} (h : I 69 1 = 0) (hD : DW D) (rM : RMD I D) (hf : f < D.nb) (ht : t < D.nb) (hn : D.nc < 20) : ∃ I', pm_Go (d + 1) m_M_channel 0 [some (.ref 69), some (.int (nI f)), some (.int (nI t)), some (.int c)] [] 0 0 (ST I J) (.inl (some (.int (nI D.nc))), ST I' J) ∧ RMD I' (chD D f t c) ∧ I' 69 0 = 0 ∧ I' 69 1 = 0 ∧ fr [69, 72, 73, 74, 75, 76] I I' := by
  have hb10 := hD.nb
  have e5 := rM.nc
  have e17 := rM.ad
  refine ⟨pm_uI (pm_uI (pm_uI (pm_uI (pm_uI (pm_uI (pm_uI (pm_uI I 69 0 0) 72 D.nc (nI f)) 73 D.nc (nI t)) 74 D.nc c) 75 D.nc 0) 76 D.nc (nI D.sq.length)) 69 17 (nI (D.sq.length + 1))) 69 5 (nI (D.nc + 1)), ?_, ?_, ?_, ?_, ?_⟩
  · refine go_aload_n d_M_channel_0 rfl ?_
    refine go_aload_n d_M_channel_1 rfl ?_
    refine go_gI (j := 1) (0) d_M_channel_2 (Nat.le_of_ble_eq_true rfl) rfl pc_M (Nat.le_of_ble_eq_true rfl) (by decide) w_703 h ?_
    refine go_if_eq (tgt := 12) d_M_channel_5 (by decide) (fun z => ?_) (fun z => absurd rfl z)
    refine go_aload_n d_M_channel_12 rfl ?_
    refine go_iload_n d_M_channel_13 rfl ?_
    refine go_callV (k2 := m_M_noBlock) (As := [.int (nI f)]) (r := some (.int 0)) d_M_channel_14 ok_M_noBlock (Nat.le_of_ble_eq_true rfl) rfl pc_M rfl vl_M_121 rfl rfl (Nat.le_of_ble_eq_true rfl) (Nat.le_of_ble_eq_true rfl) (Nat.le_of_ble_eq_true rfl) (Nat.le_of_ble_eq_true rfl) rfl rfl (sp_noBlockN rM.nb (by omega) hf) ?_
    refine go_if_ne (tgt := 28) d_M_channel_17 (by decide) (fun z => absurd rfl z) (fun z => ?_)
    refine go_aload_n d_M_channel_20 rfl ?_
    refine go_iload_n d_M_channel_21 rfl ?_
    refine go_callV (k2 := m_M_noBlock) (As := [.int (nI t)]) (r := some (.int 0)) d_M_channel_22 ok_M_noBlock (Nat.le_of_ble_eq_true rfl) rfl pc_M rfl vl_M_121 rfl rfl (Nat.le_of_ble_eq_true rfl) (Nat.le_of_ble_eq_true rfl) (Nat.le_of_ble_eq_true rfl) (Nat.le_of_ble_eq_true rfl) rfl rfl (sp_noBlockN rM.nb (by omega) ht) ?_
    refine go_if_eq (tgt := 32) d_M_channel_25 (by decide) (fun z => ?_) (fun z => absurd rfl z)
    refine go_iconst (v := 0) d_M_channel_32 (by decide) ?_
    refine go_pI (j := 0) d_M_channel_33 (Nat.le_of_ble_eq_true rfl) rfl pc_M (Nat.le_of_ble_eq_true rfl) (by decide) w_702 rfl (Or.inl rfl) ?_
    refine go_aload_n d_M_channel_36 rfl ?_
    refine go_gI (j := 0) (0) d_M_channel_37 (Nat.le_of_ble_eq_true rfl) rfl pc_M (Nat.le_of_ble_eq_true rfl) (by decide) w_702 rfl ?_
    refine go_if_le (tgt := 45) d_M_channel_40 (by decide) (fun z => ?_) (fun z => absurd (show (0 : Int32) ≤ 0 by decide) z)
    refine go_aload_n d_M_channel_45 rfl ?_
    refine go_gI (j := 5) (nI D.nc) d_M_channel_46 (Nat.le_of_ble_eq_true rfl) rfl pc_M (Nat.le_of_ble_eq_true rfl) (by decide) w_707 e5 ?_
    refine go_bipush (v := 20) d_M_channel_49 (by decide) ?_
    refine go_icmp_ne (tgt := 56) d_M_channel_51 (by decide) (fun z => ?_) (fun z => absurd z (nI_neq (b := 20) (by omega) (by decide) (by omega)))
    refine go_aload_n d_M_channel_56 rfl ?_
    refine go_getP (j := 6) d_M_channel_57 (Nat.le_of_ble_eq_true rfl) rfl pc_M (Nat.le_of_ble_eq_true rfl) rfl w_708 pt_M_6 ?_
    refine go_aload_n d_M_channel_60 rfl ?_
    refine go_gI (j := 5) (nI D.nc) d_M_channel_61 (Nat.le_of_ble_eq_true rfl) rfl pc_M (Nat.le_of_ble_eq_true rfl) (by decide) w_707 e5 ?_
    refine go_iload_n d_M_channel_64 rfl ?_
    refine go_ast D.nc d_M_channel_65 (Nat.le_of_ble_eq_true rfl) rfl rfl hn (by decide) ?_
    refine go_aload_n d_M_channel_66 rfl ?_
    refine go_getP (j := 7) d_M_channel_67 (Nat.le_of_ble_eq_true rfl) rfl pc_M (Nat.le_of_ble_eq_true rfl) rfl w_709 pt_M_7 ?_
    refine go_aload_n d_M_channel_70 rfl ?_
    refine go_gI (j := 5) (nI D.nc) d_M_channel_71 (Nat.le_of_ble_eq_true rfl) rfl pc_M (Nat.le_of_ble_eq_true rfl) (by decide) w_707 e5 ?_
    refine go_iload_n d_M_channel_74 rfl ?_
    refine go_ast D.nc d_M_channel_75 (Nat.le_of_ble_eq_true rfl) rfl rfl hn (by decide) ?_
    refine go_aload_n d_M_channel_76 rfl ?_
    refine go_getP (j := 8) d_M_channel_77 (Nat.le_of_ble_eq_true rfl) rfl pc_M (Nat.le_of_ble_eq_true rfl) rfl w_710 pt_M_8 ?_
    refine go_aload_n d_M_channel_80 rfl ?_
    refine go_gI (j := 5) (nI D.nc) d_M_channel_81 (Nat.le_of_ble_eq_true rfl) rfl pc_M (Nat.le_of_ble_eq_true rfl) (by decide) w_707 e5 ?_
    refine go_iload_n d_M_channel_84 rfl ?_
    refine go_ast D.nc d_M_channel_85 (Nat.le_of_ble_eq_true rfl) rfl rfl hn (by decide) ?_
    refine go_aload_n d_M_channel_86 rfl ?_
    refine go_getP (j := 9) d_M_channel_87 (Nat.le_of_ble_eq_true rfl) rfl pc_M (Nat.le_of_ble_eq_true rfl) rfl w_711 pt_M_9 ?_
    refine go_aload_n d_M_channel_90 rfl ?_
    refine go_gI (j := 5) (nI D.nc) d_M_channel_91 (Nat.le_of_ble_eq_true rfl) rfl pc_M (Nat.le_of_ble_eq_true rfl) (by decide) w_707 e5 ?_
    refine go_iconst (v := 0) d_M_channel_94 (by decide) ?_
    refine go_ast D.nc d_M_channel_95 (Nat.le_of_ble_eq_true rfl) rfl rfl hn (by decide) ?_
    refine go_aload_n d_M_channel_96 rfl ?_
    refine go_getP (j := 10) d_M_channel_97 (Nat.le_of_ble_eq_true rfl) rfl pc_M (Nat.le_of_ble_eq_true rfl) rfl w_712 pt_M_10 ?_
    refine go_aload_n d_M_channel_100 rfl ?_
    refine go_gI (j := 5) (nI D.nc) d_M_channel_101 (Nat.le_of_ble_eq_true rfl) rfl pc_M (Nat.le_of_ble_eq_true rfl) (by decide) w_707 e5 ?_
    refine go_aload_n d_M_channel_104 rfl ?_
    refine go_gI (j := 17) (nI D.sq.length) d_M_channel_105 (Nat.le_of_ble_eq_true rfl) rfl pc_M (Nat.le_of_ble_eq_true rfl) (by decide) w_719 e17 ?_
    refine go_ast D.nc d_M_channel_108 (Nat.le_of_ble_eq_true rfl) rfl rfl hn (by decide) ?_
    refine go_aload_n d_M_channel_109 rfl ?_
    refine go_dup d_M_channel_110 rfl ?_
    refine go_gI (j := 17) (nI D.sq.length) d_M_channel_111 (Nat.le_of_ble_eq_true rfl) rfl pc_M (Nat.le_of_ble_eq_true rfl) (by decide) w_719 e17 ?_
    refine go_iconst (v := 1) d_M_channel_114 (by decide) ?_
    refine go_iadd d_M_channel_115 ?_
    refine go_top (nI (D.sq.length + 1)) (nI_1 _) ?_
    refine go_pI (j := 17) d_M_channel_116 (Nat.le_of_ble_eq_true rfl) rfl pc_M (Nat.le_of_ble_eq_true rfl) (by decide) w_719 rfl (Or.inl rfl) ?_
    refine go_aload_n d_M_channel_119 rfl ?_
    refine go_dup d_M_channel_120 rfl ?_
    refine go_gI (j := 5) (nI D.nc) d_M_channel_121 (Nat.le_of_ble_eq_true rfl) rfl pc_M (Nat.le_of_ble_eq_true rfl) (by decide) w_707 e5 ?_
    refine go_iconst (v := 1) d_M_channel_124 (by decide) ?_
    refine go_iadd d_M_channel_125 ?_
    refine go_top (nI (D.nc + 1)) (nI_1 _) ?_
    refine go_pI (j := 5) d_M_channel_126 (Nat.le_of_ble_eq_true rfl) rfl pc_M (Nat.le_of_ble_eq_true rfl) (by decide) w_707 rfl (Or.inl rfl) ?_
    refine go_aload_n d_M_channel_129 rfl ?_
    refine go_gI (j := 5) (nI (D.nc + 1)) d_M_channel_130 (Nat.le_of_ble_eq_true rfl) rfl pc_M (Nat.le_of_ble_eq_true rfl) (by decide) w_707 rfl ?_
    refine go_iconst (v := 1) d_M_channel_133 (by decide) ?_
    refine go_isub d_M_channel_134 ?_
    refine go_top (nI D.nc) (nI_pred _) ?_
    exact go_ireturn (st := []) d_M_channel_135 rfl (Nat.le_of_ble_eq_true rfl) (Nat.le_of_ble_eq_true rfl) rfl
  · generalize hI : pm_uI (pm_uI (pm_uI (pm_uI (pm_uI (pm_uI (pm_uI (pm_uI I 69 0 0) 72 D.nc (nI f)) 73 D.nc (nI t)) 74 D.nc c) 75 D.nc 0) 76 D.nc (nI D.sq.length)) 69 17 (nI (D.sq.length + 1))) 69 5 (nI (D.nc + 1)) = I'
    have at1 : ∀ c' j, I' c' j = if c' = 69 ∧ j = 5 then nI (D.nc + 1) else if c' = 69 ∧ j = 17 then nI (D.sq.length + 1) else if c' = 76 ∧ j = D.nc then nI D.sq.length else if c' = 75 ∧ j = D.nc then 0 else if c' = 74 ∧ j = D.nc then c else if c' = 73 ∧ j = D.nc then nI t else if c' = 72 ∧ j = D.nc then nI f else if c' = 69 ∧ j = 0 then 0 else I c' j := by
      intro c' j
      rw [← hI]
      simp only [uI_at]
    refine RMD.mk ?_ ?_ ?_ ?_ ?_ ?_ ?_ ?_ ?_
    · rw [at1]; (repeat rw [if_neg (by omega)]); exact rM.nb
    · rw [at1, if_pos ⟨rfl, rfl⟩]; rfl
    · rw [at1]; (repeat rw [if_neg (by omega)]); exact rM.ni
    · rw [at1]; (repeat rw [if_neg (by omega)]); exact rM.no
    · rw [at1, if_neg (by omega), if_pos ⟨rfl, rfl⟩]
      show _ = nI (D.sq ++ [D.nc]).length
      rw [List.length_append]; rfl
    · intro j hj
      rw [at1, at1]; (repeat rw [if_neg (by omega)]); exact rM.bl j hj
    · intro q hq
      have hq2 : q < D.nc + 1 := hq
      show I' 72 q = nI (ra_fu D.fm D.nc f q) ∧ I' 73 q = nI (ra_fu D.to D.nc t q) ∧ I' 74 q = ra_fu D.fs D.nc c q ∧ I' 75 q = nI (ra_fu D.ex D.nc 0 q) ∧ ∃ t, (D.sq ++ [D.nc])[t]? = some q ∧ I' 76 q = nI t
      by_cases e : q = D.nc
      · subst e
        rw [fu_eq, fu_eq, fu_eq, fu_eq]
        refine ⟨?_, ?_, ?_, ?_, D.sq.length, sq_last, ?_⟩
        · rw [at1]; (repeat rw [if_neg (by omega)]); rw [if_pos ⟨rfl, rfl⟩]
        · rw [at1]; (repeat rw [if_neg (by omega)]); rw [if_pos ⟨rfl, rfl⟩]
        · rw [at1]; (repeat rw [if_neg (by omega)]); rw [if_pos ⟨rfl, rfl⟩]
        · rw [at1]; (repeat rw [if_neg (by omega)]); rw [if_pos ⟨rfl, rfl⟩]; rfl
        · rw [at1]; (repeat rw [if_neg (by omega)]); rw [if_pos ⟨rfl, rfl⟩]
      · obtain ⟨g1, g2, g3, g4, tt, g5, g6⟩ := rM.ch q (by omega)
        rw [fu_lt (by omega), fu_lt (by omega), fu_lt (by omega), fu_lt (by omega), at1, at1, at1, at1, at1]
        (repeat rw [if_neg (by omega)])
        exact ⟨g1, g2, g3, g4, tt, sq_old g5, g6⟩
    · intro q hq
      obtain ⟨g1, tt, g5, g6⟩ := rM.ip q hq
      rw [at1, at1]; (repeat rw [if_neg (by omega)]); exact ⟨g1, tt, sq_old g5, g6⟩
    · intro q hq
      obtain ⟨g1, tt, g5, g6⟩ := rM.ot q hq
      rw [at1, at1]; (repeat rw [if_neg (by omega)]); exact ⟨g1, tt, sq_old g5, g6⟩
  · rfl
  · exact h
  · exact (((((((fr.uI (by decide)).tr (fr.uI (by decide))).tr (fr.uI (by decide))).tr (fr.uI (by decide))).tr (fr.uI (by decide))).tr (fr.uI (by decide))).tr (fr.uI (by decide))).tr (fr.uI (by decide))
theorem sp_M_inputN {a : Int32} (h : I 69 1 = 1) : pm_Go (d + 1) m_M_input 0 [some (.ref 69), some (.int a)] [] 0 0 (ST I J) (.inl (some (.int 0)), ST (pm_uI I 69 0 1) J) := by
  refine go_aload_n d_M_input_0 rfl ?_
  refine go_aload_n d_M_input_1 rfl ?_
  refine go_gI (j := 1) (1) d_M_input_2 (Nat.le_of_ble_eq_true rfl) rfl pc_M (Nat.le_of_ble_eq_true rfl) (by decide) w_703 h ?_
  refine go_if_eq (tgt := 12) d_M_input_5 (by decide) (fun z => absurd z (by decide)) (fun z => ?_)
  refine go_iconst (v := 1) d_M_input_8 (by decide) ?_
  refine go_goto (tgt := 25) d_M_input_9 (by decide) ?_
  refine go_pI (j := 0) d_M_input_25 (Nat.le_of_ble_eq_true rfl) rfl pc_M (Nat.le_of_ble_eq_true rfl) (by decide) w_702 rfl (Or.inl rfl) ?_
  refine go_aload_n d_M_input_28 rfl ?_
  refine go_gI (j := 0) (1) d_M_input_29 (Nat.le_of_ble_eq_true rfl) rfl pc_M (Nat.le_of_ble_eq_true rfl) (by decide) w_702 rfl ?_
  refine go_if_le (tgt := 37) d_M_input_32 (by decide) (fun z => absurd z (by decide)) (fun z => ?_)
  refine go_iconst (v := 0) d_M_input_35 (by decide) ?_
  exact go_ireturn (st := []) d_M_input_36 rfl (Nat.le_of_ble_eq_true rfl) (Nat.le_of_ble_eq_true rfl) rfl
theorem sp_M_inputX {a : Int32} (h : I 69 1 = 0) (hD : DW D) (rM : RMD I D) (hx : ¬ okN a D.nb) : pm_Go (d + 1) m_M_input 0 [some (.ref 69), some (.int a)] [] 0 0 (ST I J) (.inl (some (.int 0)), ST (pm_uI I 69 0 2) J) := by
  have hb10 := hD.nb
  refine go_aload_n d_M_input_0 rfl ?_
  refine go_aload_n d_M_input_1 rfl ?_
  refine go_gI (j := 1) (0) d_M_input_2 (Nat.le_of_ble_eq_true rfl) rfl pc_M (Nat.le_of_ble_eq_true rfl) (by decide) w_703 h ?_
  refine go_if_eq (tgt := 12) d_M_input_5 (by decide) (fun z => ?_) (fun z => absurd rfl z)
  refine go_aload_n d_M_input_12 rfl ?_
  refine go_iload_n d_M_input_13 rfl ?_
  refine go_callV (k2 := m_M_noBlock) (As := [.int a]) (r := some (.int 1)) d_M_input_14 ok_M_noBlock (Nat.le_of_ble_eq_true rfl) rfl pc_M rfl vl_M_121 rfl rfl (Nat.le_of_ble_eq_true rfl) (Nat.le_of_ble_eq_true rfl) (Nat.le_of_ble_eq_true rfl) (Nat.le_of_ble_eq_true rfl) rfl rfl (sp_noBlockY rM.nb (by omega) hx) ?_
  refine go_if_eq (tgt := 24) d_M_input_17 (by decide) (fun z => absurd z (by decide)) (fun z => ?_)
  refine go_iconst (v := 2) d_M_input_20 (by decide) ?_
  refine go_goto (tgt := 25) d_M_input_21 (by decide) ?_
  refine go_pI (j := 0) d_M_input_25 (Nat.le_of_ble_eq_true rfl) rfl pc_M (Nat.le_of_ble_eq_true rfl) (by decide) w_702 rfl (Or.inl rfl) ?_
  refine go_aload_n d_M_input_28 rfl ?_
  refine go_gI (j := 0) (2) d_M_input_29 (Nat.le_of_ble_eq_true rfl) rfl pc_M (Nat.le_of_ble_eq_true rfl) (by decide) w_702 rfl ?_
  refine go_if_le (tgt := 37) d_M_input_32 (by decide) (fun z => absurd z (by decide)) (fun z => ?_)
  refine go_iconst (v := 0) d_M_input_35 (by decide) ?_
  exact go_ireturn (st := []) d_M_input_36 rfl (Nat.le_of_ble_eq_true rfl) (Nat.le_of_ble_eq_true rfl) rfl
theorem sp_M_inputF {t : Nat} (h : I 69 1 = 0) (hD : DW D) (rM : RMD I D) (ht : t < D.nb) (hn : D.ni = 4) : pm_Go (d + 1) m_M_input 0 [some (.ref 69), some (.int (nI t))] [] 0 0 (ST I J) (.inl (some (.int (-1))), ST (pm_uI I 69 0 0) J) := by
  have hb10 := hD.nb
  have e5 := rM.ni
  rw [hn] at e5
  refine go_aload_n d_M_input_0 rfl ?_
  refine go_aload_n d_M_input_1 rfl ?_
  refine go_gI (j := 1) (0) d_M_input_2 (Nat.le_of_ble_eq_true rfl) rfl pc_M (Nat.le_of_ble_eq_true rfl) (by decide) w_703 h ?_
  refine go_if_eq (tgt := 12) d_M_input_5 (by decide) (fun z => ?_) (fun z => absurd rfl z)
  refine go_aload_n d_M_input_12 rfl ?_
  refine go_iload_n d_M_input_13 rfl ?_
  refine go_callV (k2 := m_M_noBlock) (As := [.int (nI t)]) (r := some (.int 0)) d_M_input_14 ok_M_noBlock (Nat.le_of_ble_eq_true rfl) rfl pc_M rfl vl_M_121 rfl rfl (Nat.le_of_ble_eq_true rfl) (Nat.le_of_ble_eq_true rfl) (Nat.le_of_ble_eq_true rfl) (Nat.le_of_ble_eq_true rfl) rfl rfl (sp_noBlockN rM.nb (by omega) ht) ?_
  refine go_if_eq (tgt := 24) d_M_input_17 (by decide) (fun z => ?_) (fun z => absurd rfl z)
  refine go_iconst (v := 0) d_M_input_24 (by decide) ?_
  refine go_pI (j := 0) d_M_input_25 (Nat.le_of_ble_eq_true rfl) rfl pc_M (Nat.le_of_ble_eq_true rfl) (by decide) w_702 rfl (Or.inl rfl) ?_
  refine go_aload_n d_M_input_28 rfl ?_
  refine go_gI (j := 0) (0) d_M_input_29 (Nat.le_of_ble_eq_true rfl) rfl pc_M (Nat.le_of_ble_eq_true rfl) (by decide) w_702 rfl ?_
  refine go_if_le (tgt := 37) d_M_input_32 (by decide) (fun z => ?_) (fun z => absurd (show (0 : Int32) ≤ 0 by decide) z)
  refine go_aload_n d_M_input_37 rfl ?_
  refine go_gI (j := 11) (nI 4) d_M_input_38 (Nat.le_of_ble_eq_true rfl) rfl pc_M (Nat.le_of_ble_eq_true rfl) (by decide) w_713 e5 ?_
  refine go_iconst (v := 4) d_M_input_41 (by decide) ?_
  refine go_icmp_ne (tgt := 47) d_M_input_42 (by decide) (fun z => absurd rfl z) (fun z => ?_)
  refine go_iconst (v := -1) d_M_input_45 (by decide) ?_
  exact go_ireturn (st := []) d_M_input_46 rfl (Nat.le_of_ble_eq_true rfl) (Nat.le_of_ble_eq_true rfl) rfl
theorem sp_M_inputY {t : Nat} (h : I 69 1 = 0) (hD : DW D) (rM : RMD I D) (ht : t < D.nb) (hn : D.ni < 4) : ∃ I', pm_Go (d + 1) m_M_input 0 [some (.ref 69), some (.int (nI t))] [] 0 0 (ST I J) (.inl (some (.int (nI D.ni))), ST I' J) ∧ RMD I' (inD D t) ∧ I' 69 0 = 0 ∧ I' 69 1 = 0 ∧ fr [69, 77, 78] I I' := by
  have hb10 := hD.nb
  have e5 := rM.ni
  have e17 := rM.ad
  refine ⟨pm_uI (pm_uI (pm_uI (pm_uI (pm_uI I 69 0 0) 77 D.ni (nI t)) 78 D.ni (nI D.sq.length)) 69 17 (nI (D.sq.length + 1))) 69 11 (nI (D.ni + 1)), ?_, ?_, ?_, ?_, ?_⟩
  · refine go_aload_n d_M_input_0 rfl ?_
    refine go_aload_n d_M_input_1 rfl ?_
    refine go_gI (j := 1) (0) d_M_input_2 (Nat.le_of_ble_eq_true rfl) rfl pc_M (Nat.le_of_ble_eq_true rfl) (by decide) w_703 h ?_
    refine go_if_eq (tgt := 12) d_M_input_5 (by decide) (fun z => ?_) (fun z => absurd rfl z)
    refine go_aload_n d_M_input_12 rfl ?_
    refine go_iload_n d_M_input_13 rfl ?_
    refine go_callV (k2 := m_M_noBlock) (As := [.int (nI t)]) (r := some (.int 0)) d_M_input_14 ok_M_noBlock (Nat.le_of_ble_eq_true rfl) rfl pc_M rfl vl_M_121 rfl rfl (Nat.le_of_ble_eq_true rfl) (Nat.le_of_ble_eq_true rfl) (Nat.le_of_ble_eq_true rfl) (Nat.le_of_ble_eq_true rfl) rfl rfl (sp_noBlockN rM.nb (by omega) ht) ?_
    refine go_if_eq (tgt := 24) d_M_input_17 (by decide) (fun z => ?_) (fun z => absurd rfl z)
    refine go_iconst (v := 0) d_M_input_24 (by decide) ?_
    refine go_pI (j := 0) d_M_input_25 (Nat.le_of_ble_eq_true rfl) rfl pc_M (Nat.le_of_ble_eq_true rfl) (by decide) w_702 rfl (Or.inl rfl) ?_
    refine go_aload_n d_M_input_28 rfl ?_
    refine go_gI (j := 0) (0) d_M_input_29 (Nat.le_of_ble_eq_true rfl) rfl pc_M (Nat.le_of_ble_eq_true rfl) (by decide) w_702 rfl ?_
    refine go_if_le (tgt := 37) d_M_input_32 (by decide) (fun z => ?_) (fun z => absurd (show (0 : Int32) ≤ 0 by decide) z)
    refine go_aload_n d_M_input_37 rfl ?_
    refine go_gI (j := 11) (nI D.ni) d_M_input_38 (Nat.le_of_ble_eq_true rfl) rfl pc_M (Nat.le_of_ble_eq_true rfl) (by decide) w_713 e5 ?_
    refine go_iconst (v := 4) d_M_input_41 (by decide) ?_
    refine go_icmp_ne (tgt := 47) d_M_input_42 (by decide) (fun z => ?_) (fun z => absurd z (nI_neq (b := 4) (by omega) (by decide) (by omega)))
    refine go_aload_n d_M_input_47 rfl ?_
    refine go_getP (j := 12) d_M_input_48 (Nat.le_of_ble_eq_true rfl) rfl pc_M (Nat.le_of_ble_eq_true rfl) rfl w_714 pt_M_12 ?_
    refine go_aload_n d_M_input_51 rfl ?_
    refine go_gI (j := 11) (nI D.ni) d_M_input_52 (Nat.le_of_ble_eq_true rfl) rfl pc_M (Nat.le_of_ble_eq_true rfl) (by decide) w_713 e5 ?_
    refine go_iload_n d_M_input_55 rfl ?_
    refine go_ast D.ni d_M_input_56 (Nat.le_of_ble_eq_true rfl) rfl rfl hn (by decide) ?_
    refine go_aload_n d_M_input_57 rfl ?_
    refine go_getP (j := 13) d_M_input_58 (Nat.le_of_ble_eq_true rfl) rfl pc_M (Nat.le_of_ble_eq_true rfl) rfl w_715 pt_M_13 ?_
    refine go_aload_n d_M_input_61 rfl ?_
    refine go_gI (j := 11) (nI D.ni) d_M_input_62 (Nat.le_of_ble_eq_true rfl) rfl pc_M (Nat.le_of_ble_eq_true rfl) (by decide) w_713 e5 ?_
    refine go_aload_n d_M_input_65 rfl ?_
    refine go_gI (j := 17) (nI D.sq.length) d_M_input_66 (Nat.le_of_ble_eq_true rfl) rfl pc_M (Nat.le_of_ble_eq_true rfl) (by decide) w_719 e17 ?_
    refine go_ast D.ni d_M_input_69 (Nat.le_of_ble_eq_true rfl) rfl rfl hn (by decide) ?_
    refine go_aload_n d_M_input_70 rfl ?_
    refine go_dup d_M_input_71 rfl ?_
    refine go_gI (j := 17) (nI D.sq.length) d_M_input_72 (Nat.le_of_ble_eq_true rfl) rfl pc_M (Nat.le_of_ble_eq_true rfl) (by decide) w_719 e17 ?_
    refine go_iconst (v := 1) d_M_input_75 (by decide) ?_
    refine go_iadd d_M_input_76 ?_
    refine go_top (nI (D.sq.length + 1)) (nI_1 _) ?_
    refine go_pI (j := 17) d_M_input_77 (Nat.le_of_ble_eq_true rfl) rfl pc_M (Nat.le_of_ble_eq_true rfl) (by decide) w_719 rfl (Or.inl rfl) ?_
    refine go_aload_n d_M_input_80 rfl ?_
    refine go_dup d_M_input_81 rfl ?_
    refine go_gI (j := 11) (nI D.ni) d_M_input_82 (Nat.le_of_ble_eq_true rfl) rfl pc_M (Nat.le_of_ble_eq_true rfl) (by decide) w_713 e5 ?_
    refine go_iconst (v := 1) d_M_input_85 (by decide) ?_
    refine go_iadd d_M_input_86 ?_
    refine go_top (nI (D.ni + 1)) (nI_1 _) ?_
    refine go_pI (j := 11) d_M_input_87 (Nat.le_of_ble_eq_true rfl) rfl pc_M (Nat.le_of_ble_eq_true rfl) (by decide) w_713 rfl (Or.inl rfl) ?_
    refine go_aload_n d_M_input_90 rfl ?_
    refine go_gI (j := 11) (nI (D.ni + 1)) d_M_input_91 (Nat.le_of_ble_eq_true rfl) rfl pc_M (Nat.le_of_ble_eq_true rfl) (by decide) w_713 rfl ?_
    refine go_iconst (v := 1) d_M_input_94 (by decide) ?_
    refine go_isub d_M_input_95 ?_
    refine go_top (nI D.ni) (nI_pred _) ?_
    exact go_ireturn (st := []) d_M_input_96 rfl (Nat.le_of_ble_eq_true rfl) (Nat.le_of_ble_eq_true rfl) rfl
  · generalize hI : pm_uI (pm_uI (pm_uI (pm_uI (pm_uI I 69 0 0) 77 D.ni (nI t)) 78 D.ni (nI D.sq.length)) 69 17 (nI (D.sq.length + 1))) 69 11 (nI (D.ni + 1)) = I'
    have at1 : ∀ c' j, I' c' j = if c' = 69 ∧ j = 11 then nI (D.ni + 1) else if c' = 69 ∧ j = 17 then nI (D.sq.length + 1) else if c' = 78 ∧ j = D.ni then nI D.sq.length else if c' = 77 ∧ j = D.ni then nI t else if c' = 69 ∧ j = 0 then 0 else I c' j := by
      intro c' j
      rw [← hI]
      simp only [uI_at]
    refine RMD.mk ?_ ?_ ?_ ?_ ?_ ?_ ?_ ?_ ?_
    · rw [at1]; (repeat rw [if_neg (by omega)]); exact rM.nb
    · rw [at1]; (repeat rw [if_neg (by omega)]); exact rM.nc
    · rw [at1, if_pos ⟨rfl, rfl⟩]; rfl
    · rw [at1]; (repeat rw [if_neg (by omega)]); exact rM.no
    · rw [at1, if_neg (by omega), if_pos ⟨rfl, rfl⟩]
      show _ = nI (D.sq ++ [20 + D.ni]).length
      rw [List.length_append]; rfl
    · intro j hj
      rw [at1, at1]; (repeat rw [if_neg (by omega)]); exact rM.bl j hj
    · intro q hq
      obtain ⟨g1, g2, g3, g4, tt, g5, g6⟩ := rM.ch q hq
      rw [at1, at1, at1, at1, at1]; (repeat rw [if_neg (by omega)]); exact ⟨g1, g2, g3, g4, tt, sq_old g5, g6⟩
    · intro q hq
      have hq2 : q < D.ni + 1 := hq
      show I' 77 q = nI (ra_fu D.ito D.ni t q) ∧ ∃ tt, (D.sq ++ [20 + D.ni])[tt]? = some (20 + q) ∧ I' 78 q = nI tt
      by_cases e : q = D.ni
      · subst e
        rw [fu_eq]
        refine ⟨?_, D.sq.length, sq_last, ?_⟩
        · rw [at1]; (repeat rw [if_neg (by omega)]); rw [if_pos ⟨rfl, rfl⟩]
        · rw [at1]; (repeat rw [if_neg (by omega)]); rw [if_pos ⟨rfl, rfl⟩]
      · obtain ⟨g1, tt, g5, g6⟩ := rM.ip q (by omega)
        rw [fu_lt (by omega), at1, at1]; (repeat rw [if_neg (by omega)]); exact ⟨g1, tt, sq_old g5, g6⟩
    · intro q hq
      obtain ⟨g1, tt, g5, g6⟩ := rM.ot q hq
      rw [at1, at1]; (repeat rw [if_neg (by omega)]); exact ⟨g1, tt, sq_old g5, g6⟩
  · rfl
  · exact h
  · exact ((((fr.uI (by decide)).tr (fr.uI (by decide))).tr (fr.uI (by decide))).tr (fr.uI (by decide))).tr (fr.uI (by decide))
theorem sp_M_outputN {a : Int32} (h : I 69 1 = 1) : pm_Go (d + 1) m_M_output 0 [some (.ref 69), some (.int a)] [] 0 0 (ST I J) (.inl (some (.int 0)), ST (pm_uI I 69 0 1) J) := by
  refine go_aload_n d_M_output_0 rfl ?_
  refine go_aload_n d_M_output_1 rfl ?_
  refine go_gI (j := 1) (1) d_M_output_2 (Nat.le_of_ble_eq_true rfl) rfl pc_M (Nat.le_of_ble_eq_true rfl) (by decide) w_703 h ?_
  refine go_if_eq (tgt := 12) d_M_output_5 (by decide) (fun z => absurd z (by decide)) (fun z => ?_)
  refine go_iconst (v := 1) d_M_output_8 (by decide) ?_
  refine go_goto (tgt := 25) d_M_output_9 (by decide) ?_
  refine go_pI (j := 0) d_M_output_25 (Nat.le_of_ble_eq_true rfl) rfl pc_M (Nat.le_of_ble_eq_true rfl) (by decide) w_702 rfl (Or.inl rfl) ?_
  refine go_aload_n d_M_output_28 rfl ?_
  refine go_gI (j := 0) (1) d_M_output_29 (Nat.le_of_ble_eq_true rfl) rfl pc_M (Nat.le_of_ble_eq_true rfl) (by decide) w_702 rfl ?_
  refine go_if_le (tgt := 37) d_M_output_32 (by decide) (fun z => absurd z (by decide)) (fun z => ?_)
  refine go_iconst (v := 0) d_M_output_35 (by decide) ?_
  exact go_ireturn (st := []) d_M_output_36 rfl (Nat.le_of_ble_eq_true rfl) (Nat.le_of_ble_eq_true rfl) rfl
theorem sp_M_outputX {a : Int32} (h : I 69 1 = 0) (hD : DW D) (rM : RMD I D) (hx : ¬ okN a D.nb) : pm_Go (d + 1) m_M_output 0 [some (.ref 69), some (.int a)] [] 0 0 (ST I J) (.inl (some (.int 0)), ST (pm_uI I 69 0 2) J) := by
  have hb10 := hD.nb
  refine go_aload_n d_M_output_0 rfl ?_
  refine go_aload_n d_M_output_1 rfl ?_
  refine go_gI (j := 1) (0) d_M_output_2 (Nat.le_of_ble_eq_true rfl) rfl pc_M (Nat.le_of_ble_eq_true rfl) (by decide) w_703 h ?_
  refine go_if_eq (tgt := 12) d_M_output_5 (by decide) (fun z => ?_) (fun z => absurd rfl z)
  refine go_aload_n d_M_output_12 rfl ?_
  refine go_iload_n d_M_output_13 rfl ?_
  refine go_callV (k2 := m_M_noBlock) (As := [.int a]) (r := some (.int 1)) d_M_output_14 ok_M_noBlock (Nat.le_of_ble_eq_true rfl) rfl pc_M rfl vl_M_121 rfl rfl (Nat.le_of_ble_eq_true rfl) (Nat.le_of_ble_eq_true rfl) (Nat.le_of_ble_eq_true rfl) (Nat.le_of_ble_eq_true rfl) rfl rfl (sp_noBlockY rM.nb (by omega) hx) ?_
  refine go_if_eq (tgt := 24) d_M_output_17 (by decide) (fun z => absurd z (by decide)) (fun z => ?_)
  refine go_iconst (v := 2) d_M_output_20 (by decide) ?_
  refine go_goto (tgt := 25) d_M_output_21 (by decide) ?_
  refine go_pI (j := 0) d_M_output_25 (Nat.le_of_ble_eq_true rfl) rfl pc_M (Nat.le_of_ble_eq_true rfl) (by decide) w_702 rfl (Or.inl rfl) ?_
  refine go_aload_n d_M_output_28 rfl ?_
  refine go_gI (j := 0) (2) d_M_output_29 (Nat.le_of_ble_eq_true rfl) rfl pc_M (Nat.le_of_ble_eq_true rfl) (by decide) w_702 rfl ?_
  refine go_if_le (tgt := 37) d_M_output_32 (by decide) (fun z => absurd z (by decide)) (fun z => ?_)
  refine go_iconst (v := 0) d_M_output_35 (by decide) ?_
  exact go_ireturn (st := []) d_M_output_36 rfl (Nat.le_of_ble_eq_true rfl) (Nat.le_of_ble_eq_true rfl) rfl
theorem sp_M_outputF {t : Nat} (h : I 69 1 = 0) (hD : DW D) (rM : RMD I D) (ht : t < D.nb) (hn : D.no = 4) : pm_Go (d + 1) m_M_output 0 [some (.ref 69), some (.int (nI t))] [] 0 0 (ST I J) (.inl (some (.int (-1))), ST (pm_uI I 69 0 0) J) := by
  have hb10 := hD.nb
  have e5 := rM.no
  rw [hn] at e5
  refine go_aload_n d_M_output_0 rfl ?_
  refine go_aload_n d_M_output_1 rfl ?_
  refine go_gI (j := 1) (0) d_M_output_2 (Nat.le_of_ble_eq_true rfl) rfl pc_M (Nat.le_of_ble_eq_true rfl) (by decide) w_703 h ?_
  refine go_if_eq (tgt := 12) d_M_output_5 (by decide) (fun z => ?_) (fun z => absurd rfl z)
  refine go_aload_n d_M_output_12 rfl ?_
  refine go_iload_n d_M_output_13 rfl ?_
  refine go_callV (k2 := m_M_noBlock) (As := [.int (nI t)]) (r := some (.int 0)) d_M_output_14 ok_M_noBlock (Nat.le_of_ble_eq_true rfl) rfl pc_M rfl vl_M_121 rfl rfl (Nat.le_of_ble_eq_true rfl) (Nat.le_of_ble_eq_true rfl) (Nat.le_of_ble_eq_true rfl) (Nat.le_of_ble_eq_true rfl) rfl rfl (sp_noBlockN rM.nb (by omega) ht) ?_
  refine go_if_eq (tgt := 24) d_M_output_17 (by decide) (fun z => ?_) (fun z => absurd rfl z)
  refine go_iconst (v := 0) d_M_output_24 (by decide) ?_
  refine go_pI (j := 0) d_M_output_25 (Nat.le_of_ble_eq_true rfl) rfl pc_M (Nat.le_of_ble_eq_true rfl) (by decide) w_702 rfl (Or.inl rfl) ?_
  refine go_aload_n d_M_output_28 rfl ?_
  refine go_gI (j := 0) (0) d_M_output_29 (Nat.le_of_ble_eq_true rfl) rfl pc_M (Nat.le_of_ble_eq_true rfl) (by decide) w_702 rfl ?_
  refine go_if_le (tgt := 37) d_M_output_32 (by decide) (fun z => ?_) (fun z => absurd (show (0 : Int32) ≤ 0 by decide) z)
  refine go_aload_n d_M_output_37 rfl ?_
  refine go_gI (j := 14) (nI 4) d_M_output_38 (Nat.le_of_ble_eq_true rfl) rfl pc_M (Nat.le_of_ble_eq_true rfl) (by decide) w_716 e5 ?_
  refine go_iconst (v := 4) d_M_output_41 (by decide) ?_
  refine go_icmp_ne (tgt := 47) d_M_output_42 (by decide) (fun z => absurd rfl z) (fun z => ?_)
  refine go_iconst (v := -1) d_M_output_45 (by decide) ?_
  exact go_ireturn (st := []) d_M_output_46 rfl (Nat.le_of_ble_eq_true rfl) (Nat.le_of_ble_eq_true rfl) rfl
theorem sp_M_outputY {t : Nat} (h : I 69 1 = 0) (hD : DW D) (rM : RMD I D) (ht : t < D.nb) (hn : D.no < 4) : ∃ I', pm_Go (d + 1) m_M_output 0 [some (.ref 69), some (.int (nI t))] [] 0 0 (ST I J) (.inl (some (.int (nI D.no))), ST I' J) ∧ RMD I' (otD D t) ∧ I' 69 0 = 0 ∧ I' 69 1 = 0 ∧ fr [69, 79, 80] I I' := by
  have hb10 := hD.nb
  have e5 := rM.no
  have e17 := rM.ad
  refine ⟨pm_uI (pm_uI (pm_uI (pm_uI (pm_uI I 69 0 0) 79 D.no (nI t)) 80 D.no (nI D.sq.length)) 69 17 (nI (D.sq.length + 1))) 69 14 (nI (D.no + 1)), ?_, ?_, ?_, ?_, ?_⟩
  · refine go_aload_n d_M_output_0 rfl ?_
    refine go_aload_n d_M_output_1 rfl ?_
    refine go_gI (j := 1) (0) d_M_output_2 (Nat.le_of_ble_eq_true rfl) rfl pc_M (Nat.le_of_ble_eq_true rfl) (by decide) w_703 h ?_
    refine go_if_eq (tgt := 12) d_M_output_5 (by decide) (fun z => ?_) (fun z => absurd rfl z)
    refine go_aload_n d_M_output_12 rfl ?_
    refine go_iload_n d_M_output_13 rfl ?_
    refine go_callV (k2 := m_M_noBlock) (As := [.int (nI t)]) (r := some (.int 0)) d_M_output_14 ok_M_noBlock (Nat.le_of_ble_eq_true rfl) rfl pc_M rfl vl_M_121 rfl rfl (Nat.le_of_ble_eq_true rfl) (Nat.le_of_ble_eq_true rfl) (Nat.le_of_ble_eq_true rfl) (Nat.le_of_ble_eq_true rfl) rfl rfl (sp_noBlockN rM.nb (by omega) ht) ?_
    refine go_if_eq (tgt := 24) d_M_output_17 (by decide) (fun z => ?_) (fun z => absurd rfl z)
    refine go_iconst (v := 0) d_M_output_24 (by decide) ?_
    refine go_pI (j := 0) d_M_output_25 (Nat.le_of_ble_eq_true rfl) rfl pc_M (Nat.le_of_ble_eq_true rfl) (by decide) w_702 rfl (Or.inl rfl) ?_
    refine go_aload_n d_M_output_28 rfl ?_
    refine go_gI (j := 0) (0) d_M_output_29 (Nat.le_of_ble_eq_true rfl) rfl pc_M (Nat.le_of_ble_eq_true rfl) (by decide) w_702 rfl ?_
    refine go_if_le (tgt := 37) d_M_output_32 (by decide) (fun z => ?_) (fun z => absurd (show (0 : Int32) ≤ 0 by decide) z)
    refine go_aload_n d_M_output_37 rfl ?_
    refine go_gI (j := 14) (nI D.no) d_M_output_38 (Nat.le_of_ble_eq_true rfl) rfl pc_M (Nat.le_of_ble_eq_true rfl) (by decide) w_716 e5 ?_
    refine go_iconst (v := 4) d_M_output_41 (by decide) ?_
    refine go_icmp_ne (tgt := 47) d_M_output_42 (by decide) (fun z => ?_) (fun z => absurd z (nI_neq (b := 4) (by omega) (by decide) (by omega)))
    refine go_aload_n d_M_output_47 rfl ?_
    refine go_getP (j := 15) d_M_output_48 (Nat.le_of_ble_eq_true rfl) rfl pc_M (Nat.le_of_ble_eq_true rfl) rfl w_717 pt_M_15 ?_
    refine go_aload_n d_M_output_51 rfl ?_
    refine go_gI (j := 14) (nI D.no) d_M_output_52 (Nat.le_of_ble_eq_true rfl) rfl pc_M (Nat.le_of_ble_eq_true rfl) (by decide) w_716 e5 ?_
    refine go_iload_n d_M_output_55 rfl ?_
    refine go_ast D.no d_M_output_56 (Nat.le_of_ble_eq_true rfl) rfl rfl hn (by decide) ?_
    refine go_aload_n d_M_output_57 rfl ?_
    refine go_getP (j := 16) d_M_output_58 (Nat.le_of_ble_eq_true rfl) rfl pc_M (Nat.le_of_ble_eq_true rfl) rfl w_718 pt_M_16 ?_
    refine go_aload_n d_M_output_61 rfl ?_
    refine go_gI (j := 14) (nI D.no) d_M_output_62 (Nat.le_of_ble_eq_true rfl) rfl pc_M (Nat.le_of_ble_eq_true rfl) (by decide) w_716 e5 ?_
    refine go_aload_n d_M_output_65 rfl ?_
    refine go_gI (j := 17) (nI D.sq.length) d_M_output_66 (Nat.le_of_ble_eq_true rfl) rfl pc_M (Nat.le_of_ble_eq_true rfl) (by decide) w_719 e17 ?_
    refine go_ast D.no d_M_output_69 (Nat.le_of_ble_eq_true rfl) rfl rfl hn (by decide) ?_
    refine go_aload_n d_M_output_70 rfl ?_
    refine go_dup d_M_output_71 rfl ?_
    refine go_gI (j := 17) (nI D.sq.length) d_M_output_72 (Nat.le_of_ble_eq_true rfl) rfl pc_M (Nat.le_of_ble_eq_true rfl) (by decide) w_719 e17 ?_
    refine go_iconst (v := 1) d_M_output_75 (by decide) ?_
    refine go_iadd d_M_output_76 ?_
    refine go_top (nI (D.sq.length + 1)) (nI_1 _) ?_
    refine go_pI (j := 17) d_M_output_77 (Nat.le_of_ble_eq_true rfl) rfl pc_M (Nat.le_of_ble_eq_true rfl) (by decide) w_719 rfl (Or.inl rfl) ?_
    refine go_aload_n d_M_output_80 rfl ?_
    refine go_dup d_M_output_81 rfl ?_
    refine go_gI (j := 14) (nI D.no) d_M_output_82 (Nat.le_of_ble_eq_true rfl) rfl pc_M (Nat.le_of_ble_eq_true rfl) (by decide) w_716 e5 ?_
    refine go_iconst (v := 1) d_M_output_85 (by decide) ?_
    refine go_iadd d_M_output_86 ?_
    refine go_top (nI (D.no + 1)) (nI_1 _) ?_
    refine go_pI (j := 14) d_M_output_87 (Nat.le_of_ble_eq_true rfl) rfl pc_M (Nat.le_of_ble_eq_true rfl) (by decide) w_716 rfl (Or.inl rfl) ?_
    refine go_aload_n d_M_output_90 rfl ?_
    refine go_gI (j := 14) (nI (D.no + 1)) d_M_output_91 (Nat.le_of_ble_eq_true rfl) rfl pc_M (Nat.le_of_ble_eq_true rfl) (by decide) w_716 rfl ?_
    refine go_iconst (v := 1) d_M_output_94 (by decide) ?_
    refine go_isub d_M_output_95 ?_
    refine go_top (nI D.no) (nI_pred _) ?_
    exact go_ireturn (st := []) d_M_output_96 rfl (Nat.le_of_ble_eq_true rfl) (Nat.le_of_ble_eq_true rfl) rfl
  · generalize hI : pm_uI (pm_uI (pm_uI (pm_uI (pm_uI I 69 0 0) 79 D.no (nI t)) 80 D.no (nI D.sq.length)) 69 17 (nI (D.sq.length + 1))) 69 14 (nI (D.no + 1)) = I'
    have at1 : ∀ c' j, I' c' j = if c' = 69 ∧ j = 14 then nI (D.no + 1) else if c' = 69 ∧ j = 17 then nI (D.sq.length + 1) else if c' = 80 ∧ j = D.no then nI D.sq.length else if c' = 79 ∧ j = D.no then nI t else if c' = 69 ∧ j = 0 then 0 else I c' j := by
      intro c' j
      rw [← hI]
      simp only [uI_at]
    refine RMD.mk ?_ ?_ ?_ ?_ ?_ ?_ ?_ ?_ ?_
    · rw [at1]; (repeat rw [if_neg (by omega)]); exact rM.nb
    · rw [at1]; (repeat rw [if_neg (by omega)]); exact rM.nc
    · rw [at1]; (repeat rw [if_neg (by omega)]); exact rM.ni
    · rw [at1, if_pos ⟨rfl, rfl⟩]; rfl
    · rw [at1, if_neg (by omega), if_pos ⟨rfl, rfl⟩]
      show _ = nI (D.sq ++ [24 + D.no]).length
      rw [List.length_append]; rfl
    · intro j hj
      rw [at1, at1]; (repeat rw [if_neg (by omega)]); exact rM.bl j hj
    · intro q hq
      obtain ⟨g1, g2, g3, g4, tt, g5, g6⟩ := rM.ch q hq
      rw [at1, at1, at1, at1, at1]; (repeat rw [if_neg (by omega)]); exact ⟨g1, g2, g3, g4, tt, sq_old g5, g6⟩
    · intro q hq
      obtain ⟨g1, tt, g5, g6⟩ := rM.ip q hq
      rw [at1, at1]; (repeat rw [if_neg (by omega)]); exact ⟨g1, tt, sq_old g5, g6⟩
    · intro q hq
      have hq2 : q < D.no + 1 := hq
      show I' 79 q = nI (ra_fu D.ofm D.no t q) ∧ ∃ tt, (D.sq ++ [24 + D.no])[tt]? = some (24 + q) ∧ I' 80 q = nI tt
      by_cases e : q = D.no
      · subst e
        rw [fu_eq]
        refine ⟨?_, D.sq.length, sq_last, ?_⟩
        · rw [at1]; (repeat rw [if_neg (by omega)]); rw [if_pos ⟨rfl, rfl⟩]
        · rw [at1]; (repeat rw [if_neg (by omega)]); rw [if_pos ⟨rfl, rfl⟩]
      · obtain ⟨g1, tt, g5, g6⟩ := rM.ot q (by omega)
        rw [fu_lt (by omega), at1, at1]; (repeat rw [if_neg (by omega)]); exact ⟨g1, tt, sq_old g5, g6⟩
  · rfl
  · exact h
  · exact ((((fr.uI (by decide)).tr (fr.uI (by decide))).tr (fr.uI (by decide))).tr (fr.uI (by decide))).tr (fr.uI (by decide))
end S26
