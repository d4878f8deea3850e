/-! the reference: what looks; the offer; the start -/
section S33
variable {d : Nat} {I : Nat → Nat → Int32} {J : Nat → Nat → Int64} {D : DZ} {s : MS} {t : TS}
theorem RMD.fr {L : List Nat} {I' : Nat → Nat → Int32} (h : RMD I D) (hf : fr L I I') (hL : ∀ c, c ∈ L → c < 69 ∨ 80 < c) : RMD I' D := by
  have hh : ∀ c, 69 ≤ c → c ≤ 80 → I' c = I c := fun c h1 h2 => hf c (fun z => by have := hL c z; omega)
  exact h.cg (fun j _ => by rw [hh 69 (by omega) (by omega)]) (fun c h1 h2 => hh c (by omega) h2)
theorem RMD.th {v : Int32} (h : RMD I D) : RMD (pm_uI I 69 0 v) D := by
  refine h.cg (fun j hj => ?_) (fun c h1 h2 => ?_)
  · exact uI_nj (by omega)
  · funext j
    exact uI_ne (by omega)
theorem RMS.th {v : Int32} (h : RMS I D s t) : RMS (pm_uI I 69 0 v) D s t := h
theorem sp_M_takenN {a : Int32} (h : I 69 1 = 0) : pm_Go (d + 1) m_M_taken 0 [some (.ref 69), some (.int a)] [] 0 0 (ST I J) (.inl (some (.int 0)), ST (pm_uI I 69 0 1) J) := by
  refine go_aload_n d_M_taken_0 rfl ?_
  refine go_aload_n d_M_taken_1 rfl ?_
  refine go_gI (j := 1) (0) d_M_taken_2 (Nat.le_of_ble_eq_true rfl) rfl pc_M (Nat.le_of_ble_eq_true rfl) (by decide) w_703 h ?_
  refine go_if_ne (tgt := 12) d_M_taken_5 (by decide) (fun z => absurd rfl z) (fun z => ?_)
  refine go_iconst (v := 1) d_M_taken_8 (by decide) ?_
  refine go_goto (tgt := 29) d_M_taken_9 (by decide) ?_
  refine go_pI (j := 0) d_M_taken_29 (Nat.le_of_ble_eq_true rfl) rfl pc_M (Nat.le_of_ble_eq_true rfl) (by decide) w_702 rfl (Or.inl rfl) ?_
  refine go_aload_n d_M_taken_32 rfl ?_
  refine go_gI (j := 0) (1) d_M_taken_33 (Nat.le_of_ble_eq_true rfl) rfl pc_M (Nat.le_of_ble_eq_true rfl) (by decide) w_702 rfl ?_
  refine go_if_le (tgt := 43) d_M_taken_36 (by decide) (fun z => absurd z (by decide)) (fun z => ?_)
  refine go_iconst (v := 0) d_M_taken_39 (by decide) ?_
  refine go_goto (tgt := 54) d_M_taken_40 (by decide) ?_
  exact go_ireturn (st := []) d_M_taken_54 rfl (Nat.le_of_ble_eq_true rfl) (Nat.le_of_ble_eq_true rfl) rfl
theorem M_tak_t {a : Int32} : pm_Go (d + 1) m_M_taken 24 [some (.ref 69), some (.int a)] [.ref 69] 0 0 (ST I J) (.inl (some (.int 0)), ST (pm_uI I 69 0 2) J) := by
  refine go_iconst (v := 2) d_M_taken_24 (by decide) ?_
  refine go_goto (tgt := 29) d_M_taken_25 (by decide) ?_
  refine go_pI (j := 0) d_M_taken_29 (Nat.le_of_ble_eq_true rfl) rfl pc_M (Nat.le_of_ble_eq_true rfl) (by decide) w_702 rfl (Or.inl rfl) ?_
  refine go_aload_n d_M_taken_32 rfl ?_
  refine go_gI (j := 0) (2) d_M_taken_33 (Nat.le_of_ble_eq_true rfl) rfl pc_M (Nat.le_of_ble_eq_true rfl) (by decide) w_702 rfl ?_
  refine go_if_le (tgt := 43) d_M_taken_36 (by decide) (fun z => absurd z (by decide)) (fun z => ?_)
  refine go_iconst (v := 0) d_M_taken_39 (by decide) ?_
  refine go_goto (tgt := 54) d_M_taken_40 (by decide) ?_
  exact go_ireturn (st := []) d_M_taken_54 rfl (Nat.le_of_ble_eq_true rfl) (Nat.le_of_ble_eq_true rfl) rfl
theorem sp_M_takenX {a : Int32} (h : I 69 1 = 1) (hD : DW D) (rM : RMD I D) (hx : ¬ okN a D.ni) : pm_Go (d + 1) m_M_taken 0 [some (.ref 69), some (.int a)] [] 0 0 (ST I J) (.inl (some (.int 0)), ST (pm_uI I 69 0 2) J) := by
  have h4 := hD.ni
  refine go_aload_n d_M_taken_0 rfl ?_
  refine go_aload_n d_M_taken_1 rfl ?_
  refine go_gI (j := 1) (1) d_M_taken_2 (Nat.le_of_ble_eq_true rfl) rfl pc_M (Nat.le_of_ble_eq_true rfl) (by decide) w_703 h ?_
  refine go_if_ne (tgt := 12) d_M_taken_5 (by decide) (fun z => ?_) (fun z => absurd z (by decide))
  refine go_iload_n d_M_taken_12 rfl ?_
  by_cases h1 : a < 0
  · refine go_if_lt (tgt := 24) d_M_taken_13 (by decide) (fun z => ?_) (fun z => absurd h1 z)
    exact M_tak_t
  · refine go_if_lt (tgt := 24) d_M_taken_13 (by decide) (fun z => absurd z h1) (fun z => ?_)
    refine go_iload_n d_M_taken_16 rfl ?_
    refine go_aload_n d_M_taken_17 rfl ?_
    refine go_gI (j := 11) (nI D.ni) d_M_taken_18 (Nat.le_of_ble_eq_true rfl) rfl pc_M (Nat.le_of_ble_eq_true rfl) (by decide) w_713 rM.ni ?_
    refine go_icmp_lt (tgt := 28) d_M_taken_21 (by decide) (fun z => absurd (okN_of (by omega) h1 z) hx) (fun z => ?_)
    exact M_tak_t
theorem sp_M_takenY {p : Nat} (h : I 69 1 = 1) (hD : DW D) (rM : RMD I D) (rS : RMS I D s t) (hp : p < D.ni) : pm_Go (d + 1) m_M_taken 0 [some (.ref 69), some (.int (nI p))] [] 0 0 (ST I J) (.inl (some (.int (nI (s.tu (D.ito p))))), ST (pm_uI I 69 0 0) J) := by
  have h4 := hD.ni
  have h10 := hD.nb
  have hto := hD.ip p hp
  refine go_aload_n d_M_taken_0 rfl ?_
  refine go_aload_n d_M_taken_1 rfl ?_
  refine go_gI (j := 1) (1) d_M_taken_2 (Nat.le_of_ble_eq_true rfl) rfl pc_M (Nat.le_of_ble_eq_true rfl) (by decide) w_703 h ?_
  refine go_if_ne (tgt := 12) d_M_taken_5 (by decide) (fun z => ?_) (fun z => absurd z (by decide))
  refine go_iload_n d_M_taken_12 rfl ?_
  refine go_if_lt (tgt := 24) d_M_taken_13 (by decide) (fun z => absurd z (nI_pos (by omega))) (fun z => ?_)
  refine go_iload_n d_M_taken_16 rfl ?_
  refine go_aload_n d_M_taken_17 rfl ?_
  refine go_gI (j := 11) (nI D.ni) d_M_taken_18 (Nat.le_of_ble_eq_true rfl) rfl pc_M (Nat.le_of_ble_eq_true rfl) (by decide) w_713 rM.ni ?_
  refine go_icmp_lt (tgt := 28) d_M_taken_21 (by decide) (fun z => ?_) (fun z => absurd (nI_lt hp (by omega)) z)
  refine go_iconst (v := 0) d_M_taken_28 (by decide) ?_
  refine go_pI (j := 0) d_M_taken_29 (Nat.le_of_ble_eq_true rfl) rfl pc_M (Nat.le_of_ble_eq_true rfl) (by decide) w_702 rfl (Or.inl rfl) ?_
  refine go_aload_n d_M_taken_32 rfl ?_
  refine go_gI (j := 0) (0) d_M_taken_33 (Nat.le_of_ble_eq_true rfl) rfl pc_M (Nat.le_of_ble_eq_true rfl) (by decide) w_702 rfl ?_
  refine go_if_le (tgt := 43) d_M_taken_36 (by decide) (fun z => ?_) (fun z => absurd (show (0 : Int32) ≤ 0 by decide) z)
  refine go_aload_n d_M_taken_43 rfl ?_
  refine go_getP (j := 26) d_M_taken_44 (Nat.le_of_ble_eq_true rfl) rfl pc_M (Nat.le_of_ble_eq_true rfl) rfl w_728 pt_M_26 ?_
  refine go_aload_n d_M_taken_47 rfl ?_
  refine go_getP (j := 12) d_M_taken_48 (Nat.le_of_ble_eq_true rfl) rfl pc_M (Nat.le_of_ble_eq_true rfl) rfl w_714 pt_M_12 ?_
  refine go_iload_n d_M_taken_51 rfl ?_
  refine go_ald p (nI (D.ito p)) d_M_taken_52 (Nat.le_of_ble_eq_true rfl) rfl rfl (by omega) (by decide) (rM.ip p hp).1 ?_
  refine go_ald (D.ito p) (nI (s.tu (D.ito p))) d_M_taken_53 (Nat.le_of_ble_eq_true rfl) rfl rfl (by omega) (by decide) (rS.tu (D.ito p) hto).1 ?_
  exact go_ireturn (st := []) d_M_taken_54 rfl (Nat.le_of_ble_eq_true rfl) (Nat.le_of_ble_eq_true rfl) rfl
theorem sp_M_givenN {a : Int32} (h : I 69 1 = 0) : pm_Go (d + 1) m_M_given 0 [some (.ref 69), some (.int a)] [] 0 0 (ST I J) (.inl (some (.int 0)), ST (pm_uI I 69 0 1) J) := by
  refine go_aload_n d_M_given_0 rfl ?_
  refine go_aload_n d_M_given_1 rfl ?_
  refine go_gI (j := 1) (0) d_M_given_2 (Nat.le_of_ble_eq_true rfl) rfl pc_M (Nat.le_of_ble_eq_true rfl) (by decide) w_703 h ?_
  refine go_if_ne (tgt := 12) d_M_given_5 (by decide) (fun z => absurd rfl z) (fun z => ?_)
  refine go_iconst (v := 1) d_M_given_8 (by decide) ?_
  refine go_goto (tgt := 29) d_M_given_9 (by decide) ?_
  refine go_pI (j := 0) d_M_given_29 (Nat.le_of_ble_eq_true rfl) rfl pc_M (Nat.le_of_ble_eq_true rfl) (by decide) w_702 rfl (Or.inl rfl) ?_
  refine go_aload_n d_M_given_32 rfl ?_
  refine go_gI (j := 0) (1) d_M_given_33 (Nat.le_of_ble_eq_true rfl) rfl pc_M (Nat.le_of_ble_eq_true rfl) (by decide) w_702 rfl ?_
  refine go_if_le (tgt := 43) d_M_given_36 (by decide) (fun z => absurd z (by decide)) (fun z => ?_)
  refine go_iconst (v := 0) d_M_given_39 (by decide) ?_
  refine go_goto (tgt := 49) d_M_given_40 (by decide) ?_
  exact go_ireturn (st := []) d_M_given_49 rfl (Nat.le_of_ble_eq_true rfl) (Nat.le_of_ble_eq_true rfl) rfl
theorem M_giv_t {a : Int32} : pm_Go (d + 1) m_M_given 24 [some (.ref 69), some (.int a)] [.ref 69] 0 0 (ST I J) (.inl (some (.int 0)), ST (pm_uI I 69 0 2) J) := by
  refine go_iconst (v := 2) d_M_given_24 (by decide) ?_
  refine go_goto (tgt := 29) d_M_given_25 (by decide) ?_
  refine go_pI (j := 0) d_M_given_29 (Nat.le_of_ble_eq_true rfl) rfl pc_M (Nat.le_of_ble_eq_true rfl) (by decide) w_702 rfl (Or.inl rfl) ?_
  refine go_aload_n d_M_given_32 rfl ?_
  refine go_gI (j := 0) (2) d_M_given_33 (Nat.le_of_ble_eq_true rfl) rfl pc_M (Nat.le_of_ble_eq_true rfl) (by decide) w_702 rfl ?_
  refine go_if_le (tgt := 43) d_M_given_36 (by decide) (fun z => absurd z (by decide)) (fun z => ?_)
  refine go_iconst (v := 0) d_M_given_39 (by decide) ?_
  refine go_goto (tgt := 49) d_M_given_40 (by decide) ?_
  exact go_ireturn (st := []) d_M_given_49 rfl (Nat.le_of_ble_eq_true rfl) (Nat.le_of_ble_eq_true rfl) rfl
theorem sp_M_givenX {a : Int32} (h : I 69 1 = 1) (hD : DW D) (rM : RMD I D) (hx : ¬ okN a D.no) : pm_Go (d + 1) m_M_given 0 [some (.ref 69), some (.int a)] [] 0 0 (ST I J) (.inl (some (.int 0)), ST (pm_uI I 69 0 2) J) := by
  have h4 := hD.no
  refine go_aload_n d_M_given_0 rfl ?_
  refine go_aload_n d_M_given_1 rfl ?_
  refine go_gI (j := 1) (1) d_M_given_2 (Nat.le_of_ble_eq_true rfl) rfl pc_M (Nat.le_of_ble_eq_true rfl) (by decide) w_703 h ?_
  refine go_if_ne (tgt := 12) d_M_given_5 (by decide) (fun z => ?_) (fun z => absurd z (by decide))
  refine go_iload_n d_M_given_12 rfl ?_
  by_cases h1 : a < 0
  · refine go_if_lt (tgt := 24) d_M_given_13 (by decide) (fun z => ?_) (fun z => absurd h1 z)
    exact M_giv_t
  · refine go_if_lt (tgt := 24) d_M_given_13 (by decide) (fun z => absurd z h1) (fun z => ?_)
    refine go_iload_n d_M_given_16 rfl ?_
    refine go_aload_n d_M_given_17 rfl ?_
    refine go_gI (j := 14) (nI D.no) d_M_given_18 (Nat.le_of_ble_eq_true rfl) rfl pc_M (Nat.le_of_ble_eq_true rfl) (by decide) w_716 rM.no ?_
    refine go_icmp_lt (tgt := 28) d_M_given_21 (by decide) (fun z => absurd (okN_of (by omega) h1 z) hx) (fun z => ?_)
    exact M_giv_t
theorem sp_M_givenY {p : Nat} (h : I 69 1 = 1) (hD : DW D) (rM : RMD I D) (rS : RMS I D s t) (hp : p < D.no) : pm_Go (d + 1) m_M_given 0 [some (.ref 69), some (.int (nI p))] [] 0 0 (ST I J) (.inl (some (.int (nI (s.ou p)))), ST (pm_uI I 69 0 0) J) := by
  have h4 := hD.no
  refine go_aload_n d_M_given_0 rfl ?_
  refine go_aload_n d_M_given_1 rfl ?_
  refine go_gI (j := 1) (1) d_M_given_2 (Nat.le_of_ble_eq_true rfl) rfl pc_M (Nat.le_of_ble_eq_true rfl) (by decide) w_703 h ?_
  refine go_if_ne (tgt := 12) d_M_given_5 (by decide) (fun z => ?_) (fun z => absurd z (by decide))
  refine go_iload_n d_M_given_12 rfl ?_
  refine go_if_lt (tgt := 24) d_M_given_13 (by decide) (fun z => absurd z (nI_pos (by omega))) (fun z => ?_)
  refine go_iload_n d_M_given_16 rfl ?_
  refine go_aload_n d_M_given_17 rfl ?_
  refine go_gI (j := 14) (nI D.no) d_M_given_18 (Nat.le_of_ble_eq_true rfl) rfl pc_M (Nat.le_of_ble_eq_true rfl) (by decide) w_716 rM.no ?_
  refine go_icmp_lt (tgt := 28) d_M_given_21 (by decide) (fun z => ?_) (fun z => absurd (nI_lt hp (by omega)) z)
  refine go_iconst (v := 0) d_M_given_28 (by decide) ?_
  refine go_pI (j := 0) d_M_given_29 (Nat.le_of_ble_eq_true rfl) rfl pc_M (Nat.le_of_ble_eq_true rfl) (by decide) w_702 rfl (Or.inl rfl) ?_
  refine go_aload_n d_M_given_32 rfl ?_
  refine go_gI (j := 0) (0) d_M_given_33 (Nat.le_of_ble_eq_true rfl) rfl pc_M (Nat.le_of_ble_eq_true rfl) (by decide) w_702 rfl ?_
  refine go_if_le (tgt := 43) d_M_given_36 (by decide) (fun z => ?_) (fun z => absurd (show (0 : Int32) ≤ 0 by decide) z)
  refine go_aload_n d_M_given_43 rfl ?_
  refine go_getP (j := 32) d_M_given_44 (Nat.le_of_ble_eq_true rfl) rfl pc_M (Nat.le_of_ble_eq_true rfl) rfl w_734 pt_M_32 ?_
  refine go_iload_n d_M_given_47 rfl ?_
  refine go_ald p (nI (s.ou p)) d_M_given_48 (Nat.le_of_ble_eq_true rfl) rfl rfl (by omega) (by decide) (rS.ou p hp).1 ?_
  exact go_ireturn (st := []) d_M_given_49 rfl (Nat.le_of_ble_eq_true rfl) (Nat.le_of_ble_eq_true rfl) rfl
theorem sp_M_valueN {a b : Int32} (h : I 69 1 = 0) : pm_Go (d + 1) m_M_value 0 [some (.ref 69), some (.int a), some (.int b)] [] 0 0 (ST I J) (.inl (some (.long 0)), ST (pm_uI I 69 0 1) J) := by
  refine go_aload_n d_M_value_0 rfl ?_
  refine go_aload_n d_M_value_1 rfl ?_
  refine go_gI (j := 1) (0) d_M_value_2 (Nat.le_of_ble_eq_true rfl) rfl pc_M (Nat.le_of_ble_eq_true rfl) (by decide) w_703 h ?_
  refine go_if_ne (tgt := 12) d_M_value_5 (by decide) (fun z => absurd rfl z) (fun z => ?_)
  refine go_iconst (v := 1) d_M_value_8 (by decide) ?_
  refine go_goto (tgt := 47) d_M_value_9 (by decide) ?_
  refine go_pI (j := 0) d_M_value_47 (Nat.le_of_ble_eq_true rfl) rfl pc_M (Nat.le_of_ble_eq_true rfl) (by decide) w_702 rfl (Or.inl rfl) ?_
  refine go_aload_n d_M_value_50 rfl ?_
  refine go_gI (j := 0) (1) d_M_value_51 (Nat.le_of_ble_eq_true rfl) rfl pc_M (Nat.le_of_ble_eq_true rfl) (by decide) w_702 rfl ?_
  refine go_if_le (tgt := 61) d_M_value_54 (by decide) (fun z => absurd z (by decide)) (fun z => ?_)
  refine go_lconst (v := 0) d_M_value_57 (by decide) ?_
  refine go_goto (tgt := 95) d_M_value_58 (by decide) ?_
  exact go_lreturn (st := []) d_M_value_95 rfl (Nat.le_of_ble_eq_true rfl) (Nat.le_of_ble_eq_true rfl) rfl
theorem M_val_t {a b : Int32} : pm_Go (d + 1) m_M_value 24 [some (.ref 69), some (.int a), some (.int b)] [.ref 69] 0 0 (ST I J) (.inl (some (.long 0)), ST (pm_uI I 69 0 2) J) := by
  refine go_iconst (v := 2) d_M_value_24 (by decide) ?_
  refine go_goto (tgt := 47) d_M_value_25 (by decide) ?_
  refine go_pI (j := 0) d_M_value_47 (Nat.le_of_ble_eq_true rfl) rfl pc_M (Nat.le_of_ble_eq_true rfl) (by decide) w_702 rfl (Or.inl rfl) ?_
  refine go_aload_n d_M_value_50 rfl ?_
  refine go_gI (j := 0) (2) d_M_value_51 (Nat.le_of_ble_eq_true rfl) rfl pc_M (Nat.le_of_ble_eq_true rfl) (by decide) w_702 rfl ?_
  refine go_if_le (tgt := 61) d_M_value_54 (by decide) (fun z => absurd z (by decide)) (fun z => ?_)
  refine go_lconst (v := 0) d_M_value_57 (by decide) ?_
  refine go_goto (tgt := 95) d_M_value_58 (by decide) ?_
  exact go_lreturn (st := []) d_M_value_95 rfl (Nat.le_of_ble_eq_true rfl) (Nat.le_of_ble_eq_true rfl) rfl
theorem M_val_u {a b : Int32} : pm_Go (d + 1) m_M_value 42 [some (.ref 69), some (.int a), some (.int b)] [.ref 69] 0 0 (ST I J) (.inl (some (.long 0)), ST (pm_uI I 69 0 3) J) := by
  refine go_iconst (v := 3) d_M_value_42 (by decide) ?_
  refine go_goto (tgt := 47) d_M_value_43 (by decide) ?_
  refine go_pI (j := 0) d_M_value_47 (Nat.le_of_ble_eq_true rfl) rfl pc_M (Nat.le_of_ble_eq_true rfl) (by decide) w_702 rfl (Or.inl rfl) ?_
  refine go_aload_n d_M_value_50 rfl ?_
  refine go_gI (j := 0) (3) d_M_value_51 (Nat.le_of_ble_eq_true rfl) rfl pc_M (Nat.le_of_ble_eq_true rfl) (by decide) w_702 rfl ?_
  refine go_if_le (tgt := 61) d_M_value_54 (by decide) (fun z => absurd z (by decide)) (fun z => ?_)
  refine go_lconst (v := 0) d_M_value_57 (by decide) ?_
  refine go_goto (tgt := 95) d_M_value_58 (by decide) ?_
  exact go_lreturn (st := []) d_M_value_95 rfl (Nat.le_of_ble_eq_true rfl) (Nat.le_of_ble_eq_true rfl) rfl
theorem sp_M_valueX {a b : Int32} (h : I 69 1 = 1) (hD : DW D) (rM : RMD I D) (hx : ¬ okN a D.no) : pm_Go (d + 1) m_M_value 0 [some (.ref 69), some (.int a), some (.int b)] [] 0 0 (ST I J) (.inl (some (.long 0)), ST (pm_uI I 69 0 2) J) := by
  have h4 := hD.no
  refine go_aload_n d_M_value_0 rfl ?_
  refine go_aload_n d_M_value_1 rfl ?_
  refine go_gI (j := 1) (1) d_M_value_2 (Nat.le_of_ble_eq_true rfl) rfl pc_M (Nat.le_of_ble_eq_true rfl) (by decide) w_703 h ?_
  refine go_if_ne (tgt := 12) d_M_value_5 (by decide) (fun z => ?_) (fun z => absurd z (by decide))
  refine go_iload_n d_M_value_12 rfl ?_
  by_cases h1 : a < 0
  · refine go_if_lt (tgt := 24) d_M_value_13 (by decide) (fun z => ?_) (fun z => absurd h1 z)
    exact M_val_t
  · refine go_if_lt (tgt := 24) d_M_value_13 (by decide) (fun z => absurd z h1) (fun z => ?_)
    refine go_iload_n d_M_value_16 rfl ?_
    refine go_aload_n d_M_value_17 rfl ?_
    refine go_gI (j := 14) (nI D.no) d_M_value_18 (Nat.le_of_ble_eq_true rfl) rfl pc_M (Nat.le_of_ble_eq_true rfl) (by decide) w_716 rM.no ?_
    refine go_icmp_lt (tgt := 28) d_M_value_21 (by decide) (fun z => absurd (okN_of (by omega) h1 z) hx) (fun z => ?_)
    exact M_val_t
theorem sp_M_valueZ {p : Nat} {b : Int32} (h : I 69 1 = 1) (hD : DW D) (rM : RMD I D) (rS : RMS I D s t) (hp : p < D.no) (hm : s.ou p ≤ 1001) (hx : ¬ okN b (s.ou p)) : pm_Go (d + 1) m_M_value 0 [some (.ref 69), some (.int (nI p)), some (.int b)] [] 0 0 (ST I J) (.inl (some (.long 0)), ST (pm_uI I 69 0 3) J) := by
  have h4 := hD.no
  refine go_aload_n d_M_value_0 rfl ?_
  refine go_aload_n d_M_value_1 rfl ?_
  refine go_gI (j := 1) (1) d_M_value_2 (Nat.le_of_ble_eq_true rfl) rfl pc_M (Nat.le_of_ble_eq_true rfl) (by decide) w_703 h ?_
  refine go_if_ne (tgt := 12) d_M_value_5 (by decide) (fun z => ?_) (fun z => absurd z (by decide))
  refine go_iload_n d_M_value_12 rfl ?_
  refine go_if_lt (tgt := 24) d_M_value_13 (by decide) (fun z => absurd z (nI_pos (by omega))) (fun z => ?_)
  refine go_iload_n d_M_value_16 rfl ?_
  refine go_aload_n d_M_value_17 rfl ?_
  refine go_gI (j := 14) (nI D.no) d_M_value_18 (Nat.le_of_ble_eq_true rfl) rfl pc_M (Nat.le_of_ble_eq_true rfl) (by decide) w_716 rM.no ?_
  refine go_icmp_lt (tgt := 28) d_M_value_21 (by decide) (fun z => ?_) (fun z => absurd (nI_lt hp (by omega)) z)
  refine go_iload_n d_M_value_28 rfl ?_
  by_cases h1 : b < 0
  · refine go_if_lt (tgt := 42) d_M_value_29 (by decide) (fun z => ?_) (fun z => absurd h1 z)
    exact M_val_u
  · refine go_if_lt (tgt := 42) d_M_value_29 (by decide) (fun z => absurd z h1) (fun z => ?_)
    refine go_iload_n d_M_value_32 rfl ?_
    refine go_aload_n d_M_value_33 rfl ?_
    refine go_getP (j := 32) d_M_value_34 (Nat.le_of_ble_eq_true rfl) rfl pc_M (Nat.le_of_ble_eq_true rfl) rfl w_734 pt_M_32 ?_
    refine go_iload_n d_M_value_37 rfl ?_
    refine go_ald p (nI (s.ou p)) d_M_value_38 (Nat.le_of_ble_eq_true rfl) rfl rfl (by omega) (by decide) (rS.ou p hp).1 ?_
    refine go_icmp_lt (tgt := 46) d_M_value_39 (by decide) (fun z => absurd (okN_of (by omega) h1 z) hx) (fun z => ?_)
    exact M_val_u
theorem sp_M_valueY {p k : Nat} (h : I 69 1 = 1) (hD : DW D) (rM : RMD I D) (rS : RMS I D s t) (hp : p < D.no) (hm : s.ou p ≤ 1001) (hk : k < s.ou p) : pm_Go (d + 1) m_M_value 0 [some (.ref 69), some (.int (nI p)), some (.int (nI k))] [] 0 0 (ST I J) (.inl (some (.long (tv (nI (s.ouT p k)) (s.ous p k)))), ST (pm_uI I 69 0 0) J) := by
  have h4 := hD.no
  have e := (rS.ou p hp).2 k hk
  refine go_aload_n d_M_value_0 rfl ?_
  refine go_aload_n d_M_value_1 rfl ?_
  refine go_gI (j := 1) (1) d_M_value_2 (Nat.le_of_ble_eq_true rfl) rfl pc_M (Nat.le_of_ble_eq_true rfl) (by decide) w_703 h ?_
  refine go_if_ne (tgt := 12) d_M_value_5 (by decide) (fun z => ?_) (fun z => absurd z (by decide))
  refine go_iload_n d_M_value_12 rfl ?_
  refine go_if_lt (tgt := 24) d_M_value_13 (by decide) (fun z => absurd z (nI_pos (by omega))) (fun z => ?_)
  refine go_iload_n d_M_value_16 rfl ?_
  refine go_aload_n d_M_value_17 rfl ?_
  refine go_gI (j := 14) (nI D.no) d_M_value_18 (Nat.le_of_ble_eq_true rfl) rfl pc_M (Nat.le_of_ble_eq_true rfl) (by decide) w_716 rM.no ?_
  refine go_icmp_lt (tgt := 28) d_M_value_21 (by decide) (fun z => ?_) (fun z => absurd (nI_lt hp (by omega)) z)
  refine go_iload_n d_M_value_28 rfl ?_
  refine go_if_lt (tgt := 42) d_M_value_29 (by decide) (fun z => absurd z (nI_pos (by omega))) (fun z => ?_)
  refine go_iload_n d_M_value_32 rfl ?_
  refine go_aload_n d_M_value_33 rfl ?_
  refine go_getP (j := 32) d_M_value_34 (Nat.le_of_ble_eq_true rfl) rfl pc_M (Nat.le_of_ble_eq_true rfl) rfl w_734 pt_M_32 ?_
  refine go_iload_n d_M_value_37 rfl ?_
  refine go_ald p (nI (s.ou p)) d_M_value_38 (Nat.le_of_ble_eq_true rfl) rfl rfl (by omega) (by decide) (rS.ou p hp).1 ?_
  refine go_icmp_lt (tgt := 46) d_M_value_39 (by decide) (fun z => ?_) (fun z => absurd (nI_lt hk (by omega)) z)
  refine go_iconst (v := 0) d_M_value_46 (by decide) ?_
  refine go_pI (j := 0) d_M_value_47 (Nat.le_of_ble_eq_true rfl) rfl pc_M (Nat.le_of_ble_eq_true rfl) (by decide) w_702 rfl (Or.inl rfl) ?_
  refine go_aload_n d_M_value_50 rfl ?_
  refine go_gI (j := 0) (0) d_M_value_51 (Nat.le_of_ble_eq_true rfl) rfl pc_M (Nat.le_of_ble_eq_true rfl) (by decide) w_702 rfl ?_
  refine go_if_le (tgt := 61) d_M_value_54 (by decide) (fun z => ?_) (fun z => absurd (show (0 : Int32) ≤ 0 by decide) z)
  refine go_aload_n d_M_value_61 rfl ?_
  refine go_getP (j := 31) d_M_value_62 (Nat.le_of_ble_eq_true rfl) rfl pc_M (Nat.le_of_ble_eq_true rfl) rfl w_733 pt_M_31 ?_
  refine go_sipush (v := 1002) d_M_value_65 (by decide) ?_
  refine go_iload_n d_M_value_68 rfl ?_
  refine go_imul d_M_value_69 ?_
  refine go_top (nI (1002 * p)) (pk_mul 1002 p) ?_
  refine go_iload_n d_M_value_70 rfl ?_
  refine go_iadd d_M_value_71 ?_
  refine go_top (nI (1002 * p + k)) (nI_add _ _) ?_
  refine go_ald (1002 * p + k) (nI (s.ouT p k)) d_M_value_72 (Nat.le_of_ble_eq_true rfl) rfl rfl (by omega) (by decide) e.2 ?_
  refine go_i2l d_M_value_73 ?_
  refine go_bipush (v := 32) d_M_value_74 (by decide) ?_
  refine go_lshl d_M_value_76 ?_
  refine go_aload_n d_M_value_77 rfl ?_
  refine go_getP (j := 30) d_M_value_78 (Nat.le_of_ble_eq_true rfl) rfl pc_M (Nat.le_of_ble_eq_true rfl) rfl w_732 pt_M_30 ?_
  refine go_sipush (v := 1002) d_M_value_81 (by decide) ?_
  refine go_iload_n d_M_value_84 rfl ?_
  refine go_imul d_M_value_85 ?_
  refine go_top (nI (1002 * p)) (pk_mul 1002 p) ?_
  refine go_iload_n d_M_value_86 rfl ?_
  refine go_iadd d_M_value_87 ?_
  refine go_top (nI (1002 * p + k)) (nI_add _ _) ?_
  refine go_ald (1002 * p + k) (s.ous p k) d_M_value_88 (Nat.le_of_ble_eq_true rfl) rfl rfl (by omega) (by decide) e.1 ?_
  refine go_i2l d_M_value_89 ?_
  refine go_ldc2 (v := 4294967295) d_M_value_90 w_1001 ?_
  refine go_land d_M_value_93 ?_
  refine go_lor d_M_value_94 ?_
  exact go_lreturn (st := []) d_M_value_95 rfl (Nat.le_of_ble_eq_true rfl) (Nat.le_of_ble_eq_true rfl) rfl
theorem sp_M_insideN {a b : Int32} (h : I 69 1 = 0) : pm_Go (d + 1) m_M_inside 0 [some (.ref 69), some (.int a), some (.int b)] [] 0 0 (ST I J) (.inl (some (.int 0)), ST (pm_uI I 69 0 1) J) := by
  refine go_aload_n d_M_inside_0 rfl ?_
  refine go_aload_n d_M_inside_1 rfl ?_
  refine go_gI (j := 1) (0) d_M_inside_2 (Nat.le_of_ble_eq_true rfl) rfl pc_M (Nat.le_of_ble_eq_true rfl) (by decide) w_703 h ?_
  refine go_if_ne (tgt := 12) d_M_inside_5 (by decide) (fun z => absurd rfl z) (fun z => ?_)
  refine go_iconst (v := 1) d_M_inside_8 (by decide) ?_
  refine go_goto (tgt := 43) d_M_inside_9 (by decide) ?_
  refine go_pI (j := 0) d_M_inside_43 (Nat.le_of_ble_eq_true rfl) rfl pc_M (Nat.le_of_ble_eq_true rfl) (by decide) w_702 rfl (Or.inl rfl) ?_
  refine go_aload_n d_M_inside_46 rfl ?_
  refine go_gI (j := 0) (1) d_M_inside_47 (Nat.le_of_ble_eq_true rfl) rfl pc_M (Nat.le_of_ble_eq_true rfl) (by decide) w_702 rfl ?_
  refine go_if_le (tgt := 57) d_M_inside_50 (by decide) (fun z => absurd z (by decide)) (fun z => ?_)
  refine go_iconst (v := 0) d_M_inside_53 (by decide) ?_
  refine go_goto (tgt := 70) d_M_inside_54 (by decide) ?_
  exact go_ireturn (st := []) d_M_inside_70 rfl (Nat.le_of_ble_eq_true rfl) (Nat.le_of_ble_eq_true rfl) rfl
theorem M_ins_t {a b : Int32} : pm_Go (d + 1) m_M_inside 38 [some (.ref 69), some (.int a), some (.int b)] [.ref 69] 0 0 (ST I J) (.inl (some (.int 0)), ST (pm_uI I 69 0 2) J) := by
  refine go_iconst (v := 2) d_M_inside_38 (by decide) ?_
  refine go_goto (tgt := 43) d_M_inside_39 (by decide) ?_
  refine go_pI (j := 0) d_M_inside_43 (Nat.le_of_ble_eq_true rfl) rfl pc_M (Nat.le_of_ble_eq_true rfl) (by decide) w_702 rfl (Or.inl rfl) ?_
  refine go_aload_n d_M_inside_46 rfl ?_
  refine go_gI (j := 0) (2) d_M_inside_47 (Nat.le_of_ble_eq_true rfl) rfl pc_M (Nat.le_of_ble_eq_true rfl) (by decide) w_702 rfl ?_
  refine go_if_le (tgt := 57) d_M_inside_50 (by decide) (fun z => absurd z (by decide)) (fun z => ?_)
  refine go_iconst (v := 0) d_M_inside_53 (by decide) ?_
  refine go_goto (tgt := 70) d_M_inside_54 (by decide) ?_
  exact go_ireturn (st := []) d_M_inside_70 rfl (Nat.le_of_ble_eq_true rfl) (Nat.le_of_ble_eq_true rfl) rfl
theorem sp_M_insideX {a b : Int32} (h : I 69 1 = 1) (hD : DW D) (rM : RMD I D) (hx : ¬ okN a D.nc) : pm_Go (d + 1) m_M_inside 0 [some (.ref 69), some (.int a), some (.int b)] [] 0 0 (ST I J) (.inl (some (.int 0)), ST (pm_uI I 69 0 2) J) := by
  have h20 := hD.nc
  refine go_aload_n d_M_inside_0 rfl ?_
  refine go_aload_n d_M_inside_1 rfl ?_
  refine go_gI (j := 1) (1) d_M_inside_2 (Nat.le_of_ble_eq_true rfl) rfl pc_M (Nat.le_of_ble_eq_true rfl) (by decide) w_703 h ?_
  refine go_if_ne (tgt := 12) d_M_inside_5 (by decide) (fun z => ?_) (fun z => absurd z (by decide))
  refine go_iload_n d_M_inside_12 rfl ?_
  by_cases h1 : a < 0
  · refine go_if_lt (tgt := 38) d_M_inside_13 (by decide) (fun z => ?_) (fun z => absurd h1 z)
    exact M_ins_t
  · refine go_if_lt (tgt := 38) d_M_inside_13 (by decide) (fun z => absurd z h1) (fun z => ?_)
    refine go_iload_n d_M_inside_16 rfl ?_
    refine go_aload_n d_M_inside_17 rfl ?_
    refine go_gI (j := 5) (nI D.nc) d_M_inside_18 (Nat.le_of_ble_eq_true rfl) rfl pc_M (Nat.le_of_ble_eq_true rfl) (by decide) w_707 rM.nc ?_
    refine go_icmp_ge (tgt := 38) d_M_inside_21 (by decide) (fun z => ?_) (fun z => absurd (okN_no (by omega) hx h1) z)
    exact M_ins_t
theorem sp_M_insideZ {c : Nat} {b : Int32} (h : I 69 1 = 1) (hD : DW D) (rM : RMD I D) (hc : c < D.nc) (hx : ¬ okN b (D.ex c + 1)) : pm_Go (d + 1) m_M_inside 0 [some (.ref 69), some (.int (nI c)), some (.int b)] [] 0 0 (ST I J) (.inl (some (.int 0)), ST (pm_uI I 69 0 2) J) := by
  have h20 := hD.nc
  have h3 := (hD.ch c hc).2.2
  refine go_aload_n d_M_inside_0 rfl ?_
  refine go_aload_n d_M_inside_1 rfl ?_
  refine go_gI (j := 1) (1) d_M_inside_2 (Nat.le_of_ble_eq_true rfl) rfl pc_M (Nat.le_of_ble_eq_true rfl) (by decide) w_703 h ?_
  refine go_if_ne (tgt := 12) d_M_inside_5 (by decide) (fun z => ?_) (fun z => absurd z (by decide))
  refine go_iload_n d_M_inside_12 rfl ?_
  refine go_if_lt (tgt := 38) d_M_inside_13 (by decide) (fun z => absurd z (nI_pos (by omega))) (fun z => ?_)
  refine go_iload_n d_M_inside_16 rfl ?_
  refine go_aload_n d_M_inside_17 rfl ?_
  refine go_gI (j := 5) (nI D.nc) d_M_inside_18 (Nat.le_of_ble_eq_true rfl) rfl pc_M (Nat.le_of_ble_eq_true rfl) (by decide) w_707 rM.nc ?_
  refine go_icmp_ge (tgt := 38) d_M_inside_21 (by decide) (fun z => absurd z (nI_ge hc (by omega))) (fun z => ?_)
  refine go_iload_n d_M_inside_24 rfl ?_
  by_cases h1 : b < 0
  · refine go_if_lt (tgt := 38) d_M_inside_25 (by decide) (fun z => ?_) (fun z => absurd h1 z)
    exact M_ins_t
  · refine go_if_lt (tgt := 38) d_M_inside_25 (by decide) (fun z => absurd z h1) (fun z => ?_)
    refine go_iload_n d_M_inside_28 rfl ?_
    refine go_aload_n d_M_inside_29 rfl ?_
    refine go_getP (j := 9) d_M_inside_30 (Nat.le_of_ble_eq_true rfl) rfl pc_M (Nat.le_of_ble_eq_true rfl) rfl w_711 pt_M_9 ?_
    refine go_iload_n d_M_inside_33 rfl ?_
    refine go_ald c (nI (D.ex c)) d_M_inside_34 (Nat.le_of_ble_eq_true rfl) rfl rfl (by omega) (by decide) (rM.ch c hc).2.2.2.1 ?_
    obtain ⟨j, hj, e⟩ := nI_of h1
    have hj5 : D.ex c < j := by
      by_cases hl : j < D.ex c + 1
      · exact absurd ⟨j, hl, e⟩ hx
      · omega
    refine go_icmp_le (tgt := 42) d_M_inside_35 (by decide) (fun z => absurd z (by rw [e]; exact nI_ge hj5 hj)) (fun z => ?_)
    exact M_ins_t
theorem sp_M_insideY {c b : Nat} (h : I 69 1 = 1) (hD : DW D) (hM : MI D s) (rM : RMD I D) (rS : RMS I D s t) (hc : c < D.nc) (hb : b < D.ex c + 1) : pm_Go (d + 1) m_M_inside 0 [some (.ref 69), some (.int (nI c)), some (.int (nI b))] [] 0 0 (ST I J) (.inl (some (.int (nI (cmM s c b - gnM D s c b)))), ST (pm_uI I 69 0 0) J) := by
  have h20 := hD.nc
  have h3 := (hD.ch c hc).2.2
  refine go_aload_n d_M_inside_0 rfl ?_
  refine go_aload_n d_M_inside_1 rfl ?_
  refine go_gI (j := 1) (1) d_M_inside_2 (Nat.le_of_ble_eq_true rfl) rfl pc_M (Nat.le_of_ble_eq_true rfl) (by decide) w_703 h ?_
  refine go_if_ne (tgt := 12) d_M_inside_5 (by decide) (fun z => ?_) (fun z => absurd z (by decide))
  refine go_iload_n d_M_inside_12 rfl ?_
  refine go_if_lt (tgt := 38) d_M_inside_13 (by decide) (fun z => absurd z (nI_pos (by omega))) (fun z => ?_)
  refine go_iload_n d_M_inside_16 rfl ?_
  refine go_aload_n d_M_inside_17 rfl ?_
  refine go_gI (j := 5) (nI D.nc) d_M_inside_18 (Nat.le_of_ble_eq_true rfl) rfl pc_M (Nat.le_of_ble_eq_true rfl) (by decide) w_707 rM.nc ?_
  refine go_icmp_ge (tgt := 38) d_M_inside_21 (by decide) (fun z => absurd z (nI_ge hc (by omega))) (fun z => ?_)
  refine go_iload_n d_M_inside_24 rfl ?_
  refine go_if_lt (tgt := 38) d_M_inside_25 (by decide) (fun z => absurd z (nI_pos (by omega))) (fun z => ?_)
  refine go_iload_n d_M_inside_28 rfl ?_
  refine go_aload_n d_M_inside_29 rfl ?_
  refine go_getP (j := 9) d_M_inside_30 (Nat.le_of_ble_eq_true rfl) rfl pc_M (Nat.le_of_ble_eq_true rfl) rfl w_711 pt_M_9 ?_
  refine go_iload_n d_M_inside_33 rfl ?_
  refine go_ald c (nI (D.ex c)) d_M_inside_34 (Nat.le_of_ble_eq_true rfl) rfl rfl (by omega) (by decide) (rM.ch c hc).2.2.2.1 ?_
  refine go_icmp_le (tgt := 42) d_M_inside_35 (by decide) (fun z => ?_) (fun z => absurd (nI_le (show b ≤ D.ex c by omega) (by omega)) z)
  refine go_iconst (v := 0) d_M_inside_42 (by decide) ?_
  refine go_pI (j := 0) d_M_inside_43 (Nat.le_of_ble_eq_true rfl) rfl pc_M (Nat.le_of_ble_eq_true rfl) (by decide) w_702 rfl (Or.inl rfl) ?_
  refine go_aload_n d_M_inside_46 rfl ?_
  refine go_gI (j := 0) (0) d_M_inside_47 (Nat.le_of_ble_eq_true rfl) rfl pc_M (Nat.le_of_ble_eq_true rfl) (by decide) w_702 rfl ?_
  refine go_if_le (tgt := 57) d_M_inside_50 (by decide) (fun z => ?_) (fun z => absurd (show (0 : Int32) ≤ 0 by decide) z)
  refine go_aload_n d_M_inside_57 rfl ?_
  refine go_iload_n d_M_inside_58 rfl ?_
  refine go_iload_n d_M_inside_59 rfl ?_
  refine go_callV (k2 := m_M_came) (As := [.int (nI c), .int (nI b)]) (r := some (.int (nI (cmM s c b)))) d_M_inside_60 ok_M_came (Nat.le_of_ble_eq_true rfl) rfl pc_M rfl vl_M_146 rfl rfl (Nat.le_of_ble_eq_true rfl) (Nat.le_of_ble_eq_true rfl) (Nat.le_of_ble_eq_true rfl) (Nat.le_of_ble_eq_true rfl) rfl rfl (sp_M_came hD rS.th hc (by omega)) ?_
  refine go_aload_n d_M_inside_63 rfl ?_
  refine go_iload_n d_M_inside_64 rfl ?_
  refine go_iload_n d_M_inside_65 rfl ?_
  refine go_callV (k2 := m_M_gone) (As := [.int (nI c), .int (nI b)]) (r := some (.int (nI (gnM D s c b)))) d_M_inside_66 ok_M_gone (Nat.le_of_ble_eq_true rfl) rfl pc_M rfl vl_M_150 rfl rfl (Nat.le_of_ble_eq_true rfl) (Nat.le_of_ble_eq_true rfl) (Nat.le_of_ble_eq_true rfl) (Nat.le_of_ble_eq_true rfl) rfl rfl (sp_M_gone hD rM.th rS.th hc (by omega)) ?_
  refine go_isub d_M_inside_69 ?_
  refine go_top (nI (cmM s c b - gnM D s c b)) (pk_sub (hM.bf c hc b (by omega)).1) ?_
  exact go_ireturn (st := []) d_M_inside_70 rfl (Nat.le_of_ble_eq_true rfl) (Nat.le_of_ble_eq_true rfl) rfl
theorem sp_M_offerN {a b : Int32} (h : I 69 1 = 0) : pm_Go (d + 1) m_M_offer 0 [some (.ref 69), some (.int a), some (.int b)] [] 0 0 (ST I J) (.inl (some (.int 0)), ST (pm_uI I 69 0 1) J) := by
  refine go_aload_n d_M_offer_0 rfl ?_
  refine go_aload_n d_M_offer_1 rfl ?_
  refine go_gI (j := 1) (0) d_M_offer_2 (Nat.le_of_ble_eq_true rfl) rfl pc_M (Nat.le_of_ble_eq_true rfl) (by decide) w_703 h ?_
  refine go_if_ne (tgt := 12) d_M_offer_5 (by decide) (fun z => absurd rfl z) (fun z => ?_)
  refine go_iconst (v := 1) d_M_offer_8 (by decide) ?_
  refine go_goto (tgt := 29) d_M_offer_9 (by decide) ?_
  refine go_pI (j := 0) d_M_offer_29 (Nat.le_of_ble_eq_true rfl) rfl pc_M (Nat.le_of_ble_eq_true rfl) (by decide) w_702 rfl (Or.inl rfl) ?_
  refine go_aload_n d_M_offer_32 rfl ?_
  refine go_gI (j := 0) (1) d_M_offer_33 (Nat.le_of_ble_eq_true rfl) rfl pc_M (Nat.le_of_ble_eq_true rfl) (by decide) w_702 rfl ?_
  refine go_if_gt (tgt := 71) d_M_offer_36 (by decide) (fun z => ?_) (fun z => absurd (show (0 : Int32) < 1 by decide) z)
  refine go_iconst (v := 0) d_M_offer_71 (by decide) ?_
  exact go_zreturn (st := []) d_M_offer_72 rfl (Nat.le_of_ble_eq_true rfl) (Nat.le_of_ble_eq_true rfl) rfl (Or.inl rfl)
theorem M_off_t {a b : Int32} : pm_Go (d + 1) m_M_offer 24 [some (.ref 69), some (.int a), some (.int b)] [.ref 69] 0 0 (ST I J) (.inl (some (.int 0)), ST (pm_uI I 69 0 2) J) := by
  refine go_iconst (v := 2) d_M_offer_24 (by decide) ?_
  refine go_goto (tgt := 29) d_M_offer_25 (by decide) ?_
  refine go_pI (j := 0) d_M_offer_29 (Nat.le_of_ble_eq_true rfl) rfl pc_M (Nat.le_of_ble_eq_true rfl) (by decide) w_702 rfl (Or.inl rfl) ?_
  refine go_aload_n d_M_offer_32 rfl ?_
  refine go_gI (j := 0) (2) d_M_offer_33 (Nat.le_of_ble_eq_true rfl) rfl pc_M (Nat.le_of_ble_eq_true rfl) (by decide) w_702 rfl ?_
  refine go_if_gt (tgt := 71) d_M_offer_36 (by decide) (fun z => ?_) (fun z => absurd (show (0 : Int32) < 2 by decide) z)
  refine go_iconst (v := 0) d_M_offer_71 (by decide) ?_
  exact go_zreturn (st := []) d_M_offer_72 rfl (Nat.le_of_ble_eq_true rfl) (Nat.le_of_ble_eq_true rfl) rfl (Or.inl rfl)
theorem sp_M_offerX {a b : Int32} (h : I 69 1 = 1) (hD : DW D) (rM : RMD I D) (hx : ¬ okN a D.ni) : pm_Go (d + 1) m_M_offer 0 [some (.ref 69), some (.int a), some (.int b)] [] 0 0 (ST I J) (.inl (some (.int 0)), ST (pm_uI I 69 0 2) J) := by
  have h4 := hD.ni
  refine go_aload_n d_M_offer_0 rfl ?_
  refine go_aload_n d_M_offer_1 rfl ?_
  refine go_gI (j := 1) (1) d_M_offer_2 (Nat.le_of_ble_eq_true rfl) rfl pc_M (Nat.le_of_ble_eq_true rfl) (by decide) w_703 h ?_
  refine go_if_ne (tgt := 12) d_M_offer_5 (by decide) (fun z => ?_) (fun z => absurd z (by decide))
  refine go_iload_n d_M_offer_12 rfl ?_
  by_cases h1 : a < 0
  · refine go_if_lt (tgt := 24) d_M_offer_13 (by decide) (fun z => ?_) (fun z => absurd h1 z)
    exact M_off_t
  · refine go_if_lt (tgt := 24) d_M_offer_13 (by decide) (fun z => absurd z h1) (fun z => ?_)
    refine go_iload_n d_M_offer_16 rfl ?_
    refine go_aload_n d_M_offer_17 rfl ?_
    refine go_gI (j := 11) (nI D.ni) d_M_offer_18 (Nat.le_of_ble_eq_true rfl) rfl pc_M (Nat.le_of_ble_eq_true rfl) (by decide) w_713 rM.ni ?_
    refine go_icmp_lt (tgt := 28) d_M_offer_21 (by decide) (fun z => absurd (okN_of (by omega) h1 z) hx) (fun z => ?_)
    exact M_off_t
theorem sp_M_offerF {p : Nat} {b : Int32} (h : I 69 1 = 1) (hD : DW D) (rM : RMD I D) (hM : MI D s) (rS : RMS I D s t) (hp : p < D.ni) (ho : s.tu (D.ito p) < s.off p ∨ s.off p = 1000) : pm_Go (d + 1) m_M_offer 0 [some (.ref 69), some (.int (nI p)), some (.int b)] [] 0 0 (ST I J) (.inl (some (.int 0)), ST (pm_uI I 69 0 0) J) := by
  have h4 := hD.ni
  have h10 := hD.nb
  have hto := hD.ip p hp
  have hb := hM.off p hp
  have hb2 := hM.tu _ hto
  have hb3 := hM.T
  refine go_aload_n d_M_offer_0 rfl ?_
  refine go_aload_n d_M_offer_1 rfl ?_
  refine go_gI (j := 1) (1) d_M_offer_2 (Nat.le_of_ble_eq_true rfl) rfl pc_M (Nat.le_of_ble_eq_true rfl) (by decide) w_703 h ?_
  refine go_if_ne (tgt := 12) d_M_offer_5 (by decide) (fun z => ?_) (fun z => absurd z (by decide))
  refine go_iload_n d_M_offer_12 rfl ?_
  refine go_if_lt (tgt := 24) d_M_offer_13 (by decide) (fun z => absurd z (nI_pos (by omega))) (fun z => ?_)
  refine go_iload_n d_M_offer_16 rfl ?_
  refine go_aload_n d_M_offer_17 rfl ?_
  refine go_gI (j := 11) (nI D.ni) d_M_offer_18 (Nat.le_of_ble_eq_true rfl) rfl pc_M (Nat.le_of_ble_eq_true rfl) (by decide) w_713 rM.ni ?_
  refine go_icmp_lt (tgt := 28) d_M_offer_21 (by decide) (fun z => ?_) (fun z => absurd (nI_lt hp (by omega)) z)
  refine go_iconst (v := 0) d_M_offer_28 (by decide) ?_
  refine go_pI (j := 0) d_M_offer_29 (Nat.le_of_ble_eq_true rfl) rfl pc_M (Nat.le_of_ble_eq_true rfl) (by decide) w_702 rfl (Or.inl rfl) ?_
  refine go_aload_n d_M_offer_32 rfl ?_
  refine go_gI (j := 0) (0) d_M_offer_33 (Nat.le_of_ble_eq_true rfl) rfl pc_M (Nat.le_of_ble_eq_true rfl) (by decide) w_702 rfl ?_
  refine go_if_gt (tgt := 71) d_M_offer_36 (by decide) (fun z => absurd z (by decide)) (fun z => ?_)
  refine go_aload_n d_M_offer_39 rfl ?_
  refine go_getP (j := 29) d_M_offer_40 (Nat.le_of_ble_eq_true rfl) rfl pc_M (Nat.le_of_ble_eq_true rfl) rfl w_731 pt_M_29 ?_
  refine go_iload_n d_M_offer_43 rfl ?_
  refine go_ald p (nI (s.off p)) d_M_offer_44 (Nat.le_of_ble_eq_true rfl) rfl rfl (by omega) (by decide) (rS.of p hp).1 ?_
  refine go_aload_n d_M_offer_45 rfl ?_
  refine go_getP (j := 26) d_M_offer_46 (Nat.le_of_ble_eq_true rfl) rfl pc_M (Nat.le_of_ble_eq_true rfl) rfl w_728 pt_M_26 ?_
  refine go_aload_n d_M_offer_49 rfl ?_
  refine go_getP (j := 12) d_M_offer_50 (Nat.le_of_ble_eq_true rfl) rfl pc_M (Nat.le_of_ble_eq_true rfl) rfl w_714 pt_M_12 ?_
  refine go_iload_n d_M_offer_53 rfl ?_
  refine go_ald p (nI (D.ito p)) d_M_offer_54 (Nat.le_of_ble_eq_true rfl) rfl rfl (by omega) (by decide) (rM.ip p hp).1 ?_
  refine go_ald (D.ito p) (nI (s.tu (D.ito p))) d_M_offer_55 (Nat.le_of_ble_eq_true rfl) rfl rfl (by omega) (by decide) (rS.tu (D.ito p) hto).1 ?_
  by_cases hl : s.tu (D.ito p) < s.off p
  · refine go_icmp_gt (tgt := 71) d_M_offer_56 (by decide) (fun z => ?_) (fun z => absurd (nI_lt hl (by omega)) z)
    refine go_iconst (v := 0) d_M_offer_71 (by decide) ?_
    exact go_zreturn (st := []) d_M_offer_72 rfl (Nat.le_of_ble_eq_true rfl) (Nat.le_of_ble_eq_true rfl) rfl (Or.inl rfl)
  · refine go_icmp_gt (tgt := 71) d_M_offer_56 (by decide) (fun z => absurd z (nI_nlt (by omega) (by omega))) (fun z => ?_)
    have e : s.off p = 1000 := ho.resolve_left hl
    refine go_aload_n d_M_offer_59 rfl ?_
    refine go_getP (j := 29) d_M_offer_60 (Nat.le_of_ble_eq_true rfl) rfl pc_M (Nat.le_of_ble_eq_true rfl) rfl w_731 pt_M_29 ?_
    refine go_iload_n d_M_offer_63 rfl ?_
    refine go_ald p (nI (s.off p)) d_M_offer_64 (Nat.le_of_ble_eq_true rfl) rfl rfl (by omega) (by decide) (rS.of p hp).1 ?_
    refine go_sipush (v := 1000) d_M_offer_65 (by decide) ?_
    refine go_icmp_ne (tgt := 73) d_M_offer_68 (by decide) (fun z => absurd (by rw [e]; rfl) z) (fun z => ?_)
    refine go_iconst (v := 0) d_M_offer_71 (by decide) ?_
    exact go_zreturn (st := []) d_M_offer_72 rfl (Nat.le_of_ble_eq_true rfl) (Nat.le_of_ble_eq_true rfl) rfl (Or.inl rfl)
theorem sp_M_offerY {p : Nat} {v : Int32} (h : I 69 1 = 1) (hD : DW D) (rM : RMD I D) (hM : MI D s) (rS : RMS I D s t) (hp : p < D.ni) (ho : s.off p = s.tu (D.ito p)) (ho2 : s.off p < 1000) : ∃ I', pm_Go (d + 1) m_M_offer 0 [some (.ref 69), some (.int (nI p)), some (.int v)] [] 0 0 (ST I J) (.inl (some (.int 1)), ST I' J) ∧ RMS I' D (ofM s p v) (toM s t p) ∧ (∀ q, q ≠ 0 → I' 69 q = I 69 q) ∧ I' 69 0 = 0 ∧ fr [69, 89, 90, 91] I I' := by
  have h4 := hD.ni
  have h10 := hD.nb
  have hto := hD.ip p hp
  refine ⟨pm_uI (pm_uI (pm_uI (pm_uI I 69 0 0) 89 (1002 * p + s.off p) v) 90 (1002 * p + s.off p) (nI s.T)) 91 p (nI (s.off p + 1)), ?_, ?_, ?_, rfl, (((fr.uI (by decide)).tr (fr.uI (by decide))).tr (fr.uI (by decide))).tr (fr.uI (by decide))⟩
  · refine go_aload_n d_M_offer_0 rfl ?_
    refine go_aload_n d_M_offer_1 rfl ?_
    refine go_gI (j := 1) (1) d_M_offer_2 (Nat.le_of_ble_eq_true rfl) rfl pc_M (Nat.le_of_ble_eq_true rfl) (by decide) w_703 h ?_
    refine go_if_ne (tgt := 12) d_M_offer_5 (by decide) (fun z => ?_) (fun z => absurd z (by decide))
    refine go_iload_n d_M_offer_12 rfl ?_
    refine go_if_lt (tgt := 24) d_M_offer_13 (by decide) (fun z => absurd z (nI_pos (by omega))) (fun z => ?_)
    refine go_iload_n d_M_offer_16 rfl ?_
    refine go_aload_n d_M_offer_17 rfl ?_
    refine go_gI (j := 11) (nI D.ni) d_M_offer_18 (Nat.le_of_ble_eq_true rfl) rfl pc_M (Nat.le_of_ble_eq_true rfl) (by decide) w_713 rM.ni ?_
    refine go_icmp_lt (tgt := 28) d_M_offer_21 (by decide) (fun z => ?_) (fun z => absurd (nI_lt hp (by omega)) z)
    refine go_iconst (v := 0) d_M_offer_28 (by decide) ?_
    refine go_pI (j := 0) d_M_offer_29 (Nat.le_of_ble_eq_true rfl) rfl pc_M (Nat.le_of_ble_eq_true rfl) (by decide) w_702 rfl (Or.inl rfl) ?_
    refine go_aload_n d_M_offer_32 rfl ?_
    refine go_gI (j := 0) (0) d_M_offer_33 (Nat.le_of_ble_eq_true rfl) rfl pc_M (Nat.le_of_ble_eq_true rfl) (by decide) w_702 rfl ?_
    refine go_if_gt (tgt := 71) d_M_offer_36 (by decide) (fun z => absurd z (by decide)) (fun z => ?_)
    refine go_aload_n d_M_offer_39 rfl ?_
    refine go_getP (j := 29) d_M_offer_40 (Nat.le_of_ble_eq_true rfl) rfl pc_M (Nat.le_of_ble_eq_true rfl) rfl w_731 pt_M_29 ?_
    refine go_iload_n d_M_offer_43 rfl ?_
    refine go_ald p (nI (s.off p)) d_M_offer_44 (Nat.le_of_ble_eq_true rfl) rfl rfl (by omega) (by decide) (rS.of p hp).1 ?_
    refine go_aload_n d_M_offer_45 rfl ?_
    refine go_getP (j := 26) d_M_offer_46 (Nat.le_of_ble_eq_true rfl) rfl pc_M (Nat.le_of_ble_eq_true rfl) rfl w_728 pt_M_26 ?_
    refine go_aload_n d_M_offer_49 rfl ?_
    refine go_getP (j := 12) d_M_offer_50 (Nat.le_of_ble_eq_true rfl) rfl pc_M (Nat.le_of_ble_eq_true rfl) rfl w_714 pt_M_12 ?_
    refine go_iload_n d_M_offer_53 rfl ?_
    refine go_ald p (nI (D.ito p)) d_M_offer_54 (Nat.le_of_ble_eq_true rfl) rfl rfl (by omega) (by decide) (rM.ip p hp).1 ?_
    refine go_ald (D.ito p) (nI (s.tu (D.ito p))) d_M_offer_55 (Nat.le_of_ble_eq_true rfl) rfl rfl (by omega) (by decide) (rS.tu (D.ito p) hto).1 ?_
    refine go_icmp_gt (tgt := 71) d_M_offer_56 (by decide) (fun z => absurd z (nI_nlt (by omega) (by omega))) (fun z => ?_)
    refine go_aload_n d_M_offer_59 rfl ?_
    refine go_getP (j := 29) d_M_offer_60 (Nat.le_of_ble_eq_true rfl) rfl pc_M (Nat.le_of_ble_eq_true rfl) rfl w_731 pt_M_29 ?_
    refine go_iload_n d_M_offer_63 rfl ?_
    refine go_ald p (nI (s.off p)) d_M_offer_64 (Nat.le_of_ble_eq_true rfl) rfl rfl (by omega) (by decide) (rS.of p hp).1 ?_
    refine go_sipush (v := 1000) d_M_offer_65 (by decide) ?_
    refine go_icmp_ne (tgt := 73) d_M_offer_68 (by decide) (fun z => ?_) (fun z => absurd z (nI_neq (b := 1000) (by omega) (by decide) (by omega)))
    refine go_aload_n d_M_offer_73 rfl ?_
    refine go_getP (j := 27) d_M_offer_74 (Nat.le_of_ble_eq_true rfl) rfl pc_M (Nat.le_of_ble_eq_true rfl) rfl w_729 pt_M_27 ?_
    refine go_sipush (v := 1002) d_M_offer_77 (by decide) ?_
    refine go_iload_n d_M_offer_80 rfl ?_
    refine go_imul d_M_offer_81 ?_
    refine go_top (nI (1002 * p)) (pk_mul 1002 p) ?_
    refine go_aload_n d_M_offer_82 rfl ?_
    refine go_getP (j := 29) d_M_offer_83 (Nat.le_of_ble_eq_true rfl) rfl pc_M (Nat.le_of_ble_eq_true rfl) rfl w_731 pt_M_29 ?_
    refine go_iload_n d_M_offer_86 rfl ?_
    refine go_ald p (nI (s.off p)) d_M_offer_87 (Nat.le_of_ble_eq_true rfl) rfl rfl (by omega) (by decide) (rS.of p hp).1 ?_
    refine go_iadd d_M_offer_88 ?_
    refine go_top (nI (1002 * p + s.off p)) (nI_add _ _) ?_
    refine go_iload_n d_M_offer_89 rfl ?_
    refine go_ast (1002 * p + s.off p) d_M_offer_90 (Nat.le_of_ble_eq_true rfl) rfl rfl (by omega) (by decide) ?_
    refine go_aload_n d_M_offer_91 rfl ?_
    refine go_getP (j := 28) d_M_offer_92 (Nat.le_of_ble_eq_true rfl) rfl pc_M (Nat.le_of_ble_eq_true rfl) rfl w_730 pt_M_28 ?_
    refine go_sipush (v := 1002) d_M_offer_95 (by decide) ?_
    refine go_iload_n d_M_offer_98 rfl ?_
    refine go_imul d_M_offer_99 ?_
    refine go_top (nI (1002 * p)) (pk_mul 1002 p) ?_
    refine go_aload_n d_M_offer_100 rfl ?_
    refine go_getP (j := 29) d_M_offer_101 (Nat.le_of_ble_eq_true rfl) rfl pc_M (Nat.le_of_ble_eq_true rfl) rfl w_731 pt_M_29 ?_
    refine go_iload_n d_M_offer_104 rfl ?_
    refine go_ald p (nI (s.off p)) d_M_offer_105 (Nat.le_of_ble_eq_true rfl) rfl rfl (by omega) (by decide) (rS.of p hp).1 ?_
    refine go_iadd d_M_offer_106 ?_
    refine go_top (nI (1002 * p + s.off p)) (nI_add _ _) ?_
    refine go_aload_n d_M_offer_107 rfl ?_
    refine go_gI (j := 18) (nI s.T) d_M_offer_108 (Nat.le_of_ble_eq_true rfl) rfl pc_M (Nat.le_of_ble_eq_true rfl) (by decide) w_720 rS.T ?_
    refine go_ast (1002 * p + s.off p) d_M_offer_111 (Nat.le_of_ble_eq_true rfl) rfl rfl (by omega) (by decide) ?_
    refine go_aload_n d_M_offer_112 rfl ?_
    refine go_getP (j := 29) d_M_offer_113 (Nat.le_of_ble_eq_true rfl) rfl pc_M (Nat.le_of_ble_eq_true rfl) rfl w_731 pt_M_29 ?_
    refine go_iload_n d_M_offer_116 rfl ?_
    refine go_aload_n d_M_offer_117 rfl ?_
    refine go_getP (j := 29) d_M_offer_118 (Nat.le_of_ble_eq_true rfl) rfl pc_M (Nat.le_of_ble_eq_true rfl) rfl w_731 pt_M_29 ?_
    refine go_iload_n d_M_offer_121 rfl ?_
    refine go_ald p (nI (s.off p)) d_M_offer_122 (Nat.le_of_ble_eq_true rfl) rfl rfl (by omega) (by decide) (rS.of p hp).1 ?_
    refine go_iconst (v := 1) d_M_offer_123 (by decide) ?_
    refine go_iadd d_M_offer_124 ?_
    refine go_top (nI (s.off p + 1)) (nI_1 _) ?_
    refine go_ast p d_M_offer_125 (Nat.le_of_ble_eq_true rfl) rfl rfl (by omega) (by decide) ?_
    refine go_iconst (v := 1) d_M_offer_126 (by decide) ?_
    exact go_zreturn (st := []) d_M_offer_127 rfl (Nat.le_of_ble_eq_true rfl) (Nat.le_of_ble_eq_true rfl) rfl (Or.inr rfl)
  · have at1 : ∀ c j, pm_uI (pm_uI (pm_uI (pm_uI I 69 0 0) 89 (1002 * p + s.off p) v) 90 (1002 * p + s.off p) (nI s.T)) 91 p (nI (s.off p + 1)) c j = if c = 91 ∧ j = p then nI (s.off p + 1) else if c = 90 ∧ j = 1002 * p + s.off p then nI s.T else if c = 89 ∧ j = 1002 * p + s.off p then v else if c = 69 ∧ j = 0 then 0 else I c j := by
      intro c j
      simp only [uI_at]
    refine RMS.mk rS.T rS.st rS.tk rS.lf rS.ga rS.tu ?_ rS.ou
    intro q hq
    have hbq := hM.off q hq
    have hbt := hM.tu _ (hD.ip q hq)
    have hbT := hM.T
    obtain ⟨g1, g2⟩ := rS.of q hq
    constructor
    · show _ = nI (if q = p then s.off q + 1 else s.off q)
      rw [at1]
      by_cases e : q = p
      · rw [if_pos ⟨rfl, e⟩, if_pos e, e]
      · rw [if_neg (fun z => e z.2), if_neg e]
        (repeat rw [if_neg (by omega)])
        exact g1
    · intro k hk
      have hk2 : k < (if q = p then s.off q + 1 else s.off q) := hk
      show _ = (if q = p ∧ k = s.off p then v else s.ofv q k) ∧ _ = nI (if q = p ∧ k = s.off p then s.T else t.oft q k)
      rw [at1, at1]
      by_cases e : q = p ∧ k = s.off p
      · obtain ⟨rfl, rfl⟩ := e
        simp
      · have hne : ¬ (1002 * q + k = 1002 * p + s.off p) := by
          by_cases e2 : q = p
          · subst e2
            omega
          · rw [if_neg e2] at hk2
            omega
        have hk3 : k < s.off q := by
          by_cases e2 : q = p
          · rw [if_pos e2] at hk2
            subst e2
            omega
          · rw [if_neg e2] at hk2
            exact hk2
        rw [if_neg e, if_neg e]
        rw [if_neg (by omega), if_neg (by omega), if_neg (by omega), if_neg (by omega), if_neg (by omega), if_neg (by omega), if_neg (by omega), if_neg (by omega)]
        exact g2 k hk3
  · intro q hq
    rw [uI_ne (by decide), uI_ne (by decide), uI_ne (by decide), uI_nj hq]
end S33
