/-! the reference: buffers, taken, given -/
section S27
variable {d : Nat} {I : Nat → Nat → Int32} {J : Nat → Nat → Int64} {D : DZ}
theorem okN_no {x : Int32} {n : Nat} (hn : n < 2 ^ 31) (h : ¬ okN x n) (h1 : ¬ x < 0) : nI n ≤ x := by
  obtain ⟨j, hj, e⟩ := nI_of h1
  have : n ≤ j := by
    by_cases hl : j < n
    · exact absurd ⟨j, hl, e⟩ h
    · omega
  rw [e]
  exact nI_le this hj
theorem sp_M_buffersN {a b : Int32} (h : I 69 1 = 1) : pm_Go (d + 1) m_M_buffers 0 [some (.ref 69), some (.int a), some (.int b), none] [] 0 0 (ST I J) (.inl (some (.int 0)), ST (pm_uI I 69 0 1) J) := by
  refine go_aload_n d_M_buffers_0 rfl ?_
  refine go_aload_n d_M_buffers_1 rfl ?_
  refine go_gI (j := 1) (1) d_M_buffers_2 (Nat.le_of_ble_eq_true rfl) rfl pc_M (Nat.le_of_ble_eq_true rfl) (by decide) w_703 h ?_
  refine go_if_eq (tgt := 12) d_M_buffers_5 (by decide) (fun z => absurd z (by decide)) (fun z => ?_)
  refine go_iconst (v := 1) d_M_buffers_8 (by decide) ?_
  refine go_goto (tgt := 38) d_M_buffers_9 (by decide) ?_
  refine go_pI (j := 0) d_M_buffers_38 (Nat.le_of_ble_eq_true rfl) rfl pc_M (Nat.le_of_ble_eq_true rfl) (by decide) w_702 rfl (Or.inl rfl) ?_
  refine go_aload_n d_M_buffers_41 rfl ?_
  refine go_gI (j := 0) (1) d_M_buffers_42 (Nat.le_of_ble_eq_true rfl) rfl pc_M (Nat.le_of_ble_eq_true rfl) (by decide) w_702 rfl ?_
  refine go_if_le (tgt := 50) d_M_buffers_45 (by decide) (fun z => absurd z (by decide)) (fun z => ?_)
  refine go_iconst (v := 0) d_M_buffers_48 (by decide) ?_
  exact go_ireturn (st := []) d_M_buffers_49 rfl (Nat.le_of_ble_eq_true rfl) (Nat.le_of_ble_eq_true rfl) rfl
theorem M_buf_t {a b : Int32} : pm_Go (d + 1) m_M_buffers 33 [some (.ref 69), some (.int a), some (.int b), none] [.ref 69] 0 0 (ST I J) (.inl (some (.int 0)), ST (pm_uI I 69 0 2) J) := by
  refine go_iconst (v := 2) d_M_buffers_33 (by decide) ?_
  refine go_goto (tgt := 38) d_M_buffers_34 (by decide) ?_
  refine go_pI (j := 0) d_M_buffers_38 (Nat.le_of_ble_eq_true rfl) rfl pc_M (Nat.le_of_ble_eq_true rfl) (by decide) w_702 rfl (Or.inl rfl) ?_
  refine go_aload_n d_M_buffers_41 rfl ?_
  refine go_gI (j := 0) (2) d_M_buffers_42 (Nat.le_of_ble_eq_true rfl) rfl pc_M (Nat.le_of_ble_eq_true rfl) (by decide) w_702 rfl ?_
  refine go_if_le (tgt := 50) d_M_buffers_45 (by decide) (fun z => absurd z (by decide)) (fun z => ?_)
  refine go_iconst (v := 0) d_M_buffers_48 (by decide) ?_
  exact go_ireturn (st := []) d_M_buffers_49 rfl (Nat.le_of_ble_eq_true rfl) (Nat.le_of_ble_eq_true rfl) rfl
theorem sp_M_buffersX {a b : Int32} (h : I 69 1 = 0) (hD : DW D) (rM : RMD I D) (hx : ¬ okN a D.nc ∨ ¬ okN b 4) : pm_Go (d + 1) m_M_buffers 0 [some (.ref 69), some (.int a), some (.int b), none] [] 0 0 (ST I J) (.inl (some (.int 0)), ST (pm_uI I 69 0 2) J) := by
  have h20 := hD.nc
  refine go_aload_n d_M_buffers_0 rfl ?_
  refine go_aload_n d_M_buffers_1 rfl ?_
  refine go_gI (j := 1) (0) d_M_buffers_2 (Nat.le_of_ble_eq_true rfl) rfl pc_M (Nat.le_of_ble_eq_true rfl) (by decide) w_703 h ?_
  refine go_if_eq (tgt := 12) d_M_buffers_5 (by decide) (fun z => ?_) (fun z => absurd rfl z)
  refine go_iload_n d_M_buffers_12 rfl ?_
  by_cases h1 : a < 0
  · refine go_if_lt (tgt := 33) d_M_buffers_13 (by decide) (fun z => ?_) (fun z => absurd h1 z)
    exact M_buf_t
  · refine go_if_lt (tgt := 33) d_M_buffers_13 (by decide) (fun z => absurd z h1) (fun z => ?_)
    refine go_iload_n d_M_buffers_16 rfl ?_
    refine go_aload_n d_M_buffers_17 rfl ?_
    refine go_gI (j := 5) (nI D.nc) d_M_buffers_18 (Nat.le_of_ble_eq_true rfl) rfl pc_M (Nat.le_of_ble_eq_true rfl) (by decide) w_707 rM.nc ?_
    by_cases ha : okN a D.nc
    · have hb : ¬ okN b 4 := hx.resolve_left (fun z => z ha)
      obtain ⟨k, hk, e⟩ := ha
      subst e
      refine go_icmp_ge (tgt := 33) d_M_buffers_21 (by decide) (fun z => absurd z (nI_ge hk (by omega))) (fun z => ?_)
      refine go_iload_n d_M_buffers_24 rfl ?_
      by_cases h2 : b < 0
      · refine go_if_lt (tgt := 33) d_M_buffers_25 (by decide) (fun z => ?_) (fun z => absurd h2 z)
        exact M_buf_t
      · refine go_if_lt (tgt := 33) d_M_buffers_25 (by decide) (fun z => absurd z h2) (fun z => ?_)
        refine go_iload_n d_M_buffers_28 rfl ?_
        refine go_iconst (v := 3) d_M_buffers_29 (by decide) ?_
        obtain ⟨j, hj, e⟩ := nI_of h2
        have hj5 : 4 ≤ j := by
          by_cases hl : j < 4
          · exact absurd ⟨j, hl, e⟩ hb
          · omega
        refine go_icmp_le (tgt := 37) d_M_buffers_30 (by decide) (fun z => absurd z (by rw [e]; exact nI_ge (a := 3) (by omega) hj)) (fun z => ?_)
        exact M_buf_t
    · refine go_icmp_ge (tgt := 33) d_M_buffers_21 (by decide) (fun z => ?_) (fun z => absurd (okN_no (by omega) ha h1) z)
      exact M_buf_t
theorem sp_M_buffersY {c n : Nat} (h : I 69 1 = 0) (hD : DW D) (rM : RMD I D) (hc : c < D.nc) (hn : n < 4) : ∃ I', pm_Go (d + 1) m_M_buffers 0 [some (.ref 69), some (.int (nI c)), some (.int (nI n)), none] [] 0 0 (ST I J) (.inl (some (.int (nI (D.ex c)))), ST I' J) ∧ RMD I' (bfD D c n) ∧ I' 69 0 = 0 ∧ I' 69 1 = 0 ∧ fr [69, 75] I I' := by
  have h20 := hD.nc
  refine ⟨pm_uI (pm_uI I 69 0 0) 75 c (nI n), ?_, ?_, ?_, ?_, ?_⟩
  · refine go_aload_n d_M_buffers_0 rfl ?_
    refine go_aload_n d_M_buffers_1 rfl ?_
    refine go_gI (j := 1) (0) d_M_buffers_2 (Nat.le_of_ble_eq_true rfl) rfl pc_M (Nat.le_of_ble_eq_true rfl) (by decide) w_703 h ?_
    refine go_if_eq (tgt := 12) d_M_buffers_5 (by decide) (fun z => ?_) (fun z => absurd rfl z)
    refine go_iload_n d_M_buffers_12 rfl ?_
    refine go_if_lt (tgt := 33) d_M_buffers_13 (by decide) (fun z => absurd z (nI_pos (by omega))) (fun z => ?_)
    refine go_iload_n d_M_buffers_16 rfl ?_
    refine go_aload_n d_M_buffers_17 rfl ?_
    refine go_gI (j := 5) (nI D.nc) d_M_buffers_18 (Nat.le_of_ble_eq_true rfl) rfl pc_M (Nat.le_of_ble_eq_true rfl) (by decide) w_707 rM.nc ?_
    refine go_icmp_ge (tgt := 33) d_M_buffers_21 (by decide) (fun z => absurd z (nI_ge hc (by omega))) (fun z => ?_)
    refine go_iload_n d_M_buffers_24 rfl ?_
    refine go_if_lt (tgt := 33) d_M_buffers_25 (by decide) (fun z => absurd z (nI_pos (by omega))) (fun z => ?_)
    refine go_iload_n d_M_buffers_28 rfl ?_
    refine go_iconst (v := 3) d_M_buffers_29 (by decide) ?_
    refine go_icmp_le (tgt := 37) d_M_buffers_30 (by decide) (fun z => ?_) (fun z => absurd (nI_le (b := 3) (by omega) (by decide)) z)
    refine go_iconst (v := 0) d_M_buffers_37 (by decide) ?_
    refine go_pI (j := 0) d_M_buffers_38 (Nat.le_of_ble_eq_true rfl) rfl pc_M (Nat.le_of_ble_eq_true rfl) (by decide) w_702 rfl (Or.inl rfl) ?_
    refine go_aload_n d_M_buffers_41 rfl ?_
    refine go_gI (j := 0) (0) d_M_buffers_42 (Nat.le_of_ble_eq_true rfl) rfl pc_M (Nat.le_of_ble_eq_true rfl) (by decide) w_702 rfl ?_
    refine go_if_le (tgt := 50) d_M_buffers_45 (by decide) (fun z => ?_) (fun z => absurd (show (0 : Int32) ≤ 0 by decide) z)
    refine go_aload_n d_M_buffers_50 rfl ?_
    refine go_getP (j := 9) d_M_buffers_51 (Nat.le_of_ble_eq_true rfl) rfl pc_M (Nat.le_of_ble_eq_true rfl) rfl w_711 pt_M_9 ?_
    refine go_iload_n d_M_buffers_54 rfl ?_
    refine go_ald c (nI (D.ex c)) d_M_buffers_55 (Nat.le_of_ble_eq_true rfl) rfl rfl (by omega) (by decide) (rM.ch c hc).2.2.2.1 ?_
    refine go_istore_n d_M_buffers_56 (Nat.le_of_ble_eq_true rfl) rfl ?_
    refine go_aload_n d_M_buffers_57 rfl ?_
    refine go_getP (j := 9) d_M_buffers_58 (Nat.le_of_ble_eq_true rfl) rfl pc_M (Nat.le_of_ble_eq_true rfl) rfl w_711 pt_M_9 ?_
    refine go_iload_n d_M_buffers_61 rfl ?_
    refine go_iload_n d_M_buffers_62 rfl ?_
    refine go_ast c d_M_buffers_63 (Nat.le_of_ble_eq_true rfl) rfl rfl (by omega) (by decide) ?_
    refine go_iload_n d_M_buffers_64 rfl ?_
    exact go_ireturn (st := []) d_M_buffers_65 rfl (Nat.le_of_ble_eq_true rfl) (Nat.le_of_ble_eq_true rfl) rfl
  · refine RMD.mk rM.nb rM.nc rM.ni rM.no rM.ad rM.bl (fun q hq => ?_) rM.ip rM.ot
    obtain ⟨g1, g2, g3, g4, tt, g5, g6⟩ := rM.ch q hq
    refine ⟨g1, g2, g3, ?_, tt, g5, g6⟩
    show pm_uI (pm_uI I 69 0 0) 75 c (nI n) 75 q = nI (ra_fu D.ex c n q)
    unfold ra_fu
    by_cases e : q = c
    · rw [if_pos e, e, uI_eq]
    · rw [if_neg e, uI_nj e, uI_ne (by decide)]; exact g4
  · rfl
  · exact h
  · exact (fr.uI (by decide)).tr (fr.uI (by decide))
end S27
