/-! the reference: a run -/
def rtM (D : DZ) (a : Int32) (s : MS) (t : TS) : Nat → TS
  | 0 => t
  | k + 1 => ftM (rnM D a s k) (rtM D a s t k) a
section S49
variable {d : Nat} {I : Nat → Nat → Int32} {J : Nat → Nat → Int64} {D : DZ} {s : MS} {t : TS}
theorem TB_st {a : Int32} (hB : TB s t) (hT : s.T ≤ 1000) : TB (stepM D s a) (ftM s t a) := TB_ft (D := D) (stl := a) (A := nA) (G := nA) (H := nA) (B := T2) hB hT
theorem TI_rn {a : Int32} (hD : DW D) (hM : MI D s) (hI : TI D s t) : ∀ k, s.T + k ≤ 1000 → TI D (rnM D a s k) (rtM D a s t k)
  | 0, _ => hI
  | k + 1, h => TI_step hD (MI_rn hD hM k (by omega)) (TI_rn hD hM hI k (by omega))
theorem TB_rn {a : Int32} (hB : TB s t) : ∀ k, s.T + k ≤ 1000 → TB (rnM D a s k) (rtM D a s t k)
  | 0, _ => hB
  | k + 1, h => TB_st (TB_rn hB k (by omega)) (by rw [rn_T]; omega)
theorem sp_M_runN {a b : Int32} (h : I 69 1 = 0) : pm_Go (d + 6) m_M_run 0 [some (.ref 69), some (.int a), some (.int b), none, none] [] 0 0 (ST I J) (.inl (some (.int 0)), ST (pm_uI I 69 0 1) J) := by
  refine go_aload_n d_M_run_0 rfl ?_
  refine go_aload_n d_M_run_1 rfl ?_
  refine go_gI (j := 1) (0) d_M_run_2 (Nat.le_of_ble_eq_true rfl) rfl pc_M (Nat.le_of_ble_eq_true rfl) (by decide) w_703 h ?_
  refine go_if_ne (tgt := 12) d_M_run_5 (by decide) (fun z => absurd rfl z) (fun z => ?_)
  refine go_iconst (v := 1) d_M_run_8 (by decide) ?_
  refine go_goto (tgt := 28) d_M_run_9 (by decide) ?_
  refine go_pI (j := 0) d_M_run_28 (Nat.le_of_ble_eq_true rfl) rfl pc_M (Nat.le_of_ble_eq_true rfl) (by decide) w_702 rfl (Or.inl rfl) ?_
  refine go_iconst (v := 0) d_M_run_31 (by decide) ?_
  refine go_istore_n d_M_run_32 (Nat.le_of_ble_eq_true rfl) rfl ?_
  refine go_aload_n d_M_run_33 rfl ?_
  refine go_gI (j := 0) (1) d_M_run_34 (Nat.le_of_ble_eq_true rfl) rfl pc_M (Nat.le_of_ble_eq_true rfl) (by decide) w_702 rfl ?_
  refine go_if_ne (tgt := 68) d_M_run_37 (by decide) (fun z => ?_) (fun z => absurd z (by decide))
  refine go_iload_n d_M_run_68 rfl ?_
  exact go_ireturn (st := []) d_M_run_69 rfl (Nat.le_of_ble_eq_true rfl) (Nat.le_of_ble_eq_true rfl) rfl
theorem M_run_t {a b : Int32} : pm_Go (d + 6) m_M_run 23 [some (.ref 69), some (.int a), some (.int b), none, none] [.ref 69] 0 0 (ST I J) (.inl (some (.int 0)), ST (pm_uI I 69 0 2) J) := by
  refine go_iconst (v := 2) d_M_run_23 (by decide) ?_
  refine go_goto (tgt := 28) d_M_run_24 (by decide) ?_
  refine go_pI (j := 0) d_M_run_28 (Nat.le_of_ble_eq_true rfl) rfl pc_M (Nat.le_of_ble_eq_true rfl) (by decide) w_702 rfl (Or.inl rfl) ?_
  refine go_iconst (v := 0) d_M_run_31 (by decide) ?_
  refine go_istore_n d_M_run_32 (Nat.le_of_ble_eq_true rfl) rfl ?_
  refine go_aload_n d_M_run_33 rfl ?_
  refine go_gI (j := 0) (2) d_M_run_34 (Nat.le_of_ble_eq_true rfl) rfl pc_M (Nat.le_of_ble_eq_true rfl) (by decide) w_702 rfl ?_
  refine go_if_ne (tgt := 68) d_M_run_37 (by decide) (fun z => ?_) (fun z => absurd z (by decide))
  refine go_iload_n d_M_run_68 rfl ?_
  exact go_ireturn (st := []) d_M_run_69 rfl (Nat.le_of_ble_eq_true rfl) (Nat.le_of_ble_eq_true rfl) rfl
theorem sp_M_runX {a b : Int32} (h : I 69 1 = 1) (hx : ¬ okN a 1001) : pm_Go (d + 6) m_M_run 0 [some (.ref 69), some (.int a), some (.int b), none, none] [] 0 0 (ST I J) (.inl (some (.int 0)), ST (pm_uI I 69 0 2) J) := by
  refine go_aload_n d_M_run_0 rfl ?_
  refine go_aload_n d_M_run_1 rfl ?_
  refine go_gI (j := 1) (1) d_M_run_2 (Nat.le_of_ble_eq_true rfl) rfl pc_M (Nat.le_of_ble_eq_true rfl) (by decide) w_703 h ?_
  refine go_if_ne (tgt := 12) d_M_run_5 (by decide) (fun z => ?_) (fun z => absurd z (by decide))
  refine go_iload_n d_M_run_12 rfl ?_
  by_cases h1 : a < 0
  · refine go_if_lt (tgt := 23) d_M_run_13 (by decide) (fun z => ?_) (fun z => absurd h1 z)
    exact M_run_t
  · refine go_if_lt (tgt := 23) d_M_run_13 (by decide) (fun z => absurd z h1) (fun z => ?_)
    refine go_iload_n d_M_run_16 rfl ?_
    refine go_sipush (v := 1000) d_M_run_17 (by decide) ?_
    obtain ⟨j, hj, e⟩ := nI_of h1
    have hj5 : 1001 ≤ j := by
      by_cases hl : j < 1001
      · exact absurd ⟨j, hl, e⟩ hx
      · omega
    refine go_icmp_le (tgt := 27) d_M_run_20 (by decide) (fun z => absurd z (by rw [e]; exact nI_ge (a := 1000) (by omega) hj)) (fun z => ?_)
    exact M_run_t
theorem sp_M_runY {n : Nat} {a : Int32} (h : I 69 1 = 1) (hD : DW D) (hM : MI D s) (hI : TI D s t) (hB : TB s t) (rM : RMD I D) (rS : RMS I D s t) (hn : n < 1001) : ∃ I', pm_Go (d + 6) m_M_run 0 [some (.ref 69), some (.int (nI n)), some (.int a), none, none] [] 0 0 (ST I J) (.inl (some (.int (nI (min n (1000 - s.T))))), ST I' J) ∧ RMS I' D (rnM D a s (min n (1000 - s.T))) (rtM D a s t (min n (1000 - s.T))) ∧ (∀ q, q ≠ 18 → q ≠ 0 → I' 69 q = I 69 q) ∧ I' 69 0 = 0 ∧ fr (69 :: 81 :: stL) I I' := by
  have hT := hM.T
  generalize hm : min n (1000 - s.T) = m
  have hm2 : m ≤ 1000 - s.T := by omega
  have loop : ∀ k i (Ii : Nat → Nat → Int32) (w4 : Option Value), m - i = k → i ≤ m → RMS Ii D (rnM D a s i) (rtM D a s t i) → (∀ q, q ≠ 18 → q ≠ 0 → Ii 69 q = I 69 q) → Ii 69 0 = 0 → fr (69 :: 81 :: stL) I Ii → pm_lt 104 [w4] [] = true → ∃ I', pm_Go (d + 6) m_M_run 33 [some (.ref 69), some (.int (nI n)), some (.int a), some (.int (nI i)), w4] [] 0 0 (ST Ii J) (.inl (some (.int (nI m))), ST I' J) ∧ RMS I' D (rnM D a s m) (rtM D a s t m) ∧ (∀ q, q ≠ 18 → q ≠ 0 → I' 69 q = I 69 q) ∧ I' 69 0 = 0 ∧ fr (69 :: 81 :: stL) I I' := by
    intro k
    induction k with
    | zero =>
      intro i Ii w4 hk hi q1 q2 q3 f1 hw4
      have : i = m := by omega
      subst this
      have eT := q1.T
      rw [rn_T] at eT
      refine ⟨Ii, ?_, q1, q2, q3, f1⟩
      refine go_aload_n d_M_run_33 rfl ?_
      refine go_gI (j := 0) (0) d_M_run_34 (Nat.le_of_ble_eq_true rfl) rfl pc_M (Nat.le_of_ble_eq_true rfl) (by decide) w_702 q3 ?_
      refine go_if_ne (tgt := 68) d_M_run_37 (by decide) (fun z => absurd rfl z) (fun z => ?_)
      refine go_iload_n d_M_run_40 rfl ?_
      refine go_iload_n d_M_run_41 rfl ?_
      by_cases hl : n ≤ i
      · refine go_icmp_ge (tgt := 68) d_M_run_42 (by decide) (fun z => ?_) (fun z => absurd (nI_le hl (by omega)) z)
        refine go_iload_n d_M_run_68 rfl ?_
        exact go_ireturn (st := []) d_M_run_69 rfl (Nat.le_of_ble_eq_true rfl) (Nat.le_of_ble_eq_true rfl) rfl
      · refine go_icmp_ge (tgt := 68) d_M_run_42 (by decide) (fun z => absurd z (nI_ge (by omega) (by omega))) (fun z => ?_)
        refine go_aload_n d_M_run_45 rfl ?_
        refine go_gI (j := 18) (nI (s.T + i)) d_M_run_46 (Nat.le_of_ble_eq_true rfl) rfl pc_M (Nat.le_of_ble_eq_true rfl) (by decide) w_720 eT ?_
        refine go_sipush (v := 1000) d_M_run_49 (by decide) ?_
        refine go_icmp_ge (tgt := 68) d_M_run_52 (by decide) (fun z => ?_) (fun z => absurd (nI_le (a := 1000) (by omega) (by omega)) z)
        refine go_iload_n d_M_run_68 rfl ?_
        exact go_ireturn (st := []) d_M_run_69 rfl (Nat.le_of_ble_eq_true rfl) (Nat.le_of_ble_eq_true rfl) rfl
    | succ k ih =>
      intro i Ii w4 hk hi q1 q2 q3 f1 hw4
      have eT := q1.T
      rw [rn_T] at eT
      have rMi : RMD Ii D := by
        refine rM.cg (fun j hj => q2 j (by omega) (by omega)) (fun c h1 h2 => f1 c (by unfold stL; simp; omega))
      obtain ⟨I2, a1, a2, a3, a4⟩ := sp_M_one (d := d) (J := J) (stl := a) hD (MI_rn hD hM i (by omega)) (TI_rn hD hM hI i (by omega)) (by rw [rn_T]; omega) (TB_rn hB i (by omega)) rMi q1
      obtain ⟨I', i1, i2⟩ := ih (i + 1) I2 (some (.int (tlM D (rnM D a s i) a D.nb))) (by omega) (by omega) a2 (fun q h1 h2 => by rw [a3 q h1]; exact q2 q h1 h2) (by rw [a3 0 (by decide)]; exact q3) (f1.tr a4) rfl
      refine ⟨I', ?_, i2⟩
      refine go_aload_n d_M_run_33 rfl ?_
      refine go_gI (j := 0) (0) d_M_run_34 (Nat.le_of_ble_eq_true rfl) rfl pc_M (Nat.le_of_ble_eq_true rfl) (by decide) w_702 q3 ?_
      refine go_if_ne (tgt := 68) d_M_run_37 (by decide) (fun z => absurd rfl z) (fun z => ?_)
      refine go_iload_n d_M_run_40 rfl ?_
      refine go_iload_n d_M_run_41 rfl ?_
      refine go_icmp_ge (tgt := 68) d_M_run_42 (by decide) (fun z => absurd z (nI_ge (by omega) (by omega))) (fun z => ?_)
      refine go_aload_n d_M_run_45 rfl ?_
      refine go_gI (j := 18) (nI (s.T + i)) d_M_run_46 (Nat.le_of_ble_eq_true rfl) rfl pc_M (Nat.le_of_ble_eq_true rfl) (by decide) w_720 eT ?_
      refine go_sipush (v := 1000) d_M_run_49 (by decide) ?_
      refine go_icmp_ge (tgt := 68) d_M_run_52 (by decide) (fun z => absurd z (nI_ge (b := 1000) (by omega) (by decide))) (fun z => ?_)
      refine go_aload_n d_M_run_55 rfl ?_
      refine go_iload_n d_M_run_56 rfl ?_
      refine go_callV (k2 := m_M_one) (As := [.int a]) (r := some (.int (tlM D (rnM D a s i) a D.nb)))  d_M_run_57 ok_M_one (Nat.le_of_ble_eq_true rfl) rfl pc_M rfl vl_M_192 rfl rfl (Nat.le_of_ble_eq_true rfl) (Nat.le_of_ble_eq_true rfl) (Nat.le_of_ble_eq_true rfl) (Nat.le_of_ble_eq_true rfl) (lt_S hw4) rfl a1 ?_
      refine go_istore d_M_run_60 (Nat.le_of_ble_eq_true rfl) rfl ?_
      refine go_iinc (v := nI (i + 1)) d_M_run_62 rfl (by first | rfl | exact nI_1 _) rfl ?_
      refine go_goto (tgt := 33) d_M_run_65 (by decide) ?_
      exact i1
  obtain ⟨I', i1, i2⟩ := loop m 0 (pm_uI I 69 0 0) none (by omega) (by omega) rS.th (fun q h1 h2 => uI_nj h2) uI_eq (fr.uI (by decide)) rfl
  refine ⟨I', ?_, i2⟩
  refine go_aload_n d_M_run_0 rfl ?_
  refine go_aload_n d_M_run_1 rfl ?_
  refine go_gI (j := 1) (1) d_M_run_2 (Nat.le_of_ble_eq_true rfl) rfl pc_M (Nat.le_of_ble_eq_true rfl) (by decide) w_703 h ?_
  refine go_if_ne (tgt := 12) d_M_run_5 (by decide) (fun z => ?_) (fun z => absurd z (by decide))
  refine go_iload_n d_M_run_12 rfl ?_
  refine go_if_lt (tgt := 23) d_M_run_13 (by decide) (fun z => absurd z (nI_pos (by omega))) (fun z => ?_)
  refine go_iload_n d_M_run_16 rfl ?_
  refine go_sipush (v := 1000) d_M_run_17 (by decide) ?_
  refine go_icmp_le (tgt := 27) d_M_run_20 (by decide) (fun z => ?_) (fun z => absurd (nI_le (b := 1000) (by omega) (by decide)) z)
  refine go_iconst (v := 0) d_M_run_27 (by decide) ?_
  refine go_pI (j := 0) d_M_run_28 (Nat.le_of_ble_eq_true rfl) rfl pc_M (Nat.le_of_ble_eq_true rfl) (by decide) w_702 rfl (Or.inl rfl) ?_
  refine go_iconst (v := 0) d_M_run_31 (by decide) ?_
  refine go_istore_n d_M_run_32 (Nat.le_of_ble_eq_true rfl) rfl ?_
  exact i1
end S49
