/-! the face: run, by the clock -/
section S21
variable {d : Nat} {I : Nat → Nat → Int32} {J : Nat → Nat → Int64} {D : DZ} {s : MS} {cy : Nat}
theorem sp_run {n : Nat} {a : Int32} (h : I 0 4 = 1) (hD : DW D) (hM : MI D s) (rD : RD I D) (rQ : RQ I J D s) (hn : n < 1001) : ∃ I' J', pm_Go 9 m_E_run 0 [some (.ref 0), some (.int (nI n)), some (.int a), none, none] [] 0 0 (ST I J) (.inl (some (.int (nI (min n (1000 - s.T))))), ST I' J') ∧ RQ I' J' D (rnM D a s (min n (1000 - s.T))) ∧ fr [33, 34, 35, 36, 37, 38, 39, 40, 42, 44, 45, 46, 47, 48] I I' ∧ (∀ c, (c < 50 ∨ 53 < c) → J' c = J c) := by
  have hT := hM.T
  generalize hm : min n (1000 - s.T) = m
  have hm2 : m ≤ 1000 - s.T := by omega
  have loop : ∀ k i (Ii : Nat → Nat → Int32) (Ji : Nat → Nat → Int64), m - i = k → i ≤ m → RQ Ii Ji D (rnM D a s i) → fr [33, 34, 35, 36, 37, 38, 39, 40, 42, 44, 45, 46, 47, 48] I Ii → (∀ c, (c < 50 ∨ 53 < c) → Ji c = J c) → ∃ I' J', pm_Go 9 m_E_run 30 [some (.ref 0), some (.int (nI n)), some (.int a), some (.int (nI m)), some (.int (nI i))] [] (mC m_E_mustBeBuilt + mC m_E_mustBeOneOf) (mS m_E_mustBeBuilt + mS m_E_mustBeOneOf) (ST Ii Ji) (.inl (some (.int (nI m))), ST I' J') ∧ RQ I' J' D (rnM D a s m) ∧ fr [33, 34, 35, 36, 37, 38, 39, 40, 42, 44, 45, 46, 47, 48] I I' ∧ (∀ c, (c < 50 ∨ 53 < c) → J' c = J c) := by
    intro k
    induction k with
    | zero =>
      intro i Ii Ji hk hi q1 f1 f2
      have : i = m := by omega
      subst this
      refine ⟨Ii, Ji, ?_, q1, f1, f2⟩
      refine go_iload d_E_run_30 rfl ?_
      refine go_iload_n d_E_run_32 rfl ?_
      refine go_icmp_ge (tgt := 51) d_E_run_33 (by decide) (fun z => ?_) (fun z => absurd (nI_le (Nat.le_refl _) (by omega)) z)
      refine go_iload_n d_E_run_51 rfl ?_
      exact go_ireturn (st := []) d_E_run_52 rfl (Nat.le_of_ble_eq_true rfl) (Nat.le_of_ble_eq_true rfl) rfl
    | succ k ih =>
      intro i Ii Ji hk hi q1 f1 f2
      obtain ⟨I2, J2, a1, a2, a3, a4⟩ := sp_step (d := 4) (stl := a) hD (MI_rn hD hM i (by omega)) (by rw [rn_T]; omega) (rD.fr hD f1 (by decide)) q1
      obtain ⟨I', J', i1, i2⟩ := ih (i + 1) I2 J2 (by omega) (by omega) a2 (f1.tr a3) (fun c hc => by rw [a4 c hc]; exact f2 c hc)
      refine ⟨I', J', ?_, i2⟩
      refine go_iload d_E_run_30 rfl ?_
      refine go_iload_n d_E_run_32 rfl ?_
      refine go_icmp_ge (tgt := 51) d_E_run_33 (by decide) (fun z => absurd z (nI_ge (by omega) (by omega))) (fun z => ?_)
      refine go_aload_n d_E_run_36 rfl ?_
      refine go_getP (j := 1) d_E_run_37 (Nat.le_of_ble_eq_true rfl) rfl pc_E (Nat.le_of_ble_eq_true rfl) rfl w_240 pt_E_1 ?_
      refine go_iload_n d_E_run_40 rfl ?_
      refine go_callV (k2 := m_P_step) (As := [.int a]) (r := some (.int (tlM D (rnM D a s i) a D.nb))) d_E_run_41 ok_P_step (Nat.le_of_ble_eq_true rfl) rfl pc_P rfl vl_E_115 rfl rfl (Nat.le_of_ble_eq_true rfl) (Nat.le_of_ble_eq_true rfl) (Nat.le_of_ble_eq_true rfl) (Nat.le_of_ble_eq_true rfl) rfl rfl a1 ?_
      refine go_pop d_E_run_44 rfl ?_
      refine go_iinc (v := nI (i + 1)) d_E_run_45 rfl (by first | rfl | exact nI_1 _) rfl ?_
      refine go_goto (tgt := 30) d_E_run_48 (by decide) ?_
      exact i1
  obtain ⟨I', J', i1, i2⟩ := loop m 0 I J (by omega) (by omega) rQ fr.rf (fun _ _ => rfl)
  refine ⟨I', J', ?_, i2⟩
  refine go_aload_n d_E_run_0 rfl ?_
  refine go_callV (k2 := m_E_mustBeBuilt) (As := []) (r := none) d_E_run_1 ok_E_mustBeBuilt (Nat.le_of_ble_eq_true rfl) rfl pc_E rfl vl_E_102 rfl rfl (Nat.le_of_ble_eq_true rfl) (Nat.le_of_ble_eq_true rfl) (Nat.le_of_ble_eq_true rfl) (Nat.le_of_ble_eq_true rfl) rfl rfl (sp_mustBeBuiltY h) ?_
  refine go_sipush (v := 1001) d_E_run_4 (by decide) ?_
  refine go_iload_n d_E_run_7 rfl ?_
  refine go_callS (k2 := m_E_mustBeOneOf) (As := [.int (nI 1001), .int (nI n)]) (r := none) d_E_run_8 ok_E_mustBeOneOf sl_E_67 rfl rfl (Nat.le_of_ble_eq_true rfl) (Nat.le_of_ble_eq_true rfl) (Nat.le_of_ble_eq_true rfl) (Nat.le_of_ble_eq_true rfl) rfl rfl (sp_mustBeOneOfY (by decide) hn) ?_
  refine go_iload_n d_E_run_11 rfl ?_
  refine go_sipush (v := 1000) d_E_run_12 (by decide) ?_
  refine go_aload_n d_E_run_15 rfl ?_
  refine go_getP (j := 1) d_E_run_16 (Nat.le_of_ble_eq_true rfl) rfl pc_E (Nat.le_of_ble_eq_true rfl) rfl w_240 pt_E_1 ?_
  refine go_gI (j := 1) (nI s.T) d_E_run_19 (Nat.le_of_ble_eq_true rfl) rfl pc_P (Nat.le_of_ble_eq_true rfl) (by decide) w_115 rQ.T ?_
  refine go_isub d_E_run_22 ?_
  refine go_top (nI (1000 - s.T)) (pk_sub (a := 1000) (by omega)) ?_
  refine go_mmin d_E_run_23 w_557 w_558 w_14 w_559 (Nat.le_of_ble_eq_true rfl) (Nat.le_of_ble_eq_true rfl) (Nat.le_of_ble_eq_true rfl) (Nat.le_of_ble_eq_true rfl) ?_
  refine go_top (nI m) ?_ ?_
  · show (if nI (1000 - s.T) < nI n then nI (1000 - s.T) else nI n) = nI m
    by_cases hlt : 1000 - s.T < n
    · rw [if_pos (nI_lt hlt (by omega)), show m = 1000 - s.T by omega]
    · rw [if_neg (nI_nlt (by omega) (by omega)), show m = n by omega]
  refine go_istore_n d_E_run_26 (Nat.le_of_ble_eq_true rfl) rfl ?_
  refine go_iconst (v := 0) d_E_run_27 (by decide) ?_
  refine go_istore d_E_run_28 (Nat.le_of_ble_eq_true rfl) rfl ?_
  exact i1
theorem byc_least (hD : DW D) (hM : MI D s) (rD : RD I D) (rQ : RQ I J D s) : pm_Go (d + 1) m_P_leastTaken 0 [some (.ref 33), none, none] [] 0 0 (ST I J) (.inl (some (.int (nI (leM D s)))), ST I J) := by
  have hni := hD.ni
  refine sp_leastTaken rD.ni hD.ni (tn := fun p => s.tu (D.ito p)) (fun p hp => ?_)
  have h1 := (rQ.tk p (by omega)).1
  rw [tkM, if_pos hp, wn_len, Nat.sub_zero] at h1
  have h2 := hM.tu (D.ito p) (hD.ip p hp)
  have h3 := hM.T
  exact ⟨h1, by omega⟩
theorem leM_le : leM D s ≤ 1000 := by
  by_cases h : 1000 < leM D s
  · have := ((le_fo (tn := fun p => s.tu (D.ito p)) (k := 1000) D.ni).mp h).1
    omega
  · omega
theorem sp_byClockY {p k : Nat} (h : I 0 4 = 1) (hD : DW D) (hM : MI D s) (rD : RD I D) (rQ : RQ I J D s) (rK : RK I D s cy) (hp : p < D.no) (hk : k < leM D s) : ∃ I' cy', pm_Go 9 m_E_byClock 0 [some (.ref 0), some (.int (nI p)), some (.int (nI k))] [] 0 0 (ST I J) (.inl (some (.int (bcM D s.ofv p k))), ST I' J) ∧ RK I' D s cy' ∧ fr [54, 55, 56, 58, 59, 60, 61] I I' := by
  have hno := hD.no
  have h2 := (le_fo (tn := fun p => s.tu (D.ito p)) D.ni).mp hk
  have hle := leM_le (D := D) (s := s)
  obtain ⟨I', cy', a1, a2⟩ := sp_givenIn (d := 4) hD rD rQ rK hp h2.1 h2.2
  refine ⟨I', cy', ?_, a2⟩
  refine go_aload_n d_E_byClock_0 rfl ?_
  refine go_callV (k2 := m_E_mustBeBuilt) (As := []) (r := none) d_E_byClock_1 ok_E_mustBeBuilt (Nat.le_of_ble_eq_true rfl) rfl pc_E rfl vl_E_102 rfl rfl (Nat.le_of_ble_eq_true rfl) (Nat.le_of_ble_eq_true rfl) (Nat.le_of_ble_eq_true rfl) (Nat.le_of_ble_eq_true rfl) rfl rfl (sp_mustBeBuiltY h) ?_
  refine go_aload_n d_E_byClock_4 rfl ?_
  refine go_getP (j := 0) d_E_byClock_5 (Nat.le_of_ble_eq_true rfl) rfl pc_E (Nat.le_of_ble_eq_true rfl) rfl w_239 pt_E_0 ?_
  refine go_gI (j := 3) (nI D.no) d_E_byClock_8 (Nat.le_of_ble_eq_true rfl) rfl pc_D (Nat.le_of_ble_eq_true rfl) (by decide) w_48 rD.no ?_
  refine go_iload_n d_E_byClock_11 rfl ?_
  refine go_callS (k2 := m_E_mustBeOneOf) (As := [.int (nI D.no), .int (nI p)]) (r := none) d_E_byClock_12 ok_E_mustBeOneOf sl_E_67 rfl rfl (Nat.le_of_ble_eq_true rfl) (Nat.le_of_ble_eq_true rfl) (Nat.le_of_ble_eq_true rfl) (Nat.le_of_ble_eq_true rfl) rfl rfl (sp_mustBeOneOfY (by omega) hp) ?_
  refine go_iload_n d_E_byClock_15 rfl ?_
  refine go_if_lt (tgt := 37) d_E_byClock_16 (by decide) (fun z => absurd z (nI_pos (by omega))) (fun z => ?_)
  refine go_iload_n d_E_byClock_19 rfl ?_
  refine go_sipush (v := 1000) d_E_byClock_20 (by decide) ?_
  refine go_icmp_ge (tgt := 37) d_E_byClock_23 (by decide) (fun z => absurd z (nI_ge (b := 1000) (by omega) (by decide))) (fun z => ?_)
  refine go_iload_n d_E_byClock_26 rfl ?_
  refine go_aload_n d_E_byClock_27 rfl ?_
  refine go_getP (j := 1) d_E_byClock_28 (Nat.le_of_ble_eq_true rfl) rfl pc_E (Nat.le_of_ble_eq_true rfl) rfl w_240 pt_E_1 ?_
  refine go_callV (k2 := m_P_leastTaken) (As := []) (r := some (.int (nI (leM D s)))) d_E_byClock_31 ok_P_leastTaken (Nat.le_of_ble_eq_true rfl) rfl pc_P rfl vl_E_150 rfl rfl (Nat.le_of_ble_eq_true rfl) (Nat.le_of_ble_eq_true rfl) (Nat.le_of_ble_eq_true rfl) (Nat.le_of_ble_eq_true rfl) rfl rfl (byc_least hD hM rD rQ) ?_
  refine go_icmp_lt (tgt := 47) d_E_byClock_34 (by decide) (fun z => ?_) (fun z => absurd (nI_lt hk (by omega)) z)
  refine go_aload_n d_E_byClock_47 rfl ?_
  refine go_getP (j := 2) d_E_byClock_48 (Nat.le_of_ble_eq_true rfl) rfl pc_E (Nat.le_of_ble_eq_true rfl) rfl w_241 pt_E_2 ?_
  refine go_iload_n d_E_byClock_51 rfl ?_
  refine go_iload_n d_E_byClock_52 rfl ?_
  refine go_callV (k2 := m_C_givenIn) (As := [.int (nI p), .int (nI k)]) (r := some (.int (bcM D s.ofv p k))) d_E_byClock_53 ok_C_givenIn (Nat.le_of_ble_eq_true rfl) rfl pc_C rfl vl_E_155 rfl rfl (Nat.le_of_ble_eq_true rfl) (Nat.le_of_ble_eq_true rfl) (Nat.le_of_ble_eq_true rfl) (Nat.le_of_ble_eq_true rfl) rfl rfl a1 ?_
  exact go_ireturn (st := []) d_E_byClock_56 rfl (Nat.le_of_ble_eq_true rfl) (Nat.le_of_ble_eq_true rfl) rfl
theorem sp_byClock_X3 {p : Nat} {b : Int32} (h : I 0 4 = 1) (hD : DW D) (hM : MI D s) (rD : RD I D) (rQ : RQ I J D s) (hp : p < D.no) (hx : ¬ okN b (leM D s)) : pm_Go 9 m_E_byClock 0 [some (.ref 0), some (.int (nI p)), some (.int b)] [] 0 0 (ST I J) (.inr "java/lang/IndexOutOfBoundsException", ST I J) := by
  have hno := hD.no
  have hle := leM_le (D := D) (s := s)
  refine go_aload_n d_E_byClock_0 rfl ?_
  refine go_callV (k2 := m_E_mustBeBuilt) (As := []) (r := none) d_E_byClock_1 ok_E_mustBeBuilt (Nat.le_of_ble_eq_true rfl) rfl pc_E rfl vl_E_102 rfl rfl (Nat.le_of_ble_eq_true rfl) (Nat.le_of_ble_eq_true rfl) (Nat.le_of_ble_eq_true rfl) (Nat.le_of_ble_eq_true rfl) rfl rfl (sp_mustBeBuiltY h) ?_
  refine go_aload_n d_E_byClock_4 rfl ?_
  refine go_getP (j := 0) d_E_byClock_5 (Nat.le_of_ble_eq_true rfl) rfl pc_E (Nat.le_of_ble_eq_true rfl) rfl w_239 pt_E_0 ?_
  refine go_gI (j := 3) (nI D.no) d_E_byClock_8 (Nat.le_of_ble_eq_true rfl) rfl pc_D (Nat.le_of_ble_eq_true rfl) (by decide) w_48 rD.no ?_
  refine go_iload_n d_E_byClock_11 rfl ?_
  refine go_callS (k2 := m_E_mustBeOneOf) (As := [.int (nI D.no), .int (nI p)]) (r := none) d_E_byClock_12 ok_E_mustBeOneOf sl_E_67 rfl rfl (Nat.le_of_ble_eq_true rfl) (Nat.le_of_ble_eq_true rfl) (Nat.le_of_ble_eq_true rfl) (Nat.le_of_ble_eq_true rfl) rfl rfl (sp_mustBeOneOfY (by omega) hp) ?_
  refine go_iload_n d_E_byClock_15 rfl ?_
  by_cases h1 : b < 0
  · refine go_if_lt (tgt := 37) d_E_byClock_16 (by decide) (fun z => ?_) (fun z => absurd h1 z)
    exact go_throwS d_E_byClock_37 d_E_byClock_40 d_E_byClock_41 d_E_byClock_43 d_E_byClock_46 tw_cy rfl (by decide) (by decide) (Nat.le_of_ble_eq_true rfl) (Nat.le_of_ble_eq_true rfl) rfl
  · refine go_if_lt (tgt := 37) d_E_byClock_16 (by decide) (fun z => absurd z h1) (fun z => ?_)
    refine go_iload_n d_E_byClock_19 rfl ?_
    refine go_sipush (v := 1000) d_E_byClock_20 (by decide) ?_
    by_cases h2 : (1000 : Int32) ≤ b
    · refine go_icmp_ge (tgt := 37) d_E_byClock_23 (by decide) (fun z => ?_) (fun z => absurd h2 z)
      exact go_throwS d_E_byClock_37 d_E_byClock_40 d_E_byClock_41 d_E_byClock_43 d_E_byClock_46 tw_cy rfl (by decide) (by decide) (Nat.le_of_ble_eq_true rfl) (Nat.le_of_ble_eq_true rfl) rfl
    · refine go_icmp_ge (tgt := 37) d_E_byClock_23 (by decide) (fun z => absurd z h2) (fun z => ?_)
      refine go_iload_n d_E_byClock_26 rfl ?_
      refine go_aload_n d_E_byClock_27 rfl ?_
      refine go_getP (j := 1) d_E_byClock_28 (Nat.le_of_ble_eq_true rfl) rfl pc_E (Nat.le_of_ble_eq_true rfl) rfl w_240 pt_E_1 ?_
      refine go_callV (k2 := m_P_leastTaken) (As := []) (r := some (.int (nI (leM D s)))) d_E_byClock_31 ok_P_leastTaken (Nat.le_of_ble_eq_true rfl) rfl pc_P rfl vl_E_150 rfl rfl (Nat.le_of_ble_eq_true rfl) (Nat.le_of_ble_eq_true rfl) (Nat.le_of_ble_eq_true rfl) (Nat.le_of_ble_eq_true rfl) rfl rfl (byc_least hD hM rD rQ) ?_
      refine go_icmp_lt (tgt := 47) d_E_byClock_34 (by decide) (fun z => absurd (okN_of (by omega) h1 z) hx) (fun z => ?_)
      exact go_throwS d_E_byClock_37 d_E_byClock_40 d_E_byClock_41 d_E_byClock_43 d_E_byClock_46 tw_cy rfl (by decide) (by decide) (Nat.le_of_ble_eq_true rfl) (Nat.le_of_ble_eq_true rfl) rfl
end S21
