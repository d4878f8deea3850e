/-! the calls of a script that are made otherwise: build, restart, clear, value -/
section S53
variable {I : Nat → Nat → Int32} {J : Nat → Nat → Int64} {D : DZ} {s : MS} {t : TS} {RT : DZ → Nat × Nat} {d : Nat}
theorem TB_ini : TB (iniM D) t0M := TB.mk (fun _ _ => Nat.zero_le _) (fun _ _ _ => Nat.zero_le _) (fun _ _ => Nat.zero_le _) (fun _ _ => Nat.zero_le _) (fun _ _ => Nat.zero_le _)
theorem TI_ini0 : TI D (iniM D) t0M := TI_ini
theorem sp_M_buildN (h : I 69 1 = 1) : pm_Go (d + 1) m_M_build 0 [some (.ref 69), none, none] [] 0 0 (ST I J) (.inl (some (.int 0)), ST (pm_uI I 69 0 1) J) := by
  refine go_aload_n d_M_build_0 rfl ?_
  refine go_aload_n d_M_build_1 rfl ?_
  refine go_gI (j := 1) (1) d_M_build_2 (Nat.le_of_ble_eq_true rfl) rfl pc_M (Nat.le_of_ble_eq_true rfl) (by decide) w_703 h ?_
  refine go_if_eq (tgt := 12) d_M_build_5 (by decide) (fun z => absurd z (by decide)) (fun z => ?_)
  refine go_iconst (v := 1) d_M_build_8 (by decide) ?_
  refine go_goto (tgt := 13) d_M_build_9 (by decide) ?_
  refine go_pI (j := 0) d_M_build_13 (Nat.le_of_ble_eq_true rfl) rfl pc_M (Nat.le_of_ble_eq_true rfl) (by decide) w_702 rfl (Or.inl rfl) ?_
  refine go_aload_n d_M_build_16 rfl ?_
  refine go_gI (j := 0) (1) d_M_build_17 (Nat.le_of_ble_eq_true rfl) rfl pc_M (Nat.le_of_ble_eq_true rfl) (by decide) w_702 rfl ?_
  refine go_if_le (tgt := 25) d_M_build_20 (by decide) (fun z => absurd z (by decide)) (fun z => ?_)
  refine go_iconst (v := 0) d_M_build_23 (by decide) ?_
  exact go_ireturn (st := []) d_M_build_24 rfl (Nat.le_of_ble_eq_true rfl) (Nat.le_of_ble_eq_true rfl) rfl
theorem sum_b {D : DZ} (hD : DW D) : ∀ n, n ≤ D.nc → fo (fun a i => a + D.ex i) D.nc n ≤ D.nc + 3 * n
  | 0, _ => Nat.le_refl _
  | n + 1, h => by
    have h1 := sum_b hD n (by omega)
    have h2 := (hD.ch n (by omega)).2.2
    show fo (fun a i => a + D.ex i) D.nc n + D.ex n ≤ _
    omega
theorem sp_M_buildY (hR : RateM RT) (h : I 69 1 = 0) (hD : DW D) (rM : RMD I D) (hx : ∃ I0 : Nat → Nat → Int32, RD I0 D) : ∃ I', pm_Go 10 m_M_build 0 [some (.ref 69), none, none] [] 0 0 (ST I J) (.inl (some (.int (nI (fo (fun a i => a + D.ex i) D.nc D.nc)))), ST I' J) ∧ RMD I' D ∧ RMS I' D (iniM D) t0M ∧ I' 69 0 = 0 ∧ I' 69 1 = 1 ∧ I' 69 43 = nI (RT D).1 ∧ I' 69 44 = nI (RT D).2 ∧ fr [69, 82, 84, 86, 88, 91, 94, 97, 98, 99, 100, 101, 102] I I' := by
  have h20 := hD.nc
  have f1 : fr [69] I (pm_uI (pm_uI I 69 0 0) 69 1 1) := (fr.uI (by decide)).tr (fr.uI (by decide))
  have rM1 : RMD (pm_uI (pm_uI I 69 0 0) 69 1 1) D := by
    refine rM.cg (fun j hj => ?_) (fun c h1 h2 => f1 c (by simp; omega))
    rw [uI_nj (by omega), uI_nj (by omega)]
  obtain ⟨I2, b1, b2, b3, f2⟩ := sp_M_begin (d := 9) (J := J) hD rM1
  have rM2 : RMD I2 D := rM1.cg (fun j hj => b3 j (by omega)) (fun c h1 h2 => f2 c (by simp; omega))
  obtain ⟨I3, c1, c2, c3, c4, f3⟩ := hR I2 J D hD rM2 hx
  have rM3 : RMD I3 D := rM2.cg (fun j hj => c4 j (by omega)) (fun c h1 h2 => f3 c (by simp; omega))
  have rS3 : RMS I3 D (iniM D) t0M := b2.fr (fun c h1 h2 => f3 c (by simp; omega)) (c4 18 (by decide))
  refine ⟨I3, ?_, rM3, rS3, ?_, ?_, c2, c3, ((f1.up (by decide)).tr (f2.up (by decide))).tr (f3.up (by decide))⟩
  · have loop : ∀ n c, D.nc - c = n → c ≤ D.nc → pm_Go 10 m_M_build 45 [some (.ref 69), some (.int (nI (fo (fun a i => a + D.ex i) D.nc c))), some (.int (nI c))] [] 0 0 (ST I3 J) (.inl (some (.int (nI (fo (fun a i => a + D.ex i) D.nc D.nc)))), ST I3 J) := by
      intro n
      induction n with
      | zero =>
        intro c hn hc
        have : c = D.nc := by omega
        subst this
        refine go_iload_n d_M_build_45 rfl ?_
        refine go_aload_n d_M_build_46 rfl ?_
        refine go_gI (j := 5) (nI D.nc) d_M_build_47 (Nat.le_of_ble_eq_true rfl) rfl pc_M (Nat.le_of_ble_eq_true rfl) (by decide) w_707 rM3.nc ?_
        refine go_icmp_ge (tgt := 68) d_M_build_50 (by decide) (fun z => ?_) (fun z => absurd (nI_le (Nat.le_refl _) (by omega)) z)
        refine go_iload_n d_M_build_68 rfl ?_
        exact go_ireturn (st := []) d_M_build_69 rfl (Nat.le_of_ble_eq_true rfl) (Nat.le_of_ble_eq_true rfl) rfl
      | succ n ih =>
        intro c hn hc
        have hc2 : c < D.nc := by omega
        have i1 := ih (c + 1) (by omega) (by omega)
        refine go_iload_n d_M_build_45 rfl ?_
        refine go_aload_n d_M_build_46 rfl ?_
        refine go_gI (j := 5) (nI D.nc) d_M_build_47 (Nat.le_of_ble_eq_true rfl) rfl pc_M (Nat.le_of_ble_eq_true rfl) (by decide) w_707 rM3.nc ?_
        refine go_icmp_ge (tgt := 68) d_M_build_50 (by decide) (fun z => absurd z (nI_ge (by omega) (by omega))) (fun z => ?_)
        refine go_iload_n d_M_build_53 rfl ?_
        refine go_aload_n d_M_build_54 rfl ?_
        refine go_getP (j := 9) d_M_build_55 (Nat.le_of_ble_eq_true rfl) rfl pc_M (Nat.le_of_ble_eq_true rfl) rfl w_711 pt_M_9 ?_
        refine go_iload_n d_M_build_58 rfl ?_
        refine go_ald c (nI (D.ex c)) d_M_build_59 (Nat.le_of_ble_eq_true rfl) rfl rfl (by omega) (by decide) (rM3.ch c hc2).2.2.2.1 ?_
        refine go_iadd d_M_build_60 ?_
        refine go_top (nI (fo (fun a i => a + D.ex i) D.nc (c + 1))) (nI_add _ _) ?_
        refine go_istore_n d_M_build_61 (Nat.le_of_ble_eq_true rfl) rfl ?_
        refine go_iinc (v := nI (c + 1)) d_M_build_62 rfl (by first | rfl | exact nI_1 _) rfl ?_
        refine go_goto (tgt := 45) d_M_build_65 (by decide) ?_
        exact i1
    have i0 := loop D.nc 0 (by omega) (by omega)
    refine go_aload_n d_M_build_0 rfl ?_
    refine go_aload_n d_M_build_1 rfl ?_
    refine go_gI (j := 1) (0) d_M_build_2 (Nat.le_of_ble_eq_true rfl) rfl pc_M (Nat.le_of_ble_eq_true rfl) (by decide) w_703 h ?_
    refine go_if_eq (tgt := 12) d_M_build_5 (by decide) (fun z => ?_) (fun z => absurd rfl z)
    refine go_iconst (v := 0) d_M_build_12 (by decide) ?_
    refine go_pI (j := 0) d_M_build_13 (Nat.le_of_ble_eq_true rfl) rfl pc_M (Nat.le_of_ble_eq_true rfl) (by decide) w_702 rfl (Or.inl rfl) ?_
    refine go_aload_n d_M_build_16 rfl ?_
    refine go_gI (j := 0) (0) d_M_build_17 (Nat.le_of_ble_eq_true rfl) rfl pc_M (Nat.le_of_ble_eq_true rfl) (by decide) w_702 rfl ?_
    refine go_if_le (tgt := 25) d_M_build_20 (by decide) (fun z => ?_) (fun z => absurd (show (0 : Int32) ≤ 0 by decide) z)
    refine go_aload_n d_M_build_25 rfl ?_
    refine go_iconst (v := 1) d_M_build_26 (by decide) ?_
    refine go_pI (j := 1) d_M_build_27 (Nat.le_of_ble_eq_true rfl) rfl pc_M (Nat.le_of_ble_eq_true rfl) (by decide) w_703 rfl (Or.inr ⟨rfl, Or.inr rfl⟩) ?_
    refine go_aload_n d_M_build_30 rfl ?_
    refine go_callV (k2 := m_M_begin) (As := []) (r := none) d_M_build_31 ok_M_begin (Nat.le_of_ble_eq_true rfl) rfl pc_M rfl vl_M_137 rfl rfl (Nat.le_of_ble_eq_true rfl) (Nat.le_of_ble_eq_true rfl) (Nat.le_of_ble_eq_true rfl) (Nat.le_of_ble_eq_true rfl) rfl rfl b1 ?_
    refine go_aload_n d_M_build_34 rfl ?_
    refine go_callV (k2 := m_M_reckon) (As := []) (r := none) d_M_build_35 ok_M_reckon (Nat.le_of_ble_eq_true rfl) rfl pc_M rfl vl_M_140 rfl rfl (Nat.le_of_ble_eq_true rfl) (Nat.le_of_ble_eq_true rfl) (Nat.le_of_ble_eq_true rfl) (Nat.le_of_ble_eq_true rfl) rfl rfl c1 ?_
    refine go_aload_n d_M_build_38 rfl ?_
    refine go_gI (j := 5) (nI D.nc) d_M_build_39 (Nat.le_of_ble_eq_true rfl) rfl pc_M (Nat.le_of_ble_eq_true rfl) (by decide) w_707 rM3.nc ?_
    refine go_istore_n d_M_build_42 (Nat.le_of_ble_eq_true rfl) rfl ?_
    refine go_iconst (v := 0) d_M_build_43 (by decide) ?_
    refine go_istore_n d_M_build_44 (Nat.le_of_ble_eq_true rfl) rfl ?_
    exact i0
  · rw [c4 0 (by decide), b3 0 (by decide), uI_nj (by decide), uI_eq]
  · rw [c4 1 (by decide), b3 1 (by decide), uI_eq]
theorem op_build (hR : RateM RT) (hL : LW RT I J) : opG m_L_build m_M_build [some (.ref 0), some (.ref 103), none] [some (.ref 69), none, none] RT I J := by
  obtain ⟨D, hV⟩ := hL
  obtain ⟨hD, rD, rM, hh⟩ := id hV
  rcases hh with ⟨e0, e1⟩ | ⟨s, t, cy, hB⟩
  · obtain ⟨I1, a1, a2, a3, a4, a5, a6, f1⟩ := sp_build (J := J) e0 hD rD
    obtain ⟨I2, b1, b2, b3, b4, b5, b6, b7, f2⟩ := sp_M_buildY (J := pm_uJ J 103 0 (nI (fo (fun a i => a + D.ex i) D.nc D.nc)).toInt64) hR (by rw [f1 69 (by decide)]; exact e1) hD (rM.fr f1 (by decide)) ⟨I, rD⟩
    refine op_new (D := D) (lwok_build a1) b1 b4 ⟨hD, a2.fr hD f2 (by decide), b2, Or.inr ⟨iniM D, t0M, 0, LB.mk ?_ b5 MI_ini TI_ini0 TB_ini (a5.fr f2 (by decide)) (a6.fr hD f2 (by decide)) b3 ⟨b6, b7⟩ (Or.inl ?_)⟩⟩ f1 f2 (by decide) (by decide)
    · rw [f2 0 (by decide)]; exact a3
    · rw [f2 62 (by decide)]; exact a4
  · exact op_ref (k := 1) (by decide) (lwex_build1 (sp_build_X1 hB.e)) (sp_M_buildN hB.m) hV
/-- a value told -/
theorem op_value (hL : LW RT I J) (a b : Int32) : ∃ k r I1 J1 I2, pm_Go 10 m_L_value 0 [some (.ref 0), some (.int a), some (.int b), some (.ref 103), none] [] 0 0 (ST I J) (.inl (some (.int k)), ST I1 J1) ∧ pm_Go 10 m_M_value 0 [some (.ref 69), some (.int a), some (.int b)] [] 0 0 (ST I1 J1) (.inl (some (.long r)), ST I2 J1) ∧ I2 69 0 = k ∧ (k = 0 → J1 103 0 = r) ∧ LW RT I2 J1 ∧ (I1 1000 = I 1000 ∧ I1 1001 = I 1001) ∧ I2 1000 = I 1000 ∧ I2 1001 = I 1001 := by
  obtain ⟨D, hV⟩ := hL
  obtain ⟨hD, rD, rM, hh⟩ := id hV
  have h4 := hD.no
  rcases hh with ⟨e0, e1⟩ | ⟨s, t, cy, hB⟩
  · exact ⟨1, 0, I, J, pm_uI I 69 0 1, lwex_value1 (sp_value_X1 e0), sp_M_valueN e1, uI_eq, fun z => absurd z (by decide), ⟨D, hV.th⟩, ⟨rfl, rfl⟩, rfl, rfl⟩
  · by_cases ha : okN a D.no
    · obtain ⟨p, hp, rfl⟩ := ha
      obtain ⟨e48, e49, e50⟩ := hB.Q.gv p (by omega)
      have eg : gvM D s p = wn (fun k => tv (nI (s.ouT p k)) (s.ous p k)) 0 (s.ou p) := by rw [gvM, if_pos hp]
      rw [eg, wn_len, Nat.sub_zero] at e48 e49
      by_cases hb : okN b (s.ou p)
      · obtain ⟨k, hk, rfl⟩ := hb
        have ev : J (50 + p) k = tv (nI (s.ouT p k)) (s.ous p k) := by
          refine e50 k _ ?_
          rw [eg, wn_get]
          exact ⟨by omega, by rw [Nat.zero_add]⟩
        exact ⟨0, _, I, _, pm_uI I 69 0 0, lwok_value (sp_value hB.e rD.no h4 hp e48 e49 hk ev), sp_M_valueY hB.m hD rM hB.S hp (by omega) hk, uI_eq, fun _ => uJ_eq, ⟨D, hV.th.out⟩, ⟨rfl, rfl⟩, rfl, rfl⟩
      · exact ⟨3, 0, I, J, pm_uI I 69 0 3, lwex_value3 (sp_value_X3 hB.e rD.no h4 hp e48 e49 hb), sp_M_valueZ hB.m hD rM hB.S hp (by omega) hb, uI_eq, fun z => absurd z (by decide), ⟨D, hV.th⟩, ⟨rfl, rfl⟩, rfl, rfl⟩
    · exact ⟨2, 0, I, J, pm_uI I 69 0 2, lwex_value2 (sp_value_X2 hB.e rD.no (by omega) ha), sp_M_valueX hB.m hD rM ha, uI_eq, fun z => absurd z (by decide), ⟨D, hV.th⟩, ⟨rfl, rfl⟩, rfl, rfl⟩
theorem op_restart (hL : LW RT I J) : ∃ k I1 I2, pm_Go 10 m_L_restart 0 [some (.ref 0), none] [] 0 0 (ST I J) (.inl (some (.int k)), ST I1 J) ∧ pm_Go 10 m_M_restart 0 [some (.ref 69)] [] 0 0 (ST I1 J) (.inl none, ST I2 J) ∧ I2 69 0 = k ∧ LW RT I2 J ∧ I2 1000 = I 1000 ∧ I2 1001 = I 1001 := by
  obtain ⟨D, hV⟩ := hL
  obtain ⟨hD, rD, rM, hh⟩ := id hV
  rcases hh with ⟨e0, e1⟩ | ⟨s, t, cy, hB⟩
  · exact ⟨1, I, pm_uI I 69 0 1, lwex_restart1 (sp_restart_X1 e0), sp_M_restartN e1, uI_eq, ⟨D, hV.th⟩, rfl, rfl⟩
  · obtain ⟨I1, a1, a2, a3, f1⟩ := sp_restart (J := J) hB.e hD rD
    obtain ⟨I2, b1, b2, b3, b4, f2⟩ := sp_M_restartY (d := 9) (I := I1) (J := J) (by rw [f1 69 (by decide)]; exact hB.m) hD (rM.fr f1 (by decide))
    refine ⟨0, I1, I2, lwok_restart a1, b1, b4, ⟨D, hD, (rD.fr hD f1 (by decide)).fr hD f2 (by decide), ?_, Or.inr ⟨iniM D, t0M, 0, LB_go hB ?_ ?_ ?_ MI_ini TI_ini0 TB_ini (a2.fr f2 (by decide)) (a3.fr hD f2 (by decide)) b2⟩⟩, ?_, ?_⟩
    · exact (rM.fr f1 (by decide)).cg (fun j hj => b3 j (by omega) (by omega)) (fun c h1 h2 => f2 c (by simp; omega))
    · rw [f2 0 (by decide), f1 0 (by decide)]
    · rw [f2 62 (by decide), f1 62 (by decide)]
    · intro q hq
      rw [b3 q (by omega) (by omega), f1 69 (by decide)]
    · rw [f2 1000 (by decide), f1 1000 (by decide)]
    · rw [f2 1001 (by decide), f1 1001 (by decide)]
theorem sp_clearD (rD : RD I D) : pm_Go (d + 1) m_E_clear 0 [some (.ref 0), none] [] 0 0 (ST I J) (.inl (some (.int (nI D.nb))), ST (pm_uI (pm_uI (pm_uI (pm_uI (pm_uI I 1 0 0) 1 1 0) 1 2 0) 1 3 0) 0 4 0) J) := by
  refine go_aload_n d_E_clear_0 rfl ?_
  refine go_getP (j := 0) d_E_clear_1 (Nat.le_of_ble_eq_true rfl) rfl pc_E (Nat.le_of_ble_eq_true rfl) rfl w_239 pt_E_0 ?_
  refine go_gI (j := 0) (nI D.nb) d_E_clear_4 (Nat.le_of_ble_eq_true rfl) rfl pc_D (Nat.le_of_ble_eq_true rfl) (by decide) w_33 rD.nb ?_
  refine go_istore_n d_E_clear_7 (Nat.le_of_ble_eq_true rfl) rfl ?_
  refine go_aload_n d_E_clear_8 rfl ?_
  refine go_getP (j := 0) d_E_clear_9 (Nat.le_of_ble_eq_true rfl) rfl pc_E (Nat.le_of_ble_eq_true rfl) rfl w_239 pt_E_0 ?_
  refine go_callV (k2 := m_D_empty) (As := []) (r := none) d_E_clear_12 ok_D_empty (Nat.le_of_ble_eq_true rfl) rfl pc_D rfl vl_E_99 rfl rfl (Nat.le_of_ble_eq_true rfl) (Nat.le_of_ble_eq_true rfl) (Nat.le_of_ble_eq_true rfl) (Nat.le_of_ble_eq_true rfl) rfl rfl sp_empty ?_
  refine go_aload_n d_E_clear_15 rfl ?_
  refine go_iconst (v := 0) d_E_clear_16 (by decide) ?_
  refine go_pI (j := 4) d_E_clear_17 (Nat.le_of_ble_eq_true rfl) rfl pc_E (Nat.le_of_ble_eq_true rfl) (by decide) w_243 rfl (Or.inr ⟨rfl, Or.inl rfl⟩) ?_
  refine go_iload_n d_E_clear_20 rfl ?_
  exact go_ireturn (st := []) d_E_clear_21 rfl (Nat.le_of_ble_eq_true rfl) (Nat.le_of_ble_eq_true rfl) rfl
theorem op_clear (hL : LW RT I J) : ∃ r I1 I2, pm_Go 10 m_E_clear 0 [some (.ref 0), none] [] 0 0 (ST I J) (.inl (some (.int r)), ST I1 J) ∧ pm_Go 10 m_M_clear 0 [some (.ref 69), none] [] 0 0 (ST I1 J) (.inl (some (.int r)), ST I2 J) ∧ LW RT I2 J ∧ I2 1000 = I 1000 ∧ I2 1001 = I 1001 := by
  obtain ⟨D, hV⟩ := hL
  obtain ⟨hD, rD, rM, hh⟩ := id hV
  refine ⟨nI D.nb, _, _, sp_clearD rD, sp_M_clear rM.nb, ⟨emD D, DW_em, ?_, ?_, Or.inl ⟨rfl, rfl⟩⟩, rfl, rfl⟩
  · have r1 := RD_em (I := I) (D := D)
    refine (r1.fr DW_em (L := [0]) (fr.uI (c := 0) (j := 4) (v := 0) (by decide)) (by decide)).fr DW_em (L := [69]) ?_ (by decide)
    exact (((((((fr.uI (by decide)).tr (fr.uI (by decide))).tr (fr.uI (by decide))).tr (fr.uI (by decide))).tr (fr.uI (by decide))).tr (fr.uI (by decide))).tr (fr.uI (by decide)))
  · exact RMD.mk rfl rfl rfl rfl rfl (fun j hj => absurd hj (Nat.not_lt_zero _)) (fun j hj => absurd hj (Nat.not_lt_zero _)) (fun j hj => absurd hj (Nat.not_lt_zero _)) (fun j hj => absurd hj (Nat.not_lt_zero _))
end S53
