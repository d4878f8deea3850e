/-! the reference: a token goes on in a channel -/
section S39
variable {d : Nat} {I : Nat → Nat → Int32} {J : Nat → Nat → Int64} {D : DZ} {s : MS} {t : TS}
theorem mvA_b {c b k : Nat} (hB : TB s t) : mvA D t c b k ≤ 1001 := by
  have h1 := hB.gob (D := D) (c := c) (b := b + 1) (k := k - 2)
  have h2 := hB.lv c b (k - 1)
  have h3 := hB.cmb (c := c) (b := b) (k := k)
  unfold mvA
  split <;> split <;> omega
theorem M_move_at {c b T : Nat} {out : (Option Value ⊕ String) × pm_S} (hD : DW D) (rM : RMD I D) (rS : RMS I D s t) (hN : NB D s) (hB : TB s t) (hc : c < D.nc) (hb : b < D.ex c) (h1 : s.le c b < cmM s c b) (h2 : s.le c b < gnM D s c (b + 1) + 2) (ho : pm_Go (d + 1) m_M_move 130 [some (.ref 69), some (.int (nI c)), some (.int (nI b)), some (.int (nI T)), some (.int (nI (s.le c b))), some (.int (nI (mvA D t c b (s.le c b))))] [] 0 0 (ST I J) out) : pm_Go (d + 1) m_M_move 0 [some (.ref 69), some (.int (nI c)), some (.int (nI b)), some (.int (nI T)), none, none] [] 0 0 (ST I J) out := by
  have h20 := hD.nc
  have hx := (hD.ch c hc).2.2
  have hle := hN.le c hc b hb
  have hcm := hN.cm hc (Nat.le_of_lt hb)
  have hgn := hN.gn hD hc (b := b + 1) (by omega)
  have g1 := hB.gob (D := D) (c := c) (b := b + 1) (k := s.le c b - 2)
  have g2 := hB.lv c b (s.le c b - 1)
  have g3 := hB.cmb (c := c) (b := b) (k := s.le c b)
  have elf := rS.lf c hc b hb
  have p2 : ∀ A, A ≤ 1001 → (pm_Go (d + 1) m_M_move 130 [some (.ref 69), some (.int (nI c)), some (.int (nI b)), some (.int (nI T)), some (.int (nI (s.le c b))), some (.int (nI (max A (if s.le c b ≤ 1 then 0 else goA D t c (b + 1) (s.le c b - 2) + 1))))] [] 0 0 (ST I J) out) → pm_Go (d + 1) m_M_move 97 [some (.ref 69), some (.int (nI c)), some (.int (nI b)), some (.int (nI T)), some (.int (nI (s.le c b))), some (.int (nI A))] [] 0 0 (ST I J) out := by
    intro A hA ho2
    refine go_iload d_M_move_97 rfl ?_
    refine go_iconst (v := 1) d_M_move_99 (by decide) ?_
    by_cases hz : s.le c b ≤ 1
    · rw [if_pos hz, show max A 0 = A by omega] at ho2
      refine go_icmp_le (tgt := 126) d_M_move_100 (by decide) (fun z => ?_) (fun z => absurd (nI_le (b := 1) hz (by decide)) z)
      refine go_iload d_M_move_126 rfl ?_
      refine go_istore d_M_move_128 (Nat.le_of_ble_eq_true rfl) rfl ?_
      exact ho2
    · rw [if_neg hz] at ho2
      refine go_icmp_le (tgt := 126) d_M_move_100 (by decide) (fun z => absurd z (nI_ge (a := 1) (by omega) (by omega))) (fun z => ?_)
      refine go_aload_n d_M_move_103 rfl ?_
      refine go_iload d_M_move_104 rfl ?_
      refine go_aload_n d_M_move_106 rfl ?_
      refine go_iload_n d_M_move_107 rfl ?_
      refine go_iload_n d_M_move_108 rfl ?_
      refine go_iconst (v := 1) d_M_move_109 (by decide) ?_
      refine go_iadd d_M_move_110 ?_
      refine go_top (nI (b + 1)) (nI_1 _) ?_
      refine go_iload d_M_move_111 rfl ?_
      refine go_iconst (v := 2) d_M_move_113 (by decide) ?_
      refine go_isub d_M_move_114 ?_
      refine go_top (nI (s.le c b - 2)) (pk_sub (b := 2) (by omega)) ?_
      refine go_callV (k2 := m_M_goneAt) (As := [.int (nI c), .int (nI (b + 1)), .int (nI (s.le c b - 2))]) (r := some (.int (nI (goA D t c (b + 1) (s.le c b - 2))))) d_M_move_115 ok_M_goneAt (Nat.le_of_ble_eq_true rfl) rfl pc_M rfl vl_M_160 rfl rfl (Nat.le_of_ble_eq_true rfl) (Nat.le_of_ble_eq_true rfl) (Nat.le_of_ble_eq_true rfl) (Nat.le_of_ble_eq_true rfl) rfl rfl (sp_M_goneAt hD rM rS hc (by omega) (by omega) (by omega)) ?_
      refine go_iconst (v := 1) d_M_move_118 (by decide) ?_
      refine go_iadd d_M_move_119 ?_
      refine go_top (nI (goA D t c (b + 1) (s.le c b - 2) + 1)) (nI_1 _) ?_
      refine go_callV (k2 := m_M_later) (As := [.int (nI A), .int (nI (goA D t c (b + 1) (s.le c b - 2) + 1))]) (r := some (.int (nI (max A (goA D t c (b + 1) (s.le c b - 2) + 1))))) d_M_move_120 ok_M_later (Nat.le_of_ble_eq_true rfl) rfl pc_M rfl vl_M_157 rfl rfl (Nat.le_of_ble_eq_true rfl) (Nat.le_of_ble_eq_true rfl) (Nat.le_of_ble_eq_true rfl) (Nat.le_of_ble_eq_true rfl) rfl rfl (sp_laterN (by omega) (by omega)) ?_
      refine go_goto (tgt := 128) d_M_move_123 (by decide) ?_
      refine go_istore d_M_move_128 (Nat.le_of_ble_eq_true rfl) rfl ?_
      exact ho2
  have p1 : pm_Go (d + 1) m_M_move 46 [some (.ref 69), some (.int (nI c)), some (.int (nI b)), some (.int (nI T)), some (.int (nI (s.le c b))), none] [] 0 0 (ST I J) out := by
    refine go_aload_n d_M_move_46 rfl ?_
    refine go_iload_n d_M_move_47 rfl ?_
    refine go_iload_n d_M_move_48 rfl ?_
    refine go_iload d_M_move_49 rfl ?_
    refine go_callV (k2 := m_M_cameAt) (As := [.int (nI c), .int (nI b), .int (nI (s.le c b))]) (r := some (.int (nI (cmA t c b (s.le c b)) - 1))) d_M_move_51 ok_M_cameAt (Nat.le_of_ble_eq_true rfl) rfl pc_M rfl vl_M_153 rfl rfl (Nat.le_of_ble_eq_true rfl) (Nat.le_of_ble_eq_true rfl) (Nat.le_of_ble_eq_true rfl) (Nat.le_of_ble_eq_true rfl) rfl rfl (sp_M_cameAt hD rS hc (by omega) h1 (by omega)) ?_
    refine go_iconst (v := 1) d_M_move_54 (by decide) ?_
    refine go_iadd d_M_move_55 ?_
    refine go_top (nI (cmA t c b (s.le c b))) (m1_1 _) ?_
    refine go_istore d_M_move_56 (Nat.le_of_ble_eq_true rfl) rfl ?_
    refine go_iload d_M_move_58 rfl ?_
    by_cases hz : s.le c b = 0
    · have ho2 := p2 (cmA t c b (s.le c b)) g3 (by
        have e : mvA D t c b (s.le c b) = max (cmA t c b (s.le c b)) (if s.le c b ≤ 1 then 0 else goA D t c (b + 1) (s.le c b - 2) + 1) := by
          unfold mvA
          rw [if_pos hz]
          omega
        rw [← e]
        exact ho)
      refine go_if_le (tgt := 93) d_M_move_60 (by decide) (fun z => ?_) (fun z => absurd (nI_le (b := 0) (by omega) (by decide)) z)
      refine go_iload d_M_move_93 rfl ?_
      refine go_istore d_M_move_95 (Nat.le_of_ble_eq_true rfl) rfl ?_
      exact ho2
    · have ho2 := p2 (max (cmA t c b (s.le c b)) (t.lv c b (s.le c b - 1) + 1)) (by omega) (by
        have e : mvA D t c b (s.le c b) = max (max (cmA t c b (s.le c b)) (t.lv c b (s.le c b - 1) + 1)) (if s.le c b ≤ 1 then 0 else goA D t c (b + 1) (s.le c b - 2) + 1) := by
          unfold mvA
          rw [if_neg hz]
        rw [← e]
        exact ho)
      refine go_if_le (tgt := 93) d_M_move_60 (by decide) (fun z => absurd z (nI_nle (by omega) (by omega))) (fun z => ?_)
      refine go_aload_n d_M_move_63 rfl ?_
      refine go_iload d_M_move_64 rfl ?_
      refine go_aload_n d_M_move_66 rfl ?_
      refine go_getP (j := 21) d_M_move_67 (Nat.le_of_ble_eq_true rfl) rfl pc_M (Nat.le_of_ble_eq_true rfl) rfl w_723 pt_M_21 ?_
      refine go_sipush (v := 1002) d_M_move_70 (by decide) ?_
      refine go_iconst (v := 4) d_M_move_73 (by decide) ?_
      refine go_iload_n d_M_move_74 rfl ?_
      refine go_imul d_M_move_75 ?_
      refine go_top (nI (4 * c)) (pk_mul 4 c) ?_
      refine go_iload_n d_M_move_76 rfl ?_
      refine go_iadd d_M_move_77 ?_
      refine go_top (nI (4 * c + b)) (nI_add _ _) ?_
      refine go_imul d_M_move_78 ?_
      refine go_top (nI (1002 * (4 * c + b))) (pk_mul 1002 _) ?_
      refine go_iload d_M_move_79 rfl ?_
      refine go_iadd d_M_move_81 ?_
      refine go_top (nI (1002 * (4 * c + b) + s.le c b)) (nI_add _ _) ?_
      refine go_iconst (v := 1) d_M_move_82 (by decide) ?_
      refine go_isub d_M_move_83 ?_
      refine go_top (nI (1002 * (4 * c + b) + (s.le c b - 1))) (by rw [show 1002 * (4 * c + b) + s.le c b = 1002 * (4 * c + b) + (s.le c b - 1) + 1 by omega]; exact nI_pred _) ?_
      refine go_ald (1002 * (4 * c + b) + (s.le c b - 1)) (nI (t.lv c b (s.le c b - 1))) d_M_move_84 (Nat.le_of_ble_eq_true rfl) rfl rfl (by omega) (by decide) (elf.2 _ (by omega)) ?_
      refine go_iconst (v := 1) d_M_move_85 (by decide) ?_
      refine go_iadd d_M_move_86 ?_
      refine go_top (nI (t.lv c b (s.le c b - 1) + 1)) (nI_1 _) ?_
      refine go_callV (k2 := m_M_later) (As := [.int (nI (cmA t c b (s.le c b))), .int (nI (t.lv c b (s.le c b - 1) + 1))]) (r := some (.int (nI (max (cmA t c b (s.le c b)) (t.lv c b (s.le c b - 1) + 1))))) d_M_move_87 ok_M_later (Nat.le_of_ble_eq_true rfl) rfl pc_M rfl vl_M_157 rfl rfl (Nat.le_of_ble_eq_true rfl) (Nat.le_of_ble_eq_true rfl) (Nat.le_of_ble_eq_true rfl) (Nat.le_of_ble_eq_true rfl) rfl rfl (sp_laterN (by omega) (by omega)) ?_
      refine go_goto (tgt := 95) d_M_move_90 (by decide) ?_
      refine go_istore d_M_move_95 (Nat.le_of_ble_eq_true rfl) rfl ?_
      exact ho2
  refine go_aload_n d_M_move_0 rfl ?_
  refine go_getP (j := 22) d_M_move_1 (Nat.le_of_ble_eq_true rfl) rfl pc_M (Nat.le_of_ble_eq_true rfl) rfl w_724 pt_M_22 ?_
  refine go_iconst (v := 4) d_M_move_4 (by decide) ?_
  refine go_iload_n d_M_move_5 rfl ?_
  refine go_imul d_M_move_6 ?_
  refine go_top (nI (4 * c)) (pk_mul 4 c) ?_
  refine go_iload_n d_M_move_7 rfl ?_
  refine go_iadd d_M_move_8 ?_
  refine go_top (nI (4 * c + b)) (nI_add _ _) ?_
  refine go_ald (4 * c + b) (nI (s.le c b)) d_M_move_9 (Nat.le_of_ble_eq_true rfl) rfl rfl (by omega) (by decide) elf.1 ?_
  refine go_istore d_M_move_10 (Nat.le_of_ble_eq_true rfl) rfl ?_
  refine go_aload_n d_M_move_12 rfl ?_
  refine go_iload_n d_M_move_13 rfl ?_
  refine go_iload_n d_M_move_14 rfl ?_
  refine go_callV (k2 := m_M_came) (As := [.int (nI c), .int (nI b)]) (r := some (.int (nI (cmM s c b)))) d_M_move_15 ok_M_came (Nat.le_of_ble_eq_true rfl) rfl pc_M rfl vl_M_146 rfl rfl (Nat.le_of_ble_eq_true rfl) (Nat.le_of_ble_eq_true rfl) (Nat.le_of_ble_eq_true rfl) (Nat.le_of_ble_eq_true rfl) rfl rfl (sp_M_came hD rS hc (by omega)) ?_
  refine go_iload d_M_move_18 rfl ?_
  refine go_icmp_le (tgt := 44) d_M_move_20 (by decide) (fun z => absurd z (nI_ge h1 (by omega))) (fun z => ?_)
  refine go_iload d_M_move_23 rfl ?_
  refine go_iconst (v := 1) d_M_move_25 (by decide) ?_
  by_cases hz : s.le c b ≤ 1
  · refine go_icmp_le (tgt := 46) d_M_move_26 (by decide) (fun z => ?_) (fun z => absurd (nI_le (b := 1) hz (by decide)) z)
    exact p1
  · refine go_icmp_le (tgt := 46) d_M_move_26 (by decide) (fun z => absurd z (nI_ge (a := 1) (by omega) (by omega))) (fun z => ?_)
    refine go_aload_n d_M_move_29 rfl ?_
    refine go_iload_n d_M_move_30 rfl ?_
    refine go_iload_n d_M_move_31 rfl ?_
    refine go_iconst (v := 1) d_M_move_32 (by decide) ?_
    refine go_iadd d_M_move_33 ?_
    refine go_top (nI (b + 1)) (nI_1 _) ?_
    refine go_callV (k2 := m_M_gone) (As := [.int (nI c), .int (nI (b + 1))]) (r := some (.int (nI (gnM D s c (b + 1))))) d_M_move_34 ok_M_gone (Nat.le_of_ble_eq_true rfl) rfl pc_M rfl vl_M_150 rfl rfl (Nat.le_of_ble_eq_true rfl) (Nat.le_of_ble_eq_true rfl) (Nat.le_of_ble_eq_true rfl) (Nat.le_of_ble_eq_true rfl) rfl rfl (sp_M_gone hD rM rS hc (by omega)) ?_
    refine go_iload d_M_move_37 rfl ?_
    refine go_iconst (v := 2) d_M_move_39 (by decide) ?_
    refine go_isub d_M_move_40 ?_
    refine go_top (nI (s.le c b - 2)) (pk_sub (b := 2) (by omega)) ?_
    refine go_icmp_gt (tgt := 46) d_M_move_41 (by decide) (fun z => ?_) (fun z => absurd (nI_lt (show s.le c b - 2 < gnM D s c (b + 1) by omega) (by omega)) z)
    exact p1
theorem sp_M_moveN {c b T : Nat} (hD : DW D) (rM : RMD I D) (rS : RMS I D s t) (hN : NB D s) (hB : TB s t) (hc : c < D.nc) (hb : b < D.ex c) (hT : T < 1000) (h : ¬ (s.le c b < cmM s c b ∧ s.le c b < gnM D s c (b + 1) + 2 ∧ mvA D t c b (s.le c b) ≤ T)) : pm_Go (d + 1) m_M_move 0 [some (.ref 69), some (.int (nI c)), some (.int (nI b)), some (.int (nI T)), none, none] [] 0 0 (ST I J) (.inl (some (.int 0)), ST I J) := by
  have h20 := hD.nc
  have hx := (hD.ch c hc).2.2
  have hle := hN.le c hc b hb
  have hcm := hN.cm hc (Nat.le_of_lt hb)
  have hgn := hN.gn hD hc (b := b + 1) (by omega)
  have hmv := mvA_b (D := D) (c := c) (b := b) (k := s.le c b) hB
  have elf := rS.lf c hc b hb
  by_cases h1 : s.le c b < cmM s c b
  · by_cases h2 : s.le c b < gnM D s c (b + 1) + 2
    · refine M_move_at hD rM rS hN hB hc hb h1 h2 ?_
      have h3 : T < mvA D t c b (s.le c b) := by
        by_cases hh : mvA D t c b (s.le c b) ≤ T
        · exact absurd ⟨h1, h2, hh⟩ h
        · omega
      refine go_iload d_M_move_130 rfl ?_
      refine go_iload_n d_M_move_132 rfl ?_
      refine go_icmp_le (tgt := 138) d_M_move_133 (by decide) (fun z => absurd z (nI_ge h3 (by omega))) (fun z => ?_)
      refine go_iconst (v := 0) d_M_move_136 (by decide) ?_
      exact go_zreturn (st := []) d_M_move_137 rfl (Nat.le_of_ble_eq_true rfl) (Nat.le_of_ble_eq_true rfl) rfl (Or.inl rfl)
    · refine go_aload_n d_M_move_0 rfl ?_
      refine go_getP (j := 22) d_M_move_1 (Nat.le_of_ble_eq_true rfl) rfl pc_M (Nat.le_of_ble_eq_true rfl) rfl w_724 pt_M_22 ?_
      refine go_iconst (v := 4) d_M_move_4 (by decide) ?_
      refine go_iload_n d_M_move_5 rfl ?_
      refine go_imul d_M_move_6 ?_
      refine go_top (nI (4 * c)) (pk_mul 4 c) ?_
      refine go_iload_n d_M_move_7 rfl ?_
      refine go_iadd d_M_move_8 ?_
      refine go_top (nI (4 * c + b)) (nI_add _ _) ?_
      refine go_ald (4 * c + b) (nI (s.le c b)) d_M_move_9 (Nat.le_of_ble_eq_true rfl) rfl rfl (by omega) (by decide) elf.1 ?_
      refine go_istore d_M_move_10 (Nat.le_of_ble_eq_true rfl) rfl ?_
      refine go_aload_n d_M_move_12 rfl ?_
      refine go_iload_n d_M_move_13 rfl ?_
      refine go_iload_n d_M_move_14 rfl ?_
      refine go_callV (k2 := m_M_came) (As := [.int (nI c), .int (nI b)]) (r := some (.int (nI (cmM s c b)))) d_M_move_15 ok_M_came (Nat.le_of_ble_eq_true rfl) rfl pc_M rfl vl_M_146 rfl rfl (Nat.le_of_ble_eq_true rfl) (Nat.le_of_ble_eq_true rfl) (Nat.le_of_ble_eq_true rfl) (Nat.le_of_ble_eq_true rfl) rfl rfl (sp_M_came hD rS hc (by omega)) ?_
      refine go_iload d_M_move_18 rfl ?_
      refine go_icmp_le (tgt := 44) d_M_move_20 (by decide) (fun z => absurd z (nI_ge h1 (by omega))) (fun z => ?_)
      refine go_iload d_M_move_23 rfl ?_
      refine go_iconst (v := 1) d_M_move_25 (by decide) ?_
      refine go_icmp_le (tgt := 46) d_M_move_26 (by decide) (fun z => absurd z (nI_ge (a := 1) (by omega) (by omega))) (fun z => ?_)
      refine go_aload_n d_M_move_29 rfl ?_
      refine go_iload_n d_M_move_30 rfl ?_
      refine go_iload_n d_M_move_31 rfl ?_
      refine go_iconst (v := 1) d_M_move_32 (by decide) ?_
      refine go_iadd d_M_move_33 ?_
      refine go_top (nI (b + 1)) (nI_1 _) ?_
      refine go_callV (k2 := m_M_gone) (As := [.int (nI c), .int (nI (b + 1))]) (r := some (.int (nI (gnM D s c (b + 1))))) d_M_move_34 ok_M_gone (Nat.le_of_ble_eq_true rfl) rfl pc_M rfl vl_M_150 rfl rfl (Nat.le_of_ble_eq_true rfl) (Nat.le_of_ble_eq_true rfl) (Nat.le_of_ble_eq_true rfl) (Nat.le_of_ble_eq_true rfl) rfl rfl (sp_M_gone hD rM rS hc (by omega)) ?_
      refine go_iload d_M_move_37 rfl ?_
      refine go_iconst (v := 2) d_M_move_39 (by decide) ?_
      refine go_isub d_M_move_40 ?_
      refine go_top (nI (s.le c b - 2)) (pk_sub (b := 2) (by omega)) ?_
      refine go_icmp_gt (tgt := 46) d_M_move_41 (by decide) (fun z => absurd z (nI_nlt (by omega) (by omega))) (fun z => ?_)
      refine go_iconst (v := 0) d_M_move_44 (by decide) ?_
      exact go_zreturn (st := []) d_M_move_45 rfl (Nat.le_of_ble_eq_true rfl) (Nat.le_of_ble_eq_true rfl) rfl (Or.inl rfl)
  · refine go_aload_n d_M_move_0 rfl ?_
    refine go_getP (j := 22) d_M_move_1 (Nat.le_of_ble_eq_true rfl) rfl pc_M (Nat.le_of_ble_eq_true rfl) rfl w_724 pt_M_22 ?_
    refine go_iconst (v := 4) d_M_move_4 (by decide) ?_
    refine go_iload_n d_M_move_5 rfl ?_
    refine go_imul d_M_move_6 ?_
    refine go_top (nI (4 * c)) (pk_mul 4 c) ?_
    refine go_iload_n d_M_move_7 rfl ?_
    refine go_iadd d_M_move_8 ?_
    refine go_top (nI (4 * c + b)) (nI_add _ _) ?_
    refine go_ald (4 * c + b) (nI (s.le c b)) d_M_move_9 (Nat.le_of_ble_eq_true rfl) rfl rfl (by omega) (by decide) elf.1 ?_
    refine go_istore d_M_move_10 (Nat.le_of_ble_eq_true rfl) rfl ?_
    refine go_aload_n d_M_move_12 rfl ?_
    refine go_iload_n d_M_move_13 rfl ?_
    refine go_iload_n d_M_move_14 rfl ?_
    refine go_callV (k2 := m_M_came) (As := [.int (nI c), .int (nI b)]) (r := some (.int (nI (cmM s c b)))) d_M_move_15 ok_M_came (Nat.le_of_ble_eq_true rfl) rfl pc_M rfl vl_M_146 rfl rfl (Nat.le_of_ble_eq_true rfl) (Nat.le_of_ble_eq_true rfl) (Nat.le_of_ble_eq_true rfl) (Nat.le_of_ble_eq_true rfl) rfl rfl (sp_M_came hD rS hc (by omega)) ?_
    refine go_iload d_M_move_18 rfl ?_
    refine go_icmp_le (tgt := 44) d_M_move_20 (by decide) (fun z => ?_) (fun z => absurd (nI_le (by omega) (by omega)) z)
    refine go_iconst (v := 0) d_M_move_44 (by decide) ?_
    exact go_zreturn (st := []) d_M_move_45 rfl (Nat.le_of_ble_eq_true rfl) (Nat.le_of_ble_eq_true rfl) rfl (Or.inl rfl)
theorem sp_M_moveY {c b T : Nat} (hD : DW D) (rM : RMD I D) (rS : RMS I D s t) (hN : NB D s) (hB : TB s t) (hc : c < D.nc) (hb : b < D.ex c) (hT : T < 1000) (h1 : s.le c b < cmM s c b) (h2 : s.le c b < gnM D s c (b + 1) + 2) (h3 : mvA D t c b (s.le c b) ≤ T) (h4 : t.lv c b (s.le c b) = mvA D t c b (s.le c b)) : ∃ I', pm_Go (d + 1) m_M_move 0 [some (.ref 69), some (.int (nI c)), some (.int (nI b)), some (.int (nI T)), none, none] [] 0 0 (ST I J) (.inl (some (.int 1)), ST I' J) ∧ RMS I' D (leS s c b) t ∧ fr [83, 84] I I' := by
  have h20 := hD.nc
  have hx := (hD.ch c hc).2.2
  have hle := hN.le c hc b hb
  have hcm := hN.cm hc (Nat.le_of_lt hb)
  have hmv := mvA_b (D := D) (c := c) (b := b) (k := s.le c b) hB
  refine ⟨pm_uI (pm_uI I 83 (1002 * (4 * c + b) + s.le c b) (nI (mvA D t c b (s.le c b)))) 84 (4 * c + b) (nI (s.le c b + 1)), ?_, ?_, (fr.uI (by decide)).tr (fr.uI (by decide))⟩
  · refine M_move_at hD rM rS hN hB hc hb h1 h2 ?_
    refine go_iload d_M_move_130 rfl ?_
    refine go_iload_n d_M_move_132 rfl ?_
    refine go_icmp_le (tgt := 138) d_M_move_133 (by decide) (fun z => ?_) (fun z => absurd (nI_le h3 (by omega)) z)
    refine go_aload_n d_M_move_138 rfl ?_
    refine go_getP (j := 21) d_M_move_139 (Nat.le_of_ble_eq_true rfl) rfl pc_M (Nat.le_of_ble_eq_true rfl) rfl w_723 pt_M_21 ?_
    refine go_sipush (v := 1002) d_M_move_142 (by decide) ?_
    refine go_iconst (v := 4) d_M_move_145 (by decide) ?_
    refine go_iload_n d_M_move_146 rfl ?_
    refine go_imul d_M_move_147 ?_
    refine go_top (nI (4 * c)) (pk_mul 4 c) ?_
    refine go_iload_n d_M_move_148 rfl ?_
    refine go_iadd d_M_move_149 ?_
    refine go_top (nI (4 * c + b)) (nI_add _ _) ?_
    refine go_imul d_M_move_150 ?_
    refine go_top (nI (1002 * (4 * c + b))) (pk_mul 1002 _) ?_
    refine go_iload d_M_move_151 rfl ?_
    refine go_iadd d_M_move_153 ?_
    refine go_top (nI (1002 * (4 * c + b) + s.le c b)) (nI_add _ _) ?_
    refine go_iload d_M_move_154 rfl ?_
    refine go_ast (1002 * (4 * c + b) + s.le c b) d_M_move_156 (Nat.le_of_ble_eq_true rfl) rfl rfl (by omega) (by decide) ?_
    refine go_aload_n d_M_move_157 rfl ?_
    refine go_getP (j := 22) d_M_move_158 (Nat.le_of_ble_eq_true rfl) rfl pc_M (Nat.le_of_ble_eq_true rfl) rfl w_724 pt_M_22 ?_
    refine go_iconst (v := 4) d_M_move_161 (by decide) ?_
    refine go_iload_n d_M_move_162 rfl ?_
    refine go_imul d_M_move_163 ?_
    refine go_top (nI (4 * c)) (pk_mul 4 c) ?_
    refine go_iload_n d_M_move_164 rfl ?_
    refine go_iadd d_M_move_165 ?_
    refine go_top (nI (4 * c + b)) (nI_add _ _) ?_
    refine go_iload d_M_move_166 rfl ?_
    refine go_iconst (v := 1) d_M_move_168 (by decide) ?_
    refine go_iadd d_M_move_169 ?_
    refine go_top (nI (s.le c b + 1)) (nI_1 _) ?_
    refine go_ast (4 * c + b) d_M_move_170 (Nat.le_of_ble_eq_true rfl) rfl rfl (by omega) (by decide) ?_
    refine go_iconst (v := 1) d_M_move_171 (by decide) ?_
    exact go_zreturn (st := []) d_M_move_172 rfl (Nat.le_of_ble_eq_true rfl) (Nat.le_of_ble_eq_true rfl) rfl (Or.inr rfl)
  · have at1 : ∀ x y, pm_uI (pm_uI I 83 (1002 * (4 * c + b) + s.le c b) (nI (mvA D t c b (s.le c b)))) 84 (4 * c + b) (nI (s.le c b + 1)) x y = if x = 84 ∧ y = 4 * c + b then nI (s.le c b + 1) else if x = 83 ∧ y = 1002 * (4 * c + b) + s.le c b then nI (mvA D t c b (s.le c b)) else I x y := by
      intro x y
      simp only [uI_at]
    refine RMS.mk rS.T rS.st rS.tk ?_ rS.ga rS.tu rS.of rS.ou
    intro x hx2 y hy
    have hxy := (hD.ch x hx2).2.2
    have hlx := hN.le x hx2 y hy
    obtain ⟨g1, g2⟩ := rS.lf x hx2 y hy
    constructor
    · show _ = nI (if x = c ∧ y = b then s.le c b + 1 else s.le x y)
      rw [at1]
      by_cases e : x = c ∧ y = b
      · rw [if_pos ⟨rfl, by omega⟩, if_pos e]
      · rw [if_neg (by omega), if_neg (by omega), if_neg e]
        exact g1
    · intro k hk
      have hk2 : k < (if x = c ∧ y = b then s.le c b + 1 else s.le x y) := hk
      show _ = nI (t.lv x y k)
      rw [at1, if_neg (by omega)]
      by_cases e : x = c ∧ y = b
      · obtain ⟨rfl, rfl⟩ := e
        rw [if_pos ⟨rfl, rfl⟩] at hk2
        by_cases e2 : k = s.le x y
        · rw [if_pos ⟨rfl, by rw [e2]⟩, e2, h4]
        · rw [if_neg (by omega)]
          exact g2 k (by omega)
      · rw [if_neg e] at hk2
        rw [if_neg (by omega)]
        exact g2 k hk2
end S39
