/-! the reference: by the clock, got, run, restart -/
section S46
variable {d : Nat} {I : Nat → Nat → Int32} {J : Nat → Nat → Int64} {D : DZ} {s : MS} {t : TS} {stl : Int32}
theorem RMS.fr {I' : Nat → Nat → Int32} (h : RMS I D s t) (h1 : ∀ c, 81 ≤ c → c ≤ 94 → I' c = I c) (h2 : I' 69 18 = I 69 18) : RMS I' D s t := by
  refine RMS.mk ?_ ?_ ?_ ?_ ?_ ?_ ?_ ?_
  · rw [h2]; exact h.T
  · rw [h1 81 (by omega) (by omega)]; exact h.st
  · rw [h1 82 (by omega) (by omega)]; exact h.tk
  · rw [h1 84 (by omega) (by omega), h1 83 (by omega) (by omega)]; exact h.lf
  · rw [h1 86 (by omega) (by omega), h1 85 (by omega) (by omega)]; exact h.ga
  · rw [h1 88 (by omega) (by omega), h1 87 (by omega) (by omega)]; exact h.tu
  · rw [h1 91 (by omega) (by omega), h1 89 (by omega) (by omega), h1 90 (by omega) (by omega)]; exact h.of
  · rw [h1 94 (by omega) (by omega), h1 92 (by omega) (by omega), h1 93 (by omega) (by omega)]; exact h.ou
theorem uI_uI {c j : Nat} {v w : Int32} : pm_uI (pm_uI I c j v) c j w = pm_uI I c j w := by
  funext x y
  rw [uI_at, uI_at, uI_at]
  split <;> simp_all

theorem sp_M_make {j k : Nat} {sv : Nat → Int32} (hD : DW D) (rM : RMD I D) (hj : j < D.nb) (hk : k ≤ 1001) (h1 : ∀ c, c < D.nc → D.to c = j → I 95 c = sv c) (h2 : ∀ p, p < D.ni → D.ito p = j → I 89 (1002 * p + k) = sv (20 + p)) : pm_Go (d + 1) m_M_makeByClock 0 [some (.ref 69), some (.int (nI j)), some (.int (nI k)), none, none, none] [] 0 0 (ST I J) (.inl (some (.int ((inL D j).foldl (fun v x => jn (D.op j) v (sv x)) (D.ct j)))), ST I J) := by
  have h20 := hD.nc
  have h10 := hD.nb
  have hni := hD.ni
  have hno := hD.no
  have hsl := sq_len hD
  have hop := hD.op j hj
  have ebl := rM.bl j hj
  have loop : ∀ m n, D.sq.length - n = m → n ≤ D.sq.length → ∀ w5, pm_Go (d + 1) m_M_makeByClock 10 [some (.ref 69), some (.int (nI j)), some (.int (nI k)), some (.int (rsV D j sv n)), some (.int (nI n)), w5] [] 0 0 (ST I J) (.inl (some (.int ((inL D j).foldl (fun v x => jn (D.op j) v (sv x)) (D.ct j)))), ST I J) := by
    intro m
    induction m with
    | zero =>
      intro n hm hn w5
      have : n = D.sq.length := by omega
      subst this
      refine go_iload d_M_makeByClock_10 rfl ?_
      refine go_aload_n d_M_makeByClock_12 rfl ?_
      refine go_gI (j := 17) (nI D.sq.length) d_M_makeByClock_13 (Nat.le_of_ble_eq_true rfl) rfl pc_M (Nat.le_of_ble_eq_true rfl) (by decide) w_719 rM.ad ?_
      refine go_icmp_ge (tgt := 149) d_M_makeByClock_16 (by decide) (fun z => ?_) (fun z => absurd (nI_le (Nat.le_refl _) (by omega)) z)
      rw [rsV_e]
      refine go_iload_n d_M_makeByClock_149 rfl ?_
      exact go_ireturn (st := []) d_M_makeByClock_150 rfl (Nat.le_of_ble_eq_true rfl) (Nat.le_of_ble_eq_true rfl) rfl
    | succ m ih =>
      intro n hm hn w5
      have hn2 : n < D.sq.length := by omega
      have i1 := fun w5 => ih (n + 1) (by omega) (by omega) w5
      rw [rsV_s hn2] at i1
      generalize rsV D j sv n = v at i1 ⊢
      have hx := (hD.sq (gi D.sq n)).mp (gi_mem hn2)
      have ex : ∀ tc y, D.sq[tc]? = some y → tc < 28 ∧ (tc = n ↔ gi D.sq n = y) := fun tc y hy => ⟨by have := (sq_at hD hy hn2).1; omega, (sq_at hD hy hn2).2⟩
      generalize gi D.sq n = x at i1 hx ex
      have lp : ∀ b p, D.ni - p = b → p ≤ D.ni → pm_Go (d + 1) m_M_makeByClock 81 [some (.ref 69), some (.int (nI j)), some (.int (nI k)), some (.int (if x < D.nc ∨ (20 ≤ x ∧ x < 20 + p) then stV D j sv v x else v)), some (.int (nI n)), some (.int (nI p))] [] 0 0 (ST I J) (.inl (some (.int ((inL D j).foldl (fun v x => jn (D.op j) v (sv x)) (D.ct j)))), ST I J) := by
        intro b
        induction b with
        | zero =>
          intro p hb hp
          have : p = D.ni := by omega
          subst this
          refine go_iload d_M_makeByClock_81 rfl ?_
          refine go_aload_n d_M_makeByClock_83 rfl ?_
          refine go_gI (j := 11) (nI D.ni) d_M_makeByClock_84 (Nat.le_of_ble_eq_true rfl) rfl pc_M (Nat.le_of_ble_eq_true rfl) (by decide) w_713 rM.ni ?_
          refine go_icmp_ge (tgt := 143) d_M_makeByClock_87 (by decide) (fun z => ?_) (fun z => absurd (nI_le (Nat.le_refl _) (by omega)) z)
          have e : (if x < D.nc ∨ (20 ≤ x ∧ x < 20 + D.ni) then stV D j sv v x else v) = stV D j sv v x := by
            by_cases hh : x < D.nc ∨ (20 ≤ x ∧ x < 20 + D.ni)
            · rw [if_pos hh]
            · rw [if_neg hh, stV_o (by omega)]
          rw [e]
          refine go_iinc (v := nI (n + 1)) d_M_makeByClock_143 rfl (by first | rfl | exact nI_1 _) rfl ?_
          refine go_goto (tgt := 10) d_M_makeByClock_146 (by decide) ?_
          exact i1 _
        | succ b ihb =>
          intro p hb hp
          have hp2 : p < D.ni := by omega
          have i2 := ihb (p + 1) (by omega) (by omega)
          obtain ⟨e1, tp, e2, e3⟩ := rM.ip p hp2
          have e4 := ex tp _ e2
          have hto := hD.ip p hp2
          refine go_iload d_M_makeByClock_81 rfl ?_
          refine go_aload_n d_M_makeByClock_83 rfl ?_
          refine go_gI (j := 11) (nI D.ni) d_M_makeByClock_84 (Nat.le_of_ble_eq_true rfl) rfl pc_M (Nat.le_of_ble_eq_true rfl) (by decide) w_713 rM.ni ?_
          refine go_icmp_ge (tgt := 143) d_M_makeByClock_87 (by decide) (fun z => absurd z (nI_ge (by omega) (by omega))) (fun z => ?_)
          refine go_aload_n d_M_makeByClock_90 rfl ?_
          refine go_getP (j := 13) d_M_makeByClock_91 (Nat.le_of_ble_eq_true rfl) rfl pc_M (Nat.le_of_ble_eq_true rfl) rfl w_715 pt_M_13 ?_
          refine go_iload d_M_makeByClock_94 rfl ?_
          refine go_ald p (nI tp) d_M_makeByClock_96 (Nat.le_of_ble_eq_true rfl) rfl rfl (by omega) (by decide) e3 ?_
          refine go_iload d_M_makeByClock_97 rfl ?_
          by_cases et : tp = n
          · have ext : x = 20 + p := e4.2.mp et
            rw [if_pos (by omega), ext, stV_p (by omega)] at i2
            rw [if_neg (by omega)]
            refine go_icmp_ne (tgt := 137) d_M_makeByClock_99 (by decide) (fun z => absurd (congrArg nI et) z) (fun z => ?_)
            refine go_aload_n d_M_makeByClock_102 rfl ?_
            refine go_getP (j := 12) d_M_makeByClock_103 (Nat.le_of_ble_eq_true rfl) rfl pc_M (Nat.le_of_ble_eq_true rfl) rfl w_714 pt_M_12 ?_
            refine go_iload d_M_makeByClock_106 rfl ?_
            refine go_ald p (nI (D.ito p)) d_M_makeByClock_108 (Nat.le_of_ble_eq_true rfl) rfl rfl (by omega) (by decide) e1 ?_
            refine go_iload_n d_M_makeByClock_109 rfl ?_
            by_cases ej : D.ito p = j
            · rw [if_pos ej] at i2
              refine go_icmp_ne (tgt := 137) d_M_makeByClock_110 (by decide) (fun z => absurd (congrArg nI ej) z) (fun z => ?_)
              refine go_aload_n d_M_makeByClock_113 rfl ?_
              refine go_getP (j := 3) d_M_makeByClock_114 (Nat.le_of_ble_eq_true rfl) rfl pc_M (Nat.le_of_ble_eq_true rfl) rfl w_705 pt_M_3 ?_
              refine go_iload_n d_M_makeByClock_117 rfl ?_
              refine go_ald j (nI (D.op j)) d_M_makeByClock_118 (Nat.le_of_ble_eq_true rfl) rfl rfl (by omega) (by decide) ebl.1 ?_
              refine go_iload_n d_M_makeByClock_119 rfl ?_
              refine go_aload_n d_M_makeByClock_120 rfl ?_
              refine go_getP (j := 27) d_M_makeByClock_121 (Nat.le_of_ble_eq_true rfl) rfl pc_M (Nat.le_of_ble_eq_true rfl) rfl w_729 pt_M_27 ?_
              refine go_sipush (v := 1002) d_M_makeByClock_124 (by decide) ?_
              refine go_iload d_M_makeByClock_127 rfl ?_
              refine go_imul d_M_makeByClock_129 ?_
              refine go_top (nI (1002 * p)) (pk_mul 1002 p) ?_
              refine go_iload_n d_M_makeByClock_130 rfl ?_
              refine go_iadd d_M_makeByClock_131 ?_
              refine go_top (nI (1002 * p + k)) (nI_add _ _) ?_
              refine go_ald (1002 * p + k) (sv (20 + p)) d_M_makeByClock_132 (Nat.le_of_ble_eq_true rfl) rfl rfl (by omega) (by decide) (h2 p hp2 ej) ?_
              refine go_callS (k2 := m_M_apply) (As := [.int (nI (D.op j)), .int v, .int (sv (20 + p))]) (r := some (.int (jn (D.op j) v (sv (20 + p))))) d_M_makeByClock_133 ok_M_apply sl_M_164 rfl rfl (Nat.le_of_ble_eq_true rfl) (Nat.le_of_ble_eq_true rfl) (Nat.le_of_ble_eq_true rfl) (Nat.le_of_ble_eq_true rfl) rfl rfl (sp_M_apply hop) ?_
              refine go_istore_n d_M_makeByClock_136 (Nat.le_of_ble_eq_true rfl) rfl ?_
              refine go_iinc (v := nI (p + 1)) d_M_makeByClock_137 rfl (by first | rfl | exact nI_1 _) rfl ?_
              refine go_goto (tgt := 81) d_M_makeByClock_140 (by decide) ?_
              exact i2
            · rw [if_neg ej] at i2
              refine go_icmp_ne (tgt := 137) d_M_makeByClock_110 (by decide) (fun z => ?_) (fun z => absurd z (nI_neq (by omega) (by omega) ej))
              refine go_iinc (v := nI (p + 1)) d_M_makeByClock_137 rfl (by first | rfl | exact nI_1 _) rfl ?_
              refine go_goto (tgt := 81) d_M_makeByClock_140 (by decide) ?_
              exact i2
          · have hne : ¬ x = 20 + p := fun z => et (e4.2.mpr z)
            have e5 : (if x < D.nc ∨ (20 ≤ x ∧ x < 20 + (p + 1)) then stV D j sv v x else v) = (if x < D.nc ∨ (20 ≤ x ∧ x < 20 + p) then stV D j sv v x else v) := by
              by_cases hh : x < D.nc ∨ (20 ≤ x ∧ x < 20 + p)
              · rw [if_pos hh, if_pos (by omega)]
              · rw [if_neg hh, if_neg (by omega)]
            rw [e5] at i2
            refine go_icmp_ne (tgt := 137) d_M_makeByClock_99 (by decide) (fun z => ?_) (fun z => absurd z (nI_neq (by omega) (by omega) et))
            refine go_iinc (v := nI (p + 1)) d_M_makeByClock_137 rfl (by first | rfl | exact nI_1 _) rfl ?_
            refine go_goto (tgt := 81) d_M_makeByClock_140 (by decide) ?_
            exact i2
      have lc : ∀ b c, D.nc - c = b → c ≤ D.nc → pm_Go (d + 1) m_M_makeByClock 22 [some (.ref 69), some (.int (nI j)), some (.int (nI k)), some (.int (if x < c then stV D j sv v x else v)), some (.int (nI n)), some (.int (nI c))] [] 0 0 (ST I J) (.inl (some (.int ((inL D j).foldl (fun v x => jn (D.op j) v (sv x)) (D.ct j)))), ST I J) := by
        intro b
        induction b with
        | zero =>
          intro c hb hc
          have : c = D.nc := by omega
          subst this
          have i2 := lp D.ni 0 (by omega) (by omega)
          have e : (if x < D.nc ∨ (20 ≤ x ∧ x < 20 + 0) then stV D j sv v x else v) = (if x < D.nc then stV D j sv v x else v) := by
            by_cases hh : x < D.nc
            · rw [if_pos hh, if_pos (by omega)]
            · rw [if_neg hh, if_neg (by omega)]
          rw [e] at i2
          refine go_iload d_M_makeByClock_22 rfl ?_
          refine go_aload_n d_M_makeByClock_24 rfl ?_
          refine go_gI (j := 5) (nI D.nc) d_M_makeByClock_25 (Nat.le_of_ble_eq_true rfl) rfl pc_M (Nat.le_of_ble_eq_true rfl) (by decide) w_707 rM.nc ?_
          refine go_icmp_ge (tgt := 78) d_M_makeByClock_28 (by decide) (fun z => ?_) (fun z => absurd (nI_le (Nat.le_refl _) (by omega)) z)
          refine go_iconst (v := 0) d_M_makeByClock_78 (by decide) ?_
          refine go_istore d_M_makeByClock_79 (Nat.le_of_ble_eq_true rfl) rfl ?_
          exact i2
        | succ b ihb =>
          intro c hb hc
          have hc2 : c < D.nc := by omega
          have i2 := ihb (c + 1) (by omega) (by omega)
          obtain ⟨-, e1, -, -, tp, e2, e3⟩ := rM.ch c hc2
          have e4 := ex tp _ e2
          have hto := (hD.ch c hc2).2.1
          refine go_iload d_M_makeByClock_22 rfl ?_
          refine go_aload_n d_M_makeByClock_24 rfl ?_
          refine go_gI (j := 5) (nI D.nc) d_M_makeByClock_25 (Nat.le_of_ble_eq_true rfl) rfl pc_M (Nat.le_of_ble_eq_true rfl) (by decide) w_707 rM.nc ?_
          refine go_icmp_ge (tgt := 78) d_M_makeByClock_28 (by decide) (fun z => absurd z (nI_ge (by omega) (by omega))) (fun z => ?_)
          refine go_aload_n d_M_makeByClock_31 rfl ?_
          refine go_getP (j := 10) d_M_makeByClock_32 (Nat.le_of_ble_eq_true rfl) rfl pc_M (Nat.le_of_ble_eq_true rfl) rfl w_712 pt_M_10 ?_
          refine go_iload d_M_makeByClock_35 rfl ?_
          refine go_ald c (nI tp) d_M_makeByClock_37 (Nat.le_of_ble_eq_true rfl) rfl rfl (by omega) (by decide) e3 ?_
          refine go_iload d_M_makeByClock_38 rfl ?_
          by_cases et : tp = n
          · have ext : x = c := e4.2.mp et
            rw [if_pos (by omega), ext, stV_c (by omega)] at i2
            rw [if_neg (by omega)]
            refine go_icmp_ne (tgt := 72) d_M_makeByClock_40 (by decide) (fun z => absurd (congrArg nI et) z) (fun z => ?_)
            refine go_aload_n d_M_makeByClock_43 rfl ?_
            refine go_getP (j := 7) d_M_makeByClock_44 (Nat.le_of_ble_eq_true rfl) rfl pc_M (Nat.le_of_ble_eq_true rfl) rfl w_709 pt_M_7 ?_
            refine go_iload d_M_makeByClock_47 rfl ?_
            refine go_ald c (nI (D.to c)) d_M_makeByClock_49 (Nat.le_of_ble_eq_true rfl) rfl rfl (by omega) (by decide) e1 ?_
            refine go_iload_n d_M_makeByClock_50 rfl ?_
            by_cases ej : D.to c = j
            · rw [if_pos ej] at i2
              refine go_icmp_ne (tgt := 72) d_M_makeByClock_51 (by decide) (fun z => absurd (congrArg nI ej) z) (fun z => ?_)
              refine go_aload_n d_M_makeByClock_54 rfl ?_
              refine go_getP (j := 3) d_M_makeByClock_55 (Nat.le_of_ble_eq_true rfl) rfl pc_M (Nat.le_of_ble_eq_true rfl) rfl w_705 pt_M_3 ?_
              refine go_iload_n d_M_makeByClock_58 rfl ?_
              refine go_ald j (nI (D.op j)) d_M_makeByClock_59 (Nat.le_of_ble_eq_true rfl) rfl rfl (by omega) (by decide) ebl.1 ?_
              refine go_iload_n d_M_makeByClock_60 rfl ?_
              refine go_aload_n d_M_makeByClock_61 rfl ?_
              refine go_getP (j := 33) d_M_makeByClock_62 (Nat.le_of_ble_eq_true rfl) rfl pc_M (Nat.le_of_ble_eq_true rfl) rfl w_735 pt_M_33 ?_
              refine go_iload d_M_makeByClock_65 rfl ?_
              refine go_ald c (sv c) d_M_makeByClock_67 (Nat.le_of_ble_eq_true rfl) rfl rfl (by omega) (by decide) (h1 c hc2 ej) ?_
              refine go_callS (k2 := m_M_apply) (As := [.int (nI (D.op j)), .int v, .int (sv c)]) (r := some (.int (jn (D.op j) v (sv c)))) d_M_makeByClock_68 ok_M_apply sl_M_164 rfl rfl (Nat.le_of_ble_eq_true rfl) (Nat.le_of_ble_eq_true rfl) (Nat.le_of_ble_eq_true rfl) (Nat.le_of_ble_eq_true rfl) rfl rfl (sp_M_apply hop) ?_
              refine go_istore_n d_M_makeByClock_71 (Nat.le_of_ble_eq_true rfl) rfl ?_
              refine go_iinc (v := nI (c + 1)) d_M_makeByClock_72 rfl (by first | rfl | exact nI_1 _) rfl ?_
              refine go_goto (tgt := 22) d_M_makeByClock_75 (by decide) ?_
              exact i2
            · rw [if_neg ej] at i2
              refine go_icmp_ne (tgt := 72) d_M_makeByClock_51 (by decide) (fun z => ?_) (fun z => absurd z (nI_neq (by omega) (by omega) ej))
              refine go_iinc (v := nI (c + 1)) d_M_makeByClock_72 rfl (by first | rfl | exact nI_1 _) rfl ?_
              refine go_goto (tgt := 22) d_M_makeByClock_75 (by decide) ?_
              exact i2
          · have hne : ¬ x = c := fun z => et (e4.2.mpr z)
            have e5 : (if x < c + 1 then stV D j sv v x else v) = (if x < c then stV D j sv v x else v) := by
              by_cases hh : x < c
              · rw [if_pos hh, if_pos (by omega)]
              · rw [if_neg hh, if_neg (by omega)]
            rw [e5] at i2
            refine go_icmp_ne (tgt := 72) d_M_makeByClock_40 (by decide) (fun z => ?_) (fun z => absurd z (nI_neq (by omega) (by omega) et))
            refine go_iinc (v := nI (c + 1)) d_M_makeByClock_72 rfl (by first | rfl | exact nI_1 _) rfl ?_
            refine go_goto (tgt := 22) d_M_makeByClock_75 (by decide) ?_
            exact i2
      have i3 := lc D.nc 0 (by omega) (by omega)
      rw [if_neg (by omega)] at i3
      refine go_iload d_M_makeByClock_10 rfl ?_
      refine go_aload_n d_M_makeByClock_12 rfl ?_
      refine go_gI (j := 17) (nI D.sq.length) d_M_makeByClock_13 (Nat.le_of_ble_eq_true rfl) rfl pc_M (Nat.le_of_ble_eq_true rfl) (by decide) w_719 rM.ad ?_
      refine go_icmp_ge (tgt := 149) d_M_makeByClock_16 (by decide) (fun z => absurd z (nI_ge (by omega) (by omega))) (fun z => ?_)
      refine go_iconst (v := 0) d_M_makeByClock_19 (by decide) ?_
      refine go_istore d_M_makeByClock_20 (Nat.le_of_ble_eq_true rfl) rfl ?_
      exact i3
  have i0 := loop D.sq.length 0 (by omega) (by omega) none
  have e0 : rsV D j sv 0 = D.ct j := rfl
  rw [e0] at i0
  refine go_aload_n d_M_makeByClock_0 rfl ?_
  refine go_getP (j := 4) d_M_makeByClock_1 (Nat.le_of_ble_eq_true rfl) rfl pc_M (Nat.le_of_ble_eq_true rfl) rfl w_706 pt_M_4 ?_
  refine go_iload_n d_M_makeByClock_4 rfl ?_
  refine go_ald j (D.ct j) d_M_makeByClock_5 (Nat.le_of_ble_eq_true rfl) rfl rfl (by omega) (by decide) ebl.2 ?_
  refine go_istore_n d_M_makeByClock_6 (Nat.le_of_ble_eq_true rfl) rfl ?_
  refine go_iconst (v := 0) d_M_makeByClock_7 (by decide) ?_
  refine go_istore d_M_makeByClock_8 (Nat.le_of_ble_eq_true rfl) rfl ?_
  exact i0
theorem sp_M_byClockN {a b : Int32} (h : I 69 1 = 0) (hD : DW D) (rM : RMD I D) : pm_Go (d + 3) m_M_byClock 0 [some (.ref 69), some (.int a), some (.int b), none, none] [] 0 0 (ST I J) (.inl (some (.int 0)), ST (pm_uI I 69 0 1) J) := by
  have hni := hD.ni
  have e11 : I 69 11 = nI D.ni := rM.ni
  refine go_aload_n d_M_byClock_0 rfl ?_
  refine go_aload_n d_M_byClock_1 rfl ?_
  refine go_gI (j := 1) (0) d_M_byClock_2 (Nat.le_of_ble_eq_true rfl) rfl pc_M (Nat.le_of_ble_eq_true rfl) (by decide) w_703 h ?_
  refine go_if_ne (tgt := 12) d_M_byClock_5 (by decide) (fun z => absurd rfl z) (fun z => ?_)
  refine go_iconst (v := 1) d_M_byClock_8 (by decide) ?_
  refine go_goto (tgt := 44) d_M_byClock_9 (by decide) ?_
  refine go_pI (j := 0) d_M_byClock_44 (Nat.le_of_ble_eq_true rfl) rfl pc_M (Nat.le_of_ble_eq_true rfl) (by decide) w_702 rfl (Or.inl rfl) ?_
  refine go_iconst (v := 0) d_M_byClock_47 (by decide) ?_
  refine go_istore_n d_M_byClock_48 (Nat.le_of_ble_eq_true rfl) rfl ?_
  refine go_iload_n d_M_byClock_49 rfl ?_
  refine go_aload_n d_M_byClock_50 rfl ?_
  refine go_gI (j := 11) (nI D.ni) d_M_byClock_51 (Nat.le_of_ble_eq_true rfl) rfl pc_M (Nat.le_of_ble_eq_true rfl) (by decide) w_713 e11 ?_
  by_cases h0 : D.ni ≤ 0
  · refine go_icmp_ge (tgt := 94) d_M_byClock_54 (by decide) (fun z => ?_) (fun z => absurd (nI_le (b := 0) h0 (by decide)) z)
    refine go_aload_n d_M_byClock_94 rfl ?_
    refine go_gI (j := 0) (1) d_M_byClock_95 (Nat.le_of_ble_eq_true rfl) rfl pc_M (Nat.le_of_ble_eq_true rfl) (by decide) w_702 rfl ?_
    refine go_if_le (tgt := 103) d_M_byClock_98 (by decide) (fun z => absurd z (by decide)) (fun z => ?_)
    refine go_iconst (v := 0) d_M_byClock_101 (by decide) ?_
    exact go_ireturn (st := []) d_M_byClock_102 rfl (Nat.le_of_ble_eq_true rfl) (Nat.le_of_ble_eq_true rfl) rfl
  · refine go_icmp_ge (tgt := 94) d_M_byClock_54 (by decide) (fun z => absurd z (nI_nle (by omega) (by omega))) (fun z => ?_)
    refine go_aload_n d_M_byClock_57 rfl ?_
    refine go_gI (j := 0) (1) d_M_byClock_58 (Nat.le_of_ble_eq_true rfl) rfl pc_M (Nat.le_of_ble_eq_true rfl) (by decide) w_702 rfl ?_
    refine go_if_ne (tgt := 94) d_M_byClock_61 (by decide) (fun z => ?_) (fun z => absurd z (by decide))
    refine go_aload_n d_M_byClock_94 rfl ?_
    refine go_gI (j := 0) (1) d_M_byClock_95 (Nat.le_of_ble_eq_true rfl) rfl pc_M (Nat.le_of_ble_eq_true rfl) (by decide) w_702 rfl ?_
    refine go_if_le (tgt := 103) d_M_byClock_98 (by decide) (fun z => absurd z (by decide)) (fun z => ?_)
    refine go_iconst (v := 0) d_M_byClock_101 (by decide) ?_
    exact go_ireturn (st := []) d_M_byClock_102 rfl (Nat.le_of_ble_eq_true rfl) (Nat.le_of_ble_eq_true rfl) rfl
theorem M_byc_t {a b v : Int32} (hD : DW D) (e11 : I 69 11 = nI D.ni) (hv : v = 2 ∨ v = 3) : pm_Go (d + 3) m_M_byClock 44 [some (.ref 69), some (.int a), some (.int b), none, none] [.int v, .ref 69] 0 0 (ST I J) (.inl (some (.int 0)), ST (pm_uI I 69 0 v) J) := by
  have hni := hD.ni
  refine go_pI (j := 0) d_M_byClock_44 (Nat.le_of_ble_eq_true rfl) rfl pc_M (Nat.le_of_ble_eq_true rfl) (by decide) w_702 rfl (Or.inl rfl) ?_
  refine go_iconst (v := 0) d_M_byClock_47 (by decide) ?_
  refine go_istore_n d_M_byClock_48 (Nat.le_of_ble_eq_true rfl) rfl ?_
  refine go_iload_n d_M_byClock_49 rfl ?_
  refine go_aload_n d_M_byClock_50 rfl ?_
  refine go_gI (j := 11) (nI D.ni) d_M_byClock_51 (Nat.le_of_ble_eq_true rfl) rfl pc_M (Nat.le_of_ble_eq_true rfl) (by decide) w_713 e11 ?_
  by_cases h0 : D.ni ≤ 0
  · refine go_icmp_ge (tgt := 94) d_M_byClock_54 (by decide) (fun z => ?_) (fun z => absurd (nI_le (b := 0) h0 (by decide)) z)
    refine go_aload_n d_M_byClock_94 rfl ?_
    refine go_gI (j := 0) (v) d_M_byClock_95 (Nat.le_of_ble_eq_true rfl) rfl pc_M (Nat.le_of_ble_eq_true rfl) (by decide) w_702 rfl ?_
    refine go_if_le (tgt := 103) d_M_byClock_98 (by decide) (fun z => absurd z (by rcases hv with rfl | rfl <;> decide)) (fun z => ?_)
    refine go_iconst (v := 0) d_M_byClock_101 (by decide) ?_
    exact go_ireturn (st := []) d_M_byClock_102 rfl (Nat.le_of_ble_eq_true rfl) (Nat.le_of_ble_eq_true rfl) rfl
  · refine go_icmp_ge (tgt := 94) d_M_byClock_54 (by decide) (fun z => absurd z (nI_nle (by omega) (by omega))) (fun z => ?_)
    refine go_aload_n d_M_byClock_57 rfl ?_
    refine go_gI (j := 0) (v) d_M_byClock_58 (Nat.le_of_ble_eq_true rfl) rfl pc_M (Nat.le_of_ble_eq_true rfl) (by decide) w_702 rfl ?_
    refine go_if_ne (tgt := 94) d_M_byClock_61 (by decide) (fun z => ?_) (fun z => absurd z (by rcases hv with rfl | rfl <;> decide))
    refine go_aload_n d_M_byClock_94 rfl ?_
    refine go_gI (j := 0) (v) d_M_byClock_95 (Nat.le_of_ble_eq_true rfl) rfl pc_M (Nat.le_of_ble_eq_true rfl) (by decide) w_702 rfl ?_
    refine go_if_le (tgt := 103) d_M_byClock_98 (by decide) (fun z => absurd z (by rcases hv with rfl | rfl <;> decide)) (fun z => ?_)
    refine go_iconst (v := 0) d_M_byClock_101 (by decide) ?_
    exact go_ireturn (st := []) d_M_byClock_102 rfl (Nat.le_of_ble_eq_true rfl) (Nat.le_of_ble_eq_true rfl) rfl
theorem sp_M_byClockX {a b : Int32} (h : I 69 1 = 1) (hD : DW D) (rM : RMD I D) (hx : ¬ okN a D.no) : pm_Go (d + 3) m_M_byClock 0 [some (.ref 69), some (.int a), some (.int b), none, none] [] 0 0 (ST I J) (.inl (some (.int 0)), ST (pm_uI I 69 0 2) J) := by
  have h4 := hD.no
  refine go_aload_n d_M_byClock_0 rfl ?_
  refine go_aload_n d_M_byClock_1 rfl ?_
  refine go_gI (j := 1) (1) d_M_byClock_2 (Nat.le_of_ble_eq_true rfl) rfl pc_M (Nat.le_of_ble_eq_true rfl) (by decide) w_703 h ?_
  refine go_if_ne (tgt := 12) d_M_byClock_5 (by decide) (fun z => ?_) (fun z => absurd z (by decide))
  refine go_iload_n d_M_byClock_12 rfl ?_
  by_cases h1 : a < 0
  · refine go_if_lt (tgt := 24) d_M_byClock_13 (by decide) (fun z => ?_) (fun z => absurd h1 z)
    refine go_iconst (v := 2) d_M_byClock_24 (by decide) ?_
    refine go_goto (tgt := 44) d_M_byClock_25 (by decide) ?_
    exact M_byc_t hD rM.ni (Or.inl rfl)
  · refine go_if_lt (tgt := 24) d_M_byClock_13 (by decide) (fun z => absurd z h1) (fun z => ?_)
    refine go_iload_n d_M_byClock_16 rfl ?_
    refine go_aload_n d_M_byClock_17 rfl ?_
    refine go_gI (j := 14) (nI D.no) d_M_byClock_18 (Nat.le_of_ble_eq_true rfl) rfl pc_M (Nat.le_of_ble_eq_true rfl) (by decide) w_716 rM.no ?_
    refine go_icmp_lt (tgt := 28) d_M_byClock_21 (by decide) (fun z => absurd (okN_of (by omega) h1 z) hx) (fun z => ?_)
    refine go_iconst (v := 2) d_M_byClock_24 (by decide) ?_
    refine go_goto (tgt := 44) d_M_byClock_25 (by decide) ?_
    exact M_byc_t hD rM.ni (Or.inl rfl)
/-- an input that has not taken enough -/
theorem M_byc_u {p k : Nat} (hD : DW D) (rM : RMD I D) (rS : RMS I D s t) (hM : MI D s) (hk : k < 1000) : ∀ n i, D.ni - i = n → (∃ q, i ≤ q ∧ q < D.ni ∧ s.tu (D.ito q) ≤ k) → pm_Go (d + 3) m_M_byClock 49 [some (.ref 69), some (.int (nI p)), some (.int (nI k)), some (.int (nI i)), none] [] 0 0 (ST (pm_uI I 69 0 0) J) (.inl (some (.int 0)), ST (pm_uI I 69 0 3) J) := by
  have hni := hD.ni
  have h10 := hD.nb
  have hT := hM.T
  have e11 : I 69 11 = nI D.ni := rM.ni
  intro n
  induction n with
  | zero =>
    rintro i hn ⟨q, h1, h2, h3⟩
    omega
  | succ n ih =>
    rintro i hn ⟨q, h1, h2, h3⟩
    have hi : i < D.ni := by omega
    have hto := hD.ip i hi
    have htu := hM.tu _ hto
    have v1 : I 88 (D.ito i) = nI (s.tu (D.ito i)) := (rS.tu _ hto).1
    have v2 : I 77 i = nI (D.ito i) := (rM.ip i hi).1
    refine go_iload_n d_M_byClock_49 rfl ?_
    refine go_aload_n d_M_byClock_50 rfl ?_
    refine go_gI (j := 11) (nI D.ni) d_M_byClock_51 (Nat.le_of_ble_eq_true rfl) rfl pc_M (Nat.le_of_ble_eq_true rfl) (by decide) w_713 e11 ?_
    refine go_icmp_ge (tgt := 94) d_M_byClock_54 (by decide) (fun z => absurd z (nI_ge (by omega) (by omega))) (fun z => ?_)
    refine go_aload_n d_M_byClock_57 rfl ?_
    refine go_gI (j := 0) (0) d_M_byClock_58 (Nat.le_of_ble_eq_true rfl) rfl pc_M (Nat.le_of_ble_eq_true rfl) (by decide) w_702 rfl ?_
    refine go_if_ne (tgt := 94) d_M_byClock_61 (by decide) (fun z => absurd rfl z) (fun z => ?_)
    refine go_aload_n d_M_byClock_64 rfl ?_
    refine go_aload_n d_M_byClock_65 rfl ?_
    refine go_getP (j := 26) d_M_byClock_66 (Nat.le_of_ble_eq_true rfl) rfl pc_M (Nat.le_of_ble_eq_true rfl) rfl w_728 pt_M_26 ?_
    refine go_aload_n d_M_byClock_69 rfl ?_
    refine go_getP (j := 12) d_M_byClock_70 (Nat.le_of_ble_eq_true rfl) rfl pc_M (Nat.le_of_ble_eq_true rfl) rfl w_714 pt_M_12 ?_
    refine go_iload_n d_M_byClock_73 rfl ?_
    refine go_ald i (nI (D.ito i)) d_M_byClock_74 (Nat.le_of_ble_eq_true rfl) rfl rfl (by omega) (by decide) v2 ?_
    refine go_ald (D.ito i) (nI (s.tu (D.ito i))) d_M_byClock_75 (Nat.le_of_ble_eq_true rfl) rfl rfl (by omega) (by decide) v1 ?_
    refine go_iload_n d_M_byClock_76 rfl ?_
    by_cases hl : s.tu (D.ito i) ≤ k
    · refine go_icmp_gt (tgt := 84) d_M_byClock_77 (by decide) (fun z => absurd z (nI_nlt hl (by omega))) (fun z => ?_)
      refine go_iconst (v := 3) d_M_byClock_80 (by decide) ?_
      refine go_goto (tgt := 85) d_M_byClock_81 (by decide) ?_
      refine go_pI (j := 0) d_M_byClock_85 (Nat.le_of_ble_eq_true rfl) rfl pc_M (Nat.le_of_ble_eq_true rfl) (by decide) w_702 rfl (Or.inl rfl) ?_
      refine go_st (σ' := ST (pm_uI I 69 0 3) J) (by rw [uI_uI]) ?_
      refine go_iinc (v := nI (i + 1)) d_M_byClock_88 rfl (by first | rfl | exact nI_1 _) rfl ?_
      refine go_goto (tgt := 49) d_M_byClock_91 (by decide) ?_
      refine go_iload_n d_M_byClock_49 rfl ?_
      refine go_aload_n d_M_byClock_50 rfl ?_
      refine go_gI (j := 11) (nI D.ni) d_M_byClock_51 (Nat.le_of_ble_eq_true rfl) rfl pc_M (Nat.le_of_ble_eq_true rfl) (by decide) w_713 e11 ?_
      by_cases h0 : D.ni ≤ i + 1
      · refine go_icmp_ge (tgt := 94) d_M_byClock_54 (by decide) (fun z => ?_) (fun z => absurd (nI_le h0 (by omega)) z)
        refine go_aload_n d_M_byClock_94 rfl ?_
        refine go_gI (j := 0) (3) d_M_byClock_95 (Nat.le_of_ble_eq_true rfl) rfl pc_M (Nat.le_of_ble_eq_true rfl) (by decide) w_702 rfl ?_
        refine go_if_le (tgt := 103) d_M_byClock_98 (by decide) (fun z => absurd z (by decide)) (fun z => ?_)
        refine go_iconst (v := 0) d_M_byClock_101 (by decide) ?_
        exact go_ireturn (st := []) d_M_byClock_102 rfl (Nat.le_of_ble_eq_true rfl) (Nat.le_of_ble_eq_true rfl) rfl
      · refine go_icmp_ge (tgt := 94) d_M_byClock_54 (by decide) (fun z => absurd z (nI_ge (by omega) (by omega))) (fun z => ?_)
        refine go_aload_n d_M_byClock_57 rfl ?_
        refine go_gI (j := 0) (3) d_M_byClock_58 (Nat.le_of_ble_eq_true rfl) rfl pc_M (Nat.le_of_ble_eq_true rfl) (by decide) w_702 rfl ?_
        refine go_if_ne (tgt := 94) d_M_byClock_61 (by decide) (fun z => ?_) (fun z => absurd z (by decide))
        refine go_aload_n d_M_byClock_94 rfl ?_
        refine go_gI (j := 0) (3) d_M_byClock_95 (Nat.le_of_ble_eq_true rfl) rfl pc_M (Nat.le_of_ble_eq_true rfl) (by decide) w_702 rfl ?_
        refine go_if_le (tgt := 103) d_M_byClock_98 (by decide) (fun z => absurd z (by decide)) (fun z => ?_)
        refine go_iconst (v := 0) d_M_byClock_101 (by decide) ?_
        exact go_ireturn (st := []) d_M_byClock_102 rfl (Nat.le_of_ble_eq_true rfl) (Nat.le_of_ble_eq_true rfl) rfl
    · have i1 := ih (i + 1) (by omega) ⟨q, by
        by_cases e : q = i
        · rw [e] at h3; omega
        · omega, h2, h3⟩
      refine go_icmp_gt (tgt := 84) d_M_byClock_77 (by decide) (fun z => ?_) (fun z => absurd (nI_lt (show k < s.tu (D.ito i) by omega) (by omega)) z)
      refine go_iconst (v := 0) d_M_byClock_84 (by decide) ?_
      refine go_pI (j := 0) d_M_byClock_85 (Nat.le_of_ble_eq_true rfl) rfl pc_M (Nat.le_of_ble_eq_true rfl) (by decide) w_702 rfl (Or.inl rfl) ?_
      refine go_st (σ' := ST (pm_uI I 69 0 0) J) (by rw [uI_uI]) ?_
      refine go_iinc (v := nI (i + 1)) d_M_byClock_88 rfl (by first | rfl | exact nI_1 _) rfl ?_
      refine go_goto (tgt := 49) d_M_byClock_91 (by decide) ?_
      exact i1
theorem sp_M_byClockZ {p : Nat} {b : Int32} (h : I 69 1 = 1) (hD : DW D) (hM : MI D s) (rM : RMD I D) (rS : RMS I D s t) (hp : p < D.no) (hx : ¬ okN b (leM D s)) : pm_Go (d + 3) m_M_byClock 0 [some (.ref 69), some (.int (nI p)), some (.int b), none, none] [] 0 0 (ST I J) (.inl (some (.int 0)), ST (pm_uI I 69 0 3) J) := by
  have h4 := hD.no
  refine go_aload_n d_M_byClock_0 rfl ?_
  refine go_aload_n d_M_byClock_1 rfl ?_
  refine go_gI (j := 1) (1) d_M_byClock_2 (Nat.le_of_ble_eq_true rfl) rfl pc_M (Nat.le_of_ble_eq_true rfl) (by decide) w_703 h ?_
  refine go_if_ne (tgt := 12) d_M_byClock_5 (by decide) (fun z => ?_) (fun z => absurd z (by decide))
  refine go_iload_n d_M_byClock_12 rfl ?_
  refine go_if_lt (tgt := 24) d_M_byClock_13 (by decide) (fun z => absurd z (nI_pos (by omega))) (fun z => ?_)
  refine go_iload_n d_M_byClock_16 rfl ?_
  refine go_aload_n d_M_byClock_17 rfl ?_
  refine go_gI (j := 14) (nI D.no) d_M_byClock_18 (Nat.le_of_ble_eq_true rfl) rfl pc_M (Nat.le_of_ble_eq_true rfl) (by decide) w_716 rM.no ?_
  refine go_icmp_lt (tgt := 28) d_M_byClock_21 (by decide) (fun z => ?_) (fun z => absurd (nI_lt hp (by omega)) z)
  refine go_iload_n d_M_byClock_28 rfl ?_
  by_cases h1 : b < 0
  · refine go_if_lt (tgt := 39) d_M_byClock_29 (by decide) (fun z => ?_) (fun z => absurd h1 z)
    refine go_iconst (v := 3) d_M_byClock_39 (by decide) ?_
    refine go_goto (tgt := 44) d_M_byClock_40 (by decide) ?_
    exact M_byc_t hD rM.ni (Or.inr rfl)
  · refine go_if_lt (tgt := 39) d_M_byClock_29 (by decide) (fun z => absurd z h1) (fun z => ?_)
    refine go_iload_n d_M_byClock_32 rfl ?_
    refine go_sipush (v := 1000) d_M_byClock_33 (by decide) ?_
    by_cases h2 : b < 1000
    · refine go_icmp_lt (tgt := 43) d_M_byClock_36 (by decide) (fun z => ?_) (fun z => absurd h2 z)
      obtain ⟨k, hk, e⟩ := okN_of (n := 1000) (by decide) h1 h2
      subst e
      have h3 : ∃ q, 0 ≤ q ∧ q < D.ni ∧ s.tu (D.ito q) ≤ k := by
        refine Classical.byContradiction (fun hc => hx ⟨k, ?_, rfl⟩)
        refine (le_fo (tn := fun p => s.tu (D.ito p)) D.ni).mpr ⟨hk, fun q hq => ?_⟩
        refine Nat.lt_of_not_le (fun z => hc ⟨q, Nat.zero_le _, hq, z⟩)
      refine go_iconst (v := 0) d_M_byClock_43 (by decide) ?_
      refine go_pI (j := 0) d_M_byClock_44 (Nat.le_of_ble_eq_true rfl) rfl pc_M (Nat.le_of_ble_eq_true rfl) (by decide) w_702 rfl (Or.inl rfl) ?_
      refine go_iconst (v := 0) d_M_byClock_47 (by decide) ?_
      refine go_istore_n d_M_byClock_48 (Nat.le_of_ble_eq_true rfl) rfl ?_
      exact M_byc_u hD rM rS hM hk D.ni 0 (by omega) h3
    · refine go_icmp_lt (tgt := 43) d_M_byClock_36 (by decide) (fun z => absurd z h2) (fun z => ?_)
      refine go_iconst (v := 3) d_M_byClock_39 (by decide) ?_
      refine go_goto (tgt := 44) d_M_byClock_40 (by decide) ?_
      exact M_byc_t hD rM.ni (Or.inr rfl)
theorem sp_M_byClockY {p k : Nat} (h : I 69 1 = 1) (hD : DW D) (hM : MI D s) (rM : RMD I D) (rS : RMS I D s t) (hp : p < D.no) (hk : k < leM D s) : ∃ I', pm_Go (d + 3) m_M_byClock 0 [some (.ref 69), some (.int (nI p)), some (.int (nI k)), none, none] [] 0 0 (ST I J) (.inl (some (.int (bcM D s.ofv p k))), ST I' J) ∧ fr [69, 95, 96] I I' ∧ I' 69 = pm_uI I 69 0 0 69 := by
  have h20 := hD.nc
  have h10 := hD.nb
  have h4 := hD.no
  have hni := hD.ni
  have hT := hM.T
  have hle := (le_fo (tn := fun p => s.tu (D.ito p)) D.ni).mp hk
  have hk2 : k < 1000 := hle.1
  have e11 : I 69 11 = nI D.ni := rM.ni
  have rM0 : RMD (pm_uI I 69 0 0) D := rM.th
  have fF : ∀ Ii : Nat → Nat → Int32, fr [95, 96] (pm_uI I 69 0 0) Ii → RMD Ii D ∧ (∀ q, q < D.ni → ∀ c, c ≤ k → Ii 89 (1002 * q + c) = s.ofv q c) := by
    intro Ii f
    refine ⟨rM0.fr f (by decide), fun q hq c hc => ?_⟩
    rw [f 89 (by decide), uI_ne (by decide)]
    have h1 := hM.off q hq
    have h2 : k < s.tu (D.ito q) := hle.2 q hq
    exact ((rS.of q hq).2 c (by omega)).1
  have ex : ∀ (Ii : Nat → Nat → Int32) (w4 : Option Value), fr [95, 96] (pm_uI I 69 0 0) Ii → (∀ j, j < D.nb → Ii 96 j = mkv D s.ofv (nwM D s.ofv k) k j) → pm_Go (d + 3) m_M_byClock 133 [some (.ref 69), some (.int (nI p)), some (.int (nI k)), some (.int (nI (k + 1))), w4] [] 0 0 (ST Ii J) (.inl (some (.int (bcM D s.ofv p k))), ST Ii J) := by
    intro Ii w4 f1 q1
    have rMi := (fF Ii f1).1
    have hof := hD.ot p hp
    refine go_iload_n d_M_byClock_133 rfl ?_
    refine go_iload_n d_M_byClock_134 rfl ?_
    refine go_icmp_gt (tgt := 213) d_M_byClock_135 (by decide) (fun z => ?_) (fun z => absurd (nI_lt (show k < k + 1 by omega) (by omega)) z)
    refine go_aload_n d_M_byClock_213 rfl ?_
    refine go_getP (j := 34) d_M_byClock_214 (Nat.le_of_ble_eq_true rfl) rfl pc_M (Nat.le_of_ble_eq_true rfl) rfl w_736 pt_M_34 ?_
    refine go_aload_n d_M_byClock_217 rfl ?_
    refine go_getP (j := 15) d_M_byClock_218 (Nat.le_of_ble_eq_true rfl) rfl pc_M (Nat.le_of_ble_eq_true rfl) rfl w_717 pt_M_15 ?_
    refine go_iload_n d_M_byClock_221 rfl ?_
    refine go_ald p (nI (D.ofm p)) d_M_byClock_222 (Nat.le_of_ble_eq_true rfl) rfl rfl (by omega) (by decide) (rMi.ot p hp).1 ?_
    refine go_ald (D.ofm p) (mkv D s.ofv (nwM D s.ofv k) k (D.ofm p)) d_M_byClock_223 (Nat.le_of_ble_eq_true rfl) rfl rfl (by omega) (by decide) (q1 _ hof) ?_
    exact go_ireturn (st := []) d_M_byClock_224 rfl (Nat.le_of_ble_eq_true rfl) (Nat.le_of_ble_eq_true rfl) rfl
  have cyc : ∀ n cy (Ii : Nat → Nat → Int32) (w4 : Option Value), k + 1 - cy = n → cy ≤ k → fr [95, 96] (pm_uI I 69 0 0) Ii → (∀ c, c < D.nc → Ii 95 c = nwM D s.ofv cy c) → ∃ I', pm_Go (d + 3) m_M_byClock 133 [some (.ref 69), some (.int (nI p)), some (.int (nI k)), some (.int (nI cy)), w4] [] 0 0 (ST Ii J) (.inl (some (.int (bcM D s.ofv p k))), ST I' J) ∧ fr [95, 96] (pm_uI I 69 0 0) I' := by
    intro n
    induction n with
    | zero =>
      intro cy Ii w4 hn hcy
      omega
    | succ n ih =>
      intro cy Ii w4 hn hcy f1 q1
      have lm : ∀ x j (Ii : Nat → Nat → Int32), D.nb - j = x → j ≤ D.nb → fr [95, 96] (pm_uI I 69 0 0) Ii → (∀ c, c < D.nc → Ii 95 c = nwM D s.ofv cy c) → (∀ i, i < j → Ii 96 i = mkv D s.ofv (nwM D s.ofv cy) cy i) → ∃ I2, fr [95, 96] (pm_uI I 69 0 0) I2 ∧ (∀ i, i < D.nb → I2 96 i = mkv D s.ofv (nwM D s.ofv cy) cy i) ∧ ∀ out, pm_Go (d + 3) m_M_byClock 170 [some (.ref 69), some (.int (nI p)), some (.int (nI k)), some (.int (nI cy)), some (.int (nI D.nb))] [] 0 0 (ST I2 J) out → pm_Go (d + 3) m_M_byClock 141 [some (.ref 69), some (.int (nI p)), some (.int (nI k)), some (.int (nI cy)), some (.int (nI j))] [] 0 0 (ST Ii J) out := by
        intro x
        induction x with
        | zero =>
          intro j Ii hx hj f1 q1 q2
          have : j = D.nb := by omega
          subst this
          have rMi := (fF Ii f1).1
          refine ⟨Ii, f1, q2, fun out ho => ?_⟩
          refine go_iload d_M_byClock_141 rfl ?_
          refine go_aload_n d_M_byClock_143 rfl ?_
          refine go_gI (j := 2) (nI D.nb) d_M_byClock_144 (Nat.le_of_ble_eq_true rfl) rfl pc_M (Nat.le_of_ble_eq_true rfl) (by decide) w_704 rMi.nb ?_
          refine go_icmp_ge (tgt := 170) d_M_byClock_147 (by decide) (fun z => ?_) (fun z => absurd (nI_le (Nat.le_refl _) (by omega)) z)
          exact ho
        | succ x ihx =>
          intro j Ii hx hj f1 q1 q2
          have hj2 : j < D.nb := by omega
          obtain ⟨rMi, eof⟩ := fF Ii f1
          have mk := sp_M_make (d := d + 1) (I := Ii) (J := J) (j := j) (k := cy) (sv := fun x => if x < 20 then nwM D s.ofv cy x else s.ofv (x - 20) cy) hD rMi hj2 (by omega) (fun c hc ec => by
            show Ii 95 c = (if c < 20 then nwM D s.ofv cy c else s.ofv (c - 20) cy)
            rw [if_pos (by omega)]
            exact q1 c hc) (fun q hq eq => by
            show Ii 89 (1002 * q + cy) = (if 20 + q < 20 then nwM D s.ofv cy (20 + q) else s.ofv (20 + q - 20) cy)
            rw [if_neg (by omega), show 20 + q - 20 = q by omega]
            exact eof q hq cy hcy)
          have mk2 : pm_Go (d + 2) m_M_makeByClock 0 [some (.ref 69), some (.int (nI j)), some (.int (nI cy)), none, none, none] [] 0 0 (ST Ii J) (.inl (some (.int (mkv D s.ofv (nwM D s.ofv cy) cy j))), ST Ii J) := mk
          obtain ⟨I2, i1, i2, i3⟩ := ihx (j + 1) (pm_uI Ii 96 j (mkv D s.ofv (nwM D s.ofv cy) cy j)) (by omega) (by omega) (f1.tr (fr.uI (by decide))) (fun c hc => by rw [uI_ne (by decide)]; exact q1 c hc) (fun i hi => by
            by_cases e : i = j
            · rw [e, uI_eq]
            · rw [uI_nj e]; exact q2 i (by omega))
          refine ⟨I2, i1, i2, fun out ho => ?_⟩
          have i4 := i3 out ho
          refine go_iload d_M_byClock_141 rfl ?_
          refine go_aload_n d_M_byClock_143 rfl ?_
          refine go_gI (j := 2) (nI D.nb) d_M_byClock_144 (Nat.le_of_ble_eq_true rfl) rfl pc_M (Nat.le_of_ble_eq_true rfl) (by decide) w_704 rMi.nb ?_
          refine go_icmp_ge (tgt := 170) d_M_byClock_147 (by decide) (fun z => absurd z (nI_ge (by omega) (by omega))) (fun z => ?_)
          refine go_aload_n d_M_byClock_150 rfl ?_
          refine go_getP (j := 34) d_M_byClock_151 (Nat.le_of_ble_eq_true rfl) rfl pc_M (Nat.le_of_ble_eq_true rfl) rfl w_736 pt_M_34 ?_
          refine go_iload d_M_byClock_154 rfl ?_
          refine go_aload_n d_M_byClock_156 rfl ?_
          refine go_iload d_M_byClock_157 rfl ?_
          refine go_iload_n d_M_byClock_159 rfl ?_
          refine go_callV (k2 := m_M_makeByClock) (As := [.int (nI j), .int (nI cy)]) (r := some (.int (mkv D s.ofv (nwM D s.ofv cy) cy j))) d_M_byClock_160 ok_M_makeByClock (Nat.le_of_ble_eq_true rfl) rfl pc_M rfl vl_M_197 rfl rfl (Nat.le_of_ble_eq_true rfl) (Nat.le_of_ble_eq_true rfl) (Nat.le_of_ble_eq_true rfl) (Nat.le_of_ble_eq_true rfl) rfl rfl mk2 ?_
          refine go_ast j d_M_byClock_163 (Nat.le_of_ble_eq_true rfl) rfl rfl (by omega) (by decide) ?_
          refine go_iinc (v := nI (j + 1)) d_M_byClock_164 rfl (by first | rfl | exact nI_1 _) rfl ?_
          refine go_goto (tgt := 141) d_M_byClock_167 (by decide) ?_
          exact i4
      obtain ⟨I2, a1, a2, a3⟩ := lm D.nb 0 Ii (by omega) (by omega) f1 q1 (fun i hi => absurd hi (by omega))
      have ln : ∀ x c (Ii : Nat → Nat → Int32), D.nc - c = x → c ≤ D.nc → fr [95, 96] (pm_uI I 69 0 0) Ii → (∀ i, i < c → Ii 95 i = nwM D s.ofv (cy + 1) i) → (∀ i, i < D.nb → Ii 96 i = mkv D s.ofv (nwM D s.ofv cy) cy i) → ∃ I2, fr [95, 96] (pm_uI I 69 0 0) I2 ∧ (∀ i, i < D.nc → I2 95 i = nwM D s.ofv (cy + 1) i) ∧ (∀ i, i < D.nb → I2 96 i = mkv D s.ofv (nwM D s.ofv cy) cy i) ∧ ∀ out, pm_Go (d + 3) m_M_byClock 207 [some (.ref 69), some (.int (nI p)), some (.int (nI k)), some (.int (nI cy)), some (.int (nI D.nc))] [] 0 0 (ST I2 J) out → pm_Go (d + 3) m_M_byClock 173 [some (.ref 69), some (.int (nI p)), some (.int (nI k)), some (.int (nI cy)), some (.int (nI c))] [] 0 0 (ST Ii J) out := by
        intro x
        induction x with
        | zero =>
          intro c Ii hx hc f1 q1 q2
          have : c = D.nc := by omega
          subst this
          have rMi := (fF Ii f1).1
          refine ⟨Ii, f1, q1, q2, fun out ho => ?_⟩
          refine go_iload d_M_byClock_173 rfl ?_
          refine go_aload_n d_M_byClock_175 rfl ?_
          refine go_gI (j := 5) (nI D.nc) d_M_byClock_176 (Nat.le_of_ble_eq_true rfl) rfl pc_M (Nat.le_of_ble_eq_true rfl) (by decide) w_707 rMi.nc ?_
          refine go_icmp_ge (tgt := 207) d_M_byClock_179 (by decide) (fun z => ?_) (fun z => absurd (nI_le (Nat.le_refl _) (by omega)) z)
          exact ho
        | succ x ihx =>
          intro c Ii hx hc f1 q1 q2
          have hc2 : c < D.nc := by omega
          have hf := (hD.ch c hc2).1
          obtain ⟨rMi, eof⟩ := fF Ii f1
          obtain ⟨I2, i1, i2, i3, i4⟩ := ihx (c + 1) (pm_uI Ii 95 c (mkv D s.ofv (nwM D s.ofv cy) cy (D.fm c))) (by omega) (by omega) (f1.tr (fr.uI (by decide))) (fun i hi => by
            by_cases e : i = c
            · rw [e, uI_eq]; rfl
            · rw [uI_nj e]; exact q1 i (by omega)) (fun i hi => by rw [uI_ne (by decide)]; exact q2 i hi)
          refine ⟨I2, i1, i2, i3, fun out ho => ?_⟩
          have i5 := i4 out ho
          refine go_iload d_M_byClock_173 rfl ?_
          refine go_aload_n d_M_byClock_175 rfl ?_
          refine go_gI (j := 5) (nI D.nc) d_M_byClock_176 (Nat.le_of_ble_eq_true rfl) rfl pc_M (Nat.le_of_ble_eq_true rfl) (by decide) w_707 rMi.nc ?_
          refine go_icmp_ge (tgt := 207) d_M_byClock_179 (by decide) (fun z => absurd z (nI_ge (by omega) (by omega))) (fun z => ?_)
          refine go_aload_n d_M_byClock_182 rfl ?_
          refine go_getP (j := 33) d_M_byClock_183 (Nat.le_of_ble_eq_true rfl) rfl pc_M (Nat.le_of_ble_eq_true rfl) rfl w_735 pt_M_33 ?_
          refine go_iload d_M_byClock_186 rfl ?_
          refine go_aload_n d_M_byClock_188 rfl ?_
          refine go_getP (j := 34) d_M_byClock_189 (Nat.le_of_ble_eq_true rfl) rfl pc_M (Nat.le_of_ble_eq_true rfl) rfl w_736 pt_M_34 ?_
          refine go_aload_n d_M_byClock_192 rfl ?_
          refine go_getP (j := 6) d_M_byClock_193 (Nat.le_of_ble_eq_true rfl) rfl pc_M (Nat.le_of_ble_eq_true rfl) rfl w_708 pt_M_6 ?_
          refine go_iload d_M_byClock_196 rfl ?_
          refine go_ald c (nI (D.fm c)) d_M_byClock_198 (Nat.le_of_ble_eq_true rfl) rfl rfl (by omega) (by decide) (rMi.ch c hc2).1 ?_
          refine go_ald (D.fm c) (mkv D s.ofv (nwM D s.ofv cy) cy (D.fm c)) d_M_byClock_199 (Nat.le_of_ble_eq_true rfl) rfl rfl (by omega) (by decide) (q2 _ hf) ?_
          refine go_ast c d_M_byClock_200 (Nat.le_of_ble_eq_true rfl) rfl rfl (by omega) (by decide) ?_
          refine go_iinc (v := nI (c + 1)) d_M_byClock_201 rfl (by first | rfl | exact nI_1 _) rfl ?_
          refine go_goto (tgt := 173) d_M_byClock_204 (by decide) ?_
          exact i5
      obtain ⟨I3, b1, b2, b3, b4⟩ := ln D.nc 0 I2 (by omega) (by omega) a1 (fun i hi => absurd hi (by omega)) a2
      by_cases hlast : cy = k
      · subst hlast
        have i1 := ex I3 (some (.int (nI D.nc))) b1 b3
        refine ⟨I3, ?_, b1⟩
        refine go_iload_n d_M_byClock_133 rfl ?_
        refine go_iload_n d_M_byClock_134 rfl ?_
        refine go_icmp_gt (tgt := 213) d_M_byClock_135 (by decide) (fun z => absurd z (nI_nlt (by omega) (by omega))) (fun z => ?_)
        refine go_iconst (v := 0) d_M_byClock_138 (by decide) ?_
        refine go_istore d_M_byClock_139 (Nat.le_of_ble_eq_true rfl) rfl ?_
        refine a3 _ ?_
        refine go_iconst (v := 0) d_M_byClock_170 (by decide) ?_
        refine go_istore d_M_byClock_171 (Nat.le_of_ble_eq_true rfl) rfl ?_
        refine b4 _ ?_
        refine go_iinc (v := nI (cy + 1)) d_M_byClock_207 rfl (by first | rfl | exact nI_1 _) rfl ?_
        refine go_goto (tgt := 133) d_M_byClock_210 (by decide) ?_
        exact i1
      · obtain ⟨I', i1, i2⟩ := ih (cy + 1) I3 (some (.int (nI D.nc))) (by omega) (by omega) b1 b2
        refine ⟨I', ?_, i2⟩
        refine go_iload_n d_M_byClock_133 rfl ?_
        refine go_iload_n d_M_byClock_134 rfl ?_
        refine go_icmp_gt (tgt := 213) d_M_byClock_135 (by decide) (fun z => absurd z (nI_nlt (by omega) (by omega))) (fun z => ?_)
        refine go_iconst (v := 0) d_M_byClock_138 (by decide) ?_
        refine go_istore d_M_byClock_139 (Nat.le_of_ble_eq_true rfl) rfl ?_
        refine a3 _ ?_
        refine go_iconst (v := 0) d_M_byClock_170 (by decide) ?_
        refine go_istore d_M_byClock_171 (Nat.le_of_ble_eq_true rfl) rfl ?_
        refine b4 _ ?_
        refine go_iinc (v := nI (cy + 1)) d_M_byClock_207 rfl (by first | rfl | exact nI_1 _) rfl ?_
        refine go_goto (tgt := 133) d_M_byClock_210 (by decide) ?_
        exact i1
  have l0 : ∀ x c (Ii : Nat → Nat → Int32), D.nc - c = x → c ≤ D.nc → fr [95, 96] (pm_uI I 69 0 0) Ii → (∀ i, i < c → Ii 95 i = D.fs i) → ∃ I', pm_Go (d + 3) m_M_byClock 105 [some (.ref 69), some (.int (nI p)), some (.int (nI k)), some (.int (nI c)), none] [] 0 0 (ST Ii J) (.inl (some (.int (bcM D s.ofv p k))), ST I' J) ∧ fr [95, 96] (pm_uI I 69 0 0) I' := by
    intro x
    induction x with
    | zero =>
      intro c Ii hx hc f1 q1
      have : c = D.nc := by omega
      subst this
      have rMi := (fF Ii f1).1
      obtain ⟨I', i1, i2⟩ := cyc (k + 1) 0 Ii none (by omega) (by omega) f1 q1
      refine ⟨I', ?_, i2⟩
      refine go_iload_n d_M_byClock_105 rfl ?_
      refine go_aload_n d_M_byClock_106 rfl ?_
      refine go_gI (j := 5) (nI D.nc) d_M_byClock_107 (Nat.le_of_ble_eq_true rfl) rfl pc_M (Nat.le_of_ble_eq_true rfl) (by decide) w_707 rMi.nc ?_
      refine go_icmp_ge (tgt := 131) d_M_byClock_110 (by decide) (fun z => ?_) (fun z => absurd (nI_le (Nat.le_refl _) (by omega)) z)
      refine go_iconst (v := 0) d_M_byClock_131 (by decide) ?_
      refine go_istore_n d_M_byClock_132 (Nat.le_of_ble_eq_true rfl) rfl ?_
      exact i1
    | succ x ihx =>
      intro c Ii hx hc f1 q1
      have hc2 : c < D.nc := by omega
      have rMi := (fF Ii f1).1
      obtain ⟨I', i1, i2⟩ := ihx (c + 1) (pm_uI Ii 95 c (D.fs c)) (by omega) (by omega) (f1.tr (fr.uI (by decide))) (fun i hi => by
        by_cases e : i = c
        · rw [e, uI_eq]
        · rw [uI_nj e]; exact q1 i (by omega))
      refine ⟨I', ?_, i2⟩
      refine go_iload_n d_M_byClock_105 rfl ?_
      refine go_aload_n d_M_byClock_106 rfl ?_
      refine go_gI (j := 5) (nI D.nc) d_M_byClock_107 (Nat.le_of_ble_eq_true rfl) rfl pc_M (Nat.le_of_ble_eq_true rfl) (by decide) w_707 rMi.nc ?_
      refine go_icmp_ge (tgt := 131) d_M_byClock_110 (by decide) (fun z => absurd z (nI_ge (by omega) (by omega))) (fun z => ?_)
      refine go_aload_n d_M_byClock_113 rfl ?_
      refine go_getP (j := 33) d_M_byClock_114 (Nat.le_of_ble_eq_true rfl) rfl pc_M (Nat.le_of_ble_eq_true rfl) rfl w_735 pt_M_33 ?_
      refine go_iload_n d_M_byClock_117 rfl ?_
      refine go_aload_n d_M_byClock_118 rfl ?_
      refine go_getP (j := 8) d_M_byClock_119 (Nat.le_of_ble_eq_true rfl) rfl pc_M (Nat.le_of_ble_eq_true rfl) rfl w_710 pt_M_8 ?_
      refine go_iload_n d_M_byClock_122 rfl ?_
      refine go_ald c (D.fs c) d_M_byClock_123 (Nat.le_of_ble_eq_true rfl) rfl rfl (by omega) (by decide) (rMi.ch c hc2).2.2.1 ?_
      refine go_ast c d_M_byClock_124 (Nat.le_of_ble_eq_true rfl) rfl rfl (by omega) (by decide) ?_
      refine go_iinc (v := nI (c + 1)) d_M_byClock_125 rfl (by first | rfl | exact nI_1 _) rfl ?_
      refine go_goto (tgt := 105) d_M_byClock_128 (by decide) ?_
      exact i1
  obtain ⟨I', j1, j2⟩ := l0 D.nc 0 (pm_uI I 69 0 0) (by omega) (by omega) fr.rf (fun i hi => absurd hi (by omega))
  have li : ∀ n i, D.ni - i = n → i ≤ D.ni → pm_Go (d + 3) m_M_byClock 49 [some (.ref 69), some (.int (nI p)), some (.int (nI k)), some (.int (nI i)), none] [] 0 0 (ST (pm_uI I 69 0 0) J) (.inl (some (.int (bcM D s.ofv p k))), ST I' J) := by
    intro n
    induction n with
    | zero =>
      intro i hn hi
      have : i = D.ni := by omega
      subst this
      refine go_iload_n d_M_byClock_49 rfl ?_
      refine go_aload_n d_M_byClock_50 rfl ?_
      refine go_gI (j := 11) (nI D.ni) d_M_byClock_51 (Nat.le_of_ble_eq_true rfl) rfl pc_M (Nat.le_of_ble_eq_true rfl) (by decide) w_713 e11 ?_
      refine go_icmp_ge (tgt := 94) d_M_byClock_54 (by decide) (fun z => ?_) (fun z => absurd (nI_le (Nat.le_refl _) (by omega)) z)
      refine go_aload_n d_M_byClock_94 rfl ?_
      refine go_gI (j := 0) (0) d_M_byClock_95 (Nat.le_of_ble_eq_true rfl) rfl pc_M (Nat.le_of_ble_eq_true rfl) (by decide) w_702 rfl ?_
      refine go_if_le (tgt := 103) d_M_byClock_98 (by decide) (fun z => ?_) (fun z => absurd (show (0 : Int32) ≤ 0 by decide) z)
      refine go_iconst (v := 0) d_M_byClock_103 (by decide) ?_
      refine go_istore_n d_M_byClock_104 (Nat.le_of_ble_eq_true rfl) rfl ?_
      exact j1
    | succ n ih =>
      intro i hn hi
      have hi2 : i < D.ni := by omega
      have hto := hD.ip i hi2
      have htu := hM.tu _ hto
      have v1 : I 88 (D.ito i) = nI (s.tu (D.ito i)) := (rS.tu _ hto).1
      have v2 : I 77 i = nI (D.ito i) := (rM.ip i hi2).1
      have hlt : k < s.tu (D.ito i) := hle.2 i hi2
      have i1 := ih (i + 1) (by omega) (by omega)
      refine go_iload_n d_M_byClock_49 rfl ?_
      refine go_aload_n d_M_byClock_50 rfl ?_
      refine go_gI (j := 11) (nI D.ni) d_M_byClock_51 (Nat.le_of_ble_eq_true rfl) rfl pc_M (Nat.le_of_ble_eq_true rfl) (by decide) w_713 e11 ?_
      refine go_icmp_ge (tgt := 94) d_M_byClock_54 (by decide) (fun z => absurd z (nI_ge (by omega) (by omega))) (fun z => ?_)
      refine go_aload_n d_M_byClock_57 rfl ?_
      refine go_gI (j := 0) (0) d_M_byClock_58 (Nat.le_of_ble_eq_true rfl) rfl pc_M (Nat.le_of_ble_eq_true rfl) (by decide) w_702 rfl ?_
      refine go_if_ne (tgt := 94) d_M_byClock_61 (by decide) (fun z => absurd rfl z) (fun z => ?_)
      refine go_aload_n d_M_byClock_64 rfl ?_
      refine go_aload_n d_M_byClock_65 rfl ?_
      refine go_getP (j := 26) d_M_byClock_66 (Nat.le_of_ble_eq_true rfl) rfl pc_M (Nat.le_of_ble_eq_true rfl) rfl w_728 pt_M_26 ?_
      refine go_aload_n d_M_byClock_69 rfl ?_
      refine go_getP (j := 12) d_M_byClock_70 (Nat.le_of_ble_eq_true rfl) rfl pc_M (Nat.le_of_ble_eq_true rfl) rfl w_714 pt_M_12 ?_
      refine go_iload_n d_M_byClock_73 rfl ?_
      refine go_ald i (nI (D.ito i)) d_M_byClock_74 (Nat.le_of_ble_eq_true rfl) rfl rfl (by omega) (by decide) v2 ?_
      refine go_ald (D.ito i) (nI (s.tu (D.ito i))) d_M_byClock_75 (Nat.le_of_ble_eq_true rfl) rfl rfl (by omega) (by decide) v1 ?_
      refine go_iload_n d_M_byClock_76 rfl ?_
      refine go_icmp_gt (tgt := 84) d_M_byClock_77 (by decide) (fun z => ?_) (fun z => absurd (nI_lt hlt (by omega)) z)
      refine go_iconst (v := 0) d_M_byClock_84 (by decide) ?_
      refine go_pI (j := 0) d_M_byClock_85 (Nat.le_of_ble_eq_true rfl) rfl pc_M (Nat.le_of_ble_eq_true rfl) (by decide) w_702 rfl (Or.inl rfl) ?_
      refine go_st (σ' := ST (pm_uI I 69 0 0) J) (by rw [uI_uI]) ?_
      refine go_iinc (v := nI (i + 1)) d_M_byClock_88 rfl (by first | rfl | exact nI_1 _) rfl ?_
      refine go_goto (tgt := 49) d_M_byClock_91 (by decide) ?_
      exact i1
  have i0 := li D.ni 0 (by omega) (by omega)
  refine ⟨I', ?_, (fr.uI (by decide)).tr (j2.up (by decide)), j2 69 (by decide)⟩
  refine go_aload_n d_M_byClock_0 rfl ?_
  refine go_aload_n d_M_byClock_1 rfl ?_
  refine go_gI (j := 1) (1) d_M_byClock_2 (Nat.le_of_ble_eq_true rfl) rfl pc_M (Nat.le_of_ble_eq_true rfl) (by decide) w_703 h ?_
  refine go_if_ne (tgt := 12) d_M_byClock_5 (by decide) (fun z => ?_) (fun z => absurd z (by decide))
  refine go_iload_n d_M_byClock_12 rfl ?_
  refine go_if_lt (tgt := 24) d_M_byClock_13 (by decide) (fun z => absurd z (nI_pos (by omega))) (fun z => ?_)
  refine go_iload_n d_M_byClock_16 rfl ?_
  refine go_aload_n d_M_byClock_17 rfl ?_
  refine go_gI (j := 14) (nI D.no) d_M_byClock_18 (Nat.le_of_ble_eq_true rfl) rfl pc_M (Nat.le_of_ble_eq_true rfl) (by decide) w_716 rM.no ?_
  refine go_icmp_lt (tgt := 28) d_M_byClock_21 (by decide) (fun z => ?_) (fun z => absurd (nI_lt hp (by omega)) z)
  refine go_iload_n d_M_byClock_28 rfl ?_
  refine go_if_lt (tgt := 39) d_M_byClock_29 (by decide) (fun z => absurd z (nI_pos (by omega))) (fun z => ?_)
  refine go_iload_n d_M_byClock_32 rfl ?_
  refine go_sipush (v := 1000) d_M_byClock_33 (by decide) ?_
  refine go_icmp_lt (tgt := 43) d_M_byClock_36 (by decide) (fun z => ?_) (fun z => absurd (nI_lt (b := 1000) hk2 (by decide)) z)
  refine go_iconst (v := 0) d_M_byClock_43 (by decide) ?_
  refine go_pI (j := 0) d_M_byClock_44 (Nat.le_of_ble_eq_true rfl) rfl pc_M (Nat.le_of_ble_eq_true rfl) (by decide) w_702 rfl (Or.inl rfl) ?_
  refine go_iconst (v := 0) d_M_byClock_47 (by decide) ?_
  refine go_istore_n d_M_byClock_48 (Nat.le_of_ble_eq_true rfl) rfl ?_
  exact i0
theorem sp_M_restartN (h : I 69 1 = 0) : pm_Go (d + 1) m_M_restart 0 [some (.ref 69)] [] 0 0 (ST I J) (.inl none, ST (pm_uI I 69 0 1) J) := by
  refine go_aload_n d_M_restart_0 rfl ?_
  refine go_aload_n d_M_restart_1 rfl ?_
  refine go_gI (j := 1) (0) d_M_restart_2 (Nat.le_of_ble_eq_true rfl) rfl pc_M (Nat.le_of_ble_eq_true rfl) (by decide) w_703 h ?_
  refine go_if_eq (tgt := 12) d_M_restart_5 (by decide) (fun z => ?_) (fun z => absurd rfl z)
  refine go_iconst (v := 1) d_M_restart_12 (by decide) ?_
  refine go_pI (j := 0) d_M_restart_13 (Nat.le_of_ble_eq_true rfl) rfl pc_M (Nat.le_of_ble_eq_true rfl) (by decide) w_702 rfl (Or.inl rfl) ?_
  refine go_aload_n d_M_restart_16 rfl ?_
  refine go_gI (j := 0) (1) d_M_restart_17 (Nat.le_of_ble_eq_true rfl) rfl pc_M (Nat.le_of_ble_eq_true rfl) (by decide) w_702 rfl ?_
  refine go_if_ne (tgt := 27) d_M_restart_20 (by decide) (fun z => ?_) (fun z => absurd z (by decide))
  exact go_vreturn (st := []) d_M_restart_27 rfl (Nat.le_of_ble_eq_true rfl) (Nat.le_of_ble_eq_true rfl) rfl
theorem sp_M_restartY (h : I 69 1 = 1) (hD : DW D) (rM : RMD I D) : ∃ I', pm_Go (d + 1) m_M_restart 0 [some (.ref 69)] [] 0 0 (ST I J) (.inl none, ST I' J) ∧ RMS I' D (iniM D) t0M ∧ (∀ q, q ≠ 18 → q ≠ 0 → I' 69 q = I 69 q) ∧ I' 69 0 = 0 ∧ fr [69, 82, 84, 86, 88, 91, 94] I I' := by
  obtain ⟨I', a1, a2, a3, a4⟩ := sp_M_begin (d := d) (J := J) (I := pm_uI I 69 0 0) hD rM.th
  refine ⟨I', ?_, a2, fun q h1 h2 => by rw [a3 q h1, uI_nj h2], by rw [a3 0 (by decide), uI_eq], (fr.uI (by decide)).tr a4⟩
  refine go_aload_n d_M_restart_0 rfl ?_
  refine go_aload_n d_M_restart_1 rfl ?_
  refine go_gI (j := 1) (1) d_M_restart_2 (Nat.le_of_ble_eq_true rfl) rfl pc_M (Nat.le_of_ble_eq_true rfl) (by decide) w_703 h ?_
  refine go_if_eq (tgt := 12) d_M_restart_5 (by decide) (fun z => absurd z (by decide)) (fun z => ?_)
  refine go_iconst (v := 0) d_M_restart_8 (by decide) ?_
  refine go_goto (tgt := 13) d_M_restart_9 (by decide) ?_
  refine go_pI (j := 0) d_M_restart_13 (Nat.le_of_ble_eq_true rfl) rfl pc_M (Nat.le_of_ble_eq_true rfl) (by decide) w_702 rfl (Or.inl rfl) ?_
  refine go_aload_n d_M_restart_16 rfl ?_
  refine go_gI (j := 0) (0) d_M_restart_17 (Nat.le_of_ble_eq_true rfl) rfl pc_M (Nat.le_of_ble_eq_true rfl) (by decide) w_702 rfl ?_
  refine go_if_ne (tgt := 27) d_M_restart_20 (by decide) (fun z => absurd rfl z) (fun z => ?_)
  refine go_aload_n d_M_restart_23 rfl ?_
  refine go_callV (k2 := m_M_begin) (As := []) (r := none) d_M_restart_24 ok_M_begin (Nat.le_of_ble_eq_true rfl) rfl pc_M rfl vl_M_137 rfl rfl (Nat.le_of_ble_eq_true rfl) (Nat.le_of_ble_eq_true rfl) (Nat.le_of_ble_eq_true rfl) (Nat.le_of_ble_eq_true rfl) rfl rfl a1 ?_
  exact go_vreturn (st := []) d_M_restart_27 rfl (Nat.le_of_ble_eq_true rfl) (Nat.le_of_ble_eq_true rfl) rfl
theorem sp_M_rateN {a : Int32} (h : I 69 1 = 0) : pm_Go d m_M_rate 0 [some (.ref 69), some (.int a)] [] 0 0 (ST I J) (.inl (some (.int 0)), ST (pm_uI I 69 0 1) J) := by
  refine go_aload_n d_M_rate_0 rfl ?_
  refine go_aload_n d_M_rate_1 rfl ?_
  refine go_gI (j := 1) (0) d_M_rate_2 (Nat.le_of_ble_eq_true rfl) rfl pc_M (Nat.le_of_ble_eq_true rfl) (by decide) w_703 h ?_
  refine go_if_ne (tgt := 12) d_M_rate_5 (by decide) (fun z => absurd rfl z) (fun z => ?_)
  refine go_iconst (v := 1) d_M_rate_8 (by decide) ?_
  refine go_goto (tgt := 26) d_M_rate_9 (by decide) ?_
  refine go_pI (j := 0) d_M_rate_26 (Nat.le_of_ble_eq_true rfl) rfl pc_M (Nat.le_of_ble_eq_true rfl) (by decide) w_702 rfl (Or.inl rfl) ?_
  refine go_aload_n d_M_rate_29 rfl ?_
  refine go_gI (j := 0) (1) d_M_rate_30 (Nat.le_of_ble_eq_true rfl) rfl pc_M (Nat.le_of_ble_eq_true rfl) (by decide) w_702 rfl ?_
  refine go_if_le (tgt := 40) d_M_rate_33 (by decide) (fun z => absurd z (by decide)) (fun z => ?_)
  refine go_iconst (v := 0) d_M_rate_36 (by decide) ?_
  refine go_goto (tgt := 55) d_M_rate_37 (by decide) ?_
  exact go_ireturn (st := []) d_M_rate_55 rfl (Nat.le_of_ble_eq_true rfl) (Nat.le_of_ble_eq_true rfl) rfl
theorem M_rat_t {a : Int32} : pm_Go d m_M_rate 21 [some (.ref 69), some (.int a)] [.ref 69] 0 0 (ST I J) (.inl (some (.int 0)), ST (pm_uI I 69 0 2) J) := by
  refine go_iconst (v := 2) d_M_rate_21 (by decide) ?_
  refine go_goto (tgt := 26) d_M_rate_22 (by decide) ?_
  refine go_pI (j := 0) d_M_rate_26 (Nat.le_of_ble_eq_true rfl) rfl pc_M (Nat.le_of_ble_eq_true rfl) (by decide) w_702 rfl (Or.inl rfl) ?_
  refine go_aload_n d_M_rate_29 rfl ?_
  refine go_gI (j := 0) (2) d_M_rate_30 (Nat.le_of_ble_eq_true rfl) rfl pc_M (Nat.le_of_ble_eq_true rfl) (by decide) w_702 rfl ?_
  refine go_if_le (tgt := 40) d_M_rate_33 (by decide) (fun z => absurd z (by decide)) (fun z => ?_)
  refine go_iconst (v := 0) d_M_rate_36 (by decide) ?_
  refine go_goto (tgt := 55) d_M_rate_37 (by decide) ?_
  exact go_ireturn (st := []) d_M_rate_55 rfl (Nat.le_of_ble_eq_true rfl) (Nat.le_of_ble_eq_true rfl) rfl
theorem sp_M_rateX {a : Int32} (h : I 69 1 = 1) (hx : ¬ okN a 2) : pm_Go d m_M_rate 0 [some (.ref 69), some (.int a)] [] 0 0 (ST I J) (.inl (some (.int 0)), ST (pm_uI I 69 0 2) J) := by
  refine go_aload_n d_M_rate_0 rfl ?_
  refine go_aload_n d_M_rate_1 rfl ?_
  refine go_gI (j := 1) (1) d_M_rate_2 (Nat.le_of_ble_eq_true rfl) rfl pc_M (Nat.le_of_ble_eq_true rfl) (by decide) w_703 h ?_
  refine go_if_ne (tgt := 12) d_M_rate_5 (by decide) (fun z => ?_) (fun z => absurd z (by decide))
  refine go_iload_n d_M_rate_12 rfl ?_
  by_cases h1 : a < 0
  · refine go_if_lt (tgt := 21) d_M_rate_13 (by decide) (fun z => ?_) (fun z => absurd h1 z)
    exact M_rat_t
  · refine go_if_lt (tgt := 21) d_M_rate_13 (by decide) (fun z => absurd z h1) (fun z => ?_)
    refine go_iload_n d_M_rate_16 rfl ?_
    refine go_iconst (v := 1) d_M_rate_17 (by decide) ?_
    obtain ⟨j, hj, e⟩ := nI_of h1
    have hj5 : 2 ≤ j := by
      by_cases hl : j < 2
      · exact absurd ⟨j, hl, e⟩ hx
      · omega
    refine go_icmp_le (tgt := 25) d_M_rate_18 (by decide) (fun z => absurd z (by rw [e]; exact nI_ge (a := 1) (by omega) hj)) (fun z => ?_)
    exact M_rat_t
theorem sp_M_rateY {k : Nat} {v w : Int32} (h : I 69 1 = 1) (hk : k < 2) (hv : I 69 43 = v) (hw : I 69 44 = w) : pm_Go d m_M_rate 0 [some (.ref 69), some (.int (nI k))] [] 0 0 (ST I J) (.inl (some (.int (if k = 0 then v else w))), ST (pm_uI I 69 0 0) J) := by
  refine go_aload_n d_M_rate_0 rfl ?_
  refine go_aload_n d_M_rate_1 rfl ?_
  refine go_gI (j := 1) (1) d_M_rate_2 (Nat.le_of_ble_eq_true rfl) rfl pc_M (Nat.le_of_ble_eq_true rfl) (by decide) w_703 h ?_
  refine go_if_ne (tgt := 12) d_M_rate_5 (by decide) (fun z => ?_) (fun z => absurd z (by decide))
  refine go_iload_n d_M_rate_12 rfl ?_
  refine go_if_lt (tgt := 21) d_M_rate_13 (by decide) (fun z => absurd z (nI_pos (by omega))) (fun z => ?_)
  refine go_iload_n d_M_rate_16 rfl ?_
  refine go_iconst (v := 1) d_M_rate_17 (by decide) ?_
  refine go_icmp_le (tgt := 25) d_M_rate_18 (by decide) (fun z => ?_) (fun z => absurd (nI_le (b := 1) (by omega) (by decide)) z)
  refine go_iconst (v := 0) d_M_rate_25 (by decide) ?_
  refine go_pI (j := 0) d_M_rate_26 (Nat.le_of_ble_eq_true rfl) rfl pc_M (Nat.le_of_ble_eq_true rfl) (by decide) w_702 rfl (Or.inl rfl) ?_
  refine go_aload_n d_M_rate_29 rfl ?_
  refine go_gI (j := 0) (0) d_M_rate_30 (Nat.le_of_ble_eq_true rfl) rfl pc_M (Nat.le_of_ble_eq_true rfl) (by decide) w_702 rfl ?_
  refine go_if_le (tgt := 40) d_M_rate_33 (by decide) (fun z => ?_) (fun z => absurd (show (0 : Int32) ≤ 0 by decide) z)
  refine go_iload_n d_M_rate_40 rfl ?_
  by_cases e : k = 0
  · rw [if_pos e]
    refine go_if_ne (tgt := 51) d_M_rate_41 (by decide) (fun z => absurd (by rw [e]; rfl) z) (fun z => ?_)
    refine go_aload_n d_M_rate_44 rfl ?_
    refine go_gI (j := 43) (v) d_M_rate_45 (Nat.le_of_ble_eq_true rfl) rfl pc_M (Nat.le_of_ble_eq_true rfl) (by decide) w_745 hv ?_
    refine go_goto (tgt := 55) d_M_rate_48 (by decide) ?_
    exact go_ireturn (st := []) d_M_rate_55 rfl (Nat.le_of_ble_eq_true rfl) (Nat.le_of_ble_eq_true rfl) rfl
  · rw [if_neg e]
    refine go_if_ne (tgt := 51) d_M_rate_41 (by decide) (fun z => ?_) (fun z => absurd z (nI_ne0 (by omega) (by omega)))
    refine go_aload_n d_M_rate_51 rfl ?_
    refine go_gI (j := 44) (w) d_M_rate_52 (Nat.le_of_ble_eq_true rfl) rfl pc_M (Nat.le_of_ble_eq_true rfl) (by decide) w_746 hw ?_
    exact go_ireturn (st := []) d_M_rate_55 rfl (Nat.le_of_ble_eq_true rfl) (Nat.le_of_ble_eq_true rfl) rfl
end S46
