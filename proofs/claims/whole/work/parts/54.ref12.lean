/-! the reference: got, run -/
/-- how many branches stand among the first links -/
def cnB (D : DZ) (b n : Nat) : Nat := ((D.sq.take n).filterMap (brF D b)).length
section S47
variable {D : DZ}
theorem cnB_s {b n : Nat} (h : n < D.sq.length) : cnB D b (n + 1) = match brF D b (gi D.sq n) with
    | some _ => cnB D b n + 1
    | none => cnB D b n := by
  unfold cnB
  rw [List.take_add_one, gi_some h, List.filterMap_append, List.length_append]
  show _ + (List.filterMap (brF D b) [gi D.sq n]).length = _
  rw [List.filterMap_cons, List.filterMap_nil]
  cases brF D b (gi D.sq n) <;> rfl
theorem cnB_g {b n y : Nat} (h : n < D.sq.length) (hy : brF D b (gi D.sq n) = some y) : gi (brL D b) (cnB D b n) = y := by
  apply gi_get
  have e : D.sq = D.sq.take n ++ gi D.sq n :: D.sq.drop (n + 1) := by
    have h1 : D.sq.drop n = gi D.sq n :: D.sq.drop (n + 1) := by
      rw [List.drop_eq_getElem_cons h]
      congr 1
      have := gi_some h
      rw [List.getElem?_eq_getElem h] at this
      exact Option.some.inj this
    rw [← h1, List.take_append_drop]
  have e2 : brL D b = (D.sq.take n).filterMap (brF D b) ++ y :: (D.sq.drop (n + 1)).filterMap (brF D b) := by
    unfold brL
    conv => lhs; rw [e]
    rw [List.filterMap_append, List.filterMap_cons, hy]
  rw [e2, cnB, List.getElem?_append_right (Nat.le_refl _), Nat.sub_self]
  rfl
theorem cnB_e {b : Nat} : cnB D b D.sq.length = (brL D b).length := by
  unfold cnB
  rw [List.take_length]
  rfl
theorem cnB_le {b n : Nat} (hD : DW D) : cnB D b n ≤ 24 := by
  refine Nat.le_trans ?_ (brL_len hD b)
  unfold cnB brL
  conv => rhs; rw [← List.take_append_drop n D.sq]
  rw [List.filterMap_append, List.length_append]
  omega
theorem brF_c {b c : Nat} (hc : c < 20) : brF D b c = if D.fm c = b then some c else none := by
  unfold brF
  rw [if_pos hc]
theorem brF_p {b p : Nat} (hp : p < 4) : brF D b (20 + p) = none := by
  unfold brF
  rw [if_neg (by omega), if_pos (by omega)]
theorem brF_o {b p : Nat} : brF D b (24 + p) = if D.ofm p = b then some (20 + p) else none := by
  unfold brF
  rw [if_neg (by omega), if_neg (by omega), show 24 + p - 24 = p by omega, show 24 + p - 4 = 20 + p by omega]
end S47
section S48
variable {d : Nat} {I : Nat → Nat → Int32} {J : Nat → Nat → Int64} {D : DZ} {s : MS} {t : TS}
theorem sp_M_gotY {b : Nat} (h : I 69 1 = 1) (hD : DW D) (rM : RMD I D) (hN : NB D s) (rS : RMS I D s t) (hb : b < D.nb) : pm_Go (d + 1) m_M_got 0 [some (.ref 69), some (.int (nI b)), none, none, none, none] [] 0 0 (ST I J) (.inl (some (.int (bI (fun i => goM s b (gi (brL D b) i)) (brL D b).length))), ST (pm_uI I 69 0 0) J) := by
  have h20 := hD.nc
  have h10 := hD.nb
  have hni := hD.ni
  have hno := hD.no
  have hsl := sq_len hD
  have rM0 : RMD (pm_uI I 69 0 0) D := rM.th
  have htu := hN.tu b hb
  have etu : I 88 b = nI (s.tu b) := (rS.tu b hb).1
  generalize hg : (fun i => goM s b (gi (brL D b) i)) = g
  have loop : ∀ m n, D.sq.length - n = m → n ≤ D.sq.length → ∀ w5, pm_Go (d + 1) m_M_got 35 [some (.ref 69), some (.int (nI b)), some (.int (bI g (cnB D b n))), some (.int (nI (cnB D b n))), some (.int (nI n)), w5] [] 0 0 (ST (pm_uI I 69 0 0) J) (.inl (some (.int (bI g (brL D b).length))), ST (pm_uI I 69 0 0) J) := by
    intro m
    induction m with
    | zero =>
      intro n hm hn w5
      have : n = D.sq.length := by omega
      subst this
      refine go_iload d_M_got_35 rfl ?_
      refine go_aload_n d_M_got_37 rfl ?_
      refine go_gI (j := 17) (nI D.sq.length) d_M_got_38 (Nat.le_of_ble_eq_true rfl) rfl pc_M (Nat.le_of_ble_eq_true rfl) (by decide) w_719 rM0.ad ?_
      refine go_icmp_ge (tgt := 197) d_M_got_41 (by decide) (fun z => ?_) (fun z => absurd (nI_le (Nat.le_refl _) (by omega)) z)
      rw [cnB_e]
      refine go_iload_n d_M_got_197 rfl ?_
      exact go_ireturn (st := []) d_M_got_198 rfl (Nat.le_of_ble_eq_true rfl) (Nat.le_of_ble_eq_true rfl) rfl
    | succ m ih =>
      intro n hm hn w5
      have hn2 : n < D.sq.length := by omega
      have i1 := fun w5 => ih (n + 1) (by omega) (by omega) w5
      have hcl := cnB_le (b := b) (n := n) hD
      have ecs := cnB_s (b := b) hn2
      have ecg := fun y => cnB_g (b := b) (y := y) hn2
      have hx := (hD.sq (gi D.sq n)).mp (gi_mem hn2)
      have ex : ∀ tc y, D.sq[tc]? = some y → tc < 28 ∧ (tc = n ↔ gi D.sq n = y) := fun tc y hy => ⟨by have := (sq_at hD hy hn2).1; omega, (sq_at hD hy hn2).2⟩
      generalize gi D.sq n = x at hx ex ecs ecg
      generalize cnB D b n = k at hcl ecs ecg ⊢
      generalize cnB D b (n + 1) = k' at i1 ecs
      have lp : ∀ q p, D.no - p = q → p ≤ D.no → pm_Go (d + 1) m_M_got 124 [some (.ref 69), some (.int (nI b)), some (.int (bI g (if x < D.nc ∨ (24 ≤ x ∧ x < 24 + p) then k' else k))), some (.int (nI (if x < D.nc ∨ (24 ≤ x ∧ x < 24 + p) then k' else k))), some (.int (nI n)), some (.int (nI p))] [] 0 0 (ST (pm_uI I 69 0 0) J) (.inl (some (.int (bI g (brL D b).length))), ST (pm_uI I 69 0 0) J) := by
        intro q
        induction q with
        | zero =>
          intro p hq hp
          have : p = D.no := by omega
          subst this
          refine go_iload d_M_got_124 rfl ?_
          refine go_aload_n d_M_got_126 rfl ?_
          refine go_gI (j := 14) (nI D.no) d_M_got_127 (Nat.le_of_ble_eq_true rfl) rfl pc_M (Nat.le_of_ble_eq_true rfl) (by decide) w_716 rM0.no ?_
          refine go_icmp_ge (tgt := 191) d_M_got_130 (by decide) (fun z => ?_) (fun z => absurd (nI_le (Nat.le_refl _) (by omega)) z)
          have e : (if x < D.nc ∨ (24 ≤ x ∧ x < 24 + D.no) then k' else k) = k' := by
            by_cases hh : x < D.nc ∨ (24 ≤ x ∧ x < 24 + D.no)
            · rw [if_pos hh]
            · rw [if_neg hh]
              have e2 : x = 20 + (x - 20) := by omega
              rw [e2, brF_p (by omega)] at ecs
              exact ecs.symm
          rw [e]
          refine go_iinc (v := nI (n + 1)) d_M_got_191 rfl (by first | rfl | exact nI_1 _) rfl ?_
          refine go_goto (tgt := 35) d_M_got_194 (by decide) ?_
          exact i1 _
        | succ q ihq =>
          intro p hq hp
          have hp2 : p < D.no := by omega
          have i2 := ihq (p + 1) (by omega) (by omega)
          obtain ⟨e1, tp, e2, e3⟩ := rM0.ot p hp2
          have e4 := ex tp _ e2
          have hto := hD.ot p hp2
          have hou := hN.ou p hp2
          have eou : I 94 p = nI (s.ou p) := (rS.ou p hp2).1
          refine go_iload d_M_got_124 rfl ?_
          refine go_aload_n d_M_got_126 rfl ?_
          refine go_gI (j := 14) (nI D.no) d_M_got_127 (Nat.le_of_ble_eq_true rfl) rfl pc_M (Nat.le_of_ble_eq_true rfl) (by decide) w_716 rM0.no ?_
          refine go_icmp_ge (tgt := 191) d_M_got_130 (by decide) (fun z => absurd z (nI_ge (by omega) (by omega))) (fun z => ?_)
          refine go_aload_n d_M_got_133 rfl ?_
          refine go_getP (j := 16) d_M_got_134 (Nat.le_of_ble_eq_true rfl) rfl pc_M (Nat.le_of_ble_eq_true rfl) rfl w_718 pt_M_16 ?_
          refine go_iload d_M_got_137 rfl ?_
          refine go_ald p (nI tp) d_M_got_139 (Nat.le_of_ble_eq_true rfl) rfl rfl (by omega) (by decide) e3 ?_
          refine go_iload d_M_got_140 rfl ?_
          by_cases et : tp = n
          · have ext : x = 24 + p := e4.2.mp et
            rw [if_pos (by omega)] at i2
            rw [if_neg (by omega)]
            rw [ext, brF_o] at ecs
            refine go_icmp_ne (tgt := 185) d_M_got_142 (by decide) (fun z => absurd (congrArg nI et) z) (fun z => ?_)
            refine go_aload_n d_M_got_145 rfl ?_
            refine go_getP (j := 15) d_M_got_146 (Nat.le_of_ble_eq_true rfl) rfl pc_M (Nat.le_of_ble_eq_true rfl) rfl w_717 pt_M_15 ?_
            refine go_iload d_M_got_149 rfl ?_
            refine go_ald p (nI (D.ofm p)) d_M_got_151 (Nat.le_of_ble_eq_true rfl) rfl rfl (by omega) (by decide) e1 ?_
            refine go_iload_n d_M_got_152 rfl ?_
            by_cases ej : D.ofm p = b
            · rw [if_pos ej] at ecs
              have ek : k' = k + 1 := ecs
              have eg : gi (brL D b) k = 20 + p := ecg _ (by rw [ext, brF_o, if_pos ej])
              have egk : g k = decide (s.tu b < s.ou p) := by
                rw [← hg]
                show goM s b (gi (brL D b) k) = _
                rw [eg, goM, if_neg (by omega), show 20 + p - 20 = p by omega]
              have ebk : bI g (k + 1) = if g k then bI g k ||| ((1 : Int32) <<< (nI k &&& 31)) else bI g k := rfl
              rw [ek, ebk, egk] at i2
              refine go_icmp_ne (tgt := 185) d_M_got_153 (by decide) (fun z => absurd (congrArg nI ej) z) (fun z => ?_)
              refine go_aload_n d_M_got_156 rfl ?_
              refine go_getP (j := 32) d_M_got_157 (Nat.le_of_ble_eq_true rfl) rfl pc_M (Nat.le_of_ble_eq_true rfl) rfl w_734 pt_M_32 ?_
              refine go_iload d_M_got_160 rfl ?_
              refine go_ald p (nI (s.ou p)) d_M_got_162 (Nat.le_of_ble_eq_true rfl) rfl rfl (by omega) (by decide) eou ?_
              refine go_aload_n d_M_got_163 rfl ?_
              refine go_getP (j := 26) d_M_got_164 (Nat.le_of_ble_eq_true rfl) rfl pc_M (Nat.le_of_ble_eq_true rfl) rfl w_728 pt_M_26 ?_
              refine go_iload_n d_M_got_167 rfl ?_
              refine go_ald b (nI (s.tu b)) d_M_got_168 (Nat.le_of_ble_eq_true rfl) rfl rfl (by omega) (by decide) etu ?_
              by_cases hl : s.tu b < s.ou p
              · rw [decide_eq_true hl, if_pos rfl] at i2
                refine go_icmp_le (tgt := 180) d_M_got_169 (by decide) (fun z => absurd z (nI_ge hl (by omega))) (fun z => ?_)
                refine go_iload_n d_M_got_172 rfl ?_
                refine go_iconst (v := 1) d_M_got_173 (by decide) ?_
                refine go_iload_n d_M_got_174 rfl ?_
                refine go_ishl d_M_got_175 ?_
                refine go_ior d_M_got_176 ?_
                refine go_goto (tgt := 181) d_M_got_177 (by decide) ?_
                refine go_istore_n d_M_got_181 (Nat.le_of_ble_eq_true rfl) rfl ?_
                refine go_iinc (v := nI (k + 1)) d_M_got_182 rfl (by first | rfl | exact nI_1 _) rfl ?_
                refine go_iinc (v := nI (p + 1)) d_M_got_185 rfl (by first | rfl | exact nI_1 _) rfl ?_
                refine go_goto (tgt := 124) d_M_got_188 (by decide) ?_
                exact i2
              · rw [decide_eq_false hl, if_neg (by decide)] at i2
                refine go_icmp_le (tgt := 180) d_M_got_169 (by decide) (fun z => ?_) (fun z => absurd (nI_le (by omega) (by omega)) z)
                refine go_iload_n d_M_got_180 rfl ?_
                refine go_istore_n d_M_got_181 (Nat.le_of_ble_eq_true rfl) rfl ?_
                refine go_iinc (v := nI (k + 1)) d_M_got_182 rfl (by first | rfl | exact nI_1 _) rfl ?_
                refine go_iinc (v := nI (p + 1)) d_M_got_185 rfl (by first | rfl | exact nI_1 _) rfl ?_
                refine go_goto (tgt := 124) d_M_got_188 (by decide) ?_
                exact i2
            · rw [if_neg ej] at ecs
              have ek : k' = k := ecs
              rw [ek] at i2
              refine go_icmp_ne (tgt := 185) d_M_got_153 (by decide) (fun z => ?_) (fun z => absurd z (nI_neq (by omega) (by omega) ej))
              refine go_iinc (v := nI (p + 1)) d_M_got_185 rfl (by first | rfl | exact nI_1 _) rfl ?_
              refine go_goto (tgt := 124) d_M_got_188 (by decide) ?_
              exact i2
          · have hne : ¬ x = 24 + p := fun z => et (e4.2.mpr z)
            have e5 : (if x < D.nc ∨ (24 ≤ x ∧ x < 24 + (p + 1)) then k' else k) = (if x < D.nc ∨ (24 ≤ x ∧ x < 24 + p) then k' else k) := by
              by_cases hh : x < D.nc ∨ (24 ≤ x ∧ x < 24 + p)
              · rw [if_pos hh, if_pos (by omega)]
              · rw [if_neg hh, if_neg (by omega)]
            rw [e5] at i2
            refine go_icmp_ne (tgt := 185) d_M_got_142 (by decide) (fun z => ?_) (fun z => absurd z (nI_neq (by omega) (by omega) et))
            refine go_iinc (v := nI (p + 1)) d_M_got_185 rfl (by first | rfl | exact nI_1 _) rfl ?_
            refine go_goto (tgt := 124) d_M_got_188 (by decide) ?_
            exact i2
      have lc : ∀ q c, D.nc - c = q → c ≤ D.nc → pm_Go (d + 1) m_M_got 54 [some (.ref 69), some (.int (nI b)), some (.int (bI g (if x < c then k' else k))), some (.int (nI (if x < c then k' else k))), some (.int (nI n)), some (.int (nI c))] [] 0 0 (ST (pm_uI I 69 0 0) J) (.inl (some (.int (bI g (brL D b).length))), ST (pm_uI I 69 0 0) J) := by
        intro q
        induction q with
        | zero =>
          intro c hq hc
          have : c = D.nc := by omega
          subst this
          have i2 := lp D.no 0 (by omega) (by omega)
          have e : (if x < D.nc ∨ (24 ≤ x ∧ x < 24 + 0) then k' else k) = (if x < D.nc then k' else k) := by
            by_cases hh : x < D.nc
            · rw [if_pos hh, if_pos (by omega)]
            · rw [if_neg hh, if_neg (by omega)]
          rw [e] at i2
          refine go_iload d_M_got_54 rfl ?_
          refine go_aload_n d_M_got_56 rfl ?_
          refine go_gI (j := 5) (nI D.nc) d_M_got_57 (Nat.le_of_ble_eq_true rfl) rfl pc_M (Nat.le_of_ble_eq_true rfl) (by decide) w_707 rM0.nc ?_
          refine go_icmp_ge (tgt := 121) d_M_got_60 (by decide) (fun z => ?_) (fun z => absurd (nI_le (Nat.le_refl _) (by omega)) z)
          refine go_iconst (v := 0) d_M_got_121 (by decide) ?_
          refine go_istore d_M_got_122 (Nat.le_of_ble_eq_true rfl) rfl ?_
          exact i2
        | succ q ihq =>
          intro c hq hc
          have hc2 : c < D.nc := by omega
          have i2 := ihq (c + 1) (by omega) (by omega)
          obtain ⟨e1, -, -, -, tp, e2, e3⟩ := rM0.ch c hc2
          have e4 := ex tp _ e2
          have hto := (hD.ch c hc2).1
          have hga := hN.ga c hc2
          have ega : I 86 c = nI (s.ga c) := (rS.ga c hc2).1
          refine go_iload d_M_got_54 rfl ?_
          refine go_aload_n d_M_got_56 rfl ?_
          refine go_gI (j := 5) (nI D.nc) d_M_got_57 (Nat.le_of_ble_eq_true rfl) rfl pc_M (Nat.le_of_ble_eq_true rfl) (by decide) w_707 rM0.nc ?_
          refine go_icmp_ge (tgt := 121) d_M_got_60 (by decide) (fun z => absurd z (nI_ge (by omega) (by omega))) (fun z => ?_)
          refine go_aload_n d_M_got_63 rfl ?_
          refine go_getP (j := 10) d_M_got_64 (Nat.le_of_ble_eq_true rfl) rfl pc_M (Nat.le_of_ble_eq_true rfl) rfl w_712 pt_M_10 ?_
          refine go_iload d_M_got_67 rfl ?_
          refine go_ald c (nI tp) d_M_got_69 (Nat.le_of_ble_eq_true rfl) rfl rfl (by omega) (by decide) e3 ?_
          refine go_iload d_M_got_70 rfl ?_
          by_cases et : tp = n
          · have ext : x = c := e4.2.mp et
            rw [if_pos (by omega)] at i2
            rw [if_neg (by omega)]
            rw [ext, brF_c (by omega)] at ecs
            refine go_icmp_ne (tgt := 115) d_M_got_72 (by decide) (fun z => absurd (congrArg nI et) z) (fun z => ?_)
            refine go_aload_n d_M_got_75 rfl ?_
            refine go_getP (j := 6) d_M_got_76 (Nat.le_of_ble_eq_true rfl) rfl pc_M (Nat.le_of_ble_eq_true rfl) rfl w_708 pt_M_6 ?_
            refine go_iload d_M_got_79 rfl ?_
            refine go_ald c (nI (D.fm c)) d_M_got_81 (Nat.le_of_ble_eq_true rfl) rfl rfl (by omega) (by decide) e1 ?_
            refine go_iload_n d_M_got_82 rfl ?_
            by_cases ej : D.fm c = b
            · rw [if_pos ej] at ecs
              have ek : k' = k + 1 := ecs
              have eg : gi (brL D b) k = c := ecg _ (by rw [ext, brF_c (by omega), if_pos ej])
              have egk : g k = decide (s.tu b < s.ga c) := by
                rw [← hg]
                show goM s b (gi (brL D b) k) = _
                rw [eg, goM, if_pos (by omega)]
              have ebk : bI g (k + 1) = if g k then bI g k ||| ((1 : Int32) <<< (nI k &&& 31)) else bI g k := rfl
              rw [ek, ebk, egk] at i2
              refine go_icmp_ne (tgt := 115) d_M_got_83 (by decide) (fun z => absurd (congrArg nI ej) z) (fun z => ?_)
              refine go_aload_n d_M_got_86 rfl ?_
              refine go_getP (j := 24) d_M_got_87 (Nat.le_of_ble_eq_true rfl) rfl pc_M (Nat.le_of_ble_eq_true rfl) rfl w_726 pt_M_24 ?_
              refine go_iload d_M_got_90 rfl ?_
              refine go_ald c (nI (s.ga c)) d_M_got_92 (Nat.le_of_ble_eq_true rfl) rfl rfl (by omega) (by decide) ega ?_
              refine go_aload_n d_M_got_93 rfl ?_
              refine go_getP (j := 26) d_M_got_94 (Nat.le_of_ble_eq_true rfl) rfl pc_M (Nat.le_of_ble_eq_true rfl) rfl w_728 pt_M_26 ?_
              refine go_iload_n d_M_got_97 rfl ?_
              refine go_ald b (nI (s.tu b)) d_M_got_98 (Nat.le_of_ble_eq_true rfl) rfl rfl (by omega) (by decide) etu ?_
              by_cases hl : s.tu b < s.ga c
              · rw [decide_eq_true hl, if_pos rfl] at i2
                refine go_icmp_le (tgt := 110) d_M_got_99 (by decide) (fun z => absurd z (nI_ge hl (by omega))) (fun z => ?_)
                refine go_iload_n d_M_got_102 rfl ?_
                refine go_iconst (v := 1) d_M_got_103 (by decide) ?_
                refine go_iload_n d_M_got_104 rfl ?_
                refine go_ishl d_M_got_105 ?_
                refine go_ior d_M_got_106 ?_
                refine go_goto (tgt := 111) d_M_got_107 (by decide) ?_
                refine go_istore_n d_M_got_111 (Nat.le_of_ble_eq_true rfl) rfl ?_
                refine go_iinc (v := nI (k + 1)) d_M_got_112 rfl (by first | rfl | exact nI_1 _) rfl ?_
                refine go_iinc (v := nI (c + 1)) d_M_got_115 rfl (by first | rfl | exact nI_1 _) rfl ?_
                refine go_goto (tgt := 54) d_M_got_118 (by decide) ?_
                exact i2
              · rw [decide_eq_false hl, if_neg (by decide)] at i2
                refine go_icmp_le (tgt := 110) d_M_got_99 (by decide) (fun z => ?_) (fun z => absurd (nI_le (by omega) (by omega)) z)
                refine go_iload_n d_M_got_110 rfl ?_
                refine go_istore_n d_M_got_111 (Nat.le_of_ble_eq_true rfl) rfl ?_
                refine go_iinc (v := nI (k + 1)) d_M_got_112 rfl (by first | rfl | exact nI_1 _) rfl ?_
                refine go_iinc (v := nI (c + 1)) d_M_got_115 rfl (by first | rfl | exact nI_1 _) rfl ?_
                refine go_goto (tgt := 54) d_M_got_118 (by decide) ?_
                exact i2
            · rw [if_neg ej] at ecs
              have ek : k' = k := ecs
              rw [ek] at i2
              refine go_icmp_ne (tgt := 115) d_M_got_83 (by decide) (fun z => ?_) (fun z => absurd z (nI_neq (by omega) (by omega) ej))
              refine go_iinc (v := nI (c + 1)) d_M_got_115 rfl (by first | rfl | exact nI_1 _) rfl ?_
              refine go_goto (tgt := 54) d_M_got_118 (by decide) ?_
              exact i2
          · have hne : ¬ x = c := fun z => et (e4.2.mpr z)
            have e5 : (if x < c + 1 then k' else k) = (if x < c then k' else k) := by
              by_cases hh : x < c
              · rw [if_pos hh, if_pos (by omega)]
              · rw [if_neg hh, if_neg (by omega)]
            rw [e5] at i2
            refine go_icmp_ne (tgt := 115) d_M_got_72 (by decide) (fun z => ?_) (fun z => absurd z (nI_neq (by omega) (by omega) et))
            refine go_iinc (v := nI (c + 1)) d_M_got_115 rfl (by first | rfl | exact nI_1 _) rfl ?_
            refine go_goto (tgt := 54) d_M_got_118 (by decide) ?_
            exact i2
      have i3 := lc D.nc 0 (by omega) (by omega)
      rw [if_neg (by omega)] at i3
      refine go_iload d_M_got_35 rfl ?_
      refine go_aload_n d_M_got_37 rfl ?_
      refine go_gI (j := 17) (nI D.sq.length) d_M_got_38 (Nat.le_of_ble_eq_true rfl) rfl pc_M (Nat.le_of_ble_eq_true rfl) (by decide) w_719 rM0.ad ?_
      refine go_icmp_ge (tgt := 197) d_M_got_41 (by decide) (fun z => absurd z (nI_ge (by omega) (by omega))) (fun z => ?_)
      refine go_aload_n d_M_got_44 rfl ?_
      refine go_gI (j := 0) (0) d_M_got_45 (Nat.le_of_ble_eq_true rfl) rfl pc_M (Nat.le_of_ble_eq_true rfl) (by decide) w_702 rfl ?_
      refine go_if_ne (tgt := 197) d_M_got_48 (by decide) (fun z => absurd rfl z) (fun z => ?_)
      refine go_iconst (v := 0) d_M_got_51 (by decide) ?_
      refine go_istore d_M_got_52 (Nat.le_of_ble_eq_true rfl) rfl ?_
      exact i3
  have i0 := loop D.sq.length 0 (by omega) (by omega) none
  have ek0 : cnB D b 0 = 0 := rfl
  rw [ek0] at i0
  refine go_aload_n d_M_got_0 rfl ?_
  refine go_aload_n d_M_got_1 rfl ?_
  refine go_gI (j := 1) (1) d_M_got_2 (Nat.le_of_ble_eq_true rfl) rfl pc_M (Nat.le_of_ble_eq_true rfl) (by decide) w_703 h ?_
  refine go_if_ne (tgt := 12) d_M_got_5 (by decide) (fun z => ?_) (fun z => absurd z (by decide))
  refine go_aload_n d_M_got_12 rfl ?_
  refine go_iload_n d_M_got_13 rfl ?_
  refine go_callV (k2 := m_M_noBlock) (As := [.int (nI b)]) (r := some (.int 0)) d_M_got_14 ok_M_noBlock (Nat.le_of_ble_eq_true rfl) rfl pc_M rfl vl_M_121 rfl rfl (Nat.le_of_ble_eq_true rfl) (Nat.le_of_ble_eq_true rfl) (Nat.le_of_ble_eq_true rfl) (Nat.le_of_ble_eq_true rfl) rfl rfl (sp_noBlockN rM.nb (by omega) hb) ?_
  refine go_if_eq (tgt := 24) d_M_got_17 (by decide) (fun z => ?_) (fun z => absurd rfl z)
  refine go_iconst (v := 0) d_M_got_24 (by decide) ?_
  refine go_pI (j := 0) d_M_got_25 (Nat.le_of_ble_eq_true rfl) rfl pc_M (Nat.le_of_ble_eq_true rfl) (by decide) w_702 rfl (Or.inl rfl) ?_
  refine go_iconst (v := 0) d_M_got_28 (by decide) ?_
  refine go_istore_n d_M_got_29 (Nat.le_of_ble_eq_true rfl) rfl ?_
  refine go_iconst (v := 0) d_M_got_30 (by decide) ?_
  refine go_istore_n d_M_got_31 (Nat.le_of_ble_eq_true rfl) rfl ?_
  refine go_iconst (v := 0) d_M_got_32 (by decide) ?_
  refine go_istore d_M_got_33 (Nat.le_of_ble_eq_true rfl) rfl ?_
  exact i0
theorem M_got_t {a v : Int32} (hD : DW D) (rM : RMD I D) (hv : v = 1 ∨ v = 2) : pm_Go (d + 1) m_M_got 25 [some (.ref 69), some (.int a), none, none, none, none] [.int v, .ref 69] 0 0 (ST I J) (.inl (some (.int 0)), ST (pm_uI I 69 0 v) J) := by
  have hsl := sq_len hD
  have e17 : I 69 17 = nI D.sq.length := rM.ad
  refine go_pI (j := 0) d_M_got_25 (Nat.le_of_ble_eq_true rfl) rfl pc_M (Nat.le_of_ble_eq_true rfl) (by decide) w_702 rfl (Or.inl rfl) ?_
  refine go_iconst (v := 0) d_M_got_28 (by decide) ?_
  refine go_istore_n d_M_got_29 (Nat.le_of_ble_eq_true rfl) rfl ?_
  refine go_iconst (v := 0) d_M_got_30 (by decide) ?_
  refine go_istore_n d_M_got_31 (Nat.le_of_ble_eq_true rfl) rfl ?_
  refine go_iconst (v := 0) d_M_got_32 (by decide) ?_
  refine go_istore d_M_got_33 (Nat.le_of_ble_eq_true rfl) rfl ?_
  refine go_iload d_M_got_35 rfl ?_
  refine go_aload_n d_M_got_37 rfl ?_
  refine go_gI (j := 17) (nI D.sq.length) d_M_got_38 (Nat.le_of_ble_eq_true rfl) rfl pc_M (Nat.le_of_ble_eq_true rfl) (by decide) w_719 e17 ?_
  by_cases h0 : D.sq.length ≤ 0
  · refine go_icmp_ge (tgt := 197) d_M_got_41 (by decide) (fun z => ?_) (fun z => absurd (nI_le (b := 0) h0 (by decide)) z)
    refine go_iload_n d_M_got_197 rfl ?_
    exact go_ireturn (st := []) d_M_got_198 rfl (Nat.le_of_ble_eq_true rfl) (Nat.le_of_ble_eq_true rfl) rfl
  · refine go_icmp_ge (tgt := 197) d_M_got_41 (by decide) (fun z => absurd z (nI_nle (by omega) (by omega))) (fun z => ?_)
    refine go_aload_n d_M_got_44 rfl ?_
    refine go_gI (j := 0) (v) d_M_got_45 (Nat.le_of_ble_eq_true rfl) rfl pc_M (Nat.le_of_ble_eq_true rfl) (by decide) w_702 rfl ?_
    refine go_if_ne (tgt := 197) d_M_got_48 (by decide) (fun z => ?_) (fun z => absurd z (by rcases hv with rfl | rfl <;> decide))
    refine go_iload_n d_M_got_197 rfl ?_
    exact go_ireturn (st := []) d_M_got_198 rfl (Nat.le_of_ble_eq_true rfl) (Nat.le_of_ble_eq_true rfl) rfl
theorem sp_M_gotN {a : Int32} (h : I 69 1 = 0) (hD : DW D) (rM : RMD I D) : pm_Go (d + 1) m_M_got 0 [some (.ref 69), some (.int a), none, none, none, none] [] 0 0 (ST I J) (.inl (some (.int 0)), ST (pm_uI I 69 0 1) J) := by
  refine go_aload_n d_M_got_0 rfl ?_
  refine go_aload_n d_M_got_1 rfl ?_
  refine go_gI (j := 1) (0) d_M_got_2 (Nat.le_of_ble_eq_true rfl) rfl pc_M (Nat.le_of_ble_eq_true rfl) (by decide) w_703 h ?_
  refine go_if_ne (tgt := 12) d_M_got_5 (by decide) (fun z => absurd rfl z) (fun z => ?_)
  refine go_iconst (v := 1) d_M_got_8 (by decide) ?_
  refine go_goto (tgt := 25) d_M_got_9 (by decide) ?_
  exact M_got_t hD rM (Or.inl rfl)
theorem sp_M_gotX {a : Int32} (h : I 69 1 = 1) (hD : DW D) (rM : RMD I D) (hx : ¬ okN a D.nb) : pm_Go (d + 1) m_M_got 0 [some (.ref 69), some (.int a), none, none, none, none] [] 0 0 (ST I J) (.inl (some (.int 0)), ST (pm_uI I 69 0 2) J) := by
  have h10 := hD.nb
  refine go_aload_n d_M_got_0 rfl ?_
  refine go_aload_n d_M_got_1 rfl ?_
  refine go_gI (j := 1) (1) d_M_got_2 (Nat.le_of_ble_eq_true rfl) rfl pc_M (Nat.le_of_ble_eq_true rfl) (by decide) w_703 h ?_
  refine go_if_ne (tgt := 12) d_M_got_5 (by decide) (fun z => ?_) (fun z => absurd z (by decide))
  refine go_aload_n d_M_got_12 rfl ?_
  refine go_iload_n d_M_got_13 rfl ?_
  refine go_callV (k2 := m_M_noBlock) (As := [.int a]) (r := some (.int 1)) d_M_got_14 ok_M_noBlock (Nat.le_of_ble_eq_true rfl) rfl pc_M rfl vl_M_121 rfl rfl (Nat.le_of_ble_eq_true rfl) (Nat.le_of_ble_eq_true rfl) (Nat.le_of_ble_eq_true rfl) (Nat.le_of_ble_eq_true rfl) rfl rfl (sp_noBlockY rM.nb (by omega) hx) ?_
  refine go_if_eq (tgt := 24) d_M_got_17 (by decide) (fun z => absurd z (by decide)) (fun z => ?_)
  refine go_iconst (v := 2) d_M_got_20 (by decide) ?_
  refine go_goto (tgt := 25) d_M_got_21 (by decide) ?_
  exact M_got_t hD rM (Or.inr rfl)
end S48
