/-! the reference: a tick, a run -/
section S45
variable {d : Nat} {I : Nat → Nat → Int32} {J : Nat → Nat → Int64} {D : DZ} {s : MS} {t : TS} {stl : Int32}
theorem bI_up {f : Nat → Bool} {m : Nat} : ∀ {n : Nat}, m ≤ n → (∀ q, m ≤ q → q < n → f q = false) → bI f n = bI f m
  | 0, h, _ => by
    have : m = 0 := by omega
    rw [this]
  | n + 1, h, hf => by
    by_cases e : m = n + 1
    · rw [e]
    · show (if f n then bI f n ||| ((1 : Int32) <<< (nI n &&& 31)) else bI f n) = _
      rw [hf n (by omega) (by omega), if_neg (by decide)]
      exact bI_up (by omega) (fun q h1 h2 => hf q h1 (by omega))
theorem sh_16 : ∀ p, p < 4 → (16 : Int32) <<< (nI p &&& 31) = 1 <<< (nI (4 + p) &&& 31) := by decide +kernel
theorem tl_o (hD : DW D) (hI : TI D s t) {p : Nat} (hp : p < D.no) : tlF D s stl D.nb p = decide (0 < ouP D s stl (lb D.nb) p ∧ ouTP s p (ouP D s stl (lb D.nb) p - 1) = s.T) := by
  have hno := hD.no
  have e1 : lb D.nb (D.ofm p) = true := decide_eq_true (hD.ot p hp)
  rw [tlF, if_pos (by omega), decide_eq_true hp, decide_eq_true (hD.ot p hp), ouP, e1]
  cases hg : geM D s stl (D.ofm p) (20 + p)
  · rw [if_neg (by decide)]
    symm
    apply decide_eq_false
    rintro ⟨h1, h2⟩
    rw [ouTP, if_neg (by omega)] at h2
    have := hI.ot p hp (s.ou p - 1) (by omega)
    omega
  · rw [if_pos (by decide)]
    symm
    apply decide_eq_true
    refine ⟨by omega, ?_⟩
    rw [ouTP, if_pos (by omega)]
theorem tl_i (hD : DW D) (hI : TI D s t) {p : Nat} (hp : p < D.ni) : tlF D s stl D.nb (4 + p) = decide (0 < tuP D s stl (lb D.nb) (D.ito p) ∧ (ftM s t stl).en (D.ito p) (tuP D s stl (lb D.nb) (D.ito p) - 1) = s.T) := by
  have e1 : lb D.nb (D.ito p) = true := decide_eq_true (hD.ip p hp)
  rw [tlF, if_neg (by omega), show 4 + p - 4 = p by omega, decide_eq_true hp, decide_eq_true (hD.ip p hp), tuP, e1]
  cases hg : enM D s stl (D.ito p)
  · rw [if_neg (by decide)]
    symm
    apply decide_eq_false
    rintro ⟨h1, h2⟩
    rw [enF, if_neg (by omega)] at h2
    have := hI.en _ (hD.ip p hp) (s.tu (D.ito p) - 1) (by omega)
    omega
  · rw [if_pos (by decide)]
    symm
    apply decide_eq_true
    refine ⟨by omega, ?_⟩
    rw [enF, if_pos (by omega)]
theorem sp_M_one (hD : DW D) (hM : MI D s) (hI : TI D s t) (hT : s.T < 1000) (hB : TB s t) (rM : RMD I D) (rS : RMS I D s t) : ∃ I', pm_Go (d + 5) m_M_one 0 [some (.ref 69), some (.int stl), none, none, none, none] [] 0 0 (ST I J) (.inl (some (.int (tlM D s stl D.nb))), ST I' J) ∧ RMS I' D (stepM D s stl) (ftM s t stl) ∧ (∀ q, q ≠ 18 → I' 69 q = I 69 q) ∧ fr (69 :: 81 :: stL) I I' := by
  have h10 := hD.nb
  have hni := hD.ni
  have hno := hD.no
  have eT := rS.T
  have hM2 := MI_step (stl := stl) hD hM hT
  have hN2 := NB_MI hD hM2
  have hB2 : TB (stepM D s stl) (ftM s t stl) := TB_ft (D := D) (stl := stl) (A := nA) (G := nA) (H := nA) (B := T2) hB (by omega)
  have f1 : fr [81] I (pm_uI I 81 s.T stl) := fr.uI (by decide)
  have rS1 : RMS (pm_uI I 81 s.T stl) D s t := by
    refine RMS.mk rS.T (fun k hk => ?_) rS.tk rS.lf rS.ga rS.tu rS.of rS.ou
    rw [uI_nj (by omega)]
    exact rS.st k hk
  have hst : ∀ q, q ≤ s.T → pm_uI I 81 s.T stl 81 q = (ftM s t stl).sl q := by
    intro q hq
    rw [slF]
    by_cases e : q = s.T
    · rw [if_pos e, e, uI_eq]
    · rw [if_neg e, uI_nj e]
      exact rS.st q (by omega)
  obtain ⟨I2, a1, a2, a3⟩ := sp_M_settle (d := d) (J := J) (stl := stl) hD hM hI hT hB (rM.fr f1 (by decide)) rS1 hst
  have e69 : I2 69 = I 69 := by rw [a3 69 (by decide), f1 69 (by decide)]
  have eT2 : I2 69 18 = nI s.T := by rw [e69]; exact eT
  have rM3 : RMD (pm_uI I2 69 18 (nI (s.T + 1))) D := by
    refine rM.cg (fun j hj => ?_) (fun c h1 h2 => ?_)
    · rw [uI_nj (by omega), e69]
    · have e : pm_uI I2 69 18 (nI (s.T + 1)) c = I2 c := by
        funext j
        exact uI_ne (by omega)
      rw [e, a3 c (by unfold stL; simp; omega), f1 c (by simp; omega)]
  have rS3 : RMS (pm_uI I2 69 18 (nI (s.T + 1))) D (stepM D s stl) (ftM s t stl) := by
    refine RMS.mk uI_eq (fun k hk => ?_) a2.tk a2.lf a2.ga a2.tu a2.of a2.ou
    have hk2 : k < s.T + 1 := hk
    rw [uI_ne (by decide), a3 81 (by decide)]
    exact hst k (by omega)
  refine ⟨pm_uI I2 69 18 (nI (s.T + 1)), ?_, rS3, fun q hq => by rw [uI_nj hq, e69], ((f1.up (by decide)).tr (a3.up (by decide))).tr (fr.uI (by decide))⟩
  have eb8 : tlM D s stl D.nb = bI (tlF D s stl D.nb) (4 + D.ni) := by
    refine bI_up (by omega) (fun q h1 h2 => ?_)
    rw [tlF, if_neg (by omega), decide_eq_false (by omega)]
    rfl
  have eb4 : bI (tlF D s stl D.nb) 4 = bI (tlF D s stl D.nb) D.no := by
    refine bI_up (by omega) (fun q h1 h2 => ?_)
    rw [tlF, if_pos (by omega), decide_eq_false (by omega)]
    rfl
  have li : ∀ n p (w5 : Option Value), D.ni - p = n → p ≤ D.ni → pm_Go (d + 5) m_M_one 96 [some (.ref 69), some (.int stl), some (.int (nI s.T)), some (.int (bI (tlF D s stl D.nb) (4 + p))), some (.int (nI p)), w5] [] 0 0 (ST (pm_uI I2 69 18 (nI (s.T + 1))) J) (.inl (some (.int (tlM D s stl D.nb))), ST (pm_uI I2 69 18 (nI (s.T + 1))) J) := by
    intro n
    induction n with
    | zero =>
      intro p w5 hn hp
      have : p = D.ni := by omega
      subst this
      rw [eb8]
      refine go_iload d_M_one_96 rfl ?_
      refine go_aload_n d_M_one_98 rfl ?_
      refine go_gI (j := 11) (nI D.ni) d_M_one_99 (Nat.le_of_ble_eq_true rfl) rfl pc_M (Nat.le_of_ble_eq_true rfl) (by decide) w_713 rM3.ni ?_
      refine go_icmp_ge (tgt := 167) d_M_one_102 (by decide) (fun z => ?_) (fun z => absurd (nI_le (Nat.le_refl _) (by omega)) z)
      refine go_iload_n d_M_one_167 rfl ?_
      exact go_ireturn (st := []) d_M_one_168 rfl (Nat.le_of_ble_eq_true rfl) (Nat.le_of_ble_eq_true rfl) rfl
    | succ n ih =>
      intro p w5 hn hp
      have hp2 : p < D.ni := by omega
      have hto := hD.ip p hp2
      have htu := hN2.tu _ hto
      have i1 := fun w5 => ih (p + 1) w5 (by omega) (by omega)
      have ebs : bI (tlF D s stl D.nb) (4 + (p + 1)) = if tlF D s stl D.nb (4 + p) then bI (tlF D s stl D.nb) (4 + p) ||| ((1 : Int32) <<< (nI (4 + p) &&& 31)) else bI (tlF D s stl D.nb) (4 + p) := rfl
      rw [ebs, tl_i (t := t) hD hI hp2, ← sh_16 p (by omega)] at i1
      obtain ⟨v1, v2⟩ := rS3.tu _ hto
      have v1' : pm_uI I2 69 18 (nI (s.T + 1)) 88 (D.ito p) = nI (tuP D s stl (lb D.nb) (D.ito p)) := v1
      have htu' : tuP D s stl (lb D.nb) (D.ito p) ≤ 1000 := htu
      have hen := hB2.en (D.ito p) (tuP D s stl (lb D.nb) (D.ito p) - 1)
      refine go_iload d_M_one_96 rfl ?_
      refine go_aload_n d_M_one_98 rfl ?_
      refine go_gI (j := 11) (nI D.ni) d_M_one_99 (Nat.le_of_ble_eq_true rfl) rfl pc_M (Nat.le_of_ble_eq_true rfl) (by decide) w_713 rM3.ni ?_
      refine go_icmp_ge (tgt := 167) d_M_one_102 (by decide) (fun z => absurd z (nI_ge (by omega) (by omega))) (fun z => ?_)
      refine go_aload_n d_M_one_105 rfl ?_
      refine go_getP (j := 26) d_M_one_106 (Nat.le_of_ble_eq_true rfl) rfl pc_M (Nat.le_of_ble_eq_true rfl) rfl w_728 pt_M_26 ?_
      refine go_aload_n d_M_one_109 rfl ?_
      refine go_getP (j := 12) d_M_one_110 (Nat.le_of_ble_eq_true rfl) rfl pc_M (Nat.le_of_ble_eq_true rfl) rfl w_714 pt_M_12 ?_
      refine go_iload d_M_one_113 rfl ?_
      refine go_ald p (nI (D.ito p)) d_M_one_115 (Nat.le_of_ble_eq_true rfl) rfl rfl (by omega) (by decide) (rM3.ip p hp2).1 ?_
      refine go_ald (D.ito p) (nI (tuP D s stl (lb D.nb) (D.ito p))) d_M_one_116 (Nat.le_of_ble_eq_true rfl) rfl rfl (by omega) (by decide) v1' ?_
      refine go_istore d_M_one_117 (Nat.le_of_ble_eq_true rfl) rfl ?_
      refine go_iload d_M_one_119 rfl ?_
      by_cases h0 : tuP D s stl (lb D.nb) (D.ito p) = 0
      · rw [decide_eq_false (fun z => absurd z.1 (by omega)), if_neg (by decide)] at i1
        refine go_if_le (tgt := 159) d_M_one_121 (by decide) (fun z => ?_) (fun z => absurd (nI_le (b := 0) (by omega) (by decide)) z)
        refine go_iload_n d_M_one_159 rfl ?_
        refine go_istore_n d_M_one_160 (Nat.le_of_ble_eq_true rfl) rfl ?_
        refine go_iinc (v := nI (p + 1)) d_M_one_161 rfl (by first | rfl | exact nI_1 _) rfl ?_
        refine go_goto (tgt := 96) d_M_one_164 (by decide) ?_
        exact i1 _
      · have v3 : pm_uI I2 69 18 (nI (s.T + 1)) 87 (1002 * D.ito p + (tuP D s stl (lb D.nb) (D.ito p) - 1)) = nI ((ftM s t stl).en (D.ito p) (tuP D s stl (lb D.nb) (D.ito p) - 1)) := v2 _ (show tuP D s stl (lb D.nb) (D.ito p) - 1 < tuP D s stl (lb D.nb) (D.ito p) by omega)
        generalize tuP D s stl (lb D.nb) (D.ito p) = k at *
        refine go_if_le (tgt := 159) d_M_one_121 (by decide) (fun z => absurd z (nI_nle (by omega) (by omega))) (fun z => ?_)
        refine go_aload_n d_M_one_124 rfl ?_
        refine go_getP (j := 25) d_M_one_125 (Nat.le_of_ble_eq_true rfl) rfl pc_M (Nat.le_of_ble_eq_true rfl) rfl w_727 pt_M_25 ?_
        refine go_sipush (v := 1002) d_M_one_128 (by decide) ?_
        refine go_aload_n d_M_one_131 rfl ?_
        refine go_getP (j := 12) d_M_one_132 (Nat.le_of_ble_eq_true rfl) rfl pc_M (Nat.le_of_ble_eq_true rfl) rfl w_714 pt_M_12 ?_
        refine go_iload d_M_one_135 rfl ?_
        refine go_ald p (nI (D.ito p)) d_M_one_137 (Nat.le_of_ble_eq_true rfl) rfl rfl (by omega) (by decide) (rM3.ip p hp2).1 ?_
        refine go_imul d_M_one_138 ?_
        refine go_top (nI (1002 * D.ito p)) (pk_mul 1002 _) ?_
        refine go_iload d_M_one_139 rfl ?_
        refine go_iadd d_M_one_141 ?_
        refine go_top (nI (1002 * D.ito p + k)) (nI_add _ _) ?_
        refine go_iconst (v := 1) d_M_one_142 (by decide) ?_
        refine go_isub d_M_one_143 ?_
        refine go_top (nI (1002 * D.ito p + (k - 1))) (by rw [show 1002 * D.ito p + k = 1002 * D.ito p + (k - 1) + 1 by omega]; exact nI_pred _) ?_
        refine go_ald (1002 * D.ito p + (k - 1)) (nI ((ftM s t stl).en (D.ito p) (k - 1))) d_M_one_144 (Nat.le_of_ble_eq_true rfl) rfl rfl (by omega) (by decide) v3 ?_
        refine go_iload_n d_M_one_145 rfl ?_
        by_cases h1 : (ftM s t stl).en (D.ito p) (k - 1) = s.T
        · rw [decide_eq_true ⟨by omega, h1⟩, if_pos rfl] at i1
          refine go_icmp_ne (tgt := 159) d_M_one_146 (by decide) (fun z => absurd (congrArg nI h1) z) (fun z => ?_)
          refine go_iload_n d_M_one_149 rfl ?_
          refine go_bipush (v := 16) d_M_one_150 (by decide) ?_
          refine go_iload d_M_one_152 rfl ?_
          refine go_ishl d_M_one_154 ?_
          refine go_ior d_M_one_155 ?_
          refine go_goto (tgt := 160) d_M_one_156 (by decide) ?_
          refine go_istore_n d_M_one_160 (Nat.le_of_ble_eq_true rfl) rfl ?_
          refine go_iinc (v := nI (p + 1)) d_M_one_161 rfl (by first | rfl | exact nI_1 _) rfl ?_
          refine go_goto (tgt := 96) d_M_one_164 (by decide) ?_
          exact i1 _
        · rw [decide_eq_false (fun z => h1 z.2), if_neg (by decide)] at i1
          refine go_icmp_ne (tgt := 159) d_M_one_146 (by decide) (fun z => ?_) (fun z => absurd z (nI_neq (by omega) (by omega) h1))
          refine go_iload_n d_M_one_159 rfl ?_
          refine go_istore_n d_M_one_160 (Nat.le_of_ble_eq_true rfl) rfl ?_
          refine go_iinc (v := nI (p + 1)) d_M_one_161 rfl (by first | rfl | exact nI_1 _) rfl ?_
          refine go_goto (tgt := 96) d_M_one_164 (by decide) ?_
          exact i1 _
  have lo : ∀ n p, D.no - p = n → p ≤ D.no → pm_Go (d + 5) m_M_one 32 [some (.ref 69), some (.int stl), some (.int (nI s.T)), some (.int (bI (tlF D s stl D.nb) p)), some (.int (nI p)), none] [] 0 0 (ST (pm_uI I2 69 18 (nI (s.T + 1))) J) (.inl (some (.int (tlM D s stl D.nb))), ST (pm_uI I2 69 18 (nI (s.T + 1))) J) := by
    intro n
    induction n with
    | zero =>
      intro p hn hp
      have : p = D.no := by omega
      subst this
      have i0 := li D.ni 0 none (by omega) (by omega)
      rw [show 4 + 0 = 4 from rfl, eb4] at i0
      refine go_iload d_M_one_32 rfl ?_
      refine go_aload_n d_M_one_34 rfl ?_
      refine go_gI (j := 14) (nI D.no) d_M_one_35 (Nat.le_of_ble_eq_true rfl) rfl pc_M (Nat.le_of_ble_eq_true rfl) (by decide) w_716 rM3.no ?_
      refine go_icmp_ge (tgt := 93) d_M_one_38 (by decide) (fun z => ?_) (fun z => absurd (nI_le (Nat.le_refl _) (by omega)) z)
      refine go_iconst (v := 0) d_M_one_93 (by decide) ?_
      refine go_istore d_M_one_94 (Nat.le_of_ble_eq_true rfl) rfl ?_
      exact i0
    | succ n ih =>
      intro p hn hp
      have hp2 : p < D.no := by omega
      have hou := hN2.ou p hp2
      have i1 := ih (p + 1) (by omega) (by omega)
      have ebs : bI (tlF D s stl D.nb) (p + 1) = if tlF D s stl D.nb p then bI (tlF D s stl D.nb) p ||| ((1 : Int32) <<< (nI p &&& 31)) else bI (tlF D s stl D.nb) p := rfl
      rw [ebs, tl_o (t := t) hD hI hp2] at i1
      obtain ⟨v1, v2⟩ := rS3.ou p hp2
      have v1' : pm_uI I2 69 18 (nI (s.T + 1)) 94 p = nI (ouP D s stl (lb D.nb) p) := v1
      have hou' : ouP D s stl (lb D.nb) p ≤ 1001 := hou
      have hot := hB2.ot p (ouP D s stl (lb D.nb) p - 1)
      have hot' : ouTP s p (ouP D s stl (lb D.nb) p - 1) ≤ 1000 := hot
      refine go_iload d_M_one_32 rfl ?_
      refine go_aload_n d_M_one_34 rfl ?_
      refine go_gI (j := 14) (nI D.no) d_M_one_35 (Nat.le_of_ble_eq_true rfl) rfl pc_M (Nat.le_of_ble_eq_true rfl) (by decide) w_716 rM3.no ?_
      refine go_icmp_ge (tgt := 93) d_M_one_38 (by decide) (fun z => absurd z (nI_ge (by omega) (by omega))) (fun z => ?_)
      refine go_aload_n d_M_one_41 rfl ?_
      refine go_getP (j := 32) d_M_one_42 (Nat.le_of_ble_eq_true rfl) rfl pc_M (Nat.le_of_ble_eq_true rfl) rfl w_734 pt_M_32 ?_
      refine go_iload d_M_one_45 rfl ?_
      refine go_ald p (nI (ouP D s stl (lb D.nb) p)) d_M_one_47 (Nat.le_of_ble_eq_true rfl) rfl rfl (by omega) (by decide) v1' ?_
      by_cases h0 : ouP D s stl (lb D.nb) p = 0
      · rw [decide_eq_false (fun z => absurd z.1 (by omega)), if_neg (by decide)] at i1
        refine go_if_le (tgt := 85) d_M_one_48 (by decide) (fun z => ?_) (fun z => absurd (nI_le (b := 0) (by omega) (by decide)) z)
        refine go_iload_n d_M_one_85 rfl ?_
        refine go_istore_n d_M_one_86 (Nat.le_of_ble_eq_true rfl) rfl ?_
        refine go_iinc (v := nI (p + 1)) d_M_one_87 rfl (by first | rfl | exact nI_1 _) rfl ?_
        refine go_goto (tgt := 32) d_M_one_90 (by decide) ?_
        exact i1
      · have v3 : pm_uI I2 69 18 (nI (s.T + 1)) 93 (1002 * p + (ouP D s stl (lb D.nb) p - 1)) = nI (ouTP s p (ouP D s stl (lb D.nb) p - 1)) := (v2 _ (show ouP D s stl (lb D.nb) p - 1 < ouP D s stl (lb D.nb) p by omega)).2
        generalize ouP D s stl (lb D.nb) p = k at *
        refine go_if_le (tgt := 85) d_M_one_48 (by decide) (fun z => absurd z (nI_nle (by omega) (by omega))) (fun z => ?_)
        refine go_aload_n d_M_one_51 rfl ?_
        refine go_getP (j := 31) d_M_one_52 (Nat.le_of_ble_eq_true rfl) rfl pc_M (Nat.le_of_ble_eq_true rfl) rfl w_733 pt_M_31 ?_
        refine go_sipush (v := 1002) d_M_one_55 (by decide) ?_
        refine go_iload d_M_one_58 rfl ?_
        refine go_imul d_M_one_60 ?_
        refine go_top (nI (1002 * p)) (pk_mul 1002 _) ?_
        refine go_aload_n d_M_one_61 rfl ?_
        refine go_getP (j := 32) d_M_one_62 (Nat.le_of_ble_eq_true rfl) rfl pc_M (Nat.le_of_ble_eq_true rfl) rfl w_734 pt_M_32 ?_
        refine go_iload d_M_one_65 rfl ?_
        refine go_ald p (nI k) d_M_one_67 (Nat.le_of_ble_eq_true rfl) rfl rfl (by omega) (by decide) v1' ?_
        refine go_iadd d_M_one_68 ?_
        refine go_top (nI (1002 * p + k)) (nI_add _ _) ?_
        refine go_iconst (v := 1) d_M_one_69 (by decide) ?_
        refine go_isub d_M_one_70 ?_
        refine go_top (nI (1002 * p + (k - 1))) (by rw [show 1002 * p + k = 1002 * p + (k - 1) + 1 by omega]; exact nI_pred _) ?_
        refine go_ald (1002 * p + (k - 1)) (nI (ouTP s p (k - 1))) d_M_one_71 (Nat.le_of_ble_eq_true rfl) rfl rfl (by omega) (by decide) v3 ?_
        refine go_iload_n d_M_one_72 rfl ?_
        by_cases h1 : ouTP s p (k - 1) = s.T
        · rw [decide_eq_true ⟨by omega, h1⟩, if_pos rfl] at i1
          refine go_icmp_ne (tgt := 85) d_M_one_73 (by decide) (fun z => absurd (congrArg nI h1) z) (fun z => ?_)
          refine go_iload_n d_M_one_76 rfl ?_
          refine go_iconst (v := 1) d_M_one_77 (by decide) ?_
          refine go_iload d_M_one_78 rfl ?_
          refine go_ishl d_M_one_80 ?_
          refine go_ior d_M_one_81 ?_
          refine go_goto (tgt := 86) d_M_one_82 (by decide) ?_
          refine go_istore_n d_M_one_86 (Nat.le_of_ble_eq_true rfl) rfl ?_
          refine go_iinc (v := nI (p + 1)) d_M_one_87 rfl (by first | rfl | exact nI_1 _) rfl ?_
          refine go_goto (tgt := 32) d_M_one_90 (by decide) ?_
          exact i1
        · rw [decide_eq_false (fun z => h1 z.2), if_neg (by decide)] at i1
          refine go_icmp_ne (tgt := 85) d_M_one_73 (by decide) (fun z => ?_) (fun z => absurd z (nI_neq (by omega) (by omega) h1))
          refine go_iload_n d_M_one_85 rfl ?_
          refine go_istore_n d_M_one_86 (Nat.le_of_ble_eq_true rfl) rfl ?_
          refine go_iinc (v := nI (p + 1)) d_M_one_87 rfl (by first | rfl | exact nI_1 _) rfl ?_
          refine go_goto (tgt := 32) d_M_one_90 (by decide) ?_
          exact i1
  have i0 := lo D.no 0 (by omega) (by omega)
  refine go_aload_n d_M_one_0 rfl ?_
  refine go_gI (j := 18) (nI s.T) d_M_one_1 (Nat.le_of_ble_eq_true rfl) rfl pc_M (Nat.le_of_ble_eq_true rfl) (by decide) w_720 eT ?_
  refine go_istore_n d_M_one_4 (Nat.le_of_ble_eq_true rfl) rfl ?_
  refine go_aload_n d_M_one_5 rfl ?_
  refine go_getP (j := 19) d_M_one_6 (Nat.le_of_ble_eq_true rfl) rfl pc_M (Nat.le_of_ble_eq_true rfl) rfl w_721 pt_M_19 ?_
  refine go_iload_n d_M_one_9 rfl ?_
  refine go_iload_n d_M_one_10 rfl ?_
  refine go_ast s.T d_M_one_11 (Nat.le_of_ble_eq_true rfl) rfl rfl hT (by decide) ?_
  refine go_aload_n d_M_one_12 rfl ?_
  refine go_iload_n d_M_one_13 rfl ?_
  refine go_callV (k2 := m_M_settle) (As := [.int (nI s.T)]) (r := none) d_M_one_14 ok_M_settle (Nat.le_of_ble_eq_true rfl) rfl pc_M rfl vl_M_188 rfl rfl (Nat.le_of_ble_eq_true rfl) (Nat.le_of_ble_eq_true rfl) (Nat.le_of_ble_eq_true rfl) (Nat.le_of_ble_eq_true rfl) rfl rfl a1 ?_
  refine go_aload_n d_M_one_17 rfl ?_
  refine go_dup d_M_one_18 rfl ?_
  refine go_gI (j := 18) (nI s.T) d_M_one_19 (Nat.le_of_ble_eq_true rfl) rfl pc_M (Nat.le_of_ble_eq_true rfl) (by decide) w_720 eT2 ?_
  refine go_iconst (v := 1) d_M_one_22 (by decide) ?_
  refine go_iadd d_M_one_23 ?_
  refine go_top (nI (s.T + 1)) (nI_1 _) ?_
  refine go_pI (j := 18) d_M_one_24 (Nat.le_of_ble_eq_true rfl) rfl pc_M (Nat.le_of_ble_eq_true rfl) (by decide) w_720 rfl (Or.inl rfl) ?_
  refine go_iconst (v := 0) d_M_one_27 (by decide) ?_
  refine go_istore_n d_M_one_28 (Nat.le_of_ble_eq_true rfl) rfl ?_
  refine go_iconst (v := 0) d_M_one_29 (by decide) ?_
  refine go_istore d_M_one_30 (Nat.le_of_ble_eq_true rfl) rfl ?_
  exact i0
/-- thrown is 0 from here on -/
theorem sp_M_tickN {a : Int32} (h : I 69 1 = 0) : pm_Go (d + 6) m_M_tick 0 [some (.ref 69), some (.int a)] [] 0 0 (ST I J) (.inl (some (.int 0)), ST (pm_uI I 69 0 1) J) := by
  refine go_aload_n d_M_tick_0 rfl ?_
  refine go_aload_n d_M_tick_1 rfl ?_
  refine go_gI (j := 1) (0) d_M_tick_2 (Nat.le_of_ble_eq_true rfl) rfl pc_M (Nat.le_of_ble_eq_true rfl) (by decide) w_703 h ?_
  refine go_if_eq (tgt := 12) d_M_tick_5 (by decide) (fun z => ?_) (fun z => absurd rfl z)
  refine go_iconst (v := 1) d_M_tick_12 (by decide) ?_
  refine go_pI (j := 0) d_M_tick_13 (Nat.le_of_ble_eq_true rfl) rfl pc_M (Nat.le_of_ble_eq_true rfl) (by decide) w_702 rfl (Or.inl rfl) ?_
  refine go_aload_n d_M_tick_16 rfl ?_
  refine go_gI (j := 0) (1) d_M_tick_17 (Nat.le_of_ble_eq_true rfl) rfl pc_M (Nat.le_of_ble_eq_true rfl) (by decide) w_702 rfl ?_
  refine go_if_le (tgt := 27) d_M_tick_20 (by decide) (fun z => absurd z (by decide)) (fun z => ?_)
  refine go_iconst (v := 0) d_M_tick_23 (by decide) ?_
  refine go_goto (tgt := 46) d_M_tick_24 (by decide) ?_
  exact go_ireturn (st := []) d_M_tick_46 rfl (Nat.le_of_ble_eq_true rfl) (Nat.le_of_ble_eq_true rfl) rfl
theorem sp_M_tickF {a : Int32} (h : I 69 1 = 1) (hT : I 69 18 = nI 1000) : pm_Go (d + 6) m_M_tick 0 [some (.ref 69), some (.int a)] [] 0 0 (ST I J) (.inl (some (.int (-1))), ST (pm_uI I 69 0 0) J) := by
  refine go_aload_n d_M_tick_0 rfl ?_
  refine go_aload_n d_M_tick_1 rfl ?_
  refine go_gI (j := 1) (1) d_M_tick_2 (Nat.le_of_ble_eq_true rfl) rfl pc_M (Nat.le_of_ble_eq_true rfl) (by decide) w_703 h ?_
  refine go_if_eq (tgt := 12) d_M_tick_5 (by decide) (fun z => absurd z (by decide)) (fun z => ?_)
  refine go_iconst (v := 0) d_M_tick_8 (by decide) ?_
  refine go_goto (tgt := 13) d_M_tick_9 (by decide) ?_
  refine go_pI (j := 0) d_M_tick_13 (Nat.le_of_ble_eq_true rfl) rfl pc_M (Nat.le_of_ble_eq_true rfl) (by decide) w_702 rfl (Or.inl rfl) ?_
  refine go_aload_n d_M_tick_16 rfl ?_
  refine go_gI (j := 0) (0) d_M_tick_17 (Nat.le_of_ble_eq_true rfl) rfl pc_M (Nat.le_of_ble_eq_true rfl) (by decide) w_702 rfl ?_
  refine go_if_le (tgt := 27) d_M_tick_20 (by decide) (fun z => ?_) (fun z => absurd (show (0 : Int32) ≤ 0 by decide) z)
  refine go_aload_n d_M_tick_27 rfl ?_
  refine go_gI (j := 18) (nI 1000) d_M_tick_28 (Nat.le_of_ble_eq_true rfl) rfl pc_M (Nat.le_of_ble_eq_true rfl) (by decide) w_720 hT ?_
  refine go_sipush (v := 1000) d_M_tick_31 (by decide) ?_
  refine go_icmp_ne (tgt := 41) d_M_tick_34 (by decide) (fun z => absurd rfl z) (fun z => ?_)
  refine go_iconst (v := -1) d_M_tick_37 (by decide) ?_
  refine go_goto (tgt := 46) d_M_tick_38 (by decide) ?_
  exact go_ireturn (st := []) d_M_tick_46 rfl (Nat.le_of_ble_eq_true rfl) (Nat.le_of_ble_eq_true rfl) rfl
theorem sp_M_tickY (h : I 69 1 = 1) (hD : DW D) (hM : MI D s) (hI : TI D s t) (hT : s.T < 1000) (hB : TB s t) (rM : RMD I D) (rS : RMS I D s t) : ∃ I', pm_Go (d + 6) m_M_tick 0 [some (.ref 69), some (.int stl)] [] 0 0 (ST I J) (.inl (some (.int (tlM D s stl D.nb))), ST I' J) ∧ RMS I' D (stepM D s stl) (ftM s t stl) ∧ (∀ q, q ≠ 18 → q ≠ 0 → I' 69 q = I 69 q) ∧ I' 69 0 = 0 ∧ fr (69 :: 81 :: stL) I I' := by
  obtain ⟨I', a1, a2, a3, a4⟩ := sp_M_one (d := d) (I := pm_uI I 69 0 0) (J := J) (stl := stl) hD hM hI hT hB rM.th rS.th
  refine ⟨I', ?_, a2, fun q h1 h2 => by rw [a3 q h1, uI_nj h2], by rw [a3 0 (by decide), uI_eq], (fr.uI (by decide)).tr a4⟩
  refine go_aload_n d_M_tick_0 rfl ?_
  refine go_aload_n d_M_tick_1 rfl ?_
  refine go_gI (j := 1) (1) d_M_tick_2 (Nat.le_of_ble_eq_true rfl) rfl pc_M (Nat.le_of_ble_eq_true rfl) (by decide) w_703 h ?_
  refine go_if_eq (tgt := 12) d_M_tick_5 (by decide) (fun z => absurd z (by decide)) (fun z => ?_)
  refine go_iconst (v := 0) d_M_tick_8 (by decide) ?_
  refine go_goto (tgt := 13) d_M_tick_9 (by decide) ?_
  refine go_pI (j := 0) d_M_tick_13 (Nat.le_of_ble_eq_true rfl) rfl pc_M (Nat.le_of_ble_eq_true rfl) (by decide) w_702 rfl (Or.inl rfl) ?_
  refine go_aload_n d_M_tick_16 rfl ?_
  refine go_gI (j := 0) (0) d_M_tick_17 (Nat.le_of_ble_eq_true rfl) rfl pc_M (Nat.le_of_ble_eq_true rfl) (by decide) w_702 rfl ?_
  refine go_if_le (tgt := 27) d_M_tick_20 (by decide) (fun z => ?_) (fun z => absurd (show (0 : Int32) ≤ 0 by decide) z)
  refine go_aload_n d_M_tick_27 rfl ?_
  refine go_gI (j := 18) (nI s.T) d_M_tick_28 (Nat.le_of_ble_eq_true rfl) rfl pc_M (Nat.le_of_ble_eq_true rfl) (by decide) w_720 rS.T ?_
  refine go_sipush (v := 1000) d_M_tick_31 (by decide) ?_
  refine go_icmp_ne (tgt := 41) d_M_tick_34 (by decide) (fun z => ?_) (fun z => absurd z (nI_neq (b := 1000) (by omega) (by decide) (by omega)))
  refine go_aload_n d_M_tick_41 rfl ?_
  refine go_iload_n d_M_tick_42 rfl ?_
  refine go_callV (k2 := m_M_one) (As := [.int stl]) (r := some (.int (tlM D s stl D.nb))) d_M_tick_43 ok_M_one (Nat.le_of_ble_eq_true rfl) rfl pc_M rfl vl_M_192 rfl rfl (Nat.le_of_ble_eq_true rfl) (Nat.le_of_ble_eq_true rfl) (Nat.le_of_ble_eq_true rfl) (Nat.le_of_ble_eq_true rfl) rfl rfl a1 ?_
  exact go_ireturn (st := []) d_M_tick_46 rfl (Nat.le_of_ble_eq_true rfl) (Nat.le_of_ble_eq_true rfl) rfl
end S45
