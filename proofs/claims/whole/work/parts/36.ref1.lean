/-! the reference: the design's methods -/
def RMD (I : Nat → Nat → Int32) (D : DZ) : Prop := (I 69 2 = nI D.nb) ∧ (I 69 5 = nI D.nc) ∧ (I 69 11 = nI D.ni) ∧ (I 69 14 = nI D.no) ∧ (I 69 17 = nI D.sq.length) ∧ (∀ j, j < D.nb → I 70 j = nI (D.op j) ∧ I 71 j = D.ct j) ∧ (∀ c, c < D.nc → I 72 c = nI (D.fm c) ∧ I 73 c = nI (D.to c) ∧ I 74 c = D.fs c ∧ I 75 c = nI (D.ex c) ∧ ∃ t, D.sq[t]? = some c ∧ I 76 c = nI t) ∧ (∀ p, p < D.ni → I 77 p = nI (D.ito p) ∧ ∃ t, D.sq[t]? = some (20 + p) ∧ I 78 p = nI t) ∧ (∀ p, p < D.no → I 79 p = nI (D.ofm p) ∧ ∃ t, D.sq[t]? = some (24 + p) ∧ I 80 p = nI t)
theorem RMD.nb {I : Nat → Nat → Int32} {D : DZ} (h : RMD I D) : I 69 2 = nI D.nb := h.1
theorem RMD.nc {I : Nat → Nat → Int32} {D : DZ} (h : RMD I D) : I 69 5 = nI D.nc := h.2.1
theorem RMD.ni {I : Nat → Nat → Int32} {D : DZ} (h : RMD I D) : I 69 11 = nI D.ni := h.2.2.1
theorem RMD.no {I : Nat → Nat → Int32} {D : DZ} (h : RMD I D) : I 69 14 = nI D.no := h.2.2.2.1
theorem RMD.ad {I : Nat → Nat → Int32} {D : DZ} (h : RMD I D) : I 69 17 = nI D.sq.length := h.2.2.2.2.1
theorem RMD.bl {I : Nat → Nat → Int32} {D : DZ} (h : RMD I D) : ∀ j, j < D.nb → I 70 j = nI (D.op j) ∧ I 71 j = D.ct j := h.2.2.2.2.2.1
theorem RMD.ch {I : Nat → Nat → Int32} {D : DZ} (h : RMD I D) : ∀ c, c < D.nc → I 72 c = nI (D.fm c) ∧ I 73 c = nI (D.to c) ∧ I 74 c = D.fs c ∧ I 75 c = nI (D.ex c) ∧ ∃ t, D.sq[t]? = some c ∧ I 76 c = nI t := h.2.2.2.2.2.2.1
theorem RMD.ip {I : Nat → Nat → Int32} {D : DZ} (h : RMD I D) : ∀ p, p < D.ni → I 77 p = nI (D.ito p) ∧ ∃ t, D.sq[t]? = some (20 + p) ∧ I 78 p = nI t := h.2.2.2.2.2.2.2.1
theorem RMD.ot {I : Nat → Nat → Int32} {D : DZ} (h : RMD I D) : ∀ p, p < D.no → I 79 p = nI (D.ofm p) ∧ ∃ t, D.sq[t]? = some (24 + p) ∧ I 80 p = nI t := h.2.2.2.2.2.2.2.2
theorem RMD.mk {I : Nat → Nat → Int32} {D : DZ} (nb_ : I 69 2 = nI D.nb) (nc_ : I 69 5 = nI D.nc) (ni_ : I 69 11 = nI D.ni) (no_ : I 69 14 = nI D.no) (ad_ : I 69 17 = nI D.sq.length) (bl_ : ∀ j, j < D.nb → I 70 j = nI (D.op j) ∧ I 71 j = D.ct j) (ch_ : ∀ c, c < D.nc → I 72 c = nI (D.fm c) ∧ I 73 c = nI (D.to c) ∧ I 74 c = D.fs c ∧ I 75 c = nI (D.ex c) ∧ ∃ t, D.sq[t]? = some c ∧ I 76 c = nI t) (ip_ : ∀ p, p < D.ni → I 77 p = nI (D.ito p) ∧ ∃ t, D.sq[t]? = some (20 + p) ∧ I 78 p = nI t) (ot_ : ∀ p, p < D.no → I 79 p = nI (D.ofm p) ∧ ∃ t, D.sq[t]? = some (24 + p) ∧ I 80 p = nI t) : RMD I D := ⟨nb_, nc_, ni_, no_, ad_, bl_, ch_, ip_, ot_⟩
section S25
variable {d : Nat} {I : Nat → Nat → Int32} {J : Nat → Nat → Int64} {D : DZ}
theorem RMD.cg {I' : Nat → Nat → Int32} (h : RMD I D) (h1 : ∀ j, j = 2 ∨ j = 5 ∨ j = 11 ∨ j = 14 ∨ j = 17 → I' 69 j = I 69 j) (h2 : ∀ c, 70 ≤ c → c ≤ 80 → I' c = I c) : RMD I' D := by
  refine RMD.mk ?_ ?_ ?_ ?_ ?_ ?_ ?_ ?_ ?_
  · rw [h1 2 (by omega)]; exact h.nb
  · rw [h1 5 (by omega)]; exact h.nc
  · rw [h1 11 (by omega)]; exact h.ni
  · rw [h1 14 (by omega)]; exact h.no
  · rw [h1 17 (by omega)]; exact h.ad
  · rw [h2 70 (by omega) (by omega), h2 71 (by omega) (by omega)]; exact h.bl
  · rw [h2 72 (by omega) (by omega), h2 73 (by omega) (by omega), h2 74 (by omega) (by omega), h2 75 (by omega) (by omega), h2 76 (by omega) (by omega)]; exact h.ch
  · rw [h2 77 (by omega) (by omega), h2 78 (by omega) (by omega)]; exact h.ip
  · rw [h2 79 (by omega) (by omega), h2 80 (by omega) (by omega)]; exact h.ot
theorem sp_M_blockN {a b : Int32} (h : I 69 1 = 1) : pm_Go (d + 1) m_M_block 0 [some (.ref 69), some (.int a), some (.int b)] [] 0 0 (ST I J) (.inl (some (.int 0)), ST (pm_uI I 69 0 1) J) := by
  refine go_aload_n d_M_block_0 rfl ?_
  refine go_aload_n d_M_block_1 rfl ?_
  refine go_gI (j := 1) (1) d_M_block_2 (Nat.le_of_ble_eq_true rfl) rfl pc_M (Nat.le_of_ble_eq_true rfl) (by decide) w_703 h ?_
  refine go_if_eq (tgt := 12) d_M_block_5 (by decide) (fun z => absurd z (by decide)) (fun z => ?_)
  refine go_iconst (v := 1) d_M_block_8 (by decide) ?_
  refine go_goto (tgt := 26) d_M_block_9 (by decide) ?_
  refine go_pI (j := 0) d_M_block_26 (Nat.le_of_ble_eq_true rfl) rfl pc_M (Nat.le_of_ble_eq_true rfl) (by decide) w_702 rfl (Or.inl rfl) ?_
  refine go_aload_n d_M_block_29 rfl ?_
  refine go_gI (j := 0) (1) d_M_block_30 (Nat.le_of_ble_eq_true rfl) rfl pc_M (Nat.le_of_ble_eq_true rfl) (by decide) w_702 rfl ?_
  refine go_if_le (tgt := 38) d_M_block_33 (by decide) (fun z => absurd z (by decide)) (fun z => ?_)
  refine go_iconst (v := 0) d_M_block_36 (by decide) ?_
  exact go_ireturn (st := []) d_M_block_37 rfl (Nat.le_of_ble_eq_true rfl) (Nat.le_of_ble_eq_true rfl) rfl
theorem sp_M_blockX {a b : Int32} (h : I 69 1 = 0) (hx : ¬ okN a 5) : pm_Go (d + 1) m_M_block 0 [some (.ref 69), some (.int a), some (.int b)] [] 0 0 (ST I J) (.inl (some (.int 0)), ST (pm_uI I 69 0 2) J) := by
  refine go_aload_n d_M_block_0 rfl ?_
  refine go_aload_n d_M_block_1 rfl ?_
  refine go_gI (j := 1) (0) d_M_block_2 (Nat.le_of_ble_eq_true rfl) rfl pc_M (Nat.le_of_ble_eq_true rfl) (by decide) w_703 h ?_
  refine go_if_eq (tgt := 12) d_M_block_5 (by decide) (fun z => ?_) (fun z => absurd rfl z)
  refine go_iload_n d_M_block_12 rfl ?_
  by_cases h1 : a < 0
  · refine go_if_lt (tgt := 21) d_M_block_13 (by decide) (fun z => ?_) (fun z => absurd h1 z)
    refine go_iconst (v := 2) d_M_block_21 (by decide) ?_
    refine go_goto (tgt := 26) d_M_block_22 (by decide) ?_
    refine go_pI (j := 0) d_M_block_26 (Nat.le_of_ble_eq_true rfl) rfl pc_M (Nat.le_of_ble_eq_true rfl) (by decide) w_702 rfl (Or.inl rfl) ?_
    refine go_aload_n d_M_block_29 rfl ?_
    refine go_gI (j := 0) (2) d_M_block_30 (Nat.le_of_ble_eq_true rfl) rfl pc_M (Nat.le_of_ble_eq_true rfl) (by decide) w_702 rfl ?_
    refine go_if_le (tgt := 38) d_M_block_33 (by decide) (fun z => absurd z (by decide)) (fun z => ?_)
    refine go_iconst (v := 0) d_M_block_36 (by decide) ?_
    exact go_ireturn (st := []) d_M_block_37 rfl (Nat.le_of_ble_eq_true rfl) (Nat.le_of_ble_eq_true rfl) rfl
  · refine go_if_lt (tgt := 21) d_M_block_13 (by decide) (fun z => absurd z h1) (fun z => ?_)
    refine go_iload_n d_M_block_16 rfl ?_
    refine go_iconst (v := 4) d_M_block_17 (by decide) ?_
    obtain ⟨j, hj, e⟩ := nI_of h1
    have hj5 : 5 ≤ j := by
      by_cases hl : j < 5
      · exact absurd ⟨j, hl, e⟩ hx
      · omega
    refine go_icmp_le (tgt := 25) d_M_block_18 (by decide) (fun z => absurd z (by rw [e]; exact nI_ge (a := 4) (by omega) hj)) (fun z => ?_)
    refine go_iconst (v := 2) d_M_block_21 (by decide) ?_
    refine go_goto (tgt := 26) d_M_block_22 (by decide) ?_
    refine go_pI (j := 0) d_M_block_26 (Nat.le_of_ble_eq_true rfl) rfl pc_M (Nat.le_of_ble_eq_true rfl) (by decide) w_702 rfl (Or.inl rfl) ?_
    refine go_aload_n d_M_block_29 rfl ?_
    refine go_gI (j := 0) (2) d_M_block_30 (Nat.le_of_ble_eq_true rfl) rfl pc_M (Nat.le_of_ble_eq_true rfl) (by decide) w_702 rfl ?_
    refine go_if_le (tgt := 38) d_M_block_33 (by decide) (fun z => absurd z (by decide)) (fun z => ?_)
    refine go_iconst (v := 0) d_M_block_36 (by decide) ?_
    exact go_ireturn (st := []) d_M_block_37 rfl (Nat.le_of_ble_eq_true rfl) (Nat.le_of_ble_eq_true rfl) rfl
theorem sp_M_blockF {o : Nat} {b : Int32} (h : I 69 1 = 0) (ho : o < 5) (hn : I 69 2 = nI 10) : pm_Go (d + 1) m_M_block 0 [some (.ref 69), some (.int (nI o)), some (.int b)] [] 0 0 (ST I J) (.inl (some (.int (-1))), ST (pm_uI I 69 0 0) J) := by
  refine go_aload_n d_M_block_0 rfl ?_
  refine go_aload_n d_M_block_1 rfl ?_
  refine go_gI (j := 1) (0) d_M_block_2 (Nat.le_of_ble_eq_true rfl) rfl pc_M (Nat.le_of_ble_eq_true rfl) (by decide) w_703 h ?_
  refine go_if_eq (tgt := 12) d_M_block_5 (by decide) (fun z => ?_) (fun z => absurd rfl z)
  refine go_iload_n d_M_block_12 rfl ?_
  refine go_if_lt (tgt := 21) d_M_block_13 (by decide) (fun z => absurd z (nI_pos (by omega))) (fun z => ?_)
  refine go_iload_n d_M_block_16 rfl ?_
  refine go_iconst (v := 4) d_M_block_17 (by decide) ?_
  refine go_icmp_le (tgt := 25) d_M_block_18 (by decide) (fun z => ?_) (fun z => absurd (nI_le (b := 4) (by omega) (by decide)) z)
  refine go_iconst (v := 0) d_M_block_25 (by decide) ?_
  refine go_pI (j := 0) d_M_block_26 (Nat.le_of_ble_eq_true rfl) rfl pc_M (Nat.le_of_ble_eq_true rfl) (by decide) w_702 rfl (Or.inl rfl) ?_
  refine go_aload_n d_M_block_29 rfl ?_
  refine go_gI (j := 0) (0) d_M_block_30 (Nat.le_of_ble_eq_true rfl) rfl pc_M (Nat.le_of_ble_eq_true rfl) (by decide) w_702 rfl ?_
  refine go_if_le (tgt := 38) d_M_block_33 (by decide) (fun z => ?_) (fun z => absurd (show (0 : Int32) ≤ 0 by decide) z)
  refine go_aload_n d_M_block_38 rfl ?_
  refine go_gI (j := 2) (nI 10) d_M_block_39 (Nat.le_of_ble_eq_true rfl) rfl pc_M (Nat.le_of_ble_eq_true rfl) (by decide) w_704 hn ?_
  refine go_bipush (v := 10) d_M_block_42 (by decide) ?_
  refine go_icmp_ne (tgt := 49) d_M_block_44 (by decide) (fun z => absurd rfl z) (fun z => ?_)
  refine go_iconst (v := -1) d_M_block_47 (by decide) ?_
  exact go_ireturn (st := []) d_M_block_48 rfl (Nat.le_of_ble_eq_true rfl) (Nat.le_of_ble_eq_true rfl) rfl
theorem nI_neq {a b : Nat} (ha : a < 2 ^ 31) (hb : b < 2 ^ 31) (h : a ≠ b) : nI a ≠ nI b := by
  intro e
  have := congrArg Int32.toInt e
  rw [nI_toInt ha, nI_toInt hb] at this
  omega
theorem sp_M_blockY {o : Nat} {b : Int32} (h : I 69 1 = 0) (ho : o < 5) (hD : DW D) (rM : RMD I D) (hn : D.nb < 10) : ∃ I', pm_Go (d + 1) m_M_block 0 [some (.ref 69), some (.int (nI o)), some (.int b)] [] 0 0 (ST I J) (.inl (some (.int (nI D.nb))), ST I' J) ∧ RMD I' (bkD D o b) ∧ I' 69 0 = 0 ∧ I' 69 1 = 0 ∧ fr [69, 70, 71] I I' := by
  have e2 := rM.nb
  refine ⟨pm_uI (pm_uI (pm_uI (pm_uI I 69 0 0) 70 D.nb (nI o)) 71 D.nb b) 69 2 (nI (D.nb + 1)), ?_, ?_, ?_, ?_, ?_⟩
  · refine go_aload_n d_M_block_0 rfl ?_
    refine go_aload_n d_M_block_1 rfl ?_
    refine go_gI (j := 1) (0) d_M_block_2 (Nat.le_of_ble_eq_true rfl) rfl pc_M (Nat.le_of_ble_eq_true rfl) (by decide) w_703 h ?_
    refine go_if_eq (tgt := 12) d_M_block_5 (by decide) (fun z => ?_) (fun z => absurd rfl z)
    refine go_iload_n d_M_block_12 rfl ?_
    refine go_if_lt (tgt := 21) d_M_block_13 (by decide) (fun z => absurd z (nI_pos (by omega))) (fun z => ?_)
    refine go_iload_n d_M_block_16 rfl ?_
    refine go_iconst (v := 4) d_M_block_17 (by decide) ?_
    refine go_icmp_le (tgt := 25) d_M_block_18 (by decide) (fun z => ?_) (fun z => absurd (nI_le (b := 4) (by omega) (by decide)) z)
    refine go_iconst (v := 0) d_M_block_25 (by decide) ?_
    refine go_pI (j := 0) d_M_block_26 (Nat.le_of_ble_eq_true rfl) rfl pc_M (Nat.le_of_ble_eq_true rfl) (by decide) w_702 rfl (Or.inl rfl) ?_
    refine go_aload_n d_M_block_29 rfl ?_
    refine go_gI (j := 0) (0) d_M_block_30 (Nat.le_of_ble_eq_true rfl) rfl pc_M (Nat.le_of_ble_eq_true rfl) (by decide) w_702 rfl ?_
    refine go_if_le (tgt := 38) d_M_block_33 (by decide) (fun z => ?_) (fun z => absurd (show (0 : Int32) ≤ 0 by decide) z)
    refine go_aload_n d_M_block_38 rfl ?_
    refine go_gI (j := 2) (nI D.nb) d_M_block_39 (Nat.le_of_ble_eq_true rfl) rfl pc_M (Nat.le_of_ble_eq_true rfl) (by decide) w_704 e2 ?_
    refine go_bipush (v := 10) d_M_block_42 (by decide) ?_
    refine go_icmp_ne (tgt := 49) d_M_block_44 (by decide) (fun z => ?_) (fun z => absurd z (nI_neq (b := 10) (by omega) (by decide) (by omega)))
    refine go_aload_n d_M_block_49 rfl ?_
    refine go_getP (j := 3) d_M_block_50 (Nat.le_of_ble_eq_true rfl) rfl pc_M (Nat.le_of_ble_eq_true rfl) rfl w_705 pt_M_3 ?_
    refine go_aload_n d_M_block_53 rfl ?_
    refine go_gI (j := 2) (nI D.nb) d_M_block_54 (Nat.le_of_ble_eq_true rfl) rfl pc_M (Nat.le_of_ble_eq_true rfl) (by decide) w_704 e2 ?_
    refine go_iload_n d_M_block_57 rfl ?_
    refine go_ast D.nb d_M_block_58 (Nat.le_of_ble_eq_true rfl) rfl rfl hn (by decide) ?_
    refine go_aload_n d_M_block_59 rfl ?_
    refine go_getP (j := 4) d_M_block_60 (Nat.le_of_ble_eq_true rfl) rfl pc_M (Nat.le_of_ble_eq_true rfl) rfl w_706 pt_M_4 ?_
    refine go_aload_n d_M_block_63 rfl ?_
    refine go_gI (j := 2) (nI D.nb) d_M_block_64 (Nat.le_of_ble_eq_true rfl) rfl pc_M (Nat.le_of_ble_eq_true rfl) (by decide) w_704 e2 ?_
    refine go_iload_n d_M_block_67 rfl ?_
    refine go_ast D.nb d_M_block_68 (Nat.le_of_ble_eq_true rfl) rfl rfl hn (by decide) ?_
    refine go_aload_n d_M_block_69 rfl ?_
    refine go_dup d_M_block_70 rfl ?_
    refine go_gI (j := 2) (nI D.nb) d_M_block_71 (Nat.le_of_ble_eq_true rfl) rfl pc_M (Nat.le_of_ble_eq_true rfl) (by decide) w_704 e2 ?_
    refine go_iconst (v := 1) d_M_block_74 (by decide) ?_
    refine go_iadd d_M_block_75 ?_
    refine go_top (nI (D.nb + 1)) (nI_1 _) ?_
    refine go_pI (j := 2) d_M_block_76 (Nat.le_of_ble_eq_true rfl) rfl pc_M (Nat.le_of_ble_eq_true rfl) (by decide) w_704 rfl (Or.inl rfl) ?_
    refine go_aload_n d_M_block_79 rfl ?_
    refine go_gI (j := 2) (nI (D.nb + 1)) d_M_block_80 (Nat.le_of_ble_eq_true rfl) rfl pc_M (Nat.le_of_ble_eq_true rfl) (by decide) w_704 rfl ?_
    refine go_iconst (v := 1) d_M_block_83 (by decide) ?_
    refine go_isub d_M_block_84 ?_
    refine go_top (nI D.nb) (nI_pred _) ?_
    exact go_ireturn (st := []) d_M_block_85 rfl (Nat.le_of_ble_eq_true rfl) (Nat.le_of_ble_eq_true rfl) rfl
  · have at1 : ∀ c j, pm_uI (pm_uI (pm_uI (pm_uI I 69 0 0) 70 D.nb (nI o)) 71 D.nb b) 69 2 (nI (D.nb + 1)) c j = if c = 69 ∧ j = 2 then nI (D.nb + 1) else if c = 71 ∧ j = D.nb then b else if c = 70 ∧ j = D.nb then nI o else if c = 69 ∧ j = 0 then 0 else I c j := by
      intro c j
      simp only [uI_at]
    refine RMD.mk ?_ rM.nc rM.ni rM.no rM.ad ?_ rM.ch rM.ip rM.ot
    · rw [at1, if_pos ⟨rfl, rfl⟩]; rfl
    · intro j hj
      have hj2 : j < D.nb + 1 := hj
      show _ = nI (ra_fu D.op D.nb o j) ∧ _ = ra_fu D.ct D.nb b j
      by_cases e : j = D.nb
      · subst e
        rw [fu_eq, fu_eq, at1, at1]
        simp
      · rw [fu_lt (by omega), fu_lt (by omega), at1, at1]
        (repeat rw [if_neg (by omega)])
        exact rM.bl j (by omega)
  · rfl
  · exact h
  · exact (((fr.uI (by decide)).tr (fr.uI (by decide))).tr (fr.uI (by decide))).tr (fr.uI (by decide))
end S25
