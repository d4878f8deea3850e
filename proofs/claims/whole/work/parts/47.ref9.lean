/-! the reference: a move, a gift -/
def gaS (s : MS) (c : Nat) : MS := MS.mk s.T s.tu (fun x => if x = c then s.ga c + 1 else s.ga x) s.ou s.off s.le s.tok s.ofv s.ous s.ouT
def ouS (s : MS) (p : Nat) : MS := MS.mk s.T s.tu s.ga (fun x => if x = p then s.ou p + 1 else s.ou x) s.off s.le s.tok s.ofv s.ous s.ouT
def leS (s : MS) (c b : Nat) : MS := MS.mk s.T s.tu s.ga s.ou s.off (fun x y => if x = c ∧ y = b then s.le c b + 1 else s.le x y) s.tok s.ofv s.ous s.ouT
def tuS (s : MS) (j : Nat) : MS := MS.mk s.T (fun x => if x = j then s.tu j + 1 else s.tu x) s.ga s.ou s.off s.le s.tok s.ofv s.ous s.ouT
section S38
variable {d : Nat} {I : Nat → Nat → Int32} {J : Nat → Nat → Int64} {D : DZ} {s : MS} {t : TS}
theorem RMS.cg {s' : MS} {t' : TS} (h : RMS I D s t) (hT : s'.T = s.T) (hs : ∀ k, k < s.T → t'.sl k = t.sl k) (htk : ∀ c, c < D.nc → ∀ k, k ≤ s.ga c → s'.tok c k = s.tok c k) (hle : ∀ c, c < D.nc → ∀ b, b < D.ex c → s'.le c b = s.le c b ∧ ∀ k, k < s.le c b → t'.lv c b k = t.lv c b k) (hga : ∀ c, c < D.nc → s'.ga c = s.ga c ∧ ∀ k, k < s.ga c → t'.gt c k = t.gt c k) (htu : ∀ j, j < D.nb → s'.tu j = s.tu j ∧ ∀ k, k < s.tu j → t'.en j k = t.en j k) (hof : ∀ p, p < D.ni → s'.off p = s.off p ∧ ∀ k, k < s.off p → s'.ofv p k = s.ofv p k ∧ t'.oft p k = t.oft p k) (hou : ∀ p, p < D.no → s'.ou p = s.ou p ∧ ∀ k, k < s.ou p → s'.ous p k = s.ous p k ∧ s'.ouT p k = s.ouT p k) : RMS I D s' t' := by
  refine RMS.mk ?_ ?_ ?_ ?_ ?_ ?_ ?_ ?_
  · rw [hT]; exact h.T
  · intro k hk
    rw [hT] at hk
    rw [hs k hk]; exact h.st k hk
  · intro c hc k hk
    rw [(hga c hc).1] at hk
    rw [htk c hc k hk]; exact h.tk c hc k hk
  · intro c hc b hb
    obtain ⟨e1, e2⟩ := hle c hc b hb
    obtain ⟨g1, g2⟩ := h.lf c hc b hb
    rw [e1]
    exact ⟨g1, fun k hk => by rw [e2 k hk]; exact g2 k hk⟩
  · intro c hc
    obtain ⟨e1, e2⟩ := hga c hc
    obtain ⟨g1, g2⟩ := h.ga c hc
    rw [e1]
    exact ⟨g1, fun k hk => by rw [e2 k hk]; exact g2 k hk⟩
  · intro c hc
    obtain ⟨e1, e2⟩ := htu c hc
    obtain ⟨g1, g2⟩ := h.tu c hc
    rw [e1]
    exact ⟨g1, fun k hk => by rw [e2 k hk]; exact g2 k hk⟩
  · intro c hc
    obtain ⟨e1, e2⟩ := hof c hc
    obtain ⟨g1, g2⟩ := h.of c hc
    rw [e1]
    exact ⟨g1, fun k hk => by rw [(e2 k hk).1, (e2 k hk).2]; exact g2 k hk⟩
  · intro c hc
    obtain ⟨e1, e2⟩ := hou c hc
    obtain ⟨g1, g2⟩ := h.ou c hc
    rw [e1]
    exact ⟨g1, fun k hk => by rw [(e2 k hk).1, (e2 k hk).2]; exact g2 k hk⟩
theorem M_give_at {c R T : Nat} {out : (Option Value ⊕ String) × pm_S} (hD : DW D) (rM : RMD I D) (rS : RMS I D s t) (hN : NB D s) (hB : TB s t) (hc : c < D.nc) (hR : R ≤ 1001) (h1 : s.ga c ≤ s.tu (D.fm c)) (h2 : s.tu (D.fm c) ≤ gnM D s c 0) (ho : pm_Go (d + 2) m_M_give 72 [some (.ref 69), some (.int (nI c)), some (.int (nI R)), some (.int (nI T)), some (.int (nI (s.tu (D.fm c)))), some (.int (nI (gvA D t R c (s.tu (D.fm c)))))] [] 0 0 (ST I J) out) : pm_Go (d + 2) m_M_give 0 [some (.ref 69), some (.int (nI c)), some (.int (nI R)), some (.int (nI T)), none, none] [] 0 0 (ST I J) out := by
  have h20 := hD.nc
  have h10 := hD.nb
  have hf := (hD.ch c hc).1
  have htu := hN.tu _ hf
  have hga := hN.ga c hc
  have hgn := hN.gn hD hc (Nat.zero_le _)
  have hgo := hB.gob (D := D) (c := c) (b := 0) (k := s.tu (D.fm c) - 1)
  refine go_aload_n d_M_give_0 rfl ?_
  refine go_getP (j := 26) d_M_give_1 (Nat.le_of_ble_eq_true rfl) rfl pc_M (Nat.le_of_ble_eq_true rfl) rfl w_728 pt_M_26 ?_
  refine go_aload_n d_M_give_4 rfl ?_
  refine go_getP (j := 6) d_M_give_5 (Nat.le_of_ble_eq_true rfl) rfl pc_M (Nat.le_of_ble_eq_true rfl) rfl w_708 pt_M_6 ?_
  refine go_iload_n d_M_give_8 rfl ?_
  refine go_ald c (nI (D.fm c)) d_M_give_9 (Nat.le_of_ble_eq_true rfl) rfl rfl (by omega) (by decide) (rM.ch c hc).1 ?_
  refine go_ald (D.fm c) (nI (s.tu (D.fm c))) d_M_give_10 (Nat.le_of_ble_eq_true rfl) rfl rfl (by omega) (by decide) (rS.tu _ hf).1 ?_
  refine go_istore d_M_give_11 (Nat.le_of_ble_eq_true rfl) rfl ?_
  refine go_aload_n d_M_give_13 rfl ?_
  refine go_getP (j := 24) d_M_give_14 (Nat.le_of_ble_eq_true rfl) rfl pc_M (Nat.le_of_ble_eq_true rfl) rfl w_726 pt_M_24 ?_
  refine go_iload_n d_M_give_17 rfl ?_
  refine go_ald c (nI (s.ga c)) d_M_give_18 (Nat.le_of_ble_eq_true rfl) rfl rfl (by omega) (by decide) (rS.ga c hc).1 ?_
  refine go_iload d_M_give_19 rfl ?_
  refine go_icmp_gt (tgt := 42) d_M_give_21 (by decide) (fun z => absurd z (nI_nlt h1 (by omega))) (fun z => ?_)
  refine go_iload d_M_give_24 rfl ?_
  by_cases hz : s.tu (D.fm c) = 0
  · rw [gvA, if_pos hz] at ho
    refine go_if_le (tgt := 44) d_M_give_26 (by decide) (fun z => ?_) (fun z => absurd (nI_le (b := 0) (by omega) (by decide)) z)
    refine go_iload d_M_give_44 rfl ?_
    refine go_if_le (tgt := 69) d_M_give_46 (by decide) (fun z => ?_) (fun z => absurd (nI_le (b := 0) (by omega) (by decide)) z)
    refine go_iload_n d_M_give_69 rfl ?_
    refine go_istore d_M_give_70 (Nat.le_of_ble_eq_true rfl) rfl ?_
    exact ho
  · rw [gvA, if_neg hz] at ho
    refine go_if_le (tgt := 44) d_M_give_26 (by decide) (fun z => absurd z (nI_nle (by omega) (by omega))) (fun z => ?_)
    refine go_aload_n d_M_give_29 rfl ?_
    refine go_iload_n d_M_give_30 rfl ?_
    refine go_iconst (v := 0) d_M_give_31 (by decide) ?_
    refine go_callV (k2 := m_M_gone) (As := [.int (nI c), .int (nI 0)]) (r := some (.int (nI (gnM D s c 0)))) d_M_give_32 ok_M_gone (Nat.le_of_ble_eq_true rfl) rfl pc_M rfl vl_M_150 rfl rfl (Nat.le_of_ble_eq_true rfl) (Nat.le_of_ble_eq_true rfl) (Nat.le_of_ble_eq_true rfl) (Nat.le_of_ble_eq_true rfl) rfl rfl (sp_M_gone hD rM rS hc (Nat.zero_le _)) ?_
    refine go_iload d_M_give_35 rfl ?_
    refine go_iconst (v := 1) d_M_give_37 (by decide) ?_
    refine go_isub d_M_give_38 ?_
    refine go_top (nI (s.tu (D.fm c) - 1)) (pk_sub (b := 1) (by omega)) ?_
    refine go_icmp_gt (tgt := 44) d_M_give_39 (by decide) (fun z => ?_) (fun z => absurd (nI_lt (show s.tu (D.fm c) - 1 < gnM D s c 0 by omega) (by omega)) z)
    refine go_iload d_M_give_44 rfl ?_
    refine go_if_le (tgt := 69) d_M_give_46 (by decide) (fun z => absurd z (nI_nle (by omega) (by omega))) (fun z => ?_)
    refine go_aload_n d_M_give_49 rfl ?_
    refine go_iload_n d_M_give_50 rfl ?_
    refine go_aload_n d_M_give_51 rfl ?_
    refine go_iload_n d_M_give_52 rfl ?_
    refine go_iconst (v := 0) d_M_give_53 (by decide) ?_
    refine go_iload d_M_give_54 rfl ?_
    refine go_iconst (v := 1) d_M_give_56 (by decide) ?_
    refine go_isub d_M_give_57 ?_
    refine go_top (nI (s.tu (D.fm c) - 1)) (pk_sub (b := 1) (by omega)) ?_
    refine go_callV (k2 := m_M_goneAt) (As := [.int (nI c), .int (nI 0), .int (nI (s.tu (D.fm c) - 1))]) (r := some (.int (nI (goA D t c 0 (s.tu (D.fm c) - 1))))) d_M_give_58 ok_M_goneAt (Nat.le_of_ble_eq_true rfl) rfl pc_M rfl vl_M_160 rfl rfl (Nat.le_of_ble_eq_true rfl) (Nat.le_of_ble_eq_true rfl) (Nat.le_of_ble_eq_true rfl) (Nat.le_of_ble_eq_true rfl) rfl rfl (sp_M_goneAt hD rM rS hc (Nat.zero_le _) (by omega) (by omega)) ?_
    refine go_iconst (v := 1) d_M_give_61 (by decide) ?_
    refine go_iadd d_M_give_62 ?_
    refine go_top (nI (goA D t c 0 (s.tu (D.fm c) - 1) + 1)) (nI_1 _) ?_
    refine go_callV (k2 := m_M_later) (As := [.int (nI R), .int (nI (goA D t c 0 (s.tu (D.fm c) - 1) + 1))]) (r := some (.int (nI (max R (goA D t c 0 (s.tu (D.fm c) - 1) + 1))))) d_M_give_63 ok_M_later (Nat.le_of_ble_eq_true rfl) rfl pc_M rfl vl_M_157 rfl rfl (Nat.le_of_ble_eq_true rfl) (Nat.le_of_ble_eq_true rfl) (Nat.le_of_ble_eq_true rfl) (Nat.le_of_ble_eq_true rfl) rfl rfl (sp_laterN (by omega) (by omega)) ?_
    refine go_goto (tgt := 70) d_M_give_66 (by decide) ?_
    refine go_istore d_M_give_70 (Nat.le_of_ble_eq_true rfl) rfl ?_
    exact ho
theorem gvA_b {R c k : Nat} (hB : TB s t) (hR : R ≤ 1001) : gvA D t R c k ≤ 1001 := by
  have hgo := hB.gob (D := D) (c := c) (b := 0) (k := k - 1)
  unfold gvA
  split <;> omega
theorem sp_M_giveN {c R T : Nat} (hD : DW D) (rM : RMD I D) (rS : RMS I D s t) (hN : NB D s) (hB : TB s t) (hc : c < D.nc) (hR : R ≤ 1001) (hT : T < 1000) (h : ¬ (s.ga c ≤ s.tu (D.fm c) ∧ s.tu (D.fm c) ≤ gnM D s c 0 ∧ gvA D t R c (s.tu (D.fm c)) ≤ T)) : pm_Go (d + 2) m_M_give 0 [some (.ref 69), some (.int (nI c)), some (.int (nI R)), some (.int (nI T)), none, none] [] 0 0 (ST I J) (.inl (some (.int 0)), ST I J) := by
  have h20 := hD.nc
  have h10 := hD.nb
  have hf := (hD.ch c hc).1
  have htu := hN.tu _ hf
  have hga := hN.ga c hc
  have hgn := hN.gn hD hc (Nat.zero_le _)
  have hgv := gvA_b (D := D) (c := c) (k := s.tu (D.fm c)) hB hR
  by_cases h1 : s.ga c ≤ s.tu (D.fm c)
  · by_cases h2 : s.tu (D.fm c) ≤ gnM D s c 0
    · refine M_give_at hD rM rS hN hB hc hR h1 h2 ?_
      have h3 : T < gvA D t R c (s.tu (D.fm c)) := by
        by_cases hh : gvA D t R c (s.tu (D.fm c)) ≤ T
        · exact absurd ⟨h1, h2, hh⟩ h
        · omega
      refine go_iload d_M_give_72 rfl ?_
      refine go_iload_n d_M_give_74 rfl ?_
      refine go_icmp_le (tgt := 80) d_M_give_75 (by decide) (fun z => absurd z (nI_ge h3 (by omega))) (fun z => ?_)
      refine go_iconst (v := 0) d_M_give_78 (by decide) ?_
      exact go_zreturn (st := []) d_M_give_79 rfl (Nat.le_of_ble_eq_true rfl) (Nat.le_of_ble_eq_true rfl) rfl (Or.inl rfl)
    · refine go_aload_n d_M_give_0 rfl ?_
      refine go_getP (j := 26) d_M_give_1 (Nat.le_of_ble_eq_true rfl) rfl pc_M (Nat.le_of_ble_eq_true rfl) rfl w_728 pt_M_26 ?_
      refine go_aload_n d_M_give_4 rfl ?_
      refine go_getP (j := 6) d_M_give_5 (Nat.le_of_ble_eq_true rfl) rfl pc_M (Nat.le_of_ble_eq_true rfl) rfl w_708 pt_M_6 ?_
      refine go_iload_n d_M_give_8 rfl ?_
      refine go_ald c (nI (D.fm c)) d_M_give_9 (Nat.le_of_ble_eq_true rfl) rfl rfl (by omega) (by decide) (rM.ch c hc).1 ?_
      refine go_ald (D.fm c) (nI (s.tu (D.fm c))) d_M_give_10 (Nat.le_of_ble_eq_true rfl) rfl rfl (by omega) (by decide) (rS.tu _ hf).1 ?_
      refine go_istore d_M_give_11 (Nat.le_of_ble_eq_true rfl) rfl ?_
      refine go_aload_n d_M_give_13 rfl ?_
      refine go_getP (j := 24) d_M_give_14 (Nat.le_of_ble_eq_true rfl) rfl pc_M (Nat.le_of_ble_eq_true rfl) rfl w_726 pt_M_24 ?_
      refine go_iload_n d_M_give_17 rfl ?_
      refine go_ald c (nI (s.ga c)) d_M_give_18 (Nat.le_of_ble_eq_true rfl) rfl rfl (by omega) (by decide) (rS.ga c hc).1 ?_
      refine go_iload d_M_give_19 rfl ?_
      refine go_icmp_gt (tgt := 42) d_M_give_21 (by decide) (fun z => absurd z (nI_nlt h1 (by omega))) (fun z => ?_)
      refine go_iload d_M_give_24 rfl ?_
      refine go_if_le (tgt := 44) d_M_give_26 (by decide) (fun z => absurd z (nI_nle (by omega) (by omega))) (fun z => ?_)
      refine go_aload_n d_M_give_29 rfl ?_
      refine go_iload_n d_M_give_30 rfl ?_
      refine go_iconst (v := 0) d_M_give_31 (by decide) ?_
      refine go_callV (k2 := m_M_gone) (As := [.int (nI c), .int (nI 0)]) (r := some (.int (nI (gnM D s c 0)))) d_M_give_32 ok_M_gone (Nat.le_of_ble_eq_true rfl) rfl pc_M rfl vl_M_150 rfl rfl (Nat.le_of_ble_eq_true rfl) (Nat.le_of_ble_eq_true rfl) (Nat.le_of_ble_eq_true rfl) (Nat.le_of_ble_eq_true rfl) rfl rfl (sp_M_gone hD rM rS hc (Nat.zero_le _)) ?_
      refine go_iload d_M_give_35 rfl ?_
      refine go_iconst (v := 1) d_M_give_37 (by decide) ?_
      refine go_isub d_M_give_38 ?_
      refine go_top (nI (s.tu (D.fm c) - 1)) (pk_sub (b := 1) (by omega)) ?_
      refine go_icmp_gt (tgt := 44) d_M_give_39 (by decide) (fun z => absurd z (nI_nlt (by omega) (by omega))) (fun z => ?_)
      refine go_iconst (v := 0) d_M_give_42 (by decide) ?_
      exact go_zreturn (st := []) d_M_give_43 rfl (Nat.le_of_ble_eq_true rfl) (Nat.le_of_ble_eq_true rfl) rfl (Or.inl rfl)
  · refine go_aload_n d_M_give_0 rfl ?_
    refine go_getP (j := 26) d_M_give_1 (Nat.le_of_ble_eq_true rfl) rfl pc_M (Nat.le_of_ble_eq_true rfl) rfl w_728 pt_M_26 ?_
    refine go_aload_n d_M_give_4 rfl ?_
    refine go_getP (j := 6) d_M_give_5 (Nat.le_of_ble_eq_true rfl) rfl pc_M (Nat.le_of_ble_eq_true rfl) rfl w_708 pt_M_6 ?_
    refine go_iload_n d_M_give_8 rfl ?_
    refine go_ald c (nI (D.fm c)) d_M_give_9 (Nat.le_of_ble_eq_true rfl) rfl rfl (by omega) (by decide) (rM.ch c hc).1 ?_
    refine go_ald (D.fm c) (nI (s.tu (D.fm c))) d_M_give_10 (Nat.le_of_ble_eq_true rfl) rfl rfl (by omega) (by decide) (rS.tu _ hf).1 ?_
    refine go_istore d_M_give_11 (Nat.le_of_ble_eq_true rfl) rfl ?_
    refine go_aload_n d_M_give_13 rfl ?_
    refine go_getP (j := 24) d_M_give_14 (Nat.le_of_ble_eq_true rfl) rfl pc_M (Nat.le_of_ble_eq_true rfl) rfl w_726 pt_M_24 ?_
    refine go_iload_n d_M_give_17 rfl ?_
    refine go_ald c (nI (s.ga c)) d_M_give_18 (Nat.le_of_ble_eq_true rfl) rfl rfl (by omega) (by decide) (rS.ga c hc).1 ?_
    refine go_iload d_M_give_19 rfl ?_
    refine go_icmp_gt (tgt := 42) d_M_give_21 (by decide) (fun z => ?_) (fun z => absurd (nI_lt (show s.tu (D.fm c) < s.ga c by omega) (by omega)) z)
    refine go_iconst (v := 0) d_M_give_42 (by decide) ?_
    exact go_zreturn (st := []) d_M_give_43 rfl (Nat.le_of_ble_eq_true rfl) (Nat.le_of_ble_eq_true rfl) rfl (Or.inl rfl)
theorem sp_M_giveY {c R T : Nat} (hD : DW D) (rM : RMD I D) (rS : RMS I D s t) (hN : NB D s) (hB : TB s t) (hc : c < D.nc) (hR : R ≤ 1001) (hT : T < 1000) (h1 : s.ga c = s.tu (D.fm c)) (h2 : s.tu (D.fm c) ≤ gnM D s c 0) (h3 : gvA D t R c (s.tu (D.fm c)) ≤ T) (h4 : t.gt c (s.tu (D.fm c)) = gvA D t R c (s.tu (D.fm c))) (h5 : s.tok c (s.tu (D.fm c) + 1) = vaM D s (D.fm c)) (h6 : ∀ x, x < D.nc → D.to x = D.fm c → s.tu (D.fm c) ≤ s.ga x) (h7 : ∀ p, p < D.ni → D.ito p = D.fm c → s.tu (D.fm c) < s.off p) : ∃ I', pm_Go (d + 2) m_M_give 0 [some (.ref 69), some (.int (nI c)), some (.int (nI R)), some (.int (nI T)), none, none] [] 0 0 (ST I J) (.inl (some (.int 1)), ST I' J) ∧ RMS I' D (gaS s c) t ∧ fr [82, 85, 86] I I' := by
  have h20 := hD.nc
  have h10 := hD.nb
  have hni := hD.ni
  have hf := (hD.ch c hc).1
  have htu := hN.tu _ hf
  have hgv := gvA_b (D := D) (c := c) (k := s.tu (D.fm c)) hB hR
  refine ⟨pm_uI (pm_uI (pm_uI I 85 (1002 * c + s.tu (D.fm c)) (nI (gvA D t R c (s.tu (D.fm c))))) 82 (1002 * c + s.tu (D.fm c) + 1) (vaM D s (D.fm c))) 86 c (nI (s.tu (D.fm c) + 1)), ?_, ?_, ((fr.uI (by decide)).tr (fr.uI (by decide))).tr (fr.uI (by decide))⟩
  · refine M_give_at hD rM rS hN hB hc hR (by omega) h2 ?_
    have rs := sp_M_result (d := d) (I := pm_uI I 85 (1002 * c + s.tu (D.fm c)) (nI (gvA D t R c (s.tu (D.fm c))))) (J := J) (j := D.fm c) (k := s.tu (D.fm c)) (sv := svM s (D.fm c)) hD (rM.fr (fr.uI (L := [85]) (by decide)) (by decide)) hf (by omega) (fun x hx ex => by
      rw [uI_ne (by decide), svM, if_pos (by omega)]
      exact rS.tk x hx _ (h6 x hx ex)) (fun p hp ep => by
      rw [uI_ne (by decide), svM, if_neg (by omega), show 20 + p - 20 = p by omega]
      exact ((rS.of p hp).2 _ (h7 p hp ep)).1)
    have rs2 : pm_Go (d + 1) m_M_result 0 [some (.ref 69), some (.int (nI (D.fm c))), some (.int (nI (s.tu (D.fm c)))), none, none, none] [] 0 0 (ST (pm_uI I 85 (1002 * c + s.tu (D.fm c)) (nI (gvA D t R c (s.tu (D.fm c))))) J) (.inl (some (.int (vaM D s (D.fm c)))), ST (pm_uI I 85 (1002 * c + s.tu (D.fm c)) (nI (gvA D t R c (s.tu (D.fm c))))) J) := rs
    refine go_iload d_M_give_72 rfl ?_
    refine go_iload_n d_M_give_74 rfl ?_
    refine go_icmp_le (tgt := 80) d_M_give_75 (by decide) (fun z => ?_) (fun z => absurd (nI_le h3 (by omega)) z)
    refine go_aload_n d_M_give_80 rfl ?_
    refine go_getP (j := 23) d_M_give_81 (Nat.le_of_ble_eq_true rfl) rfl pc_M (Nat.le_of_ble_eq_true rfl) rfl w_725 pt_M_23 ?_
    refine go_sipush (v := 1002) d_M_give_84 (by decide) ?_
    refine go_iload_n d_M_give_87 rfl ?_
    refine go_imul d_M_give_88 ?_
    refine go_top (nI (1002 * c)) (pk_mul 1002 c) ?_
    refine go_iload d_M_give_89 rfl ?_
    refine go_iadd d_M_give_91 ?_
    refine go_top (nI (1002 * c + s.tu (D.fm c))) (nI_add _ _) ?_
    refine go_iload d_M_give_92 rfl ?_
    refine go_ast (1002 * c + s.tu (D.fm c)) d_M_give_94 (Nat.le_of_ble_eq_true rfl) rfl rfl (by omega) (by decide) ?_
    refine go_aload_n d_M_give_95 rfl ?_
    refine go_getP (j := 20) d_M_give_96 (Nat.le_of_ble_eq_true rfl) rfl pc_M (Nat.le_of_ble_eq_true rfl) rfl w_722 pt_M_20 ?_
    refine go_sipush (v := 1002) d_M_give_99 (by decide) ?_
    refine go_iload_n d_M_give_102 rfl ?_
    refine go_imul d_M_give_103 ?_
    refine go_top (nI (1002 * c)) (pk_mul 1002 c) ?_
    refine go_iload d_M_give_104 rfl ?_
    refine go_iadd d_M_give_106 ?_
    refine go_top (nI (1002 * c + s.tu (D.fm c))) (nI_add _ _) ?_
    refine go_iconst (v := 1) d_M_give_107 (by decide) ?_
    refine go_iadd d_M_give_108 ?_
    refine go_top (nI (1002 * c + s.tu (D.fm c) + 1)) (nI_1 _) ?_
    refine go_aload_n d_M_give_109 rfl ?_
    refine go_aload_n d_M_give_110 rfl ?_
    refine go_getP (j := 6) d_M_give_111 (Nat.le_of_ble_eq_true rfl) rfl pc_M (Nat.le_of_ble_eq_true rfl) rfl w_708 pt_M_6 ?_
    refine go_iload_n d_M_give_114 rfl ?_
    refine go_ald c (nI (D.fm c)) d_M_give_115 (Nat.le_of_ble_eq_true rfl) rfl rfl (by omega) (by decide) (rM.ch c hc).1 ?_
    refine go_iload d_M_give_116 rfl ?_
    refine go_callV (k2 := m_M_result) (As := [.int (nI (D.fm c)), .int (nI (s.tu (D.fm c)))]) (r := some (.int (vaM D s (D.fm c)))) d_M_give_118 ok_M_result (Nat.le_of_ble_eq_true rfl) rfl pc_M rfl vl_M_167 rfl rfl (Nat.le_of_ble_eq_true rfl) (Nat.le_of_ble_eq_true rfl) (Nat.le_of_ble_eq_true rfl) (Nat.le_of_ble_eq_true rfl) rfl rfl rs2 ?_
    refine go_ast (1002 * c + s.tu (D.fm c) + 1) d_M_give_121 (Nat.le_of_ble_eq_true rfl) rfl rfl (by omega) (by decide) ?_
    refine go_aload_n d_M_give_122 rfl ?_
    refine go_getP (j := 24) d_M_give_123 (Nat.le_of_ble_eq_true rfl) rfl pc_M (Nat.le_of_ble_eq_true rfl) rfl w_726 pt_M_24 ?_
    refine go_iload_n d_M_give_126 rfl ?_
    refine go_iload d_M_give_127 rfl ?_
    refine go_iconst (v := 1) d_M_give_129 (by decide) ?_
    refine go_iadd d_M_give_130 ?_
    refine go_top (nI (s.tu (D.fm c) + 1)) (nI_1 _) ?_
    refine go_ast c d_M_give_131 (Nat.le_of_ble_eq_true rfl) rfl rfl (by omega) (by decide) ?_
    refine go_iconst (v := 1) d_M_give_132 (by decide) ?_
    exact go_zreturn (st := []) d_M_give_133 rfl (Nat.le_of_ble_eq_true rfl) (Nat.le_of_ble_eq_true rfl) rfl (Or.inr rfl)
  · have at1 : ∀ x y, pm_uI (pm_uI (pm_uI I 85 (1002 * c + s.tu (D.fm c)) (nI (gvA D t R c (s.tu (D.fm c))))) 82 (1002 * c + s.tu (D.fm c) + 1) (vaM D s (D.fm c))) 86 c (nI (s.tu (D.fm c) + 1)) x y = if x = 86 ∧ y = c then nI (s.tu (D.fm c) + 1) else if x = 82 ∧ y = 1002 * c + s.tu (D.fm c) + 1 then vaM D s (D.fm c) else if x = 85 ∧ y = 1002 * c + s.tu (D.fm c) then nI (gvA D t R c (s.tu (D.fm c))) else I x y := by
      intro x y
      simp only [uI_at]
    refine RMS.mk rS.T rS.st ?_ rS.lf ?_ rS.tu rS.of rS.ou
    · intro x hx k hk
      have hga := hN.ga x hx
      have hk2 : k ≤ (if x = c then s.ga c + 1 else s.ga x) := hk
      show _ = s.tok x k
      rw [at1, if_neg (by omega)]
      by_cases e : x = c ∧ k = s.tu (D.fm c) + 1
      · obtain ⟨rfl, rfl⟩ := e
        rw [if_pos ⟨rfl, by omega⟩, h5]
      · have hk3 : k ≤ s.ga x := by
          by_cases e2 : x = c
          · rw [if_pos e2] at hk2
            subst e2
            omega
          · rw [if_neg e2] at hk2
            exact hk2
        rw [if_neg (by omega), if_neg (by omega)]
        exact rS.tk x hx k hk3
    · intro x hx
      have hga := hN.ga x hx
      obtain ⟨g1, g2⟩ := rS.ga x hx
      constructor
      · show _ = nI (if x = c then s.ga c + 1 else s.ga x)
        rw [at1]
        by_cases e : x = c
        · rw [if_pos ⟨rfl, e⟩, if_pos e, h1]
        · rw [if_neg (fun z => e z.2), if_neg (by omega), if_neg (by omega), if_neg e]
          exact g1
      · intro k hk
        have hk2 : k < (if x = c then s.ga c + 1 else s.ga x) := hk
        rw [at1, if_neg (by omega), if_neg (by omega)]
        by_cases e : x = c ∧ k = s.tu (D.fm c)
        · obtain ⟨rfl, rfl⟩ := e
          rw [if_pos ⟨rfl, rfl⟩, h4]
        · have hk3 : k < s.ga x := by
            by_cases e2 : x = c
            · rw [if_pos e2] at hk2
              subst e2
              omega
            · rw [if_neg e2] at hk2
              exact hk2
          rw [if_neg (by omega)]
          exact g2 k hk3
theorem M_out_at {p R T X : Nat} {k : Int32} {out : (Option Value ⊕ String) × pm_S} (hT : T < 1000) (hp : p < 4) (hst : ∀ q, q ≤ T → I 81 q = t.sl q) (hX : X ≤ T + 1) (h1 : ∀ q, R ≤ q → q < X → bt (t.sl q) p = true) (h2 : X ≤ T → bt (t.sl X) p = false) (ho : pm_Go (d + 2) m_M_giveOut 56 [some (.ref 69), some (.int (nI p)), some (.int (nI R)), some (.int (nI T)), some (.int k), some (.int (nI X))] [] 0 0 (ST I J) out) : ∀ n a, X - a = n → R ≤ a → a ≤ X → pm_Go (d + 2) m_M_giveOut 29 [some (.ref 69), some (.int (nI p)), some (.int (nI R)), some (.int (nI T)), some (.int k), some (.int (nI a))] [] 0 0 (ST I J) out := by
  intro n
  induction n with
  | zero =>
    intro a hn hR ha
    have : a = X := by omega
    subst this
    refine go_iload d_M_giveOut_29 rfl ?_
    refine go_iload_n d_M_giveOut_31 rfl ?_
    by_cases hl : a ≤ T
    · refine go_icmp_gt (tgt := 56) d_M_giveOut_32 (by decide) (fun z => absurd z (nI_nlt hl (by omega))) (fun z => ?_)
      refine go_aload_n d_M_giveOut_35 rfl ?_
      refine go_getP (j := 19) d_M_giveOut_36 (Nat.le_of_ble_eq_true rfl) rfl pc_M (Nat.le_of_ble_eq_true rfl) rfl w_721 pt_M_19 ?_
      refine go_iload d_M_giveOut_39 rfl ?_
      refine go_ald a (t.sl a) d_M_giveOut_41 (Nat.le_of_ble_eq_true rfl) rfl rfl (by omega) (by decide) (hst a hl) ?_
      refine go_iload_n d_M_giveOut_42 rfl ?_
      refine go_ishr d_M_giveOut_43 ?_
      refine go_iconst (v := 1) d_M_giveOut_44 (by decide) ?_
      refine go_iand d_M_giveOut_45 ?_
      refine go_top 0 (by rw [bs_at _ (by omega), h2 hl]; rfl) ?_
      refine go_iconst (v := 1) d_M_giveOut_46 (by decide) ?_
      refine go_icmp_ne (tgt := 56) d_M_giveOut_47 (by decide) (fun z => ?_) (fun z => absurd z (by decide))
      exact ho
    · refine go_icmp_gt (tgt := 56) d_M_giveOut_32 (by decide) (fun z => ?_) (fun z => absurd (nI_lt (show T < a by omega) (by omega)) z)
      exact ho
  | succ n ih =>
    intro a hn hR ha
    have i1 := ih (a + 1) (by omega) (by omega) (by omega)
    refine go_iload d_M_giveOut_29 rfl ?_
    refine go_iload_n d_M_giveOut_31 rfl ?_
    refine go_icmp_gt (tgt := 56) d_M_giveOut_32 (by decide) (fun z => absurd z (nI_nlt (by omega) (by omega))) (fun z => ?_)
    refine go_aload_n d_M_giveOut_35 rfl ?_
    refine go_getP (j := 19) d_M_giveOut_36 (Nat.le_of_ble_eq_true rfl) rfl pc_M (Nat.le_of_ble_eq_true rfl) rfl w_721 pt_M_19 ?_
    refine go_iload d_M_giveOut_39 rfl ?_
    refine go_ald a (t.sl a) d_M_giveOut_41 (Nat.le_of_ble_eq_true rfl) rfl rfl (by omega) (by decide) (hst a (by omega)) ?_
    refine go_iload_n d_M_giveOut_42 rfl ?_
    refine go_ishr d_M_giveOut_43 ?_
    refine go_iconst (v := 1) d_M_giveOut_44 (by decide) ?_
    refine go_iand d_M_giveOut_45 ?_
    refine go_top 1 (by rw [bs_at _ (by omega), h1 a hR (by omega)]; rfl) ?_
    refine go_iconst (v := 1) d_M_giveOut_46 (by decide) ?_
    refine go_icmp_ne (tgt := 56) d_M_giveOut_47 (by decide) (fun z => absurd rfl z) (fun z => ?_)
    refine go_iinc (v := nI (a + 1)) d_M_giveOut_50 rfl (by first | rfl | exact nI_1 _) rfl ?_
    refine go_goto (tgt := 29) d_M_giveOut_53 (by decide) ?_
    exact i1
theorem sp_M_giveOutN {p R T : Nat} (hD : DW D) (rM : RMD I D) (rS : RMS I D s t) (hN : NB D s) (hp : p < D.no) (hR : R ≤ T) (hT : T < 1000) (hst : ∀ q, q ≤ T → I 81 q = t.sl q) (h : s.tu (D.ofm p) < s.ou p ∨ ∀ q, R ≤ q → q ≤ T → bt (t.sl q) p = true) : pm_Go (d + 2) m_M_giveOut 0 [some (.ref 69), some (.int (nI p)), some (.int (nI R)), some (.int (nI T)), none, none] [] 0 0 (ST I J) (.inl (some (.int 0)), ST I J) := by
  have h10 := hD.nb
  have hno := hD.no
  have hf := hD.ot p hp
  have htu := hN.tu _ hf
  have hou := hN.ou p hp
  refine go_aload_n d_M_giveOut_0 rfl ?_
  refine go_getP (j := 26) d_M_giveOut_1 (Nat.le_of_ble_eq_true rfl) rfl pc_M (Nat.le_of_ble_eq_true rfl) rfl w_728 pt_M_26 ?_
  refine go_aload_n d_M_giveOut_4 rfl ?_
  refine go_getP (j := 15) d_M_giveOut_5 (Nat.le_of_ble_eq_true rfl) rfl pc_M (Nat.le_of_ble_eq_true rfl) rfl w_717 pt_M_15 ?_
  refine go_iload_n d_M_giveOut_8 rfl ?_
  refine go_ald p (nI (D.ofm p)) d_M_giveOut_9 (Nat.le_of_ble_eq_true rfl) rfl rfl (by omega) (by decide) (rM.ot p hp).1 ?_
  refine go_ald (D.ofm p) (nI (s.tu (D.ofm p))) d_M_giveOut_10 (Nat.le_of_ble_eq_true rfl) rfl rfl (by omega) (by decide) (rS.tu _ hf).1 ?_
  refine go_istore d_M_giveOut_11 (Nat.le_of_ble_eq_true rfl) rfl ?_
  refine go_aload_n d_M_giveOut_13 rfl ?_
  refine go_getP (j := 32) d_M_giveOut_14 (Nat.le_of_ble_eq_true rfl) rfl pc_M (Nat.le_of_ble_eq_true rfl) rfl w_734 pt_M_32 ?_
  refine go_iload_n d_M_giveOut_17 rfl ?_
  refine go_ald p (nI (s.ou p)) d_M_giveOut_18 (Nat.le_of_ble_eq_true rfl) rfl rfl (by omega) (by decide) (rS.ou p hp).1 ?_
  refine go_iload d_M_giveOut_19 rfl ?_
  by_cases h1 : s.tu (D.ofm p) < s.ou p
  · refine go_icmp_le (tgt := 26) d_M_giveOut_21 (by decide) (fun z => absurd z (nI_ge h1 (by omega))) (fun z => ?_)
    refine go_iconst (v := 0) d_M_giveOut_24 (by decide) ?_
    exact go_zreturn (st := []) d_M_giveOut_25 rfl (Nat.le_of_ble_eq_true rfl) (Nat.le_of_ble_eq_true rfl) rfl (Or.inl rfl)
  · refine go_icmp_le (tgt := 26) d_M_giveOut_21 (by decide) (fun z => ?_) (fun z => absurd (nI_le (by omega) (by omega)) z)
    refine go_iload_n d_M_giveOut_26 rfl ?_
    refine go_istore d_M_giveOut_27 (Nat.le_of_ble_eq_true rfl) rfl ?_
    have h2 := h.resolve_left h1
    refine M_out_at (t := t) (R := R) (X := T + 1) hT (by omega) hst (Nat.le_refl _) (fun q a b => h2 q a (by omega)) (fun z => absurd z (by omega)) ?_ (T + 1 - R) R rfl (Nat.le_refl _) (by omega)
    refine go_iload d_M_giveOut_56 rfl ?_
    refine go_iload_n d_M_giveOut_58 rfl ?_
    refine go_icmp_le (tgt := 64) d_M_giveOut_59 (by decide) (fun z => absurd z (nI_ge (by omega) (by omega))) (fun z => ?_)
    refine go_iconst (v := 0) d_M_giveOut_62 (by decide) ?_
    exact go_zreturn (st := []) d_M_giveOut_63 rfl (Nat.le_of_ble_eq_true rfl) (Nat.le_of_ble_eq_true rfl) rfl (Or.inl rfl)
theorem sp_M_giveOutY {p R T X : Nat} (hD : DW D) (rM : RMD I D) (rS : RMS I D s t) (hN : NB D s) (hp : p < D.no) (hT : T < 1000) (hst : ∀ q, q ≤ T → I 81 q = t.sl q) (h1 : s.ou p = s.tu (D.ofm p)) (hR : R ≤ X) (hX : X ≤ T) (h2 : ∀ q, R ≤ q → q < X → bt (t.sl q) p = true) (h3 : bt (t.sl X) p = false) (h4 : s.ouT p (s.tu (D.ofm p)) = X) (h5 : s.ous p (s.tu (D.ofm p)) = vaM D s (D.ofm p)) (h6 : ∀ x, x < D.nc → D.to x = D.ofm p → s.tu (D.ofm p) ≤ s.ga x) (h7 : ∀ q, q < D.ni → D.ito q = D.ofm p → s.tu (D.ofm p) < s.off q) : ∃ I', pm_Go (d + 2) m_M_giveOut 0 [some (.ref 69), some (.int (nI p)), some (.int (nI R)), some (.int (nI T)), none, none] [] 0 0 (ST I J) (.inl (some (.int 1)), ST I' J) ∧ RMS I' D (ouS s p) t ∧ fr [92, 93, 94] I I' := by
  have h20 := hD.nc
  have h10 := hD.nb
  have hno := hD.no
  have hni := hD.ni
  have hf := hD.ot p hp
  have htu := hN.tu _ hf
  refine ⟨pm_uI (pm_uI (pm_uI I 93 (1002 * p + s.tu (D.ofm p)) (nI X)) 92 (1002 * p + s.tu (D.ofm p)) (vaM D s (D.ofm p))) 94 p (nI (s.tu (D.ofm p) + 1)), ?_, ?_, ((fr.uI (by decide)).tr (fr.uI (by decide))).tr (fr.uI (by decide))⟩
  · have rs := sp_M_result (d := d) (I := pm_uI I 93 (1002 * p + s.tu (D.ofm p)) (nI X)) (J := J) (j := D.ofm p) (k := s.tu (D.ofm p)) (sv := svM s (D.ofm p)) hD (rM.fr (fr.uI (L := [93]) (by decide)) (by decide)) hf (by omega) (fun x hx ex => by
      rw [uI_ne (by decide), svM, if_pos (by omega)]
      exact rS.tk x hx _ (h6 x hx ex)) (fun q hq eq => by
      rw [uI_ne (by decide), svM, if_neg (by omega), show 20 + q - 20 = q by omega]
      exact ((rS.of q hq).2 _ (h7 q hq eq)).1)
    have rs2 : pm_Go (d + 1) m_M_result 0 [some (.ref 69), some (.int (nI (D.ofm p))), some (.int (nI (s.tu (D.ofm p)))), none, none, none] [] 0 0 (ST (pm_uI I 93 (1002 * p + s.tu (D.ofm p)) (nI X)) J) (.inl (some (.int (vaM D s (D.ofm p)))), ST (pm_uI I 93 (1002 * p + s.tu (D.ofm p)) (nI X)) J) := rs
    refine go_aload_n d_M_giveOut_0 rfl ?_
    refine go_getP (j := 26) d_M_giveOut_1 (Nat.le_of_ble_eq_true rfl) rfl pc_M (Nat.le_of_ble_eq_true rfl) rfl w_728 pt_M_26 ?_
    refine go_aload_n d_M_giveOut_4 rfl ?_
    refine go_getP (j := 15) d_M_giveOut_5 (Nat.le_of_ble_eq_true rfl) rfl pc_M (Nat.le_of_ble_eq_true rfl) rfl w_717 pt_M_15 ?_
    refine go_iload_n d_M_giveOut_8 rfl ?_
    refine go_ald p (nI (D.ofm p)) d_M_giveOut_9 (Nat.le_of_ble_eq_true rfl) rfl rfl (by omega) (by decide) (rM.ot p hp).1 ?_
    refine go_ald (D.ofm p) (nI (s.tu (D.ofm p))) d_M_giveOut_10 (Nat.le_of_ble_eq_true rfl) rfl rfl (by omega) (by decide) (rS.tu _ hf).1 ?_
    refine go_istore d_M_giveOut_11 (Nat.le_of_ble_eq_true rfl) rfl ?_
    refine go_aload_n d_M_giveOut_13 rfl ?_
    refine go_getP (j := 32) d_M_giveOut_14 (Nat.le_of_ble_eq_true rfl) rfl pc_M (Nat.le_of_ble_eq_true rfl) rfl w_734 pt_M_32 ?_
    refine go_iload_n d_M_giveOut_17 rfl ?_
    refine go_ald p (nI (s.ou p)) d_M_giveOut_18 (Nat.le_of_ble_eq_true rfl) rfl rfl (by omega) (by decide) (rS.ou p hp).1 ?_
    refine go_iload d_M_giveOut_19 rfl ?_
    refine go_icmp_le (tgt := 26) d_M_giveOut_21 (by decide) (fun z => ?_) (fun z => absurd (nI_le (by omega) (by omega)) z)
    refine go_iload_n d_M_giveOut_26 rfl ?_
    refine go_istore d_M_giveOut_27 (Nat.le_of_ble_eq_true rfl) rfl ?_
    refine M_out_at (t := t) (R := R) (X := X) hT (by omega) hst (by omega) h2 (fun _ => h3) ?_ (X - R) R rfl (Nat.le_refl _) hR
    refine go_iload d_M_giveOut_56 rfl ?_
    refine go_iload_n d_M_giveOut_58 rfl ?_
    refine go_icmp_le (tgt := 64) d_M_giveOut_59 (by decide) (fun z => ?_) (fun z => absurd (nI_le hX (by omega)) z)
    refine go_aload_n d_M_giveOut_64 rfl ?_
    refine go_getP (j := 31) d_M_giveOut_65 (Nat.le_of_ble_eq_true rfl) rfl pc_M (Nat.le_of_ble_eq_true rfl) rfl w_733 pt_M_31 ?_
    refine go_sipush (v := 1002) d_M_giveOut_68 (by decide) ?_
    refine go_iload_n d_M_giveOut_71 rfl ?_
    refine go_imul d_M_giveOut_72 ?_
    refine go_top (nI (1002 * p)) (pk_mul 1002 p) ?_
    refine go_iload d_M_giveOut_73 rfl ?_
    refine go_iadd d_M_giveOut_75 ?_
    refine go_top (nI (1002 * p + s.tu (D.ofm p))) (nI_add _ _) ?_
    refine go_iload d_M_giveOut_76 rfl ?_
    refine go_ast (1002 * p + s.tu (D.ofm p)) d_M_giveOut_78 (Nat.le_of_ble_eq_true rfl) rfl rfl (by omega) (by decide) ?_
    refine go_aload_n d_M_giveOut_79 rfl ?_
    refine go_getP (j := 30) d_M_giveOut_80 (Nat.le_of_ble_eq_true rfl) rfl pc_M (Nat.le_of_ble_eq_true rfl) rfl w_732 pt_M_30 ?_
    refine go_sipush (v := 1002) d_M_giveOut_83 (by decide) ?_
    refine go_iload_n d_M_giveOut_86 rfl ?_
    refine go_imul d_M_giveOut_87 ?_
    refine go_top (nI (1002 * p)) (pk_mul 1002 p) ?_
    refine go_iload d_M_giveOut_88 rfl ?_
    refine go_iadd d_M_giveOut_90 ?_
    refine go_top (nI (1002 * p + s.tu (D.ofm p))) (nI_add _ _) ?_
    refine go_aload_n d_M_giveOut_91 rfl ?_
    refine go_aload_n d_M_giveOut_92 rfl ?_
    refine go_getP (j := 15) d_M_giveOut_93 (Nat.le_of_ble_eq_true rfl) rfl pc_M (Nat.le_of_ble_eq_true rfl) rfl w_717 pt_M_15 ?_
    refine go_iload_n d_M_giveOut_96 rfl ?_
    refine go_ald p (nI (D.ofm p)) d_M_giveOut_97 (Nat.le_of_ble_eq_true rfl) rfl rfl (by omega) (by decide) (rM.ot p hp).1 ?_
    refine go_iload d_M_giveOut_98 rfl ?_
    refine go_callV (k2 := m_M_result) (As := [.int (nI (D.ofm p)), .int (nI (s.tu (D.ofm p)))]) (r := some (.int (vaM D s (D.ofm p)))) d_M_giveOut_100 ok_M_result (Nat.le_of_ble_eq_true rfl) rfl pc_M rfl vl_M_167 rfl rfl (Nat.le_of_ble_eq_true rfl) (Nat.le_of_ble_eq_true rfl) (Nat.le_of_ble_eq_true rfl) (Nat.le_of_ble_eq_true rfl) rfl rfl rs2 ?_
    refine go_ast (1002 * p + s.tu (D.ofm p)) d_M_giveOut_103 (Nat.le_of_ble_eq_true rfl) rfl rfl (by omega) (by decide) ?_
    refine go_aload_n d_M_giveOut_104 rfl ?_
    refine go_getP (j := 32) d_M_giveOut_105 (Nat.le_of_ble_eq_true rfl) rfl pc_M (Nat.le_of_ble_eq_true rfl) rfl w_734 pt_M_32 ?_
    refine go_iload_n d_M_giveOut_108 rfl ?_
    refine go_iload d_M_giveOut_109 rfl ?_
    refine go_iconst (v := 1) d_M_giveOut_111 (by decide) ?_
    refine go_iadd d_M_giveOut_112 ?_
    refine go_top (nI (s.tu (D.ofm p) + 1)) (nI_1 _) ?_
    refine go_ast p d_M_giveOut_113 (Nat.le_of_ble_eq_true rfl) rfl rfl (by omega) (by decide) ?_
    refine go_iconst (v := 1) d_M_giveOut_114 (by decide) ?_
    exact go_zreturn (st := []) d_M_giveOut_115 rfl (Nat.le_of_ble_eq_true rfl) (Nat.le_of_ble_eq_true rfl) rfl (Or.inr rfl)
  · have at1 : ∀ x y, pm_uI (pm_uI (pm_uI I 93 (1002 * p + s.tu (D.ofm p)) (nI X)) 92 (1002 * p + s.tu (D.ofm p)) (vaM D s (D.ofm p))) 94 p (nI (s.tu (D.ofm p) + 1)) x y = if x = 94 ∧ y = p then nI (s.tu (D.ofm p) + 1) else if x = 92 ∧ y = 1002 * p + s.tu (D.ofm p) then vaM D s (D.ofm p) else if x = 93 ∧ y = 1002 * p + s.tu (D.ofm p) then nI X else I x y := by
      intro x y
      simp only [uI_at]
    refine RMS.mk rS.T rS.st rS.tk rS.lf rS.ga rS.tu rS.of ?_
    intro x hx
    have hou := hN.ou x hx
    obtain ⟨g1, g2⟩ := rS.ou x hx
    constructor
    · show _ = nI (if x = p then s.ou p + 1 else s.ou x)
      rw [at1]
      by_cases e : x = p
      · rw [if_pos ⟨rfl, e⟩, if_pos e, h1]
      · rw [if_neg (fun z => e z.2), if_neg (by omega), if_neg (by omega), if_neg e]
        exact g1
    · intro k hk
      have hk2 : k < (if x = p then s.ou p + 1 else s.ou x) := hk
      show _ = s.ous x k ∧ _ = nI (s.ouT x k)
      rw [at1, at1]
      by_cases e : x = p ∧ k = s.tu (D.ofm p)
      · obtain ⟨rfl, rfl⟩ := e
        rw [if_neg (by omega), if_pos ⟨rfl, rfl⟩, if_neg (by omega), if_neg (by omega), if_pos ⟨rfl, rfl⟩, h4, h5]
        exact ⟨rfl, rfl⟩
      · have hk3 : k < s.ou x := by
          by_cases e2 : x = p
          · rw [if_pos e2] at hk2
            subst e2
            omega
          · rw [if_neg e2] at hk2
            exact hk2
        rw [if_neg (by omega), if_neg (by omega), if_neg (by omega), if_neg (by omega), if_neg (by omega), if_neg (by omega)]
        exact g2 k hk3
end S38
