/-! the face: what changes the design; runs; by the clock -/
def rnM (D : DZ) (stl : Int32) (s : MS) : Nat → MS
  | 0 => s
  | k + 1 => stepM D (rnM D stl s k) stl
def leM (D : DZ) (s : MS) : Nat := fo (fun a p => if s.tu (D.ito p) < a then s.tu (D.ito p) else a) 1000 D.ni
theorem le_fo {tn : Nat → Nat} {k : Nat} : ∀ n, k < fo (fun a p => if tn p < a then tn p else a) 1000 n ↔ (k < 1000 ∧ ∀ p, p < n → k < tn p)
  | 0 => by
    show k < 1000 ↔ _
    constructor
    · intro h; exact ⟨h, fun p hp => absurd hp (Nat.not_lt_zero _)⟩
    · intro h; exact h.1
  | n + 1 => by
    have ih := le_fo (tn := tn) (k := k) n
    show k < (if tn n < fo (fun a p => if tn p < a then tn p else a) 1000 n then tn n else fo (fun a p => if tn p < a then tn p else a) 1000 n) ↔ _
    constructor
    · intro h
      have h2 : k < fo (fun a p => if tn p < a then tn p else a) 1000 n ∧ k < tn n := by
        split at h <;> omega
      refine ⟨(ih.mp h2.1).1, fun p hp => ?_⟩
      by_cases e : p = n
      · rw [e]; exact h2.2
      · exact (ih.mp h2.1).2 p (by omega)
    · intro h
      have h1 := ih.mpr ⟨h.1, fun p hp => h.2 p (by omega)⟩
      have h2 := h.2 n (by omega)
      split <;> omega
section S20
variable {d : Nat} {I : Nat → Nat → Int32} {J : Nat → Nat → Int64} {D : DZ} {s : MS} {cy : Nat}
theorem rn_T {stl : Int32} : ∀ k, (rnM D stl s k).T = s.T + k
  | 0 => rfl
  | k + 1 => by
    show (rnM D stl s k).T + 1 = _
    rw [rn_T k]
    omega
theorem MI_rn {stl : Int32} (hD : DW D) (hM : MI D s) : ∀ k, s.T + k ≤ 1000 → MI D (rnM D stl s k)
  | 0, _ => hM
  | k + 1, h => MI_step hD (MI_rn hD hM k (by omega)) (by rw [rn_T]; omega)
theorem RK_rn {stl : Int32} (hD : DW D) (rK : RK I D s cy) : ∀ k, RK I D (rnM D stl s k) cy
  | 0 => rK
  | k + 1 => (RK_rn hD rK k).stp hD
theorem sp_block_X2 {a b : Int32} (h : I 0 4 = 0) (hx : ¬ okN a 5) : pm_Go 9 m_E_block 0 [some (.ref 0), some (.int a), some (.int b)] [] 0 0 (ST I J) (.inr "java/lang/IllegalArgumentException", ST I J) := by
  refine go_aload_n d_E_block_0 rfl ?_
  refine go_callV (k2 := m_E_mustNotBeBuilt) (As := []) (r := none) d_E_block_1 ok_E_mustNotBeBuilt (Nat.le_of_ble_eq_true rfl) rfl pc_E rfl vl_E_49 rfl rfl (Nat.le_of_ble_eq_true rfl) (Nat.le_of_ble_eq_true rfl) (Nat.le_of_ble_eq_true rfl) (Nat.le_of_ble_eq_true rfl) rfl rfl (sp_mustNotBeBuiltY h) ?_
  refine go_iload_n d_E_block_4 rfl ?_
  by_cases h1 : a < 0
  · refine go_if_lt (tgt := 13) d_E_block_5 (by decide) (fun z => ?_) (fun z => absurd h1 z)
    exact go_throwS d_E_block_13 d_E_block_16 d_E_block_17 d_E_block_19 d_E_block_22 tw_op rfl (by decide) (by decide) (Nat.le_of_ble_eq_true rfl) (Nat.le_of_ble_eq_true rfl) rfl
  · refine go_if_lt (tgt := 13) d_E_block_5 (by decide) (fun z => absurd z h1) (fun z => ?_)
    refine go_iload_n d_E_block_8 rfl ?_
    refine go_iconst (v := 4) d_E_block_9 (by decide) ?_
    obtain ⟨j, hj, e⟩ := nI_of h1
    have hj5 : 5 ≤ j := by
      by_cases hl : j < 5
      · exact absurd ⟨j, hl, e⟩ hx
      · omega
    refine go_icmp_le (tgt := 23) d_E_block_10 (by decide) (fun z => absurd z (by rw [e]; exact nI_ge (a := 4) (by omega) hj)) (fun z => ?_)
    exact go_throwS d_E_block_13 d_E_block_16 d_E_block_17 d_E_block_19 d_E_block_22 tw_op rfl (by decide) (by decide) (Nat.le_of_ble_eq_true rfl) (Nat.le_of_ble_eq_true rfl) rfl
theorem sp_blockY {o : Nat} {b : Int32} (h : I 0 4 = 0) (rD : RD I D) (ho : o < 5) (hn : D.nb < 10) : pm_Go 9 m_E_block 0 [some (.ref 0), some (.int (nI o)), some (.int b)] [] 0 0 (ST I J) (.inl (some (.int (nI D.nb))), ST (pm_uI (pm_uI (pm_uI (pm_uI (pm_uI I 2 D.nb (nI o)) 3 D.nb b) 20 D.nb 0) 32 D.nb 0) 1 0 (nI (D.nb + 1))) J) := by
  refine go_aload_n d_E_block_0 rfl ?_
  refine go_callV (k2 := m_E_mustNotBeBuilt) (As := []) (r := none) d_E_block_1 ok_E_mustNotBeBuilt (Nat.le_of_ble_eq_true rfl) rfl pc_E rfl vl_E_49 rfl rfl (Nat.le_of_ble_eq_true rfl) (Nat.le_of_ble_eq_true rfl) (Nat.le_of_ble_eq_true rfl) (Nat.le_of_ble_eq_true rfl) rfl rfl (sp_mustNotBeBuiltY h) ?_
  refine go_iload_n d_E_block_4 rfl ?_
  refine go_if_lt (tgt := 13) d_E_block_5 (by decide) (fun z => absurd z (nI_pos (by omega))) (fun z => ?_)
  refine go_iload_n d_E_block_8 rfl ?_
  refine go_iconst (v := 4) d_E_block_9 (by decide) ?_
  refine go_icmp_le (tgt := 23) d_E_block_10 (by decide) (fun z => ?_) (fun z => absurd (nI_le (b := 4) (by omega) (by decide)) z)
  refine go_aload_n d_E_block_23 rfl ?_
  refine go_getP (j := 0) d_E_block_24 (Nat.le_of_ble_eq_true rfl) rfl pc_E (Nat.le_of_ble_eq_true rfl) rfl w_239 pt_E_0 ?_
  refine go_iload_n d_E_block_27 rfl ?_
  refine go_iload_n d_E_block_28 rfl ?_
  refine go_callV (k2 := m_D_addBlock) (As := [.int (nI o), .int b]) (r := some (.int (nI D.nb))) d_E_block_29 ok_D_addBlock (Nat.le_of_ble_eq_true rfl) rfl pc_D rfl vl_E_59 rfl rfl (Nat.le_of_ble_eq_true rfl) (Nat.le_of_ble_eq_true rfl) (Nat.le_of_ble_eq_true rfl) (Nat.le_of_ble_eq_true rfl) rfl rfl (sp_addBlock rD.nb hn) ?_
  exact go_ireturn (st := []) d_E_block_32 rfl (Nat.le_of_ble_eq_true rfl) (Nat.le_of_ble_eq_true rfl) rfl
theorem sp_blockN {o : Nat} {b : Int32} (h : I 0 4 = 0) (ho : o < 5) (hn : I 1 0 = nI 10) : pm_Go 9 m_E_block 0 [some (.ref 0), some (.int (nI o)), some (.int b)] [] 0 0 (ST I J) (.inl (some (.int (-1))), ST I J) := by
  refine go_aload_n d_E_block_0 rfl ?_
  refine go_callV (k2 := m_E_mustNotBeBuilt) (As := []) (r := none) d_E_block_1 ok_E_mustNotBeBuilt (Nat.le_of_ble_eq_true rfl) rfl pc_E rfl vl_E_49 rfl rfl (Nat.le_of_ble_eq_true rfl) (Nat.le_of_ble_eq_true rfl) (Nat.le_of_ble_eq_true rfl) (Nat.le_of_ble_eq_true rfl) rfl rfl (sp_mustNotBeBuiltY h) ?_
  refine go_iload_n d_E_block_4 rfl ?_
  refine go_if_lt (tgt := 13) d_E_block_5 (by decide) (fun z => absurd z (nI_pos (by omega))) (fun z => ?_)
  refine go_iload_n d_E_block_8 rfl ?_
  refine go_iconst (v := 4) d_E_block_9 (by decide) ?_
  refine go_icmp_le (tgt := 23) d_E_block_10 (by decide) (fun z => ?_) (fun z => absurd (nI_le (b := 4) (by omega) (by decide)) z)
  refine go_aload_n d_E_block_23 rfl ?_
  refine go_getP (j := 0) d_E_block_24 (Nat.le_of_ble_eq_true rfl) rfl pc_E (Nat.le_of_ble_eq_true rfl) rfl w_239 pt_E_0 ?_
  refine go_iload_n d_E_block_27 rfl ?_
  refine go_iload_n d_E_block_28 rfl ?_
  refine go_callV (k2 := m_D_addBlock) (As := [.int (nI o), .int b]) (r := some (.int (-1))) d_E_block_29 ok_D_addBlock (Nat.le_of_ble_eq_true rfl) rfl pc_D rfl vl_E_59 rfl rfl (Nat.le_of_ble_eq_true rfl) (Nat.le_of_ble_eq_true rfl) (Nat.le_of_ble_eq_true rfl) (Nat.le_of_ble_eq_true rfl) rfl rfl (sp_addBlockN hn) ?_
  exact go_ireturn (st := []) d_E_block_32 rfl (Nat.le_of_ble_eq_true rfl) (Nat.le_of_ble_eq_true rfl) rfl
theorem sp_channelY {f t : Nat} {v : Int32} (h : I 0 4 = 0) (hD : DW D) (rD : RD I D) (hf : f < D.nb) (ht : t < D.nb) (hn : D.nc < 20) : ∃ I', pm_Go 9 m_E_channel 0 [some (.ref 0), some (.int (nI f)), some (.int (nI t)), some (.int v)] [] 0 0 (ST I J) (.inl (some (.int (nI D.nc))), ST I' J) ∧ RD I' (chD D f t v) ∧ fr [1, 4, 5, 6, 7, 10, 11, 12, 13, 14, 15, 16, 17, 18, 19, 20, 22, 23, 24, 25, 26, 27, 28, 29, 30, 31, 32] I I' := by
  have hb10 := hD.nb
  have l1 : (brL D f).length < 24 := by
    have := brL_len (DW_ch (v := v) hD hn hf ht) f
    rw [brL_ch hD hn, if_pos rfl, List.length_append, List.length_singleton] at this
    omega
  have l2 : (inL D t).length < 24 := by
    have := inL_len (DW_ch (v := v) hD hn hf ht) t
    rw [inL_ch hD hn, if_pos rfl, List.length_append, List.length_singleton] at this
    omega
  refine ⟨_, ?_, RD_ch (v := v) hD rD hn hf ht, ?_⟩
  · refine go_aload_n d_E_channel_0 rfl ?_
    refine go_callV (k2 := m_E_mustNotBeBuilt) (As := []) (r := none) d_E_channel_1 ok_E_mustNotBeBuilt (Nat.le_of_ble_eq_true rfl) rfl pc_E rfl vl_E_49 rfl rfl (Nat.le_of_ble_eq_true rfl) (Nat.le_of_ble_eq_true rfl) (Nat.le_of_ble_eq_true rfl) (Nat.le_of_ble_eq_true rfl) rfl rfl (sp_mustNotBeBuiltY h) ?_
    refine go_aload_n d_E_channel_4 rfl ?_
    refine go_getP (j := 0) d_E_channel_5 (Nat.le_of_ble_eq_true rfl) rfl pc_E (Nat.le_of_ble_eq_true rfl) rfl w_239 pt_E_0 ?_
    refine go_gI (j := 0) (nI D.nb) d_E_channel_8 (Nat.le_of_ble_eq_true rfl) rfl pc_D (Nat.le_of_ble_eq_true rfl) (by decide) w_33 rD.nb ?_
    refine go_iload_n d_E_channel_11 rfl ?_
    refine go_callS (k2 := m_E_mustBeOneOf) (As := [.int (nI D.nb), .int (nI f)]) (r := none) d_E_channel_12 ok_E_mustBeOneOf sl_E_67 rfl rfl (Nat.le_of_ble_eq_true rfl) (Nat.le_of_ble_eq_true rfl) (Nat.le_of_ble_eq_true rfl) (Nat.le_of_ble_eq_true rfl) rfl rfl (sp_mustBeOneOfY (by omega) hf) ?_
    refine go_aload_n d_E_channel_15 rfl ?_
    refine go_getP (j := 0) d_E_channel_16 (Nat.le_of_ble_eq_true rfl) rfl pc_E (Nat.le_of_ble_eq_true rfl) rfl w_239 pt_E_0 ?_
    refine go_gI (j := 0) (nI D.nb) d_E_channel_19 (Nat.le_of_ble_eq_true rfl) rfl pc_D (Nat.le_of_ble_eq_true rfl) (by decide) w_33 rD.nb ?_
    refine go_iload_n d_E_channel_22 rfl ?_
    refine go_callS (k2 := m_E_mustBeOneOf) (As := [.int (nI D.nb), .int (nI t)]) (r := none) d_E_channel_23 ok_E_mustBeOneOf sl_E_67 rfl rfl (Nat.le_of_ble_eq_true rfl) (Nat.le_of_ble_eq_true rfl) (Nat.le_of_ble_eq_true rfl) (Nat.le_of_ble_eq_true rfl) rfl rfl (sp_mustBeOneOfY (by omega) ht) ?_
    refine go_aload_n d_E_channel_26 rfl ?_
    refine go_getP (j := 0) d_E_channel_27 (Nat.le_of_ble_eq_true rfl) rfl pc_E (Nat.le_of_ble_eq_true rfl) rfl w_239 pt_E_0 ?_
    refine go_iload_n d_E_channel_30 rfl ?_
    refine go_iload_n d_E_channel_31 rfl ?_
    refine go_iload_n d_E_channel_32 rfl ?_
    refine go_callV (k2 := m_D_addChannel) (As := [.int (nI f), .int (nI t), .int v]) (r := some (.int (nI D.nc))) d_E_channel_33 ok_D_addChannel (Nat.le_of_ble_eq_true rfl) rfl pc_D rfl vl_E_71 rfl rfl (Nat.le_of_ble_eq_true rfl) (Nat.le_of_ble_eq_true rfl) (Nat.le_of_ble_eq_true rfl) (Nat.le_of_ble_eq_true rfl) rfl rfl (sp_addChannel rD.nc hn (by omega) (by omega) (rD.brn f hf).1 l1 (rD.inn t ht).1 l2) ?_
    exact go_ireturn (st := []) d_E_channel_36 rfl (Nat.le_of_ble_eq_true rfl) (Nat.le_of_ble_eq_true rfl) rfl
  · exact ((((((((fr.uI (by simp)).tr (fr.uI (by simp))).tr (fr.uI (by simp))).tr (fr.uI (by simp))).tr (fr.uI (by simp; omega))).tr (fr.uI (by simp))).tr (fr.uI (by simp; omega))).tr (fr.uI (by simp))).tr (fr.uI (by simp))
theorem sp_channelN {f t : Nat} {v : Int32} (h : I 0 4 = 0) (hD : DW D) (rD : RD I D) (hf : f < D.nb) (ht : t < D.nb) (hn : D.nc = 20) : pm_Go 9 m_E_channel 0 [some (.ref 0), some (.int (nI f)), some (.int (nI t)), some (.int v)] [] 0 0 (ST I J) (.inl (some (.int (-1))), ST I J) := by
  have hb10 := hD.nb
  have hc := rD.nc
  rw [hn] at hc
  refine go_aload_n d_E_channel_0 rfl ?_
  refine go_callV (k2 := m_E_mustNotBeBuilt) (As := []) (r := none) d_E_channel_1 ok_E_mustNotBeBuilt (Nat.le_of_ble_eq_true rfl) rfl pc_E rfl vl_E_49 rfl rfl (Nat.le_of_ble_eq_true rfl) (Nat.le_of_ble_eq_true rfl) (Nat.le_of_ble_eq_true rfl) (Nat.le_of_ble_eq_true rfl) rfl rfl (sp_mustNotBeBuiltY h) ?_
  refine go_aload_n d_E_channel_4 rfl ?_
  refine go_getP (j := 0) d_E_channel_5 (Nat.le_of_ble_eq_true rfl) rfl pc_E (Nat.le_of_ble_eq_true rfl) rfl w_239 pt_E_0 ?_
  refine go_gI (j := 0) (nI D.nb) d_E_channel_8 (Nat.le_of_ble_eq_true rfl) rfl pc_D (Nat.le_of_ble_eq_true rfl) (by decide) w_33 rD.nb ?_
  refine go_iload_n d_E_channel_11 rfl ?_
  refine go_callS (k2 := m_E_mustBeOneOf) (As := [.int (nI D.nb), .int (nI f)]) (r := none) d_E_channel_12 ok_E_mustBeOneOf sl_E_67 rfl rfl (Nat.le_of_ble_eq_true rfl) (Nat.le_of_ble_eq_true rfl) (Nat.le_of_ble_eq_true rfl) (Nat.le_of_ble_eq_true rfl) rfl rfl (sp_mustBeOneOfY (by omega) hf) ?_
  refine go_aload_n d_E_channel_15 rfl ?_
  refine go_getP (j := 0) d_E_channel_16 (Nat.le_of_ble_eq_true rfl) rfl pc_E (Nat.le_of_ble_eq_true rfl) rfl w_239 pt_E_0 ?_
  refine go_gI (j := 0) (nI D.nb) d_E_channel_19 (Nat.le_of_ble_eq_true rfl) rfl pc_D (Nat.le_of_ble_eq_true rfl) (by decide) w_33 rD.nb ?_
  refine go_iload_n d_E_channel_22 rfl ?_
  refine go_callS (k2 := m_E_mustBeOneOf) (As := [.int (nI D.nb), .int (nI t)]) (r := none) d_E_channel_23 ok_E_mustBeOneOf sl_E_67 rfl rfl (Nat.le_of_ble_eq_true rfl) (Nat.le_of_ble_eq_true rfl) (Nat.le_of_ble_eq_true rfl) (Nat.le_of_ble_eq_true rfl) rfl rfl (sp_mustBeOneOfY (by omega) ht) ?_
  refine go_aload_n d_E_channel_26 rfl ?_
  refine go_getP (j := 0) d_E_channel_27 (Nat.le_of_ble_eq_true rfl) rfl pc_E (Nat.le_of_ble_eq_true rfl) rfl w_239 pt_E_0 ?_
  refine go_iload_n d_E_channel_30 rfl ?_
  refine go_iload_n d_E_channel_31 rfl ?_
  refine go_iload_n d_E_channel_32 rfl ?_
  refine go_callV (k2 := m_D_addChannel) (As := [.int (nI f), .int (nI t), .int v]) (r := some (.int (-1))) d_E_channel_33 ok_D_addChannel (Nat.le_of_ble_eq_true rfl) rfl pc_D rfl vl_E_71 rfl rfl (Nat.le_of_ble_eq_true rfl) (Nat.le_of_ble_eq_true rfl) (Nat.le_of_ble_eq_true rfl) (Nat.le_of_ble_eq_true rfl) rfl rfl (sp_addChannelN hc) ?_
  exact go_ireturn (st := []) d_E_channel_36 rfl (Nat.le_of_ble_eq_true rfl) (Nat.le_of_ble_eq_true rfl) rfl
theorem sp_inputY {t : Nat} (h : I 0 4 = 0) (hD : DW D) (rD : RD I D) (ht : t < D.nb) (hn : D.ni < 4) : ∃ I', pm_Go 9 m_E_input 0 [some (.ref 0), some (.int (nI t))] [] 0 0 (ST I J) (.inl (some (.int (nI D.ni))), ST I' J) ∧ RD I' (inD D t) ∧ fr [1, 10, 11, 12, 13, 14, 15, 16, 17, 18, 19, 20] I I' := by
  have hb10 := hD.nb
  have l2 : (inL D t).length < 24 := by
    have := inL_len (DW_in hD hn ht) t
    rw [inL_in hD hn, if_pos rfl, List.length_append, List.length_singleton] at this
    omega
  refine ⟨_, ?_, RD_in hD rD hn ht, ?_⟩
  · refine go_aload_n d_E_input_0 rfl ?_
    refine go_callV (k2 := m_E_mustNotBeBuilt) (As := []) (r := none) d_E_input_1 ok_E_mustNotBeBuilt (Nat.le_of_ble_eq_true rfl) rfl pc_E rfl vl_E_49 rfl rfl (Nat.le_of_ble_eq_true rfl) (Nat.le_of_ble_eq_true rfl) (Nat.le_of_ble_eq_true rfl) (Nat.le_of_ble_eq_true rfl) rfl rfl (sp_mustNotBeBuiltY h) ?_
    refine go_aload_n d_E_input_4 rfl ?_
    refine go_getP (j := 0) d_E_input_5 (Nat.le_of_ble_eq_true rfl) rfl pc_E (Nat.le_of_ble_eq_true rfl) rfl w_239 pt_E_0 ?_
    refine go_gI (j := 0) (nI D.nb) d_E_input_8 (Nat.le_of_ble_eq_true rfl) rfl pc_D (Nat.le_of_ble_eq_true rfl) (by decide) w_33 rD.nb ?_
    refine go_iload_n d_E_input_11 rfl ?_
    refine go_callS (k2 := m_E_mustBeOneOf) (As := [.int (nI D.nb), .int (nI t)]) (r := none) d_E_input_12 ok_E_mustBeOneOf sl_E_67 rfl rfl (Nat.le_of_ble_eq_true rfl) (Nat.le_of_ble_eq_true rfl) (Nat.le_of_ble_eq_true rfl) (Nat.le_of_ble_eq_true rfl) rfl rfl (sp_mustBeOneOfY (by omega) ht) ?_
    refine go_aload_n d_E_input_15 rfl ?_
    refine go_getP (j := 0) d_E_input_16 (Nat.le_of_ble_eq_true rfl) rfl pc_E (Nat.le_of_ble_eq_true rfl) rfl w_239 pt_E_0 ?_
    refine go_iload_n d_E_input_19 rfl ?_
    refine go_callV (k2 := m_D_addInput) (As := [.int (nI t)]) (r := some (.int (nI D.ni))) d_E_input_20 ok_D_addInput (Nat.le_of_ble_eq_true rfl) rfl pc_D rfl vl_E_75 rfl rfl (Nat.le_of_ble_eq_true rfl) (Nat.le_of_ble_eq_true rfl) (Nat.le_of_ble_eq_true rfl) (Nat.le_of_ble_eq_true rfl) rfl rfl (sp_addInput rD.ni hn (by omega) (rD.inn t ht).1 l2) ?_
    exact go_ireturn (st := []) d_E_input_23 rfl (Nat.le_of_ble_eq_true rfl) (Nat.le_of_ble_eq_true rfl) rfl
  · exact ((fr.uI (by simp; omega)).tr (fr.uI (by simp))).tr (fr.uI (by simp))
theorem sp_inputN {t : Nat} (h : I 0 4 = 0) (hD : DW D) (rD : RD I D) (ht : t < D.nb) (hn : D.ni = 4) : pm_Go 9 m_E_input 0 [some (.ref 0), some (.int (nI t))] [] 0 0 (ST I J) (.inl (some (.int (-1))), ST I J) := by
  have hb10 := hD.nb
  have hc := rD.ni
  rw [hn] at hc
  refine go_aload_n d_E_input_0 rfl ?_
  refine go_callV (k2 := m_E_mustNotBeBuilt) (As := []) (r := none) d_E_input_1 ok_E_mustNotBeBuilt (Nat.le_of_ble_eq_true rfl) rfl pc_E rfl vl_E_49 rfl rfl (Nat.le_of_ble_eq_true rfl) (Nat.le_of_ble_eq_true rfl) (Nat.le_of_ble_eq_true rfl) (Nat.le_of_ble_eq_true rfl) rfl rfl (sp_mustNotBeBuiltY h) ?_
  refine go_aload_n d_E_input_4 rfl ?_
  refine go_getP (j := 0) d_E_input_5 (Nat.le_of_ble_eq_true rfl) rfl pc_E (Nat.le_of_ble_eq_true rfl) rfl w_239 pt_E_0 ?_
  refine go_gI (j := 0) (nI D.nb) d_E_input_8 (Nat.le_of_ble_eq_true rfl) rfl pc_D (Nat.le_of_ble_eq_true rfl) (by decide) w_33 rD.nb ?_
  refine go_iload_n d_E_input_11 rfl ?_
  refine go_callS (k2 := m_E_mustBeOneOf) (As := [.int (nI D.nb), .int (nI t)]) (r := none) d_E_input_12 ok_E_mustBeOneOf sl_E_67 rfl rfl (Nat.le_of_ble_eq_true rfl) (Nat.le_of_ble_eq_true rfl) (Nat.le_of_ble_eq_true rfl) (Nat.le_of_ble_eq_true rfl) rfl rfl (sp_mustBeOneOfY (by omega) ht) ?_
  refine go_aload_n d_E_input_15 rfl ?_
  refine go_getP (j := 0) d_E_input_16 (Nat.le_of_ble_eq_true rfl) rfl pc_E (Nat.le_of_ble_eq_true rfl) rfl w_239 pt_E_0 ?_
  refine go_iload_n d_E_input_19 rfl ?_
  refine go_callV (k2 := m_D_addInput) (As := [.int (nI t)]) (r := some (.int (-1))) d_E_input_20 ok_D_addInput (Nat.le_of_ble_eq_true rfl) rfl pc_D rfl vl_E_75 rfl rfl (Nat.le_of_ble_eq_true rfl) (Nat.le_of_ble_eq_true rfl) (Nat.le_of_ble_eq_true rfl) (Nat.le_of_ble_eq_true rfl) rfl rfl (sp_addInputN hc) ?_
  exact go_ireturn (st := []) d_E_input_23 rfl (Nat.le_of_ble_eq_true rfl) (Nat.le_of_ble_eq_true rfl) rfl
theorem sp_outputY {t : Nat} (h : I 0 4 = 0) (hD : DW D) (rD : RD I D) (ht : t < D.nb) (hn : D.no < 4) : ∃ I', pm_Go 9 m_E_output 0 [some (.ref 0), some (.int (nI t))] [] 0 0 (ST I J) (.inl (some (.int (nI D.no))), ST I' J) ∧ RD I' (otD D t) ∧ fr [1, 8, 22, 23, 24, 25, 26, 27, 28, 29, 30, 31, 32] I I' := by
  have hb10 := hD.nb
  have l2 : (brL D t).length < 24 := by
    have := brL_len (DW_ot hD hn ht) t
    rw [brL_ot hD hn, if_pos rfl, List.length_append, List.length_singleton] at this
    omega
  refine ⟨_, ?_, RD_ot hD rD hn ht, ?_⟩
  · refine go_aload_n d_E_output_0 rfl ?_
    refine go_callV (k2 := m_E_mustNotBeBuilt) (As := []) (r := none) d_E_output_1 ok_E_mustNotBeBuilt (Nat.le_of_ble_eq_true rfl) rfl pc_E rfl vl_E_49 rfl rfl (Nat.le_of_ble_eq_true rfl) (Nat.le_of_ble_eq_true rfl) (Nat.le_of_ble_eq_true rfl) (Nat.le_of_ble_eq_true rfl) rfl rfl (sp_mustNotBeBuiltY h) ?_
    refine go_aload_n d_E_output_4 rfl ?_
    refine go_getP (j := 0) d_E_output_5 (Nat.le_of_ble_eq_true rfl) rfl pc_E (Nat.le_of_ble_eq_true rfl) rfl w_239 pt_E_0 ?_
    refine go_gI (j := 0) (nI D.nb) d_E_output_8 (Nat.le_of_ble_eq_true rfl) rfl pc_D (Nat.le_of_ble_eq_true rfl) (by decide) w_33 rD.nb ?_
    refine go_iload_n d_E_output_11 rfl ?_
    refine go_callS (k2 := m_E_mustBeOneOf) (As := [.int (nI D.nb), .int (nI t)]) (r := none) d_E_output_12 ok_E_mustBeOneOf sl_E_67 rfl rfl (Nat.le_of_ble_eq_true rfl) (Nat.le_of_ble_eq_true rfl) (Nat.le_of_ble_eq_true rfl) (Nat.le_of_ble_eq_true rfl) rfl rfl (sp_mustBeOneOfY (by omega) ht) ?_
    refine go_aload_n d_E_output_15 rfl ?_
    refine go_getP (j := 0) d_E_output_16 (Nat.le_of_ble_eq_true rfl) rfl pc_E (Nat.le_of_ble_eq_true rfl) rfl w_239 pt_E_0 ?_
    refine go_iload_n d_E_output_19 rfl ?_
    refine go_callV (k2 := m_D_addOutput) (As := [.int (nI t)]) (r := some (.int (nI D.no))) d_E_output_20 ok_D_addOutput (Nat.le_of_ble_eq_true rfl) rfl pc_D rfl vl_E_79 rfl rfl (Nat.le_of_ble_eq_true rfl) (Nat.le_of_ble_eq_true rfl) (Nat.le_of_ble_eq_true rfl) (Nat.le_of_ble_eq_true rfl) rfl rfl (sp_addOutput rD.no hn (by omega) (rD.brn t ht).1 l2) ?_
    exact go_ireturn (st := []) d_E_output_23 rfl (Nat.le_of_ble_eq_true rfl) (Nat.le_of_ble_eq_true rfl) rfl
  · exact (((fr.uI (by simp)).tr (fr.uI (by simp; omega))).tr (fr.uI (by simp))).tr (fr.uI (by simp))
theorem sp_outputN {t : Nat} (h : I 0 4 = 0) (hD : DW D) (rD : RD I D) (ht : t < D.nb) (hn : D.no = 4) : pm_Go 9 m_E_output 0 [some (.ref 0), some (.int (nI t))] [] 0 0 (ST I J) (.inl (some (.int (-1))), ST I J) := by
  have hb10 := hD.nb
  have hc := rD.no
  rw [hn] at hc
  refine go_aload_n d_E_output_0 rfl ?_
  refine go_callV (k2 := m_E_mustNotBeBuilt) (As := []) (r := none) d_E_output_1 ok_E_mustNotBeBuilt (Nat.le_of_ble_eq_true rfl) rfl pc_E rfl vl_E_49 rfl rfl (Nat.le_of_ble_eq_true rfl) (Nat.le_of_ble_eq_true rfl) (Nat.le_of_ble_eq_true rfl) (Nat.le_of_ble_eq_true rfl) rfl rfl (sp_mustNotBeBuiltY h) ?_
  refine go_aload_n d_E_output_4 rfl ?_
  refine go_getP (j := 0) d_E_output_5 (Nat.le_of_ble_eq_true rfl) rfl pc_E (Nat.le_of_ble_eq_true rfl) rfl w_239 pt_E_0 ?_
  refine go_gI (j := 0) (nI D.nb) d_E_output_8 (Nat.le_of_ble_eq_true rfl) rfl pc_D (Nat.le_of_ble_eq_true rfl) (by decide) w_33 rD.nb ?_
  refine go_iload_n d_E_output_11 rfl ?_
  refine go_callS (k2 := m_E_mustBeOneOf) (As := [.int (nI D.nb), .int (nI t)]) (r := none) d_E_output_12 ok_E_mustBeOneOf sl_E_67 rfl rfl (Nat.le_of_ble_eq_true rfl) (Nat.le_of_ble_eq_true rfl) (Nat.le_of_ble_eq_true rfl) (Nat.le_of_ble_eq_true rfl) rfl rfl (sp_mustBeOneOfY (by omega) ht) ?_
  refine go_aload_n d_E_output_15 rfl ?_
  refine go_getP (j := 0) d_E_output_16 (Nat.le_of_ble_eq_true rfl) rfl pc_E (Nat.le_of_ble_eq_true rfl) rfl w_239 pt_E_0 ?_
  refine go_iload_n d_E_output_19 rfl ?_
  refine go_callV (k2 := m_D_addOutput) (As := [.int (nI t)]) (r := some (.int (-1))) d_E_output_20 ok_D_addOutput (Nat.le_of_ble_eq_true rfl) rfl pc_D rfl vl_E_79 rfl rfl (Nat.le_of_ble_eq_true rfl) (Nat.le_of_ble_eq_true rfl) (Nat.le_of_ble_eq_true rfl) (Nat.le_of_ble_eq_true rfl) rfl rfl (sp_addOutputN hc) ?_
  exact go_ireturn (st := []) d_E_output_23 rfl (Nat.le_of_ble_eq_true rfl) (Nat.le_of_ble_eq_true rfl) rfl
theorem sp_buffersY {c n : Nat} (h : I 0 4 = 0) (hD : DW D) (rD : RD I D) (hc : c < D.nc) (hn : n < 4) : pm_Go 9 m_E_buffers 0 [some (.ref 0), some (.int (nI c)), some (.int (nI n)), none] [] 0 0 (ST I J) (.inl (some (.int (nI (D.ex c)))), ST (pm_uI I 7 c (nI n)) J) := by
  have h20 := hD.nc
  refine go_aload_n d_E_buffers_0 rfl ?_
  refine go_callV (k2 := m_E_mustNotBeBuilt) (As := []) (r := none) d_E_buffers_1 ok_E_mustNotBeBuilt (Nat.le_of_ble_eq_true rfl) rfl pc_E rfl vl_E_49 rfl rfl (Nat.le_of_ble_eq_true rfl) (Nat.le_of_ble_eq_true rfl) (Nat.le_of_ble_eq_true rfl) (Nat.le_of_ble_eq_true rfl) rfl rfl (sp_mustNotBeBuiltY h) ?_
  refine go_aload_n d_E_buffers_4 rfl ?_
  refine go_getP (j := 0) d_E_buffers_5 (Nat.le_of_ble_eq_true rfl) rfl pc_E (Nat.le_of_ble_eq_true rfl) rfl w_239 pt_E_0 ?_
  refine go_gI (j := 1) (nI D.nc) d_E_buffers_8 (Nat.le_of_ble_eq_true rfl) rfl pc_D (Nat.le_of_ble_eq_true rfl) (by decide) w_41 rD.nc ?_
  refine go_iload_n d_E_buffers_11 rfl ?_
  refine go_callS (k2 := m_E_mustBeOneOf) (As := [.int (nI D.nc), .int (nI c)]) (r := none) d_E_buffers_12 ok_E_mustBeOneOf sl_E_67 rfl rfl (Nat.le_of_ble_eq_true rfl) (Nat.le_of_ble_eq_true rfl) (Nat.le_of_ble_eq_true rfl) (Nat.le_of_ble_eq_true rfl) rfl rfl (sp_mustBeOneOfY (by omega) hc) ?_
  refine go_iconst (v := 4) d_E_buffers_15 (by decide) ?_
  refine go_iload_n d_E_buffers_16 rfl ?_
  refine go_callS (k2 := m_E_mustBeOneOf) (As := [.int (nI 4), .int (nI n)]) (r := none) d_E_buffers_17 ok_E_mustBeOneOf sl_E_67 rfl rfl (Nat.le_of_ble_eq_true rfl) (Nat.le_of_ble_eq_true rfl) (Nat.le_of_ble_eq_true rfl) (Nat.le_of_ble_eq_true rfl) rfl rfl (sp_mustBeOneOfY (by decide) hn) ?_
  refine go_aload_n d_E_buffers_20 rfl ?_
  refine go_getP (j := 0) d_E_buffers_21 (Nat.le_of_ble_eq_true rfl) rfl pc_E (Nat.le_of_ble_eq_true rfl) rfl w_239 pt_E_0 ?_
  refine go_getP (j := 9) d_E_buffers_24 (Nat.le_of_ble_eq_true rfl) rfl pc_D (Nat.le_of_ble_eq_true rfl) rfl w_61 pt_D_9 ?_
  refine go_iload_n d_E_buffers_27 rfl ?_
  refine go_ald c (nI (D.ex c)) d_E_buffers_28 (Nat.le_of_ble_eq_true rfl) rfl rfl (by omega) (by decide) (rD.ch c hc).2.2.2 ?_
  refine go_istore_n d_E_buffers_29 (Nat.le_of_ble_eq_true rfl) rfl ?_
  refine go_aload_n d_E_buffers_30 rfl ?_
  refine go_getP (j := 0) d_E_buffers_31 (Nat.le_of_ble_eq_true rfl) rfl pc_E (Nat.le_of_ble_eq_true rfl) rfl w_239 pt_E_0 ?_
  refine go_getP (j := 9) d_E_buffers_34 (Nat.le_of_ble_eq_true rfl) rfl pc_D (Nat.le_of_ble_eq_true rfl) rfl w_61 pt_D_9 ?_
  refine go_iload_n d_E_buffers_37 rfl ?_
  refine go_iload_n d_E_buffers_38 rfl ?_
  refine go_ast c d_E_buffers_39 (Nat.le_of_ble_eq_true rfl) rfl rfl (by omega) (by decide) ?_
  refine go_iload_n d_E_buffers_40 rfl ?_
  exact go_ireturn (st := []) d_E_buffers_41 rfl (Nat.le_of_ble_eq_true rfl) (Nat.le_of_ble_eq_true rfl) rfl
theorem sp_clear (rD : RD I D) : pm_Go 9 m_E_clear 0 [some (.ref 0), none] [] 0 0 (ST I J) (.inl (some (.int (nI D.nb))), ST (pm_uI (pm_uI (pm_uI (pm_uI (pm_uI I 1 0 0) 1 1 0) 1 2 0) 1 3 0) 0 4 0) J) := by
  refine go_aload_n d_E_clear_0 rfl ?_
  refine go_getP (j := 0) d_E_clear_1 (Nat.le_of_ble_eq_true rfl) rfl pc_E (Nat.le_of_ble_eq_true rfl) rfl w_239 pt_E_0 ?_
  refine go_gI (j := 0) (nI D.nb) d_E_clear_4 (Nat.le_of_ble_eq_true rfl) rfl pc_D (Nat.le_of_ble_eq_true rfl) (by decide) w_33 rD.nb ?_
  refine go_istore_n d_E_clear_7 (Nat.le_of_ble_eq_true rfl) rfl ?_
  refine go_aload_n d_E_clear_8 rfl ?_
  refine go_getP (j := 0) d_E_clear_9 (Nat.le_of_ble_eq_true rfl) rfl pc_E (Nat.le_of_ble_eq_true rfl) rfl w_239 pt_E_0 ?_
  refine go_callV (k2 := m_D_empty) (As := []) (r := none) d_E_clear_12 ok_D_empty (Nat.le_of_ble_eq_true rfl) rfl pc_D rfl vl_E_99 rfl rfl (Nat.le_of_ble_eq_true rfl) (Nat.le_of_ble_eq_true rfl) (Nat.le_of_ble_eq_true rfl) (Nat.le_of_ble_eq_true rfl) rfl rfl sp_empty ?_
  refine go_aload_n d_E_clear_15 rfl ?_
  refine go_iconst (v := 0) d_E_clear_16 (by decide) ?_
  refine go_pI (j := 4) d_E_clear_17 (Nat.le_of_ble_eq_true rfl) rfl pc_E (Nat.le_of_ble_eq_true rfl) (by decide) w_243 rfl (Or.inr ⟨rfl, Or.inl rfl⟩) ?_
  refine go_iload_n d_E_clear_20 rfl ?_
  exact go_ireturn (st := []) d_E_clear_21 rfl (Nat.le_of_ble_eq_true rfl) (Nat.le_of_ble_eq_true rfl) rfl
theorem sp_forget : pm_Go d m_A_forget 0 [some (.ref 62)] [] 0 0 (ST I J) (.inl none, ST (pm_uI I 62 1 0) J) := by
  refine go_aload_n d_A_forget_0 rfl ?_
  refine go_iconst (v := 0) d_A_forget_1 (by decide) ?_
  refine go_pI (j := 1) d_A_forget_2 (Nat.le_of_ble_eq_true rfl) rfl pc_A (Nat.le_of_ble_eq_true rfl) (by decide) w_201 rfl (Or.inr ⟨rfl, Or.inl rfl⟩) ?_
  exact go_vreturn (st := []) d_A_forget_5 rfl (Nat.le_of_ble_eq_true rfl) (Nat.le_of_ble_eq_true rfl) rfl
theorem sp_build (h : I 0 4 = 0) (hD : DW D) (rD : RD I D) : ∃ I', pm_Go 9 m_E_build 0 [some (.ref 0)] [] 0 0 (ST I J) (.inl (some (.int (nI (fo (fun a i => a + D.ex i) D.nc D.nc)))), ST I' J) ∧ RD I' D ∧ I' 0 4 = 1 ∧ I' 62 1 = 0 ∧ RQ I' J D (iniM D) ∧ RK I' D (iniM D) 0 ∧ fr [0, 33, 34, 35, 38, 39, 42, 48, 54, 55, 62] I I' := by
  have f1 : fr [0, 33, 34, 35, 38, 39, 42, 48, 54, 55, 62] I (pm_uI (pm_uI I 0 4 1) 62 1 0) := (fr.uI (by decide)).tr (fr.uI (by decide))
  obtain ⟨I1, a1, a2, a3, a4⟩ := sp_E_start (d := 6) (J := J) hD (rD.fr hD f1 (by decide))
  have f2 := f1.tr (a4.up (by decide))
  have rD1 : RD I1 D := rD.fr hD f2 (by decide)
  refine ⟨I1, ?_, rD1, ?_, ?_, a2, a3, f2⟩
  · refine go_aload_n d_E_build_0 rfl ?_
    refine go_callV (k2 := m_E_mustNotBeBuilt) (As := []) (r := none) d_E_build_1 ok_E_mustNotBeBuilt (Nat.le_of_ble_eq_true rfl) rfl pc_E rfl vl_E_49 rfl rfl (Nat.le_of_ble_eq_true rfl) (Nat.le_of_ble_eq_true rfl) (Nat.le_of_ble_eq_true rfl) (Nat.le_of_ble_eq_true rfl) rfl rfl (sp_mustNotBeBuiltY h) ?_
    refine go_aload_n d_E_build_4 rfl ?_
    refine go_iconst (v := 1) d_E_build_5 (by decide) ?_
    refine go_pI (j := 4) d_E_build_6 (Nat.le_of_ble_eq_true rfl) rfl pc_E (Nat.le_of_ble_eq_true rfl) (by decide) w_243 rfl (Or.inr ⟨rfl, Or.inr rfl⟩) ?_
    refine go_aload_n d_E_build_9 rfl ?_
    refine go_getP (j := 3) d_E_build_10 (Nat.le_of_ble_eq_true rfl) rfl pc_E (Nat.le_of_ble_eq_true rfl) rfl w_242 pt_E_3 ?_
    refine go_callV (k2 := m_A_forget) (As := []) (r := none) d_E_build_13 ok_A_forget (Nat.le_of_ble_eq_true rfl) rfl pc_A rfl vl_E_89 rfl rfl (Nat.le_of_ble_eq_true rfl) (Nat.le_of_ble_eq_true rfl) (Nat.le_of_ble_eq_true rfl) (Nat.le_of_ble_eq_true rfl) rfl rfl sp_forget ?_
    refine go_aload_n d_E_build_16 rfl ?_
    refine go_callV (k2 := m_E_standAtStart) (As := []) (r := none) d_E_build_17 ok_E_standAtStart (Nat.le_of_ble_eq_true rfl) rfl pc_E rfl vl_E_92 rfl rfl (Nat.le_of_ble_eq_true rfl) (Nat.le_of_ble_eq_true rfl) (Nat.le_of_ble_eq_true rfl) (Nat.le_of_ble_eq_true rfl) rfl rfl a1 ?_
    refine go_aload_n d_E_build_20 rfl ?_
    refine go_getP (j := 0) d_E_build_21 (Nat.le_of_ble_eq_true rfl) rfl pc_E (Nat.le_of_ble_eq_true rfl) rfl w_239 pt_E_0 ?_
    refine go_callV (k2 := m_D_countBuffers) (As := []) (r := some (.int (nI (fo (fun a i => a + D.ex i) D.nc D.nc)))) d_E_build_24 ok_D_countBuffers (Nat.le_of_ble_eq_true rfl) rfl pc_D rfl vl_E_95 rfl rfl (Nat.le_of_ble_eq_true rfl) (Nat.le_of_ble_eq_true rfl) (Nat.le_of_ble_eq_true rfl) (Nat.le_of_ble_eq_true rfl) rfl rfl (sp_countBuffers rD1.nc hD.nc (fun i hi => (rD1.ch i hi).2.2.2)) ?_
    exact go_ireturn (st := []) d_E_build_27 rfl (Nat.le_of_ble_eq_true rfl) (Nat.le_of_ble_eq_true rfl) rfl
  · rw [a4 0 (by decide), uI_ne (by decide), uI_eq]
  · rw [a4 62 (by decide), uI_eq]
end S20
