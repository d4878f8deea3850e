/-! the reference: what it holds of a run; came, gone -/
def TS : Type := (Nat → Nat → Nat → Nat) × (Nat → Nat → Nat) × (Nat → Nat → Nat) × (Nat → Nat → Nat) × (Nat → Int32)
def TS.lv (h : TS) : Nat → Nat → Nat → Nat := h.1
def TS.gt (h : TS) : Nat → Nat → Nat := h.2.1
def TS.en (h : TS) : Nat → Nat → Nat := h.2.2.1
def TS.oft (h : TS) : Nat → Nat → Nat := h.2.2.2.1
def TS.sl (h : TS) : Nat → Int32 := h.2.2.2.2
def TS.mk (lv : Nat → Nat → Nat → Nat) (gt : Nat → Nat → Nat) (en : Nat → Nat → Nat) (oft : Nat → Nat → Nat) (sl : Nat → Int32) : TS := (lv, gt, en, oft, sl)
def RMS (I : Nat → Nat → Int32) (D : DZ) (s : MS) (t : TS) : Prop := (I 69 18 = nI s.T) ∧ (∀ k, k < s.T → I 81 k = t.sl k) ∧ (∀ c, c < D.nc → ∀ k, k ≤ s.ga c → I 82 (1002 * c + k) = s.tok c k) ∧ (∀ c, c < D.nc → ∀ b, b < D.ex c → I 84 (4 * c + b) = nI (s.le c b) ∧ ∀ k, k < s.le c b → I 83 (1002 * (4 * c + b) + k) = nI (t.lv c b k)) ∧ (∀ c, c < D.nc → I 86 c = nI (s.ga c) ∧ ∀ k, k < s.ga c → I 85 (1002 * c + k) = nI (t.gt c k)) ∧ (∀ j, j < D.nb → I 88 j = nI (s.tu j) ∧ ∀ k, k < s.tu j → I 87 (1002 * j + k) = nI (t.en j k)) ∧ (∀ p, p < D.ni → I 91 p = nI (s.off p) ∧ ∀ k, k < s.off p → I 89 (1002 * p + k) = s.ofv p k ∧ I 90 (1002 * p + k) = nI (t.oft p k)) ∧ (∀ p, p < D.no → I 94 p = nI (s.ou p) ∧ ∀ k, k < s.ou p → I 92 (1002 * p + k) = s.ous p k ∧ I 93 (1002 * p + k) = nI (s.ouT p k))
theorem RMS.T {I : Nat → Nat → Int32} {D : DZ} {s : MS} {t : TS} (h : RMS I D s t) : I 69 18 = nI s.T := h.1
theorem RMS.st {I : Nat → Nat → Int32} {D : DZ} {s : MS} {t : TS} (h : RMS I D s t) : ∀ k, k < s.T → I 81 k = t.sl k := h.2.1
theorem RMS.tk {I : Nat → Nat → Int32} {D : DZ} {s : MS} {t : TS} (h : RMS I D s t) : ∀ c, c < D.nc → ∀ k, k ≤ s.ga c → I 82 (1002 * c + k) = s.tok c k := h.2.2.1
theorem RMS.lf {I : Nat → Nat → Int32} {D : DZ} {s : MS} {t : TS} (h : RMS I D s t) : ∀ c, c < D.nc → ∀ b, b < D.ex c → I 84 (4 * c + b) = nI (s.le c b) ∧ ∀ k, k < s.le c b → I 83 (1002 * (4 * c + b) + k) = nI (t.lv c b k) := h.2.2.2.1
theorem RMS.ga {I : Nat → Nat → Int32} {D : DZ} {s : MS} {t : TS} (h : RMS I D s t) : ∀ c, c < D.nc → I 86 c = nI (s.ga c) ∧ ∀ k, k < s.ga c → I 85 (1002 * c + k) = nI (t.gt c k) := h.2.2.2.2.1
theorem RMS.tu {I : Nat → Nat → Int32} {D : DZ} {s : MS} {t : TS} (h : RMS I D s t) : ∀ j, j < D.nb → I 88 j = nI (s.tu j) ∧ ∀ k, k < s.tu j → I 87 (1002 * j + k) = nI (t.en j k) := h.2.2.2.2.2.1
theorem RMS.of {I : Nat → Nat → Int32} {D : DZ} {s : MS} {t : TS} (h : RMS I D s t) : ∀ p, p < D.ni → I 91 p = nI (s.off p) ∧ ∀ k, k < s.off p → I 89 (1002 * p + k) = s.ofv p k ∧ I 90 (1002 * p + k) = nI (t.oft p k) := h.2.2.2.2.2.2.1
theorem RMS.ou {I : Nat → Nat → Int32} {D : DZ} {s : MS} {t : TS} (h : RMS I D s t) : ∀ p, p < D.no → I 94 p = nI (s.ou p) ∧ ∀ k, k < s.ou p → I 92 (1002 * p + k) = s.ous p k ∧ I 93 (1002 * p + k) = nI (s.ouT p k) := h.2.2.2.2.2.2.2
theorem RMS.mk {I : Nat → Nat → Int32} {D : DZ} {s : MS} {t : TS} (T_ : I 69 18 = nI s.T) (st_ : ∀ k, k < s.T → I 81 k = t.sl k) (tk_ : ∀ c, c < D.nc → ∀ k, k ≤ s.ga c → I 82 (1002 * c + k) = s.tok c k) (lf_ : ∀ c, c < D.nc → ∀ b, b < D.ex c → I 84 (4 * c + b) = nI (s.le c b) ∧ ∀ k, k < s.le c b → I 83 (1002 * (4 * c + b) + k) = nI (t.lv c b k)) (ga_ : ∀ c, c < D.nc → I 86 c = nI (s.ga c) ∧ ∀ k, k < s.ga c → I 85 (1002 * c + k) = nI (t.gt c k)) (tu_ : ∀ j, j < D.nb → I 88 j = nI (s.tu j) ∧ ∀ k, k < s.tu j → I 87 (1002 * j + k) = nI (t.en j k)) (of_ : ∀ p, p < D.ni → I 91 p = nI (s.off p) ∧ ∀ k, k < s.off p → I 89 (1002 * p + k) = s.ofv p k ∧ I 90 (1002 * p + k) = nI (t.oft p k)) (ou_ : ∀ p, p < D.no → I 94 p = nI (s.ou p) ∧ ∀ k, k < s.ou p → I 92 (1002 * p + k) = s.ous p k ∧ I 93 (1002 * p + k) = nI (s.ouT p k)) : RMS I D s t := ⟨T_, st_, tk_, lf_, ga_, tu_, of_, ou_⟩
section S28
variable {d : Nat} {I : Nat → Nat → Int32} {J : Nat → Nat → Int64} {D : DZ} {s : MS} {t : TS}
theorem sp_M_came {c b : Nat} (hD : DW D) (rS : RMS I D s t) (hc : c < D.nc) (hb : b ≤ D.ex c) : pm_Go d m_M_came 0 [some (.ref 69), some (.int (nI c)), some (.int (nI b))] [] 0 0 (ST I J) (.inl (some (.int (nI (cmM s c b)))), ST I J) := by
  have h20 := hD.nc
  have h3 := (hD.ch c hc).2.2
  refine go_iload_n d_M_came_0 rfl ?_
  cases b with
  | zero =>
    refine go_if_ne (tgt := 15) d_M_came_1 (by decide) (fun z => absurd rfl z) (fun z => ?_)
    refine go_aload_n d_M_came_4 rfl ?_
    refine go_getP (j := 24) d_M_came_5 (Nat.le_of_ble_eq_true rfl) rfl pc_M (Nat.le_of_ble_eq_true rfl) rfl w_726 pt_M_24 ?_
    refine go_iload_n d_M_came_8 rfl ?_
    refine go_ald c (nI (s.ga c)) d_M_came_9 (Nat.le_of_ble_eq_true rfl) rfl rfl (by omega) (by decide) (rS.ga c hc).1 ?_
    refine go_iconst (v := 1) d_M_came_10 (by decide) ?_
    refine go_iadd d_M_came_11 ?_
    refine go_top (nI (cmM s c 0)) (nI_1 _) ?_
    refine go_goto (tgt := 27) d_M_came_12 (by decide) ?_
    exact go_ireturn (st := []) d_M_came_27 rfl (Nat.le_of_ble_eq_true rfl) (Nat.le_of_ble_eq_true rfl) rfl
  | succ b =>
    refine go_if_ne (tgt := 15) d_M_came_1 (by decide) (fun z => ?_) (fun z => absurd z (nI_ne0 (by omega) (by omega)))
    refine go_aload_n d_M_came_15 rfl ?_
    refine go_getP (j := 22) d_M_came_16 (Nat.le_of_ble_eq_true rfl) rfl pc_M (Nat.le_of_ble_eq_true rfl) rfl w_724 pt_M_22 ?_
    refine go_iconst (v := 4) d_M_came_19 (by decide) ?_
    refine go_iload_n d_M_came_20 rfl ?_
    refine go_imul d_M_came_21 ?_
    refine go_top (nI (4 * c)) (pk_mul 4 c) ?_
    refine go_iload_n d_M_came_22 rfl ?_
    refine go_iadd d_M_came_23 ?_
    refine go_top (nI (4 * c + (b + 1))) (nI_add _ _) ?_
    refine go_iconst (v := 1) d_M_came_24 (by decide) ?_
    refine go_isub d_M_came_25 ?_
    refine go_top (nI (4 * c + b)) (nI_pred (4 * c + b)) ?_
    refine go_ald (4 * c + b) (nI (s.le c b)) d_M_came_26 (Nat.le_of_ble_eq_true rfl) rfl rfl (by omega) (by decide) (rS.lf c hc b (by omega)).1 ?_
    exact go_ireturn (st := []) d_M_came_27 rfl (Nat.le_of_ble_eq_true rfl) (Nat.le_of_ble_eq_true rfl) rfl
theorem sp_M_gone {c b : Nat} (hD : DW D) (rM : RMD I D) (rS : RMS I D s t) (hc : c < D.nc) (hb : b ≤ D.ex c) : pm_Go d m_M_gone 0 [some (.ref 69), some (.int (nI c)), some (.int (nI b))] [] 0 0 (ST I J) (.inl (some (.int (nI (gnM D s c b)))), ST I J) := by
  have h20 := hD.nc
  have hb10 := hD.nb
  have h3 := (hD.ch c hc).2.2
  have ht := (hD.ch c hc).2.1
  refine go_iload_n d_M_gone_0 rfl ?_
  refine go_aload_n d_M_gone_1 rfl ?_
  refine go_getP (j := 9) d_M_gone_2 (Nat.le_of_ble_eq_true rfl) rfl pc_M (Nat.le_of_ble_eq_true rfl) rfl w_711 pt_M_9 ?_
  refine go_iload_n d_M_gone_5 rfl ?_
  refine go_ald c (nI (D.ex c)) d_M_gone_6 (Nat.le_of_ble_eq_true rfl) rfl rfl (by omega) (by decide) (rM.ch c hc).2.2.2.1 ?_
  by_cases e : b = D.ex c
  · rw [gnM, if_pos e]
    subst e
    refine go_icmp_ne (tgt := 24) d_M_gone_7 (by decide) (fun z => absurd rfl z) (fun z => ?_)
    refine go_aload_n d_M_gone_10 rfl ?_
    refine go_getP (j := 26) d_M_gone_11 (Nat.le_of_ble_eq_true rfl) rfl pc_M (Nat.le_of_ble_eq_true rfl) rfl w_728 pt_M_26 ?_
    refine go_aload_n d_M_gone_14 rfl ?_
    refine go_getP (j := 7) d_M_gone_15 (Nat.le_of_ble_eq_true rfl) rfl pc_M (Nat.le_of_ble_eq_true rfl) rfl w_709 pt_M_7 ?_
    refine go_iload_n d_M_gone_18 rfl ?_
    refine go_ald c (nI (D.to c)) d_M_gone_19 (Nat.le_of_ble_eq_true rfl) rfl rfl (by omega) (by decide) (rM.ch c hc).2.1 ?_
    refine go_ald (D.to c) (nI (s.tu (D.to c))) d_M_gone_20 (Nat.le_of_ble_eq_true rfl) rfl rfl (by omega) (by decide) (rS.tu (D.to c) ht).1 ?_
    refine go_goto (tgt := 34) d_M_gone_21 (by decide) ?_
    exact go_ireturn (st := []) d_M_gone_34 rfl (Nat.le_of_ble_eq_true rfl) (Nat.le_of_ble_eq_true rfl) rfl
  · rw [gnM, if_neg e]
    refine go_icmp_ne (tgt := 24) d_M_gone_7 (by decide) (fun z => ?_) (fun z => absurd z (nI_neq (by omega) (by omega) e))
    refine go_aload_n d_M_gone_24 rfl ?_
    refine go_getP (j := 22) d_M_gone_25 (Nat.le_of_ble_eq_true rfl) rfl pc_M (Nat.le_of_ble_eq_true rfl) rfl w_724 pt_M_22 ?_
    refine go_iconst (v := 4) d_M_gone_28 (by decide) ?_
    refine go_iload_n d_M_gone_29 rfl ?_
    refine go_imul d_M_gone_30 ?_
    refine go_top (nI (4 * c)) (pk_mul 4 c) ?_
    refine go_iload_n d_M_gone_31 rfl ?_
    refine go_iadd d_M_gone_32 ?_
    refine go_top (nI (4 * c + b)) (nI_add _ _) ?_
    refine go_ald (4 * c + b) (nI (s.le c b)) d_M_gone_33 (Nat.le_of_ble_eq_true rfl) rfl rfl (by omega) (by decide) (rS.lf c hc b (by omega)).1 ?_
    exact go_ireturn (st := []) d_M_gone_34 rfl (Nat.le_of_ble_eq_true rfl) (Nat.le_of_ble_eq_true rfl) rfl
end S28
