/-! the reference: cameAt, goneAt -/
/-- one more than the tick in which a token came -/
def cmA (t : TS) (c b k : Nat) : Nat := if b = 0 then (if k = 0 then 0 else t.gt c (k - 1) + 1) else t.lv c (b - 1) k + 1
def goA (D : DZ) (t : TS) (c b k : Nat) : Nat := if b = D.ex c then t.en (D.to c) k else t.lv c b k
section S29
variable {d : Nat} {I : Nat → Nat → Int32} {J : Nat → Nat → Int64} {D : DZ} {s : MS} {t : TS}
theorem m1_1 (x : Int32) : x - 1 + 1 = x := by
  rw [Int32.sub_add_cancel]
theorem sp_M_cameAt {c b k : Nat} (hD : DW D) (rS : RMS I D s t) (hc : c < D.nc) (hb : b ≤ D.ex c) (hk : k < cmM s c b) (hk2 : k ≤ 1001) : pm_Go d m_M_cameAt 0 [some (.ref 69), some (.int (nI c)), some (.int (nI b)), some (.int (nI k))] [] 0 0 (ST I J) (.inl (some (.int (nI (cmA t c b k) - 1))), ST I J) := by
  have h20 := hD.nc
  have h3 := (hD.ch c hc).2.2
  refine go_iload_n d_M_cameAt_0 rfl ?_
  cases b with
  | zero =>
    rw [cm_0] at hk
    refine go_if_le (tgt := 25) d_M_cameAt_1 (by decide) (fun z => ?_) (fun z => absurd (show (0 : Int32) ≤ 0 by decide) z)
    refine go_iload_n d_M_cameAt_25 rfl ?_
    cases k with
    | zero =>
      refine go_if_ne (tgt := 33) d_M_cameAt_26 (by decide) (fun z => absurd rfl z) (fun z => ?_)
      refine go_iconst (v := -1) d_M_cameAt_29 (by decide) ?_
      refine go_goto (tgt := 47) d_M_cameAt_30 (by decide) ?_
      exact go_ireturn (st := []) d_M_cameAt_47 rfl (Nat.le_of_ble_eq_true rfl) (Nat.le_of_ble_eq_true rfl) rfl
    | succ k =>
      have e : cmA t c 0 (k + 1) = t.gt c k + 1 := rfl
      rw [e, nI_pred]
      refine go_if_ne (tgt := 33) d_M_cameAt_26 (by decide) (fun z => ?_) (fun z => absurd z (nI_ne0 (by omega) (by omega)))
      refine go_aload_n d_M_cameAt_33 rfl ?_
      refine go_getP (j := 23) d_M_cameAt_34 (Nat.le_of_ble_eq_true rfl) rfl pc_M (Nat.le_of_ble_eq_true rfl) rfl w_725 pt_M_23 ?_
      refine go_sipush (v := 1002) d_M_cameAt_37 (by decide) ?_
      refine go_iload_n d_M_cameAt_40 rfl ?_
      refine go_imul d_M_cameAt_41 ?_
      refine go_top (nI (1002 * c)) (pk_mul 1002 c) ?_
      refine go_iload_n d_M_cameAt_42 rfl ?_
      refine go_iadd d_M_cameAt_43 ?_
      refine go_top (nI (1002 * c + (k + 1))) (nI_add _ _) ?_
      refine go_iconst (v := 1) d_M_cameAt_44 (by decide) ?_
      refine go_isub d_M_cameAt_45 ?_
      refine go_top (nI (1002 * c + k)) (nI_pred (1002 * c + k)) ?_
      refine go_ald (1002 * c + k) (nI (t.gt c k)) d_M_cameAt_46 (Nat.le_of_ble_eq_true rfl) rfl rfl (by omega) (by decide) ((rS.ga c hc).2 k (by omega)) ?_
      exact go_ireturn (st := []) d_M_cameAt_47 rfl (Nat.le_of_ble_eq_true rfl) (Nat.le_of_ble_eq_true rfl) rfl
  | succ b =>
    rw [cm_S] at hk
    have e : cmA t c (b + 1) k = t.lv c b k + 1 := rfl
    rw [e, nI_pred]
    refine go_if_le (tgt := 25) d_M_cameAt_1 (by decide) (fun z => absurd z (nI_nle (by omega) (by omega))) (fun z => ?_)
    refine go_aload_n d_M_cameAt_4 rfl ?_
    refine go_getP (j := 21) d_M_cameAt_5 (Nat.le_of_ble_eq_true rfl) rfl pc_M (Nat.le_of_ble_eq_true rfl) rfl w_723 pt_M_21 ?_
    refine go_sipush (v := 1002) d_M_cameAt_8 (by decide) ?_
    refine go_iconst (v := 4) d_M_cameAt_11 (by decide) ?_
    refine go_iload_n d_M_cameAt_12 rfl ?_
    refine go_imul d_M_cameAt_13 ?_
    refine go_top (nI (4 * c)) (pk_mul 4 c) ?_
    refine go_iload_n d_M_cameAt_14 rfl ?_
    refine go_iadd d_M_cameAt_15 ?_
    refine go_top (nI (4 * c + (b + 1))) (nI_add _ _) ?_
    refine go_iconst (v := 1) d_M_cameAt_16 (by decide) ?_
    refine go_isub d_M_cameAt_17 ?_
    refine go_top (nI (4 * c + b)) (nI_pred (4 * c + b)) ?_
    refine go_imul d_M_cameAt_18 ?_
    refine go_top (nI (1002 * (4 * c + b))) (pk_mul 1002 _) ?_
    refine go_iload_n d_M_cameAt_19 rfl ?_
    refine go_iadd d_M_cameAt_20 ?_
    refine go_top (nI (1002 * (4 * c + b) + k)) (nI_add _ _) ?_
    refine go_ald (1002 * (4 * c + b) + k) (nI (t.lv c b k)) d_M_cameAt_21 (Nat.le_of_ble_eq_true rfl) rfl rfl (by omega) (by decide) ((rS.lf c hc b (by omega)).2 k hk) ?_
    refine go_goto (tgt := 47) d_M_cameAt_22 (by decide) ?_
    exact go_ireturn (st := []) d_M_cameAt_47 rfl (Nat.le_of_ble_eq_true rfl) (Nat.le_of_ble_eq_true rfl) rfl
theorem sp_M_goneAt {c b k : Nat} (hD : DW D) (rM : RMD I D) (rS : RMS I D s t) (hc : c < D.nc) (hb : b ≤ D.ex c) (hk : k < gnM D s c b) (hk2 : k ≤ 1001) : pm_Go d m_M_goneAt 0 [some (.ref 69), some (.int (nI c)), some (.int (nI b)), some (.int (nI k))] [] 0 0 (ST I J) (.inl (some (.int (nI (goA D t c b k)))), ST I J) := by
  have h20 := hD.nc
  have hb10 := hD.nb
  have h3 := (hD.ch c hc).2.2
  have ht := (hD.ch c hc).2.1
  refine go_iload_n d_M_goneAt_0 rfl ?_
  refine go_aload_n d_M_goneAt_1 rfl ?_
  refine go_getP (j := 9) d_M_goneAt_2 (Nat.le_of_ble_eq_true rfl) rfl pc_M (Nat.le_of_ble_eq_true rfl) rfl w_711 pt_M_9 ?_
  refine go_iload_n d_M_goneAt_5 rfl ?_
  refine go_ald c (nI (D.ex c)) d_M_goneAt_6 (Nat.le_of_ble_eq_true rfl) rfl rfl (by omega) (by decide) (rM.ch c hc).2.2.2.1 ?_
  by_cases e : b = D.ex c
  · rw [goA, if_pos e]
    rw [gnM, if_pos e] at hk
    subst e
    refine go_icmp_ne (tgt := 30) d_M_goneAt_7 (by decide) (fun z => absurd rfl z) (fun z => ?_)
    refine go_aload_n d_M_goneAt_10 rfl ?_
    refine go_getP (j := 25) d_M_goneAt_11 (Nat.le_of_ble_eq_true rfl) rfl pc_M (Nat.le_of_ble_eq_true rfl) rfl w_727 pt_M_25 ?_
    refine go_sipush (v := 1002) d_M_goneAt_14 (by decide) ?_
    refine go_aload_n d_M_goneAt_17 rfl ?_
    refine go_getP (j := 7) d_M_goneAt_18 (Nat.le_of_ble_eq_true rfl) rfl pc_M (Nat.le_of_ble_eq_true rfl) rfl w_709 pt_M_7 ?_
    refine go_iload_n d_M_goneAt_21 rfl ?_
    refine go_ald c (nI (D.to c)) d_M_goneAt_22 (Nat.le_of_ble_eq_true rfl) rfl rfl (by omega) (by decide) (rM.ch c hc).2.1 ?_
    refine go_imul d_M_goneAt_23 ?_
    refine go_top (nI (1002 * D.to c)) (pk_mul 1002 _) ?_
    refine go_iload_n d_M_goneAt_24 rfl ?_
    refine go_iadd d_M_goneAt_25 ?_
    refine go_top (nI (1002 * D.to c + k)) (nI_add _ _) ?_
    refine go_ald (1002 * D.to c + k) (nI (t.en (D.to c) k)) d_M_goneAt_26 (Nat.le_of_ble_eq_true rfl) rfl rfl (by omega) (by decide) ((rS.tu (D.to c) ht).2 k hk) ?_
    refine go_goto (tgt := 46) d_M_goneAt_27 (by decide) ?_
    exact go_ireturn (st := []) d_M_goneAt_46 rfl (Nat.le_of_ble_eq_true rfl) (Nat.le_of_ble_eq_true rfl) rfl
  · rw [goA, if_neg e]
    rw [gnM, if_neg e] at hk
    refine go_icmp_ne (tgt := 30) d_M_goneAt_7 (by decide) (fun z => ?_) (fun z => absurd z (nI_neq (by omega) (by omega) e))
    refine go_aload_n d_M_goneAt_30 rfl ?_
    refine go_getP (j := 21) d_M_goneAt_31 (Nat.le_of_ble_eq_true rfl) rfl pc_M (Nat.le_of_ble_eq_true rfl) rfl w_723 pt_M_21 ?_
    refine go_sipush (v := 1002) d_M_goneAt_34 (by decide) ?_
    refine go_iconst (v := 4) d_M_goneAt_37 (by decide) ?_
    refine go_iload_n d_M_goneAt_38 rfl ?_
    refine go_imul d_M_goneAt_39 ?_
    refine go_top (nI (4 * c)) (pk_mul 4 c) ?_
    refine go_iload_n d_M_goneAt_40 rfl ?_
    refine go_iadd d_M_goneAt_41 ?_
    refine go_top (nI (4 * c + b)) (nI_add _ _) ?_
    refine go_imul d_M_goneAt_42 ?_
    refine go_top (nI (1002 * (4 * c + b))) (pk_mul 1002 _) ?_
    refine go_iload_n d_M_goneAt_43 rfl ?_
    refine go_iadd d_M_goneAt_44 ?_
    refine go_top (nI (1002 * (4 * c + b) + k)) (nI_add _ _) ?_
    refine go_ald (1002 * (4 * c + b) + k) (nI (t.lv c b k)) d_M_goneAt_45 (Nat.le_of_ble_eq_true rfl) rfl rfl (by omega) (by decide) ((rS.lf c hc b (by omega)).2 k hk) ?_
    exact go_ireturn (st := []) d_M_goneAt_46 rfl (Nat.le_of_ble_eq_true rfl) (Nat.le_of_ble_eq_true rfl) rfl
end S29
