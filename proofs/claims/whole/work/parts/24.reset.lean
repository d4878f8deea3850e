/-! the start, and an offer -/
def iniM (D : DZ) : MS := MS.mk 0 (fun _ => 0) (fun _ => 0) (fun _ => 0) (fun _ => 0) (fun _ _ => 0) (fun c _ => D.fs c) (fun _ _ => 0) (fun _ _ => 0) (fun _ _ => 0)
def ofM (s : MS) (p : Nat) (v : Int32) : MS := MS.mk s.T s.tu s.ga s.ou (fun q => if q = p then s.off q + 1 else s.off q) s.le s.tok (fun q k => if q = p ∧ k = s.off p then v else s.ofv q k) s.ous s.ouT
section S14
variable {d : Nat} {I : Nat → Nat → Int32} {J : Nat → Nat → Int64} {D : DZ} {s : MS}
theorem ini_gn {c b : Nat} : gnM D (iniM D) c b = 0 := by
  show (if b = D.ex c then 0 else 0) = 0
  split <;> rfl
theorem ini_cm {c b : Nat} : cmM (iniM D) c b = if b = 0 then 1 else 0 := rfl
theorem MI_ini : MI D (iniM D) := by
  refine MI.mk (Nat.zero_le _) (fun _ _ => Nat.le_refl 0) (fun _ _ => ⟨Nat.le_refl 0, Nat.zero_le _⟩) (fun _ _ => ⟨Nat.le_refl 0, Nat.zero_le _⟩) (fun _ _ => ⟨Nat.le_refl 0, Nat.zero_le _⟩) (fun c _ b _ => ?_)
  rw [ini_gn, ini_cm]
  split <;> omega
theorem MI_of {p : Nat} {v : Int32} (hM : MI D s) (hp : s.off p = s.tu (D.ito p)) : MI D (ofM s p v) := by
  refine MI.mk hM.T hM.tu hM.ga hM.ou (fun q hq => ?_) hM.bf
  have := hM.off q hq
  show s.tu (D.ito q) ≤ (if q = p then s.off q + 1 else s.off q) ∧ (if q = p then s.off q + 1 else s.off q) ≤ s.tu (D.ito q) + 1
  split
  · rename_i e
    subst e
    omega
  · exact this
def rsB (D : DZ) (n x : Nat) : List Int32 := if x % 4 = 0 ∧ x / 4 < n then [D.fs (x / 4)] else []
theorem rsB_ini (hD : DW D) (x : Nat) : rsB D D.nc x = bqM D (iniM D) x := by
  unfold rsB bqM
  rw [ini_gn, ini_cm]
  by_cases h0 : x % 4 = 0
  · by_cases h1 : x / 4 < D.nc
    · rw [if_pos ⟨h0, h1⟩, if_pos ⟨h1, by omega⟩, if_pos h0]
      rfl
    · rw [if_neg (fun z => h1 z.2), if_neg (fun z => h1 z.1)]
  · rw [if_neg (fun z => h0 z.1), if_neg h0]
    split <;> rfl
theorem sp_reset (hD : DW D) (rD : RD I D) : ∃ I', pm_Go (d + 1) m_P_reset 0 [some (.ref 33), none] [] 0 0 (ST I J) (.inl none, ST I' J) ∧ RQ I' J D (iniM D) ∧ fr [33, 34, 35, 38, 39, 42, 48] I I' := by
  have h20 := hD.nc
  have hb10 := hD.nb
  have hni := hD.ni
  have loop : ∀ k c (Ii : Nat → Nat → Int32), D.nc - c = k → c ≤ D.nc → RD Ii D → CB Ii (rsB D c) → ∃ I', pm_Go (d + 1) m_P_reset 52 [some (.ref 33), some (.int (nI c))] [] 0 0 (ST Ii J) (.inl none, ST I' J) ∧ CB I' (rsB D D.nc) ∧ fr [34, 35] Ii I' := by
    intro k
    induction k with
    | zero =>
      intro c Ii hk hc rDi cB
      have : c = D.nc := by omega
      subst this
      refine ⟨Ii, ?_, cB, fr.rf⟩
      refine go_iload_n d_P_reset_52 rfl ?_
      refine go_aload_n d_P_reset_53 rfl ?_
      refine go_getP (j := 0) d_P_reset_54 (Nat.le_of_ble_eq_true rfl) rfl pc_P (Nat.le_of_ble_eq_true rfl) rfl w_113 pt_P_0 ?_
      refine go_gI (j := 1) (nI D.nc) d_P_reset_57 (Nat.le_of_ble_eq_true rfl) rfl pc_D (Nat.le_of_ble_eq_true rfl) (by decide) w_39 rDi.nc ?_
      refine go_icmp_ge (tgt := 85) d_P_reset_60 (by decide) (fun z => ?_) (fun z => absurd (nI_le (Nat.le_refl _) (by omega)) z)
      exact go_vreturn (st := []) d_P_reset_85 rfl (Nat.le_of_ble_eq_true rfl) (Nat.le_of_ble_eq_true rfl) rfl
    | succ k ih =>
      intro c Ii hk hc rDi cB
      have hc2 : c < D.nc := by omega
      have e0 : rsB D c (c * 4) = [] := by
        unfold rsB
        rw [if_neg (by omega)]
      obtain ⟨I2, g1, g2, g3⟩ := sp_putE (d := d) (J := J) (v := D.fs c) cB (b := c * 4) (by omega) (by rw [e0]; decide)
      obtain ⟨I', i1, i2, i3⟩ := ih (c + 1) I2 (by omega) (by omega) (rDi.fr hD g3 (by decide)) (g2.cg (fun x _ => by
        rw [ra_fu, e0]
        unfold rsB
        by_cases e : x = c * 4
        · rw [if_pos e, if_pos (by omega), show x / 4 = c by omega]
          rfl
        · rw [if_neg e]
          by_cases h : x % 4 = 0 ∧ x / 4 < c
          · rw [if_pos h, if_pos (by omega)]
          · rw [if_neg h, if_neg (by omega)]))
      refine ⟨I', ?_, i2, g3.tr i3⟩
      refine go_iload_n d_P_reset_52 rfl ?_
      refine go_aload_n d_P_reset_53 rfl ?_
      refine go_getP (j := 0) d_P_reset_54 (Nat.le_of_ble_eq_true rfl) rfl pc_P (Nat.le_of_ble_eq_true rfl) rfl w_113 pt_P_0 ?_
      refine go_gI (j := 1) (nI D.nc) d_P_reset_57 (Nat.le_of_ble_eq_true rfl) rfl pc_D (Nat.le_of_ble_eq_true rfl) (by decide) w_39 rDi.nc ?_
      refine go_icmp_ge (tgt := 85) d_P_reset_60 (by decide) (fun z => absurd z (nI_ge (by omega) (by omega))) (fun z => ?_)
      refine go_aload_n d_P_reset_63 rfl ?_
      refine go_iload_n d_P_reset_64 rfl ?_
      refine go_iconst (v := 4) d_P_reset_65 (by decide) ?_
      refine go_imul d_P_reset_66 ?_
      refine go_top (nI (c * 4)) (pk_mul c 4) ?_
      refine go_aload_n d_P_reset_67 rfl ?_
      refine go_getP (j := 0) d_P_reset_68 (Nat.le_of_ble_eq_true rfl) rfl pc_P (Nat.le_of_ble_eq_true rfl) rfl w_113 pt_P_0 ?_
      refine go_getP (j := 8) d_P_reset_71 (Nat.le_of_ble_eq_true rfl) rfl pc_D (Nat.le_of_ble_eq_true rfl) rfl w_58 pt_D_8 ?_
      refine go_iload_n d_P_reset_74 rfl ?_
      refine go_ald c (D.fs c) d_P_reset_75 (Nat.le_of_ble_eq_true rfl) rfl rfl (by omega) (by decide) (rDi.ch c hc2).2.2.1 ?_
      refine go_callV (k2 := m_P_put) (As := [.int (nI (c * 4)), .int (D.fs c)]) (r := none) d_P_reset_76 ok_P_put (Nat.le_of_ble_eq_true rfl) rfl pc_P rfl vl_P_77 rfl rfl (Nat.le_of_ble_eq_true rfl) (Nat.le_of_ble_eq_true rfl) (Nat.le_of_ble_eq_true rfl) (Nat.le_of_ble_eq_true rfl) rfl rfl g1 ?_
      refine go_iinc (v := nI (c + 1)) d_P_reset_79 rfl (by first | rfl | exact nI_1 _) rfl ?_
      refine go_goto (tgt := 52) d_P_reset_82 (by decide) ?_
      exact i1
  let I1 := pm_uI (pm_uI I 33 1 0) 33 9 0
  let I2 := fiI I1 38 0 10
  let I3 := fiI I2 39 0 10
  let I4 := fiI I3 42 0 4
  let I5 := fiI I4 48 0 4
  let I6 := fiI I5 35 0 80
  have at6 : ∀ c j, I6 c j = if c = 35 ∧ j < 80 then 0 else if c = 48 ∧ j < 4 then 0 else if c = 42 ∧ j < 4 then 0 else if c = 39 ∧ j < 10 then 0 else if c = 38 ∧ j < 10 then 0 else if c = 33 ∧ j = 9 then 0 else if c = 33 ∧ j = 1 then 0 else I c j := by
    intro c j
    simp only [I6, I5, I4, I3, I2, I1, fiI_at, uI_at]
  have f6 : fr [33, 35, 38, 39, 42, 48] I I6 := by
    intro c hc
    funext j
    simp only [List.mem_cons, List.not_mem_nil, or_false, not_or] at hc
    rw [at6]
    simp [hc]
  obtain ⟨I', i1, i2, i3⟩ := loop D.nc 0 I6 (by omega) (by omega) (rD.fr hD f6 (by decide)) (fun b hb => by
    have e : rsB D 0 b = [] := by
      unfold rsB
      rw [if_neg (by omega)]
    rw [e, at6, if_pos ⟨rfl, hb⟩]
    exact ⟨rfl, by decide, fun i v h => by simp at h⟩)
  have fx : fr [33, 34, 35, 38, 39, 42, 48] I I' := (f6.up (by decide)).tr (i3.up (by decide))
  have c6 : ∀ c, c ≠ 34 → c ≠ 35 → I' c = I6 c := fun c h1 h2 => i3 c (by simp [h1, h2])
  refine ⟨I', ?_, ?_, fx⟩
  · refine go_aload_n d_P_reset_0 rfl ?_
    refine go_iconst (v := 0) d_P_reset_1 (by decide) ?_
    refine go_pI (j := 1) d_P_reset_2 (Nat.le_of_ble_eq_true rfl) rfl pc_P (Nat.le_of_ble_eq_true rfl) (by decide) w_114 rfl (Or.inl rfl) ?_
    refine go_aload_n d_P_reset_5 rfl ?_
    refine go_iconst (v := 0) d_P_reset_6 (by decide) ?_
    refine go_pI (j := 9) d_P_reset_7 (Nat.le_of_ble_eq_true rfl) rfl pc_P (Nat.le_of_ble_eq_true rfl) (by decide) w_126 rfl (Or.inl rfl) ?_
    refine go_aload_n d_P_reset_10 rfl ?_
    refine go_getP (j := 6) d_P_reset_11 (Nat.le_of_ble_eq_true rfl) rfl pc_P (Nat.le_of_ble_eq_true rfl) rfl w_121 pt_P_6 ?_
    refine go_iconst (v := 0) d_P_reset_14 (by decide) ?_
    refine go_callS (k2 := m_U_fill) (As := [.ref 38, .int 0]) (r := none) d_P_reset_15 ok_U_fill sl_P_63 rfl rfl (Nat.le_of_ble_eq_true rfl) (Nat.le_of_ble_eq_true rfl) (Nat.le_of_ble_eq_true rfl) (Nat.le_of_ble_eq_true rfl) rfl rfl (sp_fill (I := I1) (J := J) (b := 38) (n := 10) (by decide) rfl (by decide)) ?_
    refine go_aload_n d_P_reset_18 rfl ?_
    refine go_getP (j := 7) d_P_reset_19 (Nat.le_of_ble_eq_true rfl) rfl pc_P (Nat.le_of_ble_eq_true rfl) rfl w_123 pt_P_7 ?_
    refine go_iconst (v := 0) d_P_reset_22 (by decide) ?_
    refine go_callS (k2 := m_U_fill) (As := [.ref 39, .int 0]) (r := none) d_P_reset_23 ok_U_fill sl_P_63 rfl rfl (Nat.le_of_ble_eq_true rfl) (Nat.le_of_ble_eq_true rfl) (Nat.le_of_ble_eq_true rfl) (Nat.le_of_ble_eq_true rfl) rfl rfl (sp_fill (I := I2) (J := J) (b := 39) (n := 10) (by decide) rfl (by decide)) ?_
    refine go_aload_n d_P_reset_26 rfl ?_
    refine go_getP (j := 11) d_P_reset_27 (Nat.le_of_ble_eq_true rfl) rfl pc_P (Nat.le_of_ble_eq_true rfl) rfl w_128 pt_P_11 ?_
    refine go_iconst (v := 0) d_P_reset_30 (by decide) ?_
    refine go_callS (k2 := m_U_fill) (As := [.ref 42, .int 0]) (r := none) d_P_reset_31 ok_U_fill sl_P_63 rfl rfl (Nat.le_of_ble_eq_true rfl) (Nat.le_of_ble_eq_true rfl) (Nat.le_of_ble_eq_true rfl) (Nat.le_of_ble_eq_true rfl) rfl rfl (sp_fill (I := I3) (J := J) (b := 42) (n := 4) (by decide) rfl (by decide)) ?_
    refine go_aload_n d_P_reset_34 rfl ?_
    refine go_getP (j := 13) d_P_reset_35 (Nat.le_of_ble_eq_true rfl) rfl pc_P (Nat.le_of_ble_eq_true rfl) rfl w_132 pt_P_13 ?_
    refine go_iconst (v := 0) d_P_reset_38 (by decide) ?_
    refine go_callS (k2 := m_U_fill) (As := [.ref 48, .int 0]) (r := none) d_P_reset_39 ok_U_fill sl_P_63 rfl rfl (Nat.le_of_ble_eq_true rfl) (Nat.le_of_ble_eq_true rfl) (Nat.le_of_ble_eq_true rfl) (Nat.le_of_ble_eq_true rfl) rfl rfl (sp_fill (I := I4) (J := J) (b := 48) (n := 4) (by decide) rfl (by decide)) ?_
    refine go_aload_n d_P_reset_42 rfl ?_
    refine go_getP (j := 3) d_P_reset_43 (Nat.le_of_ble_eq_true rfl) rfl pc_P (Nat.le_of_ble_eq_true rfl) rfl w_117 pt_P_3 ?_
    refine go_iconst (v := 0) d_P_reset_46 (by decide) ?_
    refine go_callS (k2 := m_U_fill) (As := [.ref 35, .int 0]) (r := none) d_P_reset_47 ok_U_fill sl_P_63 rfl rfl (Nat.le_of_ble_eq_true rfl) (Nat.le_of_ble_eq_true rfl) (Nat.le_of_ble_eq_true rfl) (Nat.le_of_ble_eq_true rfl) rfl rfl (sp_fill (I := I5) (J := J) (b := 35) (n := 80) (by decide) rfl (by decide)) ?_
    refine go_iconst (v := 0) d_P_reset_50 (by decide) ?_
    refine go_istore_n d_P_reset_51 (Nat.le_of_ble_eq_true rfl) rfl ?_
    exact i1
  · refine RQ.mk ?_ ?_ ?_ ?_ ?_ ?_ ?_ ?_
    · rw [c6 33 (by decide) (by decide), at6]; rfl
    · exact i2.cg (fun x _ => rsB_ini hD x)
    · intro j hj
      rw [c6 38 (by decide) (by decide), at6]
      simp [show j < 10 by omega]
      rfl
    · intro j hj
      rw [c6 39 (by decide) (by decide), at6, gtM, bI_z]
      · simp [show j < 10 by omega]
      · intro i _
        rw [goM]
        split <;> exact decide_eq_false (show ¬ 0 < 0 by omega)
    · intro p hp
      rw [c6 33 (by decide) (by decide), at6]
      show bt 0 p = decide (0 < 0)
      rw [b_0]
      rfl
    · intro p hp h
      exact absurd h (show ¬ 0 < 0 by omega)
    · intro p hp
      have e : tkM D (iniM D) p = [] := by
        unfold tkM
        split <;> rfl
      rw [e, c6 42 (by decide) (by decide), at6]
      refine ⟨by simp [hp]; rfl, by decide, fun i v h => by simp at h⟩
    · intro p hp
      have e : gvM D (iniM D) p = [] := by
        unfold gvM
        split <;> rfl
      rw [e, c6 48 (by decide) (by decide), at6]
      refine ⟨by simp [hp]; rfl, by decide, fun i v h => by simp at h⟩
theorem sp_letWaitN {p : Nat} {v : Int32} (hD : DW D) (hM : MI D s) (hp : p < D.ni) (rQ : RQ I J D s) (h : s.tu (D.ito p) < s.off p ∨ s.off p = 1000) : pm_Go (d + 1) m_P_letWait 0 [some (.ref 33), some (.int (nI p)), some (.int v)] [] 0 0 (ST I J) (.inl (some (.int 0)), ST I J) := by
  have hni := hD.ni
  have hw := rQ.wt p hp
  refine go_aload_n d_P_letWait_0 rfl ?_
  refine go_iload_n d_P_letWait_1 rfl ?_
  refine go_callV (k2 := m_P_waitsAt) (As := [.int (nI p)]) (r := some (.int (bb (bt (I 33 9) p)))) d_P_letWait_2 ok_P_waitsAt (Nat.le_of_ble_eq_true rfl) rfl pc_P rfl vl_P_81 rfl rfl (Nat.le_of_ble_eq_true rfl) (Nat.le_of_ble_eq_true rfl) (Nat.le_of_ble_eq_true rfl) (Nat.le_of_ble_eq_true rfl) rfl rfl (sp_waitsAt (by omega)) ?_
  rw [hw]
  by_cases h1 : s.tu (D.ito p) < s.off p
  · rw [decide_eq_true h1]
    refine go_if_ne (tgt := 20) d_P_letWait_5 (by decide) (fun z => ?_) (fun z => absurd z (by decide))
    refine go_iconst (v := 0) d_P_letWait_20 (by decide) ?_
    exact go_zreturn (st := []) d_P_letWait_21 rfl (Nat.le_of_ble_eq_true rfl) (Nat.le_of_ble_eq_true rfl) rfl (Or.inl rfl)
  · rw [decide_eq_false h1]
    have h2 := hM.off p hp
    have h3 := (rQ.tk p (by omega)).1
    rw [tkM, if_pos hp, wn_len, Nat.sub_zero, show s.tu (D.ito p) = 1000 by omega] at h3
    refine go_if_ne (tgt := 20) d_P_letWait_5 (by decide) (fun z => absurd rfl z) (fun z => ?_)
    refine go_aload_n d_P_letWait_8 rfl ?_
    refine go_getP (j := 11) d_P_letWait_9 (Nat.le_of_ble_eq_true rfl) rfl pc_P (Nat.le_of_ble_eq_true rfl) rfl w_128 pt_P_11 ?_
    refine go_iload_n d_P_letWait_12 rfl ?_
    refine go_ald p (nI 1000) d_P_letWait_13 (Nat.le_of_ble_eq_true rfl) rfl rfl (by omega) (by decide) h3 ?_
    refine go_sipush (v := 1000) d_P_letWait_14 (by decide) ?_
    refine go_icmp_lt (tgt := 22) d_P_letWait_17 (by decide) (fun z => absurd z (by decide)) (fun z => ?_)
    refine go_iconst (v := 0) d_P_letWait_20 (by decide) ?_
    exact go_zreturn (st := []) d_P_letWait_21 rfl (Nat.le_of_ble_eq_true rfl) (Nat.le_of_ble_eq_true rfl) rfl (Or.inl rfl)
theorem sp_letWaitY {p : Nat} {v : Int32} (hD : DW D) (hM : MI D s) (hp : p < D.ni) (rQ : RQ I J D s) (h : s.off p = s.tu (D.ito p)) (h2 : s.off p < 1000) : ∃ I', pm_Go (d + 1) m_P_letWait 0 [some (.ref 33), some (.int (nI p)), some (.int v)] [] 0 0 (ST I J) (.inl (some (.int 1)), ST I' J) ∧ RQ I' J D (ofM s p v) ∧ fr [33, 41] I I' := by
  have hni := hD.ni
  have hw := rQ.wt p hp
  have h3 := (rQ.tk p (by omega)).1
  rw [tkM, if_pos hp, wn_len, Nat.sub_zero] at h3
  refine ⟨pm_uI (pm_uI I 33 9 (I 33 9 ||| ((1 : Int32) <<< (nI p &&& 31)))) 41 p v, ?_, ?_, (fr.uI (by decide)).tr (fr.uI (by decide))⟩
  · refine go_aload_n d_P_letWait_0 rfl ?_
    refine go_iload_n d_P_letWait_1 rfl ?_
    refine go_callV (k2 := m_P_waitsAt) (As := [.int (nI p)]) (r := some (.int (bb (bt (I 33 9) p)))) d_P_letWait_2 ok_P_waitsAt (Nat.le_of_ble_eq_true rfl) rfl pc_P rfl vl_P_81 rfl rfl (Nat.le_of_ble_eq_true rfl) (Nat.le_of_ble_eq_true rfl) (Nat.le_of_ble_eq_true rfl) (Nat.le_of_ble_eq_true rfl) rfl rfl (sp_waitsAt (by omega)) ?_
    rw [hw, decide_eq_false (by omega)]
    refine go_if_ne (tgt := 20) d_P_letWait_5 (by decide) (fun z => absurd rfl z) (fun z => ?_)
    refine go_aload_n d_P_letWait_8 rfl ?_
    refine go_getP (j := 11) d_P_letWait_9 (Nat.le_of_ble_eq_true rfl) rfl pc_P (Nat.le_of_ble_eq_true rfl) rfl w_128 pt_P_11 ?_
    refine go_iload_n d_P_letWait_12 rfl ?_
    refine go_ald p (nI (s.tu (D.ito p))) d_P_letWait_13 (Nat.le_of_ble_eq_true rfl) rfl rfl (by omega) (by decide) h3 ?_
    refine go_sipush (v := 1000) d_P_letWait_14 (by decide) ?_
    refine go_icmp_lt (tgt := 22) d_P_letWait_17 (by decide) (fun z => ?_) (fun z => absurd (nI_lt (b := 1000) (by omega) (by omega)) z)
    refine go_aload_n d_P_letWait_22 rfl ?_
    refine go_dup d_P_letWait_23 rfl ?_
    refine go_getI (j := 9) d_P_letWait_24 (Nat.le_of_ble_eq_true rfl) rfl pc_P (Nat.le_of_ble_eq_true rfl) (by decide) w_126 ?_
    refine go_iconst (v := 1) d_P_letWait_27 (by decide) ?_
    refine go_iload_n d_P_letWait_28 rfl ?_
    refine go_ishl d_P_letWait_29 ?_
    refine go_ior d_P_letWait_30 ?_
    refine go_pI (j := 9) d_P_letWait_31 (Nat.le_of_ble_eq_true rfl) rfl pc_P (Nat.le_of_ble_eq_true rfl) (by decide) w_126 rfl (Or.inl rfl) ?_
    refine go_aload_n d_P_letWait_34 rfl ?_
    refine go_getP (j := 10) d_P_letWait_35 (Nat.le_of_ble_eq_true rfl) rfl pc_P (Nat.le_of_ble_eq_true rfl) rfl w_127 pt_P_10 ?_
    refine go_iload_n d_P_letWait_38 rfl ?_
    refine go_iload_n d_P_letWait_39 rfl ?_
    refine go_ast p d_P_letWait_40 (Nat.le_of_ble_eq_true rfl) rfl rfl (by omega) (by decide) ?_
    refine go_iconst (v := 1) d_P_letWait_41 (by decide) ?_
    exact go_zreturn (st := []) d_P_letWait_42 rfl (Nat.le_of_ble_eq_true rfl) (Nat.le_of_ble_eq_true rfl) rfl (Or.inr rfl)
  · refine RQ.mk rQ.T ?_ rQ.tu rQ.got ?_ ?_ ?_ ?_
    · exact rQ.B.eqv rfl rfl
    · intro q hq
      show bt (I 33 9 ||| ((1 : Int32) <<< (nI p &&& 31))) q = decide (s.tu (D.ito q) < (if q = p then s.off q + 1 else s.off q))
      rw [b_or, bs_one (by omega) (by omega), rQ.wt q hq]
      by_cases e : q = p
      · subst e
        rw [if_pos rfl, decide_eq_true (show q = q from rfl), decide_eq_true (show s.tu (D.ito q) < s.off q + 1 by omega)]
        simp
      · rw [if_neg e, decide_eq_false e]
        simp
    · intro q hq
      show s.tu (D.ito q) < (if q = p then s.off q + 1 else s.off q) → pm_uI (pm_uI I 33 9 _) 41 p v 41 q = (if q = p ∧ s.tu (D.ito q) = s.off p then v else s.ofv q (s.tu (D.ito q)))
      by_cases e : q = p
      · subst e
        rw [uI_eq]
        intro _
        rw [if_pos ⟨rfl, h.symm⟩]
      · rw [if_neg e, if_neg (fun z => e z.1), uI_nj e, uI_ne (by decide)]
        exact rQ.wv q hq
    · refine (rQ.tk.fr (L := [33, 41]) ((fr.uI (by decide)).tr (fr.uI (by decide))) (by decide)).cg (fun q _ => ?_)
      show (if q < D.ni then wn (s.ofv q) 0 (s.tu (D.ito q)) else []) = (if q < D.ni then wn (fun k => if q = p ∧ k = s.off p then v else s.ofv q k) 0 (s.tu (D.ito q)) else [])
      split
      · apply wn_congr
        intro k _ hk
        by_cases e : q = p
        · subst e
          rw [if_neg (by omega)]
        · rw [if_neg (fun z => e z.1)]
      · rfl
    · exact rQ.gv.fr (L := [33, 41]) ((fr.uI (by decide)).tr (fr.uI (by decide))) (by decide)
end S14
