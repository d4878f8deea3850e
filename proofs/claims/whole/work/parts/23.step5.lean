/-! the patient machine's tick as a whole -/
section S13
variable {d : Nat} {I : Nat → Nat → Int32} {J : Nat → Nat → Int64} {D : DZ} {s : MS} {stl : Int32}
theorem RQ_P0 {I' : Nat → Nat → Int32} (hM : MI D s) (h : RQ I J D s) (hf : fr [34, 35, 36, 37, 40] I I') (hB : CB I' (bqM D (pst D s stl (lb 0) T2))) : RQ I' J D (pst D s stl (lb 0) T2) := by
  have t0 : ∀ j, tuP D s stl (lb 0) j = s.tu j := fun j => by simp [tuP, lb]
  have g0 : ∀ j, gaP D s stl (lb 0) j = s.ga j := fun j => by simp [gaP, lb]
  have o0 : ∀ j, ouP D s stl (lb 0) j = s.ou j := fun j => by simp [ouP, lb]
  refine RQ.mk ?_ hB ?_ ?_ ?_ ?_ ?_ ?_
  · rw [hf 33 (by decide)]; exact h.T
  · intro j hj
    show I' 38 j = nI (tuP D s stl (lb 0) j)
    rw [t0, hf 38 (by decide)]; exact h.tu j hj
  · intro j hj
    rw [hf 39 (by decide), h.got j hj]
    apply bI_congr
    intro i hi
    show goM s j _ = (if _ < 20 then decide (tuP D s stl (lb 0) j < gaP D s stl (lb 0) _) else decide (tuP D s stl (lb 0) j < ouP D s stl (lb 0) _))
    rw [t0, g0, o0]
    rfl
  · intro p hp
    show bt (I' 33 9) p = decide (tuP D s stl (lb 0) (D.ito p) < s.off p)
    rw [t0, hf 33 (by decide)]; exact h.wt p hp
  · intro p hp
    show tuP D s stl (lb 0) (D.ito p) < s.off p → I' 41 p = s.ofv p (tuP D s stl (lb 0) (D.ito p))
    rw [t0, hf 41 (by decide)]; exact h.wv p hp
  · refine (h.tk.fr hf (by decide)).cg (fun p _ => ?_)
    show _ = (if p < D.ni then wn (s.ofv p) 0 (tuP D s stl (lb 0) (D.ito p)) else [])
    rw [t0]
    rfl
  · refine (h.gv.fr hf (by decide)).cg (fun p _ => ?_)
    show (if p < D.no then wn (fun k => tv (nI (s.ouT p k)) (s.ous p k)) 0 (s.ou p) else []) = (if p < D.no then wn (fun k => tv (nI (ouTP s p k)) (ousP D s p k)) 0 (ouP D s stl (lb 0) p) else [])
    rw [o0]
    split
    · apply wn_congr
      intro k h1 h2
      show tv (nI (s.ouT p k)) (s.ous p k) = tv (nI (ouTP s p k)) (ousP D s p k)
      rw [ouTP, ousP, if_neg (by omega), if_neg (by omega)]
    · rfl
theorem step_l3 (hD : DW D) (hM : MI D s) (hT : s.T < 1000) (rD : RD I D) (rQ : RQ I J D (pst D s stl (lb 0) T2)) (h40 : ∀ j, j < D.nb → I 40 j = geI D s stl j) (h37 : ∀ j, j < D.nb → rdM D s j = true → ∀ x, x ∈ inL D j → I 37 x = svM s j x) :
    ∃ I' J', RQ I' J' D (pst D s stl (lb D.nb) T2) ∧ fr fLP I I' ∧ (∀ c, (c < 50 ∨ 53 < c) → J' c = J c) ∧ ∀ out, pm_Go (d + 4) m_P_step 110 [some (.ref 33), some (.int stl), some (.int (tlM D s stl D.nb)), some (.int (nI D.nb))] [] 0 0 (ST I' J') out → pm_Go (d + 4) m_P_step 75 [some (.ref 33), some (.int stl), some (.int (tlM D s stl 0)), some (.int 0)] [] 0 0 (ST I J) out := by
  have hb10 := hD.nb
  have loop : ∀ k j (Ii : Nat → Nat → Int32) (Ji : Nat → Nat → Int64), D.nb - j = k → j ≤ D.nb → RQ Ii Ji D (pst D s stl (lb j) T2) → fr fLP I Ii → (∀ c, (c < 50 ∨ 53 < c) → Ji c = J c) → ∃ I' J', RQ I' J' D (pst D s stl (lb D.nb) T2) ∧ fr fLP I I' ∧ (∀ c, (c < 50 ∨ 53 < c) → J' c = J c) ∧ ∀ out, pm_Go (d + 4) m_P_step 110 [some (.ref 33), some (.int stl), some (.int (tlM D s stl D.nb)), some (.int (nI D.nb))] [] 0 0 (ST I' J') out → pm_Go (d + 4) m_P_step 75 [some (.ref 33), some (.int stl), some (.int (tlM D s stl j)), some (.int (nI j))] [] 0 0 (ST Ii Ji) out := by
    intro k
    induction k with
    | zero =>
      intro j Ii Ji hk hj q1 f1 f2
      have : j = D.nb := by omega
      subst this
      have e10 : Ii 1 0 = nI D.nb := by rw [f1 1 (by decide)]; exact rD.nb
      refine ⟨Ii, Ji, q1, f1, f2, fun out ho => ?_⟩
      refine go_iload_n d_P_step_75 rfl ?_
      refine go_aload_n d_P_step_76 rfl ?_
      refine go_getP (j := 0) d_P_step_77 (Nat.le_of_ble_eq_true rfl) rfl pc_P (Nat.le_of_ble_eq_true rfl) rfl w_113 pt_P_0 ?_
      refine go_gI (j := 0) (nI D.nb) d_P_step_80 (Nat.le_of_ble_eq_true rfl) rfl pc_D (Nat.le_of_ble_eq_true rfl) (by decide) w_36 e10 ?_
      refine go_icmp_ge (tgt := 110) d_P_step_83 (by decide) (fun z => ?_) (fun z => absurd (nI_le (Nat.le_refl _) (by omega)) z)
      exact ho
    | succ k ih =>
      intro j Ii Ji hk hj q1 f1 f2
      have hj2 : j < D.nb := by omega
      have rDi : RD Ii D := rD.fr hD f1 (by decide)
      have e40 : Ii 40 j = geI D s stl j := by rw [f1 40 (by decide)]; exact h40 j hj2
      have hlen := brL_len hD j
      cases hr : rdM D s j
      · obtain ⟨I', J', i1, i2, i3, i4⟩ := ih (j + 1) Ii Ji (by omega) (by omega) (by rw [pst_nr hr]; exact q1) f1 f2
        refine ⟨I', J', i1, i2, i3, fun out ho => ?_⟩
        have i5 := i4 out ho
        rw [tl_nr hD hr] at i5
        have e41 : Ii 40 j = -1 := by rw [e40, geI, if_neg (by simp [hr])]
        refine go_iload_n d_P_step_75 rfl ?_
        refine go_aload_n d_P_step_76 rfl ?_
        refine go_getP (j := 0) d_P_step_77 (Nat.le_of_ble_eq_true rfl) rfl pc_P (Nat.le_of_ble_eq_true rfl) rfl w_113 pt_P_0 ?_
        refine go_gI (j := 0) (nI D.nb) d_P_step_80 (Nat.le_of_ble_eq_true rfl) rfl pc_D (Nat.le_of_ble_eq_true rfl) (by decide) w_36 rDi.nb ?_
        refine go_icmp_ge (tgt := 110) d_P_step_83 (by decide) (fun z => absurd z (nI_ge (by omega) (by omega))) (fun z => ?_)
        refine go_aload_n d_P_step_86 rfl ?_
        refine go_getP (j := 8) d_P_step_87 (Nat.le_of_ble_eq_true rfl) rfl pc_P (Nat.le_of_ble_eq_true rfl) rfl w_125 pt_P_8 ?_
        refine go_iload_n d_P_step_90 rfl ?_
        refine go_ald j (-1) d_P_step_91 (Nat.le_of_ble_eq_true rfl) rfl rfl (by omega) (by decide) e41 ?_
        refine go_iconst (v := -1) d_P_step_92 (by decide) ?_
        refine go_icmp_eq (tgt := 104) d_P_step_93 (by decide) (fun z => ?_) (fun z => absurd rfl z)
        refine go_iinc (v := nI (j + 1)) d_P_step_104 rfl (by first | rfl | exact nI_1 _) rfl ?_
        refine go_goto (tgt := 75) d_P_step_107 (by decide) ?_
        exact i5
      · obtain ⟨I2, J2, r, a1, a2, a3, a4, a5⟩ := step_act (d := d) hD hM hT hj2 hr rDi q1 e40 (by rw [f1 37 (by decide)]; exact h37 j hj2 hr)
        obtain ⟨I', J', i1, i2, i3, i4⟩ := ih (j + 1) I2 J2 (by omega) (by omega) a3 (f1.tr a4) (fun c hc => by rw [a5 c hc]; exact f2 c hc)
        refine ⟨I', J', i1, i2, i3, fun out ho => ?_⟩
        have i5 := i4 out ho
        refine go_iload_n d_P_step_75 rfl ?_
        refine go_aload_n d_P_step_76 rfl ?_
        refine go_getP (j := 0) d_P_step_77 (Nat.le_of_ble_eq_true rfl) rfl pc_P (Nat.le_of_ble_eq_true rfl) rfl w_113 pt_P_0 ?_
        refine go_gI (j := 0) (nI D.nb) d_P_step_80 (Nat.le_of_ble_eq_true rfl) rfl pc_D (Nat.le_of_ble_eq_true rfl) (by decide) w_36 rDi.nb ?_
        refine go_icmp_ge (tgt := 110) d_P_step_83 (by decide) (fun z => absurd z (nI_ge (by omega) (by omega))) (fun z => ?_)
        refine go_aload_n d_P_step_86 rfl ?_
        refine go_getP (j := 8) d_P_step_87 (Nat.le_of_ble_eq_true rfl) rfl pc_P (Nat.le_of_ble_eq_true rfl) rfl w_125 pt_P_8 ?_
        refine go_iload_n d_P_step_90 rfl ?_
        refine go_ald j (geI D s stl j) d_P_step_91 (Nat.le_of_ble_eq_true rfl) rfl rfl (by omega) (by decide) e40 ?_
        refine go_iconst (v := -1) d_P_step_92 (by decide) ?_
        refine go_icmp_eq (tgt := 104) d_P_step_93 (by decide) (fun z => absurd z (by rw [geI, if_pos hr]; exact bI_ge _ (by omega))) (fun z => ?_)
        refine go_iload_n d_P_step_96 rfl ?_
        refine go_aload_n d_P_step_97 rfl ?_
        refine go_iload_n d_P_step_98 rfl ?_
        refine go_callV (k2 := m_P_act) (As := [.int (nI j)]) (r := some (.int r)) d_P_step_99 ok_P_act (Nat.le_of_ble_eq_true rfl) rfl pc_P rfl vl_P_110 rfl rfl (Nat.le_of_ble_eq_true rfl) (Nat.le_of_ble_eq_true rfl) (Nat.le_of_ble_eq_true rfl) (Nat.le_of_ble_eq_true rfl) rfl rfl a1 ?_
        refine go_ior d_P_step_102 ?_
        refine go_top (tlM D s stl (j + 1)) a2 ?_
        refine go_istore_n d_P_step_103 (Nat.le_of_ble_eq_true rfl) rfl ?_
        refine go_iinc (v := nI (j + 1)) d_P_step_104 rfl (by first | rfl | exact nI_1 _) rfl ?_
        refine go_goto (tgt := 75) d_P_step_107 (by decide) ?_
        exact i5
  exact loop D.nb 0 I J (by omega) (by omega) rQ fr.rf (fun _ _ => rfl)
theorem tl_0 : tlM D s stl 0 = 0 := bI_z (fun i _ => by unfold tlF; split <;> simp)
/-- the tick -/
theorem sp_step (hD : DW D) (hM : MI D s) (hT : s.T < 1000) (rD : RD I D) (rQ : RQ I J D s) : ∃ I' J', pm_Go (d + 4) m_P_step 0 [some (.ref 33), some (.int stl), none, none] [] 0 0 (ST I J) (.inl (some (.int (tlM D s stl D.nb))), ST I' J') ∧ RQ I' J' D (stepM D s stl) ∧ fr [33, 34, 35, 36, 37, 38, 39, 40, 42, 44, 45, 46, 47, 48] I I' ∧ (∀ c, (c < 50 ∨ 53 < c) → J' c = J c) := by
  have h20 := hD.nc
  have hno := hD.no
  have hni := hD.ni
  obtain ⟨I1, a1, a2, a3, a4, a5⟩ := sp_look (d := d + 1) (J := J) (ex := D.ex) rD.nc hD.nc rD.ni hD.ni (fun c hc => ⟨(rD.ch c hc).2.2.2, (hD.ch c hc).2.2⟩)
  have rD1 : RD I1 D := rD.fr hD a2 (by decide)
  have h36 : ∀ b, b < 80 → I1 36 b = nI (bqM D s b).length := fun b hb => by rw [a3 b hb]; exact (rQ.B b hb).1
  obtain ⟨I2, b1, b2, b3⟩ := step_l1 (d := d) (J := J) (stl := stl) hD hM rD1 h36 (by rw [a2 33 (by decide)]; exact rQ.wt) (by rw [a2 39 (by decide)]; exact rQ.got)
  have rD2 : RD I2 D := rD1.fr hD b1 (by decide)
  have h36' : ∀ b, b < 80 → I2 36 b = nI (bqM D s b).length := by rw [b1 36 (by decide)]; exact h36
  obtain ⟨I3, c1, c2, c3⟩ := step_l2 (d := d) (J := J) (stl := stl) hD hM rD2 h36' ((rQ.B.fr a2 (by decide) (by decide)).fr b1 (by decide) (by decide))
  have rD3 : RD I3 D := rD2.fr hD c1 (by decide)
  have f3 : fr [34, 35, 36, 37, 40] I I3 := ((a2.up (by decide)).tr (b1.up (by decide))).tr (c1.up (by decide))
  have q3 := RQ_P0 (stl := stl) hM rQ f3 c2
  have h40 : ∀ j, j < D.nb → I3 40 j = geI D s stl j := by rw [c1 40 (by decide)]; exact b2
  have h37 : ∀ j, j < D.nb → rdM D s j = true → ∀ x, x ∈ inL D j → I3 37 x = svM s j x := by
    intro j hj hr x hx
    rw [c1 37 (by decide), b1 37 (by decide), svM]
    rcases (inL_mem hD).mp hx with ⟨k1, k2⟩ | ⟨k0, k1, k2⟩
    · rw [if_pos (by omega), a4 x k1]
      have k3 := (hD.ch x k1).2.2
      have k4 := rd_ch hD k1 (k2 ▸ hr)
      have k5 := (rQ.B (x * 4 + D.ex x) (by omega)).2.2 0 (s.tok x (s.tu j)) (by
        rw [bq_at hD k1 (Nat.le_refl _), wn_get]
        refine ⟨by omega, ?_⟩
        rw [gnM, if_pos rfl, k2]
        rfl)
      exact k5
    · have k3 := rd_ip hD (p := x - 20) (by omega) (k2 ▸ hr)
      have k4 := a5 (x - 20) (by omega)
      rw [show 20 + (x - 20) = x by omega] at k4
      rw [if_neg (by omega), k4, rQ.wv (x - 20) (by omega) k3, k2]
  obtain ⟨I4, J4, e1, e2, e3, e4⟩ := step_l3 (d := d) hD hM hT rD3 q3 h40 h37
  have f4 : fr [33, 34, 35, 36, 37, 38, 39, 40, 42, 44, 45, 46, 47, 48] I (pm_uI I4 33 1 (nI (s.T + 1))) := ((f3.up (by decide)).tr (e2.up (by decide))).tr (fr.uI (by decide))
  have eT : I4 33 1 = nI s.T := e1.T
  refine ⟨pm_uI I4 33 1 (nI (s.T + 1)), J4, ?_, ?_, f4, e3⟩
  · refine go_aload_n d_P_step_0 rfl ?_
    refine go_callV (k2 := m_P_look) (As := []) (r := none) d_P_step_1 ok_P_look (Nat.le_of_ble_eq_true rfl) rfl pc_P rfl vl_P_94 rfl rfl (Nat.le_of_ble_eq_true rfl) (Nat.le_of_ble_eq_true rfl) (Nat.le_of_ble_eq_true rfl) (Nat.le_of_ble_eq_true rfl) rfl rfl a1 ?_
    refine go_iconst (v := 0) d_P_step_4 (by decide) ?_
    refine go_istore_n d_P_step_5 (Nat.le_of_ble_eq_true rfl) rfl ?_
    refine b3 _ ?_
    refine go_iconst (v := 0) d_P_step_47 (by decide) ?_
    refine go_istore_n d_P_step_48 (Nat.le_of_ble_eq_true rfl) rfl ?_
    refine c3 _ ?_
    refine go_iconst (v := 0) d_P_step_71 (by decide) ?_
    refine go_istore_n d_P_step_72 (Nat.le_of_ble_eq_true rfl) rfl ?_
    refine go_iconst (v := 0) d_P_step_73 (by decide) ?_
    refine go_istore_n d_P_step_74 (Nat.le_of_ble_eq_true rfl) rfl ?_
    have e5 := e4 (.inl (some (.int (tlM D s stl D.nb))), ST (pm_uI I4 33 1 (nI (s.T + 1))) J4)
    rw [tl_0] at e5
    refine e5 ?_
    refine go_aload_n d_P_step_110 rfl ?_
    refine go_dup d_P_step_111 rfl ?_
    refine go_gI (j := 1) (nI s.T) d_P_step_112 (Nat.le_of_ble_eq_true rfl) rfl pc_P (Nat.le_of_ble_eq_true rfl) (by decide) w_114 eT ?_
    refine go_iconst (v := 1) d_P_step_115 (by decide) ?_
    refine go_iadd d_P_step_116 ?_
    refine go_top (nI (s.T + 1)) (nI_1 _) ?_
    refine go_pI (j := 1) d_P_step_117 (Nat.le_of_ble_eq_true rfl) rfl pc_P (Nat.le_of_ble_eq_true rfl) (by decide) w_114 rfl (Or.inl rfl) ?_
    refine go_iload_n d_P_step_120 rfl ?_
    exact go_ireturn (st := []) d_P_step_121 rfl (Nat.le_of_ble_eq_true rfl) (Nat.le_of_ble_eq_true rfl) rfl
  · have n33 : ∀ q, q ≠ 1 → pm_uI I4 33 1 (nI (s.T + 1)) 33 q = I4 33 q := fun q hq => uI_nj hq
    refine RQ.mk uI_eq ?_ ?_ ?_ ?_ ?_ ?_ ?_
    · exact e1.B.eqv rfl rfl
    · exact e1.tu
    · exact e1.got
    · intro p hp
      rw [n33 9 (by decide)]
      exact e1.wt p hp
    · exact e1.wv
    · exact e1.tk.fr (L := [33]) (fr.uI (by decide)) (by decide)
    · exact e1.gv.fr (L := [33]) (fr.uI (by decide)) (by decide)
end S13
