/-! the machine by the clock -/
def mkv (D : DZ) (ofv : Nat → Nat → Int32) (now : Nat → Int32) (k j : Nat) : Int32 := (inL D j).foldl (fun v x => jn (D.op j) v (if x < 20 then now x else ofv (x - 20) k)) (D.ct j)
def nwM (D : DZ) (ofv : Nat → Nat → Int32) : Nat → Nat → Int32
  | 0 => D.fs
  | k + 1 => fun c => mkv D ofv (nwM D ofv k) k (D.fm c)
def bcM (D : DZ) (ofv : Nat → Nat → Int32) (p k : Nat) : Int32 := mkv D ofv (nwM D ofv k) k (D.ofm p)
theorem mkv_cg {D : DZ} (hD : DW D) {ofv ofv' : Nat → Nat → Int32} {now now' : Nat → Int32} {k j : Nat} (h1 : ∀ c, c < D.nc → now c = now' c) (h2 : ∀ p, p < D.ni → ofv p k = ofv' p k) : mkv D ofv now k j = mkv D ofv' now' k j := by
  have h20 := hD.nc
  unfold mkv
  rw [← fo_foldl, ← fo_foldl]
  apply fo_congr
  intro q i hi
  rcases (inL_mem hD).mp (gi_mem hi) with ⟨k1, -⟩ | ⟨k0, k1, -⟩
  · rw [if_pos (by omega), if_pos (by omega), h1 _ k1]
  · rw [if_neg (by omega), if_neg (by omega), h2 _ (by omega)]
theorem nwM_cg {D : DZ} (hD : DW D) {ofv ofv' : Nat → Nat → Int32} : ∀ {k : Nat}, (∀ p, p < D.ni → ∀ i, i < k → ofv p i = ofv' p i) → nwM D ofv k = nwM D ofv' k
  | 0, _ => rfl
  | k + 1, h => by
    have ih := nwM_cg hD (k := k) (fun p hp i hi => h p hp i (by omega))
    funext c
    show mkv D ofv (nwM D ofv k) k (D.fm c) = mkv D ofv' (nwM D ofv' k) k (D.fm c)
    rw [ih]
    exact mkv_cg hD (fun _ _ => rfl) (fun p hp => h p hp k (by omega))
theorem bcM_cg {D : DZ} (hD : DW D) {ofv ofv' : Nat → Nat → Int32} {k p : Nat} (h : ∀ p, p < D.ni → ∀ i, i < k + 1 → ofv p i = ofv' p i) : bcM D ofv p k = bcM D ofv' p k := by
  unfold bcM
  rw [nwM_cg hD (fun p hp i hi => h p hp i (by omega))]
  exact mkv_cg hD (fun _ _ => rfl) (fun p hp => h p hp k (by omega))
def RK (I : Nat → Nat → Int32) (D : DZ) (s : MS) (cy : Nat) : Prop := (I 54 2 = nI cy) ∧ (cy ≤ 1000) ∧ (∀ p, p < D.ni → cy ≤ s.tu (D.ito p)) ∧ (∀ c, c < D.nc → I 55 c = nwM D s.ofv cy c) ∧ (∀ p, p < D.no → ∀ k, k < cy → I (58 + p) k = bcM D s.ofv p k)
theorem RK.cy {I : Nat → Nat → Int32} {D : DZ} {s : MS} {cy : Nat} (h : RK I D s cy) : I 54 2 = nI cy := h.1
theorem RK.m {I : Nat → Nat → Int32} {D : DZ} {s : MS} {cy : Nat} (h : RK I D s cy) : cy ≤ 1000 := h.2.1
theorem RK.tu {I : Nat → Nat → Int32} {D : DZ} {s : MS} {cy : Nat} (h : RK I D s cy) : ∀ p, p < D.ni → cy ≤ s.tu (D.ito p) := h.2.2.1
theorem RK.sn {I : Nat → Nat → Int32} {D : DZ} {s : MS} {cy : Nat} (h : RK I D s cy) : ∀ c, c < D.nc → I 55 c = nwM D s.ofv cy c := h.2.2.2.1
theorem RK.gv {I : Nat → Nat → Int32} {D : DZ} {s : MS} {cy : Nat} (h : RK I D s cy) : ∀ p, p < D.no → ∀ k, k < cy → I (58 + p) k = bcM D s.ofv p k := h.2.2.2.2
theorem RK.mk {I : Nat → Nat → Int32} {D : DZ} {s : MS} {cy : Nat} (cy_ : I 54 2 = nI cy) (m_ : cy ≤ 1000) (tu_ : ∀ p, p < D.ni → cy ≤ s.tu (D.ito p)) (sn_ : ∀ c, c < D.nc → I 55 c = nwM D s.ofv cy c) (gv_ : ∀ p, p < D.no → ∀ k, k < cy → I (58 + p) k = bcM D s.ofv p k) : RK I D s cy := ⟨cy_, m_, tu_, sn_, gv_⟩
section S15
variable {d : Nat} {I : Nat → Nat → Int32} {J : Nat → Nat → Int64} {D : DZ} {s : MS} {cy : Nat}
theorem RK.fr {L : List Nat} {I' : Nat → Nat → Int32} (h : RK I D s cy) (hD : DW D) (hf : fr L I I') (hL : ∀ c, c ∈ L → c < 54 ∨ 61 < c) : RK I' D s cy := by
  have hh : ∀ c, 54 ≤ c → c ≤ 61 → I' c = I c := fun c h1 h2 => hf c (fun z => by have := hL c z; omega)
  have hno := hD.no
  refine RK.mk ?_ h.m h.tu ?_ ?_
  · rw [hh 54 (by omega) (by omega)]; exact h.cy
  · rw [hh 55 (by omega) (by omega)]; exact h.sn
  · intro p hp
    rw [hh (58 + p) (by omega) (by omega)]
    exact h.gv p hp
theorem RK.up {s' : MS} (h : RK I D s cy) (hD : DW D) (h1 : ∀ p, p < D.ni → s.tu (D.ito p) ≤ s'.tu (D.ito p)) (h2 : ∀ p, p < D.ni → ∀ i, i < cy → s.ofv p i = s'.ofv p i) : RK I D s' cy := by
  refine RK.mk h.cy h.m (fun p hp => Nat.le_trans (h.tu p hp) (h1 p hp)) (fun c hc => ?_) (fun p hp k hk => ?_)
  · rw [h.sn c hc, nwM_cg hD h2]
  · rw [h.gv p hp k hk]
    exact bcM_cg hD (fun p hp i hi => h2 p hp i (by omega))
theorem RK.stp {stl : Int32} (h : RK I D s cy) (hD : DW D) : RK I D (stepM D s stl) cy := h.up hD (fun _ _ => tu_ge) (fun _ _ _ _ => rfl)
theorem RK.ofr {p : Nat} {v : Int32} (h : RK I D s cy) (hD : DW D) (hp : p < D.ni) (ho : s.off p = s.tu (D.ito p)) : RK I D (ofM s p v) cy := by
  refine h.up hD (fun _ _ => Nat.le_refl _) (fun q hq i hi => ?_)
  show s.ofv q i = (if q = p ∧ i = s.off p then v else s.ofv q i)
  by_cases e : q = p
  · subst e
    have := h.tu q hq
    rw [if_neg (by omega)]
  · rw [if_neg (fun z => e z.1)]
theorem sp_C_reset (hD : DW D) (rD : RD I D) : ∃ I', pm_Go (d + 1) m_C_reset 0 [some (.ref 54), none] [] 0 0 (ST I J) (.inl none, ST I' J) ∧ RK I' D (iniM D) 0 ∧ fr [54, 55] I I' := by
  have h20 := hD.nc
  have loop : ∀ k c (Ii : Nat → Nat → Int32), D.nc - c = k → c ≤ D.nc → RD Ii D → (∀ q, q < c → Ii 55 q = D.fs q) → ∃ I', pm_Go (d + 1) m_C_reset 7 [some (.ref 54), some (.int (nI c))] [] 0 0 (ST Ii J) (.inl none, ST I' J) ∧ (∀ q, q < D.nc → I' 55 q = D.fs q) ∧ fr [55] Ii I' := by
    intro k
    induction k with
    | zero =>
      intro c Ii hk hc rDi q1
      have : c = D.nc := by omega
      subst this
      refine ⟨Ii, ?_, q1, fr.rf⟩
      refine go_iload_n d_C_reset_7 rfl ?_
      refine go_aload_n d_C_reset_8 rfl ?_
      refine go_getP (j := 0) d_C_reset_9 (Nat.le_of_ble_eq_true rfl) rfl pc_C (Nat.le_of_ble_eq_true rfl) rfl w_175 pt_C_0 ?_
      refine go_gI (j := 1) (nI D.nc) d_C_reset_12 (Nat.le_of_ble_eq_true rfl) rfl pc_D (Nat.le_of_ble_eq_true rfl) (by decide) w_38 rDi.nc ?_
      refine go_icmp_ge (tgt := 39) d_C_reset_15 (by decide) (fun z => ?_) (fun z => absurd (nI_le (Nat.le_refl _) (by omega)) z)
      exact go_vreturn (st := []) d_C_reset_39 rfl (Nat.le_of_ble_eq_true rfl) (Nat.le_of_ble_eq_true rfl) rfl
    | succ k ih =>
      intro c Ii hk hc rDi q1
      have hc2 : c < D.nc := by omega
      obtain ⟨I', i1, i2, i3⟩ := ih (c + 1) (pm_uI Ii 55 c (D.fs c)) (by omega) (by omega) (rDi.fr hD (fr.uI (L := [55]) (by decide)) (by decide)) (fun q hq => by
        by_cases e : q = c
        · rw [e, uI_eq]
        · rw [uI_nj e]; exact q1 q (by omega))
      refine ⟨I', ?_, i2, (fr.uI (by decide)).tr i3⟩
      refine go_iload_n d_C_reset_7 rfl ?_
      refine go_aload_n d_C_reset_8 rfl ?_
      refine go_getP (j := 0) d_C_reset_9 (Nat.le_of_ble_eq_true rfl) rfl pc_C (Nat.le_of_ble_eq_true rfl) rfl w_175 pt_C_0 ?_
      refine go_gI (j := 1) (nI D.nc) d_C_reset_12 (Nat.le_of_ble_eq_true rfl) rfl pc_D (Nat.le_of_ble_eq_true rfl) (by decide) w_38 rDi.nc ?_
      refine go_icmp_ge (tgt := 39) d_C_reset_15 (by decide) (fun z => absurd z (nI_ge (by omega) (by omega))) (fun z => ?_)
      refine go_aload_n d_C_reset_18 rfl ?_
      refine go_getP (j := 3) d_C_reset_19 (Nat.le_of_ble_eq_true rfl) rfl pc_C (Nat.le_of_ble_eq_true rfl) rfl w_178 pt_C_3 ?_
      refine go_iload_n d_C_reset_22 rfl ?_
      refine go_aload_n d_C_reset_23 rfl ?_
      refine go_getP (j := 0) d_C_reset_24 (Nat.le_of_ble_eq_true rfl) rfl pc_C (Nat.le_of_ble_eq_true rfl) rfl w_175 pt_C_0 ?_
      refine go_getP (j := 8) d_C_reset_27 (Nat.le_of_ble_eq_true rfl) rfl pc_D (Nat.le_of_ble_eq_true rfl) rfl w_57 pt_D_8 ?_
      refine go_iload_n d_C_reset_30 rfl ?_
      refine go_ald c (D.fs c) d_C_reset_31 (Nat.le_of_ble_eq_true rfl) rfl rfl (by omega) (by decide) (rDi.ch c hc2).2.2.1 ?_
      refine go_ast c d_C_reset_32 (Nat.le_of_ble_eq_true rfl) rfl rfl (by omega) (by decide) ?_
      refine go_iinc (v := nI (c + 1)) d_C_reset_33 rfl (by first | rfl | exact nI_1 _) rfl ?_
      refine go_goto (tgt := 7) d_C_reset_36 (by decide) ?_
      exact i1
  obtain ⟨I', i1, i2, i3⟩ := loop D.nc 0 (pm_uI I 54 2 0) (by omega) (by omega) (rD.fr hD (fr.uI (L := [54]) (by decide)) (by decide)) (fun q hq => by omega)
  refine ⟨I', ?_, ?_, (fr.uI (by decide)).tr (i3.up (by decide))⟩
  · refine go_aload_n d_C_reset_0 rfl ?_
    refine go_iconst (v := 0) d_C_reset_1 (by decide) ?_
    refine go_pI (j := 2) d_C_reset_2 (Nat.le_of_ble_eq_true rfl) rfl pc_C (Nat.le_of_ble_eq_true rfl) (by decide) w_177 rfl (Or.inl rfl) ?_
    refine go_iconst (v := 0) d_C_reset_5 (by decide) ?_
    refine go_istore_n d_C_reset_6 (Nat.le_of_ble_eq_true rfl) rfl ?_
    exact i1
  · refine RK.mk ?_ (Nat.zero_le _) (fun _ _ => Nat.zero_le _) i2 (fun p hp k hk => by omega)
    rw [i3 54 (by decide), uI_eq]
    rfl
theorem sp_goThrough {ofv : Nat → Nat → Int32} {k : Nat} (hD : DW D) (rD : RD I D) (hk : k < 1000) (htk : ∀ p, p < D.ni → I (44 + p) k = ofv p k) (hsn : ∀ c, c < D.nc → I 55 c = nwM D ofv k c) (hgv : ∀ p, p < D.no → ∀ i, i < k → I (58 + p) i = bcM D ofv p i) : ∃ I', pm_Go (d + 3) m_C_goThrough 0 [some (.ref 54), some (.int (nI k)), none] [] 0 0 (ST I J) (.inl none, ST I' J) ∧ fr [55, 56, 58, 59, 60, 61] I I' ∧ (∀ c, c < D.nc → I' 55 c = nwM D ofv (k + 1) c) ∧ (∀ p, p < D.no → ∀ i, i < k + 1 → I' (58 + p) i = bcM D ofv p i) := by
  have h20 := hD.nc
  have hb10 := hD.nb
  have hni := hD.ni
  have hno := hD.no
  have loop4 : ∀ n p (Ii : Nat → Nat → Int32), D.no - p = n → p ≤ D.no → RD Ii D → fr [55, 56, 58, 59, 60, 61] I Ii → (∀ c, c < D.nc → Ii 55 c = nwM D ofv (k + 1) c) → (∀ j, j < D.nb → Ii 56 j = mkv D ofv (nwM D ofv k) k j) → (∀ q, q < D.no → ∀ i, i < k + 1 → (i < k ∨ q < p) → Ii (58 + q) i = bcM D ofv q i) → ∃ I', pm_Go (d + 3) m_C_goThrough 114 [some (.ref 54), some (.int (nI k)), some (.int (nI p))] [] 0 0 (ST Ii J) (.inl none, ST I' J) ∧ fr [55, 56, 58, 59, 60, 61] I I' ∧ (∀ c, c < D.nc → I' 55 c = nwM D ofv (k + 1) c) ∧ (∀ p, p < D.no → ∀ i, i < k + 1 → I' (58 + p) i = bcM D ofv p i) := by
    intro n
    induction n with
    | zero =>
      intro p Ii hn hp rDi f1 q1 q2 q3
      have : p = D.no := by omega
      subst this
      refine ⟨Ii, ?_, f1, q1, fun q hq i hi => q3 q hq i hi (Or.inr hq)⟩
      refine go_iload_n d_C_goThrough_114 rfl ?_
      refine go_aload_n d_C_goThrough_115 rfl ?_
      refine go_getP (j := 0) d_C_goThrough_116 (Nat.le_of_ble_eq_true rfl) rfl pc_C (Nat.le_of_ble_eq_true rfl) rfl w_175 pt_C_0 ?_
      refine go_gI (j := 3) (nI D.no) d_C_goThrough_119 (Nat.le_of_ble_eq_true rfl) rfl pc_D (Nat.le_of_ble_eq_true rfl) (by decide) w_47 rDi.no ?_
      refine go_icmp_ge (tgt := 153) d_C_goThrough_122 (by decide) (fun z => ?_) (fun z => absurd (nI_le (Nat.le_refl _) (by omega)) z)
      exact go_vreturn (st := []) d_C_goThrough_153 rfl (Nat.le_of_ble_eq_true rfl) (Nat.le_of_ble_eq_true rfl) rfl
    | succ n ih =>
      intro p Ii hn hp rDi f1 q1 q2 q3
      have hp2 : p < D.no := by omega
      have e8 := rDi.ot p hp2
      have e56 := q2 (D.ofm p) (hD.ot p hp2)
      have h10 := hD.ot p hp2
      have fu : fr [55, 56, 58, 59, 60, 61] Ii (pm_uI Ii (58 + p) k (mkv D ofv (nwM D ofv k) k (D.ofm p))) := fr.uI (by simp; omega)
      obtain ⟨I', i1, i2⟩ := ih (p + 1) (pm_uI Ii (58 + p) k (mkv D ofv (nwM D ofv k) k (D.ofm p))) (by omega) (by omega) (rDi.fr hD fu (by decide)) (f1.tr fu) (fun c hc => by rw [uI_ne (by omega)]; exact q1 c hc) (fun j hj => by rw [uI_ne (by omega)]; exact q2 j hj) (fun q hq i hi hor => by
        by_cases e : q = p
        · subst e
          by_cases e2 : i = k
          · rw [e2, uI_eq]
            rfl
          · rw [uI_nj e2]
            exact q3 q hq i hi (by omega)
        · rw [uI_ne (by omega)]
          exact q3 q hq i hi (by omega))
      refine ⟨I', ?_, i2⟩
      refine go_iload_n d_C_goThrough_114 rfl ?_
      refine go_aload_n d_C_goThrough_115 rfl ?_
      refine go_getP (j := 0) d_C_goThrough_116 (Nat.le_of_ble_eq_true rfl) rfl pc_C (Nat.le_of_ble_eq_true rfl) rfl w_175 pt_C_0 ?_
      refine go_gI (j := 3) (nI D.no) d_C_goThrough_119 (Nat.le_of_ble_eq_true rfl) rfl pc_D (Nat.le_of_ble_eq_true rfl) (by decide) w_47 rDi.no ?_
      refine go_icmp_ge (tgt := 153) d_C_goThrough_122 (by decide) (fun z => absurd z (nI_ge (by omega) (by omega))) (fun z => ?_)
      refine go_aload_n d_C_goThrough_125 rfl ?_
      refine go_getP (j := 5) d_C_goThrough_126 (Nat.le_of_ble_eq_true rfl) rfl pc_C (Nat.le_of_ble_eq_true rfl) rfl w_180 pt_C_5 ?_
      refine go_iload_n d_C_goThrough_129 rfl ?_
      refine go_row3 p (58 + p) d_C_goThrough_130 (Nat.le_of_ble_eq_true rfl) rfl rfl (by omega) (by decide) (pt_57 p (by omega)) ?_
      refine go_iload_n d_C_goThrough_131 rfl ?_
      refine go_aload_n d_C_goThrough_132 rfl ?_
      refine go_getP (j := 4) d_C_goThrough_133 (Nat.le_of_ble_eq_true rfl) rfl pc_C (Nat.le_of_ble_eq_true rfl) rfl w_179 pt_C_4 ?_
      refine go_aload_n d_C_goThrough_136 rfl ?_
      refine go_getP (j := 0) d_C_goThrough_137 (Nat.le_of_ble_eq_true rfl) rfl pc_C (Nat.le_of_ble_eq_true rfl) rfl w_175 pt_C_0 ?_
      refine go_getP (j := 10) d_C_goThrough_140 (Nat.le_of_ble_eq_true rfl) rfl pc_D (Nat.le_of_ble_eq_true rfl) rfl w_63 pt_D_10 ?_
      refine go_iload_n d_C_goThrough_143 rfl ?_
      refine go_ald p (nI (D.ofm p)) d_C_goThrough_144 (Nat.le_of_ble_eq_true rfl) rfl rfl (by omega) (by decide) e8 ?_
      refine go_ald (D.ofm p) (mkv D ofv (nwM D ofv k) k (D.ofm p)) d_C_goThrough_145 (Nat.le_of_ble_eq_true rfl) rfl rfl (by omega) (by decide) e56 ?_
      refine go_ast k d_C_goThrough_146 (show 58 + p < 104 by omega) (sh_58 p (by omega)) rfl hk (by decide) ?_
      refine go_iinc (v := nI (p + 1)) d_C_goThrough_147 rfl (by first | rfl | exact nI_1 _) rfl ?_
      refine go_goto (tgt := 114) d_C_goThrough_150 (by decide) ?_
      exact i1
  have loop3 : ∀ n c (Ii : Nat → Nat → Int32), D.nc - c = n → c ≤ D.nc → RD Ii D → fr [55, 56, 58, 59, 60, 61] I Ii → (∀ q, q < c → Ii 55 q = nwM D ofv (k + 1) q) → (∀ j, j < D.nb → Ii 56 j = mkv D ofv (nwM D ofv k) k j) → (∀ q, q < D.no → ∀ i, i < k → Ii (58 + q) i = bcM D ofv q i) → ∃ I', pm_Go (d + 3) m_C_goThrough 75 [some (.ref 54), some (.int (nI k)), some (.int (nI c))] [] 0 0 (ST Ii J) (.inl none, ST I' J) ∧ fr [55, 56, 58, 59, 60, 61] I I' ∧ (∀ c, c < D.nc → I' 55 c = nwM D ofv (k + 1) c) ∧ (∀ p, p < D.no → ∀ i, i < k + 1 → I' (58 + p) i = bcM D ofv p i) := by
    intro n
    induction n with
    | zero =>
      intro c Ii hn hc rDi f1 q1 q2 q3
      have : c = D.nc := by omega
      subst this
      obtain ⟨I', i1, i2⟩ := loop4 D.no 0 Ii (by omega) (by omega) rDi f1 q1 q2 (fun q hq i hi hor => q3 q hq i (by omega))
      refine ⟨I', ?_, i2⟩
      refine go_iload_n d_C_goThrough_75 rfl ?_
      refine go_aload_n d_C_goThrough_76 rfl ?_
      refine go_getP (j := 0) d_C_goThrough_77 (Nat.le_of_ble_eq_true rfl) rfl pc_C (Nat.le_of_ble_eq_true rfl) rfl w_175 pt_C_0 ?_
      refine go_gI (j := 1) (nI D.nc) d_C_goThrough_80 (Nat.le_of_ble_eq_true rfl) rfl pc_D (Nat.le_of_ble_eq_true rfl) (by decide) w_38 rDi.nc ?_
      refine go_icmp_ge (tgt := 112) d_C_goThrough_83 (by decide) (fun z => ?_) (fun z => absurd (nI_le (Nat.le_refl _) (by omega)) z)
      refine go_iconst (v := 0) d_C_goThrough_112 (by decide) ?_
      refine go_istore_n d_C_goThrough_113 (Nat.le_of_ble_eq_true rfl) rfl ?_
      exact i1
    | succ n ih =>
      intro c Ii hn hc rDi f1 q1 q2 q3
      have hc2 : c < D.nc := by omega
      have e4 := (rDi.ch c hc2).1
      have h10 := (hD.ch c hc2).1
      have e56 := q2 (D.fm c) h10
      have fu : fr [55, 56, 58, 59, 60, 61] Ii (pm_uI Ii 55 c (mkv D ofv (nwM D ofv k) k (D.fm c))) := fr.uI (by decide)
      obtain ⟨I', i1, i2⟩ := ih (c + 1) (pm_uI Ii 55 c (mkv D ofv (nwM D ofv k) k (D.fm c))) (by omega) (by omega) (rDi.fr hD fu (by decide)) (f1.tr fu) (fun q hq => by
        by_cases e : q = c
        · rw [e, uI_eq]
          rfl
        · rw [uI_nj e]; exact q1 q (by omega)) (fun j hj => by rw [uI_ne (by omega)]; exact q2 j hj) (fun q hq i hi => by rw [uI_ne (by omega)]; exact q3 q hq i hi)
      refine ⟨I', ?_, i2⟩
      refine go_iload_n d_C_goThrough_75 rfl ?_
      refine go_aload_n d_C_goThrough_76 rfl ?_
      refine go_getP (j := 0) d_C_goThrough_77 (Nat.le_of_ble_eq_true rfl) rfl pc_C (Nat.le_of_ble_eq_true rfl) rfl w_175 pt_C_0 ?_
      refine go_gI (j := 1) (nI D.nc) d_C_goThrough_80 (Nat.le_of_ble_eq_true rfl) rfl pc_D (Nat.le_of_ble_eq_true rfl) (by decide) w_38 rDi.nc ?_
      refine go_icmp_ge (tgt := 112) d_C_goThrough_83 (by decide) (fun z => absurd z (nI_ge (by omega) (by omega))) (fun z => ?_)
      refine go_aload_n d_C_goThrough_86 rfl ?_
      refine go_getP (j := 3) d_C_goThrough_87 (Nat.le_of_ble_eq_true rfl) rfl pc_C (Nat.le_of_ble_eq_true rfl) rfl w_178 pt_C_3 ?_
      refine go_iload_n d_C_goThrough_90 rfl ?_
      refine go_aload_n d_C_goThrough_91 rfl ?_
      refine go_getP (j := 4) d_C_goThrough_92 (Nat.le_of_ble_eq_true rfl) rfl pc_C (Nat.le_of_ble_eq_true rfl) rfl w_179 pt_C_4 ?_
      refine go_aload_n d_C_goThrough_95 rfl ?_
      refine go_getP (j := 0) d_C_goThrough_96 (Nat.le_of_ble_eq_true rfl) rfl pc_C (Nat.le_of_ble_eq_true rfl) rfl w_175 pt_C_0 ?_
      refine go_getP (j := 6) d_C_goThrough_99 (Nat.le_of_ble_eq_true rfl) rfl pc_D (Nat.le_of_ble_eq_true rfl) rfl w_52 pt_D_6 ?_
      refine go_iload_n d_C_goThrough_102 rfl ?_
      refine go_ald c (nI (D.fm c)) d_C_goThrough_103 (Nat.le_of_ble_eq_true rfl) rfl rfl (by omega) (by decide) e4 ?_
      refine go_ald (D.fm c) (mkv D ofv (nwM D ofv k) k (D.fm c)) d_C_goThrough_104 (Nat.le_of_ble_eq_true rfl) rfl rfl (by omega) (by decide) e56 ?_
      refine go_ast c d_C_goThrough_105 (Nat.le_of_ble_eq_true rfl) rfl rfl (by omega) (by decide) ?_
      refine go_iinc (v := nI (c + 1)) d_C_goThrough_106 rfl (by first | rfl | exact nI_1 _) rfl ?_
      refine go_goto (tgt := 75) d_C_goThrough_109 (by decide) ?_
      exact i1
  have loop2 : ∀ n j (Ii : Nat → Nat → Int32), D.nb - j = n → j ≤ D.nb → RD Ii D → fr [55, 56, 58, 59, 60, 61] I Ii → (∀ c, c < D.nc → Ii 55 c = nwM D ofv k c) → (∀ p, p < D.ni → Ii 55 (20 + p) = ofv p k) → (∀ q, q < j → Ii 56 q = mkv D ofv (nwM D ofv k) k q) → (∀ q, q < D.no → ∀ i, i < k → Ii (58 + q) i = bcM D ofv q i) → ∃ I', pm_Go (d + 3) m_C_goThrough 38 [some (.ref 54), some (.int (nI k)), some (.int (nI j))] [] 0 0 (ST Ii J) (.inl none, ST I' J) ∧ fr [55, 56, 58, 59, 60, 61] I I' ∧ (∀ c, c < D.nc → I' 55 c = nwM D ofv (k + 1) c) ∧ (∀ p, p < D.no → ∀ i, i < k + 1 → I' (58 + p) i = bcM D ofv p i) := by
    intro n
    induction n with
    | zero =>
      intro j Ii hn hj rDi f1 q1 q1' q2 q3
      have : j = D.nb := by omega
      subst this
      obtain ⟨I', i1, i2⟩ := loop3 D.nc 0 Ii (by omega) (by omega) rDi f1 (fun q hq => by omega) q2 q3
      refine ⟨I', ?_, i2⟩
      refine go_iload_n d_C_goThrough_38 rfl ?_
      refine go_aload_n d_C_goThrough_39 rfl ?_
      refine go_getP (j := 0) d_C_goThrough_40 (Nat.le_of_ble_eq_true rfl) rfl pc_C (Nat.le_of_ble_eq_true rfl) rfl w_175 pt_C_0 ?_
      refine go_gI (j := 0) (nI D.nb) d_C_goThrough_43 (Nat.le_of_ble_eq_true rfl) rfl pc_D (Nat.le_of_ble_eq_true rfl) (by decide) w_35 rDi.nb ?_
      refine go_icmp_ge (tgt := 73) d_C_goThrough_46 (by decide) (fun z => ?_) (fun z => absurd (nI_le (Nat.le_refl _) (by omega)) z)
      refine go_iconst (v := 0) d_C_goThrough_73 (by decide) ?_
      refine go_istore_n d_C_goThrough_74 (Nat.le_of_ble_eq_true rfl) rfl ?_
      exact i1
    | succ n ih =>
      intro j Ii hn hj rDi f1 q1 q1' q2 q3
      have hj2 : j < D.nb := by omega
      have hmk := sp_makes (d := d) (I := Ii) (J := J) (j := j) (s := 55) (n := (inL D j).length) (op := D.op j) (c := D.ct j) (lk := gi (inL D j)) (by omega) (by decide) rfl (rDi.bl j hj2).2 (rDi.inn j hj2).1 (inL_len hD j) (rDi.bl j hj2).1 (hD.op j hj2) (fun i hi => ⟨(rDi.inn j hj2).2 i hi, inL_lt hD (gi_mem hi)⟩)
      have ev : fo (fun v i => jn (D.op j) v (Ii 55 (gi (inL D j) i))) (D.ct j) (inL D j).length = mkv D ofv (nwM D ofv k) k j := by
        rw [mkv, ← fo_foldl]
        apply fo_congr
        intro q i hi
        rcases (inL_mem hD).mp (gi_mem hi) with ⟨k1, -⟩ | ⟨k0, k1, -⟩
        · rw [if_pos (by omega), q1 _ k1]
        · have := q1' (gi (inL D j) i - 20) (by omega)
          rw [show 20 + (gi (inL D j) i - 20) = gi (inL D j) i by omega] at this
          rw [if_neg (by omega), this]
      rw [ev] at hmk
      have fu : fr [55, 56, 58, 59, 60, 61] Ii (pm_uI Ii 56 j (mkv D ofv (nwM D ofv k) k j)) := fr.uI (by decide)
      obtain ⟨I', i1, i2⟩ := ih (j + 1) (pm_uI Ii 56 j (mkv D ofv (nwM D ofv k) k j)) (by omega) (by omega) (rDi.fr hD fu (by decide)) (f1.tr fu) (fun c hc => by rw [uI_ne (by omega)]; exact q1 c hc) (fun c hc => by rw [uI_ne (by omega)]; exact q1' c hc) (fun q hq => by
        by_cases e : q = j
        · rw [e, uI_eq]
        · rw [uI_nj e]; exact q2 q (by omega)) (fun q hq i hi => by rw [uI_ne (by omega)]; exact q3 q hq i hi)
      refine ⟨I', ?_, i2⟩
      refine go_iload_n d_C_goThrough_38 rfl ?_
      refine go_aload_n d_C_goThrough_39 rfl ?_
      refine go_getP (j := 0) d_C_goThrough_40 (Nat.le_of_ble_eq_true rfl) rfl pc_C (Nat.le_of_ble_eq_true rfl) rfl w_175 pt_C_0 ?_
      refine go_gI (j := 0) (nI D.nb) d_C_goThrough_43 (Nat.le_of_ble_eq_true rfl) rfl pc_D (Nat.le_of_ble_eq_true rfl) (by decide) w_35 rDi.nb ?_
      refine go_icmp_ge (tgt := 73) d_C_goThrough_46 (by decide) (fun z => absurd z (nI_ge (by omega) (by omega))) (fun z => ?_)
      refine go_aload_n d_C_goThrough_49 rfl ?_
      refine go_getP (j := 4) d_C_goThrough_50 (Nat.le_of_ble_eq_true rfl) rfl pc_C (Nat.le_of_ble_eq_true rfl) rfl w_179 pt_C_4 ?_
      refine go_iload_n d_C_goThrough_53 rfl ?_
      refine go_aload_n d_C_goThrough_54 rfl ?_
      refine go_getP (j := 0) d_C_goThrough_55 (Nat.le_of_ble_eq_true rfl) rfl pc_C (Nat.le_of_ble_eq_true rfl) rfl w_175 pt_C_0 ?_
      refine go_iload_n d_C_goThrough_58 rfl ?_
      refine go_aload_n d_C_goThrough_59 rfl ?_
      refine go_getP (j := 3) d_C_goThrough_60 (Nat.le_of_ble_eq_true rfl) rfl pc_C (Nat.le_of_ble_eq_true rfl) rfl w_178 pt_C_3 ?_
      refine go_callV (k2 := m_D_makes) (As := [.int (nI j), .ref 55]) (r := some (.int (mkv D ofv (nwM D ofv k) k j))) d_C_goThrough_63 ok_D_makes (Nat.le_of_ble_eq_true rfl) rfl pc_D rfl vl_C_58 rfl rfl (Nat.le_of_ble_eq_true rfl) (Nat.le_of_ble_eq_true rfl) (Nat.le_of_ble_eq_true rfl) (Nat.le_of_ble_eq_true rfl) rfl rfl hmk ?_
      refine go_ast j d_C_goThrough_66 (Nat.le_of_ble_eq_true rfl) rfl rfl (by omega) (by decide) ?_
      refine go_iinc (v := nI (j + 1)) d_C_goThrough_67 rfl (by first | rfl | exact nI_1 _) rfl ?_
      refine go_goto (tgt := 38) d_C_goThrough_70 (by decide) ?_
      exact i1
  have loop1 : ∀ n p (Ii : Nat → Nat → Int32), D.ni - p = n → p ≤ D.ni → RD Ii D → fr [55] I Ii → (∀ c, c < D.nc → Ii 55 c = nwM D ofv k c) → (∀ q, q < p → Ii 55 (20 + q) = ofv q k) → ∃ I', pm_Go (d + 3) m_C_goThrough 2 [some (.ref 54), some (.int (nI k)), some (.int (nI p))] [] 0 0 (ST Ii J) (.inl none, ST I' J) ∧ fr [55, 56, 58, 59, 60, 61] I I' ∧ (∀ c, c < D.nc → I' 55 c = nwM D ofv (k + 1) c) ∧ (∀ p, p < D.no → ∀ i, i < k + 1 → I' (58 + p) i = bcM D ofv p i) := by
    intro n
    induction n with
    | zero =>
      intro p Ii hn hp rDi f1 q1 q2
      have : p = D.ni := by omega
      subst this
      obtain ⟨I', i1, i2⟩ := loop2 D.nb 0 Ii (by omega) (by omega) rDi (f1.up (by decide)) q1 q2 (fun q hq => by omega) (fun q hq i hi => by rw [f1 (58 + q) (by simp; omega)]; exact hgv q hq i hi)
      refine ⟨I', ?_, i2⟩
      refine go_iload_n d_C_goThrough_2 rfl ?_
      refine go_aload_n d_C_goThrough_3 rfl ?_
      refine go_getP (j := 0) d_C_goThrough_4 (Nat.le_of_ble_eq_true rfl) rfl pc_C (Nat.le_of_ble_eq_true rfl) rfl w_175 pt_C_0 ?_
      refine go_gI (j := 2) (nI D.ni) d_C_goThrough_7 (Nat.le_of_ble_eq_true rfl) rfl pc_D (Nat.le_of_ble_eq_true rfl) (by decide) w_43 rDi.ni ?_
      refine go_icmp_ge (tgt := 36) d_C_goThrough_10 (by decide) (fun z => ?_) (fun z => absurd (nI_le (Nat.le_refl _) (by omega)) z)
      refine go_iconst (v := 0) d_C_goThrough_36 (by decide) ?_
      refine go_istore_n d_C_goThrough_37 (Nat.le_of_ble_eq_true rfl) rfl ?_
      exact i1
    | succ n ih =>
      intro p Ii hn hp rDi f1 q1 q2
      have hp2 : p < D.ni := by omega
      have e44 : Ii (44 + p) k = ofv p k := by rw [f1 (44 + p) (by simp; omega)]; exact htk p hp2
      have fu : fr [55] Ii (pm_uI Ii 55 (20 + p) (ofv p k)) := fr.uI (by decide)
      obtain ⟨I', i1, i2⟩ := ih (p + 1) (pm_uI Ii 55 (20 + p) (ofv p k)) (by omega) (by omega) (rDi.fr hD fu (by decide)) (f1.tr fu) (fun c hc => by rw [uI_nj (by omega)]; exact q1 c hc) (fun q hq => by
        by_cases e : q = p
        · rw [e, uI_eq]
        · rw [uI_nj (by omega)]; exact q2 q (by omega))
      refine ⟨I', ?_, i2⟩
      refine go_iload_n d_C_goThrough_2 rfl ?_
      refine go_aload_n d_C_goThrough_3 rfl ?_
      refine go_getP (j := 0) d_C_goThrough_4 (Nat.le_of_ble_eq_true rfl) rfl pc_C (Nat.le_of_ble_eq_true rfl) rfl w_175 pt_C_0 ?_
      refine go_gI (j := 2) (nI D.ni) d_C_goThrough_7 (Nat.le_of_ble_eq_true rfl) rfl pc_D (Nat.le_of_ble_eq_true rfl) (by decide) w_43 rDi.ni ?_
      refine go_icmp_ge (tgt := 36) d_C_goThrough_10 (by decide) (fun z => absurd z (nI_ge (by omega) (by omega))) (fun z => ?_)
      refine go_aload_n d_C_goThrough_13 rfl ?_
      refine go_getP (j := 3) d_C_goThrough_14 (Nat.le_of_ble_eq_true rfl) rfl pc_C (Nat.le_of_ble_eq_true rfl) rfl w_178 pt_C_3 ?_
      refine go_bipush (v := 20) d_C_goThrough_17 (by decide) ?_
      refine go_iload_n d_C_goThrough_19 rfl ?_
      refine go_iadd d_C_goThrough_20 ?_
      refine go_top (nI (20 + p)) (nI_add 20 p) ?_
      refine go_aload_n d_C_goThrough_21 rfl ?_
      refine go_getP (j := 1) d_C_goThrough_22 (Nat.le_of_ble_eq_true rfl) rfl pc_C (Nat.le_of_ble_eq_true rfl) rfl w_176 pt_C_1 ?_
      refine go_iload_n d_C_goThrough_25 rfl ?_
      refine go_row3 p (44 + p) d_C_goThrough_26 (Nat.le_of_ble_eq_true rfl) rfl rfl (by omega) (by decide) (pt_43 p (by omega)) ?_
      refine go_iload_n d_C_goThrough_27 rfl ?_
      refine go_ald k (ofv p k) d_C_goThrough_28 (show 44 + p < 104 by omega) (sh_44 p (by omega)) rfl hk (by decide) e44 ?_
      refine go_ast (20 + p) d_C_goThrough_29 (Nat.le_of_ble_eq_true rfl) rfl rfl (by omega) (by decide) ?_
      refine go_iinc (v := nI (p + 1)) d_C_goThrough_30 rfl (by first | rfl | exact nI_1 _) rfl ?_
      refine go_goto (tgt := 2) d_C_goThrough_33 (by decide) ?_
      exact i1
  obtain ⟨I', i1, i2⟩ := loop1 D.ni 0 I (by omega) (by omega) rD fr.rf hsn (fun q hq => by omega)
  refine ⟨I', ?_, i2⟩
  refine go_iconst (v := 0) d_C_goThrough_0 (by decide) ?_
  refine go_istore_n d_C_goThrough_1 (Nat.le_of_ble_eq_true rfl) rfl ?_
  exact i1
theorem sp_givenIn {p k : Nat} (hD : DW D) (rD : RD I D) (rQ : RQ I J D s) (rK : RK I D s cy) (hp : p < D.no) (hk : k < 1000) (hk2 : ∀ q, q < D.ni → k < s.tu (D.ito q)) : ∃ I' cy', pm_Go (d + 4) m_C_givenIn 0 [some (.ref 54), some (.int (nI p)), some (.int (nI k)), none] [] 0 0 (ST I J) (.inl (some (.int (bcM D s.ofv p k))), ST I' J) ∧ RK I' D s cy' ∧ fr [54, 55, 56, 58, 59, 60, 61] I I' := by
  have hno := hD.no
  have hni := hD.ni
  have hm := rK.m
  have loop : ∀ n c (Ii : Nat → Nat → Int32), k + 1 - c = n → cy ≤ c → c ≤ max cy (k + 1) → RD Ii D → fr [55, 56, 58, 59, 60, 61] I Ii → (∀ q, q < D.nc → Ii 55 q = nwM D s.ofv c q) → (∀ q, q < D.no → ∀ i, i < c → Ii (58 + q) i = bcM D s.ofv q i) → ∃ I', pm_Go (d + 4) m_C_givenIn 5 [some (.ref 54), some (.int (nI p)), some (.int (nI k)), some (.int (nI c))] [] 0 0 (ST Ii J) (.inl (some (.int (bcM D s.ofv p k))), ST I' J) ∧ RK I' D s (max cy (k + 1)) ∧ fr [54, 55, 56, 58, 59, 60, 61] I I' := by
    intro n
    induction n with
    | zero =>
      intro c Ii hn hc1 hc2 rDi f1 q1 q2
      have ec : c = max cy (k + 1) := by omega
      have e54 : Ii 54 2 = nI cy := by rw [f1 54 (by decide)]; exact rK.cy
      have e58 : Ii (58 + p) k = bcM D s.ofv p k := q2 p hp k (by omega)
      refine ⟨pm_uI Ii 54 2 (nI (max cy (k + 1))), ?_, ?_, (f1.up (by decide)).tr (fr.uI (by decide))⟩
      · refine go_iload_n d_C_givenIn_5 rfl ?_
        refine go_iload_n d_C_givenIn_6 rfl ?_
        refine go_icmp_gt (tgt := 21) d_C_givenIn_7 (by decide) (fun z => ?_) (fun z => absurd (nI_lt (show k < c by omega) (by omega)) z)
        refine go_aload_n d_C_givenIn_21 rfl ?_
        refine go_aload_n d_C_givenIn_22 rfl ?_
        refine go_gI (j := 2) (nI cy) d_C_givenIn_23 (Nat.le_of_ble_eq_true rfl) rfl pc_C (Nat.le_of_ble_eq_true rfl) (by decide) w_177 e54 ?_
        refine go_iload_n d_C_givenIn_26 rfl ?_
        refine go_iconst (v := 1) d_C_givenIn_27 (by decide) ?_
        refine go_iadd d_C_givenIn_28 ?_
        refine go_top (nI (k + 1)) (nI_1 _) ?_
        refine go_mmax d_C_givenIn_29 w_648 w_535 w_14 w_536 (Nat.le_of_ble_eq_true rfl) (Nat.le_of_ble_eq_true rfl) (Nat.le_of_ble_eq_true rfl) (Nat.le_of_ble_eq_true rfl) ?_
        refine go_top (nI (max cy (k + 1))) ?_ ?_
        · show (if nI cy < nI (k + 1) then nI (k + 1) else nI cy) = nI (max cy (k + 1))
          by_cases h : cy < k + 1
          · rw [if_pos (nI_lt h (by omega)), show max cy (k + 1) = k + 1 by omega]
          · rw [if_neg (nI_nlt (by omega) (by omega)), show max cy (k + 1) = cy by omega]
        refine go_pI (j := 2) d_C_givenIn_32 (Nat.le_of_ble_eq_true rfl) rfl pc_C (Nat.le_of_ble_eq_true rfl) (by decide) w_177 rfl (Or.inl rfl) ?_
        refine go_aload_n d_C_givenIn_35 rfl ?_
        refine go_getP (j := 5) d_C_givenIn_36 (Nat.le_of_ble_eq_true rfl) rfl pc_C (Nat.le_of_ble_eq_true rfl) rfl w_180 pt_C_5 ?_
        refine go_iload_n d_C_givenIn_39 rfl ?_
        refine go_row3 p (58 + p) d_C_givenIn_40 (Nat.le_of_ble_eq_true rfl) rfl rfl (by omega) (by decide) (pt_57 p (by omega)) ?_
        refine go_iload_n d_C_givenIn_41 rfl ?_
        refine go_ald k (bcM D s.ofv p k) d_C_givenIn_42 (show 58 + p < 104 by omega) (sh_58 p (by omega)) rfl hk (by decide) (by show pm_uI Ii 54 2 (nI (max cy (k + 1))) (58 + p) k = _; rw [uI_ne (by omega)]; exact e58) ?_
        exact go_ireturn (st := []) d_C_givenIn_43 rfl (Nat.le_of_ble_eq_true rfl) (Nat.le_of_ble_eq_true rfl) rfl
      · refine RK.mk uI_eq (by omega) (fun q hq => ?_) ?_ ?_
        · have := rK.tu q hq
          have := hk2 q hq
          omega
        · intro q hq
          rw [uI_ne (by decide), ← ec]
          exact q1 q hq
        · intro q hq i hi
          rw [uI_ne (by omega)]
          exact q2 q hq i (by omega)
    | succ n ih =>
      intro c Ii hn hc1 hc2 rDi f1 q1 q2
      obtain ⟨I2, g1, g2, g3, g4⟩ := sp_goThrough (d := d) (J := J) (ofv := s.ofv) (k := c) hD rDi (by omega) (fun q hq => by
        rw [f1 (44 + q) (by simp; omega)]
        refine (rQ.tk q (by omega)).2.2 c (s.ofv q c) ?_
        rw [tkM, if_pos hq, wn_get]
        have := hk2 q hq
        refine ⟨by omega, ?_⟩
        rw [Nat.zero_add]) q1 q2
      obtain ⟨I', i1, i2⟩ := ih (c + 1) I2 (by omega) (by omega) (by omega) (rDi.fr hD g2 (by decide)) (f1.tr g2) g3 g4
      refine ⟨I', ?_, i2⟩
      refine go_iload_n d_C_givenIn_5 rfl ?_
      refine go_iload_n d_C_givenIn_6 rfl ?_
      refine go_icmp_gt (tgt := 21) d_C_givenIn_7 (by decide) (fun z => absurd z (nI_nlt (show c ≤ k by omega) (by omega))) (fun z => ?_)
      refine go_aload_n d_C_givenIn_10 rfl ?_
      refine go_iload_n d_C_givenIn_11 rfl ?_
      refine go_callV (k2 := m_C_goThrough) (As := [.int (nI c)]) (r := none) d_C_givenIn_12 ok_C_goThrough (Nat.le_of_ble_eq_true rfl) rfl pc_C rfl vl_C_42 rfl rfl (Nat.le_of_ble_eq_true rfl) (Nat.le_of_ble_eq_true rfl) (Nat.le_of_ble_eq_true rfl) (Nat.le_of_ble_eq_true rfl) rfl rfl g1 ?_
      refine go_iinc (v := nI (c + 1)) d_C_givenIn_15 rfl (by first | rfl | exact nI_1 _) rfl ?_
      refine go_goto (tgt := 5) d_C_givenIn_18 (by decide) ?_
      exact i1
  obtain ⟨I', i1, i2, i3⟩ := loop (k + 1 - cy) cy I rfl (Nat.le_refl _) (by omega) rD fr.rf rK.sn rK.gv
  refine ⟨I', max cy (k + 1), ?_, i2, i3⟩
  refine go_aload_n d_C_givenIn_0 rfl ?_
  refine go_gI (j := 2) (nI cy) d_C_givenIn_1 (Nat.le_of_ble_eq_true rfl) rfl pc_C (Nat.le_of_ble_eq_true rfl) (by decide) w_177 rK.cy ?_
  refine go_istore_n d_C_givenIn_4 (Nat.le_of_ble_eq_true rfl) rfl ?_
  exact i1
end S15
