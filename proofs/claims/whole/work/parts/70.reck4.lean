/-! the reference: the rate is reckoned -/
def reL : List Nat := [69, 97, 98, 99, 100, 101, 102]
theorem GN_M {D : DZ} (hD : DW D) : GN (gM D) (baM D D.nc) := GN.mk (gM_b hD) (by unfold gM; rw [List.length_map]; exact (GW_E hD).l) (ba_120 hD)
theorem run_nil {s len : Nat} (h : 1 ≤ len) : rb_run [] 1000000 s len s = 1000000 := by
  cases len with
  | zero => omega
  | succ len => rfl
def RI (D : DZ) (T L : Nat) : Prop := (D.nb ≠ 0 → AtM (gM D) 1000000 T L) ∧ (D.nb = 0 → T = 1 ∧ L = 1) ∧ (T ≤ 1000000) ∧ (L ≤ 100)
theorem RI.a {D : DZ} {T L : Nat} (h : RI D T L) : D.nb ≠ 0 → AtM (gM D) 1000000 T L := h.1
theorem RI.z {D : DZ} {T L : Nat} (h : RI D T L) : D.nb = 0 → T = 1 ∧ L = 1 := h.2.1
theorem RI.t {D : DZ} {T L : Nat} (h : RI D T L) : T ≤ 1000000 := h.2.2.1
theorem RI.l {D : DZ} {T L : Nat} (h : RI D T L) : L ≤ 100 := h.2.2.2
theorem RI.mk {D : DZ} {T L : Nat} (a_ : D.nb ≠ 0 → AtM (gM D) 1000000 T L) (z_ : D.nb = 0 → T = 1 ∧ L = 1) (t_ : T ≤ 1000000) (l_ : L ≤ 100) : RI D T L := ⟨a_, z_, t_, l_⟩
section S66
variable {I : Nat → Nat → Int32} {J : Nat → Nat → Int64} {D : DZ} {T L : Nat}
theorem gM_nil (hD : DW D) (h : D.nb = 0) : gM D = [] := by
  have hc : D.nc = 0 := by
    by_cases e : D.nc = 0
    · exact e
    · have := (hD.ch 0 (by omega)).1
      omega
  unfold gM
  rw [h, hc]
  rfl
/-- what is held while the rate is reckoned -/
def RW (I : Nat → Nat → Int32) (I0 : Nat → Nat → Int32) (D : DZ) (T L : Nat) : Prop := (RN I (gM D)) ∧ (I 69 40 = nI (baM D D.nc)) ∧ (I 69 43 = nI T) ∧ (I 69 44 = nI L) ∧ (∀ q, q < 39 → I 69 q = I0 69 q) ∧ (fr reL I0 I)
theorem RW.n {I : Nat → Nat → Int32} {I0 : Nat → Nat → Int32} {D : DZ} {T L : Nat} (h : RW I I0 D T L) : RN I (gM D) := h.1
theorem RW.m {I : Nat → Nat → Int32} {I0 : Nat → Nat → Int32} {D : DZ} {T L : Nat} (h : RW I I0 D T L) : I 69 40 = nI (baM D D.nc) := h.2.1
theorem RW.t {I : Nat → Nat → Int32} {I0 : Nat → Nat → Int32} {D : DZ} {T L : Nat} (h : RW I I0 D T L) : I 69 43 = nI T := h.2.2.1
theorem RW.l {I : Nat → Nat → Int32} {I0 : Nat → Nat → Int32} {D : DZ} {T L : Nat} (h : RW I I0 D T L) : I 69 44 = nI L := h.2.2.2.1
theorem RW.q {I : Nat → Nat → Int32} {I0 : Nat → Nat → Int32} {D : DZ} {T L : Nat} (h : RW I I0 D T L) : ∀ q, q < 39 → I 69 q = I0 69 q := h.2.2.2.2.1
theorem RW.f {I : Nat → Nat → Int32} {I0 : Nat → Nat → Int32} {D : DZ} {T L : Nat} (h : RW I I0 D T L) : fr reL I0 I := h.2.2.2.2.2
theorem RW.mk {I : Nat → Nat → Int32} {I0 : Nat → Nat → Int32} {D : DZ} {T L : Nat} (n_ : RN I (gM D)) (m_ : I 69 40 = nI (baM D D.nc)) (t_ : I 69 43 = nI T) (l_ : I 69 44 = nI L) (q_ : ∀ q, q < 39 → I 69 q = I0 69 q) (f_ : fr reL I0 I) : RW I I0 D T L := ⟨n_, m_, t_, l_, q_, f_⟩
theorem RW.fr {I0 I1 : Nat → Nat → Int32} {Ls : List Nat} (h : RW I I0 D T L) (hf : fr Ls I I1) (hL : ∀ c, c ∈ Ls → c = 101 ∨ c = 102) : RW I1 I0 D T L := by
  have hh : ∀ c, c ≤ 100 → I1 c = I c := fun c hc => hf c (fun z => by have := hL c z; omega)
  refine RW.mk (RN.mk ?_ ?_) ?_ ?_ ?_ ?_ (h.f.tr (hf.up (fun c hc => ?_)))
  · rw [hh 69 (by omega)]; exact h.n.n
  · rw [hh 97 (by omega), hh 98 (by omega), hh 99 (by omega), hh 100 (by omega)]; exact h.n.a
  · rw [hh 69 (by omega)]; exact h.m
  · rw [hh 69 (by omega)]; exact h.t
  · rw [hh 69 (by omega)]; exact h.l
  · rw [hh 69 (by omega)]; exact h.q
  · rcases hL c hc with rfl | rfl <;> decide
theorem sp_M_reckon (hD : DW D) (rM : RMD I D) {r : Nat × Nat} (hr : isR D r) : ∃ I', pm_Go 9 m_M_reckon 0 [some (.ref 69), none, none] [] 0 0 (ST I J) (.inl none, ST I' J) ∧ I' 69 43 = nI r.1 ∧ I' 69 44 = nI r.2 ∧ (∀ q, q < 39 → I' 69 q = I 69 q) ∧ fr reL I I' := by
  have hN := ba_120 hD
  have hGN := GN_M hD
  generalize hNN : baM D D.nc = N at hN hGN
  have inner : ∀ n len s T L (Ii : Nat → Nat → Int32), N + 1 - len = n → len ≤ N + 1 → 1 ≤ len → s < N → RW Ii I D T L → RI D T L → RL Ii 101 N (rb_run (gM D) 1000000 s (len - 1)) → (∀ s', s' < s → ∀ k, 1 ≤ k → k ≤ N → LoM (gM D) 1000000 T L s' k) → (∀ k, 1 ≤ k → k < len → LoM (gM D) 1000000 T L s k) → ∃ I' T' L', RW I' I D T' L' ∧ RI D T' L' ∧ (∀ s', s' < s + 1 → ∀ k, 1 ≤ k → k ≤ N → LoM (gM D) 1000000 T' L' s' k) ∧ ∀ out, pm_Go 9 m_M_reckon 138 [some (.ref 69), some (.int (nI s)), some (.int (nI (N + 1)))] [] 0 0 (ST I' J) out → pm_Go 9 m_M_reckon 74 [some (.ref 69), some (.int (nI s)), some (.int (nI len))] [] 0 0 (ST Ii J) out := by
    intro n
    induction n with
    | zero =>
      intro len s T L Ii hn hl h1 hs rW rI rL q1 q2
      have : len = N + 1 := by omega
      subst this
      have e40 : Ii 69 40 = nI N := by rw [← hNN]; exact rW.m
      refine ⟨Ii, T, L, rW, rI, fun s' hs' k k1 k2 => ?_, fun out ho => ?_⟩
      · by_cases e : s' = s
        · rw [e]; exact q2 k k1 (by omega)
        · exact q1 s' (by omega) k k1 k2
      · refine go_iload_n d_M_reckon_74 rfl ?_
        refine go_aload_n d_M_reckon_75 rfl ?_
        refine go_gI (j := 40) (nI N) d_M_reckon_76 (Nat.le_of_ble_eq_true rfl) rfl pc_M (Nat.le_of_ble_eq_true rfl) (by decide) w_742 e40 ?_
        refine go_icmp_gt (tgt := 138) d_M_reckon_79 (by decide) (fun z => ?_) (fun z => absurd (nI_lt (show N < N + 1 by omega) (by omega)) z)
        exact ho
    | succ n ih =>
      intro len s T L Ii hn hl h1 hs rW rI rL q1 q2
      have hlN : len ≤ N := by omega
      have e40 : Ii 69 40 = nI N := by rw [← hNN]; exact rW.m
      have hrun := rb_run_re (E := gM D) (far := 1000000) (s := s) (len - 1)
      obtain ⟨I1, a1, a2, a3⟩ := sp_goOn (d := 7) (J := J) rW.n hGN e40 hrun.2 rL
      have rW1 : RW I1 I D T L := rW.fr a3 (by simp)
      have erun : rb_step (gM D) 1000000 (rb_run (gM D) 1000000 s (len - 1)) = rb_run (gM D) 1000000 s len := by
        cases len with
        | zero => omega
        | succ len => rfl
      rw [erun] at a2
      have hv := (rb_run_re (E := gM D) (far := 1000000) (s := s) len).2 s
      have e101 := a2 s hs
      have hT := rI.t
      have hLb := rI.l
      have e40' : I1 69 40 = nI N := by rw [← hNN]; exact rW1.m
      have pre : ∀ out, pm_Go 9 m_M_reckon 86 [some (.ref 69), some (.int (nI s)), some (.int (nI len))] [] 0 0 (ST I1 J) out → pm_Go 9 m_M_reckon 74 [some (.ref 69), some (.int (nI s)), some (.int (nI len))] [] 0 0 (ST Ii J) out := by
        intro out ho
        refine go_iload_n d_M_reckon_74 rfl ?_
        refine go_aload_n d_M_reckon_75 rfl ?_
        refine go_gI (j := 40) (nI N) d_M_reckon_76 (Nat.le_of_ble_eq_true rfl) rfl pc_M (Nat.le_of_ble_eq_true rfl) (by decide) w_742 e40 ?_
        refine go_icmp_gt (tgt := 138) d_M_reckon_79 (by decide) (fun z => absurd z (nI_nlt (by omega) (by omega))) (fun z => ?_)
        refine go_aload_n d_M_reckon_82 rfl ?_
        refine go_callV (k2 := m_M_goOn) (As := []) (r := none) d_M_reckon_83 ok_M_goOn (Nat.le_of_ble_eq_true rfl) rfl pc_M rfl vl_M_222 rfl rfl (Nat.le_of_ble_eq_true rfl) (Nat.le_of_ble_eq_true rfl) (Nat.le_of_ble_eq_true rfl) (Nat.le_of_ble_eq_true rfl) rfl rfl a1 ?_
        exact ho
      by_cases hlt : rb_run (gM D) 1000000 s len s < 1000000
      · have hnb : D.nb ≠ 0 := fun e => by
          rw [gM_nil hD e, run_nil h1] at hlt
          omega
        generalize hvv : rb_run (gM D) 1000000 s len s = v at hlt hv e101
        have hp1 : v * L ≤ 1000000 * 100 := Nat.mul_le_mul hv hLb
        have hp2 : T * len ≤ 1000000 * 100 := Nat.mul_le_mul hT (by omega)
        by_cases hup : v * L < T * len
        · have rW2 : RW (pm_uI (pm_uI I1 69 43 (nI v)) 69 44 (nI len)) I D v len := by
            have hh : ∀ q, q ≠ 43 → q ≠ 44 → pm_uI (pm_uI I1 69 43 (nI v)) 69 44 (nI len) 69 q = I1 69 q := fun q h3 h4 => by rw [uI_nj h4, uI_nj h3]
            exact RW.mk (RN.mk (by rw [hh 39 (by decide) (by decide)]; exact rW1.n.n) rW1.n.a) (by rw [hh 40 (by decide) (by decide)]; exact rW1.m) rfl rfl (fun q hq => by rw [hh q (by omega) (by omega)]; exact rW1.q q hq) ((rW1.f.tr (fr.uI (by decide))).tr (fr.uI (by decide)))
          obtain ⟨I', T', L', i1, i2, i3, i4⟩ := ih (len + 1) s v len (pm_uI (pm_uI I1 69 43 (nI v)) 69 44 (nI len)) (by omega) (by omega) (by omega) hs rW2 (RI.mk (fun _ => Or.inr ⟨s, h1, hvv, hlt⟩) (fun e => absurd e hnb) hv (by omega)) a2 (fun s' hs' k k1 k2 => Lo_up (rI.a hnb) k1 (q1 s' hs' k k1 k2) hup) (fun k k1 k2 => by
            by_cases e : k = len
            · subst e
              intro _
              rw [hvv]
              exact Nat.le_refl _
            · exact Lo_up (rI.a hnb) k1 (q2 k k1 (by omega)) hup)
          refine ⟨I', T', L', i1, i2, i3, fun out ho => pre out ?_⟩
          have i5 := i4 out ho
          refine go_aload_n d_M_reckon_86 rfl ?_
          refine go_getP (j := 41) d_M_reckon_87 (Nat.le_of_ble_eq_true rfl) rfl pc_M (Nat.le_of_ble_eq_true rfl) rfl w_743 pt_M_41 ?_
          refine go_iload_n d_M_reckon_90 rfl ?_
          refine go_ald s (nI v) d_M_reckon_91 (Nat.le_of_ble_eq_true rfl) rfl rfl (by omega) (by decide) e101 ?_
          refine go_ldc (v := 1000000) d_M_reckon_92 w_886 ?_
          refine go_icmp_ge (tgt := 132) d_M_reckon_94 (by decide) (fun z => absurd z (nI_ge (b := 1000000) hlt (by decide))) (fun z => ?_)
          refine go_aload_n d_M_reckon_97 rfl ?_
          refine go_getP (j := 41) d_M_reckon_98 (Nat.le_of_ble_eq_true rfl) rfl pc_M (Nat.le_of_ble_eq_true rfl) rfl w_743 pt_M_41 ?_
          refine go_iload_n d_M_reckon_101 rfl ?_
          refine go_ald s (nI v) d_M_reckon_102 (Nat.le_of_ble_eq_true rfl) rfl rfl (by omega) (by decide) e101 ?_
          refine go_aload_n d_M_reckon_103 rfl ?_
          refine go_gI (j := 44) (nI L) d_M_reckon_104 (Nat.le_of_ble_eq_true rfl) rfl pc_M (Nat.le_of_ble_eq_true rfl) (by decide) w_746 rW1.l ?_
          refine go_imul d_M_reckon_107 ?_
          refine go_top (nI (v * L)) (pk_mul _ _) ?_
          refine go_aload_n d_M_reckon_108 rfl ?_
          refine go_gI (j := 43) (nI T) d_M_reckon_109 (Nat.le_of_ble_eq_true rfl) rfl pc_M (Nat.le_of_ble_eq_true rfl) (by decide) w_745 rW1.t ?_
          refine go_iload_n d_M_reckon_112 rfl ?_
          refine go_imul d_M_reckon_113 ?_
          refine go_top (nI (T * len)) (pk_mul _ _) ?_
          refine go_icmp_ge (tgt := 132) d_M_reckon_114 (by decide) (fun z => absurd z (nI_ge hup (by omega))) (fun z => ?_)
          refine go_aload_n d_M_reckon_117 rfl ?_
          refine go_aload_n d_M_reckon_118 rfl ?_
          refine go_getP (j := 41) d_M_reckon_119 (Nat.le_of_ble_eq_true rfl) rfl pc_M (Nat.le_of_ble_eq_true rfl) rfl w_743 pt_M_41 ?_
          refine go_iload_n d_M_reckon_122 rfl ?_
          refine go_ald s (nI v) d_M_reckon_123 (Nat.le_of_ble_eq_true rfl) rfl rfl (by omega) (by decide) e101 ?_
          refine go_pI (j := 43) d_M_reckon_124 (Nat.le_of_ble_eq_true rfl) rfl pc_M (Nat.le_of_ble_eq_true rfl) (by decide) w_745 rfl (Or.inl rfl) ?_
          refine go_aload_n d_M_reckon_127 rfl ?_
          refine go_iload_n d_M_reckon_128 rfl ?_
          refine go_pI (j := 44) d_M_reckon_129 (Nat.le_of_ble_eq_true rfl) rfl pc_M (Nat.le_of_ble_eq_true rfl) (by decide) w_746 rfl (Or.inl rfl) ?_
          refine go_iinc (v := nI (len + 1)) d_M_reckon_132 rfl (by first | rfl | exact nI_1 _) rfl ?_
          refine go_goto (tgt := 74) d_M_reckon_135 (by decide) ?_
          exact i5
        · obtain ⟨I', T', L', i1, i2, i3, i4⟩ := ih (len + 1) s T L I1 (by omega) (by omega) (by omega) hs rW1 rI a2 q1 (fun k k1 k2 => by
            by_cases e : k = len
            · subst e
              intro _
              rw [hvv]
              omega
            · exact q2 k k1 (by omega))
          refine ⟨I', T', L', i1, i2, i3, fun out ho => pre out ?_⟩
          have i5 := i4 out ho
          refine go_aload_n d_M_reckon_86 rfl ?_
          refine go_getP (j := 41) d_M_reckon_87 (Nat.le_of_ble_eq_true rfl) rfl pc_M (Nat.le_of_ble_eq_true rfl) rfl w_743 pt_M_41 ?_
          refine go_iload_n d_M_reckon_90 rfl ?_
          refine go_ald s (nI v) d_M_reckon_91 (Nat.le_of_ble_eq_true rfl) rfl rfl (by omega) (by decide) e101 ?_
          refine go_ldc (v := 1000000) d_M_reckon_92 w_886 ?_
          refine go_icmp_ge (tgt := 132) d_M_reckon_94 (by decide) (fun z => absurd z (nI_ge (b := 1000000) hlt (by decide))) (fun z => ?_)
          refine go_aload_n d_M_reckon_97 rfl ?_
          refine go_getP (j := 41) d_M_reckon_98 (Nat.le_of_ble_eq_true rfl) rfl pc_M (Nat.le_of_ble_eq_true rfl) rfl w_743 pt_M_41 ?_
          refine go_iload_n d_M_reckon_101 rfl ?_
          refine go_ald s (nI v) d_M_reckon_102 (Nat.le_of_ble_eq_true rfl) rfl rfl (by omega) (by decide) e101 ?_
          refine go_aload_n d_M_reckon_103 rfl ?_
          refine go_gI (j := 44) (nI L) d_M_reckon_104 (Nat.le_of_ble_eq_true rfl) rfl pc_M (Nat.le_of_ble_eq_true rfl) (by decide) w_746 rW1.l ?_
          refine go_imul d_M_reckon_107 ?_
          refine go_top (nI (v * L)) (pk_mul _ _) ?_
          refine go_aload_n d_M_reckon_108 rfl ?_
          refine go_gI (j := 43) (nI T) d_M_reckon_109 (Nat.le_of_ble_eq_true rfl) rfl pc_M (Nat.le_of_ble_eq_true rfl) (by decide) w_745 rW1.t ?_
          refine go_iload_n d_M_reckon_112 rfl ?_
          refine go_imul d_M_reckon_113 ?_
          refine go_top (nI (T * len)) (pk_mul _ _) ?_
          refine go_icmp_ge (tgt := 132) d_M_reckon_114 (by decide) (fun z => ?_) (fun z => absurd (nI_le (Nat.le_of_not_lt hup) (by omega)) z)
          refine go_iinc (v := nI (len + 1)) d_M_reckon_132 rfl (by first | rfl | exact nI_1 _) rfl ?_
          refine go_goto (tgt := 74) d_M_reckon_135 (by decide) ?_
          exact i5
      · obtain ⟨I', T', L', i1, i2, i3, i4⟩ := ih (len + 1) s T L I1 (by omega) (by omega) (by omega) hs rW1 rI a2 q1 (fun k k1 k2 => by
          by_cases e : k = len
          · subst e
            intro h6
            exact absurd h6 hlt
          · exact q2 k k1 (by omega))
        refine ⟨I', T', L', i1, i2, i3, fun out ho => pre out ?_⟩
        have i5 := i4 out ho
        refine go_aload_n d_M_reckon_86 rfl ?_
        refine go_getP (j := 41) d_M_reckon_87 (Nat.le_of_ble_eq_true rfl) rfl pc_M (Nat.le_of_ble_eq_true rfl) rfl w_743 pt_M_41 ?_
        refine go_iload_n d_M_reckon_90 rfl ?_
        refine go_ald s (nI (rb_run (gM D) 1000000 s len s)) d_M_reckon_91 (Nat.le_of_ble_eq_true rfl) rfl rfl (by omega) (by decide) e101 ?_
        refine go_ldc (v := 1000000) d_M_reckon_92 w_886 ?_
        refine go_icmp_ge (tgt := 132) d_M_reckon_94 (by decide) (fun z => ?_) (fun z => absurd (nI_le (a := 1000000) (Nat.le_of_not_lt hlt) (by omega)) z)
        refine go_iinc (v := nI (len + 1)) d_M_reckon_132 rfl (by first | rfl | exact nI_1 _) rfl ?_
        refine go_goto (tgt := 74) d_M_reckon_135 (by decide) ?_
        exact i5
  have fin : ∀ (Ii : Nat → Nat → Int32) T L v1 (w2 : Option Value), RW Ii I D T L → RI D T L → (∀ s', s' < N → ∀ k, 1 ≤ k → k ≤ N → LoM (gM D) 1000000 T L s' k) → pm_lt 104 [w2] [] = true → ∃ I', pm_Go 9 m_M_reckon 144 [some (.ref 69), some (.int v1), w2] [] 0 0 (ST Ii J) (.inl none, ST I' J) ∧ I' 69 43 = nI r.1 ∧ I' 69 44 = nI r.2 ∧ (∀ q, q < 39 → I' 69 q = I 69 q) ∧ fr reL I I' := by
    intro Ii T L v1 w2 rW rI hlo hw
    have hT := rI.t
    have hLb := rI.l
    have key : 1 ≤ T ∧ 1 ≤ L ∧ T / Nat.gcd T L = r.1 ∧ L / Nat.gcd T L = r.2 := by
      by_cases hnb : D.nb = 0
      · obtain ⟨rfl, rfl⟩ := rI.z hnb
        have e : r.1 = 1 ∧ r.2 = 1 := by
          rcases hr.1 with ⟨-, h2, h3⟩ | ⟨u, w, k1, k2, -⟩
          · exact ⟨h2, h3⟩
          · exfalso
            cases w with
            | nil => exact k2 rfl
            | cons a w =>
              have h5 : phA D a ∈ gM D := List.mem_map.mpr ⟨a, k1.1, rfl⟩
              rw [gM_nil hD hnb] at h5
              cases h5
        rw [e.1, e.2]
        decide
      · exact best_is hD hr hnb (rI.a hnb) (fun s' hs' k k1 k2 => hlo s' (by omega) k k1 (by omega))
    obtain ⟨k1, k2, k3, k4⟩ := key
    have hg : 1 ≤ Nat.gcd T L := Nat.gcd_pos_of_pos_left _ k1
    have hg2 : Nat.gcd T L ≤ L := Nat.le_of_dvd (by omega) (Nat.gcd_dvd_right _ _)
    have hh : ∀ q, q ≠ 43 → q ≠ 44 → pm_uI (pm_uI Ii 69 43 (nI r.1)) 69 44 (nI r.2) 69 q = Ii 69 q := fun q h3 h4 => by rw [uI_nj h4, uI_nj h3]
    refine ⟨pm_uI (pm_uI Ii 69 43 (nI r.1)) 69 44 (nI r.2), ?_, rfl, rfl, fun q hq => by rw [hh q (by omega) (by omega)]; exact rW.q q hq, (rW.f.tr (fr.uI (by decide))).tr (fr.uI (by decide))⟩
    have cd := sp_M_divisor (d := 8) (I := Ii) (J := J) (a := T) (b := L) (by omega) (by omega)
    generalize Nat.gcd T L = g at hg hg2 k3 k4 cd
    refine go_aload_n d_M_reckon_144 rfl ?_
    refine go_gI (j := 43) (nI T) d_M_reckon_145 (Nat.le_of_ble_eq_true rfl) rfl pc_M (Nat.le_of_ble_eq_true rfl) (by decide) w_745 rW.t ?_
    refine go_aload_n d_M_reckon_148 rfl ?_
    refine go_gI (j := 44) (nI L) d_M_reckon_149 (Nat.le_of_ble_eq_true rfl) rfl pc_M (Nat.le_of_ble_eq_true rfl) (by decide) w_746 rW.l ?_
    refine go_callS (k2 := m_M_divisor) (As := [.int (nI T), .int (nI L)]) (r := some (.int (nI g)))  d_M_reckon_152 ok_M_divisor sl_M_225 rfl rfl (Nat.le_of_ble_eq_true rfl) (Nat.le_of_ble_eq_true rfl) (Nat.le_of_ble_eq_true rfl) (Nat.le_of_ble_eq_true rfl) (by cases w2 <;> simp_all [pm_lt, pm_ltV]) rfl cd ?_
    refine go_istore_n d_M_reckon_155 (Nat.le_of_ble_eq_true rfl) rfl ?_
    refine go_aload_n d_M_reckon_156 rfl ?_
    refine go_aload_n d_M_reckon_157 rfl ?_
    refine go_gI (j := 43) (nI T) d_M_reckon_158 (Nat.le_of_ble_eq_true rfl) rfl pc_M (Nat.le_of_ble_eq_true rfl) (by decide) w_745 rW.t ?_
    refine go_iload_n d_M_reckon_161 rfl ?_
    refine go_idiv d_M_reckon_162 (nI_ne0 (by omega) (by omega)) ?_
    refine go_top (nI r.1) (by rw [pk_div (by omega) (by omega) (by omega), k3]) ?_
    refine go_pI (j := 43) d_M_reckon_163 (Nat.le_of_ble_eq_true rfl) rfl pc_M (Nat.le_of_ble_eq_true rfl) (by decide) w_745 rfl (Or.inl rfl) ?_
    refine go_aload_n d_M_reckon_166 rfl ?_
    refine go_aload_n d_M_reckon_167 rfl ?_
    refine go_gI (j := 44) (nI L) d_M_reckon_168 (Nat.le_of_ble_eq_true rfl) rfl pc_M (Nat.le_of_ble_eq_true rfl) (by decide) w_746 rW.l ?_
    refine go_iload_n d_M_reckon_171 rfl ?_
    refine go_idiv d_M_reckon_172 (nI_ne0 (by omega) (by omega)) ?_
    refine go_top (nI r.2) (by rw [pk_div (by omega) (by omega) (by omega), k4]) ?_
    refine go_pI (j := 44) d_M_reckon_173 (Nat.le_of_ble_eq_true rfl) rfl pc_M (Nat.le_of_ble_eq_true rfl) (by decide) w_746 rfl (Or.inl rfl) ?_
    exact go_vreturn (st := []) d_M_reckon_176 rfl (Nat.le_of_ble_eq_true rfl) (Nat.le_of_ble_eq_true rfl) rfl
  have outer : ∀ n s T L (Ii : Nat → Nat → Int32) (w2 : Option Value), N - s = n → s ≤ N → RW Ii I D T L → RI D T L → (∀ s', s' < s → ∀ k, 1 ≤ k → k ≤ N → LoM (gM D) 1000000 T L s' k) → pm_lt 104 [w2] [] = true → ∃ I', pm_Go 9 m_M_reckon 27 [some (.ref 69), some (.int (nI s)), w2] [] 0 0 (ST Ii J) (.inl none, ST I' J) ∧ I' 69 43 = nI r.1 ∧ I' 69 44 = nI r.2 ∧ (∀ q, q < 39 → I' 69 q = I 69 q) ∧ fr reL I I' := by
    intro n
    induction n with
    | zero =>
      intro s T L Ii w2 hn hs rW rI q1 hw
      have : s = N := by omega
      subst this
      have e40 : Ii 69 40 = nI s := by rw [← hNN]; exact rW.m
      obtain ⟨I', i1, i2⟩ := fin Ii T L (nI s) w2 rW rI q1 hw
      refine ⟨I', ?_, i2⟩
      refine go_iload_n d_M_reckon_27 rfl ?_
      refine go_aload_n d_M_reckon_28 rfl ?_
      refine go_gI (j := 40) (nI s) d_M_reckon_29 (Nat.le_of_ble_eq_true rfl) rfl pc_M (Nat.le_of_ble_eq_true rfl) (by decide) w_742 e40 ?_
      refine go_icmp_ge (tgt := 144) d_M_reckon_32 (by decide) (fun z => ?_) (fun z => absurd (nI_le (Nat.le_refl _) (by omega)) z)
      exact i1
    | succ n ih =>
      intro s T L Ii w2 hn hs rW rI q1 hw
      have hs2 : s < N := by omega
      have e40 : Ii 69 40 = nI N := by rw [← hNN]; exact rW.m
      have lv : ∀ x v (Ij : Nat → Nat → Int32), N - v = x → v ≤ N → RW Ij I D T L → (∀ u, u < v → Ij 101 u = nI (if u = s then 0 else 1000000)) → ∃ I', RW I' I D T L ∧ (∀ u, u < N → I' 101 u = nI (if u = s then 0 else 1000000)) ∧ ∀ out, pm_Go 9 m_M_reckon 68 [some (.ref 69), some (.int (nI s)), some (.int (nI N))] [] 0 0 (ST I' J) out → pm_Go 9 m_M_reckon 37 [some (.ref 69), some (.int (nI s)), some (.int (nI v))] [] 0 0 (ST Ij J) out := by
        intro x
        induction x with
        | zero =>
          intro v Ij hx hv rWj p1
          have : v = N := by omega
          subst this
          have e40j : Ij 69 40 = nI v := by rw [← hNN]; exact rWj.m
          refine ⟨Ij, rWj, p1, fun out ho => ?_⟩
          refine go_iload_n d_M_reckon_37 rfl ?_
          refine go_aload_n d_M_reckon_38 rfl ?_
          refine go_gI (j := 40) (nI v) d_M_reckon_39 (Nat.le_of_ble_eq_true rfl) rfl pc_M (Nat.le_of_ble_eq_true rfl) (by decide) w_742 e40j ?_
          refine go_icmp_ge (tgt := 68) d_M_reckon_42 (by decide) (fun z => ?_) (fun z => absurd (nI_le (Nat.le_refl _) (by omega)) z)
          exact ho
        | succ x ihx =>
          intro v Ij hx hv rWj p1
          have hv2 : v < N := by omega
          have e40j : Ij 69 40 = nI N := by rw [← hNN]; exact rWj.m
          obtain ⟨I', i1, i2, i3⟩ := ihx (v + 1) (pm_uI Ij 101 v (nI (if v = s then 0 else 1000000))) (by omega) (by omega) (rWj.fr (Ls := [101]) (fr.uI (by decide)) (by simp)) (fun u hu => by
            by_cases e : u = v
            · rw [e, uI_eq]
            · rw [uI_nj e]; exact p1 u (by omega))
          refine ⟨I', i1, i2, fun out ho => ?_⟩
          have i4 := i3 out ho
          refine go_iload_n d_M_reckon_37 rfl ?_
          refine go_aload_n d_M_reckon_38 rfl ?_
          refine go_gI (j := 40) (nI N) d_M_reckon_39 (Nat.le_of_ble_eq_true rfl) rfl pc_M (Nat.le_of_ble_eq_true rfl) (by decide) w_742 e40j ?_
          refine go_icmp_ge (tgt := 68) d_M_reckon_42 (by decide) (fun z => absurd z (nI_ge (by omega) (by omega))) (fun z => ?_)
          refine go_aload_n d_M_reckon_45 rfl ?_
          refine go_getP (j := 41) d_M_reckon_46 (Nat.le_of_ble_eq_true rfl) rfl pc_M (Nat.le_of_ble_eq_true rfl) rfl w_743 pt_M_41 ?_
          refine go_iload_n d_M_reckon_49 rfl ?_
          refine go_iload_n d_M_reckon_50 rfl ?_
          refine go_iload_n d_M_reckon_51 rfl ?_
          by_cases e : v = s
          · rw [if_pos e] at i4
            refine go_icmp_ne (tgt := 59) d_M_reckon_52 (by decide) (fun z => absurd (congrArg nI e) z) (fun z => ?_)
            refine go_iconst (v := 0) d_M_reckon_55 (by decide) ?_
            refine go_goto (tgt := 61) d_M_reckon_56 (by decide) ?_
            refine go_ast v d_M_reckon_61 (Nat.le_of_ble_eq_true rfl) rfl rfl (by omega) (by decide) ?_
            refine go_iinc (v := nI (v + 1)) d_M_reckon_62 rfl (by first | rfl | exact nI_1 _) rfl ?_
            refine go_goto (tgt := 37) d_M_reckon_65 (by decide) ?_
            exact i4
          · rw [if_neg e] at i4
            refine go_icmp_ne (tgt := 59) d_M_reckon_52 (by decide) (fun z => ?_) (fun z => absurd z (nI_neq (by omega) (by omega) e))
            refine go_ldc (v := 1000000) d_M_reckon_59 w_886 ?_
            refine go_ast v d_M_reckon_61 (Nat.le_of_ble_eq_true rfl) rfl rfl (by omega) (by decide) ?_
            refine go_iinc (v := nI (v + 1)) d_M_reckon_62 rfl (by first | rfl | exact nI_1 _) rfl ?_
            refine go_goto (tgt := 37) d_M_reckon_65 (by decide) ?_
            exact i4
      obtain ⟨I1, a1, a2, a3⟩ := lv N 0 Ii (by omega) (by omega) rW (fun u hu => absurd hu (by omega))
      obtain ⟨I2, b1, b2, b3⟩ := sp_goFree (d := 8) (J := J) (f := fun v => if v = s then 0 else 1000000) a1.n hGN (fun v => by
        show (if v = s then 0 else 1000000) ≤ 1000000
        split <;> omega) a2
      obtain ⟨I3, T', L', c1, c2, c3, c4⟩ := inner N 1 s T L I2 (by omega) (by omega) (Nat.le_refl _) hs2 (a1.fr b3 (by simp)) rI b2 q1 (fun k k1 k2 => absurd k2 (by omega))
      obtain ⟨I', i1, i2⟩ := ih (s + 1) T' L' I3 (some (.int (nI (N + 1)))) (by omega) (by omega) c1 c2 c3 rfl
      refine ⟨I', ?_, i2⟩
      refine go_iload_n d_M_reckon_27 rfl ?_
      refine go_aload_n d_M_reckon_28 rfl ?_
      refine go_gI (j := 40) (nI N) d_M_reckon_29 (Nat.le_of_ble_eq_true rfl) rfl pc_M (Nat.le_of_ble_eq_true rfl) (by decide) w_742 e40 ?_
      refine go_icmp_ge (tgt := 144) d_M_reckon_32 (by decide) (fun z => absurd z (nI_ge (by omega) (by omega))) (fun z => ?_)
      refine go_iconst (v := 0) d_M_reckon_35 (by decide) ?_
      refine go_istore_n d_M_reckon_36 (Nat.le_of_ble_eq_true rfl) rfl ?_
      refine a3 _ ?_
      refine go_aload_n d_M_reckon_68 rfl ?_
      refine go_callV (k2 := m_M_goFree) (As := []) (r := none) d_M_reckon_69 ok_M_goFree (Nat.le_of_ble_eq_true rfl) rfl pc_M rfl vl_M_210 rfl rfl (Nat.le_of_ble_eq_true rfl) (Nat.le_of_ble_eq_true rfl) (Nat.le_of_ble_eq_true rfl) (Nat.le_of_ble_eq_true rfl) rfl rfl b1 ?_
      refine go_iconst (v := 1) d_M_reckon_72 (by decide) ?_
      refine go_istore_n d_M_reckon_73 (Nat.le_of_ble_eq_true rfl) rfl ?_
      refine c4 _ ?_
      refine go_iinc (v := nI (s + 1)) d_M_reckon_138 rfl (by first | rfl | exact nI_1 _) rfl ?_
      refine go_goto (tgt := 27) d_M_reckon_141 (by decide) ?_
      exact i1
  have start : ∀ L0, L0 = (if D.nb = 0 then 1 else 0) → ∃ I', pm_Go 9 m_M_reckon 21 [some (.ref 69), none, none] [] 0 0 (ST (pm_uI (pm_uI I 69 43 1) 69 44 (nI L0)) J) (.inl none, ST I' J) ∧ I' 69 43 = nI r.1 ∧ I' 69 44 = nI r.2 ∧ (∀ q, q < 39 → I' 69 q = I 69 q) ∧ fr reL I I' := by
    intro L0 hL0
    have rM1 : RMD (pm_uI (pm_uI I 69 43 1) 69 44 (nI L0)) D := by
      refine rM.cg (fun j hj => by rw [uI_nj (by omega), uI_nj (by omega)]) (fun c h1 h2 => ?_)
      funext j
      rw [uI_ne (by omega), uI_ne (by omega)]
    obtain ⟨I1, a1, a2, a3, a4, a5⟩ := sp_M_draw (d := 7) (J := J) hD rM1
    have rW1 : RW I1 I D 1 L0 := by
      refine RW.mk a2 a3 (by rw [a4 43 (by decide) (by decide)]; rfl) (by rw [a4 44 (by decide) (by decide)]; rfl) (fun q hq => by rw [a4 q (by omega) (by omega), uI_nj (by omega), uI_nj (by omega)]) ?_
      exact ((fr.uI (by decide)).tr (fr.uI (by decide))).tr (a5.up (by decide))
    have rI1 : RI D 1 L0 := by
      by_cases h : D.nb = 0
      · rw [if_pos h] at hL0
        exact RI.mk (fun z => absurd h z) (fun _ => ⟨rfl, hL0⟩) (by decide) (by omega)
      · rw [if_neg h] at hL0
        exact RI.mk (fun _ => Or.inl ⟨hL0, rfl⟩) (fun z => absurd z h) (by decide) (by omega)
    obtain ⟨I', i1, i2⟩ := outer N 0 1 L0 I1 none (by omega) (by omega) rW1 rI1 (fun s' hs' => absurd hs' (by omega)) rfl
    refine ⟨I', ?_, i2⟩
    refine go_aload_n d_M_reckon_21 rfl ?_
    refine go_callV (k2 := m_M_draw) (As := []) (r := none) d_M_reckon_22 ok_M_draw (Nat.le_of_ble_eq_true rfl) rfl pc_M rfl vl_M_219 rfl rfl (Nat.le_of_ble_eq_true rfl) (Nat.le_of_ble_eq_true rfl) (Nat.le_of_ble_eq_true rfl) (Nat.le_of_ble_eq_true rfl) rfl rfl a1 ?_
    refine go_iconst (v := 0) d_M_reckon_25 (by decide) ?_
    refine go_istore_n d_M_reckon_26 (Nat.le_of_ble_eq_true rfl) rfl ?_
    exact i1
  have h10 := hD.nb
  have e2 : I 69 2 = nI D.nb := rM.nb
  obtain ⟨I', i1, i2⟩ := start (if D.nb = 0 then 1 else 0) rfl
  refine ⟨I', ?_, i2⟩
  refine go_aload_n d_M_reckon_0 rfl ?_
  refine go_iconst (v := 1) d_M_reckon_1 (by decide) ?_
  refine go_pI (j := 43) d_M_reckon_2 (Nat.le_of_ble_eq_true rfl) rfl pc_M (Nat.le_of_ble_eq_true rfl) (by decide) w_745 rfl (Or.inl rfl) ?_
  refine go_aload_n d_M_reckon_5 rfl ?_
  refine go_aload_n d_M_reckon_6 rfl ?_
  refine go_gI (j := 2) (nI D.nb) d_M_reckon_7 (Nat.le_of_ble_eq_true rfl) rfl pc_M (Nat.le_of_ble_eq_true rfl) (by decide) w_704 e2 ?_
  by_cases h : D.nb = 0
  · rw [if_pos h] at i1
    refine go_if_ne (tgt := 17) d_M_reckon_10 (by decide) (fun z => absurd (congrArg nI h) z) (fun z => ?_)
    refine go_iconst (v := 1) d_M_reckon_13 (by decide) ?_
    refine go_goto (tgt := 18) d_M_reckon_14 (by decide) ?_
    refine go_pI (j := 44) d_M_reckon_18 (Nat.le_of_ble_eq_true rfl) rfl pc_M (Nat.le_of_ble_eq_true rfl) (by decide) w_746 rfl (Or.inl rfl) ?_
    exact i1
  · rw [if_neg h] at i1
    refine go_if_ne (tgt := 17) d_M_reckon_10 (by decide) (fun z => ?_) (fun z => absurd z (nI_ne0 (by omega) (by omega)))
    refine go_iconst (v := 0) d_M_reckon_17 (by decide) ?_
    refine go_pI (j := 44) d_M_reckon_18 (Nat.le_of_ble_eq_true rfl) rfl pc_M (Nat.le_of_ble_eq_true rfl) (by decide) w_746 rfl (Or.inl rfl) ?_
    exact i1
theorem RateM_RTM : RateM RTM := by
  intro I J D hD rM hx
  obtain ⟨I0, rD⟩ := hx
  obtain ⟨r, hr⟩ := isR_ex hD rD
  rw [RTM_is hr]
  exact sp_M_reckon hD rM hr
/-- the law holds on every script -/
theorem lw_done : lw_goal := lw_all RateE_RTM RateM_RTM
end S66
