/-! the reference: settle -/
def stL : List Nat := [82, 83, 84, 85, 86, 87, 88, 92, 93, 94]
section S44
variable {d : Nat} {I : Nat → Nat → Int32} {J : Nat → Nat → Int64} {D : DZ} {s : MS} {t : TS}
theorem M_st_b {vT r m v3 : Int32} {w4 : Option Value} {out : (Option Value ⊕ String) × pm_S} (hr : r = 0 ∨ r = 1) (hm : m = 0 ∨ m = 1) (ho : pm_Go (d + 4) m_M_settle 37 [some (.ref 69), some (.int vT), some (.int (if r = 1 then 1 else m)), some (.int v3), w4] [] 0 0 (ST I J) out) : pm_Go (d + 4) m_M_settle 24 [some (.ref 69), some (.int vT), some (.int m), some (.int v3), w4] [.int r] 0 0 (ST I J) out := by
  rcases hr with rfl | rfl
  · rw [if_neg (by decide)] at ho
    refine go_if_ne (tgt := 31) d_M_settle_24 (by decide) (fun z => absurd rfl z) (fun z => ?_)
    refine go_iload_n d_M_settle_27 rfl ?_
    rcases hm with rfl | rfl
    · refine go_if_eq (tgt := 35) d_M_settle_28 (by decide) (fun z => ?_) (fun z => absurd rfl z)
      refine go_iconst (v := 0) d_M_settle_35 (by decide) ?_
      refine go_istore_n d_M_settle_36 (Nat.le_of_ble_eq_true rfl) rfl ?_
      exact ho
    · refine go_if_eq (tgt := 35) d_M_settle_28 (by decide) (fun z => absurd z (by decide)) (fun z => ?_)
      refine go_iconst (v := 1) d_M_settle_31 (by decide) ?_
      refine go_goto (tgt := 36) d_M_settle_32 (by decide) ?_
      refine go_istore_n d_M_settle_36 (Nat.le_of_ble_eq_true rfl) rfl ?_
      exact ho
  · rw [if_pos rfl] at ho
    refine go_if_ne (tgt := 31) d_M_settle_24 (by decide) (fun z => ?_) (fun z => absurd z (by decide))
    refine go_iconst (v := 1) d_M_settle_31 (by decide) ?_
    refine go_goto (tgt := 36) d_M_settle_32 (by decide) ?_
    refine go_istore_n d_M_settle_36 (Nat.le_of_ble_eq_true rfl) rfl ?_
    exact ho
theorem M_st_c {vT r m v3 v4 : Int32} {out : (Option Value ⊕ String) × pm_S} (hr : r = 0 ∨ r = 1) (hm : m = 0 ∨ m = 1) (ho : pm_Go (d + 4) m_M_settle 88 [some (.ref 69), some (.int vT), some (.int (if r = 1 then 1 else m)), some (.int v3), some (.int v4)] [] 0 0 (ST I J) out) : pm_Go (d + 4) m_M_settle 75 [some (.ref 69), some (.int vT), some (.int m), some (.int v3), some (.int v4)] [.int r] 0 0 (ST I J) out := by
  rcases hr with rfl | rfl
  · rw [if_neg (by decide)] at ho
    refine go_if_ne (tgt := 82) d_M_settle_75 (by decide) (fun z => absurd rfl z) (fun z => ?_)
    refine go_iload_n d_M_settle_78 rfl ?_
    rcases hm with rfl | rfl
    · refine go_if_eq (tgt := 86) d_M_settle_79 (by decide) (fun z => ?_) (fun z => absurd rfl z)
      refine go_iconst (v := 0) d_M_settle_86 (by decide) ?_
      refine go_istore_n d_M_settle_87 (Nat.le_of_ble_eq_true rfl) rfl ?_
      exact ho
    · refine go_if_eq (tgt := 86) d_M_settle_79 (by decide) (fun z => absurd z (by decide)) (fun z => ?_)
      refine go_iconst (v := 1) d_M_settle_82 (by decide) ?_
      refine go_goto (tgt := 87) d_M_settle_83 (by decide) ?_
      refine go_istore_n d_M_settle_87 (Nat.le_of_ble_eq_true rfl) rfl ?_
      exact ho
  · rw [if_pos rfl] at ho
    refine go_if_ne (tgt := 82) d_M_settle_75 (by decide) (fun z => ?_) (fun z => absurd z (by decide))
    refine go_iconst (v := 1) d_M_settle_82 (by decide) ?_
    refine go_goto (tgt := 87) d_M_settle_83 (by decide) ?_
    refine go_istore_n d_M_settle_87 (Nat.le_of_ble_eq_true rfl) rfl ?_
    exact ho
theorem or_01 {r m : Int32} (hm : m = 0 ∨ m = 1) : (if r = 1 then (1 : Int32) else m) = 0 ∨ (if r = 1 then (1 : Int32) else m) = 1 := by
  split
  · exact Or.inr rfl
  · exact hm
theorem lt_S {a b c : Int32} {w4 : Option Value} (h : pm_lt 104 [w4] [] = true) : pm_lt 104 [some (.ref 69), some (.int a), some (.int b), some (.int c), w4] [] = true := by
  cases w4 <;> simp_all [pm_lt, pm_ltV]
/-- one pass over all, whatever it does -/
theorem M_pass {T : Nat} (quiet : Prop) (Q : Nat → MS) (V : Nat → Nat → MS) (hD : DW D) (rM : RMD I D)
    (hw : ∀ j, j < D.nb → ∀ Ii : Nat → Nat → Int32, RMS Ii D (Q j) t → fr stL I Ii → ∃ I2 r, pm_Go (d + 3) m_M_work 0 [some (.ref 69), some (.int (nI j)), some (.int (nI T)), none, none, none, none, none, none] [] 0 0 (ST Ii J) (.inl (some (.int r)), ST I2 J) ∧ (r = 0 ∨ r = 1) ∧ (quiet → r = 0) ∧ RMS I2 D (Q (j + 1)) t ∧ fr stL I I2)
    (hv : ∀ c, c < D.nc → ∀ b, b < D.ex c → ∀ Ii : Nat → Nat → Int32, RMS Ii D (V c b) t → fr stL I Ii → ∃ I2 r, pm_Go (d + 3) m_M_move 0 [some (.ref 69), some (.int (nI c)), some (.int (nI b)), some (.int (nI T)), none, none] [] 0 0 (ST Ii J) (.inl (some (.int r)), ST I2 J) ∧ (r = 0 ∨ r = 1) ∧ (quiet → r = 0) ∧ RMS I2 D (V c (b + 1)) t ∧ fr stL I I2)
    (hl : ∀ Ii : Nat → Nat → Int32, RMS Ii D (Q D.nb) t → RMS Ii D (V 0 0) t)
    (hr : ∀ c, c < D.nc → ∀ Ii : Nat → Nat → Int32, RMS Ii D (V c (D.ex c)) t → RMS Ii D (V (c + 1) 0) t) :
    ∀ (Ii : Nat → Nat → Int32) (m : Int32) (w3 w4 : Option Value), RMS Ii D (Q 0) t → fr stL I Ii → pm_lt 104 [w4] [] = true → ∃ I' m' w3' w4', pm_lt 104 [w4'] [] = true ∧ (m' = 0 ∨ m' = 1) ∧ (quiet → m' = 0) ∧ RMS I' D (V D.nc 0) t ∧ fr stL I I' ∧ ∀ out, pm_Go (d + 4) m_M_settle 2 [some (.ref 69), some (.int (nI T)), some (.int m'), w3', w4'] [] 0 0 (ST I' J) out → pm_Go (d + 4) m_M_settle 6 [some (.ref 69), some (.int (nI T)), some (.int m), w3, w4] [] 0 0 (ST Ii J) out := by
  have h20 := hD.nc
  have h10 := hD.nb
  have lc : ∀ n c (Ii : Nat → Nat → Int32) (m : Int32) (w4 : Option Value), D.nc - c = n → c ≤ D.nc → (m = 0 ∨ m = 1) → (quiet → m = 0) → RMS Ii D (V c 0) t → fr stL I Ii → pm_lt 104 [w4] [] = true → ∃ I' m' w3' w4', pm_lt 104 [w4'] [] = true ∧ (m' = 0 ∨ m' = 1) ∧ (quiet → m' = 0) ∧ RMS I' D (V D.nc 0) t ∧ fr stL I I' ∧ ∀ out, pm_Go (d + 4) m_M_settle 2 [some (.ref 69), some (.int (nI T)), some (.int m'), w3', w4'] [] 0 0 (ST I' J) out → pm_Go (d + 4) m_M_settle 45 [some (.ref 69), some (.int (nI T)), some (.int m), some (.int (nI c)), w4] [] 0 0 (ST Ii J) out := by
    intro n
    induction n with
    | zero =>
      intro c Ii m w4 hn hc hm hq q1 f1 hw4
      have : c = D.nc := by omega
      subst this
      have rMi : RMD Ii D := rM.fr f1 (by decide)
      refine ⟨Ii, m, some (.int (nI D.nc)), w4, hw4, hm, hq, q1, f1, fun out ho => ?_⟩
      refine go_iload_n d_M_settle_45 rfl ?_
      refine go_aload_n d_M_settle_46 rfl ?_
      refine go_gI (j := 5) (nI D.nc) d_M_settle_47 (Nat.le_of_ble_eq_true rfl) rfl pc_M (Nat.le_of_ble_eq_true rfl) (by decide) w_707 rMi.nc ?_
      refine go_icmp_ge (tgt := 100) d_M_settle_50 (by decide) (fun z => ?_) (fun z => absurd (nI_le (Nat.le_refl _) (by omega)) z)
      refine go_goto (tgt := 2) d_M_settle_100 (by decide) ?_
      exact ho
    | succ n ih =>
      intro c Ii m w4 hn hc hm hq q1 f1 hw4
      have hc2 : c < D.nc := by omega
      have h3 := (hD.ch c hc2).2.2
      have lb : ∀ x b (Ii : Nat → Nat → Int32) (m : Int32), D.ex c - b = x → b ≤ D.ex c → (m = 0 ∨ m = 1) → (quiet → m = 0) → RMS Ii D (V c b) t → fr stL I Ii → ∃ I' m' w3' w4', pm_lt 104 [w4'] [] = true ∧ (m' = 0 ∨ m' = 1) ∧ (quiet → m' = 0) ∧ RMS I' D (V D.nc 0) t ∧ fr stL I I' ∧ ∀ out, pm_Go (d + 4) m_M_settle 2 [some (.ref 69), some (.int (nI T)), some (.int m'), w3', w4'] [] 0 0 (ST I' J) out → pm_Go (d + 4) m_M_settle 56 [some (.ref 69), some (.int (nI T)), some (.int m), some (.int (nI c)), some (.int (nI b))] [] 0 0 (ST Ii J) out := by
        intro x
        induction x with
        | zero =>
          intro b Ii m hx hb hm hq q1 f1
          have : b = D.ex c := by omega
          subst this
          have rMi : RMD Ii D := rM.fr f1 (by decide)
          obtain ⟨I', m', w3', w4', i0, i1, i2, i3, i4, i5⟩ := ih (c + 1) Ii m (some (.int (nI (D.ex c)))) (by omega) (by omega) hm hq (hr c hc2 Ii q1) f1 rfl
          refine ⟨I', m', w3', w4', i0, i1, i2, i3, i4, fun out ho => ?_⟩
          have i6 := i5 out ho
          refine go_iload d_M_settle_56 rfl ?_
          refine go_aload_n d_M_settle_58 rfl ?_
          refine go_getP (j := 9) d_M_settle_59 (Nat.le_of_ble_eq_true rfl) rfl pc_M (Nat.le_of_ble_eq_true rfl) rfl w_711 pt_M_9 ?_
          refine go_iload_n d_M_settle_62 rfl ?_
          refine go_ald c (nI (D.ex c)) d_M_settle_63 (Nat.le_of_ble_eq_true rfl) rfl rfl (by omega) (by decide) (rMi.ch c hc2).2.2.2.1 ?_
          refine go_icmp_ge (tgt := 94) d_M_settle_64 (by decide) (fun z => ?_) (fun z => absurd (nI_le (Nat.le_refl _) (by omega)) z)
          refine go_iinc (v := nI (c + 1)) d_M_settle_94 rfl (by first | rfl | exact nI_1 _) rfl ?_
          refine go_goto (tgt := 45) d_M_settle_97 (by decide) ?_
          exact i6
        | succ x ihx =>
          intro b Ii m hx hb hm hq q1 f1
          have hb2 : b < D.ex c := by omega
          have rMi : RMD Ii D := rM.fr f1 (by decide)
          obtain ⟨I2, r, g1, g2, g3, g4, g5⟩ := hv c hc2 b hb2 Ii q1 f1
          obtain ⟨I', m', w3', w4', i0, i1, i2, i3, i4, i5⟩ := ihx (b + 1) I2 (if r = 1 then 1 else m) (by omega) (by omega) (or_01 hm) (fun z => by rw [g3 z, if_neg (by decide)]; exact hq z) g4 g5
          refine ⟨I', m', w3', w4', i0, i1, i2, i3, i4, fun out ho => ?_⟩
          have i6 := i5 out ho
          refine go_iload d_M_settle_56 rfl ?_
          refine go_aload_n d_M_settle_58 rfl ?_
          refine go_getP (j := 9) d_M_settle_59 (Nat.le_of_ble_eq_true rfl) rfl pc_M (Nat.le_of_ble_eq_true rfl) rfl w_711 pt_M_9 ?_
          refine go_iload_n d_M_settle_62 rfl ?_
          refine go_ald c (nI (D.ex c)) d_M_settle_63 (Nat.le_of_ble_eq_true rfl) rfl rfl (by omega) (by decide) (rMi.ch c hc2).2.2.2.1 ?_
          refine go_icmp_ge (tgt := 94) d_M_settle_64 (by decide) (fun z => absurd z (nI_ge (by omega) (by omega))) (fun z => ?_)
          refine go_aload_n d_M_settle_67 rfl ?_
          refine go_iload_n d_M_settle_68 rfl ?_
          refine go_iload d_M_settle_69 rfl ?_
          refine go_iload_n d_M_settle_71 rfl ?_
          refine go_callV (k2 := m_M_move) (As := [.int (nI c), .int (nI b), .int (nI T)]) (r := some (.int r)) d_M_settle_72 ok_M_move (Nat.le_of_ble_eq_true rfl) rfl pc_M rfl vl_M_185 rfl rfl (Nat.le_of_ble_eq_true rfl) (Nat.le_of_ble_eq_true rfl) (Nat.le_of_ble_eq_true rfl) (Nat.le_of_ble_eq_true rfl) rfl rfl g1 ?_
          refine M_st_c g2 hm ?_
          refine go_iinc (v := nI (b + 1)) d_M_settle_88 rfl (by first | rfl | exact nI_1 _) rfl ?_
          refine go_goto (tgt := 56) d_M_settle_91 (by decide) ?_
          exact i6
      have rMi : RMD Ii D := rM.fr f1 (by decide)
      obtain ⟨I', m', w3', w4', i0, i1, i2, i3, i4, i5⟩ := lb (D.ex c) 0 Ii m (by omega) (by omega) hm hq q1 f1
      refine ⟨I', m', w3', w4', i0, i1, i2, i3, i4, fun out ho => ?_⟩
      have i6 := i5 out ho
      refine go_iload_n d_M_settle_45 rfl ?_
      refine go_aload_n d_M_settle_46 rfl ?_
      refine go_gI (j := 5) (nI D.nc) d_M_settle_47 (Nat.le_of_ble_eq_true rfl) rfl pc_M (Nat.le_of_ble_eq_true rfl) (by decide) w_707 rMi.nc ?_
      refine go_icmp_ge (tgt := 100) d_M_settle_50 (by decide) (fun z => absurd z (nI_ge (by omega) (by omega))) (fun z => ?_)
      refine go_iconst (v := 0) d_M_settle_53 (by decide) ?_
      refine go_istore d_M_settle_54 (Nat.le_of_ble_eq_true rfl) rfl ?_
      exact i6
  have lj : ∀ n j (Ii : Nat → Nat → Int32) (m : Int32) (w4 : Option Value), D.nb - j = n → j ≤ D.nb → (m = 0 ∨ m = 1) → (quiet → m = 0) → RMS Ii D (Q j) t → fr stL I Ii → pm_lt 104 [w4] [] = true → ∃ I' m' w3' w4', pm_lt 104 [w4'] [] = true ∧ (m' = 0 ∨ m' = 1) ∧ (quiet → m' = 0) ∧ RMS I' D (V D.nc 0) t ∧ fr stL I I' ∧ ∀ out, pm_Go (d + 4) m_M_settle 2 [some (.ref 69), some (.int (nI T)), some (.int m'), w3', w4'] [] 0 0 (ST I' J) out → pm_Go (d + 4) m_M_settle 10 [some (.ref 69), some (.int (nI T)), some (.int m), some (.int (nI j)), w4] [] 0 0 (ST Ii J) out := by
    intro n
    induction n with
    | zero =>
      intro j Ii m w4 hn hj hm hq q1 f1 hw4
      have : j = D.nb := by omega
      subst this
      have rMi : RMD Ii D := rM.fr f1 (by decide)
      obtain ⟨I', m', w3', w4', i0, i1, i2, i3, i4, i5⟩ := lc D.nc 0 Ii m w4 (by omega) (by omega) hm hq (hl Ii q1) f1 hw4
      refine ⟨I', m', w3', w4', i0, i1, i2, i3, i4, fun out ho => ?_⟩
      have i6 := i5 out ho
      refine go_iload_n d_M_settle_10 rfl ?_
      refine go_aload_n d_M_settle_11 rfl ?_
      refine go_gI (j := 2) (nI D.nb) d_M_settle_12 (Nat.le_of_ble_eq_true rfl) rfl pc_M (Nat.le_of_ble_eq_true rfl) (by decide) w_704 rMi.nb ?_
      refine go_icmp_ge (tgt := 43) d_M_settle_15 (by decide) (fun z => ?_) (fun z => absurd (nI_le (Nat.le_refl _) (by omega)) z)
      refine go_iconst (v := 0) d_M_settle_43 (by decide) ?_
      refine go_istore_n d_M_settle_44 (Nat.le_of_ble_eq_true rfl) rfl ?_
      exact i6
    | succ n ih =>
      intro j Ii m w4 hn hj hm hq q1 f1 hw4
      have hj2 : j < D.nb := by omega
      have rMi : RMD Ii D := rM.fr f1 (by decide)
      obtain ⟨I2, r, g1, g2, g3, g4, g5⟩ := hw j hj2 Ii q1 f1
      obtain ⟨I', m', w3', w4', i0, i1, i2, i3, i4, i5⟩ := ih (j + 1) I2 (if r = 1 then 1 else m) w4 (by omega) (by omega) (or_01 hm) (fun z => by rw [g3 z, if_neg (by decide)]; exact hq z) g4 g5 hw4
      refine ⟨I', m', w3', w4', i0, i1, i2, i3, i4, fun out ho => ?_⟩
      have i6 := i5 out ho
      refine go_iload_n d_M_settle_10 rfl ?_
      refine go_aload_n d_M_settle_11 rfl ?_
      refine go_gI (j := 2) (nI D.nb) d_M_settle_12 (Nat.le_of_ble_eq_true rfl) rfl pc_M (Nat.le_of_ble_eq_true rfl) (by decide) w_704 rMi.nb ?_
      refine go_icmp_ge (tgt := 43) d_M_settle_15 (by decide) (fun z => absurd z (nI_ge (by omega) (by omega))) (fun z => ?_)
      refine go_aload_n d_M_settle_18 rfl ?_
      refine go_iload_n d_M_settle_19 rfl ?_
      refine go_iload_n d_M_settle_20 rfl ?_
      refine go_callV (k2 := m_M_work) (As := [.int (nI j), .int (nI T)]) (r := some (.int r))  d_M_settle_21 ok_M_work (Nat.le_of_ble_eq_true rfl) rfl pc_M rfl vl_M_181 rfl rfl (Nat.le_of_ble_eq_true rfl) (Nat.le_of_ble_eq_true rfl) (Nat.le_of_ble_eq_true rfl) (Nat.le_of_ble_eq_true rfl) (lt_S hw4) rfl g1 ?_
      refine M_st_b g2 hm ?_
      refine go_iinc (v := nI (j + 1)) d_M_settle_37 rfl (by first | rfl | exact nI_1 _) rfl ?_
      refine go_goto (tgt := 10) d_M_settle_40 (by decide) ?_
      exact i6
  intro Ii m w3 w4 q1 f1 hw4
  obtain ⟨I', m', w3', w4', i0, i1, i2, i3, i4, i5⟩ := lj D.nb 0 Ii 0 w4 (by omega) (by omega) (Or.inl rfl) (fun _ => rfl) q1 f1 hw4
  refine ⟨I', m', w3', w4', i0, i1, i2, i3, i4, fun out ho => ?_⟩
  have i6 := i5 out ho
  refine go_iconst (v := 0) d_M_settle_6 (by decide) ?_
  refine go_istore_n d_M_settle_7 (Nat.le_of_ble_eq_true rfl) rfl ?_
  refine go_iconst (v := 0) d_M_settle_8 (by decide) ?_
  refine go_istore_n d_M_settle_9 (Nat.le_of_ble_eq_true rfl) rfl ?_
  exact i6
theorem RMS_q {s' : MS} (h : RMS I D s t) (hT : s'.T = s.T) (ht : s'.tok = s.tok) (hv : s'.ofv = s.ofv) (ho : s'.off = s.off) (hs : s'.ous = s.ous) (hu : s'.ouT = s.ouT) (hle : ∀ c, c < D.nc → ∀ b, b < D.ex c → s'.le c b = s.le c b) (hga : ∀ c, c < D.nc → s'.ga c = s.ga c) (htu : ∀ j, j < D.nb → s'.tu j = s.tu j) (hou : ∀ p, p < D.no → s'.ou p = s.ou p) : RMS I D s' t :=
  h.cg hT (fun _ _ => rfl) (fun _ _ _ _ => by rw [ht]) (fun c hc b hb => ⟨hle c hc b hb, fun _ _ => rfl⟩) (fun c hc => ⟨hga c hc, fun _ _ => rfl⟩) (fun c hc => ⟨htu c hc, fun _ _ => rfl⟩) (fun _ _ => ⟨by rw [ho], fun _ _ => ⟨by rw [hv], rfl⟩⟩) (fun c hc => ⟨hou c hc, fun _ _ => ⟨by rw [hs], by rw [hu]⟩⟩)
variable {stl : Int32}
theorem st_w1 (hD : DW D) (hM : MI D s) (hI : TI D s t) (hT : s.T < 1000) (hB : TB s t) (rM : RMD I D) (hst : ∀ q, q ≤ s.T → I 81 q = (ftM s t stl).sl q) : ∀ j, j < D.nb → ∀ Ii : Nat → Nat → Int32, RMS Ii D (P0M D s stl j) (ftM s t stl) → fr stL I Ii → ∃ I2 r, pm_Go (d + 3) m_M_work 0 [some (.ref 69), some (.int (nI j)), some (.int (nI s.T)), none, none, none, none, none, none] [] 0 0 (ST Ii J) (.inl (some (.int r)), ST I2 J) ∧ (r = 0 ∨ r = 1) ∧ (False → r = 0) ∧ RMS I2 D (P0M D s stl (j + 1)) (ftM s t stl) ∧ fr stL I I2 := by
  intro j hj Ii q1 f1
  have rMi : RMD Ii D := rM.fr f1 (by decide)
  have hN : NB D (P0M D s stl j) := NB_pq hD hM hT
  have hB2 : TB (P0M D s stl j) (ftM s t stl) := TB_ft hB (by omega)
  have e81 : ∀ q, q ≤ s.T → Ii 81 q = (ftM s t stl).sl q := by rw [f1 81 (by decide)]; exact hst
  cases hr : rdM D s j
  · have h1 := sp_M_work0 (d := d) (J := J) hD rMi q1 hN hB2 hj hT (f_rdN hD hr)
    refine ⟨Ii, 0, h1, Or.inl rfl, fun z => z.elim, ?_, f1⟩
    have hge : ∀ x, geM D s stl j x = false := fun x => by rw [geM, hr]; rfl
    have hen : enM D s stl j = false := by rw [enM, hr]; rfl
    refine RMS_q q1 rfl rfl rfl rfl rfl rfl (fun c hc b hb => rfl) (fun c hc => ?_) (fun x hx => ?_) (fun p hp => ?_)
    · show gaQ D s stl (gcj D (j + 1)) c = gaQ D s stl (gcj D j) c
      rw [P0_ga, if_neg (fun z => by rw [hge] at z; exact absurd z.2 (by decide))]
    · show tuP D s stl (lb (j + 1)) x = tuP D s stl (lb j) x
      rw [P0_tu, if_neg (fun z => by rw [hen] at z; exact absurd z.2 (by decide))]
    · show ouQ D s stl (hpj D (j + 1)) p = ouQ D s stl (hpj D j) p
      rw [P0_ou, if_neg (fun z => by rw [hge] at z; exact absurd z.2 (by decide))]
  · obtain ⟨I2, r, g1, g2, -, g4, g5⟩ := sp_M_work (d := d) (J := J) hD rMi q1 hN hB2 hj hT e81 (WH_1 hD hM hI hj hr)
    refine ⟨I2, r, g1, g2, fun z => z.elim, ?_, f1.tr (g5.up (by decide))⟩
    have eP : (P0M D s stl j).tu j = s.tu j := tuP_jj
    unfold wkE at g4
    cases he : enM D s stl j
    · rw [he, if_neg (by decide)] at g4
      refine RMS_q g4 rfl rfl rfl rfl rfl rfl (fun c hc b hb => rfl) (fun c hc => ?_) (fun x hx => ?_) (fun p hp => ?_)
      · show gaQ D s stl (gcj D (j + 1)) c = (if c < D.nc ∧ D.fm c = j ∧ geM D s stl j c = true then gaQ D s stl (gcj D j) c + 1 else gaQ D s stl (gcj D j) c)
        rw [P0_ga]
        by_cases e : D.fm c = j ∧ geM D s stl j c = true
        · rw [if_pos e, if_pos ⟨hc, e⟩]
        · rw [if_neg e, if_neg (fun z => e z.2)]
      · show tuP D s stl (lb (j + 1)) x = tuP D s stl (lb j) x
        rw [P0_tu, if_neg (fun z => by rw [he] at z; exact absurd z.2 (by decide))]
      · show ouQ D s stl (hpj D (j + 1)) p = (if p < D.no ∧ D.ofm p = j ∧ geM D s stl j (20 + p) = true then ouQ D s stl (hpj D j) p + 1 else ouQ D s stl (hpj D j) p)
        rw [P0_ou]
        by_cases e : D.ofm p = j ∧ geM D s stl j (20 + p) = true
        · rw [if_pos e, if_pos ⟨hp, e⟩]
        · rw [if_neg e, if_neg (fun z => e z.2)]
    · rw [he, if_pos rfl] at g4
      refine RMS_q g4 rfl rfl rfl rfl rfl rfl (fun c hc b hb => rfl) (fun c hc => ?_) (fun x hx => ?_) (fun p hp => ?_)
      · show gaQ D s stl (gcj D (j + 1)) c = (if c < D.nc ∧ D.fm c = j ∧ geM D s stl j c = true then gaQ D s stl (gcj D j) c + 1 else gaQ D s stl (gcj D j) c)
        rw [P0_ga]
        by_cases e : D.fm c = j ∧ geM D s stl j c = true
        · rw [if_pos e, if_pos ⟨hc, e⟩]
        · rw [if_neg e, if_neg (fun z => e z.2)]
      · show tuP D s stl (lb (j + 1)) x = (if x = j then (P0M D s stl j).tu j + 1 else tuP D s stl (lb j) x)
        rw [P0_tu, eP]
        by_cases e : x = j
        · rw [if_pos ⟨e, he⟩, if_pos e]
        · rw [if_neg (fun z => e z.1), if_neg e]
      · show ouQ D s stl (hpj D (j + 1)) p = (if p < D.no ∧ D.ofm p = j ∧ geM D s stl j (20 + p) = true then ouQ D s stl (hpj D j) p + 1 else ouQ D s stl (hpj D j) p)
        rw [P0_ou]
        by_cases e : D.ofm p = j ∧ geM D s stl j (20 + p) = true
        · rw [if_pos e, if_pos ⟨hp, e⟩]
        · rw [if_neg e, if_neg (fun z => e z.2)]
theorem st_v1 (hD : DW D) (hM : MI D s) (hI : TI D s t) (hT : s.T < 1000) (hB : TB s t) (rM : RMD I D) : ∀ c, c < D.nc → ∀ b, b < D.ex c → ∀ Ii : Nat → Nat → Int32, RMS Ii D (PVM D s stl c b) (ftM s t stl) → fr stL I Ii → ∃ I2 r, pm_Go (d + 3) m_M_move 0 [some (.ref 69), some (.int (nI c)), some (.int (nI b)), some (.int (nI s.T)), none, none] [] 0 0 (ST Ii J) (.inl (some (.int r)), ST I2 J) ∧ (r = 0 ∨ r = 1) ∧ (False → r = 0) ∧ RMS I2 D (PVM D s stl c (b + 1)) (ftM s t stl) ∧ fr stL I I2 := by
  intro c hc b hb Ii q1 f1
  have rMi : RMD Ii D := rM.fr f1 (by decide)
  have hN : NB D (PVM D s stl c b) := NB_pq hD hM hT
  have hB2 : TB (PVM D s stl c b) (ftM s t stl) := TB_ft hB (by omega)
  have ele : (PVM D s stl c b).le c b = s.le c b := Bm_at
  cases hm : mvM D s c b
  · have h1 := sp_M_moveN (d := d + 2) (J := J) (T := s.T) hD rMi q1 hN hB2 hc hb hT (by rw [ele]; exact f_mvN hb hm)
    refine ⟨Ii, 0, h1, Or.inl rfl, fun z => z.elim, ?_, f1⟩
    exact RMS_q q1 rfl rfl rfl rfl rfl rfl (fun x hx y hy => Bm_no hm x y) (fun c hc => rfl) (fun x hx => rfl) (fun p hp => rfl)
  · obtain ⟨a1, a2, a3, a4⟩ := f_mvY (t := t) (stl := stl) (A := lb D.nb) (G := G0 D) (H := H0 D) (B := Bm c b) hD hI hc hm
    obtain ⟨I2, g1, g2, g3⟩ := sp_M_moveY (d := d + 2) (J := J) (T := s.T) hD rMi q1 hN hB2 hc hb hT (by rw [ele]; exact a1) (by rw [ele]; exact a2) (by rw [ele, a3]; exact Nat.le_refl _) (by rw [ele, a4, a3])
    refine ⟨I2, 1, g1, Or.inr rfl, fun z => z.elim, ?_, f1.tr (g3.up (by decide))⟩
    refine RMS_q g2 rfl rfl rfl rfl rfl rfl (fun x hx y hy => ?_) (fun c hc => rfl) (fun x hx => rfl) (fun p hp => rfl)
    show leP D s (Bm c (b + 1)) x y = (if x = c ∧ y = b then (PVM D s stl c b).le c b + 1 else leP D s (Bm c b) x y)
    rw [ele]
    by_cases e : x = c ∧ y = b
    · rw [if_pos e, e.1, e.2, Bm_up hm]
    · rw [if_neg e, Bm_le e]
theorem st_w2 (hD : DW D) (hM : MI D s) (hI : TI D s t) (hT : s.T < 1000) (hB : TB s t) (rM : RMD I D) (hst : ∀ q, q ≤ s.T → I 81 q = (ftM s t stl).sl q) : ∀ j, j < D.nb → ∀ Ii : Nat → Nat → Int32, RMS Ii D (PFM D s stl) (ftM s t stl) → fr stL I Ii → ∃ I2 r, pm_Go (d + 3) m_M_work 0 [some (.ref 69), some (.int (nI j)), some (.int (nI s.T)), none, none, none, none, none, none] [] 0 0 (ST Ii J) (.inl (some (.int r)), ST I2 J) ∧ (r = 0 ∨ r = 1) ∧ (True → r = 0) ∧ RMS I2 D (PFM D s stl) (ftM s t stl) ∧ fr stL I I2 := by
  intro j hj Ii q1 f1
  have rMi : RMD Ii D := rM.fr f1 (by decide)
  have hN : NB D (PFM D s stl) := NB_pq hD hM hT
  have hB2 : TB (PFM D s stl) (ftM s t stl) := TB_ft hB (by omega)
  have e81 : ∀ q, q ≤ s.T → Ii 81 q = (ftM s t stl).sl q := by rw [f1 81 (by decide)]; exact hst
  have hI2 := TI_step (stl := stl) hD hM hI
  by_cases hh : rdM D (PFM D s stl) j = true ∧ rdR D (ftM s t stl) j ((PFM D s stl).tu j) ≤ s.T
  · obtain ⟨I2, r, g1, g2, g3, g4, g5⟩ := sp_M_work (d := d) (J := J) hD rMi q1 hN hB2 hj hT e81 (WH_2 hD hM hT hI2 hj hh.1 hh.2)
    refine ⟨I2, r, g1, g2, fun _ => g3 (fun _ _ _ => rfl) (fun _ _ _ => rfl) rfl, ?_, f1.tr (g5.up (by decide))⟩
    unfold wkE at g4
    rw [if_neg (by decide)] at g4
    refine RMS_q g4 rfl rfl rfl rfl rfl rfl (fun c hc b hb => rfl) (fun c hc => ?_) (fun x hx => rfl) (fun p hp => ?_)
    · show (PFM D s stl).ga c = (if c < D.nc ∧ D.fm c = j ∧ false = true then (PFM D s stl).ga c + 1 else (PFM D s stl).ga c)
      rw [if_neg (fun z => absurd z.2.2 (by decide))]
    · show (PFM D s stl).ou p = (if p < D.no ∧ D.ofm p = j ∧ false = true then (PFM D s stl).ou p + 1 else (PFM D s stl).ou p)
      rw [if_neg (fun z => absurd z.2.2 (by decide))]
  · have h1 := sp_M_work0 (d := d) (J := J) hD rMi q1 hN hB2 hj hT (by
      cases hr : rdM D (PFM D s stl) j
      · exact Or.inl rfl
      · refine Or.inr (Nat.lt_of_not_le (fun z => hh ⟨hr, z⟩)))
    exact ⟨Ii, 0, h1, Or.inl rfl, fun _ => rfl, q1, f1⟩
theorem st_v2 (hD : DW D) (hM : MI D s) (hI : TI D s t) (hT : s.T < 1000) (hB : TB s t) (rM : RMD I D) : ∀ c, c < D.nc → ∀ b, b < D.ex c → ∀ Ii : Nat → Nat → Int32, RMS Ii D (PFM D s stl) (ftM s t stl) → fr stL I Ii → ∃ I2 r, pm_Go (d + 3) m_M_move 0 [some (.ref 69), some (.int (nI c)), some (.int (nI b)), some (.int (nI s.T)), none, none] [] 0 0 (ST Ii J) (.inl (some (.int r)), ST I2 J) ∧ (r = 0 ∨ r = 1) ∧ (True → r = 0) ∧ RMS I2 D (PFM D s stl) (ftM s t stl) ∧ fr stL I I2 := by
  intro c hc b hb Ii q1 f1
  have rMi : RMD Ii D := rM.fr f1 (by decide)
  have hN : NB D (PFM D s stl) := NB_pq hD hM hT
  have hB2 : TB (PFM D s stl) (ftM s t stl) := TB_ft hB (by omega)
  have hI2 := TI_step (stl := stl) hD hM hI
  have h1 := sp_M_moveN (d := d + 2) (J := J) (T := s.T) hD rMi q1 hN hB2 hc hb hT (mvN_2 hI2 hc hb)
  exact ⟨Ii, 0, h1, Or.inl rfl, fun _ => rfl, q1, f1⟩
theorem sp_M_settle (hD : DW D) (hM : MI D s) (hI : TI D s t) (hT : s.T < 1000) (hB : TB s t) (rM : RMD I D) (rS : RMS I D s t) (hst : ∀ q, q ≤ s.T → I 81 q = (ftM s t stl).sl q) : ∃ I', pm_Go (d + 4) m_M_settle 0 [some (.ref 69), some (.int (nI s.T)), none, none, none] [] 0 0 (ST I J) (.inl none, ST I' J) ∧ RMS I' D (PFM D s stl) (ftM s t stl) ∧ fr stL I I' := by
  have b0 : ∀ c b, leP D s (Bm 0 0) c b = s.le c b := fun c b => by
    unfold leP Bm
    rw [decide_eq_false (by omega)]
    simp
  have rS0 : RMS I D (P0M D s stl 0) (ftM s t stl) := by
    refine rS.cg rfl (fun k hk => by rw [slF, if_neg (by omega)]) (fun c hc k hk => ?_) (fun c hc b hb => ⟨b0 c b, fun k hk => by rw [lvF, if_neg (by omega)]⟩) (fun c hc => ⟨?_, fun k hk => by rw [gtF, if_neg (by omega)]⟩) (fun j hj => ⟨?_, fun k hk => by rw [enF, if_neg (by omega)]⟩) (fun p hp => ⟨rfl, fun k hk => ⟨rfl, rfl⟩⟩) (fun p hp => ⟨?_, fun k hk => ⟨?_, ?_⟩⟩)
    · show tokP D s c k = s.tok c k
      rw [tokP, if_neg (by omega)]
    · exact gaQ_n (D := D) (s := s) (stl := stl) (c := c) (G := gcj D 0) (Or.inl (show decide (D.fm c < 0) = false from decide_eq_false (Nat.not_lt_zero _)))
    · show tuP D s stl (lb 0) j = s.tu j
      simp [tuP, lb]
    · exact ouQ_n (D := D) (s := s) (stl := stl) (p := p) (H := hpj D 0) (Or.inl (show decide (D.ofm p < 0) = false from decide_eq_false (Nat.not_lt_zero _)))
    · show ousP D s p k = s.ous p k
      rw [ousP, if_neg (by omega)]
    · show ouTP s p k = s.ouT p k
      rw [ouTP, if_neg (by omega)]
  obtain ⟨I1, m1, w3, w4, a0, a1, -, a3, a4, a5⟩ := M_pass (d := d) (I := I) (J := J) (T := s.T) False (P0M D s stl) (PVM D s stl) hD rM (st_w1 hD hM hI hT hB rM hst) (st_v1 hD hM hI hT hB rM) (fun Ii h => h) (fun c hc Ii h => RMS_q h rfl rfl rfl rfl rfl rfl (fun x hx y hy => Bm_end x y) (fun c hc => rfl) (fun x hx => rfl) (fun p hp => rfl)) I 1 none none rS0 fr.rf rfl
  have rF : RMS I1 D (PFM D s stl) (ftM s t stl) := RMS_q a3 rfl rfl rfl rfl rfl rfl (fun x hx y hy => by
    show leP D s T2 x y = leP D s (Bm D.nc 0) x y
    unfold leP T2 Bm
    rw [decide_eq_true (Or.inl hx)]) (fun c hc => rfl) (fun x hx => rfl) (fun p hp => rfl)
  rcases a1 with rfl | rfl
  · refine ⟨I1, ?_, rF, a4⟩
    refine go_iconst (v := 1) d_M_settle_0 (by decide) ?_
    refine go_istore_n d_M_settle_1 (Nat.le_of_ble_eq_true rfl) rfl ?_
    refine go_iload_n d_M_settle_2 rfl ?_
    refine go_if_eq (tgt := 103) d_M_settle_3 (by decide) (fun z => absurd z (by decide)) (fun z => ?_)
    refine a5 _ ?_
    refine go_iload_n d_M_settle_2 rfl ?_
    refine go_if_eq (tgt := 103) d_M_settle_3 (by decide) (fun z => ?_) (fun z => absurd rfl z)
    exact go_vreturn (st := []) d_M_settle_103 rfl (Nat.le_of_ble_eq_true rfl) (Nat.le_of_ble_eq_true rfl) rfl
  · obtain ⟨I2, m2, w3', w4', b0', b1, b2, b3, b4, b5⟩ := M_pass (d := d) (I := I) (J := J) (T := s.T) True (fun _ => PFM D s stl) (fun _ _ => PFM D s stl) hD rM (st_w2 hD hM hI hT hB rM hst) (st_v2 hD hM hI hT hB rM) (fun Ii h => h) (fun c hc Ii h => h) I1 1 w3 w4 rF a4 a0
    have e2 : m2 = 0 := b2 trivial
    subst e2
    refine ⟨I2, ?_, b3, b4⟩
    refine go_iconst (v := 1) d_M_settle_0 (by decide) ?_
    refine go_istore_n d_M_settle_1 (Nat.le_of_ble_eq_true rfl) rfl ?_
    refine go_iload_n d_M_settle_2 rfl ?_
    refine go_if_eq (tgt := 103) d_M_settle_3 (by decide) (fun z => absurd z (by decide)) (fun z => ?_)
    refine a5 _ ?_
    refine go_iload_n d_M_settle_2 rfl ?_
    refine go_if_eq (tgt := 103) d_M_settle_3 (by decide) (fun z => absurd z (by decide)) (fun z => ?_)
    refine b5 _ ?_
    refine go_iload_n d_M_settle_2 rfl ?_
    refine go_if_eq (tgt := 103) d_M_settle_3 (by decide) (fun z => ?_) (fun z => absurd rfl z)
    exact go_vreturn (st := []) d_M_settle_103 rfl (Nat.le_of_ble_eq_true rfl) (Nat.le_of_ble_eq_true rfl) rfl
end S44
