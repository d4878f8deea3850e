/-! Patient: what only looks -/
theorem d_U_fill_0 : decode prog_17_method_103_code 0 = .ok (.iconst 0, 1) := by decide +kernel
theorem d_U_fill_1 : decode prog_17_method_103_code 1 = .ok (.istore_n 2, 1) := by decide +kernel
theorem d_U_fill_2 : decode prog_17_method_103_code 2 = .ok (.aload_n 0, 1) := by decide +kernel
theorem d_U_fill_3 : decode prog_17_method_103_code 3 = .ok (.arraylength, 1) := by decide +kernel
theorem d_U_fill_4 : decode prog_17_method_103_code 4 = .ok (.istore_n 3, 1) := by decide +kernel
theorem d_U_fill_5 : decode prog_17_method_103_code 5 = .ok (.iload_n 2, 1) := by decide +kernel
theorem d_U_fill_6 : decode prog_17_method_103_code 6 = .ok (.iload_n 3, 1) := by decide +kernel
theorem d_U_fill_7 : decode prog_17_method_103_code 7 = .ok (.if_icmp .ge (13), 3) := by decide +kernel
theorem d_U_fill_10 : decode prog_17_method_103_code 10 = .ok (.aload_n 0, 1) := by decide +kernel
theorem d_U_fill_11 : decode prog_17_method_103_code 11 = .ok (.iload_n 2, 1) := by decide +kernel
theorem d_U_fill_12 : decode prog_17_method_103_code 12 = .ok (.iload_n 1, 1) := by decide +kernel
theorem d_U_fill_13 : decode prog_17_method_103_code 13 = .ok (.iastore, 1) := by decide +kernel
theorem d_U_fill_14 : decode prog_17_method_103_code 14 = .ok (.iinc 2 (1), 3) := by decide +kernel
theorem d_U_fill_17 : decode prog_17_method_103_code 17 = .ok (.goto (-12), 3) := by decide +kernel
theorem d_U_fill_20 : decode prog_17_method_103_code 20 = .ok (.return_, 1) := by decide +kernel
section S3
variable {d : Nat} {I : Nat → Nat → Int32} {J : Nat → Nat → Int64}
theorem b2_bb {b : Bool} : bb b = 0 ∨ bb b = 1 := by cases b <;> simp [bb]
theorem bb_t {b : Bool} (h : bb b = 1) : b = true := by cases b <;> simp [bb] at h ⊢
theorem bb_f {b : Bool} (h : ¬ bb b = 1) : b = false := by cases b <;> simp [bb] at h ⊢
theorem bb_z {b : Bool} (h : bb b = 0) : b = false := by cases b <;> simp [bb] at h ⊢
theorem bb_nz {b : Bool} (h : ¬ bb b = 0) : b = true := by cases b <;> simp [bb] at h ⊢
/-- all of an array -/
def fiI (I : Nat → Nat → Int32) (b : Nat) (v : Int32) : Nat → Nat → Nat → Int32
  | 0 => I
  | n + 1 => pm_uI (fiI I b v n) b n v
theorem fiI_at {b n c j : Nat} {v : Int32} : fiI I b v n c j = if c = b ∧ j < n then v else I c j := by
  induction n with
  | zero => simp [fiI]
  | succ n ih =>
    show pm_uI (fiI I b v n) b n v c j = _
    rw [uI_at, ih]
    by_cases h : c = b
    · subst h
      by_cases e : j = n
      · subst e; simp
      · by_cases l : j < n
        · simp [e, l, Nat.lt_succ_of_lt l]
        · simp [e, l, show ¬ j < n + 1 by omega]
    · simp [h]
theorem sp_fill {b n : Nat} {v : Int32} (hb : b < 104) (hs : pm_shp b = (1, n)) (hn : n < 2 ^ 30) : pm_Go d m_U_fill 0 [some (.ref b), some (.int v), none, none] [] 0 0 (ST I J) (.inl none, ST (fiI I b v n) J) := by
  have loop : ∀ k i, n - i = k → i ≤ n → pm_Go d m_U_fill 5 [some (.ref b), some (.int v), some (.int (nI i)), some (.int (nI n))] [] 0 0 (ST (fiI I b v i) J) (.inl none, ST (fiI I b v n) J) := by
    intro k
    induction k with
    | zero =>
      intro i hk hi
      have : i = n := by omega
      subst this
      refine go_iload_n d_U_fill_5 rfl ?_
      refine go_iload_n d_U_fill_6 rfl ?_
      refine go_icmp_ge (tgt := 20) d_U_fill_7 (by decide) (fun z => ?_) (fun z => absurd (nI_le (Nat.le_refl i) (by omega)) z)
      exact go_vreturn (st := []) d_U_fill_20 rfl (Nat.le_of_ble_eq_true rfl) (Nat.le_of_ble_eq_true rfl) rfl
    | succ k ih =>
      intro i hk hi
      refine go_iload_n d_U_fill_5 rfl ?_
      refine go_iload_n d_U_fill_6 rfl ?_
      refine go_icmp_ge (tgt := 20) d_U_fill_7 (by decide) (fun z => absurd z (nI_ge (by omega) (by omega))) (fun z => ?_)
      refine go_aload_n d_U_fill_10 rfl ?_
      refine go_iload_n d_U_fill_11 rfl ?_
      refine go_iload_n d_U_fill_12 rfl ?_
      refine go_ast i d_U_fill_13 hb hs rfl (by omega) (by omega) ?_
      refine go_iinc (v := nI (i + 1)) d_U_fill_14 rfl (by first | rfl | exact nI_1 _) rfl ?_
      refine go_goto (tgt := 5) d_U_fill_17 (by decide) ?_
      exact ih (i + 1) (by omega) (by omega)
  refine go_iconst (v := 0) d_U_fill_0 (by decide) ?_
  refine go_istore_n d_U_fill_1 (Nat.le_of_ble_eq_true rfl) rfl ?_
  refine go_aload_n d_U_fill_2 rfl ?_
  refine go_alen d_U_fill_3 hb hs ?_
  refine go_istore_n d_U_fill_4 (Nat.le_of_ble_eq_true rfl) rfl ?_
  exact loop n 0 (by omega) (by omega)
theorem sp_waitsAt {p : Nat} (hp : p < 4) : pm_Go d m_P_waitsAt 0 [some (.ref 33), some (.int (nI p))] [] 0 0 (ST I J) (.inl (some (.int (bb (bt (I 33 9) p)))), ST I J) := by
  refine go_aload_n d_P_waitsAt_0 rfl ?_
  refine go_getI (j := 9) d_P_waitsAt_1 (Nat.le_of_ble_eq_true rfl) rfl pc_P (Nat.le_of_ble_eq_true rfl) (by decide) w_126 ?_
  refine go_iload_n d_P_waitsAt_4 rfl ?_
  refine go_ishr d_P_waitsAt_5 ?_
  refine go_iconst (v := 1) d_P_waitsAt_6 (by decide) ?_
  refine go_iand d_P_waitsAt_7 ?_
  refine go_top (bb (bt (I 33 9) p)) (bs_at _ (by omega)) ?_
  refine go_iconst (v := 1) d_P_waitsAt_8 (by decide) ?_
  cases hb : bt (I 33 9) p
  · refine go_icmp_ne (tgt := 16) d_P_waitsAt_9 (by decide) (fun z => ?_) (fun z => absurd z (by decide))
    refine go_iconst (v := 0) d_P_waitsAt_16 (by decide) ?_
    exact go_zreturn (st := []) d_P_waitsAt_17 rfl (Nat.le_of_ble_eq_true rfl) (Nat.le_of_ble_eq_true rfl) rfl (Or.inl rfl)
  · refine go_icmp_ne (tgt := 16) d_P_waitsAt_9 (by decide) (fun z => absurd rfl z) (fun z => ?_)
    refine go_iconst (v := 1) d_P_waitsAt_12 (by decide) ?_
    refine go_goto (tgt := 17) d_P_waitsAt_13 (by decide) ?_
    exact go_zreturn (st := []) d_P_waitsAt_17 rfl (Nat.le_of_ble_eq_true rfl) (Nat.le_of_ble_eq_true rfl) rfl (Or.inr rfl)
/-- is something there at a link -/
def thr (I : Nat → Nat → Int32) (ex : Nat → Nat) (l : Nat) : Bool := if l < 20 then decide (0 < I 36 (l * 4 + ex l)) else bt (I 33 9) (l - 20)
theorem sp_isThere {l : Nat} {ex : Nat → Nat} (hl : l < 24) (hex : l < 20 → I 7 l = nI (ex l) ∧ ex l ≤ 3) : pm_Go (d + 1) m_P_isThere 0 [some (.ref 33), some (.int (nI l))] [] 0 0 (ST I J) (.inl (some (.int (bb (thr I ex l)))), ST I J) := by
  refine go_iload_n d_P_isThere_0 rfl ?_
  refine go_bipush (v := 20) d_P_isThere_1 (by decide) ?_
  by_cases h : l < 20
  · obtain ⟨h1, h2⟩ := hex h
    have ht : thr I ex l = decide (0 < I 36 (l * 4 + ex l)) := by simp [thr, h]
    rw [ht]
    refine go_icmp_ge (tgt := 28) d_P_isThere_3 (by decide) (fun z => absurd z (nI_ge h (by decide))) (fun z => ?_)
    refine go_aload_n d_P_isThere_6 rfl ?_
    refine go_getP (j := 4) d_P_isThere_7 (Nat.le_of_ble_eq_true rfl) rfl pc_P (Nat.le_of_ble_eq_true rfl) rfl w_119 pt_P_4 ?_
    refine go_aload_n d_P_isThere_10 rfl ?_
    refine go_getP (j := 0) d_P_isThere_11 (Nat.le_of_ble_eq_true rfl) rfl pc_P (Nat.le_of_ble_eq_true rfl) rfl w_113 pt_P_0 ?_
    refine go_iload_n d_P_isThere_14 rfl ?_
    refine go_callV (k2 := m_D_lastBuffer) (As := [.int (nI l)]) (r := some (.int (nI (l * 4 + ex l)))) d_P_isThere_15 ok_D_lastBuffer (Nat.le_of_ble_eq_true rfl) rfl pc_D rfl vl_P_120 rfl rfl (Nat.le_of_ble_eq_true rfl) (Nat.le_of_ble_eq_true rfl) (Nat.le_of_ble_eq_true rfl) (Nat.le_of_ble_eq_true rfl) rfl rfl (sp_lastBuffer h h1) ?_
    refine go_ald (l * 4 + ex l) (I 36 (l * 4 + ex l)) d_P_isThere_18 (Nat.le_of_ble_eq_true rfl) rfl rfl (by omega) (by decide) rfl ?_
    by_cases hq : 0 < I 36 (l * 4 + ex l)
    · rw [decide_eq_true hq]
      refine go_if_le (tgt := 26) d_P_isThere_19 (by decide) (fun z => absurd hq (Int32.not_lt.mpr z)) (fun z => ?_)
      refine go_iconst (v := 1) d_P_isThere_22 (by decide) ?_
      refine go_goto (tgt := 27) d_P_isThere_23 (by decide) ?_
      exact go_zreturn (st := []) d_P_isThere_27 rfl (Nat.le_of_ble_eq_true rfl) (Nat.le_of_ble_eq_true rfl) rfl (Or.inr rfl)
    · rw [decide_eq_false hq]
      refine go_if_le (tgt := 26) d_P_isThere_19 (by decide) (fun z => ?_) (fun z => absurd (Int32.not_lt.mp hq) z)
      refine go_iconst (v := 0) d_P_isThere_26 (by decide) ?_
      exact go_zreturn (st := []) d_P_isThere_27 rfl (Nat.le_of_ble_eq_true rfl) (Nat.le_of_ble_eq_true rfl) rfl (Or.inl rfl)
  · have ht : thr I ex l = bt (I 33 9) (l - 20) := by simp [thr, h]
    rw [ht]
    refine go_icmp_ge (tgt := 28) d_P_isThere_3 (by decide) (fun z => ?_) (fun z => absurd (nI_le (a := 20) (by omega) (by omega)) z)
    refine go_aload_n d_P_isThere_28 rfl ?_
    refine go_iload_n d_P_isThere_29 rfl ?_
    refine go_bipush (v := 20) d_P_isThere_30 (by decide) ?_
    refine go_isub d_P_isThere_32 ?_
    refine go_top (nI (l - 20)) (pk_sub (b := 20) (by omega)) ?_
    refine go_callV (k2 := m_P_waitsAt) (As := [.int (nI (l - 20))]) (r := some (.int (bb (bt (I 33 9) (l - 20))))) d_P_isThere_33 ok_P_waitsAt (Nat.le_of_ble_eq_true rfl) rfl pc_P rfl vl_P_81 rfl rfl (Nat.le_of_ble_eq_true rfl) (Nat.le_of_ble_eq_true rfl) (Nat.le_of_ble_eq_true rfl) (Nat.le_of_ble_eq_true rfl) rfl rfl (sp_waitsAt (by omega)) ?_
    exact go_zreturn (st := []) d_P_isThere_36 rfl (Nat.le_of_ble_eq_true rfl) (Nat.le_of_ble_eq_true rfl) rfl b2_bb
theorem sp_isReady {j n : Nat} {ex lk : Nat → Nat} (hj : j < 10) (hn : I 20 j = nI n) (hn2 : n ≤ 24) (hlk : ∀ i, i < n → I (10 + j) i = nI (lk i) ∧ lk i < 24 ∧ (lk i < 20 → I 7 (lk i) = nI (ex (lk i)) ∧ ex (lk i) ≤ 3)) : pm_Go (d + 2) m_P_isReady 0 [some (.ref 33), some (.int (nI j)), none] [] 0 0 (ST I J) (.inl (some (.int (bb (al (fun i => thr I ex (lk i)) n)))), ST I J) := by
  have loop : ∀ k i, n - i = k → i ≤ n → al (fun i => thr I ex (lk i)) i = true → pm_Go (d + 2) m_P_isReady 2 [some (.ref 33), some (.int (nI j)), some (.int (nI i))] [] 0 0 (ST I J) (.inl (some (.int (bb (al (fun i => thr I ex (lk i)) n)))), ST I J) := by
    intro k
    induction k with
    | zero =>
      intro i hk hi ha
      have : i = n := by omega
      subst this
      refine go_iload_n d_P_isReady_2 rfl ?_
      refine go_aload_n d_P_isReady_3 rfl ?_
      refine go_getP (j := 0) d_P_isReady_4 (Nat.le_of_ble_eq_true rfl) rfl pc_P (Nat.le_of_ble_eq_true rfl) rfl w_113 pt_P_0 ?_
      refine go_getP (j := 12) d_P_isReady_7 (Nat.le_of_ble_eq_true rfl) rfl pc_D (Nat.le_of_ble_eq_true rfl) rfl w_67 pt_D_12 ?_
      refine go_iload_n d_P_isReady_10 rfl ?_
      refine go_ald j (nI i) d_P_isReady_11 (Nat.le_of_ble_eq_true rfl) rfl rfl hj (by decide) hn ?_
      refine go_icmp_ge (tgt := 41) d_P_isReady_12 (by decide) (fun z => ?_) (fun z => absurd (nI_le (Nat.le_refl i) (by omega)) z)
      rw [ha]
      refine go_iconst (v := 1) d_P_isReady_41 (by decide) ?_
      exact go_zreturn (st := []) d_P_isReady_42 rfl (Nat.le_of_ble_eq_true rfl) (Nat.le_of_ble_eq_true rfl) rfl (Or.inr rfl)
    | succ k ih =>
      intro i hk hi ha
      obtain ⟨l1, l2, l3⟩ := hlk i (by omega)
      refine go_iload_n d_P_isReady_2 rfl ?_
      refine go_aload_n d_P_isReady_3 rfl ?_
      refine go_getP (j := 0) d_P_isReady_4 (Nat.le_of_ble_eq_true rfl) rfl pc_P (Nat.le_of_ble_eq_true rfl) rfl w_113 pt_P_0 ?_
      refine go_getP (j := 12) d_P_isReady_7 (Nat.le_of_ble_eq_true rfl) rfl pc_D (Nat.le_of_ble_eq_true rfl) rfl w_67 pt_D_12 ?_
      refine go_iload_n d_P_isReady_10 rfl ?_
      refine go_ald j (nI n) d_P_isReady_11 (Nat.le_of_ble_eq_true rfl) rfl rfl hj (by decide) hn ?_
      refine go_icmp_ge (tgt := 41) d_P_isReady_12 (by decide) (fun z => absurd z (nI_ge (by omega) (by omega))) (fun z => ?_)
      refine go_aload_n d_P_isReady_15 rfl ?_
      refine go_aload_n d_P_isReady_16 rfl ?_
      refine go_getP (j := 0) d_P_isReady_17 (Nat.le_of_ble_eq_true rfl) rfl pc_P (Nat.le_of_ble_eq_true rfl) rfl w_113 pt_P_0 ?_
      refine go_getP (j := 11) d_P_isReady_20 (Nat.le_of_ble_eq_true rfl) rfl pc_D (Nat.le_of_ble_eq_true rfl) rfl w_65 pt_D_11 ?_
      refine go_iload_n d_P_isReady_23 rfl ?_
      refine go_row3 j (10 + j) d_P_isReady_24 (Nat.le_of_ble_eq_true rfl) rfl rfl hj (by decide) (pt_9 j hj) ?_
      refine go_iload_n d_P_isReady_25 rfl ?_
      refine go_ald i (nI (lk i)) d_P_isReady_26 (show 10 + j < 104 by omega) (sh_10 j hj) rfl (by omega) (by decide) l1 ?_
      refine go_callV (k2 := m_P_isThere) (As := [.int (nI (lk i))]) (r := some (.int (bb (thr I ex (lk i))))) d_P_isReady_27 ok_P_isThere (Nat.le_of_ble_eq_true rfl) rfl pc_P rfl vl_P_129 rfl rfl (Nat.le_of_ble_eq_true rfl) (Nat.le_of_ble_eq_true rfl) (Nat.le_of_ble_eq_true rfl) (Nat.le_of_ble_eq_true rfl) rfl rfl (sp_isThere l2 l3) ?_
      cases ht : thr I ex (lk i)
      · refine go_if_ne (tgt := 35) d_P_isReady_30 (by decide) (fun z => absurd rfl z) (fun z => ?_)
        rw [al_stop (f := fun i => thr I ex (lk i)) (i := i) (n := n) (by omega) ht]
        refine go_iconst (v := 0) d_P_isReady_33 (by decide) ?_
        exact go_zreturn (st := []) d_P_isReady_34 rfl (Nat.le_of_ble_eq_true rfl) (Nat.le_of_ble_eq_true rfl) rfl (Or.inl rfl)
      · refine go_if_ne (tgt := 35) d_P_isReady_30 (by decide) (fun z => ?_) (fun z => absurd z (by decide))
        refine go_iinc (v := nI (i + 1)) d_P_isReady_35 rfl (by first | rfl | exact nI_1 _) rfl ?_
        refine go_goto (tgt := 2) d_P_isReady_38 (by decide) ?_
        exact ih (i + 1) (by omega) (by omega) (by simp only [al, ha, ht]; rfl)
  refine go_iconst (v := 0) d_P_isReady_0 (by decide) ?_
  refine go_istore_n d_P_isReady_1 (Nat.le_of_ble_eq_true rfl) rfl ?_
  exact loop n 0 (by omega) (by omega) rfl
/-- can a branch get -/
def cgt (I : Nat → Nat → Int32) (st : Int32) (l : Nat) : Bool := if l < 20 then decide (I 36 (l * 4) < 2) else !bt st (l - 20)
theorem sp_canGet {l : Nat} {stl : Int32} (hl : l < 24) : pm_Go d m_P_canGet 0 [some (.ref 33), some (.int (nI l)), some (.int stl)] [] 0 0 (ST I J) (.inl (some (.int (bb (cgt I stl l)))), ST I J) := by
  refine go_iload_n d_P_canGet_0 rfl ?_
  refine go_bipush (v := 20) d_P_canGet_1 (by decide) ?_
  by_cases h : l < 20
  · have ht : cgt I stl l = decide (I 36 (l * 4) < 2) := by simp [cgt, h]
    rw [ht]
    refine go_icmp_ge (tgt := 24) d_P_canGet_3 (by decide) (fun z => absurd z (nI_ge h (by decide))) (fun z => ?_)
    refine go_aload_n d_P_canGet_6 rfl ?_
    refine go_getP (j := 4) d_P_canGet_7 (Nat.le_of_ble_eq_true rfl) rfl pc_P (Nat.le_of_ble_eq_true rfl) rfl w_119 pt_P_4 ?_
    refine go_iload_n d_P_canGet_10 rfl ?_
    refine go_iconst (v := 4) d_P_canGet_11 (by decide) ?_
    refine go_imul d_P_canGet_12 ?_
    refine go_ald (l * 4) (I 36 (l * 4)) d_P_canGet_13 (Nat.le_of_ble_eq_true rfl) rfl (pk_mul l 4) (by omega) (by decide) rfl ?_
    refine go_iconst (v := 2) d_P_canGet_14 (by decide) ?_
    by_cases hq : I 36 (l * 4) < 2
    · rw [decide_eq_true hq]
      refine go_icmp_ge (tgt := 22) d_P_canGet_15 (by decide) (fun z => absurd hq (Int32.not_lt.mpr z)) (fun z => ?_)
      refine go_iconst (v := 1) d_P_canGet_18 (by decide) ?_
      refine go_goto (tgt := 23) d_P_canGet_19 (by decide) ?_
      exact go_zreturn (st := []) d_P_canGet_23 rfl (Nat.le_of_ble_eq_true rfl) (Nat.le_of_ble_eq_true rfl) rfl (Or.inr rfl)
    · rw [decide_eq_false hq]
      refine go_icmp_ge (tgt := 22) d_P_canGet_15 (by decide) (fun z => ?_) (fun z => absurd (Int32.not_lt.mp hq) z)
      refine go_iconst (v := 0) d_P_canGet_22 (by decide) ?_
      exact go_zreturn (st := []) d_P_canGet_23 rfl (Nat.le_of_ble_eq_true rfl) (Nat.le_of_ble_eq_true rfl) rfl (Or.inl rfl)
  · have ht : cgt I stl l = !bt stl (l - 20) := by simp [cgt, h]
    rw [ht]
    refine go_icmp_ge (tgt := 24) d_P_canGet_3 (by decide) (fun z => ?_) (fun z => absurd (nI_le (a := 20) (by omega) (by omega)) z)
    refine go_iload_n d_P_canGet_24 rfl ?_
    refine go_iload_n d_P_canGet_25 rfl ?_
    refine go_bipush (v := 20) d_P_canGet_26 (by decide) ?_
    refine go_isub d_P_canGet_28 ?_
    refine go_top (nI (l - 20)) (pk_sub (b := 20) (by omega)) ?_
    refine go_ishr d_P_canGet_29 ?_
    refine go_iconst (v := 1) d_P_canGet_30 (by decide) ?_
    refine go_iand d_P_canGet_31 ?_
    refine go_top (bb (bt stl (l - 20))) (bs_at _ (by omega)) ?_
    cases hb : bt stl (l - 20)
    · refine go_if_ne (tgt := 39) d_P_canGet_32 (by decide) (fun z => absurd rfl z) (fun z => ?_)
      refine go_iconst (v := 1) d_P_canGet_35 (by decide) ?_
      refine go_goto (tgt := 40) d_P_canGet_36 (by decide) ?_
      exact go_zreturn (st := []) d_P_canGet_40 rfl (Nat.le_of_ble_eq_true rfl) (Nat.le_of_ble_eq_true rfl) rfl (Or.inr rfl)
    · refine go_if_ne (tgt := 39) d_P_canGet_32 (by decide) (fun z => ?_) (fun z => absurd z (by decide))
      refine go_iconst (v := 0) d_P_canGet_39 (by decide) ?_
      exact go_zreturn (st := []) d_P_canGet_40 rfl (Nat.le_of_ble_eq_true rfl) (Nat.le_of_ble_eq_true rfl) rfl (Or.inl rfl)
theorem sp_whichGet {j n : Nat} {lk : Nat → Nat} {stl : Int32} (hj : j < 10) (hn : I 32 j = nI n) (hn2 : n ≤ 24) (hlk : ∀ i, i < n → I (22 + j) i = nI (lk i) ∧ lk i < 24) : pm_Go (d + 1) m_P_whichGet 0 [some (.ref 33), some (.int (nI j)), some (.int stl), none, none, none] [] 0 0 (ST I J) (.inl (some (.int (bI (fun i => !bt (I 39 j) i && cgt I stl (lk i)) n))), ST I J) := by
  have loop : ∀ k i (o : Option Value), n - i = k → i ≤ n → (o = none ∨ ∃ x : Int32, o = some (.int x)) → pm_Go (d + 1) m_P_whichGet 5 [some (.ref 33), some (.int (nI j)), some (.int stl), some (.int (bI (fun i => !bt (I 39 j) i && cgt I stl (lk i)) i)), some (.int (nI i)), o] [] 0 0 (ST I J) (.inl (some (.int (bI (fun i => !bt (I 39 j) i && cgt I stl (lk i)) n))), ST I J) := by
    intro k
    induction k with
    | zero =>
      intro i o hk hi ho
      have : i = n := by omega
      subst this
      refine go_iload d_P_whichGet_5 rfl ?_
      refine go_aload_n d_P_whichGet_7 rfl ?_
      refine go_getP (j := 0) d_P_whichGet_8 (Nat.le_of_ble_eq_true rfl) rfl pc_P (Nat.le_of_ble_eq_true rfl) rfl w_113 pt_P_0 ?_
      refine go_getP (j := 14) d_P_whichGet_11 (Nat.le_of_ble_eq_true rfl) rfl pc_D (Nat.le_of_ble_eq_true rfl) rfl w_71 pt_D_14 ?_
      refine go_iload_n d_P_whichGet_14 rfl ?_
      refine go_ald j (nI i) d_P_whichGet_15 (Nat.le_of_ble_eq_true rfl) rfl rfl hj (by decide) hn ?_
      refine go_icmp_ge (tgt := 79) d_P_whichGet_16 (by decide) (fun z => ?_) (fun z => absurd (nI_le (Nat.le_refl i) (by omega)) z)
      refine go_iload_n d_P_whichGet_79 rfl ?_
      exact go_ireturn (st := []) d_P_whichGet_80 rfl (Nat.le_of_ble_eq_true rfl) (Nat.le_of_ble_eq_true rfl) rfl
    | succ k ih =>
      intro i o hk hi ho
      obtain ⟨l1, l2⟩ := hlk i (by omega)
      refine go_iload d_P_whichGet_5 rfl ?_
      refine go_aload_n d_P_whichGet_7 rfl ?_
      refine go_getP (j := 0) d_P_whichGet_8 (Nat.le_of_ble_eq_true rfl) rfl pc_P (Nat.le_of_ble_eq_true rfl) rfl w_113 pt_P_0 ?_
      refine go_getP (j := 14) d_P_whichGet_11 (Nat.le_of_ble_eq_true rfl) rfl pc_D (Nat.le_of_ble_eq_true rfl) rfl w_71 pt_D_14 ?_
      refine go_iload_n d_P_whichGet_14 rfl ?_
      refine go_ald j (nI n) d_P_whichGet_15 (Nat.le_of_ble_eq_true rfl) rfl rfl hj (by decide) hn ?_
      refine go_icmp_ge (tgt := 79) d_P_whichGet_16 (by decide) (fun z => absurd z (nI_ge (by omega) (by omega))) (fun z => ?_)
      refine go_aload_n d_P_whichGet_19 rfl ?_
      refine go_getP (j := 7) d_P_whichGet_20 (Nat.le_of_ble_eq_true rfl) rfl pc_P (Nat.le_of_ble_eq_true rfl) rfl w_123 pt_P_7 ?_
      refine go_iload_n d_P_whichGet_23 rfl ?_
      refine go_ald j (I 39 j) d_P_whichGet_24 (Nat.le_of_ble_eq_true rfl) rfl rfl hj (by decide) rfl ?_
      refine go_iload d_P_whichGet_25 rfl ?_
      refine go_ishr d_P_whichGet_27 ?_
      refine go_iconst (v := 1) d_P_whichGet_28 (by decide) ?_
      refine go_iand d_P_whichGet_29 ?_
      refine go_top (bb (bt (I 39 j) i)) (bs_at _ (by omega)) ?_
      refine go_iconst (v := 1) d_P_whichGet_30 (by decide) ?_
      cases hb : bt (I 39 j) i
      · refine go_icmp_ne (tgt := 38) d_P_whichGet_31 (by decide) (fun z => ?_) (fun z => absurd z (by decide))
        refine go_iconst (v := 0) d_P_whichGet_38 (by decide) ?_
        refine go_istore d_P_whichGet_39 (Nat.le_of_ble_eq_true rfl) rfl ?_
        refine go_iload d_P_whichGet_41 rfl ?_
        refine go_if_ne (tgt := 73) d_P_whichGet_43 (by decide) (fun z => absurd rfl z) (fun z => ?_)
        refine go_aload_n d_P_whichGet_46 rfl ?_
        refine go_aload_n d_P_whichGet_47 rfl ?_
        refine go_getP (j := 0) d_P_whichGet_48 (Nat.le_of_ble_eq_true rfl) rfl pc_P (Nat.le_of_ble_eq_true rfl) rfl w_113 pt_P_0 ?_
        refine go_getP (j := 13) d_P_whichGet_51 (Nat.le_of_ble_eq_true rfl) rfl pc_D (Nat.le_of_ble_eq_true rfl) rfl w_69 pt_D_13 ?_
        refine go_iload_n d_P_whichGet_54 rfl ?_
        refine go_row3 j (22 + j) d_P_whichGet_55 (Nat.le_of_ble_eq_true rfl) rfl rfl hj (by decide) (pt_21 j hj) ?_
        refine go_iload d_P_whichGet_56 rfl ?_
        refine go_ald i (nI (lk i)) d_P_whichGet_58 (show 22 + j < 104 by omega) (sh_22 j hj) rfl (by omega) (by decide) l1 ?_
        refine go_iload_n d_P_whichGet_59 rfl ?_
        refine go_callV (k2 := m_P_canGet) (As := [.int (nI (lk i)), .int stl]) (r := some (.int (bb (cgt I stl (lk i))))) d_P_whichGet_60 ok_P_canGet (Nat.le_of_ble_eq_true rfl) rfl pc_P rfl vl_P_138 rfl rfl (Nat.le_of_ble_eq_true rfl) (Nat.le_of_ble_eq_true rfl) (Nat.le_of_ble_eq_true rfl) (Nat.le_of_ble_eq_true rfl) rfl rfl (sp_canGet l2) ?_
        cases hc : cgt I stl (lk i)
        · refine go_if_eq (tgt := 73) d_P_whichGet_63 (by decide) (fun z => ?_) (fun z => absurd rfl z)
          refine go_iinc (v := nI (i + 1)) d_P_whichGet_73 rfl (by first | rfl | exact nI_1 _) rfl ?_
          refine go_goto (tgt := 5) d_P_whichGet_76 (by decide) ?_
          have e : bI (fun i => !bt (I 39 j) i && cgt I stl (lk i)) (i + 1) = bI (fun i => !bt (I 39 j) i && cgt I stl (lk i)) i := by
            show (if (!bt (I 39 j) i && cgt I stl (lk i)) = true then _ else _) = _
            rw [if_neg (by simp [hc])]
          have := ih (i + 1) (some (.int 0)) (by omega) (by omega) (Or.inr ⟨_, rfl⟩)
          rw [e] at this
          exact this
        · refine go_if_eq (tgt := 73) d_P_whichGet_63 (by decide) (fun z => absurd z (by decide)) (fun z => ?_)
          refine go_iload_n d_P_whichGet_66 rfl ?_
          refine go_iconst (v := 1) d_P_whichGet_67 (by decide) ?_
          refine go_iload d_P_whichGet_68 rfl ?_
          refine go_ishl d_P_whichGet_70 ?_
          refine go_ior d_P_whichGet_71 ?_
          refine go_istore_n d_P_whichGet_72 (Nat.le_of_ble_eq_true rfl) rfl ?_
          refine go_iinc (v := nI (i + 1)) d_P_whichGet_73 rfl (by first | rfl | exact nI_1 _) rfl ?_
          refine go_goto (tgt := 5) d_P_whichGet_76 (by decide) ?_
          have e : bI (fun i => !bt (I 39 j) i && cgt I stl (lk i)) (i + 1) = bI (fun i => !bt (I 39 j) i && cgt I stl (lk i)) i ||| ((1 : Int32) <<< (nI i &&& 31)) := by
            show (if (!bt (I 39 j) i && cgt I stl (lk i)) = true then _ else _) = _
            rw [if_pos (by simp [hc, hb])]
          have := ih (i + 1) (some (.int 0)) (by omega) (by omega) (Or.inr ⟨_, rfl⟩)
          rw [e] at this
          exact this
      · refine go_icmp_ne (tgt := 38) d_P_whichGet_31 (by decide) (fun z => absurd rfl z) (fun z => ?_)
        refine go_iconst (v := 1) d_P_whichGet_34 (by decide) ?_
        refine go_goto (tgt := 39) d_P_whichGet_35 (by decide) ?_
        refine go_istore d_P_whichGet_39 (Nat.le_of_ble_eq_true rfl) rfl ?_
        refine go_iload d_P_whichGet_41 rfl ?_
        refine go_if_ne (tgt := 73) d_P_whichGet_43 (by decide) (fun z => ?_) (fun z => absurd z (by decide))
        refine go_iinc (v := nI (i + 1)) d_P_whichGet_73 rfl (by first | rfl | exact nI_1 _) rfl ?_
        refine go_goto (tgt := 5) d_P_whichGet_76 (by decide) ?_
        have e : bI (fun i => !bt (I 39 j) i && cgt I stl (lk i)) (i + 1) = bI (fun i => !bt (I 39 j) i && cgt I stl (lk i)) i := by
          show (if (!bt (I 39 j) i && cgt I stl (lk i)) = true then _ else _) = _
          rw [if_neg (by simp [hb])]
        have := ih (i + 1) (some (.int 1)) (by omega) (by omega) (Or.inr ⟨_, rfl⟩)
        rw [e] at this
        exact this
  refine go_iconst (v := 0) d_P_whichGet_0 (by decide) ?_
  refine go_istore_n d_P_whichGet_1 (Nat.le_of_ble_eq_true rfl) rfl ?_
  refine go_iconst (v := 0) d_P_whichGet_2 (by decide) ?_
  refine go_istore d_P_whichGet_3 (Nat.le_of_ble_eq_true rfl) rfl ?_
  exact loop n 0 none (by omega) (by omega) (Or.inl rfl)
theorem sp_leastTaken {ni : Nat} {tn : Nat → Nat} (hi : I 1 2 = nI ni) (hi2 : ni ≤ 4) (ht : ∀ p, p < ni → I 42 p = nI (tn p) ∧ tn p ≤ 1000) : pm_Go (d + 1) m_P_leastTaken 0 [some (.ref 33), none, none] [] 0 0 (ST I J) (.inl (some (.int (nI (fo (fun a p => if tn p < a then tn p else a) 1000 ni)))), ST I J) := by
  have bnd : ∀ i, fo (fun a p => if tn p < a then tn p else a) 1000 i ≤ 1000 := by
    intro i
    induction i with
    | zero => exact Nat.le_refl _
    | succ i ih =>
      simp only [fo]
      split <;> omega
  have loop : ∀ k i, ni - i = k → i ≤ ni → pm_Go (d + 1) m_P_leastTaken 6 [some (.ref 33), some (.int (nI (fo (fun a p => if tn p < a then tn p else a) 1000 i))), some (.int (nI i))] [] 0 0 (ST I J) (.inl (some (.int (nI (fo (fun a p => if tn p < a then tn p else a) 1000 ni)))), ST I J) := by
    intro k
    induction k with
    | zero =>
      intro i hk hi
      have : i = ni := by omega
      subst this
      refine go_iload_n d_P_leastTaken_6 rfl ?_
      refine go_aload_n d_P_leastTaken_7 rfl ?_
      refine go_getP (j := 0) d_P_leastTaken_8 (Nat.le_of_ble_eq_true rfl) rfl pc_P (Nat.le_of_ble_eq_true rfl) rfl w_113 pt_P_0 ?_
      refine go_gI (j := 2) (nI i) d_P_leastTaken_11 (Nat.le_of_ble_eq_true rfl) rfl pc_D (Nat.le_of_ble_eq_true rfl) (by decide) w_44 (by assumption) ?_
      refine go_icmp_ge (tgt := 34) d_P_leastTaken_14 (by decide) (fun z => ?_) (fun z => absurd (nI_le (Nat.le_refl i) (by omega)) z)
      refine go_iload_n d_P_leastTaken_34 rfl ?_
      exact go_ireturn (st := []) d_P_leastTaken_35 rfl (Nat.le_of_ble_eq_true rfl) (Nat.le_of_ble_eq_true rfl) rfl
    | succ k ih =>
      intro i hk hi'
      obtain ⟨t1, t2⟩ := ht i (by omega)
      have hbi := bnd i
      refine go_iload_n d_P_leastTaken_6 rfl ?_
      refine go_aload_n d_P_leastTaken_7 rfl ?_
      refine go_getP (j := 0) d_P_leastTaken_8 (Nat.le_of_ble_eq_true rfl) rfl pc_P (Nat.le_of_ble_eq_true rfl) rfl w_113 pt_P_0 ?_
      refine go_gI (j := 2) (nI ni) d_P_leastTaken_11 (Nat.le_of_ble_eq_true rfl) rfl pc_D (Nat.le_of_ble_eq_true rfl) (by decide) w_44 hi ?_
      refine go_icmp_ge (tgt := 34) d_P_leastTaken_14 (by decide) (fun z => absurd z (nI_ge (by omega) (by omega))) (fun z => ?_)
      refine go_iload_n d_P_leastTaken_17 rfl ?_
      refine go_aload_n d_P_leastTaken_18 rfl ?_
      refine go_getP (j := 11) d_P_leastTaken_19 (Nat.le_of_ble_eq_true rfl) rfl pc_P (Nat.le_of_ble_eq_true rfl) rfl w_128 pt_P_11 ?_
      refine go_iload_n d_P_leastTaken_22 rfl ?_
      refine go_ald i (nI (tn i)) d_P_leastTaken_23 (Nat.le_of_ble_eq_true rfl) rfl rfl (by omega) (by decide) t1 ?_
      refine go_mmin d_P_leastTaken_24 w_637 w_558 w_14 w_559 (Nat.le_of_ble_eq_true rfl) (Nat.le_of_ble_eq_true rfl) (Nat.le_of_ble_eq_true rfl) (Nat.le_of_ble_eq_true rfl) ?_
      refine go_top (nI (fo (fun a p => if tn p < a then tn p else a) 1000 (i + 1))) ?_ ?_
      · show (if nI (tn i) < nI (fo (fun a p => if tn p < a then tn p else a) 1000 i) then nI (tn i) else nI (fo (fun a p => if tn p < a then tn p else a) 1000 i)) = nI (if tn i < fo (fun a p => if tn p < a then tn p else a) 1000 i then tn i else fo (fun a p => if tn p < a then tn p else a) 1000 i)
        by_cases h : tn i < fo (fun a p => if tn p < a then tn p else a) 1000 i
        · rw [if_pos h, if_pos (nI_lt h (by omega))]
        · rw [if_neg h, if_neg (nI_nlt (by omega) (by omega))]
      refine go_istore_n d_P_leastTaken_27 (Nat.le_of_ble_eq_true rfl) rfl ?_
      refine go_iinc (v := nI (i + 1)) d_P_leastTaken_28 rfl (by first | rfl | exact nI_1 _) rfl ?_
      refine go_goto (tgt := 6) d_P_leastTaken_31 (by decide) ?_
      exact ih (i + 1) (by omega) (by omega)
  refine go_sipush (v := 1000) d_P_leastTaken_0 (by decide) ?_
  refine go_istore_n d_P_leastTaken_3 (Nat.le_of_ble_eq_true rfl) rfl ?_
  refine go_iconst (v := 0) d_P_leastTaken_4 (by decide) ?_
  refine go_istore_n d_P_leastTaken_5 (Nat.le_of_ble_eq_true rfl) rfl ?_
  exact loop ni 0 (by omega) (by omega)
end S3
