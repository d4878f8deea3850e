/-! the reference: the start; what a block makes -/
def t0M : TS := TS.mk (fun _ _ _ => 0) (fun _ _ => 0) (fun _ _ => 0) (fun _ _ => 0) (fun _ => 0)
section S34
variable {d : Nat} {I : Nat → Nat → Int32} {J : Nat → Nat → Int64} {D : DZ} {s : MS} {t : TS}
theorem M_beg1 : ∀ n k (Ii : Nat → Nat → Int32), 80 - k = n → k ≤ 80 → (∀ q, q < k → Ii 84 q = 0) → fr [84] I Ii → ∃ I', (∀ q, q < 80 → I' 84 q = 0) ∧ fr [84] I I' ∧ ∀ out, pm_Go d m_M_begin 26 [some (.ref 69), some (.int (nI 80))] [] 0 0 (ST I' J) out → pm_Go d m_M_begin 7 [some (.ref 69), some (.int (nI k))] [] 0 0 (ST Ii J) out := by
  intro n
  induction n with
  | zero =>
    intro k Ii hn hk q1 f1
    have : k = 80 := by omega
    subst this
    refine ⟨Ii, q1, f1, fun out ho => ?_⟩
    refine go_iload_n d_M_begin_7 rfl ?_
    refine go_bipush (v := 80) d_M_begin_8 (by decide) ?_
    refine go_icmp_ge (tgt := 26) d_M_begin_10 (by decide) (fun z => ?_) (fun z => absurd (by decide) z)
    exact ho
  | succ n ih =>
    intro k Ii hn hk q1 f1
    obtain ⟨I', i1, i2, i3⟩ := ih (k + 1) (pm_uI Ii 84 k 0) (by omega) (by omega) (fun q hq => by
      by_cases e : q = k
      · rw [e, uI_eq]
      · rw [uI_nj e]; exact q1 q (by omega)) (f1.tr (fr.uI (by decide)))
    refine ⟨I', i1, i2, fun out ho => ?_⟩
    have i4 := i3 out ho
    refine go_iload_n d_M_begin_7 rfl ?_
    refine go_bipush (v := 80) d_M_begin_8 (by decide) ?_
    refine go_icmp_ge (tgt := 26) d_M_begin_10 (by decide) (fun z => absurd z (nI_ge (b := 80) (by omega) (by decide))) (fun z => ?_)
    refine go_aload_n d_M_begin_13 rfl ?_
    refine go_getP (j := 22) d_M_begin_14 (Nat.le_of_ble_eq_true rfl) rfl pc_M (Nat.le_of_ble_eq_true rfl) rfl w_724 pt_M_22 ?_
    refine go_iload_n d_M_begin_17 rfl ?_
    refine go_iconst (v := 0) d_M_begin_18 (by decide) ?_
    refine go_ast k d_M_begin_19 (Nat.le_of_ble_eq_true rfl) rfl rfl (by omega) (by decide) ?_
    refine go_iinc (v := nI (k + 1)) d_M_begin_20 rfl (by first | rfl | exact nI_1 _) rfl ?_
    refine go_goto (tgt := 7) d_M_begin_23 (by decide) ?_
    exact i4
theorem M_beg2 : ∀ n k (Ii : Nat → Nat → Int32), 20 - k = n → k ≤ 20 → (∀ q, q < k → Ii 86 q = 0 ∧ Ii 82 (1002 * q) = I 74 q) → fr [82, 86] I Ii → ∃ I', (∀ q, q < 20 → I' 86 q = 0 ∧ I' 82 (1002 * q) = I 74 q) ∧ fr [82, 86] I I' ∧ ∀ out, pm_Go d m_M_begin 63 [some (.ref 69), some (.int (nI 20))] [] 0 0 (ST I' J) out → pm_Go d m_M_begin 28 [some (.ref 69), some (.int (nI k))] [] 0 0 (ST Ii J) out := by
  intro n
  induction n with
  | zero =>
    intro k Ii hn hk q1 f1
    have : k = 20 := by omega
    subst this
    refine ⟨Ii, q1, f1, fun out ho => ?_⟩
    refine go_iload_n d_M_begin_28 rfl ?_
    refine go_bipush (v := 20) d_M_begin_29 (by decide) ?_
    refine go_icmp_ge (tgt := 63) d_M_begin_31 (by decide) (fun z => ?_) (fun z => absurd (by decide) z)
    exact ho
  | succ n ih =>
    intro k Ii hn hk q1 f1
    have e74 : Ii 74 k = I 74 k := by rw [f1 74 (by decide)]
    obtain ⟨I', i1, i2, i3⟩ := ih (k + 1) (pm_uI (pm_uI Ii 86 k 0) 82 (1002 * k) (I 74 k)) (by omega) (by omega) (fun q hq => by
      by_cases e : q = k
      · subst e
        rw [uI_ne (by decide), uI_eq, uI_eq]
        exact ⟨rfl, rfl⟩
      · have := q1 q (by omega)
        rw [uI_ne (by decide), uI_nj e, uI_nj (by omega), uI_ne (by decide)]
        exact this) ((f1.tr (fr.uI (by decide))).tr (fr.uI (by decide)))
    refine ⟨I', i1, i2, fun out ho => ?_⟩
    have i4 := i3 out ho
    refine go_iload_n d_M_begin_28 rfl ?_
    refine go_bipush (v := 20) d_M_begin_29 (by decide) ?_
    refine go_icmp_ge (tgt := 63) d_M_begin_31 (by decide) (fun z => absurd z (nI_ge (b := 20) (by omega) (by decide))) (fun z => ?_)
    refine go_aload_n d_M_begin_34 rfl ?_
    refine go_getP (j := 24) d_M_begin_35 (Nat.le_of_ble_eq_true rfl) rfl pc_M (Nat.le_of_ble_eq_true rfl) rfl w_726 pt_M_24 ?_
    refine go_iload_n d_M_begin_38 rfl ?_
    refine go_iconst (v := 0) d_M_begin_39 (by decide) ?_
    refine go_ast k d_M_begin_40 (Nat.le_of_ble_eq_true rfl) rfl rfl (by omega) (by decide) ?_
    refine go_aload_n d_M_begin_41 rfl ?_
    refine go_getP (j := 20) d_M_begin_42 (Nat.le_of_ble_eq_true rfl) rfl pc_M (Nat.le_of_ble_eq_true rfl) rfl w_722 pt_M_20 ?_
    refine go_sipush (v := 1002) d_M_begin_45 (by decide) ?_
    refine go_iload_n d_M_begin_48 rfl ?_
    refine go_imul d_M_begin_49 ?_
    refine go_top (nI (1002 * k)) (pk_mul 1002 k) ?_
    refine go_aload_n d_M_begin_50 rfl ?_
    refine go_getP (j := 8) d_M_begin_51 (Nat.le_of_ble_eq_true rfl) rfl pc_M (Nat.le_of_ble_eq_true rfl) rfl w_710 pt_M_8 ?_
    refine go_iload_n d_M_begin_54 rfl ?_
    refine go_ald k (I 74 k) d_M_begin_55 (Nat.le_of_ble_eq_true rfl) rfl rfl (by omega) (by decide) e74 ?_
    refine go_ast (1002 * k) d_M_begin_56 (Nat.le_of_ble_eq_true rfl) rfl rfl (by omega) (by decide) ?_
    refine go_iinc (v := nI (k + 1)) d_M_begin_57 rfl (by first | rfl | exact nI_1 _) rfl ?_
    refine go_goto (tgt := 28) d_M_begin_60 (by decide) ?_
    exact i4
theorem M_beg3 : ∀ n k (Ii : Nat → Nat → Int32), 10 - k = n → k ≤ 10 → (∀ q, q < k → Ii 88 q = 0) → fr [88] I Ii → ∃ I', (∀ q, q < 10 → I' 88 q = 0) ∧ fr [88] I I' ∧ ∀ out, pm_Go d m_M_begin 84 [some (.ref 69), some (.int (nI 10))] [] 0 0 (ST I' J) out → pm_Go d m_M_begin 65 [some (.ref 69), some (.int (nI k))] [] 0 0 (ST Ii J) out := by
  intro n
  induction n with
  | zero =>
    intro k Ii hn hk q1 f1
    have : k = 10 := by omega
    subst this
    refine ⟨Ii, q1, f1, fun out ho => ?_⟩
    refine go_iload_n d_M_begin_65 rfl ?_
    refine go_bipush (v := 10) d_M_begin_66 (by decide) ?_
    refine go_icmp_ge (tgt := 84) d_M_begin_68 (by decide) (fun z => ?_) (fun z => absurd (by decide) z)
    exact ho
  | succ n ih =>
    intro k Ii hn hk q1 f1
    obtain ⟨I', i1, i2, i3⟩ := ih (k + 1) (pm_uI Ii 88 k 0) (by omega) (by omega) (fun q hq => by
      by_cases e : q = k
      · rw [e, uI_eq]
      · rw [uI_nj e]; exact q1 q (by omega)) (f1.tr (fr.uI (by decide)))
    refine ⟨I', i1, i2, fun out ho => ?_⟩
    have i4 := i3 out ho
    refine go_iload_n d_M_begin_65 rfl ?_
    refine go_bipush (v := 10) d_M_begin_66 (by decide) ?_
    refine go_icmp_ge (tgt := 84) d_M_begin_68 (by decide) (fun z => absurd z (nI_ge (b := 10) (by omega) (by decide))) (fun z => ?_)
    refine go_aload_n d_M_begin_71 rfl ?_
    refine go_getP (j := 26) d_M_begin_72 (Nat.le_of_ble_eq_true rfl) rfl pc_M (Nat.le_of_ble_eq_true rfl) rfl w_728 pt_M_26 ?_
    refine go_iload_n d_M_begin_75 rfl ?_
    refine go_iconst (v := 0) d_M_begin_76 (by decide) ?_
    refine go_ast k d_M_begin_77 (Nat.le_of_ble_eq_true rfl) rfl rfl (by omega) (by decide) ?_
    refine go_iinc (v := nI (k + 1)) d_M_begin_78 rfl (by first | rfl | exact nI_1 _) rfl ?_
    refine go_goto (tgt := 65) d_M_begin_81 (by decide) ?_
    exact i4
theorem M_beg4 : ∀ n k (Ii : Nat → Nat → Int32), 4 - k = n → k ≤ 4 → (∀ q, q < k → Ii 91 q = 0 ∧ Ii 94 q = 0) → fr [91, 94] I Ii → ∃ I', (∀ q, q < 4 → I' 91 q = 0 ∧ I' 94 q = 0) ∧ fr [91, 94] I I' ∧ pm_Go d m_M_begin 86 [some (.ref 69), some (.int (nI k))] [] 0 0 (ST Ii J) (.inl none, ST I' J) := by
  intro n
  induction n with
  | zero =>
    intro k Ii hn hk q1 f1
    have : k = 4 := by omega
    subst this
    refine ⟨Ii, q1, f1, ?_⟩
    refine go_iload_n d_M_begin_86 rfl ?_
    refine go_iconst (v := 4) d_M_begin_87 (by decide) ?_
    refine go_icmp_ge (tgt := 111) d_M_begin_88 (by decide) (fun z => ?_) (fun z => absurd (by decide) z)
    exact go_vreturn (st := []) d_M_begin_111 rfl (Nat.le_of_ble_eq_true rfl) (Nat.le_of_ble_eq_true rfl) rfl
  | succ n ih =>
    intro k Ii hn hk q1 f1
    obtain ⟨I', i1, i2, i3⟩ := ih (k + 1) (pm_uI (pm_uI Ii 91 k 0) 94 k 0) (by omega) (by omega) (fun q hq => by
      by_cases e : q = k
      · subst e
        rw [uI_ne (by decide), uI_eq, uI_eq]
        exact ⟨rfl, rfl⟩
      · rw [uI_ne (by decide), uI_nj e, uI_nj e, uI_ne (by decide)]
        exact q1 q (by omega)) ((f1.tr (fr.uI (by decide))).tr (fr.uI (by decide)))
    refine ⟨I', i1, i2, ?_⟩
    refine go_iload_n d_M_begin_86 rfl ?_
    refine go_iconst (v := 4) d_M_begin_87 (by decide) ?_
    refine go_icmp_ge (tgt := 111) d_M_begin_88 (by decide) (fun z => absurd z (nI_ge (b := 4) (by omega) (by decide))) (fun z => ?_)
    refine go_aload_n d_M_begin_91 rfl ?_
    refine go_getP (j := 29) d_M_begin_92 (Nat.le_of_ble_eq_true rfl) rfl pc_M (Nat.le_of_ble_eq_true rfl) rfl w_731 pt_M_29 ?_
    refine go_iload_n d_M_begin_95 rfl ?_
    refine go_iconst (v := 0) d_M_begin_96 (by decide) ?_
    refine go_ast k d_M_begin_97 (Nat.le_of_ble_eq_true rfl) rfl rfl (by omega) (by decide) ?_
    refine go_aload_n d_M_begin_98 rfl ?_
    refine go_getP (j := 32) d_M_begin_99 (Nat.le_of_ble_eq_true rfl) rfl pc_M (Nat.le_of_ble_eq_true rfl) rfl w_734 pt_M_32 ?_
    refine go_iload_n d_M_begin_102 rfl ?_
    refine go_iconst (v := 0) d_M_begin_103 (by decide) ?_
    refine go_ast k d_M_begin_104 (Nat.le_of_ble_eq_true rfl) rfl rfl (by omega) (by decide) ?_
    refine go_iinc (v := nI (k + 1)) d_M_begin_105 rfl (by first | rfl | exact nI_1 _) rfl ?_
    refine go_goto (tgt := 86) d_M_begin_108 (by decide) ?_
    exact i3
theorem sp_M_begin (hD : DW D) (rM : RMD I D) : ∃ I', pm_Go d m_M_begin 0 [some (.ref 69), none] [] 0 0 (ST I J) (.inl none, ST I' J) ∧ RMS I' D (iniM D) t0M ∧ (∀ q, q ≠ 18 → I' 69 q = I 69 q) ∧ fr [69, 82, 84, 86, 88, 91, 94] I I' := by
  have h20 := hD.nc
  have h10 := hD.nb
  have hni := hD.ni
  have hno := hD.no
  obtain ⟨I1, a1, a2, a3⟩ := M_beg1 (d := d) (I := pm_uI I 69 18 0) (J := J) 80 0 (pm_uI I 69 18 0) rfl (by omega) (fun q hq => absurd hq (by omega)) fr.rf
  obtain ⟨I2, b1, b2, b3⟩ := M_beg2 (d := d) (I := I1) (J := J) 20 0 I1 rfl (by omega) (fun q hq => absurd hq (by omega)) fr.rf
  obtain ⟨I3, c1, c2, c3⟩ := M_beg3 (d := d) (I := I2) (J := J) 10 0 I2 rfl (by omega) (fun q hq => absurd hq (by omega)) fr.rf
  obtain ⟨I4, e1, e2, e3⟩ := M_beg4 (d := d) (I := I3) (J := J) 4 0 I3 rfl (by omega) (fun q hq => absurd hq (by omega)) fr.rf
  have f69 : I4 69 = pm_uI I 69 18 0 69 := by rw [e2 69 (by decide), c2 69 (by decide), b2 69 (by decide), a2 69 (by decide)]
  refine ⟨I4, ?_, ?_, ?_, (((((fr.uI (by decide)).tr (a2.up (by decide))).tr (b2.up (by decide))).tr (c2.up (by decide))).tr (e2.up (by decide)))⟩
  · refine go_aload_n d_M_begin_0 rfl ?_
    refine go_iconst (v := 0) d_M_begin_1 (by decide) ?_
    refine go_pI (j := 18) d_M_begin_2 (Nat.le_of_ble_eq_true rfl) rfl pc_M (Nat.le_of_ble_eq_true rfl) (by decide) w_720 rfl (Or.inl rfl) ?_
    refine go_iconst (v := 0) d_M_begin_5 (by decide) ?_
    refine go_istore_n d_M_begin_6 (Nat.le_of_ble_eq_true rfl) rfl ?_
    refine a3 _ ?_
    refine go_iconst (v := 0) d_M_begin_26 (by decide) ?_
    refine go_istore_n d_M_begin_27 (Nat.le_of_ble_eq_true rfl) rfl ?_
    refine b3 _ ?_
    refine go_iconst (v := 0) d_M_begin_63 (by decide) ?_
    refine go_istore_n d_M_begin_64 (Nat.le_of_ble_eq_true rfl) rfl ?_
    refine c3 _ ?_
    refine go_iconst (v := 0) d_M_begin_84 (by decide) ?_
    refine go_istore_n d_M_begin_85 (Nat.le_of_ble_eq_true rfl) rfl ?_
    exact e3
  · refine RMS.mk ?_ (fun k hk => absurd hk (Nat.not_lt_zero _)) ?_ ?_ ?_ ?_ ?_ ?_
    · rw [f69, uI_eq]; rfl
    · intro c hc k hk
      have hk0 : k = 0 := Nat.le_zero.mp hk
      subst hk0
      show I4 82 (1002 * c) = D.fs c
      rw [e2 82 (by decide), c2 82 (by decide), (b1 c (by omega)).2, a2 74 (by decide), uI_ne (by decide)]
      exact (rM.ch c hc).2.2.1
    · intro c hc b hb
      have h3 := (hD.ch c hc).2.2
      refine ⟨?_, fun k hk => absurd hk (Nat.not_lt_zero _)⟩
      rw [e2 84 (by decide), c2 84 (by decide), b2 84 (by decide), a1 _ (by omega)]
      rfl
    · intro c hc
      refine ⟨?_, fun k hk => absurd hk (Nat.not_lt_zero _)⟩
      rw [e2 86 (by decide), c2 86 (by decide), (b1 c (by omega)).1]
      rfl
    · intro j hj
      refine ⟨?_, fun k hk => absurd hk (Nat.not_lt_zero _)⟩
      rw [e2 88 (by decide), c1 j (by omega)]
      rfl
    · intro p hp
      refine ⟨?_, fun k hk => absurd hk (Nat.not_lt_zero _)⟩
      rw [(e1 p (by omega)).1]
      rfl
    · intro p hp
      refine ⟨?_, fun k hk => absurd hk (Nat.not_lt_zero _)⟩
      rw [(e1 p (by omega)).2]
      rfl
  · intro q hq
    rw [f69, uI_nj hq]
theorem sp_M_apply {op : Nat} {v x : Int32} (h : op < 5) : pm_Go d m_M_apply 0 [some (.int (nI op)), some (.int v), some (.int x)] [] 0 0 (ST I J) (.inl (some (.int (jn op v x))), ST I J) := by
  refine go_iload_n d_M_apply_0 rfl ?_
  rcases (show op = 0 ∨ op = 1 ∨ op = 2 ∨ op = 3 ∨ op = 4 by omega) with rfl | rfl | rfl | rfl | rfl
  · refine go_tableIn (tgt := 32) d_M_apply_1 (by decide) (by decide) (show _ = some 31 by decide) (by decide) ?_
    refine go_iload_n d_M_apply_32 rfl ?_
    refine go_iload_n d_M_apply_33 rfl ?_
    refine go_iadd d_M_apply_34 ?_
    exact go_ireturn (st := []) d_M_apply_35 rfl (Nat.le_of_ble_eq_true rfl) (Nat.le_of_ble_eq_true rfl) rfl
  · refine go_tableIn (tgt := 36) d_M_apply_1 (by decide) (by decide) (show _ = some 35 by decide) (by decide) ?_
    refine go_iload_n d_M_apply_36 rfl ?_
    refine go_iload_n d_M_apply_37 rfl ?_
    refine go_ixor d_M_apply_38 ?_
    exact go_ireturn (st := []) d_M_apply_39 rfl (Nat.le_of_ble_eq_true rfl) (Nat.le_of_ble_eq_true rfl) rfl
  · refine go_tableIn (tgt := 40) d_M_apply_1 (by decide) (by decide) (show _ = some 39 by decide) (by decide) ?_
    refine go_iload_n d_M_apply_40 rfl ?_
    refine go_iload_n d_M_apply_41 rfl ?_
    refine go_imul d_M_apply_42 ?_
    exact go_ireturn (st := []) d_M_apply_43 rfl (Nat.le_of_ble_eq_true rfl) (Nat.le_of_ble_eq_true rfl) rfl
  · refine go_tableIn (tgt := 44) d_M_apply_1 (by decide) (by decide) (show _ = some 43 by decide) (by decide) ?_
    refine go_iload_n d_M_apply_44 rfl ?_
    refine go_iload_n d_M_apply_45 rfl ?_
    have e3 : jn 3 v x = if v < x then x else v := rfl
    rw [e3]
    by_cases hl : v ≤ x
    · refine go_icmp_le (tgt := 53) d_M_apply_46 (by decide) (fun z => ?_) (fun z => absurd hl z)
      by_cases hl2 : v < x
      · rw [if_pos hl2]
        refine go_iload_n d_M_apply_53 rfl ?_
        exact go_ireturn (st := []) d_M_apply_54 rfl (Nat.le_of_ble_eq_true rfl) (Nat.le_of_ble_eq_true rfl) rfl
      · rw [if_neg hl2]
        have e : x = v := Int32.le_antisymm (Int32.not_lt.mp hl2) hl
        rw [e]
        refine go_iload_n d_M_apply_53 rfl ?_
        exact go_ireturn (st := []) d_M_apply_54 rfl (Nat.le_of_ble_eq_true rfl) (Nat.le_of_ble_eq_true rfl) rfl
    · refine go_icmp_le (tgt := 53) d_M_apply_46 (by decide) (fun z => absurd z hl) (fun z => ?_)
      rw [if_neg (fun z => hl (Int32.le_of_lt z))]
      refine go_iload_n d_M_apply_49 rfl ?_
      refine go_goto (tgt := 54) d_M_apply_50 (by decide) ?_
      exact go_ireturn (st := []) d_M_apply_54 rfl (Nat.le_of_ble_eq_true rfl) (Nat.le_of_ble_eq_true rfl) rfl
  · refine go_tableOut (tgt := 55) d_M_apply_1 (by decide) (by decide) ?_
    refine go_bipush (v := 31) d_M_apply_55 (by decide) ?_
    refine go_iload_n d_M_apply_57 rfl ?_
    refine go_imul d_M_apply_58 ?_
    refine go_iload_n d_M_apply_59 rfl ?_
    refine go_iadd d_M_apply_60 ?_
    exact go_ireturn (st := []) d_M_apply_61 rfl (Nat.le_of_ble_eq_true rfl) (Nat.le_of_ble_eq_true rfl) rfl
end S34
/-- what is made of the first links -/
def rsV (D : DZ) (j : Nat) (sv : Nat → Int32) (n : Nat) : Int32 := ((D.sq.take n).filterMap (inF D j)).foldl (fun v x => jn (D.op j) v (sv x)) (D.ct j)
def stV (D : DZ) (j : Nat) (sv : Nat → Int32) (v : Int32) (x : Nat) : Int32 := match inF D j x with
  | some y => jn (D.op j) v (sv y)
  | none => v
theorem rsV_s {D : DZ} {j n : Nat} {sv : Nat → Int32} (h : n < D.sq.length) : rsV D j sv (n + 1) = stV D j sv (rsV D j sv n) (gi D.sq n) := by
  unfold rsV stV
  rw [List.take_add_one, gi_some h, List.filterMap_append, List.foldl_append]
  show List.foldl _ _ (List.filterMap (inF D j) [gi D.sq n]) = _
  rw [List.filterMap_cons, List.filterMap_nil]
  cases inF D j (gi D.sq n) <;> rfl
theorem rsV_e {D : DZ} {j : Nat} {sv : Nat → Int32} : rsV D j sv D.sq.length = (inL D j).foldl (fun v x => jn (D.op j) v (sv x)) (D.ct j) := by
  unfold rsV
  rw [List.take_length]
  rfl
theorem stV_c {D : DZ} {j c : Nat} {sv : Nat → Int32} {v : Int32} (hc : c < 20) : stV D j sv v c = if D.to c = j then jn (D.op j) v (sv c) else v := by
  unfold stV inF
  rw [if_pos hc]
  by_cases e : D.to c = j
  · rw [if_pos e, if_pos e]
  · rw [if_neg e, if_neg e]
theorem stV_p {D : DZ} {j p : Nat} {sv : Nat → Int32} {v : Int32} (hp : p < 4) : stV D j sv v (20 + p) = if D.ito p = j then jn (D.op j) v (sv (20 + p)) else v := by
  unfold stV inF
  rw [if_neg (by omega), if_pos (by omega), show 20 + p - 20 = p by omega]
  by_cases e : D.ito p = j
  · rw [if_pos e, if_pos e]
  · rw [if_neg e, if_neg e]
theorem stV_o {D : DZ} {j x : Nat} {sv : Nat → Int32} {v : Int32} (hx : 24 ≤ x) : stV D j sv v x = v := by
  unfold stV inF
  rw [if_neg (by omega), if_neg (by omega)]
section S35
variable {d : Nat} {I : Nat → Nat → Int32} {J : Nat → Nat → Int64} {D : DZ} {s : MS} {t : TS}
/-- who stands where in the order of adding -/
theorem sq_at (hD : DW D) {n tc x : Nat} (h : D.sq[tc]? = some x) (hn : n < D.sq.length) : tc < D.sq.length ∧ (tc = n ↔ gi D.sq n = x) := by
  have h1 : tc < D.sq.length := by
    by_cases hl : tc < D.sq.length
    · exact hl
    · rw [List.getElem?_eq_none (by omega)] at h
      cases h
  have h2 : gi D.sq tc = x := gi_get h
  refine ⟨h1, fun e => by rw [← e]; exact h2, fun e => gi_inj hD.nd h1 hn (by rw [h2, e])⟩
theorem sq_len (hD : DW D) : D.sq.length ≤ 28 := nd_len 28 _ hD.nd (fun x hx => by
  have := (hD.sq x).mp hx
  have := hD.nc
  have := hD.ni
  have := hD.no
  omega)
theorem sp_M_result {j k : Nat} {sv : Nat → Int32} (hD : DW D) (rM : RMD I D) (hj : j < D.nb) (hk : k ≤ 1001) (h1 : ∀ c, c < D.nc → D.to c = j → I 82 (1002 * c + k) = sv c) (h2 : ∀ p, p < D.ni → D.ito p = j → I 89 (1002 * p + k) = sv (20 + p)) : pm_Go (d + 1) m_M_result 0 [some (.ref 69), some (.int (nI j)), some (.int (nI k)), none, none, none] [] 0 0 (ST I J) (.inl (some (.int ((inL D j).foldl (fun v x => jn (D.op j) v (sv x)) (D.ct j)))), ST I J) := by
  have h20 := hD.nc
  have h10 := hD.nb
  have hni := hD.ni
  have hno := hD.no
  have hsl := sq_len hD
  have hop := hD.op j hj
  have ebl := rM.bl j hj
  have loop : ∀ m n, D.sq.length - n = m → n ≤ D.sq.length → ∀ w5, pm_Go (d + 1) m_M_result 10 [some (.ref 69), some (.int (nI j)), some (.int (nI k)), some (.int (rsV D j sv n)), some (.int (nI n)), w5] [] 0 0 (ST I J) (.inl (some (.int ((inL D j).foldl (fun v x => jn (D.op j) v (sv x)) (D.ct j)))), ST I J) := by
    intro m
    induction m with
    | zero =>
      intro n hm hn w5
      have : n = D.sq.length := by omega
      subst this
      refine go_iload d_M_result_10 rfl ?_
      refine go_aload_n d_M_result_12 rfl ?_
      refine go_gI (j := 17) (nI D.sq.length) d_M_result_13 (Nat.le_of_ble_eq_true rfl) rfl pc_M (Nat.le_of_ble_eq_true rfl) (by decide) w_719 rM.ad ?_
      refine go_icmp_ge (tgt := 155) d_M_result_16 (by decide) (fun z => ?_) (fun z => absurd (nI_le (Nat.le_refl _) (by omega)) z)
      rw [rsV_e]
      refine go_iload_n d_M_result_155 rfl ?_
      exact go_ireturn (st := []) d_M_result_156 rfl (Nat.le_of_ble_eq_true rfl) (Nat.le_of_ble_eq_true rfl) rfl
    | succ m ih =>
      intro n hm hn w5
      have hn2 : n < D.sq.length := by omega
      have i1 := fun w5 => ih (n + 1) (by omega) (by omega) w5
      rw [rsV_s hn2] at i1
      generalize rsV D j sv n = v at i1 ⊢
      have hx := (hD.sq (gi D.sq n)).mp (gi_mem hn2)
      have ex : ∀ tc y, D.sq[tc]? = some y → tc < 28 ∧ (tc = n ↔ gi D.sq n = y) := fun tc y hy => ⟨by have := (sq_at hD hy hn2).1; omega, (sq_at hD hy hn2).2⟩
      generalize gi D.sq n = x at i1 hx ex
      have lp : ∀ b p, D.ni - p = b → p ≤ D.ni → pm_Go (d + 1) m_M_result 87 [some (.ref 69), some (.int (nI j)), some (.int (nI k)), some (.int (if x < D.nc ∨ (20 ≤ x ∧ x < 20 + p) then stV D j sv v x else v)), some (.int (nI n)), some (.int (nI p))] [] 0 0 (ST I J) (.inl (some (.int ((inL D j).foldl (fun v x => jn (D.op j) v (sv x)) (D.ct j)))), ST I J) := by
        intro b
        induction b with
        | zero =>
          intro p hb hp
          have : p = D.ni := by omega
          subst this
          refine go_iload d_M_result_87 rfl ?_
          refine go_aload_n d_M_result_89 rfl ?_
          refine go_gI (j := 11) (nI D.ni) d_M_result_90 (Nat.le_of_ble_eq_true rfl) rfl pc_M (Nat.le_of_ble_eq_true rfl) (by decide) w_713 rM.ni ?_
          refine go_icmp_ge (tgt := 149) d_M_result_93 (by decide) (fun z => ?_) (fun z => absurd (nI_le (Nat.le_refl _) (by omega)) z)
          have e : (if x < D.nc ∨ (20 ≤ x ∧ x < 20 + D.ni) then stV D j sv v x else v) = stV D j sv v x := by
            by_cases hh : x < D.nc ∨ (20 ≤ x ∧ x < 20 + D.ni)
            · rw [if_pos hh]
            · rw [if_neg hh, stV_o (by omega)]
          rw [e]
          refine go_iinc (v := nI (n + 1)) d_M_result_149 rfl (by first | rfl | exact nI_1 _) rfl ?_
          refine go_goto (tgt := 10) d_M_result_152 (by decide) ?_
          exact i1 _
        | succ b ihb =>
          intro p hb hp
          have hp2 : p < D.ni := by omega
          have i2 := ihb (p + 1) (by omega) (by omega)
          obtain ⟨e1, tp, e2, e3⟩ := rM.ip p hp2
          have e4 := ex tp _ e2
          have hto := hD.ip p hp2
          refine go_iload d_M_result_87 rfl ?_
          refine go_aload_n d_M_result_89 rfl ?_
          refine go_gI (j := 11) (nI D.ni) d_M_result_90 (Nat.le_of_ble_eq_true rfl) rfl pc_M (Nat.le_of_ble_eq_true rfl) (by decide) w_713 rM.ni ?_
          refine go_icmp_ge (tgt := 149) d_M_result_93 (by decide) (fun z => absurd z (nI_ge (by omega) (by omega))) (fun z => ?_)
          refine go_aload_n d_M_result_96 rfl ?_
          refine go_getP (j := 13) d_M_result_97 (Nat.le_of_ble_eq_true rfl) rfl pc_M (Nat.le_of_ble_eq_true rfl) rfl w_715 pt_M_13 ?_
          refine go_iload d_M_result_100 rfl ?_
          refine go_ald p (nI tp) d_M_result_102 (Nat.le_of_ble_eq_true rfl) rfl rfl (by omega) (by decide) e3 ?_
          refine go_iload d_M_result_103 rfl ?_
          by_cases et : tp = n
          · have ext : x = 20 + p := e4.2.mp et
            rw [if_pos (by omega), ext, stV_p (by omega)] at i2
            rw [if_neg (by omega)]
            refine go_icmp_ne (tgt := 143) d_M_result_105 (by decide) (fun z => absurd (congrArg nI et) z) (fun z => ?_)
            refine go_aload_n d_M_result_108 rfl ?_
            refine go_getP (j := 12) d_M_result_109 (Nat.le_of_ble_eq_true rfl) rfl pc_M (Nat.le_of_ble_eq_true rfl) rfl w_714 pt_M_12 ?_
            refine go_iload d_M_result_112 rfl ?_
            refine go_ald p (nI (D.ito p)) d_M_result_114 (Nat.le_of_ble_eq_true rfl) rfl rfl (by omega) (by decide) e1 ?_
            refine go_iload_n d_M_result_115 rfl ?_
            by_cases ej : D.ito p = j
            · rw [if_pos ej] at i2
              refine go_icmp_ne (tgt := 143) d_M_result_116 (by decide) (fun z => absurd (congrArg nI ej) z) (fun z => ?_)
              refine go_aload_n d_M_result_119 rfl ?_
              refine go_getP (j := 3) d_M_result_120 (Nat.le_of_ble_eq_true rfl) rfl pc_M (Nat.le_of_ble_eq_true rfl) rfl w_705 pt_M_3 ?_
              refine go_iload_n d_M_result_123 rfl ?_
              refine go_ald j (nI (D.op j)) d_M_result_124 (Nat.le_of_ble_eq_true rfl) rfl rfl (by omega) (by decide) ebl.1 ?_
              refine go_iload_n d_M_result_125 rfl ?_
              refine go_aload_n d_M_result_126 rfl ?_
              refine go_getP (j := 27) d_M_result_127 (Nat.le_of_ble_eq_true rfl) rfl pc_M (Nat.le_of_ble_eq_true rfl) rfl w_729 pt_M_27 ?_
              refine go_sipush (v := 1002) d_M_result_130 (by decide) ?_
              refine go_iload d_M_result_133 rfl ?_
              refine go_imul d_M_result_135 ?_
              refine go_top (nI (1002 * p)) (pk_mul 1002 p) ?_
              refine go_iload_n d_M_result_136 rfl ?_
              refine go_iadd d_M_result_137 ?_
              refine go_top (nI (1002 * p + k)) (nI_add _ _) ?_
              refine go_ald (1002 * p + k) (sv (20 + p)) d_M_result_138 (Nat.le_of_ble_eq_true rfl) rfl rfl (by omega) (by decide) (h2 p hp2 ej) ?_
              refine go_callS (k2 := m_M_apply) (As := [.int (nI (D.op j)), .int v, .int (sv (20 + p))]) (r := some (.int (jn (D.op j) v (sv (20 + p))))) d_M_result_139 ok_M_apply sl_M_164 rfl rfl (Nat.le_of_ble_eq_true rfl) (Nat.le_of_ble_eq_true rfl) (Nat.le_of_ble_eq_true rfl) (Nat.le_of_ble_eq_true rfl) rfl rfl (sp_M_apply hop) ?_
              refine go_istore_n d_M_result_142 (Nat.le_of_ble_eq_true rfl) rfl ?_
              refine go_iinc (v := nI (p + 1)) d_M_result_143 rfl (by first | rfl | exact nI_1 _) rfl ?_
              refine go_goto (tgt := 87) d_M_result_146 (by decide) ?_
              exact i2
            · rw [if_neg ej] at i2
              refine go_icmp_ne (tgt := 143) d_M_result_116 (by decide) (fun z => ?_) (fun z => absurd z (nI_neq (by omega) (by omega) ej))
              refine go_iinc (v := nI (p + 1)) d_M_result_143 rfl (by first | rfl | exact nI_1 _) rfl ?_
              refine go_goto (tgt := 87) d_M_result_146 (by decide) ?_
              exact i2
          · have hne : ¬ x = 20 + p := fun z => et (e4.2.mpr z)
            have e5 : (if x < D.nc ∨ (20 ≤ x ∧ x < 20 + (p + 1)) then stV D j sv v x else v) = (if x < D.nc ∨ (20 ≤ x ∧ x < 20 + p) then stV D j sv v x else v) := by
              by_cases hh : x < D.nc ∨ (20 ≤ x ∧ x < 20 + p)
              · rw [if_pos hh, if_pos (by omega)]
              · rw [if_neg hh, if_neg (by omega)]
            rw [e5] at i2
            refine go_icmp_ne (tgt := 143) d_M_result_105 (by decide) (fun z => ?_) (fun z => absurd z (nI_neq (by omega) (by omega) et))
            refine go_iinc (v := nI (p + 1)) d_M_result_143 rfl (by first | rfl | exact nI_1 _) rfl ?_
            refine go_goto (tgt := 87) d_M_result_146 (by decide) ?_
            exact i2
      have lc : ∀ b c, D.nc - c = b → c ≤ D.nc → pm_Go (d + 1) m_M_result 22 [some (.ref 69), some (.int (nI j)), some (.int (nI k)), some (.int (if x < c then stV D j sv v x else v)), some (.int (nI n)), some (.int (nI c))] [] 0 0 (ST I J) (.inl (some (.int ((inL D j).foldl (fun v x => jn (D.op j) v (sv x)) (D.ct j)))), ST I J) := by
        intro b
        induction b with
        | zero =>
          intro c hb hc
          have : c = D.nc := by omega
          subst this
          have i2 := lp D.ni 0 (by omega) (by omega)
          have e : (if x < D.nc ∨ (20 ≤ x ∧ x < 20 + 0) then stV D j sv v x else v) = (if x < D.nc then stV D j sv v x else v) := by
            by_cases hh : x < D.nc
            · rw [if_pos hh, if_pos (by omega)]
            · rw [if_neg hh, if_neg (by omega)]
          rw [e] at i2
          refine go_iload d_M_result_22 rfl ?_
          refine go_aload_n d_M_result_24 rfl ?_
          refine go_gI (j := 5) (nI D.nc) d_M_result_25 (Nat.le_of_ble_eq_true rfl) rfl pc_M (Nat.le_of_ble_eq_true rfl) (by decide) w_707 rM.nc ?_
          refine go_icmp_ge (tgt := 84) d_M_result_28 (by decide) (fun z => ?_) (fun z => absurd (nI_le (Nat.le_refl _) (by omega)) z)
          refine go_iconst (v := 0) d_M_result_84 (by decide) ?_
          refine go_istore d_M_result_85 (Nat.le_of_ble_eq_true rfl) rfl ?_
          exact i2
        | succ b ihb =>
          intro c hb hc
          have hc2 : c < D.nc := by omega
          have i2 := ihb (c + 1) (by omega) (by omega)
          obtain ⟨-, e1, -, -, tp, e2, e3⟩ := rM.ch c hc2
          have e4 := ex tp _ e2
          have hto := (hD.ch c hc2).2.1
          refine go_iload d_M_result_22 rfl ?_
          refine go_aload_n d_M_result_24 rfl ?_
          refine go_gI (j := 5) (nI D.nc) d_M_result_25 (Nat.le_of_ble_eq_true rfl) rfl pc_M (Nat.le_of_ble_eq_true rfl) (by decide) w_707 rM.nc ?_
          refine go_icmp_ge (tgt := 84) d_M_result_28 (by decide) (fun z => absurd z (nI_ge (by omega) (by omega))) (fun z => ?_)
          refine go_aload_n d_M_result_31 rfl ?_
          refine go_getP (j := 10) d_M_result_32 (Nat.le_of_ble_eq_true rfl) rfl pc_M (Nat.le_of_ble_eq_true rfl) rfl w_712 pt_M_10 ?_
          refine go_iload d_M_result_35 rfl ?_
          refine go_ald c (nI tp) d_M_result_37 (Nat.le_of_ble_eq_true rfl) rfl rfl (by omega) (by decide) e3 ?_
          refine go_iload d_M_result_38 rfl ?_
          by_cases et : tp = n
          · have ext : x = c := e4.2.mp et
            rw [if_pos (by omega), ext, stV_c (by omega)] at i2
            rw [if_neg (by omega)]
            refine go_icmp_ne (tgt := 78) d_M_result_40 (by decide) (fun z => absurd (congrArg nI et) z) (fun z => ?_)
            refine go_aload_n d_M_result_43 rfl ?_
            refine go_getP (j := 7) d_M_result_44 (Nat.le_of_ble_eq_true rfl) rfl pc_M (Nat.le_of_ble_eq_true rfl) rfl w_709 pt_M_7 ?_
            refine go_iload d_M_result_47 rfl ?_
            refine go_ald c (nI (D.to c)) d_M_result_49 (Nat.le_of_ble_eq_true rfl) rfl rfl (by omega) (by decide) e1 ?_
            refine go_iload_n d_M_result_50 rfl ?_
            by_cases ej : D.to c = j
            · rw [if_pos ej] at i2
              refine go_icmp_ne (tgt := 78) d_M_result_51 (by decide) (fun z => absurd (congrArg nI ej) z) (fun z => ?_)
              refine go_aload_n d_M_result_54 rfl ?_
              refine go_getP (j := 3) d_M_result_55 (Nat.le_of_ble_eq_true rfl) rfl pc_M (Nat.le_of_ble_eq_true rfl) rfl w_705 pt_M_3 ?_
              refine go_iload_n d_M_result_58 rfl ?_
              refine go_ald j (nI (D.op j)) d_M_result_59 (Nat.le_of_ble_eq_true rfl) rfl rfl (by omega) (by decide) ebl.1 ?_
              refine go_iload_n d_M_result_60 rfl ?_
              refine go_aload_n d_M_result_61 rfl ?_
              refine go_getP (j := 20) d_M_result_62 (Nat.le_of_ble_eq_true rfl) rfl pc_M (Nat.le_of_ble_eq_true rfl) rfl w_722 pt_M_20 ?_
              refine go_sipush (v := 1002) d_M_result_65 (by decide) ?_
              refine go_iload d_M_result_68 rfl ?_
              refine go_imul d_M_result_70 ?_
              refine go_top (nI (1002 * c)) (pk_mul 1002 c) ?_
              refine go_iload_n d_M_result_71 rfl ?_
              refine go_iadd d_M_result_72 ?_
              refine go_top (nI (1002 * c + k)) (nI_add _ _) ?_
              refine go_ald (1002 * c + k) (sv c) d_M_result_73 (Nat.le_of_ble_eq_true rfl) rfl rfl (by omega) (by decide) (h1 c hc2 ej) ?_
              refine go_callS (k2 := m_M_apply) (As := [.int (nI (D.op j)), .int v, .int (sv c)]) (r := some (.int (jn (D.op j) v (sv c)))) d_M_result_74 ok_M_apply sl_M_164 rfl rfl (Nat.le_of_ble_eq_true rfl) (Nat.le_of_ble_eq_true rfl) (Nat.le_of_ble_eq_true rfl) (Nat.le_of_ble_eq_true rfl) rfl rfl (sp_M_apply hop) ?_
              refine go_istore_n d_M_result_77 (Nat.le_of_ble_eq_true rfl) rfl ?_
              refine go_iinc (v := nI (c + 1)) d_M_result_78 rfl (by first | rfl | exact nI_1 _) rfl ?_
              refine go_goto (tgt := 22) d_M_result_81 (by decide) ?_
              exact i2
            · rw [if_neg ej] at i2
              refine go_icmp_ne (tgt := 78) d_M_result_51 (by decide) (fun z => ?_) (fun z => absurd z (nI_neq (by omega) (by omega) ej))
              refine go_iinc (v := nI (c + 1)) d_M_result_78 rfl (by first | rfl | exact nI_1 _) rfl ?_
              refine go_goto (tgt := 22) d_M_result_81 (by decide) ?_
              exact i2
          · have hne : ¬ x = c := fun z => et (e4.2.mpr z)
            have e5 : (if x < c + 1 then stV D j sv v x else v) = (if x < c then stV D j sv v x else v) := by
              by_cases hh : x < c
              · rw [if_pos hh, if_pos (by omega)]
              · rw [if_neg hh, if_neg (by omega)]
            rw [e5] at i2
            refine go_icmp_ne (tgt := 78) d_M_result_40 (by decide) (fun z => ?_) (fun z => absurd z (nI_neq (by omega) (by omega) et))
            refine go_iinc (v := nI (c + 1)) d_M_result_78 rfl (by first | rfl | exact nI_1 _) rfl ?_
            refine go_goto (tgt := 22) d_M_result_81 (by decide) ?_
            exact i2
      have i3 := lc D.nc 0 (by omega) (by omega)
      rw [if_neg (by omega)] at i3
      refine go_iload d_M_result_10 rfl ?_
      refine go_aload_n d_M_result_12 rfl ?_
      refine go_gI (j := 17) (nI D.sq.length) d_M_result_13 (Nat.le_of_ble_eq_true rfl) rfl pc_M (Nat.le_of_ble_eq_true rfl) (by decide) w_719 rM.ad ?_
      refine go_icmp_ge (tgt := 155) d_M_result_16 (by decide) (fun z => absurd z (nI_ge (by omega) (by omega))) (fun z => ?_)
      refine go_iconst (v := 0) d_M_result_19 (by decide) ?_
      refine go_istore d_M_result_20 (Nat.le_of_ble_eq_true rfl) rfl ?_
      exact i3
  have i0 := loop D.sq.length 0 (by omega) (by omega) none
  have e0 : rsV D j sv 0 = D.ct j := rfl
  rw [e0] at i0
  refine go_aload_n d_M_result_0 rfl ?_
  refine go_getP (j := 4) d_M_result_1 (Nat.le_of_ble_eq_true rfl) rfl pc_M (Nat.le_of_ble_eq_true rfl) rfl w_706 pt_M_4 ?_
  refine go_iload_n d_M_result_4 rfl ?_
  refine go_ald j (D.ct j) d_M_result_5 (Nat.le_of_ble_eq_true rfl) rfl rfl (by omega) (by decide) ebl.2 ?_
  refine go_istore_n d_M_result_6 (Nat.le_of_ble_eq_true rfl) rfl ?_
  refine go_iconst (v := 0) d_M_result_7 (by decide) ?_
  refine go_istore d_M_result_8 (Nat.le_of_ble_eq_true rfl) rfl ?_
  exact i0
end S35
