/-! Patient: the turn's end, a block's act, a channel's moves -/
section S5
variable {d : Nat} {I : Nat → Nat → Int32} {J : Nat → Nat → Int64}
theorem al_mono {f : Nat → Bool} {n : Nat} (h : al f n = true) {i : Nat} (hi : i < n) : f i = true := al_iff.mp h i hi
/-- the turn's end: what all the links of a block give up -/
def eTb (bq : Nat → List Int32) (ex lk : Nat → Nat) (n : Nat) : Nat → List Int32 := fo (fun q i => pTb q ex (lk i)) bq n
def eTk (tk : Nat → List Int32) (wv : Nat → Int32) (lk : Nat → Nat) (n : Nat) : Nat → List Int32 := fo (fun q i => pTk q wv (lk i)) tk n
def eTw (w : Int32) (lk : Nat → Nat) (n : Nat) : Int32 := fo (fun q i => pTw q (lk i)) w n
def eTt (lk : Nat → Nat) (n : Nat) : Int32 := fo (fun q i => q ||| pTt (lk i)) 0 n
theorem sp_endTurn {bq : Nat → List Int32} {tk : Nat → List Int32} {ex lk : Nat → Nat} {j n t : Nat} (hj : j < 10) (hB : CB I bq) (hT : CT I tk) (hn : I 20 j = nI n) (hn2 : n ≤ 24) (ht : I 38 j = nI t)
    (hlk : ∀ i, i < n → I (10 + j) i = nI (lk i) ∧ lk i < 24 ∧ (lk i < 20 → I 7 (lk i) = nI (ex (lk i)) ∧ ex (lk i) ≤ 3)) (h1 : ∀ i, i < n → lk i < 20 → eTb bq ex lk i (lk i * 4 + ex (lk i)) ≠ []) (h2 : ∀ i, i < n → ¬ lk i < 20 → (eTk tk (I 41) lk i (lk i - 20)).length < 1000) :
    ∃ I', pm_Go (d + 2) m_P_endTurn 0 [some (.ref 33), some (.int (nI j)), none, none] [] 0 0 (ST I J) (.inl (some (.int (eTt lk n))), ST I' J) ∧ CB I' (eTb bq ex lk n) ∧ CT I' (eTk tk (I 41) lk n) ∧ fr [33, 34, 35, 38, 39, 42, 44, 45, 46, 47] I I' ∧ I' 33 9 = eTw (I 33 9) lk n ∧ (∀ q, q ≠ 9 → I' 33 q = I 33 q) ∧ I' 38 j = nI (t + 1) ∧ (∀ q, q ≠ j → I' 38 q = I 38 q) ∧ I' 39 j = 0 ∧ (∀ q, q ≠ j → I' 39 q = I 39 q) := by
  have loop : ∀ k i (Ii : Nat → Nat → Int32), n - i = k → i ≤ n → CB Ii (eTb bq ex lk i) → CT Ii (eTk tk (I 41) lk i) → fr [33, 34, 35, 42, 44, 45, 46, 47] I Ii → Ii 33 9 = eTw (I 33 9) lk i → (∀ q, q ≠ 9 → Ii 33 q = I 33 q) →
      ∃ I', pm_Go (d + 2) m_P_endTurn 4 [some (.ref 33), some (.int (nI j)), some (.int (eTt lk i)), some (.int (nI i))] [] 0 0 (ST Ii J) (.inl (some (.int (eTt lk n))), ST I' J) ∧ CB I' (eTb bq ex lk n) ∧ CT I' (eTk tk (I 41) lk n) ∧ fr [33, 34, 35, 38, 39, 42, 44, 45, 46, 47] I I' ∧ I' 33 9 = eTw (I 33 9) lk n ∧ (∀ q, q ≠ 9 → I' 33 q = I 33 q) ∧ I' 38 j = nI (t + 1) ∧ (∀ q, q ≠ j → I' 38 q = I 38 q) ∧ I' 39 j = 0 ∧ (∀ q, q ≠ j → I' 39 q = I 39 q) := by
    intro k
    induction k with
    | zero =>
      intro i Ii hk hi cB cT f33 w1 w2
      have : i = n := by omega
      subst this
      have e20 : Ii 20 j = nI i := by rw [f33 20 (by decide)]; exact hn
      have e38 : Ii 38 j = nI t := by rw [f33 38 (by decide)]; exact ht
      refine ⟨pm_uI (pm_uI Ii 39 j 0) 38 j (nI (t + 1)), ?_, ?_, ?_, ?_, ?_, ?_, ?_, ?_, ?_, ?_⟩
      · refine go_iload_n d_P_endTurn_4 rfl ?_
        refine go_aload_n d_P_endTurn_5 rfl ?_
        refine go_getP (j := 0) d_P_endTurn_6 (Nat.le_of_ble_eq_true rfl) rfl pc_P (Nat.le_of_ble_eq_true rfl) rfl w_113 pt_P_0 ?_
        refine go_getP (j := 12) d_P_endTurn_9 (Nat.le_of_ble_eq_true rfl) rfl pc_D (Nat.le_of_ble_eq_true rfl) rfl w_67 pt_D_12 ?_
        refine go_iload_n d_P_endTurn_12 rfl ?_
        refine go_ald j (nI i) d_P_endTurn_13 (Nat.le_of_ble_eq_true rfl) rfl rfl hj (by decide) e20 ?_
        refine go_icmp_ge (tgt := 41) d_P_endTurn_14 (by decide) (fun z => ?_) (fun z => absurd (nI_le (Nat.le_refl i) (by omega)) z)
        refine go_aload_n d_P_endTurn_41 rfl ?_
        refine go_getP (j := 7) d_P_endTurn_42 (Nat.le_of_ble_eq_true rfl) rfl pc_P (Nat.le_of_ble_eq_true rfl) rfl w_123 pt_P_7 ?_
        refine go_iload_n d_P_endTurn_45 rfl ?_
        refine go_iconst (v := 0) d_P_endTurn_46 (by decide) ?_
        refine go_ast j d_P_endTurn_47 (Nat.le_of_ble_eq_true rfl) rfl rfl hj (by decide) ?_
        refine go_aload_n d_P_endTurn_48 rfl ?_
        refine go_getP (j := 6) d_P_endTurn_49 (Nat.le_of_ble_eq_true rfl) rfl pc_P (Nat.le_of_ble_eq_true rfl) rfl w_121 pt_P_6 ?_
        refine go_iload_n d_P_endTurn_52 rfl ?_
        refine go_dup2 d_P_endTurn_53 rfl rfl ?_
        refine go_ald j (nI t) d_P_endTurn_54 (Nat.le_of_ble_eq_true rfl) rfl rfl hj (by decide) e38 ?_
        refine go_iconst (v := 1) d_P_endTurn_55 (by decide) ?_
        refine go_iadd d_P_endTurn_56 ?_
        refine go_top (nI (t + 1)) (nI_1 _) ?_
        refine go_ast j d_P_endTurn_57 (Nat.le_of_ble_eq_true rfl) rfl rfl hj (by decide) ?_
        refine go_iload_n d_P_endTurn_58 rfl ?_
        exact go_ireturn (st := []) d_P_endTurn_59 rfl (Nat.le_of_ble_eq_true rfl) (Nat.le_of_ble_eq_true rfl) rfl
      · exact cB.eqv rfl rfl
      · exact cT.fr (L := [38, 39]) ((fr.uI (c := 39) (by decide)).tr (fr.uI (c := 38) (by decide))) (by decide)
      · exact (f33.up (by decide)).tr ((fr.uI (c := 39) (by decide)).tr (fr.uI (c := 38) (by decide)))
      · exact w1
      · exact w2
      · exact uI_eq
      · intro q hq
        rw [uI_nj hq, uI_ne (by decide), f33 38 (by decide)]
      · rw [uI_ne (by decide), uI_eq]
      · intro q hq
        rw [uI_ne (by decide), uI_nj hq, f33 39 (by decide)]
    | succ k ih =>
      intro i Ii hk hi cB cT f33 w1 w2
      obtain ⟨l1, l2, l3⟩ := hlk i (by omega)
      have e20 : Ii 20 j = nI n := by rw [f33 20 (by decide)]; exact hn
      have e10 : Ii (10 + j) i = nI (lk i) := by rw [f33 (10 + j) (by simp; omega)]; exact l1
      have e41 : Ii 41 = I 41 := f33 41 (by decide)
      obtain ⟨I2, g1, g2, g3, g4, g5, g6⟩ := sp_take (d := d) (J := J) cB cT l2 (fun z => by rw [f33 7 (by decide)]; exact l3 z) (h1 i (by omega)) (fun z => h2 i (by omega) z)
      rw [e41] at g3
      obtain ⟨I', i1, i2⟩ := ih (i + 1) I2 (by omega) (by omega) g2 g3 (f33.tr g4) (by rw [g5, w1]; rfl) (fun q hq => by rw [g6 q hq]; exact w2 q hq)
      refine ⟨I', ?_, i2⟩
      refine go_iload_n d_P_endTurn_4 rfl ?_
      refine go_aload_n d_P_endTurn_5 rfl ?_
      refine go_getP (j := 0) d_P_endTurn_6 (Nat.le_of_ble_eq_true rfl) rfl pc_P (Nat.le_of_ble_eq_true rfl) rfl w_113 pt_P_0 ?_
      refine go_getP (j := 12) d_P_endTurn_9 (Nat.le_of_ble_eq_true rfl) rfl pc_D (Nat.le_of_ble_eq_true rfl) rfl w_67 pt_D_12 ?_
      refine go_iload_n d_P_endTurn_12 rfl ?_
      refine go_ald j (nI n) d_P_endTurn_13 (Nat.le_of_ble_eq_true rfl) rfl rfl hj (by decide) e20 ?_
      refine go_icmp_ge (tgt := 41) d_P_endTurn_14 (by decide) (fun z => absurd z (nI_ge (by omega) (by omega))) (fun z => ?_)
      refine go_iload_n d_P_endTurn_17 rfl ?_
      refine go_aload_n d_P_endTurn_18 rfl ?_
      refine go_aload_n d_P_endTurn_19 rfl ?_
      refine go_getP (j := 0) d_P_endTurn_20 (Nat.le_of_ble_eq_true rfl) rfl pc_P (Nat.le_of_ble_eq_true rfl) rfl w_113 pt_P_0 ?_
      refine go_getP (j := 11) d_P_endTurn_23 (Nat.le_of_ble_eq_true rfl) rfl pc_D (Nat.le_of_ble_eq_true rfl) rfl w_65 pt_D_11 ?_
      refine go_iload_n d_P_endTurn_26 rfl ?_
      refine go_row3 j (10 + j) d_P_endTurn_27 (Nat.le_of_ble_eq_true rfl) rfl rfl hj (by decide) (pt_9 j hj) ?_
      refine go_iload_n d_P_endTurn_28 rfl ?_
      refine go_ald i (nI (lk i)) d_P_endTurn_29 (show 10 + j < 104 by omega) (sh_10 j hj) rfl (by omega) (by decide) e10 ?_
      refine go_callV (k2 := m_P_take) (As := [.int (nI (lk i))]) (r := some (.int (pTt (lk i)))) d_P_endTurn_30 ok_P_take (Nat.le_of_ble_eq_true rfl) rfl pc_P rfl vl_P_157 rfl rfl (Nat.le_of_ble_eq_true rfl) (Nat.le_of_ble_eq_true rfl) (Nat.le_of_ble_eq_true rfl) (Nat.le_of_ble_eq_true rfl) rfl rfl g1 ?_
      refine go_ior d_P_endTurn_33 ?_
      refine go_istore_n d_P_endTurn_34 (Nat.le_of_ble_eq_true rfl) rfl ?_
      refine go_iinc (v := nI (i + 1)) d_P_endTurn_35 rfl (by first | rfl | exact nI_1 _) rfl ?_
      refine go_goto (tgt := 4) d_P_endTurn_38 (by decide) ?_
      exact i1
  obtain ⟨I', i1, i2⟩ := loop n 0 I (by omega) (by omega) hB hT fr.rf rfl (fun _ _ => rfl)
  refine ⟨I', ?_, i2⟩
  refine go_iconst (v := 0) d_P_endTurn_0 (by decide) ?_
  refine go_istore_n d_P_endTurn_1 (Nat.le_of_ble_eq_true rfl) rfl ?_
  refine go_iconst (v := 0) d_P_endTurn_2 (by decide) ?_
  refine go_istore_n d_P_endTurn_3 (Nat.le_of_ble_eq_true rfl) rfl ?_
  exact i1
/-- a channel's tokens go on, one place each at most -/
def mvb (bf : Nat → Nat) (c : Nat) (bq : Nat → List Int32) (b : Nat) : Nat → List Int32 := if 0 < bf (c * 4 + b) ∧ bf (c * 4 + b + 1) < 2 then ra_fu (ra_fu bq (c * 4 + b + 1) (bq (c * 4 + b + 1) ++ [(bq (c * 4 + b)).headD 0])) (c * 4 + b) (bq (c * 4 + b)).tail else bq
theorem sp_moveOn {bq : Nat → List Int32} {bf : Nat → Nat} {c e : Nat} (hc : c < 20) (he : e ≤ 3) (hex : I 7 c = nI e) (hB : CB I bq) (hbf : ∀ b, b < 80 → I 36 b = nI (bf b) ∧ bf b ≤ 2) (h1 : ∀ b, b < e → 0 < bf (c * 4 + b) → bf (c * 4 + b + 1) < 2 → fo (mvb bf c) bq b (c * 4 + b) ≠ [] ∧ (fo (mvb bf c) bq b (c * 4 + b + 1)).length < 2) :
    ∃ I', pm_Go (d + 1) m_P_moveOn 0 [some (.ref 33), some (.int (nI c)), none, none] [] 0 0 (ST I J) (.inl none, ST I' J) ∧ CB I' (fo (mvb bf c) bq e) ∧ fr [34, 35] I I' := by
  have loop : ∀ k b (Ib : Nat → Nat → Int32), e - b = k → b ≤ e → CB Ib (fo (mvb bf c) bq b) → fr [34, 35] I Ib → ∃ I', pm_Go (d + 1) m_P_moveOn 13 [some (.ref 33), some (.int (nI c)), some (.int (nI (c * 4 + e))), some (.int (nI (c * 4 + b)))] [] 0 0 (ST Ib J) (.inl none, ST I' J) ∧ CB I' (fo (mvb bf c) bq e) ∧ fr [34, 35] I I' := by
    intro k
    induction k with
    | zero =>
      intro b Ib hk hb cB f1
      have : b = e := by omega
      subst this
      refine ⟨Ib, ?_, cB, f1⟩
      refine go_iload_n d_P_moveOn_13 rfl ?_
      refine go_iload_n d_P_moveOn_14 rfl ?_
      refine go_icmp_ge (tgt := 65) d_P_moveOn_15 (by decide) (fun z => ?_) (fun z => absurd (nI_le (Nat.le_refl _) (by omega)) z)
      exact go_vreturn (st := []) d_P_moveOn_65 rfl (Nat.le_of_ble_eq_true rfl) (Nat.le_of_ble_eq_true rfl) rfl
    | succ k ih =>
      intro b Ib hk hb cB f1
      obtain ⟨a1, a2⟩ := hbf (c * 4 + b) (by omega)
      obtain ⟨b1, b2⟩ := hbf (c * 4 + b + 1) (by omega)
      have e1 : Ib 36 (c * 4 + b) = nI (bf (c * 4 + b)) := by rw [f1 36 (by decide)]; exact a1
      have e2 : Ib 36 (c * 4 + b + 1) = nI (bf (c * 4 + b + 1)) := by rw [f1 36 (by decide)]; exact b1
      by_cases hm : 0 < bf (c * 4 + b) ∧ bf (c * 4 + b + 1) < 2
      · obtain ⟨m1, m2⟩ := h1 b (by omega) hm.1 hm.2
        obtain ⟨x, q, hq⟩ : ∃ x q, fo (mvb bf c) bq b (c * 4 + b) = x :: q := by
          cases hh : fo (mvb bf c) bq b (c * 4 + b) with
          | nil => exact absurd hh m1
          | cons x q => exact ⟨x, q, rfl⟩
        have ex0 : Ib 34 ((c * 4 + b) * 2) = x := (cB (c * 4 + b) (by omega)).2.2 0 x (by rw [hq]; rfl)
        obtain ⟨I1, g1, g2, g3⟩ := sp_putE (d := d) (J := J) (v := x) cB (b := c * 4 + b + 1) (by omega) m2
        have hq2 : ra_fu (fo (mvb bf c) bq b) (c * 4 + b + 1) (fo (mvb bf c) bq b (c * 4 + b + 1) ++ [x]) (c * 4 + b) = x :: q := by
          simp only [ra_fu]
          rw [if_neg (by omega)]
          exact hq
        obtain ⟨I2, k1, k2, k3⟩ := sp_dropE (d := d) (J := J) g2 (b := c * 4 + b) (by omega) hq2
        have hfo : fo (mvb bf c) bq (b + 1) = ra_fu (ra_fu (fo (mvb bf c) bq b) (c * 4 + b + 1) (fo (mvb bf c) bq b (c * 4 + b + 1) ++ [x])) (c * 4 + b) q := by
          show mvb bf c (fo (mvb bf c) bq b) b = _
          have hmv : ∀ q', mvb bf c q' b = if 0 < bf (c * 4 + b) ∧ bf (c * 4 + b + 1) < 2 then ra_fu (ra_fu q' (c * 4 + b + 1) (q' (c * 4 + b + 1) ++ [(q' (c * 4 + b)).headD 0])) (c * 4 + b) (q' (c * 4 + b)).tail else q' := fun _ => rfl
          rw [hmv, if_pos hm, hq]
          rfl
        obtain ⟨I', i1, i2⟩ := ih (b + 1) I2 (by omega) (by omega) (by rw [hfo]; exact k2) ((f1.tr g3).tr k3)
        refine ⟨I', ?_, i2⟩
        refine go_iload_n d_P_moveOn_13 rfl ?_
        refine go_iload_n d_P_moveOn_14 rfl ?_
        refine go_icmp_ge (tgt := 65) d_P_moveOn_15 (by decide) (fun z => absurd z (nI_ge (by omega) (by omega))) (fun z => ?_)
        refine go_aload_n d_P_moveOn_18 rfl ?_
        refine go_getP (j := 4) d_P_moveOn_19 (Nat.le_of_ble_eq_true rfl) rfl pc_P (Nat.le_of_ble_eq_true rfl) rfl w_119 pt_P_4 ?_
        refine go_iload_n d_P_moveOn_22 rfl ?_
        refine go_ald (c * 4 + b) (nI (bf (c * 4 + b))) d_P_moveOn_23 (Nat.le_of_ble_eq_true rfl) rfl rfl (by omega) (by decide) e1 ?_
        refine go_if_le (tgt := 59) d_P_moveOn_24 (by decide) (fun z => absurd z (nI_ge (a := 0) hm.1 (by omega))) (fun z => ?_)
        refine go_aload_n d_P_moveOn_27 rfl ?_
        refine go_getP (j := 4) d_P_moveOn_28 (Nat.le_of_ble_eq_true rfl) rfl pc_P (Nat.le_of_ble_eq_true rfl) rfl w_119 pt_P_4 ?_
        refine go_iload_n d_P_moveOn_31 rfl ?_
        refine go_iconst (v := 1) d_P_moveOn_32 (by decide) ?_
        refine go_iadd d_P_moveOn_33 ?_
        refine go_ald (c * 4 + b + 1) (nI (bf (c * 4 + b + 1))) d_P_moveOn_34 (Nat.le_of_ble_eq_true rfl) rfl (nI_1 _) (by omega) (by decide) e2 ?_
        refine go_iconst (v := 2) d_P_moveOn_35 (by decide) ?_
        refine go_icmp_ge (tgt := 59) d_P_moveOn_36 (by decide) (fun z => absurd z (nI_ge (b := 2) hm.2 (by decide))) (fun z => ?_)
        refine go_aload_n d_P_moveOn_39 rfl ?_
        refine go_iload_n d_P_moveOn_40 rfl ?_
        refine go_iconst (v := 1) d_P_moveOn_41 (by decide) ?_
        refine go_iadd d_P_moveOn_42 ?_
        refine go_top (nI (c * 4 + b + 1)) (nI_1 _) ?_
        refine go_aload_n d_P_moveOn_43 rfl ?_
        refine go_getP (j := 2) d_P_moveOn_44 (Nat.le_of_ble_eq_true rfl) rfl pc_P (Nat.le_of_ble_eq_true rfl) rfl w_116 pt_P_2 ?_
        refine go_iload_n d_P_moveOn_47 rfl ?_
        refine go_iconst (v := 2) d_P_moveOn_48 (by decide) ?_
        refine go_imul d_P_moveOn_49 ?_
        refine go_ald ((c * 4 + b) * 2) x d_P_moveOn_50 (Nat.le_of_ble_eq_true rfl) rfl (pk_mul _ 2) (by omega) (by decide) ex0 ?_
        refine go_callV (k2 := m_P_put) (As := [.int (nI (c * 4 + b + 1)), .int x]) (r := none) d_P_moveOn_51 ok_P_put (Nat.le_of_ble_eq_true rfl) rfl pc_P rfl vl_P_77 rfl rfl (Nat.le_of_ble_eq_true rfl) (Nat.le_of_ble_eq_true rfl) (Nat.le_of_ble_eq_true rfl) (Nat.le_of_ble_eq_true rfl) rfl rfl g1 ?_
        refine go_aload_n d_P_moveOn_54 rfl ?_
        refine go_iload_n d_P_moveOn_55 rfl ?_
        refine go_callV (k2 := m_P_drop) (As := [.int (nI (c * 4 + b))]) (r := none) d_P_moveOn_56 ok_P_drop (Nat.le_of_ble_eq_true rfl) rfl pc_P rfl vl_P_142 rfl rfl (Nat.le_of_ble_eq_true rfl) (Nat.le_of_ble_eq_true rfl) (Nat.le_of_ble_eq_true rfl) (Nat.le_of_ble_eq_true rfl) rfl rfl k1 ?_
        refine go_iinc (v := nI (c * 4 + (b + 1))) d_P_moveOn_59 rfl (by first | rfl | exact nI_1 _) rfl ?_
        refine go_goto (tgt := 13) d_P_moveOn_62 (by decide) ?_
        exact i1
      · have hfo : fo (mvb bf c) bq (b + 1) = fo (mvb bf c) bq b := by
          show mvb bf c (fo (mvb bf c) bq b) b = _
          unfold mvb
          rw [if_neg hm]
        obtain ⟨I', i1, i2⟩ := ih (b + 1) Ib (by omega) (by omega) (by rw [hfo]; exact cB) f1
        refine ⟨I', ?_, i2⟩
        refine go_iload_n d_P_moveOn_13 rfl ?_
        refine go_iload_n d_P_moveOn_14 rfl ?_
        refine go_icmp_ge (tgt := 65) d_P_moveOn_15 (by decide) (fun z => absurd z (nI_ge (by omega) (by omega))) (fun z => ?_)
        refine go_aload_n d_P_moveOn_18 rfl ?_
        refine go_getP (j := 4) d_P_moveOn_19 (Nat.le_of_ble_eq_true rfl) rfl pc_P (Nat.le_of_ble_eq_true rfl) rfl w_119 pt_P_4 ?_
        refine go_iload_n d_P_moveOn_22 rfl ?_
        refine go_ald (c * 4 + b) (nI (bf (c * 4 + b))) d_P_moveOn_23 (Nat.le_of_ble_eq_true rfl) rfl rfl (by omega) (by decide) e1 ?_
        by_cases h0 : 0 < bf (c * 4 + b)
        · refine go_if_le (tgt := 59) d_P_moveOn_24 (by decide) (fun z => absurd z (nI_ge (a := 0) h0 (by omega))) (fun z => ?_)
          refine go_aload_n d_P_moveOn_27 rfl ?_
          refine go_getP (j := 4) d_P_moveOn_28 (Nat.le_of_ble_eq_true rfl) rfl pc_P (Nat.le_of_ble_eq_true rfl) rfl w_119 pt_P_4 ?_
          refine go_iload_n d_P_moveOn_31 rfl ?_
          refine go_iconst (v := 1) d_P_moveOn_32 (by decide) ?_
          refine go_iadd d_P_moveOn_33 ?_
          refine go_ald (c * 4 + b + 1) (nI (bf (c * 4 + b + 1))) d_P_moveOn_34 (Nat.le_of_ble_eq_true rfl) rfl (nI_1 _) (by omega) (by decide) e2 ?_
          refine go_iconst (v := 2) d_P_moveOn_35 (by decide) ?_
          refine go_icmp_ge (tgt := 59) d_P_moveOn_36 (by decide) (fun z => ?_) (fun z => absurd (nI_le (a := 2) (by omega) (by omega)) z)
          refine go_iinc (v := nI (c * 4 + (b + 1))) d_P_moveOn_59 rfl (by first | rfl | exact nI_1 _) rfl ?_
          refine go_goto (tgt := 13) d_P_moveOn_62 (by decide) ?_
          exact i1
        · refine go_if_le (tgt := 59) d_P_moveOn_24 (by decide) (fun z => ?_) (fun z => absurd (nI_le (b := 0) (by omega) (by decide)) z)
          refine go_iinc (v := nI (c * 4 + (b + 1))) d_P_moveOn_59 rfl (by first | rfl | exact nI_1 _) rfl ?_
          refine go_goto (tgt := 13) d_P_moveOn_62 (by decide) ?_
          exact i1
  obtain ⟨I', i1, i2⟩ := loop e 0 I (by omega) (by omega) hB fr.rf
  refine ⟨I', ?_, i2⟩
  refine go_aload_n d_P_moveOn_0 rfl ?_
  refine go_getP (j := 0) d_P_moveOn_1 (Nat.le_of_ble_eq_true rfl) rfl pc_P (Nat.le_of_ble_eq_true rfl) rfl w_113 pt_P_0 ?_
  refine go_iload_n d_P_moveOn_4 rfl ?_
  refine go_callV (k2 := m_D_lastBuffer) (As := [.int (nI c)]) (r := some (.int (nI (c * 4 + e)))) d_P_moveOn_5 ok_D_lastBuffer (Nat.le_of_ble_eq_true rfl) rfl pc_D rfl vl_P_120 rfl rfl (Nat.le_of_ble_eq_true rfl) (Nat.le_of_ble_eq_true rfl) (Nat.le_of_ble_eq_true rfl) (Nat.le_of_ble_eq_true rfl) rfl rfl (sp_lastBuffer hc hex) ?_
  refine go_istore_n d_P_moveOn_8 (Nat.le_of_ble_eq_true rfl) rfl ?_
  refine go_iload_n d_P_moveOn_9 rfl ?_
  refine go_iconst (v := 4) d_P_moveOn_10 (by decide) ?_
  refine go_imul d_P_moveOn_11 ?_
  refine go_top (nI (c * 4 + 0)) (pk_mul c 4) ?_
  refine go_istore_n d_P_moveOn_12 (Nat.le_of_ble_eq_true rfl) rfl ?_
  exact i1
/-- a block acts: what its branches get -/
def aB (bq : Nat → List Int32) (lk : Nat → Nat) (gf : Nat → Bool) (v : Int32) (n : Nat) : Nat → List Int32 := fo (fun q i => if gf i = true then pGb q (lk i) v else q) bq n
def aG (gv : Nat → List Int64) (T : Int32) (lk : Nat → Nat) (gf : Nat → Bool) (v : Int32) (n : Nat) : Nat → List Int64 := fo (fun q i => if gf i = true then pGg q T (lk i) v else q) gv n
def aT (lk : Nat → Nat) (gf : Nat → Bool) (n : Nat) : Int32 := fo (fun q i => if gf i = true then q ||| pGt (lk i) else q) 0 n
theorem act_loop {bq : Nat → List Int32} {gv : Nat → List Int64} {lk : Nat → Nat} {gf : Nat → Bool} {j n : Nat} {v : Int32} (hj : j < 10) (hB : CB I bq) (hG : CG I J gv) (hn : I 32 j = nI n) (hn2 : n ≤ 24) (hg : I 40 j = bI gf n) (hlk : ∀ i, i < n → I (22 + j) i = nI (lk i) ∧ lk i < 24)
    (h1 : ∀ i, i < n → gf i = true → lk i < 20 → (aB bq lk gf v i (lk i * 4)).length < 2) (h2 : ∀ i, i < n → gf i = true → ¬ lk i < 20 → (aG gv (I 33 1) lk gf v i (lk i - 20)).length < 1000) :
    ∃ I' J', CB I' (aB bq lk gf v n) ∧ CG I' J' (aG gv (I 33 1) lk gf v n) ∧ fr [34, 35, 48] I I' ∧ (∀ c, (c < 50 ∨ 53 < c) → J' c = J c) ∧ ∀ out, pm_Go (d + 2) m_P_act 73 [some (.ref 33), some (.int (nI j)), some (.int (aT lk gf n)), some (.int v), some (.int (nI n))] [] 0 0 (ST I' J') out → pm_Go (d + 2) m_P_act 18 [some (.ref 33), some (.int (nI j)), some (.int 0), some (.int v), some (.int 0)] [] 0 0 (ST I J) out := by
  have loop : ∀ k i (Ii : Nat → Nat → Int32) (Ji : Nat → Nat → Int64), n - i = k → i ≤ n → CB Ii (aB bq lk gf v i) → CG Ii Ji (aG gv (I 33 1) lk gf v i) → fr [34, 35, 48] I Ii → (∀ c, (c < 50 ∨ 53 < c) → Ji c = J c) →
      ∃ I' J', CB I' (aB bq lk gf v n) ∧ CG I' J' (aG gv (I 33 1) lk gf v n) ∧ fr [34, 35, 48] I I' ∧ (∀ c, (c < 50 ∨ 53 < c) → J' c = J c) ∧ ∀ out, pm_Go (d + 2) m_P_act 73 [some (.ref 33), some (.int (nI j)), some (.int (aT lk gf n)), some (.int v), some (.int (nI n))] [] 0 0 (ST I' J') out → pm_Go (d + 2) m_P_act 18 [some (.ref 33), some (.int (nI j)), some (.int (aT lk gf i)), some (.int v), some (.int (nI i))] [] 0 0 (ST Ii Ji) out := by
    intro k
    induction k with
    | zero =>
      intro i Ii Ji hk hi cB cG f1 f2
      have : i = n := by omega
      subst this
      refine ⟨Ii, Ji, cB, cG, f1, f2, fun out ho => ?_⟩
      have e32 : Ii 32 j = nI i := by rw [f1 32 (by decide)]; exact hn
      refine go_iload d_P_act_18 rfl ?_
      refine go_aload_n d_P_act_20 rfl ?_
      refine go_getP (j := 0) d_P_act_21 (Nat.le_of_ble_eq_true rfl) rfl pc_P (Nat.le_of_ble_eq_true rfl) rfl w_113 pt_P_0 ?_
      refine go_getP (j := 14) d_P_act_24 (Nat.le_of_ble_eq_true rfl) rfl pc_D (Nat.le_of_ble_eq_true rfl) rfl w_71 pt_D_14 ?_
      refine go_iload_n d_P_act_27 rfl ?_
      refine go_ald j (nI i) d_P_act_28 (Nat.le_of_ble_eq_true rfl) rfl rfl hj (by decide) e32 ?_
      refine go_icmp_ge (tgt := 73) d_P_act_29 (by decide) (fun z => ?_) (fun z => absurd (nI_le (Nat.le_refl i) (by omega)) z)
      exact ho
    | succ k ih =>
      intro i Ii Ji hk hi cB cG f1 f2
      obtain ⟨l1, l2⟩ := hlk i (by omega)
      have e32 : Ii 32 j = nI n := by rw [f1 32 (by decide)]; exact hn
      have e40 : Ii 40 j = bI gf n := by rw [f1 40 (by decide)]; exact hg
      have e22 : Ii (22 + j) i = nI (lk i) := by rw [f1 (22 + j) (by simp; omega)]; exact l1
      have ebit : bt (bI gf n) i = gf i := by rw [bI_bt gf n (by omega) i (by omega), decide_eq_true (show i < n by omega), Bool.true_and]
      cases hgi : gf i
      · have r1 : aB bq lk gf v (i + 1) = aB bq lk gf v i := by
          show (if gf i = true then _ else _) = _
          rw [if_neg (by simp [hgi])]
          rfl
        have r2 : aG gv (I 33 1) lk gf v (i + 1) = aG gv (I 33 1) lk gf v i := by
          show (if gf i = true then _ else _) = _
          rw [if_neg (by simp [hgi])]
          rfl
        have r3 : aT lk gf (i + 1) = aT lk gf i := by
          show (if gf i = true then _ else _) = _
          rw [if_neg (by simp [hgi])]
          rfl
        obtain ⟨I', J', i1, i2, i3, i4, i5⟩ := ih (i + 1) Ii Ji (by omega) (by omega) (by rw [r1]; exact cB) (by rw [r2]; exact cG) f1 f2
        refine ⟨I', J', i1, i2, i3, i4, fun out ho => ?_⟩
        have i5 := i5 out ho
        rw [r3] at i5
        refine go_iload d_P_act_18 rfl ?_
        refine go_aload_n d_P_act_20 rfl ?_
        refine go_getP (j := 0) d_P_act_21 (Nat.le_of_ble_eq_true rfl) rfl pc_P (Nat.le_of_ble_eq_true rfl) rfl w_113 pt_P_0 ?_
        refine go_getP (j := 14) d_P_act_24 (Nat.le_of_ble_eq_true rfl) rfl pc_D (Nat.le_of_ble_eq_true rfl) rfl w_71 pt_D_14 ?_
        refine go_iload_n d_P_act_27 rfl ?_
        refine go_ald j (nI n) d_P_act_28 (Nat.le_of_ble_eq_true rfl) rfl rfl hj (by decide) e32 ?_
        refine go_icmp_ge (tgt := 73) d_P_act_29 (by decide) (fun z => absurd z (nI_ge (by omega) (by omega))) (fun z => ?_)
        refine go_aload_n d_P_act_32 rfl ?_
        refine go_getP (j := 8) d_P_act_33 (Nat.le_of_ble_eq_true rfl) rfl pc_P (Nat.le_of_ble_eq_true rfl) rfl w_125 pt_P_8 ?_
        refine go_iload_n d_P_act_36 rfl ?_
        refine go_ald j (bI gf n) d_P_act_37 (Nat.le_of_ble_eq_true rfl) rfl rfl hj (by decide) e40 ?_
        refine go_iload d_P_act_38 rfl ?_
        refine go_ishr d_P_act_40 ?_
        refine go_iconst (v := 1) d_P_act_41 (by decide) ?_
        refine go_iand d_P_act_42 ?_
        refine go_top (bb false) (by rw [bs_at _ (by omega), ebit, hgi]) ?_
        refine go_iconst (v := 1) d_P_act_43 (by decide) ?_
        refine go_icmp_ne (tgt := 67) d_P_act_44 (by decide) (fun z => ?_) (fun z => absurd z (by decide))
        refine go_iinc (v := nI (i + 1)) d_P_act_67 rfl (by first | rfl | exact nI_1 _) rfl ?_
        refine go_goto (tgt := 18) d_P_act_70 (by decide) ?_
        exact i5
      · have r1 : aB bq lk gf v (i + 1) = pGb (aB bq lk gf v i) (lk i) v := by
          show (if gf i = true then _ else _) = _
          rw [if_pos hgi]
          rfl
        have e331 : Ii 33 1 = I 33 1 := by rw [f1 33 (by decide)]
        have r2 : aG gv (I 33 1) lk gf v (i + 1) = pGg (aG gv (I 33 1) lk gf v i) (Ii 33 1) (lk i) v := by
          show (if gf i = true then _ else _) = _
          rw [if_pos hgi, e331]
          rfl
        have r3 : aT lk gf (i + 1) = aT lk gf i ||| pGt (lk i) := by
          show (if gf i = true then _ else _) = _
          rw [if_pos hgi]
          rfl
        obtain ⟨I2, J2, g1, g2, g3, g4, g5⟩ := sp_give (d := d) (v := v) cB cG l2 (h1 i (by omega) hgi) (h2 i (by omega) hgi)
        obtain ⟨I', J', i1, i2, i3, i4, i5⟩ := ih (i + 1) I2 J2 (by omega) (by omega) (by rw [r1]; exact g2) (by rw [r2]; exact g3) (f1.tr g4) (fun c hc => by rw [g5 c hc]; exact f2 c hc)
        refine ⟨I', J', i1, i2, i3, i4, fun out ho => ?_⟩
        have i5 := i5 out ho
        rw [r3] at i5
        refine go_iload d_P_act_18 rfl ?_
        refine go_aload_n d_P_act_20 rfl ?_
        refine go_getP (j := 0) d_P_act_21 (Nat.le_of_ble_eq_true rfl) rfl pc_P (Nat.le_of_ble_eq_true rfl) rfl w_113 pt_P_0 ?_
        refine go_getP (j := 14) d_P_act_24 (Nat.le_of_ble_eq_true rfl) rfl pc_D (Nat.le_of_ble_eq_true rfl) rfl w_71 pt_D_14 ?_
        refine go_iload_n d_P_act_27 rfl ?_
        refine go_ald j (nI n) d_P_act_28 (Nat.le_of_ble_eq_true rfl) rfl rfl hj (by decide) e32 ?_
        refine go_icmp_ge (tgt := 73) d_P_act_29 (by decide) (fun z => absurd z (nI_ge (by omega) (by omega))) (fun z => ?_)
        refine go_aload_n d_P_act_32 rfl ?_
        refine go_getP (j := 8) d_P_act_33 (Nat.le_of_ble_eq_true rfl) rfl pc_P (Nat.le_of_ble_eq_true rfl) rfl w_125 pt_P_8 ?_
        refine go_iload_n d_P_act_36 rfl ?_
        refine go_ald j (bI gf n) d_P_act_37 (Nat.le_of_ble_eq_true rfl) rfl rfl hj (by decide) e40 ?_
        refine go_iload d_P_act_38 rfl ?_
        refine go_ishr d_P_act_40 ?_
        refine go_iconst (v := 1) d_P_act_41 (by decide) ?_
        refine go_iand d_P_act_42 ?_
        refine go_top (bb true) (by rw [bs_at _ (by omega), ebit, hgi]) ?_
        refine go_iconst (v := 1) d_P_act_43 (by decide) ?_
        refine go_icmp_ne (tgt := 67) d_P_act_44 (by decide) (fun z => absurd rfl z) (fun z => ?_)
        refine go_iload_n d_P_act_47 rfl ?_
        refine go_aload_n d_P_act_48 rfl ?_
        refine go_aload_n d_P_act_49 rfl ?_
        refine go_getP (j := 0) d_P_act_50 (Nat.le_of_ble_eq_true rfl) rfl pc_P (Nat.le_of_ble_eq_true rfl) rfl w_113 pt_P_0 ?_
        refine go_getP (j := 13) d_P_act_53 (Nat.le_of_ble_eq_true rfl) rfl pc_D (Nat.le_of_ble_eq_true rfl) rfl w_69 pt_D_13 ?_
        refine go_iload_n d_P_act_56 rfl ?_
        refine go_row3 j (22 + j) d_P_act_57 (Nat.le_of_ble_eq_true rfl) rfl rfl hj (by decide) (pt_21 j hj) ?_
        refine go_iload d_P_act_58 rfl ?_
        refine go_ald i (nI (lk i)) d_P_act_60 (show 22 + j < 104 by omega) (sh_22 j hj) rfl (by omega) (by decide) e22 ?_
        refine go_iload_n d_P_act_61 rfl ?_
        refine go_callV (k2 := m_P_give) (As := [.int (nI (lk i)), .int v]) (r := some (.int (pGt (lk i)))) d_P_act_62 ok_P_give (Nat.le_of_ble_eq_true rfl) rfl pc_P rfl vl_P_149 rfl rfl (Nat.le_of_ble_eq_true rfl) (Nat.le_of_ble_eq_true rfl) (Nat.le_of_ble_eq_true rfl) (Nat.le_of_ble_eq_true rfl) rfl rfl g1 ?_
        refine go_ior d_P_act_65 ?_
        refine go_istore_n d_P_act_66 (Nat.le_of_ble_eq_true rfl) rfl ?_
        refine go_iinc (v := nI (i + 1)) d_P_act_67 rfl (by first | rfl | exact nI_1 _) rfl ?_
        refine go_goto (tgt := 18) d_P_act_70 (by decide) ?_
        exact i5
  exact loop n 0 I J (by omega) (by omega) hB hG fr.rf (fun _ _ => rfl)
theorem sp_actN {bq : Nat → List Int32} {gv : Nat → List Int64} {lk : Nat → Nat} {gf gt : Nat → Bool} {j n : Nat} {v : Int32} (hj : j < 10) (hB : CB I bq) (hG : CG I J gv) (hn : I 32 j = nI n) (hn2 : n ≤ 24) (hg : I 40 j = bI gf n) (hgt : I 39 j = bI gt n) (hlk : ∀ i, i < n → I (22 + j) i = nI (lk i) ∧ lk i < 24)
    (h1 : ∀ i, i < n → gf i = true → lk i < 20 → (aB bq lk gf v i (lk i * 4)).length < 2) (h2 : ∀ i, i < n → gf i = true → ¬ lk i < 20 → (aG gv (I 33 1) lk gf v i (lk i - 20)).length < 1000)
    (hmk : pm_Go (d + 2) m_D_makes 0 [some (.ref 1), some (.int (nI j)), some (.ref 37), none, none] [] 0 0 (ST I J) (.inl (some (.int v)), ST I J)) (hall : al (fun i => gt i || gf i) n = false) :
    ∃ I' J', pm_Go (d + 3) m_P_act 0 [some (.ref 33), some (.int (nI j)), none, none, none] [] 0 0 (ST I J) (.inl (some (.int (aT lk gf n))), ST I' J') ∧ CB I' (aB bq lk gf v n) ∧ CG I' J' (aG gv (I 33 1) lk gf v n) ∧ fr [34, 35, 39, 48] I I' ∧ (∀ c, (c < 50 ∨ 53 < c) → J' c = J c) ∧ I' 39 j = bI (fun i => gt i || gf i) n ∧ (∀ q, q ≠ j → I' 39 q = I 39 q) := by
  obtain ⟨I1, J1, a1, a2, a3, a4, a5⟩ := act_loop (d := d + 1) (v := v) hj hB hG hn hn2 hg hlk h1 h2
  have e39 : I1 39 j = bI gt n := by rw [a3 39 (by decide)]; exact hgt
  have e40 : I1 40 j = bI gf n := by rw [a3 40 (by decide)]; exact hg
  have e32 : I1 32 j = nI n := by rw [a3 32 (by decide)]; exact hn
  refine ⟨pm_uI I1 39 j (bI (fun i => gt i || gf i) n), J1, ?_, a1.eqv rfl rfl, a2.fr (L := [39]) (fr.uI (by decide)) (by decide), (a3.up (by decide)).tr (fr.uI (c := 39) (by decide)), a4, uI_eq, fun q hq => by rw [uI_nj hq, a3 39 (by decide)]⟩
  refine go_iconst (v := 0) d_P_act_0 (by decide) ?_
  refine go_istore_n d_P_act_1 (Nat.le_of_ble_eq_true rfl) rfl ?_
  refine go_aload_n d_P_act_2 rfl ?_
  refine go_getP (j := 0) d_P_act_3 (Nat.le_of_ble_eq_true rfl) rfl pc_P (Nat.le_of_ble_eq_true rfl) rfl w_113 pt_P_0 ?_
  refine go_iload_n d_P_act_6 rfl ?_
  refine go_aload_n d_P_act_7 rfl ?_
  refine go_getP (j := 5) d_P_act_8 (Nat.le_of_ble_eq_true rfl) rfl pc_P (Nat.le_of_ble_eq_true rfl) rfl w_120 pt_P_5 ?_
  refine go_callV (k2 := m_D_makes) (As := [.int (nI j), .ref 37]) (r := some (.int v)) d_P_act_11 ok_D_makes (Nat.le_of_ble_eq_true rfl) rfl pc_D rfl vl_P_145 rfl rfl (Nat.le_of_ble_eq_true rfl) (Nat.le_of_ble_eq_true rfl) (Nat.le_of_ble_eq_true rfl) (Nat.le_of_ble_eq_true rfl) rfl rfl hmk ?_
  refine go_istore_n d_P_act_14 (Nat.le_of_ble_eq_true rfl) rfl ?_
  refine go_iconst (v := 0) d_P_act_15 (by decide) ?_
  refine go_istore d_P_act_16 (Nat.le_of_ble_eq_true rfl) rfl ?_
  refine a5 _ ?_
  refine go_aload_n d_P_act_73 rfl ?_
  refine go_getP (j := 7) d_P_act_74 (Nat.le_of_ble_eq_true rfl) rfl pc_P (Nat.le_of_ble_eq_true rfl) rfl w_123 pt_P_7 ?_
  refine go_iload_n d_P_act_77 rfl ?_
  refine go_dup2 d_P_act_78 rfl rfl ?_
  refine go_ald j (bI gt n) d_P_act_79 (Nat.le_of_ble_eq_true rfl) rfl rfl hj (by decide) e39 ?_
  refine go_aload_n d_P_act_80 rfl ?_
  refine go_getP (j := 8) d_P_act_81 (Nat.le_of_ble_eq_true rfl) rfl pc_P (Nat.le_of_ble_eq_true rfl) rfl w_125 pt_P_8 ?_
  refine go_iload_n d_P_act_84 rfl ?_
  refine go_ald j (bI gf n) d_P_act_85 (Nat.le_of_ble_eq_true rfl) rfl rfl hj (by decide) e40 ?_
  refine go_ior d_P_act_86 ?_
  refine go_top (bI (fun i => gt i || gf i) n) (bI_or (by omega)) ?_
  refine go_ast j d_P_act_87 (Nat.le_of_ble_eq_true rfl) rfl rfl hj (by decide) ?_
  refine go_aload_n d_P_act_88 rfl ?_
  refine go_getP (j := 7) d_P_act_89 (Nat.le_of_ble_eq_true rfl) rfl pc_P (Nat.le_of_ble_eq_true rfl) rfl w_123 pt_P_7 ?_
  refine go_iload_n d_P_act_92 rfl ?_
  refine go_ald j (bI (fun i => gt i || gf i) n) d_P_act_93 (Nat.le_of_ble_eq_true rfl) rfl rfl hj (by decide) (uI_eq (I := I1) (c := 39) (j := j)) ?_
  refine go_iconst (v := 1) d_P_act_94 (by decide) ?_
  refine go_aload_n d_P_act_95 rfl ?_
  refine go_getP (j := 0) d_P_act_96 (Nat.le_of_ble_eq_true rfl) rfl pc_P (Nat.le_of_ble_eq_true rfl) rfl w_113 pt_P_0 ?_
  refine go_getP (j := 14) d_P_act_99 (Nat.le_of_ble_eq_true rfl) rfl pc_D (Nat.le_of_ble_eq_true rfl) rfl w_71 pt_D_14 ?_
  refine go_iload_n d_P_act_102 rfl ?_
  refine go_ald j (nI n) d_P_act_103 (Nat.le_of_ble_eq_true rfl) rfl rfl hj (by decide) e32 ?_
  refine go_ishl d_P_act_104 ?_
  refine go_iconst (v := 1) d_P_act_105 (by decide) ?_
  refine go_isub d_P_act_106 ?_
  refine go_top (bI (fun _ => true) n) (bI_full n (by omega)) ?_
  refine go_icmp_ne (tgt := 118) d_P_act_107 (by decide) (fun z => ?_) (fun z => absurd (al_iff.mpr ((bI_eq (by omega)).mp z)) (by rw [hall]; decide))
  refine go_iload_n d_P_act_118 rfl ?_
  exact go_ireturn (st := []) d_P_act_119 rfl (Nat.le_of_ble_eq_true rfl) (Nat.le_of_ble_eq_true rfl) rfl
theorem sp_actE {bq : Nat → List Int32} {gv : Nat → List Int64} {tk : Nat → List Int32} {lk ilk ex : Nat → Nat} {gf gt : Nat → Bool} {j n m t : Nat} {v : Int32} (hj : j < 10) (hB : CB I bq) (hG : CG I J gv) (hT : CT I tk) (hn : I 32 j = nI n) (hn2 : n ≤ 24) (hg : I 40 j = bI gf n) (hgt : I 39 j = bI gt n) (hlk : ∀ i, i < n → I (22 + j) i = nI (lk i) ∧ lk i < 24)
    (h1 : ∀ i, i < n → gf i = true → lk i < 20 → (aB bq lk gf v i (lk i * 4)).length < 2) (h2 : ∀ i, i < n → gf i = true → ¬ lk i < 20 → (aG gv (I 33 1) lk gf v i (lk i - 20)).length < 1000)
    (hmk : pm_Go (d + 2) m_D_makes 0 [some (.ref 1), some (.int (nI j)), some (.ref 37), none, none] [] 0 0 (ST I J) (.inl (some (.int v)), ST I J)) (hall : al (fun i => gt i || gf i) n = true)
    (hm : I 20 j = nI m) (hm2 : m ≤ 24) (ht : I 38 j = nI t) (hilk : ∀ i, i < m → I (10 + j) i = nI (ilk i) ∧ ilk i < 24 ∧ (ilk i < 20 → I 7 (ilk i) = nI (ex (ilk i)) ∧ ex (ilk i) ≤ 3)) (h3 : ∀ i, i < m → ilk i < 20 → eTb (aB bq lk gf v n) ex ilk i (ilk i * 4 + ex (ilk i)) ≠ []) (h4 : ∀ i, i < m → ¬ ilk i < 20 → (eTk tk (I 41) ilk i (ilk i - 20)).length < 1000) :
    ∃ I' J', pm_Go (d + 3) m_P_act 0 [some (.ref 33), some (.int (nI j)), none, none, none] [] 0 0 (ST I J) (.inl (some (.int (aT lk gf n ||| eTt ilk m))), ST I' J') ∧ CB I' (eTb (aB bq lk gf v n) ex ilk m) ∧ CG I' J' (aG gv (I 33 1) lk gf v n) ∧ CT I' (eTk tk (I 41) ilk m) ∧ fr [33, 34, 35, 38, 39, 42, 44, 45, 46, 47, 48] I I' ∧ (∀ c, (c < 50 ∨ 53 < c) → J' c = J c) ∧ I' 39 j = 0 ∧ (∀ q, q ≠ j → I' 39 q = I 39 q) ∧ I' 38 j = nI (t + 1) ∧ (∀ q, q ≠ j → I' 38 q = I 38 q) ∧ I' 33 9 = eTw (I 33 9) ilk m ∧ (∀ q, q ≠ 9 → I' 33 q = I 33 q) := by
  obtain ⟨I1, J1, a1, a2, a3, a4, a5⟩ := act_loop (d := d + 1) (v := v) hj hB hG hn hn2 hg hlk h1 h2
  have e39 : I1 39 j = bI gt n := by rw [a3 39 (by decide)]; exact hgt
  have e40 : I1 40 j = bI gf n := by rw [a3 40 (by decide)]; exact hg
  have e32 : I1 32 j = nI n := by rw [a3 32 (by decide)]; exact hn
  have f2 : fr [34, 35, 39, 48] I (pm_uI I1 39 j (bI (fun i => gt i || gf i) n)) := (a3.up (by decide)).tr (fr.uI (c := 39) (by decide))
  obtain ⟨I2, b1, b2, b3, b4, b5, b6, b7, b8, b9, b10⟩ := sp_endTurn (d := d) (J := J1) (I := pm_uI I1 39 j (bI (fun i => gt i || gf i) n)) (bq := aB bq lk gf v n) (tk := tk) (ex := ex) (lk := ilk) (n := m) (t := t) hj (a1.eqv rfl rfl) (hT.fr f2 (by decide)) (by rw [f2 20 (by decide)]; exact hm) hm2 (by rw [f2 38 (by decide)]; exact ht)
    (fun i hi => by rw [f2 (10 + j) (by simp; omega), f2 7 (by decide)]; exact hilk i hi) h3 (by rw [f2 41 (by decide)]; exact h4)
  refine ⟨I2, J1, ?_, b2, (a2.fr (L := [39]) (fr.uI (by decide)) (by decide)).fr b4 (by decide), by rw [f2 41 (by decide)] at b3; exact b3, (f2.up (by decide)).tr (b4.up (by decide)), a4, b9, fun q hq => by rw [b10 q hq, uI_nj hq, a3 39 (by decide)], b7, fun q hq => by rw [b8 q hq, f2 38 (by decide)], by rw [b5, f2 33 (by decide)], fun q hq => by rw [b6 q hq, f2 33 (by decide)]⟩
  refine go_iconst (v := 0) d_P_act_0 (by decide) ?_
  refine go_istore_n d_P_act_1 (Nat.le_of_ble_eq_true rfl) rfl ?_
  refine go_aload_n d_P_act_2 rfl ?_
  refine go_getP (j := 0) d_P_act_3 (Nat.le_of_ble_eq_true rfl) rfl pc_P (Nat.le_of_ble_eq_true rfl) rfl w_113 pt_P_0 ?_
  refine go_iload_n d_P_act_6 rfl ?_
  refine go_aload_n d_P_act_7 rfl ?_
  refine go_getP (j := 5) d_P_act_8 (Nat.le_of_ble_eq_true rfl) rfl pc_P (Nat.le_of_ble_eq_true rfl) rfl w_120 pt_P_5 ?_
  refine go_callV (k2 := m_D_makes) (As := [.int (nI j), .ref 37]) (r := some (.int v)) d_P_act_11 ok_D_makes (Nat.le_of_ble_eq_true rfl) rfl pc_D rfl vl_P_145 rfl rfl (Nat.le_of_ble_eq_true rfl) (Nat.le_of_ble_eq_true rfl) (Nat.le_of_ble_eq_true rfl) (Nat.le_of_ble_eq_true rfl) rfl rfl hmk ?_
  refine go_istore_n d_P_act_14 (Nat.le_of_ble_eq_true rfl) rfl ?_
  refine go_iconst (v := 0) d_P_act_15 (by decide) ?_
  refine go_istore d_P_act_16 (Nat.le_of_ble_eq_true rfl) rfl ?_
  refine a5 _ ?_
  refine go_aload_n d_P_act_73 rfl ?_
  refine go_getP (j := 7) d_P_act_74 (Nat.le_of_ble_eq_true rfl) rfl pc_P (Nat.le_of_ble_eq_true rfl) rfl w_123 pt_P_7 ?_
  refine go_iload_n d_P_act_77 rfl ?_
  refine go_dup2 d_P_act_78 rfl rfl ?_
  refine go_ald j (bI gt n) d_P_act_79 (Nat.le_of_ble_eq_true rfl) rfl rfl hj (by decide) e39 ?_
  refine go_aload_n d_P_act_80 rfl ?_
  refine go_getP (j := 8) d_P_act_81 (Nat.le_of_ble_eq_true rfl) rfl pc_P (Nat.le_of_ble_eq_true rfl) rfl w_125 pt_P_8 ?_
  refine go_iload_n d_P_act_84 rfl ?_
  refine go_ald j (bI gf n) d_P_act_85 (Nat.le_of_ble_eq_true rfl) rfl rfl hj (by decide) e40 ?_
  refine go_ior d_P_act_86 ?_
  refine go_top (bI (fun i => gt i || gf i) n) (bI_or (by omega)) ?_
  refine go_ast j d_P_act_87 (Nat.le_of_ble_eq_true rfl) rfl rfl hj (by decide) ?_
  refine go_aload_n d_P_act_88 rfl ?_
  refine go_getP (j := 7) d_P_act_89 (Nat.le_of_ble_eq_true rfl) rfl pc_P (Nat.le_of_ble_eq_true rfl) rfl w_123 pt_P_7 ?_
  refine go_iload_n d_P_act_92 rfl ?_
  refine go_ald j (bI (fun i => gt i || gf i) n) d_P_act_93 (Nat.le_of_ble_eq_true rfl) rfl rfl hj (by decide) (uI_eq (I := I1) (c := 39) (j := j)) ?_
  refine go_iconst (v := 1) d_P_act_94 (by decide) ?_
  refine go_aload_n d_P_act_95 rfl ?_
  refine go_getP (j := 0) d_P_act_96 (Nat.le_of_ble_eq_true rfl) rfl pc_P (Nat.le_of_ble_eq_true rfl) rfl w_113 pt_P_0 ?_
  refine go_getP (j := 14) d_P_act_99 (Nat.le_of_ble_eq_true rfl) rfl pc_D (Nat.le_of_ble_eq_true rfl) rfl w_71 pt_D_14 ?_
  refine go_iload_n d_P_act_102 rfl ?_
  refine go_ald j (nI n) d_P_act_103 (Nat.le_of_ble_eq_true rfl) rfl rfl hj (by decide) e32 ?_
  refine go_ishl d_P_act_104 ?_
  refine go_iconst (v := 1) d_P_act_105 (by decide) ?_
  refine go_isub d_P_act_106 ?_
  refine go_top (bI (fun _ => true) n) (bI_full n (by omega)) ?_
  refine go_icmp_ne (tgt := 118) d_P_act_107 (by decide) (fun z => absurd ((bI_eq (by omega)).mpr (al_iff.mp hall)) z) (fun z => ?_)
  refine go_iload_n d_P_act_110 rfl ?_
  refine go_aload_n d_P_act_111 rfl ?_
  refine go_iload_n d_P_act_112 rfl ?_
  refine go_callV (k2 := m_P_endTurn) (As := [.int (nI j)]) (r := some (.int (eTt ilk m))) d_P_act_113 ok_P_endTurn (Nat.le_of_ble_eq_true rfl) rfl pc_P rfl vl_P_152 rfl rfl (Nat.le_of_ble_eq_true rfl) (Nat.le_of_ble_eq_true rfl) (Nat.le_of_ble_eq_true rfl) (Nat.le_of_ble_eq_true rfl) rfl rfl b1 ?_
  refine go_ior d_P_act_116 ?_
  refine go_istore_n d_P_act_117 (Nat.le_of_ble_eq_true rfl) rfl ?_
  refine go_iload_n d_P_act_118 rfl ?_
  exact go_ireturn (st := []) d_P_act_119 rfl (Nat.le_of_ble_eq_true rfl) (Nat.le_of_ble_eq_true rfl) rfl
/-- look: what there is at the beginning of a tick -/
theorem sp_look {nc ni : Nat} {ex : Nat → Nat} (hc : I 1 1 = nI nc) (hc2 : nc ≤ 20) (hi : I 1 2 = nI ni) (hi2 : ni ≤ 4) (hex : ∀ c, c < nc → I 7 c = nI (ex c) ∧ ex c ≤ 3) : ∃ I', pm_Go (d + 2) m_P_look 0 [some (.ref 33), none] [] 0 0 (ST I J) (.inl none, ST I' J) ∧ fr [36, 37] I I' ∧ (∀ b, b < 80 → I' 36 b = I 35 b) ∧ (∀ c, c < nc → I' 37 c = I 34 ((c * 4 + ex c) * 2)) ∧ (∀ p, p < ni → I' 37 (20 + p) = I 41 p) := by
  have loop2 : ∀ k p (Ii : Nat → Nat → Int32), ni - p = k → p ≤ ni → fr [36, 37] I Ii → (∀ b, b < 80 → Ii 36 b = I 35 b) → (∀ c, c < nc → Ii 37 c = I 34 ((c * 4 + ex c) * 2)) → (∀ q, q < p → Ii 37 (20 + q) = I 41 q) →
      ∃ I', pm_Go (d + 2) m_P_look 60 [some (.ref 33), some (.int (nI p))] [] 0 0 (ST Ii J) (.inl none, ST I' J) ∧ fr [36, 37] I I' ∧ (∀ b, b < 80 → I' 36 b = I 35 b) ∧ (∀ c, c < nc → I' 37 c = I 34 ((c * 4 + ex c) * 2)) ∧ (∀ p, p < ni → I' 37 (20 + p) = I 41 p) := by
    intro k
    induction k with
    | zero =>
      intro p Ii hk hp f1 q1 q2 q3
      have : p = ni := by omega
      subst this
      have e12 : Ii 1 2 = nI p := by rw [f1 1 (by decide)]; exact hi
      refine ⟨Ii, ?_, f1, q1, q2, q3⟩
      refine go_iload_n d_P_look_60 rfl ?_
      refine go_aload_n d_P_look_61 rfl ?_
      refine go_getP (j := 0) d_P_look_62 (Nat.le_of_ble_eq_true rfl) rfl pc_P (Nat.le_of_ble_eq_true rfl) rfl w_113 pt_P_0 ?_
      refine go_gI (j := 2) (nI p) d_P_look_65 (Nat.le_of_ble_eq_true rfl) rfl pc_D (Nat.le_of_ble_eq_true rfl) (by decide) w_44 e12 ?_
      refine go_icmp_ge (tgt := 92) d_P_look_68 (by decide) (fun z => ?_) (fun z => absurd (nI_le (Nat.le_refl _) (by omega)) z)
      exact go_vreturn (st := []) d_P_look_92 rfl (Nat.le_of_ble_eq_true rfl) (Nat.le_of_ble_eq_true rfl) rfl
    | succ k ih =>
      intro p Ii hk hp f1 q1 q2 q3
      have e12 : Ii 1 2 = nI ni := by rw [f1 1 (by decide)]; exact hi
      have e41 : Ii 41 p = I 41 p := by rw [f1 41 (by decide)]
      obtain ⟨I', i1, i2⟩ := ih (p + 1) (pm_uI Ii 37 (20 + p) (I 41 p)) (by omega) (by omega) (f1.tr (fr.uI (by decide))) (fun b hb => by rw [uI_ne (by decide)]; exact q1 b hb) (fun c hc => by rw [uI_nj (by omega)]; exact q2 c hc) (fun q hq => by
        by_cases e : q = p
        · rw [e, uI_eq]
        · rw [uI_nj (by omega)]; exact q3 q (by omega))
      refine ⟨I', ?_, i2⟩
      refine go_iload_n d_P_look_60 rfl ?_
      refine go_aload_n d_P_look_61 rfl ?_
      refine go_getP (j := 0) d_P_look_62 (Nat.le_of_ble_eq_true rfl) rfl pc_P (Nat.le_of_ble_eq_true rfl) rfl w_113 pt_P_0 ?_
      refine go_gI (j := 2) (nI ni) d_P_look_65 (Nat.le_of_ble_eq_true rfl) rfl pc_D (Nat.le_of_ble_eq_true rfl) (by decide) w_44 e12 ?_
      refine go_icmp_ge (tgt := 92) d_P_look_68 (by decide) (fun z => absurd z (nI_ge (by omega) (by omega))) (fun z => ?_)
      refine go_aload_n d_P_look_71 rfl ?_
      refine go_getP (j := 5) d_P_look_72 (Nat.le_of_ble_eq_true rfl) rfl pc_P (Nat.le_of_ble_eq_true rfl) rfl w_120 pt_P_5 ?_
      refine go_bipush (v := 20) d_P_look_75 (by decide) ?_
      refine go_iload_n d_P_look_77 rfl ?_
      refine go_iadd d_P_look_78 ?_
      refine go_top (nI (20 + p)) (nI_add 20 p) ?_
      refine go_aload_n d_P_look_79 rfl ?_
      refine go_getP (j := 10) d_P_look_80 (Nat.le_of_ble_eq_true rfl) rfl pc_P (Nat.le_of_ble_eq_true rfl) rfl w_127 pt_P_10 ?_
      refine go_iload_n d_P_look_83 rfl ?_
      refine go_ald p (I 41 p) d_P_look_84 (Nat.le_of_ble_eq_true rfl) rfl rfl (by omega) (by decide) e41 ?_
      refine go_ast (20 + p) d_P_look_85 (Nat.le_of_ble_eq_true rfl) rfl rfl (by omega) (by decide) ?_
      refine go_iinc (v := nI (p + 1)) d_P_look_86 rfl (by first | rfl | exact nI_1 _) rfl ?_
      refine go_goto (tgt := 60) d_P_look_89 (by decide) ?_
      exact i1
  have loop1 : ∀ k c (Ii : Nat → Nat → Int32), nc - c = k → c ≤ nc → fr [36, 37] I Ii → (∀ b, b < 80 → Ii 36 b = I 35 b) → (∀ q, q < c → Ii 37 q = I 34 ((q * 4 + ex q) * 2)) →
      ∃ I', pm_Go (d + 2) m_P_look 20 [some (.ref 33), some (.int (nI c))] [] 0 0 (ST Ii J) (.inl none, ST I' J) ∧ fr [36, 37] I I' ∧ (∀ b, b < 80 → I' 36 b = I 35 b) ∧ (∀ c, c < nc → I' 37 c = I 34 ((c * 4 + ex c) * 2)) ∧ (∀ p, p < ni → I' 37 (20 + p) = I 41 p) := by
    intro k
    induction k with
    | zero =>
      intro c Ii hk hq f1 q1 q2
      have : c = nc := by omega
      subst this
      have e11 : Ii 1 1 = nI c := by rw [f1 1 (by decide)]; exact hc
      obtain ⟨I', i1, i2⟩ := loop2 ni 0 Ii (by omega) (by omega) f1 q1 q2 (fun q hq => by omega)
      refine ⟨I', ?_, i2⟩
      refine go_iload_n d_P_look_20 rfl ?_
      refine go_aload_n d_P_look_21 rfl ?_
      refine go_getP (j := 0) d_P_look_22 (Nat.le_of_ble_eq_true rfl) rfl pc_P (Nat.le_of_ble_eq_true rfl) rfl w_113 pt_P_0 ?_
      refine go_gI (j := 1) (nI c) d_P_look_25 (Nat.le_of_ble_eq_true rfl) rfl pc_D (Nat.le_of_ble_eq_true rfl) (by decide) w_39 e11 ?_
      refine go_icmp_ge (tgt := 58) d_P_look_28 (by decide) (fun z => ?_) (fun z => absurd (nI_le (Nat.le_refl _) (by omega)) z)
      refine go_iconst (v := 0) d_P_look_58 (by decide) ?_
      refine go_istore_n d_P_look_59 (Nat.le_of_ble_eq_true rfl) rfl ?_
      exact i1
    | succ k ih =>
      intro c Ii hk hq f1 q1 q2
      obtain ⟨x1, x2⟩ := hex c (by omega)
      have e11 : Ii 1 1 = nI nc := by rw [f1 1 (by decide)]; exact hc
      have e7 : Ii 7 c = nI (ex c) := by rw [f1 7 (by decide)]; exact x1
      have e34 : Ii 34 ((c * 4 + ex c) * 2) = I 34 ((c * 4 + ex c) * 2) := by rw [f1 34 (by decide)]
      obtain ⟨I', i1, i2⟩ := ih (c + 1) (pm_uI Ii 37 c (I 34 ((c * 4 + ex c) * 2))) (by omega) (by omega) (f1.tr (fr.uI (by decide))) (fun b hb => by rw [uI_ne (by decide)]; exact q1 b hb) (fun q hq => by
        by_cases e : q = c
        · rw [e, uI_eq]
        · rw [uI_nj e]; exact q2 q (by omega))
      refine ⟨I', ?_, i2⟩
      refine go_iload_n d_P_look_20 rfl ?_
      refine go_aload_n d_P_look_21 rfl ?_
      refine go_getP (j := 0) d_P_look_22 (Nat.le_of_ble_eq_true rfl) rfl pc_P (Nat.le_of_ble_eq_true rfl) rfl w_113 pt_P_0 ?_
      refine go_gI (j := 1) (nI nc) d_P_look_25 (Nat.le_of_ble_eq_true rfl) rfl pc_D (Nat.le_of_ble_eq_true rfl) (by decide) w_39 e11 ?_
      refine go_icmp_ge (tgt := 58) d_P_look_28 (by decide) (fun z => absurd z (nI_ge (by omega) (by omega))) (fun z => ?_)
      refine go_aload_n d_P_look_31 rfl ?_
      refine go_getP (j := 5) d_P_look_32 (Nat.le_of_ble_eq_true rfl) rfl pc_P (Nat.le_of_ble_eq_true rfl) rfl w_120 pt_P_5 ?_
      refine go_iload_n d_P_look_35 rfl ?_
      refine go_aload_n d_P_look_36 rfl ?_
      refine go_getP (j := 2) d_P_look_37 (Nat.le_of_ble_eq_true rfl) rfl pc_P (Nat.le_of_ble_eq_true rfl) rfl w_116 pt_P_2 ?_
      refine go_aload_n d_P_look_40 rfl ?_
      refine go_getP (j := 0) d_P_look_41 (Nat.le_of_ble_eq_true rfl) rfl pc_P (Nat.le_of_ble_eq_true rfl) rfl w_113 pt_P_0 ?_
      refine go_iload_n d_P_look_44 rfl ?_
      refine go_callV (k2 := m_D_lastBuffer) (As := [.int (nI c)]) (r := some (.int (nI (c * 4 + ex c)))) d_P_look_45 ok_D_lastBuffer (Nat.le_of_ble_eq_true rfl) rfl pc_D rfl vl_P_120 rfl rfl (Nat.le_of_ble_eq_true rfl) (Nat.le_of_ble_eq_true rfl) (Nat.le_of_ble_eq_true rfl) (Nat.le_of_ble_eq_true rfl) rfl rfl (sp_lastBuffer (by omega) e7) ?_
      refine go_iconst (v := 2) d_P_look_48 (by decide) ?_
      refine go_imul d_P_look_49 ?_
      refine go_ald ((c * 4 + ex c) * 2) (I 34 ((c * 4 + ex c) * 2)) d_P_look_50 (Nat.le_of_ble_eq_true rfl) rfl (pk_mul _ 2) (by omega) (by decide) e34 ?_
      refine go_ast c d_P_look_51 (Nat.le_of_ble_eq_true rfl) rfl rfl (by omega) (by decide) ?_
      refine go_iinc (v := nI (c + 1)) d_P_look_52 rfl (by first | rfl | exact nI_1 _) rfl ?_
      refine go_goto (tgt := 20) d_P_look_55 (by decide) ?_
      exact i1
  obtain ⟨I', i1, i2⟩ := loop1 nc 0 (pm_uA I 36 (va_cpy (I 35) (I 36) 0 0 80)) (by omega) (by omega) (fun c hc => by
      have : c ≠ 36 := fun e => hc (by rw [e]; decide)
      simp [pm_uA, this]) (fun b hb => by
      simp only [pm_uA, if_pos]
      rw [pk_cpy_in (by omega) (by omega)]
      simp) (fun q hq => by omega)
  refine ⟨I', ?_, i2⟩
  refine go_aload_n d_P_look_0 rfl ?_
  refine go_getP (j := 3) d_P_look_1 (Nat.le_of_ble_eq_true rfl) rfl pc_P (Nat.le_of_ble_eq_true rfl) rfl w_117 pt_P_3 ?_
  refine go_iconst (v := 0) d_P_look_4 (by decide) ?_
  refine go_aload_n d_P_look_5 rfl ?_
  refine go_getP (j := 4) d_P_look_6 (Nat.le_of_ble_eq_true rfl) rfl pc_P (Nat.le_of_ble_eq_true rfl) rfl w_119 pt_P_4 ?_
  refine go_iconst (v := 0) d_P_look_9 (by decide) ?_
  refine go_aload_n d_P_look_10 rfl ?_
  refine go_getP (j := 3) d_P_look_11 (Nat.le_of_ble_eq_true rfl) rfl pc_P (Nat.le_of_ble_eq_true rfl) rfl w_117 pt_P_3 ?_
  refine go_alen d_P_look_14 (Nat.le_of_ble_eq_true rfl) rfl ?_
  refine go_copyi (n0 := 80) (n1 := 80) d_P_look_15 w_492 w_494 w_493 w_13 (Nat.le_of_ble_eq_true rfl) (Nat.le_of_ble_eq_true rfl) rfl rfl (by decide) (by decide) (by decide) (by decide) (by decide) (Nat.le_of_ble_eq_true rfl) (by omega) ?_
  refine go_iconst (v := 0) d_P_look_18 (by decide) ?_
  refine go_istore_n d_P_look_19 (Nat.le_of_ble_eq_true rfl) rfl ?_
  exact i1
end S5
