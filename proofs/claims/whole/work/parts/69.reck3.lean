/-! the reference: least walks go on -/
section S65
variable {d : Nat} {I : Nat → Nat → Int32} {J : Nat → Nat → Int64} {E : List ra_A} {N : Nat}
def RL (I : Nat → Nat → Int32) (c N : Nat) (f : Nat → Nat) : Prop := ∀ v, v < N → I c v = nI (f v)
def GN (E : List ra_A) (N : Nat) : Prop := (∀ a, a ∈ E → a.1 < N ∧ a.2.1 < N ∧ a.2.2.1 ≤ 2 ∧ a.2.2.2 ≤ 1) ∧ (E.length ≤ 220) ∧ (N ≤ 100)
theorem GN.a {E : List ra_A} {N : Nat} (h : GN E N) : ∀ a, a ∈ E → a.1 < N ∧ a.2.1 < N ∧ a.2.2.1 ≤ 2 ∧ a.2.2.2 ≤ 1 := h.1
theorem GN.l {E : List ra_A} {N : Nat} (h : GN E N) : E.length ≤ 220 := h.2.1
theorem GN.n {E : List ra_A} {N : Nat} (h : GN E N) : N ≤ 100 := h.2.2
theorem GN.mk {E : List ra_A} {N : Nat} (a_ : ∀ a, a ∈ E → a.1 < N ∧ a.2.1 < N ∧ a.2.2.1 ≤ 2 ∧ a.2.2.2 ≤ 1) (l_ : E.length ≤ 220) (n_ : N ≤ 100) : GN E N := ⟨a_, l_, n_⟩
theorem rb_fr_le {far : Nat} {f : Nat → Nat} {a : ra_A} (h : rb_le far f) : rb_le far (rb_fr f a) := fun v => Nat.le_trans (rb_fr_dec v) (h v)
theorem rb_on_le {far : Nat} {b f : Nat → Nat} {a : ra_A} (h : rb_le far f) : rb_le far (rb_on b f a) := fun v => Nat.le_trans (rb_on_dec v) (h v)
/-- one pass over the arcs without length -/
theorem M_free1 {vt : Int32} {f : Nat → Nat} (rN : RN I E) (hG : GN E N) (hf : rb_le 1000000 f) (rL : RL I 101 N f) (w3 : Option Value) : ∃ I' w3', RL I' 101 N (E.foldl rb_fr f) ∧ fr [101] I I' ∧ ∀ out, pm_Go d m_M_goFree 78 [some (.ref 69), some (.int vt), some (.int (nI E.length)), w3'] [] 0 0 (ST I' J) out → pm_Go d m_M_goFree 9 [some (.ref 69), some (.int vt), some (.int (nI 0)), w3] [] 0 0 (ST I J) out := by
  have hEl := hG.l
  have hN := hG.n
  have loop : ∀ n e (Ii : Nat → Nat → Int32) (w3 : Option Value), E.length - e = n → e ≤ E.length → rb_le 1000000 ((E.take e).foldl rb_fr f) → RL Ii 101 N ((E.take e).foldl rb_fr f) → fr [101] I Ii → ∃ I' w3', RL I' 101 N (E.foldl rb_fr f) ∧ fr [101] I I' ∧ ∀ out, pm_Go d m_M_goFree 78 [some (.ref 69), some (.int vt), some (.int (nI E.length)), w3'] [] 0 0 (ST I' J) out → pm_Go d m_M_goFree 9 [some (.ref 69), some (.int vt), some (.int (nI e)), w3] [] 0 0 (ST Ii J) out := by
    intro n
    induction n with
    | zero =>
      intro e Ii w3 hn he hb q1 f1
      have : e = E.length := by omega
      subst this
      rw [List.take_length] at q1
      have e39 : Ii 69 39 = nI E.length := by rw [f1 69 (by decide)]; exact rN.n
      refine ⟨Ii, w3, q1, f1, fun out ho => ?_⟩
      refine go_iload_n d_M_goFree_9 rfl ?_
      refine go_aload_n d_M_goFree_10 rfl ?_
      refine go_gI (j := 39) (nI E.length) d_M_goFree_11 (Nat.le_of_ble_eq_true rfl) rfl pc_M (Nat.le_of_ble_eq_true rfl) (by decide) w_741 e39 ?_
      refine go_icmp_ge (tgt := 78) d_M_goFree_14 (by decide) (fun z => ?_) (fun z => absurd (nI_le (Nat.le_refl _) (by omega)) z)
      exact ho
    | succ n ih =>
      intro e Ii w3 hn he hb q1 f1
      have he2 : e < E.length := by omega
      obtain ⟨a, ha⟩ : ∃ a, E[e]? = some a := ⟨E[e], List.getElem?_eq_getElem he2⟩
      have hmem : a ∈ E := List.mem_of_getElem? ha
      have efo : (E.take (e + 1)).foldl rb_fr f = rb_fr ((E.take e).foldl rb_fr f) a := by rw [List.take_add_one, ha, List.foldl_append]; rfl
      obtain ⟨g1, g2, g3, g4⟩ := hG.a a hmem
      obtain ⟨c1, c2, c3, c4⟩ := rN.a e a ha
      have e39 : Ii 69 39 = nI E.length := by rw [f1 69 (by decide)]; exact rN.n
      have k1 : Ii 97 e = nI a.1 := by rw [f1 97 (by decide)]; exact c1
      have k2 : Ii 98 e = nI a.2.1 := by rw [f1 98 (by decide)]; exact c2
      have k3 : Ii 99 e = nI a.2.2.1 := by rw [f1 99 (by decide)]; exact c3
      have k4 : Ii 100 e = nI a.2.2.2 := by rw [f1 100 (by decide)]; exact c4
      generalize (E.take e).foldl rb_fr f = S at hb q1 efo
      have d1 := q1 a.1 g1
      have d2 := q1 a.2.1 g2
      have b1 := hb a.1
      have b2 := hb a.2.1
      have pre : ∀ out, pm_Go d m_M_goFree 36 [some (.ref 69), some (.int vt), some (.int (nI e)), some (.int (nI (S a.1 + a.2.2.1)))] [] 0 0 (ST Ii J) out → pm_Go d m_M_goFree 9 [some (.ref 69), some (.int vt), some (.int (nI e)), w3] [] 0 0 (ST Ii J) out := by
        intro out ho
        refine go_iload_n d_M_goFree_9 rfl ?_
        refine go_aload_n d_M_goFree_10 rfl ?_
        refine go_gI (j := 39) (nI E.length) d_M_goFree_11 (Nat.le_of_ble_eq_true rfl) rfl pc_M (Nat.le_of_ble_eq_true rfl) (by decide) w_741 e39 ?_
        refine go_icmp_ge (tgt := 78) d_M_goFree_14 (by decide) (fun z => absurd z (nI_ge (by omega) (by omega))) (fun z => ?_)
        refine go_aload_n d_M_goFree_17 rfl ?_
        refine go_getP (j := 41) d_M_goFree_18 (Nat.le_of_ble_eq_true rfl) rfl pc_M (Nat.le_of_ble_eq_true rfl) rfl w_743 pt_M_41 ?_
        refine go_aload_n d_M_goFree_21 rfl ?_
        refine go_getP (j := 35) d_M_goFree_22 (Nat.le_of_ble_eq_true rfl) rfl pc_M (Nat.le_of_ble_eq_true rfl) rfl w_737 pt_M_35 ?_
        refine go_iload_n d_M_goFree_25 rfl ?_
        refine go_ald e (nI a.1) d_M_goFree_26 (Nat.le_of_ble_eq_true rfl) rfl rfl (by omega) (by decide) k1 ?_
        refine go_ald a.1 (nI (S a.1)) d_M_goFree_27 (Nat.le_of_ble_eq_true rfl) rfl rfl (by omega) (by decide) d1 ?_
        refine go_aload_n d_M_goFree_28 rfl ?_
        refine go_getP (j := 37) d_M_goFree_29 (Nat.le_of_ble_eq_true rfl) rfl pc_M (Nat.le_of_ble_eq_true rfl) rfl w_739 pt_M_37 ?_
        refine go_iload_n d_M_goFree_32 rfl ?_
        refine go_ald e (nI a.2.2.1) d_M_goFree_33 (Nat.le_of_ble_eq_true rfl) rfl rfl (by omega) (by decide) k3 ?_
        refine go_iadd d_M_goFree_34 ?_
        refine go_top (nI (S a.1 + a.2.2.1)) (nI_add _ _) ?_
        refine go_istore_n d_M_goFree_35 (Nat.le_of_ble_eq_true rfl) rfl ?_
        exact ho
      by_cases hc : a.2.2.2 = 0 ∧ S a.1 + a.2.2.1 < S a.2.1
      · have ere : rb_fr S a = ra_fu S a.2.1 (S a.1 + a.2.2.1) := by rw [rb_fr, if_pos hc]
        obtain ⟨I', w3', i1, i2, i3⟩ := ih (e + 1) (pm_uI Ii 101 a.2.1 (nI (S a.1 + a.2.2.1))) (some (.int (nI (S a.1 + a.2.2.1)))) (by omega) (by omega) (by rw [efo]; exact rb_fr_le hb) (by
          rw [efo, ere]
          intro v hv
          unfold ra_fu
          by_cases e6 : v = a.2.1
          · rw [if_pos e6, e6, uI_eq]
          · rw [if_neg e6, uI_nj e6]; exact q1 v hv) (f1.tr (fr.uI (by decide)))
        refine ⟨I', w3', i1, i2, fun out ho => pre out ?_⟩
        have i4 := i3 out ho
        refine go_aload_n d_M_goFree_36 rfl ?_
        refine go_getP (j := 38) d_M_goFree_37 (Nat.le_of_ble_eq_true rfl) rfl pc_M (Nat.le_of_ble_eq_true rfl) rfl w_740 pt_M_38 ?_
        refine go_iload_n d_M_goFree_40 rfl ?_
        refine go_ald e (nI a.2.2.2) d_M_goFree_41 (Nat.le_of_ble_eq_true rfl) rfl rfl (by omega) (by decide) k4 ?_
        refine go_if_ne (tgt := 72) d_M_goFree_42 (by decide) (fun z => absurd (congrArg nI hc.1) z) (fun z => ?_)
        refine go_iload_n d_M_goFree_45 rfl ?_
        refine go_aload_n d_M_goFree_46 rfl ?_
        refine go_getP (j := 41) d_M_goFree_47 (Nat.le_of_ble_eq_true rfl) rfl pc_M (Nat.le_of_ble_eq_true rfl) rfl w_743 pt_M_41 ?_
        refine go_aload_n d_M_goFree_50 rfl ?_
        refine go_getP (j := 36) d_M_goFree_51 (Nat.le_of_ble_eq_true rfl) rfl pc_M (Nat.le_of_ble_eq_true rfl) rfl w_738 pt_M_36 ?_
        refine go_iload_n d_M_goFree_54 rfl ?_
        refine go_ald e (nI a.2.1) d_M_goFree_55 (Nat.le_of_ble_eq_true rfl) rfl rfl (by omega) (by decide) k2 ?_
        refine go_ald a.2.1 (nI (S a.2.1)) d_M_goFree_56 (Nat.le_of_ble_eq_true rfl) rfl rfl (by omega) (by decide) d2 ?_
        refine go_icmp_ge (tgt := 72) d_M_goFree_57 (by decide) (fun z => absurd z (nI_ge hc.2 (by omega))) (fun z => ?_)
        refine go_aload_n d_M_goFree_60 rfl ?_
        refine go_getP (j := 41) d_M_goFree_61 (Nat.le_of_ble_eq_true rfl) rfl pc_M (Nat.le_of_ble_eq_true rfl) rfl w_743 pt_M_41 ?_
        refine go_aload_n d_M_goFree_64 rfl ?_
        refine go_getP (j := 36) d_M_goFree_65 (Nat.le_of_ble_eq_true rfl) rfl pc_M (Nat.le_of_ble_eq_true rfl) rfl w_738 pt_M_36 ?_
        refine go_iload_n d_M_goFree_68 rfl ?_
        refine go_ald e (nI a.2.1) d_M_goFree_69 (Nat.le_of_ble_eq_true rfl) rfl rfl (by omega) (by decide) k2 ?_
        refine go_iload_n d_M_goFree_70 rfl ?_
        refine go_ast a.2.1 d_M_goFree_71 (Nat.le_of_ble_eq_true rfl) rfl rfl (by omega) (by decide) ?_
        refine go_iinc (v := nI (e + 1)) d_M_goFree_72 rfl (by first | rfl | exact nI_1 _) rfl ?_
        refine go_goto (tgt := 9) d_M_goFree_75 (by decide) ?_
        exact i4
      · have ere : rb_fr S a = S := by rw [rb_fr, if_neg hc]
        obtain ⟨I', w3', i1, i2, i3⟩ := ih (e + 1) Ii (some (.int (nI (S a.1 + a.2.2.1)))) (by omega) (by omega) (by rw [efo]; exact rb_fr_le hb) (by rw [efo, ere]; exact q1) f1
        refine ⟨I', w3', i1, i2, fun out ho => pre out ?_⟩
        have i4 := i3 out ho
        refine go_aload_n d_M_goFree_36 rfl ?_
        refine go_getP (j := 38) d_M_goFree_37 (Nat.le_of_ble_eq_true rfl) rfl pc_M (Nat.le_of_ble_eq_true rfl) rfl w_740 pt_M_38 ?_
        refine go_iload_n d_M_goFree_40 rfl ?_
        refine go_ald e (nI a.2.2.2) d_M_goFree_41 (Nat.le_of_ble_eq_true rfl) rfl rfl (by omega) (by decide) k4 ?_
        by_cases h0 : a.2.2.2 = 0
        · refine go_if_ne (tgt := 72) d_M_goFree_42 (by decide) (fun z => absurd (congrArg nI h0) z) (fun z => ?_)
          refine go_iload_n d_M_goFree_45 rfl ?_
          refine go_aload_n d_M_goFree_46 rfl ?_
          refine go_getP (j := 41) d_M_goFree_47 (Nat.le_of_ble_eq_true rfl) rfl pc_M (Nat.le_of_ble_eq_true rfl) rfl w_743 pt_M_41 ?_
          refine go_aload_n d_M_goFree_50 rfl ?_
          refine go_getP (j := 36) d_M_goFree_51 (Nat.le_of_ble_eq_true rfl) rfl pc_M (Nat.le_of_ble_eq_true rfl) rfl w_738 pt_M_36 ?_
          refine go_iload_n d_M_goFree_54 rfl ?_
          refine go_ald e (nI a.2.1) d_M_goFree_55 (Nat.le_of_ble_eq_true rfl) rfl rfl (by omega) (by decide) k2 ?_
          refine go_ald a.2.1 (nI (S a.2.1)) d_M_goFree_56 (Nat.le_of_ble_eq_true rfl) rfl rfl (by omega) (by decide) d2 ?_
          refine go_icmp_ge (tgt := 72) d_M_goFree_57 (by decide) (fun z => ?_) (fun z => absurd (nI_le (Nat.le_of_not_lt (fun y => hc ⟨h0, y⟩)) (by omega)) z)
          refine go_iinc (v := nI (e + 1)) d_M_goFree_72 rfl (by first | rfl | exact nI_1 _) rfl ?_
          refine go_goto (tgt := 9) d_M_goFree_75 (by decide) ?_
          exact i4
        · refine go_if_ne (tgt := 72) d_M_goFree_42 (by decide) (fun z => ?_) (fun z => absurd z (nI_ne0 (by omega) (by omega)))
          refine go_iinc (v := nI (e + 1)) d_M_goFree_72 rfl (by first | rfl | exact nI_1 _) rfl ?_
          refine go_goto (tgt := 9) d_M_goFree_75 (by decide) ?_
          exact i4
  exact loop E.length 0 I w3 (by omega) (by omega) hf rL fr.rf
theorem sp_goFree {f : Nat → Nat} (rN : RN I E) (hG : GN E N) (hf : rb_le 1000000 f) (rL : RL I 101 N f) : ∃ I', pm_Go d m_M_goFree 0 [some (.ref 69), none, none, none] [] 0 0 (ST I J) (.inl none, ST I' J) ∧ RL I' 101 N (rb_free E f) ∧ fr [101] I I' := by
  have hf2 : rb_le 1000000 (E.foldl rb_fr f) := fun v => Nat.le_trans (rb_frs_dec E f v) (hf v)
  obtain ⟨I1, w3, a1, a2, a3⟩ := M_free1 (d := d) (J := J) (vt := nI 0) rN hG hf rL none
  have rN1 : RN I1 E := RN.mk (by rw [a2 69 (by decide)]; exact rN.n) (by rw [a2 97 (by decide), a2 98 (by decide), a2 99 (by decide), a2 100 (by decide)]; exact rN.a)
  obtain ⟨I2, w3', b1, b2, b3⟩ := M_free1 (d := d) (J := J) (vt := nI 1) rN1 hG hf2 a1 w3
  refine ⟨I2, ?_, b1, a2.tr b2⟩
  refine go_iconst (v := 0) d_M_goFree_0 (by decide) ?_
  refine go_istore_n d_M_goFree_1 (Nat.le_of_ble_eq_true rfl) rfl ?_
  refine go_iload_n d_M_goFree_2 rfl ?_
  refine go_iconst (v := 2) d_M_goFree_3 (by decide) ?_
  refine go_icmp_ge (tgt := 84) d_M_goFree_4 (by decide) (fun z => absurd z (by decide)) (fun z => ?_)
  refine go_iconst (v := 0) d_M_goFree_7 (by decide) ?_
  refine go_istore_n d_M_goFree_8 (Nat.le_of_ble_eq_true rfl) rfl ?_
  refine a3 _ ?_
  refine go_iinc (v := nI 1) d_M_goFree_78 rfl (by first | rfl | exact nI_1 _) rfl ?_
  refine go_goto (tgt := 2) d_M_goFree_81 (by decide) ?_
  refine go_iload_n d_M_goFree_2 rfl ?_
  refine go_iconst (v := 2) d_M_goFree_3 (by decide) ?_
  refine go_icmp_ge (tgt := 84) d_M_goFree_4 (by decide) (fun z => absurd z (by decide)) (fun z => ?_)
  refine go_iconst (v := 0) d_M_goFree_7 (by decide) ?_
  refine go_istore_n d_M_goFree_8 (Nat.le_of_ble_eq_true rfl) rfl ?_
  refine b3 _ ?_
  refine go_iinc (v := nI 2) d_M_goFree_78 rfl (by first | rfl | exact nI_1 _) rfl ?_
  refine go_goto (tgt := 2) d_M_goFree_81 (by decide) ?_
  refine go_iload_n d_M_goFree_2 rfl ?_
  refine go_iconst (v := 2) d_M_goFree_3 (by decide) ?_
  refine go_icmp_ge (tgt := 84) d_M_goFree_4 (by decide) (fun z => ?_) (fun z => absurd (by decide) z)
  exact go_vreturn (st := []) d_M_goFree_84 rfl (Nat.le_of_ble_eq_true rfl) (Nat.le_of_ble_eq_true rfl) rfl
theorem sp_goOn {f : Nat → Nat} (rN : RN I E) (hG : GN E N) (h40 : I 69 40 = nI N) (hf : rb_le 1000000 f) (rL : RL I 101 N f) : ∃ I', pm_Go (d + 1) m_M_goOn 0 [some (.ref 69), none, none] [] 0 0 (ST I J) (.inl none, ST I' J) ∧ RL I' 101 N (rb_step E 1000000 f) ∧ fr [101, 102] I I' := by
  have hEl := hG.l
  have hN := hG.n
  have l1 : ∀ n v (Ii : Nat → Nat → Int32), N - v = n → v ≤ N → (∀ u, u < v → Ii 102 u = nI (f u) ∧ Ii 101 u = nI 1000000) → (∀ u, v ≤ u → Ii 101 u = I 101 u) → fr [101, 102] I Ii → ∃ I', (∀ u, u < N → I' 102 u = nI (f u) ∧ I' 101 u = nI 1000000) ∧ fr [101, 102] I I' ∧ ∀ out, pm_Go (d + 1) m_M_goOn 36 [some (.ref 69), some (.int (nI N)), none] [] 0 0 (ST I' J) out → pm_Go (d + 1) m_M_goOn 2 [some (.ref 69), some (.int (nI v)), none] [] 0 0 (ST Ii J) out := by
    intro n
    induction n with
    | zero =>
      intro v Ii hn hv q1 q2 f1
      have : v = N := by omega
      subst this
      have e40 : Ii 69 40 = nI v := by rw [f1 69 (by decide)]; exact h40
      refine ⟨Ii, q1, f1, fun out ho => ?_⟩
      refine go_iload_n d_M_goOn_2 rfl ?_
      refine go_aload_n d_M_goOn_3 rfl ?_
      refine go_gI (j := 40) (nI v) d_M_goOn_4 (Nat.le_of_ble_eq_true rfl) rfl pc_M (Nat.le_of_ble_eq_true rfl) (by decide) w_742 e40 ?_
      refine go_icmp_ge (tgt := 36) d_M_goOn_7 (by decide) (fun z => ?_) (fun z => absurd (nI_le (Nat.le_refl _) (by omega)) z)
      exact ho
    | succ n ih =>
      intro v Ii hn hv q1 q2 f1
      have hv2 : v < N := by omega
      have e40 : Ii 69 40 = nI N := by rw [f1 69 (by decide)]; exact h40
      have e101 : Ii 101 v = nI (f v) := by rw [q2 v (Nat.le_refl _)]; exact rL v hv2
      obtain ⟨I', i1, i2, i3⟩ := ih (v + 1) (pm_uI (pm_uI Ii 102 v (nI (f v))) 101 v (nI 1000000)) (by omega) (by omega) (fun u hu => by
        by_cases e : u = v
        · subst e
          rw [uI_ne (by decide), uI_eq, uI_eq]
          exact ⟨rfl, rfl⟩
        · rw [uI_ne (by decide), uI_nj e, uI_nj e, uI_ne (by decide)]
          exact q1 u (by omega)) (fun u hu => by
        rw [uI_nj (by omega), uI_ne (by decide)]
        exact q2 u (by omega)) ((f1.tr (fr.uI (by decide))).tr (fr.uI (by decide)))
      refine ⟨I', i1, i2, fun out ho => ?_⟩
      have i4 := i3 out ho
      refine go_iload_n d_M_goOn_2 rfl ?_
      refine go_aload_n d_M_goOn_3 rfl ?_
      refine go_gI (j := 40) (nI N) d_M_goOn_4 (Nat.le_of_ble_eq_true rfl) rfl pc_M (Nat.le_of_ble_eq_true rfl) (by decide) w_742 e40 ?_
      refine go_icmp_ge (tgt := 36) d_M_goOn_7 (by decide) (fun z => absurd z (nI_ge (by omega) (by omega))) (fun z => ?_)
      refine go_aload_n d_M_goOn_10 rfl ?_
      refine go_getP (j := 42) d_M_goOn_11 (Nat.le_of_ble_eq_true rfl) rfl pc_M (Nat.le_of_ble_eq_true rfl) rfl w_744 pt_M_42 ?_
      refine go_iload_n d_M_goOn_14 rfl ?_
      refine go_aload_n d_M_goOn_15 rfl ?_
      refine go_getP (j := 41) d_M_goOn_16 (Nat.le_of_ble_eq_true rfl) rfl pc_M (Nat.le_of_ble_eq_true rfl) rfl w_743 pt_M_41 ?_
      refine go_iload_n d_M_goOn_19 rfl ?_
      refine go_ald v (nI (f v)) d_M_goOn_20 (Nat.le_of_ble_eq_true rfl) rfl rfl (by omega) (by decide) e101 ?_
      refine go_ast v d_M_goOn_21 (Nat.le_of_ble_eq_true rfl) rfl rfl (by omega) (by decide) ?_
      refine go_aload_n d_M_goOn_22 rfl ?_
      refine go_getP (j := 41) d_M_goOn_23 (Nat.le_of_ble_eq_true rfl) rfl pc_M (Nat.le_of_ble_eq_true rfl) rfl w_743 pt_M_41 ?_
      refine go_iload_n d_M_goOn_26 rfl ?_
      refine go_ldc (v := 1000000) d_M_goOn_27 w_886 ?_
      refine go_ast v d_M_goOn_29 (Nat.le_of_ble_eq_true rfl) rfl rfl (by omega) (by decide) ?_
      refine go_iinc (v := nI (v + 1)) d_M_goOn_30 rfl (by first | rfl | exact nI_1 _) rfl ?_
      refine go_goto (tgt := 2) d_M_goOn_33 (by decide) ?_
      exact i4
  obtain ⟨I1, a1, a2, a3⟩ := l1 N 0 I (by omega) (by omega) (fun u hu => absurd hu (by omega)) (fun u hu => rfl) fr.rf
  have l2 : ∀ n e (Ii : Nat → Nat → Int32) (w2 : Option Value), E.length - e = n → e ≤ E.length → rb_le 1000000 ((E.take e).foldl (rb_on f) (fun _ => 1000000)) → RL Ii 101 N ((E.take e).foldl (rb_on f) (fun _ => 1000000)) → fr [101] I1 Ii → pm_lt 104 [w2] [] = true → ∃ I', pm_Go (d + 1) m_M_goOn 38 [some (.ref 69), some (.int (nI e)), w2] [] 0 0 (ST Ii J) (.inl none, ST I' J) ∧ RL I' 101 N (rb_step E 1000000 f) ∧ fr [101] I1 I' := by
    intro n
    induction n with
    | zero =>
      intro e Ii w2 hn he hb q1 f1 hw
      have : e = E.length := by omega
      subst this
      rw [List.take_length] at q1 hb
      have e39 : Ii 69 39 = nI E.length := by rw [f1 69 (by decide), a2 69 (by decide)]; exact rN.n
      have rNi : RN Ii E := RN.mk e39 (by rw [f1 97 (by decide), f1 98 (by decide), f1 99 (by decide), f1 100 (by decide), a2 97 (by decide), a2 98 (by decide), a2 99 (by decide), a2 100 (by decide)]; exact rN.a)
      obtain ⟨I', b1, b2, b3⟩ := sp_goFree (d := d) (J := J) rNi hG hb q1
      refine ⟨I', ?_, b2, f1.tr b3⟩
      refine go_iload_n d_M_goOn_38 rfl ?_
      refine go_aload_n d_M_goOn_39 rfl ?_
      refine go_gI (j := 39) (nI E.length) d_M_goOn_40 (Nat.le_of_ble_eq_true rfl) rfl pc_M (Nat.le_of_ble_eq_true rfl) (by decide) w_741 e39 ?_
      refine go_icmp_ge (tgt := 108) d_M_goOn_43 (by decide) (fun z => ?_) (fun z => absurd (nI_le (Nat.le_refl _) (by omega)) z)
      refine go_aload_n d_M_goOn_108 rfl ?_
      refine go_callV (k2 := m_M_goFree) (As := []) (r := none)  d_M_goOn_109 ok_M_goFree (Nat.le_of_ble_eq_true rfl) rfl pc_M rfl vl_M_210 rfl rfl (Nat.le_of_ble_eq_true rfl) (Nat.le_of_ble_eq_true rfl) (Nat.le_of_ble_eq_true rfl) (Nat.le_of_ble_eq_true rfl) (by cases w2 <;> simp_all [pm_lt, pm_ltV]) rfl b1 ?_
      exact go_vreturn (st := []) d_M_goOn_112 rfl (Nat.le_of_ble_eq_true rfl) (Nat.le_of_ble_eq_true rfl) rfl
    | succ n ih =>
      intro e Ii w2 hn he hb q1 f1 hw
      have he2 : e < E.length := by omega
      obtain ⟨a, ha⟩ : ∃ a, E[e]? = some a := ⟨E[e], List.getElem?_eq_getElem he2⟩
      have hmem : a ∈ E := List.mem_of_getElem? ha
      have efo : (E.take (e + 1)).foldl (rb_on f) (fun _ => 1000000) = rb_on f ((E.take e).foldl (rb_on f) (fun _ => 1000000)) a := by rw [List.take_add_one, ha, List.foldl_append]; rfl
      obtain ⟨g1, g2, g3, g4⟩ := hG.a a hmem
      obtain ⟨c1, c2, c3, c4⟩ := rN.a e a ha
      have e39 : Ii 69 39 = nI E.length := by rw [f1 69 (by decide), a2 69 (by decide)]; exact rN.n
      have k1 : Ii 97 e = nI a.1 := by rw [f1 97 (by decide), a2 97 (by decide)]; exact c1
      have k2 : Ii 98 e = nI a.2.1 := by rw [f1 98 (by decide), a2 98 (by decide)]; exact c2
      have k3 : Ii 99 e = nI a.2.2.1 := by rw [f1 99 (by decide), a2 99 (by decide)]; exact c3
      have k4 : Ii 100 e = nI a.2.2.2 := by rw [f1 100 (by decide), a2 100 (by decide)]; exact c4
      have d1 : Ii 102 a.1 = nI (f a.1) := by rw [f1 102 (by decide)]; exact (a1 a.1 g1).1
      generalize (E.take e).foldl (rb_on f) (fun _ => 1000000) = S at hb q1 efo
      have d2 := q1 a.2.1 g2
      have b1 := hf a.1
      have b2 := hb a.2.1
      have pre : ∀ out, pm_Go (d + 1) m_M_goOn 65 [some (.ref 69), some (.int (nI e)), some (.int (nI (f a.1 + a.2.2.1)))] [] 0 0 (ST Ii J) out → pm_Go (d + 1) m_M_goOn 38 [some (.ref 69), some (.int (nI e)), w2] [] 0 0 (ST Ii J) out := by
        intro out ho
        refine go_iload_n d_M_goOn_38 rfl ?_
        refine go_aload_n d_M_goOn_39 rfl ?_
        refine go_gI (j := 39) (nI E.length) d_M_goOn_40 (Nat.le_of_ble_eq_true rfl) rfl pc_M (Nat.le_of_ble_eq_true rfl) (by decide) w_741 e39 ?_
        refine go_icmp_ge (tgt := 108) d_M_goOn_43 (by decide) (fun z => absurd z (nI_ge (by omega) (by omega))) (fun z => ?_)
        refine go_aload_n d_M_goOn_46 rfl ?_
        refine go_getP (j := 42) d_M_goOn_47 (Nat.le_of_ble_eq_true rfl) rfl pc_M (Nat.le_of_ble_eq_true rfl) rfl w_744 pt_M_42 ?_
        refine go_aload_n d_M_goOn_50 rfl ?_
        refine go_getP (j := 35) d_M_goOn_51 (Nat.le_of_ble_eq_true rfl) rfl pc_M (Nat.le_of_ble_eq_true rfl) rfl w_737 pt_M_35 ?_
        refine go_iload_n d_M_goOn_54 rfl ?_
        refine go_ald e (nI a.1) d_M_goOn_55 (Nat.le_of_ble_eq_true rfl) rfl rfl (by omega) (by decide) k1 ?_
        refine go_ald a.1 (nI (f a.1)) d_M_goOn_56 (Nat.le_of_ble_eq_true rfl) rfl rfl (by omega) (by decide) d1 ?_
        refine go_aload_n d_M_goOn_57 rfl ?_
        refine go_getP (j := 37) d_M_goOn_58 (Nat.le_of_ble_eq_true rfl) rfl pc_M (Nat.le_of_ble_eq_true rfl) rfl w_739 pt_M_37 ?_
        refine go_iload_n d_M_goOn_61 rfl ?_
        refine go_ald e (nI a.2.2.1) d_M_goOn_62 (Nat.le_of_ble_eq_true rfl) rfl rfl (by omega) (by decide) k3 ?_
        refine go_iadd d_M_goOn_63 ?_
        refine go_top (nI (f a.1 + a.2.2.1)) (nI_add _ _) ?_
        refine go_istore_n d_M_goOn_64 (Nat.le_of_ble_eq_true rfl) rfl ?_
        exact ho
      by_cases hc : a.2.2.2 = 1 ∧ f a.1 + a.2.2.1 < S a.2.1
      · have ere : rb_on f S a = ra_fu S a.2.1 (f a.1 + a.2.2.1) := by rw [rb_on, if_pos hc]
        obtain ⟨I', i1, i2⟩ := ih (e + 1) (pm_uI Ii 101 a.2.1 (nI (f a.1 + a.2.2.1))) (some (.int (nI (f a.1 + a.2.2.1)))) (by omega) (by omega) (by rw [efo]; exact rb_on_le hb) (by
          rw [efo, ere]
          intro v hv
          unfold ra_fu
          by_cases e6 : v = a.2.1
          · rw [if_pos e6, e6, uI_eq]
          · rw [if_neg e6, uI_nj e6]; exact q1 v hv) (f1.tr (fr.uI (by decide))) rfl
        refine ⟨I', pre _ ?_, i2⟩
        refine go_aload_n d_M_goOn_65 rfl ?_
        refine go_getP (j := 38) d_M_goOn_66 (Nat.le_of_ble_eq_true rfl) rfl pc_M (Nat.le_of_ble_eq_true rfl) rfl w_740 pt_M_38 ?_
        refine go_iload_n d_M_goOn_69 rfl ?_
        refine go_ald e (nI a.2.2.2) d_M_goOn_70 (Nat.le_of_ble_eq_true rfl) rfl rfl (by omega) (by decide) k4 ?_
        refine go_iconst (v := 1) d_M_goOn_71 (by decide) ?_
        refine go_icmp_ne (tgt := 102) d_M_goOn_72 (by decide) (fun z => absurd (congrArg nI hc.1) z) (fun z => ?_)
        refine go_iload_n d_M_goOn_75 rfl ?_
        refine go_aload_n d_M_goOn_76 rfl ?_
        refine go_getP (j := 41) d_M_goOn_77 (Nat.le_of_ble_eq_true rfl) rfl pc_M (Nat.le_of_ble_eq_true rfl) rfl w_743 pt_M_41 ?_
        refine go_aload_n d_M_goOn_80 rfl ?_
        refine go_getP (j := 36) d_M_goOn_81 (Nat.le_of_ble_eq_true rfl) rfl pc_M (Nat.le_of_ble_eq_true rfl) rfl w_738 pt_M_36 ?_
        refine go_iload_n d_M_goOn_84 rfl ?_
        refine go_ald e (nI a.2.1) d_M_goOn_85 (Nat.le_of_ble_eq_true rfl) rfl rfl (by omega) (by decide) k2 ?_
        refine go_ald a.2.1 (nI (S a.2.1)) d_M_goOn_86 (Nat.le_of_ble_eq_true rfl) rfl rfl (by omega) (by decide) d2 ?_
        refine go_icmp_ge (tgt := 102) d_M_goOn_87 (by decide) (fun z => absurd z (nI_ge hc.2 (by omega))) (fun z => ?_)
        refine go_aload_n d_M_goOn_90 rfl ?_
        refine go_getP (j := 41) d_M_goOn_91 (Nat.le_of_ble_eq_true rfl) rfl pc_M (Nat.le_of_ble_eq_true rfl) rfl w_743 pt_M_41 ?_
        refine go_aload_n d_M_goOn_94 rfl ?_
        refine go_getP (j := 36) d_M_goOn_95 (Nat.le_of_ble_eq_true rfl) rfl pc_M (Nat.le_of_ble_eq_true rfl) rfl w_738 pt_M_36 ?_
        refine go_iload_n d_M_goOn_98 rfl ?_
        refine go_ald e (nI a.2.1) d_M_goOn_99 (Nat.le_of_ble_eq_true rfl) rfl rfl (by omega) (by decide) k2 ?_
        refine go_iload_n d_M_goOn_100 rfl ?_
        refine go_ast a.2.1 d_M_goOn_101 (Nat.le_of_ble_eq_true rfl) rfl rfl (by omega) (by decide) ?_
        refine go_iinc (v := nI (e + 1)) d_M_goOn_102 rfl (by first | rfl | exact nI_1 _) rfl ?_
        refine go_goto (tgt := 38) d_M_goOn_105 (by decide) ?_
        exact i1
      · have ere : rb_on f S a = S := by rw [rb_on, if_neg hc]
        obtain ⟨I', i1, i2⟩ := ih (e + 1) Ii (some (.int (nI (f a.1 + a.2.2.1)))) (by omega) (by omega) (by rw [efo]; exact rb_on_le hb) (by rw [efo, ere]; exact q1) f1 rfl
        refine ⟨I', pre _ ?_, i2⟩
        refine go_aload_n d_M_goOn_65 rfl ?_
        refine go_getP (j := 38) d_M_goOn_66 (Nat.le_of_ble_eq_true rfl) rfl pc_M (Nat.le_of_ble_eq_true rfl) rfl w_740 pt_M_38 ?_
        refine go_iload_n d_M_goOn_69 rfl ?_
        refine go_ald e (nI a.2.2.2) d_M_goOn_70 (Nat.le_of_ble_eq_true rfl) rfl rfl (by omega) (by decide) k4 ?_
        refine go_iconst (v := 1) d_M_goOn_71 (by decide) ?_
        by_cases h0 : a.2.2.2 = 1
        · refine go_icmp_ne (tgt := 102) d_M_goOn_72 (by decide) (fun z => absurd (congrArg nI h0) z) (fun z => ?_)
          refine go_iload_n d_M_goOn_75 rfl ?_
          refine go_aload_n d_M_goOn_76 rfl ?_
          refine go_getP (j := 41) d_M_goOn_77 (Nat.le_of_ble_eq_true rfl) rfl pc_M (Nat.le_of_ble_eq_true rfl) rfl w_743 pt_M_41 ?_
          refine go_aload_n d_M_goOn_80 rfl ?_
          refine go_getP (j := 36) d_M_goOn_81 (Nat.le_of_ble_eq_true rfl) rfl pc_M (Nat.le_of_ble_eq_true rfl) rfl w_738 pt_M_36 ?_
          refine go_iload_n d_M_goOn_84 rfl ?_
          refine go_ald e (nI a.2.1) d_M_goOn_85 (Nat.le_of_ble_eq_true rfl) rfl rfl (by omega) (by decide) k2 ?_
          refine go_ald a.2.1 (nI (S a.2.1)) d_M_goOn_86 (Nat.le_of_ble_eq_true rfl) rfl rfl (by omega) (by decide) d2 ?_
          refine go_icmp_ge (tgt := 102) d_M_goOn_87 (by decide) (fun z => ?_) (fun z => absurd (nI_le (Nat.le_of_not_lt (fun y => hc ⟨h0, y⟩)) (by omega)) z)
          refine go_iinc (v := nI (e + 1)) d_M_goOn_102 rfl (by first | rfl | exact nI_1 _) rfl ?_
          refine go_goto (tgt := 38) d_M_goOn_105 (by decide) ?_
          exact i1
        · refine go_icmp_ne (tgt := 102) d_M_goOn_72 (by decide) (fun z => ?_) (fun z => absurd z (nI_neq (b := 1) (by omega) (by decide) h0))
          refine go_iinc (v := nI (e + 1)) d_M_goOn_102 rfl (by first | rfl | exact nI_1 _) rfl ?_
          refine go_goto (tgt := 38) d_M_goOn_105 (by decide) ?_
          exact i1
  obtain ⟨I', i1, i2, i3⟩ := l2 E.length 0 I1 none (by omega) (by omega) (by rw [List.take_zero]; exact fun _ => Nat.le_refl _) (by rw [List.take_zero]; exact fun v hv => (a1 v hv).2) fr.rf rfl
  refine ⟨I', ?_, i2, a2.tr (i3.up (by decide))⟩
  refine go_iconst (v := 0) d_M_goOn_0 (by decide) ?_
  refine go_istore_n d_M_goOn_1 (Nat.le_of_ble_eq_true rfl) rfl ?_
  refine a3 _ ?_
  refine go_iconst (v := 0) d_M_goOn_36 (by decide) ?_
  refine go_istore_n d_M_goOn_37 (Nat.le_of_ble_eq_true rfl) rfl ?_
  exact i1
theorem sp_M_divisor {a b : Nat} (ha : a < 2 ^ 30) (hb : b < 2 ^ 30) : pm_Go d m_M_divisor 0 [some (.int (nI a)), some (.int (nI b)), none, none, none] [] 0 0 (ST I J) (.inl (some (.int (nI (Nat.gcd a b)))), ST I J) := by
  have loop : ∀ y x (w4 : Option Value), x < 2 ^ 30 → y < 2 ^ 30 → Nat.gcd x y = Nat.gcd a b → pm_Go d m_M_divisor 4 [some (.int (nI a)), some (.int (nI b)), some (.int (nI x)), some (.int (nI y)), w4] [] 0 0 (ST I J) (.inl (some (.int (nI (Nat.gcd a b)))), ST I J) := by
    intro y
    induction y using Nat.strongRecOn with
    | ind y ih =>
      intro x w4 hx hy hg
      refine go_iload_n d_M_divisor_4 rfl ?_
      by_cases h0 : y = 0
      · rw [h0, Nat.gcd_zero_right] at hg
        rw [hg]
        refine go_if_le (tgt := 21) d_M_divisor_5 (by decide) (fun z => ?_) (fun z => absurd (nI_le (b := 0) (by omega) (by decide)) z)
        refine go_iload_n d_M_divisor_21 rfl ?_
        exact go_ireturn (st := []) d_M_divisor_22 rfl (Nat.le_of_ble_eq_true rfl) (Nat.le_of_ble_eq_true rfl) rfl
      · have hlt := Nat.mod_lt x (show y > 0 by omega)
        have i1 := ih (x % y) hlt y (some (.int (nI (x % y)))) hy (by omega) (by rw [← hg, Nat.gcd_comm y, ← Nat.gcd_rec, Nat.gcd_comm])
        refine go_if_le (tgt := 21) d_M_divisor_5 (by decide) (fun z => absurd z (nI_nle (by omega) (by omega))) (fun z => ?_)
        refine go_iload_n d_M_divisor_8 rfl ?_
        refine go_iload_n d_M_divisor_9 rfl ?_
        refine go_irem d_M_divisor_10 (nI_ne0 (by omega) (by omega)) ?_
        refine go_top (nI (x % y)) (pk_rem (by omega) (by omega) (by omega)) ?_
        refine go_istore d_M_divisor_11 (Nat.le_of_ble_eq_true rfl) rfl ?_
        refine go_iload_n d_M_divisor_13 rfl ?_
        refine go_istore_n d_M_divisor_14 (Nat.le_of_ble_eq_true rfl) rfl ?_
        refine go_iload d_M_divisor_15 rfl ?_
        refine go_istore_n d_M_divisor_17 (Nat.le_of_ble_eq_true rfl) rfl ?_
        refine go_goto (tgt := 4) d_M_divisor_18 (by decide) ?_
        exact i1
  refine go_iload_n d_M_divisor_0 rfl ?_
  refine go_istore_n d_M_divisor_1 (Nat.le_of_ble_eq_true rfl) rfl ?_
  refine go_iload_n d_M_divisor_2 rfl ?_
  refine go_istore_n d_M_divisor_3 (Nat.le_of_ble_eq_true rfl) rfl ?_
  exact loop b a none ha hb rfl
end S65
