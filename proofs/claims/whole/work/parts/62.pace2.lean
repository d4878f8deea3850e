/-! the pace: the graph as it is drawn -/
def RG (I : Nat → Nat → Int32) (G : List ra_A) : Prop := (I 62 5 = nI G.length) ∧ (∀ n a, G[n]? = some a → I 63 n = nI a.1 ∧ I 64 n = nI a.2.1 ∧ I 65 n = nI a.2.2.1 ∧ I 66 n = nI a.2.2.2)
theorem RG.n {I : Nat → Nat → Int32} {G : List ra_A} (h : RG I G) : I 62 5 = nI G.length := h.1
theorem RG.a {I : Nat → Nat → Int32} {G : List ra_A} (h : RG I G) : ∀ n a, G[n]? = some a → I 63 n = nI a.1 ∧ I 64 n = nI a.2.1 ∧ I 65 n = nI a.2.2.1 ∧ I 66 n = nI a.2.2.2 := h.2
theorem RG.mk {I : Nat → Nat → Int32} {G : List ra_A} (n_ : I 62 5 = nI G.length) (a_ : ∀ n a, G[n]? = some a → I 63 n = nI a.1 ∧ I 64 n = nI a.2.1 ∧ I 65 n = nI a.2.2.1 ∧ I 66 n = nI a.2.2.2) : RG I G := ⟨n_, a_⟩
def gB1 (b : Nat) : List ra_A := [(b, 10 + b, 0, 0), (10 + b, b, 1, 1)]
def gC1 (D : DZ) (c b : Nat) : List ra_A := [(20 + c * 4 + b, (if b < D.ex c then 20 + c * 4 + b + 1 else D.to c), (if b = 0 then 1 else 0), 1), ((if b < D.ex c then 20 + c * 4 + b + 1 else 10 + D.to c), 20 + c * 4 + b, 2 - (if b = 0 then 1 else 0), 1)]
def gC (D : DZ) (c b : Nat) : List ra_A := [(D.fm c, 20 + c * 4, 0, 0), (20 + c * 4, 10 + D.fm c, 0, 0)] ++ (List.range b).flatMap (gC1 D c)
def gE (D : DZ) (n m : Nat) : List ra_A := (List.range n).flatMap gB1 ++ (List.range m).flatMap (fun c => gC D c (D.ex c + 1))
theorem gB_s (n : Nat) : (List.range (n + 1)).flatMap gB1 = (List.range n).flatMap gB1 ++ gB1 n := by
  rw [List.range_succ, List.flatMap_append, List.flatMap_singleton]
theorem gC_s (D : DZ) (c b : Nat) : gC D c (b + 1) = gC D c b ++ gC1 D c b := by
  unfold gC
  rw [List.range_succ, List.flatMap_append, List.flatMap_singleton, List.append_assoc]
theorem gE_s (D : DZ) (n m : Nat) : gE D n (m + 1) = gE D n m ++ gC D m (D.ex m + 1) := by
  unfold gE
  rw [List.range_succ, List.flatMap_append, List.flatMap_singleton, List.append_assoc]
theorem gB_l : ∀ n, ((List.range n).flatMap gB1).length = 2 * n
  | 0 => rfl
  | n + 1 => by
    rw [gB_s, List.length_append, gB_l n]
    show 2 * n + 2 = _
    omega
theorem gC_l (D : DZ) (c : Nat) : ∀ b, (gC D c b).length = 2 + 2 * b
  | 0 => rfl
  | b + 1 => by
    rw [gC_s, List.length_append, gC_l D c b]
    show 2 + 2 * b + 2 = _
    omega
theorem gE_l {D : DZ} (hD : DW D) (n : Nat) : ∀ m, m ≤ D.nc → (gE D n m).length ≤ 2 * n + 10 * m
  | 0, _ => by
    show ((List.range n).flatMap gB1 ++ []).length ≤ _
    rw [List.append_nil, gB_l]
    omega
  | m + 1, h => by
    have h1 := gE_l hD n m (by omega)
    have h2 := (hD.ch m (by omega)).2.2
    rw [gE_s, List.length_append, gC_l]
    omega
section S60
variable {d : Nat} {I : Nat → Nat → Int32} {J : Nat → Nat → Int64} {D : DZ} {G : List ra_A}
/-- one more arc -/
theorem RG_add {x : ra_A} (rG : RG I G) : RG (pm_uI (pm_uI (pm_uI (pm_uI (pm_uI I 63 G.length (nI x.1)) 64 G.length (nI x.2.1)) 65 G.length (nI x.2.2.1)) 66 G.length (nI x.2.2.2)) 62 5 (nI (G.length + 1))) (G ++ [x]) := by
  have at1 : ∀ c j, pm_uI (pm_uI (pm_uI (pm_uI (pm_uI I 63 G.length (nI x.1)) 64 G.length (nI x.2.1)) 65 G.length (nI x.2.2.1)) 66 G.length (nI x.2.2.2)) 62 5 (nI (G.length + 1)) c j = if c = 62 ∧ j = 5 then nI (G.length + 1) else if c = 66 ∧ j = G.length then nI x.2.2.2 else if c = 65 ∧ j = G.length then nI x.2.2.1 else if c = 64 ∧ j = G.length then nI x.2.1 else if c = 63 ∧ j = G.length then nI x.1 else I c j := by
    intro c j
    simp only [uI_at]
  refine RG.mk ?_ (fun n a h => ?_)
  · rw [at1, if_pos ⟨rfl, rfl⟩, List.length_append]
    rfl
  · rw [at1, at1, at1, at1]
    by_cases e : n = G.length
    · subst e
      rw [List.getElem?_append_right (Nat.le_refl _), Nat.sub_self] at h
      have h2 : x = a := Option.some.inj h
      subst h2
      simp
    · have hn : n < G.length := by
        have := (List.getElem?_eq_some_iff.mp h).1
        rw [List.length_append] at this
        have h3 : [x].length = 1 := rfl
        omega
      rw [List.getElem?_append_left hn] at h
      have := rG.a n a h
      rw [if_neg (by omega), if_neg (by omega), if_neg (by omega), if_neg (by omega), if_neg (by omega), if_neg (by omega), if_neg (by omega), if_neg (by omega), if_neg (by omega), if_neg (by omega), if_neg (by omega), if_neg (by omega), if_neg (by omega), if_neg (by omega), if_neg (by omega), if_neg (by omega), if_neg (by omega), if_neg (by omega), if_neg (by omega), if_neg (by omega)]
      exact this
/-- the way an arc is added, for the rows behind -/
theorem sp_addA {a b t l : Nat} (rG : RG I G) (h : G.length < 220) : ∃ I', pm_Go d m_A_addArc 0 [some (.ref 62), some (.int (nI a)), some (.int (nI b)), some (.int (nI t)), some (.int (nI l))] [] 0 0 (ST I J) (.inl none, ST I' J) ∧ RG I' (G ++ [(a, b, t, l)]) ∧ (∀ q, q ≠ 5 → I' 62 q = I 62 q) ∧ fr [62, 63, 64, 65, 66] I I' := by
  refine ⟨_, sp_addArc rG.n h, RG_add (x := (a, b, t, l)) rG, fun q hq => ?_, ((((fr.uI (by decide)).tr (fr.uI (by decide))).tr (fr.uI (by decide))).tr (fr.uI (by decide))).tr (fr.uI (by decide))⟩
  rw [uI_nj hq, uI_ne (by decide), uI_ne (by decide), uI_ne (by decide), uI_ne (by decide)]
theorem sp_drawChannel {c : Nat} (hD : DW D) (rD : RD I D) (hc : c < D.nc) (rG : RG I G) (hG : G.length ≤ 210) : ∃ I', pm_Go (d + 1) m_A_drawChannel 0 [some (.ref 62), some (.int (nI c)), none, none, none, none, none, none] [] 0 0 (ST I J) (.inl none, ST I' J) ∧ RG I' (G ++ gC D c (D.ex c + 1)) ∧ (∀ q, q ≠ 5 → I' 62 q = I 62 q) ∧ fr [62, 63, 64, 65, 66] I I' := by
  have h20 := hD.nc
  have h10 := hD.nb
  obtain ⟨hf, ht, hx⟩ := hD.ch c hc
  have loop : ∀ n b (Ii : Nat → Nat → Int32) (w5 w6 w7 : Option Value), D.ex c + 1 - b = n → b ≤ D.ex c + 1 → RG Ii (G ++ gC D c b) → (∀ q, q ≠ 5 → Ii 62 q = I 62 q) → fr [62, 63, 64, 65, 66] I Ii → (pm_lt 104 [w5, w6, w7] [] = true) → ∃ I', pm_Go (d + 1) m_A_drawChannel 55 [some (.ref 62), some (.int (nI c)), some (.int (nI (20 + c * 4))), some (.int (nI (D.ex c))), some (.int (nI b)), w5, w6, w7] [] 0 0 (ST Ii J) (.inl none, ST I' J) ∧ RG I' (G ++ gC D c (D.ex c + 1)) ∧ (∀ q, q ≠ 5 → I' 62 q = I 62 q) ∧ fr [62, 63, 64, 65, 66] I I' := by
    intro n
    induction n with
    | zero =>
      intro b Ii w5 w6 w7 hn hb r1 q1 f1 hw
      have : b = D.ex c + 1 := by omega
      subst this
      refine ⟨Ii, ?_, r1, q1, f1⟩
      refine go_iload d_A_drawChannel_55 rfl ?_
      refine go_iload_n d_A_drawChannel_57 rfl ?_
      refine go_icmp_gt (tgt := 162) d_A_drawChannel_58 (by decide) (fun z => ?_) (fun z => absurd (nI_lt (show D.ex c < D.ex c + 1 by omega) (by omega)) z)
      exact go_vreturn (st := []) d_A_drawChannel_162 rfl (Nat.le_of_ble_eq_true rfl) (Nat.le_of_ble_eq_true rfl) rfl
    | succ n ih =>
      intro b Ii w5 w6 w7 hn hb r1 q1 f1 hw
      have hb2 : b ≤ D.ex c := by omega
      have rDi : RD Ii D := rD.fr hD f1 (by decide)
      have hl1 : (G ++ gC D c b).length < 220 := by
        rw [List.length_append, gC_l]
        omega
      obtain ⟨I1, a1, a2, a3, a4⟩ := sp_addA (d := d) (J := J) (a := 20 + c * 4 + b) (b := if b < D.ex c then 20 + c * 4 + b + 1 else D.to c) (t := if b = 0 then 1 else 0) (l := 1) r1 hl1
      have hl2 : ((G ++ gC D c b) ++ [(20 + c * 4 + b, (if b < D.ex c then 20 + c * 4 + b + 1 else D.to c), (if b = 0 then 1 else 0), 1)]).length < 220 := by
        rw [List.length_append, List.length_append, gC_l]
        show G.length + (2 + 2 * b) + 1 < 220
        omega
      obtain ⟨I2, b1, b2, b3, b4⟩ := sp_addA (d := d) (J := J) (a := if b < D.ex c then 20 + c * 4 + b + 1 else 10 + D.to c) (b := 20 + c * 4 + b) (t := 2 - (if b = 0 then 1 else 0)) (l := 1) a2 hl2
      have eG : ((G ++ gC D c b) ++ [(20 + c * 4 + b, (if b < D.ex c then 20 + c * 4 + b + 1 else D.to c), (if b = 0 then 1 else 0), 1)]) ++ [((if b < D.ex c then 20 + c * 4 + b + 1 else 10 + D.to c), 20 + c * 4 + b, 2 - (if b = 0 then 1 else 0), 1)] = G ++ gC D c (b + 1) := by
        rw [gC_s, gC1, List.append_assoc, List.append_assoc]
        rfl
      rw [eG] at b2
      obtain ⟨I', i1, i2⟩ := ih (b + 1) I2 (some (.int (nI (if b = 0 then 1 else 0)))) (some (.int (nI (if b < D.ex c then 20 + c * 4 + b + 1 else D.to c)))) (some (.int (nI (if b < D.ex c then 20 + c * 4 + b + 1 else 10 + D.to c)))) (by omega) (by omega) b2 (fun q hq => by rw [b3 q hq, a3 q hq]; exact q1 q hq) ((f1.tr a4).tr b4) rfl
      refine ⟨I', ?_, i2⟩
      have p3 : pm_Go (d + 1) m_A_drawChannel 128 [some (.ref 62), some (.int (nI c)), some (.int (nI (20 + c * 4))), some (.int (nI (D.ex c))), some (.int (nI b)), some (.int (nI (if b = 0 then 1 else 0))), some (.int (nI (if b < D.ex c then 20 + c * 4 + b + 1 else D.to c))), some (.int (nI (if b < D.ex c then 20 + c * 4 + b + 1 else 10 + D.to c)))] [] 0 0 (ST Ii J) (.inl none, ST I' J) := by
        refine go_aload_n d_A_drawChannel_128 rfl ?_
        refine go_iload_n d_A_drawChannel_129 rfl ?_
        refine go_iload d_A_drawChannel_130 rfl ?_
        refine go_iadd d_A_drawChannel_132 ?_
        refine go_top (nI (20 + c * 4 + b)) (nI_add _ _) ?_
        refine go_iload d_A_drawChannel_133 rfl ?_
        refine go_iload d_A_drawChannel_135 rfl ?_
        refine go_iconst (v := 1) d_A_drawChannel_137 (by decide) ?_
        refine go_callV (k2 := m_A_addArc) (As := [.int (nI (20 + c * 4 + b)), .int (nI (if b < D.ex c then 20 + c * 4 + b + 1 else D.to c)), .int (nI (if b = 0 then 1 else 0)), .int (nI 1)]) (r := none) d_A_drawChannel_138 ok_A_addArc (Nat.le_of_ble_eq_true rfl) rfl pc_A rfl vl_A_71 rfl rfl (Nat.le_of_ble_eq_true rfl) (Nat.le_of_ble_eq_true rfl) (Nat.le_of_ble_eq_true rfl) (Nat.le_of_ble_eq_true rfl) rfl rfl a1 ?_
        refine go_aload_n d_A_drawChannel_141 rfl ?_
        refine go_iload d_A_drawChannel_142 rfl ?_
        refine go_iload_n d_A_drawChannel_144 rfl ?_
        refine go_iload d_A_drawChannel_145 rfl ?_
        refine go_iadd d_A_drawChannel_147 ?_
        refine go_top (nI (20 + c * 4 + b)) (nI_add _ _) ?_
        refine go_iconst (v := 2) d_A_drawChannel_148 (by decide) ?_
        refine go_iload d_A_drawChannel_149 rfl ?_
        refine go_isub d_A_drawChannel_151 ?_
        refine go_top (nI (2 - (if b = 0 then 1 else 0))) (pk_sub (a := 2) (by split <;> omega)) ?_
        refine go_iconst (v := 1) d_A_drawChannel_152 (by decide) ?_
        refine go_callV (k2 := m_A_addArc) (As := [.int (nI (if b < D.ex c then 20 + c * 4 + b + 1 else 10 + D.to c)), .int (nI (20 + c * 4 + b)), .int (nI (2 - (if b = 0 then 1 else 0))), .int (nI 1)]) (r := none) d_A_drawChannel_153 ok_A_addArc (Nat.le_of_ble_eq_true rfl) rfl pc_A rfl vl_A_71 rfl rfl (Nat.le_of_ble_eq_true rfl) (Nat.le_of_ble_eq_true rfl) (Nat.le_of_ble_eq_true rfl) (Nat.le_of_ble_eq_true rfl) rfl rfl b1 ?_
        refine go_iinc (v := nI (b + 1)) d_A_drawChannel_156 rfl (by first | rfl | exact nI_1 _) rfl ?_
        refine go_goto (tgt := 55) d_A_drawChannel_159 (by decide) ?_
        exact i1
      have p2 : pm_Go (d + 1) m_A_drawChannel 73 [some (.ref 62), some (.int (nI c)), some (.int (nI (20 + c * 4))), some (.int (nI (D.ex c))), some (.int (nI b)), some (.int (nI (if b = 0 then 1 else 0))), w6, w7] [] 0 0 (ST Ii J) (.inl none, ST I' J) := by
        refine go_iload d_A_drawChannel_73 rfl ?_
        refine go_iload_n d_A_drawChannel_75 rfl ?_
        by_cases hlt : b < D.ex c
        · rw [if_pos hlt, if_pos hlt] at p3
          refine go_icmp_ge (tgt := 88) d_A_drawChannel_76 (by decide) (fun z => absurd z (nI_ge hlt (by omega))) (fun z => ?_)
          refine go_iload_n d_A_drawChannel_79 rfl ?_
          refine go_iload d_A_drawChannel_80 rfl ?_
          refine go_iadd d_A_drawChannel_82 ?_
          refine go_top (nI (20 + c * 4 + b)) (nI_add _ _) ?_
          refine go_iconst (v := 1) d_A_drawChannel_83 (by decide) ?_
          refine go_iadd d_A_drawChannel_84 ?_
          refine go_top (nI (20 + c * 4 + b + 1)) (nI_1 _) ?_
          refine go_goto (tgt := 97) d_A_drawChannel_85 (by decide) ?_
          refine go_istore d_A_drawChannel_97 (Nat.le_of_ble_eq_true rfl) rfl ?_
          refine go_iload d_A_drawChannel_99 rfl ?_
          refine go_iload_n d_A_drawChannel_101 rfl ?_
          refine go_icmp_ge (tgt := 114) d_A_drawChannel_102 (by decide) (fun z => absurd z (nI_ge hlt (by omega))) (fun z => ?_)
          refine go_iload_n d_A_drawChannel_105 rfl ?_
          refine go_iload d_A_drawChannel_106 rfl ?_
          refine go_iadd d_A_drawChannel_108 ?_
          refine go_top (nI (20 + c * 4 + b)) (nI_add _ _) ?_
          refine go_iconst (v := 1) d_A_drawChannel_109 (by decide) ?_
          refine go_iadd d_A_drawChannel_110 ?_
          refine go_top (nI (20 + c * 4 + b + 1)) (nI_1 _) ?_
          refine go_goto (tgt := 126) d_A_drawChannel_111 (by decide) ?_
          refine go_istore d_A_drawChannel_126 (Nat.le_of_ble_eq_true rfl) rfl ?_
          exact p3
        · rw [if_neg hlt, if_neg hlt] at p3
          refine go_icmp_ge (tgt := 88) d_A_drawChannel_76 (by decide) (fun z => ?_) (fun z => absurd (nI_le (by omega) (by omega)) z)
          refine go_aload_n d_A_drawChannel_88 rfl ?_
          refine go_getP (j := 0) d_A_drawChannel_89 (Nat.le_of_ble_eq_true rfl) rfl pc_A (Nat.le_of_ble_eq_true rfl) rfl w_200 pt_A_0 ?_
          refine go_getP (j := 7) d_A_drawChannel_92 (Nat.le_of_ble_eq_true rfl) rfl pc_D (Nat.le_of_ble_eq_true rfl) rfl w_55 pt_D_7 ?_
          refine go_iload_n d_A_drawChannel_95 rfl ?_
          refine go_ald c (nI (D.to c)) d_A_drawChannel_96 (Nat.le_of_ble_eq_true rfl) rfl rfl (by omega) (by decide) (rDi.ch c hc).2.1 ?_
          refine go_istore d_A_drawChannel_97 (Nat.le_of_ble_eq_true rfl) rfl ?_
          refine go_iload d_A_drawChannel_99 rfl ?_
          refine go_iload_n d_A_drawChannel_101 rfl ?_
          refine go_icmp_ge (tgt := 114) d_A_drawChannel_102 (by decide) (fun z => ?_) (fun z => absurd (nI_le (by omega) (by omega)) z)
          refine go_bipush (v := 10) d_A_drawChannel_114 (by decide) ?_
          refine go_aload_n d_A_drawChannel_116 rfl ?_
          refine go_getP (j := 0) d_A_drawChannel_117 (Nat.le_of_ble_eq_true rfl) rfl pc_A (Nat.le_of_ble_eq_true rfl) rfl w_200 pt_A_0 ?_
          refine go_getP (j := 7) d_A_drawChannel_120 (Nat.le_of_ble_eq_true rfl) rfl pc_D (Nat.le_of_ble_eq_true rfl) rfl w_55 pt_D_7 ?_
          refine go_iload_n d_A_drawChannel_123 rfl ?_
          refine go_ald c (nI (D.to c)) d_A_drawChannel_124 (Nat.le_of_ble_eq_true rfl) rfl rfl (by omega) (by decide) (rDi.ch c hc).2.1 ?_
          refine go_iadd d_A_drawChannel_125 ?_
          refine go_top (nI (10 + D.to c)) (nI_add 10 _) ?_
          refine go_istore d_A_drawChannel_126 (Nat.le_of_ble_eq_true rfl) rfl ?_
          exact p3
      refine go_iload d_A_drawChannel_55 rfl ?_
      refine go_iload_n d_A_drawChannel_57 rfl ?_
      refine go_icmp_gt (tgt := 162) d_A_drawChannel_58 (by decide) (fun z => absurd z (nI_nlt (by omega) (by omega))) (fun z => ?_)
      refine go_iload d_A_drawChannel_61 rfl ?_
      by_cases h0 : b = 0
      · rw [if_pos h0] at p2
        refine go_if_ne (tgt := 70) d_A_drawChannel_63 (by decide) (fun z => absurd (congrArg nI h0) z) (fun z => ?_)
        refine go_iconst (v := 1) d_A_drawChannel_66 (by decide) ?_
        refine go_goto (tgt := 71) d_A_drawChannel_67 (by decide) ?_
        refine go_istore d_A_drawChannel_71 (Nat.le_of_ble_eq_true rfl) rfl ?_
        exact p2
      · rw [if_neg h0] at p2
        refine go_if_ne (tgt := 70) d_A_drawChannel_63 (by decide) (fun z => ?_) (fun z => absurd z (nI_ne0 (by omega) (by omega)))
        refine go_iconst (v := 0) d_A_drawChannel_70 (by decide) ?_
        refine go_istore d_A_drawChannel_71 (Nat.le_of_ble_eq_true rfl) rfl ?_
        exact p2
  obtain ⟨I1, a1, a2, a3, a4⟩ := sp_addA (d := d) (J := J) (a := D.fm c) (b := 20 + c * 4) (t := 0) (l := 0) rG (by omega)
  have hl2 : (G ++ [(D.fm c, 20 + c * 4, 0, 0)]).length < 220 := by
    rw [List.length_append]
    show G.length + 1 < 220
    omega
  obtain ⟨I2, b1, b2, b3, b4⟩ := sp_addA (d := d) (J := J) (a := 20 + c * 4) (b := 10 + D.fm c) (t := 0) (l := 0) a2 hl2
  rw [List.append_assoc] at b2
  have rD1 : RD I1 D := rD.fr hD a4 (by decide)
  have rD2 : RD I2 D := rD1.fr hD b4 (by decide)
  obtain ⟨I', i1, i2⟩ := loop (D.ex c + 1) 0 I2 none none none (by omega) (by omega) b2 (fun q hq => by rw [b3 q hq]; exact a3 q hq) (a4.tr b4) rfl
  refine ⟨I', ?_, i2⟩
  refine go_bipush (v := 20) d_A_drawChannel_0 (by decide) ?_
  refine go_iload_n d_A_drawChannel_2 rfl ?_
  refine go_iconst (v := 4) d_A_drawChannel_3 (by decide) ?_
  refine go_imul d_A_drawChannel_4 ?_
  refine go_top (nI (c * 4)) (pk_mul c 4) ?_
  refine go_iadd d_A_drawChannel_5 ?_
  refine go_top (nI (20 + c * 4)) (nI_add 20 _) ?_
  refine go_istore_n d_A_drawChannel_6 (Nat.le_of_ble_eq_true rfl) rfl ?_
  refine go_aload_n d_A_drawChannel_7 rfl ?_
  refine go_aload_n d_A_drawChannel_8 rfl ?_
  refine go_getP (j := 0) d_A_drawChannel_9 (Nat.le_of_ble_eq_true rfl) rfl pc_A (Nat.le_of_ble_eq_true rfl) rfl w_200 pt_A_0 ?_
  refine go_getP (j := 6) d_A_drawChannel_12 (Nat.le_of_ble_eq_true rfl) rfl pc_D (Nat.le_of_ble_eq_true rfl) rfl w_53 pt_D_6 ?_
  refine go_iload_n d_A_drawChannel_15 rfl ?_
  refine go_ald c (nI (D.fm c)) d_A_drawChannel_16 (Nat.le_of_ble_eq_true rfl) rfl rfl (by omega) (by decide) (rD.ch c hc).1 ?_
  refine go_iload_n d_A_drawChannel_17 rfl ?_
  refine go_iconst (v := 0) d_A_drawChannel_18 (by decide) ?_
  refine go_iconst (v := 0) d_A_drawChannel_19 (by decide) ?_
  refine go_callV (k2 := m_A_addArc) (As := [.int (nI (D.fm c)), .int (nI (20 + c * 4)), .int (nI 0), .int (nI 0)]) (r := none) d_A_drawChannel_20 ok_A_addArc (Nat.le_of_ble_eq_true rfl) rfl pc_A rfl vl_A_71 rfl rfl (Nat.le_of_ble_eq_true rfl) (Nat.le_of_ble_eq_true rfl) (Nat.le_of_ble_eq_true rfl) (Nat.le_of_ble_eq_true rfl) rfl rfl a1 ?_
  refine go_aload_n d_A_drawChannel_23 rfl ?_
  refine go_iload_n d_A_drawChannel_24 rfl ?_
  refine go_bipush (v := 10) d_A_drawChannel_25 (by decide) ?_
  refine go_aload_n d_A_drawChannel_27 rfl ?_
  refine go_getP (j := 0) d_A_drawChannel_28 (Nat.le_of_ble_eq_true rfl) rfl pc_A (Nat.le_of_ble_eq_true rfl) rfl w_200 pt_A_0 ?_
  refine go_getP (j := 6) d_A_drawChannel_31 (Nat.le_of_ble_eq_true rfl) rfl pc_D (Nat.le_of_ble_eq_true rfl) rfl w_53 pt_D_6 ?_
  refine go_iload_n d_A_drawChannel_34 rfl ?_
  refine go_ald c (nI (D.fm c)) d_A_drawChannel_35 (Nat.le_of_ble_eq_true rfl) rfl rfl (by omega) (by decide) (rD1.ch c hc).1 ?_
  refine go_iadd d_A_drawChannel_36 ?_
  refine go_top (nI (10 + D.fm c)) (nI_add 10 _) ?_
  refine go_iconst (v := 0) d_A_drawChannel_37 (by decide) ?_
  refine go_iconst (v := 0) d_A_drawChannel_38 (by decide) ?_
  refine go_callV (k2 := m_A_addArc) (As := [.int (nI (20 + c * 4)), .int (nI (10 + D.fm c)), .int (nI 0), .int (nI 0)]) (r := none) d_A_drawChannel_39 ok_A_addArc (Nat.le_of_ble_eq_true rfl) rfl pc_A rfl vl_A_71 rfl rfl (Nat.le_of_ble_eq_true rfl) (Nat.le_of_ble_eq_true rfl) (Nat.le_of_ble_eq_true rfl) (Nat.le_of_ble_eq_true rfl) rfl rfl b1 ?_
  refine go_aload_n d_A_drawChannel_42 rfl ?_
  refine go_getP (j := 0) d_A_drawChannel_43 (Nat.le_of_ble_eq_true rfl) rfl pc_A (Nat.le_of_ble_eq_true rfl) rfl w_200 pt_A_0 ?_
  refine go_getP (j := 9) d_A_drawChannel_46 (Nat.le_of_ble_eq_true rfl) rfl pc_D (Nat.le_of_ble_eq_true rfl) rfl w_60 pt_D_9 ?_
  refine go_iload_n d_A_drawChannel_49 rfl ?_
  refine go_ald c (nI (D.ex c)) d_A_drawChannel_50 (Nat.le_of_ble_eq_true rfl) rfl rfl (by omega) (by decide) (rD2.ch c hc).2.2.2 ?_
  refine go_istore_n d_A_drawChannel_51 (Nat.le_of_ble_eq_true rfl) rfl ?_
  refine go_iconst (v := 0) d_A_drawChannel_52 (by decide) ?_
  refine go_istore d_A_drawChannel_53 (Nat.le_of_ble_eq_true rfl) rfl ?_
  exact i1
def ndE (D : DZ) : Nat := 2 * D.nb + fo (fun a i => a + D.ex i) D.nc D.nc
theorem sp_drawGraph (hD : DW D) (rD : RD I D) : ∃ I', pm_Go (d + 2) m_A_drawGraph 0 [some (.ref 62), none] [] 0 0 (ST I J) (.inl none, ST I' J) ∧ RG I' (gE D D.nb D.nc) ∧ I' 62 4 = nI (ndE D) ∧ (∀ q, q < 4 → I' 62 q = I 62 q) ∧ fr [62, 63, 64, 65, 66] I I' := by
  have h20 := hD.nc
  have h10 := hD.nb
  have f0 : fr [62, 63, 64, 65, 66] I (pm_uI (pm_uI I 62 5 0) 62 4 (nI (ndE D))) := (fr.uI (by decide)).tr (fr.uI (by decide))
  have lc : ∀ n c (Ii : Nat → Nat → Int32), D.nc - c = n → c ≤ D.nc → RG Ii (gE D D.nb c) → Ii 62 4 = nI (ndE D) → (∀ q, q < 4 → Ii 62 q = I 62 q) → fr [62, 63, 64, 65, 66] I Ii → ∃ I', pm_Go (d + 2) m_A_drawGraph 69 [some (.ref 62), some (.int (nI c))] [] 0 0 (ST Ii J) (.inl none, ST I' J) ∧ RG I' (gE D D.nb D.nc) ∧ I' 62 4 = nI (ndE D) ∧ (∀ q, q < 4 → I' 62 q = I 62 q) ∧ fr [62, 63, 64, 65, 66] I I' := by
    intro n
    induction n with
    | zero =>
      intro c Ii hn hc r1 q0 q1 f1
      have : c = D.nc := by omega
      subst this
      have rDi : RD Ii D := rD.fr hD f1 (by decide)
      refine ⟨Ii, ?_, r1, q0, q1, f1⟩
      refine go_iload_n d_A_drawGraph_69 rfl ?_
      refine go_aload_n d_A_drawGraph_70 rfl ?_
      refine go_getP (j := 0) d_A_drawGraph_71 (Nat.le_of_ble_eq_true rfl) rfl pc_A (Nat.le_of_ble_eq_true rfl) rfl w_200 pt_A_0 ?_
      refine go_gI (j := 1) (nI D.nc) d_A_drawGraph_74 (Nat.le_of_ble_eq_true rfl) rfl pc_D (Nat.le_of_ble_eq_true rfl) (by decide) w_40 rDi.nc ?_
      refine go_icmp_ge (tgt := 91) d_A_drawGraph_77 (by decide) (fun z => ?_) (fun z => absurd (nI_le (Nat.le_refl _) (by omega)) z)
      exact go_vreturn (st := []) d_A_drawGraph_91 rfl (Nat.le_of_ble_eq_true rfl) (Nat.le_of_ble_eq_true rfl) rfl
    | succ n ih =>
      intro c Ii hn hc r1 q0 q1 f1
      have hc2 : c < D.nc := by omega
      have rDi : RD Ii D := rD.fr hD f1 (by decide)
      have hl := gE_l hD D.nb c hc
      obtain ⟨I2, b1, b2, b3, b4⟩ := sp_drawChannel (d := d) (J := J) hD rDi hc2 r1 (by omega)
      rw [← gE_s] at b2
      obtain ⟨I', i1, i2⟩ := ih (c + 1) I2 (by omega) (by omega) b2 (by rw [b3 4 (by decide)]; exact q0) (fun q hq => by rw [b3 q (by omega)]; exact q1 q hq) (f1.tr b4)
      refine ⟨I', ?_, i2⟩
      refine go_iload_n d_A_drawGraph_69 rfl ?_
      refine go_aload_n d_A_drawGraph_70 rfl ?_
      refine go_getP (j := 0) d_A_drawGraph_71 (Nat.le_of_ble_eq_true rfl) rfl pc_A (Nat.le_of_ble_eq_true rfl) rfl w_200 pt_A_0 ?_
      refine go_gI (j := 1) (nI D.nc) d_A_drawGraph_74 (Nat.le_of_ble_eq_true rfl) rfl pc_D (Nat.le_of_ble_eq_true rfl) (by decide) w_40 rDi.nc ?_
      refine go_icmp_ge (tgt := 91) d_A_drawGraph_77 (by decide) (fun z => absurd z (nI_ge (by omega) (by omega))) (fun z => ?_)
      refine go_aload_n d_A_drawGraph_80 rfl ?_
      refine go_iload_n d_A_drawGraph_81 rfl ?_
      refine go_callV (k2 := m_A_drawChannel) (As := [.int (nI c)]) (r := none) d_A_drawGraph_82 ok_A_drawChannel (Nat.le_of_ble_eq_true rfl) rfl pc_A rfl vl_A_78 rfl rfl (Nat.le_of_ble_eq_true rfl) (Nat.le_of_ble_eq_true rfl) (Nat.le_of_ble_eq_true rfl) (Nat.le_of_ble_eq_true rfl) rfl rfl b1 ?_
      refine go_iinc (v := nI (c + 1)) d_A_drawGraph_85 rfl (by first | rfl | exact nI_1 _) rfl ?_
      refine go_goto (tgt := 69) d_A_drawGraph_88 (by decide) ?_
      exact i1
  have lb2 : ∀ n b (Ii : Nat → Nat → Int32), D.nb - b = n → b ≤ D.nb → RG Ii ((List.range b).flatMap gB1) → Ii 62 4 = nI (ndE D) → (∀ q, q < 4 → Ii 62 q = I 62 q) → fr [62, 63, 64, 65, 66] I Ii → ∃ I', pm_Go (d + 2) m_A_drawGraph 28 [some (.ref 62), some (.int (nI b))] [] 0 0 (ST Ii J) (.inl none, ST I' J) ∧ RG I' (gE D D.nb D.nc) ∧ I' 62 4 = nI (ndE D) ∧ (∀ q, q < 4 → I' 62 q = I 62 q) ∧ fr [62, 63, 64, 65, 66] I I' := by
    intro n
    induction n with
    | zero =>
      intro b Ii hn hb r1 q0 q1 f1
      have : b = D.nb := by omega
      subst this
      have rDi : RD Ii D := rD.fr hD f1 (by decide)
      have e0 : gE D D.nb 0 = (List.range D.nb).flatMap gB1 := List.append_nil _
      obtain ⟨I', i1, i2⟩ := lc D.nc 0 Ii (by omega) (by omega) (by rw [e0]; exact r1) q0 q1 f1
      refine ⟨I', ?_, i2⟩
      refine go_iload_n d_A_drawGraph_28 rfl ?_
      refine go_aload_n d_A_drawGraph_29 rfl ?_
      refine go_getP (j := 0) d_A_drawGraph_30 (Nat.le_of_ble_eq_true rfl) rfl pc_A (Nat.le_of_ble_eq_true rfl) rfl w_200 pt_A_0 ?_
      refine go_gI (j := 0) (nI D.nb) d_A_drawGraph_33 (Nat.le_of_ble_eq_true rfl) rfl pc_D (Nat.le_of_ble_eq_true rfl) (by decide) w_34 rDi.nb ?_
      refine go_icmp_ge (tgt := 67) d_A_drawGraph_36 (by decide) (fun z => ?_) (fun z => absurd (nI_le (Nat.le_refl _) (by omega)) z)
      refine go_iconst (v := 0) d_A_drawGraph_67 (by decide) ?_
      refine go_istore_n d_A_drawGraph_68 (Nat.le_of_ble_eq_true rfl) rfl ?_
      exact i1
    | succ n ih =>
      intro b Ii hn hb r1 q0 q1 f1
      have hb2 : b < D.nb := by omega
      have rDi : RD Ii D := rD.fr hD f1 (by decide)
      obtain ⟨I1, a1, a2, a3, a4⟩ := sp_addA (d := d + 1) (J := J) (a := b) (b := 10 + b) (t := 0) (l := 0) r1 (by rw [gB_l]; omega)
      obtain ⟨I2, b1, b2, b3, b4⟩ := sp_addA (d := d + 1) (J := J) (a := 10 + b) (b := b) (t := 1) (l := 1) a2 (by
        rw [List.length_append, gB_l]
        show 2 * b + 1 < 220
        omega)
      have eG : (List.range b).flatMap gB1 ++ [(b, 10 + b, 0, 0)] ++ [(10 + b, b, 1, 1)] = (List.range (b + 1)).flatMap gB1 := by
        rw [gB_s, gB1, List.append_assoc]
        rfl
      rw [eG] at b2
      obtain ⟨I', i1, i2⟩ := ih (b + 1) I2 (by omega) (by omega) b2 (by rw [b3 4 (by decide), a3 4 (by decide)]; exact q0) (fun q hq => by rw [b3 q (by omega), a3 q (by omega)]; exact q1 q hq) ((f1.tr a4).tr b4)
      refine ⟨I', ?_, i2⟩
      refine go_iload_n d_A_drawGraph_28 rfl ?_
      refine go_aload_n d_A_drawGraph_29 rfl ?_
      refine go_getP (j := 0) d_A_drawGraph_30 (Nat.le_of_ble_eq_true rfl) rfl pc_A (Nat.le_of_ble_eq_true rfl) rfl w_200 pt_A_0 ?_
      refine go_gI (j := 0) (nI D.nb) d_A_drawGraph_33 (Nat.le_of_ble_eq_true rfl) rfl pc_D (Nat.le_of_ble_eq_true rfl) (by decide) w_34 rDi.nb ?_
      refine go_icmp_ge (tgt := 67) d_A_drawGraph_36 (by decide) (fun z => absurd z (nI_ge (by omega) (by omega))) (fun z => ?_)
      refine go_aload_n d_A_drawGraph_39 rfl ?_
      refine go_iload_n d_A_drawGraph_40 rfl ?_
      refine go_bipush (v := 10) d_A_drawGraph_41 (by decide) ?_
      refine go_iload_n d_A_drawGraph_43 rfl ?_
      refine go_iadd d_A_drawGraph_44 ?_
      refine go_top (nI (10 + b)) (nI_add 10 _) ?_
      refine go_iconst (v := 0) d_A_drawGraph_45 (by decide) ?_
      refine go_iconst (v := 0) d_A_drawGraph_46 (by decide) ?_
      refine go_callV (k2 := m_A_addArc) (As := [.int (nI b), .int (nI (10 + b)), .int (nI 0), .int (nI 0)]) (r := none) d_A_drawGraph_47 ok_A_addArc (Nat.le_of_ble_eq_true rfl) rfl pc_A rfl vl_A_71 rfl rfl (Nat.le_of_ble_eq_true rfl) (Nat.le_of_ble_eq_true rfl) (Nat.le_of_ble_eq_true rfl) (Nat.le_of_ble_eq_true rfl) rfl rfl a1 ?_
      refine go_aload_n d_A_drawGraph_50 rfl ?_
      refine go_bipush (v := 10) d_A_drawGraph_51 (by decide) ?_
      refine go_iload_n d_A_drawGraph_53 rfl ?_
      refine go_iadd d_A_drawGraph_54 ?_
      refine go_top (nI (10 + b)) (nI_add 10 _) ?_
      refine go_iload_n d_A_drawGraph_55 rfl ?_
      refine go_iconst (v := 1) d_A_drawGraph_56 (by decide) ?_
      refine go_iconst (v := 1) d_A_drawGraph_57 (by decide) ?_
      refine go_callV (k2 := m_A_addArc) (As := [.int (nI (10 + b)), .int (nI b), .int (nI 1), .int (nI 1)]) (r := none) d_A_drawGraph_58 ok_A_addArc (Nat.le_of_ble_eq_true rfl) rfl pc_A rfl vl_A_71 rfl rfl (Nat.le_of_ble_eq_true rfl) (Nat.le_of_ble_eq_true rfl) (Nat.le_of_ble_eq_true rfl) (Nat.le_of_ble_eq_true rfl) rfl rfl b1 ?_
      refine go_iinc (v := nI (b + 1)) d_A_drawGraph_61 rfl (by first | rfl | exact nI_1 _) rfl ?_
      refine go_goto (tgt := 28) d_A_drawGraph_64 (by decide) ?_
      exact i1
  have rDi : RD (pm_uI I 62 5 0) D := rD.fr hD (L := [62]) (fr.uI (by decide)) (by decide)
  obtain ⟨I', i1, i2⟩ := lb2 D.nb 0 (pm_uI (pm_uI I 62 5 0) 62 4 (nI (ndE D))) (by omega) (by omega) (RG.mk rfl (fun n a h => by cases h)) uI_eq (fun q hq => by rw [uI_nj (by omega), uI_nj (by omega)]) f0
  refine ⟨I', ?_, i2⟩
  refine go_aload_n d_A_drawGraph_0 rfl ?_
  refine go_iconst (v := 0) d_A_drawGraph_1 (by decide) ?_
  refine go_pI (j := 5) d_A_drawGraph_2 (Nat.le_of_ble_eq_true rfl) rfl pc_A (Nat.le_of_ble_eq_true rfl) (by decide) w_207 rfl (Or.inl rfl) ?_
  refine go_aload_n d_A_drawGraph_5 rfl ?_
  refine go_iconst (v := 2) d_A_drawGraph_6 (by decide) ?_
  refine go_aload_n d_A_drawGraph_7 rfl ?_
  refine go_getP (j := 0) d_A_drawGraph_8 (Nat.le_of_ble_eq_true rfl) rfl pc_A (Nat.le_of_ble_eq_true rfl) rfl w_200 pt_A_0 ?_
  refine go_gI (j := 0) (nI D.nb) d_A_drawGraph_11 (Nat.le_of_ble_eq_true rfl) rfl pc_D (Nat.le_of_ble_eq_true rfl) (by decide) w_34 rDi.nb ?_
  refine go_imul d_A_drawGraph_14 ?_
  refine go_top (nI (2 * D.nb)) (pk_mul 2 _) ?_
  refine go_aload_n d_A_drawGraph_15 rfl ?_
  refine go_getP (j := 0) d_A_drawGraph_16 (Nat.le_of_ble_eq_true rfl) rfl pc_A (Nat.le_of_ble_eq_true rfl) rfl w_200 pt_A_0 ?_
  refine go_callV (k2 := m_D_countBuffers) (As := []) (r := some (.int (nI (fo (fun a i => a + D.ex i) D.nc D.nc)))) d_A_drawGraph_19 ok_D_countBuffers (Nat.le_of_ble_eq_true rfl) rfl pc_D rfl vl_A_68 rfl rfl (Nat.le_of_ble_eq_true rfl) (Nat.le_of_ble_eq_true rfl) (Nat.le_of_ble_eq_true rfl) (Nat.le_of_ble_eq_true rfl) rfl rfl (sp_countBuffers rDi.nc hD.nc (fun i hi => (rDi.ch i hi).2.2.2)) ?_
  refine go_iadd d_A_drawGraph_22 ?_
  refine go_top (nI (ndE D)) (nI_add _ _) ?_
  refine go_pI (j := 4) d_A_drawGraph_23 (Nat.le_of_ble_eq_true rfl) rfl pc_A (Nat.le_of_ble_eq_true rfl) (by decide) w_206 rfl (Or.inl rfl) ?_
  refine go_iconst (v := 0) d_A_drawGraph_26 (by decide) ?_
  refine go_istore_n d_A_drawGraph_27 (Nat.le_of_ble_eq_true rfl) rfl ?_
  exact i1
end S60
