/-! the reference: when a block is ready -/
def NB (D : DZ) (s : MS) : Prop := (∀ j, j < D.nb → s.tu j ≤ 1000) ∧ (∀ c, c < D.nc → s.ga c ≤ 1001) ∧ (∀ c, c < D.nc → ∀ b, b < D.ex c → s.le c b ≤ 1002) ∧ (∀ p, p < D.no → s.ou p ≤ 1001) ∧ (∀ p, p < D.ni → s.off p ≤ 1001)
theorem NB.tu {D : DZ} {s : MS} (h : NB D s) : ∀ j, j < D.nb → s.tu j ≤ 1000 := h.1
theorem NB.ga {D : DZ} {s : MS} (h : NB D s) : ∀ c, c < D.nc → s.ga c ≤ 1001 := h.2.1
theorem NB.le {D : DZ} {s : MS} (h : NB D s) : ∀ c, c < D.nc → ∀ b, b < D.ex c → s.le c b ≤ 1002 := h.2.2.1
theorem NB.ou {D : DZ} {s : MS} (h : NB D s) : ∀ p, p < D.no → s.ou p ≤ 1001 := h.2.2.2.1
theorem NB.of {D : DZ} {s : MS} (h : NB D s) : ∀ p, p < D.ni → s.off p ≤ 1001 := h.2.2.2.2
theorem NB.mk {D : DZ} {s : MS} (tu_ : ∀ j, j < D.nb → s.tu j ≤ 1000) (ga_ : ∀ c, c < D.nc → s.ga c ≤ 1001) (le_ : ∀ c, c < D.nc → ∀ b, b < D.ex c → s.le c b ≤ 1002) (ou_ : ∀ p, p < D.no → s.ou p ≤ 1001) (of_ : ∀ p, p < D.ni → s.off p ≤ 1001) : NB D s := ⟨tu_, ga_, le_, ou_, of_⟩
def TB (s : MS) (t : TS) : Prop := (∀ c k, t.gt c k ≤ 1000) ∧ (∀ c b k, t.lv c b k ≤ 1000) ∧ (∀ j k, t.en j k ≤ 1000) ∧ (∀ p k, t.oft p k ≤ 1000) ∧ (∀ p k, s.ouT p k ≤ 1000)
theorem TB.gt {s : MS} {t : TS} (h : TB s t) : ∀ c k, t.gt c k ≤ 1000 := h.1
theorem TB.lv {s : MS} {t : TS} (h : TB s t) : ∀ c b k, t.lv c b k ≤ 1000 := h.2.1
theorem TB.en {s : MS} {t : TS} (h : TB s t) : ∀ j k, t.en j k ≤ 1000 := h.2.2.1
theorem TB.of {s : MS} {t : TS} (h : TB s t) : ∀ p k, t.oft p k ≤ 1000 := h.2.2.2.1
theorem TB.ot {s : MS} {t : TS} (h : TB s t) : ∀ p k, s.ouT p k ≤ 1000 := h.2.2.2.2
theorem TB.mk {s : MS} {t : TS} (gt_ : ∀ c k, t.gt c k ≤ 1000) (lv_ : ∀ c b k, t.lv c b k ≤ 1000) (en_ : ∀ j k, t.en j k ≤ 1000) (of_ : ∀ p k, t.oft p k ≤ 1000) (ot_ : ∀ p k, s.ouT p k ≤ 1000) : TB s t := ⟨gt_, lv_, en_, of_, ot_⟩
section S36
variable {D : DZ} {s : MS} {t : TS}
theorem NB.cm (hN : NB D s) {c b : Nat} (hc : c < D.nc) (hb : b ≤ D.ex c) : cmM s c b ≤ 1002 := by
  cases b with
  | zero =>
    have := hN.ga c hc
    rw [cm_0]
    omega
  | succ b => exact hN.le c hc b (by omega)
theorem NB.gn (hN : NB D s) (hD : DW D) {c b : Nat} (hc : c < D.nc) (hb : b ≤ D.ex c) : gnM D s c b ≤ 1002 := by
  unfold gnM
  split
  · have := hN.tu _ (hD.ch c hc).2.1
    omega
  · exact hN.le c hc b (by omega)
theorem NB_MI (hD : DW D) (hM : MI D s) : NB D s := by
  have hT := hM.T
  have h1 : ∀ c, c < D.nc → s.ga c ≤ 1001 := fun c hc => by
    have := hM.ga c hc
    have := hM.tu _ (hD.ch c hc).1
    omega
  refine NB.mk (fun j hj => ?_) h1 (fun c hc b hb => ?_) (fun p hp => ?_) (fun p hp => ?_)
  · have := hM.tu j hj
    omega
  · have h2 := cm_le hM hc (b + 1) (by omega)
    rw [cm_S] at h2
    have := h1 c hc
    omega
  · have := hM.ou p hp
    have := hM.tu _ (hD.ot p hp)
    omega
  · have := hM.off p hp
    have := hM.tu _ (hD.ip p hp)
    omega
theorem NB_pq (hD : DW D) (hM : MI D s) (hT : s.T < 1000) {stl : Int32} {A G H : Nat → Bool} {B : Nat → Nat → Bool} : NB D (pqM D s stl A G H B) := by
  have h := NB_MI hD (MI_step (stl := stl) hD hM hT)
  refine NB.mk (fun j hj => ?_) (fun c hc => ?_) (fun c hc b hb => ?_) (fun p hp => ?_) h.of
  · have h1 : tuP D s stl (lb D.nb) j ≤ 1000 := h.tu j hj
    show tuP D s stl A j ≤ 1000
    have e : lb D.nb j = true := decide_eq_true hj
    unfold tuP at *
    rw [e] at h1
    cases A j <;> cases hh : enM D s stl j <;> simp [hh] at h1 ⊢ <;> omega
  · have h1 : gaP D s stl (lb D.nb) c ≤ 1001 := h.ga c hc
    show gaQ D s stl G c ≤ 1001
    have e : lb D.nb (D.fm c) = true := decide_eq_true (hD.ch c hc).1
    unfold gaP at h1
    unfold gaQ
    rw [e] at h1
    cases G c <;> cases hh : geM D s stl (D.fm c) c <;> simp [hh] at h1 ⊢ <;> omega
  · have h1 : leP D s T2 c b ≤ 1002 := h.le c hc b hb
    show leP D s B c b ≤ 1002
    unfold leP T2 at *
    cases B c b <;> cases hh : mvM D s c b <;> simp [hh] at h1 ⊢ <;> omega
  · have h1 : ouP D s stl (lb D.nb) p ≤ 1001 := h.ou p hp
    show ouQ D s stl H p ≤ 1001
    have e : lb D.nb (D.ofm p) = true := decide_eq_true (hD.ot p hp)
    unfold ouP at h1
    unfold ouQ
    rw [e] at h1
    cases H p <;> cases hh : geM D s stl (D.ofm p) (20 + p) <;> simp [hh] at h1 ⊢ <;> omega
theorem TB.cmb (hB : TB s t) {c b k : Nat} : cmA t c b k ≤ 1001 := by
  unfold cmA
  split
  · split
    · omega
    · have := hB.gt c (k - 1)
      omega
  · have := hB.lv c (b - 1) k
    omega
theorem TB.gob (hB : TB s t) {c b k : Nat} : goA D t c b k ≤ 1000 := by
  unfold goA
  split
  · exact hB.en _ _
  · exact hB.lv _ _ _
theorem TB.rc (hB : TB s t) {j k n : Nat} : fo (rcF D t j k) (at0 t j k) n ≤ 1001 := by
  refine (fo_max (fun c => D.to c = j) (fun c => cmA t c (D.ex c) k) (at0 t j k) 1001 n).mpr ⟨?_, fun c _ _ => hB.cmb⟩
  unfold at0
  split
  · omega
  · have := hB.en j (k - 1)
    omega
theorem TB.rp (hB : TB s t) {j k m n : Nat} : fo (rpF D t j k) (fo (rcF D t j k) (at0 t j k) m) n ≤ 1001 := by
  refine (fo_max (fun p => D.ito p = j) (fun p => t.oft p k) _ 1001 n).mpr ⟨hB.rc, fun p _ _ => ?_⟩
  have := hB.of p k
  omega
theorem TB.rd (hB : TB s t) {j k : Nat} : rdR D t j k ≤ 1001 := hB.rp
end S36
section S37
variable {d : Nat} {I : Nat → Nat → Int32} {J : Nat → Nat → Int64} {D : DZ} {s : MS} {t : TS}
theorem sp_laterN {x y : Nat} (hx : x < 2 ^ 31) (hy : y < 2 ^ 31) : pm_Go d m_M_later 0 [some (.ref 69), some (.int (nI x)), some (.int (nI y))] [] 0 0 (ST I J) (.inl (some (.int (nI (max x y)))), ST I J) := by
  have h := sp_M_later (d := d) (I := I) (J := J) (a := nI x) (b := nI y)
  have e : (if nI x ≤ nI y then nI y else nI x) = nI (max x y) := by
    by_cases hl : x ≤ y
    · rw [if_pos (nI_le hl hy), show max x y = y by omega]
    · rw [if_neg (nI_ge (by omega) hx), show max x y = x by omega]
  rw [e] at h
  exact h
theorem sp_M_ready {j : Nat} {r : Int32} (hD : DW D) (rM : RMD I D) (rS : RMS I D s t) (hN : NB D s) (hB : TB s t) (hj : j < D.nb) (r1 : rdM D s j = true → r = nI (rdR D t j (s.tu j))) (r0 : rdM D s j = false → r = 1000000) : pm_Go (d + 1) m_M_ready 0 [some (.ref 69), some (.int (nI j)), none, none, none] [] 0 0 (ST I J) (.inl (some (.int r)), ST I J) := by
  have h20 := hD.nc
  have h10 := hD.nb
  have hni := hD.ni
  have htu := hN.tu j hj
  have hrd := rd_iff (s := s) (j := j) hD
  have lp : ∀ n p v, D.ni - p = n → p ≤ D.ni → ((v = 1000000 ∧ rdM D s j = false) ∨ ((∀ c, c < D.nc → D.to c = j → s.tu j < cmM s c (D.ex c)) ∧ (∀ q, q < p → D.ito q = j → s.tu j < s.off q) ∧ v = nI (fo (rpF D t j (s.tu j)) (fo (rcF D t j (s.tu j)) (at0 t j (s.tu j)) D.nc) p))) → pm_Go (d + 1) m_M_ready 117 [some (.ref 69), some (.int (nI j)), some (.int (nI (s.tu j))), some (.int v), some (.int (nI p))] [] 0 0 (ST I J) (.inl (some (.int r)), ST I J) := by
    intro n
    induction n with
    | zero =>
      intro p v hn hp hv
      have : p = D.ni := by omega
      subst this
      have er : r = v := by
        rcases hv with ⟨h1, h2⟩ | ⟨h1, h2, h3⟩
        · rw [h1]; exact r0 h2
        · rw [h3]; exact r1 (hrd.mpr ⟨h1, h2⟩)
      rw [er]
      refine go_iload d_M_ready_117 rfl ?_
      refine go_aload_n d_M_ready_119 rfl ?_
      refine go_gI (j := 11) (nI D.ni) d_M_ready_120 (Nat.le_of_ble_eq_true rfl) rfl pc_M (Nat.le_of_ble_eq_true rfl) (by decide) w_713 rM.ni ?_
      refine go_icmp_ge (tgt := 184) d_M_ready_123 (by decide) (fun z => ?_) (fun z => absurd (nI_le (Nat.le_refl _) (by omega)) z)
      refine go_iload_n d_M_ready_184 rfl ?_
      exact go_ireturn (st := []) d_M_ready_185 rfl (Nat.le_of_ble_eq_true rfl) (Nat.le_of_ble_eq_true rfl) rfl
    | succ n ih =>
      intro p v hn hp hv
      have hp2 : p < D.ni := by omega
      have hto := hD.ip p hp2
      have hof := hN.of p hp2
      refine go_iload d_M_ready_117 rfl ?_
      refine go_aload_n d_M_ready_119 rfl ?_
      refine go_gI (j := 11) (nI D.ni) d_M_ready_120 (Nat.le_of_ble_eq_true rfl) rfl pc_M (Nat.le_of_ble_eq_true rfl) (by decide) w_713 rM.ni ?_
      refine go_icmp_ge (tgt := 184) d_M_ready_123 (by decide) (fun z => absurd z (nI_ge (by omega) (by omega))) (fun z => ?_)
      refine go_aload_n d_M_ready_126 rfl ?_
      refine go_getP (j := 12) d_M_ready_127 (Nat.le_of_ble_eq_true rfl) rfl pc_M (Nat.le_of_ble_eq_true rfl) rfl w_714 pt_M_12 ?_
      refine go_iload d_M_ready_130 rfl ?_
      refine go_ald p (nI (D.ito p)) d_M_ready_132 (Nat.le_of_ble_eq_true rfl) rfl rfl (by omega) (by decide) (rM.ip p hp2).1 ?_
      refine go_iload_n d_M_ready_133 rfl ?_
      by_cases e : D.ito p = j
      · refine go_icmp_ne (tgt := 178) d_M_ready_134 (by decide) (fun z => absurd (congrArg nI e) z) (fun z => ?_)
        refine go_aload_n d_M_ready_137 rfl ?_
        refine go_getP (j := 29) d_M_ready_138 (Nat.le_of_ble_eq_true rfl) rfl pc_M (Nat.le_of_ble_eq_true rfl) rfl w_731 pt_M_29 ?_
        refine go_iload d_M_ready_141 rfl ?_
        refine go_ald p (nI (s.off p)) d_M_ready_143 (Nat.le_of_ble_eq_true rfl) rfl rfl (by omega) (by decide) (rS.of p hp2).1 ?_
        refine go_iload_n d_M_ready_144 rfl ?_
        by_cases hk : s.tu j < s.off p
        · refine go_icmp_le (tgt := 175) d_M_ready_145 (by decide) (fun z => absurd z (nI_ge hk (by omega))) (fun z => ?_)
          refine go_iload_n d_M_ready_148 rfl ?_
          refine go_ldc (v := 1000000) d_M_ready_149 w_886 ?_
          rcases hv with ⟨h1, h2⟩ | ⟨h1, h2, h3⟩
          · subst h1
            refine go_icmp_ge (tgt := 175) d_M_ready_151 (by decide) (fun z => ?_) (fun z => absurd (by decide) z)
            refine go_ldc (v := 1000000) d_M_ready_175 w_886 ?_
            refine go_istore_n d_M_ready_177 (Nat.le_of_ble_eq_true rfl) rfl ?_
            refine go_iinc (v := nI (p + 1)) d_M_ready_178 rfl (by first | rfl | exact nI_1 _) rfl ?_
            refine go_goto (tgt := 117) d_M_ready_181 (by decide) ?_
            exact ih (p + 1) _ (by omega) (by omega) (Or.inl ⟨rfl, h2⟩)
          · subst h3
            have hb := hB.rp (D := D) (j := j) (k := s.tu j) (m := D.nc) (n := p)
            have hb2 := hB.of p (s.tu j)
            have i1 := ih (p + 1) (nI (max (fo (rpF D t j (s.tu j)) (fo (rcF D t j (s.tu j)) (at0 t j (s.tu j)) D.nc) p) (t.oft p (s.tu j)))) (by omega) (by omega) (Or.inr ⟨h1, fun q hq eq => by
              by_cases e2 : q = p
              · rw [e2]; exact hk
              · exact h2 q (by omega) eq, congrArg nI (show max _ _ = rpF D t j (s.tu j) _ p from (if_pos e).symm)⟩)
            generalize fo (rpF D t j (s.tu j)) (fo (rcF D t j (s.tu j)) (at0 t j (s.tu j)) D.nc) p = a at hb i1 ⊢
            refine go_icmp_ge (tgt := 175) d_M_ready_151 (by decide) (fun z => absurd z (nI_ge (b := 1000000) (by omega) (by decide))) (fun z => ?_)
            refine go_aload_n d_M_ready_154 rfl ?_
            refine go_iload_n d_M_ready_155 rfl ?_
            refine go_aload_n d_M_ready_156 rfl ?_
            refine go_getP (j := 28) d_M_ready_157 (Nat.le_of_ble_eq_true rfl) rfl pc_M (Nat.le_of_ble_eq_true rfl) rfl w_730 pt_M_28 ?_
            refine go_sipush (v := 1002) d_M_ready_160 (by decide) ?_
            refine go_iload d_M_ready_163 rfl ?_
            refine go_imul d_M_ready_165 ?_
            refine go_top (nI (1002 * p)) (pk_mul 1002 p) ?_
            refine go_iload_n d_M_ready_166 rfl ?_
            refine go_iadd d_M_ready_167 ?_
            refine go_top (nI (1002 * p + s.tu j)) (nI_add _ _) ?_
            refine go_ald (1002 * p + s.tu j) (nI (t.oft p (s.tu j))) d_M_ready_168 (Nat.le_of_ble_eq_true rfl) rfl rfl (by omega) (by decide) ((rS.of p hp2).2 _ hk).2 ?_
            refine go_callV (k2 := m_M_later) (As := [.int (nI a), .int (nI (t.oft p (s.tu j)))]) (r := some (.int (nI (max a (t.oft p (s.tu j)))))) d_M_ready_169 ok_M_later (Nat.le_of_ble_eq_true rfl) rfl pc_M rfl vl_M_157 rfl rfl (Nat.le_of_ble_eq_true rfl) (Nat.le_of_ble_eq_true rfl) (Nat.le_of_ble_eq_true rfl) (Nat.le_of_ble_eq_true rfl) rfl rfl (sp_laterN (by omega) (by omega)) ?_
            refine go_goto (tgt := 177) d_M_ready_172 (by decide) ?_
            refine go_istore_n d_M_ready_177 (Nat.le_of_ble_eq_true rfl) rfl ?_
            refine go_iinc (v := nI (p + 1)) d_M_ready_178 rfl (by first | rfl | exact nI_1 _) rfl ?_
            refine go_goto (tgt := 117) d_M_ready_181 (by decide) ?_
            exact i1
        · refine go_icmp_le (tgt := 175) d_M_ready_145 (by decide) (fun z => ?_) (fun z => absurd (nI_le (by omega) (by omega)) z)
          refine go_ldc (v := 1000000) d_M_ready_175 w_886 ?_
          refine go_istore_n d_M_ready_177 (Nat.le_of_ble_eq_true rfl) rfl ?_
          refine go_iinc (v := nI (p + 1)) d_M_ready_178 rfl (by first | rfl | exact nI_1 _) rfl ?_
          refine go_goto (tgt := 117) d_M_ready_181 (by decide) ?_
          refine ih (p + 1) _ (by omega) (by omega) (Or.inl ⟨rfl, ?_⟩)
          cases hh : rdM D s j
          · rfl
          · exact absurd ((hrd.mp hh).2 p hp2 e) hk
      · refine go_icmp_ne (tgt := 178) d_M_ready_134 (by decide) (fun z => ?_) (fun z => absurd z (nI_neq (by omega) (by omega) e))
        refine go_iinc (v := nI (p + 1)) d_M_ready_178 rfl (by first | rfl | exact nI_1 _) rfl ?_
        refine go_goto (tgt := 117) d_M_ready_181 (by decide) ?_
        refine ih (p + 1) v (by omega) (by omega) (hv.imp id (fun h => ⟨h.1, fun q hq eq => ?_, ?_⟩))
        · by_cases e2 : q = p
          · rw [e2] at eq; exact absurd eq e
          · exact h.2.1 q (by omega) eq
        · rw [h.2.2]
          exact congrArg nI (show _ = rpF D t j (s.tu j) _ p from (if_neg e).symm)
  have lc : ∀ n c, D.nc - c = n → c ≤ D.nc → (∀ q, q < c → D.to q = j → s.tu j < cmM s q (D.ex q)) → pm_Go (d + 1) m_M_ready 35 [some (.ref 69), some (.int (nI j)), some (.int (nI (s.tu j))), some (.int (nI (fo (rcF D t j (s.tu j)) (at0 t j (s.tu j)) c))), some (.int (nI c))] [] 0 0 (ST I J) (.inl (some (.int r)), ST I J) := by
    intro n
    induction n with
    | zero =>
      intro c hn hc hq
      have : c = D.nc := by omega
      subst this
      refine go_iload d_M_ready_35 rfl ?_
      refine go_aload_n d_M_ready_37 rfl ?_
      refine go_gI (j := 5) (nI D.nc) d_M_ready_38 (Nat.le_of_ble_eq_true rfl) rfl pc_M (Nat.le_of_ble_eq_true rfl) (by decide) w_707 rM.nc ?_
      refine go_icmp_ge (tgt := 114) d_M_ready_41 (by decide) (fun z => ?_) (fun z => absurd (nI_le (Nat.le_refl _) (by omega)) z)
      refine go_iconst (v := 0) d_M_ready_114 (by decide) ?_
      refine go_istore d_M_ready_115 (Nat.le_of_ble_eq_true rfl) rfl ?_
      exact lp D.ni 0 _ (by omega) (by omega) (Or.inr ⟨hq, fun q hq => absurd hq (by omega), rfl⟩)
    | succ n ih =>
      intro c hn hc hq
      have hc2 : c < D.nc := by omega
      have hto := (hD.ch c hc2).2.1
      have hcm := hN.cm hc2 (Nat.le_refl _)
      have hb := hB.rc (D := D) (j := j) (k := s.tu j) (n := c)
      have hb2 := hB.cmb (c := c) (b := D.ex c) (k := s.tu j)
      refine go_iload d_M_ready_35 rfl ?_
      refine go_aload_n d_M_ready_37 rfl ?_
      refine go_gI (j := 5) (nI D.nc) d_M_ready_38 (Nat.le_of_ble_eq_true rfl) rfl pc_M (Nat.le_of_ble_eq_true rfl) (by decide) w_707 rM.nc ?_
      refine go_icmp_ge (tgt := 114) d_M_ready_41 (by decide) (fun z => absurd z (nI_ge (by omega) (by omega))) (fun z => ?_)
      refine go_aload_n d_M_ready_44 rfl ?_
      refine go_getP (j := 7) d_M_ready_45 (Nat.le_of_ble_eq_true rfl) rfl pc_M (Nat.le_of_ble_eq_true rfl) rfl w_709 pt_M_7 ?_
      refine go_iload d_M_ready_48 rfl ?_
      refine go_ald c (nI (D.to c)) d_M_ready_50 (Nat.le_of_ble_eq_true rfl) rfl rfl (by omega) (by decide) (rM.ch c hc2).2.1 ?_
      refine go_iload_n d_M_ready_51 rfl ?_
      by_cases e : D.to c = j
      · refine go_icmp_ne (tgt := 99) d_M_ready_52 (by decide) (fun z => absurd (congrArg nI e) z) (fun z => ?_)
        refine go_aload_n d_M_ready_55 rfl ?_
        refine go_iload d_M_ready_56 rfl ?_
        refine go_aload_n d_M_ready_58 rfl ?_
        refine go_getP (j := 9) d_M_ready_59 (Nat.le_of_ble_eq_true rfl) rfl pc_M (Nat.le_of_ble_eq_true rfl) rfl w_711 pt_M_9 ?_
        refine go_iload d_M_ready_62 rfl ?_
        refine go_ald c (nI (D.ex c)) d_M_ready_64 (Nat.le_of_ble_eq_true rfl) rfl rfl (by omega) (by decide) (rM.ch c hc2).2.2.2.1 ?_
        refine go_callV (k2 := m_M_came) (As := [.int (nI c), .int (nI (D.ex c))]) (r := some (.int (nI (cmM s c (D.ex c))))) d_M_ready_65 ok_M_came (Nat.le_of_ble_eq_true rfl) rfl pc_M rfl vl_M_146 rfl rfl (Nat.le_of_ble_eq_true rfl) (Nat.le_of_ble_eq_true rfl) (Nat.le_of_ble_eq_true rfl) (Nat.le_of_ble_eq_true rfl) rfl rfl (sp_M_came hD rS hc2 (Nat.le_refl _)) ?_
        refine go_iload_n d_M_ready_68 rfl ?_
        by_cases hk : s.tu j < cmM s c (D.ex c)
        · have i1 := ih (c + 1) (by omega) (by omega) (fun q h1 h2 => by
            by_cases e2 : q = c
            · rw [e2]; exact hk
            · exact hq q (by omega) h2)
          have ef : fo (rcF D t j (s.tu j)) (at0 t j (s.tu j)) (c + 1) = max (fo (rcF D t j (s.tu j)) (at0 t j (s.tu j)) c) (cmA t c (D.ex c) (s.tu j)) := if_pos e
          rw [ef] at i1
          generalize fo (rcF D t j (s.tu j)) (at0 t j (s.tu j)) c = a at hb i1 ⊢
          refine go_icmp_le (tgt := 96) d_M_ready_69 (by decide) (fun z => absurd z (nI_ge hk (by omega))) (fun z => ?_)
          refine go_aload_n d_M_ready_72 rfl ?_
          refine go_iload_n d_M_ready_73 rfl ?_
          refine go_aload_n d_M_ready_74 rfl ?_
          refine go_iload d_M_ready_75 rfl ?_
          refine go_aload_n d_M_ready_77 rfl ?_
          refine go_getP (j := 9) d_M_ready_78 (Nat.le_of_ble_eq_true rfl) rfl pc_M (Nat.le_of_ble_eq_true rfl) rfl w_711 pt_M_9 ?_
          refine go_iload d_M_ready_81 rfl ?_
          refine go_ald c (nI (D.ex c)) d_M_ready_83 (Nat.le_of_ble_eq_true rfl) rfl rfl (by omega) (by decide) (rM.ch c hc2).2.2.2.1 ?_
          refine go_iload_n d_M_ready_84 rfl ?_
          refine go_callV (k2 := m_M_cameAt) (As := [.int (nI c), .int (nI (D.ex c)), .int (nI (s.tu j))]) (r := some (.int (nI (cmA t c (D.ex c) (s.tu j)) - 1))) d_M_ready_85 ok_M_cameAt (Nat.le_of_ble_eq_true rfl) rfl pc_M rfl vl_M_153 rfl rfl (Nat.le_of_ble_eq_true rfl) (Nat.le_of_ble_eq_true rfl) (Nat.le_of_ble_eq_true rfl) (Nat.le_of_ble_eq_true rfl) rfl rfl (sp_M_cameAt hD rS hc2 (Nat.le_refl _) hk (by omega)) ?_
          refine go_iconst (v := 1) d_M_ready_88 (by decide) ?_
          refine go_iadd d_M_ready_89 ?_
          refine go_top (nI (cmA t c (D.ex c) (s.tu j))) (m1_1 _) ?_
          refine go_callV (k2 := m_M_later) (As := [.int (nI a), .int (nI (cmA t c (D.ex c) (s.tu j)))]) (r := some (.int (nI (max a (cmA t c (D.ex c) (s.tu j)))))) d_M_ready_90 ok_M_later (Nat.le_of_ble_eq_true rfl) rfl pc_M rfl vl_M_157 rfl rfl (Nat.le_of_ble_eq_true rfl) (Nat.le_of_ble_eq_true rfl) (Nat.le_of_ble_eq_true rfl) (Nat.le_of_ble_eq_true rfl) rfl rfl (sp_laterN (by omega) (by omega)) ?_
          refine go_goto (tgt := 98) d_M_ready_93 (by decide) ?_
          refine go_istore_n d_M_ready_98 (Nat.le_of_ble_eq_true rfl) rfl ?_
          refine go_iload_n d_M_ready_99 rfl ?_
          refine go_ldc (v := 1000000) d_M_ready_100 w_886 ?_
          refine go_icmp_ne (tgt := 108) d_M_ready_102 (by decide) (fun z => ?_) (fun z => absurd z (nI_neq (b := 1000000) (by omega) (by decide) (by omega)))
          refine go_iinc (v := nI (c + 1)) d_M_ready_108 rfl (by first | rfl | exact nI_1 _) rfl ?_
          refine go_goto (tgt := 35) d_M_ready_111 (by decide) ?_
          exact i1
        · rw [r0 (by
            cases hh : rdM D s j
            · rfl
            · exact absurd ((hrd.mp hh).1 c hc2 e) hk)]
          refine go_icmp_le (tgt := 96) d_M_ready_69 (by decide) (fun z => ?_) (fun z => absurd (nI_le (by omega) (by omega)) z)
          refine go_ldc (v := 1000000) d_M_ready_96 w_886 ?_
          refine go_istore_n d_M_ready_98 (Nat.le_of_ble_eq_true rfl) rfl ?_
          refine go_iload_n d_M_ready_99 rfl ?_
          refine go_ldc (v := 1000000) d_M_ready_100 w_886 ?_
          refine go_icmp_ne (tgt := 108) d_M_ready_102 (by decide) (fun z => absurd rfl z) (fun z => ?_)
          refine go_ldc (v := 1000000) d_M_ready_105 w_886 ?_
          exact go_ireturn (st := []) d_M_ready_107 rfl (Nat.le_of_ble_eq_true rfl) (Nat.le_of_ble_eq_true rfl) rfl
      · have i1 := ih (c + 1) (by omega) (by omega) (fun q h1 h2 => by
          by_cases e2 : q = c
          · rw [e2] at h2; exact absurd h2 e
          · exact hq q (by omega) h2)
        have ef : fo (rcF D t j (s.tu j)) (at0 t j (s.tu j)) (c + 1) = fo (rcF D t j (s.tu j)) (at0 t j (s.tu j)) c := if_neg e
        rw [ef] at i1
        refine go_icmp_ne (tgt := 99) d_M_ready_52 (by decide) (fun z => ?_) (fun z => absurd z (nI_neq (by omega) (by omega) e))
        refine go_iload_n d_M_ready_99 rfl ?_
        refine go_ldc (v := 1000000) d_M_ready_100 w_886 ?_
        refine go_icmp_ne (tgt := 108) d_M_ready_102 (by decide) (fun z => ?_) (fun z => absurd z (nI_neq (b := 1000000) (by omega) (by decide) (by omega)))
        refine go_iinc (v := nI (c + 1)) d_M_ready_108 rfl (by first | rfl | exact nI_1 _) rfl ?_
        refine go_goto (tgt := 35) d_M_ready_111 (by decide) ?_
        exact i1
  have i0 := lc D.nc 0 (by omega) (by omega) (fun q hq => absurd hq (by omega))
  have e0 : fo (rcF D t j (s.tu j)) (at0 t j (s.tu j)) 0 = at0 t j (s.tu j) := rfl
  rw [e0] at i0
  refine go_aload_n d_M_ready_0 rfl ?_
  refine go_getP (j := 26) d_M_ready_1 (Nat.le_of_ble_eq_true rfl) rfl pc_M (Nat.le_of_ble_eq_true rfl) rfl w_728 pt_M_26 ?_
  refine go_iload_n d_M_ready_4 rfl ?_
  refine go_ald j (nI (s.tu j)) d_M_ready_5 (Nat.le_of_ble_eq_true rfl) rfl rfl (by omega) (by decide) (rS.tu j hj).1 ?_
  refine go_istore_n d_M_ready_6 (Nat.le_of_ble_eq_true rfl) rfl ?_
  refine go_iload_n d_M_ready_7 rfl ?_
  by_cases hz : s.tu j = 0
  · rw [at0, if_pos hz] at i0
    refine go_if_ne (tgt := 15) d_M_ready_8 (by decide) (fun z => absurd (congrArg nI hz) z) (fun z => ?_)
    refine go_iconst (v := 0) d_M_ready_11 (by decide) ?_
    refine go_goto (tgt := 31) d_M_ready_12 (by decide) ?_
    refine go_istore_n d_M_ready_31 (Nat.le_of_ble_eq_true rfl) rfl ?_
    refine go_iconst (v := 0) d_M_ready_32 (by decide) ?_
    refine go_istore d_M_ready_33 (Nat.le_of_ble_eq_true rfl) rfl ?_
    exact i0
  · rw [at0, if_neg hz] at i0
    have hb3 := hB.en j (s.tu j - 1)
    refine go_if_ne (tgt := 15) d_M_ready_8 (by decide) (fun z => ?_) (fun z => absurd z (nI_ne0 (by omega) (by omega)))
    refine go_aload_n d_M_ready_15 rfl ?_
    refine go_getP (j := 25) d_M_ready_16 (Nat.le_of_ble_eq_true rfl) rfl pc_M (Nat.le_of_ble_eq_true rfl) rfl w_727 pt_M_25 ?_
    refine go_sipush (v := 1002) d_M_ready_19 (by decide) ?_
    refine go_iload_n d_M_ready_22 rfl ?_
    refine go_imul d_M_ready_23 ?_
    refine go_top (nI (1002 * j)) (pk_mul 1002 j) ?_
    refine go_iload_n d_M_ready_24 rfl ?_
    refine go_iadd d_M_ready_25 ?_
    refine go_top (nI (1002 * j + s.tu j)) (nI_add _ _) ?_
    refine go_iconst (v := 1) d_M_ready_26 (by decide) ?_
    refine go_isub d_M_ready_27 ?_
    refine go_top (nI (1002 * j + (s.tu j - 1))) (by rw [show 1002 * j + s.tu j = 1002 * j + (s.tu j - 1) + 1 by omega]; exact nI_pred _) ?_
    refine go_ald (1002 * j + (s.tu j - 1)) (nI (t.en j (s.tu j - 1))) d_M_ready_28 (Nat.le_of_ble_eq_true rfl) rfl rfl (by omega) (by decide) ((rS.tu j hj).2 _ (by omega)) ?_
    refine go_iconst (v := 1) d_M_ready_29 (by decide) ?_
    refine go_iadd d_M_ready_30 ?_
    refine go_top (nI (t.en j (s.tu j - 1) + 1)) (nI_1 _) ?_
    refine go_istore_n d_M_ready_31 (Nat.le_of_ble_eq_true rfl) rfl ?_
    refine go_iconst (v := 0) d_M_ready_32 (by decide) ?_
    refine go_istore d_M_ready_33 (Nat.le_of_ble_eq_true rfl) rfl ?_
    exact i0
end S37
