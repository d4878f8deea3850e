/-! the reference: a block's work in a tick -/
def wk0 (D : DZ) (s : MS) (j : Nat) (F Fo : Nat → Bool) (i q : Nat) : MS := MS.mk s.T s.tu (fun c => if c < i ∧ D.fm c = j ∧ F c = true then s.ga c + 1 else s.ga c) (fun p => if p < q ∧ D.ofm p = j ∧ Fo p = true then s.ou p + 1 else s.ou p) s.off s.le s.tok s.ofv s.ous s.ouT
/-- what the loops have found -/
def WQ (D : DZ) (s : MS) (t : TS) (j R : Nat) (F : Nat → Bool) (Fo : Nat → Bool) (c q : Nat) (m a : Int32) (e : Nat) : Prop := (m = 0 ∨ m = 1) ∧ ((∀ x, x < c → D.fm x = j → F x = false) → (∀ p, p < q → D.ofm p = j → Fo p = false) → m = 0) ∧ (a = 0 ∨ a = 1) ∧ (a = 1 ↔ (∀ x, x < c → D.fm x = j → s.tu j < s.ga x ∨ F x = true) ∧ (∀ p, p < q → D.ofm p = j → s.tu j < s.ou p ∨ Fo p = true)) ∧ (e ≤ 1001) ∧ (∀ X, e ≤ X ↔ R ≤ X ∧ (∀ x, x < c → D.fm x = j → (s.tu j < s.ga x ∨ F x = true) → t.gt x (s.tu j) ≤ X) ∧ (∀ p, p < q → D.ofm p = j → (s.tu j < s.ou p ∨ Fo p = true) → s.ouT p (s.tu j) ≤ X))
theorem WQ.m {D : DZ} {s : MS} {t : TS} {j R : Nat} {F : Nat → Bool} {Fo : Nat → Bool} {c q : Nat} {m a : Int32} {e : Nat} (h : WQ D s t j R F Fo c q m a e) : m = 0 ∨ m = 1 := h.1
theorem WQ.m0 {D : DZ} {s : MS} {t : TS} {j R : Nat} {F : Nat → Bool} {Fo : Nat → Bool} {c q : Nat} {m a : Int32} {e : Nat} (h : WQ D s t j R F Fo c q m a e) : (∀ x, x < c → D.fm x = j → F x = false) → (∀ p, p < q → D.ofm p = j → Fo p = false) → m = 0 := h.2.1
theorem WQ.a {D : DZ} {s : MS} {t : TS} {j R : Nat} {F : Nat → Bool} {Fo : Nat → Bool} {c q : Nat} {m a : Int32} {e : Nat} (h : WQ D s t j R F Fo c q m a e) : a = 0 ∨ a = 1 := h.2.2.1
theorem WQ.al {D : DZ} {s : MS} {t : TS} {j R : Nat} {F : Nat → Bool} {Fo : Nat → Bool} {c q : Nat} {m a : Int32} {e : Nat} (h : WQ D s t j R F Fo c q m a e) : a = 1 ↔ (∀ x, x < c → D.fm x = j → s.tu j < s.ga x ∨ F x = true) ∧ (∀ p, p < q → D.ofm p = j → s.tu j < s.ou p ∨ Fo p = true) := h.2.2.2.1
theorem WQ.eb {D : DZ} {s : MS} {t : TS} {j R : Nat} {F : Nat → Bool} {Fo : Nat → Bool} {c q : Nat} {m a : Int32} {e : Nat} (h : WQ D s t j R F Fo c q m a e) : e ≤ 1001 := h.2.2.2.2.1
theorem WQ.e {D : DZ} {s : MS} {t : TS} {j R : Nat} {F : Nat → Bool} {Fo : Nat → Bool} {c q : Nat} {m a : Int32} {e : Nat} (h : WQ D s t j R F Fo c q m a e) : ∀ X, e ≤ X ↔ R ≤ X ∧ (∀ x, x < c → D.fm x = j → (s.tu j < s.ga x ∨ F x = true) → t.gt x (s.tu j) ≤ X) ∧ (∀ p, p < q → D.ofm p = j → (s.tu j < s.ou p ∨ Fo p = true) → s.ouT p (s.tu j) ≤ X) := h.2.2.2.2.2
theorem WQ.mk {D : DZ} {s : MS} {t : TS} {j R : Nat} {F : Nat → Bool} {Fo : Nat → Bool} {c q : Nat} {m a : Int32} {e : Nat} (m_ : m = 0 ∨ m = 1) (m0_ : (∀ x, x < c → D.fm x = j → F x = false) → (∀ p, p < q → D.ofm p = j → Fo p = false) → m = 0) (a_ : a = 0 ∨ a = 1) (al_ : a = 1 ↔ (∀ x, x < c → D.fm x = j → s.tu j < s.ga x ∨ F x = true) ∧ (∀ p, p < q → D.ofm p = j → s.tu j < s.ou p ∨ Fo p = true)) (eb_ : e ≤ 1001) (e_ : ∀ X, e ≤ X ↔ R ≤ X ∧ (∀ x, x < c → D.fm x = j → (s.tu j < s.ga x ∨ F x = true) → t.gt x (s.tu j) ≤ X) ∧ (∀ p, p < q → D.ofm p = j → (s.tu j < s.ou p ∨ Fo p = true) → s.ouT p (s.tu j) ≤ X)) : WQ D s t j R F Fo c q m a e := ⟨m_, m0_, a_, al_, eb_, e_⟩
section S40
variable {D : DZ} {s : MS} {t : TS} {j R : Nat} {F Fo : Nat → Bool} {c q : Nat} {m a : Int32} {e : Nat}
theorem WQ_0 (hR : R ≤ 1001) : WQ D s t j R F Fo 0 0 0 1 R := by
  refine WQ.mk (Or.inl rfl) (fun _ _ => rfl) (Or.inr rfl) ⟨fun _ => ⟨fun x hx => absurd hx (by omega), fun x hx => absurd hx (by omega)⟩, fun _ => rfl⟩ hR (fun X => ⟨fun h => ⟨h, fun x hx => absurd hx (by omega), fun x hx => absurd hx (by omega)⟩, fun h => h.1⟩)
theorem WQ_cs (h : WQ D s t j R F Fo c q m a e) (hne : D.fm c ≠ j) : WQ D s t j R F Fo (c + 1) q m a e := by
  have key : ∀ (P : Nat → Prop), (∀ x, x < c + 1 → D.fm x = j → P x) ↔ (∀ x, x < c → D.fm x = j → P x) := by
    intro P
    refine ⟨fun h x hx => h x (by omega), fun h x hx ex => ?_⟩
    by_cases e : x = c
    · rw [e] at ex; exact absurd ex hne
    · exact h x (by omega) ex
  refine WQ.mk h.m (fun z1 z2 => h.m0 ((key _).mp z1) z2) h.a ?_ h.eb (fun X => ?_)
  · rw [key (fun x => s.tu j < s.ga x ∨ F x = true)]; exact h.al
  · rw [key (fun x => (s.tu j < s.ga x ∨ F x = true) → t.gt x (s.tu j) ≤ X)]; exact h.e X
theorem WQ_ps (h : WQ D s t j R F Fo c q m a e) (hne : D.ofm q ≠ j) : WQ D s t j R F Fo c (q + 1) m a e := by
  have key : ∀ (P : Nat → Prop), (∀ x, x < q + 1 → D.ofm x = j → P x) ↔ (∀ x, x < q → D.ofm x = j → P x) := by
    intro P
    refine ⟨fun h x hx => h x (by omega), fun h x hx ex => ?_⟩
    by_cases e : x = q
    · rw [e] at ex; exact absurd ex hne
    · exact h x (by omega) ex
  refine WQ.mk h.m (fun z1 z2 => h.m0 z1 ((key _).mp z2)) h.a ?_ h.eb (fun X => ?_)
  · rw [key (fun x => s.tu j < s.ou x ∨ Fo x = true)]; exact h.al
  · rw [key (fun x => (s.tu j < s.ou x ∨ Fo x = true) → s.ouT x (s.tu j) ≤ X)]; exact h.e X

theorem WQ_cg {g : Nat} {r : Int32} (h : WQ D s t j R F Fo c q m a e) (he : D.fm c = j) (hr0 : F c = false → r = 0) (hg : s.tu j < g ↔ (s.tu j < s.ga c ∨ F c = true)) (hb : t.gt c (s.tu j) ≤ 1000) : WQ D s t j R F Fo (c + 1) q (if r = 1 then 1 else m) (if a = 1 ∧ s.tu j < g then 1 else 0) (if s.tu j < g then max e (t.gt c (s.tu j)) else e) := by
  have key : ∀ (P : Nat → Prop), (∀ x, x < c + 1 → D.fm x = j → P x) ↔ ((∀ x, x < c → D.fm x = j → P x) ∧ P c) := by
    intro P
    refine ⟨fun h => ⟨fun x hx => h x (by omega), h c (by omega) he⟩, fun h x hx ex => ?_⟩
    by_cases e : x = c
    · rw [e]; exact h.2
    · exact h.1 x (by omega) ex
  refine WQ.mk ?_ (fun z1 z2 => ?_) ?_ ?_ ?_ (fun X => ?_)
  · by_cases e1 : r = 1
    · rw [if_pos e1]; exact Or.inr rfl
    · rw [if_neg e1]; exact h.m
  · have zz := (key _).mp z1
    rw [hr0 zz.2, if_neg (by decide)]
    exact h.m0 zz.1 z2
  · by_cases e1 : a = 1 ∧ s.tu j < g
    · rw [if_pos e1]; exact Or.inr rfl
    · rw [if_neg e1]; exact Or.inl rfl
  · rw [key (fun x => s.tu j < s.ga x ∨ F x = true), ← hg]
    have hal := h.al
    by_cases e1 : a = 1 ∧ s.tu j < g
    · rw [if_pos e1]
      have := hal.mp e1.1
      exact ⟨fun _ => ⟨⟨this.1, e1.2⟩, this.2⟩, fun _ => rfl⟩
    · rw [if_neg e1]
      exact ⟨fun z => absurd z (by decide), fun z => absurd ⟨hal.mpr ⟨z.1.1, z.2⟩, z.1.2⟩ e1⟩
  · have := h.eb
    split <;> omega
  · rw [key (fun x => (s.tu j < s.ga x ∨ F x = true) → t.gt x (s.tu j) ≤ X), ← hg]
    have hX := h.e X
    by_cases e1 : s.tu j < g
    · rw [if_pos e1]
      constructor
      · intro z
        have z2 := hX.mp (by omega)
        exact ⟨z2.1, ⟨z2.2.1, fun _ => by omega⟩, z2.2.2⟩
      · intro z
        have z2 := hX.mpr ⟨z.1, z.2.1.1, z.2.2⟩
        have z3 := z.2.1.2 e1
        omega
    · rw [if_neg e1]
      constructor
      · intro z
        have z2 := hX.mp z
        exact ⟨z2.1, ⟨z2.2.1, fun y => absurd y e1⟩, z2.2.2⟩
      · intro z
        exact hX.mpr ⟨z.1, z.2.1.1, z.2.2⟩
theorem WQ_pg {g : Nat} {r : Int32} (h : WQ D s t j R F Fo c q m a e) (he : D.ofm q = j) (hr0 : Fo q = false → r = 0) (hg : s.tu j < g ↔ (s.tu j < s.ou q ∨ Fo q = true)) (hb : s.ouT q (s.tu j) ≤ 1000) : WQ D s t j R F Fo c (q + 1) (if r = 1 then 1 else m) (if a = 1 ∧ s.tu j < g then 1 else 0) (if s.tu j < g then max e (s.ouT q (s.tu j)) else e) := by
  have key : ∀ (P : Nat → Prop), (∀ x, x < q + 1 → D.ofm x = j → P x) ↔ ((∀ x, x < q → D.ofm x = j → P x) ∧ P q) := by
    intro P
    refine ⟨fun h => ⟨fun x hx => h x (by omega), h q (by omega) he⟩, fun h x hx ex => ?_⟩
    by_cases e : x = q
    · rw [e]; exact h.2
    · exact h.1 x (by omega) ex
  refine WQ.mk ?_ (fun z1 z2 => ?_) ?_ ?_ ?_ (fun X => ?_)
  · by_cases e1 : r = 1
    · rw [if_pos e1]; exact Or.inr rfl
    · rw [if_neg e1]; exact h.m
  · have zz := (key _).mp z2
    rw [hr0 zz.2, if_neg (by decide)]
    exact h.m0 z1 zz.1
  · by_cases e1 : a = 1 ∧ s.tu j < g
    · rw [if_pos e1]; exact Or.inr rfl
    · rw [if_neg e1]; exact Or.inl rfl
  · rw [key (fun x => s.tu j < s.ou x ∨ Fo x = true), ← hg]
    have hal := h.al
    by_cases e1 : a = 1 ∧ s.tu j < g
    · rw [if_pos e1]
      have := hal.mp e1.1
      exact ⟨fun _ => ⟨this.1, this.2, e1.2⟩, fun _ => rfl⟩
    · rw [if_neg e1]
      exact ⟨fun z => absurd z (by decide), fun z => absurd ⟨hal.mpr ⟨z.1, z.2.1⟩, z.2.2⟩ e1⟩
  · have := h.eb
    split <;> omega
  · rw [key (fun x => (s.tu j < s.ou x ∨ Fo x = true) → s.ouT x (s.tu j) ≤ X), ← hg]
    have hX := h.e X
    by_cases e1 : s.tu j < g
    · rw [if_pos e1]
      constructor
      · intro z
        have z2 := hX.mp (by omega)
        exact ⟨z2.1, z2.2.1, z2.2.2, fun _ => by omega⟩
      · intro z
        have z2 := hX.mpr ⟨z.1, z.2.1, z.2.2.1⟩
        have z3 := z.2.2.2 e1
        omega
    · rw [if_neg e1]
      constructor
      · intro z
        have z2 := hX.mp z
        exact ⟨z2.1, z2.2.1, z2.2.2, fun y => absurd y e1⟩
      · intro z
        exact hX.mpr ⟨z.1, z.2.1, z.2.2.1⟩
end S40
section S41
variable {d : Nat} {I : Nat → Nat → Int32} {J : Nat → Nat → Int64} {D : DZ} {s : MS} {t : TS} {out : (Option Value ⊕ String) × pm_S}
theorem M_wk_cs {vj vT vR vk ve va vc r m : Int32} (hr : r = 0 ∨ r = 1) (hm : m = 0 ∨ m = 1) (ho : pm_Go (d + 3) m_M_work 76 [some (.ref 69), some (.int vj), some (.int vT), some (.int vR), some (.int (if r = 1 then 1 else m)), some (.int vk), some (.int ve), some (.int va), some (.int vc)] [] 0 0 (ST I J) out) : pm_Go (d + 3) m_M_work 61 [some (.ref 69), some (.int vj), some (.int vT), some (.int vR), some (.int m), some (.int vk), some (.int ve), some (.int va), some (.int vc)] [.int r] 0 0 (ST I J) out := by
  rcases hr with rfl | rfl
  · rw [if_neg (by decide)] at ho
    refine go_if_ne (tgt := 69) d_M_work_61 (by decide) (fun z => absurd rfl z) (fun z => ?_)
    refine go_iload d_M_work_64 rfl ?_
    rcases hm with rfl | rfl
    · refine go_if_eq (tgt := 73) d_M_work_66 (by decide) (fun z => ?_) (fun z => absurd rfl z)
      refine go_iconst (v := 0) d_M_work_73 (by decide) ?_
      refine go_istore d_M_work_74 (Nat.le_of_ble_eq_true rfl) rfl ?_
      exact ho
    · refine go_if_eq (tgt := 73) d_M_work_66 (by decide) (fun z => absurd z (by decide)) (fun z => ?_)
      refine go_iconst (v := 1) d_M_work_69 (by decide) ?_
      refine go_goto (tgt := 74) d_M_work_70 (by decide) ?_
      refine go_istore d_M_work_74 (Nat.le_of_ble_eq_true rfl) rfl ?_
      exact ho
  · rw [if_pos rfl] at ho
    refine go_if_ne (tgt := 69) d_M_work_61 (by decide) (fun z => ?_) (fun z => absurd z (by decide))
    refine go_iconst (v := 1) d_M_work_69 (by decide) ?_
    refine go_goto (tgt := 74) d_M_work_70 (by decide) ?_
    refine go_istore d_M_work_74 (Nat.le_of_ble_eq_true rfl) rfl ?_
    exact ho
theorem M_wk_ca {vj vT vR m ve a : Int32} {c k g : Nat} (hc : c < 20) (hk : k < 2 ^ 30) (hg2 : g < 2 ^ 30) (ha : a = 0 ∨ a = 1) (hg : I 86 c = nI g) (ho : pm_Go (d + 3) m_M_work 100 [some (.ref 69), some (.int vj), some (.int vT), some (.int vR), some (.int m), some (.int (nI k)), some (.int ve), some (.int (if a = 1 ∧ k < g then 1 else 0)), some (.int (nI c))] [] 0 0 (ST I J) out) : pm_Go (d + 3) m_M_work 76 [some (.ref 69), some (.int vj), some (.int vT), some (.int vR), some (.int m), some (.int (nI k)), some (.int ve), some (.int a), some (.int (nI c))] [] 0 0 (ST I J) out := by
  refine go_iload d_M_work_76 rfl ?_
  rcases ha with rfl | rfl
  · rw [if_neg (fun z => absurd z.1 (by decide))] at ho
    refine go_if_eq (tgt := 97) d_M_work_78 (by decide) (fun z => ?_) (fun z => absurd rfl z)
    refine go_iconst (v := 0) d_M_work_97 (by decide) ?_
    refine go_istore d_M_work_98 (Nat.le_of_ble_eq_true rfl) rfl ?_
    exact ho
  · refine go_if_eq (tgt := 97) d_M_work_78 (by decide) (fun z => absurd z (by decide)) (fun z => ?_)
    refine go_aload_n d_M_work_81 rfl ?_
    refine go_getP (j := 24) d_M_work_82 (Nat.le_of_ble_eq_true rfl) rfl pc_M (Nat.le_of_ble_eq_true rfl) rfl w_726 pt_M_24 ?_
    refine go_iload d_M_work_85 rfl ?_
    refine go_ald c (nI g) d_M_work_87 (Nat.le_of_ble_eq_true rfl) rfl rfl (by omega) (by decide) hg ?_
    refine go_iload d_M_work_88 rfl ?_
    by_cases hl : k < g
    · rw [if_pos ⟨rfl, hl⟩] at ho
      refine go_icmp_le (tgt := 97) d_M_work_90 (by decide) (fun z => absurd z (nI_ge hl (by omega))) (fun z => ?_)
      refine go_iconst (v := 1) d_M_work_93 (by decide) ?_
      refine go_goto (tgt := 98) d_M_work_94 (by decide) ?_
      refine go_istore d_M_work_98 (Nat.le_of_ble_eq_true rfl) rfl ?_
      exact ho
    · rw [if_neg (fun z => hl z.2)] at ho
      refine go_icmp_le (tgt := 97) d_M_work_90 (by decide) (fun z => ?_) (fun z => absurd (nI_le (by omega) (by omega)) z)
      refine go_iconst (v := 0) d_M_work_97 (by decide) ?_
      refine go_istore d_M_work_98 (Nat.le_of_ble_eq_true rfl) rfl ?_
      exact ho
theorem M_wk_ce {vj vT vR m a : Int32} {c k g e x : Nat} (hc : c < 20) (hk : k ≤ 1001) (hg2 : g < 2 ^ 30) (he : e < 2 ^ 30) (hx : x < 2 ^ 30) (hg : I 86 c = nI g) (hx2 : k < g → I 85 (1002 * c + k) = nI x) (ho : pm_Go (d + 3) m_M_work 139 [some (.ref 69), some (.int vj), some (.int vT), some (.int vR), some (.int m), some (.int (nI k)), some (.int (nI (if k < g then max e x else e))), some (.int a), some (.int (nI c))] [] 0 0 (ST I J) out) : pm_Go (d + 3) m_M_work 100 [some (.ref 69), some (.int vj), some (.int vT), some (.int vR), some (.int m), some (.int (nI k)), some (.int (nI e)), some (.int a), some (.int (nI c))] [] 0 0 (ST I J) out := by
  refine go_aload_n d_M_work_100 rfl ?_
  refine go_getP (j := 24) d_M_work_101 (Nat.le_of_ble_eq_true rfl) rfl pc_M (Nat.le_of_ble_eq_true rfl) rfl w_726 pt_M_24 ?_
  refine go_iload d_M_work_104 rfl ?_
  refine go_ald c (nI g) d_M_work_106 (Nat.le_of_ble_eq_true rfl) rfl rfl (by omega) (by decide) hg ?_
  refine go_iload d_M_work_107 rfl ?_
  by_cases hl : k < g
  · rw [if_pos hl] at ho
    refine go_icmp_le (tgt := 135) d_M_work_109 (by decide) (fun z => absurd z (nI_ge hl (by omega))) (fun z => ?_)
    refine go_aload_n d_M_work_112 rfl ?_
    refine go_iload d_M_work_113 rfl ?_
    refine go_aload_n d_M_work_115 rfl ?_
    refine go_getP (j := 23) d_M_work_116 (Nat.le_of_ble_eq_true rfl) rfl pc_M (Nat.le_of_ble_eq_true rfl) rfl w_725 pt_M_23 ?_
    refine go_sipush (v := 1002) d_M_work_119 (by decide) ?_
    refine go_iload d_M_work_122 rfl ?_
    refine go_imul d_M_work_124 ?_
    refine go_top (nI (1002 * c)) (pk_mul 1002 c) ?_
    refine go_iload d_M_work_125 rfl ?_
    refine go_iadd d_M_work_127 ?_
    refine go_top (nI (1002 * c + k)) (nI_add _ _) ?_
    refine go_ald (1002 * c + k) (nI x) d_M_work_128 (Nat.le_of_ble_eq_true rfl) rfl rfl (by omega) (by decide) (hx2 hl) ?_
    refine go_callV (k2 := m_M_later) (As := [.int (nI e), .int (nI x)]) (r := some (.int (nI (max e x)))) d_M_work_129 ok_M_later (Nat.le_of_ble_eq_true rfl) rfl pc_M rfl vl_M_157 rfl rfl (Nat.le_of_ble_eq_true rfl) (Nat.le_of_ble_eq_true rfl) (Nat.le_of_ble_eq_true rfl) (Nat.le_of_ble_eq_true rfl) rfl rfl (sp_laterN (by omega) (by omega)) ?_
    refine go_goto (tgt := 137) d_M_work_132 (by decide) ?_
    refine go_istore d_M_work_137 (Nat.le_of_ble_eq_true rfl) rfl ?_
    exact ho
  · rw [if_neg hl] at ho
    refine go_icmp_le (tgt := 135) d_M_work_109 (by decide) (fun z => ?_) (fun z => absurd (nI_le (by omega) (by omega)) z)
    refine go_iload d_M_work_135 rfl ?_
    refine go_istore d_M_work_137 (Nat.le_of_ble_eq_true rfl) rfl ?_
    exact ho
theorem M_wk_ps {vj vT vR vk ve va vc r m : Int32} (hr : r = 0 ∨ r = 1) (hm : m = 0 ∨ m = 1) (ho : pm_Go (d + 3) m_M_work 191 [some (.ref 69), some (.int vj), some (.int vT), some (.int vR), some (.int (if r = 1 then 1 else m)), some (.int vk), some (.int ve), some (.int va), some (.int vc)] [] 0 0 (ST I J) out) : pm_Go (d + 3) m_M_work 176 [some (.ref 69), some (.int vj), some (.int vT), some (.int vR), some (.int m), some (.int vk), some (.int ve), some (.int va), some (.int vc)] [.int r] 0 0 (ST I J) out := by
  rcases hr with rfl | rfl
  · rw [if_neg (by decide)] at ho
    refine go_if_ne (tgt := 184) d_M_work_176 (by decide) (fun z => absurd rfl z) (fun z => ?_)
    refine go_iload d_M_work_179 rfl ?_
    rcases hm with rfl | rfl
    · refine go_if_eq (tgt := 188) d_M_work_181 (by decide) (fun z => ?_) (fun z => absurd rfl z)
      refine go_iconst (v := 0) d_M_work_188 (by decide) ?_
      refine go_istore d_M_work_189 (Nat.le_of_ble_eq_true rfl) rfl ?_
      exact ho
    · refine go_if_eq (tgt := 188) d_M_work_181 (by decide) (fun z => absurd z (by decide)) (fun z => ?_)
      refine go_iconst (v := 1) d_M_work_184 (by decide) ?_
      refine go_goto (tgt := 189) d_M_work_185 (by decide) ?_
      refine go_istore d_M_work_189 (Nat.le_of_ble_eq_true rfl) rfl ?_
      exact ho
  · rw [if_pos rfl] at ho
    refine go_if_ne (tgt := 184) d_M_work_176 (by decide) (fun z => ?_) (fun z => absurd z (by decide))
    refine go_iconst (v := 1) d_M_work_184 (by decide) ?_
    refine go_goto (tgt := 189) d_M_work_185 (by decide) ?_
    refine go_istore d_M_work_189 (Nat.le_of_ble_eq_true rfl) rfl ?_
    exact ho
theorem M_wk_pa {vj vT vR m ve a : Int32} {c k g : Nat} (hc : c < 4) (hk : k < 2 ^ 30) (hg2 : g < 2 ^ 30) (ha : a = 0 ∨ a = 1) (hg : I 94 c = nI g) (ho : pm_Go (d + 3) m_M_work 215 [some (.ref 69), some (.int vj), some (.int vT), some (.int vR), some (.int m), some (.int (nI k)), some (.int ve), some (.int (if a = 1 ∧ k < g then 1 else 0)), some (.int (nI c))] [] 0 0 (ST I J) out) : pm_Go (d + 3) m_M_work 191 [some (.ref 69), some (.int vj), some (.int vT), some (.int vR), some (.int m), some (.int (nI k)), some (.int ve), some (.int a), some (.int (nI c))] [] 0 0 (ST I J) out := by
  refine go_iload d_M_work_191 rfl ?_
  rcases ha with rfl | rfl
  · rw [if_neg (fun z => absurd z.1 (by decide))] at ho
    refine go_if_eq (tgt := 212) d_M_work_193 (by decide) (fun z => ?_) (fun z => absurd rfl z)
    refine go_iconst (v := 0) d_M_work_212 (by decide) ?_
    refine go_istore d_M_work_213 (Nat.le_of_ble_eq_true rfl) rfl ?_
    exact ho
  · refine go_if_eq (tgt := 212) d_M_work_193 (by decide) (fun z => absurd z (by decide)) (fun z => ?_)
    refine go_aload_n d_M_work_196 rfl ?_
    refine go_getP (j := 32) d_M_work_197 (Nat.le_of_ble_eq_true rfl) rfl pc_M (Nat.le_of_ble_eq_true rfl) rfl w_734 pt_M_32 ?_
    refine go_iload d_M_work_200 rfl ?_
    refine go_ald c (nI g) d_M_work_202 (Nat.le_of_ble_eq_true rfl) rfl rfl (by omega) (by decide) hg ?_
    refine go_iload d_M_work_203 rfl ?_
    by_cases hl : k < g
    · rw [if_pos ⟨rfl, hl⟩] at ho
      refine go_icmp_le (tgt := 212) d_M_work_205 (by decide) (fun z => absurd z (nI_ge hl (by omega))) (fun z => ?_)
      refine go_iconst (v := 1) d_M_work_208 (by decide) ?_
      refine go_goto (tgt := 213) d_M_work_209 (by decide) ?_
      refine go_istore d_M_work_213 (Nat.le_of_ble_eq_true rfl) rfl ?_
      exact ho
    · rw [if_neg (fun z => hl z.2)] at ho
      refine go_icmp_le (tgt := 212) d_M_work_205 (by decide) (fun z => ?_) (fun z => absurd (nI_le (by omega) (by omega)) z)
      refine go_iconst (v := 0) d_M_work_212 (by decide) ?_
      refine go_istore d_M_work_213 (Nat.le_of_ble_eq_true rfl) rfl ?_
      exact ho
theorem M_wk_pe {vj vT vR m a : Int32} {c k g e x : Nat} (hc : c < 4) (hk : k ≤ 1001) (hg2 : g < 2 ^ 30) (he : e < 2 ^ 30) (hx : x < 2 ^ 30) (hg : I 94 c = nI g) (hx2 : k < g → I 93 (1002 * c + k) = nI x) (ho : pm_Go (d + 3) m_M_work 254 [some (.ref 69), some (.int vj), some (.int vT), some (.int vR), some (.int m), some (.int (nI k)), some (.int (nI (if k < g then max e x else e))), some (.int a), some (.int (nI c))] [] 0 0 (ST I J) out) : pm_Go (d + 3) m_M_work 215 [some (.ref 69), some (.int vj), some (.int vT), some (.int vR), some (.int m), some (.int (nI k)), some (.int (nI e)), some (.int a), some (.int (nI c))] [] 0 0 (ST I J) out := by
  refine go_aload_n d_M_work_215 rfl ?_
  refine go_getP (j := 32) d_M_work_216 (Nat.le_of_ble_eq_true rfl) rfl pc_M (Nat.le_of_ble_eq_true rfl) rfl w_734 pt_M_32 ?_
  refine go_iload d_M_work_219 rfl ?_
  refine go_ald c (nI g) d_M_work_221 (Nat.le_of_ble_eq_true rfl) rfl rfl (by omega) (by decide) hg ?_
  refine go_iload d_M_work_222 rfl ?_
  by_cases hl : k < g
  · rw [if_pos hl] at ho
    refine go_icmp_le (tgt := 250) d_M_work_224 (by decide) (fun z => absurd z (nI_ge hl (by omega))) (fun z => ?_)
    refine go_aload_n d_M_work_227 rfl ?_
    refine go_iload d_M_work_228 rfl ?_
    refine go_aload_n d_M_work_230 rfl ?_
    refine go_getP (j := 31) d_M_work_231 (Nat.le_of_ble_eq_true rfl) rfl pc_M (Nat.le_of_ble_eq_true rfl) rfl w_733 pt_M_31 ?_
    refine go_sipush (v := 1002) d_M_work_234 (by decide) ?_
    refine go_iload d_M_work_237 rfl ?_
    refine go_imul d_M_work_239 ?_
    refine go_top (nI (1002 * c)) (pk_mul 1002 c) ?_
    refine go_iload d_M_work_240 rfl ?_
    refine go_iadd d_M_work_242 ?_
    refine go_top (nI (1002 * c + k)) (nI_add _ _) ?_
    refine go_ald (1002 * c + k) (nI x) d_M_work_243 (Nat.le_of_ble_eq_true rfl) rfl rfl (by omega) (by decide) (hx2 hl) ?_
    refine go_callV (k2 := m_M_later) (As := [.int (nI e), .int (nI x)]) (r := some (.int (nI (max e x)))) d_M_work_244 ok_M_later (Nat.le_of_ble_eq_true rfl) rfl pc_M rfl vl_M_157 rfl rfl (Nat.le_of_ble_eq_true rfl) (Nat.le_of_ble_eq_true rfl) (Nat.le_of_ble_eq_true rfl) (Nat.le_of_ble_eq_true rfl) rfl rfl (sp_laterN (by omega) (by omega)) ?_
    refine go_goto (tgt := 252) d_M_work_247 (by decide) ?_
    refine go_istore d_M_work_252 (Nat.le_of_ble_eq_true rfl) rfl ?_
    exact ho
  · rw [if_neg hl] at ho
    refine go_icmp_le (tgt := 250) d_M_work_224 (by decide) (fun z => ?_) (fun z => absurd (nI_le (by omega) (by omega)) z)
    refine go_iload d_M_work_250 rfl ?_
    refine go_istore d_M_work_252 (Nat.le_of_ble_eq_true rfl) rfl ?_
    exact ho
end S41
def wkL : List Nat := [82, 85, 86, 87, 88, 92, 93, 94]
/-- what work needs to know of a block that is ready -/
def WH (D : DZ) (s : MS) (t : TS) (j R T : Nat) (F : Nat → Bool) (Fo : Nat → Bool) (En : Bool) : Prop := (rdM D s j = true) ∧ (rdR D t j (s.tu j) = R) ∧ (R ≤ T) ∧ (∀ x, x < D.nc → D.to x = j → s.tu j ≤ s.ga x) ∧ (∀ c, c < D.nc → D.fm c = j → (F c = true ∧ s.ga c = s.tu j ∧ s.tu j ≤ gnM D s c 0 ∧ gvA D t R c (s.tu j) ≤ T ∧ t.gt c (s.tu j) = gvA D t R c (s.tu j) ∧ s.tok c (s.tu j + 1) = vaM D s j) ∨ (F c = false ∧ ¬ (s.ga c ≤ s.tu j ∧ s.tu j ≤ gnM D s c 0 ∧ gvA D t R c (s.tu j) ≤ T))) ∧ (∀ p, p < D.no → D.ofm p = j → (Fo p = true ∧ s.ou p = s.tu j ∧ ∃ X, R ≤ X ∧ X ≤ T ∧ (∀ q, R ≤ q → q < X → bt (t.sl q) p = true) ∧ bt (t.sl X) p = false ∧ s.ouT p (s.tu j) = X ∧ s.ous p (s.tu j) = vaM D s j) ∨ (Fo p = false ∧ (s.tu j < s.ou p ∨ ∀ q, R ≤ q → q ≤ T → bt (t.sl q) p = true))) ∧ (En = true ↔ (∀ x, x < D.nc → D.fm x = j → s.tu j < s.ga x ∨ F x = true) ∧ (∀ p, p < D.no → D.ofm p = j → s.tu j < s.ou p ∨ Fo p = true)) ∧ (En = true → ∀ e, (∀ X, e ≤ X ↔ R ≤ X ∧ (∀ x, x < D.nc → D.fm x = j → (s.tu j < s.ga x ∨ F x = true) → t.gt x (s.tu j) ≤ X) ∧ (∀ p, p < D.no → D.ofm p = j → (s.tu j < s.ou p ∨ Fo p = true) → s.ouT p (s.tu j) ≤ X)) → t.en j (s.tu j) = e)
theorem WH.rd {D : DZ} {s : MS} {t : TS} {j R T : Nat} {F : Nat → Bool} {Fo : Nat → Bool} {En : Bool} (h : WH D s t j R T F Fo En) : rdM D s j = true := h.1
theorem WH.R {D : DZ} {s : MS} {t : TS} {j R T : Nat} {F : Nat → Bool} {Fo : Nat → Bool} {En : Bool} (h : WH D s t j R T F Fo En) : rdR D t j (s.tu j) = R := h.2.1
theorem WH.RT {D : DZ} {s : MS} {t : TS} {j R T : Nat} {F : Nat → Bool} {Fo : Nat → Bool} {En : Bool} (h : WH D s t j R T F Fo En) : R ≤ T := h.2.2.1
theorem WH.ga {D : DZ} {s : MS} {t : TS} {j R T : Nat} {F : Nat → Bool} {Fo : Nat → Bool} {En : Bool} (h : WH D s t j R T F Fo En) : ∀ x, x < D.nc → D.to x = j → s.tu j ≤ s.ga x := h.2.2.2.1
theorem WH.F {D : DZ} {s : MS} {t : TS} {j R T : Nat} {F : Nat → Bool} {Fo : Nat → Bool} {En : Bool} (h : WH D s t j R T F Fo En) : ∀ c, c < D.nc → D.fm c = j → (F c = true ∧ s.ga c = s.tu j ∧ s.tu j ≤ gnM D s c 0 ∧ gvA D t R c (s.tu j) ≤ T ∧ t.gt c (s.tu j) = gvA D t R c (s.tu j) ∧ s.tok c (s.tu j + 1) = vaM D s j) ∨ (F c = false ∧ ¬ (s.ga c ≤ s.tu j ∧ s.tu j ≤ gnM D s c 0 ∧ gvA D t R c (s.tu j) ≤ T)) := h.2.2.2.2.1
theorem WH.O {D : DZ} {s : MS} {t : TS} {j R T : Nat} {F : Nat → Bool} {Fo : Nat → Bool} {En : Bool} (h : WH D s t j R T F Fo En) : ∀ p, p < D.no → D.ofm p = j → (Fo p = true ∧ s.ou p = s.tu j ∧ ∃ X, R ≤ X ∧ X ≤ T ∧ (∀ q, R ≤ q → q < X → bt (t.sl q) p = true) ∧ bt (t.sl X) p = false ∧ s.ouT p (s.tu j) = X ∧ s.ous p (s.tu j) = vaM D s j) ∨ (Fo p = false ∧ (s.tu j < s.ou p ∨ ∀ q, R ≤ q → q ≤ T → bt (t.sl q) p = true)) := h.2.2.2.2.2.1
theorem WH.E {D : DZ} {s : MS} {t : TS} {j R T : Nat} {F : Nat → Bool} {Fo : Nat → Bool} {En : Bool} (h : WH D s t j R T F Fo En) : En = true ↔ (∀ x, x < D.nc → D.fm x = j → s.tu j < s.ga x ∨ F x = true) ∧ (∀ p, p < D.no → D.ofm p = j → s.tu j < s.ou p ∨ Fo p = true) := h.2.2.2.2.2.2.1
theorem WH.E2 {D : DZ} {s : MS} {t : TS} {j R T : Nat} {F : Nat → Bool} {Fo : Nat → Bool} {En : Bool} (h : WH D s t j R T F Fo En) : En = true → ∀ e, (∀ X, e ≤ X ↔ R ≤ X ∧ (∀ x, x < D.nc → D.fm x = j → (s.tu j < s.ga x ∨ F x = true) → t.gt x (s.tu j) ≤ X) ∧ (∀ p, p < D.no → D.ofm p = j → (s.tu j < s.ou p ∨ Fo p = true) → s.ouT p (s.tu j) ≤ X)) → t.en j (s.tu j) = e := h.2.2.2.2.2.2.2
theorem WH.mk {D : DZ} {s : MS} {t : TS} {j R T : Nat} {F : Nat → Bool} {Fo : Nat → Bool} {En : Bool} (rd_ : rdM D s j = true) (R_ : rdR D t j (s.tu j) = R) (RT_ : R ≤ T) (ga_ : ∀ x, x < D.nc → D.to x = j → s.tu j ≤ s.ga x) (F_ : ∀ c, c < D.nc → D.fm c = j → (F c = true ∧ s.ga c = s.tu j ∧ s.tu j ≤ gnM D s c 0 ∧ gvA D t R c (s.tu j) ≤ T ∧ t.gt c (s.tu j) = gvA D t R c (s.tu j) ∧ s.tok c (s.tu j + 1) = vaM D s j) ∨ (F c = false ∧ ¬ (s.ga c ≤ s.tu j ∧ s.tu j ≤ gnM D s c 0 ∧ gvA D t R c (s.tu j) ≤ T))) (O_ : ∀ p, p < D.no → D.ofm p = j → (Fo p = true ∧ s.ou p = s.tu j ∧ ∃ X, R ≤ X ∧ X ≤ T ∧ (∀ q, R ≤ q → q < X → bt (t.sl q) p = true) ∧ bt (t.sl X) p = false ∧ s.ouT p (s.tu j) = X ∧ s.ous p (s.tu j) = vaM D s j) ∨ (Fo p = false ∧ (s.tu j < s.ou p ∨ ∀ q, R ≤ q → q ≤ T → bt (t.sl q) p = true))) (E_ : En = true ↔ (∀ x, x < D.nc → D.fm x = j → s.tu j < s.ga x ∨ F x = true) ∧ (∀ p, p < D.no → D.ofm p = j → s.tu j < s.ou p ∨ Fo p = true)) (E2_ : En = true → ∀ e, (∀ X, e ≤ X ↔ R ≤ X ∧ (∀ x, x < D.nc → D.fm x = j → (s.tu j < s.ga x ∨ F x = true) → t.gt x (s.tu j) ≤ X) ∧ (∀ p, p < D.no → D.ofm p = j → (s.tu j < s.ou p ∨ Fo p = true) → s.ouT p (s.tu j) ≤ X)) → t.en j (s.tu j) = e) : WH D s t j R T F Fo En := ⟨rd_, R_, RT_, ga_, F_, O_, E_, E2_⟩
section S42
variable {d : Nat} {I : Nat → Nat → Int32} {J : Nat → Nat → Int64} {D : DZ} {s : MS} {t : TS} {j R T : Nat} {F Fo : Nat → Bool} {En : Bool}
theorem NB_wk (hN : NB D s) (hj : j < D.nb) (h : WH D s t j R T F Fo En) (i q : Nat) : NB D (wk0 D s j F Fo i q) := by
  have htu := hN.tu j hj
  refine NB.mk hN.tu (fun c hc => ?_) hN.le (fun p hp => ?_) hN.of
  · show (if c < i ∧ D.fm c = j ∧ F c = true then s.ga c + 1 else s.ga c) ≤ 1001
    have := hN.ga c hc
    split
    · rename_i hh
      rcases h.F c hc hh.2.1 with h1 | h1
      · omega
      · rw [h1.1] at hh
        exact absurd hh.2.2 (by decide)
    · exact this
  · show (if p < q ∧ D.ofm p = j ∧ Fo p = true then s.ou p + 1 else s.ou p) ≤ 1001
    have := hN.ou p hp
    split
    · rename_i hh
      rcases h.O p hp hh.2.1 with h1 | h1
      · omega
      · rw [h1.1] at hh
        exact absurd hh.2.2 (by decide)
    · exact this
theorem wk_gaE {q : Nat} (h : WH D s t j R T F Fo En) {c : Nat} (hc : c < D.nc) (ec : D.fm c = j) : s.tu j < (wk0 D s j F Fo (c + 1) q).ga c ↔ (s.tu j < s.ga c ∨ F c = true) := by
  show s.tu j < (if c < c + 1 ∧ D.fm c = j ∧ F c = true then s.ga c + 1 else s.ga c) ↔ _
  rcases h.F c hc ec with h1 | h1
  · rw [if_pos ⟨by omega, ec, h1.1⟩]
    exact ⟨fun _ => Or.inr h1.1, fun _ => by omega⟩
  · rw [if_neg (fun z => by rw [h1.1] at z; exact absurd z.2.2 (by decide))]
    exact ⟨Or.inl, fun z => z.elim id (fun y => by rw [h1.1] at y; exact absurd y (by decide))⟩
theorem wk_ouE {i : Nat} (h : WH D s t j R T F Fo En) {p : Nat} (hp : p < D.no) (ep : D.ofm p = j) : s.tu j < (wk0 D s j F Fo i (p + 1)).ou p ↔ (s.tu j < s.ou p ∨ Fo p = true) := by
  show s.tu j < (if p < p + 1 ∧ D.ofm p = j ∧ Fo p = true then s.ou p + 1 else s.ou p) ↔ _
  rcases h.O p hp ep with h1 | h1
  · rw [if_pos ⟨by omega, ep, h1.1⟩]
    exact ⟨fun _ => Or.inr h1.1, fun _ => by omega⟩
  · rw [if_neg (fun z => by rw [h1.1] at z; exact absurd z.2.2 (by decide))]
    exact ⟨Or.inl, fun z => z.elim id (fun y => by rw [h1.1] at y; exact absurd y (by decide))⟩
/-- the gift, whether it is given or not -/
theorem wk_give {c : Nat} (hD : DW D) (rM : RMD I D) (hN : NB D s) (hB : TB s t) (hj : j < D.nb) (hT : T < 1000) (h : WH D s t j R T F Fo En) (hc : c < D.nc) (ec : D.fm c = j) (rS : RMS I D (wk0 D s j F Fo c 0) t) : ∃ I' r, pm_Go (d + 2) m_M_give 0 [some (.ref 69), some (.int (nI c)), some (.int (nI R)), some (.int (nI T)), none, none] [] 0 0 (ST I J) (.inl (some (.int r)), ST I' J) ∧ (r = 0 ∨ r = 1) ∧ (F c = false → r = 0) ∧ RMS I' D (wk0 D s j F Fo (c + 1) 0) t ∧ fr wkL I I' := by
  have hN2 := NB_wk hN hj h c 0
  have hB2 : TB (wk0 D s j F Fo c 0) t := hB
  have hRT := h.RT
  have ega : (wk0 D s j F Fo c 0).ga c = s.ga c := by
    show (if c < c ∧ D.fm c = j ∧ F c = true then s.ga c + 1 else s.ga c) = s.ga c
    rw [if_neg (fun z => absurd z.1 (by omega))]
  rcases h.F c hc ec with ⟨h1, h2, h3, h4, h5, h6⟩ | ⟨h1, h2⟩
  · obtain ⟨I', a1, a2, a3⟩ := sp_M_giveY (d := d) (J := J) (c := c) (R := R) (T := T) hD rM rS hN2 hB2 hc (by omega) hT (by rw [ega, ec]; exact h2) (by rw [ec]; exact h3) (by rw [ec]; exact h4) (by rw [ec]; exact h5) (by rw [ec]; exact h6) (fun x hx ex => by
      rw [ec] at ex ⊢
      have h7 := h.ga x hx ex
      show s.tu j ≤ (if x < c ∧ D.fm x = j ∧ F x = true then s.ga x + 1 else s.ga x)
      split <;> omega) (fun p hp ep => by
      rw [ec] at ep ⊢
      exact ((rd_iff hD).mp h.rd).2 p hp ep)
    refine ⟨I', 1, a1, Or.inr rfl, fun z => by rw [h1] at z; exact absurd z (by decide), ?_, a3.up (by decide)⟩
    refine a2.cg rfl (fun _ _ => rfl) (fun _ _ _ _ => rfl) (fun _ _ _ _ => ⟨rfl, fun _ _ => rfl⟩) (fun x hx => ⟨?_, fun _ _ => rfl⟩) (fun _ _ => ⟨rfl, fun _ _ => rfl⟩) (fun _ _ => ⟨rfl, fun _ _ => ⟨rfl, rfl⟩⟩) (fun _ _ => ⟨rfl, fun _ _ => ⟨rfl, rfl⟩⟩)
    show (if x < c + 1 ∧ D.fm x = j ∧ F x = true then s.ga x + 1 else s.ga x) = (if x = c then (wk0 D s j F Fo c 0).ga c + 1 else (if x < c ∧ D.fm x = j ∧ F x = true then s.ga x + 1 else s.ga x))
    by_cases e : x = c
    · rw [if_pos e, ega, e, if_pos ⟨by omega, ec, h1⟩]
    · rw [if_neg e]
      by_cases e2 : x < c ∧ D.fm x = j ∧ F x = true
      · rw [if_pos e2, if_pos ⟨by omega, e2.2⟩]
      · rw [if_neg e2, if_neg (fun z => e2 ⟨by omega, z.2⟩)]
  · have a1 := sp_M_giveN (d := d) (J := J) (c := c) (R := R) (T := T) hD rM rS hN2 hB2 hc (by omega) hT (by rw [ega, ec]; exact h2)
    refine ⟨I, 0, a1, Or.inl rfl, fun _ => rfl, ?_, fr.rf⟩
    refine rS.cg rfl (fun _ _ => rfl) (fun _ _ _ _ => rfl) (fun _ _ _ _ => ⟨rfl, fun _ _ => rfl⟩) (fun x hx => ⟨?_, fun _ _ => rfl⟩) (fun _ _ => ⟨rfl, fun _ _ => rfl⟩) (fun _ _ => ⟨rfl, fun _ _ => ⟨rfl, rfl⟩⟩) (fun _ _ => ⟨rfl, fun _ _ => ⟨rfl, rfl⟩⟩)
    show (if x < c + 1 ∧ D.fm x = j ∧ F x = true then s.ga x + 1 else s.ga x) = (if x < c ∧ D.fm x = j ∧ F x = true then s.ga x + 1 else s.ga x)
    by_cases e2 : x < c ∧ D.fm x = j ∧ F x = true
    · rw [if_pos e2, if_pos ⟨by omega, e2.2⟩]
    · rw [if_neg e2, if_neg (fun z => e2 ⟨by
        by_cases e : x = c
        · rw [e, h1] at z; exact absurd z.2.2 (by decide)
        · omega, z.2⟩)]
theorem wk_out {p : Nat} (hD : DW D) (rM : RMD I D) (hN : NB D s) (hj : j < D.nb) (hT : T < 1000) (hst : ∀ q, q ≤ T → I 81 q = t.sl q) (h : WH D s t j R T F Fo En) (hp : p < D.no) (ep : D.ofm p = j) (rS : RMS I D (wk0 D s j F Fo D.nc p) t) : ∃ I' r, pm_Go (d + 2) m_M_giveOut 0 [some (.ref 69), some (.int (nI p)), some (.int (nI R)), some (.int (nI T)), none, none] [] 0 0 (ST I J) (.inl (some (.int r)), ST I' J) ∧ (r = 0 ∨ r = 1) ∧ (Fo p = false → r = 0) ∧ RMS I' D (wk0 D s j F Fo D.nc (p + 1)) t ∧ fr wkL I I' := by
  have hN2 := NB_wk hN hj h D.nc p
  have hRT := h.RT
  have eou : (wk0 D s j F Fo D.nc p).ou p = s.ou p := by
    show (if p < p ∧ D.ofm p = j ∧ Fo p = true then s.ou p + 1 else s.ou p) = s.ou p
    rw [if_neg (fun z => absurd z.1 (by omega))]
  rcases h.O p hp ep with ⟨h1, h2, X, h3, h4, h5, h6, h7, h8⟩ | ⟨h1, h2⟩
  · obtain ⟨I', a1, a2, a3⟩ := sp_M_giveOutY (d := d) (J := J) (p := p) (R := R) (T := T) (X := X) hD rM rS hN2 hp hT hst (by rw [eou, ep]; exact h2) h3 h4 h5 h6 (by rw [ep]; exact h7) (by rw [ep]; exact h8) (fun x hx ex => by
      rw [ep] at ex ⊢
      have h9 := h.ga x hx ex
      show s.tu j ≤ (if x < D.nc ∧ D.fm x = j ∧ F x = true then s.ga x + 1 else s.ga x)
      split <;> omega) (fun q hq eq => by
      rw [ep] at eq ⊢
      exact ((rd_iff hD).mp h.rd).2 q hq eq)
    refine ⟨I', 1, a1, Or.inr rfl, fun z => by rw [h1] at z; exact absurd z (by decide), ?_, a3.up (by decide)⟩
    refine a2.cg rfl (fun _ _ => rfl) (fun _ _ _ _ => rfl) (fun _ _ _ _ => ⟨rfl, fun _ _ => rfl⟩) (fun _ _ => ⟨rfl, fun _ _ => rfl⟩) (fun _ _ => ⟨rfl, fun _ _ => rfl⟩) (fun _ _ => ⟨rfl, fun _ _ => ⟨rfl, rfl⟩⟩) (fun x hx => ⟨?_, fun _ _ => ⟨rfl, rfl⟩⟩)
    show (if x < p + 1 ∧ D.ofm x = j ∧ Fo x = true then s.ou x + 1 else s.ou x) = (if x = p then (wk0 D s j F Fo D.nc p).ou p + 1 else (if x < p ∧ D.ofm x = j ∧ Fo x = true then s.ou x + 1 else s.ou x))
    by_cases e : x = p
    · rw [if_pos e, eou, e, if_pos ⟨by omega, ep, h1⟩]
    · rw [if_neg e]
      by_cases e2 : x < p ∧ D.ofm x = j ∧ Fo x = true
      · rw [if_pos e2, if_pos ⟨by omega, e2.2⟩]
      · rw [if_neg e2, if_neg (fun z => e2 ⟨by omega, z.2⟩)]
  · have a1 := sp_M_giveOutN (d := d) (J := J) (p := p) (R := R) (T := T) hD rM rS hN2 hp hRT hT hst (by rw [eou, ep]; exact h2)
    refine ⟨I, 0, a1, Or.inl rfl, fun _ => rfl, ?_, fr.rf⟩
    refine rS.cg rfl (fun _ _ => rfl) (fun _ _ _ _ => rfl) (fun _ _ _ _ => ⟨rfl, fun _ _ => rfl⟩) (fun _ _ => ⟨rfl, fun _ _ => rfl⟩) (fun _ _ => ⟨rfl, fun _ _ => rfl⟩) (fun _ _ => ⟨rfl, fun _ _ => ⟨rfl, rfl⟩⟩) (fun x hx => ⟨?_, fun _ _ => ⟨rfl, rfl⟩⟩)
    show (if x < p + 1 ∧ D.ofm x = j ∧ Fo x = true then s.ou x + 1 else s.ou x) = (if x < p ∧ D.ofm x = j ∧ Fo x = true then s.ou x + 1 else s.ou x)
    by_cases e2 : x < p ∧ D.ofm x = j ∧ Fo x = true
    · rw [if_pos e2, if_pos ⟨by omega, e2.2⟩]
    · rw [if_neg e2, if_neg (fun z => e2 ⟨by
        by_cases e : x = p
        · rw [e, h1] at z; exact absurd z.2.2 (by decide)
        · omega, z.2⟩)]
theorem sp_M_work0 (hD : DW D) (rM : RMD I D) (rS : RMS I D s t) (hN : NB D s) (hB : TB s t) (hj : j < D.nb) (hT : T < 1000) (h : rdM D s j = false ∨ T < rdR D t j (s.tu j)) : pm_Go (d + 3) m_M_work 0 [some (.ref 69), some (.int (nI j)), some (.int (nI T)), none, none, none, none, none, none] [] 0 0 (ST I J) (.inl (some (.int 0)), ST I J) := by
  have hb := hB.rd (D := D) (j := j) (k := s.tu j)
  cases hr : rdM D s j
  · have rr := sp_M_ready (d := d + 1) (J := J) (r := 1000000) hD rM rS hN hB hj (fun z => by rw [hr] at z; cases z) (fun _ => rfl)
    refine go_aload_n d_M_work_0 rfl ?_
    refine go_iload_n d_M_work_1 rfl ?_
    refine go_callV (k2 := m_M_ready) (As := [.int (nI j)]) (r := some (.int 1000000)) d_M_work_2 ok_M_ready (Nat.le_of_ble_eq_true rfl) rfl pc_M rfl vl_M_170 rfl rfl (Nat.le_of_ble_eq_true rfl) (Nat.le_of_ble_eq_true rfl) (Nat.le_of_ble_eq_true rfl) (Nat.le_of_ble_eq_true rfl) rfl rfl rr ?_
    refine go_istore_n d_M_work_5 (Nat.le_of_ble_eq_true rfl) rfl ?_
    refine go_iload_n d_M_work_6 rfl ?_
    refine go_iload_n d_M_work_7 rfl ?_
    refine go_icmp_le (tgt := 13) d_M_work_8 (by decide) (fun z => absurd z (nI_ge (b := 1000000) (by omega) (by decide))) (fun z => ?_)
    refine go_iconst (v := 0) d_M_work_11 (by decide) ?_
    exact go_zreturn (st := []) d_M_work_12 rfl (Nat.le_of_ble_eq_true rfl) (Nat.le_of_ble_eq_true rfl) rfl (Or.inl rfl)
  · have rr := sp_M_ready (d := d + 1) (J := J) (r := nI (rdR D t j (s.tu j))) hD rM rS hN hB hj (fun _ => rfl) (fun z => by rw [hr] at z; cases z)
    have h2 : T < rdR D t j (s.tu j) := h.resolve_left (fun z => by rw [hr] at z; cases z)
    refine go_aload_n d_M_work_0 rfl ?_
    refine go_iload_n d_M_work_1 rfl ?_
    refine go_callV (k2 := m_M_ready) (As := [.int (nI j)]) (r := some (.int (nI (rdR D t j (s.tu j))))) d_M_work_2 ok_M_ready (Nat.le_of_ble_eq_true rfl) rfl pc_M rfl vl_M_170 rfl rfl (Nat.le_of_ble_eq_true rfl) (Nat.le_of_ble_eq_true rfl) (Nat.le_of_ble_eq_true rfl) (Nat.le_of_ble_eq_true rfl) rfl rfl rr ?_
    refine go_istore_n d_M_work_5 (Nat.le_of_ble_eq_true rfl) rfl ?_
    refine go_iload_n d_M_work_6 rfl ?_
    refine go_iload_n d_M_work_7 rfl ?_
    refine go_icmp_le (tgt := 13) d_M_work_8 (by decide) (fun z => absurd z (nI_ge h2 (by omega))) (fun z => ?_)
    refine go_iconst (v := 0) d_M_work_11 (by decide) ?_
    exact go_zreturn (st := []) d_M_work_12 rfl (Nat.le_of_ble_eq_true rfl) (Nat.le_of_ble_eq_true rfl) rfl (Or.inl rfl)
def wkE (D : DZ) (s : MS) (j : Nat) (F Fo : Nat → Bool) (En : Bool) : MS := if En = true then tuS (wk0 D s j F Fo D.nc D.no) j else wk0 D s j F Fo D.nc D.no
theorem sp_M_work (hD : DW D) (rM : RMD I D) (rS : RMS I D s t) (hN : NB D s) (hB : TB s t) (hj : j < D.nb) (hT : T < 1000) (hst : ∀ q, q ≤ T → I 81 q = t.sl q) (h : WH D s t j R T F Fo En) : ∃ I' r, pm_Go (d + 3) m_M_work 0 [some (.ref 69), some (.int (nI j)), some (.int (nI T)), none, none, none, none, none, none] [] 0 0 (ST I J) (.inl (some (.int r)), ST I' J) ∧ (r = 0 ∨ r = 1) ∧ ((∀ c, c < D.nc → D.fm c = j → F c = false) → (∀ p, p < D.no → D.ofm p = j → Fo p = false) → En = false → r = 0) ∧ RMS I' D (wkE D s j F Fo En) t ∧ fr wkL I I' := by
  have h20 := hD.nc
  have h10 := hD.nb
  have hno := hD.no
  have hRT := h.RT
  have htu := hN.tu j hj
  have fin : ∀ (Ii : Nat → Nat → Int32) m a e c8, WQ D s t j R F Fo D.nc D.no m a e → RMS Ii D (wk0 D s j F Fo D.nc D.no) t → fr wkL I Ii → ∃ I' r, pm_Go (d + 3) m_M_work 260 [some (.ref 69), some (.int (nI j)), some (.int (nI T)), some (.int (nI R)), some (.int m), some (.int (nI (s.tu j))), some (.int (nI e)), some (.int a), some (.int c8)] [] 0 0 (ST Ii J) (.inl (some (.int r)), ST I' J) ∧ (r = 0 ∨ r = 1) ∧ ((∀ c, c < D.nc → D.fm c = j → F c = false) → (∀ p, p < D.no → D.ofm p = j → Fo p = false) → En = false → r = 0) ∧ RMS I' D (wkE D s j F Fo En) t ∧ fr wkL I I' := by
    intro Ii m a e c8 q1 q2 f1
    have hen : a = 1 ↔ En = true := by rw [q1.al, h.E]
    have heb := q1.eb
    rcases q1.a with rfl | rfl
    · have en0 : En = false := by
        cases hh : En
        · rfl
        · exact absurd (hen.mpr hh) (by decide)
      have ew : wkE D s j F Fo En = wk0 D s j F Fo D.nc D.no := by rw [wkE, if_neg (by rw [en0]; decide)]
      rw [ew]
      rcases q1.m with rfl | rfl
      · refine ⟨Ii, 0, ?_, Or.inl rfl, fun _ _ _ => rfl, q2, f1⟩
        refine go_iload d_M_work_260 rfl ?_
        refine go_if_eq (tgt := 290) d_M_work_262 (by decide) (fun z => ?_) (fun z => absurd rfl z)
        refine go_iload d_M_work_290 rfl ?_
        refine go_if_ne (tgt := 300) d_M_work_292 (by decide) (fun z => absurd rfl z) (fun z => ?_)
        refine go_iload d_M_work_295 rfl ?_
        refine go_if_eq (tgt := 304) d_M_work_297 (by decide) (fun z => ?_) (fun z => absurd rfl z)
        refine go_iconst (v := 0) d_M_work_304 (by decide) ?_
        exact go_zreturn (st := []) d_M_work_305 rfl (Nat.le_of_ble_eq_true rfl) (Nat.le_of_ble_eq_true rfl) rfl (Or.inl rfl)
      · refine ⟨Ii, 1, ?_, Or.inr rfl, fun z1 z2 _ => q1.m0 z1 z2, q2, f1⟩
        refine go_iload d_M_work_260 rfl ?_
        refine go_if_eq (tgt := 290) d_M_work_262 (by decide) (fun z => ?_) (fun z => absurd rfl z)
        refine go_iload d_M_work_290 rfl ?_
        refine go_if_ne (tgt := 300) d_M_work_292 (by decide) (fun z => ?_) (fun z => absurd z (by decide))
        refine go_iconst (v := 1) d_M_work_300 (by decide) ?_
        refine go_goto (tgt := 305) d_M_work_301 (by decide) ?_
        exact go_zreturn (st := []) d_M_work_305 rfl (Nat.le_of_ble_eq_true rfl) (Nat.le_of_ble_eq_true rfl) rfl (Or.inr rfl)
    · have en1 : En = true := hen.mp rfl
      have ew : wkE D s j F Fo En = tuS (wk0 D s j F Fo D.nc D.no) j := by rw [wkE, if_pos en1]
      have ee := h.E2 en1 e q1.e
      rw [ew]
      refine ⟨pm_uI (pm_uI Ii 87 (1002 * j + s.tu j) (nI e)) 88 j (nI (s.tu j + 1)), 1, ?_, Or.inr rfl, fun _ _ z => absurd (en1.symm.trans z) (by decide), ?_, (f1.tr (fr.uI (by decide))).tr (fr.uI (by decide))⟩
      · refine go_iload d_M_work_260 rfl ?_
        refine go_if_eq (tgt := 290) d_M_work_262 (by decide) (fun z => absurd z (by decide)) (fun z => ?_)
        refine go_aload_n d_M_work_265 rfl ?_
        refine go_getP (j := 25) d_M_work_266 (Nat.le_of_ble_eq_true rfl) rfl pc_M (Nat.le_of_ble_eq_true rfl) rfl w_727 pt_M_25 ?_
        refine go_sipush (v := 1002) d_M_work_269 (by decide) ?_
        refine go_iload_n d_M_work_272 rfl ?_
        refine go_imul d_M_work_273 ?_
        refine go_top (nI (1002 * j)) (pk_mul 1002 j) ?_
        refine go_iload d_M_work_274 rfl ?_
        refine go_iadd d_M_work_276 ?_
        refine go_top (nI (1002 * j + s.tu j)) (nI_add _ _) ?_
        refine go_iload d_M_work_277 rfl ?_
        refine go_ast (1002 * j + s.tu j) d_M_work_279 (Nat.le_of_ble_eq_true rfl) rfl rfl (by omega) (by decide) ?_
        refine go_aload_n d_M_work_280 rfl ?_
        refine go_getP (j := 26) d_M_work_281 (Nat.le_of_ble_eq_true rfl) rfl pc_M (Nat.le_of_ble_eq_true rfl) rfl w_728 pt_M_26 ?_
        refine go_iload_n d_M_work_284 rfl ?_
        refine go_iload d_M_work_285 rfl ?_
        refine go_iconst (v := 1) d_M_work_287 (by decide) ?_
        refine go_iadd d_M_work_288 ?_
        refine go_top (nI (s.tu j + 1)) (nI_1 _) ?_
        refine go_ast j d_M_work_289 (Nat.le_of_ble_eq_true rfl) rfl rfl (by omega) (by decide) ?_
        refine go_iload d_M_work_290 rfl ?_
        rcases q1.m with rfl | rfl
        · refine go_if_ne (tgt := 300) d_M_work_292 (by decide) (fun z => absurd rfl z) (fun z => ?_)
          refine go_iload d_M_work_295 rfl ?_
          refine go_if_eq (tgt := 304) d_M_work_297 (by decide) (fun z => absurd z (by decide)) (fun z => ?_)
          refine go_iconst (v := 1) d_M_work_300 (by decide) ?_
          refine go_goto (tgt := 305) d_M_work_301 (by decide) ?_
          exact go_zreturn (st := []) d_M_work_305 rfl (Nat.le_of_ble_eq_true rfl) (Nat.le_of_ble_eq_true rfl) rfl (Or.inr rfl)
        · refine go_if_ne (tgt := 300) d_M_work_292 (by decide) (fun z => ?_) (fun z => absurd z (by decide))
          refine go_iconst (v := 1) d_M_work_300 (by decide) ?_
          refine go_goto (tgt := 305) d_M_work_301 (by decide) ?_
          exact go_zreturn (st := []) d_M_work_305 rfl (Nat.le_of_ble_eq_true rfl) (Nat.le_of_ble_eq_true rfl) rfl (Or.inr rfl)
      · have at1 : ∀ x y, pm_uI (pm_uI Ii 87 (1002 * j + s.tu j) (nI e)) 88 j (nI (s.tu j + 1)) x y = if x = 88 ∧ y = j then nI (s.tu j + 1) else if x = 87 ∧ y = 1002 * j + s.tu j then nI e else Ii x y := by
          intro x y
          simp only [uI_at]
        refine RMS.mk q2.T q2.st q2.tk q2.lf q2.ga ?_ q2.of q2.ou
        intro x hx
        have htx := hN.tu x hx
        obtain ⟨g1, g2⟩ := q2.tu x hx
        constructor
        · show _ = nI (if x = j then s.tu j + 1 else s.tu x)
          rw [at1]
          by_cases e5 : x = j
          · rw [if_pos ⟨rfl, e5⟩, if_pos e5]
          · rw [if_neg (fun z => e5 z.2), if_neg (by omega), if_neg e5]
            exact g1
        · intro k hk
          have hk2 : k < (if x = j then s.tu j + 1 else s.tu x) := hk
          rw [at1, if_neg (by omega)]
          by_cases e5 : x = j ∧ k = s.tu j
          · obtain ⟨rfl, rfl⟩ := e5
            rw [if_pos ⟨rfl, rfl⟩, ee]
          · have hk3 : k < s.tu x := by
              by_cases e2 : x = j
              · rw [if_pos e2] at hk2
                subst e2
                omega
              · rw [if_neg e2] at hk2
                exact hk2
            rw [if_neg (by omega)]
            exact g2 k hk3
  have lp : ∀ n p (Ii : Nat → Nat → Int32) m a e, D.no - p = n → p ≤ D.no → WQ D s t j R F Fo D.nc p m a e → RMS Ii D (wk0 D s j F Fo D.nc p) t → fr wkL I Ii → ∃ I' r, pm_Go (d + 3) m_M_work 148 [some (.ref 69), some (.int (nI j)), some (.int (nI T)), some (.int (nI R)), some (.int m), some (.int (nI (s.tu j))), some (.int (nI e)), some (.int a), some (.int (nI p))] [] 0 0 (ST Ii J) (.inl (some (.int r)), ST I' J) ∧ (r = 0 ∨ r = 1) ∧ ((∀ c, c < D.nc → D.fm c = j → F c = false) → (∀ p, p < D.no → D.ofm p = j → Fo p = false) → En = false → r = 0) ∧ RMS I' D (wkE D s j F Fo En) t ∧ fr wkL I I' := by
    intro n
    induction n with
    | zero =>
      intro p Ii m a e hn hp q1 q2 f1
      have : p = D.no := by omega
      subst this
      have rMi : RMD Ii D := rM.fr f1 (by decide)
      obtain ⟨I', r, i1, i2⟩ := fin Ii m a e (nI D.no) q1 q2 f1
      refine ⟨I', r, ?_, i2⟩
      refine go_iload d_M_work_148 rfl ?_
      refine go_aload_n d_M_work_150 rfl ?_
      refine go_gI (j := 14) (nI D.no) d_M_work_151 (Nat.le_of_ble_eq_true rfl) rfl pc_M (Nat.le_of_ble_eq_true rfl) (by decide) w_716 rMi.no ?_
      refine go_icmp_ge (tgt := 260) d_M_work_154 (by decide) (fun z => ?_) (fun z => absurd (nI_le (Nat.le_refl _) (by omega)) z)
      exact i1
    | succ n ih =>
      intro p Ii m a e hn hp q1 q2 f1
      have hp2 : p < D.no := by omega
      have rMi : RMD Ii D := rM.fr f1 (by decide)
      have hof := hD.ot p hp2
      by_cases ep : D.ofm p = j
      · obtain ⟨I2, r, g1, g2, g3, g4, g5⟩ := wk_out (d := d) (J := J) hD rMi hN hj hT (by rw [f1 81 (by decide)]; exact hst) h hp2 ep q2
        have hgE := wk_ouE (i := D.nc) h hp2 ep
        have hN2 := (NB_wk hN hj h D.nc (p + 1)).ou p hp2
        have hot := hB.ot p (s.tu j)
        have heb := q1.eb
        obtain ⟨v1, v2⟩ := g4.ou p hp2
        obtain ⟨I', r', i1, i2⟩ := ih (p + 1) I2 _ _ _ (by omega) (by omega) (WQ_pg q1 ep g3 hgE hot) g4 (f1.tr g5)
        refine ⟨I', r', ?_, i2⟩
        refine go_iload d_M_work_148 rfl ?_
        refine go_aload_n d_M_work_150 rfl ?_
        refine go_gI (j := 14) (nI D.no) d_M_work_151 (Nat.le_of_ble_eq_true rfl) rfl pc_M (Nat.le_of_ble_eq_true rfl) (by decide) w_716 rMi.no ?_
        refine go_icmp_ge (tgt := 260) d_M_work_154 (by decide) (fun z => absurd z (nI_ge (by omega) (by omega))) (fun z => ?_)
        refine go_aload_n d_M_work_157 rfl ?_
        refine go_getP (j := 15) d_M_work_158 (Nat.le_of_ble_eq_true rfl) rfl pc_M (Nat.le_of_ble_eq_true rfl) rfl w_717 pt_M_15 ?_
        refine go_iload d_M_work_161 rfl ?_
        refine go_ald p (nI (D.ofm p)) d_M_work_163 (Nat.le_of_ble_eq_true rfl) rfl rfl (by omega) (by decide) (rMi.ot p hp2).1 ?_
        refine go_iload_n d_M_work_164 rfl ?_
        refine go_icmp_ne (tgt := 254) d_M_work_165 (by decide) (fun z => absurd (congrArg nI ep) z) (fun z => ?_)
        refine go_aload_n d_M_work_168 rfl ?_
        refine go_iload d_M_work_169 rfl ?_
        refine go_iload_n d_M_work_171 rfl ?_
        refine go_iload_n d_M_work_172 rfl ?_
        refine go_callV (k2 := m_M_giveOut) (As := [.int (nI p), .int (nI R), .int (nI T)]) (r := some (.int r)) d_M_work_173 ok_M_giveOut (Nat.le_of_ble_eq_true rfl) rfl pc_M rfl vl_M_178 rfl rfl (Nat.le_of_ble_eq_true rfl) (Nat.le_of_ble_eq_true rfl) (Nat.le_of_ble_eq_true rfl) (Nat.le_of_ble_eq_true rfl) rfl rfl g1 ?_
        refine M_wk_ps g2 q1.m ?_
        refine M_wk_pa (g := (wk0 D s j F Fo D.nc (p + 1)).ou p) (by omega) (by omega) (by omega) q1.a v1 ?_
        refine M_wk_pe (g := (wk0 D s j F Fo D.nc (p + 1)).ou p) (x := s.ouT p (s.tu j)) (by omega) (by omega) (by omega) (by omega) (by omega) v1 (fun z => (v2 _ z).2) ?_
        refine go_iinc (v := nI (p + 1)) d_M_work_254 rfl (by first | rfl | exact nI_1 _) rfl ?_
        refine go_goto (tgt := 148) d_M_work_257 (by decide) ?_
        exact i1
      · obtain ⟨I', r', i1, i2⟩ := ih (p + 1) Ii m a e (by omega) (by omega) (WQ_ps q1 ep) (by
          refine q2.cg rfl (fun _ _ => rfl) (fun _ _ _ _ => rfl) (fun _ _ _ _ => ⟨rfl, fun _ _ => rfl⟩) (fun _ _ => ⟨rfl, fun _ _ => rfl⟩) (fun _ _ => ⟨rfl, fun _ _ => rfl⟩) (fun _ _ => ⟨rfl, fun _ _ => ⟨rfl, rfl⟩⟩) (fun x hx => ⟨?_, fun _ _ => ⟨rfl, rfl⟩⟩)
          show (if x < p + 1 ∧ D.ofm x = j ∧ Fo x = true then s.ou x + 1 else s.ou x) = (if x < p ∧ D.ofm x = j ∧ Fo x = true then s.ou x + 1 else s.ou x)
          by_cases e2 : x < p ∧ D.ofm x = j ∧ Fo x = true
          · rw [if_pos e2, if_pos ⟨by omega, e2.2⟩]
          · rw [if_neg e2, if_neg (fun z => e2 ⟨by
              by_cases e : x = p
              · rw [e] at z; exact absurd z.2.1 ep
              · omega, z.2⟩)]) f1
        refine ⟨I', r', ?_, i2⟩
        refine go_iload d_M_work_148 rfl ?_
        refine go_aload_n d_M_work_150 rfl ?_
        refine go_gI (j := 14) (nI D.no) d_M_work_151 (Nat.le_of_ble_eq_true rfl) rfl pc_M (Nat.le_of_ble_eq_true rfl) (by decide) w_716 rMi.no ?_
        refine go_icmp_ge (tgt := 260) d_M_work_154 (by decide) (fun z => absurd z (nI_ge (by omega) (by omega))) (fun z => ?_)
        refine go_aload_n d_M_work_157 rfl ?_
        refine go_getP (j := 15) d_M_work_158 (Nat.le_of_ble_eq_true rfl) rfl pc_M (Nat.le_of_ble_eq_true rfl) rfl w_717 pt_M_15 ?_
        refine go_iload d_M_work_161 rfl ?_
        refine go_ald p (nI (D.ofm p)) d_M_work_163 (Nat.le_of_ble_eq_true rfl) rfl rfl (by omega) (by decide) (rMi.ot p hp2).1 ?_
        refine go_iload_n d_M_work_164 rfl ?_
        refine go_icmp_ne (tgt := 254) d_M_work_165 (by decide) (fun z => ?_) (fun z => absurd z (nI_neq (by omega) (by omega) ep))
        refine go_iinc (v := nI (p + 1)) d_M_work_254 rfl (by first | rfl | exact nI_1 _) rfl ?_
        refine go_goto (tgt := 148) d_M_work_257 (by decide) ?_
        exact i1
  have lc : ∀ n c (Ii : Nat → Nat → Int32) m a e, D.nc - c = n → c ≤ D.nc → WQ D s t j R F Fo c 0 m a e → RMS Ii D (wk0 D s j F Fo c 0) t → fr wkL I Ii → ∃ I' r, pm_Go (d + 3) m_M_work 33 [some (.ref 69), some (.int (nI j)), some (.int (nI T)), some (.int (nI R)), some (.int m), some (.int (nI (s.tu j))), some (.int (nI e)), some (.int a), some (.int (nI c))] [] 0 0 (ST Ii J) (.inl (some (.int r)), ST I' J) ∧ (r = 0 ∨ r = 1) ∧ ((∀ c, c < D.nc → D.fm c = j → F c = false) → (∀ p, p < D.no → D.ofm p = j → Fo p = false) → En = false → r = 0) ∧ RMS I' D (wkE D s j F Fo En) t ∧ fr wkL I I' := by
    intro n
    induction n with
    | zero =>
      intro c Ii m a e hn hc q1 q2 f1
      have : c = D.nc := by omega
      subst this
      have rMi : RMD Ii D := rM.fr f1 (by decide)
      obtain ⟨I', r, i1, i2⟩ := lp D.no 0 Ii m a e (by omega) (by omega) q1 q2 f1
      refine ⟨I', r, ?_, i2⟩
      refine go_iload d_M_work_33 rfl ?_
      refine go_aload_n d_M_work_35 rfl ?_
      refine go_gI (j := 5) (nI D.nc) d_M_work_36 (Nat.le_of_ble_eq_true rfl) rfl pc_M (Nat.le_of_ble_eq_true rfl) (by decide) w_707 rMi.nc ?_
      refine go_icmp_ge (tgt := 145) d_M_work_39 (by decide) (fun z => ?_) (fun z => absurd (nI_le (Nat.le_refl _) (by omega)) z)
      refine go_iconst (v := 0) d_M_work_145 (by decide) ?_
      refine go_istore d_M_work_146 (Nat.le_of_ble_eq_true rfl) rfl ?_
      exact i1
    | succ n ih =>
      intro c Ii m a e hn hc q1 q2 f1
      have hc2 : c < D.nc := by omega
      have rMi : RMD Ii D := rM.fr f1 (by decide)
      have hof := (hD.ch c hc2).1
      by_cases ec : D.fm c = j
      · obtain ⟨I2, r, g1, g2, g3, g4, g5⟩ := wk_give (d := d) (J := J) hD rMi hN hB hj hT h hc2 ec q2
        have hgE := wk_gaE (q := 0) h hc2 ec
        have hN2 := (NB_wk hN hj h (c + 1) 0).ga c hc2
        have hot := hB.gt c (s.tu j)
        have heb := q1.eb
        obtain ⟨v1, v2⟩ := g4.ga c hc2
        obtain ⟨I', r', i1, i2⟩ := ih (c + 1) I2 _ _ _ (by omega) (by omega) (WQ_cg q1 ec g3 hgE hot) g4 (f1.tr g5)
        refine ⟨I', r', ?_, i2⟩
        refine go_iload d_M_work_33 rfl ?_
        refine go_aload_n d_M_work_35 rfl ?_
        refine go_gI (j := 5) (nI D.nc) d_M_work_36 (Nat.le_of_ble_eq_true rfl) rfl pc_M (Nat.le_of_ble_eq_true rfl) (by decide) w_707 rMi.nc ?_
        refine go_icmp_ge (tgt := 145) d_M_work_39 (by decide) (fun z => absurd z (nI_ge (by omega) (by omega))) (fun z => ?_)
        refine go_aload_n d_M_work_42 rfl ?_
        refine go_getP (j := 6) d_M_work_43 (Nat.le_of_ble_eq_true rfl) rfl pc_M (Nat.le_of_ble_eq_true rfl) rfl w_708 pt_M_6 ?_
        refine go_iload d_M_work_46 rfl ?_
        refine go_ald c (nI (D.fm c)) d_M_work_48 (Nat.le_of_ble_eq_true rfl) rfl rfl (by omega) (by decide) (rMi.ch c hc2).1 ?_
        refine go_iload_n d_M_work_49 rfl ?_
        refine go_icmp_ne (tgt := 139) d_M_work_50 (by decide) (fun z => absurd (congrArg nI ec) z) (fun z => ?_)
        refine go_aload_n d_M_work_53 rfl ?_
        refine go_iload d_M_work_54 rfl ?_
        refine go_iload_n d_M_work_56 rfl ?_
        refine go_iload_n d_M_work_57 rfl ?_
        refine go_callV (k2 := m_M_give) (As := [.int (nI c), .int (nI R), .int (nI T)]) (r := some (.int r)) d_M_work_58 ok_M_give (Nat.le_of_ble_eq_true rfl) rfl pc_M rfl vl_M_174 rfl rfl (Nat.le_of_ble_eq_true rfl) (Nat.le_of_ble_eq_true rfl) (Nat.le_of_ble_eq_true rfl) (Nat.le_of_ble_eq_true rfl) rfl rfl g1 ?_
        refine M_wk_cs g2 q1.m ?_
        refine M_wk_ca (g := (wk0 D s j F Fo (c + 1) 0).ga c) (by omega) (by omega) (by omega) q1.a v1 ?_
        refine M_wk_ce (g := (wk0 D s j F Fo (c + 1) 0).ga c) (x := t.gt c (s.tu j)) (by omega) (by omega) (by omega) (by omega) (by omega) v1 (fun z => v2 _ z) ?_
        refine go_iinc (v := nI (c + 1)) d_M_work_139 rfl (by first | rfl | exact nI_1 _) rfl ?_
        refine go_goto (tgt := 33) d_M_work_142 (by decide) ?_
        exact i1
      · obtain ⟨I', r', i1, i2⟩ := ih (c + 1) Ii m a e (by omega) (by omega) (WQ_cs q1 ec) (by
          refine q2.cg rfl (fun _ _ => rfl) (fun _ _ _ _ => rfl) (fun _ _ _ _ => ⟨rfl, fun _ _ => rfl⟩) (fun x hx => ⟨?_, fun _ _ => rfl⟩) (fun _ _ => ⟨rfl, fun _ _ => rfl⟩) (fun _ _ => ⟨rfl, fun _ _ => ⟨rfl, rfl⟩⟩) (fun _ _ => ⟨rfl, fun _ _ => ⟨rfl, rfl⟩⟩)
          show (if x < c + 1 ∧ D.fm x = j ∧ F x = true then s.ga x + 1 else s.ga x) = (if x < c ∧ D.fm x = j ∧ F x = true then s.ga x + 1 else s.ga x)
          by_cases e2 : x < c ∧ D.fm x = j ∧ F x = true
          · rw [if_pos e2, if_pos ⟨by omega, e2.2⟩]
          · rw [if_neg e2, if_neg (fun z => e2 ⟨by
              by_cases e : x = c
              · rw [e] at z; exact absurd z.2.1 ec
              · omega, z.2⟩)]) f1
        refine ⟨I', r', ?_, i2⟩
        refine go_iload d_M_work_33 rfl ?_
        refine go_aload_n d_M_work_35 rfl ?_
        refine go_gI (j := 5) (nI D.nc) d_M_work_36 (Nat.le_of_ble_eq_true rfl) rfl pc_M (Nat.le_of_ble_eq_true rfl) (by decide) w_707 rMi.nc ?_
        refine go_icmp_ge (tgt := 145) d_M_work_39 (by decide) (fun z => absurd z (nI_ge (by omega) (by omega))) (fun z => ?_)
        refine go_aload_n d_M_work_42 rfl ?_
        refine go_getP (j := 6) d_M_work_43 (Nat.le_of_ble_eq_true rfl) rfl pc_M (Nat.le_of_ble_eq_true rfl) rfl w_708 pt_M_6 ?_
        refine go_iload d_M_work_46 rfl ?_
        refine go_ald c (nI (D.fm c)) d_M_work_48 (Nat.le_of_ble_eq_true rfl) rfl rfl (by omega) (by decide) (rMi.ch c hc2).1 ?_
        refine go_iload_n d_M_work_49 rfl ?_
        refine go_icmp_ne (tgt := 139) d_M_work_50 (by decide) (fun z => ?_) (fun z => absurd z (nI_neq (by omega) (by omega) ec))
        refine go_iinc (v := nI (c + 1)) d_M_work_139 rfl (by first | rfl | exact nI_1 _) rfl ?_
        refine go_goto (tgt := 33) d_M_work_142 (by decide) ?_
        exact i1
  have rr := sp_M_ready (d := d + 1) (J := J) (r := nI R) hD rM rS hN hB hj (fun _ => by rw [h.R]) (fun z => by rw [h.rd] at z; cases z)
  obtain ⟨I', r, i1, i2⟩ := lc D.nc 0 I 0 1 R (by omega) (by omega) (WQ_0 (by omega)) (by
    refine rS.cg rfl (fun _ _ => rfl) (fun _ _ _ _ => rfl) (fun _ _ _ _ => ⟨rfl, fun _ _ => rfl⟩) (fun x hx => ⟨?_, fun _ _ => rfl⟩) (fun _ _ => ⟨rfl, fun _ _ => rfl⟩) (fun _ _ => ⟨rfl, fun _ _ => ⟨rfl, rfl⟩⟩) (fun x hx => ⟨?_, fun _ _ => ⟨rfl, rfl⟩⟩)
    · show (if x < 0 ∧ D.fm x = j ∧ F x = true then s.ga x + 1 else s.ga x) = s.ga x
      rw [if_neg (fun z => absurd z.1 (by omega))]
    · show (if x < 0 ∧ D.ofm x = j ∧ Fo x = true then s.ou x + 1 else s.ou x) = s.ou x
      rw [if_neg (fun z => absurd z.1 (by omega))]) fr.rf
  refine ⟨I', r, ?_, i2⟩
  refine go_aload_n d_M_work_0 rfl ?_
  refine go_iload_n d_M_work_1 rfl ?_
  refine go_callV (k2 := m_M_ready) (As := [.int (nI j)]) (r := some (.int (nI R))) d_M_work_2 ok_M_ready (Nat.le_of_ble_eq_true rfl) rfl pc_M rfl vl_M_170 rfl rfl (Nat.le_of_ble_eq_true rfl) (Nat.le_of_ble_eq_true rfl) (Nat.le_of_ble_eq_true rfl) (Nat.le_of_ble_eq_true rfl) rfl rfl rr ?_
  refine go_istore_n d_M_work_5 (Nat.le_of_ble_eq_true rfl) rfl ?_
  refine go_iload_n d_M_work_6 rfl ?_
  refine go_iload_n d_M_work_7 rfl ?_
  refine go_icmp_le (tgt := 13) d_M_work_8 (by decide) (fun z => ?_) (fun z => absurd (nI_le hRT (by omega)) z)
  refine go_iconst (v := 0) d_M_work_13 (by decide) ?_
  refine go_istore d_M_work_14 (Nat.le_of_ble_eq_true rfl) rfl ?_
  refine go_aload_n d_M_work_16 rfl ?_
  refine go_getP (j := 26) d_M_work_17 (Nat.le_of_ble_eq_true rfl) rfl pc_M (Nat.le_of_ble_eq_true rfl) rfl w_728 pt_M_26 ?_
  refine go_iload_n d_M_work_20 rfl ?_
  refine go_ald j (nI (s.tu j)) d_M_work_21 (Nat.le_of_ble_eq_true rfl) rfl rfl (by omega) (by decide) (rS.tu j hj).1 ?_
  refine go_istore d_M_work_22 (Nat.le_of_ble_eq_true rfl) rfl ?_
  refine go_iload_n d_M_work_24 rfl ?_
  refine go_istore d_M_work_25 (Nat.le_of_ble_eq_true rfl) rfl ?_
  refine go_iconst (v := 1) d_M_work_27 (by decide) ?_
  refine go_istore d_M_work_28 (Nat.le_of_ble_eq_true rfl) rfl ?_
  refine go_iconst (v := 0) d_M_work_30 (by decide) ?_
  refine go_istore d_M_work_31 (Nat.le_of_ble_eq_true rfl) rfl ?_
  exact i1
end S42
