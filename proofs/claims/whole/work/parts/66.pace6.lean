/-! the pace is found -/
section S63
variable {d : Nat} {I : Nat → Nat → Int32} {J : Nat → Nat → Int64} {D : DZ}
def paL : List Nat := [62, 63, 64, 65, 66, 67, 68]
theorem At_1 (hD : DW D) : AtG (gE D D.nb D.nc) (ndE D) 1 1 := by
  by_cases h : D.nb = 0
  · left
    have hc : D.nc = 0 := by
      by_cases e : D.nc = 0
      · exact e
      · have := (hD.ch 0 (by omega)).1
        omega
    rw [h, hc]
    exact ⟨rfl, rfl, rfl⟩
  · right
    have m1 : ((0, 10 + 0, 0, 0) : ra_A) ∈ gE D D.nb D.nc := gE_mem.mpr (Or.inl ⟨0, by omega, by simp [gB1]⟩)
    have m2 : ((10 + 0, 0, 1, 1) : ra_A) ∈ gE D D.nb D.nc := gE_mem.mpr (Or.inl ⟨0, by omega, by simp [gB1]⟩)
    refine ⟨0, [(0, 10 + 0, 0, 0), (10 + 0, 0, 1, 1)], ⟨m1, rfl, m2, rfl, rfl⟩, by simp, ?_, by decide, by decide⟩
    show 2 ≤ ndE D
    unfold ndE
    omega
theorem sp_find (hD : DW D) (rD : RD I D) (h1 : I 62 1 = 0) : ∃ I' r, pm_Go (d + 3) m_A_find 0 [some (.ref 62), none, none] [] 0 0 (ST I J) (.inl none, ST I' J) ∧ isR D r ∧ I' 62 1 = 1 ∧ I' 62 2 = nI r.1 ∧ I' 62 3 = nI r.2 ∧ fr paL I I' := by
  have hN := ndE_b hD
  have hG := GW_E hD
  have hm := mE_a hD
  have hml := mE_l D
  obtain ⟨I1, a1, a2, a3, a4, a5⟩ := sp_drawGraph (d := d) (J := J) hD rD
  have f1 : fr paL I (pm_uI (pm_uI I1 62 2 1) 62 3 1) := ((a5.up (by decide)).tr (fr.uI (by decide))).tr (fr.uI (by decide))
  have loop : ∀ k i t l (Ii : Nat → Nat → Int32) (w2 : Option Value), muT t l ≤ k → i + k ≤ 20000 → RG Ii (gE D D.nb D.nc) → Ii 62 4 = nI (ndE D) → Ii 62 2 = nI t → Ii 62 3 = nI l → AtG (gE D D.nb D.nc) (ndE D) t l → Nat.gcd t l = 1 → 1 ≤ l → l ≤ 100 → t ≤ l → fr paL I Ii → pm_lt 104 [w2] [] = true → ∃ I' r, pm_Go (d + 3) m_A_find 24 [some (.ref 62), some (.int (nI i)), w2] [] 0 0 (ST Ii J) (.inl none, ST I' J) ∧ isR D r ∧ I' 62 1 = 1 ∧ I' 62 2 = nI r.1 ∧ I' 62 3 = nI r.2 ∧ fr paL I I' := by
    intro k
    induction k with
    | zero =>
      intro i t l Ii w2 hk hi rG e4 e2 e3 hA hg hl1 hl2 htl f1 hw
      obtain ⟨I2, x, b1, b2, b3⟩ := sp_onLowerCycle (d := d + 1) (J := J) (mE D) rG hG e2 e3 (by rw [hml]; exact e4) (by omega) hm (by omega) hl2
      rcases b2 with ⟨h6, h7⟩ | ⟨u, q, s, B, h6, h7, rX, hI, q1, q2, q3, q4⟩
      · subst h6
        have f2 : fr paL I (pm_uI I2 62 1 1) := (f1.tr (b3.up (by decide))).tr (fr.uI (by decide))
        refine ⟨pm_uI I2 62 1 1, (t, l), ?_, ⟨hA, hg, hl1, h7⟩, rfl, ?_, ?_, f2⟩
        · refine go_iload_n d_A_find_24 rfl ?_
          refine go_ldc (v := 1000000) d_A_find_25 w_673 ?_
          refine go_icmp_ge (tgt := 54) d_A_find_27 (by decide) (fun z => absurd z (nI_ge (b := 1000000) (by omega) (by decide))) (fun z => ?_)
          refine go_aload_n d_A_find_30 rfl ?_
          refine go_callV (k2 := m_A_onLowerCycle) (As := []) (r := some (.int (-1)))  d_A_find_31 ok_A_onLowerCycle (Nat.le_of_ble_eq_true rfl) rfl pc_A rfl vl_A_55 rfl rfl (Nat.le_of_ble_eq_true rfl) (Nat.le_of_ble_eq_true rfl) (Nat.le_of_ble_eq_true rfl) (Nat.le_of_ble_eq_true rfl) (by cases w2 <;> simp_all [pm_lt, pm_ltV]) rfl b1 ?_
          refine go_istore_n d_A_find_34 (Nat.le_of_ble_eq_true rfl) rfl ?_
          refine go_iload_n d_A_find_35 rfl ?_
          refine go_iconst (v := -1) d_A_find_36 (by decide) ?_
          refine go_icmp_ne (tgt := 43) d_A_find_37 (by decide) (fun z => absurd rfl z) (fun z => ?_)
          refine go_goto (tgt := 54) d_A_find_40 (by decide) ?_
          refine go_aload_n d_A_find_54 rfl ?_
          refine go_iconst (v := 1) d_A_find_55 (by decide) ?_
          refine go_pI (j := 1) d_A_find_56 (Nat.le_of_ble_eq_true rfl) rfl pc_A (Nat.le_of_ble_eq_true rfl) (by decide) w_201 rfl (Or.inr ⟨rfl, Or.inr rfl⟩) ?_
          exact go_vreturn (st := []) d_A_find_59 rfl (Nat.le_of_ble_eq_true rfl) (Nat.le_of_ble_eq_true rfl) rfl
        · rw [uI_nj (by decide), b3 62 (by decide)]; exact e2
        · rw [uI_nj (by decide), b3 62 (by decide)]; exact e3
      · have rG2 : RG I2 (gE D D.nb D.nc) := RG.mk (by rw [b3 62 (by decide)]; exact rG.n) (by rw [b3 63 (by decide), b3 64 (by decide), b3 65 (by decide), b3 66 (by decide)]; exact rG.a)
        obtain ⟨I3, w, c1, c2, c3, c4, c5, c6, c7, c8, c9, c10, c11⟩ := sp_takeRatio (d := d) (J := J) (N := ndE D) rG2 hG (by rw [b3 62 (by decide)]; exact e4) hN (tk_pos hD) htl h7 rX hI q1 (by rw [← hml]; exact q2) q3 q4
        exfalso
        have hb := ra_wk_b hG w u u c2
        have h9 : muT (ra_tk w) (ra_ln w) < muT t l := mu_lt c5 hl1 hl2 c7 (by omega)
        omega
    | succ k ih =>
      intro i t l Ii w2 hk hi rG e4 e2 e3 hA hg hl1 hl2 htl f1 hw
      obtain ⟨I2, x, b1, b2, b3⟩ := sp_onLowerCycle (d := d + 1) (J := J) (mE D) rG hG e2 e3 (by rw [hml]; exact e4) (by omega) hm (by omega) hl2
      rcases b2 with ⟨h6, h7⟩ | ⟨u, q, s, B, h6, h7, rX, hI, q1, q2, q3, q4⟩
      · subst h6
        have f2 : fr paL I (pm_uI I2 62 1 1) := (f1.tr (b3.up (by decide))).tr (fr.uI (by decide))
        refine ⟨pm_uI I2 62 1 1, (t, l), ?_, ⟨hA, hg, hl1, h7⟩, rfl, ?_, ?_, f2⟩
        · refine go_iload_n d_A_find_24 rfl ?_
          refine go_ldc (v := 1000000) d_A_find_25 w_673 ?_
          refine go_icmp_ge (tgt := 54) d_A_find_27 (by decide) (fun z => absurd z (nI_ge (b := 1000000) (by omega) (by decide))) (fun z => ?_)
          refine go_aload_n d_A_find_30 rfl ?_
          refine go_callV (k2 := m_A_onLowerCycle) (As := []) (r := some (.int (-1)))  d_A_find_31 ok_A_onLowerCycle (Nat.le_of_ble_eq_true rfl) rfl pc_A rfl vl_A_55 rfl rfl (Nat.le_of_ble_eq_true rfl) (Nat.le_of_ble_eq_true rfl) (Nat.le_of_ble_eq_true rfl) (Nat.le_of_ble_eq_true rfl) (by cases w2 <;> simp_all [pm_lt, pm_ltV]) rfl b1 ?_
          refine go_istore_n d_A_find_34 (Nat.le_of_ble_eq_true rfl) rfl ?_
          refine go_iload_n d_A_find_35 rfl ?_
          refine go_iconst (v := -1) d_A_find_36 (by decide) ?_
          refine go_icmp_ne (tgt := 43) d_A_find_37 (by decide) (fun z => absurd rfl z) (fun z => ?_)
          refine go_goto (tgt := 54) d_A_find_40 (by decide) ?_
          refine go_aload_n d_A_find_54 rfl ?_
          refine go_iconst (v := 1) d_A_find_55 (by decide) ?_
          refine go_pI (j := 1) d_A_find_56 (Nat.le_of_ble_eq_true rfl) rfl pc_A (Nat.le_of_ble_eq_true rfl) (by decide) w_201 rfl (Or.inr ⟨rfl, Or.inr rfl⟩) ?_
          exact go_vreturn (st := []) d_A_find_59 rfl (Nat.le_of_ble_eq_true rfl) (Nat.le_of_ble_eq_true rfl) rfl
        · rw [uI_nj (by decide), b3 62 (by decide)]; exact e2
        · rw [uI_nj (by decide), b3 62 (by decide)]; exact e3
      · subst h6
        have rG2 : RG I2 (gE D D.nb D.nc) := RG.mk (by rw [b3 62 (by decide)]; exact rG.n) (by rw [b3 63 (by decide), b3 64 (by decide), b3 65 (by decide), b3 66 (by decide)]; exact rG.a)
        obtain ⟨I3, w, c1, c2, c3, c4, c5, c6, c7, c8, c9, c10, c11⟩ := sp_takeRatio (d := d) (J := J) (N := ndE D) rG2 hG (by rw [b3 62 (by decide)]; exact e4) hN (tk_pos hD) htl h7 rX hI q1 (by rw [← hml]; exact q2) q3 q4
        have hb := ra_wk_b hG w u u c2
        have hgp : 0 < Nat.gcd (ra_tk w) (ra_ln w) := Nat.gcd_pos_of_pos_left _ c6
        have g1 : Nat.gcd (ra_tk w) (ra_ln w) * (ra_tk w / Nat.gcd (ra_tk w) (ra_ln w)) = ra_tk w := Nat.mul_div_cancel' (Nat.gcd_dvd_left _ _)
        have g2 : Nat.gcd (ra_tk w) (ra_ln w) * (ra_ln w / Nat.gcd (ra_tk w) (ra_ln w)) = ra_ln w := Nat.mul_div_cancel' (Nat.gcd_dvd_right _ _)
        have g3 : Nat.gcd (ra_tk w / Nat.gcd (ra_tk w) (ra_ln w)) (ra_ln w / Nat.gcd (ra_tk w) (ra_ln w)) = 1 := Nat.coprime_div_gcd_div_gcd hgp
        have g4 : ra_ln w / Nat.gcd (ra_tk w) (ra_ln w) ≤ ra_ln w := Nat.div_le_self _ _
        have g5 : ra_tk w ≤ ra_ln w := by
          have h8 : ra_tk w * l < l * ra_ln w := Nat.lt_of_lt_of_le c5 (Nat.mul_le_mul_right _ htl)
          rw [Nat.mul_comm l] at h8
          exact Nat.le_of_lt (Nat.lt_of_mul_lt_mul_right h8)
        have g6 : ra_tk w / Nat.gcd (ra_tk w) (ra_ln w) ≤ ra_ln w / Nat.gcd (ra_tk w) (ra_ln w) := Nat.div_le_div_right g5
        generalize ra_tk w / Nat.gcd (ra_tk w) (ra_ln w) = t' at c8 g1 g3 g6
        generalize ra_ln w / Nat.gcd (ra_tk w) (ra_ln w) = l' at c9 g2 g3 g4 g6
        generalize Nat.gcd (ra_tk w) (ra_ln w) = g at g1 g2 hgp
        have hl' : 1 ≤ l' := by
          by_cases e : l' = 0
          · rw [e, Nat.mul_zero] at g2; omega
          · omega
        have h9 : t' * l < t * l' := by
          rw [← g1, ← g2] at c5
          have h10 : g * (t' * l) < g * (t * l') := by
            rw [← Nat.mul_assoc, ← Nat.mul_assoc, Nat.mul_comm g t, Nat.mul_assoc t]
            exact c5
          exact Nat.lt_of_mul_lt_mul_left h10
        have hmu : muT t' l' < muT t l := mu_lt h9 hl1 hl2 hl' (by omega)
        have hA' : AtG (gE D D.nb D.nc) (ndE D) t' l' := Or.inr ⟨u, w, c2, c3, c4, c7, by rw [← g1, ← g2, Nat.mul_comm g t', Nat.mul_assoc]⟩
        have rG3 : RG I3 (gE D D.nb D.nc) := RG.mk (by rw [c10 5 (by decide) (by decide)]; exact rG2.n) (by rw [c11 63 (by decide), c11 64 (by decide), c11 65 (by decide), c11 66 (by decide)]; exact rG2.a)
        obtain ⟨I', r, i1, i2⟩ := ih (i + 1) t' l' I3 (some (.int (nI u))) (by omega) (by omega) rG3 (by rw [c10 4 (by decide) (by decide), b3 62 (by decide)]; exact e4) c8 c9 hA' g3 hl' (by omega) g6 ((f1.tr (b3.up (by decide))).tr (c11.up (by decide))) rfl
        refine ⟨I', r, ?_, i2⟩
        refine go_iload_n d_A_find_24 rfl ?_
        refine go_ldc (v := 1000000) d_A_find_25 w_673 ?_
        refine go_icmp_ge (tgt := 54) d_A_find_27 (by decide) (fun z => absurd z (nI_ge (b := 1000000) (by omega) (by decide))) (fun z => ?_)
        refine go_aload_n d_A_find_30 rfl ?_
        refine go_callV (k2 := m_A_onLowerCycle) (As := []) (r := some (.int (nI u)))  d_A_find_31 ok_A_onLowerCycle (Nat.le_of_ble_eq_true rfl) rfl pc_A rfl vl_A_55 rfl rfl (Nat.le_of_ble_eq_true rfl) (Nat.le_of_ble_eq_true rfl) (Nat.le_of_ble_eq_true rfl) (Nat.le_of_ble_eq_true rfl) (by cases w2 <;> simp_all [pm_lt, pm_ltV]) rfl b1 ?_
        refine go_istore_n d_A_find_34 (Nat.le_of_ble_eq_true rfl) rfl ?_
        refine go_iload_n d_A_find_35 rfl ?_
        refine go_iconst (v := -1) d_A_find_36 (by decide) ?_
        refine go_icmp_ne (tgt := 43) d_A_find_37 (by decide) (fun z => ?_) (fun z => absurd z (nI_m1 (by omega)))
        refine go_aload_n d_A_find_43 rfl ?_
        refine go_iload_n d_A_find_44 rfl ?_
        refine go_callV (k2 := m_A_takeRatio) (As := [.int (nI u)]) (r := none) d_A_find_45 ok_A_takeRatio (Nat.le_of_ble_eq_true rfl) rfl pc_A rfl vl_A_59 rfl rfl (Nat.le_of_ble_eq_true rfl) (Nat.le_of_ble_eq_true rfl) (Nat.le_of_ble_eq_true rfl) (Nat.le_of_ble_eq_true rfl) rfl rfl c1 ?_
        refine go_iinc (v := nI (i + 1)) d_A_find_48 rfl (by first | rfl | exact nI_1 _) rfl ?_
        refine go_goto (tgt := 24) d_A_find_51 (by decide) ?_
        exact i1
  have rG1 : RG (pm_uI (pm_uI I1 62 2 1) 62 3 1) (gE D D.nb D.nc) := RG.mk (by rw [uI_nj (by decide), uI_nj (by decide)]; exact a2.n) a2.a
  obtain ⟨I', r, i1, i2⟩ := loop 10001 0 1 1 (pm_uI (pm_uI I1 62 2 1) 62 3 1) none (by decide) (by decide) rG1 (by rw [uI_nj (by decide), uI_nj (by decide)]; exact a3) rfl rfl (At_1 hD) (by decide) (by decide) (by decide) (by decide) f1 rfl
  refine ⟨I', r, ?_, i2⟩
  refine go_aload_n d_A_find_0 rfl ?_
  refine go_gI (j := 1) (0) d_A_find_1 (Nat.le_of_ble_eq_true rfl) rfl pc_A (Nat.le_of_ble_eq_true rfl) (by decide) w_201 h1 ?_
  refine go_if_eq (tgt := 8) d_A_find_4 (by decide) (fun z => ?_) (fun z => absurd rfl z)
  refine go_aload_n d_A_find_8 rfl ?_
  refine go_callV (k2 := m_A_drawGraph) (As := []) (r := none) d_A_find_9 ok_A_drawGraph (Nat.le_of_ble_eq_true rfl) rfl pc_A rfl vl_A_51 rfl rfl (Nat.le_of_ble_eq_true rfl) (Nat.le_of_ble_eq_true rfl) (Nat.le_of_ble_eq_true rfl) (Nat.le_of_ble_eq_true rfl) rfl rfl a1 ?_
  refine go_aload_n d_A_find_12 rfl ?_
  refine go_iconst (v := 1) d_A_find_13 (by decide) ?_
  refine go_pI (j := 2) d_A_find_14 (Nat.le_of_ble_eq_true rfl) rfl pc_A (Nat.le_of_ble_eq_true rfl) (by decide) w_202 rfl (Or.inl rfl) ?_
  refine go_aload_n d_A_find_17 rfl ?_
  refine go_iconst (v := 1) d_A_find_18 (by decide) ?_
  refine go_pI (j := 3) d_A_find_19 (Nat.le_of_ble_eq_true rfl) rfl pc_A (Nat.le_of_ble_eq_true rfl) (by decide) w_204 rfl (Or.inl rfl) ?_
  refine go_iconst (v := 0) d_A_find_22 (by decide) ?_
  refine go_istore_n d_A_find_23 (Nat.le_of_ble_eq_true rfl) rfl ?_
  exact i1
theorem sp_findK (h1 : I 62 1 = 1) : pm_Go d m_A_find 0 [some (.ref 62), none, none] [] 0 0 (ST I J) (.inl none, ST I J) := by
  refine go_aload_n d_A_find_0 rfl ?_
  refine go_gI (j := 1) (1) d_A_find_1 (Nat.le_of_ble_eq_true rfl) rfl pc_A (Nat.le_of_ble_eq_true rfl) (by decide) w_201 h1 ?_
  refine go_if_eq (tgt := 8) d_A_find_4 (by decide) (fun z => absurd z (by decide)) (fun z => ?_)
  exact go_vreturn (st := []) d_A_find_7 rfl (Nat.le_of_ble_eq_true rfl) (Nat.le_of_ble_eq_true rfl) rfl
theorem isR_ex (hD : DW D) (rD : RD I D) : ∃ r, isR D r := by
  obtain ⟨-, r, -, h, -⟩ := sp_find (d := 0) (I := pm_uI I 62 1 0) (J := fun _ _ => 0) hD (rD.fr hD (L := [62]) (fr.uI (by decide)) (by decide)) uI_eq
  exact ⟨r, h⟩
theorem E_rate_tail {k : Nat} {a b : Int32} {out : pm_O} (hk : k < 2) (h2 : I 62 2 = a) (h3 : I 62 3 = b) (ho : out = (.inl (some (.int (if k = 0 then a else b))), ST I J)) : pm_Go 9 m_E_rate 16 [some (.ref 0), some (.int (nI k))] [] (0 + mC m_E_mustBeBuilt + mC m_E_mustBeOneOf + mC m_A_find) (0 + mS m_E_mustBeBuilt + mS m_E_mustBeOneOf + mS m_A_find) (ST I J) out := by
  subst ho
  refine go_iload_n d_E_rate_16 rfl ?_
  by_cases e : k = 0
  · rw [if_pos e]
    refine go_if_ne (tgt := 30) d_E_rate_17 (by decide) (fun z => absurd (by rw [e]; rfl) z) (fun z => ?_)
    refine go_aload_n d_E_rate_20 rfl ?_
    refine go_getP (j := 3) d_E_rate_21 (Nat.le_of_ble_eq_true rfl) rfl pc_E (Nat.le_of_ble_eq_true rfl) rfl w_242 pt_E_3 ?_
    refine go_gI (j := 2) (a) d_E_rate_24 (Nat.le_of_ble_eq_true rfl) rfl pc_A (Nat.le_of_ble_eq_true rfl) (by decide) w_203 h2 ?_
    refine go_goto (tgt := 37) d_E_rate_27 (by decide) ?_
    exact go_ireturn (st := []) d_E_rate_37 rfl (Nat.le_of_ble_eq_true rfl) (Nat.le_of_ble_eq_true rfl) rfl
  · rw [if_neg e]
    refine go_if_ne (tgt := 30) d_E_rate_17 (by decide) (fun z => ?_) (fun z => absurd z (nI_ne0 (by omega) (by omega)))
    refine go_aload_n d_E_rate_30 rfl ?_
    refine go_getP (j := 3) d_E_rate_31 (Nat.le_of_ble_eq_true rfl) rfl pc_E (Nat.le_of_ble_eq_true rfl) rfl w_242 pt_E_3 ?_
    refine go_gI (j := 3) (b) d_E_rate_34 (Nat.le_of_ble_eq_true rfl) rfl pc_A (Nat.le_of_ble_eq_true rfl) (by decide) w_205 h3 ?_
    exact go_ireturn (st := []) d_E_rate_37 rfl (Nat.le_of_ble_eq_true rfl) (Nat.le_of_ble_eq_true rfl) rfl
theorem RateE_RTM : RateE RTM := by
  intro I J D k hD rD h4 hA hk
  rcases hA with h1 | ⟨h1, h2, h3⟩
  · obtain ⟨I', r, b1, b2, b3, b4, b5, b6⟩ := sp_find (d := 5) (J := J) hD rD h1
    have er := RTM_is b2
    rw [er]
    refine ⟨I', ?_, ⟨b3, b4, b5⟩, b6⟩
    refine go_aload_n d_E_rate_0 rfl ?_
    refine go_callV (k2 := m_E_mustBeBuilt) (As := []) (r := none) d_E_rate_1 ok_E_mustBeBuilt (Nat.le_of_ble_eq_true rfl) rfl pc_E rfl vl_E_102 rfl rfl (Nat.le_of_ble_eq_true rfl) (Nat.le_of_ble_eq_true rfl) (Nat.le_of_ble_eq_true rfl) (Nat.le_of_ble_eq_true rfl) rfl rfl (sp_mustBeBuiltY h4) ?_
    refine go_iconst (v := 2) d_E_rate_4 (by decide) ?_
    refine go_iload_n d_E_rate_5 rfl ?_
    refine go_callS (k2 := m_E_mustBeOneOf) (As := [.int (nI 2), .int (nI k)]) (r := none) d_E_rate_6 ok_E_mustBeOneOf sl_E_67 rfl rfl (Nat.le_of_ble_eq_true rfl) (Nat.le_of_ble_eq_true rfl) (Nat.le_of_ble_eq_true rfl) (Nat.le_of_ble_eq_true rfl) rfl rfl (sp_mustBeOneOfY (by decide) hk) ?_
    refine go_aload_n d_E_rate_9 rfl ?_
    refine go_getP (j := 3) d_E_rate_10 (Nat.le_of_ble_eq_true rfl) rfl pc_E (Nat.le_of_ble_eq_true rfl) rfl w_242 pt_E_3 ?_
    refine go_callV (k2 := m_A_find) (As := []) (r := none) d_E_rate_13 ok_A_find (Nat.le_of_ble_eq_true rfl) rfl pc_A rfl vl_E_158 rfl rfl (Nat.le_of_ble_eq_true rfl) (Nat.le_of_ble_eq_true rfl) (Nat.le_of_ble_eq_true rfl) (Nat.le_of_ble_eq_true rfl) rfl rfl b1 ?_
    exact E_rate_tail hk b4 b5 rfl
  · refine ⟨I, ?_, ⟨h1, h2, h3⟩, fr.rf⟩
    refine go_aload_n d_E_rate_0 rfl ?_
    refine go_callV (k2 := m_E_mustBeBuilt) (As := []) (r := none) d_E_rate_1 ok_E_mustBeBuilt (Nat.le_of_ble_eq_true rfl) rfl pc_E rfl vl_E_102 rfl rfl (Nat.le_of_ble_eq_true rfl) (Nat.le_of_ble_eq_true rfl) (Nat.le_of_ble_eq_true rfl) (Nat.le_of_ble_eq_true rfl) rfl rfl (sp_mustBeBuiltY h4) ?_
    refine go_iconst (v := 2) d_E_rate_4 (by decide) ?_
    refine go_iload_n d_E_rate_5 rfl ?_
    refine go_callS (k2 := m_E_mustBeOneOf) (As := [.int (nI 2), .int (nI k)]) (r := none) d_E_rate_6 ok_E_mustBeOneOf sl_E_67 rfl rfl (Nat.le_of_ble_eq_true rfl) (Nat.le_of_ble_eq_true rfl) (Nat.le_of_ble_eq_true rfl) (Nat.le_of_ble_eq_true rfl) rfl rfl (sp_mustBeOneOfY (by decide) hk) ?_
    refine go_aload_n d_E_rate_9 rfl ?_
    refine go_getP (j := 3) d_E_rate_10 (Nat.le_of_ble_eq_true rfl) rfl pc_E (Nat.le_of_ble_eq_true rfl) rfl w_242 pt_E_3 ?_
    refine go_callV (k2 := m_A_find) (As := []) (r := none) d_E_rate_13 ok_A_find (Nat.le_of_ble_eq_true rfl) rfl pc_A rfl vl_E_158 rfl rfl (Nat.le_of_ble_eq_true rfl) (Nat.le_of_ble_eq_true rfl) (Nat.le_of_ble_eq_true rfl) (Nat.le_of_ble_eq_true rfl) rfl rfl (sp_findK h1) ?_
    exact E_rate_tail hk h2 h3 rfl
end S63
