/-! the pace: a cycle below the ratio found so far; its ratio -/
section S62
variable {d : Nat} {I : Nat → Nat → Int32} {J : Nat → Nat → Int64} {G : List ra_A} {s : ra_S} {B t l N : Nat}
theorem sp_commonDivisor {a b : Nat} (ha : 1 ≤ a) (hb : 1 ≤ b) (ha2 : a < 2 ^ 30) (hb2 : b < 2 ^ 30) : pm_Go (d + 1) m_A_commonDivisor 0 [some (.int (nI a)), some (.int (nI b)), none] [] 0 0 (ST I J) (.inl (some (.int (nI (Nat.gcd a b)))), ST I J) := by
  have hg : 1 ≤ Nat.gcd a b := Nat.gcd_pos_of_pos_left _ ha
  have loop : ∀ n, n < 2 ^ 30 → Nat.gcd a b ≤ n → pm_Go (d + 1) m_A_commonDivisor 6 [some (.int (nI a)), some (.int (nI b)), some (.int (nI n))] [] 0 0 (ST I J) (.inl (some (.int (nI (Nat.gcd a b)))), ST I J) := by
    intro n
    induction n with
    | zero => intro _ h; omega
    | succ n ih =>
      intro hn h
      refine go_iload_n d_A_commonDivisor_6 rfl ?_
      refine go_iconst (v := 1) d_A_commonDivisor_7 (by decide) ?_
      by_cases h1 : n = 0
      · have e : Nat.gcd a b = 1 := by omega
        rw [e]
        refine go_icmp_le (tgt := 31) d_A_commonDivisor_8 (by decide) (fun z => ?_) (fun z => absurd (nI_le (b := 1) (by omega) (by decide)) z)
        refine go_iconst (v := 1) d_A_commonDivisor_31 (by decide) ?_
        exact go_ireturn (st := []) d_A_commonDivisor_32 rfl (Nat.le_of_ble_eq_true rfl) (Nat.le_of_ble_eq_true rfl) rfl
      · refine go_icmp_le (tgt := 31) d_A_commonDivisor_8 (by decide) (fun z => absurd z (nI_ge (a := 1) (by omega) (by omega))) (fun z => ?_)
        have dec : Nat.gcd a b ≤ n → pm_Go (d + 1) m_A_commonDivisor 25 [some (.int (nI a)), some (.int (nI b)), some (.int (nI (n + 1)))] [] 0 0 (ST I J) (.inl (some (.int (nI (Nat.gcd a b)))), ST I J) := by
          intro h2
          refine go_iinc (v := nI n) d_A_commonDivisor_25 rfl (by rw [zI_n, zI_n]; exact (zI_add _ _).trans (congrArg zI (by omega))) rfl ?_
          refine go_goto (tgt := 6) d_A_commonDivisor_28 (by decide) ?_
          exact ih (by omega) h2
        refine go_iload_n d_A_commonDivisor_11 rfl ?_
        refine go_iload_n d_A_commonDivisor_12 rfl ?_
        refine go_irem d_A_commonDivisor_13 (nI_ne0 (by omega) (by omega)) ?_
        refine go_top (nI (a % (n + 1))) (pk_rem (by omega) (by omega) (by omega)) ?_
        by_cases h3 : a % (n + 1) = 0
        · refine go_if_ne (tgt := 25) d_A_commonDivisor_14 (by decide) (fun z => absurd (congrArg nI h3) z) (fun z => ?_)
          refine go_iload_n d_A_commonDivisor_17 rfl ?_
          refine go_iload_n d_A_commonDivisor_18 rfl ?_
          refine go_irem d_A_commonDivisor_19 (nI_ne0 (by omega) (by omega)) ?_
          refine go_top (nI (b % (n + 1))) (pk_rem (by omega) (by omega) (by omega)) ?_
          by_cases h4 : b % (n + 1) = 0
          · have e : Nat.gcd a b = n + 1 := Nat.le_antisymm h (Nat.le_of_dvd (by omega) (Nat.dvd_gcd (Nat.dvd_of_mod_eq_zero h3) (Nat.dvd_of_mod_eq_zero h4)))
            rw [e]
            refine go_if_ne (tgt := 25) d_A_commonDivisor_20 (by decide) (fun z => absurd (congrArg nI h4) z) (fun z => ?_)
            refine go_iload_n d_A_commonDivisor_23 rfl ?_
            exact go_ireturn (st := []) d_A_commonDivisor_24 rfl (Nat.le_of_ble_eq_true rfl) (Nat.le_of_ble_eq_true rfl) rfl
          · have hlt := Nat.mod_lt b (show n + 1 > 0 by omega)
            refine go_if_ne (tgt := 25) d_A_commonDivisor_20 (by decide) (fun z => ?_) (fun z => absurd z (nI_ne0 (by omega) (by omega)))
            refine dec ?_
            by_cases e : Nat.gcd a b = n + 1
            · exact absurd (Nat.mod_eq_zero_of_dvd (e ▸ Nat.gcd_dvd_right a b)) h4
            · omega
        · have hlt := Nat.mod_lt a (show n + 1 > 0 by omega)
          refine go_if_ne (tgt := 25) d_A_commonDivisor_14 (by decide) (fun z => ?_) (fun z => absurd z (nI_ne0 (by omega) (by omega)))
          refine dec ?_
          by_cases e : Nat.gcd a b = n + 1
          · exact absurd (Nat.mod_eq_zero_of_dvd (e ▸ Nat.gcd_dvd_left a b)) h3
          · omega
  have i0 := loop (min a b) (by omega) (Nat.le_min.mpr ⟨Nat.le_of_dvd (by omega) (Nat.gcd_dvd_left a b), Nat.le_of_dvd (by omega) (Nat.gcd_dvd_right a b)⟩)
  refine go_iload_n d_A_commonDivisor_0 rfl ?_
  refine go_iload_n d_A_commonDivisor_1 rfl ?_
  refine go_mmin d_A_commonDivisor_2 w_694 w_558 w_14 w_559 (Nat.le_of_ble_eq_true rfl) (Nat.le_of_ble_eq_true rfl) (Nat.le_of_ble_eq_true rfl) (Nat.le_of_ble_eq_true rfl) ?_
  refine go_top (nI (min a b)) ?_ ?_
  · show (if nI b < nI a then nI b else nI a) = nI (min a b)
    by_cases hlt : b < a
    · rw [if_pos (nI_lt hlt (by omega)), show min a b = b by omega]
    · rw [if_neg (nI_nlt (by omega) (by omega)), show min a b = a by omega]
  refine go_istore_n d_A_commonDivisor_5 (Nat.le_of_ble_eq_true rfl) rfl ?_
  exact i0
def sX0 : ra_S := (fun _ => 0, fun _ => none, fun _ => 0)
theorem sX0_I : ra_I (· ∈ G) t l sX0 := by
  refine ⟨fun v a h => (by cases h), fun u w hw hk => ?_, fun v a h => (by cases h), fun v h => absurd (show 1 ≤ 0 from h) (by omega)⟩
  cases w with
  | nil => exact absurd rfl hw
  | cons a w =>
    have h1 : sX0.2.1 a.2.1 = some a := hk.1
    cases h1
theorem ra_g_it {i v : Nat} : ra_it s (i + 1) v = ra_g s (ra_it s i v) := by
  rw [ra_it_add s i 1 v]
  rfl
/-- what the search says -/
def ocQ (G : List ra_A) (t l N : Nat) (I' : Nat → Nat → Int32) (x : Int32) : Prop :=
  (x = -1 ∧ ∀ u w, ra_wk (· ∈ G) u w u → t * ra_ln w ≤ ra_tk w * l) ∨ ∃ u q s B, x = nI u ∧ u < 100 ∧ RX I' G s B ∧ ra_I (· ∈ G) t l s ∧ 1 ≤ q ∧ q ≤ N ∧ ra_it s q u = u ∧ ∀ i, ∃ a, s.2.1 (ra_it s i u) = some a
theorem sp_onLowerCycle (m : List Nat) (rG : RG I G) (hG : GW G) (h2 : I 62 2 = nI t) (h3 : I 62 3 = nI l) (h4 : I 62 4 = nI m.length) (hm1 : m.length ≤ 100) (hm : ∀ a, a ∈ G → a.1 ∈ m ∧ a.2.1 ∈ m) (ht : t ≤ 100) (hl : l ≤ 100) : ∃ I' x, pm_Go (d + 1) m_A_onLowerCycle 0 [some (.ref 62), none, none] [] 0 0 (ST I J) (.inl (some (.int x)), ST I' J) ∧ ocQ G t l m.length I' x ∧ fr [67, 68] I I' := by
  have hGl := hG.l
  let I0 := fiI (fiI I 67 0 100) 68 (-1) 100
  have f0 : fr [67, 68] I I0 := by
    intro c hc
    funext j
    have h6 : c ≠ 67 ∧ c ≠ 68 := by
      constructor <;> (intro e; subst e; exact hc (by decide))
    show fiI (fiI I 67 0 100) 68 (-1) 100 c j = I c j
    rw [fiI_at, if_neg (fun z => h6.2 z.1), fiI_at, if_neg (fun z => h6.1 z.1)]
  have rX0 : RX I0 G sX0 0 := by
    refine RX.mk (fun v hv => ?_) (fun v hv => Or.inl ⟨rfl, ?_⟩) (fun v => ⟨Int.le_refl _, by show -(100 * ((0 : Nat) : Int)) ≤ 0; omega⟩)
    · show fiI (fiI I 67 0 100) 68 (-1) 100 67 v = zI 0
      rw [fiI_at, if_neg (by omega), fiI_at, if_pos ⟨rfl, hv⟩]
      rfl
    · show fiI (fiI I 67 0 100) 68 (-1) 100 68 v = -1
      rw [fiI_at, if_pos ⟨rfl, hv⟩]
  have back : ∀ n i (Ii : Nat → Nat → Int32) s B v, m.length - i = n → i ≤ m.length → 1 ≤ m.length → RX Ii G s B → ra_I (· ∈ G) t l s → fr [67, 68] I Ii → v < 100 → (∀ i, i < m.length → ∃ a, s.2.1 (ra_it s i v) = some a) → (∃ q, 1 ≤ q ∧ q ≤ m.length ∧ ra_it s q (ra_it s m.length v) = ra_it s m.length v ∧ ∀ i, ∃ a, s.2.1 (ra_it s i (ra_it s m.length v)) = some a) → ra_it s i v < 100 → ∃ x, pm_Go (d + 1) m_A_onLowerCycle 48 [some (.ref 62), some (.int (nI (ra_it s i v))), some (.int (nI i))] [] 0 0 (ST Ii J) (.inl (some (.int x)), ST Ii J) ∧ ocQ G t l m.length Ii x := by
    intro n
    induction n with
    | zero =>
      intro i Ii s B v hn hi hN rX hI f1 hv hdef hcy hiv
      have : i = m.length := by omega
      subst this
      obtain ⟨q, q1, q2, q3, q4⟩ := hcy
      have e4 : Ii 62 4 = nI m.length := by rw [f1 62 (by decide)]; exact h4
      refine ⟨nI (ra_it s m.length v), ?_, Or.inr ⟨_, q, s, B, rfl, hiv, rX, hI, q1, q2, q3, q4⟩⟩
      refine go_iload_n d_A_onLowerCycle_48 rfl ?_
      refine go_aload_n d_A_onLowerCycle_49 rfl ?_
      refine go_gI (j := 4) (nI m.length) d_A_onLowerCycle_50 (Nat.le_of_ble_eq_true rfl) rfl pc_A (Nat.le_of_ble_eq_true rfl) (by decide) w_206 e4 ?_
      refine go_icmp_ge (tgt := 73) d_A_onLowerCycle_53 (by decide) (fun z => ?_) (fun z => absurd (nI_le (Nat.le_refl _) (by omega)) z)
      refine go_iload_n d_A_onLowerCycle_73 rfl ?_
      exact go_ireturn (st := []) d_A_onLowerCycle_74 rfl (Nat.le_of_ble_eq_true rfl) (Nat.le_of_ble_eq_true rfl) rfl
    | succ n ih =>
      intro i Ii s B v hn hi hN rX hI f1 hv hdef hcy hiv
      have hi2 : i < m.length := by omega
      obtain ⟨a, ha⟩ := hdef i hi2
      have e4 : Ii 62 4 = nI m.length := by rw [f1 62 (by decide)]; exact h4
      have ha2 := hI.1 _ a ha
      have hg := hG.a a ha2.1
      have enx : ra_it s (i + 1) v = a.1 := by
        rw [ra_g_it]
        unfold ra_g
        rw [ha]
      obtain ⟨x, i1, i2⟩ := ih (i + 1) Ii s B v (by omega) (by omega) hN rX hI f1 hv hdef hcy (by rw [enx]; exact hg.1)
      rw [enx] at i1
      refine ⟨x, ?_, i2⟩
      rcases rX.a _ hiv with ⟨h6, -⟩ | ⟨e, a', g1, g2, g3⟩
      · rw [ha] at h6; cases h6
      · have e5 : a' = a := by rw [ha] at g2; exact (Option.some.inj g2).symm
        subst e5
        have hel : e < G.length := (List.getElem?_eq_some_iff.mp g1).1
        have c1 : Ii 63 e = nI a'.1 := by rw [f1 63 (by decide)]; exact (rG.a e a' g1).1
        generalize ra_it s i v = z0 at hiv ha g3
        refine go_iload_n d_A_onLowerCycle_48 rfl ?_
        refine go_aload_n d_A_onLowerCycle_49 rfl ?_
        refine go_gI (j := 4) (nI m.length) d_A_onLowerCycle_50 (Nat.le_of_ble_eq_true rfl) rfl pc_A (Nat.le_of_ble_eq_true rfl) (by decide) w_206 e4 ?_
        refine go_icmp_ge (tgt := 73) d_A_onLowerCycle_53 (by decide) (fun z => absurd z (nI_ge (by omega) (by omega))) (fun z => ?_)
        refine go_iload_n d_A_onLowerCycle_56 rfl ?_
        refine go_iconst (v := -1) d_A_onLowerCycle_57 (by decide) ?_
        refine go_icmp_eq (tgt := 73) d_A_onLowerCycle_58 (by decide) (fun z => absurd z (nI_m1 (by omega))) (fun z => ?_)
        refine go_aload_n d_A_onLowerCycle_61 rfl ?_
        refine go_iload_n d_A_onLowerCycle_62 rfl ?_
        refine go_callV (k2 := m_A_nodeBefore) (As := [.int (nI z0)]) (r := some (.int (nI a'.1))) d_A_onLowerCycle_63 ok_A_nodeBefore (Nat.le_of_ble_eq_true rfl) rfl pc_A rfl vl_A_99 rfl rfl (Nat.le_of_ble_eq_true rfl) (Nat.le_of_ble_eq_true rfl) (Nat.le_of_ble_eq_true rfl) (Nat.le_of_ble_eq_true rfl) rfl rfl (sp_nodeBeforeY hiv g3 (by omega) c1) ?_
        refine go_istore_n d_A_onLowerCycle_66 (Nat.le_of_ble_eq_true rfl) rfl ?_
        refine go_iinc (v := nI (i + 1)) d_A_onLowerCycle_67 rfl (by first | rfl | exact nI_1 _) rfl ?_
        refine go_goto (tgt := 48) d_A_onLowerCycle_70 (by decide) ?_
        exact i1
  have rounds : ∀ n r (Ii : Nat → Nat → Int32) s x, m.length - r = n → r ≤ m.length → RX Ii G s (220 * r) → ra_I (· ∈ G) t l s → (∀ v, s.2.2 v ≤ r) → (∀ a, a ∈ G → ra_K t l r s a) → fr [67, 68] I Ii → ((r = 0 ∧ x = -1) ∨ ∃ v, x = nI v ∧ (∃ a, a ∈ G ∧ a.2.1 = v) ∧ s.2.2 v = r) → ∃ I' x', pm_Go (d + 1) m_A_onLowerCycle 20 [some (.ref 62), some (.int x), some (.int (nI r))] [] 0 0 (ST Ii J) (.inl (some (.int x')), ST I' J) ∧ ocQ G t l m.length I' x' ∧ fr [67, 68] I I' := by
    intro n
    induction n with
    | zero =>
      intro r Ii s x hn hr rX hI hb hK f1 hx
      have : r = m.length := by omega
      subst this
      have e4 : Ii 62 4 = nI m.length := by rw [f1 62 (by decide)]; exact h4
      rcases hx with ⟨h6, h7⟩ | ⟨v, h6, ⟨a, h7, h8⟩, h9⟩
      · subst h7
        refine ⟨Ii, -1, ?_, Or.inl ⟨rfl, fun u w hw => ?_⟩, f1⟩
        · refine go_iload_n d_A_onLowerCycle_20 rfl ?_
          refine go_aload_n d_A_onLowerCycle_21 rfl ?_
          refine go_gI (j := 4) (nI m.length) d_A_onLowerCycle_22 (Nat.le_of_ble_eq_true rfl) rfl pc_A (Nat.le_of_ble_eq_true rfl) (by decide) w_206 e4 ?_
          refine go_icmp_ge (tgt := 46) d_A_onLowerCycle_25 (by decide) (fun z => ?_) (fun z => absurd (nI_le (Nat.le_refl _) (by omega)) z)
          refine go_iconst (v := 0) d_A_onLowerCycle_46 (by decide) ?_
          refine go_istore_n d_A_onLowerCycle_47 (Nat.le_of_ble_eq_true rfl) rfl ?_
          refine go_iload_n d_A_onLowerCycle_48 rfl ?_
          refine go_aload_n d_A_onLowerCycle_49 rfl ?_
          refine go_gI (j := 4) (nI m.length) d_A_onLowerCycle_50 (Nat.le_of_ble_eq_true rfl) rfl pc_A (Nat.le_of_ble_eq_true rfl) (by decide) w_206 e4 ?_
          refine go_icmp_ge (tgt := 73) d_A_onLowerCycle_53 (by decide) (fun z => ?_) (fun z => absurd (nI_le (b := 0) (by omega) (by decide)) z)
          refine go_iload_n d_A_onLowerCycle_73 rfl ?_
          exact go_ireturn (st := []) d_A_onLowerCycle_74 rfl (Nat.le_of_ble_eq_true rfl) (Nat.le_of_ble_eq_true rfl) rfl
        · cases w with
          | nil => exact Nat.le_of_eq (by simp [ra_ln, ra_tk])
          | cons a w =>
            have h8 := (hm a hw.1).1
            rw [List.length_eq_zero_iff.mp h6] at h8
            cases h8
      · have hvm : v ∈ m := h8 ▸ (hm a h7).2
        have hv100 : v < 100 := h8 ▸ (hG.a a h7).2.1
        have hN1 : 1 ≤ m.length := List.length_pos_of_mem hvm
        obtain ⟨p1, p2⟩ := ra_on hI m (fun a ha => hm a ha) (v := v) (by omega) hvm
        obtain ⟨x', i1, i2⟩ := back m.length 0 Ii s (220 * m.length) v (by omega) (by omega) hN1 rX hI f1 hv100 p1 p2 hv100
        subst h6
        refine ⟨Ii, x', ?_, i2, f1⟩
        refine go_iload_n d_A_onLowerCycle_20 rfl ?_
        refine go_aload_n d_A_onLowerCycle_21 rfl ?_
        refine go_gI (j := 4) (nI m.length) d_A_onLowerCycle_22 (Nat.le_of_ble_eq_true rfl) rfl pc_A (Nat.le_of_ble_eq_true rfl) (by decide) w_206 e4 ?_
        refine go_icmp_ge (tgt := 46) d_A_onLowerCycle_25 (by decide) (fun z => ?_) (fun z => absurd (nI_le (Nat.le_refl _) (by omega)) z)
        refine go_iconst (v := 0) d_A_onLowerCycle_46 (by decide) ?_
        refine go_istore_n d_A_onLowerCycle_47 (Nat.le_of_ble_eq_true rfl) rfl ?_
        exact i1
    | succ n ih =>
      intro r Ii s x hn hr rX hI hb hK f1 hx
      clear hx
      have e4 : Ii 62 4 = nI m.length := by rw [f1 62 (by decide)]; exact h4
      have rGi : RG Ii G := RG.mk (by rw [f1 62 (by decide)]; exact rG.n) (by rw [f1 63 (by decide), f1 64 (by decide), f1 65 (by decide), f1 66 (by decide)]; exact rG.a)
      obtain ⟨I2, y, g1, g2, g3, g4⟩ := sp_shrinkAll (d := d) (J := J) (r := r + 1) rGi hG rX (by rw [f1 62 (by decide)]; exact h2) (by rw [f1 62 (by decide)]; exact h3) ht hl (by omega)
      obtain ⟨k1, k2, k3, -⟩ := ra_round (E := (· ∈ G)) (t := t) (l := l) (r := r + 1) (by omega) G s (fun a ha => ha) (fun v => by have := hb v; omega) (fun a ha => hK a ha) hI
      rcases g4 with ⟨h6, h7⟩ | ⟨v, h6, h7, h8⟩
      · subst h6
        refine ⟨I2, -1, ?_, Or.inl ⟨rfl, fun u w hw => ra_low (E := (· ∈ G)) (d := s.1) (fun a ha => h7 a ha) hw⟩, f1.tr g3⟩
        refine go_iload_n d_A_onLowerCycle_20 rfl ?_
        refine go_aload_n d_A_onLowerCycle_21 rfl ?_
        refine go_gI (j := 4) (nI m.length) d_A_onLowerCycle_22 (Nat.le_of_ble_eq_true rfl) rfl pc_A (Nat.le_of_ble_eq_true rfl) (by decide) w_206 e4 ?_
        refine go_icmp_ge (tgt := 46) d_A_onLowerCycle_25 (by decide) (fun z => absurd z (nI_ge (by omega) (by omega))) (fun z => ?_)
        refine go_aload_n d_A_onLowerCycle_28 rfl ?_
        refine go_callV (k2 := m_A_shrinkAll) (As := []) (r := some (.int (-1))) d_A_onLowerCycle_29 ok_A_shrinkAll (Nat.le_of_ble_eq_true rfl) rfl pc_A rfl vl_A_96 rfl rfl (Nat.le_of_ble_eq_true rfl) (Nat.le_of_ble_eq_true rfl) (Nat.le_of_ble_eq_true rfl) (Nat.le_of_ble_eq_true rfl) rfl rfl g1 ?_
        refine go_istore_n d_A_onLowerCycle_32 (Nat.le_of_ble_eq_true rfl) rfl ?_
        refine go_iload_n d_A_onLowerCycle_33 rfl ?_
        refine go_iconst (v := -1) d_A_onLowerCycle_34 (by decide) ?_
        refine go_icmp_ne (tgt := 40) d_A_onLowerCycle_35 (by decide) (fun z => absurd rfl z) (fun z => ?_)
        refine go_iconst (v := -1) d_A_onLowerCycle_38 (by decide) ?_
        exact go_ireturn (st := []) d_A_onLowerCycle_39 rfl (Nat.le_of_ble_eq_true rfl) (Nat.le_of_ble_eq_true rfl) rfl
      · subst h6
        have hv100 : v < 100 := by
          obtain ⟨a, p1, p2⟩ := h7
          exact p2 ▸ (hG.a a p1).2.1
        obtain ⟨I', x', i1, i2⟩ := ih (r + 1) I2 (G.foldl (ra_re t l (r + 1)) s) (nI v) (by omega) (by omega) (RX.mk g2.d g2.a (fun v => by
          have h9 := g2.b v
          clear h7 h8
          omega)) k1 k2 k3 (f1.tr g3) (Or.inr ⟨v, rfl, h7, h8⟩)
        refine ⟨I', x', ?_, i2⟩
        refine go_iload_n d_A_onLowerCycle_20 rfl ?_
        refine go_aload_n d_A_onLowerCycle_21 rfl ?_
        refine go_gI (j := 4) (nI m.length) d_A_onLowerCycle_22 (Nat.le_of_ble_eq_true rfl) rfl pc_A (Nat.le_of_ble_eq_true rfl) (by decide) w_206 e4 ?_
        refine go_icmp_ge (tgt := 46) d_A_onLowerCycle_25 (by decide) (fun z => absurd z (nI_ge (by omega) (by omega))) (fun z => ?_)
        refine go_aload_n d_A_onLowerCycle_28 rfl ?_
        refine go_callV (k2 := m_A_shrinkAll) (As := []) (r := some (.int (nI v))) d_A_onLowerCycle_29 ok_A_shrinkAll (Nat.le_of_ble_eq_true rfl) rfl pc_A rfl vl_A_96 rfl rfl (Nat.le_of_ble_eq_true rfl) (Nat.le_of_ble_eq_true rfl) (Nat.le_of_ble_eq_true rfl) (Nat.le_of_ble_eq_true rfl) rfl rfl g1 ?_
        refine go_istore_n d_A_onLowerCycle_32 (Nat.le_of_ble_eq_true rfl) rfl ?_
        refine go_iload_n d_A_onLowerCycle_33 rfl ?_
        refine go_iconst (v := -1) d_A_onLowerCycle_34 (by decide) ?_
        refine go_icmp_ne (tgt := 40) d_A_onLowerCycle_35 (by decide) (fun z => ?_) (fun z => absurd z (nI_m1 (by omega)))
        refine go_iinc (v := nI (r + 1)) d_A_onLowerCycle_40 rfl (by first | rfl | exact nI_1 _) rfl ?_
        refine go_goto (tgt := 20) d_A_onLowerCycle_43 (by decide) ?_
        exact i1
  obtain ⟨I', x, i1, i2⟩ := rounds m.length 0 I0 sX0 (-1) (by omega) (by omega) rX0 sX0_I (fun _ => Nat.le_refl _) (fun _ _ => Or.inr (Nat.zero_le _)) f0 (Or.inl ⟨rfl, rfl⟩)
  refine ⟨I', x, ?_, i2⟩
  refine go_aload_n d_A_onLowerCycle_0 rfl ?_
  refine go_getP (j := 10) d_A_onLowerCycle_1 (Nat.le_of_ble_eq_true rfl) rfl pc_A (Nat.le_of_ble_eq_true rfl) rfl w_212 pt_A_10 ?_
  refine go_iconst (v := 0) d_A_onLowerCycle_4 (by decide) ?_
  refine go_callS (k2 := m_U_fill) (As := [.ref 67, .int 0]) (r := none) d_A_onLowerCycle_5 ok_U_fill sl_A_90 rfl rfl (Nat.le_of_ble_eq_true rfl) (Nat.le_of_ble_eq_true rfl) (Nat.le_of_ble_eq_true rfl) (Nat.le_of_ble_eq_true rfl) rfl rfl (sp_fill (I := I) (J := J) (b := 67) (n := 100) (by decide) rfl (by decide)) ?_
  refine go_aload_n d_A_onLowerCycle_8 rfl ?_
  refine go_getP (j := 11) d_A_onLowerCycle_9 (Nat.le_of_ble_eq_true rfl) rfl pc_A (Nat.le_of_ble_eq_true rfl) rfl w_213 pt_A_11 ?_
  refine go_iconst (v := -1) d_A_onLowerCycle_12 (by decide) ?_
  refine go_callS (k2 := m_U_fill) (As := [.ref 68, .int (-1)]) (r := none) d_A_onLowerCycle_13 ok_U_fill sl_A_90 rfl rfl (Nat.le_of_ble_eq_true rfl) (Nat.le_of_ble_eq_true rfl) (Nat.le_of_ble_eq_true rfl) (Nat.le_of_ble_eq_true rfl) rfl rfl (sp_fill (I := fiI I 67 0 100) (J := J) (b := 68) (n := 100) (by decide) rfl (by decide)) ?_
  refine go_iconst (v := -1) d_A_onLowerCycle_16 (by decide) ?_
  refine go_istore_n d_A_onLowerCycle_17 (Nat.le_of_ble_eq_true rfl) rfl ?_
  refine go_iconst (v := 0) d_A_onLowerCycle_18 (by decide) ?_
  refine go_istore_n d_A_onLowerCycle_19 (Nat.le_of_ble_eq_true rfl) rfl ?_
  exact i1
/-! the ratio of a cycle -/
theorem ra_cy_s : ∀ (k v : Nat), (∀ i, i < k + 1 → ∃ a, s.2.1 (ra_it s i v) = some a) → ∀ a, s.2.1 (ra_it s k v) = some a → ra_tk (ra_cy s (k + 1) v) = ra_tk (ra_cy s k v) + a.2.2.1 ∧ ra_ln (ra_cy s (k + 1) v) = ra_ln (ra_cy s k v) + a.2.2.2
  | 0, v, _, a, ha => by
    have ha : s.2.1 v = some a := ha
    have e : ra_cy s 1 v = [a] := by simp only [ra_cy, ha, List.nil_append]
    rw [e]
    show a.2.2.1 + 0 = 0 + a.2.2.1 ∧ a.2.2.2 + 0 = 0 + a.2.2.2
    omega
  | k + 1, v, hd, a, ha => by
    obtain ⟨b, hb⟩ := hd 0 (by omega)
    have hb : s.2.1 v = some b := hb
    have hg : ra_g s v = b.1 := by unfold ra_g; rw [hb]
    have e1 : ∀ i, ra_it s (i + 1) v = ra_it s i b.1 := fun i => by
      show ra_it s i (ra_g s v) = _
      rw [hg]
    have ih := ra_cy_s k b.1 (fun i hi => by
      have := hd (i + 1) (by omega)
      rw [e1] at this
      exact this) a (by rw [← e1]; exact ha)
    have e2 : ra_cy s (k + 1 + 1) v = ra_cy s (k + 1) b.1 ++ [b] := by
      conv => lhs; unfold ra_cy
      rw [hb]
    have e3 : ra_cy s (k + 1) v = ra_cy s k b.1 ++ [b] := by
      conv => lhs; unfold ra_cy
      rw [hb]
    rw [e2, e3, ra_tk_app, ra_tk_app, ra_ln_app, ra_ln_app]
    omega
theorem ra_wk_b (hG : GW G) : ∀ (w : List ra_A) (u v : Nat), ra_wk (· ∈ G) u w v → ra_tk w ≤ 2 * w.length ∧ ra_ln w ≤ w.length
  | [], _, _, _ => ⟨Nat.le_refl _, Nat.le_refl _⟩
  | a :: w, u, v, h => by
    have h1 := ra_wk_b hG w a.2.1 v h.2.2
    have h2 := hG.a a h.1
    show a.2.2.1 + ra_tk w ≤ 2 * (w.length + 1) ∧ a.2.2.2 + ra_ln w ≤ w.length + 1
    omega
/-- the ratio that is taken -/
theorem sp_takeRatio {u q : Nat} (rG : RG I G) (hG : GW G) (h4 : I 62 4 = nI N) (hN : N ≤ 100) (hz : ∀ u w, w ≠ [] → ra_wk (· ∈ G) u w u → 1 ≤ ra_tk w) (ht : t ≤ l) (hu : u < 100) (rX : RX I G s B) (hI : ra_I (· ∈ G) t l s) (hq1 : 1 ≤ q) (hq2 : q ≤ N) (hq3 : ra_it s q u = u) (hdef : ∀ i, ∃ a, s.2.1 (ra_it s i u) = some a) : ∃ I' w, pm_Go (d + 2) m_A_takeRatio 0 [some (.ref 62), some (.int (nI u)), none, none, none, none, none] [] 0 0 (ST I J) (.inl none, ST I' J) ∧ ra_wk (· ∈ G) u w u ∧ w ≠ [] ∧ w.length ≤ N ∧ ra_tk w * l < t * ra_ln w ∧ 1 ≤ ra_tk w ∧ 1 ≤ ra_ln w ∧ I' 62 2 = nI (ra_tk w / Nat.gcd (ra_tk w) (ra_ln w)) ∧ I' 62 3 = nI (ra_ln w / Nat.gcd (ra_tk w) (ra_ln w)) ∧ (∀ j, j ≠ 2 → j ≠ 3 → I' 62 j = I 62 j) ∧ fr [62] I I' := by
  have hGl := hG.l
  have hit : ∀ i, ra_it s i u < 100 := by
    intro i
    cases i with
    | zero => exact hu
    | succ i =>
      obtain ⟨a, ha⟩ := hdef i
      rw [ra_g_it]
      unfold ra_g
      rw [ha]
      exact (hG.a a (hI.1 _ a ha).1).1
  have hwk : ∀ k, ra_it s k u = u → ra_wk (· ∈ G) u (ra_cy s k u) u ∧ (ra_cy s k u).length = k ∧ ra_wk (ra_pa s) u (ra_cy s k u) u := by
    intro k hk
    obtain ⟨h1, h2⟩ := ra_cy_wk hI k u (fun i _ => hdef i)
    rw [hk] at h1
    exact ⟨ra_wk_mono _ _ _ (fun a _ h => (hI.1 _ a h).1) h1, h2, h1⟩
  have hcb : ∀ k, ra_tk (ra_cy s k u) ≤ 2 * k ∧ ra_ln (ra_cy s k u) ≤ k := by
    intro k
    obtain ⟨h1, h2⟩ := ra_cy_wk hI k u (fun i _ => hdef i)
    have h3 := ra_wk_b hG _ _ _ (ra_wk_mono _ _ _ (fun a _ h => (hI.1 _ a h).1) h1)
    rw [h2] at h3
    exact h3
  have fin : ∀ k (n4 : Int32) (w5 w6 : Option Value), 1 ≤ k → k ≤ q → ra_it s k u = u → pm_lt 104 [w5, w6] [] = true → ∃ I' w, pm_Go (d + 2) m_A_takeRatio 83 [some (.ref 62), some (.int (nI u)), some (.int (nI (ra_tk (ra_cy s k u)))), some (.int (nI (ra_ln (ra_cy s k u)))), some (.int n4), w5, w6] [] 0 0 (ST I J) (.inl none, ST I' J) ∧ ra_wk (· ∈ G) u w u ∧ w ≠ [] ∧ w.length ≤ N ∧ ra_tk w * l < t * ra_ln w ∧ 1 ≤ ra_tk w ∧ 1 ≤ ra_ln w ∧ I' 62 2 = nI (ra_tk w / Nat.gcd (ra_tk w) (ra_ln w)) ∧ I' 62 3 = nI (ra_ln w / Nat.gcd (ra_tk w) (ra_ln w)) ∧ (∀ j, j ≠ 2 → j ≠ 3 → I' 62 j = I 62 j) ∧ fr [62] I I' := by
    intro k n4 w5 w6 hk1 hk2 hk3 hw
    obtain ⟨p1, p2, p3⟩ := hwk k hk3
    have hcb2 := hcb k
    generalize ra_cy s k u = w at p1 p2 p3 hcb2
    have hne : w ≠ [] := fun e => by rw [e] at p2; simp at p2; omega
    have hneg := hI.2.1 u w hne p3
    rw [ra_wt_eq] at hneg
    have h5 : ra_tk w * l < ra_ln w * t := by
      have : (ra_tk w : Int) * l < (ra_ln w : Int) * t := by omega
      exact_mod_cast this
    have h6 := hz u w hne p1
    have h7 : 1 ≤ ra_ln w := by
      by_cases e : ra_ln w = 0
      · rw [e, Nat.zero_mul] at h5; omega
      · omega
    have hg : 1 ≤ Nat.gcd (ra_tk w) (ra_ln w) := Nat.gcd_pos_of_pos_left _ h6
    have hg2 : Nat.gcd (ra_tk w) (ra_ln w) ≤ ra_tk w := Nat.le_of_dvd (by omega) (Nat.gcd_dvd_left _ _)
    refine ⟨pm_uI (pm_uI I 62 2 (nI (ra_tk w / Nat.gcd (ra_tk w) (ra_ln w)))) 62 3 (nI (ra_ln w / Nat.gcd (ra_tk w) (ra_ln w))), w, ?_, p1, hne, by omega, by rw [Nat.mul_comm t]; exact h5, h6, h7, rfl, rfl, fun j h8 h9 => by rw [uI_nj h9, uI_nj h8], (fr.uI (by decide)).tr (fr.uI (by decide))⟩
    generalize hgg : Nat.gcd (ra_tk w) (ra_ln w) = g at hg hg2
    have cd := sp_commonDivisor (d := d) (I := I) (J := J) h6 h7 (by omega) (by omega)
    rw [hgg] at cd
    refine go_iload_n d_A_takeRatio_83 rfl ?_
    refine go_iload_n d_A_takeRatio_84 rfl ?_
    refine go_callS (k2 := m_A_commonDivisor) (As := [.int (nI (ra_tk w)), .int (nI (ra_ln w))]) (r := some (.int (nI g)))  d_A_takeRatio_85 ok_A_commonDivisor sl_A_103 rfl rfl (Nat.le_of_ble_eq_true rfl) (Nat.le_of_ble_eq_true rfl) (Nat.le_of_ble_eq_true rfl) (Nat.le_of_ble_eq_true rfl) (by cases w5 <;> cases w6 <;> simp_all [pm_lt, pm_ltV]) rfl cd ?_
    refine go_istore d_A_takeRatio_88 (Nat.le_of_ble_eq_true rfl) rfl ?_
    refine go_aload_n d_A_takeRatio_90 rfl ?_
    refine go_iload_n d_A_takeRatio_91 rfl ?_
    refine go_iload d_A_takeRatio_92 rfl ?_
    refine go_idiv d_A_takeRatio_94 (nI_ne0 (by omega) (by omega)) ?_
    refine go_top (nI (ra_tk w / g)) (pk_div (by omega) (by omega) (by omega)) ?_
    refine go_pI (j := 2) d_A_takeRatio_95 (Nat.le_of_ble_eq_true rfl) rfl pc_A (Nat.le_of_ble_eq_true rfl) (by decide) w_202 rfl (Or.inl rfl) ?_
    refine go_aload_n d_A_takeRatio_98 rfl ?_
    refine go_iload_n d_A_takeRatio_99 rfl ?_
    refine go_iload d_A_takeRatio_100 rfl ?_
    refine go_idiv d_A_takeRatio_102 (nI_ne0 (by omega) (by omega)) ?_
    refine go_top (nI (ra_ln w / g)) (pk_div (by omega) (by omega) (by omega)) ?_
    refine go_pI (j := 3) d_A_takeRatio_103 (Nat.le_of_ble_eq_true rfl) rfl pc_A (Nat.le_of_ble_eq_true rfl) (by decide) w_204 rfl (Or.inl rfl) ?_
    exact go_vreturn (st := []) d_A_takeRatio_106 rfl (Nat.le_of_ble_eq_true rfl) (Nat.le_of_ble_eq_true rfl) rfl
  have loop : ∀ n k (w6 : Option Value), q - k = n → k < q → pm_lt 104 [w6] [] = true → ∃ I' w, pm_Go (d + 2) m_A_takeRatio 10 [some (.ref 62), some (.int (nI u)), some (.int (nI (ra_tk (ra_cy s k u)))), some (.int (nI (ra_ln (ra_cy s k u)))), some (.int (nI (ra_it s k u))), some (.int (nI k)), w6] [] 0 0 (ST I J) (.inl none, ST I' J) ∧ ra_wk (· ∈ G) u w u ∧ w ≠ [] ∧ w.length ≤ N ∧ ra_tk w * l < t * ra_ln w ∧ 1 ≤ ra_tk w ∧ 1 ≤ ra_ln w ∧ I' 62 2 = nI (ra_tk w / Nat.gcd (ra_tk w) (ra_ln w)) ∧ I' 62 3 = nI (ra_ln w / Nat.gcd (ra_tk w) (ra_ln w)) ∧ (∀ j, j ≠ 2 → j ≠ 3 → I' 62 j = I 62 j) ∧ fr [62] I I' := by
    intro n
    induction n with
    | zero => intro k w6 hn hk; omega
    | succ n ih =>
      intro k w6 hn hk hw
      obtain ⟨a, ha⟩ := hdef k
      have hs := ra_cy_s (s := s) k u (fun i _ => hdef i) a ha
      have enx : ra_it s (k + 1) u = a.1 := by
        rw [ra_g_it]
        unfold ra_g
        rw [ha]
      have hb := hcb k
      have ha1 : a.1 < 100 := by rw [← enx]; exact hit _
      rcases rX.a _ (hit k) with ⟨h6, -⟩ | ⟨e, a', g1, g2, g3⟩
      · rw [ha] at h6; cases h6
      · have e5 : a' = a := by rw [ha] at g2; exact (Option.some.inj g2).symm
        subst e5
        have hel : e < G.length := (List.getElem?_eq_some_iff.mp g1).1
        obtain ⟨c1, c2, c3, c4⟩ := rG.a e a' g1
        have hgm := hG.a a' (List.mem_of_getElem? g1)
        have pre : ∀ {out}, pm_Go (d + 2) m_A_takeRatio 68 [some (.ref 62), some (.int (nI u)), some (.int (nI (ra_tk (ra_cy s (k + 1) u)))), some (.int (nI (ra_ln (ra_cy s (k + 1) u)))), some (.int (nI a'.1)), some (.int (nI k)), some (.int (nI e))] [] 0 0 (ST I J) out → pm_Go (d + 2) m_A_takeRatio 10 [some (.ref 62), some (.int (nI u)), some (.int (nI (ra_tk (ra_cy s k u)))), some (.int (nI (ra_ln (ra_cy s k u)))), some (.int (nI (ra_it s k u))), some (.int (nI k)), w6] [] 0 0 (ST I J) out := by
          intro out ho
          rw [hs.1, hs.2] at ho
          have hk100 := hit k
          generalize ra_it s k u = z0 at ha g3 hk100
          refine go_iload d_A_takeRatio_10 rfl ?_
          refine go_aload_n d_A_takeRatio_12 rfl ?_
          refine go_gI (j := 4) (nI N) d_A_takeRatio_13 (Nat.le_of_ble_eq_true rfl) rfl pc_A (Nat.le_of_ble_eq_true rfl) (by decide) w_206 h4 ?_
          refine go_icmp_ge (tgt := 83) d_A_takeRatio_16 (by decide) (fun z => absurd z (nI_ge (by omega) (by omega))) (fun z => ?_)
          refine go_aload_n d_A_takeRatio_19 rfl ?_
          refine go_getP (j := 11) d_A_takeRatio_20 (Nat.le_of_ble_eq_true rfl) rfl pc_A (Nat.le_of_ble_eq_true rfl) rfl w_213 pt_A_11 ?_
          refine go_iload d_A_takeRatio_23 rfl ?_
          refine go_ald z0 (nI e) d_A_takeRatio_25 (Nat.le_of_ble_eq_true rfl) rfl rfl hk100 (by decide) g3 ?_
          refine go_iconst (v := -1) d_A_takeRatio_26 (by decide) ?_
          refine go_icmp_eq (tgt := 83) d_A_takeRatio_27 (by decide) (fun z => absurd z (nI_m1 (by omega))) (fun z => ?_)
          refine go_aload_n d_A_takeRatio_30 rfl ?_
          refine go_getP (j := 11) d_A_takeRatio_31 (Nat.le_of_ble_eq_true rfl) rfl pc_A (Nat.le_of_ble_eq_true rfl) rfl w_213 pt_A_11 ?_
          refine go_iload d_A_takeRatio_34 rfl ?_
          refine go_ald z0 (nI e) d_A_takeRatio_36 (Nat.le_of_ble_eq_true rfl) rfl rfl hk100 (by decide) g3 ?_
          refine go_istore d_A_takeRatio_37 (Nat.le_of_ble_eq_true rfl) rfl ?_
          refine go_iload_n d_A_takeRatio_39 rfl ?_
          refine go_aload_n d_A_takeRatio_40 rfl ?_
          refine go_getP (j := 8) d_A_takeRatio_41 (Nat.le_of_ble_eq_true rfl) rfl pc_A (Nat.le_of_ble_eq_true rfl) rfl w_210 pt_A_8 ?_
          refine go_iload d_A_takeRatio_44 rfl ?_
          refine go_ald e (nI a'.2.2.1) d_A_takeRatio_46 (Nat.le_of_ble_eq_true rfl) rfl rfl (by omega) (by decide) c3 ?_
          refine go_iadd d_A_takeRatio_47 ?_
          refine go_top (nI (ra_tk (ra_cy s k u) + a'.2.2.1)) (nI_add _ _) ?_
          refine go_istore_n d_A_takeRatio_48 (Nat.le_of_ble_eq_true rfl) rfl ?_
          refine go_iload_n d_A_takeRatio_49 rfl ?_
          refine go_aload_n d_A_takeRatio_50 rfl ?_
          refine go_getP (j := 9) d_A_takeRatio_51 (Nat.le_of_ble_eq_true rfl) rfl pc_A (Nat.le_of_ble_eq_true rfl) rfl w_211 pt_A_9 ?_
          refine go_iload d_A_takeRatio_54 rfl ?_
          refine go_ald e (nI a'.2.2.2) d_A_takeRatio_56 (Nat.le_of_ble_eq_true rfl) rfl rfl (by omega) (by decide) c4 ?_
          refine go_iadd d_A_takeRatio_57 ?_
          refine go_top (nI (ra_ln (ra_cy s k u) + a'.2.2.2)) (nI_add _ _) ?_
          refine go_istore_n d_A_takeRatio_58 (Nat.le_of_ble_eq_true rfl) rfl ?_
          refine go_aload_n d_A_takeRatio_59 rfl ?_
          refine go_getP (j := 6) d_A_takeRatio_60 (Nat.le_of_ble_eq_true rfl) rfl pc_A (Nat.le_of_ble_eq_true rfl) rfl w_208 pt_A_6 ?_
          refine go_iload d_A_takeRatio_63 rfl ?_
          refine go_ald e (nI a'.1) d_A_takeRatio_65 (Nat.le_of_ble_eq_true rfl) rfl rfl (by omega) (by decide) c1 ?_
          refine go_istore d_A_takeRatio_66 (Nat.le_of_ble_eq_true rfl) rfl ?_
          exact ho
        by_cases hst : a'.1 = u
        · obtain ⟨I', w, i1, i2⟩ := fin (k + 1) (nI a'.1) (some (.int (nI k))) (some (.int (nI e))) (by omega) (by omega) (by rw [enx]; exact hst) rfl
          refine ⟨I', w, pre ?_, i2⟩
          refine go_iload d_A_takeRatio_68 rfl ?_
          refine go_iload_n d_A_takeRatio_70 rfl ?_
          refine go_icmp_ne (tgt := 77) d_A_takeRatio_71 (by decide) (fun z => absurd (congrArg nI hst) z) (fun z => ?_)
          refine go_goto (tgt := 83) d_A_takeRatio_74 (by decide) ?_
          exact i1
        · have hkq : k + 1 < q := by
            by_cases e6 : k + 1 = q
            · rw [e6, hq3] at enx
              exact absurd enx.symm hst
            · omega
          obtain ⟨I', w, i1, i2⟩ := ih (k + 1) (some (.int (nI e))) (by omega) hkq rfl
          rw [enx] at i1
          refine ⟨I', w, pre ?_, i2⟩
          refine go_iload d_A_takeRatio_68 rfl ?_
          refine go_iload_n d_A_takeRatio_70 rfl ?_
          refine go_icmp_ne (tgt := 77) d_A_takeRatio_71 (by decide) (fun z => ?_) (fun z => absurd z (nI_neq (by omega) (by omega) hst))
          refine go_iinc (v := nI (k + 1)) d_A_takeRatio_77 rfl (by first | rfl | exact nI_1 _) rfl ?_
          refine go_goto (tgt := 10) d_A_takeRatio_80 (by decide) ?_
          exact i1
  obtain ⟨I', w, i1, i2⟩ := loop q 0 none (by omega) (by omega) rfl
  refine ⟨I', w, ?_, i2⟩
  refine go_iconst (v := 0) d_A_takeRatio_0 (by decide) ?_
  refine go_istore_n d_A_takeRatio_1 (Nat.le_of_ble_eq_true rfl) rfl ?_
  refine go_iconst (v := 0) d_A_takeRatio_2 (by decide) ?_
  refine go_istore_n d_A_takeRatio_3 (Nat.le_of_ble_eq_true rfl) rfl ?_
  refine go_iload_n d_A_takeRatio_4 rfl ?_
  refine go_istore d_A_takeRatio_5 (Nat.le_of_ble_eq_true rfl) rfl ?_
  refine go_iconst (v := 0) d_A_takeRatio_7 (by decide) ?_
  refine go_istore d_A_takeRatio_8 (Nat.le_of_ble_eq_true rfl) rfl ?_
  exact i1
end S62
