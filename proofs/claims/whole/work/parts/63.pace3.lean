/-! the pace: a pass over all arcs -/
def zI (z : Int) : Int32 := Int32.ofInt z
theorem zI_n (n : Nat) : nI n = zI n := Int32.ofInt_eq_ofNat.symm
theorem zI_add (a b : Int) : zI a + zI b = zI (a + b) := (Int32.ofInt_add a b).symm
theorem zI_sub (a b : Int) : zI a - zI b = zI (a - b) := (Int32.ofInt_sub a b).symm
theorem zI_toInt {z : Int} (h1 : -100000000 ≤ z) (h2 : z ≤ 100000000) : (zI z).toInt = z := Int32.toInt_ofInt_of_le (by omega) (by omega)
theorem zI_le {a b : Int} (h : a ≤ b) (h1 : -100000000 ≤ a) (h2 : b ≤ 100000000) : zI a ≤ zI b := by
  rw [Int32.le_iff_toInt_le, zI_toInt h1 (by omega), zI_toInt (by omega) h2]
  exact h
theorem zI_nle {a b : Int} (h : b < a) (h1 : -100000000 ≤ b) (h2 : a ≤ 100000000) : ¬ zI a ≤ zI b := by
  rw [Int32.le_iff_toInt_le, zI_toInt (by omega) h2, zI_toInt h1 (by omega)]
  omega
def GW (G : List ra_A) : Prop := (∀ a, a ∈ G → a.1 < 100 ∧ a.2.1 < 100 ∧ a.2.2.1 ≤ 2 ∧ a.2.2.2 ≤ 1) ∧ (G.length ≤ 220)
theorem GW.a {G : List ra_A} (h : GW G) : ∀ a, a ∈ G → a.1 < 100 ∧ a.2.1 < 100 ∧ a.2.2.1 ≤ 2 ∧ a.2.2.2 ≤ 1 := h.1
theorem GW.l {G : List ra_A} (h : GW G) : G.length ≤ 220 := h.2
theorem GW.mk {G : List ra_A} (a_ : ∀ a, a ∈ G → a.1 < 100 ∧ a.2.1 < 100 ∧ a.2.2.1 ≤ 2 ∧ a.2.2.2 ≤ 1) (l_ : G.length ≤ 220) : GW G := ⟨a_, l_⟩
def RX (I : Nat → Nat → Int32) (G : List ra_A) (s : ra_S) (B : Nat) : Prop := (∀ v, v < 100 → I 67 v = zI (s.1 v)) ∧ (∀ v, v < 100 → (s.2.1 v = none ∧ I 68 v = -1) ∨ ∃ e a, G[e]? = some a ∧ s.2.1 v = some a ∧ I 68 v = nI e) ∧ (∀ v, s.1 v ≤ 0 ∧ -(100 * (B : Int)) ≤ s.1 v)
theorem RX.d {I : Nat → Nat → Int32} {G : List ra_A} {s : ra_S} {B : Nat} (h : RX I G s B) : ∀ v, v < 100 → I 67 v = zI (s.1 v) := h.1
theorem RX.a {I : Nat → Nat → Int32} {G : List ra_A} {s : ra_S} {B : Nat} (h : RX I G s B) : ∀ v, v < 100 → (s.2.1 v = none ∧ I 68 v = -1) ∨ ∃ e a, G[e]? = some a ∧ s.2.1 v = some a ∧ I 68 v = nI e := h.2.1
theorem RX.b {I : Nat → Nat → Int32} {G : List ra_A} {s : ra_S} {B : Nat} (h : RX I G s B) : ∀ v, s.1 v ≤ 0 ∧ -(100 * (B : Int)) ≤ s.1 v := h.2.2
theorem RX.mk {I : Nat → Nat → Int32} {G : List ra_A} {s : ra_S} {B : Nat} (d_ : ∀ v, v < 100 → I 67 v = zI (s.1 v)) (a_ : ∀ v, v < 100 → (s.2.1 v = none ∧ I 68 v = -1) ∨ ∃ e a, G[e]? = some a ∧ s.2.1 v = some a ∧ I 68 v = nI e) (b_ : ∀ v, s.1 v ≤ 0 ∧ -(100 * (B : Int)) ≤ s.1 v) : RX I G s B := ⟨d_, a_, b_⟩
section S61
variable {d : Nat} {I : Nat → Nat → Int32} {J : Nat → Nat → Int64} {G : List ra_A} {s : ra_S} {B t l r : Nat}
theorem ra_w_n (a : ra_A) : ra_w t l a = ((a.2.2.1 * l : Nat) : Int) - ((a.2.2.2 * t : Nat) : Int) := by
  unfold ra_w
  rw [Int.natCast_mul, Int.natCast_mul]
theorem ra_w_b {a : ra_A} (h1 : a.2.2.1 ≤ 2) (h2 : a.2.2.2 ≤ 1) (ht : t ≤ 100) (hl : l ≤ 100) : -100 ≤ ra_w t l a ∧ ra_w t l a ≤ 200 := by
  rw [ra_w_n]
  have h3 : a.2.2.1 * l ≤ 2 * 100 := Nat.mul_le_mul h1 hl
  have h4 : a.2.2.2 * t ≤ 1 * 100 := Nat.mul_le_mul h2 ht
  omega
theorem sp_shrinkAll (rG : RG I G) (hG : GW G) (rX : RX I G s B) (h2 : I 62 2 = nI t) (h3 : I 62 3 = nI l) (ht : t ≤ 100) (hl : l ≤ 100) (hB : B ≤ 90000) : ∃ I' x, pm_Go d m_A_shrinkAll 0 [some (.ref 62), none, none, none, none] [] 0 0 (ST I J) (.inl (some (.int x)), ST I' J) ∧ RX I' G (G.foldl (ra_re t l r) s) (B + G.length) ∧ fr [67, 68] I I' ∧ ((x = -1 ∧ ∀ a, a ∈ G → s.1 a.2.1 ≤ s.1 a.1 + ra_w t l a) ∨ ∃ v, x = nI v ∧ (∃ a, a ∈ G ∧ a.2.1 = v) ∧ (G.foldl (ra_re t l r) s).2.2 v = r) := by
  have hGl := hG.l
  have loop : ∀ n e (Ii : Nat → Nat → Int32) (x : Int32) (w3 w4 : Option Value), G.length - e = n → e ≤ G.length → RX Ii G ((G.take e).foldl (ra_re t l r) s) (B + e) → fr [67, 68] I Ii → ((x = -1 ∧ (G.take e).foldl (ra_re t l r) s = s ∧ ∀ a, a ∈ G.take e → s.1 a.2.1 ≤ s.1 a.1 + ra_w t l a) ∨ ∃ v, x = nI v ∧ (∃ a, a ∈ G ∧ a.2.1 = v) ∧ ((G.take e).foldl (ra_re t l r) s).2.2 v = r) → ∃ I' x', pm_Go d m_A_shrinkAll 4 [some (.ref 62), some (.int x), some (.int (nI e)), w3, w4] [] 0 0 (ST Ii J) (.inl (some (.int x')), ST I' J) ∧ RX I' G (G.foldl (ra_re t l r) s) (B + G.length) ∧ fr [67, 68] I I' ∧ ((x' = -1 ∧ ∀ a, a ∈ G → s.1 a.2.1 ≤ s.1 a.1 + ra_w t l a) ∨ ∃ v, x' = nI v ∧ (∃ a, a ∈ G ∧ a.2.1 = v) ∧ (G.foldl (ra_re t l r) s).2.2 v = r) := by
    intro n
    induction n with
    | zero =>
      intro e Ii x w3 w4 hn he q1 f1 q2
      have : e = G.length := by omega
      subst this
      rw [List.take_length] at q1 q2
      have e5 : Ii 62 5 = nI G.length := by rw [f1 62 (by decide)]; exact rG.n
      refine ⟨Ii, x, ?_, q1, f1, q2.imp (fun h => ⟨h.1, h.2.2⟩) id⟩
      refine go_iload_n d_A_shrinkAll_4 rfl ?_
      refine go_aload_n d_A_shrinkAll_5 rfl ?_
      refine go_gI (j := 5) (nI G.length) d_A_shrinkAll_6 (Nat.le_of_ble_eq_true rfl) rfl pc_A (Nat.le_of_ble_eq_true rfl) (by decide) w_207 e5 ?_
      refine go_icmp_ge (tgt := 105) d_A_shrinkAll_9 (by decide) (fun z => ?_) (fun z => absurd (nI_le (Nat.le_refl _) (by omega)) z)
      refine go_iload_n d_A_shrinkAll_105 rfl ?_
      exact go_ireturn (st := []) d_A_shrinkAll_106 rfl (Nat.le_of_ble_eq_true rfl) (Nat.le_of_ble_eq_true rfl) rfl
    | succ n ih =>
      intro e Ii x w3 w4 hn he q1 f1 q2
      have he2 : e < G.length := by omega
      obtain ⟨a, ha⟩ : ∃ a, G[e]? = some a := ⟨G[e], List.getElem?_eq_getElem he2⟩
      have hmem : a ∈ G := List.mem_of_getElem? ha
      have etk : G.take (e + 1) = G.take e ++ [a] := by rw [List.take_add_one, ha]; rfl
      have efo : (G.take (e + 1)).foldl (ra_re t l r) s = ra_re t l r ((G.take e).foldl (ra_re t l r) s) a := by rw [etk, List.foldl_append]; rfl
      obtain ⟨g1, g2, g3, g4⟩ := hG.a a hmem
      obtain ⟨c1, c2, c3, c4⟩ := rG.a e a ha
      have e5 : Ii 62 5 = nI G.length := by rw [f1 62 (by decide)]; exact rG.n
      have e2 : Ii 62 2 = nI t := by rw [f1 62 (by decide)]; exact h2
      have e3 : Ii 62 3 = nI l := by rw [f1 62 (by decide)]; exact h3
      have k1 : Ii 63 e = nI a.1 := by rw [f1 63 (by decide)]; exact c1
      have k2 : Ii 64 e = nI a.2.1 := by rw [f1 64 (by decide)]; exact c2
      have k3 : Ii 65 e = nI a.2.2.1 := by rw [f1 65 (by decide)]; exact c3
      have k4 : Ii 66 e = nI a.2.2.2 := by rw [f1 66 (by decide)]; exact c4
      have hw := ra_w_b (t := t) (l := l) g3 g4 ht hl
      generalize hS : (G.take e).foldl (ra_re t l r) s = S at q1 q2 efo
      have d1 := q1.d a.1 g1
      have d2 := q1.d a.2.1 g2
      have b1 := q1.b a.1
      have b2 := q1.b a.2.1
      have ew : nI (a.2.2.1 * l) - nI (a.2.2.2 * t) = zI (ra_w t l a) := by rw [zI_n, zI_n, zI_sub, ra_w_n]
      by_cases hlt : S.1 a.1 + ra_w t l a < S.1 a.2.1
      · have ere : ra_re t l r S a = (ra_fu S.1 a.2.1 (S.1 a.1 + ra_w t l a), ra_fu S.2.1 a.2.1 (some a), ra_fu S.2.2 a.2.1 r) := by rw [ra_re, if_pos hlt]
        obtain ⟨I', x', i1, i2⟩ := ih (e + 1) (pm_uI (pm_uI Ii 67 a.2.1 (zI (S.1 a.1 + ra_w t l a))) 68 a.2.1 (nI e)) (nI a.2.1) (some (.int (zI (ra_w t l a)))) (some (.int (zI (S.1 a.1 + ra_w t l a)))) (by omega) (by omega) (by
          rw [efo, ere]
          refine RX.mk (fun v hv => ?_) (fun v hv => ?_) (fun v => ?_)
          · show pm_uI (pm_uI Ii 67 a.2.1 _) 68 a.2.1 _ 67 v = zI (ra_fu S.1 a.2.1 (S.1 a.1 + ra_w t l a) v)
            rw [uI_ne (by decide)]
            unfold ra_fu
            by_cases e6 : v = a.2.1
            · rw [if_pos e6, e6, uI_eq]
            · rw [if_neg e6, uI_nj e6]; exact q1.d v hv
          · show (ra_fu S.2.1 a.2.1 (some a) v = none ∧ _) ∨ ∃ e' a', G[e']? = some a' ∧ ra_fu S.2.1 a.2.1 (some a) v = some a' ∧ _
            unfold ra_fu
            by_cases e6 : v = a.2.1
            · right
              refine ⟨e, a, ha, by rw [if_pos e6], by rw [e6, uI_eq]⟩
            · rw [if_neg e6, uI_nj e6, uI_ne (by decide)]
              exact q1.a v hv
          · show ra_fu S.1 a.2.1 (S.1 a.1 + ra_w t l a) v ≤ 0 ∧ _ ≤ ra_fu S.1 a.2.1 (S.1 a.1 + ra_w t l a) v
            have b3 := q1.b v
            unfold ra_fu
            split <;> omega) ((f1.tr (fr.uI (by decide))).tr (fr.uI (by decide))) (Or.inr ⟨a.2.1, rfl, ⟨a, hmem, rfl⟩, by
          rw [efo, ere]
          show ra_fu S.2.2 a.2.1 r a.2.1 = r
          unfold ra_fu
          rw [if_pos rfl]⟩)
        refine ⟨I', x', ?_, i2⟩
        refine go_iload_n d_A_shrinkAll_4 rfl ?_
        refine go_aload_n d_A_shrinkAll_5 rfl ?_
        refine go_gI (j := 5) (nI G.length) d_A_shrinkAll_6 (Nat.le_of_ble_eq_true rfl) rfl pc_A (Nat.le_of_ble_eq_true rfl) (by decide) w_207 e5 ?_
        refine go_icmp_ge (tgt := 105) d_A_shrinkAll_9 (by decide) (fun z => absurd z (nI_ge (by omega) (by omega))) (fun z => ?_)
        refine go_aload_n d_A_shrinkAll_12 rfl ?_
        refine go_getP (j := 8) d_A_shrinkAll_13 (Nat.le_of_ble_eq_true rfl) rfl pc_A (Nat.le_of_ble_eq_true rfl) rfl w_210 pt_A_8 ?_
        refine go_iload_n d_A_shrinkAll_16 rfl ?_
        refine go_ald e (nI a.2.2.1) d_A_shrinkAll_17 (Nat.le_of_ble_eq_true rfl) rfl rfl (by omega) (by decide) k3 ?_
        refine go_aload_n d_A_shrinkAll_18 rfl ?_
        refine go_gI (j := 3) (nI l) d_A_shrinkAll_19 (Nat.le_of_ble_eq_true rfl) rfl pc_A (Nat.le_of_ble_eq_true rfl) (by decide) w_204 e3 ?_
        refine go_imul d_A_shrinkAll_22 ?_
        refine go_top (nI (a.2.2.1 * l)) (pk_mul _ _) ?_
        refine go_aload_n d_A_shrinkAll_23 rfl ?_
        refine go_getP (j := 9) d_A_shrinkAll_24 (Nat.le_of_ble_eq_true rfl) rfl pc_A (Nat.le_of_ble_eq_true rfl) rfl w_211 pt_A_9 ?_
        refine go_iload_n d_A_shrinkAll_27 rfl ?_
        refine go_ald e (nI a.2.2.2) d_A_shrinkAll_28 (Nat.le_of_ble_eq_true rfl) rfl rfl (by omega) (by decide) k4 ?_
        refine go_aload_n d_A_shrinkAll_29 rfl ?_
        refine go_gI (j := 2) (nI t) d_A_shrinkAll_30 (Nat.le_of_ble_eq_true rfl) rfl pc_A (Nat.le_of_ble_eq_true rfl) (by decide) w_202 e2 ?_
        refine go_imul d_A_shrinkAll_33 ?_
        refine go_top (nI (a.2.2.2 * t)) (pk_mul _ _) ?_
        refine go_isub d_A_shrinkAll_34 ?_
        refine go_top (zI (ra_w t l a)) ew ?_
        refine go_istore_n d_A_shrinkAll_35 (Nat.le_of_ble_eq_true rfl) rfl ?_
        refine go_aload_n d_A_shrinkAll_36 rfl ?_
        refine go_getP (j := 10) d_A_shrinkAll_37 (Nat.le_of_ble_eq_true rfl) rfl pc_A (Nat.le_of_ble_eq_true rfl) rfl w_212 pt_A_10 ?_
        refine go_aload_n d_A_shrinkAll_40 rfl ?_
        refine go_getP (j := 6) d_A_shrinkAll_41 (Nat.le_of_ble_eq_true rfl) rfl pc_A (Nat.le_of_ble_eq_true rfl) rfl w_208 pt_A_6 ?_
        refine go_iload_n d_A_shrinkAll_44 rfl ?_
        refine go_ald e (nI a.1) d_A_shrinkAll_45 (Nat.le_of_ble_eq_true rfl) rfl rfl (by omega) (by decide) k1 ?_
        refine go_ald a.1 (zI (S.1 a.1)) d_A_shrinkAll_46 (Nat.le_of_ble_eq_true rfl) rfl rfl g1 (by decide) d1 ?_
        refine go_iload_n d_A_shrinkAll_47 rfl ?_
        refine go_iadd d_A_shrinkAll_48 ?_
        refine go_top (zI (S.1 a.1 + ra_w t l a)) (zI_add _ _) ?_
        refine go_istore d_A_shrinkAll_49 (Nat.le_of_ble_eq_true rfl) rfl ?_
        refine go_iload d_A_shrinkAll_51 rfl ?_
        refine go_aload_n d_A_shrinkAll_53 rfl ?_
        refine go_getP (j := 10) d_A_shrinkAll_54 (Nat.le_of_ble_eq_true rfl) rfl pc_A (Nat.le_of_ble_eq_true rfl) rfl w_212 pt_A_10 ?_
        refine go_aload_n d_A_shrinkAll_57 rfl ?_
        refine go_getP (j := 7) d_A_shrinkAll_58 (Nat.le_of_ble_eq_true rfl) rfl pc_A (Nat.le_of_ble_eq_true rfl) rfl w_209 pt_A_7 ?_
        refine go_iload_n d_A_shrinkAll_61 rfl ?_
        refine go_ald e (nI a.2.1) d_A_shrinkAll_62 (Nat.le_of_ble_eq_true rfl) rfl rfl (by omega) (by decide) k2 ?_
        refine go_ald a.2.1 (zI (S.1 a.2.1)) d_A_shrinkAll_63 (Nat.le_of_ble_eq_true rfl) rfl rfl g2 (by decide) d2 ?_
        refine go_icmp_ge (tgt := 99) d_A_shrinkAll_64 (by decide) (fun z => absurd z (zI_nle hlt (by omega) (by omega))) (fun z => ?_)
        refine go_aload_n d_A_shrinkAll_67 rfl ?_
        refine go_getP (j := 10) d_A_shrinkAll_68 (Nat.le_of_ble_eq_true rfl) rfl pc_A (Nat.le_of_ble_eq_true rfl) rfl w_212 pt_A_10 ?_
        refine go_aload_n d_A_shrinkAll_71 rfl ?_
        refine go_getP (j := 7) d_A_shrinkAll_72 (Nat.le_of_ble_eq_true rfl) rfl pc_A (Nat.le_of_ble_eq_true rfl) rfl w_209 pt_A_7 ?_
        refine go_iload_n d_A_shrinkAll_75 rfl ?_
        refine go_ald e (nI a.2.1) d_A_shrinkAll_76 (Nat.le_of_ble_eq_true rfl) rfl rfl (by omega) (by decide) k2 ?_
        refine go_iload d_A_shrinkAll_77 rfl ?_
        refine go_ast a.2.1 d_A_shrinkAll_79 (Nat.le_of_ble_eq_true rfl) rfl rfl g2 (by decide) ?_
        refine go_aload_n d_A_shrinkAll_80 rfl ?_
        refine go_getP (j := 11) d_A_shrinkAll_81 (Nat.le_of_ble_eq_true rfl) rfl pc_A (Nat.le_of_ble_eq_true rfl) rfl w_213 pt_A_11 ?_
        refine go_aload_n d_A_shrinkAll_84 rfl ?_
        refine go_getP (j := 7) d_A_shrinkAll_85 (Nat.le_of_ble_eq_true rfl) rfl pc_A (Nat.le_of_ble_eq_true rfl) rfl w_209 pt_A_7 ?_
        refine go_iload_n d_A_shrinkAll_88 rfl ?_
        refine go_ald e (nI a.2.1) d_A_shrinkAll_89 (Nat.le_of_ble_eq_true rfl) rfl rfl (by omega) (by decide) k2 ?_
        refine go_iload_n d_A_shrinkAll_90 rfl ?_
        refine go_ast a.2.1 d_A_shrinkAll_91 (Nat.le_of_ble_eq_true rfl) rfl rfl g2 (by decide) ?_
        refine go_aload_n d_A_shrinkAll_92 rfl ?_
        refine go_getP (j := 7) d_A_shrinkAll_93 (Nat.le_of_ble_eq_true rfl) rfl pc_A (Nat.le_of_ble_eq_true rfl) rfl w_209 pt_A_7 ?_
        refine go_iload_n d_A_shrinkAll_96 rfl ?_
        refine go_ald e (nI a.2.1) d_A_shrinkAll_97 (Nat.le_of_ble_eq_true rfl) rfl rfl (by omega) (by decide) k2 ?_
        refine go_istore_n d_A_shrinkAll_98 (Nat.le_of_ble_eq_true rfl) rfl ?_
        refine go_iinc (v := nI (e + 1)) d_A_shrinkAll_99 rfl (by first | rfl | exact nI_1 _) rfl ?_
        refine go_goto (tgt := 4) d_A_shrinkAll_102 (by decide) ?_
        exact i1
      · have ere : ra_re t l r S a = S := by rw [ra_re, if_neg hlt]
        obtain ⟨I', x', i1, i2⟩ := ih (e + 1) Ii x (some (.int (zI (ra_w t l a)))) (some (.int (zI (S.1 a.1 + ra_w t l a)))) (by omega) (by omega) (by
          rw [efo, ere]
          refine RX.mk q1.d q1.a (fun v => ?_)
          have b3 := q1.b v
          omega) f1 (by
          rw [efo, ere]
          refine q2.imp (fun h => ⟨h.1, h.2.1, fun a' ha' => ?_⟩) id
          rw [etk] at ha'
          rcases List.mem_append.mp ha' with h6 | h6
          · exact h.2.2 a' h6
          · have h7 : a' = a := List.mem_singleton.mp h6
            rw [h7, ← h.2.1]
            omega)
        refine ⟨I', x', ?_, i2⟩
        refine go_iload_n d_A_shrinkAll_4 rfl ?_
        refine go_aload_n d_A_shrinkAll_5 rfl ?_
        refine go_gI (j := 5) (nI G.length) d_A_shrinkAll_6 (Nat.le_of_ble_eq_true rfl) rfl pc_A (Nat.le_of_ble_eq_true rfl) (by decide) w_207 e5 ?_
        refine go_icmp_ge (tgt := 105) d_A_shrinkAll_9 (by decide) (fun z => absurd z (nI_ge (by omega) (by omega))) (fun z => ?_)
        refine go_aload_n d_A_shrinkAll_12 rfl ?_
        refine go_getP (j := 8) d_A_shrinkAll_13 (Nat.le_of_ble_eq_true rfl) rfl pc_A (Nat.le_of_ble_eq_true rfl) rfl w_210 pt_A_8 ?_
        refine go_iload_n d_A_shrinkAll_16 rfl ?_
        refine go_ald e (nI a.2.2.1) d_A_shrinkAll_17 (Nat.le_of_ble_eq_true rfl) rfl rfl (by omega) (by decide) k3 ?_
        refine go_aload_n d_A_shrinkAll_18 rfl ?_
        refine go_gI (j := 3) (nI l) d_A_shrinkAll_19 (Nat.le_of_ble_eq_true rfl) rfl pc_A (Nat.le_of_ble_eq_true rfl) (by decide) w_204 e3 ?_
        refine go_imul d_A_shrinkAll_22 ?_
        refine go_top (nI (a.2.2.1 * l)) (pk_mul _ _) ?_
        refine go_aload_n d_A_shrinkAll_23 rfl ?_
        refine go_getP (j := 9) d_A_shrinkAll_24 (Nat.le_of_ble_eq_true rfl) rfl pc_A (Nat.le_of_ble_eq_true rfl) rfl w_211 pt_A_9 ?_
        refine go_iload_n d_A_shrinkAll_27 rfl ?_
        refine go_ald e (nI a.2.2.2) d_A_shrinkAll_28 (Nat.le_of_ble_eq_true rfl) rfl rfl (by omega) (by decide) k4 ?_
        refine go_aload_n d_A_shrinkAll_29 rfl ?_
        refine go_gI (j := 2) (nI t) d_A_shrinkAll_30 (Nat.le_of_ble_eq_true rfl) rfl pc_A (Nat.le_of_ble_eq_true rfl) (by decide) w_202 e2 ?_
        refine go_imul d_A_shrinkAll_33 ?_
        refine go_top (nI (a.2.2.2 * t)) (pk_mul _ _) ?_
        refine go_isub d_A_shrinkAll_34 ?_
        refine go_top (zI (ra_w t l a)) ew ?_
        refine go_istore_n d_A_shrinkAll_35 (Nat.le_of_ble_eq_true rfl) rfl ?_
        refine go_aload_n d_A_shrinkAll_36 rfl ?_
        refine go_getP (j := 10) d_A_shrinkAll_37 (Nat.le_of_ble_eq_true rfl) rfl pc_A (Nat.le_of_ble_eq_true rfl) rfl w_212 pt_A_10 ?_
        refine go_aload_n d_A_shrinkAll_40 rfl ?_
        refine go_getP (j := 6) d_A_shrinkAll_41 (Nat.le_of_ble_eq_true rfl) rfl pc_A (Nat.le_of_ble_eq_true rfl) rfl w_208 pt_A_6 ?_
        refine go_iload_n d_A_shrinkAll_44 rfl ?_
        refine go_ald e (nI a.1) d_A_shrinkAll_45 (Nat.le_of_ble_eq_true rfl) rfl rfl (by omega) (by decide) k1 ?_
        refine go_ald a.1 (zI (S.1 a.1)) d_A_shrinkAll_46 (Nat.le_of_ble_eq_true rfl) rfl rfl g1 (by decide) d1 ?_
        refine go_iload_n d_A_shrinkAll_47 rfl ?_
        refine go_iadd d_A_shrinkAll_48 ?_
        refine go_top (zI (S.1 a.1 + ra_w t l a)) (zI_add _ _) ?_
        refine go_istore d_A_shrinkAll_49 (Nat.le_of_ble_eq_true rfl) rfl ?_
        refine go_iload d_A_shrinkAll_51 rfl ?_
        refine go_aload_n d_A_shrinkAll_53 rfl ?_
        refine go_getP (j := 10) d_A_shrinkAll_54 (Nat.le_of_ble_eq_true rfl) rfl pc_A (Nat.le_of_ble_eq_true rfl) rfl w_212 pt_A_10 ?_
        refine go_aload_n d_A_shrinkAll_57 rfl ?_
        refine go_getP (j := 7) d_A_shrinkAll_58 (Nat.le_of_ble_eq_true rfl) rfl pc_A (Nat.le_of_ble_eq_true rfl) rfl w_209 pt_A_7 ?_
        refine go_iload_n d_A_shrinkAll_61 rfl ?_
        refine go_ald e (nI a.2.1) d_A_shrinkAll_62 (Nat.le_of_ble_eq_true rfl) rfl rfl (by omega) (by decide) k2 ?_
        refine go_ald a.2.1 (zI (S.1 a.2.1)) d_A_shrinkAll_63 (Nat.le_of_ble_eq_true rfl) rfl rfl g2 (by decide) d2 ?_
        refine go_icmp_ge (tgt := 99) d_A_shrinkAll_64 (by decide) (fun z => ?_) (fun z => absurd (zI_le (by omega) (by omega) (by omega)) z)
        refine go_iinc (v := nI (e + 1)) d_A_shrinkAll_99 rfl (by first | rfl | exact nI_1 _) rfl ?_
        refine go_goto (tgt := 4) d_A_shrinkAll_102 (by decide) ?_
        exact i1
  obtain ⟨I', x, i1, i2⟩ := loop G.length 0 I (-1) none none (by omega) (by omega) (by rw [List.take_zero]; exact rX) fr.rf (Or.inl ⟨rfl, rfl, fun a ha => by rw [List.take_zero] at ha; cases ha⟩)
  refine ⟨I', x, ?_, i2⟩
  refine go_iconst (v := -1) d_A_shrinkAll_0 (by decide) ?_
  refine go_istore_n d_A_shrinkAll_1 (Nat.le_of_ble_eq_true rfl) rfl ?_
  refine go_iconst (v := 0) d_A_shrinkAll_2 (by decide) ?_
  refine go_istore_n d_A_shrinkAll_3 (Nat.le_of_ble_eq_true rfl) rfl ?_
  exact i1
end S61
