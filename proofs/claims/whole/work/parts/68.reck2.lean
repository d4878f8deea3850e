/-! the reference: its graph is drawn -/
def RN (I : Nat → Nat → Int32) (G : List ra_A) : Prop := (I 69 39 = nI G.length) ∧ (∀ n a, G[n]? = some a → I 97 n = nI a.1 ∧ I 98 n = nI a.2.1 ∧ I 99 n = nI a.2.2.1 ∧ I 100 n = nI a.2.2.2)
theorem RN.n {I : Nat → Nat → Int32} {G : List ra_A} (h : RN I G) : I 69 39 = nI G.length := h.1
theorem RN.a {I : Nat → Nat → Int32} {G : List ra_A} (h : RN I G) : ∀ n a, G[n]? = some a → I 97 n = nI a.1 ∧ I 98 n = nI a.2.1 ∧ I 99 n = nI a.2.2.1 ∧ I 100 n = nI a.2.2.2 := h.2
theorem RN.mk {I : Nat → Nat → Int32} {G : List ra_A} (n_ : I 69 39 = nI G.length) (a_ : ∀ n a, G[n]? = some a → I 97 n = nI a.1 ∧ I 98 n = nI a.2.1 ∧ I 99 n = nI a.2.2.1 ∧ I 100 n = nI a.2.2.2) : RN I G := ⟨n_, a_⟩
section S64
variable {d : Nat} {I : Nat → Nat → Int32} {J : Nat → Nat → Int64} {D : DZ} {G : List ra_A}
theorem RN_add {x : ra_A} (rG : RN I G) : RN (pm_uI (pm_uI (pm_uI (pm_uI (pm_uI I 97 G.length (nI x.1)) 98 G.length (nI x.2.1)) 99 G.length (nI x.2.2.1)) 100 G.length (nI x.2.2.2)) 69 39 (nI (G.length + 1))) (G ++ [x]) := by
  have at1 : ∀ c j, pm_uI (pm_uI (pm_uI (pm_uI (pm_uI I 97 G.length (nI x.1)) 98 G.length (nI x.2.1)) 99 G.length (nI x.2.2.1)) 100 G.length (nI x.2.2.2)) 69 39 (nI (G.length + 1)) c j = if c = 69 ∧ j = 39 then nI (G.length + 1) else if c = 100 ∧ j = G.length then nI x.2.2.2 else if c = 99 ∧ j = G.length then nI x.2.2.1 else if c = 98 ∧ j = G.length then nI x.2.1 else if c = 97 ∧ j = G.length then nI x.1 else I c j := by
    intro c j
    simp only [uI_at]
  refine RN.mk ?_ (fun n a h => ?_)
  · rw [at1, if_pos ⟨rfl, rfl⟩, List.length_append]
    rfl
  · rw [at1, at1, at1, at1]
    by_cases e : n = G.length
    · subst e
      rw [List.getElem?_append_right (Nat.le_refl _), Nat.sub_self] at h
      have h2 : x = a := Option.some.inj h
      subst h2
      simp
    · have hn : n < G.length := by
        have := (List.getElem?_eq_some_iff.mp h).1
        rw [List.length_append] at this
        have h3 : [x].length = 1 := rfl
        omega
      rw [List.getElem?_append_left hn] at h
      have := rG.a n a h
      rw [if_neg (by omega), if_neg (by omega), if_neg (by omega), if_neg (by omega), if_neg (by omega), if_neg (by omega), if_neg (by omega), if_neg (by omega), if_neg (by omega), if_neg (by omega), if_neg (by omega), if_neg (by omega), if_neg (by omega), if_neg (by omega), if_neg (by omega), if_neg (by omega), if_neg (by omega), if_neg (by omega), if_neg (by omega), if_neg (by omega)]
      exact this
theorem sp_M_arc {n : Nat} {a b t l : Int32} (hn : I 69 39 = nI n) (h : n < 400) : pm_Go d m_M_arc 0 [some (.ref 69), some (.int a), some (.int b), some (.int t), some (.int l)] [] 0 0 (ST I J) (.inl none, ST (pm_uI (pm_uI (pm_uI (pm_uI (pm_uI I 97 n a) 98 n b) 99 n t) 100 n l) 69 39 (nI (n + 1))) J) := by
  refine go_aload_n d_M_arc_0 rfl ?_
  refine go_getP (j := 35) d_M_arc_1 (Nat.le_of_ble_eq_true rfl) rfl pc_M (Nat.le_of_ble_eq_true rfl) rfl w_737 pt_M_35 ?_
  refine go_aload_n d_M_arc_4 rfl ?_
  refine go_gI (j := 39) (nI n) d_M_arc_5 (Nat.le_of_ble_eq_true rfl) rfl pc_M (Nat.le_of_ble_eq_true rfl) (by decide) w_741 hn ?_
  refine go_iload_n d_M_arc_8 rfl ?_
  refine go_ast n d_M_arc_9 (Nat.le_of_ble_eq_true rfl) rfl rfl h (by decide) ?_
  refine go_aload_n d_M_arc_10 rfl ?_
  refine go_getP (j := 36) d_M_arc_11 (Nat.le_of_ble_eq_true rfl) rfl pc_M (Nat.le_of_ble_eq_true rfl) rfl w_738 pt_M_36 ?_
  refine go_aload_n d_M_arc_14 rfl ?_
  refine go_gI (j := 39) (nI n) d_M_arc_15 (Nat.le_of_ble_eq_true rfl) rfl pc_M (Nat.le_of_ble_eq_true rfl) (by decide) w_741 hn ?_
  refine go_iload_n d_M_arc_18 rfl ?_
  refine go_ast n d_M_arc_19 (Nat.le_of_ble_eq_true rfl) rfl rfl h (by decide) ?_
  refine go_aload_n d_M_arc_20 rfl ?_
  refine go_getP (j := 37) d_M_arc_21 (Nat.le_of_ble_eq_true rfl) rfl pc_M (Nat.le_of_ble_eq_true rfl) rfl w_739 pt_M_37 ?_
  refine go_aload_n d_M_arc_24 rfl ?_
  refine go_gI (j := 39) (nI n) d_M_arc_25 (Nat.le_of_ble_eq_true rfl) rfl pc_M (Nat.le_of_ble_eq_true rfl) (by decide) w_741 hn ?_
  refine go_iload_n d_M_arc_28 rfl ?_
  refine go_ast n d_M_arc_29 (Nat.le_of_ble_eq_true rfl) rfl rfl h (by decide) ?_
  refine go_aload_n d_M_arc_30 rfl ?_
  refine go_getP (j := 38) d_M_arc_31 (Nat.le_of_ble_eq_true rfl) rfl pc_M (Nat.le_of_ble_eq_true rfl) rfl w_740 pt_M_38 ?_
  refine go_aload_n d_M_arc_34 rfl ?_
  refine go_gI (j := 39) (nI n) d_M_arc_35 (Nat.le_of_ble_eq_true rfl) rfl pc_M (Nat.le_of_ble_eq_true rfl) (by decide) w_741 hn ?_
  refine go_iload d_M_arc_38 rfl ?_
  refine go_ast n d_M_arc_40 (Nat.le_of_ble_eq_true rfl) rfl rfl h (by decide) ?_
  refine go_aload_n d_M_arc_41 rfl ?_
  refine go_dup d_M_arc_42 rfl ?_
  refine go_gI (j := 39) (nI n) d_M_arc_43 (Nat.le_of_ble_eq_true rfl) rfl pc_M (Nat.le_of_ble_eq_true rfl) (by decide) w_741 hn ?_
  refine go_iconst (v := 1) d_M_arc_46 (by decide) ?_
  refine go_iadd d_M_arc_47 ?_
  refine go_top (nI (n + 1)) (nI_1 _) ?_
  refine go_pI (j := 39) d_M_arc_48 (Nat.le_of_ble_eq_true rfl) rfl pc_M (Nat.le_of_ble_eq_true rfl) (by decide) w_741 rfl (Or.inl rfl) ?_
  exact go_vreturn (st := []) d_M_arc_51 rfl (Nat.le_of_ble_eq_true rfl) (Nat.le_of_ble_eq_true rfl) rfl
theorem sp_arcM {x y t l a b : Nat} (rN : RN I (G.map (phA D))) (h : G.length < 400) (hx : phM D x = a) (hy : phM D y = b) : ∃ I', pm_Go d m_M_arc 0 [some (.ref 69), some (.int (nI a)), some (.int (nI b)), some (.int (nI t)), some (.int (nI l))] [] 0 0 (ST I J) (.inl none, ST I' J) ∧ RN I' ((G ++ [(x, y, t, l)]).map (phA D)) ∧ (∀ q, q ≠ 39 → I' 69 q = I 69 q) ∧ fr [69, 97, 98, 99, 100] I I' := by
  subst hx
  subst hy
  have e : (G ++ [(x, y, t, l)]).map (phA D) = G.map (phA D) ++ [phA D (x, y, t, l)] := by rw [List.map_append]; rfl
  rw [e]
  refine ⟨_, sp_M_arc rN.n (by rw [List.length_map]; exact h), RN_add (x := phA D (x, y, t, l)) rN, fun q hq => ?_, ((((fr.uI (by decide)).tr (fr.uI (by decide))).tr (fr.uI (by decide))).tr (fr.uI (by decide))).tr (fr.uI (by decide))⟩
  rw [uI_nj hq, uI_ne (by decide), uI_ne (by decide), uI_ne (by decide), uI_ne (by decide)]
def drL : List Nat := [69, 97, 98, 99, 100]
theorem ph_nx {c b : Nat} (h : b + 1 ≤ 3) : phM D (20 + c * 4 + b + 1) = baM D c + b := ph_k (b := b + 1) (by omega) h
/-- one buffer of a channel -/
theorem M_draw_b {c b : Nat} {w4 w5 : Option Value} (hD : DW D) (rM : RMD I D) (hc : c < D.nc) (hb : b ≤ D.ex c) (rN : RN I ((G ++ gC D c b).map (phA D))) (hG : G.length ≤ 210) (h40 : I 69 40 = nI (baM D c + b)) : ∃ I', RN I' ((G ++ gC D c (b + 1)).map (phA D)) ∧ I' 69 40 = nI (baM D c + min (b + 1) (D.ex c)) ∧ (∀ q, q ≠ 39 → q ≠ 40 → I' 69 q = I 69 q) ∧ fr drL I I' ∧ ∀ out w4' w5', w4' = some (.int (if b = D.ex c then 1 else 0)) → w5' = some (.int (nI (if b = 0 then 1 else 0))) → pm_Go (d + 1) m_M_draw 235 [some (.ref 69), some (.int (nI c)), some (.int (nI (baM D c + b))), some (.int (nI b)), w4', w5'] [] 0 0 (ST I' J) out → pm_Go (d + 1) m_M_draw 120 [some (.ref 69), some (.int (nI c)), some (.int (nI (phM D (20 + c * 4 + b)))), some (.int (nI b)), w4, w5] [] 0 0 (ST I J) out := by
  have h20 := hD.nc
  have h10 := hD.nb
  obtain ⟨hf, ht, hx⟩ := hD.ch c hc
  have hba := ba_le hD (Nat.le_of_lt hc)
  have hl1 : (G ++ gC D c b).length < 400 := by
    rw [List.length_append, gC_l]
    omega
  have hto : phM D (if b < D.ex c then 20 + c * 4 + b + 1 else D.to c) = if b = D.ex c then 2 * D.to c else baM D c + b := by
    by_cases e : b = D.ex c
    · rw [if_neg (by omega), if_pos e, (ph_b (by omega)).1]
    · rw [if_pos (by omega), if_neg e, ph_nx (by omega)]
  have hto2 : phM D (if b < D.ex c then 20 + c * 4 + b + 1 else 10 + D.to c) = if b = D.ex c then 2 * D.to c + 1 else baM D c + b := by
    by_cases e : b = D.ex c
    · rw [if_neg (by omega), if_pos e, (ph_b (by omega)).2]
    · rw [if_pos (by omega), if_neg e, ph_nx (by omega)]
  obtain ⟨I1, a1, a2, a3, a4⟩ := sp_arcM (d := d) (J := J) (x := 20 + c * 4 + b) (y := if b < D.ex c then 20 + c * 4 + b + 1 else D.to c) (t := if b = 0 then 1 else 0) (l := 1) rN hl1 rfl hto
  have hl2 : ((G ++ gC D c b) ++ [(20 + c * 4 + b, (if b < D.ex c then 20 + c * 4 + b + 1 else D.to c), (if b = 0 then 1 else 0), 1)]).length < 400 := by
    rw [List.length_append, List.length_append, gC_l]
    show G.length + (2 + 2 * b) + 1 < 400
    omega
  obtain ⟨I2, b1, b2, b3, b4⟩ := sp_arcM (d := d) (J := J) (x := if b < D.ex c then 20 + c * 4 + b + 1 else 10 + D.to c) (y := 20 + c * 4 + b) (t := 2 - (if b = 0 then 1 else 0)) (l := 1) a2 hl2 hto2 rfl
  have eG : ((G ++ gC D c b) ++ [(20 + c * 4 + b, (if b < D.ex c then 20 + c * 4 + b + 1 else D.to c), (if b = 0 then 1 else 0), 1)]) ++ [((if b < D.ex c then 20 + c * 4 + b + 1 else 10 + D.to c), 20 + c * 4 + b, 2 - (if b = 0 then 1 else 0), 1)] = G ++ gC D c (b + 1) := by
    rw [gC_s, gC1, List.append_assoc, List.append_assoc]
    rfl
  rw [eG] at b2
  have rM1 : RMD I1 D := rM.cg (fun j hj => a3 j (by omega)) (fun c h1 h2 => a4 c (by simp; omega))
  have e40 : I1 69 40 = nI (baM D c + b) := by rw [a3 40 (by decide)]; exact h40
  have e40b : I2 69 40 = nI (baM D c + b) := by rw [b3 40 (by decide)]; exact e40
  have hex : I 75 c = nI (D.ex c) := (rM.ch c hc).2.2.2.1
  refine ⟨pm_uI I2 69 40 (nI (baM D c + min (b + 1) (D.ex c))), RN.mk (by rw [uI_nj (by decide)]; exact b2.n) b2.a, uI_eq, fun q h1 h2 => by rw [uI_nj h2, b3 q h1, a3 q h1], ((a4.up (by decide)).tr (b4.up (by decide))).tr (fr.uI (by decide)), ?_⟩
  intro out w4' w5' e4 e5 ho
  subst e4
  subst e5
  generalize phM D (20 + c * 4 + b) = at0' at a1 b1
  have q4 : pm_Go (d + 1) m_M_draw 208 [some (.ref 69), some (.int (nI c)), some (.int (nI at0')), some (.int (nI b)), some (.int (if b = D.ex c then 1 else 0)), some (.int (nI (if b = 0 then 1 else 0)))] [] 0 0 (ST I2 J) out := by
    refine go_aload_n d_M_draw_208 rfl ?_
    refine go_gI (j := 40) (nI (baM D c + b)) d_M_draw_209 (Nat.le_of_ble_eq_true rfl) rfl pc_M (Nat.le_of_ble_eq_true rfl) (by decide) w_742 e40b ?_
    refine go_istore_n d_M_draw_212 (Nat.le_of_ble_eq_true rfl) rfl ?_
    refine go_aload_n d_M_draw_213 rfl ?_
    refine go_iload d_M_draw_214 rfl ?_
    by_cases e : b = D.ex c
    · rw [if_pos e] at ho ⊢
      rw [show min (b + 1) (D.ex c) = b by omega] at ho
      refine go_if_eq (tgt := 226) d_M_draw_216 (by decide) (fun z => absurd z (by decide)) (fun z => ?_)
      refine go_aload_n d_M_draw_219 rfl ?_
      refine go_gI (j := 40) (nI (baM D c + b)) d_M_draw_220 (Nat.le_of_ble_eq_true rfl) rfl pc_M (Nat.le_of_ble_eq_true rfl) (by decide) w_742 e40b ?_
      refine go_goto (tgt := 232) d_M_draw_223 (by decide) ?_
      refine go_pI (j := 40) d_M_draw_232 (Nat.le_of_ble_eq_true rfl) rfl pc_M (Nat.le_of_ble_eq_true rfl) (by decide) w_742 rfl (Or.inl rfl) ?_
      exact ho
    · rw [if_neg e] at ho ⊢
      rw [show min (b + 1) (D.ex c) = b + 1 by omega] at ho
      refine go_if_eq (tgt := 226) d_M_draw_216 (by decide) (fun z => ?_) (fun z => absurd rfl z)
      refine go_aload_n d_M_draw_226 rfl ?_
      refine go_gI (j := 40) (nI (baM D c + b)) d_M_draw_227 (Nat.le_of_ble_eq_true rfl) rfl pc_M (Nat.le_of_ble_eq_true rfl) (by decide) w_742 e40b ?_
      refine go_iconst (v := 1) d_M_draw_230 (by decide) ?_
      refine go_iadd d_M_draw_231 ?_
      refine go_top (nI (baM D c + (b + 1))) (nI_1 _) ?_
      refine go_pI (j := 40) d_M_draw_232 (Nat.le_of_ble_eq_true rfl) rfl pc_M (Nat.le_of_ble_eq_true rfl) (by decide) w_742 rfl (Or.inl rfl) ?_
      exact ho
  have q3 : pm_Go (d + 1) m_M_draw 176 [some (.ref 69), some (.int (nI c)), some (.int (nI at0')), some (.int (nI b)), some (.int (if b = D.ex c then 1 else 0)), some (.int (nI (if b = 0 then 1 else 0)))] [] 0 0 (ST I1 J) out := by
    have tail : ∀ v : Nat, v = (if b = D.ex c then 2 * D.to c + 1 else baM D c + b) → pm_Go (d + 1) m_M_draw 199 [some (.ref 69), some (.int (nI c)), some (.int (nI at0')), some (.int (nI b)), some (.int (if b = D.ex c then 1 else 0)), some (.int (nI (if b = 0 then 1 else 0)))] [.int (nI v), .ref 69] 0 0 (ST I1 J) out := by
      intro v hv
      subst hv
      refine go_iload_n d_M_draw_199 rfl ?_
      refine go_iconst (v := 2) d_M_draw_200 (by decide) ?_
      refine go_iload d_M_draw_201 rfl ?_
      refine go_isub d_M_draw_203 ?_
      refine go_top (nI (2 - (if b = 0 then 1 else 0))) (pk_sub (a := 2) (by split <;> omega)) ?_
      refine go_iconst (v := 1) d_M_draw_204 (by decide) ?_
      refine go_callV (k2 := m_M_arc) (As := [.int (nI (if b = D.ex c then 2 * D.to c + 1 else baM D c + b)), .int (nI at0'), .int (nI (2 - (if b = 0 then 1 else 0))), .int (nI 1)]) (r := none) d_M_draw_205 ok_M_arc (Nat.le_of_ble_eq_true rfl) rfl pc_M rfl vl_M_206 rfl rfl (Nat.le_of_ble_eq_true rfl) (Nat.le_of_ble_eq_true rfl) (Nat.le_of_ble_eq_true rfl) (Nat.le_of_ble_eq_true rfl) rfl rfl b1 ?_
      exact q4
    refine go_aload_n d_M_draw_176 rfl ?_
    refine go_iload d_M_draw_177 rfl ?_
    by_cases e : b = D.ex c
    · have tl := tail _ (if_pos e).symm
      rw [if_pos e] at tl ⊢
      refine go_if_eq (tgt := 195) d_M_draw_179 (by decide) (fun z => absurd z (by decide)) (fun z => ?_)
      refine go_iconst (v := 2) d_M_draw_182 (by decide) ?_
      refine go_aload_n d_M_draw_183 rfl ?_
      refine go_getP (j := 7) d_M_draw_184 (Nat.le_of_ble_eq_true rfl) rfl pc_M (Nat.le_of_ble_eq_true rfl) rfl w_709 pt_M_7 ?_
      refine go_iload_n d_M_draw_187 rfl ?_
      refine go_ald c (nI (D.to c)) d_M_draw_188 (Nat.le_of_ble_eq_true rfl) rfl rfl (by omega) (by decide) (rM1.ch c hc).2.1 ?_
      refine go_imul d_M_draw_189 ?_
      refine go_top (nI (2 * D.to c)) (pk_mul 2 _) ?_
      refine go_iconst (v := 1) d_M_draw_190 (by decide) ?_
      refine go_iadd d_M_draw_191 ?_
      refine go_top (nI (2 * D.to c + 1)) (nI_1 _) ?_
      refine go_goto (tgt := 199) d_M_draw_192 (by decide) ?_
      exact tl
    · have tl := tail _ (if_neg e).symm
      rw [if_neg e] at tl ⊢
      refine go_if_eq (tgt := 195) d_M_draw_179 (by decide) (fun z => ?_) (fun z => absurd rfl z)
      refine go_aload_n d_M_draw_195 rfl ?_
      refine go_gI (j := 40) (nI (baM D c + b)) d_M_draw_196 (Nat.le_of_ble_eq_true rfl) rfl pc_M (Nat.le_of_ble_eq_true rfl) (by decide) w_742 e40 ?_
      exact tl
  have q2 : pm_Go (d + 1) m_M_draw 148 [some (.ref 69), some (.int (nI c)), some (.int (nI at0')), some (.int (nI b)), some (.int (if b = D.ex c then 1 else 0)), some (.int (nI (if b = 0 then 1 else 0)))] [] 0 0 (ST I J) out := by
    have tail : ∀ v : Nat, v = (if b = D.ex c then 2 * D.to c else baM D c + b) → pm_Go (d + 1) m_M_draw 170 [some (.ref 69), some (.int (nI c)), some (.int (nI at0')), some (.int (nI b)), some (.int (if b = D.ex c then 1 else 0)), some (.int (nI (if b = 0 then 1 else 0)))] [.int (nI v), .int (nI at0'), .ref 69] 0 0 (ST I J) out := by
      intro v hv
      subst hv
      refine go_iload d_M_draw_170 rfl ?_
      refine go_iconst (v := 1) d_M_draw_172 (by decide) ?_
      refine go_callV (k2 := m_M_arc) (As := [.int (nI at0'), .int (nI (if b = D.ex c then 2 * D.to c else baM D c + b)), .int (nI (if b = 0 then 1 else 0)), .int (nI 1)]) (r := none) d_M_draw_173 ok_M_arc (Nat.le_of_ble_eq_true rfl) rfl pc_M rfl vl_M_206 rfl rfl (Nat.le_of_ble_eq_true rfl) (Nat.le_of_ble_eq_true rfl) (Nat.le_of_ble_eq_true rfl) (Nat.le_of_ble_eq_true rfl) rfl rfl a1 ?_
      exact q3
    refine go_aload_n d_M_draw_148 rfl ?_
    refine go_iload_n d_M_draw_149 rfl ?_
    refine go_iload d_M_draw_150 rfl ?_
    by_cases e : b = D.ex c
    · have tl := tail _ (if_pos e).symm
      rw [if_pos e] at tl ⊢
      refine go_if_eq (tgt := 166) d_M_draw_152 (by decide) (fun z => absurd z (by decide)) (fun z => ?_)
      refine go_iconst (v := 2) d_M_draw_155 (by decide) ?_
      refine go_aload_n d_M_draw_156 rfl ?_
      refine go_getP (j := 7) d_M_draw_157 (Nat.le_of_ble_eq_true rfl) rfl pc_M (Nat.le_of_ble_eq_true rfl) rfl w_709 pt_M_7 ?_
      refine go_iload_n d_M_draw_160 rfl ?_
      refine go_ald c (nI (D.to c)) d_M_draw_161 (Nat.le_of_ble_eq_true rfl) rfl rfl (by omega) (by decide) (rM.ch c hc).2.1 ?_
      refine go_imul d_M_draw_162 ?_
      refine go_top (nI (2 * D.to c)) (pk_mul 2 _) ?_
      refine go_goto (tgt := 170) d_M_draw_163 (by decide) ?_
      exact tl
    · have tl := tail _ (if_neg e).symm
      rw [if_neg e] at tl ⊢
      refine go_if_eq (tgt := 166) d_M_draw_152 (by decide) (fun z => ?_) (fun z => absurd rfl z)
      refine go_aload_n d_M_draw_166 rfl ?_
      refine go_gI (j := 40) (nI (baM D c + b)) d_M_draw_167 (Nat.le_of_ble_eq_true rfl) rfl pc_M (Nat.le_of_ble_eq_true rfl) (by decide) w_742 h40 ?_
      exact tl
  have q1 : pm_Go (d + 1) m_M_draw 137 [some (.ref 69), some (.int (nI c)), some (.int (nI at0')), some (.int (nI b)), some (.int (if b = D.ex c then 1 else 0)), w5] [] 0 0 (ST I J) out := by
    refine go_iload_n d_M_draw_137 rfl ?_
    by_cases h0 : b = 0
    · rw [if_pos h0] at q2
      refine go_if_ne (tgt := 145) d_M_draw_138 (by decide) (fun z => absurd (congrArg nI h0) z) (fun z => ?_)
      refine go_iconst (v := 1) d_M_draw_141 (by decide) ?_
      refine go_goto (tgt := 146) d_M_draw_142 (by decide) ?_
      refine go_istore d_M_draw_146 (Nat.le_of_ble_eq_true rfl) rfl ?_
      exact q2
    · rw [if_neg h0] at q2
      refine go_if_ne (tgt := 145) d_M_draw_138 (by decide) (fun z => ?_) (fun z => absurd z (nI_ne0 (by omega) (by omega)))
      refine go_iconst (v := 0) d_M_draw_145 (by decide) ?_
      refine go_istore d_M_draw_146 (Nat.le_of_ble_eq_true rfl) rfl ?_
      exact q2
  refine go_iload_n d_M_draw_120 rfl ?_
  refine go_aload_n d_M_draw_121 rfl ?_
  refine go_getP (j := 9) d_M_draw_122 (Nat.le_of_ble_eq_true rfl) rfl pc_M (Nat.le_of_ble_eq_true rfl) rfl w_711 pt_M_9 ?_
  refine go_iload_n d_M_draw_125 rfl ?_
  refine go_ald c (nI (D.ex c)) d_M_draw_126 (Nat.le_of_ble_eq_true rfl) rfl rfl (by omega) (by decide) hex ?_
  by_cases e : b = D.ex c
  · rw [if_pos e] at q1
    refine go_icmp_ne (tgt := 134) d_M_draw_127 (by decide) (fun z => absurd (congrArg nI e) z) (fun z => ?_)
    refine go_iconst (v := 1) d_M_draw_130 (by decide) ?_
    refine go_goto (tgt := 135) d_M_draw_131 (by decide) ?_
    refine go_istore d_M_draw_135 (Nat.le_of_ble_eq_true rfl) rfl ?_
    exact q1
  · rw [if_neg e] at q1
    refine go_icmp_ne (tgt := 134) d_M_draw_127 (by decide) (fun z => ?_) (fun z => absurd z (nI_neq (by omega) (by omega) e))
    refine go_iconst (v := 0) d_M_draw_134 (by decide) ?_
    refine go_istore d_M_draw_135 (Nat.le_of_ble_eq_true rfl) rfl ?_
    exact q1
theorem sp_M_draw (hD : DW D) (rM : RMD I D) : ∃ I', pm_Go (d + 1) m_M_draw 0 [some (.ref 69), none, none, none, none, none] [] 0 0 (ST I J) (.inl none, ST I' J) ∧ RN I' (gM D) ∧ I' 69 40 = nI (baM D D.nc) ∧ (∀ q, q ≠ 39 → q ≠ 40 → I' 69 q = I 69 q) ∧ fr drL I I' := by
  have h20 := hD.nc
  have h10 := hD.nb
  have rMf : ∀ Ii : Nat → Nat → Int32, (∀ q, q ≠ 39 → q ≠ 40 → Ii 69 q = I 69 q) → fr drL I Ii → RMD Ii D := fun Ii h1 h2 => rM.cg (fun j hj => h1 j (by omega) (by omega)) (fun c h3 h4 => h2 c (by unfold drL; simp; omega))
  have lc : ∀ n c (Ii : Nat → Nat → Int32) (w2 w3 w4 w5 : Option Value), D.nc - c = n → c ≤ D.nc → RN Ii ((gE D D.nb c).map (phA D)) → Ii 69 40 = nI (baM D c) → (∀ q, q ≠ 39 → q ≠ 40 → Ii 69 q = I 69 q) → fr drL I Ii → pm_lt 104 [w2, w3, w4, w5] [] = true → ∃ I', pm_Go (d + 1) m_M_draw 57 [some (.ref 69), some (.int (nI c)), w2, w3, w4, w5] [] 0 0 (ST Ii J) (.inl none, ST I' J) ∧ RN I' (gM D) ∧ I' 69 40 = nI (baM D D.nc) ∧ (∀ q, q ≠ 39 → q ≠ 40 → I' 69 q = I 69 q) ∧ fr drL I I' := by
    intro n
    induction n with
    | zero =>
      intro c Ii w2 w3 w4 w5 hn hc r1 q0 q1 f1 hw
      have : c = D.nc := by omega
      subst this
      have rMi := rMf Ii q1 f1
      refine ⟨Ii, ?_, r1, q0, q1, f1⟩
      refine go_iload_n d_M_draw_57 rfl ?_
      refine go_aload_n d_M_draw_58 rfl ?_
      refine go_gI (j := 5) (nI D.nc) d_M_draw_59 (Nat.le_of_ble_eq_true rfl) rfl pc_M (Nat.le_of_ble_eq_true rfl) (by decide) w_707 rMi.nc ?_
      refine go_icmp_ge (tgt := 247) d_M_draw_62 (by decide) (fun z => ?_) (fun z => absurd (nI_le (Nat.le_refl _) (by omega)) z)
      exact go_vreturn (st := []) d_M_draw_247 rfl (Nat.le_of_ble_eq_true rfl) (Nat.le_of_ble_eq_true rfl) rfl
    | succ n ih =>
      intro c Ii w2 w3 w4 w5 hn hc r1 q0 q1 f1 hw
      have hc2 : c < D.nc := by omega
      obtain ⟨hf, ht, hx⟩ := hD.ch c hc2
      have rMi := rMf Ii q1 f1
      have hl := gE_l hD D.nb c hc
      have lb3 : ∀ x b (Ii : Nat → Nat → Int32) (w2 w4 w5 : Option Value), D.ex c + 1 - b = x → b ≤ D.ex c + 1 → RN Ii ((gE D D.nb c ++ gC D c b).map (phA D)) → Ii 69 40 = nI (baM D c + min b (D.ex c)) → (∀ q, q ≠ 39 → q ≠ 40 → Ii 69 q = I 69 q) → fr drL I Ii → (b ≤ D.ex c → w2 = some (.int (nI (phM D (20 + c * 4 + b))))) → pm_lt 104 [w2, w4, w5] [] = true → ∃ I', pm_Go (d + 1) m_M_draw 110 [some (.ref 69), some (.int (nI c)), w2, some (.int (nI b)), w4, w5] [] 0 0 (ST Ii J) (.inl none, ST I' J) ∧ RN I' (gM D) ∧ I' 69 40 = nI (baM D D.nc) ∧ (∀ q, q ≠ 39 → q ≠ 40 → I' 69 q = I 69 q) ∧ fr drL I I' := by
        intro x
        induction x with
        | zero =>
          intro b Ii w2 w4 w5 hx2 hb r1 q0 q1 f1 hw2 hw
          have : b = D.ex c + 1 := by omega
          subst this
          have rMi := rMf Ii q1 f1
          rw [← gE_s] at r1
          rw [show min (D.ex c + 1) (D.ex c) = D.ex c by omega, ← ba_s] at q0
          obtain ⟨I', i1, i2⟩ := ih (c + 1) Ii w2 (some (.int (nI (D.ex c + 1)))) w4 w5 (by omega) (by omega) r1 q0 q1 f1 (by cases w2 <;> cases w4 <;> cases w5 <;> simp_all [pm_lt, pm_ltV])
          refine ⟨I', ?_, i2⟩
          refine go_iload_n d_M_draw_110 rfl ?_
          refine go_aload_n d_M_draw_111 rfl ?_
          refine go_getP (j := 9) d_M_draw_112 (Nat.le_of_ble_eq_true rfl) rfl pc_M (Nat.le_of_ble_eq_true rfl) rfl w_711 pt_M_9 ?_
          refine go_iload_n d_M_draw_115 rfl ?_
          refine go_ald c (nI (D.ex c)) d_M_draw_116 (Nat.le_of_ble_eq_true rfl) rfl rfl (by omega) (by decide) (rMi.ch c hc2).2.2.2.1 ?_
          refine go_icmp_gt (tgt := 241) d_M_draw_117 (by decide) (fun z => ?_) (fun z => absurd (nI_lt (show D.ex c < D.ex c + 1 by omega) (by omega)) z)
          refine go_iinc (v := nI (c + 1)) d_M_draw_241 rfl (by first | rfl | exact nI_1 _) rfl ?_
          refine go_goto (tgt := 57) d_M_draw_244 (by decide) ?_
          exact i1
        | succ x ihx =>
          intro b Ii w2 w4 w5 hx2 hb r1 q0 q1 f1 hw2 hw
          have hb2 : b ≤ D.ex c := by omega
          have rMi := rMf Ii q1 f1
          have e2 := hw2 hb2
          subst e2
          rw [show min b (D.ex c) = b by omega] at q0
          obtain ⟨I2, g1, g2, g3, g4, g5⟩ := M_draw_b (d := d) (J := J) (w4 := w4) (w5 := w5) hD rMi hc2 hb2 r1 (by omega) q0
          obtain ⟨I', i1, i2⟩ := ihx (b + 1) I2 (some (.int (nI (baM D c + b)))) (some (.int (if b = D.ex c then 1 else 0))) (some (.int (nI (if b = 0 then 1 else 0)))) (by omega) (by omega) g1 g2 (fun q h1 h2 => by rw [g3 q h1 h2]; exact q1 q h1 h2) (f1.tr g4) (fun h3 => by
            rw [show 20 + c * 4 + (b + 1) = 20 + c * 4 + b + 1 by omega, ph_nx (by omega)]) rfl
          refine ⟨I', ?_, i2⟩
          refine go_iload_n d_M_draw_110 rfl ?_
          refine go_aload_n d_M_draw_111 rfl ?_
          refine go_getP (j := 9) d_M_draw_112 (Nat.le_of_ble_eq_true rfl) rfl pc_M (Nat.le_of_ble_eq_true rfl) rfl w_711 pt_M_9 ?_
          refine go_iload_n d_M_draw_115 rfl ?_
          refine go_ald c (nI (D.ex c)) d_M_draw_116 (Nat.le_of_ble_eq_true rfl) rfl rfl (by omega) (by decide) (rMi.ch c hc2).2.2.2.1 ?_
          refine go_icmp_gt (tgt := 241) d_M_draw_117 (by decide) (fun z => absurd z (nI_nlt (by omega) (by omega))) (fun z => ?_)
          refine g5 _ _ _ rfl rfl ?_
          refine go_iinc (v := nI (b + 1)) d_M_draw_235 rfl (by first | rfl | exact nI_1 _) rfl ?_
          refine go_goto (tgt := 110) d_M_draw_238 (by decide) ?_
          exact i1
      obtain ⟨I1, a1, a2, a3, a4⟩ := sp_arcM (d := d) (J := J) (x := D.fm c) (y := 20 + c * 4) (t := 0) (l := 0) r1 (by omega) (ph_b (by omega)).1 ph_c
      obtain ⟨I2, b1, b2, b3, b4⟩ := sp_arcM (d := d) (J := J) (x := 20 + c * 4) (y := 10 + D.fm c) (t := 0) (l := 0) a2 (by
        rw [List.length_append]
        show (gE D D.nb c).length + 1 < 400
        omega) ph_c (ph_b (by omega)).2
      rw [List.append_assoc] at b2
      have q12 : ∀ q, q ≠ 39 → q ≠ 40 → I1 69 q = I 69 q := fun q h1 h2 => by rw [a3 q h1]; exact q1 q h1 h2
      have f12 : fr drL I I1 := f1.tr a4
      have rM1 := rMf I1 q12 f12
      have q13 : ∀ q, q ≠ 39 → q ≠ 40 → I2 69 q = I 69 q := fun q h1 h2 => by rw [b3 q h1]; exact q12 q h1 h2
      obtain ⟨I', i1, i2⟩ := lb3 (D.ex c + 1) 0 I2 (some (.int (nI (20 + c)))) w4 w5 (by omega) (by omega) b2 (by rw [b3 40 (by decide), a3 40 (by decide), q0, Nat.zero_min]; rfl) q13 (f12.tr b4) (fun _ => by rw [show 20 + c * 4 + 0 = 20 + c * 4 from rfl, ph_c]) (by cases w4 <;> cases w5 <;> simp_all [pm_lt, pm_ltV])
      refine ⟨I', ?_, i2⟩
      refine go_iload_n d_M_draw_57 rfl ?_
      refine go_aload_n d_M_draw_58 rfl ?_
      refine go_gI (j := 5) (nI D.nc) d_M_draw_59 (Nat.le_of_ble_eq_true rfl) rfl pc_M (Nat.le_of_ble_eq_true rfl) (by decide) w_707 rMi.nc ?_
      refine go_icmp_ge (tgt := 247) d_M_draw_62 (by decide) (fun z => absurd z (nI_ge (by omega) (by omega))) (fun z => ?_)
      refine go_aload_n d_M_draw_65 rfl ?_
      refine go_iconst (v := 2) d_M_draw_66 (by decide) ?_
      refine go_aload_n d_M_draw_67 rfl ?_
      refine go_getP (j := 6) d_M_draw_68 (Nat.le_of_ble_eq_true rfl) rfl pc_M (Nat.le_of_ble_eq_true rfl) rfl w_708 pt_M_6 ?_
      refine go_iload_n d_M_draw_71 rfl ?_
      refine go_ald c (nI (D.fm c)) d_M_draw_72 (Nat.le_of_ble_eq_true rfl) rfl rfl (by omega) (by decide) (rMi.ch c hc2).1 ?_
      refine go_imul d_M_draw_73 ?_
      refine go_top (nI (2 * D.fm c)) (pk_mul 2 _) ?_
      refine go_bipush (v := 20) d_M_draw_74 (by decide) ?_
      refine go_iload_n d_M_draw_76 rfl ?_
      refine go_iadd d_M_draw_77 ?_
      refine go_top (nI (20 + c)) (nI_add 20 _) ?_
      refine go_iconst (v := 0) d_M_draw_78 (by decide) ?_
      refine go_iconst (v := 0) d_M_draw_79 (by decide) ?_
      refine go_callV (k2 := m_M_arc) (As := [.int (nI (2 * D.fm c)), .int (nI (20 + c)), .int (nI 0), .int (nI 0)]) (r := none)  d_M_draw_80 ok_M_arc (Nat.le_of_ble_eq_true rfl) rfl pc_M rfl vl_M_206 rfl rfl (Nat.le_of_ble_eq_true rfl) (Nat.le_of_ble_eq_true rfl) (Nat.le_of_ble_eq_true rfl) (Nat.le_of_ble_eq_true rfl) (by cases w2 <;> cases w3 <;> cases w4 <;> cases w5 <;> simp_all [pm_lt, pm_ltV]) rfl a1 ?_
      refine go_aload_n d_M_draw_83 rfl ?_
      refine go_bipush (v := 20) d_M_draw_84 (by decide) ?_
      refine go_iload_n d_M_draw_86 rfl ?_
      refine go_iadd d_M_draw_87 ?_
      refine go_top (nI (20 + c)) (nI_add 20 _) ?_
      refine go_iconst (v := 2) d_M_draw_88 (by decide) ?_
      refine go_aload_n d_M_draw_89 rfl ?_
      refine go_getP (j := 6) d_M_draw_90 (Nat.le_of_ble_eq_true rfl) rfl pc_M (Nat.le_of_ble_eq_true rfl) rfl w_708 pt_M_6 ?_
      refine go_iload_n d_M_draw_93 rfl ?_
      refine go_ald c (nI (D.fm c)) d_M_draw_94 (Nat.le_of_ble_eq_true rfl) rfl rfl (by omega) (by decide) (rM1.ch c hc2).1 ?_
      refine go_imul d_M_draw_95 ?_
      refine go_top (nI (2 * D.fm c)) (pk_mul 2 _) ?_
      refine go_iconst (v := 1) d_M_draw_96 (by decide) ?_
      refine go_iadd d_M_draw_97 ?_
      refine go_top (nI (2 * D.fm c + 1)) (nI_1 _) ?_
      refine go_iconst (v := 0) d_M_draw_98 (by decide) ?_
      refine go_iconst (v := 0) d_M_draw_99 (by decide) ?_
      refine go_callV (k2 := m_M_arc) (As := [.int (nI (20 + c)), .int (nI (2 * D.fm c + 1)), .int (nI 0), .int (nI 0)]) (r := none)  d_M_draw_100 ok_M_arc (Nat.le_of_ble_eq_true rfl) rfl pc_M rfl vl_M_206 rfl rfl (Nat.le_of_ble_eq_true rfl) (Nat.le_of_ble_eq_true rfl) (Nat.le_of_ble_eq_true rfl) (Nat.le_of_ble_eq_true rfl) (by cases w2 <;> cases w3 <;> cases w4 <;> cases w5 <;> simp_all [pm_lt, pm_ltV]) rfl b1 ?_
      refine go_bipush (v := 20) d_M_draw_103 (by decide) ?_
      refine go_iload_n d_M_draw_105 rfl ?_
      refine go_iadd d_M_draw_106 ?_
      refine go_top (nI (20 + c)) (nI_add 20 _) ?_
      refine go_istore_n d_M_draw_107 (Nat.le_of_ble_eq_true rfl) rfl ?_
      refine go_iconst (v := 0) d_M_draw_108 (by decide) ?_
      refine go_istore_n d_M_draw_109 (Nat.le_of_ble_eq_true rfl) rfl ?_
      exact i1
  have lj : ∀ n b (Ii : Nat → Nat → Int32), D.nb - b = n → b ≤ D.nb → RN Ii (((List.range b).flatMap gB1).map (phA D)) → Ii 69 40 = nI 40 → (∀ q, q ≠ 39 → q ≠ 40 → Ii 69 q = I 69 q) → fr drL I Ii → ∃ I', pm_Go (d + 1) m_M_draw 13 [some (.ref 69), some (.int (nI b)), none, none, none, none] [] 0 0 (ST Ii J) (.inl none, ST I' J) ∧ RN I' (gM D) ∧ I' 69 40 = nI (baM D D.nc) ∧ (∀ q, q ≠ 39 → q ≠ 40 → I' 69 q = I 69 q) ∧ fr drL I I' := by
    intro n
    induction n with
    | zero =>
      intro b Ii hn hb r1 q0 q1 f1
      have : b = D.nb := by omega
      subst this
      have rMi := rMf Ii q1 f1
      have e0 : gE D D.nb 0 = (List.range D.nb).flatMap gB1 := List.append_nil _
      obtain ⟨I', i1, i2⟩ := lc D.nc 0 Ii none none none none (by omega) (by omega) (by rw [e0]; exact r1) q0 q1 f1 rfl
      refine ⟨I', ?_, i2⟩
      refine go_iload_n d_M_draw_13 rfl ?_
      refine go_aload_n d_M_draw_14 rfl ?_
      refine go_gI (j := 2) (nI D.nb) d_M_draw_15 (Nat.le_of_ble_eq_true rfl) rfl pc_M (Nat.le_of_ble_eq_true rfl) (by decide) w_704 rMi.nb ?_
      refine go_icmp_ge (tgt := 55) d_M_draw_18 (by decide) (fun z => ?_) (fun z => absurd (nI_le (Nat.le_refl _) (by omega)) z)
      refine go_iconst (v := 0) d_M_draw_55 (by decide) ?_
      refine go_istore_n d_M_draw_56 (Nat.le_of_ble_eq_true rfl) rfl ?_
      exact i1
    | succ n ih =>
      intro b Ii hn hb r1 q0 q1 f1
      have hb2 : b < D.nb := by omega
      have rMi := rMf Ii q1 f1
      obtain ⟨I1, a1, a2, a3, a4⟩ := sp_arcM (d := d) (J := J) (x := b) (y := 10 + b) (t := 0) (l := 0) r1 (by rw [gB_l]; omega) (ph_b (by omega)).1 (ph_b (by omega)).2
      obtain ⟨I2, b1, b2, b3, b4⟩ := sp_arcM (d := d) (J := J) (x := 10 + b) (y := b) (t := 1) (l := 1) a2 (by
        rw [List.length_append, gB_l]
        show 2 * b + 1 < 400
        omega) (ph_b (by omega)).2 (ph_b (by omega)).1
      have eG : (List.range b).flatMap gB1 ++ [(b, 10 + b, 0, 0)] ++ [(10 + b, b, 1, 1)] = (List.range (b + 1)).flatMap gB1 := by
        rw [gB_s, gB1, List.append_assoc]
        rfl
      rw [eG] at b2
      obtain ⟨I', i1, i2⟩ := ih (b + 1) I2 (by omega) (by omega) b2 (by rw [b3 40 (by decide), a3 40 (by decide)]; exact q0) (fun q h1 h2 => by rw [b3 q h1, a3 q h1]; exact q1 q h1 h2) ((f1.tr a4).tr b4)
      refine ⟨I', ?_, i2⟩
      refine go_iload_n d_M_draw_13 rfl ?_
      refine go_aload_n d_M_draw_14 rfl ?_
      refine go_gI (j := 2) (nI D.nb) d_M_draw_15 (Nat.le_of_ble_eq_true rfl) rfl pc_M (Nat.le_of_ble_eq_true rfl) (by decide) w_704 rMi.nb ?_
      refine go_icmp_ge (tgt := 55) d_M_draw_18 (by decide) (fun z => absurd z (nI_ge (by omega) (by omega))) (fun z => ?_)
      refine go_aload_n d_M_draw_21 rfl ?_
      refine go_iconst (v := 2) d_M_draw_22 (by decide) ?_
      refine go_iload_n d_M_draw_23 rfl ?_
      refine go_imul d_M_draw_24 ?_
      refine go_top (nI (2 * b)) (pk_mul 2 _) ?_
      refine go_iconst (v := 2) d_M_draw_25 (by decide) ?_
      refine go_iload_n d_M_draw_26 rfl ?_
      refine go_imul d_M_draw_27 ?_
      refine go_top (nI (2 * b)) (pk_mul 2 _) ?_
      refine go_iconst (v := 1) d_M_draw_28 (by decide) ?_
      refine go_iadd d_M_draw_29 ?_
      refine go_top (nI (2 * b + 1)) (nI_1 _) ?_
      refine go_iconst (v := 0) d_M_draw_30 (by decide) ?_
      refine go_iconst (v := 0) d_M_draw_31 (by decide) ?_
      refine go_callV (k2 := m_M_arc) (As := [.int (nI (2 * b)), .int (nI (2 * b + 1)), .int (nI 0), .int (nI 0)]) (r := none) d_M_draw_32 ok_M_arc (Nat.le_of_ble_eq_true rfl) rfl pc_M rfl vl_M_206 rfl rfl (Nat.le_of_ble_eq_true rfl) (Nat.le_of_ble_eq_true rfl) (Nat.le_of_ble_eq_true rfl) (Nat.le_of_ble_eq_true rfl) rfl rfl a1 ?_
      refine go_aload_n d_M_draw_35 rfl ?_
      refine go_iconst (v := 2) d_M_draw_36 (by decide) ?_
      refine go_iload_n d_M_draw_37 rfl ?_
      refine go_imul d_M_draw_38 ?_
      refine go_top (nI (2 * b)) (pk_mul 2 _) ?_
      refine go_iconst (v := 1) d_M_draw_39 (by decide) ?_
      refine go_iadd d_M_draw_40 ?_
      refine go_top (nI (2 * b + 1)) (nI_1 _) ?_
      refine go_iconst (v := 2) d_M_draw_41 (by decide) ?_
      refine go_iload_n d_M_draw_42 rfl ?_
      refine go_imul d_M_draw_43 ?_
      refine go_top (nI (2 * b)) (pk_mul 2 _) ?_
      refine go_iconst (v := 1) d_M_draw_44 (by decide) ?_
      refine go_iconst (v := 1) d_M_draw_45 (by decide) ?_
      refine go_callV (k2 := m_M_arc) (As := [.int (nI (2 * b + 1)), .int (nI (2 * b)), .int (nI 1), .int (nI 1)]) (r := none) d_M_draw_46 ok_M_arc (Nat.le_of_ble_eq_true rfl) rfl pc_M rfl vl_M_206 rfl rfl (Nat.le_of_ble_eq_true rfl) (Nat.le_of_ble_eq_true rfl) (Nat.le_of_ble_eq_true rfl) (Nat.le_of_ble_eq_true rfl) rfl rfl b1 ?_
      refine go_iinc (v := nI (b + 1)) d_M_draw_49 rfl (by first | rfl | exact nI_1 _) rfl ?_
      refine go_goto (tgt := 13) d_M_draw_52 (by decide) ?_
      exact i1
  obtain ⟨I', i1, i2⟩ := lj D.nb 0 (pm_uI (pm_uI I 69 39 0) 69 40 40) (by omega) (by omega) (RN.mk rfl (fun n a h => by cases h)) rfl (fun q h1 h2 => by rw [uI_nj h2, uI_nj h1]) ((fr.uI (by decide)).tr (fr.uI (by decide)))
  refine ⟨I', ?_, i2⟩
  refine go_aload_n d_M_draw_0 rfl ?_
  refine go_iconst (v := 0) d_M_draw_1 (by decide) ?_
  refine go_pI (j := 39) d_M_draw_2 (Nat.le_of_ble_eq_true rfl) rfl pc_M (Nat.le_of_ble_eq_true rfl) (by decide) w_741 rfl (Or.inl rfl) ?_
  refine go_aload_n d_M_draw_5 rfl ?_
  refine go_bipush (v := 40) d_M_draw_6 (by decide) ?_
  refine go_pI (j := 40) d_M_draw_8 (Nat.le_of_ble_eq_true rfl) rfl pc_M (Nat.le_of_ble_eq_true rfl) (by decide) w_742 rfl (Or.inl rfl) ?_
  refine go_iconst (v := 0) d_M_draw_11 (by decide) ?_
  refine go_istore_n d_M_draw_12 (Nat.le_of_ble_eq_true rfl) rfl ?_
  exact i1
end S64
