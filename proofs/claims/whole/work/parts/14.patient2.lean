/-! Patient: what changes buffers, given and taken values -/
section S4
variable {d : Nat} {I : Nat → Nat → Int32} {J : Nat → Nat → Int64}
/-- nothing but these cells has changed -/
def fr (L : List Nat) (I I' : Nat → Nat → Int32) : Prop := ∀ c, c ∉ L → I' c = I c
theorem fr.rf {L : List Nat} : fr L I I := fun _ _ => rfl
theorem fr.tr {L : List Nat} {I1 I2 : Nat → Nat → Int32} (h1 : fr L I I1) (h2 : fr L I1 I2) : fr L I I2 := fun c hc => (h2 c hc).trans (h1 c hc)
theorem fr.up {L L' : List Nat} {I1 : Nat → Nat → Int32} (h : fr L I I1) (hs : ∀ c, c ∈ L → c ∈ L') : fr L' I I1 := fun c hc => h c (fun z => hc (hs c z))
theorem fr.uI {L : List Nat} {c j : Nat} {v : Int32} (h : c ∈ L) : fr L I (pm_uI I c j v) := fun c' hc' => by
  have : c' ≠ c := fun e => hc' (e ▸ h)
  simp [pm_uI, this]
/-- what the buffers hold -/
def CB (I : Nat → Nat → Int32) (bq : Nat → List Int32) : Prop := ∀ b, b < 80 → I 35 b = nI (bq b).length ∧ (bq b).length ≤ 2 ∧ ∀ i v, (bq b)[i]? = some v → I 34 (b * 2 + i) = v
theorem CB.eqv {bq : Nat → List Int32} {I' : Nat → Nat → Int32} (h : CB I bq) (h4 : I' 34 = I 34) (h5 : I' 35 = I 35) : CB I' bq := by
  intro b hb
  rw [h4, h5]
  exact h b hb
theorem CB.fr {bq : Nat → List Int32} {I' : Nat → Nat → Int32} {L : List Nat} (h : CB I bq) (hf : fr L I I') (h4 : 34 ∉ L) (h5 : 35 ∉ L) : CB I' bq := h.eqv (hf 34 h4) (hf 35 h5)
theorem CB.put {bq : Nat → List Int32} {b : Nat} {v : Int32} (h : CB I bq) (hb : b < 80) (hl : (bq b).length < 2) : CB (pm_uI (pm_uI I 34 (b * 2 + (bq b).length) v) 35 b (nI ((bq b).length + 1))) (ra_fu bq b (bq b ++ [v])) := by
  intro b' hb'
  obtain ⟨h1, h2, h3⟩ := h b' hb'
  by_cases e : b' = b
  · subst e
    simp only [ra_fu, if_pos]
    refine ⟨by rw [uI_eq]; simp, by simp; omega, fun i w hw => ?_⟩
    rw [uI_ne (by decide)]
    by_cases hi : i < (bq b').length
    · rw [List.getElem?_append_left hi] at hw
      rw [uI_nj (by omega)]
      exact h3 i w hw
    · rw [List.getElem?_append_right (by omega)] at hw
      have hi2 : i - (bq b').length < 1 := (List.getElem?_eq_some_iff.mp hw).1
      have hi3 : i = (bq b').length := by omega
      subst hi3
      rw [Nat.sub_self] at hw
      cases hw
      rw [uI_eq]
  · simp only [ra_fu, if_neg e]
    refine ⟨by rw [uI_nj e, uI_ne (by decide)]; exact h1, h2, fun i w hw => ?_⟩
    have hi : i < (bq b').length := (List.getElem?_eq_some_iff.mp hw).1
    rw [uI_ne (by decide), uI_nj (by omega)]
    exact h3 i w hw
theorem CB.drop {bq : Nat → List Int32} {b : Nat} {x : Int32} {q : List Int32} (h : CB I bq) (hb : b < 80) (hl : bq b = x :: q) : CB (pm_uI (pm_uI I 34 (b * 2) (I 34 (b * 2 + 1))) 35 b (nI q.length)) (ra_fu bq b q) := by
  intro b' hb'
  obtain ⟨h1, h2, h3⟩ := h b' hb'
  by_cases e : b' = b
  · subst e
    rw [hl] at h2 h3
    simp only [List.length_cons] at h2
    simp only [ra_fu, if_pos]
    refine ⟨by rw [uI_eq], by omega, fun i w hw => ?_⟩
    have hi : i < q.length := (List.getElem?_eq_some_iff.mp hw).1
    have hi0 : i = 0 := by omega
    subst hi0
    rw [uI_ne (by decide)]
    show pm_uI I 34 (b' * 2) (I 34 (b' * 2 + 1)) 34 (b' * 2) = w
    rw [uI_eq]
    exact h3 1 w (by rw [List.getElem?_cons_succ]; exact hw)
  · simp only [ra_fu, if_neg e]
    refine ⟨by rw [uI_nj e, uI_ne (by decide)]; exact h1, h2, fun i w hw => ?_⟩
    have hi : i < (bq b').length := (List.getElem?_eq_some_iff.mp hw).1
    rw [uI_ne (by decide), uI_nj (by omega)]
    exact h3 i w hw
theorem sp_putE {bq : Nat → List Int32} {b : Nat} {v : Int32} (h : CB I bq) (hb : b < 80) (hl : (bq b).length < 2) : ∃ I', pm_Go d m_P_put 0 [some (.ref 33), some (.int (nI b)), some (.int v)] [] 0 0 (ST I J) (.inl none, ST I' J) ∧ CB I' (ra_fu bq b (bq b ++ [v])) ∧ fr [34, 35] I I' :=
  ⟨_, sp_put hb (h b hb).1 hl, h.put hb hl, (fr.uI (by decide)).tr (fr.uI (by decide))⟩
theorem sp_dropE {bq : Nat → List Int32} {b : Nat} {x : Int32} {q : List Int32} (h : CB I bq) (hb : b < 80) (hl : bq b = x :: q) : ∃ I', pm_Go d m_P_drop 0 [some (.ref 33), some (.int (nI b))] [] 0 0 (ST I J) (.inl none, ST I' J) ∧ CB I' (ra_fu bq b q) ∧ fr [34, 35] I I' := by
  obtain ⟨h1, h2, -⟩ := h b hb
  rw [hl] at h1 h2
  simp only [List.length_cons] at h1 h2
  exact ⟨_, sp_drop hb h1 (by omega), h.drop hb hl, (fr.uI (by decide)).tr (fr.uI (by decide))⟩
/-- the given values of the output ports, the taken ones of the input ports -/
def CG (I : Nat → Nat → Int32) (J : Nat → Nat → Int64) (gv : Nat → List Int64) : Prop := ∀ p, p < 4 → I 48 p = nI (gv p).length ∧ (gv p).length ≤ 1000 ∧ ∀ k v, (gv p)[k]? = some v → J (50 + p) k = v
def CT (I : Nat → Nat → Int32) (tk : Nat → List Int32) : Prop := ∀ p, p < 4 → I 42 p = nI (tk p).length ∧ (tk p).length ≤ 1000 ∧ ∀ k v, (tk p)[k]? = some v → I (44 + p) k = v
theorem CG.fr {gv : Nat → List Int64} {I' : Nat → Nat → Int32} {L : List Nat} (h : CG I J gv) (hf : fr L I I') (h4 : 48 ∉ L) : CG I' J gv := by
  intro p hp
  rw [hf 48 h4]
  exact h p hp
theorem CT.fr {tk : Nat → List Int32} {I' : Nat → Nat → Int32} {L : List Nat} (h : CT I tk) (hf : fr L I I') (h4 : ∀ c, c ∈ L → c < 42 ∨ 47 < c) : CT I' tk := by
  intro p hp
  rw [hf 42 (fun z => by have := h4 _ z; omega), hf (44 + p) (fun z => by have := h4 _ z; omega)]
  exact h p hp
/-- the tick and the value, as one long -/
def tv (T v : Int32) : Int64 := (T.toInt64 <<< ((32 : Int32).toInt64 &&& 63)) ||| (v.toInt64 &&& 4294967295)
def pGb (bq : Nat → List Int32) (l : Nat) (v : Int32) : Nat → List Int32 := if l < 20 then ra_fu bq (l * 4) (bq (l * 4) ++ [v]) else bq
def pGg (gv : Nat → List Int64) (T : Int32) (l : Nat) (v : Int32) : Nat → List Int64 := if l < 20 then gv else ra_fu gv (l - 20) (gv (l - 20) ++ [tv T v])
def pGt (l : Nat) : Int32 := if l < 20 then 0 else (1 : Int32) <<< (nI (l - 20) &&& 31)
theorem sp_give {bq : Nat → List Int32} {gv : Nat → List Int64} {l : Nat} {v : Int32} (hB : CB I bq) (hG : CG I J gv) (hl : l < 24) (h1 : l < 20 → (bq (l * 4)).length < 2) (h2 : ¬ l < 20 → (gv (l - 20)).length < 1000) : ∃ I' J', pm_Go (d + 1) m_P_give 0 [some (.ref 33), some (.int (nI l)), some (.int v), none] [] 0 0 (ST I J) (.inl (some (.int (pGt l))), ST I' J') ∧ CB I' (pGb bq l v) ∧ CG I' J' (pGg gv (I 33 1) l v) ∧ fr [34, 35, 48] I I' ∧ (∀ c, (c < 50 ∨ 53 < c) → J' c = J c) := by
  by_cases h : l < 20
  · obtain ⟨I', g1, g2, g3⟩ := sp_putE (d := d) (J := J) (v := v) hB (b := l * 4) (by omega) (h1 h)
    refine ⟨I', J, ?_, by simp only [pGb, if_pos h]; exact g2, by simp only [pGg, if_pos h]; exact hG.fr g3 (by decide), g3.up (by decide), fun _ _ => rfl⟩
    simp only [pGt, if_pos h]
    refine go_iload_n d_P_give_0 rfl ?_
    refine go_bipush (v := 20) d_P_give_1 (by decide) ?_
    refine go_icmp_ge (tgt := 16) d_P_give_3 (by decide) (fun z => absurd z (nI_ge h (by decide))) (fun z => ?_)
    refine go_aload_n d_P_give_6 rfl ?_
    refine go_iload_n d_P_give_7 rfl ?_
    refine go_iconst (v := 4) d_P_give_8 (by decide) ?_
    refine go_imul d_P_give_9 ?_
    refine go_top (nI (l * 4)) (pk_mul l 4) ?_
    refine go_iload_n d_P_give_10 rfl ?_
    refine go_callV (k2 := m_P_put) (As := [.int (nI (l * 4)), .int v]) (r := none) d_P_give_11 ok_P_put (Nat.le_of_ble_eq_true rfl) rfl pc_P rfl vl_P_77 rfl rfl (Nat.le_of_ble_eq_true rfl) (Nat.le_of_ble_eq_true rfl) (Nat.le_of_ble_eq_true rfl) (Nat.le_of_ble_eq_true rfl) rfl rfl g1 ?_
    refine go_iconst (v := 0) d_P_give_14 (by decide) ?_
    exact go_ireturn (st := []) d_P_give_15 rfl (Nat.le_of_ble_eq_true rfl) (Nat.le_of_ble_eq_true rfl) rfl
  · obtain ⟨q1, q2, q3⟩ := hG (l - 20) (by omega)
    refine ⟨pm_uI I 48 (l - 20) (nI ((gv (l - 20)).length + 1)), pm_uJ J (50 + (l - 20)) (gv (l - 20)).length (tv (I 33 1) v), ?_, ?_, ?_, (fr.uI (by decide)), ?_⟩
    · simp only [pGt, if_neg h]
      refine go_iload_n d_P_give_0 rfl ?_
      refine go_bipush (v := 20) d_P_give_1 (by decide) ?_
      refine go_icmp_ge (tgt := 16) d_P_give_3 (by decide) (fun z => ?_) (fun z => absurd (nI_le (a := 20) (by omega) (by omega)) z)
      refine go_iload_n d_P_give_16 rfl ?_
      refine go_bipush (v := 20) d_P_give_17 (by decide) ?_
      refine go_isub d_P_give_19 ?_
      refine go_top (nI (l - 20)) (pk_sub (b := 20) (by omega)) ?_
      refine go_istore_n d_P_give_20 (Nat.le_of_ble_eq_true rfl) rfl ?_
      refine go_aload_n d_P_give_21 rfl ?_
      refine go_getP (j := 14) d_P_give_22 (Nat.le_of_ble_eq_true rfl) rfl pc_P (Nat.le_of_ble_eq_true rfl) rfl w_134 pt_P_14 ?_
      refine go_iload_n d_P_give_25 rfl ?_
      refine go_row4 (l - 20) (50 + (l - 20)) d_P_give_26 (Nat.le_of_ble_eq_true rfl) rfl rfl (by omega) (by decide) (pt_49 _ (by omega)) ?_
      refine go_aload_n d_P_give_27 rfl ?_
      refine go_getP (j := 13) d_P_give_28 (Nat.le_of_ble_eq_true rfl) rfl pc_P (Nat.le_of_ble_eq_true rfl) rfl w_132 pt_P_13 ?_
      refine go_iload_n d_P_give_31 rfl ?_
      refine go_ald (l - 20) (nI (gv (l - 20)).length) d_P_give_32 (Nat.le_of_ble_eq_true rfl) rfl rfl (by omega) (by decide) q1 ?_
      refine go_aload_n d_P_give_33 rfl ?_
      refine go_getI (j := 1) d_P_give_34 (Nat.le_of_ble_eq_true rfl) rfl pc_P (Nat.le_of_ble_eq_true rfl) (by decide) w_114 ?_
      refine go_i2l d_P_give_37 ?_
      refine go_bipush (v := 32) d_P_give_38 (by decide) ?_
      refine go_lshl d_P_give_40 ?_
      refine go_iload_n d_P_give_41 rfl ?_
      refine go_i2l d_P_give_42 ?_
      refine go_ldc2 (v := 4294967295) d_P_give_43 w_541 ?_
      refine go_land d_P_give_46 ?_
      refine go_lor d_P_give_47 ?_
      refine go_last (gv (l - 20)).length d_P_give_48 (show 50 + (l - 20) < 104 by omega) (sh_50 _ (by omega)) rfl (h2 h) (by decide) ?_
      refine go_aload_n d_P_give_49 rfl ?_
      refine go_getP (j := 13) d_P_give_50 (Nat.le_of_ble_eq_true rfl) rfl pc_P (Nat.le_of_ble_eq_true rfl) rfl w_132 pt_P_13 ?_
      refine go_iload_n d_P_give_53 rfl ?_
      refine go_dup2 d_P_give_54 rfl rfl ?_
      refine go_ald (l - 20) (nI (gv (l - 20)).length) d_P_give_55 (Nat.le_of_ble_eq_true rfl) rfl rfl (by omega) (by decide) q1 ?_
      refine go_iconst (v := 1) d_P_give_56 (by decide) ?_
      refine go_iadd d_P_give_57 ?_
      refine go_top (nI ((gv (l - 20)).length + 1)) (nI_1 _) ?_
      refine go_ast (l - 20) d_P_give_58 (Nat.le_of_ble_eq_true rfl) rfl rfl (by omega) (by decide) ?_
      refine go_iconst (v := 1) d_P_give_59 (by decide) ?_
      refine go_iload_n d_P_give_60 rfl ?_
      refine go_ishl d_P_give_61 ?_
      exact go_ireturn (st := []) d_P_give_62 rfl (Nat.le_of_ble_eq_true rfl) (Nat.le_of_ble_eq_true rfl) rfl
    · simp only [pGb, if_neg h]
      exact hB.fr (L := [48]) (fr.uI (by decide)) (by decide) (by decide)
    · simp only [pGg, if_neg h]
      intro p hp
      obtain ⟨r1, r2, r3⟩ := hG p hp
      have hlt := h2 h
      by_cases e : p = l - 20
      · subst e
        simp only [ra_fu, if_pos]
        refine ⟨by rw [uI_eq]; simp, by simp; omega, fun k w hw => ?_⟩
        by_cases hk : k < (gv (l - 20)).length
        · rw [List.getElem?_append_left hk] at hw
          have : pm_uJ J (50 + (l - 20)) (gv (l - 20)).length (tv (I 33 1) v) (50 + (l - 20)) k = J (50 + (l - 20)) k := by simp [pm_uJ, vp_updL, Nat.ne_of_lt hk]
          rw [this]
          exact r3 k w hw
        · rw [List.getElem?_append_right (by omega)] at hw
          have hk2 : k - (gv (l - 20)).length < 1 := (List.getElem?_eq_some_iff.mp hw).1
          have hk3 : k = (gv (l - 20)).length := by omega
          subst hk3
          rw [Nat.sub_self] at hw
          cases hw
          simp [pm_uJ, vp_updL]
      · simp only [ra_fu, if_neg e]
        refine ⟨by rw [uI_nj e]; exact r1, r2, fun k w hw => ?_⟩
        have : pm_uJ J (50 + (l - 20)) (gv (l - 20)).length (tv (I 33 1) v) (50 + p) k = J (50 + p) k := by
          simp [pm_uJ, e]
        rw [this]
        exact r3 k w hw
    · intro c hc
      have : ¬ (c = 50 + (l - 20)) := by omega
      simp [pm_uJ, this]
def pTb (bq : Nat → List Int32) (ex : Nat → Nat) (l : Nat) : Nat → List Int32 := if l < 20 then ra_fu bq (l * 4 + ex l) (bq (l * 4 + ex l)).tail else bq
def pTk (tk : Nat → List Int32) (wv : Nat → Int32) (l : Nat) : Nat → List Int32 := if l < 20 then tk else ra_fu tk (l - 20) (tk (l - 20) ++ [wv (l - 20)])
def pTw (w : Int32) (l : Nat) : Int32 := if l < 20 then w else w &&& (((1 : Int32) <<< (nI (l - 20) &&& 31)) ^^^ (-1))
def pTt (l : Nat) : Int32 := if l < 20 then 0 else (16 : Int32) <<< (nI (l - 20) &&& 31)
theorem sp_take {bq : Nat → List Int32} {tk : Nat → List Int32} {ex : Nat → Nat} {l : Nat} (hB : CB I bq) (hT : CT I tk) (hl : l < 24) (hex : l < 20 → I 7 l = nI (ex l) ∧ ex l ≤ 3) (h1 : l < 20 → bq (l * 4 + ex l) ≠ []) (h2 : ¬ l < 20 → (tk (l - 20)).length < 1000) : ∃ I', pm_Go (d + 1) m_P_take 0 [some (.ref 33), some (.int (nI l)), none] [] 0 0 (ST I J) (.inl (some (.int (pTt l))), ST I' J) ∧ CB I' (pTb bq ex l) ∧ CT I' (pTk tk (I 41) l) ∧ fr [33, 34, 35, 42, 44, 45, 46, 47] I I' ∧ I' 33 9 = pTw (I 33 9) l ∧ (∀ j, j ≠ 9 → I' 33 j = I 33 j) := by
  by_cases h : l < 20
  · obtain ⟨x1, x2⟩ := hex h
    obtain ⟨x, q, hq⟩ : ∃ x q, bq (l * 4 + ex l) = x :: q := by
      cases hh : bq (l * 4 + ex l) with
      | nil => exact absurd hh (h1 h)
      | cons x q => exact ⟨x, q, rfl⟩
    obtain ⟨I', g1, g2, g3⟩ := sp_dropE (d := d) (J := J) hB (b := l * 4 + ex l) (by omega) hq
    refine ⟨I', ?_, by simp only [pTb, if_pos h, hq, List.tail_cons]; exact g2, by simp only [pTk, if_pos h]; exact hT.fr g3 (by decide), g3.up (by decide), by simp only [pTw, if_pos h]; rw [g3 33 (by decide)], fun j _ => by rw [g3 33 (by decide)]⟩
    simp only [pTt, if_pos h]
    refine go_iload_n d_P_take_0 rfl ?_
    refine go_bipush (v := 20) d_P_take_1 (by decide) ?_
    refine go_icmp_ge (tgt := 20) d_P_take_3 (by decide) (fun z => absurd z (nI_ge h (by decide))) (fun z => ?_)
    refine go_aload_n d_P_take_6 rfl ?_
    refine go_aload_n d_P_take_7 rfl ?_
    refine go_getP (j := 0) d_P_take_8 (Nat.le_of_ble_eq_true rfl) rfl pc_P (Nat.le_of_ble_eq_true rfl) rfl w_113 pt_P_0 ?_
    refine go_iload_n d_P_take_11 rfl ?_
    refine go_callV (k2 := m_D_lastBuffer) (As := [.int (nI l)]) (r := some (.int (nI (l * 4 + ex l)))) d_P_take_12 ok_D_lastBuffer (Nat.le_of_ble_eq_true rfl) rfl pc_D rfl vl_P_120 rfl rfl (Nat.le_of_ble_eq_true rfl) (Nat.le_of_ble_eq_true rfl) (Nat.le_of_ble_eq_true rfl) (Nat.le_of_ble_eq_true rfl) rfl rfl (sp_lastBuffer h x1) ?_
    refine go_callV (k2 := m_P_drop) (As := [.int (nI (l * 4 + ex l))]) (r := none) d_P_take_15 ok_P_drop (Nat.le_of_ble_eq_true rfl) rfl pc_P rfl vl_P_142 rfl rfl (Nat.le_of_ble_eq_true rfl) (Nat.le_of_ble_eq_true rfl) (Nat.le_of_ble_eq_true rfl) (Nat.le_of_ble_eq_true rfl) rfl rfl g1 ?_
    refine go_iconst (v := 0) d_P_take_18 (by decide) ?_
    exact go_ireturn (st := []) d_P_take_19 rfl (Nat.le_of_ble_eq_true rfl) (Nat.le_of_ble_eq_true rfl) rfl
  · obtain ⟨q1, q2, q3⟩ := hT (l - 20) (by omega)
    refine ⟨pm_uI (pm_uI (pm_uI I 33 9 (I 33 9 &&& (((1 : Int32) <<< (nI (l - 20) &&& 31)) ^^^ (-1)))) (44 + (l - 20)) (tk (l - 20)).length (I 41 (l - 20))) 42 (l - 20) (nI ((tk (l - 20)).length + 1)), ?_, ?_, ?_, ?_, ?_, ?_⟩
    · simp only [pTt, if_neg h]
      refine go_iload_n d_P_take_0 rfl ?_
      refine go_bipush (v := 20) d_P_take_1 (by decide) ?_
      refine go_icmp_ge (tgt := 20) d_P_take_3 (by decide) (fun z => ?_) (fun z => absurd (nI_le (a := 20) (by omega) (by omega)) z)
      refine go_iload_n d_P_take_20 rfl ?_
      refine go_bipush (v := 20) d_P_take_21 (by decide) ?_
      refine go_isub d_P_take_23 ?_
      refine go_top (nI (l - 20)) (pk_sub (b := 20) (by omega)) ?_
      refine go_istore_n d_P_take_24 (Nat.le_of_ble_eq_true rfl) rfl ?_
      refine go_aload_n d_P_take_25 rfl ?_
      refine go_dup d_P_take_26 rfl ?_
      refine go_getI (j := 9) d_P_take_27 (Nat.le_of_ble_eq_true rfl) rfl pc_P (Nat.le_of_ble_eq_true rfl) (by decide) w_126 ?_
      refine go_iconst (v := 1) d_P_take_30 (by decide) ?_
      refine go_iload_n d_P_take_31 rfl ?_
      refine go_ishl d_P_take_32 ?_
      refine go_iconst (v := -1) d_P_take_33 (by decide) ?_
      refine go_ixor d_P_take_34 ?_
      refine go_iand d_P_take_35 ?_
      refine go_pI (j := 9) d_P_take_36 (Nat.le_of_ble_eq_true rfl) rfl pc_P (Nat.le_of_ble_eq_true rfl) (by decide) w_126 rfl (Or.inl rfl) ?_
      refine go_aload_n d_P_take_39 rfl ?_
      refine go_getP (j := 12) d_P_take_40 (Nat.le_of_ble_eq_true rfl) rfl pc_P (Nat.le_of_ble_eq_true rfl) rfl w_131 pt_P_12 ?_
      refine go_iload_n d_P_take_43 rfl ?_
      refine go_row3 (l - 20) (44 + (l - 20)) d_P_take_44 (Nat.le_of_ble_eq_true rfl) rfl rfl (by omega) (by decide) (pt_43 _ (by omega)) ?_
      refine go_aload_n d_P_take_45 rfl ?_
      refine go_getP (j := 11) d_P_take_46 (Nat.le_of_ble_eq_true rfl) rfl pc_P (Nat.le_of_ble_eq_true rfl) rfl w_128 pt_P_11 ?_
      refine go_iload_n d_P_take_49 rfl ?_
      refine go_ald (l - 20) (nI (tk (l - 20)).length) d_P_take_50 (Nat.le_of_ble_eq_true rfl) rfl rfl (by omega) (by decide) q1 ?_
      refine go_aload_n d_P_take_51 rfl ?_
      refine go_getP (j := 10) d_P_take_52 (Nat.le_of_ble_eq_true rfl) rfl pc_P (Nat.le_of_ble_eq_true rfl) rfl w_127 pt_P_10 ?_
      refine go_iload_n d_P_take_55 rfl ?_
      refine go_ald (l - 20) (I 41 (l - 20)) d_P_take_56 (Nat.le_of_ble_eq_true rfl) rfl rfl (by omega) (by decide) rfl ?_
      refine go_ast (tk (l - 20)).length d_P_take_57 (show 44 + (l - 20) < 104 by omega) (sh_44 _ (by omega)) rfl (h2 h) (by decide) ?_
      refine go_aload_n d_P_take_58 rfl ?_
      refine go_getP (j := 11) d_P_take_59 (Nat.le_of_ble_eq_true rfl) rfl pc_P (Nat.le_of_ble_eq_true rfl) rfl w_128 pt_P_11 ?_
      refine go_iload_n d_P_take_62 rfl ?_
      refine go_dup2 d_P_take_63 rfl rfl ?_
      refine go_ald (l - 20) (nI (tk (l - 20)).length) d_P_take_64 (Nat.le_of_ble_eq_true rfl) rfl rfl (by omega) (by decide) (by simp only [uI_at]; rw [if_neg (by omega), if_neg (by omega)]; exact q1) ?_
      refine go_iconst (v := 1) d_P_take_65 (by decide) ?_
      refine go_iadd d_P_take_66 ?_
      refine go_top (nI ((tk (l - 20)).length + 1)) (nI_1 _) ?_
      refine go_ast (l - 20) d_P_take_67 (Nat.le_of_ble_eq_true rfl) rfl rfl (by omega) (by decide) ?_
      refine go_bipush (v := 16) d_P_take_68 (by decide) ?_
      refine go_iload_n d_P_take_70 rfl ?_
      refine go_ishl d_P_take_71 ?_
      exact go_ireturn (st := []) d_P_take_72 rfl (Nat.le_of_ble_eq_true rfl) (Nat.le_of_ble_eq_true rfl) rfl
    · simp only [pTb, if_neg h]
      refine hB.eqv ?_ ?_
      · funext j
        simp only [uI_at]
        rw [if_neg (by omega), if_neg (by omega), if_neg (by omega)]
      · funext j
        simp only [uI_at]
        rw [if_neg (by omega), if_neg (by omega), if_neg (by omega)]
    · simp only [pTk, if_neg h]
      intro p hp
      obtain ⟨r1, r2, r3⟩ := hT p hp
      have hlt := h2 h
      by_cases e : p = l - 20
      · subst e
        simp only [ra_fu, if_pos]
        refine ⟨by rw [uI_eq]; simp, by simp; omega, fun k w hw => ?_⟩
        rw [uI_ne (by omega)]
        by_cases hk : k < (tk (l - 20)).length
        · rw [List.getElem?_append_left hk] at hw
          rw [uI_nj (by omega), uI_ne (by omega)]
          exact r3 k w hw
        · rw [List.getElem?_append_right (by omega)] at hw
          have hk2 : k - (tk (l - 20)).length < 1 := (List.getElem?_eq_some_iff.mp hw).1
          have hk3 : k = (tk (l - 20)).length := by omega
          subst hk3
          rw [Nat.sub_self] at hw
          cases hw
          rw [uI_eq]
      · simp only [ra_fu, if_neg e]
        refine ⟨by rw [uI_nj e, uI_ne (by omega), uI_ne (by omega)]; exact r1, r2, fun k w hw => ?_⟩
        rw [uI_ne (by omega), uI_ne (by omega), uI_ne (by omega)]
        exact r3 k w hw
    · refine fr.tr (fr.tr (fr.uI (c := 33) (j := 9) (v := I 33 9 &&& (((1 : Int32) <<< (nI (l - 20) &&& 31)) ^^^ (-1))) (by decide)) ?_) (fr.uI (c := 42) (by decide))
      refine fr.uI ?_
      rcases (show l - 20 = 0 ∨ l - 20 = 1 ∨ l - 20 = 2 ∨ l - 20 = 3 by omega) with e | e | e | e <;> rw [e] <;> decide
    · simp only [pTw, if_neg h]
      rw [uI_ne (by decide), uI_ne (by omega), uI_eq]
    · intro j hj
      rw [uI_ne (by decide), uI_ne (by omega), uI_nj hj]
end S4
