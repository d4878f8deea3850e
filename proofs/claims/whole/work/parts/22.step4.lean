/-! the patient machine's tick: the third loop, the whole tick -/
section S12
variable {d : Nat} {I : Nat → Nat → Int32} {J : Nat → Nat → Int64} {D : DZ} {s : MS} {stl : Int32}
theorem gv_M (hD : DW D) (hM : MI D s) {j p : Nat} : aG (gvM D (pst D s stl (lb j) T2)) (nI s.T) (gi (brL D j)) (fun i => geM D s stl j (gi (brL D j) i)) (vaM D s j) (brL D j).length p = gvM D (pst D s stl (lb (j + 1)) T2) p := by
  have h20 := hD.nc
  by_cases hp : p < D.no
  · by_cases hit : D.ofm p = j ∧ geM D s stl j (20 + p) = true
    · obtain ⟨h1, h2⟩ := hit
      obtain ⟨i, hi, e⟩ := gi_of (show 20 + p ∈ brL D j from h1 ▸ br_ot hD hp)
      rw [aG_hit (i := i) (fun a b ha hb hab => gi_inj (brL_nd hD j) ha hb hab) hi (by rw [e]; exact h2) e, gvM, gvM, if_pos hp, if_pos hp]
      show wn (fun k => tv (nI (ouTP s p k)) (ousP D s p k)) 0 (ouP D s stl (lb j) p) ++ [tv (nI s.T) (vaM D s j)] = wn (fun k => tv (nI (ouTP s p k)) (ousP D s p k)) 0 (ouP D s stl (lb (j + 1)) p)
      rw [ou_a0 h1, ou_a1 h1 h2, wn_app (Nat.zero_le _), ouTP, ousP, if_pos rfl, if_pos rfl, h1]
    · rw [aG_miss, gvM, gvM, if_pos hp, if_pos hp]
      · show wn (fun k => tv (nI (ouTP s p k)) (ousP D s p k)) 0 (ouP D s stl (lb j) p) = wn (fun k => tv (nI (ouTP s p k)) (ousP D s p k)) 0 (ouP D s stl (lb (j + 1)) p)
        rw [ou_a2]
        intro h1
        cases hg : geM D s stl j (20 + p)
        · rfl
        · exact absurd ⟨h1, hg⟩ hit
      · intro i hi hg e
        have hm := gi_mem hi
        rw [e] at hm hg
        rcases (brL_mem hD).mp hm with ⟨h1, -⟩ | ⟨-, -, h3⟩
        · omega
        · rw [show 20 + p - 20 = p by omega] at h3
          exact hit ⟨h3, hg⟩
  · rw [aG_miss, gvM, gvM, if_neg hp, if_neg hp]
    intro i hi hg e
    have hm := gi_mem hi
    rw [e] at hm
    rcases (brL_mem hD).mp hm with ⟨h1, -⟩ | ⟨-, h2, -⟩ <;> omega
theorem tk_N {j p : Nat} (he : enM D s stl j = false) : tkM D (pst D s stl (lb j) T2) p = tkM D (pst D s stl (lb (j + 1)) T2) p := by
  show (if p < D.ni then wn (s.ofv p) 0 (tuP D s stl (lb j) (D.ito p)) else []) = (if p < D.ni then wn (s.ofv p) 0 (tuP D s stl (lb (j + 1)) (D.ito p)) else [])
  rw [tu_a2 he]
theorem tk_E (hD : DW D) {j p : Nat} {wv : Nat → Int32} (he : enM D s stl j = true) (hw : p < D.ni → D.ito p = j → wv p = s.ofv p (s.tu j)) : eTk (tkM D (pst D s stl (lb j) T2)) wv (gi (inL D j)) (inL D j).length p = tkM D (pst D s stl (lb (j + 1)) T2) p := by
  have h20 := hD.nc
  by_cases hp : p < D.ni
  · by_cases h1 : D.ito p = j
    · obtain ⟨i, hi, e⟩ := gi_of (show 20 + p ∈ inL D j from h1 ▸ in_ip hD hp)
      rw [eTk_hit (i := i) (fun a b ha hb hab => gi_inj (inL_nd hD j) ha hb hab) hi e, tkM, tkM, if_pos hp, if_pos hp, hw hp h1]
      show wn (s.ofv p) 0 (tuP D s stl (lb j) (D.ito p)) ++ _ = wn (s.ofv p) 0 (tuP D s stl (lb (j + 1)) (D.ito p))
      rw [tu_a0 h1, tu_a1 h1 he, wn_app (Nat.zero_le _), h1]
    · rw [eTk_miss, tkM, tkM, if_pos hp, if_pos hp]
      · show wn (s.ofv p) 0 (tuP D s stl (lb j) (D.ito p)) = wn (s.ofv p) 0 (tuP D s stl (lb (j + 1)) (D.ito p))
        rw [tu_eq h1]
      · intro i hi e
        have hm := gi_mem hi
        rw [e] at hm
        rcases (inL_mem hD).mp hm with ⟨h2, -⟩ | ⟨-, -, h3⟩
        · omega
        · rw [show 20 + p - 20 = p by omega] at h3
          exact h1 h3
  · rw [eTk_miss, tkM, tkM, if_neg hp, if_neg hp]
    intro i hi e
    have hm := gi_mem hi
    rw [e] at hm
    rcases (inL_mem hD).mp hm with ⟨h1, -⟩ | ⟨-, h2, -⟩ <;> omega
/-- what a tick tells -/
def tlF (D : DZ) (s : MS) (stl : Int32) (j q : Nat) : Bool := if q < 4 then decide (q < D.no) && (decide (D.ofm q < j) && geM D s stl (D.ofm q) (20 + q)) else decide (q - 4 < D.ni) && (decide (D.ito (q - 4) < j) && enM D s stl (D.ito (q - 4)))
def tlM (D : DZ) (s : MS) (stl : Int32) (j : Nat) : Int32 := bI (tlF D s stl j) 8
theorem aT_M (hD : DW D) {j q : Nat} (hq : q < 32) : bt (aT (gi (brL D j)) (fun i => geM D s stl j (gi (brL D j) i)) (brL D j).length) q = (decide (q < D.no) && (decide (D.ofm q = j) && geM D s stl j (20 + q))) := by
  have h20 := hD.nc
  rw [aT_bt hq (fun i hi => brL_lt hD (gi_mem hi))]
  by_cases h : q < D.no ∧ D.ofm q = j ∧ geM D s stl j (20 + q) = true
  · obtain ⟨h1, h2, h3⟩ := h
    obtain ⟨i, hi, e⟩ := gi_of (show 20 + q ∈ brL D j from h2 ▸ br_ot hD h1)
    rw [al_stop hi (by rw [e, h3, decide_eq_true rfl]; rfl), decide_eq_true h1, decide_eq_true h2, h3]
    rfl
  · have e1 : al (fun i => !(geM D s stl j (gi (brL D j) i) && decide (gi (brL D j) i = 20 + q))) (brL D j).length = true := by
      rw [al_iff]
      intro i hi
      by_cases e : gi (brL D j) i = 20 + q
      · have hm := gi_mem hi
        rw [e] at hm
        rcases (brL_mem hD).mp hm with ⟨h1, -⟩ | ⟨-, h2, h3⟩
        · omega
        · rw [show 20 + q - 20 = q by omega] at h3
          cases hg : geM D s stl j (20 + q)
          · rw [e, hg]; rfl
          · exact absurd ⟨by omega, h3, hg⟩ h
      · rw [decide_eq_false e]
        simp
    rw [e1]
    cases hg : geM D s stl j (20 + q)
    · simp
    · by_cases h1 : q < D.no
      · rw [decide_eq_false (fun z => h ⟨h1, z, hg⟩)]
        simp
      · rw [decide_eq_false h1]
        simp
theorem eTt_M (hD : DW D) {j q : Nat} (hq : q < 32) : bt (eTt (gi (inL D j)) (inL D j).length) q = (decide (4 ≤ q) && (decide (q - 4 < D.ni) && decide (D.ito (q - 4) = j))) := by
  have h20 := hD.nc
  rw [eTt_bt hq (fun i hi => inL_lt hD (gi_mem hi))]
  by_cases h : 4 ≤ q ∧ q - 4 < D.ni ∧ D.ito (q - 4) = j
  · obtain ⟨h1, h2, h3⟩ := h
    obtain ⟨i, hi, e⟩ := gi_of (show 20 + (q - 4) ∈ inL D j from h3 ▸ in_ip hD h2)
    rw [al_stop hi (by rw [e, decide_eq_true (by omega)]; rfl), decide_eq_true h1, decide_eq_true h2, decide_eq_true h3]
    rfl
  · have e1 : al (fun i => !decide (20 ≤ gi (inL D j) i ∧ q = 4 + (gi (inL D j) i - 20))) (inL D j).length = true := by
      rw [al_iff]
      intro i hi
      by_cases e : 20 ≤ gi (inL D j) i ∧ q = 4 + (gi (inL D j) i - 20)
      · exfalso
        rcases (inL_mem hD).mp (gi_mem hi) with ⟨h1, -⟩ | ⟨h0, h2, h3⟩
        · omega
        · apply h
          rw [show q - 4 = gi (inL D j) i - 20 by omega]
          exact ⟨by omega, by omega, h3⟩
      · rw [decide_eq_false e]
        rfl
    rw [e1]
    by_cases h1 : 4 ≤ q
    · by_cases h2 : q - 4 < D.ni
      · rw [decide_eq_false (fun z => h ⟨h1, h2, z⟩)]
        simp
      · rw [decide_eq_false h2]
        simp
    · rw [decide_eq_false h1]
      simp
theorem ltb_s {a j : Nat} : decide (a < j + 1) = (decide (a < j) || decide (a = j)) := by
  by_cases h : a < j
  · rw [decide_eq_true h, decide_eq_true (by omega)]; rfl
  · by_cases e : a = j
    · rw [decide_eq_true e, decide_eq_true (by omega), decide_eq_false h]; rfl
    · rw [decide_eq_false e, decide_eq_false h, decide_eq_false (by omega)]; rfl
theorem tl_s (hD : DW D) {j q : Nat} : tlF D s stl (j + 1) q = (tlF D s stl j q || if q < 4 then decide (q < D.no) && (decide (D.ofm q = j) && geM D s stl j (20 + q)) else decide (q - 4 < D.ni) && (decide (D.ito (q - 4) = j) && enM D s stl j)) := by
  unfold tlF
  rw [ltb_s, ltb_s]
  by_cases h : q < 4
  · rw [if_pos h, if_pos h, if_pos h]
    by_cases e : D.ofm q = j
    · rw [e]
      cases decide (q < D.no) <;> cases decide (j < j) <;> cases decide (j = j) <;> cases geM D s stl j (20 + q) <;> rfl
    · rw [decide_eq_false e]
      simp
  · rw [if_neg h, if_neg h, if_neg h]
    by_cases e : D.ito (q - 4) = j
    · rw [e]
      cases decide (q - 4 < D.ni) <;> cases decide (j < j) <;> cases decide (j = j) <;> cases enM D s stl j <;> rfl
    · rw [decide_eq_false e]
      simp
theorem tl_nr (hD : DW D) {j : Nat} (h : rdM D s j = false) : tlM D s stl (j + 1) = tlM D s stl j := by
  apply bI_congr
  intro q _
  rw [tl_s hD, nr_ge h, nr_en h]
  simp
theorem tl_N (hD : DW D) {j : Nat} (he : enM D s stl j = false) : tlM D s stl j ||| aT (gi (brL D j)) (fun i => geM D s stl j (gi (brL D j) i)) (brL D j).length = tlM D s stl (j + 1) := by
  have h4 := hD.no
  apply b_ext
  intro q hq
  rw [b_or, tlM, tlM, bI_bt _ 8 (by decide) q hq, bI_bt _ 8 (by decide) q hq, aT_M hD hq, tl_s hD, he]
  by_cases h : q < 4
  · rw [if_pos h, decide_eq_true (show q < 8 by omega)]
    simp
  · rw [if_neg h, decide_eq_false (show ¬ q < D.no by omega)]
    simp
theorem tl_E (hD : DW D) {j : Nat} (he : enM D s stl j = true) : tlM D s stl j ||| (aT (gi (brL D j)) (fun i => geM D s stl j (gi (brL D j) i)) (brL D j).length ||| eTt (gi (inL D j)) (inL D j).length) = tlM D s stl (j + 1) := by
  have h4 := hD.no
  have h5 := hD.ni
  apply b_ext
  intro q hq
  rw [b_or, b_or, tlM, tlM, bI_bt _ 8 (by decide) q hq, bI_bt _ 8 (by decide) q hq, aT_M hD hq, eTt_M hD hq, tl_s hD, he]
  by_cases h : q < 4
  · rw [if_pos h, decide_eq_true (show q < 8 by omega), decide_eq_false (show ¬ 4 ≤ q by omega)]
    simp
  · rw [if_neg h, decide_eq_false (show ¬ q < D.no by omega), decide_eq_true (show 4 ≤ q by omega)]
    by_cases h8 : q < 8
    · rw [decide_eq_true h8]
      simp
    · rw [decide_eq_false h8, decide_eq_false (show ¬ q - 4 < D.ni by omega)]
      simp
abbrev fLP : List Nat := [33, 34, 35, 38, 39, 42, 44, 45, 46, 47, 48]
/-- one block acts -/
theorem step_act (hD : DW D) (hM : MI D s) (hT : s.T < 1000) {j : Nat} (hj : j < D.nb) (hr : rdM D s j = true) (rD : RD I D) (rQ : RQ I J D (pst D s stl (lb j) T2)) (h40 : I 40 j = geI D s stl j) (h37 : ∀ x, x ∈ inL D j → I 37 x = svM s j x) :
    ∃ I' J' r, pm_Go (d + 3) m_P_act 0 [some (.ref 33), some (.int (nI j)), none, none, none] [] 0 0 (ST I J) (.inl (some (.int r)), ST I' J') ∧ tlM D s stl j ||| r = tlM D s stl (j + 1) ∧ RQ I' J' D (pst D s stl (lb (j + 1)) T2) ∧ fr fLP I I' ∧ (∀ c, (c < 50 ∨ 53 < c) → J' c = J c) := by
  have h20 := hD.nc
  have hb10 := hD.nb
  have hno := hD.no
  have hni := hD.ni
  have hmk := sp_makes (d := d) (I := I) (J := J) (j := j) (s := 37) (n := (inL D j).length) (op := D.op j) (c := D.ct j) (lk := gi (inL D j)) (by omega) (by decide) rfl (rD.bl j hj).2 (rD.inn j hj).1 (inL_len hD j) (rD.bl j hj).1 (hD.op j hj) (fun i hi => ⟨(rD.inn j hj).2 i hi, inL_lt hD (gi_mem hi)⟩)
  have ev : fo (fun v i => jn (D.op j) v (I 37 (gi (inL D j) i))) (D.ct j) (inL D j).length = vaM D s j := by
    rw [vaM, ← fo_foldl]
    apply fo_congr
    intro q i hi
    rw [h37 _ (gi_mem hi)]
  rw [ev] at hmk
  have hg40 : I 40 j = bI (fun i => geM D s stl j (gi (brL D j) i)) (brL D j).length := by rw [h40, geI, if_pos hr]
  have hgt : I 39 j = bI (fun i => goM (pst D s stl (lb j) T2) j (gi (brL D j) i)) (brL D j).length := rQ.got j hj
  have hall : al (fun i => goM (pst D s stl (lb j) T2) j (gi (brL D j) i) || geM D s stl j (gi (brL D j) i)) (brL D j).length = enM D s stl j := by
    rw [enM, hr, Bool.true_and, ← al_all]
    apply Bool.eq_iff_iff.mpr
    rw [al_iff, al_iff]
    constructor
    · intro h i hi
      rw [← go_P0 (stl := stl) hD (gi_mem hi)]
      exact h i hi
    · intro h i hi
      rw [go_P0 hD (gi_mem hi)]
      exact h i hi
  have brinj : ∀ a b, a < (brL D j).length → b < (brL D j).length → gi (brL D j) a = gi (brL D j) b → a = b := fun a b ha hb hab => gi_inj (brL_nd hD j) ha hb hab
  have ininj : ∀ a b, a < (inL D j).length → b < (inL D j).length → gi (inL D j) a = gi (inL D j) b → a = b := fun a b ha hb hab => gi_inj (inL_nd hD j) ha hb hab
  have h1 : ∀ i, i < (brL D j).length → geM D s stl j (gi (brL D j) i) = true → gi (brL D j) i < 20 → (aB (bqM D (pst D s stl (lb j) T2)) (gi (brL D j)) (fun i => geM D s stl j (gi (brL D j) i)) (vaM D s j) i (gi (brL D j) i * 4)).length < 2 := by
    intro i hi hg hl
    rw [aB_miss (fun k hk _ _ e => by have := brinj i k hi (by omega) (by omega); omega)]
    rcases (brL_mem hD).mp (gi_mem hi) with ⟨k1, k2⟩ | ⟨k1, -⟩
    · have hb := bq_at (s := pst D s stl (lb j) T2) hD k1 (Nat.zero_le _)
      rw [Nat.add_zero] at hb
      rw [hb, wn_len, cm_P0, ga_a0 k2]
      have k3 := ge_ca hg
      rw [caM, if_pos hl] at k3
      have k4 := of_decide_eq_true k3
      rw [cm_0] at k4
      have k5 := gn_ge (D := D) (s := s) (stl := stl) (A := lb j) (B := T2) (c := gi (brL D j) i) (b := 0)
      omega
    · omega
  have h2 : ∀ i, i < (brL D j).length → geM D s stl j (gi (brL D j) i) = true → ¬ gi (brL D j) i < 20 → (aG (gvM D (pst D s stl (lb j) T2)) (I 33 1) (gi (brL D j)) (fun i => geM D s stl j (gi (brL D j) i)) (vaM D s j) i (gi (brL D j) i - 20)).length < 1000 := by
    intro i hi hg hl
    rw [aG_miss (fun k hk _ e => by have := brinj i k hi (by omega) (by omega); omega)]
    rcases (brL_mem hD).mp (gi_mem hi) with ⟨k1, -⟩ | ⟨k0, k1, k2⟩
    · omega
    · rw [gvM, if_pos (by omega), wn_len]
      show ouP D s stl (lb j) (gi (brL D j) i - 20) - 0 < 1000
      have k3 := ou_ng hM (p := gi (brL D j) i - 20) (by omega) (by rw [k2, show 20 + (gi (brL D j) i - 20) = gi (brL D j) i by omega]; exact ge_ng hg)
      have k4 := hM.tu j hj
      rw [ou_a0 k2, k3, k2]
      omega
  have eT : I 33 1 = nI s.T := rQ.T
  cases he : enM D s stl j
  · obtain ⟨I', J', a1, a2, a3, a4, a5, a6, a7⟩ := sp_actN (d := d) (v := vaM D s j) (by omega) rQ.B rQ.gv (rD.brn j hj).1 (brL_len hD j) hg40 hgt (rD.olk hD hj) h1 h2 hmk (by rw [hall]; exact he)
    refine ⟨I', J', _, a1, tl_N hD he, ?_, a4.up (by decide), a5⟩
    refine RQ.mk ?_ ?_ ?_ ?_ ?_ ?_ ?_ ?_
    · rw [a4 33 (by decide)]; exact eT
    · exact a2.cg (fun x _ => bq_N hD hM he x)
    · intro i hi
      rw [a4 38 (by decide), rQ.tu i hi]
      show nI (tuP D s stl (lb j) i) = nI (tuP D s stl (lb (j + 1)) i)
      rw [tu_a2 he]
    · intro i hi
      by_cases e : i = j
      · subst e
        rw [a6, gtM]
        exact bI_congr (fun k hk => (go_N hD hM (gi_mem hk) he).symm)
      · rw [a7 i e, rQ.got i hi, gtM, gtM]
        exact bI_congr (fun k hk => (go_ot hD (gi_mem hk) e).symm)
    · intro p hp
      rw [a4 33 (by decide), rQ.wt p hp]
      show decide (tuP D s stl (lb j) (D.ito p) < s.off p) = decide (tuP D s stl (lb (j + 1)) (D.ito p) < s.off p)
      rw [tu_a2 he]
    · intro p hp
      show tuP D s stl (lb (j + 1)) (D.ito p) < s.off p → I' 41 p = s.ofv p (tuP D s stl (lb (j + 1)) (D.ito p))
      rw [tu_a2 he, a4 41 (by decide)]
      exact rQ.wv p hp
    · exact (rQ.tk.fr a4 (by decide)).cg (fun p _ => tk_N he)
    · rw [eT] at a3
      exact a3.cg (fun p _ => gv_M hD hM)
  · have h3 : ∀ i, i < (inL D j).length → gi (inL D j) i < 20 → eTb (aB (bqM D (pst D s stl (lb j) T2)) (gi (brL D j)) (fun i => geM D s stl j (gi (brL D j) i)) (vaM D s j) (brL D j).length) D.ex (gi (inL D j)) i (gi (inL D j) i * 4 + D.ex (gi (inL D j) i)) ≠ [] := by
      intro i hi hl
      rcases (inL_mem hD).mp (gi_mem hi) with ⟨k1, k2⟩ | ⟨k1, -⟩
      · rw [eTb_miss (fun k hk hl2 e => by
          rcases (inL_mem hD).mp (gi_mem (show k < (inL D j).length by omega)) with ⟨m1, -⟩ | ⟨m1, -⟩
          · have := (hD.ch _ k1).2.2
            have := (hD.ch _ m1).2.2
            have := ininj i k hi (by omega) (by omega)
            omega
          · omega), aB_M hD hM k1 (Nat.le_refl _)]
        apply wn_ne
        rw [gn_P, if_pos rfl, tu_a0 k2]
        have k3 := rd_ch hD k1 (k2 ▸ hr)
        rw [gnM, if_pos rfl] at k3
        have k4 := cm_ge (D := D) (s := s) (stl := stl) (A := lb (j + 1)) (B := T2) (c := gi (inL D j) i) (b := D.ex (gi (inL D j) i))
        omega
      · omega
    have h4 : ∀ i, i < (inL D j).length → ¬ gi (inL D j) i < 20 → (eTk (tkM D (pst D s stl (lb j) T2)) (I 41) (gi (inL D j)) i (gi (inL D j) i - 20)).length < 1000 := by
      intro i hi hl
      rw [eTk_miss (fun k hk e => by have := ininj i k hi (by omega) (by omega); omega)]
      rcases (inL_mem hD).mp (gi_mem hi) with ⟨k1, -⟩ | ⟨k0, k1, k2⟩
      · omega
      · rw [tkM, if_pos (by omega), wn_len]
        show tuP D s stl (lb j) (D.ito (gi (inL D j) i - 20)) - 0 < 1000
        have k4 := hM.tu j hj
        rw [tu_a0 k2, k2]
        omega
    obtain ⟨I', J', a1, a2, a3, a4, a5, a6, a7, a8, a9, a10, a11, a12⟩ := sp_actE (d := d) (v := vaM D s j) (by omega) rQ.B rQ.gv rQ.tk (rD.brn j hj).1 (brL_len hD j) hg40 hgt (rD.olk hD hj) h1 h2 hmk (by rw [hall]; exact he) (rD.inn j hj).1 (inL_len hD j) (rQ.tu j hj) (rD.ilk hD hj) h3 h4
    refine ⟨I', J', _, a1, tl_E hD he, ?_, a5, a6⟩
    refine RQ.mk ?_ ?_ ?_ ?_ ?_ ?_ ?_ ?_
    · rw [a12 1 (by decide)]; exact eT
    · exact a2.cg (fun x _ => bq_E hD hM he x)
    · intro i hi
      show I' 38 i = nI (tuP D s stl (lb (j + 1)) i)
      by_cases e : i = j
      · subst e
        rw [a9, tu_a1 rfl he]
        show nI (tuP D s stl (lb i) i + 1) = _
        rw [tu_a0 rfl]
      · rw [a10 i e, rQ.tu i hi, tu_eq e]
        rfl
    · intro i hi
      by_cases e : i = j
      · subst e
        rw [a7, gtM, bI_z (fun k hk => go_E hD hM (gi_mem hk) he)]
      · rw [a8 i e, rQ.got i hi, gtM, gtM]
        exact bI_congr (fun k hk => (go_ot hD (gi_mem hk) e).symm)
    · intro p hp
      show bt (I' 33 9) p = decide (tuP D s stl (lb (j + 1)) (D.ito p) < s.off p)
      rw [a11, eTw_bt (by omega) (fun i hi => inL_lt hD (gi_mem hi)), rQ.wt p hp]
      show (decide (tuP D s stl (lb j) (D.ito p) < s.off p) && _) = _
      by_cases e : D.ito p = j
      · obtain ⟨i, hi, ei⟩ := gi_of (show 20 + p ∈ inL D j from e ▸ in_ip hD hp)
        have k1 := hM.off p hp
        rw [al_stop hi (by rw [ei, decide_eq_true rfl]; rfl), tu_a1 e he, decide_eq_false (show ¬ s.tu (D.ito p) + 1 < s.off p by omega)]
        simp
      · have e1 : al (fun i => !decide (gi (inL D j) i = 20 + p)) (inL D j).length = true := by
          rw [al_iff]
          intro i hi
          rw [decide_eq_false]
          · rfl
          · intro ei
            have hm := gi_mem hi
            rw [ei] at hm
            rcases (inL_mem hD).mp hm with ⟨m1, -⟩ | ⟨-, -, m3⟩
            · omega
            · rw [show 20 + p - 20 = p by omega] at m3
              exact e m3
        rw [e1, tu_eq e]
        simp
    · intro p hp
      show tuP D s stl (lb (j + 1)) (D.ito p) < s.off p → I' 41 p = s.ofv p (tuP D s stl (lb (j + 1)) (D.ito p))
      rw [a5 41 (by decide)]
      by_cases e : D.ito p = j
      · have k1 := hM.off p hp
        rw [tu_a1 e he]
        intro z
        omega
      · rw [tu_eq e]
        exact rQ.wv p hp
    · refine a4.cg (fun p hp4 => tk_E hD he (fun hp e => ?_))
      have k1 := rd_ip hD hp (e ▸ hr)
      have k2 := rQ.wv p hp (show tuP D s stl (lb j) (D.ito p) < s.off p by rw [tu_a0 e]; exact k1)
      rw [k2]
      show s.ofv p (tuP D s stl (lb j) (D.ito p)) = _
      rw [tu_a0 e, e]
    · rw [eT] at a3
      exact a3.cg (fun p _ => gv_M hD hM)
end S12
