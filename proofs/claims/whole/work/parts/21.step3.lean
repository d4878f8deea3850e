/-! the patient machine's tick: the blocks act -/
section S11
variable {d : Nat} {I : Nat → Nat → Int32} {J : Nat → Nat → Int64} {D : DZ} {s : MS} {stl : Int32}
theorem tu_eq {i j : Nat} (h : i ≠ j) : tuP D s stl (lb (j + 1)) i = tuP D s stl (lb j) i := by
  have : lb (j + 1) i = lb j i := by
    unfold lb
    by_cases h1 : i < j
    · rw [decide_eq_true h1, decide_eq_true (by omega)]
    · rw [decide_eq_false h1, decide_eq_false (by omega)]
  unfold tuP
  rw [this]
theorem tu_a0 {i j : Nat} (h : i = j) : tuP D s stl (lb j) i = s.tu i := by
  unfold tuP lb
  rw [decide_eq_false (by omega)]
  simp
theorem tu_a1 {i j : Nat} (h : i = j) (he : enM D s stl j = true) : tuP D s stl (lb (j + 1)) i = s.tu i + 1 := by
  subst h
  unfold tuP lb
  rw [decide_eq_true (by omega), he]
  simp
theorem tu_a2 {i j : Nat} (he : enM D s stl j = false) : tuP D s stl (lb (j + 1)) i = tuP D s stl (lb j) i := by
  by_cases h : i = j
  · subst h
    unfold tuP
    rw [he]
    simp
  · exact tu_eq h
theorem ga_eq {c j : Nat} (h : D.fm c ≠ j) : gaP D s stl (lb (j + 1)) c = gaP D s stl (lb j) c := by
  have : lb (j + 1) (D.fm c) = lb j (D.fm c) := by
    unfold lb
    by_cases h1 : D.fm c < j
    · rw [decide_eq_true h1, decide_eq_true (by omega)]
    · rw [decide_eq_false h1, decide_eq_false (by omega)]
  unfold gaP
  rw [this]
theorem ga_a0 {c j : Nat} (h : D.fm c = j) : gaP D s stl (lb j) c = s.ga c := by
  unfold gaP lb
  rw [decide_eq_false (by omega)]
  simp
theorem ga_a1 {c j : Nat} (h : D.fm c = j) (he : geM D s stl j c = true) : gaP D s stl (lb (j + 1)) c = s.ga c + 1 := by
  subst h
  unfold gaP lb
  rw [decide_eq_true (by omega), he]
  simp
theorem ga_a2 {c j : Nat} (h : D.fm c = j → geM D s stl j c = false) : gaP D s stl (lb (j + 1)) c = gaP D s stl (lb j) c := by
  by_cases e : D.fm c = j
  · have h2 := h e
    subst e
    unfold gaP
    rw [h2]
    simp
  · exact ga_eq e
theorem ou_eq {c j : Nat} (h : D.ofm c ≠ j) : ouP D s stl (lb (j + 1)) c = ouP D s stl (lb j) c := by
  have : lb (j + 1) (D.ofm c) = lb j (D.ofm c) := by
    unfold lb
    by_cases h1 : D.ofm c < j
    · rw [decide_eq_true h1, decide_eq_true (by omega)]
    · rw [decide_eq_false h1, decide_eq_false (by omega)]
  unfold ouP
  rw [this]
theorem ou_a0 {c j : Nat} (h : D.ofm c = j) : ouP D s stl (lb j) c = s.ou c := by
  unfold ouP lb
  rw [decide_eq_false (by omega)]
  simp
theorem ou_a1 {c j : Nat} (h : D.ofm c = j) (he : geM D s stl j (20 + c) = true) : ouP D s stl (lb (j + 1)) c = s.ou c + 1 := by
  subst h
  unfold ouP lb
  rw [decide_eq_true (by omega), he]
  simp
theorem ou_a2 {c j : Nat} (h : D.ofm c = j → geM D s stl j (20 + c) = false) : ouP D s stl (lb (j + 1)) c = ouP D s stl (lb j) c := by
  by_cases e : D.ofm c = j
  · have h2 := h e
    subst e
    unfold ouP
    rw [h2]
    simp
  · exact ou_eq e
theorem nr_ge {j x : Nat} (h : rdM D s j = false) : geM D s stl j x = false := by rw [geM, h]; rfl
theorem nr_en {j : Nat} (h : rdM D s j = false) : enM D s stl j = false := by rw [enM, h]; rfl
theorem pst_nr {j : Nat} (h : rdM D s j = false) : pst D s stl (lb (j + 1)) T2 = pst D s stl (lb j) T2 := by
  have e1 : tuP D s stl (lb (j + 1)) = tuP D s stl (lb j) := funext (fun _ => tu_a2 (nr_en h))
  have e2 : gaP D s stl (lb (j + 1)) = gaP D s stl (lb j) := funext (fun _ => ga_a2 (fun _ => nr_ge h))
  have e3 : ouP D s stl (lb (j + 1)) = ouP D s stl (lb j) := funext (fun _ => ou_a2 (fun _ => nr_ge h))
  unfold pst
  rw [e1, e2, e3]
/-- what the branches have got, before the block acts -/
theorem go_P0 (hD : DW D) {j x : Nat} (hx : x ∈ brL D j) : goM (pst D s stl (lb j) T2) j x = goM s j x := by
  have h20 := hD.nc
  show (if x < 20 then decide (tuP D s stl (lb j) j < gaP D s stl (lb j) x) else decide (tuP D s stl (lb j) j < ouP D s stl (lb j) (x - 20))) = _
  rw [tu_a0 rfl, goM]
  rcases (brL_mem hD).mp hx with ⟨h1, h2⟩ | ⟨h1, h2, h3⟩
  · rw [if_pos (by omega), if_pos (by omega), ga_a0 h2]
  · rw [if_neg (by omega), if_neg (by omega), ou_a0 h3]
theorem go_ot (hD : DW D) {j i x : Nat} (hx : x ∈ brL D i) (h : i ≠ j) : goM (pst D s stl (lb (j + 1)) T2) i x = goM (pst D s stl (lb j) T2) i x := by
  have h20 := hD.nc
  show (if x < 20 then decide (tuP D s stl (lb (j + 1)) i < gaP D s stl (lb (j + 1)) x) else decide (tuP D s stl (lb (j + 1)) i < ouP D s stl (lb (j + 1)) (x - 20))) = (if x < 20 then decide (tuP D s stl (lb j) i < gaP D s stl (lb j) x) else decide (tuP D s stl (lb j) i < ouP D s stl (lb j) (x - 20)))
  rw [tu_eq h]
  rcases (brL_mem hD).mp hx with ⟨h1, h2⟩ | ⟨h1, h2, h3⟩
  · rw [if_pos (by omega), if_pos (by omega), ga_eq (by omega)]
  · rw [if_neg (by omega), if_neg (by omega), ou_eq (by omega)]
theorem go_N (hD : DW D) (hM : MI D s) {j x : Nat} (hx : x ∈ brL D j) (he : enM D s stl j = false) : goM (pst D s stl (lb (j + 1)) T2) j x = (goM (pst D s stl (lb j) T2) j x || geM D s stl j x) := by
  have h20 := hD.nc
  rw [go_P0 hD hx]
  show (if x < 20 then decide (tuP D s stl (lb (j + 1)) j < gaP D s stl (lb (j + 1)) x) else decide (tuP D s stl (lb (j + 1)) j < ouP D s stl (lb (j + 1)) (x - 20))) = _
  rw [tu_a2 he, tu_a0 rfl]
  rcases (brL_mem hD).mp hx with ⟨h1, h2⟩ | ⟨h1, h2, h3⟩
  · have hg := hM.ga x h1
    rw [if_pos (by omega)]
    cases hge : geM D s stl j x
    · rw [ga_a2 (fun _ => hge), ga_a0 h2, Bool.or_false, goM, if_pos (by omega)]
    · rw [ga_a1 h2 hge, Bool.or_true, decide_eq_true]
      rw [h2] at hg
      omega
  · have hg := hM.ou (x - 20) (by omega)
    have ex : 20 + (x - 20) = x := by omega
    rw [if_neg (by omega)]
    cases hge : geM D s stl j x
    · rw [ou_a2 (fun _ => by rw [ex]; exact hge), ou_a0 h3, Bool.or_false, goM, if_neg (by omega)]
    · rw [ou_a1 h3 (by rw [ex]; exact hge), Bool.or_true, decide_eq_true]
      rw [h3] at hg
      omega
theorem go_E (hD : DW D) (hM : MI D s) {j x : Nat} (hx : x ∈ brL D j) (he : enM D s stl j = true) : goM (pst D s stl (lb (j + 1)) T2) j x = false := by
  have h20 := hD.nc
  show (if x < 20 then decide (tuP D s stl (lb (j + 1)) j < gaP D s stl (lb (j + 1)) x) else decide (tuP D s stl (lb (j + 1)) j < ouP D s stl (lb (j + 1)) (x - 20))) = _
  rw [tu_a1 rfl he]
  rcases (brL_mem hD).mp hx with ⟨h1, h2⟩ | ⟨h1, h2, h3⟩
  · have hg := hM.ga x h1
    rw [h2] at hg
    rw [if_pos (by omega), decide_eq_false]
    cases hge : geM D s stl j x
    · rw [ga_a2 (fun _ => hge), ga_a0 h2]
      omega
    · have := ga_ng hM hD h1 (by rw [h2]; exact ge_ng hge)
      rw [ga_a1 h2 hge]
      rw [h2] at this
      omega
  · have hg := hM.ou (x - 20) (by omega)
    have ex : 20 + (x - 20) = x := by omega
    rw [h3] at hg
    rw [if_neg (by omega), decide_eq_false]
    cases hge : geM D s stl j x
    · rw [ou_a2 (fun _ => by rw [ex]; exact hge), ou_a0 h3]
      omega
    · have := ou_ng hM (p := x - 20) (by omega) (by rw [h3, ex]; exact ge_ng hge)
      rw [ou_a1 h3 (by rw [ex]; exact hge)]
      rw [h3] at this
      omega
/-- the buffers when a block's branches have got -/
theorem aB_M (hD : DW D) (hM : MI D s) {j c r : Nat} (hc : c < D.nc) (hr : r ≤ D.ex c) : aB (bqM D (pst D s stl (lb j) T2)) (gi (brL D j)) (fun i => geM D s stl j (gi (brL D j) i)) (vaM D s j) (brL D j).length (c * 4 + r) = wn (tokP D s c) (gnM D (pst D s stl (lb j) T2) c r) (cmM (pst D s stl (lb (j + 1)) T2) c r) := by
  have h20 := hD.nc
  have h3 := (hD.ch c hc).2.2
  by_cases hit : r = 0 ∧ D.fm c = j ∧ geM D s stl j c = true
  · obtain ⟨h0, h1, h2⟩ := hit
    subst h0
    obtain ⟨i, hi, e⟩ := gi_of (show c ∈ brL D j from h1 ▸ br_ch hD hc)
    have hh := aB_hit (v := vaM D s j) (bq := bqM D (pst D s stl (lb j) T2)) (lk := gi (brL D j)) (gf := fun i => geM D s stl j (gi (brL D j) i)) (fun a b ha hb hab => gi_inj (brL_nd hD j) ha hb hab) hi (by rw [e]; exact h2) (by omega)
    rw [e] at hh
    have hb := bq_at (s := pst D s stl (lb j) T2) hD hc hr
    rw [Nat.add_zero] at hb ⊢
    have hle := gn_le (stl := stl) (A := lb j) (B := T2) hD hM hc hr
    rw [cm_0] at hle
    rw [hh, hb, cm_P0, cm_P0, ga_a0 h1, ga_a1 h1 h2, wn_app hle]
    congr 1
    show [vaM D s j] = [tokP D s c (s.ga c + 1)]
    rw [tokP, if_pos rfl, h1]
  · rw [aB_miss, bq_at hD hc hr]
    · have : cmM (pst D s stl (lb (j + 1)) T2) c r = cmM (pst D s stl (lb j) T2) c r := by
        cases r with
        | zero =>
          rw [cm_P0, cm_P0, ga_a2]
          intro h1
          cases hg : geM D s stl j c
          · rfl
          · exact absurd ⟨rfl, h1, hg⟩ hit
        | succ r => rfl
      rw [this]
      rfl
    · intro i hi hg hl e
      have ec : gi (brL D j) i = c := by omega
      have er : r = 0 := by omega
      rw [ec] at hg
      have hm := gi_mem hi
      rw [ec] at hm
      rcases (brL_mem hD).mp hm with ⟨-, h2⟩ | ⟨h1, -⟩
      · exact hit ⟨er, h2, hg⟩
      · omega
theorem aB_no (hD : DW D) {j x : Nat} (h : ¬ (x / 4 < D.nc ∧ x % 4 ≤ D.ex (x / 4))) : aB (bqM D (pst D s stl (lb j) T2)) (gi (brL D j)) (fun i => geM D s stl j (gi (brL D j) i)) (vaM D s j) (brL D j).length x = [] := by
  rw [aB_miss, bq_no h]
  intro i hi hg hl e
  rcases (brL_mem hD).mp (gi_mem hi) with ⟨h1, -⟩ | ⟨h1, -⟩
  · apply h
    have e1 : x / 4 = gi (brL D j) i := by omega
    have e2 : x % 4 = 0 := by omega
    rw [e1, e2]
    exact ⟨h1, Nat.zero_le _⟩
  · omega
theorem bq_N (hD : DW D) (hM : MI D s) {j : Nat} (he : enM D s stl j = false) (x : Nat) : aB (bqM D (pst D s stl (lb j) T2)) (gi (brL D j)) (fun i => geM D s stl j (gi (brL D j) i)) (vaM D s j) (brL D j).length x = bqM D (pst D s stl (lb (j + 1)) T2) x := by
  by_cases h : x / 4 < D.nc ∧ x % 4 ≤ D.ex (x / 4)
  · have ex : x = x / 4 * 4 + x % 4 := by omega
    have h1 := aB_M (stl := stl) (j := j) hD hM h.1 h.2
    rw [← ex] at h1
    rw [h1, bqM, if_pos h]
    have : gnM D (pst D s stl (lb (j + 1)) T2) (x / 4) (x % 4) = gnM D (pst D s stl (lb j) T2) (x / 4) (x % 4) := by
      rw [gn_P, gn_P, tu_a2 he]
    rw [this]
    rfl
  · rw [aB_no hD h, bq_no h]
theorem bq_E (hD : DW D) (hM : MI D s) {j : Nat} (he : enM D s stl j = true) (x : Nat) : eTb (aB (bqM D (pst D s stl (lb j) T2)) (gi (brL D j)) (fun i => geM D s stl j (gi (brL D j) i)) (vaM D s j) (brL D j).length) D.ex (gi (inL D j)) (inL D j).length x = bqM D (pst D s stl (lb (j + 1)) T2) x := by
  have h20 := hD.nc
  have hexs : ∀ i, i < (inL D j).length → gi (inL D j) i < 20 → gi (inL D j) i < D.nc ∧ D.to (gi (inL D j) i) = j ∧ D.ex (gi (inL D j) i) ≤ 3 := by
    intro i hi hl
    rcases (inL_mem hD).mp (gi_mem hi) with ⟨h1, h2⟩ | ⟨h1, -⟩
    · exact ⟨h1, h2, (hD.ch _ h1).2.2⟩
    · omega
  by_cases h : x / 4 < D.nc ∧ x % 4 ≤ D.ex (x / 4)
  · have ex : x = x / 4 * 4 + x % 4 := by omega
    have h1 := aB_M (stl := stl) (j := j) hD hM h.1 h.2
    rw [← ex] at h1
    by_cases hit : x % 4 = D.ex (x / 4) ∧ D.to (x / 4) = j
    · obtain ⟨i, hi, e⟩ := gi_of (show x / 4 ∈ inL D j from hit.2 ▸ in_ch hD h.1)
      have hh := eTb_hit (bq := aB (bqM D (pst D s stl (lb j) T2)) (gi (brL D j)) (fun i => geM D s stl j (gi (brL D j) i)) (vaM D s j) (brL D j).length) (ex := D.ex) (lk := gi (inL D j)) (fun a b ha hb hab => gi_inj (inL_nd hD j) ha hb hab) (fun i hi hl => (hexs i hi hl).2.2) hi (by rw [e]; omega)
      rw [e, ← hit.1, ← ex] at hh
      rw [hh, h1, wn_tl, bqM, if_pos h]
      have : gnM D (pst D s stl (lb (j + 1)) T2) (x / 4) (x % 4) = gnM D (pst D s stl (lb j) T2) (x / 4) (x % 4) + 1 := by
        rw [gn_P, gn_P, if_pos hit.1, if_pos hit.1, tu_a1 hit.2 he, tu_a0 hit.2]
      rw [this]
      rfl
    · rw [eTb_miss, h1, bqM, if_pos h]
      · have : gnM D (pst D s stl (lb (j + 1)) T2) (x / 4) (x % 4) = gnM D (pst D s stl (lb j) T2) (x / 4) (x % 4) := by
          rw [gn_P, gn_P]
          by_cases e : x % 4 = D.ex (x / 4)
          · rw [if_pos e, if_pos e, tu_eq (fun z => hit ⟨e, z⟩)]
          · rw [if_neg e, if_neg e]
        rw [this]
        rfl
      · intro i hi hl e
        have h2 := hexs i hi hl
        have ec : x / 4 = gi (inL D j) i := by omega
        apply hit
        rw [ec]
        exact ⟨by omega, h2.2.1⟩
  · rw [eTb_miss, aB_no hD h, bq_no h]
    intro i hi hl e
    have h2 := hexs i hi hl
    have ec : x / 4 = gi (inL D j) i := by omega
    apply h
    rw [ec]
    exact ⟨h2.1, by omega⟩
end S11
