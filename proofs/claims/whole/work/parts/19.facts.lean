/-! the tick's parts: what the counts do -/
def nA : Nat → Bool := fun _ => false
def Bm (c b : Nat) : Nat → Nat → Bool := fun c' b' => decide (c' < c ∨ (c' = c ∧ b' < b))
def bqM (D : DZ) (s : MS) (b : Nat) : List Int32 := if b / 4 < D.nc ∧ b % 4 ≤ D.ex (b / 4) then wn (s.tok (b / 4)) (gnM D s (b / 4) (b % 4)) (cmM s (b / 4) (b % 4)) else []
section S9
variable {D : DZ} {s : MS} {stl : Int32}
theorem bq_at {s : MS} (hD : DW D) {c b : Nat} (h : c < D.nc) (hb : b ≤ D.ex c) : bqM D s (c * 4 + b) = wn (s.tok c) (gnM D s c b) (cmM s c b) := by
  have h3 := (hD.ch c h).2.2
  have e1 : (c * 4 + b) / 4 = c := by omega
  have e2 : (c * 4 + b) % 4 = b := by omega
  rw [bqM, e1, e2, if_pos ⟨h, hb⟩]
theorem bq_no {s : MS} {x : Nat} (h : ¬ (x / 4 < D.nc ∧ x % 4 ≤ D.ex (x / 4))) : bqM D s x = [] := by rw [bqM, if_neg h]
theorem in_ch (hD : DW D) {c : Nat} (h : c < D.nc) : c ∈ inL D (D.to c) := (inL_mem hD).mpr (Or.inl ⟨h, rfl⟩)
theorem in_ip (hD : DW D) {p : Nat} (h : p < D.ni) : 20 + p ∈ inL D (D.ito p) := (inL_mem hD).mpr (Or.inr ⟨by omega, by omega, by rw [show 20 + p - 20 = p by omega]⟩)
theorem br_ch (hD : DW D) {c : Nat} (h : c < D.nc) : c ∈ brL D (D.fm c) := (brL_mem hD).mpr (Or.inl ⟨h, rfl⟩)
theorem br_ot (hD : DW D) {p : Nat} (h : p < D.no) : 20 + p ∈ brL D (D.ofm p) := (brL_mem hD).mpr (Or.inr ⟨by omega, by omega, by rw [show 20 + p - 20 = p by omega]⟩)
theorem rd_ch (hD : DW D) {c : Nat} (h : c < D.nc) (hr : rdM D s (D.to c) = true) : gnM D s c (D.ex c) < cmM s c (D.ex c) := by
  have h1 := List.all_eq_true.mp hr c (in_ch hD h)
  have := hD.nc
  rw [thM, if_pos (by omega)] at h1
  exact of_decide_eq_true h1
theorem rd_ip (hD : DW D) {p : Nat} (h : p < D.ni) (hr : rdM D s (D.ito p) = true) : s.tu (D.ito p) < s.off p := by
  have h1 := List.all_eq_true.mp hr _ (in_ip hD h)
  rw [thM, if_neg (by omega), show 20 + p - 20 = p by omega] at h1
  exact of_decide_eq_true h1
theorem en_rd {j : Nat} (h : enM D s stl j = true) : rdM D s j = true := (Bool.and_eq_true_iff.mp h).1
theorem ge_rd {j x : Nat} (h : geM D s stl j x = true) : rdM D s j = true := (Bool.and_eq_true_iff.mp h).1
theorem ge_ng {j x : Nat} (h : geM D s stl j x = true) : goM s j x = false := by
  have := (Bool.and_eq_true_iff.mp (Bool.and_eq_true_iff.mp h).2).1
  simpa using this
theorem ge_ca {j x : Nat} (h : geM D s stl j x = true) : caM D s stl x = true := (Bool.and_eq_true_iff.mp (Bool.and_eq_true_iff.mp h).2).2
theorem cm_le (hM : MI D s) {c : Nat} (h : c < D.nc) : ∀ b, b ≤ D.ex c → cmM s c b ≤ s.ga c + 1
  | 0, _ => by simp [cmM]
  | b + 1, hb => by
    have h1 := cm_le hM h b (by omega)
    have h2 := (hM.bf c h b (by omega)).1
    rw [gnM, if_neg (by omega)] at h2
    have e : cmM s c (b + 1) = s.le c b := by simp [cmM]
    omega
variable {A : Nat → Bool} {B : Nat → Nat → Bool}
theorem gn_P {c b : Nat} : gnM D (pst D s stl A B) c b = if b = D.ex c then tuP D s stl A (D.to c) else leP D s B c b := rfl
theorem cm_P0 {c : Nat} : cmM (pst D s stl A B) c 0 = gaP D s stl A c + 1 := rfl
theorem cm_PS {c b : Nat} : cmM (pst D s stl A B) c (b + 1) = leP D s B c b := rfl
theorem cm_S {c b : Nat} : cmM s c (b + 1) = s.le c b := rfl
theorem cm_0 {c : Nat} : cmM s c 0 = s.ga c + 1 := rfl
theorem mv_lt {c b : Nat} (h : mvM D s c b = true) : b < D.ex c ∧ gnM D s c b < cmM s c b ∧ cmM s c (b + 1) < gnM D s c (b + 1) + 2 := by
  simp only [mvM, Bool.and_eq_true, decide_eq_true_eq] at h
  exact ⟨h.1, h.2.1, h.2.2⟩
theorem le_ge {c b : Nat} : s.le c b ≤ leP D s B c b := by
  unfold leP
  split <;> omega
theorem ga_ge {c : Nat} : s.ga c ≤ gaP D s stl A c := by
  unfold gaP
  split <;> omega
theorem tu_ge {j : Nat} : s.tu j ≤ tuP D s stl A j := by
  unfold tuP
  split <;> omega
theorem gn_ge {c b : Nat} : gnM D s c b ≤ gnM D (pst D s stl A B) c b := by
  rw [gn_P, gnM]
  split
  · exact tu_ge
  · exact le_ge
theorem cm_ge {c : Nat} : ∀ {b : Nat}, cmM s c b ≤ cmM (pst D s stl A B) c b
  | 0 => Nat.succ_le_succ ga_ge
  | _ + 1 => le_ge
theorem gn_le (hD : DW D) (hM : MI D s) {c b : Nat} (h : c < D.nc) (hb : b ≤ D.ex c) : gnM D (pst D s stl A B) c b ≤ cmM s c b := by
  have h1 := (hM.bf c h b hb).1
  rw [gn_P]
  by_cases e : b = D.ex c
  · rw [if_pos e]
    subst e
    rw [gnM, if_pos rfl] at h1
    unfold tuP
    by_cases hh : (A (D.to c) && enM D s stl (D.to c)) = true
    · rw [if_pos hh]
      have h2 := rd_ch hD h (en_rd (Bool.and_eq_true_iff.mp hh).2)
      rw [gnM, if_pos rfl] at h2
      omega
    · rw [if_neg hh]
      exact h1
  · rw [if_neg e]
    rw [gnM, if_neg e] at h1
    unfold leP
    by_cases hh : (B c b && mvM D s c b) = true
    · rw [if_pos hh]
      have h2 := (mv_lt (Bool.and_eq_true_iff.mp hh).2).2.1
      rw [gnM, if_neg e] at h2
      omega
    · rw [if_neg hh]
      exact h1
theorem cm_le2 (hD : DW D) (hM : MI D s) {c : Nat} (h : c < D.nc) : ∀ {b : Nat}, b ≤ D.ex c → cmM (pst D s stl A B) c b ≤ gnM D s c b + 2
  | 0, hb => by
    have h1 := (hM.bf c h 0 hb).2
    have h20 := hD.nc
    rw [cm_P0]
    rw [cm_0] at h1
    unfold gaP
    by_cases hh : (A (D.fm c) && geM D s stl (D.fm c) c) = true
    · rw [if_pos hh]
      have h2 := ge_ca (Bool.and_eq_true_iff.mp hh).2
      rw [caM, if_pos (by omega)] at h2
      have h3 := of_decide_eq_true h2
      rw [cm_0] at h3
      omega
    · rw [if_neg hh]
      exact h1
  | b + 1, hb => by
    have h1 := (hM.bf c h (b + 1) hb).2
    rw [cm_PS]
    rw [cm_S] at h1
    unfold leP
    by_cases hh : (B c b && mvM D s c b) = true
    · rw [if_pos hh]
      have h2 := (mv_lt (Bool.and_eq_true_iff.mp hh).2).2.2
      rw [cm_S] at h2
      omega
    · rw [if_neg hh]
      exact h1
theorem ga_ng (hM : MI D s) (hD : DW D) {c : Nat} (h : c < D.nc) (hg : goM s (D.fm c) c = false) : s.ga c = s.tu (D.fm c) := by
  have h1 := hM.ga c h
  have h20 := hD.nc
  rw [goM, if_pos (by omega)] at hg
  have := of_decide_eq_false hg
  omega
theorem ou_ng (hM : MI D s) {p : Nat} (h : p < D.no) (hg : goM s (D.ofm p) (20 + p) = false) : s.ou p = s.tu (D.ofm p) := by
  have h1 := hM.ou p h
  rw [goM, if_neg (by omega), show 20 + p - 20 = p by omega] at hg
  have := of_decide_eq_false hg
  omega
theorem MI_step (hD : DW D) (hM : MI D s) (hT : s.T < 1000) : MI D (stepM D s stl) := by
  refine MI.mk (show s.T + 1 ≤ 1000 by omega) ?_ ?_ ?_ ?_ ?_
  · intro j hj
    have := hM.tu j hj
    show tuP D s stl (lb D.nb) j ≤ s.T + 1
    unfold tuP
    split <;> omega
  · intro c hc
    have h1 := hM.ga c hc
    have h20 := hD.nc
    show tuP D s stl (lb D.nb) (D.fm c) ≤ gaP D s stl (lb D.nb) c ∧ gaP D s stl (lb D.nb) c ≤ tuP D s stl (lb D.nb) (D.fm c) + 1
    unfold tuP gaP
    rw [show lb D.nb (D.fm c) = true from decide_eq_true (hD.ch c hc).1]
    simp only [Bool.true_and]
    cases hg : geM D s stl (D.fm c) c
    · cases he : enM D s stl (D.fm c)
      · simp; exact h1
      · have h2 := List.all_eq_true.mp (Bool.and_eq_true_iff.mp he).2 c (br_ch hD hc)
        rw [hg, Bool.or_false, goM, if_pos (by omega)] at h2
        have := of_decide_eq_true h2
        simp
        omega
    · have h3 := ga_ng hM hD hc (ge_ng hg)
      cases he : enM D s stl (D.fm c) <;> simp <;> omega
  · intro p hp
    have h1 := hM.ou p hp
    show tuP D s stl (lb D.nb) (D.ofm p) ≤ ouP D s stl (lb D.nb) p ∧ ouP D s stl (lb D.nb) p ≤ tuP D s stl (lb D.nb) (D.ofm p) + 1
    unfold tuP ouP
    rw [show lb D.nb (D.ofm p) = true from decide_eq_true (hD.ot p hp)]
    simp only [Bool.true_and]
    cases hg : geM D s stl (D.ofm p) (20 + p)
    · cases he : enM D s stl (D.ofm p)
      · simp; exact h1
      · have h2 := List.all_eq_true.mp (Bool.and_eq_true_iff.mp he).2 _ (br_ot hD hp)
        rw [hg, Bool.or_false, goM, if_neg (by omega), show 20 + p - 20 = p by omega] at h2
        have := of_decide_eq_true h2
        simp
        omega
    · have h3 := ou_ng hM hp (ge_ng hg)
      cases he : enM D s stl (D.ofm p) <;> simp <;> omega
  · intro p hp
    have h1 := hM.off p hp
    show tuP D s stl (lb D.nb) (D.ito p) ≤ s.off p ∧ s.off p ≤ tuP D s stl (lb D.nb) (D.ito p) + 1
    unfold tuP
    rw [show lb D.nb (D.ito p) = true from decide_eq_true (hD.ip p hp)]
    simp only [Bool.true_and]
    cases he : enM D s stl (D.ito p)
    · simp; exact h1
    · have h2 := rd_ip hD hp (en_rd he)
      simp
      omega
  · intro c hc b hb
    have h1 := gn_le (stl := stl) (A := lb D.nb) (B := T2) hD hM hc hb
    have h2 := cm_le2 (stl := stl) (A := lb D.nb) (B := T2) hD hM hc hb
    have h3 := gn_ge (D := D) (s := s) (stl := stl) (A := lb D.nb) (B := T2) (c := c) (b := b)
    have h4 := cm_ge (D := D) (s := s) (stl := stl) (A := lb D.nb) (B := T2) (c := c) (b := b)
    show gnM D (pst D s stl (lb D.nb) T2) c b ≤ cmM (pst D s stl (lb D.nb) T2) c b ∧ cmM (pst D s stl (lb D.nb) T2) c b ≤ gnM D (pst D s stl (lb D.nb) T2) c b + 2
    omega
theorem bq_len (hD : DW D) (hM : MI D s) (x : Nat) : (bqM D s x).length ≤ 2 := by
  rw [bqM]
  split
  · rename_i h
    rw [wn_len]
    have := hM.bf _ h.1 _ h.2
    omega
  · simp
/-- before anything has moved -/
theorem bq_P0 (hM : MI D s) : bqM D (pst D s stl nA (Bm 0 0)) = bqM D s := by
  funext x
  rw [bqM, bqM]
  split
  · rename_i h
    have e1 : gnM D (pst D s stl nA (Bm 0 0)) (x / 4) (x % 4) = gnM D s (x / 4) (x % 4) := by
      rw [gn_P, gnM]
      simp [tuP, nA, leP, Bm]
    have e2 : cmM (pst D s stl nA (Bm 0 0)) (x / 4) (x % 4) = cmM s (x / 4) (x % 4) := by
      cases x % 4 with
      | zero => rw [cm_P0, cm_0]; simp [gaP, nA]
      | succ b => rw [cm_PS, cm_S]; simp [leP, Bm]
    rw [e1, e2]
    apply wn_congr
    intro k h1 h2
    have h3 := cm_le hM h.1 _ h.2
    show tokP D s (x / 4) k = s.tok (x / 4) k
    rw [tokP, if_neg (by omega)]
  · rfl
theorem Bm_le {c b c' b' : Nat} (h : ¬ (c' = c ∧ b' = b)) : leP D s (Bm c (b + 1)) c' b' = leP D s (Bm c b) c' b' := by
  unfold leP
  have : Bm c (b + 1) c' b' = Bm c b c' b' := by
    unfold Bm
    by_cases h1 : c' < c ∨ (c' = c ∧ b' < b)
    · rw [decide_eq_true h1, decide_eq_true (by omega)]
    · rw [decide_eq_false h1, decide_eq_false (by omega)]
  rw [this]
theorem Bm_at {c b : Nat} : leP D s (Bm c b) c b = s.le c b := by
  unfold leP Bm
  rw [decide_eq_false (by omega)]
  simp
theorem Bm_up {c b : Nat} (h : mvM D s c b = true) : leP D s (Bm c (b + 1)) c b = s.le c b + 1 := by
  unfold leP Bm
  rw [decide_eq_true (by omega), h]
  simp
theorem Bm_no {c b : Nat} (h : mvM D s c b = false) (c' b' : Nat) : leP D s (Bm c (b + 1)) c' b' = leP D s (Bm c b) c' b' := by
  by_cases e : c' = c ∧ b' = b
  · obtain ⟨rfl, rfl⟩ := e
    unfold leP
    rw [h]
    simp
  · exact Bm_le e
theorem Bm_end {c : Nat} (c' b' : Nat) : leP D s (Bm (c + 1) 0) c' b' = leP D s (Bm c (D.ex c)) c' b' := by
  unfold leP
  by_cases hm : mvM D s c' b' = true
  · have hb := (mv_lt hm).1
    have : Bm (c + 1) 0 c' b' = Bm c (D.ex c) c' b' := by
      unfold Bm
      by_cases h1 : c' < c + 1
      · rw [decide_eq_true (by omega), decide_eq_true]
        by_cases e : c' = c
        · subst e; omega
        · omega
      · rw [decide_eq_false (by omega), decide_eq_false (by omega)]
    rw [this]
  · simp [hm]
/-- a buffer's front token goes on -/
theorem bq_mv (hD : DW D) (hM : MI D s) {c b : Nat} (hc : c < D.nc) (h : mvM D s c b = true) : bqM D (pst D s stl nA (Bm c (b + 1))) = ra_fu (ra_fu (bqM D (pst D s stl nA (Bm c b))) (c * 4 + b + 1) (bqM D (pst D s stl nA (Bm c b)) (c * 4 + b + 1) ++ [(bqM D (pst D s stl nA (Bm c b)) (c * 4 + b)).headD 0])) (c * 4 + b) (bqM D (pst D s stl nA (Bm c b)) (c * 4 + b)).tail := by
  have hm := mv_lt h
  have h3 := (hD.ch c hc).2.2
  have g1 : gnM D (pst D s stl nA (Bm c b)) c b = s.le c b := by rw [gn_P, if_neg (by omega), Bm_at]
  have g2 : gnM D (pst D s stl nA (Bm c (b + 1))) c b = s.le c b + 1 := by rw [gn_P, if_neg (by omega), Bm_up h]
  have c1 : cmM (pst D s stl nA (Bm c b)) c (b + 1) = s.le c b := by rw [cm_PS, Bm_at]
  have c2 : cmM (pst D s stl nA (Bm c (b + 1))) c (b + 1) = s.le c b + 1 := by rw [cm_PS, Bm_up h]
  have hlt : s.le c b < cmM (pst D s stl nA (Bm c b)) c b := by
    have := cm_ge (D := D) (s := s) (stl := stl) (A := nA) (B := Bm c b) (c := c) (b := b)
    have h4 := hm.2.1
    rw [gnM, if_neg (by omega)] at h4
    omega
  have hle : gnM D (pst D s stl nA (Bm c b)) c (b + 1) ≤ s.le c b := gn_le (stl := stl) (A := nA) (B := Bm c b) hD hM hc (b := b + 1) (by omega)
  funext x
  by_cases e1 : x = c * 4 + b
  · subst e1
    rw [ra_fu, if_pos rfl, bq_at hD hc (by omega), bq_at hD hc (by omega), wn_tl, g1, g2]
    congr 1
    cases b with
    | zero => rfl
    | succ b => rw [cm_PS, cm_PS, Bm_le (by omega)]
  · rw [ra_fu, if_neg e1]
    by_cases e2 : x = c * 4 + b + 1
    · subst e2
      rw [ra_fu, if_pos rfl, show c * 4 + b + 1 = c * 4 + (b + 1) by omega, bq_at hD hc (by omega), bq_at hD hc (by omega), bq_at hD hc (by omega), c1, c2, g1, wn_hd hlt]
      have e3 : gnM D (pst D s stl nA (Bm c (b + 1))) c (b + 1) = gnM D (pst D s stl nA (Bm c b)) c (b + 1) := by
        rw [gn_P, gn_P]
        split
        · rfl
        · rw [Bm_le (by omega)]
      rw [e3, wn_app hle]
      rfl
    · rw [ra_fu, if_neg e2, bqM, bqM]
      split
      · rename_i hh
        have e3 : gnM D (pst D s stl nA (Bm c (b + 1))) (x / 4) (x % 4) = gnM D (pst D s stl nA (Bm c b)) (x / 4) (x % 4) := by
          rw [gn_P, gn_P]
          split
          · rfl
          · rw [Bm_le (by omega)]
        have e4 : cmM (pst D s stl nA (Bm c (b + 1))) (x / 4) (x % 4) = cmM (pst D s stl nA (Bm c b)) (x / 4) (x % 4) := by
          have h5 : ∀ r, x % 4 = r → cmM (pst D s stl nA (Bm c (b + 1))) (x / 4) r = cmM (pst D s stl nA (Bm c b)) (x / 4) r := by
            intro r hr
            cases r with
            | zero => rfl
            | succ r => rw [cm_PS, cm_PS, Bm_le (by omega)]
          exact h5 _ rfl
        rw [e3, e4]
        rfl
      · rfl
theorem pst_le {B' : Nat → Nat → Bool} (h : ∀ c b, leP D s B c b = leP D s B' c b) : pst D s stl A B = pst D s stl A B' := by
  have : leP D s B = leP D s B' := funext (fun c => funext (fun b => h c b))
  unfold pst
  rw [this]
end S9
