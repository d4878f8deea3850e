/-! what fires in the reference's pass: the first time what the tick says, the second time nothing -/
section S32
variable {D : DZ} {s : MS} {t : TS} {stl : Int32} {A G H : Nat → Bool} {B : Nat → Nat → Bool}
/-- a block that is not ready -/
theorem f_rdN (hD : DW D) {j : Nat} (h : rdM D s j = false) : rdM D (pqM D s stl A G H B) j = false ∨ s.T < rdR D (ftM s t stl) j (tuP D s stl A j) := by
  cases h1 : rdM D (pqM D s stl A G H B) j
  · left; rfl
  · right
    refine Nat.lt_of_not_le (fun hle => ?_)
    have := (ti_rdn hD h1 hle).2
    rw [h] at this
    cases this
theorem gaQ_y {c : Nat} (hG : G c = true) (h : geM D s stl (D.fm c) c = true) : gaQ D s stl G c = s.ga c + 1 := by
  rw [gaQ, hG, h]
  simp
theorem gaQ_n {c : Nat} (h : G c = false ∨ geM D s stl (D.fm c) c = false) : gaQ D s stl G c = s.ga c := by
  rw [gaQ]
  rcases h with h | h <;> simp [h]
theorem ouQ_y {p : Nat} (hG : H p = true) (h : geM D s stl (D.ofm p) (20 + p) = true) : ouQ D s stl H p = s.ou p + 1 := by
  rw [ouQ, hG, h]
  simp
theorem ouQ_n {p : Nat} (h : H p = false ∨ geM D s stl (D.ofm p) (20 + p) = false) : ouQ D s stl H p = s.ou p := by
  rw [ouQ]
  rcases h with h | h <;> simp [h]
theorem f_gvY (hD : DW D) (hM : MI D s) (hI : TI D s t) {c : Nat} (hc : c < D.nc) (hA : tuP D s stl A (D.fm c) = s.tu (D.fm c)) (hg : geM D s stl (D.fm c) c = true) : s.ga c = s.tu (D.fm c) ∧ s.tu (D.fm c) ≤ gnM D (pqM D s stl A G H B) c 0 ∧ gvA D (ftM s t stl) (rdR D (ftM s t stl) (D.fm c) (s.tu (D.fm c))) c (s.tu (D.fm c)) = s.T ∧ (ftM s t stl).gt c (s.tu (D.fm c)) = s.T := by
  obtain ⟨hr, h2, h3⟩ := (ge_chN hD hc).mp hg
  have hm := hM.ga c hc
  have hnb := (hD.ch c hc).1
  have e : s.ga c = s.tu (D.fm c) := by omega
  have hR := (ti_rdo (t := t) (A := A) (G := G) (H := H) (B := B) hD hr hA).2
  have hRT := rd_T hD hI hnb hr
  have hb1 := hI.b1 c hc hr h2 (by omega)
  refine ⟨e, ?_, ?_, ?_⟩
  · by_cases e0 : s.tu (D.fm c) = 0
    · omega
    · have := (ti_gno (t := t) (stl := stl) (A := A) (G := G) (H := H) (B := B) (D := D) (s := s) (c := c) (b := 0) (k := s.tu (D.fm c) - 1) (by omega)).1
      omega
  · rw [hR]
    unfold gvA at hb1 ⊢
    by_cases e0 : s.tu (D.fm c) = 0
    · rw [if_pos e0] at hb1 ⊢
      omega
    · rw [if_neg e0] at hb1 ⊢
      have q1 := (ti_gno (t := t) (stl := stl) (A := A) (G := G) (H := H) (B := B) (D := D) (s := s) (c := c) (b := 0) (k := s.tu (D.fm c) - 1) (by omega)).2
      have q2 := gn_T hD hI hc (Nat.zero_le _) (k := s.tu (D.fm c) - 1) (by omega)
      rw [q1]
      omega
  · rw [gtF, if_pos e.symm]
theorem f_gvN (hD : DW D) (hM : MI D s) {c : Nat} (hc : c < D.nc) (hr : rdM D s (D.fm c) = true) (hg : geM D s stl (D.fm c) c = false) : ¬ (gaQ D s stl G c ≤ s.tu (D.fm c) ∧ s.tu (D.fm c) ≤ gnM D (pqM D s stl A G H B) c 0 ∧ gvA D (ftM s t stl) (rdR D (ftM s t stl) (D.fm c) (s.tu (D.fm c))) c (s.tu (D.fm c)) ≤ s.T) := by
  rintro ⟨h1, h2, h3⟩
  have hm := hM.ga c hc
  rw [gaQ_n (Or.inr hg)] at h1
  have room : s.ga c ≤ gnM D s c 0 := by
    by_cases e0 : s.tu (D.fm c) = 0
    · omega
    · rw [gvA, if_neg e0] at h3
      have := ti_gnn (t := t) (stl := stl) (A := A) (G := G) (H := H) (B := B) (D := D) (s := s) (c := c) (b := 0) (k := s.tu (D.fm c) - 1) (by omega) (by omega)
      omega
  have := (ge_chN (stl := stl) hD hc).mpr ⟨hr, h1, room⟩
  rw [hg] at this
  cases this
theorem f_otY (hD : DW D) (hM : MI D s) (hI : TI D s t) {p : Nat} (hp : p < D.no) (hA : tuP D s stl A (D.ofm p) = s.tu (D.ofm p)) (hg : geM D s stl (D.ofm p) (20 + p) = true) : s.ou p = s.tu (D.ofm p) ∧ rdR D (ftM s t stl) (D.ofm p) (s.tu (D.ofm p)) ≤ s.T ∧ (∀ q, rdR D (ftM s t stl) (D.ofm p) (s.tu (D.ofm p)) ≤ q → q < s.T → bt ((ftM s t stl).sl q) p = true) ∧ bt ((ftM s t stl).sl s.T) p = false := by
  obtain ⟨hr, h2, h3⟩ := ge_otN.mp hg
  have hm := hM.ou p hp
  have hnb := hD.ot p hp
  have hR := (ti_rdo (t := t) (A := A) (G := nA) (H := nA) (B := T2) hD hr hA).2
  have hRT := rd_T hD hI hnb hr
  rw [hR]
  refine ⟨by omega, hRT, fun q h4 h5 => ?_, ?_⟩
  · rw [slF, if_neg (by omega)]
    exact hI.b2 p hp hr h2 q h4 h5
  · rw [slF, if_pos rfl]
    exact h3
theorem f_otN (hD : DW D) (hI : TI D s t) {p : Nat} (hp : p < D.no) (hr : rdM D s (D.ofm p) = true) (hA : tuP D s stl A (D.ofm p) = s.tu (D.ofm p)) (hg : geM D s stl (D.ofm p) (20 + p) = false) : s.tu (D.ofm p) < ouQ D s stl H p ∨ ∀ q, rdR D (ftM s t stl) (D.ofm p) (s.tu (D.ofm p)) ≤ q → q ≤ s.T → bt ((ftM s t stl).sl q) p = true := by
  rw [ouQ_n (Or.inr hg)]
  by_cases h2 : s.tu (D.ofm p) < s.ou p
  · left; exact h2
  · right
    intro q h4 h5
    rw [(ti_rdo (t := t) (A := A) (G := nA) (H := nA) (B := T2) hD hr hA).2] at h4
    rw [slF]
    by_cases e : q = s.T
    · rw [if_pos e]
      cases hb : bt stl p
      · have := ge_otN.mpr ⟨hr, by omega, hb⟩
        rw [hg] at this
        cases this
      · rfl
    · rw [if_neg e]
      exact hI.b2 p hp hr (by omega) q h4 (by omega)
theorem mv_iff {c b : Nat} (hb : b < D.ex c) : mvM D s c b = true ↔ s.le c b < cmM s c b ∧ s.le c b < gnM D s c (b + 1) + 2 := by
  rw [mvM, decide_eq_true hb, gnM, if_neg (by omega), cm_S]
  simp
theorem f_mvY (hD : DW D) (hI : TI D s t) {c b : Nat} (hc : c < D.nc) (h : mvM D s c b = true) : s.le c b < cmM (pqM D s stl A G H B) c b ∧ s.le c b < gnM D (pqM D s stl A G H B) c (b + 1) + 2 ∧ mvA D (ftM s t stl) c b (s.le c b) = s.T ∧ (ftM s t stl).lv c b (s.le c b) = s.T := by
  have hb := (mv_lt h).1
  obtain ⟨h1, h2⟩ := (mv_iff hb).mp h
  have q1 := ti_cmo (t := t) (stl := stl) (A := A) (G := G) (H := H) (B := B) (D := D) h1
  have q2 := cm_T hI hc (by omega) h1
  have q3 := hI.c c hc b h
  refine ⟨q1.1, ?_, ?_, ?_⟩
  · by_cases e : s.le c b ≤ 1
    · omega
    · have := (ti_gno (t := t) (stl := stl) (A := A) (G := G) (H := H) (B := B) (D := D) (s := s) (c := c) (b := b + 1) (k := s.le c b - 2) (by omega)).1
      omega
  · have hlv : (if s.le c b = 0 then 0 else (ftM s t stl).lv c b (s.le c b - 1) + 1) = (if s.le c b = 0 then 0 else t.lv c b (s.le c b - 1) + 1) ∧ (if s.le c b = 0 then 0 else t.lv c b (s.le c b - 1) + 1) ≤ s.T := by
      by_cases e : s.le c b = 0
      · rw [if_pos e, if_pos e]
        exact ⟨rfl, by omega⟩
      · rw [if_neg e, if_neg e, lvF, if_neg (by omega)]
        have := hI.lv c hc b hb (s.le c b - 1) (by omega)
        exact ⟨rfl, this⟩
    have hgo : (if s.le c b ≤ 1 then 0 else goA D (ftM s t stl) c (b + 1) (s.le c b - 2) + 1) = (if s.le c b ≤ 1 then 0 else goA D t c (b + 1) (s.le c b - 2) + 1) ∧ (if s.le c b ≤ 1 then 0 else goA D t c (b + 1) (s.le c b - 2) + 1) ≤ s.T := by
      by_cases e : s.le c b ≤ 1
      · rw [if_pos e, if_pos e]
        exact ⟨rfl, by omega⟩
      · rw [if_neg e, if_neg e, (ti_gno (t := t) (stl := stl) (A := A) (G := G) (H := H) (B := B) (D := D) (s := s) (c := c) (b := b + 1) (k := s.le c b - 2) (by omega)).2]
        have := gn_T hD hI hc (b := b + 1) (by omega) (k := s.le c b - 2) (by omega)
        exact ⟨rfl, this⟩
    rw [mvA, q1.2, hlv.1, hgo.1]
    unfold mvA at q3
    have := hlv.2
    have := hgo.2
    omega
  · rw [lvF, if_pos rfl]
theorem f_mvN {c b : Nat} (hb : b < D.ex c) (h : mvM D s c b = false) : ¬ (s.le c b < cmM (pqM D s stl A G H B) c b ∧ s.le c b < gnM D (pqM D s stl A G H B) c (b + 1) + 2 ∧ mvA D (ftM s t stl) c b (s.le c b) ≤ s.T) := by
  rintro ⟨h1, h2, h3⟩
  have g1 : s.le c b < cmM s c b := ti_cmn (t := t) h1 (by unfold mvA at h3; omega)
  have g2 : s.le c b < gnM D s c (b + 1) + 2 := by
    by_cases e1 : s.le c b ≤ 1
    · omega
    · rw [mvA, if_neg e1] at h3
      have := ti_gnn (t := t) (stl := stl) (A := A) (G := G) (H := H) (B := B) (D := D) (s := s) (c := c) (b := b + 1) (k := s.le c b - 2) (by omega) (by omega)
      omega
  have := (mv_iff hb).mpr ⟨g1, g2⟩
  rw [h] at this
  cases this
/-- what is made is made of old tokens -/
theorem ti_va (hD : DW D) (hM : MI D s) {j : Nat} (hr : rdM D s j = true) (hA : tuP D s stl A j = s.tu j) : vaM D (pqM D s stl A G H B) j = vaM D s j := by
  have h20 := hD.nc
  unfold vaM
  rw [← fo_foldl, ← fo_foldl]
  apply fo_congr
  intro q i hi
  have hx := gi_mem hi
  have e : svM (pqM D s stl A G H B) j (gi (inL D j) i) = svM s j (gi (inL D j) i) := by
    rcases (inL_mem hD).mp hx with ⟨k1, k2⟩ | ⟨k0, k1, k2⟩
    · have h1 := ((rd_iff hD).mp hr).1 _ k1 k2
      have h2 := cm_le hM k1 _ (Nat.le_refl _)
      rw [svM, svM, if_pos (by omega), if_pos (by omega)]
      show tokP D s _ (tuP D s stl A j) = _
      rw [hA, tokP, if_neg (by omega)]
    · rw [svM, svM, if_neg (by omega), if_neg (by omega)]
      show s.ofv _ (tuP D s stl A j) = _
      rw [hA]
  rw [e]
end S32
