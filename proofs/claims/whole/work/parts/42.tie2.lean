/-! the invariant of the times goes over a tick -/
def G0 (D : DZ) : Nat → Bool := fun c => lb D.nb (D.fm c)
def H0 (D : DZ) : Nat → Bool := fun p => lb D.nb (D.ofm p)
section S31
variable {D : DZ} {s : MS} {t : TS} {stl : Int32}
theorem ti_ch (hD : DW D) (hM : MI D s) {A G H : Nat → Bool} {B : Nat → Nat → Bool} {c : Nat} (hc : c < D.nc) (hG : G c = true) (h1 : rdM D (pqM D s stl A G H B) (D.fm c) = true) (h2 : gaQ D s stl G c ≤ tuP D s stl A (D.fm c)) (h3 : tuP D s stl A (D.fm c) ≤ gnM D (pqM D s stl A G H B) c 0) : s.T + 1 ≤ gvA D (ftM s t stl) (rdR D (ftM s t stl) (D.fm c) (tuP D s stl A (D.fm c))) c (tuP D s stl A (D.fm c)) := by
  refine Nat.lt_of_not_le (fun hle => ?_)
  have hR : rdR D (ftM s t stl) (D.fm c) (tuP D s stl A (D.fm c)) ≤ s.T := by
    unfold gvA at hle
    split at hle <;> omega
  obtain ⟨e, hr⟩ := ti_rdn hD h1 hR
  rw [e] at h2 h3 hle
  have hb := gaQ_b (D := D) (s := s) (stl := stl) (G := G) (c := c)
  have hm := hM.ga c hc
  have room : s.ga c ≤ gnM D s c 0 := by
    by_cases e0 : s.tu (D.fm c) = 0
    · omega
    · rw [gvA, if_neg e0] at hle
      have := ti_gnn (t := t) (stl := stl) (A := A) (G := G) (H := H) (B := B) (D := D) (s := s) (c := c) (b := 0) (k := s.tu (D.fm c) - 1) (by omega) (by omega)
      omega
  have hg : geM D s stl (D.fm c) c = true := (ge_chN hD hc).mpr ⟨hr, by omega, room⟩
  have : gaQ D s stl G c = s.ga c + 1 := by
    rw [gaQ, hG, hg]
    simp
  omega
theorem TI_step (hD : DW D) (hM : MI D s) (hI : TI D s t) : TI D (stepM D s stl) (ftM s t stl) := by
  have eA : ∀ j, j < D.nb → lb D.nb j = true := fun j hj => decide_eq_true hj
  refine TI.mk ?_ ?_ ?_ ?_ ?_ ?_ ?_ ?_ ?_
  · intro c hc k hk
    show (if k = s.ga c then s.T else t.gt c k) < s.T + 1
    have h1 : k < gaQ D s stl (G0 D) c := hk
    have hb := gaQ_b (D := D) (s := s) (stl := stl) (G := G0 D) (c := c)
    split
    · omega
    · have := hI.gt c hc k (by omega)
      omega
  · intro c hc b hb k hk
    show (if k = s.le c b then s.T else t.lv c b k) < s.T + 1
    have h1 : k < leP D s T2 c b := hk
    have h2 := leP_b (D := D) (s := s) (B := T2) (c := c) (b := b)
    split
    · omega
    · have := hI.lv c hc b hb k (by omega)
      omega
  · intro j hj k hk
    show (if k = s.tu j then s.T else t.en j k) < s.T + 1
    have h1 : k < tuP D s stl (lb D.nb) j := hk
    have h2 := tuP_b (D := D) (s := s) (stl := stl) (A := lb D.nb) (j := j)
    split
    · omega
    · have := hI.en j hj k (by omega)
      omega
  · intro p hp k hk
    show (if k = s.ou p then s.T else s.ouT p k) < s.T + 1
    have h1 : k < ouQ D s stl (H0 D) p := hk
    have h2 := ouQ_b (D := D) (s := s) (stl := stl) (H := H0 D) (p := p)
    split
    · omega
    · have := hI.ot p hp k (by omega)
      omega
  · intro p hp k hk
    have := hI.of p hp k hk
    show t.oft p k ≤ s.T + 1
    omega
  · intro c hc h1 h2 h3
    exact ti_ch (A := lb D.nb) (G := G0 D) (H := H0 D) (B := T2) hD hM hc (eA _ (hD.ch c hc).1) h1 h2 h3
  · intro p hp h1 h2 q hq hq2
    have h1' : rdM D (pqM D s stl (lb D.nb) (G0 D) (H0 D) T2) (D.ofm p) = true := h1
    have h2' : ouQ D s stl (H0 D) p ≤ tuP D s stl (lb D.nb) (D.ofm p) := h2
    have hq' : rdR D (ftM s t stl) (D.ofm p) (tuP D s stl (lb D.nb) (D.ofm p)) ≤ q := hq
    have hq2' : q < s.T + 1 := hq2
    obtain ⟨e, hr⟩ := ti_rdn (t := t) hD h1' (by omega)
    have hb := ouQ_b (D := D) (s := s) (stl := stl) (H := H0 D) (p := p)
    rw [e] at h2' hq'
    rw [(ti_rdo (t := t) (A := lb D.nb) (G := G0 D) (H := H0 D) (B := T2) hD hr e).2] at hq'
    rw [slF]
    by_cases eq : q = s.T
    · rw [if_pos eq]
      cases hbt : bt stl p
      · have hg : geM D s stl (D.ofm p) (20 + p) = true := ge_otN.mpr ⟨hr, by omega, hbt⟩
        have : ouQ D s stl (H0 D) p = s.ou p + 1 := by
          rw [ouQ, show H0 D p = true from eA _ (hD.ot p hp), hg]
          simp
        have := hM.ou p hp
        omega
      · rfl
    · rw [if_neg eq]
      exact hI.b2 p hp hr (by omega) q hq' (by omega)
  · intro j hj h1 h2 h3
    have h1' : rdM D (pqM D s stl (lb D.nb) (G0 D) (H0 D) T2) j = true := h1
    show s.T + 1 ≤ rdR D (ftM s t stl) j (tuP D s stl (lb D.nb) j)
    refine Nat.lt_of_not_le (fun hle => ?_)
    obtain ⟨e, hr⟩ := ti_rdn hD h1' hle
    have he : enM D s stl j = true := by
      rw [en_iff hD]
      refine ⟨hr, fun c hc ec => ?_, fun p hp ep => ?_⟩
      · have h4 : tuP D s stl (lb D.nb) j < gaQ D s stl (G0 D) c := h2 c hc ec
        rw [e, gaQ, ec] at h4
        cases hg : geM D s stl j c
        · rw [hg] at h4
          left
          simpa using h4
        · right; rfl
      · have h4 : tuP D s stl (lb D.nb) j < ouQ D s stl (H0 D) p := h3 p hp ep
        rw [e, ouQ, ep] at h4
        cases hg : geM D s stl j (20 + p)
        · rw [hg] at h4
          left
          simpa using h4
        · right; rfl
    rw [tuP, eA j hj, he] at e
    simp at e
  · intro c hc b h
    have hm := mv_lt h
    show s.T + 1 ≤ mvA D (ftM s t stl) c b (leP D s T2 c b)
    refine Nat.lt_of_not_le (fun hle => ?_)
    have h1 : gnM D (pqM D s stl (lb D.nb) (G0 D) (H0 D) T2) c b < cmM (pqM D s stl (lb D.nb) (G0 D) (H0 D) T2) c b := hm.2.1
    have h2 : leP D s T2 c b < gnM D (pqM D s stl (lb D.nb) (G0 D) (H0 D) T2) c (b + 1) + 2 := hm.2.2
    rw [gnM, if_neg (by omega)] at h1
    have h1' : leP D s T2 c b < cmM (pqM D s stl (lb D.nb) (G0 D) (H0 D) T2) c b := h1
    have hb := leP_b (D := D) (s := s) (B := T2) (c := c) (b := b)
    have e : leP D s T2 c b = s.le c b := by
      by_cases e : leP D s T2 c b = s.le c b
      · exact e
      · have e2 : leP D s T2 c b = s.le c b + 1 := by omega
        rw [e2, mvA, if_neg (by omega : ¬ s.le c b + 1 = 0), lvF, show s.le c b + 1 - 1 = s.le c b by omega, if_pos rfl] at hle
        omega
    rw [e] at hle h1' h2
    have g1 : s.le c b < cmM s c b := ti_cmn (t := t) h1' (by unfold mvA at hle; omega)
    have g2 : s.le c b < gnM D s c (b + 1) + 2 := by
      by_cases e1 : s.le c b ≤ 1
      · omega
      · rw [mvA, if_neg e1] at hle
        have := ti_gnn (t := t) (stl := stl) (A := lb D.nb) (G := G0 D) (H := H0 D) (B := T2) (D := D) (s := s) (c := c) (b := b + 1) (k := s.le c b - 2) (by omega) (by omega)
        omega
    have hmv : mvM D s c b = true := by
      rw [mvM, decide_eq_true hm.1, gnM, if_neg (by omega), decide_eq_true g1, cm_S, decide_eq_true g2]
      rfl
    rw [leP, hmv] at e
    simp [T2] at e
theorem TI_ini : TI D (iniM D) (TS.mk (fun _ _ _ => 0) (fun _ _ => 0) (fun _ _ => 0) (fun _ _ => 0) (fun _ => 0)) := by
  refine TI.mk (fun c _ k hk => absurd hk (Nat.not_lt_zero _)) (fun c _ b _ k hk => absurd hk (Nat.not_lt_zero _)) (fun c _ k hk => absurd hk (Nat.not_lt_zero _)) (fun c _ k hk => absurd hk (Nat.not_lt_zero _)) (fun c _ k hk => absurd hk (Nat.not_lt_zero _)) (fun _ _ _ _ _ => Nat.zero_le _) (fun p _ _ _ q _ hq => absurd hq (Nat.not_lt_zero _)) (fun _ _ _ _ _ => Nat.zero_le _) (fun _ _ _ _ => Nat.zero_le _)
/-- an offer -/
def toM (s : MS) (t : TS) (p : Nat) : TS := TS.mk t.lv t.gt t.en (fun q k => if q = p ∧ k = s.off p then s.T else t.oft q k) t.sl
theorem TI_of (hD : DW D) {p : Nat} {v : Int32} (hI : TI D s t) (hp : p < D.ni) (hoff : s.off p = s.tu (D.ito p)) : TI D (ofM s p v) (toM s t p) := by
  have key : ∀ j, rdM D (ofM s p v) j = true → s.T ≤ rdR D (toM s t p) j (s.tu j) ∨ (rdM D s j = true ∧ rdR D (toM s t p) j (s.tu j) = rdR D t j (s.tu j)) := by
    intro j hr
    obtain ⟨b1, b2⟩ := (rd_iff hD).mp hr
    by_cases e : D.ito p = j
    · left
      have h3 := ((rdR_le (D := D) (t := toM s t p) (j := j) (k := s.tu j)).mp (Nat.le_refl _)).2.2 p hp e
      have h4 : (if p = p ∧ s.tu j = s.off p then s.T else t.oft p (s.tu j)) ≤ rdR D (toM s t p) j (s.tu j) := h3
      rw [if_pos ⟨rfl, by rw [hoff, e]⟩] at h4
      exact h4
    · right
      constructor
      · rw [rd_iff hD]
        refine ⟨b1, fun q hq eq => ?_⟩
        have h4 : s.tu j < (if q = p then s.off q + 1 else s.off q) := b2 q hq eq
        rw [if_neg (fun z : q = p => e (z ▸ eq))] at h4
        exact h4
      · apply rdR_eq
        · rfl
        · intro c hc ec; rfl
        · intro q hq eq
          show (if q = p ∧ s.tu j = s.off p then s.T else t.oft q (s.tu j)) = t.oft q (s.tu j)
          rw [if_neg (fun z : q = p ∧ s.tu j = s.off p => e (z.1 ▸ eq))]
  refine TI.mk hI.gt hI.lv hI.en hI.ot ?_ ?_ ?_ ?_ hI.c
  · intro q hq k hk
    show (if q = p ∧ k = s.off p then s.T else t.oft q k) ≤ s.T
    have h4 : k < (if q = p then s.off q + 1 else s.off q) := hk
    split
    · omega
    · refine hI.of q hq k ?_
      by_cases e : q = p
      · rw [if_pos e] at h4
        subst e
        omega
      · rw [if_neg e] at h4
        exact h4
  · intro c hc h1 h2 h3
    rcases key _ h1 with h | ⟨h, e⟩
    · have h' : s.T ≤ rdR D (toM s t p) (D.fm c) (s.tu (D.fm c)) := h
      show s.T ≤ gvA D (toM s t p) (rdR D (toM s t p) (D.fm c) (s.tu (D.fm c))) c (s.tu (D.fm c))
      unfold gvA
      split <;> omega
    · have := hI.b1 c hc h h2 h3
      show s.T ≤ gvA D (toM s t p) (rdR D (toM s t p) (D.fm c) (s.tu (D.fm c))) c (s.tu (D.fm c))
      rw [e]
      exact this
  · intro q hq h1 h2 x hx hx2
    rcases key _ h1 with h | ⟨h, e⟩
    · exact absurd (Nat.le_trans h hx) (Nat.not_le.mpr hx2)
    · refine hI.b2 q hq h h2 x ?_ hx2
      rw [← e]
      exact hx
  · intro j hj h1 h2 h3
    rcases key _ h1 with h | ⟨h, e⟩
    · exact h
    · have := hI.b3 j hj h h2 h3
      rw [← e] at this
      exact this
end S31
