/-! the pass tied to the tick -/
def gcj (D : DZ) (j : Nat) : Nat → Bool := fun c => lb j (D.fm c)
def hpj (D : DZ) (j : Nat) : Nat → Bool := fun p => lb j (D.ofm p)
def P0M (D : DZ) (s : MS) (stl : Int32) (j : Nat) : MS := pqM D s stl (lb j) (gcj D j) (hpj D j) (Bm 0 0)
def PVM (D : DZ) (s : MS) (stl : Int32) (c b : Nat) : MS := pqM D s stl (lb D.nb) (G0 D) (H0 D) (Bm c b)
def PFM (D : DZ) (s : MS) (stl : Int32) : MS := pqM D s stl (lb D.nb) (G0 D) (H0 D) T2
section S43
variable {D : DZ} {s : MS} {t : TS} {stl : Int32}
theorem TB_ft (hB : TB s t) (hT : s.T ≤ 1000) {A G H : Nat → Bool} {B : Nat → Nat → Bool} : TB (pqM D s stl A G H B) (ftM s t stl) := by
  refine TB.mk (fun c k => ?_) (fun c b k => ?_) (fun j k => ?_) hB.of (fun p k => ?_)
  · rw [gtF]
    have := hB.gt c k
    split <;> omega
  · rw [lvF]
    have := hB.lv c b k
    split <;> omega
  · rw [enF]
    have := hB.en j k
    split <;> omega
  · show (if k = s.ou p then s.T else s.ouT p k) ≤ 1000
    have := hB.ot p k
    split <;> omega
theorem lb_jj {j : Nat} : lb j j = false := decide_eq_false (by omega)
theorem tuP_jj {j : Nat} : tuP D s stl (lb j) j = s.tu j := by
  rw [tuP, lb_jj]
  simp
theorem gaQ_j {j c : Nat} (e : D.fm c = j) : gaQ D s stl (gcj D j) c = s.ga c := by
  refine gaQ_n (Or.inl ?_)
  show lb j (D.fm c) = false
  rw [e]
  exact lb_jj
theorem ouQ_j {j p : Nat} (e : D.ofm p = j) : ouQ D s stl (hpj D j) p = s.ou p := by
  refine ouQ_n (Or.inl ?_)
  show lb j (D.ofm p) = false
  rw [e]
  exact lb_jj
theorem WH_1 (hD : DW D) (hM : MI D s) (hI : TI D s t) {j : Nat} (hj : j < D.nb) (hr : rdM D s j = true) : WH D (P0M D s stl j) (ftM s t stl) j (rdR D (ftM s t stl) j (s.tu j)) s.T (fun c => geM D s stl j c) (fun p => geM D s stl j (20 + p)) (enM D s stl j) := by
  have tP : tuP D s stl (lb j) j = s.tu j := tuP_jj
  have eP : (P0M D s stl j).tu j = s.tu j := tP
  have hro := ti_rdo (t := t) (stl := stl) (G := gcj D j) (H := hpj D j) (B := Bm 0 0) hD hr tP
  have hRT := rd_T hD hI hj hr
  have hva : vaM D (P0M D s stl j) j = vaM D s j := ti_va hD hM hr tP
  refine WH.mk hro.1 (by rw [eP]) (by rw [hro.2]; exact hRT) ?_ ?_ ?_ ?_ ?_
  · intro x hx ex
    rw [eP]
    have h1 := ((rd_iff hD).mp hr).1 x hx ex
    have h2 := cm_le hM hx _ (Nat.le_refl _)
    have h3 := gaQ_b (D := D) (s := s) (stl := stl) (G := gcj D j) (c := x)
    show s.tu j ≤ gaQ D s stl (gcj D j) x
    omega
  · intro c hc ec
    rw [eP, hva]
    show (geM D s stl j c = true ∧ gaQ D s stl (gcj D j) c = s.tu j ∧ s.tu j ≤ gnM D (P0M D s stl j) c 0 ∧ gvA D (ftM s t stl) (rdR D (ftM s t stl) j (s.tu j)) c (s.tu j) ≤ s.T ∧ (ftM s t stl).gt c (s.tu j) = gvA D (ftM s t stl) (rdR D (ftM s t stl) j (s.tu j)) c (s.tu j) ∧ tokP D s c (s.tu j + 1) = vaM D s j) ∨ (geM D s stl j c = false ∧ ¬ (gaQ D s stl (gcj D j) c ≤ s.tu j ∧ s.tu j ≤ gnM D (P0M D s stl j) c 0 ∧ gvA D (ftM s t stl) (rdR D (ftM s t stl) j (s.tu j)) c (s.tu j) ≤ s.T))
    subst ec
    cases hg : geM D s stl (D.fm c) c
    · right
      exact ⟨rfl, f_gvN (A := lb (D.fm c)) (G := gcj D (D.fm c)) (H := hpj D (D.fm c)) (B := Bm 0 0) hD hM hc hr hg⟩
    · left
      obtain ⟨a1, a2, a3, a4⟩ := f_gvY (t := t) (A := lb (D.fm c)) (G := gcj D (D.fm c)) (H := hpj D (D.fm c)) (B := Bm 0 0) hD hM hI hc tP hg
      refine ⟨rfl, by rw [gaQ_j rfl]; exact a1, a2, by rw [a3]; exact Nat.le_refl _, by rw [a4, a3], ?_⟩
      rw [tokP, if_pos (by omega)]
  · intro p hp ep
    rw [eP, hva]
    show (geM D s stl j (20 + p) = true ∧ ouQ D s stl (hpj D j) p = s.tu j ∧ ∃ X, rdR D (ftM s t stl) j (s.tu j) ≤ X ∧ X ≤ s.T ∧ (∀ q, rdR D (ftM s t stl) j (s.tu j) ≤ q → q < X → bt ((ftM s t stl).sl q) p = true) ∧ bt ((ftM s t stl).sl X) p = false ∧ ouTP s p (s.tu j) = X ∧ ousP D s p (s.tu j) = vaM D s j) ∨ (geM D s stl j (20 + p) = false ∧ (s.tu j < ouQ D s stl (hpj D j) p ∨ ∀ q, rdR D (ftM s t stl) j (s.tu j) ≤ q → q ≤ s.T → bt ((ftM s t stl).sl q) p = true))
    subst ep
    cases hg : geM D s stl (D.ofm p) (20 + p)
    · right
      exact ⟨rfl, f_otN (t := t) (A := lb (D.ofm p)) (H := hpj D (D.ofm p)) hD hI hp hr tP hg⟩
    · left
      obtain ⟨a1, a2, a3, a4⟩ := f_otY (t := t) (A := lb (D.ofm p)) hD hM hI hp tP hg
      refine ⟨rfl, by rw [ouQ_j rfl]; exact a1, s.T, a2, Nat.le_refl _, a3, a4, ?_, ?_⟩
      · rw [ouTP, if_pos a1.symm]
      · rw [ousP, if_pos a1.symm]
  · rw [eP, en_iff hD]
    show (rdM D s j = true ∧ _) ↔ (∀ x, x < D.nc → D.fm x = j → s.tu j < gaQ D s stl (gcj D j) x ∨ geM D s stl j x = true) ∧ (∀ p, p < D.no → D.ofm p = j → s.tu j < ouQ D s stl (hpj D j) p ∨ geM D s stl j (20 + p) = true)
    constructor
    · rintro ⟨-, h1, h2⟩
      exact ⟨fun x hx ex => by rw [gaQ_j ex]; exact h1 x hx ex, fun p hp ep => by rw [ouQ_j ep]; exact h2 p hp ep⟩
    · rintro ⟨h1, h2⟩
      refine ⟨hr, fun x hx ex => ?_, fun p hp ep => ?_⟩
      · have := h1 x hx ex
        rw [gaQ_j ex] at this
        exact this
      · have := h2 p hp ep
        rw [ouQ_j ep] at this
        exact this
  · intro he e h
    rw [eP] at h ⊢
    have h' : ∀ X, e ≤ X ↔ rdR D (ftM s t stl) j (s.tu j) ≤ X ∧ (∀ x, x < D.nc → D.fm x = j → (s.tu j < gaQ D s stl (gcj D j) x ∨ geM D s stl j x = true) → (ftM s t stl).gt x (s.tu j) ≤ X) ∧ (∀ p, p < D.no → D.ofm p = j → (s.tu j < ouQ D s stl (hpj D j) p ∨ geM D s stl j (20 + p) = true) → ouTP s p (s.tu j) ≤ X) := h
    obtain ⟨-, e1, e2⟩ := (en_iff hD).mp he
    rw [enF, if_pos rfl]
    apply Nat.le_antisymm
    · refine Nat.le_of_not_lt (fun hlt => ?_)
      have h2 := (h' (s.T - 1)).mp (by omega)
      have h3 := hI.b3 j hj hr (fun x hx ex => by
        rcases e1 x hx ex with h4 | h4
        · exact h4
        · have h5 := h2.2.1 x hx ex (Or.inr h4)
          have h6 := (ge_chN (stl := stl) hD hx).mp (ex ▸ h4)
          have h7 := hM.ga x hx
          rw [ex] at h6 h7
          rw [gtF, if_pos (by omega)] at h5
          omega) (fun p hp ep => by
        rcases e2 p hp ep with h4 | h4
        · exact h4
        · have h5 := h2.2.2 p hp ep (Or.inr h4)
          have h6 := (ge_otN (stl := stl)).mp (ep ▸ h4)
          have h7 := hM.ou p hp
          rw [ep] at h6 h7
          rw [ouTP, if_pos (by omega)] at h5
          omega)
      have h4 := h2.1
      rw [hro.2] at h4
      omega
    · refine (h' s.T).mpr ⟨by rw [hro.2]; exact hRT, fun x hx ex hh => ?_, fun p hp ep hh => ?_⟩
      · rw [gaQ_j ex] at hh
        rw [gtF]
        split
        · omega
        · rename_i hne
          rcases hh with h4 | h4
          · have := hI.gt x hx _ h4
            omega
          · have h6 := (ge_chN (stl := stl) hD hx).mp (ex ▸ h4)
            have h7 := hM.ga x hx
            rw [ex] at h6 h7
            omega
      · rw [ouQ_j ep] at hh
        rw [ouTP]
        split
        · omega
        · rename_i hne
          rcases hh with h4 | h4
          · have := hI.ot p hp _ h4
            omega
          · have h6 := (ge_otN (stl := stl)).mp (ep ▸ h4)
            have h7 := hM.ou p hp
            rw [ep] at h6 h7
            omega
theorem lb_s {j i : Nat} (h : i ≠ j) : lb (j + 1) i = lb j i := by
  unfold lb
  by_cases hh : i < j
  · rw [decide_eq_true hh, decide_eq_true (by omega)]
  · rw [decide_eq_false hh, decide_eq_false (by omega)]
theorem lb_t {j : Nat} : lb (j + 1) j = true := decide_eq_true (by omega)
/-- the block's work as the next half done tick -/
theorem P0_ga {j c : Nat} : gaQ D s stl (gcj D (j + 1)) c = if D.fm c = j ∧ geM D s stl j c = true then gaQ D s stl (gcj D j) c + 1 else gaQ D s stl (gcj D j) c := by
  by_cases e : D.fm c = j
  · rw [gaQ_j e]
    have hG : gcj D (j + 1) c = true := by
      show lb (j + 1) (D.fm c) = true
      rw [e]
      exact lb_t
    cases hg : geM D s stl j c
    · rw [if_neg (fun z => absurd z.2 (by decide)), gaQ_n (Or.inr (by rw [e]; exact hg))]
    · rw [if_pos ⟨e, rfl⟩, gaQ_y hG (by rw [e]; exact hg)]
  · rw [if_neg (fun z => e z.1), gaQ, gaQ]
    have : gcj D (j + 1) c = gcj D j c := lb_s e
    rw [this]
theorem P0_ou {j p : Nat} : ouQ D s stl (hpj D (j + 1)) p = if D.ofm p = j ∧ geM D s stl j (20 + p) = true then ouQ D s stl (hpj D j) p + 1 else ouQ D s stl (hpj D j) p := by
  by_cases e : D.ofm p = j
  · rw [ouQ_j e]
    have hG : hpj D (j + 1) p = true := by
      show lb (j + 1) (D.ofm p) = true
      rw [e]
      exact lb_t
    cases hg : geM D s stl j (20 + p)
    · rw [if_neg (fun z => absurd z.2 (by decide)), ouQ_n (Or.inr (by rw [e]; exact hg))]
    · rw [if_pos ⟨e, rfl⟩, ouQ_y hG (by rw [e]; exact hg)]
  · rw [if_neg (fun z => e z.1), ouQ, ouQ]
    have : hpj D (j + 1) p = hpj D j p := lb_s e
    rw [this]
theorem P0_tu {j x : Nat} : tuP D s stl (lb (j + 1)) x = if x = j ∧ enM D s stl j = true then s.tu j + 1 else tuP D s stl (lb j) x := by
  by_cases e : x = j
  · subst e
    rw [tuP_jj, tuP, lb_t]
    cases he : enM D s stl x <;> simp
  · rw [if_neg (fun z => e z.1), tuP, tuP, lb_s e]
theorem WH_2 (hD : DW D) (hM : MI D s) (hT : s.T < 1000) (hI : TI D (stepM D s stl) (ftM s t stl)) {j : Nat} (hj : j < D.nb) (hr : rdM D (PFM D s stl) j = true) (hR : rdR D (ftM s t stl) j ((PFM D s stl).tu j) ≤ s.T) : WH D (PFM D s stl) (ftM s t stl) j (rdR D (ftM s t stl) j ((PFM D s stl).tu j)) s.T (fun _ => false) (fun _ => false) false := by
  have hM2 := MI_step (stl := stl) hD hM hT
  have hr2 : rdM D (stepM D s stl) j = true := hr
  refine WH.mk hr rfl hR ?_ ?_ ?_ ?_ ?_
  · intro x hx ex
    have h1 := ((rd_iff hD).mp hr2).1 x hx ex
    have h2 := cm_le hM2 hx _ (Nat.le_refl _)
    show (stepM D s stl).tu j ≤ (stepM D s stl).ga x
    omega
  · intro c hc ec
    refine Or.inr ⟨rfl, fun z => ?_⟩
    subst ec
    have h1 : s.T + 1 ≤ gvA D (ftM s t stl) (rdR D (ftM s t stl) (D.fm c) ((PFM D s stl).tu (D.fm c))) c ((PFM D s stl).tu (D.fm c)) := hI.b1 c hc hr2 z.1 z.2.1
    omega
  · intro p hp ep
    refine Or.inr ⟨rfl, ?_⟩
    subst ep
    by_cases h1 : (PFM D s stl).tu (D.ofm p) < (PFM D s stl).ou p
    · exact Or.inl h1
    · exact Or.inr (fun q hq hq2 => hI.b2 p hp hr2 (Nat.le_of_not_lt h1) q hq (Nat.lt_succ_of_le hq2))
  · constructor
    · intro z; cases z
    · rintro ⟨z1, z2⟩
      have h1 : s.T + 1 ≤ rdR D (ftM s t stl) j ((PFM D s stl).tu j) := hI.b3 j hj hr2 (fun x hx ex => (z1 x hx ex).resolve_right (by decide)) (fun p hp ep => (z2 p hp ep).resolve_right (by decide))
      omega
  · intro z; cases z
theorem mvN_2 (hI : TI D (stepM D s stl) (ftM s t stl)) {c b : Nat} (hc : c < D.nc) (hb : b < D.ex c) : ¬ ((PFM D s stl).le c b < cmM (PFM D s stl) c b ∧ (PFM D s stl).le c b < gnM D (PFM D s stl) c (b + 1) + 2 ∧ mvA D (ftM s t stl) c b ((PFM D s stl).le c b) ≤ s.T) := by
  rintro ⟨h1, h2, h3⟩
  have h4 : mvM D (stepM D s stl) c b = true := (mv_iff hb).mpr ⟨h1, h2⟩
  have h5 : s.T + 1 ≤ mvA D (ftM s t stl) c b ((PFM D s stl).le c b) := hI.c c hc b h4
  omega
end S43
