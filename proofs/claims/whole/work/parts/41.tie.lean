/-! the reference's tick and the machine's tick: times -/
def at0 (t : TS) (j k : Nat) : Nat := if k = 0 then 0 else t.en j (k - 1) + 1
def rcF (D : DZ) (t : TS) (j k : Nat) (a c : Nat) : Nat := if D.to c = j then max a (cmA t c (D.ex c) k) else a
def rpF (D : DZ) (t : TS) (j k : Nat) (a p : Nat) : Nat := if D.ito p = j then max a (t.oft p k) else a
/-- the tick in which a block's turn can begin -/
def rdR (D : DZ) (t : TS) (j k : Nat) : Nat := fo (rpF D t j k) (fo (rcF D t j k) (at0 t j k) D.nc) D.ni
def gvA (D : DZ) (t : TS) (R c k : Nat) : Nat := if k = 0 then R else max R (goA D t c 0 (k - 1) + 1)
def mvA (D : DZ) (t : TS) (c b k : Nat) : Nat := max (max (cmA t c b k) (if k = 0 then 0 else t.lv c b (k - 1) + 1)) (if k ≤ 1 then 0 else goA D t c (b + 1) (k - 2) + 1)
theorem fo_max (P : Nat → Prop) [DecidablePred P] (f : Nat → Nat) (a X : Nat) : ∀ n, fo (fun v i => if P i then max v (f i) else v) a n ≤ X ↔ a ≤ X ∧ ∀ i, i < n → P i → f i ≤ X
  | 0 => by
    show a ≤ X ↔ _
    constructor
    · intro h
      exact ⟨h, fun i hi => absurd hi (by omega)⟩
    · exact fun h => h.1
  | n + 1 => by
    have ih := fo_max P f a X n
    show (if P n then max (fo (fun v i => if P i then max v (f i) else v) a n) (f n) else fo (fun v i => if P i then max v (f i) else v) a n) ≤ X ↔ _
    by_cases h : P n
    · rw [if_pos h]
      constructor
      · intro h1
        have h2 := ih.mp (by omega)
        refine ⟨h2.1, fun i hi hp => ?_⟩
        by_cases e : i = n
        · rw [e]; omega
        · exact h2.2 i (by omega) hp
      · intro h1
        have h2 := ih.mpr ⟨h1.1, fun i hi hp => h1.2 i (by omega) hp⟩
        have h3 := h1.2 n (by omega) h
        omega
    · rw [if_neg h, ih]
      constructor
      · intro h1
        refine ⟨h1.1, fun i hi hp => ?_⟩
        by_cases e : i = n
        · rw [e] at hp; exact absurd hp h
        · exact h1.2 i (by omega) hp
      · intro h1
        exact ⟨h1.1, fun i hi hp => h1.2 i (by omega) hp⟩
theorem rdR_le {D : DZ} {t : TS} {j k X : Nat} : rdR D t j k ≤ X ↔ at0 t j k ≤ X ∧ (∀ c, c < D.nc → D.to c = j → cmA t c (D.ex c) k ≤ X) ∧ (∀ p, p < D.ni → D.ito p = j → t.oft p k ≤ X) := by
  have h1 := fo_max (fun p => D.ito p = j) (fun p => t.oft p k) (fo (rcF D t j k) (at0 t j k) D.nc) X D.ni
  have h2 := fo_max (fun c => D.to c = j) (fun c => cmA t c (D.ex c) k) (at0 t j k) X D.nc
  constructor
  · intro h
    have h3 := h1.mp h
    have h4 := h2.mp h3.1
    exact ⟨h4.1, h4.2, h3.2⟩
  · intro h
    exact h1.mpr ⟨h2.mpr ⟨h.1, h.2.1⟩, h.2.2⟩
theorem rdR_eq {D : DZ} {t t' : TS} {j k : Nat} (h0 : at0 t j k = at0 t' j k) (h1 : ∀ c, c < D.nc → D.to c = j → cmA t c (D.ex c) k = cmA t' c (D.ex c) k) (h2 : ∀ p, p < D.ni → D.ito p = j → t.oft p k = t'.oft p k) : rdR D t j k = rdR D t' j k := by
  apply Nat.le_antisymm
  · rw [rdR_le, h0]
    have h := (rdR_le (D := D) (t := t') (j := j) (k := k)).mp (Nat.le_refl _)
    exact ⟨h.1, fun c hc e => by rw [h1 c hc e]; exact h.2.1 c hc e, fun p hp e => by rw [h2 p hp e]; exact h.2.2 p hp e⟩
  · rw [rdR_le, ← h0]
    have h := (rdR_le (D := D) (t := t) (j := j) (k := k)).mp (Nat.le_refl _)
    exact ⟨h.1, fun c hc e => by rw [← h1 c hc e]; exact h.2.1 c hc e, fun p hp e => by rw [← h2 p hp e]; exact h.2.2 p hp e⟩
theorem rd_iff {D : DZ} {s : MS} {j : Nat} (hD : DW D) : rdM D s j = true ↔ (∀ c, c < D.nc → D.to c = j → s.tu j < cmM s c (D.ex c)) ∧ (∀ p, p < D.ni → D.ito p = j → s.tu j < s.off p) := by
  have h20 := hD.nc
  constructor
  · intro h
    refine ⟨fun c hc e => ?_, fun p hp e => ?_⟩
    · subst e
      have := rd_ch hD hc h
      rw [gnM, if_pos rfl] at this
      exact this
    · subst e
      exact rd_ip hD hp h
  · rintro ⟨h1, h2⟩
    refine List.all_eq_true.mpr (fun x hx => ?_)
    rcases (inL_mem hD).mp hx with ⟨k1, k2⟩ | ⟨k0, k1, k2⟩
    · rw [thM, if_pos (by omega), gnM, if_pos rfl, k2]
      exact decide_eq_true (h1 x k1 k2)
    · rw [thM, if_neg (by omega), k2]
      exact decide_eq_true (h2 _ (by omega) k2)
def TI (D : DZ) (s : MS) (t : TS) : Prop := (∀ c, c < D.nc → ∀ k, k < s.ga c → t.gt c k < s.T) ∧ (∀ c, c < D.nc → ∀ b, b < D.ex c → ∀ k, k < s.le c b → t.lv c b k < s.T) ∧ (∀ j, j < D.nb → ∀ k, k < s.tu j → t.en j k < s.T) ∧ (∀ p, p < D.no → ∀ k, k < s.ou p → s.ouT p k < s.T) ∧ (∀ p, p < D.ni → ∀ k, k < s.off p → t.oft p k ≤ s.T) ∧ (∀ c, c < D.nc → rdM D s (D.fm c) = true → s.ga c ≤ s.tu (D.fm c) → s.tu (D.fm c) ≤ gnM D s c 0 → s.T ≤ gvA D t (rdR D t (D.fm c) (s.tu (D.fm c))) c (s.tu (D.fm c))) ∧ (∀ p, p < D.no → rdM D s (D.ofm p) = true → s.ou p ≤ s.tu (D.ofm p) → ∀ q, rdR D t (D.ofm p) (s.tu (D.ofm p)) ≤ q → q < s.T → bt (t.sl q) p = true) ∧ (∀ j, j < D.nb → rdM D s j = true → (∀ c, c < D.nc → D.fm c = j → s.tu j < s.ga c) → (∀ p, p < D.no → D.ofm p = j → s.tu j < s.ou p) → s.T ≤ rdR D t j (s.tu j)) ∧ (∀ c, c < D.nc → ∀ b, mvM D s c b = true → s.T ≤ mvA D t c b (s.le c b))
theorem TI.gt {D : DZ} {s : MS} {t : TS} (h : TI D s t) : ∀ c, c < D.nc → ∀ k, k < s.ga c → t.gt c k < s.T := h.1
theorem TI.lv {D : DZ} {s : MS} {t : TS} (h : TI D s t) : ∀ c, c < D.nc → ∀ b, b < D.ex c → ∀ k, k < s.le c b → t.lv c b k < s.T := h.2.1
theorem TI.en {D : DZ} {s : MS} {t : TS} (h : TI D s t) : ∀ j, j < D.nb → ∀ k, k < s.tu j → t.en j k < s.T := h.2.2.1
theorem TI.ot {D : DZ} {s : MS} {t : TS} (h : TI D s t) : ∀ p, p < D.no → ∀ k, k < s.ou p → s.ouT p k < s.T := h.2.2.2.1
theorem TI.of {D : DZ} {s : MS} {t : TS} (h : TI D s t) : ∀ p, p < D.ni → ∀ k, k < s.off p → t.oft p k ≤ s.T := h.2.2.2.2.1
theorem TI.b1 {D : DZ} {s : MS} {t : TS} (h : TI D s t) : ∀ c, c < D.nc → rdM D s (D.fm c) = true → s.ga c ≤ s.tu (D.fm c) → s.tu (D.fm c) ≤ gnM D s c 0 → s.T ≤ gvA D t (rdR D t (D.fm c) (s.tu (D.fm c))) c (s.tu (D.fm c)) := h.2.2.2.2.2.1
theorem TI.b2 {D : DZ} {s : MS} {t : TS} (h : TI D s t) : ∀ p, p < D.no → rdM D s (D.ofm p) = true → s.ou p ≤ s.tu (D.ofm p) → ∀ q, rdR D t (D.ofm p) (s.tu (D.ofm p)) ≤ q → q < s.T → bt (t.sl q) p = true := h.2.2.2.2.2.2.1
theorem TI.b3 {D : DZ} {s : MS} {t : TS} (h : TI D s t) : ∀ j, j < D.nb → rdM D s j = true → (∀ c, c < D.nc → D.fm c = j → s.tu j < s.ga c) → (∀ p, p < D.no → D.ofm p = j → s.tu j < s.ou p) → s.T ≤ rdR D t j (s.tu j) := h.2.2.2.2.2.2.2.1
theorem TI.c {D : DZ} {s : MS} {t : TS} (h : TI D s t) : ∀ c, c < D.nc → ∀ b, mvM D s c b = true → s.T ≤ mvA D t c b (s.le c b) := h.2.2.2.2.2.2.2.2
theorem TI.mk {D : DZ} {s : MS} {t : TS} (gt_ : ∀ c, c < D.nc → ∀ k, k < s.ga c → t.gt c k < s.T) (lv_ : ∀ c, c < D.nc → ∀ b, b < D.ex c → ∀ k, k < s.le c b → t.lv c b k < s.T) (en_ : ∀ j, j < D.nb → ∀ k, k < s.tu j → t.en j k < s.T) (ot_ : ∀ p, p < D.no → ∀ k, k < s.ou p → s.ouT p k < s.T) (of_ : ∀ p, p < D.ni → ∀ k, k < s.off p → t.oft p k ≤ s.T) (b1_ : ∀ c, c < D.nc → rdM D s (D.fm c) = true → s.ga c ≤ s.tu (D.fm c) → s.tu (D.fm c) ≤ gnM D s c 0 → s.T ≤ gvA D t (rdR D t (D.fm c) (s.tu (D.fm c))) c (s.tu (D.fm c))) (b2_ : ∀ p, p < D.no → rdM D s (D.ofm p) = true → s.ou p ≤ s.tu (D.ofm p) → ∀ q, rdR D t (D.ofm p) (s.tu (D.ofm p)) ≤ q → q < s.T → bt (t.sl q) p = true) (b3_ : ∀ j, j < D.nb → rdM D s j = true → (∀ c, c < D.nc → D.fm c = j → s.tu j < s.ga c) → (∀ p, p < D.no → D.ofm p = j → s.tu j < s.ou p) → s.T ≤ rdR D t j (s.tu j)) (c_ : ∀ c, c < D.nc → ∀ b, mvM D s c b = true → s.T ≤ mvA D t c b (s.le c b)) : TI D s t := ⟨gt_, lv_, en_, ot_, of_, b1_, b2_, b3_, c_⟩
/-- a tick half done, by sets: blocks, channels, outputs, buffers -/
def gaQ (D : DZ) (s : MS) (stl : Int32) (G : Nat → Bool) (c : Nat) : Nat := if G c && geM D s stl (D.fm c) c then s.ga c + 1 else s.ga c
def ouQ (D : DZ) (s : MS) (stl : Int32) (H : Nat → Bool) (p : Nat) : Nat := if H p && geM D s stl (D.ofm p) (20 + p) then s.ou p + 1 else s.ou p
def pqM (D : DZ) (s : MS) (stl : Int32) (A G H : Nat → Bool) (B : Nat → Nat → Bool) : MS := MS.mk s.T (tuP D s stl A) (gaQ D s stl G) (ouQ D s stl H) s.off (leP D s B) (tokP D s) s.ofv (ousP D s) (ouTP s)
def ftM (s : MS) (t : TS) (stl : Int32) : TS := TS.mk (fun c b k => if k = s.le c b then s.T else t.lv c b k) (fun c k => if k = s.ga c then s.T else t.gt c k) (fun j k => if k = s.tu j then s.T else t.en j k) t.oft (fun q => if q = s.T then stl else t.sl q)
section S30
variable {D : DZ} {s : MS} {t : TS} {stl : Int32} {A G H : Nat → Bool} {B : Nat → Nat → Bool}
theorem gaQ_b {c : Nat} : s.ga c ≤ gaQ D s stl G c ∧ gaQ D s stl G c ≤ s.ga c + 1 := by
  unfold gaQ
  split <;> omega
theorem ouQ_b {p : Nat} : s.ou p ≤ ouQ D s stl H p ∧ ouQ D s stl H p ≤ s.ou p + 1 := by
  unfold ouQ
  split <;> omega
theorem tuP_b {j : Nat} : s.tu j ≤ tuP D s stl A j ∧ tuP D s stl A j ≤ s.tu j + 1 := by
  unfold tuP
  split <;> omega
theorem leP_b {c b : Nat} : s.le c b ≤ leP D s B c b ∧ leP D s B c b ≤ s.le c b + 1 := by
  unfold leP
  split <;> omega
theorem gtF {c k : Nat} : (ftM s t stl).gt c k = if k = s.ga c then s.T else t.gt c k := rfl
theorem lvF {c b k : Nat} : (ftM s t stl).lv c b k = if k = s.le c b then s.T else t.lv c b k := rfl
theorem enF {j k : Nat} : (ftM s t stl).en j k = if k = s.tu j then s.T else t.en j k := rfl
theorem slF {k : Nat} : (ftM s t stl).sl k = if k = s.T then stl else t.sl k := rfl
theorem ti_cmn {c b k : Nat} (h : k < cmM (pqM D s stl A G H B) c b) (h2 : cmA (ftM s t stl) c b k ≤ s.T) : k < cmM s c b := by
  cases b with
  | zero =>
    have h3 : k < gaQ D s stl G c + 1 := h
    have h4 := gaQ_b (D := D) (s := s) (stl := stl) (G := G) (c := c)
    rw [cm_0]
    cases k with
    | zero => omega
    | succ k =>
      have h5 : (if k = s.ga c then s.T else t.gt c k) + 1 ≤ s.T := h2
      by_cases e : k = s.ga c
      · rw [if_pos e] at h5; omega
      · omega
  | succ b =>
    have h3 : k < leP D s B c b := h
    have h4 := leP_b (D := D) (s := s) (B := B) (c := c) (b := b)
    rw [cm_S]
    have h5 : (if k = s.le c b then s.T else t.lv c b k) + 1 ≤ s.T := h2
    by_cases e : k = s.le c b
    · rw [if_pos e] at h5; omega
    · omega
theorem ti_cmo {c b k : Nat} (h : k < cmM s c b) : k < cmM (pqM D s stl A G H B) c b ∧ cmA (ftM s t stl) c b k = cmA t c b k := by
  cases b with
  | zero =>
    have h4 := gaQ_b (D := D) (s := s) (stl := stl) (G := G) (c := c)
    rw [cm_0] at h
    refine ⟨show k < gaQ D s stl G c + 1 by omega, ?_⟩
    cases k with
    | zero => rfl
    | succ k =>
      show (if k = s.ga c then s.T else t.gt c k) + 1 = t.gt c k + 1
      rw [if_neg (by omega)]
  | succ b =>
    have h4 := leP_b (D := D) (s := s) (B := B) (c := c) (b := b)
    rw [cm_S] at h
    refine ⟨show k < leP D s B c b by omega, ?_⟩
    show (if k = s.le c b then s.T else t.lv c b k) + 1 = t.lv c b k + 1
    rw [if_neg (by omega)]
theorem cm_T (hI : TI D s t) {c b k : Nat} (hc : c < D.nc) (hb : b ≤ D.ex c) (h : k < cmM s c b) : cmA t c b k ≤ s.T := by
  cases b with
  | zero =>
    rw [cm_0] at h
    cases k with
    | zero => exact Nat.zero_le _
    | succ k => exact hI.gt c hc k (by omega)
  | succ b =>
    rw [cm_S] at h
    exact hI.lv c hc b (by omega) k h
theorem ti_gnn {c b k : Nat} (h : k < gnM D (pqM D s stl A G H B) c b) (h2 : goA D (ftM s t stl) c b k < s.T) : k < gnM D s c b := by
  by_cases e : b = D.ex c
  · have h3 : k < tuP D s stl A (D.to c) := by
      have := h
      rw [gnM, if_pos e] at this
      exact this
    have h4 := tuP_b (D := D) (s := s) (stl := stl) (A := A) (j := D.to c)
    rw [goA, if_pos e, enF] at h2
    rw [gnM, if_pos e]
    by_cases e2 : k = s.tu (D.to c)
    · rw [if_pos e2] at h2; omega
    · omega
  · have h3 : k < leP D s B c b := by
      have := h
      rw [gnM, if_neg e] at this
      exact this
    have h4 := leP_b (D := D) (s := s) (B := B) (c := c) (b := b)
    rw [goA, if_neg e, lvF] at h2
    rw [gnM, if_neg e]
    by_cases e2 : k = s.le c b
    · rw [if_pos e2] at h2; omega
    · omega
theorem ti_gno {c b k : Nat} (h : k < gnM D s c b) : k < gnM D (pqM D s stl A G H B) c b ∧ goA D (ftM s t stl) c b k = goA D t c b k := by
  by_cases e : b = D.ex c
  · rw [gnM, if_pos e] at h
    have h4 := tuP_b (D := D) (s := s) (stl := stl) (A := A) (j := D.to c)
    rw [gnM, if_pos e, goA, goA, if_pos e, if_pos e, enF, if_neg (by omega)]
    exact ⟨show k < tuP D s stl A (D.to c) by omega, rfl⟩
  · rw [gnM, if_neg e] at h
    have h4 := leP_b (D := D) (s := s) (B := B) (c := c) (b := b)
    rw [gnM, if_neg e, goA, goA, if_neg e, if_neg e, lvF, if_neg (by omega)]
    exact ⟨show k < leP D s B c b by omega, rfl⟩
theorem gn_T (hD : DW D) (hI : TI D s t) {c b k : Nat} (hc : c < D.nc) (hb : b ≤ D.ex c) (h : k < gnM D s c b) : goA D t c b k < s.T := by
  by_cases e : b = D.ex c
  · rw [gnM, if_pos e] at h
    rw [goA, if_pos e]
    exact hI.en _ (hD.ch c hc).2.1 k h
  · rw [gnM, if_neg e] at h
    rw [goA, if_neg e]
    exact hI.lv c hc b (by omega) k h
theorem ti_rdn (hD : DW D) {j : Nat} (h : rdM D (pqM D s stl A G H B) j = true) (h2 : rdR D (ftM s t stl) j (tuP D s stl A j) ≤ s.T) : tuP D s stl A j = s.tu j ∧ rdM D s j = true := by
  obtain ⟨a1, a2, a3⟩ := rdR_le.mp h2
  have h4 := tuP_b (D := D) (s := s) (stl := stl) (A := A) (j := j)
  have e : tuP D s stl A j = s.tu j := by
    by_cases e : tuP D s stl A j = s.tu j
    · exact e
    · have e2 : tuP D s stl A j = s.tu j + 1 := by omega
      rw [e2, at0, if_neg (by omega), enF, show s.tu j + 1 - 1 = s.tu j by omega, if_pos rfl] at a1
      omega
  refine ⟨e, ?_⟩
  obtain ⟨b1, b2⟩ := (rd_iff hD).mp h
  rw [rd_iff hD]
  refine ⟨fun c hc ec => ?_, fun p hp ep => ?_⟩
  · have q1 : tuP D s stl A j < cmM (pqM D s stl A G H B) c (D.ex c) := b1 c hc ec
    have q2 := a2 c hc ec
    rw [e] at q1 q2
    exact ti_cmn q1 q2
  · have q1 : tuP D s stl A j < s.off p := b2 p hp ep
    omega
theorem ti_rdo (hD : DW D) {j : Nat} (h : rdM D s j = true) (e : tuP D s stl A j = s.tu j) : rdM D (pqM D s stl A G H B) j = true ∧ rdR D (ftM s t stl) j (s.tu j) = rdR D t j (s.tu j) := by
  obtain ⟨b1, b2⟩ := (rd_iff hD).mp h
  constructor
  · rw [rd_iff hD]
    refine ⟨fun c hc ec => ?_, fun p hp ep => ?_⟩
    · show tuP D s stl A j < _
      rw [e]
      exact (ti_cmo (t := t) (stl := stl) (b1 c hc ec)).1
    · show tuP D s stl A j < s.off p
      rw [e]
      exact b2 p hp ep
  · apply rdR_eq
    · unfold at0
      split
      · rfl
      · rw [enF, if_neg (by omega)]
    · intro c hc ec
      exact (ti_cmo (D := D) (A := A) (G := G) (H := H) (B := B) (b1 c hc ec)).2
    · intro p hp ep
      rfl
theorem rd_T (hD : DW D) (hI : TI D s t) {j : Nat} (hj : j < D.nb) (h : rdM D s j = true) : rdR D t j (s.tu j) ≤ s.T := by
  obtain ⟨b1, b2⟩ := (rd_iff hD).mp h
  rw [rdR_le]
  refine ⟨?_, fun c hc ec => ?_, fun p hp ep => ?_⟩
  · unfold at0
    split
    · omega
    · exact hI.en j hj _ (by omega)
  · exact cm_T hI hc (Nat.le_refl _) (b1 c hc ec)
  · exact hI.of p hp _ (b2 p hp ep)
theorem ge_chN (hD : DW D) {c : Nat} (hc : c < D.nc) : geM D s stl (D.fm c) c = true ↔ rdM D s (D.fm c) = true ∧ s.ga c ≤ s.tu (D.fm c) ∧ s.ga c ≤ gnM D s c 0 := by
  have h20 := hD.nc
  rw [geM, goM, caM, if_pos (by omega), if_pos (by omega), cm_0]
  simp only [Bool.and_eq_true, Bool.not_eq_true', decide_eq_false_iff_not, decide_eq_true_eq]
  constructor
  · rintro ⟨h1, h2, h3⟩
    exact ⟨h1, by omega, by omega⟩
  · rintro ⟨h1, h2, h3⟩
    exact ⟨h1, by omega, by omega⟩
theorem ge_otN {p : Nat} : geM D s stl (D.ofm p) (20 + p) = true ↔ rdM D s (D.ofm p) = true ∧ s.ou p ≤ s.tu (D.ofm p) ∧ bt stl p = false := by
  rw [geM, goM, caM, if_neg (by omega), if_neg (by omega), show 20 + p - 20 = p by omega]
  simp only [Bool.and_eq_true, Bool.not_eq_true', decide_eq_false_iff_not]
  constructor
  · rintro ⟨h1, h2, h3⟩
    exact ⟨h1, by omega, h3⟩
  · rintro ⟨h1, h2, h3⟩
    exact ⟨h1, by omega, h3⟩
theorem en_iff (hD : DW D) {j : Nat} : enM D s stl j = true ↔ rdM D s j = true ∧ (∀ c, c < D.nc → D.fm c = j → s.tu j < s.ga c ∨ geM D s stl j c = true) ∧ (∀ p, p < D.no → D.ofm p = j → s.tu j < s.ou p ∨ geM D s stl j (20 + p) = true) := by
  have h20 := hD.nc
  rw [enM, Bool.and_eq_true]
  constructor
  · rintro ⟨h1, h2⟩
    refine ⟨h1, fun c hc e => ?_, fun p hp e => ?_⟩
    · have h3 := List.all_eq_true.mp h2 c (e ▸ br_ch hD hc)
      rw [Bool.or_eq_true, goM, if_pos (by omega)] at h3
      exact h3.imp of_decide_eq_true id
    · have h3 := List.all_eq_true.mp h2 (20 + p) (e ▸ br_ot hD hp)
      rw [Bool.or_eq_true, goM, if_neg (by omega), show 20 + p - 20 = p by omega] at h3
      exact h3.imp of_decide_eq_true id
  · rintro ⟨h1, h2, h3⟩
    refine ⟨h1, List.all_eq_true.mpr (fun x hx => ?_)⟩
    rw [Bool.or_eq_true]
    rcases (brL_mem hD).mp hx with ⟨k1, k2⟩ | ⟨k0, k1, k2⟩
    · rw [goM, if_pos (by omega)]
      exact (h2 x k1 k2).imp decide_eq_true id
    · rw [goM, if_neg (by omega)]
      have := h3 (x - 20) (by omega) k2
      rw [show 20 + (x - 20) = x by omega] at this
      exact this.imp decide_eq_true id
end S30
