/-! the reference's graph -/
def baM (D : DZ) (c : Nat) : Nat := 40 + fo (fun a i => a + D.ex i) 0 c
def phM (D : DZ) (v : Nat) : Nat := if v < 10 then 2 * v else if v < 20 then 2 * (v - 10) + 1 else if (v - 20) % 4 = 0 then 20 + (v - 20) / 4 else baM D ((v - 20) / 4) + ((v - 20) % 4 - 1)
def phA (D : DZ) (a : ra_A) : ra_A := (phM D a.1, phM D a.2.1, a.2.2.1, a.2.2.2)
theorem ph_b {D : DZ} {b : Nat} (h : b < 10) : phM D b = 2 * b ∧ phM D (10 + b) = 2 * b + 1 := by
  constructor
  · unfold phM
    rw [if_pos h]
  · unfold phM
    rw [if_neg (by omega), if_pos (by omega), show 10 + b - 10 = b by omega]
theorem ph_c {D : DZ} {c : Nat} : phM D (20 + c * 4) = 20 + c := by
  unfold phM
  rw [if_neg (by omega), if_neg (by omega), if_pos (by omega), show (20 + c * 4 - 20) / 4 = c by omega]
theorem ph_k {D : DZ} {c b : Nat} (h1 : 1 ≤ b) (h3 : b ≤ 3) : phM D (20 + c * 4 + b) = baM D c + (b - 1) := by
  unfold phM
  rw [if_neg (by omega), if_neg (by omega), if_neg (by omega), show (20 + c * 4 + b - 20) / 4 = c by omega, show (20 + c * 4 + b - 20) % 4 = b by omega]
theorem ba_s {D : DZ} {c : Nat} : baM D (c + 1) = baM D c + D.ex c := (Nat.add_assoc 40 (fo (fun a i => a + D.ex i) 0 c) (D.ex c)).symm
theorem ba_mono {D : DZ} {c : Nat} : ∀ {c' : Nat}, c ≤ c' → baM D c ≤ baM D c'
  | 0, h => by
    have : c = 0 := by omega
    rw [this]
    exact Nat.le_refl _
  | c' + 1, h => by
    by_cases e : c = c' + 1
    · rw [e]
      exact Nat.le_refl _
    · rw [ba_s]
      exact Nat.le_trans (ba_mono (c' := c') (by omega)) (Nat.le_add_right _ _)
theorem ba_ge {D : DZ} {c : Nat} : 40 ≤ baM D c := Nat.le_add_right _ _
theorem ba_le {D : DZ} (hD : DW D) : ∀ {c : Nat}, c ≤ D.nc → baM D c ≤ 40 + 3 * c
  | 0, _ => Nat.le_refl _
  | c + 1, h => by
    have h1 := ba_le hD (c := c) (by omega)
    have h2 := (hD.ch c (by omega)).2.2
    rw [ba_s]
    omega
theorem mE_cases {D : DZ} {v : Nat} (h : v ∈ mE D) : v < D.nb ∨ (∃ b, b < D.nb ∧ v = 10 + b) ∨ ∃ c b, c < D.nc ∧ b ≤ D.ex c ∧ v = 20 + c * 4 + b := by
  unfold mE mC1 at h
  simp only [List.mem_append, List.mem_range, List.mem_map, List.mem_flatMap] at h
  rcases h with (h | ⟨b, h1, h2⟩) | ⟨c, h1, b, h2, h3⟩
  · exact Or.inl h
  · exact Or.inr (Or.inl ⟨b, h1, h2.symm⟩)
  · exact Or.inr (Or.inr ⟨c, b, h1, by omega, h3.symm⟩)
theorem ph_inj {D : DZ} (hD : DW D) {u v : Nat} (hu : u ∈ mE D) (hv : v ∈ mE D) (h : phM D u = phM D v) : u = v := by
  have h10 := hD.nb
  have h20 := hD.nc
  have key : ∀ {x}, x ∈ mE D → (x < 10 ∧ phM D x = 2 * x) ∨ (10 ≤ x ∧ x < 20 ∧ phM D x = 2 * (x - 10) + 1) ∨ (∃ c, c < D.nc ∧ x = 20 + c * 4 ∧ phM D x = 20 + c) ∨ ∃ c b, c < D.nc ∧ 1 ≤ b ∧ b ≤ D.ex c ∧ D.ex c ≤ 3 ∧ x = 20 + c * 4 + b ∧ phM D x = baM D c + (b - 1) := by
    intro x hx
    rcases mE_cases hx with h1 | ⟨b, h1, rfl⟩ | ⟨c, b, h1, h2, rfl⟩
    · exact Or.inl ⟨by omega, (ph_b (by omega)).1⟩
    · refine Or.inr (Or.inl ⟨by omega, by omega, ?_⟩)
      rw [(ph_b (by omega)).2, show 10 + b - 10 = b by omega]
    · have h3 := (hD.ch c h1).2.2
      by_cases e : b = 0
      · subst e
        exact Or.inr (Or.inr (Or.inl ⟨c, h1, rfl, ph_c⟩))
      · exact Or.inr (Or.inr (Or.inr ⟨c, b, h1, by omega, h2, h3, rfl, ph_k (by omega) (by omega)⟩))
  rcases key hu with ⟨a1, a2⟩ | ⟨a1, a2, a3⟩ | ⟨c, a1, a2, a3⟩ | ⟨c, b, a1, a2, a3, a4, a5, a6⟩ <;> rcases key hv with ⟨b1, b2⟩ | ⟨b1, b2, b3⟩ | ⟨c', b1, b2, b3⟩ | ⟨c', b', b1, b2, b3, b4, b5, b6⟩
  · omega
  · omega
  · omega
  · have := ba_ge (D := D) (c := c'); omega
  · omega
  · omega
  · omega
  · have := ba_ge (D := D) (c := c'); omega
  · omega
  · omega
  · omega
  · have := ba_ge (D := D) (c := c'); omega
  · have := ba_ge (D := D) (c := c); omega
  · have := ba_ge (D := D) (c := c); omega
  · have := ba_ge (D := D) (c := c); omega
  · rw [a6, b6] at h
    by_cases e : c = c'
    · subst e
      omega
    · exfalso
      by_cases hlt : c < c'
      · have h1 := ba_mono (D := D) (c := c + 1) (c' := c') hlt
        rw [ba_s] at h1
        omega
      · have h1 := ba_mono (D := D) (c := c' + 1) (c' := c) (by omega)
        rw [ba_s] at h1
        omega
/-! walks here and there -/
def gM (D : DZ) : List ra_A := (gE D D.nb D.nc).map (phA D)
theorem wk_to {D : DZ} : ∀ (w : List ra_A) (u v : Nat), ra_wk (· ∈ gE D D.nb D.nc) u w v → ra_wk (· ∈ gM D) (phM D u) (w.map (phA D)) (phM D v) ∧ ra_tk (w.map (phA D)) = ra_tk w ∧ ra_ln (w.map (phA D)) = ra_ln w
  | [], u, v, h => by
    have : u = v := h
    subst this
    exact ⟨rfl, rfl, rfl⟩
  | a :: w, u, v, h => by
    obtain ⟨i1, i2, i3⟩ := wk_to w a.2.1 v h.2.2
    refine ⟨⟨List.mem_map.mpr ⟨a, h.1, rfl⟩, ?_, i1⟩, ?_, ?_⟩
    · show phM D a.1 = phM D u
      rw [h.2.1]
    · show a.2.2.1 + ra_tk (w.map (phA D)) = a.2.2.1 + ra_tk w
      rw [i2]
    · show a.2.2.2 + ra_ln (w.map (phA D)) = a.2.2.2 + ra_ln w
      rw [i3]
theorem wk_of {D : DZ} (hD : DW D) : ∀ (w : List ra_A) (u y : Nat), u ∈ mE D → ra_wk (· ∈ gM D) (phM D u) w y → ∃ w' v, v ∈ mE D ∧ phM D v = y ∧ ra_wk (· ∈ gE D D.nb D.nc) u w' v ∧ ra_tk w' = ra_tk w ∧ ra_ln w' = ra_ln w ∧ w'.length = w.length
  | [], u, y, hu, h => ⟨[], u, hu, h, rfl, rfl, rfl, rfl⟩
  | a :: w, u, y, hu, h => by
    obtain ⟨b, hb, e⟩ := List.mem_map.mp h.1
    have hm := mE_a hD b hb
    have e1 : phM D b.1 = phM D u := by
      have h2 := h.2.1
      rw [← e] at h2
      exact h2
    have e2 := ph_inj hD hm.1 hu e1
    have h3 := h.2.2
    rw [← e] at h3
    obtain ⟨w', v, k1, k2, k3, k4, k5, k6⟩ := wk_of hD w b.2.1 y hm.2 h3
    refine ⟨b :: w', v, k1, k2, ⟨hb, e2, k3⟩, ?_, ?_, ?_⟩
    · show b.2.2.1 + ra_tk w' = a.2.2.1 + ra_tk w
      rw [k4, ← e]
      rfl
    · show b.2.2.2 + ra_ln w' = a.2.2.2 + ra_ln w
      rw [k5, ← e]
      rfl
    · show w'.length + 1 = w.length + 1
      rw [k6]
/-- a closed walk there is one here -/
theorem wk_cl {D : DZ} (hD : DW D) {x : Nat} {w : List ra_A} (hne : w ≠ []) (h : ra_wk (· ∈ gM D) x w x) : ∃ u w', w' ≠ [] ∧ ra_wk (· ∈ gE D D.nb D.nc) u w' u ∧ ra_tk w' = ra_tk w ∧ ra_ln w' = ra_ln w := by
  cases w with
  | nil => exact absurd rfl hne
  | cons a w =>
    obtain ⟨b, hb, e⟩ := List.mem_map.mp h.1
    have hm := mE_a hD b hb
    have hx : phM D b.1 = x := by
      have h2 := h.2.1
      rw [← e] at h2
      exact h2
    have h3 : ra_wk (· ∈ gM D) (phM D b.1) (a :: w) x := by rw [hx]; exact h
    obtain ⟨w', v, k1, k2, k3, k4, k5, k6⟩ := wk_of hD (a :: w) b.1 x hm.1 h3
    have e2 := ph_inj hD k1 hm.1 (k2.trans hx.symm)
    rw [e2] at k3
    refine ⟨b.1, w', fun z => ?_, k3, k4, k5⟩
    rw [z] at k6
    cases k6
/-! levels of the arcs without length; what the nodes are -/
def lvM (v : Nat) : Nat := if v < 20 then (if v % 2 = 0 then 0 else 2) else 1
theorem gM_cases {D : DZ} {P : ra_A → Prop} (h : ∀ a, a ∈ gE D D.nb D.nc → P (phA D a)) : ∀ a, a ∈ gM D → P a := by
  intro a ha
  obtain ⟨b, hb, e⟩ := List.mem_map.mp ha
  rw [← e]
  exact h b hb
theorem lvM_a {D : DZ} (hD : DW D) : ∀ a, a ∈ gM D → a.2.2.2 = 0 → lvM a.1 < lvM a.2.1 ∧ lvM a.2.1 ≤ 2 := by
  have h10 := hD.nb
  have h20 := hD.nc
  refine gM_cases (gE_cases (fun b hb _ => ?_) (fun b hb h => ?_) (fun c hc _ => ?_) (fun c hc _ => ?_) (fun c hc b hb h => ?_) (fun c hc b hb h => ?_))
  · show lvM (phM D b) < lvM (phM D (10 + b)) ∧ lvM (phM D (10 + b)) ≤ 2
    rw [(ph_b (by omega)).1, (ph_b (by omega)).2]
    unfold lvM
    rw [if_pos (by omega), if_pos (by omega), if_pos (by omega), if_neg (by omega)]
    decide
  · exact absurd (show (1 : Nat) = 0 from h) (by decide)
  · have := hD.ch c hc
    show lvM (phM D (D.fm c)) < lvM (phM D (20 + c * 4)) ∧ lvM (phM D (20 + c * 4)) ≤ 2
    rw [(ph_b (by omega)).1, ph_c]
    unfold lvM
    rw [if_pos (by omega), if_pos (by omega), if_neg (by omega)]
    decide
  · have := hD.ch c hc
    show lvM (phM D (20 + c * 4)) < lvM (phM D (10 + D.fm c)) ∧ lvM (phM D (10 + D.fm c)) ≤ 2
    rw [(ph_b (by omega)).2, ph_c]
    unfold lvM
    rw [if_neg (by omega), if_pos (by omega), if_neg (by omega)]
    decide
  · exact absurd (show (1 : Nat) = 0 from h) (by decide)
  · exact absurd (show (1 : Nat) = 0 from h) (by decide)
/-- every node has its number among the reference's -/
theorem ph_lt {D : DZ} (hD : DW D) {v : Nat} (hv : v ∈ mE D) : phM D v < baM D D.nc := by
  have h10 := hD.nb
  have h20 := hD.nc
  have h40 := ba_ge (D := D) (c := D.nc)
  rcases mE_cases hv with h1 | ⟨b, h1, rfl⟩ | ⟨c, b, h1, h2, rfl⟩
  · rw [(ph_b (by omega)).1]; omega
  · rw [(ph_b (by omega)).2]; omega
  · have h3 := (hD.ch c h1).2.2
    by_cases e : b = 0
    · subst e
      rw [show 20 + c * 4 + 0 = 20 + c * 4 from rfl, ph_c]
      omega
    · rw [ph_k (by omega) (by omega)]
      have h4 := ba_mono (D := D) (c := c + 1) (c' := D.nc) h1
      rw [ba_s] at h4
      omega
theorem ba_120 {D : DZ} (hD : DW D) : baM D D.nc ≤ 100 := by
  have h1 := ba_le hD (Nat.le_refl D.nc)
  have := hD.nc
  omega
/-- arcs of the reference: numbers in bounds -/
theorem gM_b {D : DZ} (hD : DW D) : ∀ a, a ∈ gM D → a.1 < baM D D.nc ∧ a.2.1 < baM D D.nc ∧ a.2.2.1 ≤ 2 ∧ a.2.2.2 ≤ 1 := by
  refine gM_cases (fun a ha => ?_)
  have h1 := mE_a hD a ha
  have h2 := (GW_E hD).a a ha
  exact ⟨ph_lt hD h1.1, ph_lt hD h1.2, h2.2.2.1, h2.2.2.2⟩
theorem nd_ba {D : DZ} (hD : DW D) : ndE D ≤ baM D D.nc := by
  have h10 := hD.nb
  have h20 := hD.nc
  unfold ndE baM
  rw [fo_st D.nc]
  omega
/-! what the search over all of them finds -/
def AtM (E : List ra_A) (far T L : Nat) : Prop := (L = 0 ∧ T = 1) ∨ ∃ s, 1 ≤ L ∧ rb_run E far s L s = T ∧ T < far
def LoM (E : List ra_A) (far T L s len : Nat) : Prop := rb_run E far s len s < far → T * len ≤ rb_run E far s len s * L
theorem Lo_up {E : List ra_A} {far T L s len v len' : Nat} (hA : AtM E far T L) (hl : 1 ≤ len) (h : LoM E far T L s len) (hu : v * L < T * len') : LoM E far v len' s len := by
  intro hf
  have h1 := h hf
  by_cases e : L = 0
  · rcases hA with ⟨-, h3⟩ | ⟨s', h3, -⟩
    · rw [e, Nat.mul_zero, h3, Nat.one_mul] at h1
      omega
    · omega
  · have h2 : v * L * len ≤ T * len' * len := Nat.mul_le_mul_right _ (Nat.le_of_lt hu)
    have h3 : T * len' * len ≤ rb_run E far s len s * L * len' := by
      rw [Nat.mul_assoc, Nat.mul_comm len', ← Nat.mul_assoc]
      exact Nat.mul_le_mul_right _ h1
    have h4 : L * (v * len) ≤ L * (rb_run E far s len s * len') := by
      calc L * (v * len) = v * L * len := by rw [← Nat.mul_assoc, Nat.mul_comm L v]
        _ ≤ T * len' * len := h2
        _ ≤ rb_run E far s len s * L * len' := h3
        _ = L * (rb_run E far s len s * len') := by rw [← Nat.mul_assoc, Nat.mul_comm L]
    exact Nat.le_of_mul_le_mul_left h4 (by omega)
/-- the best of all walks is the rate -/
theorem best_is {D : DZ} (hD : DW D) {r : Nat × Nat} (hr : isR D r) {T L : Nat} (hnb : D.nb ≠ 0) (hA : AtM (gM D) 1000000 T L) (hL : ∀ s, s < baM D D.nc → ∀ len, 1 ≤ len → len ≤ baM D D.nc → LoM (gM D) 1000000 T L s len) : 1 ≤ T ∧ 1 ≤ L ∧ T / Nat.gcd T L = r.1 ∧ L / Nat.gcd T L = r.2 := by
  obtain ⟨a1, a2, a3, a4⟩ := hr
  have h20 := ba_120 hD
  rcases a1 with ⟨h1, -⟩ | ⟨u, w, k1, k2, k3, k4, k5⟩
  · exfalso
    have m1 : ((0, 10 + 0, 0, 0) : ra_A) ∈ gE D D.nb D.nc := gE_mem.mpr (Or.inl ⟨0, by omega, by simp [gB1]⟩)
    rw [h1] at m1
    cases m1
  · have hu : u ∈ mE D := by
      cases w with
      | nil => exact absurd rfl k2
      | cons a w =>
        have := (mE_a hD a k1.1).1
        rw [k1.2.1] at this
        exact this
    have hb := ra_wk_b (GW_E hD) w u u k1
    have hnd := ndE_b hD
    have hnb2 := nd_ba hD
    obtain ⟨m1, m2, m3⟩ := wk_to w u u k1
    have hmin := rb_run_min (E := gM D) (far := 1000000) (s := phM D u) (lv := lvM) (fun a ha h0 => (lvM_a hD a ha h0).1) (fun a ha h0 => (lvM_a hD a ha h0).2) (fun a ha => by
      have := (gM_b hD a ha).2.2.2
      omega) _ _ (phM D u) rfl m1
    rw [m2, m3] at hmin
    have hlo := hL (phM D u) (ph_lt hD hu) (ra_ln w) k4 (by omega) (by omega)
    have hlo2 : T * ra_ln w ≤ ra_tk w * L := Nat.le_trans hlo (Nat.mul_le_mul_right _ hmin)
    rcases hA with ⟨h3, h4⟩ | ⟨s, h3, h4, h5⟩
    · exfalso
      rw [h3, h4, Nat.mul_zero, Nat.one_mul] at hlo2
      omega
    · have hre := (rb_run_re (E := gM D) (far := 1000000) (s := s) L).1 s (by rw [h4]; exact h5)
      obtain ⟨w2, n1, n2, n3⟩ := hre
      rw [h4] at n2
      have hne : w2 ≠ [] := fun z => by
        rw [z] at n3
        have : ra_ln [] = 0 := rfl
        omega
      obtain ⟨u3, w3, p1, p2, p3, p4⟩ := wk_cl hD hne n1
      have hT := tk_pos hD u3 w3 p1 p2
      rw [p3, n2] at hT
      have h6 := a4 u3 w3 p2
      rw [p3, p4, n2, n3] at h6
      have h7 : T * r.2 ≤ r.1 * L := by
        have h8 : ra_ln w * (T * r.2) ≤ ra_ln w * (r.1 * L) := by
          calc ra_ln w * (T * r.2) = T * ra_ln w * r.2 := by rw [← Nat.mul_assoc, Nat.mul_comm (ra_ln w) T]
            _ ≤ ra_tk w * L * r.2 := Nat.mul_le_mul_right _ hlo2
            _ = ra_tk w * r.2 * L := by rw [Nat.mul_assoc, Nat.mul_comm L, ← Nat.mul_assoc]
            _ = r.1 * ra_ln w * L := by rw [k5]
            _ = ra_ln w * (r.1 * L) := by rw [← Nat.mul_assoc, Nat.mul_comm (ra_ln w) r.1]
        exact Nat.le_of_mul_le_mul_left h8 (by omega)
      have h9 : T * r.2 = r.1 * L := Nat.le_antisymm h7 h6
      have hgp : 0 < Nat.gcd T L := Nat.gcd_pos_of_pos_left _ hT
      have g1 : Nat.gcd T L * (T / Nat.gcd T L) = T := Nat.mul_div_cancel' (Nat.gcd_dvd_left _ _)
      have g2 : Nat.gcd T L * (L / Nat.gcd T L) = L := Nat.mul_div_cancel' (Nat.gcd_dvd_right _ _)
      have g3 : Nat.gcd (T / Nat.gcd T L) (L / Nat.gcd T L) = 1 := Nat.coprime_div_gcd_div_gcd hgp
      have h10 : T / Nat.gcd T L * r.2 = r.1 * (L / Nat.gcd T L) := by
        have h11 : Nat.gcd T L * (T / Nat.gcd T L * r.2) = Nat.gcd T L * (r.1 * (L / Nat.gcd T L)) := by
          calc Nat.gcd T L * (T / Nat.gcd T L * r.2) = T * r.2 := by rw [← Nat.mul_assoc, g1]
            _ = r.1 * L := h9
            _ = r.1 * (Nat.gcd T L * (L / Nat.gcd T L)) := by rw [g2]
            _ = Nat.gcd T L * (r.1 * (L / Nat.gcd T L)) := by rw [← Nat.mul_assoc, Nat.mul_comm r.1, Nat.mul_assoc]
        exact Nat.eq_of_mul_eq_mul_left hgp h11
      have h12 := ra_same h10 g3 a2
      exact ⟨hT, h3, h12.1, h12.2⟩
