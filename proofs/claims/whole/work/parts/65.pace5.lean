/-! the pace: the rate of a design -/
theorem gE_mem {D : DZ} {n m : Nat} {a : ra_A} : a ∈ gE D n m ↔ (∃ b, b < n ∧ a ∈ gB1 b) ∨ (∃ c, c < m ∧ (a = (D.fm c, 20 + c * 4, 0, 0) ∨ a = (20 + c * 4, 10 + D.fm c, 0, 0) ∨ ∃ b, b < D.ex c + 1 ∧ a ∈ gC1 D c b)) := by
  unfold gE gC
  simp only [List.mem_append, List.mem_flatMap, List.mem_range, List.mem_cons, List.not_mem_nil, or_false]
  constructor
  · rintro (⟨b, h1, h2⟩ | ⟨c, h1, h2⟩)
    · exact Or.inl ⟨b, h1, h2⟩
    · refine Or.inr ⟨c, h1, ?_⟩
      rcases h2 with (h3 | h3) | ⟨b, h3, h4⟩
      · exact Or.inl h3
      · exact Or.inr (Or.inl h3)
      · exact Or.inr (Or.inr ⟨b, h3, h4⟩)
  · rintro (⟨b, h1, h2⟩ | ⟨c, h1, h2⟩)
    · exact Or.inl ⟨b, h1, h2⟩
    · refine Or.inr ⟨c, h1, ?_⟩
      rcases h2 with h3 | h3 | ⟨b, h3, h4⟩
      · exact Or.inl (Or.inl h3)
      · exact Or.inl (Or.inr h3)
      · exact Or.inr ⟨b, h3, h4⟩
/-- every arc, one by one -/
theorem gE_cases {D : DZ} {P : ra_A → Prop} (h1 : ∀ b, b < D.nb → P (b, 10 + b, 0, 0)) (h2 : ∀ b, b < D.nb → P (10 + b, b, 1, 1)) (h3 : ∀ c, c < D.nc → P (D.fm c, 20 + c * 4, 0, 0)) (h4 : ∀ c, c < D.nc → P (20 + c * 4, 10 + D.fm c, 0, 0)) (h5 : ∀ c, c < D.nc → ∀ b, b ≤ D.ex c → P (20 + c * 4 + b, (if b < D.ex c then 20 + c * 4 + b + 1 else D.to c), (if b = 0 then 1 else 0), 1)) (h6 : ∀ c, c < D.nc → ∀ b, b ≤ D.ex c → P ((if b < D.ex c then 20 + c * 4 + b + 1 else 10 + D.to c), 20 + c * 4 + b, 2 - (if b = 0 then 1 else 0), 1)) : ∀ a, a ∈ gE D D.nb D.nc → P a := by
  intro a ha
  rcases gE_mem.mp ha with ⟨b, k1, k2⟩ | ⟨c, k1, k2 | k2 | ⟨b, k2, k3⟩⟩
  · simp only [gB1, List.mem_cons, List.not_mem_nil, or_false] at k2
    rcases k2 with rfl | rfl
    · exact h1 b k1
    · exact h2 b k1
  · rw [k2]; exact h3 c k1
  · rw [k2]; exact h4 c k1
  · simp only [gC1, List.mem_cons, List.not_mem_nil, or_false] at k3
    rcases k3 with rfl | rfl
    · exact h5 c k1 b (by omega)
    · exact h6 c k1 b (by omega)
theorem GW_E {D : DZ} (hD : DW D) : GW (gE D D.nb D.nc) := by
  have h10 := hD.nb
  have h20 := hD.nc
  refine GW.mk (gE_cases (fun b hb => ?_) (fun b hb => ?_) (fun c hc => ?_) (fun c hc => ?_) (fun c hc b hb => ?_) (fun c hc b hb => ?_)) (by have := gE_l hD D.nb D.nc (Nat.le_refl _); omega)
  · exact ⟨by show b < 100; omega, by show 10 + b < 100; omega, Nat.le_of_ble_eq_true rfl, Nat.le_of_ble_eq_true rfl⟩
  · exact ⟨by show 10 + b < 100; omega, by show b < 100; omega, Nat.le_of_ble_eq_true rfl, Nat.le_of_ble_eq_true rfl⟩
  · have := hD.ch c hc
    exact ⟨by show D.fm c < 100; omega, by show 20 + c * 4 < 100; omega, Nat.le_of_ble_eq_true rfl, Nat.le_of_ble_eq_true rfl⟩
  · have := hD.ch c hc
    exact ⟨by show 20 + c * 4 < 100; omega, by show 10 + D.fm c < 100; omega, Nat.le_of_ble_eq_true rfl, Nat.le_of_ble_eq_true rfl⟩
  · have := hD.ch c hc
    refine ⟨by show 20 + c * 4 + b < 100; omega, ?_, ?_, Nat.le_of_ble_eq_true rfl⟩
    · show (if b < D.ex c then 20 + c * 4 + b + 1 else D.to c) < 100
      split <;> omega
    · show (if b = 0 then 1 else 0) ≤ 2
      split <;> omega
  · have := hD.ch c hc
    refine ⟨?_, by show 20 + c * 4 + b < 100; omega, ?_, Nat.le_of_ble_eq_true rfl⟩
    · show (if b < D.ex c then 20 + c * 4 + b + 1 else 10 + D.to c) < 100
      split <;> omega
    · show 2 - (if b = 0 then 1 else 0) ≤ 2
      split <;> omega
/-- the nodes -/
def mC1 (D : DZ) (c : Nat) : List Nat := (List.range (D.ex c + 1)).map (fun b => 20 + c * 4 + b)
def mE (D : DZ) : List Nat := List.range D.nb ++ (List.range D.nb).map (fun b => 10 + b) ++ (List.range D.nc).flatMap (mC1 D)
theorem fo_st {f : Nat → Nat} (a : Nat) : ∀ n, fo (fun a i => a + f i) a n = a + fo (fun a i => a + f i) 0 n
  | 0 => rfl
  | n + 1 => by
    show fo (fun a i => a + f i) a n + f n = a + (fo (fun a i => a + f i) 0 n + f n)
    rw [fo_st a n]
    omega
theorem mC_l (D : DZ) : ∀ n, ((List.range n).flatMap (mC1 D)).length = n + fo (fun a i => a + D.ex i) 0 n
  | 0 => rfl
  | n + 1 => by
    rw [List.range_succ, List.flatMap_append, List.flatMap_singleton, List.length_append, mC_l D n]
    show _ + ((List.range (D.ex n + 1)).map _).length = n + 1 + (fo (fun a i => a + D.ex i) 0 n + D.ex n)
    rw [List.length_map, List.length_range]
    omega
theorem mE_l (D : DZ) : (mE D).length = ndE D := by
  unfold mE ndE
  rw [List.length_append, List.length_append, List.length_range, List.length_map, List.length_range, mC_l, fo_st D.nc]
  omega
theorem ndE_b {D : DZ} (hD : DW D) : ndE D ≤ 100 := by
  have h1 := sum_b hD D.nc (Nat.le_refl _)
  have h10 := hD.nb
  have h20 := hD.nc
  unfold ndE
  omega
theorem mE_b {D : DZ} {b : Nat} (h : b < D.nb) : b ∈ mE D ∧ 10 + b ∈ mE D := by
  unfold mE
  simp only [List.mem_append, List.mem_range, List.mem_map]
  exact ⟨Or.inl (Or.inl h), Or.inl (Or.inr ⟨b, h, rfl⟩)⟩
theorem mE_c {D : DZ} {c b : Nat} (h : c < D.nc) (hb : b ≤ D.ex c) : 20 + c * 4 + b ∈ mE D := by
  unfold mE
  refine List.mem_append_right _ (List.mem_flatMap.mpr ⟨c, List.mem_range.mpr h, ?_⟩)
  unfold mC1
  exact List.mem_map.mpr ⟨b, List.mem_range.mpr (by omega), rfl⟩
theorem mE_a {D : DZ} (hD : DW D) : ∀ a, a ∈ gE D D.nb D.nc → a.1 ∈ mE D ∧ a.2.1 ∈ mE D := by
  refine gE_cases (fun b hb => ?_) (fun b hb => ?_) (fun c hc => ?_) (fun c hc => ?_) (fun c hc b hb => ?_) (fun c hc b hb => ?_)
  · exact mE_b hb
  · exact ⟨(mE_b hb).2, (mE_b hb).1⟩
  · exact ⟨(mE_b (hD.ch c hc).1).1, mE_c (b := 0) hc (Nat.zero_le _)⟩
  · exact ⟨mE_c (b := 0) hc (Nat.zero_le _), (mE_b (hD.ch c hc).1).2⟩
  · refine ⟨mE_c hc hb, ?_⟩
    show (if b < D.ex c then 20 + c * 4 + b + 1 else D.to c) ∈ mE D
    split
    · exact mE_c (b := b + 1) hc (by omega)
    · exact (mE_b (hD.ch c hc).2.1).1
  · refine ⟨?_, mE_c hc hb⟩
    show (if b < D.ex c then 20 + c * 4 + b + 1 else 10 + D.to c) ∈ mE D
    split
    · exact mE_c (b := b + 1) hc (by omega)
    · exact (mE_b (hD.ch c hc).2.1).2
/-! no cycle without a token -/
def rkE (v : Nat) : Nat := if v < 10 then 4 else if v < 20 then 6 else if (v - 20) % 4 = 0 then 5 else (v - 20) % 4
theorem rkE_a {D : DZ} (hD : DW D) : ∀ a, a ∈ gE D D.nb D.nc → a.2.2.1 = 0 → rkE a.1 < rkE a.2.1 := by
  have h10 := hD.nb
  refine gE_cases (fun b hb _ => ?_) (fun b hb h => ?_) (fun c hc _ => ?_) (fun c hc _ => ?_) (fun c hc b hb h => ?_) (fun c hc b hb h => ?_)
  · show rkE b < rkE (10 + b)
    unfold rkE
    rw [if_pos (by omega), if_neg (by omega), if_pos (by omega)]
    decide
  · exact absurd (show (1 : Nat) = 0 from h) (by decide)
  · have := hD.ch c hc
    show rkE (D.fm c) < rkE (20 + c * 4)
    unfold rkE
    rw [if_pos (by omega), if_neg (by omega), if_neg (by omega), if_pos (by omega)]
    decide
  · have := hD.ch c hc
    show rkE (20 + c * 4) < rkE (10 + D.fm c)
    unfold rkE
    rw [if_neg (by omega), if_neg (by omega), if_pos (by omega), if_neg (by omega), if_pos (by omega)]
    decide
  · have h7 := hD.ch c hc
    have h' : (if b = 0 then 1 else 0) = 0 := h
    have hb0 : b ≠ 0 := fun e => by rw [if_pos e] at h'; exact absurd h' (by decide)
    have e1 : rkE (20 + c * 4 + b) = b := by
      unfold rkE
      rw [if_neg (by omega), if_neg (by omega), if_neg (by omega)]
      omega
    show rkE (20 + c * 4 + b) < rkE (if b < D.ex c then 20 + c * 4 + b + 1 else D.to c)
    rw [e1]
    split
    · have e2 : rkE (20 + c * 4 + b + 1) = b + 1 := by
        unfold rkE
        rw [if_neg (by omega), if_neg (by omega), if_neg (by omega)]
        omega
      omega
    · unfold rkE
      rw [if_pos (by omega)]
      omega
  · have h' : 2 - (if b = 0 then 1 else 0) = 0 := h
    split at h' <;> omega
theorem rk_wk {G : List ra_A} (h : ∀ a, a ∈ G → a.2.2.1 = 0 → rkE a.1 < rkE a.2.1) : ∀ (w : List ra_A) (u v : Nat), ra_wk (· ∈ G) u w v → ra_tk w = 0 → rkE u + w.length ≤ rkE v
  | [], u, v, hw, _ => by
    have : u = v := hw
    rw [this]
    exact Nat.le_refl _
  | a :: w, u, v, hw, h0 => by
    have h0' : a.2.2.1 + ra_tk w = 0 := h0
    have h1 := rk_wk h w a.2.1 v hw.2.2 (by omega)
    have h2 := h a hw.1 (by omega)
    rw [hw.2.1] at h2
    show rkE u + (w.length + 1) ≤ rkE v
    omega
theorem tk_pos {D : DZ} (hD : DW D) : ∀ u w, w ≠ [] → ra_wk (· ∈ gE D D.nb D.nc) u w u → 1 ≤ ra_tk w := by
  intro u w hne hw
  by_cases e : ra_tk w = 0
  · have h1 := rk_wk (rkE_a hD) w u u hw e
    have h2 : w.length ≠ 0 := fun z => hne (List.length_eq_zero_iff.mp z)
    omega
  · omega
/-! the rate -/
def AtG (G : List ra_A) (N t l : Nat) : Prop := (G = [] ∧ t = 1 ∧ l = 1) ∨ ∃ u w, ra_wk (· ∈ G) u w u ∧ w ≠ [] ∧ w.length ≤ N ∧ 1 ≤ ra_ln w ∧ ra_tk w * l = t * ra_ln w
def isR (D : DZ) (r : Nat × Nat) : Prop := AtG (gE D D.nb D.nc) (ndE D) r.1 r.2 ∧ Nat.gcd r.1 r.2 = 1 ∧ 1 ≤ r.2 ∧ ∀ u w, ra_wk (· ∈ gE D D.nb D.nc) u w u → r.1 * ra_ln w ≤ ra_tk w * r.2
theorem rt_le {G : List ra_A} {N t l t' l' : Nat} (hA : AtG G N t l) (hlo : ∀ u w, ra_wk (· ∈ G) u w u → t' * ra_ln w ≤ ra_tk w * l') (h1 : G = [] → t' * l ≤ t * l') : t' * l ≤ t * l' := by
  rcases hA with ⟨h2, h3, h4⟩ | ⟨u, w, k1, k2, k3, k4, k5⟩
  · exact h1 h2
  · have h6 := hlo u w k1
    have h7 : t' * ra_ln w * l ≤ ra_tk w * l' * l := Nat.mul_le_mul_right l h6
    have h8 : ra_ln w * (t' * l) ≤ ra_ln w * (t * l') := by
      calc ra_ln w * (t' * l) = t' * ra_ln w * l := by rw [← Nat.mul_assoc, Nat.mul_comm (ra_ln w) t']
        _ ≤ ra_tk w * l' * l := h7
        _ = ra_tk w * l * l' := by rw [Nat.mul_assoc, Nat.mul_comm l', ← Nat.mul_assoc]
        _ = t * ra_ln w * l' := by rw [k5]
        _ = ra_ln w * (t * l') := by rw [← Nat.mul_assoc, Nat.mul_comm (ra_ln w) t]
    exact Nat.le_of_mul_le_mul_left h8 (by omega)
theorem isR_u {D : DZ} {r r' : Nat × Nat} (h : isR D r) (h' : isR D r') : r = r' := by
  obtain ⟨a1, a2, a3, a4⟩ := h
  obtain ⟨b1, b2, b3, b4⟩ := h'
  have key : gE D D.nb D.nc = [] → r = r' := by
    intro e
    rcases a1 with ⟨-, h2, h3⟩ | ⟨u, w, k1, k2, -⟩
    · rcases b1 with ⟨-, h4, h5⟩ | ⟨u, w, k1, k2, -⟩
      · exact Prod.ext (h2.trans h4.symm) (h3.trans h5.symm)
      · cases w with
        | nil => exact absurd rfl k2
        | cons a w => have := k1.1; rw [e] at this; cases this
    · cases w with
      | nil => exact absurd rfl k2
      | cons a w => have := k1.1; rw [e] at this; cases this
  have h1 := rt_le a1 b4 (fun e => by rw [key e]; exact Nat.le_refl _)
  have h2 := rt_le b1 a4 (fun e => by rw [key e]; exact Nat.le_refl _)
  have h3 := ra_same (t := r.1) (l := r.2) (t' := r'.1) (l' := r'.2) (by omega) a2 b2
  exact Prod.ext h3.1 h3.2
noncomputable def RTM (D : DZ) : Nat × Nat := Classical.epsilon (isR D)
theorem RTM_is {D : DZ} {r : Nat × Nat} (h : isR D r) : RTM D = r := isR_u (Classical.epsilon_spec (p := isR D) ⟨r, h⟩) h
/-! the search comes to its end -/
def muT (t l : Nat) : Nat := 10001 * t / l
theorem mu_lt {t l t' l' : Nat} (h : t' * l < t * l') (h1 : 1 ≤ l) (h2 : l ≤ 100) (h3 : 1 ≤ l') (h4 : l' ≤ 100) : muT t' l' < muT t l := by
  refine Nat.lt_of_not_le (fun hle => ?_)
  unfold muT at hle
  have a1 : 10001 * t' / l' * l' ≤ 10001 * t' := Nat.div_mul_le_self _ _
  have a2 : 10001 * t < (10001 * t / l + 1) * l := by
    have := Nat.lt_div_mul_add (a := 10001 * t) (b := l) h1
    rw [Nat.add_mul, Nat.one_mul]
    exact this
  generalize 10001 * t' / l' = q' at hle a1
  generalize 10001 * t / l = q at hle a2
  have a3 : (q + 1) * l ≤ (q' + 1) * l := Nat.mul_le_mul_right l (by omega)
  have a4 : 10001 * t * l' < (q' + 1) * l * l' := Nat.mul_lt_mul_of_pos_right (Nat.lt_of_lt_of_le a2 a3) h3
  have a5 : (q' + 1) * l * l' = q' * l' * l + l * l' := by
    rw [Nat.add_mul, Nat.one_mul, Nat.add_mul, Nat.mul_assoc, Nat.mul_comm l l', ← Nat.mul_assoc]
  have a6 : q' * l' * l ≤ 10001 * t' * l := Nat.mul_le_mul_right l a1
  have a7 : l * l' ≤ 100 * 100 := Nat.mul_le_mul h2 h4
  have a8 : 10001 * t * l' = 10001 * (t * l') := Nat.mul_assoc _ _ _
  have a9 : 10001 * t' * l = 10001 * (t' * l) := Nat.mul_assoc _ _ _
  omega
