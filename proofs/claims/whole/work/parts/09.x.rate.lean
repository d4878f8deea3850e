/-! Cycles with tokens and lengths: the search for negative cycles (class), least walks (reference). Arcs: from, to, tokens, length. -/
abbrev ra_A : Type := Nat × Nat × Nat × Nat
def ra_wk (E : ra_A → Prop) : Nat → List ra_A → Nat → Prop
  | u, [], v => u = v
  | u, a :: w, v => E a ∧ a.1 = u ∧ ra_wk E a.2.1 w v
def ra_tk : List ra_A → Nat
  | [] => 0
  | a :: w => a.2.2.1 + ra_tk w
def ra_ln : List ra_A → Nat
  | [] => 0
  | a :: w => a.2.2.2 + ra_ln w
/-- the weight of an arc at the ratio t / l -/
def ra_w (t l : Nat) (a : ra_A) : Int := (a.2.2.1 : Int) * l - (a.2.2.2 : Int) * t
def ra_wt (t l : Nat) : List ra_A → Int
  | [] => 0
  | a :: w => ra_w t l a + ra_wt t l w
theorem ra_wt_eq (t l : Nat) : ∀ w : List ra_A, ra_wt t l w = (ra_tk w : Int) * l - (ra_ln w : Int) * t
  | [] => by simp [ra_wt, ra_tk, ra_ln]
  | a :: w => by
    simp only [ra_wt, ra_tk, ra_ln, ra_w, ra_wt_eq t l w, Int.natCast_add, Int.add_mul]
    omega
theorem ra_pot {E : ra_A → Prop} {t l : Nat} {d : Nat → Int} (h : ∀ a, E a → d a.2.1 ≤ d a.1 + ra_w t l a) : ∀ (w : List ra_A) (u v : Nat), ra_wk E u w v → d v ≤ d u + ra_wt t l w
  | [], u, v, hw => by
    have : u = v := hw
    subst this
    simp [ra_wt]
  | a :: w, u, v, hw => by
    obtain ⟨h1, h2, h3⟩ := hw
    have i1 := ra_pot h w a.2.1 v h3
    have i2 := h a h1
    rw [h2] at i2
    simp only [ra_wt]
    omega
/-- no closed walk lies below the ratio, where distances don't shrink -/
theorem ra_low {E : ra_A → Prop} {t l : Nat} {d : Nat → Int} (h : ∀ a, E a → d a.2.1 ≤ d a.1 + ra_w t l a) {u : Nat} {w : List ra_A} (hw : ra_wk E u w u) : t * ra_ln w ≤ ra_tk w * l := by
  have h1 := ra_pot h w u u hw
  rw [ra_wt_eq] at h1
  have h2 : (ra_ln w : Int) * t ≤ (ra_tk w : Int) * l := by omega
  have h3 : ra_ln w * t ≤ ra_tk w * l := by exact_mod_cast h2
  rw [Nat.mul_comm]
  exact h3
/-- the other way round: where the last arc of each node holds the distance down -/
theorem ra_up {E : ra_A → Prop} {t l : Nat} {d : Nat → Int} {x : ra_A} (h : ∀ a, E a → ra_w t l a ≤ d a.2.1 - d a.1 ∧ (a = x → ra_w t l a < d a.2.1 - d a.1)) : ∀ (w : List ra_A) (u v : Nat), ra_wk E u w v → ra_wt t l w ≤ d v - d u ∧ (x ∈ w → ra_wt t l w < d v - d u)
  | [], u, v, hw => by
    have : u = v := hw
    subst this
    refine ⟨by simp [ra_wt], fun h => by cases h⟩
  | a :: w, u, v, hw => by
    obtain ⟨h1, h2, h3⟩ := hw
    obtain ⟨i1, i2⟩ := ra_up h w a.2.1 v h3
    obtain ⟨j1, j2⟩ := h a h1
    rw [h2] at j1 j2
    simp only [ra_wt]
    refine ⟨by omega, fun hm => ?_⟩
    rcases List.mem_cons.mp hm with e | e
    · have := j2 e.symm
      omega
    · have := i2 e
      omega
theorem ra_wk_mono {E F : ra_A → Prop} : ∀ (w : List ra_A) (u v : Nat), (∀ a ∈ w, E a → F a) → ra_wk E u w v → ra_wk F u w v
  | [], _, _, _, h => h
  | a :: w, u, v, hm, h => ⟨hm a List.mem_cons_self h.1, h.2.1, ra_wk_mono w a.2.1 v (fun b hb => hm b (List.mem_cons_of_mem _ hb)) h.2.2⟩
theorem ra_wk_app {E : ra_A → Prop} : ∀ (w1 w2 : List ra_A) (u v z : Nat), ra_wk E u w1 v → ra_wk E v w2 z → ra_wk E u (w1 ++ w2) z
  | [], _, u, v, z, h1, h2 => by
    have : u = v := h1
    subst this
    exact h2
  | a :: w1, w2, u, v, z, h1, h2 => ⟨h1.1, h1.2.1, ra_wk_app w1 w2 a.2.1 v z h1.2.2 h2⟩
theorem ra_tk_app : ∀ (w1 w2 : List ra_A), ra_tk (w1 ++ w2) = ra_tk w1 + ra_tk w2
  | [], w2 => by simp [ra_tk]
  | a :: w1, w2 => by simp only [List.cons_append, ra_tk, ra_tk_app w1 w2]; omega
theorem ra_ln_app : ∀ (w1 w2 : List ra_A), ra_ln (w1 ++ w2) = ra_ln w1 + ra_ln w2
  | [], w2 => by simp [ra_ln]
  | a :: w1, w2 => by simp only [List.cons_append, ra_ln, ra_ln_app w1 w2]; omega
/-! the state of the search: distances, last arcs, and (a ghost) in which round a node shrank last -/
abbrev ra_S : Type := (Nat → Int) × (Nat → Option ra_A) × (Nat → Nat)
def ra_fu {α : Type} (f : Nat → α) (k : Nat) (x : α) : Nat → α := fun j => if j = k then x else f j
def ra_re (t l r : Nat) (s : ra_S) (a : ra_A) : ra_S := if s.1 a.1 + ra_w t l a < s.1 a.2.1 then (ra_fu s.1 a.2.1 (s.1 a.1 + ra_w t l a), ra_fu s.2.1 a.2.1 (some a), ra_fu s.2.2 a.2.1 r) else s
/-- an arc by which its end's distance became what it is -/
def ra_pa (s : ra_S) : ra_A → Prop := fun a => s.2.1 a.2.1 = some a
def ra_I (E : ra_A → Prop) (t l : Nat) (s : ra_S) : Prop :=
  (∀ v a, s.2.1 v = some a → E a ∧ a.2.1 = v ∧ s.1 a.1 + ra_w t l a ≤ s.1 v) ∧
  (∀ u w, w ≠ [] → ra_wk (ra_pa s) u w u → ra_wt t l w < 0) ∧
  (∀ v a, s.2.1 v = some a → s.2.2 v ≤ s.2.2 a.1 + 1) ∧
  (∀ v, 1 ≤ s.2.2 v → ∃ a, s.2.1 v = some a)
/-- arc a was looked at in round r (or its beginning has shrunk in it) -/
def ra_K (t l r : Nat) (s : ra_S) (a : ra_A) : Prop := s.1 a.2.1 ≤ s.1 a.1 + ra_w t l a ∨ r ≤ s.2.2 a.1
theorem ra_re_I {E : ra_A → Prop} {t l r : Nat} {s : ra_S} {a : ra_A} (ha : E a) (hr : ∀ v, s.2.2 v ≤ r) (hK : ra_K t l (r - 1) s a) (h : ra_I E t l s) : ra_I E t l (ra_re t l r s a) := by
  unfold ra_re
  by_cases hc : s.1 a.1 + ra_w t l a < s.1 a.2.1
  · rw [if_pos hc]
    obtain ⟨h1, h2, h3, h4⟩ := h
    have hne : s.1 a.1 + ra_w t l a < s.1 a.2.1 := hc
    refine ⟨fun v x hx => ?_, fun u w hw hwk => ?_, fun v x hx => ?_, fun v hv => ?_⟩
    · simp only [ra_fu] at hx ⊢
      by_cases hv : v = a.2.1
      · rw [if_pos hv] at hx
        cases hx
        refine ⟨ha, hv.symm, ?_⟩
        rw [if_pos hv]
        by_cases hs : a.1 = a.2.1
        · rw [if_pos hs]
          rw [hs] at hc ⊢
          omega
        · rw [if_neg hs]
          omega
      · rw [if_neg hv] at hx
        obtain ⟨g1, g2, g3⟩ := h1 v x hx
        refine ⟨g1, g2, ?_⟩
        rw [if_neg hv]
        by_cases hs : x.1 = a.2.1
        · rw [if_pos hs]
          rw [hs] at g3
          omega
        · rw [if_neg hs]
          exact g3
    · by_cases hm : a ∈ w
      · have key : ∀ b, ra_pa (ra_fu s.1 a.2.1 (s.1 a.1 + ra_w t l a), ra_fu s.2.1 a.2.1 (some a), ra_fu s.2.2 a.2.1 r) b → ra_w t l b ≤ s.1 b.2.1 - s.1 b.1 ∧ (b = a → ra_w t l b < s.1 b.2.1 - s.1 b.1) := by
          intro b hb
          simp only [ra_pa, ra_fu] at hb
          by_cases hv : b.2.1 = a.2.1
          · rw [if_pos hv] at hb
            cases hb
            exact ⟨by omega, fun _ => by omega⟩
          · rw [if_neg hv] at hb
            obtain ⟨-, -, g3⟩ := h1 _ b hb
            exact ⟨by omega, fun e => absurd (by rw [e]) hv⟩
        have := (ra_up key w u u hwk).2 hm
        omega
      · refine h2 u w hw (ra_wk_mono w u u (fun b hb hp => ?_) hwk)
        simp only [ra_pa, ra_fu] at hp ⊢
        by_cases hv : b.2.1 = a.2.1
        · rw [if_pos hv] at hp
          cases hp
          exact absurd hb hm
        · rw [if_neg hv] at hp
          exact hp
    · simp only [ra_fu] at hx ⊢
      have hr' := hr
      by_cases hv : v = a.2.1
      · rw [if_pos hv] at hx ⊢
        cases hx
        by_cases hs : a.1 = a.2.1
        · rw [if_pos hs]
          omega
        · rw [if_neg hs]
          rcases hK with hK | hK
          · omega
          · omega
      · rw [if_neg hv] at hx ⊢
        have g := h3 v x hx
        by_cases hs : x.1 = a.2.1
        · rw [if_pos hs]
          have := hr v
          omega
        · rw [if_neg hs]
          exact g
    · simp only [ra_fu] at hv ⊢
      by_cases hv2 : v = a.2.1
      · rw [if_pos hv2]
        exact ⟨a, rfl⟩
      · rw [if_neg hv2] at hv ⊢
        exact h4 v hv
  · rw [if_neg hc]
    exact h
theorem ra_re_le {t l r : Nat} {s : ra_S} {a : ra_A} (hr : ∀ v, s.2.2 v ≤ r) : ∀ v, (ra_re t l r s a).2.2 v ≤ r := by
  intro v
  unfold ra_re
  split
  · simp only [ra_fu]
    split
    · exact Nat.le_refl _
    · exact hr v
  · exact hr v
theorem ra_re_K {t l r q : Nat} {s : ra_S} {a b : ra_A} (hq : q ≤ r) (h : ra_K t l q s b) : ra_K t l q (ra_re t l r s a) b := by
  unfold ra_re
  by_cases hc : s.1 a.1 + ra_w t l a < s.1 a.2.1
  · rw [if_pos hc]
    unfold ra_K at h ⊢
    simp only [ra_fu]
    by_cases hs : b.1 = a.2.1
    · rw [if_pos hs, if_pos hs]
      exact Or.inr hq
    · rw [if_neg hs, if_neg hs]
      by_cases hv : b.2.1 = a.2.1
      · rw [if_pos hv]
        rcases h with h | h
        · left
          rw [hv] at h
          omega
        · exact Or.inr h
      · rw [if_neg hv]
        exact h
  · rw [if_neg hc]
    exact h
theorem ra_re_Kself {t l r : Nat} {s : ra_S} {a : ra_A} : ra_K t l r (ra_re t l r s a) a := by
  unfold ra_re
  by_cases hc : s.1 a.1 + ra_w t l a < s.1 a.2.1
  · rw [if_pos hc]
    unfold ra_K
    simp only [ra_fu]
    by_cases hs : a.1 = a.2.1
    · rw [if_pos hs, if_pos hs]
      exact Or.inr (Nat.le_refl _)
    · rw [if_neg hs]
      left
      simp
  · rw [if_neg hc]
    left
    omega
/-! a whole round over the arcs -/
theorem ra_round {E : ra_A → Prop} {t l r : Nat} (hr1 : 1 ≤ r) : ∀ (todo : List ra_A) (s : ra_S), (∀ a ∈ todo, E a) → (∀ v, s.2.2 v ≤ r) → (∀ a ∈ todo, ra_K t l (r - 1) s a) → ra_I E t l s → ra_I E t l (todo.foldl (ra_re t l r) s) ∧ (∀ v, (todo.foldl (ra_re t l r) s).2.2 v ≤ r) ∧ (∀ a ∈ todo, ra_K t l r (todo.foldl (ra_re t l r) s) a) ∧ ∀ b, ra_K t l r s b → ra_K t l r (todo.foldl (ra_re t l r) s) b
  | [], s, _, hr, _, hI => ⟨hI, hr, fun a h => (by cases h), fun b h => h⟩
  | a :: todo, s, hE, hr, hK, hI => by
    have h1 := ra_re_I (hE a List.mem_cons_self) hr (hK a List.mem_cons_self) hI
    have h2 := ra_re_le (t := t) (l := l) (a := a) hr
    obtain ⟨g1, g2, g3, g4⟩ := ra_round hr1 todo (ra_re t l r s a) (fun b hb => hE b (List.mem_cons_of_mem _ hb)) h2 (fun b hb => ra_re_K (by omega) (hK b (List.mem_cons_of_mem _ hb))) h1
    refine ⟨g1, g2, fun b hb => ?_, fun b hb => g4 b (ra_re_K (Nat.le_refl _) hb)⟩
    rcases List.mem_cons.mp hb with e | e
    · rw [e]
      exact g4 a ra_re_Kself
    · exact g3 b e
/-! the way back along the last arcs -/
def ra_g (s : ra_S) (v : Nat) : Nat := match s.2.1 v with
  | some a => a.1
  | none => v
def ra_it (s : ra_S) : Nat → Nat → Nat
  | 0, v => v
  | k + 1, v => ra_it s k (ra_g s v)
theorem ra_it_add (s : ra_S) : ∀ (i j v : Nat), ra_it s (i + j) v = ra_it s j (ra_it s i v)
  | 0, j, v => by rw [Nat.zero_add]; rfl
  | i + 1, j, v => by
    rw [show i + 1 + j = (i + j) + 1 by omega]
    show ra_it s (i + j) (ra_g s v) = _
    rw [ra_it_add s i j (ra_g s v)]
    rfl
theorem ra_it_L {E : ra_A → Prop} {t l : Nat} {s : ra_S} (h : ra_I E t l s) : ∀ (i v n : Nat), n ≤ s.2.2 v → i ≤ n → n - i ≤ s.2.2 (ra_it s i v)
  | 0, v, n, hv, _ => hv
  | i + 1, v, n, hv, hi => by
    obtain ⟨a, ha⟩ := h.2.2.2 v (by omega)
    have h3 := h.2.2.1 v a ha
    have hg : ra_g s v = a.1 := by unfold ra_g; rw [ha]
    show n - (i + 1) ≤ s.2.2 (ra_it s i (ra_g s v))
    rw [hg]
    have := ra_it_L h i a.1 (n - 1) (by omega) (by omega)
    omega
theorem ra_len_le : ∀ (l m : List Nat), l.Nodup → (∀ x ∈ l, x ∈ m) → l.length ≤ m.length
  | [], _, _, _ => Nat.zero_le _
  | a :: l, m, hn, hs => by
    have hn' := List.nodup_cons.mp hn
    have ha := hs a List.mem_cons_self
    have := ra_len_le l (m.erase a) hn'.2 (fun x hx => (List.mem_erase_of_ne (fun (e : x = a) => hn'.1 (by rw [← e]; exact hx))).mpr (hs x (List.mem_cons_of_mem _ hx)))
    rw [List.length_erase_of_mem ha] at this
    have hp := List.length_pos_of_mem ha
    simp only [List.length_cons]
    omega
/-- more places than values: two are the same -/
theorem ra_pigeon (f : Nat → Nat) (m : List Nat) (hm : ∀ i, i ≤ m.length → f i ∈ m) : ∃ i j, i < j ∧ j ≤ m.length ∧ f i = f j := by
  refine Classical.byContradiction (fun hno => ?_)
  have hnd : ((List.range (m.length + 1)).map f).Nodup := by
    show List.Pairwise (· ≠ ·) _
    rw [List.pairwise_iff_getElem]
    intro i j hi hj hij
    simp only [List.length_map, List.length_range] at hi hj
    rw [List.getElem_map, List.getElem_map, List.getElem_range, List.getElem_range]
    intro e
    exact hno ⟨i, j, hij, by omega, e⟩
  have := ra_len_le _ m hnd (fun x hx => by
    obtain ⟨i, hi, rfl⟩ := List.mem_map.mp hx
    exact hm i (by have := List.mem_range.mp hi; omega))
  simp only [List.length_map, List.length_range] at this
  omega
/-- arcs of the way back, the last first -/
def ra_cy (s : ra_S) : Nat → Nat → List ra_A
  | 0, _ => []
  | k + 1, v => match s.2.1 v with
    | some a => ra_cy s k a.1 ++ [a]
    | none => []
theorem ra_cy_wk {E : ra_A → Prop} {t l : Nat} {s : ra_S} (h : ra_I E t l s) : ∀ (k v : Nat), (∀ i, i < k → ∃ a, s.2.1 (ra_it s i v) = some a) → ra_wk (ra_pa s) (ra_it s k v) (ra_cy s k v) v ∧ (ra_cy s k v).length = k
  | 0, v, _ => ⟨rfl, rfl⟩
  | k + 1, v, hp => by
    obtain ⟨a, ha⟩ := hp 0 (Nat.succ_pos k)
    have ha : s.2.1 v = some a := ha
    have hg : ra_g s v = a.1 := by unfold ra_g; rw [ha]
    have hv : a.2.1 = v := (h.1 v a ha).2.1
    have ih := ra_cy_wk h k a.1 (fun i hi => by
      have := hp (i + 1) (by omega)
      have e : ra_it s (i + 1) v = ra_it s i (ra_g s v) := rfl
      rw [e, hg] at this
      exact this)
    have ec : ra_cy s (k + 1) v = ra_cy s k a.1 ++ [a] := by simp only [ra_cy, ha]
    have ei : ra_it s (k + 1) v = ra_it s k a.1 := by
      show ra_it s k (ra_g s v) = _
      rw [hg]
    rw [ec, ei]
    refine ⟨ra_wk_app _ [a] _ a.1 v ih.1 ⟨?_, rfl, hv⟩, by simp [ih.2]⟩
    show s.2.1 a.2.1 = some a
    rw [hv]
    exact ha
/-- the way back of n steps from a node that shrank in round n ends on a cycle of at most n arcs -/
theorem ra_on {E : ra_A → Prop} {t l : Nat} {s : ra_S} (h : ra_I E t l s) (m : List Nat) (hm : ∀ a, E a → a.1 ∈ m ∧ a.2.1 ∈ m) {v : Nat} (hv : m.length ≤ s.2.2 v) (hvm : v ∈ m) :
    (∀ i, i < m.length → ∃ a, s.2.1 (ra_it s i v) = some a) ∧ ∃ q, 1 ≤ q ∧ q ≤ m.length ∧ ra_it s q (ra_it s m.length v) = ra_it s m.length v ∧ ∀ i, ∃ a, s.2.1 (ra_it s i (ra_it s m.length v)) = some a := by
  have hdef : ∀ i, i < m.length → ∃ a, s.2.1 (ra_it s i v) = some a := fun i hi => by
    have := ra_it_L h i v m.length hv (by omega)
    exact h.2.2.2 _ (by omega)
  have hin : ∀ i, i ≤ m.length → ra_it s i v ∈ m := by
    intro i hi
    cases i with
    | zero => exact hvm
    | succ i =>
      obtain ⟨a, ha⟩ := hdef i (by omega)
      rw [ra_it_add s i 1 v]
      show ra_g s (ra_it s i v) ∈ m
      unfold ra_g
      rw [ha]
      exact (hm a (h.1 _ a ha).1).1
  obtain ⟨i, j, hij, hj, he⟩ := ra_pigeon (fun i => ra_it s i v) m hin
  have he : ra_it s i v = ra_it s j v := he
  have hper : ∀ z, ra_it s (j - i) (ra_it s (i + z) v) = ra_it s (i + z) v := by
    intro z
    rw [ra_it_add s i z v, ← ra_it_add s z (j - i), Nat.add_comm z (j - i), ra_it_add s (j - i) z, ← ra_it_add s i (j - i) v, show i + (j - i) = j by omega, ← he]
  have hall : ∀ z, ∃ a, s.2.1 (ra_it s (i + z) v) = some a := by
    intro z
    induction z using Nat.strongRecOn with
    | ind z ih =>
      by_cases hz : i + z < m.length
      · exact hdef (i + z) hz
      · have hz2 : j - i ≤ z := by omega
        have := hper (z - (j - i))
        rw [← ra_it_add s (i + (z - (j - i))) (j - i) v, show i + (z - (j - i)) + (j - i) = i + z by omega] at this
        rw [this]
        exact ih (z - (j - i)) (by omega)
  refine ⟨hdef, j - i, by omega, by omega, ?_, fun z => ?_⟩
  · have := hper (m.length - i)
    rw [show i + (m.length - i) = m.length by omega] at this
    exact this
  · rw [← ra_it_add s m.length z v, show m.length + z = i + (m.length - i + z) by omega]
    exact hall _
/-! least walks of a given length (reference) -/
def rb_fr (f : Nat → Nat) (a : ra_A) : Nat → Nat := if a.2.2.2 = 0 ∧ f a.1 + a.2.2.1 < f a.2.1 then ra_fu f a.2.1 (f a.1 + a.2.2.1) else f
def rb_on (b : Nat → Nat) (f : Nat → Nat) (a : ra_A) : Nat → Nat := if a.2.2.2 = 1 ∧ b a.1 + a.2.2.1 < f a.2.1 then ra_fu f a.2.1 (b a.1 + a.2.2.1) else f
def rb_free (E : List ra_A) (f : Nat → Nat) : Nat → Nat := E.foldl rb_fr (E.foldl rb_fr f)
def rb_step (E : List ra_A) (far : Nat) (f : Nat → Nat) : Nat → Nat := rb_free E (E.foldl (rb_on f) (fun _ => far))
def rb_run (E : List ra_A) (far s : Nat) : Nat → Nat → Nat
  | 0 => rb_free E (fun v => if v = s then 0 else far)
  | L + 1 => rb_step E far (rb_run E far s L)
/-- what stands there is a walk's -/
def rb_re (E : List ra_A) (far s L : Nat) (f : Nat → Nat) : Prop := ∀ v, f v < far → ∃ w, ra_wk (· ∈ E) s w v ∧ ra_tk w = f v ∧ ra_ln w = L
def rb_le (far : Nat) (f : Nat → Nat) : Prop := ∀ v, f v ≤ far
theorem rb_snoc {E : List ra_A} {s : Nat} {w : List ra_A} {a : ra_A} (ha : a ∈ E) (h : ra_wk (· ∈ E) s w a.1) : ra_wk (· ∈ E) s (w ++ [a]) a.2.1 := ra_wk_app w [a] s a.1 a.2.1 h ⟨ha, rfl, rfl⟩
theorem rb_fr_re {E : List ra_A} {far s L : Nat} {f : Nat → Nat} {a : ra_A} (ha : a ∈ E) (hf : rb_le far f) (h : rb_re E far s L f) : rb_re E far s L (rb_fr f a) ∧ rb_le far (rb_fr f a) := by
  unfold rb_fr
  by_cases hc : a.2.2.2 = 0 ∧ f a.1 + a.2.2.1 < f a.2.1
  · rw [if_pos hc]
    obtain ⟨h0, h1⟩ := hc
    have hfar := hf a.2.1
    refine ⟨fun v hv => ?_, fun v => ?_⟩
    · simp only [ra_fu] at hv ⊢
      by_cases e : v = a.2.1
      · rw [if_pos e] at hv ⊢
        obtain ⟨w, w1, w2, w3⟩ := h a.1 (by omega)
        refine ⟨w ++ [a], by rw [e]; exact rb_snoc ha w1, ?_, ?_⟩
        · rw [ra_tk_app, w2]; simp [ra_tk]
        · rw [ra_ln_app, w3]; simp [ra_ln, h0]
      · rw [if_neg e] at hv ⊢
        exact h v hv
    · simp only [ra_fu]
      split
      · omega
      · exact hf v
  · rw [if_neg hc]
    exact ⟨h, hf⟩
theorem rb_frs_re {E : List ra_A} {far s L : Nat} : ∀ (todo : List ra_A) (f : Nat → Nat), (∀ a ∈ todo, a ∈ E) → rb_le far f → rb_re E far s L f → rb_re E far s L (todo.foldl rb_fr f) ∧ rb_le far (todo.foldl rb_fr f)
  | [], _, _, h1, h2 => ⟨h2, h1⟩
  | a :: todo, f, hs, h1, h2 => by
    have := rb_fr_re (hs a List.mem_cons_self) h1 h2
    exact rb_frs_re todo (rb_fr f a) (fun b hb => hs b (List.mem_cons_of_mem _ hb)) this.2 this.1
theorem rb_free_re {E : List ra_A} {far s L : Nat} {f : Nat → Nat} (h1 : rb_le far f) (h2 : rb_re E far s L f) : rb_re E far s L (rb_free E f) ∧ rb_le far (rb_free E f) := by
  have a := rb_frs_re E f (fun _ h => h) h1 h2
  exact rb_frs_re E _ (fun _ h => h) a.2 a.1
theorem rb_ons_re {E : List ra_A} {far s L : Nat} {b : Nat → Nat} (hb : rb_re E far s L b) : ∀ (todo : List ra_A) (f : Nat → Nat), (∀ a ∈ todo, a ∈ E) → rb_le far f → rb_re E far s (L + 1) f → rb_re E far s (L + 1) (todo.foldl (rb_on b) f) ∧ rb_le far (todo.foldl (rb_on b) f)
  | [], _, _, h1, h2 => ⟨h2, h1⟩
  | a :: todo, f, hs, h1, h2 => by
    refine rb_ons_re hb todo (rb_on b f a) (fun c hc => hs c (List.mem_cons_of_mem _ hc)) ?_ ?_
    · intro v
      unfold rb_on
      split
      · rename_i hc
        have := h1 a.2.1
        simp only [ra_fu]
        split
        · omega
        · exact h1 v
      · exact h1 v
    · intro v hv
      unfold rb_on at hv ⊢
      by_cases hc : a.2.2.2 = 1 ∧ b a.1 + a.2.2.1 < f a.2.1
      · rw [if_pos hc] at hv ⊢
        have hfar := h1 a.2.1
        simp only [ra_fu] at hv ⊢
        by_cases e : v = a.2.1
        · rw [if_pos e] at hv ⊢
          obtain ⟨w, w1, w2, w3⟩ := hb a.1 (by omega)
          refine ⟨w ++ [a], by rw [e]; exact rb_snoc (hs a List.mem_cons_self) w1, ?_, ?_⟩
          · rw [ra_tk_app, w2]; simp [ra_tk]
          · rw [ra_ln_app, w3]; simp [ra_ln, hc.1]
        · rw [if_neg e] at hv ⊢
          exact h2 v hv
      · rw [if_neg hc] at hv ⊢
        exact h2 v hv
theorem rb_run_re {E : List ra_A} {far s : Nat} : ∀ L, rb_re E far s L (rb_run E far s L) ∧ rb_le far (rb_run E far s L)
  | 0 => by
    refine rb_free_re (fun v => ?_) (fun v hv => ?_)
    · show (if v = s then 0 else far) ≤ far
      split
      · exact Nat.zero_le _
      · exact Nat.le_refl _
    · by_cases e : v = s
      · subst e
        exact ⟨[], rfl, by simp [ra_tk], rfl⟩
      · simp [e] at hv
  | L + 1 => by
    have ih := rb_run_re (E := E) (far := far) (s := s) L
    have a := rb_ons_re ih.1 E (fun _ => far) (fun _ h => h) (fun _ => Nat.le_refl _) (fun v hv => absurd hv (Nat.lt_irrefl _))
    exact rb_free_re a.2 a.1
/-! and no walk has less -/
theorem rb_fr_dec {f : Nat → Nat} {a : ra_A} (v : Nat) : rb_fr f a v ≤ f v := by
  unfold rb_fr
  split
  · rename_i h
    simp only [ra_fu]
    split
    · rename_i e
      rw [e]
      omega
    · exact Nat.le_refl _
  · exact Nat.le_refl _
theorem rb_frs_dec : ∀ (todo : List ra_A) (f : Nat → Nat) (v : Nat), todo.foldl rb_fr f v ≤ f v
  | [], _, _ => Nat.le_refl _
  | a :: todo, f, v => Nat.le_trans (rb_frs_dec todo (rb_fr f a) v) (rb_fr_dec v)
theorem rb_on_dec {b f : Nat → Nat} {a : ra_A} (v : Nat) : rb_on b f a v ≤ f v := by
  unfold rb_on
  split
  · rename_i h
    simp only [ra_fu]
    split
    · rename_i e
      rw [e]
      omega
    · exact Nat.le_refl _
  · exact Nat.le_refl _
theorem rb_ons_dec {b : Nat → Nat} : ∀ (todo : List ra_A) (f : Nat → Nat) (v : Nat), todo.foldl (rb_on b) f v ≤ f v
  | [], _, _ => Nat.le_refl _
  | a :: todo, f, v => Nat.le_trans (rb_ons_dec todo (rb_on b f a) v) (rb_on_dec v)
theorem rb_ons_at {b : Nat → Nat} : ∀ (todo : List ra_A) (f : Nat → Nat) (a : ra_A), a ∈ todo → a.2.2.2 = 1 → todo.foldl (rb_on b) f a.2.1 ≤ b a.1 + a.2.2.1
  | [], _, _, h, _ => by cases h
  | c :: todo, f, a, h, h1 => by
    rcases List.mem_cons.mp h with e | e
    · subst e
      refine Nat.le_trans (rb_ons_dec todo _ _) ?_
      unfold rb_on
      split
      · simp [ra_fu]
      · rename_i hn
        simp only [h1, true_and] at hn
        omega
    · exact rb_ons_at todo (rb_on b f c) a e h1
/-- what a pass leaves alone, and what it settles, by levels -/
theorem rb_pass {E : List ra_A} {lv : Nat → Nat} (hlv : ∀ a ∈ E, a.2.2.2 = 0 → lv a.1 < lv a.2.1) {k : Nat} {f : Nat → Nat} (hC : ∀ a ∈ E, a.2.2.2 = 0 → lv a.2.1 ≤ k → f a.2.1 ≤ f a.1 + a.2.2.1) : ∀ (todo : List ra_A) (g : Nat → Nat), (∀ a ∈ todo, a ∈ E) → (∀ v, lv v ≤ k → g v = f v) →
    (∀ v, lv v ≤ k → todo.foldl rb_fr g v = f v) ∧ ∀ a ∈ todo, a.2.2.2 = 0 → lv a.2.1 ≤ k + 1 → todo.foldl rb_fr g a.2.1 ≤ f a.1 + a.2.2.1
  | [], g, _, hg => ⟨hg, fun a h => by cases h⟩
  | c :: todo, g, hs, hg => by
    have hc := hs c List.mem_cons_self
    have hg2 : ∀ v, lv v ≤ k → rb_fr g c v = f v := by
      intro v hv
      unfold rb_fr
      split
      · rename_i h
        simp only [ra_fu]
        split
        · rename_i e
          have h1 := hlv c hc h.1
          rw [e] at hv
          have h2 := hC c hc h.1 hv
          rw [hg _ hv, hg c.1 (by omega)] at h
          omega
        · exact hg v hv
      · exact hg v hv
    obtain ⟨i1, i2⟩ := rb_pass hlv hC todo (rb_fr g c) (fun b hb => hs b (List.mem_cons_of_mem _ hb)) hg2
    refine ⟨i1, fun a ha h0 hl => ?_⟩
    rcases List.mem_cons.mp ha with e | e
    · subst e
      refine Nat.le_trans (rb_frs_dec todo _ _) ?_
      have h1 := hlv a hc h0
      rw [← hg a.1 (by omega)]
      unfold rb_fr
      split
      · simp [ra_fu]
      · rename_i hn
        simp only [h0, true_and] at hn
        omega
    · exact i2 a e h0 hl
theorem rb_free_closed {E : List ra_A} {lv : Nat → Nat} (hlv : ∀ a ∈ E, a.2.2.2 = 0 → lv a.1 < lv a.2.1) (h2 : ∀ a ∈ E, a.2.2.2 = 0 → lv a.2.1 ≤ 2) (f : Nat → Nat) : ∀ a ∈ E, a.2.2.2 = 0 → rb_free E f a.2.1 ≤ rb_free E f a.1 + a.2.2.1 := by
  obtain ⟨p1, p2⟩ := rb_pass (k := 0) (f := f) hlv (fun a ha h0 hl => by have := hlv a ha h0; omega) E f (fun _ h => h) (fun _ _ => rfl)
  have hC1 : ∀ a ∈ E, a.2.2.2 = 0 → lv a.2.1 ≤ 1 → E.foldl rb_fr f a.2.1 ≤ E.foldl rb_fr f a.1 + a.2.2.1 := by
    intro a ha h0 hl
    have h1 := hlv a ha h0
    rw [p1 a.1 (by omega)]
    exact p2 a ha h0 hl
  obtain ⟨q1, q2⟩ := rb_pass (k := 1) (f := E.foldl rb_fr f) hlv hC1 E (E.foldl rb_fr f) (fun _ h => h) (fun _ _ => rfl)
  intro a ha h0
  have h1 := hlv a ha h0
  have h3 := h2 a ha h0
  unfold rb_free
  rw [q1 a.1 (by omega)]
  exact q2 a ha h0 h3
theorem rb_run_min {E : List ra_A} {far s : Nat} {lv : Nat → Nat} (hlv : ∀ a ∈ E, a.2.2.2 = 0 → lv a.1 < lv a.2.1) (h2 : ∀ a ∈ E, a.2.2.2 = 0 → lv a.2.1 ≤ 2) (h01 : ∀ a ∈ E, a.2.2.2 = 0 ∨ a.2.2.2 = 1) : ∀ (n : Nat) (w : List ra_A) (v : Nat), w.length = n → ra_wk (· ∈ E) s w v → rb_run E far s (ra_ln w) v ≤ ra_tk w := by
  intro n
  induction n with
  | zero =>
    intro w v hw hk
    have : w = [] := List.length_eq_zero_iff.mp hw
    subst this
    have hv : s = v := hk
    subst hv
    show rb_free E _ s ≤ 0
    refine Nat.le_trans (rb_frs_dec E _ s) (Nat.le_trans (rb_frs_dec E _ s) ?_)
    simp
  | succ n ih =>
    intro w v hw hk
    obtain ⟨w', a, rfl⟩ : ∃ w' a, w = w' ++ [a] := by
      have hne : w ≠ [] := fun e => by rw [e] at hw; cases hw
      exact ⟨w.dropLast, w.getLast hne, (List.dropLast_concat_getLast hne).symm⟩
    have hsplit : ∀ (w1 : List ra_A) (u : Nat), ra_wk (· ∈ E) u (w1 ++ [a]) v → ra_wk (· ∈ E) u w1 a.1 ∧ a ∈ E ∧ a.2.1 = v := by
      intro w1
      induction w1 with
      | nil => intro u h; exact ⟨h.2.1.symm, h.1, h.2.2⟩
      | cons c w1 ih1 =>
        intro u h
        obtain ⟨g1, g2, g3⟩ := ih1 c.2.1 h.2.2
        exact ⟨⟨h.1, h.2.1, g1⟩, g2, g3⟩
    obtain ⟨k1, k2, k3⟩ := hsplit w' s hk
    have hl : w'.length = n := by simp at hw; exact hw
    have i1 := ih w' a.1 hl k1
    rw [ra_ln_app, ra_tk_app]
    have e1 : ra_ln [a] = a.2.2.2 := by simp [ra_ln]
    have e2 : ra_tk [a] = a.2.2.1 := by simp [ra_tk]
    rw [e1, e2, ← k3]
    rcases h01 a k2 with h0 | h0
    · rw [h0, Nat.add_zero]
      have hcl : rb_run E far s (ra_ln w') a.2.1 ≤ rb_run E far s (ra_ln w') a.1 + a.2.2.1 := by
        cases hL : ra_ln w' with
        | zero => exact rb_free_closed hlv h2 _ a k2 h0
        | succ L => exact rb_free_closed hlv h2 _ a k2 h0
      omega
    · rw [h0]
      show rb_free E (E.foldl (rb_on (rb_run E far s (ra_ln w'))) fun _ => far) a.2.1 ≤ _
      refine Nat.le_trans (rb_frs_dec E _ _) (Nat.le_trans (rb_frs_dec E _ _) (Nat.le_trans (rb_ons_at E _ a k2 h0) ?_))
      omega
/-- two ratios in lowest terms, each at most the other -/
theorem ra_same {t l t' l' : Nat} (h : t * l' = t' * l) (g : Nat.gcd t l = 1) (g' : Nat.gcd t' l' = 1) : t = t' ∧ l = l' := by
  have d1 : t ∣ t' := Nat.Coprime.dvd_of_dvd_mul_right g ⟨l', h.symm⟩
  have d2 : t' ∣ t := Nat.Coprime.dvd_of_dvd_mul_right g' ⟨l, h⟩
  have d3 : l ∣ l' := Nat.Coprime.dvd_of_dvd_mul_left (Nat.gcd_comm t l ▸ g : Nat.gcd l t = 1) ⟨t', by rw [h, Nat.mul_comm]⟩
  have d4 : l' ∣ l := Nat.Coprime.dvd_of_dvd_mul_left (Nat.gcd_comm t' l' ▸ g' : Nat.gcd l' t' = 1) ⟨t, by rw [← h, Nat.mul_comm]⟩
  exact ⟨Nat.dvd_antisymm d1 d2, Nat.dvd_antisymm d3 d4⟩
