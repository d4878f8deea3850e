/-! windows of a history; what a block's links do to buffers, one by one -/
def wn {α : Type} (f : Nat → α) (a b : Nat) : List α := (List.range' a (b - a)).map f
theorem wn_len {α : Type} {f : Nat → α} {a b : Nat} : (wn f a b).length = b - a := by simp [wn]
theorem wn_app {α : Type} {f : Nat → α} {a b : Nat} (h : a ≤ b) : wn f a (b + 1) = wn f a b ++ [f b] := by
  have e : b + 1 - a = (b - a) + 1 := by omega
  simp only [wn, e, List.range'_concat, List.map_append]
  rw [show a + 1 * (b - a) = b by omega]
  rfl
theorem wn_tl {α : Type} {f : Nat → α} {a b : Nat} : (wn f a b).tail = wn f (a + 1) b := by
  by_cases h : a < b
  · have e : b - a = (b - (a + 1)) + 1 := by omega
    simp only [wn, e, List.range'_succ, List.map_cons, List.tail_cons]
  · have e1 : b - a = 0 := by omega
    have e2 : b - (a + 1) = 0 := by omega
    simp [wn, e1, e2]
theorem wn_get {α : Type} {f : Nat → α} {a b i : Nat} {v : α} : (wn f a b)[i]? = some v ↔ i < b - a ∧ f (a + i) = v := by
  by_cases h : i < b - a
  · simp [wn, h]
  · simp [wn, h]
theorem wn_hd {f : Nat → Int32} {a b : Nat} (h : a < b) : (wn f a b).headD 0 = f a := by
  have e : b - a = (b - (a + 1)) + 1 := by omega
  simp [wn, e, List.range'_succ]
theorem wn_ne {α : Type} {f : Nat → α} {a b : Nat} (h : a < b) : wn f a b ≠ [] := by
  intro z
  have := congrArg List.length z
  rw [wn_len] at this
  simp at this
  omega
theorem wn_congr {α : Type} {f g : Nat → α} {a b : Nat} (h : ∀ k, a ≤ k → k < b → f k = g k) : wn f a b = wn g a b := by
  apply List.map_congr_left
  intro k hk
  rw [List.mem_range'_1] at hk
  exact h k hk.1 (by omega)
section S8
variable {lk ex : Nat → Nat} {gf : Nat → Bool} {v : Int32}
theorem aB_miss {bq : Nat → List Int32} {b : Nat} : ∀ {n : Nat}, (∀ i, i < n → gf i = true → lk i < 20 → b ≠ lk i * 4) → aB bq lk gf v n b = bq b
  | 0, _ => rfl
  | n + 1, h => by
    have ih := aB_miss (bq := bq) (b := b) (n := n) (fun i hi => h i (by omega))
    show (if gf n = true then pGb (aB bq lk gf v n) (lk n) v else aB bq lk gf v n) b = bq b
    by_cases hg : gf n = true
    · rw [if_pos hg, pGb]
      by_cases hl : lk n < 20
      · rw [if_pos hl, ra_fu, if_neg (h n (by omega) hg hl)]
        exact ih
      · rw [if_neg hl]
        exact ih
    · rw [if_neg hg]
      exact ih
theorem aB_hit {bq : Nat → List Int32} {i : Nat} : ∀ {n : Nat}, (∀ i k, i < n → k < n → lk i = lk k → i = k) → i < n → gf i = true → lk i < 20 → aB bq lk gf v n (lk i * 4) = bq (lk i * 4) ++ [v]
  | 0, _, h, _, _ => absurd h (by omega)
  | n + 1, hin, hi, hg, hl => by
    show (if gf n = true then pGb (aB bq lk gf v n) (lk n) v else aB bq lk gf v n) (lk i * 4) = _
    by_cases e : i = n
    · subst e
      rw [if_pos hg, pGb, if_pos hl, ra_fu, if_pos rfl, aB_miss]
      intro k hk _ _ z
      have := hin i k (by omega) (by omega) (by omega)
      omega
    · have ih := aB_hit (bq := bq) (n := n) (fun i k hi hk => hin i k (by omega) (by omega)) (by omega) hg hl
      by_cases hgn : gf n = true
      · rw [if_pos hgn, pGb]
        by_cases hl2 : lk n < 20
        · rw [if_pos hl2, ra_fu, if_neg (fun z => e (hin i n (by omega) (by omega) (by omega)))]
          exact ih
        · rw [if_neg hl2]
          exact ih
      · rw [if_neg hgn]
        exact ih
theorem eTb_miss {bq : Nat → List Int32} {b : Nat} : ∀ {n : Nat}, (∀ i, i < n → lk i < 20 → b ≠ lk i * 4 + ex (lk i)) → eTb bq ex lk n b = bq b
  | 0, _ => rfl
  | n + 1, h => by
    have ih := eTb_miss (bq := bq) (b := b) (n := n) (fun i hi => h i (by omega))
    show pTb (eTb bq ex lk n) ex (lk n) b = bq b
    rw [pTb]
    by_cases hl : lk n < 20
    · rw [if_pos hl, ra_fu, if_neg (h n (by omega) hl)]
      exact ih
    · rw [if_neg hl]
      exact ih
theorem eTb_hit {bq : Nat → List Int32} {i : Nat} : ∀ {n : Nat}, (∀ i k, i < n → k < n → lk i = lk k → i = k) → (∀ i, i < n → lk i < 20 → ex (lk i) ≤ 3) → i < n → lk i < 20 → eTb bq ex lk n (lk i * 4 + ex (lk i)) = (bq (lk i * 4 + ex (lk i))).tail
  | 0, _, _, h, _ => absurd h (by omega)
  | n + 1, hin, hx, hi, hl => by
    show pTb (eTb bq ex lk n) ex (lk n) _ = _
    by_cases e : i = n
    · subst e
      rw [pTb, if_pos hl, ra_fu, if_pos rfl, eTb_miss]
      intro k hk hl2 z
      have h1 := hx k (by omega) hl2
      have h2 := hx i (by omega) hl
      have := hin i k (by omega) (by omega) (by omega)
      omega
    · have ih := eTb_hit (bq := bq) (n := n) (fun i k hi hk => hin i k (by omega) (by omega)) (fun i hi => hx i (by omega)) (by omega) hl
      rw [pTb]
      by_cases hl2 : lk n < 20
      · rw [if_pos hl2, ra_fu, if_neg (fun z => by
          have h1 := hx n (by omega) hl2
          have h2 := hx i (by omega) hl
          exact e (hin i n (by omega) (by omega) (by omega)))]
        exact ih
      · rw [if_neg hl2]
        exact ih
theorem aG_miss {gv : Nat → List Int64} {T : Int32} {p : Nat} : ∀ {n : Nat}, (∀ i, i < n → gf i = true → lk i ≠ 20 + p) → aG gv T lk gf v n p = gv p
  | 0, _ => rfl
  | n + 1, h => by
    have ih := aG_miss (gv := gv) (T := T) (p := p) (n := n) (fun i hi => h i (by omega))
    show (if gf n = true then pGg (aG gv T lk gf v n) T (lk n) v else aG gv T lk gf v n) p = gv p
    by_cases hg : gf n = true
    · rw [if_pos hg, pGg]
      by_cases hl : lk n < 20
      · rw [if_pos hl]
        exact ih
      · rw [if_neg hl, ra_fu, if_neg (fun z => h n (by omega) hg (by omega))]
        exact ih
    · rw [if_neg hg]
      exact ih
theorem aG_hit {gv : Nat → List Int64} {T : Int32} {p i : Nat} : ∀ {n : Nat}, (∀ i k, i < n → k < n → lk i = lk k → i = k) → i < n → gf i = true → lk i = 20 + p → aG gv T lk gf v n p = gv p ++ [tv T v]
  | 0, _, h, _, _ => absurd h (by omega)
  | n + 1, hin, hi, hg, hl => by
    show (if gf n = true then pGg (aG gv T lk gf v n) T (lk n) v else aG gv T lk gf v n) p = _
    by_cases e : i = n
    · subst e
      have ep : lk i - 20 = p := by omega
      rw [if_pos hg, pGg, if_neg (by omega), ep, ra_fu, if_pos rfl, aG_miss]
      intro k hk _ z
      have := hin i k (by omega) (by omega) (by omega)
      omega
    · have ih := aG_hit (gv := gv) (T := T) (p := p) (n := n) (fun i k hi hk => hin i k (by omega) (by omega)) (by omega) hg hl
      by_cases hgn : gf n = true
      · rw [if_pos hgn, pGg]
        by_cases hl2 : lk n < 20
        · rw [if_pos hl2]
          exact ih
        · rw [if_neg hl2, ra_fu, if_neg (fun z => e (hin i n (by omega) (by omega) (by omega)))]
          exact ih
      · rw [if_neg hgn]
        exact ih
theorem eTk_miss {tk : Nat → List Int32} {wv : Nat → Int32} {p : Nat} : ∀ {n : Nat}, (∀ i, i < n → lk i ≠ 20 + p) → eTk tk wv lk n p = tk p
  | 0, _ => rfl
  | n + 1, h => by
    have ih := eTk_miss (tk := tk) (wv := wv) (p := p) (n := n) (fun i hi => h i (by omega))
    show pTk (eTk tk wv lk n) wv (lk n) p = tk p
    rw [pTk]
    by_cases hl : lk n < 20
    · rw [if_pos hl]
      exact ih
    · rw [if_neg hl, ra_fu, if_neg (fun z => h n (by omega) (by omega))]
      exact ih
theorem eTk_hit {tk : Nat → List Int32} {wv : Nat → Int32} {p i : Nat} : ∀ {n : Nat}, (∀ i k, i < n → k < n → lk i = lk k → i = k) → i < n → lk i = 20 + p → eTk tk wv lk n p = tk p ++ [wv p]
  | 0, _, h, _ => absurd h (by omega)
  | n + 1, hin, hi, hl => by
    show pTk (eTk tk wv lk n) wv (lk n) p = _
    rw [pTk]
    by_cases e : i = n
    · subst e
      have ep : lk i - 20 = p := by omega
      rw [if_neg (by omega), ep, ra_fu, if_pos rfl, eTk_miss]
      intro k hk z
      have := hin i k (by omega) (by omega) (by omega)
      omega
    · have ih := eTk_hit (tk := tk) (wv := wv) (p := p) (n := n) (fun i k hi hk => hin i k (by omega) (by omega)) (by omega) hl
      by_cases hl2 : lk n < 20
      · rw [if_pos hl2]
        exact ih
      · rw [if_neg hl2, ra_fu, if_neg (fun z => e (hin i n (by omega) (by omega) (by omega)))]
        exact ih
theorem eTw_bt {w : Int32} {p : Nat} (hp : p < 32) : ∀ {n : Nat}, (∀ i, i < n → lk i < 24) → bt (eTw w lk n) p = (bt w p && al (fun i => !decide (lk i = 20 + p)) n)
  | 0, _ => by simp [eTw, fo, al]
  | n + 1, h => by
    have ih := eTw_bt (w := w) hp (n := n) (fun i hi => h i (by omega))
    show bt (pTw (eTw w lk n) (lk n)) p = (bt w p && (al (fun i => !decide (lk i = 20 + p)) n && !decide (lk n = 20 + p)))
    have h24 := h n (by omega)
    rw [pTw]
    by_cases hl : lk n < 20
    · rw [if_pos hl, ih, decide_eq_false (by omega)]
      simp
    · rw [if_neg hl, b_and, ih, b_xor, b_m1 p hp, bs_one (by omega) hp]
      by_cases e : lk n = 20 + p
      · rw [decide_eq_true (show p = lk n - 20 by omega), decide_eq_true e]
        simp
      · rw [decide_eq_false (show ¬ p = lk n - 20 by omega), decide_eq_false e]
        simp
theorem b_16 : ∀ p, p < 4 → ∀ i, i < 32 → bt ((16 : Int32) <<< (nI p &&& 31)) i = decide (i = 4 + p) := by decide +kernel
theorem aT_bt {q : Nat} (hq : q < 32) : ∀ {n : Nat}, (∀ i, i < n → lk i < 24) → bt (aT lk gf n) q = !al (fun i => !(gf i && decide (lk i = 20 + q))) n
  | 0, _ => by simp [aT, fo, al, b_0]
  | n + 1, h => by
    have ih := aT_bt hq (n := n) (fun i hi => h i (by omega))
    have h24 := h n (by omega)
    show bt (if gf n = true then aT lk gf n ||| pGt (lk n) else aT lk gf n) q = !(al (fun i => !(gf i && decide (lk i = 20 + q))) n && !(gf n && decide (lk n = 20 + q)))
    by_cases hg : gf n = true
    · rw [if_pos hg, b_or, ih, pGt, hg]
      by_cases hl : lk n < 20
      · rw [if_pos hl, b_0, decide_eq_false (by omega)]
        simp
      · rw [if_neg hl, bs_one (by omega) hq]
        by_cases e : lk n = 20 + q
        · rw [decide_eq_true (show q = lk n - 20 by omega), decide_eq_true e]
          simp
        · rw [decide_eq_false (show ¬ q = lk n - 20 by omega), decide_eq_false e]
          simp
    · rw [if_neg hg, ih]
      simp [hg]
theorem eTt_bt {q : Nat} (hq : q < 32) : ∀ {n : Nat}, (∀ i, i < n → lk i < 24) → bt (eTt lk n) q = !al (fun i => !decide (20 ≤ lk i ∧ q = 4 + (lk i - 20))) n
  | 0, _ => by simp [eTt, fo, al, b_0]
  | n + 1, h => by
    have ih := eTt_bt hq (n := n) (fun i hi => h i (by omega))
    have h24 := h n (by omega)
    show bt (eTt lk n ||| pTt (lk n)) q = !(al (fun i => !decide (20 ≤ lk i ∧ q = 4 + (lk i - 20))) n && !decide (20 ≤ lk n ∧ q = 4 + (lk n - 20)))
    rw [b_or, ih, pTt]
    by_cases hl : lk n < 20
    · rw [if_pos hl, b_0, decide_eq_false (by omega)]
      simp
    · rw [if_neg hl, b_16 _ (by omega) q hq]
      by_cases e : q = 4 + (lk n - 20)
      · rw [decide_eq_true e, decide_eq_true (show 20 ≤ lk n ∧ q = 4 + (lk n - 20) from ⟨by omega, e⟩)]
        simp
      · rw [decide_eq_false e, decide_eq_false (fun z => e z.2)]
        simp
theorem bI_z {f : Nat → Bool} : ∀ {n : Nat}, (∀ i, i < n → f i = false) → bI f n = 0
  | 0, _ => rfl
  | n + 1, h => by
    show (if f n = true then _ else _) = _
    rw [if_neg (by rw [h n (by omega)]; decide)]
    exact bI_z (fun i hi => h i (by omega))
theorem CB.cg {I : Nat → Nat → Int32} {bq bq' : Nat → List Int32} (h : CB I bq) (e : ∀ b, b < 80 → bq b = bq' b) : CB I bq' := by
  intro b hb
  rw [← e b hb]
  exact h b hb
theorem CT.cg {I : Nat → Nat → Int32} {tk tk' : Nat → List Int32} (h : CT I tk) (e : ∀ b, b < 4 → tk b = tk' b) : CT I tk' := by
  intro b hb
  rw [← e b hb]
  exact h b hb
theorem CG.cg {I : Nat → Nat → Int32} {J : Nat → Nat → Int64} {tk tk' : Nat → List Int64} (h : CG I J tk) (e : ∀ b, b < 4 → tk b = tk' b) : CG I J tk' := by
  intro b hb
  rw [← e b hb]
  exact h b hb
end S8
