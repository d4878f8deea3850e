/-! One machine by counts: the design, the state, a tick -/
def DZ : Type := (Nat) × (Nat) × (Nat) × (Nat) × (Nat → Nat) × (Nat → Int32) × (Nat → Int32) × (Nat → Nat) × (Nat → Nat) × (Nat → Nat) × (Nat → Nat) × (Nat → Nat) × (List Nat)
def DZ.nb (h : DZ) : Nat := h.1
def DZ.nc (h : DZ) : Nat := h.2.1
def DZ.ni (h : DZ) : Nat := h.2.2.1
def DZ.no (h : DZ) : Nat := h.2.2.2.1
def DZ.op (h : DZ) : Nat → Nat := h.2.2.2.2.1
def DZ.ct (h : DZ) : Nat → Int32 := h.2.2.2.2.2.1
def DZ.fs (h : DZ) : Nat → Int32 := h.2.2.2.2.2.2.1
def DZ.fm (h : DZ) : Nat → Nat := h.2.2.2.2.2.2.2.1
def DZ.to (h : DZ) : Nat → Nat := h.2.2.2.2.2.2.2.2.1
def DZ.ex (h : DZ) : Nat → Nat := h.2.2.2.2.2.2.2.2.2.1
def DZ.ito (h : DZ) : Nat → Nat := h.2.2.2.2.2.2.2.2.2.2.1
def DZ.ofm (h : DZ) : Nat → Nat := h.2.2.2.2.2.2.2.2.2.2.2.1
def DZ.sq (h : DZ) : List Nat := h.2.2.2.2.2.2.2.2.2.2.2.2
def DZ.mk (nb : Nat) (nc : Nat) (ni : Nat) (no : Nat) (op : Nat → Nat) (ct : Nat → Int32) (fs : Nat → Int32) (fm : Nat → Nat) (to : Nat → Nat) (ex : Nat → Nat) (ito : Nat → Nat) (ofm : Nat → Nat) (sq : List Nat) : DZ := (nb, nc, ni, no, op, ct, fs, fm, to, ex, ito, ofm, sq)
def inF (D : DZ) (j x : Nat) : Option Nat := if x < 20 then (if D.to x = j then some x else none) else if x < 24 then (if D.ito (x - 20) = j then some x else none) else none
def brF (D : DZ) (j x : Nat) : Option Nat := if x < 20 then (if D.fm x = j then some x else none) else if x < 24 then none else if D.ofm (x - 24) = j then some (x - 4) else none
def inL (D : DZ) (j : Nat) : List Nat := D.sq.filterMap (inF D j)
def brL (D : DZ) (j : Nat) : List Nat := D.sq.filterMap (brF D j)
def DW (D : DZ) : Prop := (D.nb ≤ 10) ∧ (D.nc ≤ 20) ∧ (D.ni ≤ 4) ∧ (D.no ≤ 4) ∧ (∀ j, j < D.nb → D.op j < 5) ∧ (∀ c, c < D.nc → D.fm c < D.nb ∧ D.to c < D.nb ∧ D.ex c ≤ 3) ∧ (∀ p, p < D.ni → D.ito p < D.nb) ∧ (∀ p, p < D.no → D.ofm p < D.nb) ∧ (D.sq.Nodup) ∧ (∀ x, x ∈ D.sq ↔ (x < D.nc ∨ (20 ≤ x ∧ x < 20 + D.ni) ∨ (24 ≤ x ∧ x < 24 + D.no)))
theorem DW.nb {D : DZ} (h : DW D) : D.nb ≤ 10 := h.1
theorem DW.nc {D : DZ} (h : DW D) : D.nc ≤ 20 := h.2.1
theorem DW.ni {D : DZ} (h : DW D) : D.ni ≤ 4 := h.2.2.1
theorem DW.no {D : DZ} (h : DW D) : D.no ≤ 4 := h.2.2.2.1
theorem DW.op {D : DZ} (h : DW D) : ∀ j, j < D.nb → D.op j < 5 := h.2.2.2.2.1
theorem DW.ch {D : DZ} (h : DW D) : ∀ c, c < D.nc → D.fm c < D.nb ∧ D.to c < D.nb ∧ D.ex c ≤ 3 := h.2.2.2.2.2.1
theorem DW.ip {D : DZ} (h : DW D) : ∀ p, p < D.ni → D.ito p < D.nb := h.2.2.2.2.2.2.1
theorem DW.ot {D : DZ} (h : DW D) : ∀ p, p < D.no → D.ofm p < D.nb := h.2.2.2.2.2.2.2.1
theorem DW.nd {D : DZ} (h : DW D) : D.sq.Nodup := h.2.2.2.2.2.2.2.2.1
theorem DW.sq {D : DZ} (h : DW D) : ∀ x, x ∈ D.sq ↔ (x < D.nc ∨ (20 ≤ x ∧ x < 20 + D.ni) ∨ (24 ≤ x ∧ x < 24 + D.no)) := h.2.2.2.2.2.2.2.2.2
theorem DW.mk {D : DZ} (nb_ : D.nb ≤ 10) (nc_ : D.nc ≤ 20) (ni_ : D.ni ≤ 4) (no_ : D.no ≤ 4) (op_ : ∀ j, j < D.nb → D.op j < 5) (ch_ : ∀ c, c < D.nc → D.fm c < D.nb ∧ D.to c < D.nb ∧ D.ex c ≤ 3) (ip_ : ∀ p, p < D.ni → D.ito p < D.nb) (ot_ : ∀ p, p < D.no → D.ofm p < D.nb) (nd_ : D.sq.Nodup) (sq_ : ∀ x, x ∈ D.sq ↔ (x < D.nc ∨ (20 ≤ x ∧ x < 20 + D.ni) ∨ (24 ≤ x ∧ x < 24 + D.no))) : DW D := ⟨nb_, nc_, ni_, no_, op_, ch_, ip_, ot_, nd_, sq_⟩
theorem inL_mem {D : DZ} (hD : DW D) {j x : Nat} : x ∈ inL D j ↔ (x < D.nc ∧ D.to x = j) ∨ (20 ≤ x ∧ x < 20 + D.ni ∧ D.ito (x - 20) = j) := by
  have h1 := hD.nc
  have h2 := hD.ni
  simp only [inL, List.mem_filterMap, hD.sq, inF]
  constructor
  · rintro ⟨a, ha, hx⟩
    split at hx
    · split at hx
      · cases hx; left; exact ⟨by omega, by assumption⟩
      · cases hx
    · split at hx
      · split at hx
        · cases hx; right; exact ⟨by omega, by omega, by assumption⟩
        · cases hx
      · cases hx
  · rintro (⟨h, e⟩ | ⟨h, h', e⟩)
    · exact ⟨x, Or.inl h, by rw [if_pos (by omega), if_pos e]⟩
    · exact ⟨x, Or.inr (Or.inl ⟨h, h'⟩), by rw [if_neg (by omega), if_pos (by omega), if_pos e]⟩
theorem brL_mem {D : DZ} (hD : DW D) {j x : Nat} : x ∈ brL D j ↔ (x < D.nc ∧ D.fm x = j) ∨ (20 ≤ x ∧ x < 20 + D.no ∧ D.ofm (x - 20) = j) := by
  have h1 := hD.nc
  have h2 := hD.ni
  have h3 := hD.no
  simp only [brL, List.mem_filterMap, hD.sq, brF]
  constructor
  · rintro ⟨a, ha, hx⟩
    split at hx
    · split at hx
      · cases hx; left; exact ⟨by omega, by assumption⟩
      · cases hx
    · split at hx
      · cases hx
      · split at hx
        · cases hx
          right
          refine ⟨by omega, by omega, ?_⟩
          have e : a - 4 - 20 = a - 24 := by omega
          rw [e]; assumption
        · cases hx
  · rintro (⟨h, e⟩ | ⟨h, h', e⟩)
    · exact ⟨x, Or.inl h, by rw [if_pos (by omega), if_pos e]⟩
    · refine ⟨x + 4, Or.inr (Or.inr ⟨by omega, by omega⟩), ?_⟩
      rw [if_neg (by omega), if_neg (by omega), if_pos (by rw [show x + 4 - 24 = x - 20 by omega]; exact e)]
      rfl
theorem inL_nd {D : DZ} (hD : DW D) (j : Nat) : (inL D j).Nodup := by
  refine List.Pairwise.filterMap _ ?_ hD.nd
  intro a a' hne b hb b' hb' e
  subst e
  simp only [inF] at hb hb'
  apply hne
  split at hb <;> split at hb' <;> (repeat' split at hb) <;> (repeat' split at hb') <;> simp_all
theorem brL_nd {D : DZ} (hD : DW D) (j : Nat) : (brL D j).Nodup := by
  refine List.Pairwise.filterMap _ ?_ hD.nd
  intro a a' hne b hb b' hb' e
  subst e
  simp only [brF] at hb hb'
  have h4 := hD.nc
  split at hb <;> split at hb' <;> (repeat' split at hb) <;> (repeat' split at hb') <;> simp_all <;> omega
theorem nd_len : ∀ (n : Nat) (l : List Nat), l.Nodup → (∀ x, x ∈ l → x < n) → l.length ≤ n
  | 0, l, _, h => by
    cases l with
    | nil => exact Nat.le_refl _
    | cons a l => exact absurd (h a (List.mem_cons_self)) (by omega)
  | n + 1, l, hd, h => by
    have h2 := nd_len n (l.erase n) (hd.erase n) (fun x hx => by
      have h3 := (hd.mem_erase_iff).mp hx
      have := h x h3.2
      have := h3.1
      omega)
    by_cases hm : n ∈ l
    · rw [List.length_erase_of_mem hm] at h2
      omega
    · rw [List.erase_of_not_mem hm] at h2
      omega
theorem inL_lt {D : DZ} (hD : DW D) {j x : Nat} (h : x ∈ inL D j) : x < 24 := by
  have h1 := hD.nc
  have h2 := hD.ni
  rcases (inL_mem hD).mp h with h | h <;> omega
theorem brL_lt {D : DZ} (hD : DW D) {j x : Nat} (h : x ∈ brL D j) : x < 24 := by
  have h1 := hD.nc
  have h2 := hD.no
  rcases (brL_mem hD).mp h with h | h <;> omega
theorem inL_len {D : DZ} (hD : DW D) (j : Nat) : (inL D j).length ≤ 24 := nd_len 24 _ (inL_nd hD j) (fun _ h => inL_lt hD h)
theorem brL_len {D : DZ} (hD : DW D) (j : Nat) : (brL D j).length ≤ 24 := nd_len 24 _ (brL_nd hD j) (fun _ h => brL_lt hD h)
/-- lists by numbers -/
def gi (l : List Nat) (i : Nat) : Nat := l.getD i 0
theorem gi_mem {l : List Nat} {i : Nat} (h : i < l.length) : gi l i ∈ l := by
  simp only [gi, List.getD_eq_getElem?_getD, List.getElem?_eq_getElem h, Option.getD_some]
  exact List.getElem_mem h
theorem gi_of {l : List Nat} {x : Nat} (h : x ∈ l) : ∃ i, i < l.length ∧ gi l i = x := by
  obtain ⟨i, hi, e⟩ := List.getElem_of_mem h
  exact ⟨i, hi, by simp only [gi, List.getD_eq_getElem?_getD, List.getElem?_eq_getElem hi, Option.getD_some]; exact e⟩
theorem gi_get {l : List Nat} {i x : Nat} (h : l[i]? = some x) : gi l i = x := by simp [gi, List.getD_eq_getElem?_getD, h]
theorem gi_some {l : List Nat} {i : Nat} (h : i < l.length) : l[i]? = some (gi l i) := by
  simp only [gi, List.getD_eq_getElem?_getD, List.getElem?_eq_getElem h, Option.getD_some]
theorem gi_inj {l : List Nat} (hd : l.Nodup) {i k : Nat} (hi : i < l.length) (hk : k < l.length) (h : gi l i = gi l k) : i = k := by
  simp only [gi, List.getD_eq_getElem?_getD, List.getElem?_eq_getElem hi, List.getElem?_eq_getElem hk, Option.getD_some] at h
  exact (List.getElem_inj hd).mp h
theorem al_all {l : List Nat} (f : Nat → Bool) : al (fun i => f (gi l i)) l.length = l.all f := by
  cases h : l.all f
  · cases h2 : al (fun i => f (gi l i)) l.length
    · rfl
    · rw [List.all_eq_true.mpr] at h
      · cases h
      · intro x hx
        obtain ⟨i, hi, e⟩ := gi_of hx
        rw [← e]
        exact al_iff.mp h2 i hi
  · exact al_iff.mpr (fun i hi => List.all_eq_true.mp h _ (gi_mem hi))
theorem fo_congr {α : Type} {f g : α → Nat → α} {a : α} : ∀ {n : Nat}, (∀ q i, i < n → f q i = g q i) → fo f a n = fo g a n
  | 0, _ => rfl
  | n + 1, h => by
    show f (fo f a n) n = g (fo g a n) n
    rw [fo_congr (fun q i hi => h q i (by omega)), h _ n (by omega)]
theorem fo_foldl {α : Type} (g : α → Nat → α) (l : List Nat) : ∀ a, fo (fun q i => g q (gi l i)) a l.length = l.foldl g a := by
  have key : ∀ n a, n ≤ l.length → fo (fun q i => g q (gi l i)) a n = (l.take n).foldl g a := by
    intro n
    induction n with
    | zero => intro a _; simp [fo]
    | succ n ih =>
      intro a hn
      show g (fo (fun q i => g q (gi l i)) a n) (gi l n) = _
      rw [ih a (by omega), List.take_add_one, List.foldl_append, gi_some (by omega)]
      rfl
  intro a
  rw [key l.length a (Nat.le_refl _), List.take_length]
def MS : Type := (Nat) × (Nat → Nat) × (Nat → Nat) × (Nat → Nat) × (Nat → Nat) × (Nat → Nat → Nat) × (Nat → Nat → Int32) × (Nat → Nat → Int32) × (Nat → Nat → Int32) × (Nat → Nat → Nat)
def MS.T (h : MS) : Nat := h.1
def MS.tu (h : MS) : Nat → Nat := h.2.1
def MS.ga (h : MS) : Nat → Nat := h.2.2.1
def MS.ou (h : MS) : Nat → Nat := h.2.2.2.1
def MS.off (h : MS) : Nat → Nat := h.2.2.2.2.1
def MS.le (h : MS) : Nat → Nat → Nat := h.2.2.2.2.2.1
def MS.tok (h : MS) : Nat → Nat → Int32 := h.2.2.2.2.2.2.1
def MS.ofv (h : MS) : Nat → Nat → Int32 := h.2.2.2.2.2.2.2.1
def MS.ous (h : MS) : Nat → Nat → Int32 := h.2.2.2.2.2.2.2.2.1
def MS.ouT (h : MS) : Nat → Nat → Nat := h.2.2.2.2.2.2.2.2.2
def MS.mk (T : Nat) (tu : Nat → Nat) (ga : Nat → Nat) (ou : Nat → Nat) (off : Nat → Nat) (le : Nat → Nat → Nat) (tok : Nat → Nat → Int32) (ofv : Nat → Nat → Int32) (ous : Nat → Nat → Int32) (ouT : Nat → Nat → Nat) : MS := (T, tu, ga, ou, off, le, tok, ofv, ous, ouT)
def cmM (s : MS) (c b : Nat) : Nat := if b = 0 then s.ga c + 1 else s.le c (b - 1)
def gnM (D : DZ) (s : MS) (c b : Nat) : Nat := if b = D.ex c then s.tu (D.to c) else s.le c b
def thM (D : DZ) (s : MS) (x : Nat) : Bool := if x < 20 then decide (gnM D s x (D.ex x) < cmM s x (D.ex x)) else decide (s.tu (D.ito (x - 20)) < s.off (x - 20))
def rdM (D : DZ) (s : MS) (j : Nat) : Bool := (inL D j).all (thM D s)
def goM (s : MS) (j x : Nat) : Bool := if x < 20 then decide (s.tu j < s.ga x) else decide (s.tu j < s.ou (x - 20))
def caM (D : DZ) (s : MS) (stl : Int32) (x : Nat) : Bool := if x < 20 then decide (cmM s x 0 < gnM D s x 0 + 2) else !bt stl (x - 20)
def geM (D : DZ) (s : MS) (stl : Int32) (j x : Nat) : Bool := rdM D s j && (!goM s j x && caM D s stl x)
def enM (D : DZ) (s : MS) (stl : Int32) (j : Nat) : Bool := rdM D s j && (brL D j).all (fun x => goM s j x || geM D s stl j x)
def mvM (D : DZ) (s : MS) (c b : Nat) : Bool := decide (b < D.ex c) && (decide (gnM D s c b < cmM s c b) && decide (cmM s c (b + 1) < gnM D s c (b + 1) + 2))
def svM (s : MS) (j x : Nat) : Int32 := if x < 20 then s.tok x (s.tu j) else s.ofv (x - 20) (s.tu j)
def vaM (D : DZ) (s : MS) (j : Nat) : Int32 := (inL D j).foldl (fun v x => jn (D.op j) v (svM s j x)) (D.ct j)
/-- the tick, done for some blocks and some buffers; what is given is written down at once -/
def tuP (D : DZ) (s : MS) (stl : Int32) (A : Nat → Bool) (j : Nat) : Nat := if A j && enM D s stl j then s.tu j + 1 else s.tu j
def gaP (D : DZ) (s : MS) (stl : Int32) (A : Nat → Bool) (c : Nat) : Nat := if A (D.fm c) && geM D s stl (D.fm c) c then s.ga c + 1 else s.ga c
def ouP (D : DZ) (s : MS) (stl : Int32) (A : Nat → Bool) (p : Nat) : Nat := if A (D.ofm p) && geM D s stl (D.ofm p) (20 + p) then s.ou p + 1 else s.ou p
def leP (D : DZ) (s : MS) (B : Nat → Nat → Bool) (c b : Nat) : Nat := if B c b && mvM D s c b then s.le c b + 1 else s.le c b
def tokP (D : DZ) (s : MS) (c k : Nat) : Int32 := if k = s.ga c + 1 then vaM D s (D.fm c) else s.tok c k
def ousP (D : DZ) (s : MS) (p k : Nat) : Int32 := if k = s.ou p then vaM D s (D.ofm p) else s.ous p k
def ouTP (s : MS) (p k : Nat) : Nat := if k = s.ou p then s.T else s.ouT p k
def pst (D : DZ) (s : MS) (stl : Int32) (A : Nat → Bool) (B : Nat → Nat → Bool) : MS := MS.mk s.T (tuP D s stl A) (gaP D s stl A) (ouP D s stl A) s.off (leP D s B) (tokP D s) s.ofv (ousP D s) (ouTP s)
def lb (j : Nat) : Nat → Bool := fun i => decide (i < j)
def T2 : Nat → Nat → Bool := fun _ _ => true
def stepM (D : DZ) (s : MS) (stl : Int32) : MS := MS.mk (s.T + 1) (tuP D s stl (lb D.nb)) (gaP D s stl (lb D.nb)) (ouP D s stl (lb D.nb)) s.off (leP D s T2) (tokP D s) s.ofv (ousP D s) (ouTP s)
def MI (D : DZ) (s : MS) : Prop := (s.T ≤ 1000) ∧ (∀ j, j < D.nb → s.tu j ≤ s.T) ∧ (∀ c, c < D.nc → s.tu (D.fm c) ≤ s.ga c ∧ s.ga c ≤ s.tu (D.fm c) + 1) ∧ (∀ p, p < D.no → s.tu (D.ofm p) ≤ s.ou p ∧ s.ou p ≤ s.tu (D.ofm p) + 1) ∧ (∀ p, p < D.ni → s.tu (D.ito p) ≤ s.off p ∧ s.off p ≤ s.tu (D.ito p) + 1) ∧ (∀ c, c < D.nc → ∀ b, b ≤ D.ex c → gnM D s c b ≤ cmM s c b ∧ cmM s c b ≤ gnM D s c b + 2)
theorem MI.T {D : DZ} {s : MS} (h : MI D s) : s.T ≤ 1000 := h.1
theorem MI.tu {D : DZ} {s : MS} (h : MI D s) : ∀ j, j < D.nb → s.tu j ≤ s.T := h.2.1
theorem MI.ga {D : DZ} {s : MS} (h : MI D s) : ∀ c, c < D.nc → s.tu (D.fm c) ≤ s.ga c ∧ s.ga c ≤ s.tu (D.fm c) + 1 := h.2.2.1
theorem MI.ou {D : DZ} {s : MS} (h : MI D s) : ∀ p, p < D.no → s.tu (D.ofm p) ≤ s.ou p ∧ s.ou p ≤ s.tu (D.ofm p) + 1 := h.2.2.2.1
theorem MI.off {D : DZ} {s : MS} (h : MI D s) : ∀ p, p < D.ni → s.tu (D.ito p) ≤ s.off p ∧ s.off p ≤ s.tu (D.ito p) + 1 := h.2.2.2.2.1
theorem MI.bf {D : DZ} {s : MS} (h : MI D s) : ∀ c, c < D.nc → ∀ b, b ≤ D.ex c → gnM D s c b ≤ cmM s c b ∧ cmM s c b ≤ gnM D s c b + 2 := h.2.2.2.2.2
theorem MI.mk {D : DZ} {s : MS} (T_ : s.T ≤ 1000) (tu_ : ∀ j, j < D.nb → s.tu j ≤ s.T) (ga_ : ∀ c, c < D.nc → s.tu (D.fm c) ≤ s.ga c ∧ s.ga c ≤ s.tu (D.fm c) + 1) (ou_ : ∀ p, p < D.no → s.tu (D.ofm p) ≤ s.ou p ∧ s.ou p ≤ s.tu (D.ofm p) + 1) (off_ : ∀ p, p < D.ni → s.tu (D.ito p) ≤ s.off p ∧ s.off p ≤ s.tu (D.ito p) + 1) (bf_ : ∀ c, c < D.nc → ∀ b, b ≤ D.ex c → gnM D s c b ≤ cmM s c b ∧ cmM s c b ≤ gnM D s c b + 2) : MI D s := ⟨T_, tu_, ga_, ou_, off_, bf_⟩
