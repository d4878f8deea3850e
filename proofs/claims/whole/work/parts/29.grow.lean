/-! designs that grow -/
def bkD (D : DZ) (o : Nat) (c : Int32) : DZ := DZ.mk (D.nb + 1) D.nc D.ni D.no (ra_fu D.op D.nb o) (ra_fu D.ct D.nb c) D.fs D.fm D.to D.ex D.ito D.ofm D.sq
def chD (D : DZ) (f t : Nat) (v : Int32) : DZ := DZ.mk D.nb (D.nc + 1) D.ni D.no D.op D.ct (ra_fu D.fs D.nc v) (ra_fu D.fm D.nc f) (ra_fu D.to D.nc t) (ra_fu D.ex D.nc 0) D.ito D.ofm (D.sq ++ [D.nc])
def inD (D : DZ) (t : Nat) : DZ := DZ.mk D.nb D.nc (D.ni + 1) D.no D.op D.ct D.fs D.fm D.to D.ex (ra_fu D.ito D.ni t) D.ofm (D.sq ++ [20 + D.ni])
def otD (D : DZ) (f : Nat) : DZ := DZ.mk D.nb D.nc D.ni (D.no + 1) D.op D.ct D.fs D.fm D.to D.ex D.ito (ra_fu D.ofm D.no f) (D.sq ++ [24 + D.no])
def bfD (D : DZ) (c n : Nat) : DZ := DZ.mk D.nb D.nc D.ni D.no D.op D.ct D.fs D.fm D.to (ra_fu D.ex c n) D.ito D.ofm D.sq
def emD (D : DZ) : DZ := DZ.mk 0 0 0 0 D.op D.ct D.fs D.fm D.to D.ex D.ito D.ofm []
section S18
variable {D : DZ}
theorem fu_lt {α : Type} {f : Nat → α} {n x : Nat} {v : α} (h : x < n) : ra_fu f n v x = f x := by
  unfold ra_fu
  rw [if_neg (by omega)]
theorem fu_eq {α : Type} {f : Nat → α} {n : Nat} {v : α} : ra_fu f n v n = v := by
  unfold ra_fu
  rw [if_pos rfl]
theorem fm_cg {α β : Type} {f g : α → Option β} {l : List α} (h : ∀ a, a ∈ l → f a = g a) : l.filterMap f = l.filterMap g := by
  induction l with
  | nil => rfl
  | cons a l ih =>
    rw [List.filterMap_cons, List.filterMap_cons, h a List.mem_cons_self, ih (fun b hb => h b (List.mem_cons_of_mem _ hb))]
theorem DW_bk {o : Nat} {c : Int32} (hD : DW D) (h : D.nb < 10) (ho : o < 5) : DW (bkD D o c) := by
  refine DW.mk (show D.nb + 1 ≤ 10 by omega) hD.nc hD.ni hD.no ?_ ?_ ?_ ?_ hD.nd hD.sq
  · intro j hj
    show ra_fu D.op D.nb o j < 5
    have hj2 : j < D.nb + 1 := hj
    by_cases e : j = D.nb
    · rw [e, fu_eq]; exact ho
    · rw [fu_lt (by omega)]; exact hD.op j (by omega)
  · intro c hc
    have := hD.ch c hc
    exact ⟨Nat.lt_succ_of_lt this.1, Nat.lt_succ_of_lt this.2.1, this.2.2⟩
  · intro p hp
    exact Nat.lt_succ_of_lt (hD.ip p hp)
  · intro p hp
    exact Nat.lt_succ_of_lt (hD.ot p hp)
theorem nd_snoc {l : List Nat} {x : Nat} (h : l.Nodup) (hx : x ∉ l) : (l ++ [x]).Nodup := by
  rw [List.nodup_append]
  refine ⟨h, by simp, ?_⟩
  intro a ha b hb e
  simp only [List.mem_cons, List.not_mem_nil, or_false] at hb
  exact hx (by rw [← hb, ← e]; exact ha)
theorem DW_ch {f t : Nat} {v : Int32} (hD : DW D) (h : D.nc < 20) (hf : f < D.nb) (ht : t < D.nb) : DW (chD D f t v) := by
  have hno := hD.no
  have hni := hD.ni
  refine DW.mk hD.nb (show D.nc + 1 ≤ 20 by omega) hD.ni hD.no hD.op ?_ hD.ip hD.ot ?_ ?_
  · intro c hc
    have hc2 : c < D.nc + 1 := hc
    show ra_fu D.fm D.nc f c < D.nb ∧ ra_fu D.to D.nc t c < D.nb ∧ ra_fu D.ex D.nc 0 c ≤ 3
    by_cases e : c = D.nc
    · rw [e, fu_eq, fu_eq, fu_eq]; exact ⟨hf, ht, by omega⟩
    · rw [fu_lt (by omega), fu_lt (by omega), fu_lt (by omega)]; exact hD.ch c (by omega)
  · exact nd_snoc hD.nd (fun z => by have := (hD.sq _).mp z; omega)
  · intro x
    show x ∈ D.sq ++ [D.nc] ↔ (x < D.nc + 1 ∨ (20 ≤ x ∧ x < 20 + D.ni) ∨ (24 ≤ x ∧ x < 24 + D.no))
    rw [List.mem_append, hD.sq]
    simp only [List.mem_cons, List.not_mem_nil, or_false]
    omega
theorem DW_in {t : Nat} (hD : DW D) (h : D.ni < 4) (ht : t < D.nb) : DW (inD D t) := by
  have hno := hD.no
  have hnc := hD.nc
  refine DW.mk hD.nb hD.nc (show D.ni + 1 ≤ 4 by omega) hD.no hD.op hD.ch ?_ hD.ot ?_ ?_
  · intro p hp
    have hp2 : p < D.ni + 1 := hp
    show ra_fu D.ito D.ni t p < D.nb
    by_cases e : p = D.ni
    · rw [e, fu_eq]; exact ht
    · rw [fu_lt (by omega)]; exact hD.ip p (by omega)
  · exact nd_snoc hD.nd (fun z => by have := (hD.sq _).mp z; omega)
  · intro x
    show x ∈ D.sq ++ [20 + D.ni] ↔ (x < D.nc ∨ (20 ≤ x ∧ x < 20 + (D.ni + 1)) ∨ (24 ≤ x ∧ x < 24 + D.no))
    rw [List.mem_append, hD.sq]
    simp only [List.mem_cons, List.not_mem_nil, or_false]
    omega
theorem DW_ot {f : Nat} (hD : DW D) (h : D.no < 4) (hf : f < D.nb) : DW (otD D f) := by
  have hni := hD.ni
  have hnc := hD.nc
  refine DW.mk hD.nb hD.nc hD.ni (show D.no + 1 ≤ 4 by omega) hD.op hD.ch hD.ip ?_ ?_ ?_
  · intro p hp
    have hp2 : p < D.no + 1 := hp
    show ra_fu D.ofm D.no f p < D.nb
    by_cases e : p = D.no
    · rw [e, fu_eq]; exact hf
    · rw [fu_lt (by omega)]; exact hD.ot p (by omega)
  · exact nd_snoc hD.nd (fun z => by have := (hD.sq _).mp z; omega)
  · intro x
    show x ∈ D.sq ++ [24 + D.no] ↔ (x < D.nc ∨ (20 ≤ x ∧ x < 20 + D.ni) ∨ (24 ≤ x ∧ x < 24 + (D.no + 1)))
    rw [List.mem_append, hD.sq]
    simp only [List.mem_cons, List.not_mem_nil, or_false]
    omega
theorem DW_bf {c n : Nat} (hD : DW D) (hn : n ≤ 3) : DW (bfD D c n) := by
  refine DW.mk hD.nb hD.nc hD.ni hD.no hD.op ?_ hD.ip hD.ot hD.nd hD.sq
  intro x hx
  have h := hD.ch x hx
  refine ⟨h.1, h.2.1, ?_⟩
  show ra_fu D.ex c n x ≤ 3
  unfold ra_fu
  split
  · exact hn
  · exact h.2.2
theorem DW_em : DW (emD D) := by
  refine DW.mk (Nat.zero_le _) (Nat.zero_le _) (Nat.zero_le _) (Nat.zero_le _) ?_ ?_ ?_ ?_ List.nodup_nil ?_
  · intro j hj; exact absurd hj (Nat.not_lt_zero _)
  · intro j hj; exact absurd hj (Nat.not_lt_zero _)
  · intro j hj; exact absurd hj (Nat.not_lt_zero _)
  · intro j hj; exact absurd hj (Nat.not_lt_zero _)
  · intro x
    show x ∈ [] ↔ (x < 0 ∨ (20 ≤ x ∧ x < 20 + 0) ∨ (24 ≤ x ∧ x < 24 + 0))
    simp only [List.not_mem_nil, false_iff]
    omega
theorem inL_nb (hD : DW D) : inL D D.nb = [] := by
  cases h : inL D D.nb with
  | nil => rfl
  | cons x l =>
    have hm : x ∈ inL D D.nb := by rw [h]; exact List.mem_cons_self
    rcases (inL_mem hD).mp hm with ⟨h1, h2⟩ | ⟨h1, h2, h3⟩
    · have := (hD.ch x h1).2.1; omega
    · have := hD.ip (x - 20) (by omega); omega
theorem brL_nb (hD : DW D) : brL D D.nb = [] := by
  cases h : brL D D.nb with
  | nil => rfl
  | cons x l =>
    have hm : x ∈ brL D D.nb := by rw [h]; exact List.mem_cons_self
    rcases (brL_mem hD).mp hm with ⟨h1, h2⟩ | ⟨h1, h2, h3⟩
    · have := (hD.ch x h1).1; omega
    · have := hD.ot (x - 20) (by omega); omega
theorem inL_ch {f t j : Nat} {v : Int32} (hD : DW D) (h : D.nc < 20) : inL (chD D f t v) j = inL D j ++ (if t = j then [D.nc] else []) := by
  show (D.sq ++ [D.nc]).filterMap (inF (chD D f t v) j) = D.sq.filterMap (inF D j) ++ _
  rw [List.filterMap_append]
  congr 1
  · apply fm_cg
    intro x hx
    have h1 := (hD.sq x).mp hx
    show (if x < 20 then (if ra_fu D.to D.nc t x = j then some x else none) else if x < 24 then (if D.ito (x - 20) = j then some x else none) else none) = (if x < 20 then (if D.to x = j then some x else none) else if x < 24 then (if D.ito (x - 20) = j then some x else none) else none)
    by_cases hl : x < 20
    · rw [if_pos hl, if_pos hl, fu_lt (by omega)]
    · rw [if_neg hl, if_neg hl]
  · have e : inF (chD D f t v) j D.nc = if t = j then some D.nc else none := by
      show (if D.nc < 20 then (if ra_fu D.to D.nc t D.nc = j then some D.nc else none) else _) = _
      rw [if_pos h, fu_eq]
    rw [List.filterMap_cons, e]
    by_cases e2 : t = j
    · rw [if_pos e2, if_pos e2]; rfl
    · rw [if_neg e2, if_neg e2]; rfl
theorem brL_ch {f t j : Nat} {v : Int32} (hD : DW D) (h : D.nc < 20) : brL (chD D f t v) j = brL D j ++ (if f = j then [D.nc] else []) := by
  show (D.sq ++ [D.nc]).filterMap (brF (chD D f t v) j) = D.sq.filterMap (brF D j) ++ _
  rw [List.filterMap_append]
  congr 1
  · apply fm_cg
    intro x hx
    have h1 := (hD.sq x).mp hx
    show (if x < 20 then (if ra_fu D.fm D.nc f x = j then some x else none) else if x < 24 then none else if D.ofm (x - 24) = j then some (x - 4) else none) = (if x < 20 then (if D.fm x = j then some x else none) else if x < 24 then none else if D.ofm (x - 24) = j then some (x - 4) else none)
    by_cases hl : x < 20
    · rw [if_pos hl, if_pos hl, fu_lt (by omega)]
    · rw [if_neg hl, if_neg hl]
  · have e : brF (chD D f t v) j D.nc = if f = j then some D.nc else none := by
      show (if D.nc < 20 then (if ra_fu D.fm D.nc f D.nc = j then some D.nc else none) else _) = _
      rw [if_pos h, fu_eq]
    rw [List.filterMap_cons, e]
    by_cases e2 : f = j
    · rw [if_pos e2, if_pos e2]; rfl
    · rw [if_neg e2, if_neg e2]; rfl
theorem inL_in {t j : Nat} (hD : DW D) (h : D.ni < 4) : inL (inD D t) j = inL D j ++ (if t = j then [20 + D.ni] else []) := by
  show (D.sq ++ [20 + D.ni]).filterMap (inF (inD D t) j) = D.sq.filterMap (inF D j) ++ _
  rw [List.filterMap_append]
  congr 1
  · apply fm_cg
    intro x hx
    have h1 := (hD.sq x).mp hx
    show (if x < 20 then (if D.to x = j then some x else none) else if x < 24 then (if ra_fu D.ito D.ni t (x - 20) = j then some x else none) else none) = (if x < 20 then (if D.to x = j then some x else none) else if x < 24 then (if D.ito (x - 20) = j then some x else none) else none)
    by_cases hl : x < 20
    · rw [if_pos hl, if_pos hl]
    · rw [if_neg hl, if_neg hl]
      by_cases hl2 : x < 24
      · rw [if_pos hl2, if_pos hl2, fu_lt (by have := hD.nc; omega)]
      · rw [if_neg hl2, if_neg hl2]
  · have e : inF (inD D t) j (20 + D.ni) = if t = j then some (20 + D.ni) else none := by
      show (if 20 + D.ni < 20 then _ else if 20 + D.ni < 24 then (if ra_fu D.ito D.ni t (20 + D.ni - 20) = j then some (20 + D.ni) else none) else none) = _
      rw [if_neg (by omega), if_pos (by omega), show 20 + D.ni - 20 = D.ni by omega, fu_eq]
    rw [List.filterMap_cons, e]
    by_cases e2 : t = j
    · rw [if_pos e2, if_pos e2]; rfl
    · rw [if_neg e2, if_neg e2]; rfl
theorem brL_in {t j : Nat} (h : D.ni < 4) : brL (inD D t) j = brL D j := by
  show (D.sq ++ [20 + D.ni]).filterMap (brF D j) = D.sq.filterMap (brF D j)
  rw [List.filterMap_append]
  have e : brF D j (20 + D.ni) = none := by
    unfold brF
    rw [if_neg (by omega), if_pos (by omega)]
  rw [List.filterMap_cons, e]
  simp
theorem inL_ot {f j : Nat} : inL (otD D f) j = inL D j := by
  show (D.sq ++ [24 + D.no]).filterMap (inF D j) = D.sq.filterMap (inF D j)
  rw [List.filterMap_append]
  have e : inF D j (24 + D.no) = none := by
    unfold inF
    rw [if_neg (by omega), if_neg (by omega)]
  rw [List.filterMap_cons, e]
  simp
theorem brL_ot {f j : Nat} (hD : DW D) (h : D.no < 4) : brL (otD D f) j = brL D j ++ (if f = j then [20 + D.no] else []) := by
  show (D.sq ++ [24 + D.no]).filterMap (brF (otD D f) j) = D.sq.filterMap (brF D j) ++ _
  rw [List.filterMap_append]
  congr 1
  · apply fm_cg
    intro x hx
    have h1 := (hD.sq x).mp hx
    show (if x < 20 then (if D.fm x = j then some x else none) else if x < 24 then none else if ra_fu D.ofm D.no f (x - 24) = j then some (x - 4) else none) = (if x < 20 then (if D.fm x = j then some x else none) else if x < 24 then none else if D.ofm (x - 24) = j then some (x - 4) else none)
    by_cases hl : x < 20
    · rw [if_pos hl, if_pos hl]
    · rw [if_neg hl, if_neg hl]
      by_cases hl2 : x < 24
      · rw [if_pos hl2, if_pos hl2]
      · rw [if_neg hl2, if_neg hl2, fu_lt (by have := hD.nc; have := hD.ni; omega)]
  · have e : brF (otD D f) j (24 + D.no) = if f = j then some (20 + D.no) else none := by
      show (if 24 + D.no < 20 then _ else if 24 + D.no < 24 then none else if ra_fu D.ofm D.no f (24 + D.no - 24) = j then some (24 + D.no - 4) else none) = _
      rw [if_neg (by omega), if_neg (by omega), show 24 + D.no - 24 = D.no by omega, show 24 + D.no - 4 = 20 + D.no by omega, fu_eq]
    rw [List.filterMap_cons, e]
    by_cases e2 : f = j
    · rw [if_pos e2, if_pos e2]; rfl
    · rw [if_neg e2, if_neg e2]; rfl
end S18
