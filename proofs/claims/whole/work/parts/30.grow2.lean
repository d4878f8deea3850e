/-! designs that grow, as they are held -/
theorem gi_l {l m : List Nat} {i : Nat} (h : i < l.length) : gi (l ++ m) i = gi l i := by
  simp only [gi, List.getD_eq_getElem?_getD, List.getElem?_append_left h]
theorem gi_r {l : List Nat} {x i : Nat} (h : i = l.length) : gi (l ++ [x]) i = x := by
  subst h
  simp [gi, List.getD_eq_getElem?_getD]
section S19
variable {d : Nat} {I : Nat → Nat → Int32} {J : Nat → Nat → Int64} {D : DZ}
theorem RD_bk {o : Nat} {c : Int32} (hD : DW D) (rD : RD I D) (h : D.nb < 10) : RD (pm_uI (pm_uI (pm_uI (pm_uI (pm_uI I 2 D.nb (nI o)) 3 D.nb c) 20 D.nb 0) 32 D.nb 0) 1 0 (nI (D.nb + 1))) (bkD D o c) := by
  generalize hI : pm_uI (pm_uI (pm_uI (pm_uI (pm_uI I 2 D.nb (nI o)) 3 D.nb c) 20 D.nb 0) 32 D.nb 0) 1 0 (nI (D.nb + 1)) = I'
  have at1 : ∀ c' j, I' c' j = if c' = 1 ∧ j = 0 then nI (D.nb + 1) else if c' = 32 ∧ j = D.nb then 0 else if c' = 20 ∧ j = D.nb then 0 else if c' = 3 ∧ j = D.nb then c else if c' = 2 ∧ j = D.nb then nI o else I c' j := by
    intro c' j
    rw [← hI]
    simp only [uI_at]
  refine RD.mk ?_ ?_ ?_ ?_ ?_ ?_ ?_ ?_ ?_
  · rw [at1, if_pos ⟨rfl, rfl⟩]; rfl
  · rw [at1]; (repeat rw [if_neg (by omega)]); exact rD.nc
  · rw [at1]; (repeat rw [if_neg (by omega)]); exact rD.ni
  · rw [at1]; (repeat rw [if_neg (by omega)]); exact rD.no
  · intro j hj
    have hj2 : j < D.nb + 1 := hj
    show I' 2 j = nI (ra_fu D.op D.nb o j) ∧ I' 3 j = ra_fu D.ct D.nb c j
    by_cases e : j = D.nb
    · subst e
      rw [fu_eq, fu_eq, at1, at1]
      simp
    · rw [fu_lt (by omega), fu_lt (by omega), at1, at1]
      (repeat rw [if_neg (by omega)])
      exact rD.bl j (by omega)
  · intro j hj
    have hj2 : j < D.nb + 1 := hj
    show I' 20 j = nI (inL D j).length ∧ ∀ i, i < (inL D j).length → I' (10 + j) i = nI (gi (inL D j) i)
    by_cases e : j = D.nb
    · subst e
      rw [inL_nb hD, at1, if_neg (by omega), if_neg (by omega), if_pos ⟨rfl, rfl⟩]
      exact ⟨rfl, fun i hi => absurd hi (Nat.not_lt_zero _)⟩
    · refine ⟨?_, fun i hi => ?_⟩
      · rw [at1]; (repeat rw [if_neg (by omega)]); exact (rD.inn j (by omega)).1
      · rw [at1]; (repeat rw [if_neg (by omega)]); exact (rD.inn j (by omega)).2 i hi
  · intro j hj
    have hj2 : j < D.nb + 1 := hj
    show I' 32 j = nI (brL D j).length ∧ ∀ i, i < (brL D j).length → I' (22 + j) i = nI (gi (brL D j) i)
    by_cases e : j = D.nb
    · subst e
      rw [brL_nb hD, at1, if_neg (by omega), if_pos ⟨rfl, rfl⟩]
      exact ⟨rfl, fun i hi => absurd hi (Nat.not_lt_zero _)⟩
    · refine ⟨?_, fun i hi => ?_⟩
      · rw [at1]; (repeat rw [if_neg (by omega)]); exact (rD.brn j (by omega)).1
      · rw [at1]; (repeat rw [if_neg (by omega)]); exact (rD.brn j (by omega)).2 i hi
  · intro q hq
    have := rD.ch q hq
    rw [at1, at1, at1, at1]
    (repeat rw [if_neg (by omega)])
    exact this
  · intro q hq
    rw [at1]
    (repeat rw [if_neg (by omega)])
    exact rD.ot q hq
theorem RD_ch {f t : Nat} {v : Int32} (hD : DW D) (rD : RD I D) (h : D.nc < 20) (hf : f < D.nb) (ht : t < D.nb) : RD (pm_uI (pm_uI (pm_uI (pm_uI (pm_uI (pm_uI (pm_uI (pm_uI (pm_uI I 4 D.nc (nI f)) 5 D.nc (nI t)) 6 D.nc v) 7 D.nc 0) (22 + f) (brL D f).length (nI D.nc)) 32 f (nI ((brL D f).length + 1))) (10 + t) (inL D t).length (nI D.nc)) 20 t (nI ((inL D t).length + 1))) 1 1 (nI (D.nc + 1))) (chD D f t v) := by
  have hb10 := hD.nb
  generalize hI : pm_uI (pm_uI (pm_uI (pm_uI (pm_uI (pm_uI (pm_uI (pm_uI (pm_uI I 4 D.nc (nI f)) 5 D.nc (nI t)) 6 D.nc v) 7 D.nc 0) (22 + f) (brL D f).length (nI D.nc)) 32 f (nI ((brL D f).length + 1))) (10 + t) (inL D t).length (nI D.nc)) 20 t (nI ((inL D t).length + 1))) 1 1 (nI (D.nc + 1)) = I'
  have at1 : ∀ c' j, I' c' j = if c' = 1 ∧ j = 1 then nI (D.nc + 1) else if c' = 20 ∧ j = t then nI ((inL D t).length + 1) else if c' = 10 + t ∧ j = (inL D t).length then nI D.nc else if c' = 32 ∧ j = f then nI ((brL D f).length + 1) else if c' = 22 + f ∧ j = (brL D f).length then nI D.nc else if c' = 7 ∧ j = D.nc then 0 else if c' = 6 ∧ j = D.nc then v else if c' = 5 ∧ j = D.nc then nI t else if c' = 4 ∧ j = D.nc then nI f else I c' j := by
    intro c' j
    rw [← hI]
    simp only [uI_at]
  refine RD.mk ?_ ?_ ?_ ?_ ?_ ?_ ?_ ?_ ?_
  · rw [at1]; (repeat rw [if_neg (by omega)]); exact rD.nb
  · rw [at1, if_pos ⟨rfl, rfl⟩]; rfl
  · rw [at1]; (repeat rw [if_neg (by omega)]); exact rD.ni
  · rw [at1]; (repeat rw [if_neg (by omega)]); exact rD.no
  · intro j hj
    rw [at1, at1]
    (repeat rw [if_neg (by omega)])
    exact rD.bl j hj
  · intro j hj
    have hj2 : j < D.nb := hj
    rw [inL_ch hD h]
    by_cases e : t = j
    · subst e
      rw [if_pos rfl]
      refine ⟨?_, fun i hi => ?_⟩
      · rw [at1, if_neg (by omega), if_pos ⟨rfl, rfl⟩, List.length_append]; rfl
      · rw [List.length_append, List.length_singleton] at hi
        by_cases e2 : i = (inL D t).length
        · rw [gi_r e2, at1, if_neg (by omega), if_neg (by omega), if_pos ⟨rfl, e2⟩]
        · rw [gi_l (by omega), at1]
          (repeat rw [if_neg (by omega)])
          exact (rD.inn t hj2).2 i (by omega)
    · rw [if_neg e, List.append_nil]
      refine ⟨?_, fun i hi => ?_⟩
      · rw [at1]; (repeat rw [if_neg (by omega)]); exact (rD.inn j hj2).1
      · rw [at1]; (repeat rw [if_neg (by omega)]); exact (rD.inn j hj2).2 i hi
  · intro j hj
    have hj2 : j < D.nb := hj
    rw [brL_ch hD h]
    by_cases e : f = j
    · subst e
      rw [if_pos rfl]
      refine ⟨?_, fun i hi => ?_⟩
      · rw [at1, if_neg (by omega), if_neg (by omega), if_neg (by omega), if_pos ⟨rfl, rfl⟩, List.length_append]; rfl
      · rw [List.length_append, List.length_singleton] at hi
        by_cases e2 : i = (brL D f).length
        · rw [gi_r e2, at1, if_neg (by omega), if_neg (by omega), if_neg (by omega), if_neg (by omega), if_pos ⟨rfl, e2⟩]
        · rw [gi_l (by omega), at1]
          (repeat rw [if_neg (by omega)])
          exact (rD.brn f hj2).2 i (by omega)
    · rw [if_neg e, List.append_nil]
      refine ⟨?_, fun i hi => ?_⟩
      · rw [at1]; (repeat rw [if_neg (by omega)]); exact (rD.brn j hj2).1
      · rw [at1]; (repeat rw [if_neg (by omega)]); exact (rD.brn j hj2).2 i hi
  · intro q hq
    have hq2 : q < D.nc + 1 := hq
    show I' 4 q = nI (ra_fu D.fm D.nc f q) ∧ I' 5 q = nI (ra_fu D.to D.nc t q) ∧ I' 6 q = ra_fu D.fs D.nc v q ∧ I' 7 q = nI (ra_fu D.ex D.nc 0 q)
    by_cases e : q = D.nc
    · subst e
      rw [fu_eq, fu_eq, fu_eq, fu_eq]
      refine ⟨?_, ?_, ?_, ?_⟩
      · rw [at1]; (repeat rw [if_neg (by omega)]); rw [if_pos ⟨rfl, rfl⟩]
      · rw [at1]; (repeat rw [if_neg (by omega)]); rw [if_pos ⟨rfl, rfl⟩]
      · rw [at1]; (repeat rw [if_neg (by omega)]); rw [if_pos ⟨rfl, rfl⟩]
      · rw [at1]; (repeat rw [if_neg (by omega)]); rw [if_pos ⟨rfl, rfl⟩]; rfl
    · have := rD.ch q (by omega)
      rw [fu_lt (by omega), fu_lt (by omega), fu_lt (by omega), fu_lt (by omega), at1, at1, at1, at1]
      (repeat rw [if_neg (by omega)])
      exact this
  · intro q hq
    rw [at1]
    (repeat rw [if_neg (by omega)])
    exact rD.ot q hq
theorem RD_in {t : Nat} (hD : DW D) (rD : RD I D) (h : D.ni < 4) (ht : t < D.nb) : RD (pm_uI (pm_uI (pm_uI I (10 + t) (inL D t).length (nI (20 + D.ni))) 20 t (nI ((inL D t).length + 1))) 1 2 (nI (D.ni + 1))) (inD D t) := by
  have hb10 := hD.nb
  generalize hI : pm_uI (pm_uI (pm_uI I (10 + t) (inL D t).length (nI (20 + D.ni))) 20 t (nI ((inL D t).length + 1))) 1 2 (nI (D.ni + 1)) = I'
  have at1 : ∀ c' j, I' c' j = if c' = 1 ∧ j = 2 then nI (D.ni + 1) else if c' = 20 ∧ j = t then nI ((inL D t).length + 1) else if c' = 10 + t ∧ j = (inL D t).length then nI (20 + D.ni) else I c' j := by
    intro c' j
    rw [← hI]
    simp only [uI_at]
  refine RD.mk ?_ ?_ ?_ ?_ ?_ ?_ ?_ ?_ ?_
  · rw [at1]; (repeat rw [if_neg (by omega)]); exact rD.nb
  · rw [at1]; (repeat rw [if_neg (by omega)]); exact rD.nc
  · rw [at1, if_pos ⟨rfl, rfl⟩]; rfl
  · rw [at1]; (repeat rw [if_neg (by omega)]); exact rD.no
  · intro j hj
    rw [at1, at1]
    (repeat rw [if_neg (by omega)])
    exact rD.bl j hj
  · intro j hj
    have hj2 : j < D.nb := hj
    rw [inL_in hD h]
    by_cases e : t = j
    · subst e
      rw [if_pos rfl]
      refine ⟨?_, fun i hi => ?_⟩
      · rw [at1, if_neg (by omega), if_pos ⟨rfl, rfl⟩, List.length_append]; rfl
      · rw [List.length_append, List.length_singleton] at hi
        by_cases e2 : i = (inL D t).length
        · rw [gi_r e2, at1, if_neg (by omega), if_neg (by omega), if_pos ⟨rfl, e2⟩]
        · rw [gi_l (by omega), at1]
          (repeat rw [if_neg (by omega)])
          exact (rD.inn t hj2).2 i (by omega)
    · rw [if_neg e, List.append_nil]
      refine ⟨?_, fun i hi => ?_⟩
      · rw [at1]; (repeat rw [if_neg (by omega)]); exact (rD.inn j hj2).1
      · rw [at1]; (repeat rw [if_neg (by omega)]); exact (rD.inn j hj2).2 i hi
  · intro j hj
    have hj2 : j < D.nb := hj
    rw [brL_in h]
    refine ⟨?_, fun i hi => ?_⟩
    · rw [at1]; (repeat rw [if_neg (by omega)]); exact (rD.brn j hj2).1
    · rw [at1]; (repeat rw [if_neg (by omega)]); exact (rD.brn j hj2).2 i hi
  · intro q hq
    have := rD.ch q hq
    rw [at1, at1, at1, at1]
    (repeat rw [if_neg (by omega)])
    exact this
  · intro q hq
    rw [at1]
    (repeat rw [if_neg (by omega)])
    exact rD.ot q hq
theorem RD_ot {f : Nat} (hD : DW D) (rD : RD I D) (h : D.no < 4) (hf : f < D.nb) : RD (pm_uI (pm_uI (pm_uI (pm_uI I 8 D.no (nI f)) (22 + f) (brL D f).length (nI (20 + D.no))) 32 f (nI ((brL D f).length + 1))) 1 3 (nI (D.no + 1))) (otD D f) := by
  have hb10 := hD.nb
  generalize hI : pm_uI (pm_uI (pm_uI (pm_uI I 8 D.no (nI f)) (22 + f) (brL D f).length (nI (20 + D.no))) 32 f (nI ((brL D f).length + 1))) 1 3 (nI (D.no + 1)) = I'
  have at1 : ∀ c' j, I' c' j = if c' = 1 ∧ j = 3 then nI (D.no + 1) else if c' = 32 ∧ j = f then nI ((brL D f).length + 1) else if c' = 22 + f ∧ j = (brL D f).length then nI (20 + D.no) else if c' = 8 ∧ j = D.no then nI f else I c' j := by
    intro c' j
    rw [← hI]
    simp only [uI_at]
  refine RD.mk ?_ ?_ ?_ ?_ ?_ ?_ ?_ ?_ ?_
  · rw [at1]; (repeat rw [if_neg (by omega)]); exact rD.nb
  · rw [at1]; (repeat rw [if_neg (by omega)]); exact rD.nc
  · rw [at1]; (repeat rw [if_neg (by omega)]); exact rD.ni
  · rw [at1, if_pos ⟨rfl, rfl⟩]; rfl
  · intro j hj
    rw [at1, at1]
    (repeat rw [if_neg (by omega)])
    exact rD.bl j hj
  · intro j hj
    have hj2 : j < D.nb := hj
    rw [inL_ot]
    refine ⟨?_, fun i hi => ?_⟩
    · rw [at1]; (repeat rw [if_neg (by omega)]); exact (rD.inn j hj2).1
    · rw [at1]; (repeat rw [if_neg (by omega)]); exact (rD.inn j hj2).2 i hi
  · intro j hj
    have hj2 : j < D.nb := hj
    rw [brL_ot hD h]
    by_cases e : f = j
    · subst e
      rw [if_pos rfl]
      refine ⟨?_, fun i hi => ?_⟩
      · rw [at1, if_neg (by omega), if_pos ⟨rfl, rfl⟩, List.length_append]; rfl
      · rw [List.length_append, List.length_singleton] at hi
        by_cases e2 : i = (brL D f).length
        · rw [gi_r e2, at1, if_neg (by omega), if_neg (by omega), if_pos ⟨rfl, e2⟩]
        · rw [gi_l (by omega), at1]
          (repeat rw [if_neg (by omega)])
          exact (rD.brn f hj2).2 i (by omega)
    · rw [if_neg e, List.append_nil]
      refine ⟨?_, fun i hi => ?_⟩
      · rw [at1]; (repeat rw [if_neg (by omega)]); exact (rD.brn j hj2).1
      · rw [at1]; (repeat rw [if_neg (by omega)]); exact (rD.brn j hj2).2 i hi
  · intro q hq
    have := rD.ch q hq
    rw [at1, at1, at1, at1]
    (repeat rw [if_neg (by omega)])
    exact this
  · intro q hq
    have hq2 : q < D.no + 1 := hq
    show I' 8 q = nI (ra_fu D.ofm D.no f q)
    by_cases e : q = D.no
    · subst e
      rw [fu_eq, at1]; (repeat rw [if_neg (by omega)]); rw [if_pos ⟨rfl, rfl⟩]
    · rw [fu_lt (by omega), at1]
      (repeat rw [if_neg (by omega)])
      exact rD.ot q (by omega)
theorem RD_bf {c n : Nat} (rD : RD I D) (hc : c < D.nc) : RD (pm_uI I 7 c (nI n)) (bfD D c n) := by
  have at1 : ∀ c' j, c' ≠ 7 → pm_uI I 7 c (nI n) c' j = I c' j := fun c' j h => uI_ne h
  refine RD.mk rD.nb rD.nc rD.ni rD.no rD.bl (fun j hj => ?_) (fun j hj => ?_) (fun q hq => ?_) rD.ot
  · have := rD.inn j hj
    refine ⟨this.1, fun i hi => ?_⟩
    rw [at1 _ _ (by omega)]
    exact this.2 i hi
  · have := rD.brn j hj
    refine ⟨this.1, fun i hi => ?_⟩
    rw [at1 _ _ (by omega)]
    exact this.2 i hi
  · have := rD.ch q hq
    refine ⟨this.1, this.2.1, this.2.2.1, ?_⟩
    show pm_uI I 7 c (nI n) 7 q = nI (ra_fu D.ex c n q)
    unfold ra_fu
    by_cases e : q = c
    · rw [if_pos e, e, uI_eq]
    · rw [if_neg e, uI_nj e]; exact this.2.2.2
theorem RD_em : RD (pm_uI (pm_uI (pm_uI (pm_uI I 1 0 0) 1 1 0) 1 2 0) 1 3 0) (emD D) := by
  refine RD.mk rfl rfl rfl rfl ?_ ?_ ?_ ?_ ?_
  · intro j hj; exact absurd hj (Nat.not_lt_zero _)
  · intro j hj; exact absurd hj (Nat.not_lt_zero _)
  · intro j hj; exact absurd hj (Nat.not_lt_zero _)
  · intro j hj; exact absurd hj (Nat.not_lt_zero _)
  · intro j hj; exact absurd hj (Nat.not_lt_zero _)
end S19
