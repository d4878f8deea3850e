/-! what holds between two calls of a script -/
def LB (RT : DZ → Nat × Nat) (I : Nat → Nat → Int32) (J : Nat → Nat → Int64) (D : DZ) (s : MS) (t : TS) (cy : Nat) : Prop := (I 0 4 = 1) ∧ (I 69 1 = 1) ∧ (MI D s) ∧ (TI D s t) ∧ (TB s t) ∧ (RQ I J D s) ∧ (RK I D s cy) ∧ (RMS I D s t) ∧ (I 69 43 = nI (RT D).1 ∧ I 69 44 = nI (RT D).2) ∧ (I 62 1 = 0 ∨ (I 62 1 = 1 ∧ I 62 2 = nI (RT D).1 ∧ I 62 3 = nI (RT D).2))
theorem LB.e {RT : DZ → Nat × Nat} {I : Nat → Nat → Int32} {J : Nat → Nat → Int64} {D : DZ} {s : MS} {t : TS} {cy : Nat} (h : LB RT I J D s t cy) : I 0 4 = 1 := h.1
theorem LB.m {RT : DZ → Nat × Nat} {I : Nat → Nat → Int32} {J : Nat → Nat → Int64} {D : DZ} {s : MS} {t : TS} {cy : Nat} (h : LB RT I J D s t cy) : I 69 1 = 1 := h.2.1
theorem LB.M {RT : DZ → Nat × Nat} {I : Nat → Nat → Int32} {J : Nat → Nat → Int64} {D : DZ} {s : MS} {t : TS} {cy : Nat} (h : LB RT I J D s t cy) : MI D s := h.2.2.1
theorem LB.ti {RT : DZ → Nat × Nat} {I : Nat → Nat → Int32} {J : Nat → Nat → Int64} {D : DZ} {s : MS} {t : TS} {cy : Nat} (h : LB RT I J D s t cy) : TI D s t := h.2.2.2.1
theorem LB.tb {RT : DZ → Nat × Nat} {I : Nat → Nat → Int32} {J : Nat → Nat → Int64} {D : DZ} {s : MS} {t : TS} {cy : Nat} (h : LB RT I J D s t cy) : TB s t := h.2.2.2.2.1
theorem LB.Q {RT : DZ → Nat × Nat} {I : Nat → Nat → Int32} {J : Nat → Nat → Int64} {D : DZ} {s : MS} {t : TS} {cy : Nat} (h : LB RT I J D s t cy) : RQ I J D s := h.2.2.2.2.2.1
theorem LB.K {RT : DZ → Nat × Nat} {I : Nat → Nat → Int32} {J : Nat → Nat → Int64} {D : DZ} {s : MS} {t : TS} {cy : Nat} (h : LB RT I J D s t cy) : RK I D s cy := h.2.2.2.2.2.2.1
theorem LB.S {RT : DZ → Nat × Nat} {I : Nat → Nat → Int32} {J : Nat → Nat → Int64} {D : DZ} {s : MS} {t : TS} {cy : Nat} (h : LB RT I J D s t cy) : RMS I D s t := h.2.2.2.2.2.2.2.1
theorem LB.R {RT : DZ → Nat × Nat} {I : Nat → Nat → Int32} {J : Nat → Nat → Int64} {D : DZ} {s : MS} {t : TS} {cy : Nat} (h : LB RT I J D s t cy) : I 69 43 = nI (RT D).1 ∧ I 69 44 = nI (RT D).2 := h.2.2.2.2.2.2.2.2.1
theorem LB.A {RT : DZ → Nat × Nat} {I : Nat → Nat → Int32} {J : Nat → Nat → Int64} {D : DZ} {s : MS} {t : TS} {cy : Nat} (h : LB RT I J D s t cy) : I 62 1 = 0 ∨ (I 62 1 = 1 ∧ I 62 2 = nI (RT D).1 ∧ I 62 3 = nI (RT D).2) := h.2.2.2.2.2.2.2.2.2
theorem LB.mk {RT : DZ → Nat × Nat} {I : Nat → Nat → Int32} {J : Nat → Nat → Int64} {D : DZ} {s : MS} {t : TS} {cy : Nat} (e_ : I 0 4 = 1) (m_ : I 69 1 = 1) (M_ : MI D s) (ti_ : TI D s t) (tb_ : TB s t) (Q_ : RQ I J D s) (K_ : RK I D s cy) (S_ : RMS I D s t) (R_ : I 69 43 = nI (RT D).1 ∧ I 69 44 = nI (RT D).2) (A_ : I 62 1 = 0 ∨ (I 62 1 = 1 ∧ I 62 2 = nI (RT D).1 ∧ I 62 3 = nI (RT D).2)) : LB RT I J D s t cy := ⟨e_, m_, M_, ti_, tb_, Q_, K_, S_, R_, A_⟩
def LV (RT : DZ → Nat × Nat) (I : Nat → Nat → Int32) (J : Nat → Nat → Int64) (D : DZ) : Prop := DW D ∧ RD I D ∧ RMD I D ∧ ((I 0 4 = 0 ∧ I 69 1 = 0) ∨ ∃ s t cy, LB RT I J D s t cy)
def LW (RT : DZ → Nat × Nat) (I : Nat → Nat → Int32) (J : Nat → Nat → Int64) : Prop := ∃ D, LV RT I J D
/-- a call on both sides, and what the law asks of them -/
def opGP (P : Int32 → Prop) (mW mM : pm_M) (lw lm : List (Option Value)) (RT : DZ → Nat × Nat) (I : Nat → Nat → Int32) (J : Nat → Nat → Int64) : Prop :=
  ∃ k r I1 J1 I2, pm_Go 10 mW 0 lw [] 0 0 (ST I J) (.inl (some (.int k)), ST I1 J1) ∧ pm_Go 10 mM 0 lm [] 0 0 (ST I1 J1) (.inl (some (.int r)), ST I2 J1) ∧ I2 69 0 = k ∧ (k = 0 → J1 103 0 = r.toInt64) ∧ (k = 0 → P r) ∧ LW RT I2 J1 ∧ (I1 1000 = I 1000 ∧ I1 1001 = I 1001) ∧ I2 1000 = I 1000 ∧ I2 1001 = I 1001
abbrev opG (mW mM : pm_M) (lw lm : List (Option Value)) (RT : DZ → Nat × Nat) (I : Nat → Nat → Int32) (J : Nat → Nat → Int64) : Prop := opGP (fun _ => True) mW mM lw lm RT I J
section S50
variable {I : Nat → Nat → Int32} {J : Nat → Nat → Int64} {D : DZ} {s : MS} {t : TS} {RT : DZ → Nat × Nat}
theorem RQ.fr {L : List Nat} {I' : Nat → Nat → Int32} (h : RQ I J D s) (hf : fr L I I') (hL : ∀ c, c ∈ L → c < 33 ∨ 53 < c) : RQ I' J D s := by
  have hh : ∀ c, 33 ≤ c → c ≤ 53 → I' c = I c := fun c h1 h2 => hf c (fun z => by have := hL c z; omega)
  have hn : ∀ c, 33 ≤ c → c ≤ 53 → c ∉ L := fun c h1 h2 z => by have := hL c z; omega
  refine RQ.mk ?_ (h.B.fr hf (hn 34 (by omega) (by omega)) (hn 35 (by omega) (by omega))) ?_ ?_ ?_ ?_ (h.tk.fr hf (fun c hc => by have := hL c hc; omega)) (h.gv.fr hf (hn 48 (by omega) (by omega)))
  · rw [hh 33 (by omega) (by omega)]; exact h.T
  · rw [hh 38 (by omega) (by omega)]; exact h.tu
  · rw [hh 39 (by omega) (by omega)]; exact h.got
  · rw [hh 33 (by omega) (by omega)]; exact h.wt
  · rw [hh 41 (by omega) (by omega)]; exact h.wv
theorem RQ.jf {J' : Nat → Nat → Int64} (h : RQ I J D s) (hj : ∀ c, 50 ≤ c → c ≤ 53 → J' c = J c) : RQ I J' D s := by
  refine RQ.mk h.T h.B h.tu h.got h.wt h.wv h.tk (fun p hp => ?_)
  rw [hj (50 + p) (by omega) (by omega)]
  exact h.gv p hp
theorem LB.th {cy : Nat} {v : Int32} (hD : DW D) (h : LB RT I J D s t cy) : LB RT (pm_uI I 69 0 v) J D s t cy :=
  LB.mk h.e h.m h.M h.ti h.tb (h.Q.fr (L := [69]) (fr.uI (by decide)) (by decide)) (h.K.fr (L := [69]) hD (fr.uI (by decide)) (by decide)) h.S.th h.R h.A
theorem LV.th {v : Int32} (h : LV RT I J D) : LV RT (pm_uI I 69 0 v) J D := by
  obtain ⟨hD, rD, rM, hh⟩ := h
  refine ⟨hD, rD.fr hD (L := [69]) (fr.uI (by decide)) (by decide), rM.th, ?_⟩
  rcases hh with h1 | ⟨s, t, cy, h1⟩
  · exact Or.inl h1
  · exact Or.inr ⟨s, t, cy, h1.th hD⟩
theorem uJ_103 {v : Int64} {c : Nat} (h : c ≠ 103) : pm_uJ J 103 0 v c = J c := by
  unfold pm_uJ
  rw [if_neg h]
theorem uJ_eq {v : Int64} : pm_uJ J 103 0 v 103 0 = v := by
  simp [pm_uJ, vp_updL]
theorem LV.out {v : Int64} (h : LV RT I J D) : LV RT I (pm_uJ J 103 0 v) D := by
  obtain ⟨hD, rD, rM, hh⟩ := h
  refine ⟨hD, rD, rM, ?_⟩
  rcases hh with h1 | ⟨s, t, cy, h1⟩
  · exact Or.inl h1
  · exact Or.inr ⟨s, t, cy, LB.mk h1.e h1.m h1.M h1.ti h1.tb (h1.Q.jf (fun c h2 h3 => uJ_103 (by omega))) h1.K h1.S h1.R h1.A⟩
variable {mW mM : pm_M} {lw lm : List (Option Value)} {P : Int32 → Prop}
theorem op_ref {k : Int32} (hk : k ≠ 0) (hw : pm_Go 10 mW 0 lw [] 0 0 (ST I J) (.inl (some (.int k)), ST I J)) (hm : pm_Go 10 mM 0 lm [] 0 0 (ST I J) (.inl (some (.int 0)), ST (pm_uI I 69 0 k) J)) (hV : LV RT I J D) : opGP P mW mM lw lm RT I J :=
  ⟨k, 0, I, J, pm_uI I 69 0 k, hw, hm, uI_eq, fun z => absurd z hk, fun z => absurd z hk, ⟨D, hV.th⟩, ⟨rfl, rfl⟩, rfl, rfl⟩
theorem op_look {r : Int32} (hw : pm_Go 10 mW 0 lw [] 0 0 (ST I J) (.inl (some (.int 0)), ST I (pm_uJ J 103 0 r.toInt64))) (hm : pm_Go 10 mM 0 lm [] 0 0 (ST I (pm_uJ J 103 0 r.toInt64)) (.inl (some (.int r)), ST (pm_uI I 69 0 0) (pm_uJ J 103 0 r.toInt64))) (hV : LV RT I J D) (hP : P r := by trivial) : opGP P mW mM lw lm RT I J :=
  ⟨0, r, I, _, pm_uI I 69 0 0, hw, hm, uI_eq, fun _ => uJ_eq, fun _ => hP, ⟨D, hV.th.out⟩, ⟨rfl, rfl⟩, rfl, rfl⟩
theorem op_new {r : Int32} {I1 I2 : Nat → Nat → Int32} {J1 : Nat → Nat → Int64} {L1 L2 : List Nat} (hw : pm_Go 10 mW 0 lw [] 0 0 (ST I J) (.inl (some (.int 0)), ST I1 (pm_uJ J1 103 0 r.toInt64))) (hm : pm_Go 10 mM 0 lm [] 0 0 (ST I1 (pm_uJ J1 103 0 r.toInt64)) (.inl (some (.int r)), ST I2 (pm_uJ J1 103 0 r.toInt64))) (h0 : I2 69 0 = 0) (hV : LV RT I2 J1 D) (f1 : fr L1 I I1) (f2 : fr L2 I1 I2) (g1 : ∀ c, c ∈ L1 → c < 1000) (g2 : ∀ c, c ∈ L2 → c < 1000) (hP : P r := by trivial) : opGP P mW mM lw lm RT I J :=
  ⟨0, r, I1, _, I2, hw, hm, h0, fun _ => uJ_eq, fun _ => hP, ⟨D, hV.out⟩, ⟨f1 1000 (fun z => absurd (g1 _ z) (by decide)), f1 1001 (fun z => absurd (g1 _ z) (by decide))⟩, by rw [f2 1000 (fun z => absurd (g2 _ z) (by decide)), f1 1000 (fun z => absurd (g1 _ z) (by decide))], by rw [f2 1001 (fun z => absurd (g2 _ z) (by decide)), f1 1001 (fun z => absurd (g1 _ z) (by decide))]⟩
end S50
