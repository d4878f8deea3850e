/-! The state behind the constructors: cells 0 .. 103; which cell a field holds; arrays by numbers -/
/-- a row of rows -/
def pm_gP (P : Nat → Nat → Option Nat) (c n : Nat) : Nat → Nat → Option Nat := fun c2 => if c2 = c then (fun j => if j < n then some (c + 1 + j) else none) else P c2
def PI_D (P : Nat → Nat → Option Nat) : Nat → Nat → Option Nat := pm_uP (pm_uP (pm_gP (pm_uP (pm_uP (pm_gP (pm_uP (pm_uP (pm_uP (pm_uP (pm_uP (pm_uP (pm_uP (P) 1 4 (some 2)) 1 5 (some 3)) 1 6 (some 4)) 1 7 (some 5)) 1 8 (some 6)) 1 9 (some 7)) 1 10 (some 8)) 9 10) 1 11 (some 9)) 1 12 (some 20)) 21 10) 1 13 (some 21)) 1 14 (some 32)
def PI_P (P : Nat → Nat → Option Nat) : Nat → Nat → Option Nat := pm_uP (pm_uP (pm_gP (pm_uP (pm_uP (pm_gP (pm_uP (pm_uP (pm_uP (pm_uP (pm_uP (pm_uP (pm_uP (pm_uP (pm_uP (P) 33 2 (some 34)) 33 3 (some 35)) 33 4 (some 36)) 33 5 (some 37)) 33 6 (some 38)) 33 7 (some 39)) 33 8 (some 40)) 33 10 (some 41)) 33 11 (some 42)) 43 4) 33 12 (some 43)) 33 13 (some 48)) 49 4) 33 14 (some 49)) 33 0 (some 1)
def PI_C (P : Nat → Nat → Option Nat) : Nat → Nat → Option Nat := pm_uP (pm_uP (pm_uP (pm_gP (pm_uP (pm_uP (P) 54 3 (some 55)) 54 4 (some 56)) 57 4) 54 5 (some 57)) 54 0 (some 1)) 54 1 (some 43)
def PI_A (P : Nat → Nat → Option Nat) : Nat → Nat → Option Nat := pm_uP (pm_uP (pm_uP (pm_uP (pm_uP (pm_uP (pm_uP (P) 62 6 (some 63)) 62 7 (some 64)) 62 8 (some 65)) 62 9 (some 66)) 62 10 (some 67)) 62 11 (some 68)) 62 0 (some 1)
def PI_M (P : Nat → Nat → Option Nat) : Nat → Nat → Option Nat := pm_uP (pm_uP (pm_uP (pm_uP (pm_uP (pm_uP (pm_uP (pm_uP (pm_uP (pm_uP (pm_uP (pm_uP (pm_uP (pm_uP (pm_uP (pm_uP (pm_uP (pm_uP (pm_uP (pm_uP (pm_uP (pm_uP (pm_uP (pm_uP (pm_uP (pm_uP (pm_uP (pm_uP (pm_uP (pm_uP (pm_uP (pm_uP (pm_uP (P) 69 3 (some 70)) 69 4 (some 71)) 69 6 (some 72)) 69 7 (some 73)) 69 8 (some 74)) 69 9 (some 75)) 69 10 (some 76)) 69 12 (some 77)) 69 13 (some 78)) 69 15 (some 79)) 69 16 (some 80)) 69 19 (some 81)) 69 20 (some 82)) 69 21 (some 83)) 69 22 (some 84)) 69 23 (some 85)) 69 24 (some 86)) 69 25 (some 87)) 69 26 (some 88)) 69 27 (some 89)) 69 28 (some 90)) 69 29 (some 91)) 69 30 (some 92)) 69 31 (some 93)) 69 32 (some 94)) 69 33 (some 95)) 69 34 (some 96)) 69 35 (some 97)) 69 36 (some 98)) 69 37 (some 99)) 69 38 (some 100)) 69 41 (some 101)) 69 42 (some 102)
def PI_E0 (P : Nat → Nat → Option Nat) : Nat → Nat → Option Nat := pm_uP (P) 0 0 (some 1)
def PI_E1 (P : Nat → Nat → Option Nat) : Nat → Nat → Option Nat := pm_uP (P) 0 1 (some 33)
def PI_E2 (P : Nat → Nat → Option Nat) : Nat → Nat → Option Nat := pm_uP (P) 0 2 (some 54)
def PI_E3 (P : Nat → Nat → Option Nat) : Nat → Nat → Option Nat := pm_uP (P) 0 3 (some 62)
theorem P0_ex : ∃ P : Nat → Nat → Option Nat, P = PI_M (PI_E3 (PI_A (PI_E2 (PI_C (PI_E1 (PI_P (PI_E0 (PI_D (fun _ _ => none))))))))) := ⟨_, rfl⟩
noncomputable def P0 : Nat → Nat → Option Nat := Classical.choose P0_ex
theorem P0_eq : P0 = PI_M (PI_E3 (PI_A (PI_E2 (PI_C (PI_E1 (PI_P (PI_E0 (PI_D (fun _ _ => none))))))))) := Classical.choose_spec P0_ex
noncomputable abbrev ST (I : Nat → Nat → Int32) (J : Nat → Nat → Int64) : pm_S := (104, P0, I, J)
theorem pt_E_0 : P0 0 0 = some 1 := by rw [P0_eq]; rfl
theorem pt_E_1 : P0 0 1 = some 33 := by rw [P0_eq]; rfl
theorem pt_E_2 : P0 0 2 = some 54 := by rw [P0_eq]; rfl
theorem pt_E_3 : P0 0 3 = some 62 := by rw [P0_eq]; rfl
theorem pt_D_4 : P0 1 4 = some 2 := by rw [P0_eq]; rfl
theorem pt_D_5 : P0 1 5 = some 3 := by rw [P0_eq]; rfl
theorem pt_D_6 : P0 1 6 = some 4 := by rw [P0_eq]; rfl
theorem pt_D_7 : P0 1 7 = some 5 := by rw [P0_eq]; rfl
theorem pt_D_8 : P0 1 8 = some 6 := by rw [P0_eq]; rfl
theorem pt_D_9 : P0 1 9 = some 7 := by rw [P0_eq]; rfl
theorem pt_D_10 : P0 1 10 = some 8 := by rw [P0_eq]; rfl
theorem pt_D_11 : P0 1 11 = some 9 := by rw [P0_eq]; rfl
theorem pt_D_12 : P0 1 12 = some 20 := by rw [P0_eq]; rfl
theorem pt_D_13 : P0 1 13 = some 21 := by rw [P0_eq]; rfl
theorem pt_D_14 : P0 1 14 = some 32 := by rw [P0_eq]; rfl
theorem pt_P_0 : P0 33 0 = some 1 := by rw [P0_eq]; rfl
theorem pt_P_2 : P0 33 2 = some 34 := by rw [P0_eq]; rfl
theorem pt_P_3 : P0 33 3 = some 35 := by rw [P0_eq]; rfl
theorem pt_P_4 : P0 33 4 = some 36 := by rw [P0_eq]; rfl
theorem pt_P_5 : P0 33 5 = some 37 := by rw [P0_eq]; rfl
theorem pt_P_6 : P0 33 6 = some 38 := by rw [P0_eq]; rfl
theorem pt_P_7 : P0 33 7 = some 39 := by rw [P0_eq]; rfl
theorem pt_P_8 : P0 33 8 = some 40 := by rw [P0_eq]; rfl
theorem pt_P_10 : P0 33 10 = some 41 := by rw [P0_eq]; rfl
theorem pt_P_11 : P0 33 11 = some 42 := by rw [P0_eq]; rfl
theorem pt_P_12 : P0 33 12 = some 43 := by rw [P0_eq]; rfl
theorem pt_P_13 : P0 33 13 = some 48 := by rw [P0_eq]; rfl
theorem pt_P_14 : P0 33 14 = some 49 := by rw [P0_eq]; rfl
theorem pt_C_0 : P0 54 0 = some 1 := by rw [P0_eq]; rfl
theorem pt_C_1 : P0 54 1 = some 43 := by rw [P0_eq]; rfl
theorem pt_C_3 : P0 54 3 = some 55 := by rw [P0_eq]; rfl
theorem pt_C_4 : P0 54 4 = some 56 := by rw [P0_eq]; rfl
theorem pt_C_5 : P0 54 5 = some 57 := by rw [P0_eq]; rfl
theorem pt_A_0 : P0 62 0 = some 1 := by rw [P0_eq]; rfl
theorem pt_A_6 : P0 62 6 = some 63 := by rw [P0_eq]; rfl
theorem pt_A_7 : P0 62 7 = some 64 := by rw [P0_eq]; rfl
theorem pt_A_8 : P0 62 8 = some 65 := by rw [P0_eq]; rfl
theorem pt_A_9 : P0 62 9 = some 66 := by rw [P0_eq]; rfl
theorem pt_A_10 : P0 62 10 = some 67 := by rw [P0_eq]; rfl
theorem pt_A_11 : P0 62 11 = some 68 := by rw [P0_eq]; rfl
theorem pt_M_3 : P0 69 3 = some 70 := by rw [P0_eq]; rfl
theorem pt_M_4 : P0 69 4 = some 71 := by rw [P0_eq]; rfl
theorem pt_M_6 : P0 69 6 = some 72 := by rw [P0_eq]; rfl
theorem pt_M_7 : P0 69 7 = some 73 := by rw [P0_eq]; rfl
theorem pt_M_8 : P0 69 8 = some 74 := by rw [P0_eq]; rfl
theorem pt_M_9 : P0 69 9 = some 75 := by rw [P0_eq]; rfl
theorem pt_M_10 : P0 69 10 = some 76 := by rw [P0_eq]; rfl
theorem pt_M_12 : P0 69 12 = some 77 := by rw [P0_eq]; rfl
theorem pt_M_13 : P0 69 13 = some 78 := by rw [P0_eq]; rfl
theorem pt_M_15 : P0 69 15 = some 79 := by rw [P0_eq]; rfl
theorem pt_M_16 : P0 69 16 = some 80 := by rw [P0_eq]; rfl
theorem pt_M_19 : P0 69 19 = some 81 := by rw [P0_eq]; rfl
theorem pt_M_20 : P0 69 20 = some 82 := by rw [P0_eq]; rfl
theorem pt_M_21 : P0 69 21 = some 83 := by rw [P0_eq]; rfl
theorem pt_M_22 : P0 69 22 = some 84 := by rw [P0_eq]; rfl
theorem pt_M_23 : P0 69 23 = some 85 := by rw [P0_eq]; rfl
theorem pt_M_24 : P0 69 24 = some 86 := by rw [P0_eq]; rfl
theorem pt_M_25 : P0 69 25 = some 87 := by rw [P0_eq]; rfl
theorem pt_M_26 : P0 69 26 = some 88 := by rw [P0_eq]; rfl
theorem pt_M_27 : P0 69 27 = some 89 := by rw [P0_eq]; rfl
theorem pt_M_28 : P0 69 28 = some 90 := by rw [P0_eq]; rfl
theorem pt_M_29 : P0 69 29 = some 91 := by rw [P0_eq]; rfl
theorem pt_M_30 : P0 69 30 = some 92 := by rw [P0_eq]; rfl
theorem pt_M_31 : P0 69 31 = some 93 := by rw [P0_eq]; rfl
theorem pt_M_32 : P0 69 32 = some 94 := by rw [P0_eq]; rfl
theorem pt_M_33 : P0 69 33 = some 95 := by rw [P0_eq]; rfl
theorem pt_M_34 : P0 69 34 = some 96 := by rw [P0_eq]; rfl
theorem pt_M_35 : P0 69 35 = some 97 := by rw [P0_eq]; rfl
theorem pt_M_36 : P0 69 36 = some 98 := by rw [P0_eq]; rfl
theorem pt_M_37 : P0 69 37 = some 99 := by rw [P0_eq]; rfl
theorem pt_M_38 : P0 69 38 = some 100 := by rw [P0_eq]; rfl
theorem pt_M_41 : P0 69 41 = some 101 := by rw [P0_eq]; rfl
theorem pt_M_42 : P0 69 42 = some 102 := by rw [P0_eq]; rfl
theorem pt_9 : ∀ j, j < 10 → P0 9 j = some (10 + j) := by rw [P0_eq]; decide +kernel
theorem pt_21 : ∀ j, j < 10 → P0 21 j = some (22 + j) := by rw [P0_eq]; decide +kernel
theorem pt_43 : ∀ j, j < 4 → P0 43 j = some (44 + j) := by rw [P0_eq]; decide +kernel
theorem pt_49 : ∀ j, j < 4 → P0 49 j = some (50 + j) := by rw [P0_eq]; decide +kernel
theorem pt_57 : ∀ j, j < 4 → P0 57 j = some (58 + j) := by rw [P0_eq]; decide +kernel
theorem sh_10 : ∀ j, j < 10 → pm_shp (10 + j) = (1, 24) := by decide
theorem sh_22 : ∀ j, j < 10 → pm_shp (22 + j) = (1, 24) := by decide
theorem sh_44 : ∀ j, j < 4 → pm_shp (44 + j) = (1, 1000) := by decide
theorem sh_50 : ∀ j, j < 4 → pm_shp (50 + j) = (2, 1000) := by decide
theorem sh_58 : ∀ j, j < 4 → pm_shp (58 + j) = (1, 1000) := by decide
section GO
variable {d : Nat} {k : pm_M} {pc : Nat} {ls : List (Option Value)} {st : List Value} {cu su : Nat} {σ : pm_S} {out : pm_O}
/-- another name for what lies on top -/
theorem go_top {x : Int32} (y : Int32) (h : x = y) (ih : pm_Go d k pc ls (.int y :: st) cu su σ out) : pm_Go d k pc ls (.int x :: st) cu su σ out := h ▸ ih
theorem go_top2 {a x : Int32} (y : Int32) (h : x = y) (ih : pm_Go d k pc ls (.int a :: .int y :: st) cu su σ out) : pm_Go d k pc ls (.int a :: .int x :: st) cu su σ out := h ▸ ih
theorem go_st {σ' : pm_S} (h : σ = σ') (ih : pm_Go d k pc ls st cu su σ' out) : pm_Go d k pc ls st cu su σ out := h ▸ ih
/-- an int field, by what it holds -/
theorem go_gI {b ci : Nat} {C : String} {T : u_T} {N : Nat} {ty : Nat → FieldType} {j idx : Nat} (v : Int32) (hd : decode (mB k) pc = .ok (.getfield idx, 3)) (h1 : b < σ.1) (h2 : pm_shp b = (0, ci)) (h3 : pm_cl ci C T N ty) (h4 : j < N) (h5 : pm_fk ci j ≠ 1) (h6 : Cond.fieldLink (mY k).cls idx (T j).1 (T j).2.1 (T j).2.2.1 ∈ lw_gw) (hv : σ.2.2.1 b j = v) (ih : pm_Go d k (pc + 3) ls (.int v :: st) cu su σ out) : pm_Go d k pc ls (.ref b :: st) cu su σ out := by
  subst hv
  exact go_getI hd h1 h2 h3 h4 h5 h6 ih
/-- loops count up -/
theorem nI_lit (n : Nat) : (OfNat.ofNat n : Int32) = nI n := rfl
/-- arrays by a number -/
theorem go_ald {b n : Nat} {i : Int32} (j : Nat) (v : Int32) (hd : decode (mB k) pc = .ok (.iaload, 1)) (h1 : b < σ.1) (h2 : pm_shp b = (1, n)) (hi : i = nI j) (hj : j < n) (hn : n < 2 ^ 31) (hv : σ.2.2.1 b j = v) (ih : pm_Go d k (pc + 1) ls (.int v :: st) cu su σ out) : pm_Go d k pc ls (.int i :: .ref b :: st) cu su σ out := by
  subst hi
  refine go_iaload hd h1 h2 (vp_in_nI hj hn) ?_
  rw [nI_clamp (Nat.lt_trans hj hn), hv]
  exact ih
theorem go_ast {I : Nat → Nat → Int32} {J : Nat → Nat → Int64} {b n : Nat} {i v : Int32} (j : Nat) (hd : decode (mB k) pc = .ok (.iastore, 1)) (h1 : b < 104) (h2 : pm_shp b = (1, n)) (hi : i = nI j) (hj : j < n) (hn : n < 2 ^ 31) (ih : pm_Go d k (pc + 1) ls st cu su (ST (pm_uI I b j v) J) out) : pm_Go d k pc ls (.int v :: .int i :: .ref b :: st) cu su (ST I J) out := by
  subst hi
  refine go_iastore hd h1 h2 (vp_in_nI hj hn) ?_
  rw [nI_clamp (Nat.lt_trans hj hn)]
  exact ih
theorem go_pI {I : Nat → Nat → Int32} {J : Nat → Nat → Int64} {b ci : Nat} {C : String} {T : u_T} {N : Nat} {ty : Nat → FieldType} {j idx : Nat} {v : Int32} (hd : decode (mB k) pc = .ok (.putfield idx, 3)) (h1 : b < 104) (h2 : pm_shp b = (0, ci)) (h3 : pm_cl ci C T N ty) (h4 : j < N) (h5 : pm_fk ci j ≠ 1) (h6 : Cond.fieldLink (mY k).cls idx (T j).1 (T j).2.1 (T j).2.2.1 ∈ lw_gw) (h7 : (T j).2.2.2 = false) (h8 : ty j = .int ∨ (ty j = .boolean ∧ (v = 0 ∨ v = 1))) (ih : pm_Go d k (pc + 3) ls st cu su (ST (pm_uI I b j v) J) out) : pm_Go d k pc ls (.int v :: .ref b :: st) cu su (ST I J) out := go_putI hd h1 h2 h3 h4 h5 h6 h7 h8 ih
theorem go_lald {b n : Nat} {i : Int32} (j : Nat) (v : Int64) (hd : decode (mB k) pc = .ok (.laload, 1)) (h1 : b < σ.1) (h2 : pm_shp b = (2, n)) (hi : i = nI j) (hj : j < n) (hn : n < 2 ^ 31) (hv : σ.2.2.2 b j = v) (ih : pm_Go d k (pc + 1) ls (.long v :: st) cu su σ out) : pm_Go d k pc ls (.int i :: .ref b :: st) cu su σ out := by
  subst hi
  refine go_laload hd h1 h2 (vp_in_nI hj hn) ?_
  rw [nI_clamp (Nat.lt_trans hj hn), hv]
  exact ih
theorem go_last {I : Nat → Nat → Int32} {J : Nat → Nat → Int64} {b n : Nat} {i : Int32} {v : Int64} (j : Nat) (hd : decode (mB k) pc = .ok (.lastore, 1)) (h1 : b < 104) (h2 : pm_shp b = (2, n)) (hi : i = nI j) (hj : j < n) (hn : n < 2 ^ 31) (ih : pm_Go d k (pc + 1) ls st cu su (ST I (pm_uJ J b j v)) out) : pm_Go d k pc ls (.long v :: .int i :: .ref b :: st) cu su (ST I J) out := by
  subst hi
  refine go_lastore hd h1 h2 (vp_in_nI hj hn) ?_
  rw [nI_clamp (Nat.lt_trans hj hn)]
  exact ih
theorem go_row3 {b n : Nat} {i : Int32} (j r : Nat) (hd : decode (mB k) pc = .ok (.aaload, 1)) (h1 : b < σ.1) (h2 : pm_shp b = (3, n)) (hi : i = nI j) (hj : j < n) (hn : n < 2 ^ 31) (hv : σ.2.1 b j = some r) (ih : pm_Go d k (pc + 1) ls (.ref r :: st) cu su σ out) : pm_Go d k pc ls (.int i :: .ref b :: st) cu su σ out := by
  subst hi
  exact go_aaload3 hd h1 h2 (vp_in_nI hj hn) (by rw [nI_clamp (Nat.lt_trans hj hn)]; exact hv) ih
theorem go_row4 {b n : Nat} {i : Int32} (j r : Nat) (hd : decode (mB k) pc = .ok (.aaload, 1)) (h1 : b < σ.1) (h2 : pm_shp b = (4, n)) (hi : i = nI j) (hj : j < n) (hn : n < 2 ^ 31) (hv : σ.2.1 b j = some r) (ih : pm_Go d k (pc + 1) ls (.ref r :: st) cu su σ out) : pm_Go d k pc ls (.int i :: .ref b :: st) cu su σ out := by
  subst hi
  exact go_aaload4 hd h1 h2 (vp_in_nI hj hn) (by rw [nI_clamp (Nat.lt_trans hj hn)]; exact hv) ih
end GO
theorem uI_ne {I : Nat → Nat → Int32} {c j c' j' : Nat} {v : Int32} (h : c' ≠ c) : pm_uI I c j v c' j' = I c' j' := by simp [pm_uI, h]
theorem uI_nj {I : Nat → Nat → Int32} {c j j' : Nat} {v : Int32} (h : j' ≠ j) : pm_uI I c j v c j' = I c j' := by simp [pm_uI, upd, h]
theorem uI_eq {I : Nat → Nat → Int32} {c j : Nat} {v : Int32} : pm_uI I c j v c j = v := by simp [pm_uI, upd]
theorem uI_at {I : Nat → Nat → Int32} {c j c' j' : Nat} {v : Int32} : pm_uI I c j v c' j' = if c' = c ∧ j' = j then v else I c' j' := by
  by_cases h : c' = c
  · subst h
    by_cases h2 : j' = j <;> simp [pm_uI, upd, h2]
  · simp [pm_uI, h]
