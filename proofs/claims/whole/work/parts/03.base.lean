/-! A small pure machine: cells are numbered in the order in which they are made; 1000 is the script, 1001 holds its length. -/
abbrev pm_S : Type := Nat × (Nat → Nat → Option Nat) × (Nat → Nat → Int32) × (Nat → Nat → Int64)
abbrev pm_O : Type := (Option Value ⊕ String) × pm_S
/-- a method: name, bytes, locals, answer, handlers, cells, slots -/
abbrev pm_M : Type := MethodName × ByteArray × Nat × Option FieldType × List (Nat × Nat × Nat × Nat) × Nat × Nat
abbrev mY (k : pm_M) : MethodName := k.1
abbrev mB (k : pm_M) : ByteArray := k.2.1
abbrev mL (k : pm_M) : Nat := k.2.2.1
abbrev mT (k : pm_M) : Option FieldType := k.2.2.2.1
abbrev mH (k : pm_M) : List (Nat × Nat × Nat × Nat) := k.2.2.2.2.1
abbrev mC (k : pm_M) : Nat := k.2.2.2.2.2.1
abbrev mS (k : pm_M) : Nat := k.2.2.2.2.2.2
abbrev pm_R : Type := Nat → pm_M → Nat → List (Option Value) → List Value → Nat → Nat → pm_S → pm_O → Prop
/-- class ids of int[], long[], int[][], long[][] -/
abbrev pm_G : Type := ClassId × ClassId × ClassId × ClassId
abbrev pm_gI (G : pm_G) : ClassId := G.1
abbrev pm_gJ (G : pm_G) : ClassId := G.2.1
abbrev pm_gII (G : pm_G) : ClassId := G.2.2.1
abbrev pm_gJJ (G : pm_G) : ClassId := G.2.2.2
def pv (ad : Nat → Nat) : Value → Value
  | .ref k => .ref (ad k)
  | .int x => .int x
  | .long x => .long x
  | .float x => .float x
  | .double x => .double x
  | .null => .null
  | .retAddr x => .retAddr x
theorem pm_cat (ad : Nat → Nat) (v : Value) : (pv ad v).category = v.category := by cases v <;> rfl
theorem pm_cats (ad : Nat → Nat) (st : List Value) : ((st.map (pv ad)).map fun v => v.category).sum = (st.map fun v => v.category).sum := by
  rw [List.map_map]
  congr 1
  exact List.map_congr_left (fun v _ => pm_cat ad v)
-- updates
def pm_uI (I : Nat → Nat → Int32) (c j : Nat) (v : Int32) : Nat → Nat → Int32 := fun c' => if c' = c then upd (I c) j v else I c'
def pm_uJ (J : Nat → Nat → Int64) (c j : Nat) (v : Int64) : Nat → Nat → Int64 := fun c' => if c' = c then vp_updL (J c) j v else J c'
def pm_uP (P : Nat → Nat → Option Nat) (c j : Nat) (v : Option Nat) : Nat → Nat → Option Nat := fun c' => if c' = c then (fun j' => if j' = j then v else P c j') else P c'
def pm_uA (I : Nat → Nat → Int32) (c : Nat) (f : Nat → Int32) : Nat → Nat → Int32 := fun c' => if c' = c then f else I c'
def pm_sI (σ : pm_S) (c j : Nat) (v : Int32) : pm_S := (σ.1, σ.2.1, pm_uI σ.2.2.1 c j v, σ.2.2.2)
def pm_sJ (σ : pm_S) (c j : Nat) (v : Int64) : pm_S := (σ.1, σ.2.1, σ.2.2.1, pm_uJ σ.2.2.2 c j v)
def pm_sP (σ : pm_S) (c j : Nat) (v : Option Nat) : pm_S := (σ.1, pm_uP σ.2.1 c j v, σ.2.2.1, σ.2.2.2)
def pm_sA (σ : pm_S) (c : Nat) (f : Nat → Int32) : pm_S := (σ.1, σ.2.1, pm_uA σ.2.2.1 c f, σ.2.2.2)
/-- behind a multianewarray of n rows -/
def pm_mna (σ : pm_S) (n : Nat) : pm_S := (σ.1 + 1 + n, (fun c => if c = σ.1 then (fun j => if j < n then some (σ.1 + 1 + j) else none) else σ.2.1 c), σ.2.2.1, σ.2.2.2)
-- locals
def pm_lv (ad : Nat → Nat) (ls : List (Option Value)) : List (Nat × Value) := ls.zipIdx.filterMap (fun q => q.1.map (fun v => (q.2, pv ad v)))
theorem pm_lv_iff {ad : Nat → Nat} {ls : List (Option Value)} {i : Nat} {w : Value} : (i, w) ∈ pm_lv ad ls ↔ ∃ v, ls[i]? = some (some v) ∧ w = pv ad v := by
  unfold pm_lv
  rw [List.mem_filterMap]
  constructor
  · rintro ⟨⟨o, j⟩, hm, ho⟩
    have hj := List.mem_zipIdx_iff_getElem?.mp hm
    cases o with
    | none => cases ho
    | some v =>
      simp only [Option.map_some, Option.some.injEq, Prod.mk.injEq] at ho
      obtain ⟨rfl, rfl⟩ := ho
      exact ⟨v, hj, rfl⟩
  · rintro ⟨v, hv, rfl⟩
    exact ⟨(some v, i), List.mem_zipIdx_iff_getElem?.mpr hv, rfl⟩
theorem pm_lv_mem {ad : Nat → Nat} {ls : List (Option Value)} {i : Nat} {v : Value} (h : ls[i]? = some (some v)) : (i, pv ad v) ∈ pm_lv ad ls := pm_lv_iff.mpr ⟨v, h, rfl⟩
def pm_loc (ad : Nat → Nat) (n : Nat) (ls : List (Option Value)) (real : Array Slot) : Prop := ls.length = n ∧ lv_has real n (pm_lv ad ls)
theorem pm_at {ad : Nat → Nat} {n : Nat} {ls : List (Option Value)} {real : Array Slot} (h : pm_loc ad n ls real) {i : Nat} {v : Value} (hi : ls[i]? = some (some v)) : real[i]? = some (.val (pv ad v)) := h.2.2.2 (i, pv ad v) (pm_lv_mem hi)
/-- no long stands right before place i -/
def pm_pre (ls : List (Option Value)) (i : Nat) : Bool := match i with
  | 0 => true
  | j + 1 => match ls[j]? with
    | some (some v) => decide (v.category = 1)
    | _ => true
theorem pm_pre_at {ls : List (Option Value)} {i j : Nat} {v : Value} (h : pm_pre ls i = true) (hj : j + 1 = i) (hv : ls[j]? = some (some v)) : v.category = 1 := by
  subst hj
  simp only [pm_pre, hv, decide_eq_true_eq] at h
  exact h
theorem pm_store1 {ad : Nat → Nat} {n : Nat} {ls : List (Option Value)} {real real' : Array Slot} {i : Nat} {v : Value} (hL : pm_loc ad n ls real) (hp : pm_pre ls i = true) (h : lv_has real' n ((i, pv ad v) :: (pm_lv ad ls).filter (fun q => !(q.1 == i) && !(q.1 + 1 == i && q.2.category == 2)))) : pm_loc ad n (ls.set i (some v)) real' := by
  refine ⟨by rw [List.length_set]; exact hL.1, h.1, h.2.1, ?_⟩
  rintro ⟨j, w⟩ hq
  obtain ⟨u, hu, rfl⟩ := pm_lv_iff.mp hq
  by_cases hj : i = j
  · subst hj
    have hl : i < (ls.set i (some v)).length := (List.getElem?_eq_some_iff.mp hu).1
    rw [List.length_set] at hl
    rw [List.getElem?_set_self hl] at hu
    cases hu
    exact h.2.2 _ List.mem_cons_self
  · rw [List.getElem?_set_ne hj] at hu
    refine h.2.2 _ (List.mem_cons_of_mem _ (List.mem_filter.mpr ⟨pm_lv_mem hu, ?_⟩))
    by_cases hk : j + 1 = i
    · have := pm_pre_at hp hk hu
      simp [Ne.symm hj, pm_cat, this]
    · simp [Ne.symm hj, hk]
theorem pm_kill {ad : Nat → Nat} {n : Nat} {ls : List (Option Value)} {real real' : Array Slot} {i : Nat} {w : Value} (hL : pm_loc ad n ls real) (hp : pm_pre ls i = true) (h : lv_has real' n ((i, w) :: (pm_lv ad ls).filter (fun q => !(q.1 == i) && !(q.1 + 1 == i && q.2.category == 2)))) : pm_loc ad n (ls.set i none) real' := by
  refine ⟨by rw [List.length_set]; exact hL.1, h.1, h.2.1, ?_⟩
  rintro ⟨j, w⟩ hq
  obtain ⟨u, hu, rfl⟩ := pm_lv_iff.mp hq
  by_cases hj : i = j
  · subst hj
    have hl : i < (ls.set i none).length := (List.getElem?_eq_some_iff.mp hu).1
    rw [List.length_set] at hl
    rw [List.getElem?_set_self hl] at hu
    cases hu
  · rw [List.getElem?_set_ne hj] at hu
    refine h.2.2 _ (List.mem_cons_of_mem _ (List.mem_filter.mpr ⟨pm_lv_mem hu, ?_⟩))
    by_cases hk : j + 1 = i
    · have := pm_pre_at hp hk hu
      simp [Ne.symm hj, pm_cat, this]
    · simp [Ne.symm hj, hk]
theorem pm_store2 {ad : Nat → Nat} {n : Nat} {ls : List (Option Value)} {real real' : Array Slot} {i : Nat} {v : Value} (hL : pm_loc ad n ls real) (hp : pm_pre ls i = true) (h : lv_has real' n ((i, pv ad v) :: (pm_lv ad ls).filter (fun q => !(q.1 == i) && (!(q.1 == i + 1) && !(q.1 + 1 == i && q.2.category == 2))))) : pm_loc ad n ((ls.set i (some v)).set (i + 1) none) real' := by
  refine ⟨by rw [List.length_set, List.length_set]; exact hL.1, h.1, h.2.1, ?_⟩
  rintro ⟨j, w⟩ hq
  obtain ⟨u, hu, rfl⟩ := pm_lv_iff.mp hq
  by_cases hj2 : i + 1 = j
  · subst hj2
    have hl : i + 1 < ((ls.set i (some v)).set (i + 1) none).length := (List.getElem?_eq_some_iff.mp hu).1
    rw [List.length_set] at hl
    rw [List.getElem?_set_self hl] at hu
    cases hu
  rw [List.getElem?_set_ne hj2] at hu
  by_cases hj : i = j
  · subst hj
    have hl : i < (ls.set i (some v)).length := (List.getElem?_eq_some_iff.mp hu).1
    rw [List.length_set] at hl
    rw [List.getElem?_set_self hl] at hu
    cases hu
    exact h.2.2 _ List.mem_cons_self
  · rw [List.getElem?_set_ne hj] at hu
    refine h.2.2 _ (List.mem_cons_of_mem _ (List.mem_filter.mpr ⟨pm_lv_mem hu, ?_⟩))
    by_cases hk : j + 1 = i
    · have := pm_pre_at hp hk hu
      simp [Ne.symm hj, Ne.symm hj2, pm_cat, this]
    · simp [Ne.symm hj, Ne.symm hj2, hk]
-- references below n
def pm_ltV (n : Nat) : Value → Bool
  | .ref r => decide (r < n ∨ r = 1000)
  | _ => true
def pm_lt (n : Nat) (ls : List (Option Value)) (st : List Value) : Bool := (ls.all fun o => match o with | some v => pm_ltV n v | none => true) && st.all (pm_ltV n)
def pm_agree (ad ad' : Nat → Nat) (n : Nat) : Prop := ∀ i, i < n → ad' i = ad i
theorem pm_pvV {ad ad' : Nat → Nat} {n : Nat} (h : pm_agree ad ad' n) (hk : ad' 1000 = ad 1000) {v : Value} (hv : pm_ltV n v = true) : pv ad' v = pv ad v := by
  cases v with
  | ref r =>
    simp only [pm_ltV, decide_eq_true_eq] at hv
    show Value.ref _ = Value.ref _
    rcases hv with hv | hv
    · rw [h r hv]
    · rw [hv, hk]
  | _ => rfl
theorem pm_mapst {ad ad' : Nat → Nat} {n : Nat} {ls : List (Option Value)} {st : List Value} (h : pm_agree ad ad' n) (hk : ad' 1000 = ad 1000) (hl : pm_lt n ls st = true) : st.map (pv ad') = st.map (pv ad) := by
  simp only [pm_lt, Bool.and_eq_true, List.all_eq_true] at hl
  exact List.map_congr_left (fun v hv => pm_pvV h hk (hl.2 v hv))
theorem pm_loc_ad {ad ad' : Nat → Nat} {n : Nat} {ls : List (Option Value)} {st : List Value} {N : Nat} {real : Array Slot} (h : pm_agree ad ad' n) (hk : ad' 1000 = ad 1000) (hl : pm_lt n ls st = true) (hL : pm_loc ad N ls real) : pm_loc ad' N ls real := by
  simp only [pm_lt, Bool.and_eq_true, List.all_eq_true] at hl
  refine ⟨hL.1, hL.2.1, hL.2.2.1, ?_⟩
  rintro ⟨j, w⟩ hq
  obtain ⟨u, hu, rfl⟩ := pm_lv_iff.mp hq
  have := hl.1 (some u) (List.mem_of_getElem? hu)
  rw [pm_pvV h hk this]
  exact pm_at hL hu
theorem pm_tl {ad : Nat → Nat} {r : Option Value} : (r.toList).map (pv ad) = (r.map (pv ad)).toList := by cases r <;> rfl
-- no reference at all
def pm_ls (l : List Value) : Bool := l.all fun v => match v with | .ref _ => false | _ => true
theorem pm_nref {ad ad' : Nat → Nat} {r : Option Value} (h : pm_ls r.toList = true) : r.map (pv ad') = r.map (pv ad) := by
  cases r with
  | none => rfl
  | some v =>
    cases v with
    | ref q => simp [pm_ls] at h
    | _ => rfl
-- worlds
def pm_nf (ci : Nat) : Nat := match pm_vw[ci]? with
  | some q => q.2.2
  | none => 0
def pm_fv (ad : Nat → Nat) (σ : pm_S) (b ci j : Nat) : Value := if pm_fk ci j = 1 then va_rf ((σ.2.1 b j).map ad) else .int (σ.2.2.1 b j)
def pm_fs (ad : Nat → Nat) (σ : pm_S) (b ci : Nat) : List Value := (List.range (pm_nf ci)).map (pm_fv ad σ b ci)
def pm_cell (G : pm_G) (ad : Nat → Nat) (σ : pm_S) (b : Nat) : va_E := match pm_shp b with
  | (0, ci) => .inr (ci, pm_fs ad σ b ci)
  | (1, n) => .inl (G.1, n, .inl (σ.2.2.1 b))
  | (2, n) => .inl (G.2.1, n, .inr (.inl (σ.2.2.2 b)))
  | (3, n) => .inl (G.2.2.1, n, .inr (.inr (.inr (.inr (fun j => (σ.2.1 b j).map ad)))))
  | (_, n) => .inl (G.2.2.2, n, .inr (.inr (.inr (.inr (fun j => (σ.2.1 b j).map ad)))))
def pm_ws (G : pm_G) (ad : Nat → Nat) (σ : pm_S) : va_W := (List.range σ.1).map (fun b => (ad b, pm_cell G ad σ b))
abbrev pm_tys (G : pm_G) : List (ClassId × FieldType) := [(G.1, .int), (G.2.1, .long), (G.2.2.1, .array .int), (G.2.2.2, .array .long)]
/-- what is known of a class: its row, its words, its types, its names -/
def pm_cl (ci : Nat) (C : String) (T : u_T) (N : Nat) (ty : Nat → FieldType) : Prop := pm_vw[ci]? = some (C, T, N) ∧ (∀ w ∈ u_ws C T N, w ∈ lw_gw) ∧ (∀ k, k < N → parseFieldDescriptor (T k).2.2.1 = some (ty k)) ∧ (∀ a, a < N → ∀ b, b < N → a ≠ b → (T a).2.1 ≠ (T b).2.1) ∧ ∀ j, j < N → defaultValue (ty j) = if pm_fk ci j = 1 then .null else .int 0
def pm_wf (σ : pm_S) : Prop := σ.1 ≤ 1000 ∧ ∀ b j r, σ.2.1 b j = some r → r < σ.1
section PMW
variable {G : pm_G} {ad ad' : Nat → Nat} {σ σ' : pm_S} {b ci n j : Nat}
theorem pm_ws_at (h : b < σ.1) : (pm_ws G ad σ)[b]? = some (ad b, pm_cell G ad σ b) := by simp [pm_ws, h]
theorem pm_cell0 (h : pm_shp b = (0, ci)) : pm_cell G ad σ b = .inr (ci, pm_fs ad σ b ci) := by unfold pm_cell; rw [h] <;> rfl
theorem pm_cell1 (h : pm_shp b = (1, n)) : pm_cell G ad σ b = .inl (G.1, n, .inl (σ.2.2.1 b)) := by unfold pm_cell; rw [h] <;> rfl
theorem pm_cell2 (h : pm_shp b = (2, n)) : pm_cell G ad σ b = .inl (G.2.1, n, .inr (.inl (σ.2.2.2 b))) := by unfold pm_cell; rw [h] <;> rfl
theorem pm_cell3 (h : pm_shp b = (3, n)) : pm_cell G ad σ b = .inl (G.2.2.1, n, .inr (.inr (.inr (.inr (fun j => (σ.2.1 b j).map ad))))) := by unfold pm_cell; rw [h] <;> rfl
theorem pm_cell4 (h : pm_shp b = (4, n)) : pm_cell G ad σ b = .inl (G.2.2.2, n, .inr (.inr (.inr (.inr (fun j => (σ.2.1 b j).map ad))))) := by unfold pm_cell; rw [h] <;> rfl
theorem pm_ws0 (h : b < σ.1) (hs : pm_shp b = (0, ci)) : (pm_ws G ad σ)[b]? = some (ad b, .inr (ci, pm_fs ad σ b ci)) := by rw [pm_ws_at h, pm_cell0 hs]
theorem pm_ws1 (h : b < σ.1) (hs : pm_shp b = (1, n)) : (pm_ws G ad σ)[b]? = some (ad b, .inl (G.1, n, .inl (σ.2.2.1 b))) := by rw [pm_ws_at h, pm_cell1 hs]
theorem pm_ws2 (h : b < σ.1) (hs : pm_shp b = (2, n)) : (pm_ws G ad σ)[b]? = some (ad b, .inl (G.2.1, n, .inr (.inl (σ.2.2.2 b)))) := by rw [pm_ws_at h, pm_cell2 hs]
theorem pm_ws3 (h : b < σ.1) (hs : pm_shp b = (3, n)) : (pm_ws G ad σ)[b]? = some (ad b, .inl (G.2.2.1, n, .inr (.inr (.inr (.inr (fun j => (σ.2.1 b j).map ad)))))) := by rw [pm_ws_at h, pm_cell3 hs]
theorem pm_ws4 (h : b < σ.1) (hs : pm_shp b = (4, n)) : (pm_ws G ad σ)[b]? = some (ad b, .inl (G.2.2.2, n, .inr (.inr (.inr (.inr (fun j => (σ.2.1 b j).map ad)))))) := by rw [pm_ws_at h, pm_cell4 hs]
theorem pm_nf_of {C : String} {T : u_T} {N : Nat} (h : pm_vw[ci]? = some (C, T, N)) : pm_nf ci = N := by unfold pm_nf; rw [h]
theorem pm_fs_at (h : j < pm_nf ci) : (pm_fs ad σ b ci)[j]? = some (pm_fv ad σ b ci j) := by simp [pm_fs, h]
theorem pm_fsI {C : String} {T : u_T} {N : Nat} (h : pm_vw[ci]? = some (C, T, N)) (hj : j < N) (hk : pm_fk ci j ≠ 1) : (pm_fs ad σ b ci)[j]? = some (.int (σ.2.2.1 b j)) := by
  rw [pm_fs_at (by rw [pm_nf_of h]; exact hj), pm_fv, if_neg hk]
theorem pm_fsP {C : String} {T : u_T} {N r : Nat} (h : pm_vw[ci]? = some (C, T, N)) (hj : j < N) (hk : pm_fk ci j = 1) (hr : σ.2.1 b j = some r) : (pm_fs ad σ b ci)[j]? = some (pv ad (.ref r)) := by
  rw [pm_fs_at (by rw [pm_nf_of h]; exact hj), pm_fv, if_pos hk, hr]
  rfl
theorem pm_fsl {C : String} {T : u_T} {N : Nat} (h : pm_vw[ci]? = some (C, T, N)) (hj : j < N) : j < (pm_fs ad σ b ci).length := by
  simp [pm_fs, pm_nf_of h, hj]
/-- a cell hangs on its own slots alone -/
theorem pm_cell_eq (hI : σ'.2.2.1 b = σ.2.2.1 b) (hJ : σ'.2.2.2 b = σ.2.2.2 b) (hP : ∀ j, (σ'.2.1 b j).map ad' = (σ.2.1 b j).map ad) : pm_cell G ad' σ' b = pm_cell G ad σ b := by
  have hfv : ∀ ci, pm_fs ad' σ' b ci = pm_fs ad σ b ci := fun ci => by
    unfold pm_fs
    refine List.map_congr_left (fun j _ => ?_)
    unfold pm_fv
    rw [hI, hP]
  have hq : (fun j => (σ'.2.1 b j).map ad') = fun j => (σ.2.1 b j).map ad := funext hP
  unfold pm_cell
  simp only [hfv, hI, hJ, hq]
theorem pm_ws_set {e : va_E} (hn : σ'.1 = σ.1) (he : pm_cell G ad σ' b = e) (ho : ∀ c, c ≠ b → pm_cell G ad σ' c = pm_cell G ad σ c) : (pm_ws G ad σ).set b (ad b, e) = pm_ws G ad σ' := by
  subst he
  apply List.ext_getElem?
  intro i
  rw [List.getElem?_set]
  by_cases hi : b = i
  · subst hi
    by_cases hl : b < σ.1
    · have hl2 : b < σ'.1 := by rw [hn]; exact hl
      rw [if_pos rfl, pm_ws_at hl2]
      simp [pm_ws, hl]
    · have hl2 : ¬ b < σ'.1 := by rw [hn]; exact hl
      simp [pm_ws, hl, hl2]
  · rw [if_neg hi]
    simp only [pm_ws, List.getElem?_map, hn]
    cases hx : (List.range σ.1)[i]? with
    | none => rfl
    | some x =>
      have : x = i := by
        have := List.getElem?_eq_some_iff.mp hx
        obtain ⟨h1, h2⟩ := this
        rw [List.getElem_range] at h2
        exact h2.symm
      subst this
      simp only [Option.map_some]
      rw [ho x (fun z => hi z.symm)]
theorem pm_fs_I {v : Int32} (hk : pm_fk ci j ≠ 1) : (pm_fs ad σ b ci).set j (.int v) = pm_fs ad (pm_sI σ b j v) b ci := by
  apply List.ext_getElem?
  intro i
  rw [List.getElem?_set]
  by_cases hi : j = i
  · subst hi
    by_cases hl : j < pm_nf ci
    · rw [if_pos rfl, pm_fs_at hl]
      simp [pm_fs, hl, pm_fv, hk, pm_sI, pm_uI, upd]
    · simp [pm_fs, hl]
  · rw [if_neg hi]
    by_cases hl : i < pm_nf ci
    · rw [pm_fs_at hl, pm_fs_at hl]
      simp [pm_fv, pm_sI, pm_uI, upd, Ne.symm hi]
    · simp [pm_fs, hl]
theorem pm_fs_P {r : Nat} (hk : pm_fk ci j = 1) : (pm_fs ad σ b ci).set j (pv ad (.ref r)) = pm_fs ad (pm_sP σ b j (some r)) b ci := by
  apply List.ext_getElem?
  intro i
  rw [List.getElem?_set]
  by_cases hi : j = i
  · subst hi
    by_cases hl : j < pm_nf ci
    · rw [if_pos rfl, pm_fs_at hl]
      simp [pm_fs, hl, pm_fv, hk, pm_sP, pm_uP, va_rf, pv]
    · simp [pm_fs, hl]
  · rw [if_neg hi]
    by_cases hl : i < pm_nf ci
    · rw [pm_fs_at hl, pm_fs_at hl]
      simp [pm_fv, pm_sP, pm_uP, Ne.symm hi]
    · simp [pm_fs, hl]
theorem pm_o_sI {c : Nat} {v : Int32} (h : c ≠ b) : pm_cell G ad (pm_sI σ b j v) c = pm_cell G ad σ c := pm_cell_eq (by simp [pm_sI, pm_uI, h]) rfl (fun _ => rfl)
theorem pm_o_sJ {c : Nat} {v : Int64} (h : c ≠ b) : pm_cell G ad (pm_sJ σ b j v) c = pm_cell G ad σ c := pm_cell_eq rfl (by simp [pm_sJ, pm_uJ, h]) (fun _ => rfl)
theorem pm_o_sP {c : Nat} {v : Option Nat} (h : c ≠ b) : pm_cell G ad (pm_sP σ b j v) c = pm_cell G ad σ c := pm_cell_eq rfl rfl (fun _ => by simp [pm_sP, pm_uP, h])
theorem pm_o_sA {c : Nat} {f : Nat → Int32} (h : c ≠ b) : pm_cell G ad (pm_sA σ b f) c = pm_cell G ad σ c := pm_cell_eq (by simp [pm_sA, pm_uA, h]) rfl (fun _ => rfl)
theorem pm_set0I {v : Int32} (h : b < σ.1) (hs : pm_shp b = (0, ci)) (hk : pm_fk ci j ≠ 1) : (pm_ws G ad σ).set b (ad b, .inr (ci, (pm_fs ad σ b ci).set j (.int v))) = pm_ws G ad (pm_sI σ b j v) :=
  pm_ws_set rfl (by rw [pm_cell0 hs, pm_fs_I hk]) (fun _ hc => pm_o_sI hc)
theorem pm_set0P {r : Nat} (h : b < σ.1) (hs : pm_shp b = (0, ci)) (hk : pm_fk ci j = 1) : (pm_ws G ad σ).set b (ad b, .inr (ci, (pm_fs ad σ b ci).set j (pv ad (.ref r)))) = pm_ws G ad (pm_sP σ b j (some r)) :=
  pm_ws_set rfl (by rw [pm_cell0 hs, pm_fs_P hk]) (fun _ hc => pm_o_sP hc)
theorem pm_set1 {i : Nat} {v : Int32} (h : b < σ.1) (hs : pm_shp b = (1, n)) : (pm_ws G ad σ).set b (ad b, .inl (G.1, n, .inl (upd (σ.2.2.1 b) i v))) = pm_ws G ad (pm_sI σ b i v) :=
  pm_ws_set rfl (by rw [pm_cell1 hs]; simp [pm_sI, pm_uI]) (fun _ hc => pm_o_sI hc)
theorem pm_set1A {f : Nat → Int32} (h : b < σ.1) (hs : pm_shp b = (1, n)) : (pm_ws G ad σ).set b (ad b, .inl (G.1, n, .inl f)) = pm_ws G ad (pm_sA σ b f) :=
  pm_ws_set rfl (by rw [pm_cell1 hs]; simp [pm_sA, pm_uA]) (fun _ hc => pm_o_sA hc)
theorem pm_set2 {i : Nat} {v : Int64} (h : b < σ.1) (hs : pm_shp b = (2, n)) : (pm_ws G ad σ).set b (ad b, .inl (G.2.1, n, .inr (.inl (vp_updL (σ.2.2.2 b) i v)))) = pm_ws G ad (pm_sJ σ b i v) :=
  pm_ws_set rfl (by rw [pm_cell2 hs]; simp [pm_sJ, pm_uJ]) (fun _ hc => pm_o_sJ hc)
/-- another map of the cells' numbers that agrees as far as they go -/
theorem pm_mapo (hwf : pm_wf σ) (h : pm_agree ad ad' σ.1) (b j : Nat) : (σ.2.1 b j).map ad' = (σ.2.1 b j).map ad := by
  cases hr : σ.2.1 b j with
  | none => rfl
  | some r =>
    show some _ = some _
    rw [h r (hwf.2 b j r hr)]
theorem pm_ws_ad (hwf : pm_wf σ) (h : pm_agree ad ad' σ.1) : pm_ws G ad' σ = pm_ws G ad σ := by
  unfold pm_ws
  refine List.map_congr_left (fun b hb => ?_)
  rw [h b (List.mem_range.mp hb), pm_cell_eq rfl rfl (pm_mapo hwf h b)]
-- new cells
def pm_ext (ad : Nat → Nat) (n q : Nat) : Nat → Nat := fun i => if i = n then q else ad i
theorem pm_ext_agree {q : Nat} : pm_agree ad (pm_ext ad n q) n := fun i hi => by simp [pm_ext, Nat.ne_of_lt hi]
theorem pm_ws_push {q : Nat} {e : va_E} (hwf : pm_wf σ) (he : pm_cell G (pm_ext ad σ.1 q) (σ.1 + 1, σ.2) σ.1 = e) : pm_ws G ad σ ++ [(q, e)] = pm_ws G (pm_ext ad σ.1 q) (σ.1 + 1, σ.2) := by
  subst he
  have h2 : pm_ws G (pm_ext ad σ.1 q) (σ.1 + 1, σ.2) = pm_ws G (pm_ext ad σ.1 q) σ ++ [(pm_ext ad σ.1 q σ.1, pm_cell G (pm_ext ad σ.1 q) (σ.1 + 1, σ.2) σ.1)] := by
    unfold pm_ws
    rw [List.range_succ, List.map_append]
    rfl
  rw [h2, pm_ws_ad hwf pm_ext_agree]
  simp [pm_ext]
theorem pm_push0 {q : Nat} (hwf : pm_wf σ) (hs : pm_shp σ.1 = (0, ci)) (hn : ∀ j, σ.2.1 σ.1 j = none) : pm_ws G ad σ ++ [(q, (.inr (ci, pm_fs ad σ σ.1 ci) : va_E))] = pm_ws G (pm_ext ad σ.1 q) (σ.1 + 1, σ.2) := by
  refine pm_ws_push hwf ?_
  rw [pm_cell0 hs]
  have : pm_fs (pm_ext ad σ.1 q) (σ.1 + 1, σ.2) σ.1 ci = pm_fs ad σ σ.1 ci := by
    unfold pm_fs
    refine List.map_congr_left (fun j _ => ?_)
    simp [pm_fv, hn]
  rw [this]
theorem pm_push1 {q : Nat} (hwf : pm_wf σ) (hs : pm_shp σ.1 = (1, n)) (hn : ∀ j, σ.2.2.1 σ.1 j = 0) : pm_ws G ad σ ++ [(q, (.inl (pm_gI G, n, .inl (fun _ => 0)) : va_E))] = pm_ws G (pm_ext ad σ.1 q) (σ.1 + 1, σ.2) := by
  refine pm_ws_push hwf ?_
  rw [pm_cell1 hs, show ((σ.1 + 1, σ.2) : pm_S).2.2.1 σ.1 = fun _ => 0 from funext hn]
theorem pm_push2 {q : Nat} (hwf : pm_wf σ) (hs : pm_shp σ.1 = (2, n)) (hn : ∀ j, σ.2.2.2 σ.1 j = 0) : pm_ws G ad σ ++ [(q, (.inl (pm_gJ G, n, .inr (.inl (fun _ => 0))) : va_E))] = pm_ws G (pm_ext ad σ.1 q) (σ.1 + 1, σ.2) := by
  refine pm_ws_push hwf ?_
  rw [pm_cell2 hs, show ((σ.1 + 1, σ.2) : pm_S).2.2.2 σ.1 = fun _ => 0 from funext hn]
theorem pm_dflt {C : String} {T : u_T} {N : Nat} {ty : Nat → FieldType} (hc : pm_cl ci C T N ty) (h0 : ∀ j, σ.2.2.1 b j = 0) (hn : ∀ j, σ.2.1 b j = none) : ∀ j, j < N → defaultValue (ty j) = vp_V (pm_fs ad σ b ci) j := by
  intro j hj
  rw [hc.2.2.2.2 j hj]
  unfold vp_V
  rw [List.getD_eq_getElem?_getD, pm_fs_at (by rw [pm_nf_of hc.1]; exact hj)]
  simp only [pm_fv, h0, hn, Option.getD_some]
  by_cases h : pm_fk ci j = 1
  · simp [h, va_rf]
  · simp [h]
theorem pm_ext_k {q : Nat} (hm : σ.1 + 1 ≤ 1000) : pm_ext ad σ.1 q 1000 = ad 1000 := by
  simp only [pm_ext]
  rw [if_neg (by omega)]
theorem pm_st_ext {q : Nat} {ls : List (Option Value)} {st : List Value} (hm : σ.1 + 1 ≤ 1000) (h : pm_lt σ.1 ls st = true) : (Value.ref σ.1 :: st).map (pv (pm_ext ad σ.1 q)) = Value.ref q :: st.map (pv ad) := by
  rw [List.map_cons, pm_mapst pm_ext_agree (pm_ext_k hm) h]
  simp [pv, pm_ext]
-- rows
def pm_extR (ad : Nat → Nat) (n q : Nat) (r : Nat → Nat) : Nat → Nat := fun i => if i < n then ad i else if i = n then q else if i < 1000 then r (i - (n + 1)) else ad i
theorem pm_extR_agree {q : Nat} {r : Nat → Nat} : pm_agree ad (pm_extR ad n q r) n := fun i hi => by simp [pm_extR, hi]
theorem pm_extR_k {q : Nat} {r : Nat → Nat} (hm : σ.1 + 1 ≤ 1000) : pm_extR ad σ.1 q r 1000 = ad 1000 := by
  simp only [pm_extR]
  rw [if_neg (by omega), if_neg (by omega), if_neg (by omega)]
theorem pm_st_extR {q : Nat} {r : Nat → Nat} {ls : List (Option Value)} {st : List Value} (hm : σ.1 + 1 ≤ 1000) (h : pm_lt σ.1 ls st = true) : (Value.ref σ.1 :: st).map (pv (pm_extR ad σ.1 q r)) = Value.ref q :: st.map (pv ad) := by
  rw [List.map_cons, pm_mapst pm_extR_agree (pm_extR_k hm) h]
  simp [pv, pm_extR]
theorem pm_push_rows {q kk : Nat} {r : Nat → Nat} {e er : va_E} (hwf : pm_wf σ) (hm : σ.1 + 1 + n ≤ 1000) (he : pm_cell G (pm_extR ad σ.1 q r) (pm_mna σ n) σ.1 = e) (hr : ∀ i, i < n → pm_cell G (pm_extR ad σ.1 q r) (pm_mna σ n) (σ.1 + 1 + i) = er):
    (pm_ws G ad σ ++ [(q, e)]) ++ (List.range n).map (fun i => (r i, er)) = pm_ws G (pm_extR ad σ.1 q r) (pm_mna σ n) := by
  subst he
  have hold : (List.range σ.1).map (fun b => (pm_extR ad σ.1 q r b, pm_cell G (pm_extR ad σ.1 q r) (pm_mna σ n) b)) = pm_ws G ad σ := by
    unfold pm_ws
    refine List.map_congr_left (fun b hb => ?_)
    have hb := List.mem_range.mp hb
    have hc : pm_cell G (pm_extR ad σ.1 q r) (pm_mna σ n) b = pm_cell G ad σ b := pm_cell_eq rfl rfl (fun j => by
      rw [show (pm_mna σ n).2.1 b j = σ.2.1 b j by simp [pm_mna, Nat.ne_of_lt hb]]
      exact pm_mapo hwf pm_extR_agree b j)
    rw [pm_extR_agree b hb, hc]
  have hrng : List.range (σ.1 + 1 + n) = List.range σ.1 ++ ([σ.1] ++ (List.range n).map (fun i => σ.1 + 1 + i)) := by
    rw [List.range_add, List.range_succ, List.append_assoc]
  show _ = (List.range (σ.1 + 1 + n)).map _
  rw [hrng, List.map_append, List.map_append, hold, List.append_assoc]
  congr 1
  congr 1
  · simp [pm_extR]
  · rw [List.map_map]
    refine List.map_congr_left (fun i hi => ?_)
    have hi2 := List.mem_range.mp hi
    simp only [Function.comp_apply, hr i hi2]
    have : pm_extR ad σ.1 q r (σ.1 + 1 + i) = r i := by
      simp only [pm_extR]
      rw [if_neg (by omega), if_neg (by omega), if_pos (by omega)]
      congr 1
      omega
    rw [this]
theorem pm_outer {q : Nat} {r : Nat → Nat} (hm : σ.1 + 1 + n ≤ 1000) : (fun j => ((pm_mna σ n).2.1 σ.1 j).map (pm_extR ad σ.1 q r)) = fun i => if i < n then some (r i) else none := by
  funext i
  by_cases h : i < n
  · have : pm_extR ad σ.1 q r (σ.1 + 1 + i) = r i := by
      simp only [pm_extR]
      rw [if_neg (by omega), if_neg (by omega), if_pos (by omega)]
      congr 1
      omega
    simp [pm_mna, h, this]
  · simp [pm_mna, h]
theorem pm_push3 {q kk : Nat} {r : Nat → Nat} (hwf : pm_wf σ) (hm : σ.1 + 1 + n ≤ 1000) (hs : pm_shp σ.1 = (3, n)) (hr : ∀ i, i < n → pm_shp (σ.1 + 1 + i) = (1, kk)) (hz : ∀ i, i < n → ∀ j, σ.2.2.1 (σ.1 + 1 + i) j = 0) :
    (pm_ws G ad σ ++ [(q, (.inl (pm_gII G, n, .inr (.inr (.inr (.inr (fun i => if i < n then some (r i) else none))))) : va_E))]) ++ (List.range n).map (fun i => (r i, (.inl (pm_gI G, kk, .inl (fun _ => 0)) : va_E))) = pm_ws G (pm_extR ad σ.1 q r) (pm_mna σ n) := by
  refine pm_push_rows (kk := kk) hwf hm ?_ (fun i hi => ?_)
  · rw [pm_cell3 hs, pm_outer hm]
  · rw [pm_cell1 (hr i hi), show (pm_mna σ n).2.2.1 (σ.1 + 1 + i) = fun _ => 0 from funext (hz i hi)]
theorem pm_push4 {q kk : Nat} {r : Nat → Nat} (hwf : pm_wf σ) (hm : σ.1 + 1 + n ≤ 1000) (hs : pm_shp σ.1 = (4, n)) (hr : ∀ i, i < n → pm_shp (σ.1 + 1 + i) = (2, kk)) (hz : ∀ i, i < n → ∀ j, σ.2.2.2 (σ.1 + 1 + i) j = 0) :
    (pm_ws G ad σ ++ [(q, (.inl (pm_gJJ G, n, .inr (.inr (.inr (.inr (fun i => if i < n then some (r i) else none))))) : va_E))]) ++ (List.range n).map (fun i => (r i, (.inl (pm_gJ G, kk, .inr (.inl (fun _ => 0))) : va_E))) = pm_ws G (pm_extR ad σ.1 q r) (pm_mna σ n) := by
  refine pm_push_rows (kk := kk) hwf hm ?_ (fun i hi => ?_)
  · rw [pm_cell4 hs, pm_outer hm]
  · rw [pm_cell2 (hr i hi), show (pm_mna σ n).2.2.2 (σ.1 + 1 + i) = fun _ => 0 from funext (hz i hi)]
theorem pm_wf_sI {v : Int32} (h : pm_wf σ) : pm_wf (pm_sI σ b j v) := h
theorem pm_wf_sJ {v : Int64} (h : pm_wf σ) : pm_wf (pm_sJ σ b j v) := h
theorem pm_wf_sA {f : Nat → Int32} (h : pm_wf σ) : pm_wf (pm_sA σ b f) := h
theorem pm_wf_sP {r : Nat} (h : pm_wf σ) (hr : r < σ.1) : pm_wf (pm_sP σ b j (some r)) := by
  refine ⟨h.1, fun b' j' r' h' => ?_⟩
  show r' < σ.1
  simp only [pm_sP, pm_uP] at h'
  by_cases hb : b' = b
  · rw [if_pos hb] at h'
    by_cases hj : j' = j
    · rw [if_pos hj] at h'
      cases h'
      exact hr
    · rw [if_neg hj] at h'
      exact h.2 _ _ _ h'
  · rw [if_neg hb] at h'
    exact h.2 _ _ _ h'
theorem pm_wf_new (h : pm_wf σ) (hm : σ.1 + 1 ≤ 1000) : pm_wf (σ.1 + 1, σ.2) := ⟨hm, fun b' j' r' h' => Nat.lt_succ_of_lt (h.2 b' j' r' h')⟩
theorem pm_wf_mna (h : pm_wf σ) (hm : σ.1 + 1 + n ≤ 1000) : pm_wf (pm_mna σ n) := by
  refine ⟨hm, fun b' j' r' h' => ?_⟩
  show r' < σ.1 + 1 + n
  simp only [pm_mna] at h'
  by_cases hb : b' = σ.1
  · rw [if_pos hb] at h'
    by_cases hj : j' < n
    · rw [if_pos hj] at h'
      cases h'
      omega
    · rw [if_neg hj] at h'
      cases h'
  · rw [if_neg hb] at h'
    have := h.2 b' j' r' h'
    omega
end PMW
theorem pm_zeroI (n : Nat) (cA : ClassId) : vp_cell cA (n, .inl (fun _ => 0)) = arrV cA n (fun _ => defaultValue .int) := rfl
theorem pm_zeroJ (n : Nat) (cA : ClassId) : vp_cell cA (n, .inr (.inl (fun _ => 0))) = arrV cA n (fun _ => defaultValue .long) := rfl
theorem pm_innerI (n : Nat) (c : ClassId) : Jvm.Free.Multi.innerC c n (defaultValue .int) = vp_cell c (n, .inl (fun _ => 0)) := by
  rw [vp_cell_i]
  show ({ cls := c, slots := Array.replicate n _, vm := .none } : Cell) = _
  rw [arrV_new]
  rfl
theorem pm_innerJ (n : Nat) (c : ClassId) : Jvm.Free.Multi.innerC c n (defaultValue .long) = vp_cell c (n, .inr (.inl (fun _ => 0))) := by
  rw [vp_cell_l]
  show ({ cls := c, slots := Array.replicate n _, vm := .none } : Cell) = _
  rw [arrV_new]
  rfl
theorem pm_bytesI {n : Nat} (h : n ≤ 1000000) : n * componentBytes .int ≤ 536870912 := by
  have : componentBytes .int = 4 := by decide
  rw [this]; omega
theorem pm_bytesJ {n : Nat} (h : n ≤ 1000000) : n * componentBytes .long ≤ 536870912 := by
  have : componentBytes .long = 8 := by decide
  rw [this]; omega
theorem pm_sameA {D : va_G} {cl : List vw_C} {s : State} {G : pm_G} {cA : ClassId} {ty : FieldType} (hK : va_K D cl (pm_tys G) s) (hK1 : va_K D cl (pm_tys G ++ [(cA, ty)]) s) (i : Nat) {cB : ClassId} (hi : (pm_tys G)[i]? = some (cB, ty)) (hty : (∀ C, ty ≠ .object C) := by intro C h; cases h) : cA = cB := by
  have h1 := (hK.2 i _ hi).2
  have h2 := (hK1.2 4 (cA, ty) rfl).2
  cases ty with
  | object C => exact absurd rfl (hty C)
  | _ => exact Option.some.inj (h2.symm.trans h1)
theorem pm_nameI {D : va_G} {cl : List vw_C} {s : State} {G : pm_G} (hK : va_K D cl (pm_tys G) s) : s.vm.findClass (FieldType.array .int).toString = some (pm_gI G) := (hK.2 0 _ rfl).2
theorem pm_nameJ {D : va_G} {cl : List vw_C} {s : State} {G : pm_G} (hK : va_K D cl (pm_tys G) s) : s.vm.findClass (FieldType.array .long).toString = some (pm_gJ G) := (hK.2 1 _ rfl).2
theorem pm_nar {ty : FieldType} {v : Int32} (h : ty = .int ∨ (ty = .boolean ∧ (v = 0 ∨ v = 1))) : narrow ty (.int v) = .int v := by
  rcases h with rfl | ⟨rfl, rfl | rfl⟩ <;> first | rfl | decide
theorem pm_fit {ty : FieldType} {v : Int32} (h : ty = .int ∨ (ty = .boolean ∧ (v = 0 ∨ v = 1))) : fits ty (.int v) = true := by
  rcases h with rfl | ⟨rfl, rfl | rfl⟩ <;> first | rfl | decide
theorem pm_narR {ty : FieldType} {a : Nat} (h : ty.isReference = true) : narrow ty (.ref a) = .ref a := by
  cases ty <;> first | rfl | cases h
theorem pm_fitR {ty : FieldType} {a : Nat} (h : ty.isReference = true) : fits ty (.ref a) = true := by
  cases ty <;> first | rfl | cases h
theorem pm_ofNat {L : Nat} (h : L < 2 ^ 31) : (Int32.ofNat L).toNatClampNeg = L := by
  have := nI_clamp (n := L) h
  exact this
/-- arrays over arrays of t are in the tables -/
abbrev pm_ao (t : FieldType) (U : State) : Prop := va_AOA t U
theorem pm_ao_moved {t : FieldType} {u U : State} (hvm : u.vm.Alike U.vm) (h : pm_ao t u) : pm_ao t U := by
  unfold pm_ao va_AOA at h ⊢
  simp only [Cond.before, Cond.holds, Cond.value] at h ⊢
  rw [hvm.findClass]
  cases hf : u.vm.findClass (FieldType.array t).toString with
  | none => rw [hf] at h; simp at h
  | some comp =>
    rw [hf] at h
    simp only [Option.bind_some] at h ⊢
    rw [hvm.findIdx_congr _ (fun _ _ _ _ => rfl)]
    generalize hF : (u.vm.classes.findIdx? fun (x : Class) => match x.kind with | .array component _ => component == comp | _ => false) = fi at h ⊢
    cases fi with
    | none => simp at h
    | some c =>
      simp only [Option.bind_some] at h ⊢
      cases hk : u.vm.classes[c]? with
      | none => rw [hk] at h; simp at h
      | some k =>
        obtain ⟨k', hk', ek⟩ := hvm.2.2 _ _ hk
        rw [hk] at h
        rw [hk', hvm.findClass]
        have ekind : k'.kind = k.kind := by rw [ek]
        simp only [Option.map_some] at h ⊢
        rw [ekind]
        exact h
theorem pm_plrows {n : Nat} {r : Nat → Nat} {f : Nat → va_E} {e : va_E} : va_pl ([] ++ (List.range n).map r) (vr_up f ((List.range n).map r) e) = (List.range n).map (fun i => (r i, e)) := by
  rw [List.nil_append]
  unfold va_pl
  rw [List.map_map]
  refine List.map_congr_left (fun i hi => ?_)
  have hm : r i ∈ (List.range n).map r := List.mem_map.mpr ⟨i, hi, rfl⟩
  simp only [Function.comp_apply, vr_up, if_pos hm]
-- what is given around a frame
/-- where a static field of Throwable lies: its class's cell is none of A's -/
def pm_lay (n d : String) (A : Nat → Prop) (U : State) (H : Heap) : Prop := ∃ (c : ClassId) (k : Class) (i : Nat) (f : Field) (a : Nat) (cell : Cell), (U.vm.findClass pm_thr = some c ∧ U.fieldFound? pm_thr n d = some (c, k, i, f) ∧ f.isStatic = true ∧ k.statics = some a) ∧ (H[a]? = some cell ∧ cell.vm.isStatics = true ∧ cell.cls = c ∧ f.slot < cell.slots.size) ∧ k.staticTypes[f.slot]? = some f.type ∧ ¬ A a
def pm_zq (n d : String) (A : Nat → Prop) (U : State) (H : Heap) : Prop := va_Zq pm_thr n d A U H ∧ pm_lay n d A U H
theorem pm_zq_moved {n d : String} {A : Nat → Prop} {u U : State} {H : Heap} (hvm : u.vm.Alike U.vm) (h : pm_zq n d A u H) : pm_zq n d A U H := by
  refine ⟨va_Zq.moved hvm h.1, ?_⟩
  obtain ⟨-, c, k, i, f, a, cell, ⟨h1, h2, h3, h4⟩, h5, h6, h7⟩ := h
  obtain ⟨k', hi', he⟩ := State.fieldFound?_setVm hvm h2
  exact ⟨c, k', i, f, a, cell, ⟨by rw [hvm.findClass]; exact h1, hi', h3, by rw [he]; exact h4⟩, h5, by rw [he]; exact h6, h7⟩
theorem pm_zq_kept {n d : String} {A : Nat → Prop} {U : State} {H H1 : Heap} (h : pm_zq n d A U H) (hq : ∀ a : Nat, a < H.size → ¬ A a → H1[a]? = H[a]?) : pm_zq n d A U H1 := by
  refine ⟨h.1.kept hq, ?_⟩
  obtain ⟨-, c, k, i, f, a, cell, h1, ⟨h5, h5r⟩, h6, h7⟩ := h
  exact ⟨c, k, i, f, a, cell, h1, ⟨by rw [hq a (Array.getElem?_eq_some_iff.mp h5).1 h7]; exact h5, h5r⟩, h6, h7⟩
theorem pm_zq_narrow {n d : String} {A B : Nat → Prop} {U : State} {H : Heap} (h : pm_zq n d A U H) (hAB : ∀ q, B q → A q) : pm_zq n d B U H := by
  refine ⟨h.1.narrow hAB, ?_⟩
  obtain ⟨-, c, k, i, f, a, cell, h1, h5, h6, h7⟩ := h
  exact ⟨c, k, i, f, a, cell, h1, h5, h6, fun z => h7 (hAB _ z)⟩
theorem pm_zq_of {args : Array Value} {s : State} {n d : String} {A : Nat → Prop} (hl : (Cond.laysStatic pm_thr n d).before args s = true) (hini : (Cond.initialized pm_thr).before args s = true) (h : (Cond.isRef (.static pm_thr n d)).before args s = true) (hA : ∀ a : Nat, a < s.heap.size → ¬ A a) : pm_zq n d A s s.heap := by
  refine ⟨va_Zqof hl hini h hA, ?_⟩
  obtain ⟨c, k, i, f, a, cell, h1, h2, h3, h4, h5, h6, h7, h8, h9⟩ := Cond.laysStatic_spec hl
  exact ⟨c, k, i, f, a, cell, ⟨h1, h2, h3, h4⟩, ⟨h5, h6, h7, h8⟩, h9, hA a (Array.getElem?_eq_some_iff.mp h5).1⟩
theorem pm_zq_lays {n d : String} {A : Nat → Prop} {s : State} {args : Array Value} (h : pm_zq n d A s s.heap) : (Cond.laysStatic pm_thr n d).before args s = true := by
  obtain ⟨-, c, k, i, f, a, cell, ⟨h1, h2, h3, h4⟩, ⟨h5, h6, h7, h8⟩, h9, -⟩ := h
  show (Cond.laysStatic pm_thr n d).holds args s none s [] = true
  exact Cond.laysStatic_of h1 h2 h3 h4 h5 h6 h7 h8 h9
theorem pm_z_ref {n d : String} {v : Value} {A : Nat → Prop} {s : State} {args : Array Value} (h : va_Z pm_thr n d v A s s.heap) (hv : v = .null ∨ ∃ t, v = .ref t) : (Cond.isRef (.static pm_thr n d)).before args s = true := by
  obtain ⟨cf, kf, fi, f, a, cell, h1, h2, h3, h4, h5, h6, h7, -⟩ := h
  have he : (Term.static pm_thr n d).eval args s none [] s = some v := by
    simp [Term.eval, State.fieldNamed?, h1, h2, h4, h5, h6, h7]
  simp only [Cond.before, Cond.holds, Cond.value, he]
  rcases hv with rfl | ⟨t, rfl⟩ <;> simp
theorem pm_zq_ref {n d : String} {A : Nat → Prop} {s : State} {args : Array Value} (h : pm_zq n d A s s.heap) : (Cond.isRef (.static pm_thr n d)).before args s = true := by
  rcases h.1 with h | ⟨t, h⟩
  · exact pm_z_ref h (Or.inl rfl)
  · exact pm_z_ref h (Or.inr ⟨t, rfl⟩)
/-- the one call of a nest mate's private constructor -/
def pm_nest : Cond := .methodLinkNest "ElasticNets" 11 ⟨"ElasticNets$Design", "<init>", "()V"⟩ "ElasticNets"
def pm_env (D : va_G) (G : pm_G) (A : Nat → Prop) (U : State) : Prop := va_K D pm_vw (pm_tys G) U ∧ pm_zq "UNASSIGNED_STACK" "[Ljava/lang/StackTraceElement;" A U U.heap ∧ pm_zq "SUPPRESSED_SENTINEL" "Ljava/util/List;" A U U.heap ∧ (∀ q ∈ pm_strs, ∃ sa, vk_R q.1 q.2.1 q.2.2 sa U) ∧ (∀ q ∈ pm_ncs, va_Nc q.1 q.2 U) ∧ pm_ao .int U ∧ pm_ao .long U ∧ va_Nw pm_nest U
/-- how a method ends: by its answer, or thrown -/
def pm_XQ (below : List Frame) (XC : String → State → State → Prop) (s : State) (mc ms : Nat) (free : Addr → Prop) (E : String) : State → Prop := fun t => ∃ (q : Addr) (ce : Cell) (L : List Loc), t.status = .running ∧ Ended t below (.threw q) ∧ XC E s t ∧ t.heap[q]? = some ce ∧ ce.vm = .none ∧ s.vm.findClass E = some ce.cls ∧ s.WarmedH t.vm ∧ s.sameButNew ({ t with vm := s.vm } : State) L mc ms ∧ ∀ z ∈ L, free z.base
def pm_Q (below : List Frame) (Qc : Array Value → State → Outcome → State → Prop) (XC : String → State → State → Prop) (args : Array Value) (s : State) (mc ms : Nat) (free : Addr → Prop) (out : pm_O) : State → Prop := match out.1 with
  | .inl _ => MQ below Qc args s mc ms free
  | .inr E => pm_XQ below XC s mc ms free E
def pm_X (k : pm_M) (ad : Nat → Nat) (σ : pm_S) (s : State) (A : Nat → Prop) : Prop := (mY k).name = "law" → ∃ L : Nat, σ.2.2.1 1001 0 = Int32.ofNat L ∧ L < 2 ^ 31 ∧ va_X (ad 1000) L (σ.2.2.1 1000) s s.heap ∧ ad 1000 < s.heap.size ∧ ¬ A (ad 1000)
def pm_ctx (l : Launch) (D : va_G) (G : pm_G) (d : Nat) (k : pm_M) (p : Program) (R : Room) (s : State) (m : MethodId) (args : Array Value) (meth : Method) (c : Code) (A : Nat → Prop) : Prop :=
  p.tables.exec = Jvm.exec ∧ c.code = mB k ∧ meth.sig.returnType = mT k ∧ c.maxLocals = mL k ∧ s.vm.findClass (mY k).cls = some m.cls ∧ (∀ w ∈ lw_gw, w.before args s = true) ∧ meth.locks = false ∧ c.exceptionTable.toList = tableOf (mH k) ∧ (∀ q, s.heap.size ≤ q → A q) ∧ (d ≤ R.frames ∧ 35 * d ≤ R.locals ∧ mC k ≤ R.cells ∧ mS k ≤ R.slots) ∧ ((mY k).name = "<init>" → meth.name = "<init>") ∧ pm_env D G A s ∧ l.stackTraces = false
def pm_post (D : va_G) (G : pm_G) (A : Nat → Prop) (ad : Nat → Nat) (σ : pm_S) (ad' : Nat → Nat) (σ' : pm_S) (st t : State) : Prop := σ.1 ≤ σ'.1 ∧ pm_agree ad ad' σ.1 ∧ va_P D pm_vw (pm_ws G ad' σ') t.heap ∧ va_D A (pm_ws G ad' σ') ∧ va_F A st t ∧ pm_wf σ' ∧ ∀ c, 1000 ≤ c → σ'.2.2.1 c = σ.2.2.1 c
def pm_end (D : va_G) (G : pm_G) (A : Nat → Prop) (Qc : Array Value → State → Outcome → State → Prop) (XC : String → State → State → Prop) (args : Array Value) (s : State) (ad : Nat → Nat) (σ : pm_S) (out : pm_O) : Prop := match out.1 with
  | .inl r => ∀ (ad' : Nat → Nat) (t : State), pm_post D G A ad σ ad' out.2 s t → s.vm.Alike t.vm → Qc args s (.returned (r.map (pv ad'))) t
  | .inr E => ∀ (ad' : Nat → Nat) (t : State), pm_post D G A ad σ ad' out.2 s t → s.vm.Alike t.vm → XC E s t
def pm_sound (l : Launch) (D : va_G) (G : pm_G) : pm_R := fun d k pc ls st cu su σ out =>
  ∀ (p : Program) (e : Env) (R : Room) (s : State) (m : MethodId) (args : Array Value) (below : List Frame) (meth : Method) (c : Code) (H : Heap) (locs : List Loc) (A : Nat → Prop) (ad : Nat → Nat) (real : Array Slot) (Qc : Array Value → State → Outcome → State → Prop) (XC : String → State → State → Prop) (free : Addr → Prop),
    pm_ctx l D G d k p R s m args meth c A → pm_X k ad σ s A → pm_loc ad (mL k) ls real → va_P D pm_vw (pm_ws G ad σ) H → va_D A (pm_ws G ad σ) → va_S A s.heap H locs → pm_wf σ → (∀ q, A q → free q) → pm_end D G A Qc XC args s ad σ out →
    W p l e R s m args below meth c H locs cu su (pm_Q below Qc XC args s (mC k) (mS k) free out) (F0 m pc real (st.map (pv ad)))
section PME
variable {D : va_G} {G : pm_G} {A : Nat → Prop} {Qc : Array Value → State → Outcome → State → Prop} {XC : String → State → State → Prop} {args : Array Value} {s : State} {ad ad' : Nat → Nat} {σ σ' : pm_S} {out : pm_O} {k : pm_M} {b j n : Nat}
theorem pm_end_mono (h : ∀ (ad'' : Nat → Nat) (t : State), pm_post D G A ad' σ' ad'' out.2 s t → pm_post D G A ad σ ad'' out.2 s t) (hE : pm_end D G A Qc XC args s ad σ out) : pm_end D G A Qc XC args s ad' σ' out := by
  obtain ⟨o, σo⟩ := out
  cases o with
  | inl r => exact fun ad'' t hp hW => hE ad'' t (h ad'' t hp) hW
  | inr E => exact fun ad'' t hp hW => hE ad'' t (h ad'' t hp) hW
theorem pm_post_step (hn : σ.1 ≤ σ'.1) (hag : pm_agree ad ad' σ.1) (hhi : ∀ c, 1000 ≤ c → σ'.2.2.1 c = σ.2.2.1 c) {ad'' : Nat → Nat} {σ'' : pm_S} {st t : State} (h : pm_post D G A ad' σ' ad'' σ'' st t) : pm_post D G A ad σ ad'' σ'' st t :=
  ⟨Nat.le_trans hn h.1, fun i hi => (h.2.1 i (Nat.lt_of_lt_of_le hi hn)).trans (hag i hi), h.2.2.1, h.2.2.2.1, h.2.2.2.2.1, h.2.2.2.2.2.1, fun c hc => (h.2.2.2.2.2.2 c hc).trans (hhi c hc)⟩
theorem pm_end_call (hag : pm_agree ad ad' σ.1) (hn : σ.1 ≤ σ'.1) (hhi : ∀ c, 1000 ≤ c → σ'.2.2.1 c = σ.2.2.1 c) (hE : pm_end D G A Qc XC args s ad σ out) : pm_end D G A Qc XC args s ad' σ' out := pm_end_mono (fun _ _ h => pm_post_step hn hag hhi h) hE
theorem pm_agree_rf : pm_agree ad ad n := fun _ _ => rfl
theorem pm_hi_sI {v : Int32} (hwf : pm_wf σ) (hb : b < σ.1) : ∀ c, 1000 ≤ c → (pm_sI σ b j v).2.2.1 c = σ.2.2.1 c := fun c hc => by
  have h1 := hwf.1
  have : c ≠ b := by omega
  simp [pm_sI, pm_uI, this]
theorem pm_hi_sA {f : Nat → Int32} (hwf : pm_wf σ) (hb : b < σ.1) : ∀ c, 1000 ≤ c → (pm_sA σ b f).2.2.1 c = σ.2.2.1 c := fun c hc => by
  have h1 := hwf.1
  have : c ≠ b := by omega
  simp [pm_sA, pm_uA, this]
theorem pm_end_sI {v : Int32} (hwf : pm_wf σ) (hb : b < σ.1) (hE : pm_end D G A Qc XC args s ad σ out) : pm_end D G A Qc XC args s ad (pm_sI σ b j v) out := pm_end_call (σ := σ) pm_agree_rf (Nat.le_refl _) (pm_hi_sI hwf hb) hE
theorem pm_end_sA {f : Nat → Int32} (hwf : pm_wf σ) (hb : b < σ.1) (hE : pm_end D G A Qc XC args s ad σ out) : pm_end D G A Qc XC args s ad (pm_sA σ b f) out := pm_end_call (σ := σ) pm_agree_rf (Nat.le_refl _) (pm_hi_sA hwf hb) hE
theorem pm_end_sJ {v : Int64} (hE : pm_end D G A Qc XC args s ad σ out) : pm_end D G A Qc XC args s ad (pm_sJ σ b j v) out := pm_end_call (σ := σ) pm_agree_rf (Nat.le_refl _) (fun _ _ => rfl) hE
theorem pm_end_sP {v : Option Nat} (hE : pm_end D G A Qc XC args s ad σ out) : pm_end D G A Qc XC args s ad (pm_sP σ b j v) out := pm_end_call (σ := σ) pm_agree_rf (Nat.le_refl _) (fun _ _ => rfl) hE
theorem pm_end_new (hag : pm_agree ad ad' σ.1) (hE : pm_end D G A Qc XC args s ad σ out) : pm_end D G A Qc XC args s ad' (σ.1 + 1, σ.2) out := pm_end_call hag (Nat.le_succ _) (fun _ _ => rfl) hE
theorem pm_end_mna (hag : pm_agree ad ad' σ.1) (hE : pm_end D G A Qc XC args s ad σ out) : pm_end D G A Qc XC args s ad' (pm_mna σ n) out := pm_end_call hag (show σ.1 ≤ σ.1 + 1 + n by omega) (fun _ _ => rfl) hE
theorem pm_X_mono (h1 : ad' 1000 = ad 1000) (hhi : ∀ c, 1000 ≤ c → σ'.2.2.1 c = σ.2.2.1 c) (h : pm_X k ad σ s A) : pm_X k ad' σ' s A := by
  intro hk
  obtain ⟨L, e1, e2, e3, e4, e5⟩ := h hk
  refine ⟨L, by rw [hhi 1001 (by omega)]; exact e1, e2, ?_, by rw [h1]; exact e4, by rw [h1]; exact e5⟩
  rw [hhi 1000 (Nat.le_refl _), h1]
  exact e3
theorem pm_X_sI {v : Int32} (hwf : pm_wf σ) (hb : b < σ.1) (h : pm_X k ad σ s A) : pm_X k ad (pm_sI σ b j v) s A := pm_X_mono rfl (pm_hi_sI hwf hb) h
theorem pm_X_sA {f : Nat → Int32} (hwf : pm_wf σ) (hb : b < σ.1) (h : pm_X k ad σ s A) : pm_X k ad (pm_sA σ b f) s A := pm_X_mono rfl (pm_hi_sA hwf hb) h
theorem pm_X_sJ {v : Int64} (h : pm_X k ad σ s A) : pm_X k ad (pm_sJ σ b j v) s A := pm_X_mono rfl (fun _ _ => rfl) h
theorem pm_X_sP {v : Option Nat} (h : pm_X k ad σ s A) : pm_X k ad (pm_sP σ b j v) s A := pm_X_mono rfl (fun _ _ => rfl) h
theorem pm_X_new {q : Nat} (hm : σ.1 + 1 ≤ 1000) (h : pm_X k ad σ s A) : pm_X k (pm_ext ad σ.1 q) (σ.1 + 1, σ.2) s A := pm_X_mono (by simp only [pm_ext]; rw [if_neg (by omega)]) (fun _ _ => rfl) h
theorem pm_X_mna {q : Nat} {r : Nat → Nat} (hm : σ.1 + 1 + n ≤ 1000) (h : pm_X k ad σ s A) : pm_X k (pm_extR ad σ.1 q r) (pm_mna σ n) s A := pm_X_mono (by simp only [pm_extR]; rw [if_neg (by omega), if_neg (by omega), if_neg (by omega)]) (fun _ _ => rfl) h
theorem pm_X_call (hwf1 : pm_wf σ') (hup : ∀ i, σ'.1 ≤ i → ad' i = ad i) (hhi : ∀ c, 1000 ≤ c → σ'.2.2.1 c = σ.2.2.1 c) (h : pm_X k ad σ s A) : pm_X k ad' σ' s A := pm_X_mono (hup 1000 hwf1.1) hhi h
theorem pm_post_rf {H : Heap} {locs : List Loc} {t : State} (hP : va_P D pm_vw (pm_ws G ad σ) H) (hD : va_D A (pm_ws G ad σ)) (hS : va_S A s.heap H locs) (hwf : pm_wf σ) (ht : t.heap = H) : pm_post D G A ad σ ad σ s t :=
  ⟨Nat.le_refl _, pm_agree_rf, by rw [ht]; exact hP, hD, hS.F ht, hwf, fun _ _ => rfl⟩
theorem pm_post_thrown {H : Heap} {locs : List Loc} {t : State} (hP : va_P D pm_vw (pm_ws G ad σ) H) (hD : va_D A (pm_ws G ad σ)) (hS : va_S A s.heap H locs) (hwf : pm_wf σ) (hz : H.size ≤ t.heap.size) (hq : ∀ q : Nat, q < H.size → t.heap[q]? = H[q]?) : pm_post D G A ad σ ad σ s t :=
  ⟨Nat.le_refl _, pm_agree_rf, hP.kept (fun k x hx => hq x.1 ((hP k x hx).lt)), hD, ⟨Nat.le_trans hS.1 hz, fun q h1 h2 => (hq q (Nat.lt_of_lt_of_le h1 hS.1)).trans (hS.2.1 q h1 h2)⟩, hwf, fun _ _ => rfl⟩
theorem pm_A1 {H : Heap} {locs : List Loc} (hD : va_D A (pm_ws G ad σ)) (hS : va_S A s.heap H locs) (hA : ∀ q, s.heap.size ≤ q → A q) : ∀ q, va_A (pm_ws G ad σ) H.size q → A q := by
  intro q h
  rcases h with ⟨k, e, h⟩ | h
  · exact hD.2 k (q, e) h
  · exact hA q (Nat.le_trans hS.1 h)
theorem pm_env_at {H : Heap} {locs : List Loc} {A1 : Nat → Prop} {U : State} (hV : pm_env D G A s) (hS : va_S A s.heap H locs) (hA1 : ∀ q, A1 q → A q) (hU : U.heap = H) (hW : s.WarmedH U.vm) : pm_env D G A1 U := by
  obtain ⟨h1, h2, h3, h4, h5, h6, h7, h8⟩ := hV
  refine ⟨va_K.moved hW.alike h1, ?_, ?_, fun q hq => ?_, fun q hq => va_Nc.moved hW.alike (h5 q hq), pm_ao_moved hW.alike h6, pm_ao_moved hW.alike h7, va_Nw.warmM hW h8⟩
  · rw [hU]; exact pm_zq_narrow (pm_zq_moved hW.alike (pm_zq_kept h2 hS.2.1)) hA1
  · rw [hU]; exact pm_zq_narrow (pm_zq_moved hW.alike (pm_zq_kept h3 hS.2.1)) hA1
  · obtain ⟨sa, hsa⟩ := h4 q hq
    exact ⟨sa, hsa.warm hW⟩
/-- a callee's start -/
def pm_pre0 (D : va_G) (G : pm_G) (ad : Nat → Nat) (σ : pm_S) (sz : Nat) (U : State) : Prop := U.heap.size = sz ∧ va_P D pm_vw (pm_ws G ad σ) U.heap ∧ va_D (va_A (pm_ws G ad σ) sz) (pm_ws G ad σ) ∧ pm_env D G (va_A (pm_ws G ad σ) sz) U
theorem pm_prep {H : Heap} {locs : List Loc} {U : State} {av : List Value} (hP : va_P D pm_vw (pm_ws G ad σ) H) (hD : va_D A (pm_ws G ad σ)) (hS : va_S A s.heap H locs) (hV : pm_env D G A s) (hA1 : ∀ q, va_A (pm_ws G ad σ) H.size q → A q) (hU : U.heap = H) (hW : s.WarmedH U.vm) : va_Pc av (pm_pre0 D G ad σ H.size) av.toArray U :=
  ⟨rfl, by rw [hU], by rw [hU]; exact hP, hD.self, pm_env_at hV hS hA1 hU hW⟩
theorem pm_blind {av : List Value} {sz : Nat} : FrameBlind (va_Pc av (pm_pre0 D G ad σ sz)) := by
  intro a U g mk h
  obtain ⟨h0, h1, h2, h3, h4, h5, h6, h7, h8, h9, h10, h11⟩ := h
  refine ⟨h0, h1, h2, h3, va_K.moved (u := U) (U := U.calling g mk a) (Vm.Alike.refl U.vm) h4, pm_zq_moved (u := U) (U := U.calling g mk a) (Vm.Alike.refl U.vm) h5, pm_zq_moved (u := U) (U := U.calling g mk a) (Vm.Alike.refl U.vm) h6, fun q hq => ?_, fun q hq => va_Nc.moved (u := U) (U := U.calling g mk a) (Vm.Alike.refl U.vm) (h8 q hq), pm_ao_moved (u := U) (U := U.calling g mk a) (Vm.Alike.refl U.vm) h9, pm_ao_moved (u := U) (U := U.calling g mk a) (Vm.Alike.refl U.vm) h10, va_Nw.same (u := U) (U := U.calling g mk a) rfl rfl h11⟩
  obtain ⟨sa, hsa⟩ := h7 q hq
  exact ⟨sa, vk_R.same (u := U) rfl hsa⟩
def pm_Qn (D : va_G) (G : pm_G) (A : Nat → Prop) (ad : Nat → Nat) (σ : pm_S) (out : pm_O) : Array Value → State → Outcome → State → Prop := fun _ st o t => match out.1 with
  | .inl r => ∃ ad' : Nat → Nat, o = .returned (r.map (pv ad')) ∧ pm_post D G A ad σ ad' out.2 st t
  | .inr _ => False
def pm_Qx (D : va_G) (G : pm_G) (A : Nat → Prop) (ad : Nat → Nat) (σ : pm_S) (out : pm_O) : String → State → State → Prop := fun E st t => match out.1 with
  | .inl _ => False
  | .inr E' => E = E' ∧ ∃ ad' : Nat → Nat, pm_post D G A ad σ ad' out.2 st t
theorem pm_end_Q : pm_end D G A (pm_Qn D G A ad σ out) (pm_Qx D G A ad σ out) args s ad σ out := by
  obtain ⟨o, σo⟩ := out
  cases o with
  | inl r => exact fun ad' t h _ => ⟨ad', rfl, h⟩
  | inr E => exact fun ad' t h _ => ⟨rfl, ad', h⟩
end PME
-- entry
def pm_en (As : List Value) (n : Nat) : List (Option Value) := As.map some ++ List.replicate (n - As.length) none
def pm_cat1 (As : List Value) : Bool := As.all fun v => decide (v.category = 1)
theorem pm_sl1 : ∀ (vs : List Value), (∀ v ∈ vs, v.category = 1) → (lg_sl vs).length = vs.length
  | [], _ => rfl
  | v :: vs, h => by
    have h1 := h v List.mem_cons_self
    have h2 := pm_sl1 vs (fun w hw => h w (List.mem_cons_of_mem _ hw))
    unfold lg_sl at h2 ⊢
    rw [List.flatMap_cons, List.length_append, h2, if_neg (by omega)]
    simp
    omega
theorem pm_args1 : ∀ (vs : List Value) (i : Nat), (∀ v ∈ vs, v.category = 1) → ∀ (j : Nat) (v : Value), vs[j]? = some v → (i + j, v) ∈ lv_args i vs
  | [], _, _, j, v, h => by simp at h
  | w :: vs, i, hc, j, v, h => by
    have h1 := hc w List.mem_cons_self
    unfold lv_args
    rw [if_neg (by omega)]
    cases j with
    | zero =>
      rw [List.getElem?_cons_zero] at h
      cases h
      exact List.mem_cons_self
    | succ j =>
      rw [List.getElem?_cons_succ] at h
      refine List.mem_cons_of_mem _ ?_
      have := pm_args1 vs (i + 1) (fun w hw => hc w (List.mem_cons_of_mem _ hw)) j v h
      rw [show i + (j + 1) = i + 1 + j by omega]
      exact this
theorem pm_en_loc {ad : Nat → Nat} {As : List Value} {n : Nat} (hc : pm_cat1 As = true) (hn : As.length ≤ n) : pm_loc ad n (pm_en As n) ((lg_sl (As.map (pv ad)) ++ List.replicate (n - (lg_sl (As.map (pv ad))).length) Slot.unset).toArray) := by
  have hc1 : ∀ v ∈ As.map (pv ad), v.category = 1 := by
    intro v hv
    obtain ⟨u, hu, rfl⟩ := List.mem_map.mp hv
    rw [pm_cat]
    simp only [pm_cat1, List.all_eq_true, decide_eq_true_eq] at hc
    exact hc u hu
  have hl := lv_entry (As.map (pv ad)) (n := n) (by rw [pm_sl1 _ hc1, List.length_map]; exact hn)
  refine ⟨by simp [pm_en]; omega, hl.1, hl.2.1, ?_⟩
  rintro ⟨j, w⟩ hq
  obtain ⟨u, hu, rfl⟩ := pm_lv_iff.mp hq
  refine hl.2.2 (j, pv ad u) ?_
  have hj : (As.map (pv ad))[j]? = some (pv ad u) := by
    unfold pm_en at hu
    by_cases h : j < As.length
    · rw [List.getElem?_append_left (by simpa using h), List.getElem?_map] at hu
      rw [List.getElem?_map]
      cases ha : As[j]? with
      | none => rw [ha] at hu; cases hu
      | some x => rw [ha] at hu; cases hu; rfl
    · rw [List.getElem?_append_right (by simpa using h), List.getElem?_replicate] at hu
      split at hu <;> cases hu
  have := pm_args1 (As.map (pv ad)) 0 hc1 j _ hj
  rw [Nat.zero_add] at this
  exact this
def pm_ok (k : pm_M) : Prop := mH k = [] ∧ plainName (mY k).cls = true ∧ ((mY k).cls ≠ "java/lang/invoke/MethodHandle" ∧ (mY k).cls ≠ "java/lang/invoke/VarHandle") ∧ Cond.code (mY k) (mB k) (mL k) (mT k) ∈ lw_gw ∧ mL k ≤ 16 ∧ (mY k).name ≠ "law"
def pm_okH (k : pm_M) : Prop := plainName (mY k).cls = true ∧ ((mY k).cls ≠ "java/lang/invoke/MethodHandle" ∧ (mY k).cls ≠ "java/lang/invoke/VarHandle") ∧ Cond.codeWith (mY k) (mB k) (mL k) (mT k) (mH k) ∈ lw_gw ∧ mL k ≤ 16 ∧ (mY k).name ≠ "law"
def pm_np (y : MethodName) (n : Nat) : Prop := (parseMethodDescriptor y.desc).map (fun d => d.parameters.length) = some n
def pm_vl (own : String) (idx : Nat) (y : MethodName) : Prop := Cond.methodLink own idx y ∈ lw_gw ∧ Cond.instanceMethod y ∈ lw_gw ∧ Cond.selects y.cls y y ∈ lw_gw ∧ Cond.initialized y.cls ∈ lw_gw
def pm_sl (own : String) (idx : Nat) (y : MethodName) : Prop := Cond.methodLink own idx y ∈ lw_gw ∧ Cond.static y ∈ lw_gw ∧ Cond.initialized y.cls ∈ lw_gw
def pm_il (own : String) (idx : Nat) (y : MethodName) : Prop := Cond.methodLink own idx y ∈ lw_gw ∧ Cond.instanceMethod y ∈ lw_gw ∧ Cond.initialized y.cls ∈ lw_gw ∧ y.name = "<init>"
def pm_wsm (k : pm_M) : List Cond := Cond.code (mY k) (mB k) (mL k) (mT k) :: lw_gw
def pm_wsH (k : pm_M) : List Cond := Cond.codeWith (mY k) (mB k) (mL k) (mT k) (mH k) :: lw_gw
def pm_rm (d : Nat) (k : pm_M) : Room := { frames := d, cells := mC k, slots := mS k, locals := 35 * d }
theorem pm_gw_good : GoodIn lw_gw lw_gw := fun w hw => ⟨hw, good_of_word (List.mem_filter.mp hw).2⟩
theorem pm_good {k : pm_M} (h : Cond.code (mY k) (mB k) (mL k) (mT k) ∈ lw_gw) : GoodIn lw_gw (pm_wsm k) := fun w hw => pm_gw_good w (by
  rcases List.mem_cons.mp hw with rfl | h1
  · exact h
  · exact h1)
theorem pm_goodH {k : pm_M} (h : Cond.codeWith (mY k) (mB k) (mL k) (mT k) (mH k) ∈ lw_gw) : GoodIn lw_gw (pm_wsH k) := fun w hw => pm_gw_good w (by
  rcases List.mem_cons.mp hw with rfl | h1
  · exact h
  · exact h1)
section PMC
variable {l : Launch} {D : va_G} {G : pm_G} {d : Nat} {k k2 : pm_M} {R : Room} {s : State} {args : Array Value} {idx n : Nat} {C : String}
theorem pm_room (hR : d + 1 ≤ R.frames ∧ 35 * (d + 1) ≤ R.locals ∧ mC k ≤ R.cells ∧ mS k ≤ R.slots) (hl : mL k2 ≤ 16) : (pm_rm d k2).frames + 1 ≤ R.frames ∧ 8 + (mL k2 + 11) + (pm_rm d k2).locals ≤ R.locals := by
  constructor
  · show d + 1 ≤ _
    omega
  · show 8 + (mL k2 + 11) + 35 * d ≤ _
    omega
theorem pm_cwV (hts : ∀ w ∈ lw_gw, w.before args s = true) (hR : d + 1 ≤ R.frames ∧ 35 * (d + 1) ≤ R.locals ∧ mC k ≤ R.cells ∧ mS k ≤ R.slots) (hok : pm_ok k2) (hv : pm_vl (mY k).cls idx (mY k2)) (hn : pm_np (mY k2) n) (hC : (mY k2).cls = C) :
    CallW R s args (mY k).cls C idx (mY k2) (mB k2) (mL k2) (mT k2) (pm_wsm k2) (pm_rm d k2) (mC k2) (mS k2) n := by
  subst hC
  obtain ⟨-, -, h2, h3, h4, -⟩ := hok
  exact ⟨callB_of n hts (pm_good h3) rfl rfl rfl (hts _ hv.2.2.2) (hts _ hv.1) ⟨h2.1, h2.2, hn⟩ (pm_room hR h4), hts _ hv.2.1, hts _ hv.2.2.1⟩
theorem pm_cwS (hts : ∀ w ∈ lw_gw, w.before args s = true) (hR : d + 1 ≤ R.frames ∧ 35 * (d + 1) ≤ R.locals ∧ mC k ≤ R.cells ∧ mS k ≤ R.slots) (hok : pm_ok k2) (hv : pm_sl (mY k).cls idx (mY k2)) (hn : pm_np (mY k2) n) :
    CallB R s args (mY k).cls idx (mY k2) (mB k2) (mL k2) (mT k2) (pm_wsm k2) (pm_rm d k2) (mC k2) (mS k2) n ∧ (Cond.static (mY k2)).before args s = true := by
  obtain ⟨-, -, h2, h3, h4, -⟩ := hok
  exact ⟨callB_of n hts (pm_good h3) rfl rfl rfl (hts _ hv.2.2) (hts _ hv.1) ⟨h2.1, h2.2, hn⟩ (pm_room hR h4), hts _ hv.2.1⟩
theorem pm_cwI (hts : ∀ w ∈ lw_gw, w.before args s = true) (hR : d + 1 ≤ R.frames ∧ 35 * (d + 1) ≤ R.locals ∧ mC k ≤ R.cells ∧ mS k ≤ R.slots) (hok : pm_ok k2) (hv : pm_il (mY k).cls idx (mY k2)) (hn : pm_np (mY k2) n) (hT : mT k2 = none) :
    CallB R s args (mY k).cls idx (mY k2) (mB k2) (mL k2) none (pm_wsm k2) (pm_rm d k2) (mC k2) (mS k2) n ∧ (mY k2).name = "<init>" ∧ (Cond.instanceMethod (mY k2)).before args s = true := by
  obtain ⟨-, -, h2, h3, h4, -⟩ := hok
  exact ⟨callB_of n hts (pm_good h3) (by unfold pm_wsm; rw [hT]) rfl rfl (hts _ hv.2.2.1) (hts _ hv.1) ⟨h2.1, h2.2, hn⟩ (pm_room hR h4), hv.2.2.2, hts _ hv.2.1⟩
theorem pm_met {As : List Value} {σ σ2 : pm_S} {r : Option Value} {ad : Nat → Nat} (sz : Nat) (hok : pm_ok k2) (hlt : l.stackTraces = false) (hlen : As.length ≤ mL k2) (hcat : pm_cat1 As = true) (hwf : pm_wf σ) (h : pm_sound l D G d k2 0 (pm_en As (mL k2)) [] 0 0 σ (.inl r, σ2)) :
    Met l (mY k2) (pm_wsm k2) (pm_rm d k2) (va_Pc (As.map (pv ad)) (pm_pre0 D G ad σ sz)) (pm_Qn D G (va_A (pm_ws G ad σ) sz) ad σ (.inl r, σ2)) (mC k2) (mS k2) (va_A (pm_ws G ad σ) sz) := by
  obtain ⟨g1, g2, g3, g4, g5, g6⟩ := hok
  refine Met.ofW (cc := mB k2) (maxL := mL k2) (ret := mT k2) g2 rfl ?_
  intro p e s m args below meth c s₁ B hml hv
  obtain ⟨rfl, hsz, hP, hD, hV⟩ := hv
  have hts := atoms_spec (ws := pm_wsm k2) B.pre
  have hown : s.vm.findClass (mY k2).cls = some m.cls := findClass_of_methodNamed B.named
  have hex : c.exceptionTable.toList = tableOf (mH k2) := by
    obtain ⟨meth9, c9, h1, h2, -, -, -, -, h7, -⟩ := Cond.code_spec B.named (hts _ List.mem_cons_self)
    cases Option.some.inj (h1.symm.trans B.method)
    cases Option.some.inj (h2.symm.trans (Stand.of_body B).code)
    rw [Array.isEmpty_iff.mp h7, g1]
    rfl
  subst hsz
  rw [lg_entry_eq]
  exact h p e _ s m _ below meth c s.heap [] (va_A (pm_ws G ad σ) s.heap.size) ad _ _ (pm_Qx D G (va_A (pm_ws G ad σ) s.heap.size) ad σ (.inl r, σ2)) _ ⟨B.exec, B.bytes, B.returns, hml, hown, fun w hw => hts w (List.mem_cons_of_mem _ hw), B.notSynchronized, hex, fun q hq => Or.inr hq, ⟨Nat.le_refl _, Nat.le_refl _, Nat.le_refl _, Nat.le_refl _⟩, fun z => (name_of_methodNamed B.named B.method).1.trans z, hV, hlt⟩ (fun z => absurd z g6) (pm_en_loc hcat hlen) hP hD va_S.rf hwf (fun _ z => z) pm_end_Q
/-- the addresses behind a call: those that it gave as far as cells go -/
def pm_cut (ad ad' : Nat → Nat) (n : Nat) : Nat → Nat := fun i => if i < n then ad' i else ad i
theorem pm_cut_lo {ad ad' : Nat → Nat} {n : Nat} : pm_agree ad' (pm_cut ad ad' n) n := fun i hi => by simp [pm_cut, hi]
variable {p : Program} {e : Env} {m : MethodId} {below : List Frame} {meth : Method} {c : Code} {H : Heap} {locs : List Loc} {cu su mc ms pc : Nat} {Q : State → Prop} {A : Nat → Prop} {ad : Nat → Nat} {real : Array Slot} {st0 rest : List Value} {σ σ2 : pm_S} {a : Array Value}
theorem pm_retW {r : Option Value} (hr : va_Run p l e R s m args below meth c H locs cu su mc ms (F0 m pc real st0) rest (pm_Qn D G (va_A (pm_ws G ad σ) H.size) ad σ (.inl r, σ2) a) (va_A (pm_ws G ad σ) H.size)) (hS : va_S A s.heap H locs) (hA1 : ∀ q, va_A (pm_ws G ad σ) H.size q → A q) (hnr : pm_ls r.toList = true)
    (kk : ∀ (ad' : Nat → Nat) (H1 : Heap) (locs1 : List Loc), pm_agree ad ad' σ.1 → (∀ i, σ2.1 ≤ i → ad' i = ad i) → σ.1 ≤ σ2.1 → (∀ c, 1000 ≤ c → σ2.2.2.1 c = σ.2.2.1 c) → va_P D pm_vw (pm_ws G ad' σ2) H1 → va_D A (pm_ws G ad' σ2) → va_S A s.heap H1 locs1 → pm_wf σ2 → W p l e R s m args below meth c H1 locs1 (cu + mc) (su + ms) Q (F0 m (pc + 3) real ((r.map (pv ad')).toList ++ rest))) : W p l e R s m args below meth c H locs cu su Q (F0 m pc real st0) := by
  intro T hT X
  obtain ⟨v, st₀, t, T', L, h0, X', hL, e1, e2, ⟨ad', hv, q1, q2, q3, q4, q5, q6, q7⟩, st⟩ := hr T hT X
  cases hv
  obtain ⟨hz, hk⟩ := q5
  rw [h0] at hz hk
  have hcut : pm_agree ad' (pm_cut ad ad' σ2.1) σ2.1 := pm_cut_lo
  have hag : pm_agree ad (pm_cut ad ad' σ2.1) σ.1 := fun i hi => (hcut i (Nat.lt_of_lt_of_le hi q1)).trans (q2 i hi)
  have hS1 : va_S A s.heap T'.heap (locs ++ L) := ⟨Nat.le_trans hS.1 (by rw [e1]; exact hz), fun q h1 h2 => by rw [e1, hk q (Nat.lt_of_lt_of_le h1 hS.1) (fun z => h2 (hA1 q z))]; exact hS.2.1 q h1 h2, fun q hq => by
      rcases List.mem_append.mp hq with h | h
      · exact hS.2.2 q h
      · exact hA1 _ (hL q h)⟩
  obtain ⟨t2, a1, b1⟩ := kk (pm_cut ad ad' σ2.1) T'.heap (locs ++ L) hag (fun i hi => by simp [pm_cut, Nat.not_lt.mpr hi]) q1 q7 (by rw [e1, pm_ws_ad q6 hcut]; exact q3) (by rw [pm_ws_ad q6 hcut]; exact q4.weaken (fun _ q _ h => hA1 q.1 h)) hS1 q6 T' rfl X'
  rw [pm_nref (ad := ad') hnr] at a1
  exact ⟨t2, st t2 a1, b1⟩
theorem pm_aald {cc : ByteArray} {ws : va_W} {cl : List vw_C} {b1 nn : Nat} {tys : List (ClassId × FieldType)} {cA : ClassId} {f : Nat → Option Nat} {i : Int32} {v : Value} {ls : Array Slot} (hexec : p.tables.exec = Jvm.exec) (hb : c.code = cc) (hK : va_K D cl tys s) (hP : va_P D cl ws H) (q0 t0 : Nat) (ha : ws[q0]? = some (b1, .inl (cA, nn, .inr (.inr (.inr (.inr f)))))) {ty : FieldType} (ht : tys[t0]? = some (cA, ty)) (hty : ty.isReference = true) (hin : vp_in i nn) (hv : va_rf (f i.toNatClampNeg) = v) (hdg : decode cc pc = .ok (.aaload, 1))
    (kk : W p l e R s m args below meth c H locs cu su Q (F0 m (pc + 1) ls (v :: rest))) : W p l e R s m args below meth c H locs cu su Q (F0 m pc ls (.int i :: .ref b1 :: rest)) := by
  have hlt : i.toNatClampNeg < nn := Nat.not_le.mp fun q => hin (Or.inr q)
  subst hv
  exact W.aald (v := va_rf (f i.toNatClampNeg)) (ty := ty) hexec hb (hP q0 _ ha) ((hK.2 t0 _ ht).1 nn (fun j => va_rf (f j))) hty (fun q => by cases q) (by show ¬ (i < 0 ∨ (arrV _ _ _).slots.size ≤ _); rw [arrV_size]; exact hin) (by show (arrV _ _ _).slots[_]? = _; rw [arrV_read _ _ hlt]) rfl rfl hdg kk
end PMC
/-- who catches E, thrown at pc -/
def pm_hd (k : pm_M) (pc : Nat) (E : String) (hpc : Nat) : Prop := ∃ (pre : List ExceptionTableEntry) (x : ExceptionTableEntry) (suf : List ExceptionTableEntry), tableOf (mH k) = pre ++ x :: suf ∧ (∀ z ∈ pre, covers z pc = false ∨ (z.catchType ≠ 0 ∧ ∃ nm : String, Cond.classLink (mY k).cls z.catchType nm ∈ lw_gw ∧ (E, nm) ∈ pm_ncs)) ∧ covers x pc = true ∧ x.catchType ≠ 0 ∧ x.handlerPc = hpc ∧ ∃ nm : String, Cond.classLink (mY k).cls x.catchType nm ∈ lw_gw ∧ nm = E ∧ Cond.initialized E ∈ lw_gw
