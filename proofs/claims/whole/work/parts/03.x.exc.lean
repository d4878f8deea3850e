-- exceptions: made, thrown, passed on, caught
section PMX
variable {p : Program} {l : Launch} {e : Env} {R : Room} {s : State} {m : MethodId} {args : Array Value} {below : List Frame} {meth : Method} {c : Code} {T : State} {locs : List Loc} {cells slots : Nat}
/-- the frame as it stands, taken as a fresh start: nothing written, nothing made yet -/
theorem pm_anew (X : Stand p l e R s m args below meth c T locs cells slots) {R' : Room} (hf : R'.frames ≤ R.frames) (hl : R'.locals ≤ R.locals) (hc : cells + R'.cells ≤ R.cells) (hs : slots + R'.slots ≤ R.slots) :
    Stand p l e R' ((T.setVm s.vm).setFrames (.invoking m args :: below)) m args below meth c T [] 0 0 := by
  obtain ⟨g₀, hfr⟩ := X.frames_eq
  have hfr' : (T.setVm s.vm).frames = .java g₀ :: below := hfr
  have hF : ((T.setVm s.vm).setFrames (.invoking m args :: below)).frames = .invoking m args :: below := State.frames_setFrames _ (State.cur_lt_of_frames hfr')
  have hlim : e.platform.stackLimits ((T.setVm s.vm).setFrames (.invoking m args :: below)).me = e.platform.stackLimits T.me := by
    rw [State.stackLimits_setFrames]; rfl
  have hby : ((T.setVm s.vm).setFrames (.invoking m args :: below)).me.stackBytes = T.me.stackBytes := by
    rw [State.stackBytes_setFrames]; rfl
  refine ⟨X.admits, X.cas, X.clock, hF, ?_, X.hears, X.method, X.code, X.here, X.tail, State.WarmedH.of_rootvm rfl X.warmed, hlim.symm, hby.symm, ?_⟩
  · have hroom := X.room
    have hb := X.book
    have h1 := X.heapSize
    have h2 := X.used
    have hli := State.localsInUse_invoking X.frames X.method X.code
    have hli' : ((T.setVm s.vm).setFrames (.invoking m args :: below)).localsInUse = _ := State.localsInUse_invoking hF X.method X.code
    simp only [State.hasRoom, Bool.and_eq_true, decide_eq_true_eq] at hroom ⊢
    rw [hF, hlim, hby, X.limits, X.bytes, hli']
    rw [X.frames, hli] at hroom
    obtain ⟨⟨⟨⟨a1, a2, a3, a4, a5, a6⟩, a7⟩, a8⟩, a9⟩ := hroom
    have hz : ((T.setVm s.vm).setFrames (.invoking m args :: below)).heap.size = T.heap.size := rfl
    have hu : ((T.setVm s.vm).setFrames (.invoking m args :: below)).slotsUsed = T.slotsUsed := rfl
    refine ⟨⟨⟨⟨?_, ?_, ?_, ?_, ?_, a6⟩, ?_⟩, ?_⟩, hb⟩
    · omega
    · omega
    · omega
    · omega
    · omega
    · rw [hz]; omega
    · rw [hu]; omega
  · obtain ⟨t, ht, -⟩ := State.frames_cons hfr'
    obtain ⟨t', ht', -⟩ := State.frames_cons hF
    have h := (State.sameButNew.refl ((T.setVm s.vm).setFrames (.invoking m args :: below)) ht').setFrames (.java g₀ :: below) (State.cur_lt_of_frames hF)
    rw [State.setFrames_setFrames, ← hfr', State.setFrames_self ht] at h
    exact h
/-- what isn't written stays whole -/
theorem pm_whole {s1 U : State} {k n : Nat} (h : s1.sameButNew ({ U with vm := s1.vm } : State) [] k n) : s1.heap.size ≤ U.heap.size ∧ ∀ q : Nat, q < s1.heap.size → U.heap[q]? = s1.heap[q]? := by
  obtain ⟨-, h2, -, -, -, h6⟩ := h
  refine ⟨h2, fun q hq => ?_⟩
  have hc : s1.heap[q]? = some s1.heap[q] := Array.getElem?_eq_getElem hq
  obtain ⟨c', g1, g2, g3, g4⟩ := h6 q _ hc
  have hs : c'.slots = s1.heap[q].slots := Array.ext_getElem? (fun i => g4 i (by simp))
  have g1 : U.heap[q]? = some c' := g1
  rw [g1, hc, g2, hs]
theorem pm_unframe {u v : State} {fs : List Frame} {L : List Loc} {k n : Nat} (h : (u.setFrames fs).sameButNew v L k n) : u.sameButNew v L k n := by
  obtain ⟨e1, r⟩ := h
  refine ⟨?_, r⟩
  rw [State.setFrames_setFrames] at e1
  exact e1
/-- the words that the tables alone don't decide -/
def pm_spec : List Cond := [.isRef (.static Bundle.tN "UNASSIGNED_STACK" Bundle.steD), .isRef (.static Bundle.tN "SUPPRESSED_SENTINEL" Bundle.listD), .laysStatic Bundle.tN "UNASSIGNED_STACK" Bundle.steD, .laysStatic Bundle.tN "SUPPRESSED_SENTINEL" Bundle.listD]
theorem pm_asg (vm : Vm) (c : ClassId) : vm.assignable c c = true := by
  show (c == c || _) = true
  rw [beq_self_eq_true, Bool.true_or]
theorem pm_der_decl {args : Array Value} {s : State} {x : MethodName} {bytes : ByteArray} {maxL : Nat} {ret : Option FieldType} (h1 : (Cond.instanceMethod x).before args s = true) (h2 : (Cond.code x bytes maxL ret).before args s = true) : (Cond.declares x).before args s = true := by
  obtain ⟨obj, meth, hn, hm, hst, hab⟩ := Cond.instanceMethod_spec h1
  obtain ⟨meth', c, hm', hc, hb, hl, -, hlock, -, hsig⟩ := Cond.code_spec hn h2
  cases hm.symm.trans hm'
  show (Cond.declares x).holds args s none s [] = true
  simp [Cond.holds, Cond.value, hn, hm, hst, hsig]
theorem pm_der_cast {args : Array Value} {s : State} {a : String} (h : (Cond.initialized a).before args s = true) : (Cond.castable a a).before args s = true := by
  have h' : (Cond.initialized a).holds args s none s [] = true := h
  show (Cond.castable a a).holds args s none s [] = true
  cases hc : s.vm.findClass a with
  | none => simp [Cond.holds, Cond.value, hc] at h'
  | some c => simp only [Cond.holds, Cond.value, hc, pm_asg, Option.bind_some, Option.map_some, Option.getD_some]; rfl
/-- words that follow from others -/
def pm_der : Cond → Bool
  | .declares x => decide (Cond.instanceMethod x ∈ lw_gw) && lw_gw.any (fun v => match v with | .code y _ _ _ => decide (y = x) | _ => false)
  | .castable a b => decide (a = b) && decide (Cond.initialized a ∈ lw_gw)
  | _ => false
theorem pm_der_at {args : Array Value} {s : State} (hts : ∀ w ∈ lw_gw, w.before args s = true) {w : Cond} (h : pm_der w = true) : w.before args s = true := by
  unfold pm_der at h
  split at h
  · simp only [Bool.and_eq_true, decide_eq_true_eq, List.any_eq_true] at h
    obtain ⟨h1, v, hv, h2⟩ := h
    split at h2
    · have e := of_decide_eq_true h2
      subst e
      exact pm_der_decl (hts _ h1) (hts _ hv)
    · cases h2
  · simp only [Bool.and_eq_true, decide_eq_true_eq] at h
    obtain ⟨e, h1⟩ := h
    subst e
    exact pm_der_cast (hts _ h1)
  · cases h
def pm_tw (own : String) (ik is ic : Nat) (E text : String) (nms : List String) : Prop := Bundle.fit E = true ∧ (∀ n ∈ nms, Bundle.fit n = true) ∧ Cond.classLink own ik E ∈ lw_gw ∧ Cond.initialized E ∈ lw_gw ∧ Cond.instantiable E 6 ∈ lw_gw ∧ (own, is, text) ∈ pm_strs ∧ ∀ w ∈ Bundle.ownAtoms own ic E nms, w ∈ lw_gw ∨ w ∈ pm_spec ∨ pm_der w = true
/-- 'throw new E(text)': new; dup; ldc; invokespecial; athrow -/
theorem pm_threw {k : pm_M} {pc : Nat} {real : Array Slot} {rest : List Value} {E text : String} {nms : List String} {ik is ic sa : Nat} (X : Stand p l e R s m args below meth c T locs cells slots) (hexec : p.tables.exec = Jvm.exec) (hb : c.code = mB k) (hl : l.stackTraces = false)
    (hown : s.vm.findClass (mY k).cls = some m.cls) (hts : ∀ w ∈ lw_gw, w.before args s = true) (htw : pm_tw (mY k).cls ik is ic E text nms) (hsp : ∀ w ∈ pm_spec, w.before args ((T.setVm s.vm).setFrames (.invoking m args :: below)) = true) (hstr : vk_R (mY k).cls is text sa s)
    (hsize : real.size = c.maxLocals) (hout : ∀ x ∈ c.exceptionTable.toList, covers x (pc + 9) = false) (hlocks : meth.locks = false)
    (d0 : decode (mB k) pc = .ok (.new ik, 3)) (d3 : decode (mB k) (pc + 3) = .ok (.dup, 1)) (d4 : decode (mB k) (pc + 4) = .ok (.ldc is, 2)) (d6 : decode (mB k) (pc + 6) = .ok (.invokespecial ic, 3)) (d9 : decode (mB k) (pc + 9) = .ok (.athrow, 1))
    (hRf : nms.length + 3 < R.frames) (hRl : (rest.map fun v => v.category).sum + (13 * (nms.length + 1) + 43) ≤ R.locals) (hRc : cells + 1 ≤ R.cells) (hRs : slots + 6 ≤ R.slots) :
    ∃ (t : State) (ce : Cell), Steps p.tables e below (T.setTop (F0 m pc real rest)) t ∧ t.status = .running ∧ Ended t below (.threw T.heap.size) ∧ t.heap[T.heap.size]? = some ce ∧ ce.vm = .none ∧ s.vm.findClass E = some ce.cls ∧ s.WarmedH t.vm ∧ s.sameButNew ({ t with vm := s.vm } : State) locs (cells + 1) (slots + 6) ∧ T.heap.size ≤ t.heap.size ∧ ∀ q : Nat, q < T.heap.size → t.heap[q]? = T.heap[q]? := by
  obtain ⟨t1, t2, t3, t4, t5, t6, t7⟩ := htw
  have htr : e.platform.stackTraces = false := (show e.platform.stackTraces = l.stackTraces by rw [X.admits.platform]).trans hl
  have Y := pm_anew X (R' := { frames := R.frames, locals := R.locals, cells := 1, slots := 6 }) (Nat.le_refl _) (Nat.le_refl _) hRc hRs
  generalize hs1 : (T.setVm s.vm).setFrames (.invoking m args :: below) = s1 at Y hsp
  have hvm : s1.vm = s.vm := by rw [← hs1]; rfl
  have hhp : s1.heap = T.heap := by rw [← hs1]; rfl
  have hW1 : s.WarmedH s1.vm := by rw [hvm]; exact State.WarmedH.refl s
  have hts1 : ∀ w ∈ lw_gw, w.before args s1 = true := fun w hw => word_at hW1 (pm_gw_good w hw).2 (hts w hw)
  have hown1 : s1.vm.findClass (mY k).cls = some m.cls := by rw [hvm]; exact hown
  have hat : ∀ w ∈ Bundle.ownAtoms (mY k).cls ic E nms, w.before args s1 = true := fun w hw => (t7 w hw).elim (hts1 w) (fun z => z.elim (hsp w) (pm_der_at hts1))
  have hstr1 : vk_R (mY k).cls is text sa s1 := vk_R.same hvm hstr
  have K : W p l e { frames := R.frames, locals := R.locals, cells := 1, slots := 6 } s1 m args below meth c T.heap [] 0 0 (fun t => ∃ ce : Cell, t.status = .running ∧ Ended t below (.threw T.heap.size) ∧ t.heap[T.heap.size]? = some ce ∧ ce.vm = .none ∧ s1.vm.findClass E = some ce.cls ∧ s1.WarmedH t.vm ∧ s1.sameButNew ({ t with vm := s1.vm } : State) [] 1 6) (F0 m pc real rest) := by
    refine W.newc hexec hb hown1 (hts1 _ t3) (hts1 _ t5) (hts1 _ t4) rfl d0 (Nat.le_refl _) (Nat.le_refl _) (fun cC kC g1 g2 g3 g4 => ?_)
    refine lv_dup hexec hb d3 rfl ?_
    refine va_ldcS hexec hb hown1 hstr1 d4 ?_
    intro T2 hT2 X2
    have hcell : T2.heap[T.heap.size]? = some (freshCell cC kC) := by
      rw [hT2, Array.getElem?_push_size]
    obtain ⟨U, u1, u2, u3, u4, u5, ce, u6, u7⟩ := X2.ctorThrowS hexec htr hown1 t1 t2 hat (fun x hx => by cases hx) g1 g2 hcell (by rw [hhp]; exact Nat.le_refl _) (msg := .ref sa) rfl (g := F0 m (pc + 6) real (.ref sa :: .ref T.heap.size :: .ref T.heap.size :: rest)) rfl hsize rfl rfl rfl (by rw [hb]; exact d6) (by rw [hb]; exact d9) hout hRf (by show 2 * 0 + _ + _ ≤ _; simp only [List.map_cons, List.sum_cons]; rw [show (Value.ref T.heap.size).category = 1 from rfl]; omega) hlocks
    exact ⟨U, u1, ce, u2, u3, u6, u7.vm, u7.cls, u4, u5⟩
  obtain ⟨t, a1, ce, b1, b2, b3, b4, b5, b6, b7⟩ := K T rfl Y
  have hw := pm_whole b7
  rw [hhp] at hw
  rw [hvm] at b5 b7
  refine ⟨t, ce, a1, b1, b2, b3, b4, b5, State.WarmedH.of_rootvm hvm.symm b6, ?_, hw.1, hw.2⟩
  rw [← hs1] at b7
  have h2 := X.same.trans (pm_unframe b7)
  rw [List.append_nil] at h2
  exact h2
end PMX
