section PMY
variable {p : Program} {l : Launch} {e : Env} {R : Room} {s : State} {m : MethodId} {args : Array Value} {below : List Frame} {meth : Method} {c : Code} {T : State} {locs : List Loc} {cells slots : Nat}
/-- what a callee that throws leaves behind -/
def pm_XR (D : va_G) (G : pm_G) (A1 : Nat → Prop) (ad : Nat → Nat) (σ σ2 : pm_S) (E : String) (mc ms : Nat) : Array Value → State → Outcome → State → Prop := fun _ st o t =>
  ∃ (q : Addr) (ce : Cell) (L : List Loc), o = .threw q ∧ (∃ ad' : Nat → Nat, pm_post D G A1 ad σ ad' σ2 st t) ∧ t.heap[q]? = some ce ∧ ce.vm = .none ∧ st.vm.findClass E = some ce.cls ∧ st.WarmedH t.vm ∧ st.sameButNew ({ t with vm := st.vm } : State) L mc ms ∧ ∀ z ∈ L, A1 z.base
theorem pm_metX {D : va_G} {G : pm_G} {d : Nat} {k2 : pm_M} {As : List Value} {σ σ2 : pm_S} {E : String} {ad : Nat → Nat} (sz : Nat) (hok : pm_ok k2) (hlt : l.stackTraces = false) (hlen : As.length ≤ mL k2) (hcat : pm_cat1 As = true) (hwf : pm_wf σ) (h : pm_sound l D G d k2 0 (pm_en As (mL k2)) [] 0 0 σ (.inr E, σ2)) :
    MetFree l (mY k2) (headSpec (pm_wsm k2) (pm_rm d k2)) (va_Pc (As.map (pv ad)) (pm_pre0 D G ad σ sz)) (fun _ _ _ _ _ => True) (pm_XR D G (va_A (pm_ws G ad σ) sz) ad σ σ2 E (mC k2) (mS k2)) := by
  obtain ⟨g1, g2, g3, g4, g5, g6⟩ := hok
  refine MetFree.of_bodyS (code := mB k2) (maxLocals := mL k2) (ret := mT k2) g2 ?_ ?_
  · intro args s m h hn
    obtain ⟨meth, c, h1, h2, h3, h4, h5, h6, -, -⟩ := Cond.code_spec hn (atoms_spec (ws := pm_wsm k2) h _ List.mem_cons_self)
    exact ⟨meth, c, h1, h2, h3, h4, h5, h6⟩
  · intro p e s m args below meth c s₁ B hml hv _
    have hh0 : s₁.heap = s.heap := by rw [B.state]; rfl
    obtain ⟨rfl, hsz, hP, hD, hV⟩ := hv
    have hts := atoms_spec (ws := pm_wsm k2) B.pre
    have hown : s.vm.findClass (mY k2).cls = some m.cls := findClass_of_methodNamed B.named
    have hex : c.exceptionTable.toList = tableOf (mH k2) := by
      obtain ⟨meth9, c9, h1, h2, -, -, -, -, h7, -⟩ := Cond.code_spec B.named (hts _ List.mem_cons_self)
      cases Option.some.inj (h1.symm.trans B.method)
      cases Option.some.inj (h2.symm.trans (Stand.of_body B).code)
      rw [Array.isEmpty_iff.mp h7, g1]
      rfl
    subst hsz
    have K : W p l e (headSpec (pm_wsm k2) (pm_rm d k2)).room s m (As.map (pv ad)).toArray below meth c s.heap [] 0 0 (pm_XQ below (pm_Qx D G (va_A (pm_ws G ad σ) s.heap.size) ad σ (.inr E, σ2)) s (mC k2) (mS k2) (va_A (pm_ws G ad σ) s.heap.size) E) (entryFrame m (As.map (pv ad)).toArray (mL k2)) := by
      rw [lg_entry_eq]
      exact h p e _ s m _ below meth c s.heap [] (va_A (pm_ws G ad σ) s.heap.size) ad _ (pm_Qn D G (va_A (pm_ws G ad σ) s.heap.size) ad σ (.inr E, σ2)) _ _ ⟨B.exec, B.bytes, B.returns, hml, hown, fun w hw => hts w (List.mem_cons_of_mem _ hw), B.notSynchronized, hex, fun q hq => Or.inr hq, ⟨Nat.le_refl _, Nat.le_refl _, Nat.le_refl _, Nat.le_refl _⟩, fun z => (name_of_methodNamed B.named B.method).1.trans z, hV, hlt⟩ (fun z => absurd z g6) (pm_en_loc hcat hlen) hP hD va_S.rf hwf (fun _ z => z) pm_end_Q
    obtain ⟨t, a1, q, ce, L, b1, b2, b3, b4, b5, b6, b7, b8, b9⟩ := K s₁ hh0 (Stand.of_body B)
    exact ⟨t, .threw q, a1, b1, b2, q, ce, L, rfl, b3.2, b4, b5, b6, b7, b8, b9⟩
/-- a call whose callee throws: the caller's frame, with what was thrown over it -/
theorem pm_backX {y : MethodName} {S : Spec} {P : Array Value → State → Prop} {Q : Array Value → State → Outcome → State → Prop} {len Wt mc ms maxL : Nat} {bytes : ByteArray} {ret : Option FieldType} {free : Addr → Prop} (hM : MetFree l y S P (fun _ _ _ _ _ => True) Q)
    (hframes : S.room.frames + 1 ≤ R.frames) (hlocals : Wt + (maxL + 11) + S.room.locals ≤ R.locals) {U : State} {Ls : List Loc} {c0 s0 : Nat} {g : JFrame} {ig : Instr} {mk : MethodId} {a : Array Value}
    (X : Stand p l e R s m args below meth c U Ls c0 s0) (hg : g.method = m) (hsize : g.locals.size = c.maxLocals) (hdg : decode c.code g.pc = .ok (ig, len)) (hW : 2 * g.monitorRoom + (g.stack.map fun v => v.category).sum ≤ Wt) (hn : U.methodNamed? y = some mk)
    (h1 : S.pre.before a U = true) (h2 : (Cond.code y bytes maxL ret).before a U = true) (h3 : (Cond.initialized y.cls).before a U = true) (h4 : c0 + S.room.cells ≤ R.cells) (h5 : s0 + S.room.slots ≤ R.slots) (hP : P a (U.calling g mk a))
    (hQ : ∀ o t, Q a (U.calling g mk a) o t → ∃ q L, o = .threw q ∧ (U.calling g mk a).WarmedH t.vm ∧ (U.calling g mk a).sameButNew ({ t with vm := (U.calling g mk a).vm } : State) L mc ms ∧ ∀ z ∈ L, free z.base) :
    ∃ (q : Addr) (t T' : State) (L : List Loc), Q a (U.calling g mk a) (.threw q) t ∧ Stand p l e R s m args below meth c T' (Ls ++ L) (c0 + mc) (s0 + ms) ∧ (∀ z ∈ L, free z.base) ∧ T'.heap = t.heap ∧ T'.vm = t.vm ∧ Steps p.tables e below (doInvoke e (U.setTop g) [] mk a).1 ((T'.setTop g).pushFrame (.throwing q)) := by
  obtain ⟨methY, cY, hmY, hcY, -, hlY, -, -, -, -⟩ := Cond.code_spec hn h2
  obtain ⟨kY, hkY, -⟩ := className_of_methodNamed hn
  have hinitY : kY.init = .initialized := Cond.initialized_spec (findClass_of_methodNamed hn) hkY h3
  have h : At U g.method c below := by rw [hg]; exact X.here
  have happ : S.appliesLoose y e.platform (U.calling g mk a) = true :=
    Spec.appliesLoose_calling (g := g) h hdg hn hkY hinitY
      (X.room_calling (g := g) (R' := S.room) hsize hmY hcY hframes (by rw [hlY]; omega) h4 h5) h1
  obtain ⟨mid, hmid⟩ := h.above
  have hfr : (U.setTop g).frames = (.java g :: mid) ++ below := by rw [State.frames_setTop' g h.top, hmid]; rfl
  obtain ⟨o, s₂, hsteps, -, hend, hq⟩ := Steps.callFree hM p X.admits X.cas X.clock (acts := []) hfr happ hP trivial
  have hq' : Q a (U.calling g mk a) o s₂ := hq
  obtain ⟨q, L, rfl, hW₂, hsm, hL⟩ := hQ _ _ hq'
  obtain ⟨e2, q2, q3, q4, q5, q6⟩ := id hsm
  have hf₂ : s₂.frames = .throwing q :: (U.setTop g).frames := hend
  have e3 : s₂ = ({ (U.calling g mk a).setFrames s₂.frames with heap := s₂.heap, slotsUsed := s₂.slotsUsed } : State).setVm s₂.vm := by
    have : s₂ = ({ s₂ with vm := (U.calling g mk a).vm } : State).setVm s₂.vm := rfl
    rw [e2] at this
    exact this
  have hW' : U.WarmedH s₂.vm := hW₂
  obtain ⟨g₀, hg0⟩ := Option.isSome_iff_exists.mp h.top
  obtain ⟨r, hr⟩ := State.topJava?_eq_some.mp hg0
  have hs₂ : s₂ = ((({ U with heap := s₂.heap, slotsUsed := s₂.slotsUsed } : State).setVm s₂.vm).setTop g).pushFrame (.throwing q) := by
    have hr' : (({ U with heap := s₂.heap, slotsUsed := s₂.slotsUsed } : State).setVm s₂.vm).frames = .java g₀ :: r := hr
    refine e3.trans ?_
    rw [hf₂, State.calling_eq h.top, State.setFrames_setFrames, State.pushFrame, State.frames_setTop _ hr', State.setTop_of_frames _ hr', State.setFrames_setFrames, State.frames_setTop _ hr]
    rfl
  have hsame : U.sameButNew ({ U with heap := s₂.heap, slotsUsed := s₂.slotsUsed } : State) L mc ms := by
    refine ⟨?_, q2, q3, q4, q5, q6⟩
    obtain ⟨t, ht, -⟩ := State.frames_cons hr
    show ({ U with heap := s₂.heap, slotsUsed := s₂.slotsUsed } : State) = { U.setFrames U.frames with heap := s₂.heap, slotsUsed := s₂.slotsUsed }
    rw [State.setFrames_self ht]
  subst hg
  refine ⟨q, s₂, (({ U with heap := s₂.heap, slotsUsed := s₂.slotsUsed } : State).setVm s₂.vm), L, hq',
    ⟨X.admits, X.cas, X.clock, X.frames, X.room, X.hears, X.method, X.code, (X.here.setHeapUsed s₂.heap s₂.slotsUsed).setVm hW'.alike, X.tail, State.WarmedH.trans X.warmed hW', X.limits, X.bytes, X.same.trans (hsame.setVm s.vm)⟩, hL, rfl, rfl, ?_⟩
  rw [← hs₂]
  exact hsteps
end PMY
