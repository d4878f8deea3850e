section PMZ
variable {p : Program} {l : Launch} {e : Env} {R : Room} {s : State} {m : MethodId} {args : Array Value} {below : List Frame} {meth : Method} {c : Code} {H : Heap} {locs : List Loc} {cells slots : Nat}
variable {y : MethodName} {bytes cc : ByteArray} {maxL nL mc ms n index : Nat} {ret : Option FieldType} {ws : List Cond} {rm : Room} {Pc : Array Value → State → Prop} {QX : Array Value → State → Outcome → State → Prop} {free : Addr → Prop} {Ts : List Cond} {own C : String} {b : Addr} {As rest : List Value} {g : JFrame}
/-- a call that has thrown q -/
def pm_xRun (p : Program) (l : Launch) (e : Env) (R : Room) (s : State) (m : MethodId) (args : Array Value) (below : List Frame) (meth : Method) (c : Code) (H : Heap) (locs : List Loc) (cells slots mc ms : Nat) (g : JFrame) (rest : List Value) (Qa : State → Outcome → State → Prop) (free : Addr → Prop) : Prop :=
  ∀ T : State, T.heap = H → Stand p l e R s m args below meth c T locs cells slots → ∃ (q : Addr) (st₀ t T' : State) (L : List Loc), st₀.heap = H ∧ s.vm.Alike st₀.vm ∧ Stand p l e R s m args below meth c T' (locs ++ L) (cells + mc) (slots + ms) ∧ (∀ z ∈ L, free z.base) ∧ T'.heap = t.heap ∧ T'.vm = t.vm ∧ Qa st₀ (.threw q) t ∧
    Steps p.tables e below (T.setTop g) ((T'.setTop { g with stack := rest }).pushFrame (.throwing q))
theorem pm_runVX (S : CallFix p m c cc nL s args Ts own) (hM : MetFree l y (headSpec ws rm) Pc (fun _ _ _ _ _ => True) QX) (cw : CallW R s args own C index y bytes maxL ret ws rm mc ms n) (hp : PreV s H C b Pc As)
    (hQ : ∀ a st o t, QX a st o t → ∃ q L, o = .threw q ∧ st.WarmedH t.vm ∧ st.sameButNew ({ t with vm := st.vm } : State) L mc ms ∧ ∀ z ∈ L, free z.base)
    (hg : g.method = m) (hn : As.length = n) (hsize : g.locals.size = nL) (hstack : g.stack = As.reverse ++ .ref b :: rest) (hW : 2 * g.monitorRoom + (rest.map fun v => v.category).sum ≤ 8) (hdg : decode cc g.pc = .ok (.invokevirtual index, 3)) (hf : cells + mc ≤ R.cells ∧ slots + ms ≤ R.slots) :
    pm_xRun p l e R s m args below meth c H locs cells slots mc ms g rest (QX (Value.ref b :: As).toArray) free := by
  obtain ⟨⟨hrc, hrs, hfr, hlo, hws, hcw, hcode, hini, hy, hlen, hl⟩, hinst, hsel⟩ := cw
  obtain ⟨hx, hb, hml, ho, -⟩ := S
  obtain ⟨hbl, ⟨cellB, hcB, hoB, hclB⟩, hPc⟩ := hp
  intro T hT X
  subst hb
  obtain ⟨mk, methM, hnamed, hmethM, hstM, habM⟩ := Cond.instanceMethod_spec hinst
  obtain ⟨methM', cM, hmethM', -, -, -, -, -, -, hsigM⟩ := Cond.code_spec hnamed hcode
  cases hmethM.symm.trans hmethM'
  obtain ⟨c2, r2, m2, q1, q2, q3, q4, kP, hkP, hkPi⟩ := Cond.selects_spec hsel
  cases hclB.symm.trans q1
  cases (State.methodFound?_of_named hnamed hy).symm.trans q2
  cases hnamed.symm.trans q3
  have hselP : selectMethod e.platform s.vm cellB.cls mk = .method mk := by rw [Launch.admits_selectMethod X.admits]; exact q4
  obtain ⟨vm₁, X₁, hstep₁⟩ := X.invokevirtual hx ho hl hnamed hmethM hstM hkP hkPi hy (a := b) (cell := cellB) (by rw [hT]; exact hcB)
    (fun z h => by rw [h] at hoB; cases hoB) hselP hmethM habM hkP hkPi (g := g) hg (argsL := As) (rest := rest) (hn.trans (hlen _ hsigM)) hstack hdg
  obtain ⟨q, t, T', L, hq, X', hL, e1, e2, st⟩ := pm_backX (Wt := 8) (mc := mc) (ms := ms) (free := free) (bytes := bytes) (maxL := maxL) (ret := ret) hM hfr hlo X₁ (g := { g with stack := rest }) hg (hsize.trans hml.symm) hdg hW (X₁.named hnamed) (a := (Value.ref b :: As).toArray)
    (atoms_intro fun w hw => hws w hw _ _ X₁.warmed) (hws _ hcw _ _ X₁.warmed) (word_at X₁.warmed (Or.inl (by first | rfl | simp [Cond.onTables, Cond.keeps, Cond.steady])) hini) (by rw [show (headSpec ws rm).room.cells = mc from hrc]; exact hf.1) (by rw [show (headSpec ws rm).room.slots = ms from hrs]; exact hf.2)
    (hbl _ _ _ _ (hPc _ hT X₁.warmed)) (fun o t h => hQ _ _ o t h)
  exact ⟨q, (T.setVm vm₁).calling { g with stack := rest } mk (Value.ref b :: As).toArray, t, T', L, hT, X₁.warmed.alike, X', hL, e1, e2, hq, hstep₁ _ fun acts => by rw [doInvoke_state]; exact st⟩
theorem pm_runSX (S : CallFix p m c cc nL s args Ts own) (hM : MetFree l y (headSpec ws rm) Pc (fun _ _ _ _ _ => True) QX) (cw : CallB R s args own index y bytes maxL ret ws rm mc ms n ∧ (Cond.static y).before args s = true) (hp : PreS s H Pc As)
    (hQ : ∀ a st o t, QX a st o t → ∃ q L, o = .threw q ∧ st.WarmedH t.vm ∧ st.sameButNew ({ t with vm := st.vm } : State) L mc ms ∧ ∀ z ∈ L, free z.base)
    (hg : g.method = m) (hn : As.length = n) (hsize : g.locals.size = nL) (hstack : g.stack = As.reverse ++ rest) (hW : 2 * g.monitorRoom + (rest.map fun v => v.category).sum ≤ 8) (hdg : decode cc g.pc = .ok (.invokestatic index, 3)) (hf : cells + mc ≤ R.cells ∧ slots + ms ≤ R.slots) :
    pm_xRun p l e R s m args below meth c H locs cells slots mc ms g rest (QX As.toArray) free := by
  obtain ⟨⟨hrc, hrs, hfr, hlo, hws, hcw, hcode, hini, hy, hlen, hl⟩, hstat⟩ := cw
  obtain ⟨hx, hb, hml, ho, -⟩ := S
  obtain ⟨hbl, hPc⟩ := hp
  intro T hT X
  subst hb
  obtain ⟨mk, hnamed⟩ := Cond.code_named hcode
  obtain ⟨methM, cM, hmethM, -, -, -, -, -, -, hsigM⟩ := Cond.code_spec hnamed hcode
  have hstatic : methM.isStatic = true := Cond.static_spec hnamed hmethM hstat
  obtain ⟨kP, hkP, -⟩ := className_of_methodNamed hnamed
  have hinitP : kP.init = .initialized := Cond.initialized_spec (findClass_of_methodNamed hnamed) hkP hini
  obtain ⟨vm₁, X₁, hstep₁⟩ := X.invokestatic hx ho hl hnamed hmethM hstatic hkP hinitP hy (g := g) hg (argsL := As) (rest := rest) (hn.trans (hlen _ hsigM)) hstack hdg
  obtain ⟨q, t, T', L, hq, X', hL, e1, e2, st⟩ := pm_backX (Wt := 8) (mc := mc) (ms := ms) (free := free) (bytes := bytes) (maxL := maxL) (ret := ret) hM hfr hlo X₁ (g := { g with stack := rest }) hg (hsize.trans hml.symm) hdg hW (X₁.named hnamed) (a := As.toArray)
    (atoms_intro fun w hw => hws w hw _ _ X₁.warmed) (hws _ hcw _ _ X₁.warmed) (word_at X₁.warmed (Or.inl (by first | rfl | simp [Cond.onTables, Cond.keeps, Cond.steady])) hini) (by rw [show (headSpec ws rm).room.cells = mc from hrc]; exact hf.1) (by rw [show (headSpec ws rm).room.slots = ms from hrs]; exact hf.2)
    (hbl _ _ _ _ (hPc _ hT X₁.warmed)) (fun o t h => hQ _ _ o t h)
  exact ⟨q, (T.setVm vm₁).calling { g with stack := rest } mk As.toArray, t, T', L, hT, X₁.warmed.alike, X', hL, e1, e2, hq, hstep₁ _ fun acts => by rw [doInvoke_state]; exact st⟩
/-- the frame g, with q thrown over it -/
def pm_WX (p : Program) (l : Launch) (e : Env) (R : Room) (s : State) (m : MethodId) (args : Array Value) (below : List Frame) (meth : Method) (c : Code) (H : Heap) (locs : List Loc) (cells slots : Nat) (Q : State → Prop) (g : JFrame) (q : Addr) : Prop :=
  ∀ T : State, T.heap = H → Stand p l e R s m args below meth c T locs cells slots → ∃ t, Steps p.tables e below ((T.setTop g).pushFrame (.throwing q)) t ∧ Q t
variable {D : va_G} {G : pm_G} {A : Nat → Prop} {ad : Nat → Nat} {σ σ2 : pm_S} {E : String} {Q : State → Prop} {pc : Nat} {real : Array Slot} {st0 : List Value} {a : Array Value} {Qc : Array Value → State → Outcome → State → Prop} {XC : String → State → State → Prop}
theorem pm_XR_Q {A1 : Nat → Prop} (a : Array Value) (st : State) (o : Outcome) (t : State) (h : pm_XR D G A1 ad σ σ2 E mc ms a st o t) : ∃ q L, o = .threw q ∧ st.WarmedH t.vm ∧ st.sameButNew ({ t with vm := st.vm } : State) L mc ms ∧ ∀ z ∈ L, A1 z.base := by
  obtain ⟨q, ce, L, h1, -, -, -, -, h6, h7, h8⟩ := h
  exact ⟨q, L, h1, h6, h7, h8⟩
theorem pm_outW (hr : pm_xRun p l e R s m args below meth c H locs cells slots mc ms (F0 m pc real st0) rest (pm_XR D G (va_A (pm_ws G ad σ) H.size) ad σ σ2 E mc ms a) (va_A (pm_ws G ad σ) H.size)) (hS : va_S A s.heap H locs) (hA1 : ∀ q, va_A (pm_ws G ad σ) H.size q → A q)
    (kk : ∀ (ad' : Nat → Nat) (H1 : Heap) (locs1 : List Loc) (q : Addr) (ce : Cell), pm_agree ad ad' σ.1 → (∀ i, σ2.1 ≤ i → ad' i = ad i) → σ.1 ≤ σ2.1 → (∀ c, 1000 ≤ c → σ2.2.2.1 c = σ.2.2.1 c) → va_P D pm_vw (pm_ws G ad' σ2) H1 → va_D A (pm_ws G ad' σ2) → va_S A s.heap H1 locs1 → pm_wf σ2 → H1[q]? = some ce → ce.vm = .none → s.vm.findClass E = some ce.cls → pm_WX p l e R s m args below meth c H1 locs1 (cells + mc) (slots + ms) Q (F0 m pc real rest) q) : W p l e R s m args below meth c H locs cells slots Q (F0 m pc real st0) := by
  intro T hT X
  obtain ⟨q, st₀, t, T', L, h0, hal, X', hL, e1, e2, ⟨q9, ce, L9, hq9, ⟨ad', q1, q2, q3, q4, q5, q6, q7⟩, hce, hcv, hcl, -, -, -⟩, st⟩ := hr T hT X
  cases hq9
  obtain ⟨hz, hk⟩ := q5
  rw [h0] at hz hk
  have hcut : pm_agree ad' (pm_cut ad ad' σ2.1) σ2.1 := pm_cut_lo
  have hag : pm_agree ad (pm_cut ad ad' σ2.1) σ.1 := fun i hi => (hcut i (Nat.lt_of_lt_of_le hi q1)).trans (q2 i hi)
  have hS1 : va_S A s.heap T'.heap (locs ++ L) := ⟨Nat.le_trans hS.1 (by rw [e1]; exact hz), fun q h1 h2 => by rw [e1, hk q (Nat.lt_of_lt_of_le h1 hS.1) (fun z => h2 (hA1 q z))]; exact hS.2.1 q h1 h2, fun q hq => by
      rcases List.mem_append.mp hq with h | h
      · exact hS.2.2 q h
      · exact hA1 _ (hL q h)⟩
  obtain ⟨t2, a1, b1⟩ := kk (pm_cut ad ad' σ2.1) T'.heap (locs ++ L) q ce hag (fun i hi => by simp [pm_cut, Nat.not_lt.mpr hi]) q1 q7 (by rw [e1, pm_ws_ad q6 hcut]; exact q3) (by rw [pm_ws_ad q6 hcut]; exact q4.weaken (fun _ q _ h => hA1 q.1 h)) hS1 q6 (by rw [e1]; exact hce) hcv (by rw [← hal.findClass]; exact hcl) T' rfl X'
  exact ⟨t2, st.trans a1, b1⟩
/-- nobody here catches it -/
theorem pm_leave {ce : Cell} {q : Addr} {mc ms : Nat} (hout : ∀ x ∈ c.exceptionTable.toList, covers x pc = false) (hlocks : meth.locks = false) (hcell : H[q]? = some ce) (hv : ce.vm = .none) (hcl : s.vm.findClass E = some ce.cls)
    (hx : ∀ t : State, t.heap = H → s.vm.Alike t.vm → XC E s t) (hf : ∀ z ∈ locs, free z.base) (hc : cells ≤ mc) (hs : slots ≤ ms) :
    pm_WX p l e R s m args below meth c H locs cells slots (pm_XQ below XC s mc ms free E) (F0 m pc real rest) q := by
  intro T hT X
  obtain ⟨st1, hrun, hend, hW, hsm⟩ := X.leaveThrown q (g := F0 m pc real rest) rfl rfl rfl hout hlocks
  refine ⟨_, st1, q, ce, locs, hrun, hend, hx _ hT hW.alike, ?_, hv, hcl, hW, hsm.mono hc hs, hf⟩
  show T.heap[q]? = some ce
  rw [hT]
  exact hcell
/-- it is caught at x's handler -/
theorem pm_catch {own name : String} {ce : Cell} {q : Addr} (hown : s.vm.findClass own = some m.cls) (pre : List ExceptionTableEntry) (x : ExceptionTableEntry) (suf : List ExceptionTableEntry) (hsplit : c.exceptionTable.toList = pre ++ x :: suf)
    (hpass : ∀ z ∈ pre, covers z pc = false ∨ (z.catchType ≠ 0 ∧ ∃ nm : String, (Cond.classLink own z.catchType nm).before args s = true ∧ va_Nc E nm s)) (hx : covers x pc = true) (h0 : x.catchType ≠ 0)
    (hlink : (Cond.classLink own x.catchType name).before args s = true) (hcast : (Cond.castable E name).before args s = true) (hcell : H[q]? = some ce) (hv : ce.vm = .none) (hcl : s.vm.findClass E = some ce.cls)
    (kk : W p l e R s m args below meth c H locs cells slots Q (F0 m x.handlerPc real [.ref q])) : pm_WX p l e R s m args below meth c H locs cells slots Q (F0 m pc real rest) q := by
  intro T hT X
  have hpl : e.platform.magicAccessors = ({} : Platform).magicAccessors := by rw [X.admits.platform]
  obtain ⟨c3, c4, hc3, hc4, hasg⟩ := Cond.castable_spec hcast
  cases Option.some.inj (hc3.symm.trans hcl)
  obtain ⟨c5, hc5, hcl5⟩ := Cond.classLink_spec hown hlink e.platform hpl
  cases Option.some.inj (hc4.symm.trans hc5)
  have hpass' : ∀ z ∈ pre, covers z pc = false ∨ (z.catchType ≠ 0 ∧ ∃ cT, s.vm.ClassLinks e.platform m.cls z.catchType cT ∧ s.vm.assignable ce.cls cT = false) := fun z hz => by
    rcases hpass z hz with h | ⟨hz0, nm, hl1, hn1⟩
    · exact Or.inl h
    · obtain ⟨c6, hc6, hcl6⟩ := Cond.classLink_spec hown hl1 e.platform hpl
      obtain ⟨a8, b8, h1, h2, h3⟩ := hn1
      cases Option.some.inj (h1.symm.trans hcl)
      cases Option.some.inj (h2.symm.trans hc6)
      exact Or.inr ⟨hz0, _, hcl6, h3⟩
  obtain ⟨vm', X', st⟩ := X.thenCaughtThrough q (g := F0 m pc real rest) rfl (Steps.refl _) (by rw [hT]; exact hcell) (by rw [hv]; rfl) (by obtain ⟨k9, h9, -⟩ := Vm.findClass_spec hcl; exact ⟨k9, h9⟩) pre x suf hsplit hpass' hx (Or.inr ⟨h0, c4, hcl5, hasg⟩)
  obtain ⟨t, a1, b1⟩ := kk (T.setVm vm') hT X'
  exact ⟨t, st.trans a1, b1⟩
/-- a static method with handlers of its own, which returns -/
theorem pm_runSW {hh : List (Nat × Nat × Nat × Nat)} {Pc : Array Value → State → Prop} {As rest : List Value} (S : CallFix p m c cc nL s args Ts own) (hM : Met l y ws rm Pc Qc mc ms free)
    (cw : (rm.cells = mc ∧ rm.slots = ms ∧ rm.frames + 1 ≤ R.frames ∧ 8 + (maxL + 11) + rm.locals ≤ R.locals) ∧ (∀ w ∈ ws, ∀ (a' : Array Value) (U : State), s.WarmedH U.vm → w.before a' U = true) ∧ Cond.codeWith y bytes maxL ret hh ∈ ws ∧ (Cond.codeWith y bytes maxL ret hh).before args s = true ∧ (Cond.initialized y.cls).before args s = true ∧ (y.cls ≠ "java/lang/invoke/MethodHandle" ∧ y.cls ≠ "java/lang/invoke/VarHandle") ∧ pm_np y n ∧ (Cond.methodLink own index y).before args s = true ∧ (Cond.static y).before args s = true) (hp : PreS s H Pc As)
    (hg : g.method = m) (hn : As.length = n) (hsize : g.locals.size = nL) (hstack : g.stack = As.reverse ++ rest) (hW : 2 * g.monitorRoom + (rest.map fun v => v.category).sum ≤ 8) (hdg : decode cc g.pc = .ok (.invokestatic index, 3)) (hf : cells + mc ≤ R.cells ∧ slots + ms ≤ R.slots) :
    va_Run p l e R s m args below meth c H locs cells slots mc ms g rest (Qc As.toArray) free := by
  obtain ⟨⟨hrc, hrs, hfr, hlo⟩, hws, hcw, hcode, hini, hy, hnp, hl, hstat⟩ := cw
  have hK : Back l R p e below s args y 3 8 (PreOf R mc ms Pc) (PostOf Qc mc ms free) := va_backW (hh := hh) (bytes := bytes) (maxL := maxL) (ret := ret) hM hp.1 hrc hrs hfr hlo hws hcw (fun a' U hW => word_at hW (Or.inl (by first | rfl | simp [Cond.onTables, Cond.keeps, Cond.steady])) hini)
  obtain ⟨hx, hb, hml, ho, -⟩ := S
  intro T hT X
  subst hb
  obtain ⟨mk, methM, cM, hnamed, hmethM, -, -, -, -, -, -, hsigM⟩ := Cond.codeWith_spec hcode
  have hstatic : methM.isStatic = true := Cond.static_spec hnamed hmethM hstat
  obtain ⟨kP, hkP, -⟩ := className_of_methodNamed hnamed
  have hinitP : kP.init = .initialized := Cond.initialized_spec (findClass_of_methodNamed hnamed) hkP hini
  have hlen : As.length = methM.sig.parameters.length := by
    unfold pm_np at hnp
    rw [hsigM] at hnp
    exact hn.trans (Option.some.inj hnp).symm
  obtain ⟨vm₁, X₁, hstep₁⟩ := X.invokestatic hx ho hl hnamed hmethM hstatic hkP hinitP hy (g := g) hg (argsL := As) (rest := rest) hlen hstack hdg
  obtain ⟨v, ⟨U', l2, c2, s2⟩, X', ⟨g', mk', t, L, e1, e2, hq, h1, hL, h2, h3⟩, hsteps⟩ := hK m meth c ⟨T.setVm vm₁, locs, cells, slots⟩ { g with stack := rest } (.invokestatic index) mk As.toArray X₁ hg (hsize.trans hml.symm) hdg hW (X₁.named hnamed) ⟨hf.1, hf.2, hp.2 (T.setVm vm₁) hT X₁.warmed⟩
  dsimp only [Pt.U, Pt.locs, Pt.cells, Pt.slots] at X' e1 e2 h1 h2 h3 hsteps
  subst h1; subst h2; subst h3
  exact ⟨v, (T.setVm vm₁).calling g' mk' As.toArray, t, U', L, hT, X', hL, e1, e2, hq, fun target h => hstep₁ _ fun acts => by rw [doInvoke_state]; exact hsteps.trans h⟩
theorem pm_metW {d : Nat} {k2 : pm_M} {As : List Value} {σ σ2 : pm_S} {r : Option Value} {ad : Nat → Nat} (sz : Nat) (hok : pm_okH k2) (hlt : l.stackTraces = false) (hlen : As.length ≤ mL k2) (hcat : pm_cat1 As = true) (hwf : pm_wf σ) (h : pm_sound l D G d k2 0 (pm_en As (mL k2)) [] 0 0 σ (.inl r, σ2)) :
    Met l (mY k2) (pm_wsH k2) (pm_rm d k2) (va_Pc (As.map (pv ad)) (pm_pre0 D G ad σ sz)) (pm_Qn D G (va_A (pm_ws G ad σ) sz) ad σ (.inl r, σ2)) (mC k2) (mS k2) (va_A (pm_ws G ad σ) sz) := by
  obtain ⟨g2, g3, g4, g5, g6⟩ := hok
  refine va_MetW (cc := mB k2) (maxL := mL k2) (ret := mT k2) (hh := mH k2) g2 rfl ?_
  intro p e s m args below meth c s₁ B hml hv
  obtain ⟨rfl, hsz, hP, hD, hV⟩ := hv
  have hts := atoms_spec (ws := pm_wsH k2) B.pre
  have hown : s.vm.findClass (mY k2).cls = some m.cls := findClass_of_methodNamed B.named
  have hex : c.exceptionTable.toList = tableOf (mH k2) := by
    obtain ⟨m9, meth9, c9, hn9, h1, h2, -, -, h6, -⟩ := Cond.codeWith_spec (hts _ List.mem_cons_self)
    cases Option.some.inj (hn9.symm.trans B.named)
    cases Option.some.inj (h1.symm.trans B.method)
    cases Option.some.inj (h2.symm.trans (Stand.of_body B).code)
    rw [← h6, table_eq]
  subst hsz
  rw [lg_entry_eq]
  exact h p e _ s m _ below meth c s.heap [] (va_A (pm_ws G ad σ) s.heap.size) ad _ _ (pm_Qx D G (va_A (pm_ws G ad σ) s.heap.size) ad σ (.inl r, σ2)) _ ⟨B.exec, B.bytes, B.returns, hml, hown, fun w hw => hts w (List.mem_cons_of_mem _ hw), B.notSynchronized, hex, fun q hq => Or.inr hq, ⟨Nat.le_refl _, Nat.le_refl _, Nat.le_refl _, Nat.le_refl _⟩, fun z => (name_of_methodNamed B.named B.method).1.trans z, hV, hlt⟩ (fun z => absurd z g6) (pm_en_loc hcat hlen) hP hD va_S.rf hwf (fun _ z => z) pm_end_Q
theorem pm_cwW {d : Nat} {k k2 : pm_M} {idx n : Nat} (hts : ∀ w ∈ lw_gw, w.before args s = true) (hR : d + 1 ≤ R.frames ∧ 35 * (d + 1) ≤ R.locals ∧ mC k ≤ R.cells ∧ mS k ≤ R.slots) (hok : pm_okH k2) (hv : pm_sl (mY k).cls idx (mY k2)) (hn : pm_np (mY k2) n) :
    ((pm_rm d k2).cells = mC k2 ∧ (pm_rm d k2).slots = mS k2 ∧ (pm_rm d k2).frames + 1 ≤ R.frames ∧ 8 + (mL k2 + 11) + (pm_rm d k2).locals ≤ R.locals) ∧ (∀ w ∈ pm_wsH k2, ∀ (a' : Array Value) (U : State), s.WarmedH U.vm → w.before a' U = true) ∧ Cond.codeWith (mY k2) (mB k2) (mL k2) (mT k2) (mH k2) ∈ pm_wsH k2 ∧ (Cond.codeWith (mY k2) (mB k2) (mL k2) (mT k2) (mH k2)).before args s = true ∧ (Cond.initialized (mY k2).cls).before args s = true ∧ ((mY k2).cls ≠ "java/lang/invoke/MethodHandle" ∧ (mY k2).cls ≠ "java/lang/invoke/VarHandle") ∧ pm_np (mY k2) n ∧ (Cond.methodLink (mY k).cls idx (mY k2)).before args s = true ∧ (Cond.static (mY k2)).before args s = true := by
  obtain ⟨-, h2, h3, h4, -⟩ := hok
  have hr := pm_room (k := k) hR h4
  exact ⟨⟨rfl, rfl, hr.1, hr.2⟩, pay_in hts (pm_goodH h3), List.mem_cons_self, hts _ h3, hts _ hv.2.2, h2, hn, hts _ hv.1, hts _ hv.2.1⟩
theorem pm_spec_at {U : State} (h : pm_env D G A U) : ∀ w ∈ pm_spec, w.before args U = true := by
  obtain ⟨-, h2, h3, -⟩ := h
  intro w hw
  simp only [pm_spec, List.mem_cons, List.not_mem_nil, or_false] at hw
  rcases hw with rfl | rfl | rfl | rfl
  · exact pm_zq_ref h2
  · exact pm_zq_ref h3
  · exact pm_zq_lays h2
  · exact pm_zq_lays h3
theorem pm_fm {α β : Type} {f g : α → Option β} : ∀ (l : List α), (∀ a ∈ l, f a = g a) → l.filterMap f = l.filterMap g
  | [], _ => rfl
  | a :: l, h => by
    rw [List.filterMap_cons, List.filterMap_cons, h a List.mem_cons_self, pm_fm l (fun b hb => h b (List.mem_cons_of_mem _ hb))]
theorem pm_lv_ad {ad ad' : Nat → Nat} {n : Nat} {ls : List (Option Value)} {st : List Value} (h : pm_agree ad ad' n) (hk : ad' 1000 = ad 1000) (hl : pm_lt n ls st = true) : pm_lv ad' ls = pm_lv ad ls := by
  unfold pm_lv
  simp only [pm_lt, Bool.and_eq_true, List.all_eq_true] at hl
  refine pm_fm _ (fun q hq => ?_)
  obtain ⟨o, i⟩ := q
  cases o with
  | none => rfl
  | some v =>
    have hm : some v ∈ ls := List.mem_of_getElem? (List.mem_zipIdx_iff_getElem?.mp hq)
    have := hl.1 _ hm
    simp only [Option.map_some]
    rw [pm_pvV h hk this]
/-- the nest mate's constructor -/
def pm_nl (own : String) (idx : Nat) (y : MethodName) : Prop := pm_nest = .methodLinkNest own idx y "ElasticNets" ∧ Cond.instanceMethod y ∈ lw_gw ∧ Cond.initialized y.cls ∈ lw_gw ∧ y.name = "<init>"
theorem pm_cwN {d : Nat} {k k2 : pm_M} {idx n : Nat} (hts : ∀ w ∈ lw_gw, w.before args s = true) (hR : d + 1 ≤ R.frames ∧ 35 * (d + 1) ≤ R.locals ∧ mC k ≤ R.cells ∧ mS k ≤ R.slots) (hok : pm_ok k2) (hv : pm_nl (mY k).cls idx (mY k2)) (hn : pm_np (mY k2) n) (hT : mT k2 = none) (hz : va_Nw pm_nest s) :
    va_CN R s args (mY k).cls idx (mY k2) "ElasticNets" (mB k2) (mL k2) none (pm_wsm k2) (pm_rm d k2) (mC k2) (mS k2) n ∧ (mY k2).name = "<init>" ∧ (Cond.instanceMethod (mY k2)).before args s = true := by
  obtain ⟨-, -, h2, h3, h4, -⟩ := hok
  exact ⟨va_cnB n hts (pm_good h3) (by unfold pm_wsm; rw [hT]) rfl rfl (hv.1 ▸ hz) (hts _ hv.2.2.1) ⟨h2.1, h2.2, hn⟩ (pm_room (k := k) hR h4), hv.2.2.2, hts _ hv.2.1⟩
end PMZ
