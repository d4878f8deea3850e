/-! THE CLAIM OUT OF ONE WALK OF THE LAW'S BODY. Your part is whole_start (and what it stands on); all else here is the same for every law, but numbers. -/
def R_law : String := "ElasticNetsLaw"
def lw_P (b : Addr) (xs : List Int32) (args : Array Value) (s : State) : Prop := args = #[.ref b] ∧ s.IntsAt b xs ∧ xs.length ≤ 2048 ∧ (Jvm.Cond.and given_1 narrow_1).before args s = true
def lw_Q (_ : Array Value) (s : State) (o : Outcome) (t : State) : Prop := o = .returned (some (.int 1)) ∧ Framed s o t [] 601024 7293034
def lw_Z (below : List Frame) (a : Array Value) (s : State) : State → Prop := fun t => ∃ o, t.status = .running ∧ Ended t below o ∧ lw_Q a s o t
/-- the law's own end, with 1 on the stack, nothing written that was there before, its room as the claim has it -/
theorem lw_ret {p : Program} {l : Launch} {e : Env} {s : State} {m : MethodId} {below : List Frame} {meth : Method} {c : Code} {b : Nat} (hx : p.tables.exec = Jvm.exec) (hb : c.code = code) (hr : meth.sig.returnType = ret) (hlocks : meth.locks = false) {pc : Nat} {H : Heap} {ls : Array Slot} (hdg : decode code pc = .ok (.ireturn, 1)) : W p l e room_1 s m #[Value.ref b] below meth c H [] 601024 7293034 (lw_Z below #[Value.ref b] s) (F0 m pc ls [.int 1]) := by
  intro T hT X
  obtain ⟨fs, hret, hrun, hended, hW, hframe⟩ := X.leave (v := some (.int 1)) (hlocks := hlocks) (fun h => by rw [hr] at h; cases h)
  have hmeth' : T.vm.method? m = some meth := X.method'
  refine ⟨T.setFrames fs, ?_, .returned (some (.int 1)), hrun, hended, rfl, ⟨_, rfl⟩, hW, hframe⟩
  jvm_step X.here [X.here.top, hx, hb, hdg, hmeth', hr, ret, narrow_b1]
  (try refine ⟨rfl, ?_⟩); (try refine ⟨rfl, ?_⟩)
  first | (intro acts; rw [hret _ acts rfl rfl rfl]) | rw [hret _ _ rfl rfl rfl]
  exact Steps.refl _
/-- what holds at the law's entry: the machine, the code, the tables' words (any of lw_tbl by 'hts w (by decide +kernel)'), the script of L ints xs at the cell b, what the Statement gives of the start (any of its parts by flat_of_before) -/
def lw_At (p : Program) (s : State) (m : MethodId) (meth : Method) (c : Code) (b L : Nat) (xs : Nat → Int32) : Prop :=
  p.tables.exec = Jvm.exec ∧ c.code = code ∧ meth.sig.returnType = ret ∧ c.maxLocals = 8 ∧ s.vm.findClass R_law = some m.cls ∧ (∀ w ∈ lw_tbl, w.before #[Value.ref b] s = true) ∧ va_X b L xs s s.heap ∧ b < s.heap.size ∧ meth.locks = false ∧ (Jvm.Cond.and given_1 narrow_1).before #[Value.ref b] s = true ∧ c.exceptionTable.toList = []
/-- the pure start: no cell yet; the script and its length -/
def lw_σ (L : Nat) (xs : Nat → Int32) : pm_S := (0, fun _ _ => none, fun c j => if c = 1000 then xs j else if c = 1001 then Int32.ofNat L else 0, fun _ _ => 0)
/-- what is left: the law's own walk on the pure machine -/
def lw_goal : Prop := ∀ (L : Nat) (xs : Nat → Int32), L ≤ 2048 → ∃ σ' : pm_S, pm_Go 11 m_L_law 0 (pm_en [.ref 1000] 8) [] 0 0 (lw_σ L xs) (.inl (some (.int 1)), σ')
theorem lw_arr {args : Array Value} {s : State} {ty : FieldType} (h : (Cond.arrayClass ty).before args s = true) (hty : ∀ C, ty ≠ .object C) : ∃ cA : ClassId, ArrOfT s cA ty ∧ va_RA s cA ty := by
  obtain ⟨cA, kA, comp, h1, h2, h3⟩ := Cond.arrayClass_spec h
  refine ⟨cA, fun n z => ⟨fun k h => (by cases h), kA, h2, comp, h3⟩, ?_⟩
  cases ty with
  | object C => exact absurd rfl (hty C)
  | _ => exact h1
theorem lw_over {args : Array Value} {s : State} {t : FieldType} (h : (Cond.arrayOver (.array t)).before args s = true) : ∃ cA : ClassId, ArrOfT s cA (.array t) ∧ va_RA s cA (.array t) := by
  simp only [Cond.before, Cond.holds, Cond.value] at h
  cases hf : s.vm.findClass (FieldType.array t).toString with
  | none => rw [hf] at h; simp at h
  | some comp =>
    rw [hf] at h
    simp only [Option.bind_some] at h
    generalize hF : (s.vm.classes.findIdx? fun (x : Class) => match x.kind with | .array component _ => component == comp | _ => false) = fi at h
    cases fi with
    | none => simp at h
    | some cA =>
      simp only [Option.bind_some] at h
      cases hk : s.vm.classes[cA]? with
      | none => rw [hk] at h; simp at h
      | some k =>
        rw [hk] at h
        simp only [Option.map_some] at h
        cases hkk : k.kind with
        | array c2 ty =>
          rw [hkk] at h
          simp at h
          exact ⟨cA, fun n z => ⟨fun k h => (by cases h), k, hk, c2, by rw [hkk, h.1]⟩, h.2⟩
        | _ => rw [hkk] at h; simp at h
theorem pm_ao_args {t : FieldType} {A : Array Value} {U : State} (h : (Cond.arrayOver (.array t)).before A U = true) : va_AOA t U := h
theorem lw_str {args : Array Value} {s : State} {own tx : String} {k : Nat} (h1 : (Cond.stringRef own k tx).before args s = true) (h2 : (Cond.exactly (.string own k) "java/lang/String").before args s = true) : ∃ sa, vk_R own k tx sa s := by
  cases he : (Term.string own k).eval args s none [] s with
  | none => simp [Cond.before, Cond.holds, Cond.value, he] at h2
  | some v =>
    cases v with
    | ref sa => exact ⟨sa, vk_R.of (A := args) h1 he⟩
    | _ =>
      simp only [Cond.before, Cond.holds, Cond.value, he] at h2
      cases hfc : s.vm.findClass "java/lang/String" <;> simp [hfc] at h2
set_option maxRecDepth 20000 in
theorem lw_env {b : Nat} {s : State} (hts : ∀ w ∈ lw_tbl, w.before #[Value.ref b] s = true) (hgv : (Jvm.Cond.and given_1 narrow_1).before #[Value.ref b] s = true) : ∃ (D : va_G) (G : pm_G), pm_env D G (fun q : Nat => s.heap.size ≤ q) s := by
  have htg : ∀ w ∈ lw_gw, w.before #[Value.ref b] s = true := fun w hw => hts w (List.mem_filter.mp hw).1
  have ht1 : ∀ w ∈ tables_1, w.before #[Value.ref b] s = true := fun w hw => hts w (List.mem_append_right _ hw)
  have hfl := flat_of_before _ hgv
  obtain ⟨c0, i0, k0⟩ := u_known (C := cR_E) (T := cF_E) (N := 5) (n := 5) htg pc_E.2.1 (htg (.instantiable cR_E 5) w_17)
  obtain ⟨c1, i1, k1⟩ := u_known (C := cR_D) (T := cF_D) (N := 15) (n := 15) htg pc_D.2.1 (htg (.instantiable cR_D 15) w_25)
  obtain ⟨c2, i2, k2⟩ := u_known (C := cR_P) (T := cF_P) (N := 15) (n := 15) htg pc_P.2.1 (htg (.instantiable cR_P 15) w_105)
  obtain ⟨c3, i3, k3⟩ := u_known (C := cR_C) (T := cF_C) (N := 6) (n := 6) htg pc_C.2.1 (htg (.instantiable cR_C 6) w_169)
  obtain ⟨c4, i4, k4⟩ := u_known (C := cR_A) (T := cF_A) (N := 12) (n := 12) htg pc_A.2.1 (htg (.instantiable cR_A 12) w_195)
  obtain ⟨c5, i5, k5⟩ := u_known (C := cR_M) (T := cF_M) (N := 45) (n := 45) htg pc_M.2.1 (htg (.instantiable cR_M 45) w_696)
  obtain ⟨gI, a1, a2⟩ := lw_arr (htg _ w_103) (fun C h => by cases h)
  obtain ⟨gJ, b1, b2⟩ := lw_arr (htg _ w_167) (fun C h => by cases h)
  have o1 : (Cond.arrayOver (.array .int)).before #[Value.ref b] s = true := ht1 _ (List.mem_of_getElem? (i := 31) (by decide +kernel))
  have o2 : (Cond.arrayOver (.array .long)).before #[Value.ref b] s = true := ht1 _ (List.mem_of_getElem? (i := 112) (by decide +kernel))
  obtain ⟨gII, d1, d2⟩ := lw_over o1
  obtain ⟨gJJ, e1, e2⟩ := lw_over o2
  refine ⟨(fun k => if k = 0 then c0 else if k = 1 then c1 else if k = 2 then c2 else if k = 3 then c3 else if k = 4 then c4 else c5, fun k => if k = 0 then i0 else if k = 1 then i1 else if k = 2 then i2 else if k = 3 then i3 else if k = 4 then i4 else i5), (gI, gJ, gII, gJJ), ⟨?_, ?_⟩, ?_, ?_, ?_, ?_, ?_, ?_, ?_⟩
  · intro c q hq
    match c, hq with
    | 0, hq => cases hq; exact k0
    | 1, hq => cases hq; exact k1
    | 2, hq => cases hq; exact k2
    | 3, hq => cases hq; exact k3
    | 4, hq => cases hq; exact k4
    | 5, hq => cases hq; exact k5
    | k + 6, hq => simp [pm_vw] at hq
  · intro c q hq
    match c, hq with
    | 0, hq => cases hq; exact ⟨a1, a2⟩
    | 1, hq => cases hq; exact ⟨b1, b2⟩
    | 2, hq => cases hq; exact ⟨d1, d2⟩
    | 3, hq => cases hq; exact ⟨e1, e2⟩
    | k + 4, hq => simp [pm_tys] at hq
  · exact pm_zq_of (ht1 _ (List.mem_of_getElem? (i := 303) (by decide +kernel))) (ht1 _ (List.mem_of_getElem? (i := 7) (by decide +kernel))) (hfl _ (by decide +kernel)) (fun a h => Nat.not_le.mpr h)
  · exact pm_zq_of (ht1 _ (List.mem_of_getElem? (i := 305) (by decide +kernel))) (ht1 _ (List.mem_of_getElem? (i := 7) (by decide +kernel))) (hfl _ (by decide +kernel)) (fun a h => Nat.not_le.mpr h)
  · intro q hq
    simp only [pm_strs, List.mem_cons, List.not_mem_nil, or_false] at hq
    rcases hq with rfl | rfl | rfl | rfl | rfl | rfl
    · exact lw_str (ht1 _ (List.mem_of_getElem? (i := 317) (by decide +kernel))) (hfl _ (by decide +kernel))
    · exact lw_str (ht1 _ (List.mem_of_getElem? (i := 353) (by decide +kernel))) (hfl _ (by decide +kernel))
    · exact lw_str (ht1 _ (List.mem_of_getElem? (i := 374) (by decide +kernel))) (hfl _ (by decide +kernel))
    · exact lw_str (ht1 _ (List.mem_of_getElem? (i := 461) (by decide +kernel))) (hfl _ (by decide +kernel))
    · exact lw_str (ht1 _ (List.mem_of_getElem? (i := 619) (by decide +kernel))) (hfl _ (by decide +kernel))
    · exact lw_str (ht1 _ (List.mem_of_getElem? (i := 638) (by decide +kernel))) (hfl _ (by decide +kernel))
  · intro q hq
    simp only [pm_ncs, List.mem_cons, List.not_mem_nil, or_false] at hq
    rcases hq with rfl | rfl | rfl
    · exact va_Nc.of (args := #[Value.ref b]) (hfl _ (by decide +kernel))
    · exact va_Nc.of (args := #[Value.ref b]) (hfl _ (by decide +kernel))
    · exact va_Nc.of (args := #[Value.ref b]) (hfl _ (by decide +kernel))
  · exact (show va_AOA .int s from pm_ao_args o1)
  · exact (show va_AOA .long s from pm_ao_args o2)
  · exact va_Nw.of (A := #[Value.ref b]) rfl (ht1 _ (List.mem_of_getElem? (i := 26) (by decide +kernel)))
/-- from the entry, for every script of at most 2048 ints, the law comes to its end with true -/
theorem whole_start (hgo : lw_goal) {p : Program} {e : Env} {s : State} {m : MethodId} {below : List Frame} {meth : Method} {c : Code} (l : Launch) (hl : l.stackTraces = false) {b L : Nat} {xs : Nat → Int32} (hL : L ≤ 2048) (C0 : lw_At p s m meth c b L xs) : W p l e room_1 s m #[Value.ref b] below meth c s.heap [] 0 0 (lw_Z below #[Value.ref b] s) (entryFrame m ([Value.ref b] : List Value).toArray 8) := by
  obtain ⟨hx, hb, hr, hml, hown, hts, hX, hbl, hlocks, hgv, hext⟩ := id C0
  obtain ⟨D, G, hV⟩ := lw_env hts hgv
  obtain ⟨σ', hg⟩ := hgo L xs hL
  have hs := hg (pm_sound l D G) (so_all l D G)
  have K := hs p e room_1 s m #[Value.ref b] below meth c s.heap [] (fun q : Nat => s.heap.size ≤ q) (fun i => if i = 1000 then b else 0) ((lg_sl [Value.ref b] ++ List.replicate (8 - (lg_sl [Value.ref b]).length) Slot.unset).toArray) (fun _ _ o _ => o = .returned (some (.int 1))) (fun _ _ _ => True) (fun q : Nat => s.heap.size ≤ q)
    ⟨hx, hb, hr, hml, hown, fun w hw => hts w (List.mem_filter.mp hw).1, hlocks, hext, fun q h => h, ⟨by decide, by decide, by decide, by decide⟩, fun z => absurd z (by decide), hV, hl⟩
    (fun _ => ⟨L, rfl, by omega, hX, hbl, Nat.not_le.mpr hbl⟩)
    (pm_en_loc (ad := fun i => if i = 1000 then b else 0) (As := [.ref 1000]) (n := 8) rfl (by decide))
    (fun k q h => by simp [pm_ws, lw_σ] at h) ⟨fun i j p q h => by simp [pm_ws, lw_σ] at h, fun k q h => by simp [pm_ws, lw_σ] at h⟩ va_S.rf ⟨Nat.zero_le _, fun _ _ _ h => by cases h⟩ (fun _ h => h) (fun _ _ _ _ => rfl)
  rw [lg_entry_eq]
  intro T hT X
  obtain ⟨t, a1, o, b1, b2, b3, Ls, b4, b5⟩ := K T hT X
  refine ⟨t, a1, o, b1, b2, b3, b4.1, b4.2.1, ?_⟩
  exact b4.2.2.weaken (fun y hy hlt => absurd hlt (Nat.not_lt.mpr (b5 y hy))) (Nat.le_refl _) (Nat.le_refl _)
-- ===== YOUR PART ENDS =====
set_option maxHeartbeats 4000000 in
theorem lw_walk (hgo : lw_goal) (l : Launch) (hl : l.stackTraces = false) (b : Addr) (xs : List Int32) : MetFree l x (headSpec (Jvm.Cond.code x code maxLocals ret :: tables_1) room_1) (lw_P b xs) (fun _ _ _ _ _ => True) lw_Q := by
  refine MetFree.of_bodyS (code := code) (maxLocals := maxLocals) (ret := ret) (by decide) ?_ ?_
  · intro args s m h hn
    obtain ⟨meth, c, h1, h2, h3, h4, h5, h6, -, -⟩ := Cond.code_spec hn (atoms_spec (ws := Jvm.Cond.code x code maxLocals ret :: tables_1) h _ List.mem_cons_self)
    exact ⟨meth, c, h1, h2, h3, h4, h5, h6⟩
  · intro p e s m args below meth c s₁ B hml0 hP _
    obtain ⟨rfl, hx, hbd, hgv⟩ := hP
    obtain ⟨scr, harrAt, hlist, hof, hsmall⟩ := hx
    obtain ⟨hcb, hkn, -, -⟩ := State.arrayAt?_spec harrAt
    have hown : s.vm.findClass R_law = some m.cls := findClass_of_methodNamed B.named
    have hts0 : ∀ c ∈ (Jvm.Cond.code x code maxLocals ret :: tables_1), c.before #[Value.ref b] s = true := atoms_spec (ws := Jvm.Cond.code x code maxLocals ret :: tables_1) B.pre
    have hts : ∀ w ∈ lw_tbl, w.before #[Value.ref b] s = true := k2_hts_sels lw_privs (fun w hw => hts0 w (List.mem_cons_of_mem _ hw)) lw_privs_ok
    have hml : c.maxLocals = 8 := B.maxLocals_eq (hts0 _ List.mem_cons_self)
    have hext : c.exceptionTable.toList = [] := by
      obtain ⟨meth9, c9, h1, h2, -, -, -, -, h7, -⟩ := Cond.code_spec B.named (hts0 _ List.mem_cons_self)
      cases Option.some.inj (h1.symm.trans B.method)
      cases Option.some.inj (h2.symm.trans (Stand.of_body B).code)
      rw [Array.isEmpty_iff.mp h7]
    have X₀ : Stand p l e room_1 s m #[Value.ref b] below meth c s₁ [] 0 0 := Stand.of_body B
    have hh0 : s₁.heap = s.heap := by rw [B.state]; rfl
    have hsz : scr.slots.size = xs.length := by rw [← Array.length_toList, hlist, List.length_map]
    have hval : ∀ j : Nat, j < xs.length → scr.slots[j]? = some (.int (xs.getD j 0)) := fun j hj => by
      rw [← Array.getElem?_toList, hlist]
      simp [hj]
    have hbl : b < s.heap.size := (Array.getElem?_eq_some_iff.mp hcb).1
    have hX : va_X b xs.length (fun j => xs.getD j 0) s s.heap := ⟨scr, hcb, hof, hkn, hsz, hval⟩
    have K : W p l e room_1 s m #[Value.ref b] below meth c s₁.heap [] 0 0 (lw_Z below #[Value.ref b] s) (entryFrame m ([Value.ref b] : List Value).toArray 8) := by
      rw [hh0]
      exact whole_start hgo l hl hbd ⟨B.exec, B.bytes, B.returns, hml, hown, hts, hX, hbl, B.notSynchronized, hgv, hext⟩
    obtain ⟨t, a1, o, b1, b2, b3⟩ := K s₁ rfl X₀
    exact ⟨t, o, a1, b1, b2, b3⟩
theorem lw_pre_spec {args : Array Value} {s : State} (h : (Jvm.Cond.and given_1 narrow_1).before args s = true) (hr : rest_1_c.before args s = true) : ∃ (b : Addr) (xs : List Int32), lw_P b xs args s := by
  have hs := flat_of_before _ h
  have hq := flat_of_before _ hr
  have hc : (Cond.count 1).before args s = true := hs _ (by decide +kernel)
  have harr : (Cond.arrayOf (.arg 0) .int).before args s = true := hs _ (by decide +kernel)
  have hle : (Cond.le (.length (.arg 0)) (.int 2048)).before args s = true := hs _ (by decide +kernel)
  have hlen : (Cond.isInt (.length (.arg 0))).before args s = true := hq _ (by decide +kernel)
  have hall : (Cond.all (.arg 0) (.isInt (.elem (.arg 0) (.index 0)))).before args s = true := hq _ (by decide +kernel)
  obtain ⟨b, xs, hb, hx⟩ := State.ints_of_pre rfl harr hlen hall
  have hsm : xs.length < 2 ^ 31 := hx.choose_spec.2.2.2
  have hev : (Term.length (.arg 0)).eval args s none [] s = some (.int xs.length.toInt32) := hx.length_eval hb
  have hv := Cond.le_ints hev (show (Term.int 2048).eval args s none [] s = some (.int 2048) from rfl)
  have hd : xs.length.toInt32 ≤ 2048 := by
    simpa [Cond.before, Cond.holds, hv] using hle
  have hN : xs.length ≤ 2048 := (Int32.ofNat_le_ofNat hsm (by decide)).mp (show Int32.ofNat xs.length ≤ Int32.ofNat 2048 from hd)
  exact ⟨b, xs, Cond.one_arg hc (show args[0]? = some (.ref b) from hb), hx, hN, h⟩
theorem lw_comes (hgo : lw_goal) (l : Launch) (hl : l.stackTraces = false) : Comes l x (Jvm.Cond.code x code maxLocals ret :: tables_1) room_1 (fun tb e args s => Calls_1 tb e args s ∧ rest_1 tb e args s ∧ Pre_1 tb e args s)
    (fun _ _ args s o t => lw_Q args s o t) := by
  intro p e ha hc hk s m args below hf hfit hheap happ hpre
  obtain ⟨b, xs, hP⟩ := lw_pre_spec hpre.2.2 hpre.2.1
  obtain ⟨k, o, h1, h2, h3, hQ⟩ := lw_walk hgo l hl b xs p e ha hc hk s m args below hf ((Spec.applies_iff_loose hf).mp happ).1 hP trivial
  exact ⟨k, o, h1, h2, h3, hQ⟩
theorem lw_frame {s t : State} {o : Outcome} {args : Array Value} (h : Framed s o t [] 601024 7293034) :
    Framed s o t (fieldLocs frame_1_writes args s ++ arrayLocs frame_1_arrays args s ++ staticLocs frame_1_statics s) 601024 7293034 := h
theorem lw_limb (hgo : lw_goal) (L : Cond) (hL : ∀ (args : Array Value) (s t : State), L.after args s (.returned (some (.int 1))) t = true) :
    ArmFor flags0 classFile x code maxLocals ret World_1 tables_1 room_1 Calls_1 rest_1 Pre_1
      (fun tb e a s o t => postC L tb e a s o t ∧ Framed s o t (fieldLocs frame_1_writes a s ++ arrayLocs frame_1_arrays a s ++ staticLocs frame_1_statics s) 601024 7293034) := by
  intro l hfl _ _ p e ha hc hk s m args below hf hfit hheap happ hpre
  have hl : l.stackTraces = false := by
    unfold Launch.stackTraces
    rw [hfl]
    decide
  obtain ⟨k, o, h1, h2, h3, rfl, hF⟩ := lw_comes hgo l hl p e ha hc hk s m args below hf hfit hheap happ hpre
  exact ⟨k, _, h1, h2, h3, hL args s _, lw_frame hF⟩
theorem i_vc_open (hgo : lw_goal) : Claimed_1_1 ∧ Claimed_1_2 := ⟨lw_limb hgo limb_1_1 (fun args s t => by simp [limb_1_1, Cond.after, Cond.holds, Cond.value]), lw_limb hgo limb_1_2 (fun args s t => Cond.after_iff.mpr (by
  first | (rw [show limb_1_2 = Cond.eq .result (.int 1) from rfl, Cond.eq_ints (x := 1) (y := 1) rfl rfl]; simp; done) | (simp [limb_1_2, Cond.value, Term.eval]; done)))⟩
