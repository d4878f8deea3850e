/-! the patient machine's tick, first two loops -/
def RD (I : Nat → Nat → Int32) (D : DZ) : Prop := (I 1 0 = nI D.nb) ∧ (I 1 1 = nI D.nc) ∧ (I 1 2 = nI D.ni) ∧ (I 1 3 = nI D.no) ∧ (∀ j, j < D.nb → I 2 j = nI (D.op j) ∧ I 3 j = D.ct j) ∧ (∀ j, j < D.nb → I 20 j = nI (inL D j).length ∧ ∀ i, i < (inL D j).length → I (10 + j) i = nI (gi (inL D j) i)) ∧ (∀ j, j < D.nb → I 32 j = nI (brL D j).length ∧ ∀ i, i < (brL D j).length → I (22 + j) i = nI (gi (brL D j) i)) ∧ (∀ c, c < D.nc → I 4 c = nI (D.fm c) ∧ I 5 c = nI (D.to c) ∧ I 6 c = D.fs c ∧ I 7 c = nI (D.ex c)) ∧ (∀ p, p < D.no → I 8 p = nI (D.ofm p))
theorem RD.nb {I : Nat → Nat → Int32} {D : DZ} (h : RD I D) : I 1 0 = nI D.nb := h.1
theorem RD.nc {I : Nat → Nat → Int32} {D : DZ} (h : RD I D) : I 1 1 = nI D.nc := h.2.1
theorem RD.ni {I : Nat → Nat → Int32} {D : DZ} (h : RD I D) : I 1 2 = nI D.ni := h.2.2.1
theorem RD.no {I : Nat → Nat → Int32} {D : DZ} (h : RD I D) : I 1 3 = nI D.no := h.2.2.2.1
theorem RD.bl {I : Nat → Nat → Int32} {D : DZ} (h : RD I D) : ∀ j, j < D.nb → I 2 j = nI (D.op j) ∧ I 3 j = D.ct j := h.2.2.2.2.1
theorem RD.inn {I : Nat → Nat → Int32} {D : DZ} (h : RD I D) : ∀ j, j < D.nb → I 20 j = nI (inL D j).length ∧ ∀ i, i < (inL D j).length → I (10 + j) i = nI (gi (inL D j) i) := h.2.2.2.2.2.1
theorem RD.brn {I : Nat → Nat → Int32} {D : DZ} (h : RD I D) : ∀ j, j < D.nb → I 32 j = nI (brL D j).length ∧ ∀ i, i < (brL D j).length → I (22 + j) i = nI (gi (brL D j) i) := h.2.2.2.2.2.2.1
theorem RD.ch {I : Nat → Nat → Int32} {D : DZ} (h : RD I D) : ∀ c, c < D.nc → I 4 c = nI (D.fm c) ∧ I 5 c = nI (D.to c) ∧ I 6 c = D.fs c ∧ I 7 c = nI (D.ex c) := h.2.2.2.2.2.2.2.1
theorem RD.ot {I : Nat → Nat → Int32} {D : DZ} (h : RD I D) : ∀ p, p < D.no → I 8 p = nI (D.ofm p) := h.2.2.2.2.2.2.2.2
theorem RD.mk {I : Nat → Nat → Int32} {D : DZ} (nb_ : I 1 0 = nI D.nb) (nc_ : I 1 1 = nI D.nc) (ni_ : I 1 2 = nI D.ni) (no_ : I 1 3 = nI D.no) (bl_ : ∀ j, j < D.nb → I 2 j = nI (D.op j) ∧ I 3 j = D.ct j) (inn_ : ∀ j, j < D.nb → I 20 j = nI (inL D j).length ∧ ∀ i, i < (inL D j).length → I (10 + j) i = nI (gi (inL D j) i)) (brn_ : ∀ j, j < D.nb → I 32 j = nI (brL D j).length ∧ ∀ i, i < (brL D j).length → I (22 + j) i = nI (gi (brL D j) i)) (ch_ : ∀ c, c < D.nc → I 4 c = nI (D.fm c) ∧ I 5 c = nI (D.to c) ∧ I 6 c = D.fs c ∧ I 7 c = nI (D.ex c)) (ot_ : ∀ p, p < D.no → I 8 p = nI (D.ofm p)) : RD I D := ⟨nb_, nc_, ni_, no_, bl_, inn_, brn_, ch_, ot_⟩
def tkM (D : DZ) (s : MS) (p : Nat) : List Int32 := if p < D.ni then wn (s.ofv p) 0 (s.tu (D.ito p)) else []
def gvM (D : DZ) (s : MS) (p : Nat) : List Int64 := if p < D.no then wn (fun k => tv (nI (s.ouT p k)) (s.ous p k)) 0 (s.ou p) else []
def gtM (D : DZ) (s : MS) (j : Nat) : Int32 := bI (fun i => goM s j (gi (brL D j) i)) (brL D j).length
/-- what the patient machine holds -/
def RQ (I : Nat → Nat → Int32) (J : Nat → Nat → Int64) (D : DZ) (s : MS) : Prop := (I 33 1 = nI s.T) ∧ (CB I (bqM D s)) ∧ (∀ j, j < D.nb → I 38 j = nI (s.tu j)) ∧ (∀ j, j < D.nb → I 39 j = gtM D s j) ∧ (∀ p, p < D.ni → bt (I 33 9) p = decide (s.tu (D.ito p) < s.off p)) ∧ (∀ p, p < D.ni → s.tu (D.ito p) < s.off p → I 41 p = s.ofv p (s.tu (D.ito p))) ∧ (CT I (tkM D s)) ∧ (CG I J (gvM D s))
theorem RQ.T {I : Nat → Nat → Int32} {J : Nat → Nat → Int64} {D : DZ} {s : MS} (h : RQ I J D s) : I 33 1 = nI s.T := h.1
theorem RQ.B {I : Nat → Nat → Int32} {J : Nat → Nat → Int64} {D : DZ} {s : MS} (h : RQ I J D s) : CB I (bqM D s) := h.2.1
theorem RQ.tu {I : Nat → Nat → Int32} {J : Nat → Nat → Int64} {D : DZ} {s : MS} (h : RQ I J D s) : ∀ j, j < D.nb → I 38 j = nI (s.tu j) := h.2.2.1
theorem RQ.got {I : Nat → Nat → Int32} {J : Nat → Nat → Int64} {D : DZ} {s : MS} (h : RQ I J D s) : ∀ j, j < D.nb → I 39 j = gtM D s j := h.2.2.2.1
theorem RQ.wt {I : Nat → Nat → Int32} {J : Nat → Nat → Int64} {D : DZ} {s : MS} (h : RQ I J D s) : ∀ p, p < D.ni → bt (I 33 9) p = decide (s.tu (D.ito p) < s.off p) := h.2.2.2.2.1
theorem RQ.wv {I : Nat → Nat → Int32} {J : Nat → Nat → Int64} {D : DZ} {s : MS} (h : RQ I J D s) : ∀ p, p < D.ni → s.tu (D.ito p) < s.off p → I 41 p = s.ofv p (s.tu (D.ito p)) := h.2.2.2.2.2.1
theorem RQ.tk {I : Nat → Nat → Int32} {J : Nat → Nat → Int64} {D : DZ} {s : MS} (h : RQ I J D s) : CT I (tkM D s) := h.2.2.2.2.2.2.1
theorem RQ.gv {I : Nat → Nat → Int32} {J : Nat → Nat → Int64} {D : DZ} {s : MS} (h : RQ I J D s) : CG I J (gvM D s) := h.2.2.2.2.2.2.2
theorem RQ.mk {I : Nat → Nat → Int32} {J : Nat → Nat → Int64} {D : DZ} {s : MS} (T_ : I 33 1 = nI s.T) (B_ : CB I (bqM D s)) (tu_ : ∀ j, j < D.nb → I 38 j = nI (s.tu j)) (got_ : ∀ j, j < D.nb → I 39 j = gtM D s j) (wt_ : ∀ p, p < D.ni → bt (I 33 9) p = decide (s.tu (D.ito p) < s.off p)) (wv_ : ∀ p, p < D.ni → s.tu (D.ito p) < s.off p → I 41 p = s.ofv p (s.tu (D.ito p))) (tk_ : CT I (tkM D s)) (gv_ : CG I J (gvM D s)) : RQ I J D s := ⟨T_, B_, tu_, got_, wt_, wv_, tk_, gv_⟩
section S10
variable {d : Nat} {I : Nat → Nat → Int32} {J : Nat → Nat → Int64} {D : DZ} {s : MS} {stl : Int32}
theorem RD.fr {L : List Nat} {I' : Nat → Nat → Int32} (h : RD I D) (hD : DW D) (hf : fr L I I') (hL : ∀ c, c ∈ L → c = 0 ∨ 32 < c) : RD I' D := by
  have hh : ∀ c, 0 < c → c ≤ 32 → I' c = I c := fun c h1 h2 => hf c (fun z => by have := hL c z; omega)
  have hb := hD.nb
  refine RD.mk ?_ ?_ ?_ ?_ ?_ ?_ ?_ ?_ ?_
  · rw [hh 1 (by omega) (by omega)]; exact h.nb
  · rw [hh 1 (by omega) (by omega)]; exact h.nc
  · rw [hh 1 (by omega) (by omega)]; exact h.ni
  · rw [hh 1 (by omega) (by omega)]; exact h.no
  · rw [hh 2 (by omega) (by omega), hh 3 (by omega) (by omega)]; exact h.bl
  · intro j hj
    rw [hh 20 (by omega) (by omega), hh (10 + j) (by omega) (by omega)]
    exact h.inn j hj
  · intro j hj
    rw [hh 32 (by omega) (by omega), hh (22 + j) (by omega) (by omega)]
    exact h.brn j hj
  · rw [hh 4 (by omega) (by omega), hh 5 (by omega) (by omega), hh 6 (by omega) (by omega), hh 7 (by omega) (by omega)]; exact h.ch
  · rw [hh 8 (by omega) (by omega)]; exact h.ot
theorem RD.ilk (h : RD I D) (hD : DW D) {j : Nat} (hj : j < D.nb) : ∀ i, i < (inL D j).length → I (10 + j) i = nI (gi (inL D j) i) ∧ gi (inL D j) i < 24 ∧ (gi (inL D j) i < 20 → I 7 (gi (inL D j) i) = nI (D.ex (gi (inL D j) i)) ∧ D.ex (gi (inL D j) i) ≤ 3) := by
  intro i hi
  have hm := gi_mem hi
  refine ⟨(h.inn j hj).2 i hi, inL_lt hD hm, fun hl => ?_⟩
  rcases (inL_mem hD).mp hm with ⟨h1, -⟩ | ⟨h1, -⟩
  · exact ⟨(h.ch _ h1).2.2.2, (hD.ch _ h1).2.2⟩
  · omega
theorem RD.olk (h : RD I D) (hD : DW D) {j : Nat} (hj : j < D.nb) : ∀ i, i < (brL D j).length → I (22 + j) i = nI (gi (brL D j) i) ∧ gi (brL D j) i < 24 := fun i hi => ⟨(h.brn j hj).2 i hi, brL_lt hD (gi_mem hi)⟩
theorem thr_M (hD : DW D) (hM : MI D s) (h36 : ∀ b, b < 80 → I 36 b = nI (bqM D s b).length) (h9 : ∀ p, p < D.ni → bt (I 33 9) p = decide (s.tu (D.ito p) < s.off p)) {j x : Nat} (hx : x ∈ inL D j) : thr I D.ex x = thM D s x := by
  have h20 := hD.nc
  rcases (inL_mem hD).mp hx with ⟨h1, -⟩ | ⟨h1, h2, -⟩
  · have h3 := (hD.ch x h1).2.2
    rw [thr, if_pos (by omega), thM, if_pos (by omega), h36 _ (by omega), bq_at hD h1 (Nat.le_refl _), wn_len]
    have h4 := hM.bf x h1 _ (Nat.le_refl _)
    have e : ((0 : Int32) < nI (cmM s x (D.ex x) - gnM D s x (D.ex x))) ↔ gnM D s x (D.ex x) < cmM s x (D.ex x) := by
      show (nI 0 < nI _) ↔ _
      rw [nI_ltI (by omega) (by omega)]
      omega
    exact decide_eq_decide.mpr e
  · rw [thr, if_neg (by omega), thM, if_neg (by omega), h9 _ (by omega)]
theorem cgt_M (hD : DW D) (hM : MI D s) (h36 : ∀ b, b < 80 → I 36 b = nI (bqM D s b).length) {j x : Nat} (hx : x ∈ brL D j) : cgt I stl x = caM D s stl x := by
  have h20 := hD.nc
  rcases (brL_mem hD).mp hx with ⟨h1, -⟩ | ⟨h1, h2, -⟩
  · have hb := bq_at (s := s) hD h1 (Nat.zero_le _)
    rw [Nat.add_zero] at hb
    rw [cgt, if_pos (by omega), caM, if_pos (by omega), h36 _ (by omega), hb, wn_len]
    have h4 := hM.bf x h1 0 (Nat.zero_le _)
    have e : (nI (cmM s x 0 - gnM D s x 0) < (2 : Int32)) ↔ cmM s x 0 < gnM D s x 0 + 2 := by
      show (nI _ < nI 2) ↔ _
      rw [nI_ltI (by omega) (by omega)]
      omega
    exact decide_eq_decide.mpr e
  · rw [cgt, if_neg (by omega), caM, if_neg (by omega)]
/-- which branches get; -1 where it isn't ready -/
def geI (D : DZ) (s : MS) (stl : Int32) (j : Nat) : Int32 := if rdM D s j = true then bI (fun i => geM D s stl j (gi (brL D j) i)) (brL D j).length else -1
theorem step_l1 (hD : DW D) (hM : MI D s) (rD : RD I D) (h36 : ∀ b, b < 80 → I 36 b = nI (bqM D s b).length) (h9 : ∀ p, p < D.ni → bt (I 33 9) p = decide (s.tu (D.ito p) < s.off p)) (h39 : ∀ j, j < D.nb → I 39 j = gtM D s j) :
    ∃ I', fr [40] I I' ∧ (∀ j, j < D.nb → I' 40 j = geI D s stl j) ∧ ∀ out, pm_Go (d + 4) m_P_step 47 [some (.ref 33), some (.int stl), some (.int (nI D.nb)), none] [] 0 0 (ST I' J) out → pm_Go (d + 4) m_P_step 6 [some (.ref 33), some (.int stl), some (.int 0), none] [] 0 0 (ST I J) out := by
  have hb10 := hD.nb
  have loop : ∀ k j (Ii : Nat → Nat → Int32), D.nb - j = k → j ≤ D.nb → fr [40] I Ii → (∀ q, q < j → Ii 40 q = geI D s stl q) → ∃ I', fr [40] I I' ∧ (∀ j, j < D.nb → I' 40 j = geI D s stl j) ∧ ∀ out, pm_Go (d + 4) m_P_step 47 [some (.ref 33), some (.int stl), some (.int (nI D.nb)), none] [] 0 0 (ST I' J) out → pm_Go (d + 4) m_P_step 6 [some (.ref 33), some (.int stl), some (.int (nI j)), none] [] 0 0 (ST Ii J) out := by
    intro k
    induction k with
    | zero =>
      intro j Ii hk hj f1 q1
      have : j = D.nb := by omega
      subst this
      have e10 : Ii 1 0 = nI D.nb := by rw [f1 1 (by decide)]; exact rD.nb
      refine ⟨Ii, f1, q1, fun out ho => ?_⟩
      refine go_iload_n d_P_step_6 rfl ?_
      refine go_aload_n d_P_step_7 rfl ?_
      refine go_getP (j := 0) d_P_step_8 (Nat.le_of_ble_eq_true rfl) rfl pc_P (Nat.le_of_ble_eq_true rfl) rfl w_113 pt_P_0 ?_
      refine go_gI (j := 0) (nI D.nb) d_P_step_11 (Nat.le_of_ble_eq_true rfl) rfl pc_D (Nat.le_of_ble_eq_true rfl) (by decide) w_36 e10 ?_
      refine go_icmp_ge (tgt := 47) d_P_step_14 (by decide) (fun z => ?_) (fun z => absurd (nI_le (Nat.le_refl _) (by omega)) z)
      exact ho
    | succ k ih =>
      intro j Ii hk hj f1 q1
      have hj2 : j < D.nb := by omega
      have rDi : RD Ii D := rD.fr hD f1 (by decide)
      have e39 : Ii 39 j = gtM D s j := by rw [f1 39 (by decide)]; exact h39 j hj2
      have h36i : ∀ b, b < 80 → Ii 36 b = nI (bqM D s b).length := by rw [f1 36 (by decide)]; exact h36
      have h9i : ∀ p, p < D.ni → bt (Ii 33 9) p = decide (s.tu (D.ito p) < s.off p) := by rw [f1 33 (by decide)]; exact h9
      have r1 := sp_isReady (d := d + 1) (J := J) (j := j) (ex := D.ex) (lk := gi (inL D j)) (by omega) (rDi.inn j hj2).1 (inL_len hD j) (rDi.ilk hD hj2)
      have er : al (fun i => thr Ii D.ex (gi (inL D j) i)) (inL D j).length = rdM D s j := by
        rw [rdM, ← al_all]
        apply Bool.eq_iff_iff.mpr
        rw [al_iff, al_iff]
        constructor
        · intro h i hi
          rw [← thr_M hD hM h36i h9i (gi_mem hi)]
          exact h i hi
        · intro h i hi
          rw [thr_M hD hM h36i h9i (gi_mem hi)]
          exact h i hi
      rw [er] at r1
      have r2 := sp_whichGet (d := d + 2) (J := J) (j := j) (stl := stl) (lk := gi (brL D j)) (by omega) (rDi.brn j hj2).1 (brL_len hD j) (rDi.olk hD hj2)
      have hlen := brL_len hD j
      have ew : rdM D s j = true → bI (fun i => !bt (Ii 39 j) i && cgt Ii stl (gi (brL D j) i)) (brL D j).length = geI D s stl j := by
        intro hr
        rw [geI, if_pos hr]
        apply bI_congr
        intro i hi
        rw [e39, gtM, bI_bt _ _ (by omega) i (by omega), decide_eq_true hi, Bool.true_and, cgt_M hD hM h36i (gi_mem hi), geM, hr, Bool.true_and]
      obtain ⟨I', i1, i2, i3⟩ := ih (j + 1) (pm_uI Ii 40 j (geI D s stl j)) (by omega) (by omega) (f1.tr (fr.uI (by decide))) (fun q hq => by
        by_cases e : q = j
        · rw [e, uI_eq]
        · rw [uI_nj e]; exact q1 q (by omega))
      refine ⟨I', i1, i2, fun out ho => ?_⟩
      have i4 := i3 out ho
      refine go_iload_n d_P_step_6 rfl ?_
      refine go_aload_n d_P_step_7 rfl ?_
      refine go_getP (j := 0) d_P_step_8 (Nat.le_of_ble_eq_true rfl) rfl pc_P (Nat.le_of_ble_eq_true rfl) rfl w_113 pt_P_0 ?_
      refine go_gI (j := 0) (nI D.nb) d_P_step_11 (Nat.le_of_ble_eq_true rfl) rfl pc_D (Nat.le_of_ble_eq_true rfl) (by decide) w_36 rDi.nb ?_
      refine go_icmp_ge (tgt := 47) d_P_step_14 (by decide) (fun z => absurd z (nI_ge (by omega) (by omega))) (fun z => ?_)
      refine go_aload_n d_P_step_17 rfl ?_
      refine go_getP (j := 8) d_P_step_18 (Nat.le_of_ble_eq_true rfl) rfl pc_P (Nat.le_of_ble_eq_true rfl) rfl w_125 pt_P_8 ?_
      refine go_iload_n d_P_step_21 rfl ?_
      refine go_aload_n d_P_step_22 rfl ?_
      refine go_iload_n d_P_step_23 rfl ?_
      refine go_callV (k2 := m_P_isReady) (As := [.int (nI j)]) (r := some (.int (bb (rdM D s j)))) d_P_step_24 ok_P_isReady (Nat.le_of_ble_eq_true rfl) rfl pc_P rfl vl_P_100 rfl rfl (Nat.le_of_ble_eq_true rfl) (Nat.le_of_ble_eq_true rfl) (Nat.le_of_ble_eq_true rfl) (Nat.le_of_ble_eq_true rfl) rfl rfl r1 ?_
      cases hr : rdM D s j
      · refine go_if_eq (tgt := 39) d_P_step_27 (by decide) (fun z => ?_) (fun z => absurd rfl z)
        refine go_iconst (v := -1) d_P_step_39 (by decide) ?_
        refine go_top (geI D s stl j) (by rw [geI, if_neg (by simp [hr])]) ?_
        refine go_ast j d_P_step_40 (Nat.le_of_ble_eq_true rfl) rfl rfl (by omega) (by decide) ?_
        refine go_iinc (v := nI (j + 1)) d_P_step_41 rfl (by first | rfl | exact nI_1 _) rfl ?_
        refine go_goto (tgt := 6) d_P_step_44 (by decide) ?_
        exact i4
      · refine go_if_eq (tgt := 39) d_P_step_27 (by decide) (fun z => absurd z (by decide)) (fun z => ?_)
        have r3 := ew hr
        rw [r3] at r2
        refine go_aload_n d_P_step_30 rfl ?_
        refine go_iload_n d_P_step_31 rfl ?_
        refine go_iload_n d_P_step_32 rfl ?_
        refine go_callV (k2 := m_P_whichGet) (As := [.int (nI j), .int stl]) (r := some (.int (geI D s stl j))) d_P_step_33 ok_P_whichGet (Nat.le_of_ble_eq_true rfl) rfl pc_P rfl vl_P_103 rfl rfl (Nat.le_of_ble_eq_true rfl) (Nat.le_of_ble_eq_true rfl) (Nat.le_of_ble_eq_true rfl) (Nat.le_of_ble_eq_true rfl) rfl rfl r2 ?_
        refine go_goto (tgt := 40) d_P_step_36 (by decide) ?_
        refine go_ast j d_P_step_40 (Nat.le_of_ble_eq_true rfl) rfl rfl (by omega) (by decide) ?_
        refine go_iinc (v := nI (j + 1)) d_P_step_41 rfl (by first | rfl | exact nI_1 _) rfl ?_
        refine go_goto (tgt := 6) d_P_step_44 (by decide) ?_
        exact i4
  exact loop D.nb 0 I (by omega) (by omega) fr.rf (fun q hq => by omega)
theorem mv_bf (hD : DW D) (hM : MI D s) {c b : Nat} (hc : c < D.nc) (hb : b < D.ex c) : (0 < (bqM D s (c * 4 + b)).length ∧ (bqM D s (c * 4 + b + 1)).length < 2) ↔ mvM D s c b = true := by
  have h1 := hM.bf c hc b (by omega)
  have h2 := hM.bf c hc (b + 1) (by omega)
  rw [show c * 4 + b + 1 = c * 4 + (b + 1) by omega, bq_at hD hc (by omega), bq_at hD hc (by omega), wn_len, wn_len]
  simp only [mvM, Bool.and_eq_true, decide_eq_true_eq]
  omega
theorem mv_fo (hD : DW D) (hM : MI D s) {c : Nat} (hc : c < D.nc) : ∀ b, b ≤ D.ex c → fo (mvb (fun x => (bqM D s x).length) c) (bqM D (pst D s stl nA (Bm c 0))) b = bqM D (pst D s stl nA (Bm c b))
  | 0, _ => rfl
  | b + 1, hb => by
    show mvb (fun x => (bqM D s x).length) c (fo (mvb (fun x => (bqM D s x).length) c) (bqM D (pst D s stl nA (Bm c 0))) b) b = _
    rw [mv_fo hD hM hc b (by omega), mvb]
    cases hm : mvM D s c b
    · rw [if_neg (fun z => by rw [(mv_bf hD hM hc (by omega)).mp z] at hm; cases hm), pst_le (B := Bm c (b + 1)) (B' := Bm c b) (Bm_no hm)]
    · rw [if_pos ((mv_bf hD hM hc (by omega)).mpr hm), bq_mv hD hM hc hm]
theorem step_l2 (hD : DW D) (hM : MI D s) (rD : RD I D) (h36 : ∀ b, b < 80 → I 36 b = nI (bqM D s b).length) (hB : CB I (bqM D s)) :
    ∃ I', fr [34, 35] I I' ∧ CB I' (bqM D (pst D s stl (lb 0) T2)) ∧ ∀ out, pm_Go (d + 4) m_P_step 71 [some (.ref 33), some (.int stl), some (.int (nI D.nc)), none] [] 0 0 (ST I' J) out → pm_Go (d + 4) m_P_step 49 [some (.ref 33), some (.int stl), some (.int 0), none] [] 0 0 (ST I J) out := by
  have hc20 := hD.nc
  have loop : ∀ k c (Ii : Nat → Nat → Int32), D.nc - c = k → c ≤ D.nc → fr [34, 35] I Ii → CB Ii (bqM D (pst D s stl nA (Bm c 0))) → ∃ I', fr [34, 35] I I' ∧ CB I' (bqM D (pst D s stl nA (Bm D.nc 0))) ∧ ∀ out, pm_Go (d + 4) m_P_step 71 [some (.ref 33), some (.int stl), some (.int (nI D.nc)), none] [] 0 0 (ST I' J) out → pm_Go (d + 4) m_P_step 49 [some (.ref 33), some (.int stl), some (.int (nI c)), none] [] 0 0 (ST Ii J) out := by
    intro k
    induction k with
    | zero =>
      intro c Ii hk hc f1 cB
      have : c = D.nc := by omega
      subst this
      have e11 : Ii 1 1 = nI D.nc := by rw [f1 1 (by decide)]; exact rD.nc
      refine ⟨Ii, f1, cB, fun out ho => ?_⟩
      refine go_iload_n d_P_step_49 rfl ?_
      refine go_aload_n d_P_step_50 rfl ?_
      refine go_getP (j := 0) d_P_step_51 (Nat.le_of_ble_eq_true rfl) rfl pc_P (Nat.le_of_ble_eq_true rfl) rfl w_113 pt_P_0 ?_
      refine go_gI (j := 1) (nI D.nc) d_P_step_54 (Nat.le_of_ble_eq_true rfl) rfl pc_D (Nat.le_of_ble_eq_true rfl) (by decide) w_39 e11 ?_
      refine go_icmp_ge (tgt := 71) d_P_step_57 (by decide) (fun z => ?_) (fun z => absurd (nI_le (Nat.le_refl _) (by omega)) z)
      exact ho
    | succ k ih =>
      intro c Ii hk hc f1 cB
      have hc2 : c < D.nc := by omega
      have rDi : RD Ii D := rD.fr hD f1 (by decide)
      have h3 := (hD.ch c hc2).2.2
      obtain ⟨I2, g1, g2, g3⟩ := sp_moveOn (d := d + 2) (J := J) (c := c) (e := D.ex c) (bf := fun x => (bqM D s x).length) (by omega) h3 (rDi.ch c hc2).2.2.2 cB (fun b hb => ⟨by rw [f1 36 (by decide)]; exact h36 b hb, bq_len hD hM b⟩) (fun b hb h1 h2 => by
        have hm := (mv_bf hD hM hc2 hb).mp ⟨h1, h2⟩
        have hmv := mv_lt hm
        rw [mv_fo hD hM hc2 b (by omega), show c * 4 + b + 1 = c * 4 + (b + 1) by omega, bq_at hD hc2 (by omega), bq_at hD hc2 (by omega), wn_len]
        have k1 := cm_ge (D := D) (s := s) (stl := stl) (A := nA) (B := Bm c b) (c := c) (b := b)
        have k2 : gnM D (pst D s stl nA (Bm c b)) c b = gnM D s c b := by rw [gn_P, gnM, if_neg (by omega), if_neg (by omega), Bm_at]
        have k3 : cmM (pst D s stl nA (Bm c b)) c (b + 1) = cmM s c (b + 1) := by rw [cm_PS, cm_S, Bm_at]
        have k4 := gn_ge (D := D) (s := s) (stl := stl) (A := nA) (B := Bm c b) (c := c) (b := b + 1)
        exact ⟨wn_ne (by omega), by omega⟩)
      rw [mv_fo hD hM hc2 _ (Nat.le_refl _), ← pst_le (B := Bm (c + 1) 0) (B' := Bm c (D.ex c)) (Bm_end)] at g2
      obtain ⟨I', i1, i2, i3⟩ := ih (c + 1) I2 (by omega) (by omega) (f1.tr g3) g2
      refine ⟨I', i1, i2, fun out ho => ?_⟩
      have i4 := i3 out ho
      refine go_iload_n d_P_step_49 rfl ?_
      refine go_aload_n d_P_step_50 rfl ?_
      refine go_getP (j := 0) d_P_step_51 (Nat.le_of_ble_eq_true rfl) rfl pc_P (Nat.le_of_ble_eq_true rfl) rfl w_113 pt_P_0 ?_
      refine go_gI (j := 1) (nI D.nc) d_P_step_54 (Nat.le_of_ble_eq_true rfl) rfl pc_D (Nat.le_of_ble_eq_true rfl) (by decide) w_39 rDi.nc ?_
      refine go_icmp_ge (tgt := 71) d_P_step_57 (by decide) (fun z => absurd z (nI_ge (by omega) (by omega))) (fun z => ?_)
      refine go_aload_n d_P_step_60 rfl ?_
      refine go_iload_n d_P_step_61 rfl ?_
      refine go_callV (k2 := m_P_moveOn) (As := [.int (nI c)]) (r := none) d_P_step_62 ok_P_moveOn (Nat.le_of_ble_eq_true rfl) rfl pc_P rfl vl_P_106 rfl rfl (Nat.le_of_ble_eq_true rfl) (Nat.le_of_ble_eq_true rfl) (Nat.le_of_ble_eq_true rfl) (Nat.le_of_ble_eq_true rfl) rfl rfl g1 ?_
      refine go_iinc (v := nI (c + 1)) d_P_step_65 rfl (by first | rfl | exact nI_1 _) rfl ?_
      refine go_goto (tgt := 49) d_P_step_68 (by decide) ?_
      exact i4
  obtain ⟨I', i1, i2, i3⟩ := loop D.nc 0 I (by omega) (by omega) fr.rf (by rw [bq_P0 hM]; exact hB)
  refine ⟨I', i1, i2.cg (fun x _ => ?_), i3⟩
  rw [bqM, bqM]
  split
  · rename_i hh
    have e0 : ∀ b, leP D s (Bm D.nc 0) (x / 4) b = leP D s T2 (x / 4) b := by
      intro b
      unfold leP Bm T2
      rw [decide_eq_true (Or.inl hh.1)]
    have e1 : gnM D (pst D s stl nA (Bm D.nc 0)) (x / 4) (x % 4) = gnM D (pst D s stl (lb 0) T2) (x / 4) (x % 4) := by
      rw [gn_P, gn_P, e0]
      simp [tuP, nA, lb]
    have e2 : ∀ r, cmM (pst D s stl nA (Bm D.nc 0)) (x / 4) r = cmM (pst D s stl (lb 0) T2) (x / 4) r := by
      intro r
      cases r with
      | zero => rw [cm_P0, cm_P0]; simp [gaP, nA, lb]
      | succ r => rw [cm_PS, cm_PS, e0]
    rw [e1, e2]
    rfl
  · rfl
end S10
