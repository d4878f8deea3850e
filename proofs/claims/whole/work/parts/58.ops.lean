/-! the calls of a script, each on both sides -/
def RateE (RT : DZ → Nat × Nat) : Prop := ∀ (I : Nat → Nat → Int32) (J : Nat → Nat → Int64) (D : DZ) (k : Nat), DW D → RD I D → I 0 4 = 1 → (I 62 1 = 0 ∨ (I 62 1 = 1 ∧ I 62 2 = nI (RT D).1 ∧ I 62 3 = nI (RT D).2)) → k < 2 → ∃ I', pm_Go 9 m_E_rate 0 [some (.ref 0), some (.int (nI k))] [] 0 0 (ST I J) (.inl (some (.int (if k = 0 then nI (RT D).1 else nI (RT D).2))), ST I' J) ∧ (I' 62 1 = 1 ∧ I' 62 2 = nI (RT D).1 ∧ I' 62 3 = nI (RT D).2) ∧ fr [62, 63, 64, 65, 66, 67, 68] I I'
def RateM (RT : DZ → Nat × Nat) : Prop := ∀ (I : Nat → Nat → Int32) (J : Nat → Nat → Int64) (D : DZ), DW D → RMD I D → (∃ I0 : Nat → Nat → Int32, RD I0 D) → ∃ I', pm_Go 9 m_M_reckon 0 [some (.ref 69), none, none] [] 0 0 (ST I J) (.inl none, ST I' J) ∧ I' 69 43 = nI (RT D).1 ∧ I' 69 44 = nI (RT D).2 ∧ (∀ q, q < 39 → I' 69 q = I 69 q) ∧ fr [69, 97, 98, 99, 100, 101, 102] I I'
section S52
variable {I : Nat → Nat → Int32} {J : Nat → Nat → Int64} {D : DZ} {s : MS} {t : TS} {RT : DZ → Nat × Nat}
theorem LB_go {I2 : Nat → Nat → Int32} {J2 : Nat → Nat → Int64} {s' : MS} {t' : TS} {cy cy' : Nat} (h : LB RT I J D s t cy) (e0 : I2 0 = I 0) (e62 : I2 62 = I 62) (e69 : ∀ q, q = 1 ∨ q = 43 ∨ q = 44 → I2 69 q = I 69 q) (hM : MI D s') (hI : TI D s' t') (hB : TB s' t') (hQ : RQ I2 J2 D s') (hK : RK I2 D s' cy') (hS : RMS I2 D s' t') : LB RT I2 J2 D s' t' cy' := by
  refine LB.mk ?_ ?_ hM hI hB hQ hK hS ?_ ?_
  · rw [e0]; exact h.e
  · rw [e69 1 (by omega)]; exact h.m
  · rw [e69 43 (by omega), e69 44 (by omega)]; exact h.R
  · rw [e62]; exact h.A
theorem op_block (hL : LW RT I J) (a b : Int32) : opG m_L_block m_M_block [some (.ref 0), some (.int a), some (.int b), some (.ref 103), none] [some (.ref 69), some (.int a), some (.int b)] RT I J := by
  obtain ⟨D, hV⟩ := hL
  obtain ⟨hD, rD, rM, hh⟩ := id hV
  have h10 := hD.nb
  rcases hh with ⟨e0, e1⟩ | ⟨s, t, cy, hB⟩
  · by_cases ha : okN a 5
    · obtain ⟨o, ho, rfl⟩ := ha
      by_cases hn : D.nb < 10
      · have f1 : fr [1, 2, 3, 20, 32] I (pm_uI (pm_uI (pm_uI (pm_uI (pm_uI I 2 D.nb (nI o)) 3 D.nb b) 20 D.nb 0) 32 D.nb 0) 1 0 (nI (D.nb + 1))) := (((((fr.uI (by decide)).tr (fr.uI (by decide))).tr (fr.uI (by decide))).tr (fr.uI (by decide))).tr (fr.uI (by decide)))
        have rD1 := RD_bk (o := o) (c := b) hD rD hn
        have w := lwok_block (sp_blockY (J := J) (b := b) e0 rD ho hn)
        generalize pm_uI (pm_uI (pm_uI (pm_uI (pm_uI I 2 D.nb (nI o)) 3 D.nb b) 20 D.nb 0) 32 D.nb 0) 1 0 (nI (D.nb + 1)) = I1 at f1 rD1 w
        obtain ⟨I2, b1, b2, b3, b4, b5⟩ := sp_M_blockY (d := 9) (I := I1) (J := pm_uJ J 103 0 (nI D.nb).toInt64) (b := b) (by rw [f1 69 (by decide)]; exact e1) ho hD (rM.fr f1 (by decide)) hn
        refine op_new (D := bkD D o b) w b1 b3 ⟨DW_bk hD hn ho, rD1.fr (DW_bk hD hn ho) b5 (by decide), b2, Or.inl ⟨?_, b4⟩⟩ f1 b5 (by decide) (by decide)
        rw [b5 0 (by decide), f1 0 (by decide)]
        exact e0
      · have en : D.nb = 10 := by omega
        exact op_look (r := -1) (lwok_block (sp_blockN e0 ho (by rw [rD.nb, en]))) (sp_M_blockF e1 ho (by rw [rM.nb, en])) hV
    · exact op_ref (k := 2) (by decide) (lwex_block2 (sp_block_X2 e0 ha)) (sp_M_blockX e1 ha) hV
  · exact op_ref (k := 1) (by decide) (lwex_block1 (sp_block_X1 hB.e)) (sp_M_blockN hB.m) hV
theorem op_channel (hL : LW RT I J) (a b c : Int32) : opG m_L_channel m_M_channel [some (.ref 0), some (.int a), some (.int b), some (.int c), some (.ref 103), none] [some (.ref 69), some (.int a), some (.int b), some (.int c)] RT I J := by
  obtain ⟨D, hV⟩ := hL
  obtain ⟨hD, rD, rM, hh⟩ := id hV
  have h10 := hD.nb
  have h20 := hD.nc
  rcases hh with ⟨e0, e1⟩ | ⟨s, t, cy, hB⟩
  · by_cases ha : okN a D.nb
    · by_cases hb : okN b D.nb
      · obtain ⟨f, hf, rfl⟩ := ha
        obtain ⟨g, hg, rfl⟩ := hb
        by_cases hn : D.nc < 20
        · obtain ⟨I1, a1, a2, f1⟩ := sp_channelY (J := J) (v := c) e0 hD rD hf hg hn
          obtain ⟨I2, b1, b2, b3, b4, b5⟩ := sp_M_channelY (d := 9) (I := I1) (J := pm_uJ J 103 0 (nI D.nc).toInt64) (c := c) (by rw [f1 69 (by decide)]; exact e1) hD (rM.fr f1 (by decide)) hf hg hn
          have hD2 := DW_ch (v := c) hD hn hf hg
          refine op_new (D := chD D f g c) (lwok_channel a1) b1 b3 ⟨hD2, a2.fr hD2 b5 (by decide), b2, Or.inl ⟨?_, b4⟩⟩ f1 b5 (by decide) (by decide)
          rw [b5 0 (by decide), f1 0 (by decide)]
          exact e0
        · have en : D.nc = 20 := by omega
          exact op_look (r := -1) (lwok_channel (sp_channelN e0 hD rD hf hg en)) (sp_M_channelF e1 hD rM hf hg en) hV
      · obtain ⟨f, hf, rfl⟩ := ha
        exact op_ref (k := 2) (by decide) (lwex_channel2 (sp_channel_X3 e0 rD.nb (by omega) hf hb)) (sp_M_channelX e1 hD rM (Or.inr hb)) hV
    · exact op_ref (k := 2) (by decide) (lwex_channel2 (sp_channel_X2 e0 rD.nb (by omega) ha)) (sp_M_channelX e1 hD rM (Or.inl ha)) hV
  · exact op_ref (k := 1) (by decide) (lwex_channel1 (sp_channel_X1 hB.e)) (sp_M_channelN hB.m) hV
theorem op_input (hL : LW RT I J) (a : Int32) : opG m_L_input m_M_input [some (.ref 0), some (.int a), some (.ref 103), none] [some (.ref 69), some (.int a)] RT I J := by
  obtain ⟨D, hV⟩ := hL
  obtain ⟨hD, rD, rM, hh⟩ := id hV
  have h10 := hD.nb
  have h4 := hD.ni
  rcases hh with ⟨e0, e1⟩ | ⟨s, t, cy, hB⟩
  · by_cases ha : okN a D.nb
    · obtain ⟨f, hf, rfl⟩ := ha
      by_cases hn : D.ni < 4
      · obtain ⟨I1, a1, a2, f1⟩ := sp_inputY (J := J) e0 hD rD hf hn
        obtain ⟨I2, b1, b2, b3, b4, b5⟩ := sp_M_inputY (d := 9) (I := I1) (J := pm_uJ J 103 0 (nI D.ni).toInt64) (by rw [f1 69 (by decide)]; exact e1) hD (rM.fr f1 (by decide)) hf hn
        have hD2 := DW_in hD hn hf
        refine op_new (D := inD D f) (lwok_input a1) b1 b3 ⟨hD2, a2.fr hD2 b5 (by decide), b2, Or.inl ⟨?_, b4⟩⟩ f1 b5 (by decide) (by decide)
        rw [b5 0 (by decide), f1 0 (by decide)]
        exact e0
      · have en : D.ni = 4 := by omega
        exact op_look (r := -1) (lwok_input (sp_inputN e0 hD rD hf en)) (sp_M_inputF e1 hD rM hf en) hV
    · exact op_ref (k := 2) (by decide) (lwex_input2 (sp_input_X2 e0 rD.nb (by omega) ha)) (sp_M_inputX e1 hD rM ha) hV
  · exact op_ref (k := 1) (by decide) (lwex_input1 (sp_input_X1 hB.e)) (sp_M_inputN hB.m) hV
theorem op_output (hL : LW RT I J) (a : Int32) : opG m_L_output m_M_output [some (.ref 0), some (.int a), some (.ref 103), none] [some (.ref 69), some (.int a)] RT I J := by
  obtain ⟨D, hV⟩ := hL
  obtain ⟨hD, rD, rM, hh⟩ := id hV
  have h10 := hD.nb
  have h4 := hD.no
  rcases hh with ⟨e0, e1⟩ | ⟨s, t, cy, hB⟩
  · by_cases ha : okN a D.nb
    · obtain ⟨f, hf, rfl⟩ := ha
      by_cases hn : D.no < 4
      · obtain ⟨I1, a1, a2, f1⟩ := sp_outputY (J := J) e0 hD rD hf hn
        obtain ⟨I2, b1, b2, b3, b4, b5⟩ := sp_M_outputY (d := 9) (I := I1) (J := pm_uJ J 103 0 (nI D.no).toInt64) (by rw [f1 69 (by decide)]; exact e1) hD (rM.fr f1 (by decide)) hf hn
        have hD2 := DW_ot hD hn hf
        refine op_new (D := otD D f) (lwok_output a1) b1 b3 ⟨hD2, a2.fr hD2 b5 (by decide), b2, Or.inl ⟨?_, b4⟩⟩ f1 b5 (by decide) (by decide)
        rw [b5 0 (by decide), f1 0 (by decide)]
        exact e0
      · have en : D.no = 4 := by omega
        exact op_look (r := -1) (lwok_output (sp_outputN e0 hD rD hf en)) (sp_M_outputF e1 hD rM hf en) hV
    · exact op_ref (k := 2) (by decide) (lwex_output2 (sp_output_X2 e0 rD.nb (by omega) ha)) (sp_M_outputX e1 hD rM ha) hV
  · exact op_ref (k := 1) (by decide) (lwex_output1 (sp_output_X1 hB.e)) (sp_M_outputN hB.m) hV
theorem op_buffers (hL : LW RT I J) (a b : Int32) : opG m_L_buffers m_M_buffers [some (.ref 0), some (.int a), some (.int b), some (.ref 103), none] [some (.ref 69), some (.int a), some (.int b), none] RT I J := by
  obtain ⟨D, hV⟩ := hL
  obtain ⟨hD, rD, rM, hh⟩ := id hV
  have h20 := hD.nc
  rcases hh with ⟨e0, e1⟩ | ⟨s, t, cy, hB⟩
  · by_cases ha : okN a D.nc
    · by_cases hb : okN b 4
      · obtain ⟨c, hc, rfl⟩ := ha
        obtain ⟨n, hn, rfl⟩ := hb
        have f1 : fr [7] I (pm_uI I 7 c (nI n)) := fr.uI (by decide)
        have hD2 := DW_bf (c := c) (n := n) hD (by omega)
        have rD1 := RD_bf (n := n) rD hc
        obtain ⟨I2, b1, b2, b3, b4, b5⟩ := sp_M_buffersY (d := 9) (I := pm_uI I 7 c (nI n)) (J := pm_uJ J 103 0 (nI (D.ex c)).toInt64) (by rw [f1 69 (by decide)]; exact e1) hD (rM.fr f1 (by decide)) hc hn
        refine op_new (D := bfD D c n) (lwok_buffers (sp_buffersY e0 hD rD hc hn)) b1 b3 ⟨hD2, rD1.fr hD2 b5 (by decide), b2, Or.inl ⟨?_, b4⟩⟩ f1 b5 (by decide) (by decide)
        rw [b5 0 (by decide), f1 0 (by decide)]
        exact e0
      · obtain ⟨c, hc, rfl⟩ := ha
        exact op_ref (k := 2) (by decide) (lwex_buffers2 (sp_buffers_X3 e0 rD.nc (by omega) hc hb)) (sp_M_buffersX e1 hD rM (Or.inr hb)) hV
    · exact op_ref (k := 2) (by decide) (lwex_buffers2 (sp_buffers_X2 e0 rD.nc (by omega) ha)) (sp_M_buffersX e1 hD rM (Or.inl ha)) hV
  · exact op_ref (k := 1) (by decide) (lwex_buffers1 (sp_buffers_X1 hB.e)) (sp_M_buffersN hB.m) hV
theorem op_ticks (hL : LW RT I J) : opG m_L_ticks m_M_ticks [some (.ref 0), some (.ref 103), none] [some (.ref 69)] RT I J := by
  obtain ⟨D, hV⟩ := hL
  obtain ⟨hD, rD, rM, hh⟩ := id hV
  rcases hh with ⟨e0, e1⟩ | ⟨s, t, cy, hB⟩
  · exact op_ref (k := 1) (by decide) (lwex_ticks1 (sp_ticks_X1 e0)) (sp_M_ticksN e1) hV
  · exact op_look (r := nI s.T) (lwok_ticks (sp_ticks hB.e hB.Q.T)) (sp_M_ticksY hB.m hB.S.T) hV
theorem op_turns (hL : LW RT I J) (a : Int32) : opG m_L_turns m_M_turns [some (.ref 0), some (.int a), some (.ref 103), none] [some (.ref 69), some (.int a)] RT I J := by
  obtain ⟨D, hV⟩ := hL
  obtain ⟨hD, rD, rM, hh⟩ := id hV
  have h10 := hD.nb
  rcases hh with ⟨e0, e1⟩ | ⟨s, t, cy, hB⟩
  · exact op_ref (k := 1) (by decide) (lwex_turns1 (sp_turns_X1 e0)) (sp_M_turnsN e1) hV
  · by_cases ha : okN a D.nb
    · obtain ⟨k, hk, rfl⟩ := ha
      exact op_look (r := nI (s.tu k)) (lwok_turns (sp_turns hB.e rD.nb h10 hk (hB.Q.tu k hk))) (sp_M_turnsY hB.m rM.nb h10 hk (hB.S.tu k hk).1) hV
    · exact op_ref (k := 2) (by decide) (lwex_turns2 (sp_turns_X2 hB.e rD.nb (by omega) ha)) (sp_M_turnsX hB.m rM.nb h10 ha) hV
theorem op_got (hL : LW RT I J) (a : Int32) : opG m_L_got m_M_got [some (.ref 0), some (.int a), some (.ref 103), none] [some (.ref 69), some (.int a), none, none, none, none] RT I J := by
  obtain ⟨D, hV⟩ := hL
  obtain ⟨hD, rD, rM, hh⟩ := id hV
  have h10 := hD.nb
  rcases hh with ⟨e0, e1⟩ | ⟨s, t, cy, hB⟩
  · exact op_ref (k := 1) (by decide) (lwex_got1 (sp_got_X1 e0)) (sp_M_gotN e1 hD rM) hV
  · by_cases ha : okN a D.nb
    · obtain ⟨k, hk, rfl⟩ := ha
      exact op_look (r := gtM D s k) (lwok_got (sp_got hB.e rD.nb h10 hk (hB.Q.got k hk))) (sp_M_gotY hB.m hD rM (NB_MI hD hB.M) hB.S hk) hV
    · exact op_ref (k := 2) (by decide) (lwex_got2 (sp_got_X2 hB.e rD.nb (by omega) ha)) (sp_M_gotX hB.m hD rM ha) hV
theorem op_inside (hL : LW RT I J) (a b : Int32) : opG m_L_inside m_M_inside [some (.ref 0), some (.int a), some (.int b), some (.ref 103), none] [some (.ref 69), some (.int a), some (.int b)] RT I J := by
  obtain ⟨D, hV⟩ := hL
  obtain ⟨hD, rD, rM, hh⟩ := id hV
  have h20 := hD.nc
  rcases hh with ⟨e0, e1⟩ | ⟨s, t, cy, hB⟩
  · exact op_ref (k := 1) (by decide) (lwex_inside1 (sp_inside_X1 e0)) (sp_M_insideN e1) hV
  · by_cases ha : okN a D.nc
    · obtain ⟨c, hc, rfl⟩ := ha
      have h3 := (hD.ch c hc).2.2
      have e7 := (rD.ch c hc).2.2.2
      by_cases hb : okN b (D.ex c + 1)
      · obtain ⟨q, hq, rfl⟩ := hb
        have e35 := (hB.Q.B (c * 4 + q) (by omega)).1
        rw [bq_at hD hc (by omega), wn_len] at e35
        exact op_look (r := nI (cmM s c q - gnM D s c q)) (lwok_inside (sp_inside hB.e rD.nc h20 hc e7 h3 hq e35)) (sp_M_insideY hB.m hD hB.M rM hB.S hc hq) hV
      · exact op_ref (k := 2) (by decide) (lwex_inside2 (sp_inside_X3 hB.e rD.nc h20 hc e7 h3 hb)) (sp_M_insideZ hB.m hD rM hc hb) hV
    · exact op_ref (k := 2) (by decide) (lwex_inside2 (sp_inside_X2 hB.e rD.nc h20 ha)) (sp_M_insideX hB.m hD rM ha) hV
theorem op_taken (hL : LW RT I J) (a : Int32) : opG m_L_taken m_M_taken [some (.ref 0), some (.int a), some (.ref 103), none] [some (.ref 69), some (.int a)] RT I J := by
  obtain ⟨D, hV⟩ := hL
  obtain ⟨hD, rD, rM, hh⟩ := id hV
  have h4 := hD.ni
  rcases hh with ⟨e0, e1⟩ | ⟨s, t, cy, hB⟩
  · exact op_ref (k := 1) (by decide) (lwex_taken1 (sp_taken_X1 e0)) (sp_M_takenN e1) hV
  · by_cases ha : okN a D.ni
    · obtain ⟨p, hp, rfl⟩ := ha
      have e42 := (hB.Q.tk p (by omega)).1
      rw [tkM, if_pos hp, wn_len, Nat.sub_zero] at e42
      exact op_look (r := nI (s.tu (D.ito p))) (lwok_taken (sp_taken hB.e rD.ni h4 hp e42)) (sp_M_takenY hB.m hD rM hB.S hp) hV
    · exact op_ref (k := 2) (by decide) (lwex_taken2 (sp_taken_X2 hB.e rD.ni (by omega) ha)) (sp_M_takenX hB.m hD rM ha) hV
theorem op_given (hL : LW RT I J) (a : Int32) : opG m_L_given m_M_given [some (.ref 0), some (.int a), some (.ref 103), none] [some (.ref 69), some (.int a)] RT I J := by
  obtain ⟨D, hV⟩ := hL
  obtain ⟨hD, rD, rM, hh⟩ := id hV
  have h4 := hD.no
  rcases hh with ⟨e0, e1⟩ | ⟨s, t, cy, hB⟩
  · exact op_ref (k := 1) (by decide) (lwex_given1 (sp_given_X1 e0)) (sp_M_givenN e1) hV
  · by_cases ha : okN a D.no
    · obtain ⟨p, hp, rfl⟩ := ha
      have e48 := (hB.Q.gv p (by omega)).1
      rw [gvM, if_pos hp, wn_len, Nat.sub_zero] at e48
      exact op_look (r := nI (s.ou p)) (lwok_given (sp_given hB.e rD.no h4 hp e48)) (sp_M_givenY hB.m hD rM hB.S hp) hV
    · exact op_ref (k := 2) (by decide) (lwex_given2 (sp_given_X2 hB.e rD.no (by omega) ha)) (sp_M_givenX hB.m hD rM ha) hV
theorem op_tick (hL : LW RT I J) (a : Int32) : opG m_L_tick m_M_tick [some (.ref 0), some (.int a), some (.ref 103), none] [some (.ref 69), some (.int a)] RT I J := by
  obtain ⟨D, hV⟩ := hL
  obtain ⟨hD, rD, rM, hh⟩ := id hV
  rcases hh with ⟨e0, e1⟩ | ⟨s, t, cy, hB⟩
  · exact op_ref (k := 1) (by decide) (lwex_tick1 (sp_tick_X1 e0)) (sp_M_tickN e1) hV
  · have hT := hB.M.T
    by_cases h1 : s.T < 1000
    · obtain ⟨I1, J1, a1, a2, f1, g1⟩ := sp_tickY (a := a) hB.e hD hB.M h1 rD hB.Q
      have rS1 : RMS I1 D s t := hB.S.fr (fun c h2 h3 => f1 c (by simp; omega)) (by rw [f1 69 (by decide)])
      obtain ⟨I2, b1, b2, b3, b4, f2⟩ := sp_M_tickY (d := 4) (J := pm_uJ J1 103 0 (tlM D s a D.nb).toInt64) (stl := a) (by rw [f1 69 (by decide)]; exact hB.m) hD hB.M hB.ti h1 hB.tb (rM.fr f1 (by decide)) rS1
      have hM2 := MI_step (stl := a) hD hB.M h1
      refine op_new (D := D) (lwok_tick a1) b1 b4 ⟨hD, (rD.fr hD f1 (by decide)).fr hD f2 (by decide), ?_, Or.inr ⟨stepM D s a, ftM s t a, cy, LB_go hB ?_ ?_ ?_ hM2 (TI_step hD hB.M hB.ti) (TB_st hB.tb hT) (a2.fr f2 (by decide)) (((hB.K.fr hD f1 (by decide)).stp hD).fr hD f2 (by decide)) b2⟩⟩ f1 f2 (by decide) (by decide)
      · refine (rM.fr f1 (by decide)).cg (fun j hj => b3 j (by omega) (by omega)) (fun c h2 h3 => f2 c (by unfold stL; simp; omega))
      · rw [f2 0 (by decide), f1 0 (by decide)]
      · rw [f2 62 (by decide), f1 62 (by decide)]
      · intro q hq
        rw [b3 q (by omega) (by omega), f1 69 (by decide)]
    · have en : s.T = 1000 := by omega
      exact op_look (r := -1) (lwok_tick (sp_tickN hB.e (by rw [hB.Q.T, en]))) (sp_M_tickF hB.m (by rw [hB.S.T, en])) hV
theorem op_run (hL : LW RT I J) (a b : Int32) : opG m_L_run m_M_run [some (.ref 0), some (.int a), some (.int b), some (.ref 103), none] [some (.ref 69), some (.int a), some (.int b), none, none] RT I J := by
  obtain ⟨D, hV⟩ := hL
  obtain ⟨hD, rD, rM, hh⟩ := id hV
  rcases hh with ⟨e0, e1⟩ | ⟨s, t, cy, hB⟩
  · exact op_ref (k := 1) (by decide) (lwex_run1 (sp_run_X1 e0)) (sp_M_runN e1) hV
  · have hT := hB.M.T
    by_cases ha : okN a 1001
    · obtain ⟨n, hn, rfl⟩ := ha
      obtain ⟨I1, J1, a1, a2, f1, g1⟩ := sp_run (a := b) hB.e hD hB.M rD hB.Q hn
      have rS1 : RMS I1 D s t := hB.S.fr (fun c h2 h3 => f1 c (by simp; omega)) (by rw [f1 69 (by decide)])
      obtain ⟨I2, b1, b2, b3, b4, f2⟩ := sp_M_runY (d := 4) (J := pm_uJ J1 103 0 (nI (min n (1000 - s.T))).toInt64) (a := b) (by rw [f1 69 (by decide)]; exact hB.m) hD hB.M hB.ti hB.tb (rM.fr f1 (by decide)) rS1 hn
      have hM2 := MI_rn (stl := b) hD hB.M (min n (1000 - s.T)) (by omega)
      refine op_new (D := D) (lwok_run a1) b1 b4 ⟨hD, (rD.fr hD f1 (by decide)).fr hD f2 (by decide), ?_, Or.inr ⟨_, _, cy, LB_go hB ?_ ?_ ?_ hM2 (TI_rn hD hB.M hB.ti _ (by omega)) (TB_rn hB.tb _ (by omega)) (a2.fr f2 (by decide)) ((RK_rn hD (hB.K.fr hD f1 (by decide)) _).fr hD f2 (by decide)) b2⟩⟩ f1 f2 (by decide) (by decide)
      · refine (rM.fr f1 (by decide)).cg (fun j hj => b3 j (by omega) (by omega)) (fun c h2 h3 => f2 c (by unfold stL; simp; omega))
      · rw [f2 0 (by decide), f1 0 (by decide)]
      · rw [f2 62 (by decide), f1 62 (by decide)]
      · intro q hq
        rw [b3 q (by omega) (by omega), f1 69 (by decide)]
    · exact op_ref (k := 2) (by decide) (lwex_run2 (sp_run_X2 hB.e ha)) (sp_M_runX hB.m ha) hV
theorem op_byClock (hL : LW RT I J) (a b : Int32) : opG m_L_byClock m_M_byClock [some (.ref 0), some (.int a), some (.int b), some (.ref 103), none] [some (.ref 69), some (.int a), some (.int b), none, none] RT I J := by
  obtain ⟨D, hV⟩ := hL
  obtain ⟨hD, rD, rM, hh⟩ := id hV
  have h4 := hD.no
  rcases hh with ⟨e0, e1⟩ | ⟨s, t, cy, hB⟩
  · exact op_ref (k := 1) (by decide) (lwex_byClock1 (sp_byClock_X1 e0)) (sp_M_byClockN e1 hD rM) hV
  · by_cases ha : okN a D.no
    · obtain ⟨p, hp, rfl⟩ := ha
      by_cases hb : okN b (leM D s)
      · obtain ⟨k, hk, rfl⟩ := hb
        obtain ⟨I1, cy', a1, a2, f1⟩ := sp_byClockY hB.e hD hB.M rD hB.Q hB.K hp hk
        have rS1 : RMS I1 D s t := hB.S.fr (fun c h2 h3 => f1 c (by simp; omega)) (by rw [f1 69 (by decide)])
        obtain ⟨I2, b1, f2, b2⟩ := sp_M_byClockY (d := 7) (J := pm_uJ J 103 0 (bcM D s.ofv p k).toInt64) (by rw [f1 69 (by decide)]; exact hB.m) hD hB.M (rM.fr f1 (by decide)) rS1 hp hk
        have e69 : ∀ q, q ≠ 0 → I2 69 q = I 69 q := fun q hq => by rw [b2, uI_nj hq, f1 69 (by decide)]
        refine op_new (D := D) (lwok_byClock a1) b1 (by rw [b2, uI_eq]) ⟨hD, (rD.fr hD f1 (by decide)).fr hD f2 (by decide), ?_, Or.inr ⟨s, t, cy', LB_go hB ?_ ?_ (fun q hq => e69 q (by omega)) hB.M hB.ti hB.tb ((hB.Q.fr f1 (by decide)).fr f2 (by decide)) (a2.fr hD f2 (by decide)) ?_⟩⟩ f1 f2 (by decide) (by decide)
        · refine rM.cg (fun j hj => e69 j (by omega)) (fun c h2 h3 => ?_)
          rw [f2 c (by simp; omega), f1 c (by simp; omega)]
        · rw [f2 0 (by decide), f1 0 (by decide)]
        · rw [f2 62 (by decide), f1 62 (by decide)]
        · exact rS1.fr (fun c h2 h3 => f2 c (by simp; omega)) (by rw [b2]; rfl)
      · exact op_ref (k := 3) (by decide) (lwex_byClock3 (sp_byClock_X3 hB.e hD hB.M rD hB.Q hp hb)) (sp_M_byClockZ hB.m hD hB.M rM hB.S hp hb) hV
    · exact op_ref (k := 2) (by decide) (lwex_byClock2 (sp_byClock_X2 hB.e rD.no (by omega) ha)) (sp_M_byClockX hB.m hD rM ha) hV
theorem op_offer (hL : LW RT I J) (a b : Int32) : opGP (fun r => r = 0 ∨ r = 1) m_L_offer m_M_offer [some (.ref 0), some (.int a), some (.int b), some (.ref 103), none] [some (.ref 69), some (.int a), some (.int b)] RT I J := by
  obtain ⟨D, hV⟩ := hL
  obtain ⟨hD, rD, rM, hh⟩ := id hV
  have h4 := hD.ni
  rcases hh with ⟨e0, e1⟩ | ⟨s, t, cy, hB⟩
  · exact op_ref (k := 1) (by decide) (lwex_offer1 (sp_offer_X1 e0)) (sp_M_offerN e1) hV
  · by_cases ha : okN a D.ni
    · obtain ⟨p, hp, rfl⟩ := ha
      have hof := hB.M.off p hp
      have htu := hB.M.tu _ (hD.ip p hp)
      have hT := hB.M.T
      by_cases ho : s.tu (D.ito p) < s.off p ∨ s.off p = 1000
      · exact op_look (r := 0) (lwok_offer0 (sp_offerN hB.e hD rD hB.M hp hB.Q ho)) (sp_M_offerF hB.m hD rM hB.M hB.S hp ho) hV (Or.inl rfl)
      · have ho1 : s.off p = s.tu (D.ito p) := by omega
        have ho2 : s.off p < 1000 := by omega
        obtain ⟨I1, a1, a2, f1⟩ := sp_offerY (v := b) hB.e hD rD hB.M hp hB.Q ho1 ho2
        have rS1 : RMS I1 D s t := hB.S.fr (fun c h2 h3 => f1 c (by simp; omega)) (by rw [f1 69 (by decide)])
        obtain ⟨I2, b1, b2, b3, b4, f2⟩ := sp_M_offerY (d := 9) (J := pm_uJ J 103 0 (1 : Int32).toInt64) (v := b) (by rw [f1 69 (by decide)]; exact hB.m) hD (rM.fr f1 (by decide)) hB.M rS1 hp ho1 ho2
        have hBt : TB (ofM s p b) (toM s t p) := TB.mk hB.tb.gt hB.tb.lv hB.tb.en (fun q k => by
          show (if q = p ∧ k = s.off p then s.T else t.oft q k) ≤ 1000
          have := hB.tb.of q k
          split <;> omega) hB.tb.ot
        refine op_new (D := D) (lwok_offer1 a1) b1 b4 ⟨hD, (rD.fr hD f1 (by decide)).fr hD f2 (by decide), ?_, Or.inr ⟨_, _, cy, LB_go hB ?_ ?_ ?_ (MI_of hB.M ho1) (TI_of hD hB.ti hp ho1) hBt (a2.fr f2 (by decide)) (((hB.K.fr hD f1 (by decide)).ofr hD hp ho1).fr hD f2 (by decide)) b2⟩⟩ f1 f2 (by decide) (by decide) (Or.inr rfl)
        · refine (rM.fr f1 (by decide)).cg (fun j hj => b3 j (by omega)) (fun c h2 h3 => f2 c (by simp; omega))
        · rw [f2 0 (by decide), f1 0 (by decide)]
        · rw [f2 62 (by decide), f1 62 (by decide)]
        · intro q hq
          rw [b3 q (by omega), f1 69 (by decide)]
    · exact op_ref (k := 2) (by decide) (lwex_offer2 (sp_offer_X2 hB.e rD.ni (by omega) ha)) (sp_M_offerX hB.m hD rM ha) hV
theorem op_rate (hE : RateE RT) (hL : LW RT I J) (a : Int32) : opG m_L_rate m_M_rate [some (.ref 0), some (.int a), some (.ref 103), none] [some (.ref 69), some (.int a)] RT I J := by
  obtain ⟨D, hV⟩ := hL
  obtain ⟨hD, rD, rM, hh⟩ := id hV
  rcases hh with ⟨e0, e1⟩ | ⟨s, t, cy, hB⟩
  · exact op_ref (k := 1) (by decide) (lwex_rate1 (sp_rate_X1 e0)) (sp_M_rateN e1) hV
  · by_cases ha : okN a 2
    · obtain ⟨k, hk, rfl⟩ := ha
      obtain ⟨I1, a1, a2, f1⟩ := hE I J D k hD rD hB.e hB.A hk
      have rS1 : RMS I1 D s t := hB.S.fr (fun c h2 h3 => f1 c (by simp; omega)) (by rw [f1 69 (by decide)])
      have hm := sp_M_rateY (d := 10) (J := pm_uJ J 103 0 (if k = 0 then nI (RT D).1 else nI (RT D).2).toInt64) (I := I1) (v := nI (RT D).1) (w := nI (RT D).2) (by rw [f1 69 (by decide)]; exact hB.m) hk (by rw [f1 69 (by decide)]; exact hB.R.1) (by rw [f1 69 (by decide)]; exact hB.R.2)
      have f2 : fr [69] I1 (pm_uI I1 69 0 0) := fr.uI (by decide)
      refine op_new (D := D) (lwok_rate a1) hm uI_eq (LV.th ⟨hD, rD.fr hD f1 (by decide), rM.fr f1 (by decide), Or.inr ⟨s, t, cy, LB.mk ?_ ?_ hB.M hB.ti hB.tb (hB.Q.fr f1 (by decide)) (hB.K.fr hD f1 (by decide)) rS1 ?_ (Or.inr a2)⟩⟩) f1 f2 (by decide) (by decide)
      · rw [f1 0 (by decide)]; exact hB.e
      · rw [f1 69 (by decide)]; exact hB.m
      · rw [f1 69 (by decide)]; exact hB.R
    · exact op_ref (k := 2) (by decide) (lwex_rate2 (sp_rate_X2 hB.e ha)) (sp_M_rateX hB.m ha) hV
end S52
