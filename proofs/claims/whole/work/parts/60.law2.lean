/-! the law's cases and its loop -/
def okW (w : Option Value) : Bool := match w with
  | some v => pm_ltV 104 v
  | none => true
theorem lt_L {w5 w6 : Option Value} {i : Int32} {st : List Value} (h5 : okW w5 = true) (h6 : okW w6 = true) (hs : st.all (pm_ltV 104) = true) : pm_lt 104 [some (.ref 1000), some (.ref 0), some (.ref 69), some (.ref 103), some (.int i), w5, w6, none] st = true := by
  unfold pm_lt
  rw [hs]
  cases w5 <;> cases w6 <;> simp_all [okW, pm_ltV]
theorem lc_0 (x : Int64) : lg_cmp x x = 0 := by
  unfold lg_cmp
  simp
section S54
variable {I : Nat → Nat → Int32} {J : Nat → Nat → Int64} {RT : DZ → Nat × Nat} {out : (Option Value ⊕ String) × pm_S}
theorem go_scr {d pc cu su L : Nat} {ls : List (Option Value)} {st : List Value} (j : Nat) (hd : decode (mB m_L_law) pc = .ok (.iaload, 1)) (hL : I 1001 0 = nI L) (hj : j < L) (hL2 : L ≤ 2048) (ih : pm_Go d m_L_law (pc + 1) ls (.int (I 1000 j) :: st) cu su (ST I J) out) : pm_Go d m_L_law pc ls (.int (nI j) :: .ref 1000 :: st) cu su (ST I J) out := by
  refine go_sld hd rfl ?_ ?_
  · show vp_in (nI j) (I 1001 0).toNatClampNeg
    rw [hL, nI_clamp (by omega)]
    exact vp_in_nI hj (by omega)
  · show pm_Go d m_L_law (pc + 1) ls (.int (I 1000 (nI j).toNatClampNeg) :: st) cu su (ST I J) out
    rw [nI_clamp (by omega)]
    exact ih
theorem lw_c0 {L i cu su : Nat} {w5 w6 : Option Value} (hW : LW RT I J) (eL : I 1001 0 = nI L) (hi : 4 * i + 4 ≤ L) (hL : L ≤ 2048) (hcu : cu ≤ 600000) (hsu : su ≤ 7000000) (h5 : okW w5 = true) (h6 : okW w6 = true) : ∃ I' J' w5' w6' cu' su', LW RT I' J' ∧ I' 1000 = I 1000 ∧ I' 1001 = I 1001 ∧ okW w5' = true ∧ okW w6' = true ∧ cu' ≤ cu + 3 ∧ su' ≤ su + 18 ∧ ∀ out, pm_Go 11 m_L_law 1267 [some (.ref 1000), some (.ref 0), some (.ref 69), some (.ref 103), some (.int (nI (4 * i))), w5', w6', none] [] cu' su' (ST I' J') out → pm_Go 11 m_L_law 132 [some (.ref 1000), some (.ref 0), some (.ref 69), some (.ref 103), some (.int (nI (4 * i))), w5, w6, none] [] cu su (ST I J) out := by
  obtain ⟨k, r, I1, J1, I2, g1, g2, g3, g4, g9, g5, ⟨g6, g6b⟩, g7, g8⟩ := op_block hW (I 1000 (4 * i + 1)) (I 1000 (4 * i + 2))
  have eL1 : I1 1001 0 = nI L := by rw [g6b]; exact eL
  refine ⟨I2, J1, some (.int k), some (.int r), cu + 2 + 0 + 0, su + 12 + 0 + 0, g5, g7, g8, rfl, rfl, by omega, by omega, fun out ho => ?_⟩
  rw [← g6] at g2
  refine go_aload_n d_L_law_132 rfl ?_
  refine go_aload_n d_L_law_133 rfl ?_
  refine go_iload d_L_law_134 rfl ?_
  refine go_iconst (v := 1) d_L_law_136 (by decide) ?_
  refine go_iadd d_L_law_137 ?_
  refine go_top (nI (4 * i + 1)) (nI_add (4 * i) 1) ?_
  refine go_scr (4 * i + 1) d_L_law_138 eL (by omega) hL ?_
  refine go_aload_n d_L_law_139 rfl ?_
  refine go_iload d_L_law_140 rfl ?_
  refine go_iconst (v := 2) d_L_law_142 (by decide) ?_
  refine go_iadd d_L_law_143 ?_
  refine go_top (nI (4 * i + 2)) (nI_add (4 * i) 2) ?_
  refine go_scr (4 * i + 2) d_L_law_144 eL (by omega) hL ?_
  refine go_aload_n d_L_law_145 rfl ?_
  refine go_callW (k2 := m_L_block) (As := [.ref 0, .int (I 1000 (4 * i + 1)), .int (I 1000 (4 * i + 2)), .ref 103]) (r := some (.int k)) d_L_law_146 ok_L_block sl_L_82 rfl rfl (Nat.le_of_ble_eq_true rfl) (Nat.le_of_ble_eq_true rfl) (show cu + 2 ≤ 601024 by omega) (show su + 12 ≤ 7293034 by omega) (lt_L h5 h6 rfl) rfl g1 ?_
  refine go_istore d_L_law_149 (Nat.le_of_ble_eq_true rfl) rfl ?_
  refine go_aload_n d_L_law_151 rfl ?_
  refine go_aload_n d_L_law_152 rfl ?_
  refine go_iload d_L_law_153 rfl ?_
  refine go_iconst (v := 1) d_L_law_155 (by decide) ?_
  refine go_iadd d_L_law_156 ?_
  refine go_top (nI (4 * i + 1)) (nI_add (4 * i) 1) ?_
  refine go_scr (4 * i + 1) d_L_law_157 eL1 (by omega) hL ?_
  refine go_aload_n d_L_law_158 rfl ?_
  refine go_iload d_L_law_159 rfl ?_
  refine go_iconst (v := 2) d_L_law_161 (by decide) ?_
  refine go_iadd d_L_law_162 ?_
  refine go_top (nI (4 * i + 2)) (nI_add (4 * i) 2) ?_
  refine go_scr (4 * i + 2) d_L_law_163 eL1 (by omega) hL ?_
  refine go_callV (k2 := m_M_block) (As := [.int (I1 1000 (4 * i + 1)), .int (I1 1000 (4 * i + 2))]) (r := some (.int r)) d_L_law_164 ok_M_block (Nat.le_of_ble_eq_true rfl) rfl pc_M rfl vl_L_87 rfl rfl (Nat.le_of_ble_eq_true rfl) (Nat.le_of_ble_eq_true rfl) (show cu + 2 + 0 ≤ 601024 by omega) (show su + 12 + 0 ≤ 7293034 by omega) (lt_L rfl h6 rfl) rfl g2 ?_
  refine go_istore d_L_law_167 (Nat.le_of_ble_eq_true rfl) rfl ?_
  refine go_aload_n d_L_law_169 rfl ?_
  refine go_callV (k2 := m_M_thrown) (As := []) (r := some (.int k)) d_L_law_170 ok_M_thrown (Nat.le_of_ble_eq_true rfl) rfl pc_M rfl vl_L_88 rfl rfl (Nat.le_of_ble_eq_true rfl) (Nat.le_of_ble_eq_true rfl) (show cu + 2 + 0 + 0 ≤ 601024 by omega) (show su + 12 + 0 + 0 ≤ 7293034 by omega) (lt_L rfl rfl rfl) rfl (sp_M_thrown g3) ?_
  refine go_iload d_L_law_173 rfl ?_
  refine go_icmp_eq (tgt := 180) d_L_law_175 (by decide) (fun z => ?_) (fun z => absurd rfl z)
  refine go_iload d_L_law_180 rfl ?_
  by_cases hk : k = 0
  · refine go_if_ne (tgt := 197) d_L_law_182 (by decide) (fun z => absurd hk z) (fun z => ?_)
    refine go_aload_n d_L_law_185 rfl ?_
    refine go_iconst (v := 0) d_L_law_186 (by decide) ?_
    refine go_lald 0 r.toInt64 d_L_law_187 (Nat.le_of_ble_eq_true rfl) rfl rfl (by decide) (by decide) (g4 hk) ?_
    refine go_iload d_L_law_188 rfl ?_
    refine go_i2l d_L_law_190 ?_
    refine go_lcmp d_L_law_191 ?_
    refine go_top 0 (lc_0 _) ?_
    refine go_if_eq (tgt := 197) d_L_law_192 (by decide) (fun z => ?_) (fun z => absurd rfl z)
    refine go_goto (tgt := 1267) d_L_law_197 (by decide) ?_
    exact ho
  · refine go_if_ne (tgt := 197) d_L_law_182 (by decide) (fun z => ?_) (fun z => absurd z hk)
    refine go_goto (tgt := 1267) d_L_law_197 (by decide) ?_
    exact ho
theorem lw_c1 {L i cu su : Nat} {w5 w6 : Option Value} (hW : LW RT I J) (eL : I 1001 0 = nI L) (hi : 4 * i + 4 ≤ L) (hL : L ≤ 2048) (hcu : cu ≤ 600000) (hsu : su ≤ 7000000) (h5 : okW w5 = true) (h6 : okW w6 = true) : ∃ I' J' w5' w6' cu' su', LW RT I' J' ∧ I' 1000 = I 1000 ∧ I' 1001 = I 1001 ∧ okW w5' = true ∧ okW w6' = true ∧ cu' ≤ cu + 3 ∧ su' ≤ su + 18 ∧ ∀ out, pm_Go 11 m_L_law 1267 [some (.ref 1000), some (.ref 0), some (.ref 69), some (.ref 103), some (.int (nI (4 * i))), w5', w6', none] [] cu' su' (ST I' J') out → pm_Go 11 m_L_law 200 [some (.ref 1000), some (.ref 0), some (.ref 69), some (.ref 103), some (.int (nI (4 * i))), w5, w6, none] [] cu su (ST I J) out := by
  obtain ⟨k, r, I1, J1, I2, g1, g2, g3, g4, g9, g5, ⟨g6, g6b⟩, g7, g8⟩ := op_channel hW (I 1000 (4 * i + 1)) (I 1000 (4 * i + 2)) (I 1000 (4 * i + 3))
  have eL1 : I1 1001 0 = nI L := by rw [g6b]; exact eL
  refine ⟨I2, J1, some (.int k), some (.int r), cu + 3 + 0 + 0, su + 18 + 0 + 0, g5, g7, g8, rfl, rfl, by omega, by omega, fun out ho => ?_⟩
  rw [← g6] at g2
  refine go_aload_n d_L_law_200 rfl ?_
  refine go_aload_n d_L_law_201 rfl ?_
  refine go_iload d_L_law_202 rfl ?_
  refine go_iconst (v := 1) d_L_law_204 (by decide) ?_
  refine go_iadd d_L_law_205 ?_
  refine go_top (nI (4 * i + 1)) (nI_add (4 * i) 1) ?_
  refine go_scr (4 * i + 1) d_L_law_206 eL (by omega) hL ?_
  refine go_aload_n d_L_law_207 rfl ?_
  refine go_iload d_L_law_208 rfl ?_
  refine go_iconst (v := 2) d_L_law_210 (by decide) ?_
  refine go_iadd d_L_law_211 ?_
  refine go_top (nI (4 * i + 2)) (nI_add (4 * i) 2) ?_
  refine go_scr (4 * i + 2) d_L_law_212 eL (by omega) hL ?_
  refine go_aload_n d_L_law_213 rfl ?_
  refine go_iload d_L_law_214 rfl ?_
  refine go_iconst (v := 3) d_L_law_216 (by decide) ?_
  refine go_iadd d_L_law_217 ?_
  refine go_top (nI (4 * i + 3)) (nI_add (4 * i) 3) ?_
  refine go_scr (4 * i + 3) d_L_law_218 eL (by omega) hL ?_
  refine go_aload_n d_L_law_219 rfl ?_
  refine go_callW (k2 := m_L_channel) (As := [.ref 0, .int (I 1000 (4 * i + 1)), .int (I 1000 (4 * i + 2)), .int (I 1000 (4 * i + 3)), .ref 103]) (r := some (.int k)) d_L_law_220 ok_L_channel sl_L_91 rfl rfl (Nat.le_of_ble_eq_true rfl) (Nat.le_of_ble_eq_true rfl) (show cu + 3 ≤ 601024 by omega) (show su + 18 ≤ 7293034 by omega) (lt_L h5 h6 rfl) rfl g1 ?_
  refine go_istore d_L_law_223 (Nat.le_of_ble_eq_true rfl) rfl ?_
  refine go_aload_n d_L_law_225 rfl ?_
  refine go_aload_n d_L_law_226 rfl ?_
  refine go_iload d_L_law_227 rfl ?_
  refine go_iconst (v := 1) d_L_law_229 (by decide) ?_
  refine go_iadd d_L_law_230 ?_
  refine go_top (nI (4 * i + 1)) (nI_add (4 * i) 1) ?_
  refine go_scr (4 * i + 1) d_L_law_231 eL1 (by omega) hL ?_
  refine go_aload_n d_L_law_232 rfl ?_
  refine go_iload d_L_law_233 rfl ?_
  refine go_iconst (v := 2) d_L_law_235 (by decide) ?_
  refine go_iadd d_L_law_236 ?_
  refine go_top (nI (4 * i + 2)) (nI_add (4 * i) 2) ?_
  refine go_scr (4 * i + 2) d_L_law_237 eL1 (by omega) hL ?_
  refine go_aload_n d_L_law_238 rfl ?_
  refine go_iload d_L_law_239 rfl ?_
  refine go_iconst (v := 3) d_L_law_241 (by decide) ?_
  refine go_iadd d_L_law_242 ?_
  refine go_top (nI (4 * i + 3)) (nI_add (4 * i) 3) ?_
  refine go_scr (4 * i + 3) d_L_law_243 eL1 (by omega) hL ?_
  refine go_callV (k2 := m_M_channel) (As := [.int (I1 1000 (4 * i + 1)), .int (I1 1000 (4 * i + 2)), .int (I1 1000 (4 * i + 3))]) (r := some (.int r)) d_L_law_244 ok_M_channel (Nat.le_of_ble_eq_true rfl) rfl pc_M rfl vl_L_94 rfl rfl (Nat.le_of_ble_eq_true rfl) (Nat.le_of_ble_eq_true rfl) (show cu + 3 + 0 ≤ 601024 by omega) (show su + 18 + 0 ≤ 7293034 by omega) (lt_L rfl h6 rfl) rfl g2 ?_
  refine go_istore d_L_law_247 (Nat.le_of_ble_eq_true rfl) rfl ?_
  refine go_aload_n d_L_law_249 rfl ?_
  refine go_callV (k2 := m_M_thrown) (As := []) (r := some (.int k)) d_L_law_250 ok_M_thrown (Nat.le_of_ble_eq_true rfl) rfl pc_M rfl vl_L_88 rfl rfl (Nat.le_of_ble_eq_true rfl) (Nat.le_of_ble_eq_true rfl) (show cu + 3 + 0 + 0 ≤ 601024 by omega) (show su + 18 + 0 + 0 ≤ 7293034 by omega) (lt_L rfl rfl rfl) rfl (sp_M_thrown g3) ?_
  refine go_iload d_L_law_253 rfl ?_
  refine go_icmp_eq (tgt := 260) d_L_law_255 (by decide) (fun z => ?_) (fun z => absurd rfl z)
  refine go_iload d_L_law_260 rfl ?_
  by_cases hk : k = 0
  · refine go_if_ne (tgt := 277) d_L_law_262 (by decide) (fun z => absurd hk z) (fun z => ?_)
    refine go_aload_n d_L_law_265 rfl ?_
    refine go_iconst (v := 0) d_L_law_266 (by decide) ?_
    refine go_lald 0 r.toInt64 d_L_law_267 (Nat.le_of_ble_eq_true rfl) rfl rfl (by decide) (by decide) (g4 hk) ?_
    refine go_iload d_L_law_268 rfl ?_
    refine go_i2l d_L_law_270 ?_
    refine go_lcmp d_L_law_271 ?_
    refine go_top 0 (lc_0 _) ?_
    refine go_if_eq (tgt := 277) d_L_law_272 (by decide) (fun z => ?_) (fun z => absurd rfl z)
    refine go_goto (tgt := 1267) d_L_law_277 (by decide) ?_
    exact ho
  · refine go_if_ne (tgt := 277) d_L_law_262 (by decide) (fun z => ?_) (fun z => absurd z hk)
    refine go_goto (tgt := 1267) d_L_law_277 (by decide) ?_
    exact ho
theorem lw_c2 {L i cu su : Nat} {w5 w6 : Option Value} (hW : LW RT I J) (eL : I 1001 0 = nI L) (hi : 4 * i + 4 ≤ L) (hL : L ≤ 2048) (hcu : cu ≤ 600000) (hsu : su ≤ 7000000) (h5 : okW w5 = true) (h6 : okW w6 = true) : ∃ I' J' w5' w6' cu' su', LW RT I' J' ∧ I' 1000 = I 1000 ∧ I' 1001 = I 1001 ∧ okW w5' = true ∧ okW w6' = true ∧ cu' ≤ cu + 3 ∧ su' ≤ su + 18 ∧ ∀ out, pm_Go 11 m_L_law 1267 [some (.ref 1000), some (.ref 0), some (.ref 69), some (.ref 103), some (.int (nI (4 * i))), w5', w6', none] [] cu' su' (ST I' J') out → pm_Go 11 m_L_law 280 [some (.ref 1000), some (.ref 0), some (.ref 69), some (.ref 103), some (.int (nI (4 * i))), w5, w6, none] [] cu su (ST I J) out := by
  obtain ⟨k, r, I1, J1, I2, g1, g2, g3, g4, g9, g5, ⟨g6, g6b⟩, g7, g8⟩ := op_input hW (I 1000 (4 * i + 1))
  have eL1 : I1 1001 0 = nI L := by rw [g6b]; exact eL
  refine ⟨I2, J1, some (.int k), some (.int r), cu + 2 + 0 + 0, su + 12 + 0 + 0, g5, g7, g8, rfl, rfl, by omega, by omega, fun out ho => ?_⟩
  rw [← g6] at g2
  refine go_aload_n d_L_law_280 rfl ?_
  refine go_aload_n d_L_law_281 rfl ?_
  refine go_iload d_L_law_282 rfl ?_
  refine go_iconst (v := 1) d_L_law_284 (by decide) ?_
  refine go_iadd d_L_law_285 ?_
  refine go_top (nI (4 * i + 1)) (nI_add (4 * i) 1) ?_
  refine go_scr (4 * i + 1) d_L_law_286 eL (by omega) hL ?_
  refine go_aload_n d_L_law_287 rfl ?_
  refine go_callW (k2 := m_L_input) (As := [.ref 0, .int (I 1000 (4 * i + 1)), .ref 103]) (r := some (.int k)) d_L_law_288 ok_L_input sl_L_95 rfl rfl (Nat.le_of_ble_eq_true rfl) (Nat.le_of_ble_eq_true rfl) (show cu + 2 ≤ 601024 by omega) (show su + 12 ≤ 7293034 by omega) (lt_L h5 h6 rfl) rfl g1 ?_
  refine go_istore d_L_law_291 (Nat.le_of_ble_eq_true rfl) rfl ?_
  refine go_aload_n d_L_law_293 rfl ?_
  refine go_aload_n d_L_law_294 rfl ?_
  refine go_iload d_L_law_295 rfl ?_
  refine go_iconst (v := 1) d_L_law_297 (by decide) ?_
  refine go_iadd d_L_law_298 ?_
  refine go_top (nI (4 * i + 1)) (nI_add (4 * i) 1) ?_
  refine go_scr (4 * i + 1) d_L_law_299 eL1 (by omega) hL ?_
  refine go_callV (k2 := m_M_input) (As := [.int (I1 1000 (4 * i + 1))]) (r := some (.int r)) d_L_law_300 ok_M_input (Nat.le_of_ble_eq_true rfl) rfl pc_M rfl vl_L_98 rfl rfl (Nat.le_of_ble_eq_true rfl) (Nat.le_of_ble_eq_true rfl) (show cu + 2 + 0 ≤ 601024 by omega) (show su + 12 + 0 ≤ 7293034 by omega) (lt_L rfl h6 rfl) rfl g2 ?_
  refine go_istore d_L_law_303 (Nat.le_of_ble_eq_true rfl) rfl ?_
  refine go_aload_n d_L_law_305 rfl ?_
  refine go_callV (k2 := m_M_thrown) (As := []) (r := some (.int k)) d_L_law_306 ok_M_thrown (Nat.le_of_ble_eq_true rfl) rfl pc_M rfl vl_L_88 rfl rfl (Nat.le_of_ble_eq_true rfl) (Nat.le_of_ble_eq_true rfl) (show cu + 2 + 0 + 0 ≤ 601024 by omega) (show su + 12 + 0 + 0 ≤ 7293034 by omega) (lt_L rfl rfl rfl) rfl (sp_M_thrown g3) ?_
  refine go_iload d_L_law_309 rfl ?_
  refine go_icmp_eq (tgt := 316) d_L_law_311 (by decide) (fun z => ?_) (fun z => absurd rfl z)
  refine go_iload d_L_law_316 rfl ?_
  by_cases hk : k = 0
  · refine go_if_ne (tgt := 333) d_L_law_318 (by decide) (fun z => absurd hk z) (fun z => ?_)
    refine go_aload_n d_L_law_321 rfl ?_
    refine go_iconst (v := 0) d_L_law_322 (by decide) ?_
    refine go_lald 0 r.toInt64 d_L_law_323 (Nat.le_of_ble_eq_true rfl) rfl rfl (by decide) (by decide) (g4 hk) ?_
    refine go_iload d_L_law_324 rfl ?_
    refine go_i2l d_L_law_326 ?_
    refine go_lcmp d_L_law_327 ?_
    refine go_top 0 (lc_0 _) ?_
    refine go_if_eq (tgt := 333) d_L_law_328 (by decide) (fun z => ?_) (fun z => absurd rfl z)
    refine go_goto (tgt := 1267) d_L_law_333 (by decide) ?_
    exact ho
  · refine go_if_ne (tgt := 333) d_L_law_318 (by decide) (fun z => ?_) (fun z => absurd z hk)
    refine go_goto (tgt := 1267) d_L_law_333 (by decide) ?_
    exact ho
theorem lw_c3 {L i cu su : Nat} {w5 w6 : Option Value} (hW : LW RT I J) (eL : I 1001 0 = nI L) (hi : 4 * i + 4 ≤ L) (hL : L ≤ 2048) (hcu : cu ≤ 600000) (hsu : su ≤ 7000000) (h5 : okW w5 = true) (h6 : okW w6 = true) : ∃ I' J' w5' w6' cu' su', LW RT I' J' ∧ I' 1000 = I 1000 ∧ I' 1001 = I 1001 ∧ okW w5' = true ∧ okW w6' = true ∧ cu' ≤ cu + 3 ∧ su' ≤ su + 18 ∧ ∀ out, pm_Go 11 m_L_law 1267 [some (.ref 1000), some (.ref 0), some (.ref 69), some (.ref 103), some (.int (nI (4 * i))), w5', w6', none] [] cu' su' (ST I' J') out → pm_Go 11 m_L_law 336 [some (.ref 1000), some (.ref 0), some (.ref 69), some (.ref 103), some (.int (nI (4 * i))), w5, w6, none] [] cu su (ST I J) out := by
  obtain ⟨k, r, I1, J1, I2, g1, g2, g3, g4, g9, g5, ⟨g6, g6b⟩, g7, g8⟩ := op_output hW (I 1000 (4 * i + 1))
  have eL1 : I1 1001 0 = nI L := by rw [g6b]; exact eL
  refine ⟨I2, J1, some (.int k), some (.int r), cu + 2 + 0 + 0, su + 12 + 0 + 0, g5, g7, g8, rfl, rfl, by omega, by omega, fun out ho => ?_⟩
  rw [← g6] at g2
  refine go_aload_n d_L_law_336 rfl ?_
  refine go_aload_n d_L_law_337 rfl ?_
  refine go_iload d_L_law_338 rfl ?_
  refine go_iconst (v := 1) d_L_law_340 (by decide) ?_
  refine go_iadd d_L_law_341 ?_
  refine go_top (nI (4 * i + 1)) (nI_add (4 * i) 1) ?_
  refine go_scr (4 * i + 1) d_L_law_342 eL (by omega) hL ?_
  refine go_aload_n d_L_law_343 rfl ?_
  refine go_callW (k2 := m_L_output) (As := [.ref 0, .int (I 1000 (4 * i + 1)), .ref 103]) (r := some (.int k)) d_L_law_344 ok_L_output sl_L_99 rfl rfl (Nat.le_of_ble_eq_true rfl) (Nat.le_of_ble_eq_true rfl) (show cu + 2 ≤ 601024 by omega) (show su + 12 ≤ 7293034 by omega) (lt_L h5 h6 rfl) rfl g1 ?_
  refine go_istore d_L_law_347 (Nat.le_of_ble_eq_true rfl) rfl ?_
  refine go_aload_n d_L_law_349 rfl ?_
  refine go_aload_n d_L_law_350 rfl ?_
  refine go_iload d_L_law_351 rfl ?_
  refine go_iconst (v := 1) d_L_law_353 (by decide) ?_
  refine go_iadd d_L_law_354 ?_
  refine go_top (nI (4 * i + 1)) (nI_add (4 * i) 1) ?_
  refine go_scr (4 * i + 1) d_L_law_355 eL1 (by omega) hL ?_
  refine go_callV (k2 := m_M_output) (As := [.int (I1 1000 (4 * i + 1))]) (r := some (.int r)) d_L_law_356 ok_M_output (Nat.le_of_ble_eq_true rfl) rfl pc_M rfl vl_L_101 rfl rfl (Nat.le_of_ble_eq_true rfl) (Nat.le_of_ble_eq_true rfl) (show cu + 2 + 0 ≤ 601024 by omega) (show su + 12 + 0 ≤ 7293034 by omega) (lt_L rfl h6 rfl) rfl g2 ?_
  refine go_istore d_L_law_359 (Nat.le_of_ble_eq_true rfl) rfl ?_
  refine go_aload_n d_L_law_361 rfl ?_
  refine go_callV (k2 := m_M_thrown) (As := []) (r := some (.int k)) d_L_law_362 ok_M_thrown (Nat.le_of_ble_eq_true rfl) rfl pc_M rfl vl_L_88 rfl rfl (Nat.le_of_ble_eq_true rfl) (Nat.le_of_ble_eq_true rfl) (show cu + 2 + 0 + 0 ≤ 601024 by omega) (show su + 12 + 0 + 0 ≤ 7293034 by omega) (lt_L rfl rfl rfl) rfl (sp_M_thrown g3) ?_
  refine go_iload d_L_law_365 rfl ?_
  refine go_icmp_eq (tgt := 372) d_L_law_367 (by decide) (fun z => ?_) (fun z => absurd rfl z)
  refine go_iload d_L_law_372 rfl ?_
  by_cases hk : k = 0
  · refine go_if_ne (tgt := 389) d_L_law_374 (by decide) (fun z => absurd hk z) (fun z => ?_)
    refine go_aload_n d_L_law_377 rfl ?_
    refine go_iconst (v := 0) d_L_law_378 (by decide) ?_
    refine go_lald 0 r.toInt64 d_L_law_379 (Nat.le_of_ble_eq_true rfl) rfl rfl (by decide) (by decide) (g4 hk) ?_
    refine go_iload d_L_law_380 rfl ?_
    refine go_i2l d_L_law_382 ?_
    refine go_lcmp d_L_law_383 ?_
    refine go_top 0 (lc_0 _) ?_
    refine go_if_eq (tgt := 389) d_L_law_384 (by decide) (fun z => ?_) (fun z => absurd rfl z)
    refine go_goto (tgt := 1267) d_L_law_389 (by decide) ?_
    exact ho
  · refine go_if_ne (tgt := 389) d_L_law_374 (by decide) (fun z => ?_) (fun z => absurd z hk)
    refine go_goto (tgt := 1267) d_L_law_389 (by decide) ?_
    exact ho
theorem lw_c4 {L i cu su : Nat} {w5 w6 : Option Value} (hW : LW RT I J) (eL : I 1001 0 = nI L) (hi : 4 * i + 4 ≤ L) (hL : L ≤ 2048) (hcu : cu ≤ 600000) (hsu : su ≤ 7000000) (h5 : okW w5 = true) (h6 : okW w6 = true) : ∃ I' J' w5' w6' cu' su', LW RT I' J' ∧ I' 1000 = I 1000 ∧ I' 1001 = I 1001 ∧ okW w5' = true ∧ okW w6' = true ∧ cu' ≤ cu + 3 ∧ su' ≤ su + 18 ∧ ∀ out, pm_Go 11 m_L_law 1267 [some (.ref 1000), some (.ref 0), some (.ref 69), some (.ref 103), some (.int (nI (4 * i))), w5', w6', none] [] cu' su' (ST I' J') out → pm_Go 11 m_L_law 392 [some (.ref 1000), some (.ref 0), some (.ref 69), some (.ref 103), some (.int (nI (4 * i))), w5, w6, none] [] cu su (ST I J) out := by
  obtain ⟨k, r, I1, J1, I2, g1, g2, g3, g4, g9, g5, ⟨g6, g6b⟩, g7, g8⟩ := op_buffers hW (I 1000 (4 * i + 1)) (I 1000 (4 * i + 2))
  have eL1 : I1 1001 0 = nI L := by rw [g6b]; exact eL
  refine ⟨I2, J1, some (.int k), some (.int r), cu + 3 + 0 + 0, su + 18 + 0 + 0, g5, g7, g8, rfl, rfl, by omega, by omega, fun out ho => ?_⟩
  rw [← g6] at g2
  refine go_aload_n d_L_law_392 rfl ?_
  refine go_aload_n d_L_law_393 rfl ?_
  refine go_iload d_L_law_394 rfl ?_
  refine go_iconst (v := 1) d_L_law_396 (by decide) ?_
  refine go_iadd d_L_law_397 ?_
  refine go_top (nI (4 * i + 1)) (nI_add (4 * i) 1) ?_
  refine go_scr (4 * i + 1) d_L_law_398 eL (by omega) hL ?_
  refine go_aload_n d_L_law_399 rfl ?_
  refine go_iload d_L_law_400 rfl ?_
  refine go_iconst (v := 2) d_L_law_402 (by decide) ?_
  refine go_iadd d_L_law_403 ?_
  refine go_top (nI (4 * i + 2)) (nI_add (4 * i) 2) ?_
  refine go_scr (4 * i + 2) d_L_law_404 eL (by omega) hL ?_
  refine go_aload_n d_L_law_405 rfl ?_
  refine go_callW (k2 := m_L_buffers) (As := [.ref 0, .int (I 1000 (4 * i + 1)), .int (I 1000 (4 * i + 2)), .ref 103]) (r := some (.int k)) d_L_law_406 ok_L_buffers sl_L_102 rfl rfl (Nat.le_of_ble_eq_true rfl) (Nat.le_of_ble_eq_true rfl) (show cu + 3 ≤ 601024 by omega) (show su + 18 ≤ 7293034 by omega) (lt_L h5 h6 rfl) rfl g1 ?_
  refine go_istore d_L_law_409 (Nat.le_of_ble_eq_true rfl) rfl ?_
  refine go_aload_n d_L_law_411 rfl ?_
  refine go_aload_n d_L_law_412 rfl ?_
  refine go_iload d_L_law_413 rfl ?_
  refine go_iconst (v := 1) d_L_law_415 (by decide) ?_
  refine go_iadd d_L_law_416 ?_
  refine go_top (nI (4 * i + 1)) (nI_add (4 * i) 1) ?_
  refine go_scr (4 * i + 1) d_L_law_417 eL1 (by omega) hL ?_
  refine go_aload_n d_L_law_418 rfl ?_
  refine go_iload d_L_law_419 rfl ?_
  refine go_iconst (v := 2) d_L_law_421 (by decide) ?_
  refine go_iadd d_L_law_422 ?_
  refine go_top (nI (4 * i + 2)) (nI_add (4 * i) 2) ?_
  refine go_scr (4 * i + 2) d_L_law_423 eL1 (by omega) hL ?_
  refine go_callV (k2 := m_M_buffers) (As := [.int (I1 1000 (4 * i + 1)), .int (I1 1000 (4 * i + 2))]) (r := some (.int r)) d_L_law_424 ok_M_buffers (Nat.le_of_ble_eq_true rfl) rfl pc_M rfl vl_L_104 rfl rfl (Nat.le_of_ble_eq_true rfl) (Nat.le_of_ble_eq_true rfl) (show cu + 3 + 0 ≤ 601024 by omega) (show su + 18 + 0 ≤ 7293034 by omega) (lt_L rfl h6 rfl) rfl g2 ?_
  refine go_istore d_L_law_427 (Nat.le_of_ble_eq_true rfl) rfl ?_
  refine go_aload_n d_L_law_429 rfl ?_
  refine go_callV (k2 := m_M_thrown) (As := []) (r := some (.int k)) d_L_law_430 ok_M_thrown (Nat.le_of_ble_eq_true rfl) rfl pc_M rfl vl_L_88 rfl rfl (Nat.le_of_ble_eq_true rfl) (Nat.le_of_ble_eq_true rfl) (show cu + 3 + 0 + 0 ≤ 601024 by omega) (show su + 18 + 0 + 0 ≤ 7293034 by omega) (lt_L rfl rfl rfl) rfl (sp_M_thrown g3) ?_
  refine go_iload d_L_law_433 rfl ?_
  refine go_icmp_eq (tgt := 440) d_L_law_435 (by decide) (fun z => ?_) (fun z => absurd rfl z)
  refine go_iload d_L_law_440 rfl ?_
  by_cases hk : k = 0
  · refine go_if_ne (tgt := 457) d_L_law_442 (by decide) (fun z => absurd hk z) (fun z => ?_)
    refine go_aload_n d_L_law_445 rfl ?_
    refine go_iconst (v := 0) d_L_law_446 (by decide) ?_
    refine go_lald 0 r.toInt64 d_L_law_447 (Nat.le_of_ble_eq_true rfl) rfl rfl (by decide) (by decide) (g4 hk) ?_
    refine go_iload d_L_law_448 rfl ?_
    refine go_i2l d_L_law_450 ?_
    refine go_lcmp d_L_law_451 ?_
    refine go_top 0 (lc_0 _) ?_
    refine go_if_eq (tgt := 457) d_L_law_452 (by decide) (fun z => ?_) (fun z => absurd rfl z)
    refine go_goto (tgt := 1267) d_L_law_457 (by decide) ?_
    exact ho
  · refine go_if_ne (tgt := 457) d_L_law_442 (by decide) (fun z => ?_) (fun z => absurd z hk)
    refine go_goto (tgt := 1267) d_L_law_457 (by decide) ?_
    exact ho
theorem lw_c5 {L i cu su : Nat} {w5 w6 : Option Value} (hR : RateM RT) (hW : LW RT I J) (eL : I 1001 0 = nI L) (hi : 4 * i + 4 ≤ L) (hL : L ≤ 2048) (hcu : cu ≤ 600000) (hsu : su ≤ 7000000) (h5 : okW w5 = true) (h6 : okW w6 = true) : ∃ I' J' w5' w6' cu' su', LW RT I' J' ∧ I' 1000 = I 1000 ∧ I' 1001 = I 1001 ∧ okW w5' = true ∧ okW w6' = true ∧ cu' ≤ cu + 3 ∧ su' ≤ su + 18 ∧ ∀ out, pm_Go 11 m_L_law 1267 [some (.ref 1000), some (.ref 0), some (.ref 69), some (.ref 103), some (.int (nI (4 * i))), w5', w6', none] [] cu' su' (ST I' J') out → pm_Go 11 m_L_law 460 [some (.ref 1000), some (.ref 0), some (.ref 69), some (.ref 103), some (.int (nI (4 * i))), w5, w6, none] [] cu su (ST I J) out := by
  obtain ⟨k, r, I1, J1, I2, g1, g2, g3, g4, g9, g5, ⟨g6, g6b⟩, g7, g8⟩ := op_build hR hW 
  have eL1 : I1 1001 0 = nI L := by rw [g6b]; exact eL
  refine ⟨I2, J1, some (.int k), some (.int r), cu + 1 + 0 + 0, su + 6 + 0 + 0, g5, g7, g8, rfl, rfl, by omega, by omega, fun out ho => ?_⟩
  skip
  refine go_aload_n d_L_law_460 rfl ?_
  refine go_aload_n d_L_law_461 rfl ?_
  refine go_callW (k2 := m_L_build) (As := [.ref 0, .ref 103]) (r := some (.int k)) d_L_law_462 ok_L_build sl_L_105 rfl rfl (Nat.le_of_ble_eq_true rfl) (Nat.le_of_ble_eq_true rfl) (show cu + 1 ≤ 601024 by omega) (show su + 6 ≤ 7293034 by omega) (lt_L h5 h6 rfl) rfl g1 ?_
  refine go_istore d_L_law_465 (Nat.le_of_ble_eq_true rfl) rfl ?_
  refine go_aload_n d_L_law_467 rfl ?_
  refine go_callV (k2 := m_M_build) (As := []) (r := some (.int r)) d_L_law_468 ok_M_build (Nat.le_of_ble_eq_true rfl) rfl pc_M rfl vl_L_108 rfl rfl (Nat.le_of_ble_eq_true rfl) (Nat.le_of_ble_eq_true rfl) (show cu + 1 + 0 ≤ 601024 by omega) (show su + 6 + 0 ≤ 7293034 by omega) (lt_L rfl h6 rfl) rfl g2 ?_
  refine go_istore d_L_law_471 (Nat.le_of_ble_eq_true rfl) rfl ?_
  refine go_aload_n d_L_law_473 rfl ?_
  refine go_callV (k2 := m_M_thrown) (As := []) (r := some (.int k)) d_L_law_474 ok_M_thrown (Nat.le_of_ble_eq_true rfl) rfl pc_M rfl vl_L_88 rfl rfl (Nat.le_of_ble_eq_true rfl) (Nat.le_of_ble_eq_true rfl) (show cu + 1 + 0 + 0 ≤ 601024 by omega) (show su + 6 + 0 + 0 ≤ 7293034 by omega) (lt_L rfl rfl rfl) rfl (sp_M_thrown g3) ?_
  refine go_iload d_L_law_477 rfl ?_
  refine go_icmp_eq (tgt := 484) d_L_law_479 (by decide) (fun z => ?_) (fun z => absurd rfl z)
  refine go_iload d_L_law_484 rfl ?_
  by_cases hk : k = 0
  · refine go_if_ne (tgt := 501) d_L_law_486 (by decide) (fun z => absurd hk z) (fun z => ?_)
    refine go_aload_n d_L_law_489 rfl ?_
    refine go_iconst (v := 0) d_L_law_490 (by decide) ?_
    refine go_lald 0 r.toInt64 d_L_law_491 (Nat.le_of_ble_eq_true rfl) rfl rfl (by decide) (by decide) (g4 hk) ?_
    refine go_iload d_L_law_492 rfl ?_
    refine go_i2l d_L_law_494 ?_
    refine go_lcmp d_L_law_495 ?_
    refine go_top 0 (lc_0 _) ?_
    refine go_if_eq (tgt := 501) d_L_law_496 (by decide) (fun z => ?_) (fun z => absurd rfl z)
    refine go_goto (tgt := 1267) d_L_law_501 (by decide) ?_
    exact ho
  · refine go_if_ne (tgt := 501) d_L_law_486 (by decide) (fun z => ?_) (fun z => absurd z hk)
    refine go_goto (tgt := 1267) d_L_law_501 (by decide) ?_
    exact ho
theorem lw_c6 {L i cu su : Nat} {w5 w6 : Option Value} (hW : LW RT I J) (eL : I 1001 0 = nI L) (hi : 4 * i + 4 ≤ L) (hL : L ≤ 2048) (hcu : cu ≤ 600000) (hsu : su ≤ 7000000) (h5 : okW w5 = true) (h6 : okW w6 = true) : ∃ I' J' w5' w6' cu' su', LW RT I' J' ∧ I' 1000 = I 1000 ∧ I' 1001 = I 1001 ∧ okW w5' = true ∧ okW w6' = true ∧ cu' ≤ cu + 3 ∧ su' ≤ su + 18 ∧ ∀ out, pm_Go 11 m_L_law 1267 [some (.ref 1000), some (.ref 0), some (.ref 69), some (.ref 103), some (.int (nI (4 * i))), w5', w6', none] [] cu' su' (ST I' J') out → pm_Go 11 m_L_law 504 [some (.ref 1000), some (.ref 0), some (.ref 69), some (.ref 103), some (.int (nI (4 * i))), w5, w6, none] [] cu su (ST I J) out := by
  obtain ⟨r, I1, I2, g1, g2, g5, g7, g8⟩ := op_clear hW
  refine ⟨I2, J, w5, w6, cu + 0 + 0, su + 0 + 0, g5, g7, g8, h5, h6, by omega, by omega, fun out ho => ?_⟩
  skip
  refine go_aload_n d_L_law_504 rfl ?_
  refine go_callV (k2 := m_E_clear) (As := []) (r := some (.int r)) d_L_law_505 ok_E_clear (Nat.le_of_ble_eq_true rfl) rfl pc_E rfl vl_L_109 rfl rfl (Nat.le_of_ble_eq_true rfl) (Nat.le_of_ble_eq_true rfl) (show cu + 0 ≤ 601024 by omega) (show su + 0 ≤ 7293034 by omega) (lt_L h5 h6 rfl) rfl g1 ?_
  refine go_aload_n d_L_law_508 rfl ?_
  refine go_callV (k2 := m_M_clear) (As := []) (r := some (.int r)) d_L_law_509 ok_M_clear (Nat.le_of_ble_eq_true rfl) rfl pc_M rfl vl_L_112 rfl rfl (Nat.le_of_ble_eq_true rfl) (Nat.le_of_ble_eq_true rfl) (show cu + 0 + 0 ≤ 601024 by omega) (show su + 0 + 0 ≤ 7293034 by omega) (lt_L h5 h6 rfl) rfl g2 ?_
  refine go_icmp_eq (tgt := 1267) d_L_law_512 (by decide) (fun z => ?_) (fun z => absurd rfl z)
  exact ho
theorem lw_c7 {L i cu su : Nat} {w5 w6 : Option Value} (hW : LW RT I J) (eL : I 1001 0 = nI L) (hi : 4 * i + 4 ≤ L) (hL : L ≤ 2048) (hcu : cu ≤ 600000) (hsu : su ≤ 7000000) (h5 : okW w5 = true) (h6 : okW w6 = true) : ∃ I' J' w5' w6' cu' su', LW RT I' J' ∧ I' 1000 = I 1000 ∧ I' 1001 = I 1001 ∧ okW w5' = true ∧ okW w6' = true ∧ cu' ≤ cu + 3 ∧ su' ≤ su + 18 ∧ ∀ out, pm_Go 11 m_L_law 1267 [some (.ref 1000), some (.ref 0), some (.ref 69), some (.ref 103), some (.int (nI (4 * i))), w5', w6', none] [] cu' su' (ST I' J') out → pm_Go 11 m_L_law 517 [some (.ref 1000), some (.ref 0), some (.ref 69), some (.ref 103), some (.int (nI (4 * i))), w5, w6, none] [] cu su (ST I J) out := by
  obtain ⟨k, I1, I2, g1, g2, g3, g5, g7, g8⟩ := op_restart hW
  refine ⟨I2, J, some (.int k), w6, cu + 1 + 0 + 0, su + 6 + 0 + 0, g5, g7, g8, rfl, h6, by omega, by omega, fun out ho => ?_⟩
  skip
  refine go_aload_n d_L_law_517 rfl ?_
  refine go_callW (k2 := m_L_restart) (As := [.ref 0]) (r := some (.int k)) d_L_law_518 ok_L_restart sl_L_113 rfl rfl (Nat.le_of_ble_eq_true rfl) (Nat.le_of_ble_eq_true rfl) (show cu + 1 ≤ 601024 by omega) (show su + 6 ≤ 7293034 by omega) (lt_L h5 h6 rfl) rfl g1 ?_
  refine go_istore d_L_law_521 (Nat.le_of_ble_eq_true rfl) rfl ?_
  refine go_aload_n d_L_law_523 rfl ?_
  refine go_callV (k2 := m_M_restart) (As := []) (r := none) d_L_law_524 ok_M_restart (Nat.le_of_ble_eq_true rfl) rfl pc_M rfl vl_L_116 rfl rfl (Nat.le_of_ble_eq_true rfl) (Nat.le_of_ble_eq_true rfl) (show cu + 1 + 0 ≤ 601024 by omega) (show su + 6 + 0 ≤ 7293034 by omega) (lt_L rfl h6 rfl) rfl g2 ?_
  refine go_aload_n d_L_law_527 rfl ?_
  refine go_callV (k2 := m_M_thrown) (As := []) (r := some (.int k)) d_L_law_528 ok_M_thrown (Nat.le_of_ble_eq_true rfl) rfl pc_M rfl vl_L_88 rfl rfl (Nat.le_of_ble_eq_true rfl) (Nat.le_of_ble_eq_true rfl) (show cu + 1 + 0 + 0 ≤ 601024 by omega) (show su + 6 + 0 + 0 ≤ 7293034 by omega) (lt_L rfl h6 rfl) rfl (sp_M_thrown g3) ?_
  refine go_iload d_L_law_531 rfl ?_
  refine go_icmp_eq (tgt := 538) d_L_law_533 (by decide) (fun z => ?_) (fun z => absurd rfl z)
  refine go_goto (tgt := 1267) d_L_law_538 (by decide) ?_
  exact ho
theorem lw_c8 {L i cu su : Nat} {w5 w6 : Option Value} (hW : LW RT I J) (eL : I 1001 0 = nI L) (hi : 4 * i + 4 ≤ L) (hL : L ≤ 2048) (hcu : cu ≤ 600000) (hsu : su ≤ 7000000) (h5 : okW w5 = true) (h6 : okW w6 = true) : ∃ I' J' w5' w6' cu' su', LW RT I' J' ∧ I' 1000 = I 1000 ∧ I' 1001 = I 1001 ∧ okW w5' = true ∧ okW w6' = true ∧ cu' ≤ cu + 3 ∧ su' ≤ su + 18 ∧ ∀ out, pm_Go 11 m_L_law 1267 [some (.ref 1000), some (.ref 0), some (.ref 69), some (.ref 103), some (.int (nI (4 * i))), w5', w6', none] [] cu' su' (ST I' J') out → pm_Go 11 m_L_law 541 [some (.ref 1000), some (.ref 0), some (.ref 69), some (.ref 103), some (.int (nI (4 * i))), w5, w6, none] [] cu su (ST I J) out := by
  obtain ⟨k, r, I1, J1, I2, g1, g2, g3, g4, g9, g5, ⟨g6, g6b⟩, g7, g8⟩ := op_offer hW (I 1000 (4 * i + 1)) (I 1000 (4 * i + 2))
  have eL1 : I1 1001 0 = nI L := by rw [g6b]; exact eL
  refine ⟨I2, J1, some (.int k), some (.int r), cu + 2 + 0 + 0, su + 12 + 0 + 0, g5, g7, g8, rfl, rfl, by omega, by omega, fun out ho => ?_⟩
  rw [← g6] at g2
  refine go_aload_n d_L_law_541 rfl ?_
  refine go_aload_n d_L_law_542 rfl ?_
  refine go_iload d_L_law_543 rfl ?_
  refine go_iconst (v := 1) d_L_law_545 (by decide) ?_
  refine go_iadd d_L_law_546 ?_
  refine go_top (nI (4 * i + 1)) (nI_add (4 * i) 1) ?_
  refine go_scr (4 * i + 1) d_L_law_547 eL (by omega) hL ?_
  refine go_aload_n d_L_law_548 rfl ?_
  refine go_iload d_L_law_549 rfl ?_
  refine go_iconst (v := 2) d_L_law_551 (by decide) ?_
  refine go_iadd d_L_law_552 ?_
  refine go_top (nI (4 * i + 2)) (nI_add (4 * i) 2) ?_
  refine go_scr (4 * i + 2) d_L_law_553 eL (by omega) hL ?_
  refine go_aload_n d_L_law_554 rfl ?_
  refine go_callW (k2 := m_L_offer) (As := [.ref 0, .int (I 1000 (4 * i + 1)), .int (I 1000 (4 * i + 2)), .ref 103]) (r := some (.int k)) d_L_law_555 ok_L_offer sl_L_117 rfl rfl (Nat.le_of_ble_eq_true rfl) (Nat.le_of_ble_eq_true rfl) (show cu + 2 ≤ 601024 by omega) (show su + 12 ≤ 7293034 by omega) (lt_L h5 h6 rfl) rfl g1 ?_
  refine go_istore d_L_law_558 (Nat.le_of_ble_eq_true rfl) rfl ?_
  refine go_aload_n d_L_law_560 rfl ?_
  refine go_aload_n d_L_law_561 rfl ?_
  refine go_iload d_L_law_562 rfl ?_
  refine go_iconst (v := 1) d_L_law_564 (by decide) ?_
  refine go_iadd d_L_law_565 ?_
  refine go_top (nI (4 * i + 1)) (nI_add (4 * i) 1) ?_
  refine go_scr (4 * i + 1) d_L_law_566 eL1 (by omega) hL ?_
  refine go_aload_n d_L_law_567 rfl ?_
  refine go_iload d_L_law_568 rfl ?_
  refine go_iconst (v := 2) d_L_law_570 (by decide) ?_
  refine go_iadd d_L_law_571 ?_
  refine go_top (nI (4 * i + 2)) (nI_add (4 * i) 2) ?_
  refine go_scr (4 * i + 2) d_L_law_572 eL1 (by omega) hL ?_
  refine go_callV (k2 := m_M_offer) (As := [.int (I1 1000 (4 * i + 1)), .int (I1 1000 (4 * i + 2))]) (r := some (.int r)) d_L_law_573 ok_M_offer (Nat.le_of_ble_eq_true rfl) rfl pc_M rfl vl_L_119 rfl rfl (Nat.le_of_ble_eq_true rfl) (Nat.le_of_ble_eq_true rfl) (show cu + 2 + 0 ≤ 601024 by omega) (show su + 12 + 0 ≤ 7293034 by omega) (lt_L rfl h6 rfl) rfl g2 ?_
  refine go_istore d_L_law_576 (Nat.le_of_ble_eq_true rfl) rfl ?_
  refine go_aload_n d_L_law_578 rfl ?_
  refine go_callV (k2 := m_M_thrown) (As := []) (r := some (.int k)) d_L_law_579 ok_M_thrown (Nat.le_of_ble_eq_true rfl) rfl pc_M rfl vl_L_88 rfl rfl (Nat.le_of_ble_eq_true rfl) (Nat.le_of_ble_eq_true rfl) (show cu + 2 + 0 + 0 ≤ 601024 by omega) (show su + 12 + 0 + 0 ≤ 7293034 by omega) (lt_L rfl rfl rfl) rfl (sp_M_thrown g3) ?_
  refine go_iload d_L_law_582 rfl ?_
  refine go_icmp_eq (tgt := 589) d_L_law_584 (by decide) (fun z => ?_) (fun z => absurd rfl z)
  refine go_iload d_L_law_589 rfl ?_
  by_cases hk : k = 0
  · refine go_if_ne (tgt := 613) d_L_law_591 (by decide) (fun z => absurd hk z) (fun z => ?_)
    refine go_aload_n d_L_law_594 rfl ?_
    refine go_iconst (v := 0) d_L_law_595 (by decide) ?_
    refine go_lald 0 r.toInt64 d_L_law_596 (Nat.le_of_ble_eq_true rfl) rfl rfl (by decide) (by decide) (g4 hk) ?_
    refine go_iload d_L_law_597 rfl ?_
    rcases g9 hk with hr | hr
    · subst hr
      refine go_if_eq (tgt := 606) d_L_law_599 (by decide) (fun z => ?_) (fun z => absurd rfl z)
      refine go_lconst (v := 0) d_L_law_606 (by decide) ?_
      refine go_lcmp d_L_law_607 ?_
      refine go_top 0 (by decide +kernel) ?_
      refine go_if_eq (tgt := 613) d_L_law_608 (by decide) (fun z => ?_) (fun z => absurd rfl z)
      refine go_goto (tgt := 1267) d_L_law_613 (by decide) ?_
      exact ho
    · subst hr
      refine go_if_eq (tgt := 606) d_L_law_599 (by decide) (fun z => absurd z (by decide)) (fun z => ?_)
      refine go_lconst (v := 1) d_L_law_602 (by decide) ?_
      refine go_goto (tgt := 607) d_L_law_603 (by decide) ?_
      refine go_lcmp d_L_law_607 ?_
      refine go_top 0 (by decide +kernel) ?_
      refine go_if_eq (tgt := 613) d_L_law_608 (by decide) (fun z => ?_) (fun z => absurd rfl z)
      refine go_goto (tgt := 1267) d_L_law_613 (by decide) ?_
      exact ho
  · refine go_if_ne (tgt := 613) d_L_law_591 (by decide) (fun z => ?_) (fun z => absurd z hk)
    refine go_goto (tgt := 1267) d_L_law_613 (by decide) ?_
    exact ho
theorem lw_c9 {L i cu su : Nat} {w5 w6 : Option Value} (hW : LW RT I J) (eL : I 1001 0 = nI L) (hi : 4 * i + 4 ≤ L) (hL : L ≤ 2048) (hcu : cu ≤ 600000) (hsu : su ≤ 7000000) (h5 : okW w5 = true) (h6 : okW w6 = true) : ∃ I' J' w5' w6' cu' su', LW RT I' J' ∧ I' 1000 = I 1000 ∧ I' 1001 = I 1001 ∧ okW w5' = true ∧ okW w6' = true ∧ cu' ≤ cu + 3 ∧ su' ≤ su + 18 ∧ ∀ out, pm_Go 11 m_L_law 1267 [some (.ref 1000), some (.ref 0), some (.ref 69), some (.ref 103), some (.int (nI (4 * i))), w5', w6', none] [] cu' su' (ST I' J') out → pm_Go 11 m_L_law 616 [some (.ref 1000), some (.ref 0), some (.ref 69), some (.ref 103), some (.int (nI (4 * i))), w5, w6, none] [] cu su (ST I J) out := by
  obtain ⟨k, r, I1, J1, I2, g1, g2, g3, g4, g9, g5, ⟨g6, g6b⟩, g7, g8⟩ := op_tick hW (I 1000 (4 * i + 1))
  have eL1 : I1 1001 0 = nI L := by rw [g6b]; exact eL
  refine ⟨I2, J1, some (.int k), some (.int r), cu + 1 + 0 + 0, su + 6 + 0 + 0, g5, g7, g8, rfl, rfl, by omega, by omega, fun out ho => ?_⟩
  rw [← g6] at g2
  refine go_aload_n d_L_law_616 rfl ?_
  refine go_aload_n d_L_law_617 rfl ?_
  refine go_iload d_L_law_618 rfl ?_
  refine go_iconst (v := 1) d_L_law_620 (by decide) ?_
  refine go_iadd d_L_law_621 ?_
  refine go_top (nI (4 * i + 1)) (nI_add (4 * i) 1) ?_
  refine go_scr (4 * i + 1) d_L_law_622 eL (by omega) hL ?_
  refine go_aload_n d_L_law_623 rfl ?_
  refine go_callW (k2 := m_L_tick) (As := [.ref 0, .int (I 1000 (4 * i + 1)), .ref 103]) (r := some (.int k)) d_L_law_624 ok_L_tick sl_L_120 rfl rfl (Nat.le_of_ble_eq_true rfl) (Nat.le_of_ble_eq_true rfl) (show cu + 1 ≤ 601024 by omega) (show su + 6 ≤ 7293034 by omega) (lt_L h5 h6 rfl) rfl g1 ?_
  refine go_istore d_L_law_627 (Nat.le_of_ble_eq_true rfl) rfl ?_
  refine go_aload_n d_L_law_629 rfl ?_
  refine go_aload_n d_L_law_630 rfl ?_
  refine go_iload d_L_law_631 rfl ?_
  refine go_iconst (v := 1) d_L_law_633 (by decide) ?_
  refine go_iadd d_L_law_634 ?_
  refine go_top (nI (4 * i + 1)) (nI_add (4 * i) 1) ?_
  refine go_scr (4 * i + 1) d_L_law_635 eL1 (by omega) hL ?_
  refine go_callV (k2 := m_M_tick) (As := [.int (I1 1000 (4 * i + 1))]) (r := some (.int r)) d_L_law_636 ok_M_tick (Nat.le_of_ble_eq_true rfl) rfl pc_M rfl vl_L_122 rfl rfl (Nat.le_of_ble_eq_true rfl) (Nat.le_of_ble_eq_true rfl) (show cu + 1 + 0 ≤ 601024 by omega) (show su + 6 + 0 ≤ 7293034 by omega) (lt_L rfl h6 rfl) rfl g2 ?_
  refine go_istore d_L_law_639 (Nat.le_of_ble_eq_true rfl) rfl ?_
  refine go_aload_n d_L_law_641 rfl ?_
  refine go_callV (k2 := m_M_thrown) (As := []) (r := some (.int k)) d_L_law_642 ok_M_thrown (Nat.le_of_ble_eq_true rfl) rfl pc_M rfl vl_L_88 rfl rfl (Nat.le_of_ble_eq_true rfl) (Nat.le_of_ble_eq_true rfl) (show cu + 1 + 0 + 0 ≤ 601024 by omega) (show su + 6 + 0 + 0 ≤ 7293034 by omega) (lt_L rfl rfl rfl) rfl (sp_M_thrown g3) ?_
  refine go_iload d_L_law_645 rfl ?_
  refine go_icmp_eq (tgt := 652) d_L_law_647 (by decide) (fun z => ?_) (fun z => absurd rfl z)
  refine go_iload d_L_law_652 rfl ?_
  by_cases hk : k = 0
  · refine go_if_ne (tgt := 669) d_L_law_654 (by decide) (fun z => absurd hk z) (fun z => ?_)
    refine go_aload_n d_L_law_657 rfl ?_
    refine go_iconst (v := 0) d_L_law_658 (by decide) ?_
    refine go_lald 0 r.toInt64 d_L_law_659 (Nat.le_of_ble_eq_true rfl) rfl rfl (by decide) (by decide) (g4 hk) ?_
    refine go_iload d_L_law_660 rfl ?_
    refine go_i2l d_L_law_662 ?_
    refine go_lcmp d_L_law_663 ?_
    refine go_top 0 (lc_0 _) ?_
    refine go_if_eq (tgt := 669) d_L_law_664 (by decide) (fun z => ?_) (fun z => absurd rfl z)
    refine go_goto (tgt := 1267) d_L_law_669 (by decide) ?_
    exact ho
  · refine go_if_ne (tgt := 669) d_L_law_654 (by decide) (fun z => ?_) (fun z => absurd z hk)
    refine go_goto (tgt := 1267) d_L_law_669 (by decide) ?_
    exact ho
theorem lw_c10 {L i cu su : Nat} {w5 w6 : Option Value} (hW : LW RT I J) (eL : I 1001 0 = nI L) (hi : 4 * i + 4 ≤ L) (hL : L ≤ 2048) (hcu : cu ≤ 600000) (hsu : su ≤ 7000000) (h5 : okW w5 = true) (h6 : okW w6 = true) : ∃ I' J' w5' w6' cu' su', LW RT I' J' ∧ I' 1000 = I 1000 ∧ I' 1001 = I 1001 ∧ okW w5' = true ∧ okW w6' = true ∧ cu' ≤ cu + 3 ∧ su' ≤ su + 18 ∧ ∀ out, pm_Go 11 m_L_law 1267 [some (.ref 1000), some (.ref 0), some (.ref 69), some (.ref 103), some (.int (nI (4 * i))), w5', w6', none] [] cu' su' (ST I' J') out → pm_Go 11 m_L_law 672 [some (.ref 1000), some (.ref 0), some (.ref 69), some (.ref 103), some (.int (nI (4 * i))), w5, w6, none] [] cu su (ST I J) out := by
  obtain ⟨k, r, I1, J1, I2, g1, g2, g3, g4, g9, g5, ⟨g6, g6b⟩, g7, g8⟩ := op_run hW (I 1000 (4 * i + 1)) (I 1000 (4 * i + 2))
  have eL1 : I1 1001 0 = nI L := by rw [g6b]; exact eL
  refine ⟨I2, J1, some (.int k), some (.int r), cu + 2 + 0 + 0, su + 12 + 0 + 0, g5, g7, g8, rfl, rfl, by omega, by omega, fun out ho => ?_⟩
  rw [← g6] at g2
  refine go_aload_n d_L_law_672 rfl ?_
  refine go_aload_n d_L_law_673 rfl ?_
  refine go_iload d_L_law_674 rfl ?_
  refine go_iconst (v := 1) d_L_law_676 (by decide) ?_
  refine go_iadd d_L_law_677 ?_
  refine go_top (nI (4 * i + 1)) (nI_add (4 * i) 1) ?_
  refine go_scr (4 * i + 1) d_L_law_678 eL (by omega) hL ?_
  refine go_aload_n d_L_law_679 rfl ?_
  refine go_iload d_L_law_680 rfl ?_
  refine go_iconst (v := 2) d_L_law_682 (by decide) ?_
  refine go_iadd d_L_law_683 ?_
  refine go_top (nI (4 * i + 2)) (nI_add (4 * i) 2) ?_
  refine go_scr (4 * i + 2) d_L_law_684 eL (by omega) hL ?_
  refine go_aload_n d_L_law_685 rfl ?_
  refine go_callW (k2 := m_L_run) (As := [.ref 0, .int (I 1000 (4 * i + 1)), .int (I 1000 (4 * i + 2)), .ref 103]) (r := some (.int k)) d_L_law_686 ok_L_run sl_L_123 rfl rfl (Nat.le_of_ble_eq_true rfl) (Nat.le_of_ble_eq_true rfl) (show cu + 2 ≤ 601024 by omega) (show su + 12 ≤ 7293034 by omega) (lt_L h5 h6 rfl) rfl g1 ?_
  refine go_istore d_L_law_689 (Nat.le_of_ble_eq_true rfl) rfl ?_
  refine go_aload_n d_L_law_691 rfl ?_
  refine go_aload_n d_L_law_692 rfl ?_
  refine go_iload d_L_law_693 rfl ?_
  refine go_iconst (v := 1) d_L_law_695 (by decide) ?_
  refine go_iadd d_L_law_696 ?_
  refine go_top (nI (4 * i + 1)) (nI_add (4 * i) 1) ?_
  refine go_scr (4 * i + 1) d_L_law_697 eL1 (by omega) hL ?_
  refine go_aload_n d_L_law_698 rfl ?_
  refine go_iload d_L_law_699 rfl ?_
  refine go_iconst (v := 2) d_L_law_701 (by decide) ?_
  refine go_iadd d_L_law_702 ?_
  refine go_top (nI (4 * i + 2)) (nI_add (4 * i) 2) ?_
  refine go_scr (4 * i + 2) d_L_law_703 eL1 (by omega) hL ?_
  refine go_callV (k2 := m_M_run) (As := [.int (I1 1000 (4 * i + 1)), .int (I1 1000 (4 * i + 2))]) (r := some (.int r)) d_L_law_704 ok_M_run (Nat.le_of_ble_eq_true rfl) rfl pc_M rfl vl_L_125 rfl rfl (Nat.le_of_ble_eq_true rfl) (Nat.le_of_ble_eq_true rfl) (show cu + 2 + 0 ≤ 601024 by omega) (show su + 12 + 0 ≤ 7293034 by omega) (lt_L rfl h6 rfl) rfl g2 ?_
  refine go_istore d_L_law_707 (Nat.le_of_ble_eq_true rfl) rfl ?_
  refine go_aload_n d_L_law_709 rfl ?_
  refine go_callV (k2 := m_M_thrown) (As := []) (r := some (.int k)) d_L_law_710 ok_M_thrown (Nat.le_of_ble_eq_true rfl) rfl pc_M rfl vl_L_88 rfl rfl (Nat.le_of_ble_eq_true rfl) (Nat.le_of_ble_eq_true rfl) (show cu + 2 + 0 + 0 ≤ 601024 by omega) (show su + 12 + 0 + 0 ≤ 7293034 by omega) (lt_L rfl rfl rfl) rfl (sp_M_thrown g3) ?_
  refine go_iload d_L_law_713 rfl ?_
  refine go_icmp_eq (tgt := 720) d_L_law_715 (by decide) (fun z => ?_) (fun z => absurd rfl z)
  refine go_iload d_L_law_720 rfl ?_
  by_cases hk : k = 0
  · refine go_if_ne (tgt := 737) d_L_law_722 (by decide) (fun z => absurd hk z) (fun z => ?_)
    refine go_aload_n d_L_law_725 rfl ?_
    refine go_iconst (v := 0) d_L_law_726 (by decide) ?_
    refine go_lald 0 r.toInt64 d_L_law_727 (Nat.le_of_ble_eq_true rfl) rfl rfl (by decide) (by decide) (g4 hk) ?_
    refine go_iload d_L_law_728 rfl ?_
    refine go_i2l d_L_law_730 ?_
    refine go_lcmp d_L_law_731 ?_
    refine go_top 0 (lc_0 _) ?_
    refine go_if_eq (tgt := 737) d_L_law_732 (by decide) (fun z => ?_) (fun z => absurd rfl z)
    refine go_goto (tgt := 1267) d_L_law_737 (by decide) ?_
    exact ho
  · refine go_if_ne (tgt := 737) d_L_law_722 (by decide) (fun z => ?_) (fun z => absurd z hk)
    refine go_goto (tgt := 1267) d_L_law_737 (by decide) ?_
    exact ho
theorem lw_c11 {L i cu su : Nat} {w5 w6 : Option Value} (hW : LW RT I J) (eL : I 1001 0 = nI L) (hi : 4 * i + 4 ≤ L) (hL : L ≤ 2048) (hcu : cu ≤ 600000) (hsu : su ≤ 7000000) (h5 : okW w5 = true) (h6 : okW w6 = true) : ∃ I' J' w5' w6' cu' su', LW RT I' J' ∧ I' 1000 = I 1000 ∧ I' 1001 = I 1001 ∧ okW w5' = true ∧ okW w6' = true ∧ cu' ≤ cu + 3 ∧ su' ≤ su + 18 ∧ ∀ out, pm_Go 11 m_L_law 1267 [some (.ref 1000), some (.ref 0), some (.ref 69), some (.ref 103), some (.int (nI (4 * i))), w5', w6', none] [] cu' su' (ST I' J') out → pm_Go 11 m_L_law 740 [some (.ref 1000), some (.ref 0), some (.ref 69), some (.ref 103), some (.int (nI (4 * i))), w5, w6, none] [] cu su (ST I J) out := by
  obtain ⟨k, r, I1, J1, I2, g1, g2, g3, g4, g9, g5, ⟨g6, g6b⟩, g7, g8⟩ := op_ticks hW 
  have eL1 : I1 1001 0 = nI L := by rw [g6b]; exact eL
  refine ⟨I2, J1, some (.int k), some (.int r), cu + 1 + 0 + 0, su + 6 + 0 + 0, g5, g7, g8, rfl, rfl, by omega, by omega, fun out ho => ?_⟩
  skip
  refine go_aload_n d_L_law_740 rfl ?_
  refine go_aload_n d_L_law_741 rfl ?_
  refine go_callW (k2 := m_L_ticks) (As := [.ref 0, .ref 103]) (r := some (.int k)) d_L_law_742 ok_L_ticks sl_L_126 rfl rfl (Nat.le_of_ble_eq_true rfl) (Nat.le_of_ble_eq_true rfl) (show cu + 1 ≤ 601024 by omega) (show su + 6 ≤ 7293034 by omega) (lt_L h5 h6 rfl) rfl g1 ?_
  refine go_istore d_L_law_745 (Nat.le_of_ble_eq_true rfl) rfl ?_
  refine go_aload_n d_L_law_747 rfl ?_
  refine go_callV (k2 := m_M_ticks) (As := []) (r := some (.int r)) d_L_law_748 ok_M_ticks (Nat.le_of_ble_eq_true rfl) rfl pc_M rfl vl_L_128 rfl rfl (Nat.le_of_ble_eq_true rfl) (Nat.le_of_ble_eq_true rfl) (show cu + 1 + 0 ≤ 601024 by omega) (show su + 6 + 0 ≤ 7293034 by omega) (lt_L rfl h6 rfl) rfl g2 ?_
  refine go_istore d_L_law_751 (Nat.le_of_ble_eq_true rfl) rfl ?_
  refine go_aload_n d_L_law_753 rfl ?_
  refine go_callV (k2 := m_M_thrown) (As := []) (r := some (.int k)) d_L_law_754 ok_M_thrown (Nat.le_of_ble_eq_true rfl) rfl pc_M rfl vl_L_88 rfl rfl (Nat.le_of_ble_eq_true rfl) (Nat.le_of_ble_eq_true rfl) (show cu + 1 + 0 + 0 ≤ 601024 by omega) (show su + 6 + 0 + 0 ≤ 7293034 by omega) (lt_L rfl rfl rfl) rfl (sp_M_thrown g3) ?_
  refine go_iload d_L_law_757 rfl ?_
  refine go_icmp_eq (tgt := 764) d_L_law_759 (by decide) (fun z => ?_) (fun z => absurd rfl z)
  refine go_iload d_L_law_764 rfl ?_
  by_cases hk : k = 0
  · refine go_if_ne (tgt := 781) d_L_law_766 (by decide) (fun z => absurd hk z) (fun z => ?_)
    refine go_aload_n d_L_law_769 rfl ?_
    refine go_iconst (v := 0) d_L_law_770 (by decide) ?_
    refine go_lald 0 r.toInt64 d_L_law_771 (Nat.le_of_ble_eq_true rfl) rfl rfl (by decide) (by decide) (g4 hk) ?_
    refine go_iload d_L_law_772 rfl ?_
    refine go_i2l d_L_law_774 ?_
    refine go_lcmp d_L_law_775 ?_
    refine go_top 0 (lc_0 _) ?_
    refine go_if_eq (tgt := 781) d_L_law_776 (by decide) (fun z => ?_) (fun z => absurd rfl z)
    refine go_goto (tgt := 1267) d_L_law_781 (by decide) ?_
    exact ho
  · refine go_if_ne (tgt := 781) d_L_law_766 (by decide) (fun z => ?_) (fun z => absurd z hk)
    refine go_goto (tgt := 1267) d_L_law_781 (by decide) ?_
    exact ho
theorem lw_c12 {L i cu su : Nat} {w5 w6 : Option Value} (hW : LW RT I J) (eL : I 1001 0 = nI L) (hi : 4 * i + 4 ≤ L) (hL : L ≤ 2048) (hcu : cu ≤ 600000) (hsu : su ≤ 7000000) (h5 : okW w5 = true) (h6 : okW w6 = true) : ∃ I' J' w5' w6' cu' su', LW RT I' J' ∧ I' 1000 = I 1000 ∧ I' 1001 = I 1001 ∧ okW w5' = true ∧ okW w6' = true ∧ cu' ≤ cu + 3 ∧ su' ≤ su + 18 ∧ ∀ out, pm_Go 11 m_L_law 1267 [some (.ref 1000), some (.ref 0), some (.ref 69), some (.ref 103), some (.int (nI (4 * i))), w5', w6', none] [] cu' su' (ST I' J') out → pm_Go 11 m_L_law 784 [some (.ref 1000), some (.ref 0), some (.ref 69), some (.ref 103), some (.int (nI (4 * i))), w5, w6, none] [] cu su (ST I J) out := by
  obtain ⟨k, r, I1, J1, I2, g1, g2, g3, g4, g9, g5, ⟨g6, g6b⟩, g7, g8⟩ := op_turns hW (I 1000 (4 * i + 1))
  have eL1 : I1 1001 0 = nI L := by rw [g6b]; exact eL
  refine ⟨I2, J1, some (.int k), some (.int r), cu + 2 + 0 + 0, su + 12 + 0 + 0, g5, g7, g8, rfl, rfl, by omega, by omega, fun out ho => ?_⟩
  rw [← g6] at g2
  refine go_aload_n d_L_law_784 rfl ?_
  refine go_aload_n d_L_law_785 rfl ?_
  refine go_iload d_L_law_786 rfl ?_
  refine go_iconst (v := 1) d_L_law_788 (by decide) ?_
  refine go_iadd d_L_law_789 ?_
  refine go_top (nI (4 * i + 1)) (nI_add (4 * i) 1) ?_
  refine go_scr (4 * i + 1) d_L_law_790 eL (by omega) hL ?_
  refine go_aload_n d_L_law_791 rfl ?_
  refine go_callW (k2 := m_L_turns) (As := [.ref 0, .int (I 1000 (4 * i + 1)), .ref 103]) (r := some (.int k)) d_L_law_792 ok_L_turns sl_L_129 rfl rfl (Nat.le_of_ble_eq_true rfl) (Nat.le_of_ble_eq_true rfl) (show cu + 2 ≤ 601024 by omega) (show su + 12 ≤ 7293034 by omega) (lt_L h5 h6 rfl) rfl g1 ?_
  refine go_istore d_L_law_795 (Nat.le_of_ble_eq_true rfl) rfl ?_
  refine go_aload_n d_L_law_797 rfl ?_
  refine go_aload_n d_L_law_798 rfl ?_
  refine go_iload d_L_law_799 rfl ?_
  refine go_iconst (v := 1) d_L_law_801 (by decide) ?_
  refine go_iadd d_L_law_802 ?_
  refine go_top (nI (4 * i + 1)) (nI_add (4 * i) 1) ?_
  refine go_scr (4 * i + 1) d_L_law_803 eL1 (by omega) hL ?_
  refine go_callV (k2 := m_M_turns) (As := [.int (I1 1000 (4 * i + 1))]) (r := some (.int r)) d_L_law_804 ok_M_turns (Nat.le_of_ble_eq_true rfl) rfl pc_M rfl vl_L_131 rfl rfl (Nat.le_of_ble_eq_true rfl) (Nat.le_of_ble_eq_true rfl) (show cu + 2 + 0 ≤ 601024 by omega) (show su + 12 + 0 ≤ 7293034 by omega) (lt_L rfl h6 rfl) rfl g2 ?_
  refine go_istore d_L_law_807 (Nat.le_of_ble_eq_true rfl) rfl ?_
  refine go_aload_n d_L_law_809 rfl ?_
  refine go_callV (k2 := m_M_thrown) (As := []) (r := some (.int k)) d_L_law_810 ok_M_thrown (Nat.le_of_ble_eq_true rfl) rfl pc_M rfl vl_L_88 rfl rfl (Nat.le_of_ble_eq_true rfl) (Nat.le_of_ble_eq_true rfl) (show cu + 2 + 0 + 0 ≤ 601024 by omega) (show su + 12 + 0 + 0 ≤ 7293034 by omega) (lt_L rfl rfl rfl) rfl (sp_M_thrown g3) ?_
  refine go_iload d_L_law_813 rfl ?_
  refine go_icmp_eq (tgt := 820) d_L_law_815 (by decide) (fun z => ?_) (fun z => absurd rfl z)
  refine go_iload d_L_law_820 rfl ?_
  by_cases hk : k = 0
  · refine go_if_ne (tgt := 837) d_L_law_822 (by decide) (fun z => absurd hk z) (fun z => ?_)
    refine go_aload_n d_L_law_825 rfl ?_
    refine go_iconst (v := 0) d_L_law_826 (by decide) ?_
    refine go_lald 0 r.toInt64 d_L_law_827 (Nat.le_of_ble_eq_true rfl) rfl rfl (by decide) (by decide) (g4 hk) ?_
    refine go_iload d_L_law_828 rfl ?_
    refine go_i2l d_L_law_830 ?_
    refine go_lcmp d_L_law_831 ?_
    refine go_top 0 (lc_0 _) ?_
    refine go_if_eq (tgt := 837) d_L_law_832 (by decide) (fun z => ?_) (fun z => absurd rfl z)
    refine go_goto (tgt := 1267) d_L_law_837 (by decide) ?_
    exact ho
  · refine go_if_ne (tgt := 837) d_L_law_822 (by decide) (fun z => ?_) (fun z => absurd z hk)
    refine go_goto (tgt := 1267) d_L_law_837 (by decide) ?_
    exact ho
theorem lw_c13 {L i cu su : Nat} {w5 w6 : Option Value} (hW : LW RT I J) (eL : I 1001 0 = nI L) (hi : 4 * i + 4 ≤ L) (hL : L ≤ 2048) (hcu : cu ≤ 600000) (hsu : su ≤ 7000000) (h5 : okW w5 = true) (h6 : okW w6 = true) : ∃ I' J' w5' w6' cu' su', LW RT I' J' ∧ I' 1000 = I 1000 ∧ I' 1001 = I 1001 ∧ okW w5' = true ∧ okW w6' = true ∧ cu' ≤ cu + 3 ∧ su' ≤ su + 18 ∧ ∀ out, pm_Go 11 m_L_law 1267 [some (.ref 1000), some (.ref 0), some (.ref 69), some (.ref 103), some (.int (nI (4 * i))), w5', w6', none] [] cu' su' (ST I' J') out → pm_Go 11 m_L_law 840 [some (.ref 1000), some (.ref 0), some (.ref 69), some (.ref 103), some (.int (nI (4 * i))), w5, w6, none] [] cu su (ST I J) out := by
  obtain ⟨k, r, I1, J1, I2, g1, g2, g3, g4, g9, g5, ⟨g6, g6b⟩, g7, g8⟩ := op_got hW (I 1000 (4 * i + 1))
  have eL1 : I1 1001 0 = nI L := by rw [g6b]; exact eL
  refine ⟨I2, J1, some (.int k), some (.int r), cu + 2 + 0 + 0, su + 12 + 0 + 0, g5, g7, g8, rfl, rfl, by omega, by omega, fun out ho => ?_⟩
  rw [← g6] at g2
  refine go_aload_n d_L_law_840 rfl ?_
  refine go_aload_n d_L_law_841 rfl ?_
  refine go_iload d_L_law_842 rfl ?_
  refine go_iconst (v := 1) d_L_law_844 (by decide) ?_
  refine go_iadd d_L_law_845 ?_
  refine go_top (nI (4 * i + 1)) (nI_add (4 * i) 1) ?_
  refine go_scr (4 * i + 1) d_L_law_846 eL (by omega) hL ?_
  refine go_aload_n d_L_law_847 rfl ?_
  refine go_callW (k2 := m_L_got) (As := [.ref 0, .int (I 1000 (4 * i + 1)), .ref 103]) (r := some (.int k)) d_L_law_848 ok_L_got sl_L_132 rfl rfl (Nat.le_of_ble_eq_true rfl) (Nat.le_of_ble_eq_true rfl) (show cu + 2 ≤ 601024 by omega) (show su + 12 ≤ 7293034 by omega) (lt_L h5 h6 rfl) rfl g1 ?_
  refine go_istore d_L_law_851 (Nat.le_of_ble_eq_true rfl) rfl ?_
  refine go_aload_n d_L_law_853 rfl ?_
  refine go_aload_n d_L_law_854 rfl ?_
  refine go_iload d_L_law_855 rfl ?_
  refine go_iconst (v := 1) d_L_law_857 (by decide) ?_
  refine go_iadd d_L_law_858 ?_
  refine go_top (nI (4 * i + 1)) (nI_add (4 * i) 1) ?_
  refine go_scr (4 * i + 1) d_L_law_859 eL1 (by omega) hL ?_
  refine go_callV (k2 := m_M_got) (As := [.int (I1 1000 (4 * i + 1))]) (r := some (.int r)) d_L_law_860 ok_M_got (Nat.le_of_ble_eq_true rfl) rfl pc_M rfl vl_L_134 rfl rfl (Nat.le_of_ble_eq_true rfl) (Nat.le_of_ble_eq_true rfl) (show cu + 2 + 0 ≤ 601024 by omega) (show su + 12 + 0 ≤ 7293034 by omega) (lt_L rfl h6 rfl) rfl g2 ?_
  refine go_istore d_L_law_863 (Nat.le_of_ble_eq_true rfl) rfl ?_
  refine go_aload_n d_L_law_865 rfl ?_
  refine go_callV (k2 := m_M_thrown) (As := []) (r := some (.int k)) d_L_law_866 ok_M_thrown (Nat.le_of_ble_eq_true rfl) rfl pc_M rfl vl_L_88 rfl rfl (Nat.le_of_ble_eq_true rfl) (Nat.le_of_ble_eq_true rfl) (show cu + 2 + 0 + 0 ≤ 601024 by omega) (show su + 12 + 0 + 0 ≤ 7293034 by omega) (lt_L rfl rfl rfl) rfl (sp_M_thrown g3) ?_
  refine go_iload d_L_law_869 rfl ?_
  refine go_icmp_eq (tgt := 876) d_L_law_871 (by decide) (fun z => ?_) (fun z => absurd rfl z)
  refine go_iload d_L_law_876 rfl ?_
  by_cases hk : k = 0
  · refine go_if_ne (tgt := 893) d_L_law_878 (by decide) (fun z => absurd hk z) (fun z => ?_)
    refine go_aload_n d_L_law_881 rfl ?_
    refine go_iconst (v := 0) d_L_law_882 (by decide) ?_
    refine go_lald 0 r.toInt64 d_L_law_883 (Nat.le_of_ble_eq_true rfl) rfl rfl (by decide) (by decide) (g4 hk) ?_
    refine go_iload d_L_law_884 rfl ?_
    refine go_i2l d_L_law_886 ?_
    refine go_lcmp d_L_law_887 ?_
    refine go_top 0 (lc_0 _) ?_
    refine go_if_eq (tgt := 893) d_L_law_888 (by decide) (fun z => ?_) (fun z => absurd rfl z)
    refine go_goto (tgt := 1267) d_L_law_893 (by decide) ?_
    exact ho
  · refine go_if_ne (tgt := 893) d_L_law_878 (by decide) (fun z => ?_) (fun z => absurd z hk)
    refine go_goto (tgt := 1267) d_L_law_893 (by decide) ?_
    exact ho
theorem lw_c14 {L i cu su : Nat} {w5 w6 : Option Value} (hW : LW RT I J) (eL : I 1001 0 = nI L) (hi : 4 * i + 4 ≤ L) (hL : L ≤ 2048) (hcu : cu ≤ 600000) (hsu : su ≤ 7000000) (h5 : okW w5 = true) (h6 : okW w6 = true) : ∃ I' J' w5' w6' cu' su', LW RT I' J' ∧ I' 1000 = I 1000 ∧ I' 1001 = I 1001 ∧ okW w5' = true ∧ okW w6' = true ∧ cu' ≤ cu + 3 ∧ su' ≤ su + 18 ∧ ∀ out, pm_Go 11 m_L_law 1267 [some (.ref 1000), some (.ref 0), some (.ref 69), some (.ref 103), some (.int (nI (4 * i))), w5', w6', none] [] cu' su' (ST I' J') out → pm_Go 11 m_L_law 896 [some (.ref 1000), some (.ref 0), some (.ref 69), some (.ref 103), some (.int (nI (4 * i))), w5, w6, none] [] cu su (ST I J) out := by
  obtain ⟨k, r, I1, J1, I2, g1, g2, g3, g4, g9, g5, ⟨g6, g6b⟩, g7, g8⟩ := op_inside hW (I 1000 (4 * i + 1)) (I 1000 (4 * i + 2))
  have eL1 : I1 1001 0 = nI L := by rw [g6b]; exact eL
  refine ⟨I2, J1, some (.int k), some (.int r), cu + 3 + 0 + 0, su + 18 + 0 + 0, g5, g7, g8, rfl, rfl, by omega, by omega, fun out ho => ?_⟩
  rw [← g6] at g2
  refine go_aload_n d_L_law_896 rfl ?_
  refine go_aload_n d_L_law_897 rfl ?_
  refine go_iload d_L_law_898 rfl ?_
  refine go_iconst (v := 1) d_L_law_900 (by decide) ?_
  refine go_iadd d_L_law_901 ?_
  refine go_top (nI (4 * i + 1)) (nI_add (4 * i) 1) ?_
  refine go_scr (4 * i + 1) d_L_law_902 eL (by omega) hL ?_
  refine go_aload_n d_L_law_903 rfl ?_
  refine go_iload d_L_law_904 rfl ?_
  refine go_iconst (v := 2) d_L_law_906 (by decide) ?_
  refine go_iadd d_L_law_907 ?_
  refine go_top (nI (4 * i + 2)) (nI_add (4 * i) 2) ?_
  refine go_scr (4 * i + 2) d_L_law_908 eL (by omega) hL ?_
  refine go_aload_n d_L_law_909 rfl ?_
  refine go_callW (k2 := m_L_inside) (As := [.ref 0, .int (I 1000 (4 * i + 1)), .int (I 1000 (4 * i + 2)), .ref 103]) (r := some (.int k)) d_L_law_910 ok_L_inside sl_L_135 rfl rfl (Nat.le_of_ble_eq_true rfl) (Nat.le_of_ble_eq_true rfl) (show cu + 3 ≤ 601024 by omega) (show su + 18 ≤ 7293034 by omega) (lt_L h5 h6 rfl) rfl g1 ?_
  refine go_istore d_L_law_913 (Nat.le_of_ble_eq_true rfl) rfl ?_
  refine go_aload_n d_L_law_915 rfl ?_
  refine go_aload_n d_L_law_916 rfl ?_
  refine go_iload d_L_law_917 rfl ?_
  refine go_iconst (v := 1) d_L_law_919 (by decide) ?_
  refine go_iadd d_L_law_920 ?_
  refine go_top (nI (4 * i + 1)) (nI_add (4 * i) 1) ?_
  refine go_scr (4 * i + 1) d_L_law_921 eL1 (by omega) hL ?_
  refine go_aload_n d_L_law_922 rfl ?_
  refine go_iload d_L_law_923 rfl ?_
  refine go_iconst (v := 2) d_L_law_925 (by decide) ?_
  refine go_iadd d_L_law_926 ?_
  refine go_top (nI (4 * i + 2)) (nI_add (4 * i) 2) ?_
  refine go_scr (4 * i + 2) d_L_law_927 eL1 (by omega) hL ?_
  refine go_callV (k2 := m_M_inside) (As := [.int (I1 1000 (4 * i + 1)), .int (I1 1000 (4 * i + 2))]) (r := some (.int r)) d_L_law_928 ok_M_inside (Nat.le_of_ble_eq_true rfl) rfl pc_M rfl vl_L_137 rfl rfl (Nat.le_of_ble_eq_true rfl) (Nat.le_of_ble_eq_true rfl) (show cu + 3 + 0 ≤ 601024 by omega) (show su + 18 + 0 ≤ 7293034 by omega) (lt_L rfl h6 rfl) rfl g2 ?_
  refine go_istore d_L_law_931 (Nat.le_of_ble_eq_true rfl) rfl ?_
  refine go_aload_n d_L_law_933 rfl ?_
  refine go_callV (k2 := m_M_thrown) (As := []) (r := some (.int k)) d_L_law_934 ok_M_thrown (Nat.le_of_ble_eq_true rfl) rfl pc_M rfl vl_L_88 rfl rfl (Nat.le_of_ble_eq_true rfl) (Nat.le_of_ble_eq_true rfl) (show cu + 3 + 0 + 0 ≤ 601024 by omega) (show su + 18 + 0 + 0 ≤ 7293034 by omega) (lt_L rfl rfl rfl) rfl (sp_M_thrown g3) ?_
  refine go_iload d_L_law_937 rfl ?_
  refine go_icmp_eq (tgt := 944) d_L_law_939 (by decide) (fun z => ?_) (fun z => absurd rfl z)
  refine go_iload d_L_law_944 rfl ?_
  by_cases hk : k = 0
  · refine go_if_ne (tgt := 961) d_L_law_946 (by decide) (fun z => absurd hk z) (fun z => ?_)
    refine go_aload_n d_L_law_949 rfl ?_
    refine go_iconst (v := 0) d_L_law_950 (by decide) ?_
    refine go_lald 0 r.toInt64 d_L_law_951 (Nat.le_of_ble_eq_true rfl) rfl rfl (by decide) (by decide) (g4 hk) ?_
    refine go_iload d_L_law_952 rfl ?_
    refine go_i2l d_L_law_954 ?_
    refine go_lcmp d_L_law_955 ?_
    refine go_top 0 (lc_0 _) ?_
    refine go_if_eq (tgt := 961) d_L_law_956 (by decide) (fun z => ?_) (fun z => absurd rfl z)
    refine go_goto (tgt := 1267) d_L_law_961 (by decide) ?_
    exact ho
  · refine go_if_ne (tgt := 961) d_L_law_946 (by decide) (fun z => ?_) (fun z => absurd z hk)
    refine go_goto (tgt := 1267) d_L_law_961 (by decide) ?_
    exact ho
theorem lw_c15 {L i cu su : Nat} {w5 w6 : Option Value} (hW : LW RT I J) (eL : I 1001 0 = nI L) (hi : 4 * i + 4 ≤ L) (hL : L ≤ 2048) (hcu : cu ≤ 600000) (hsu : su ≤ 7000000) (h5 : okW w5 = true) (h6 : okW w6 = true) : ∃ I' J' w5' w6' cu' su', LW RT I' J' ∧ I' 1000 = I 1000 ∧ I' 1001 = I 1001 ∧ okW w5' = true ∧ okW w6' = true ∧ cu' ≤ cu + 3 ∧ su' ≤ su + 18 ∧ ∀ out, pm_Go 11 m_L_law 1267 [some (.ref 1000), some (.ref 0), some (.ref 69), some (.ref 103), some (.int (nI (4 * i))), w5', w6', none] [] cu' su' (ST I' J') out → pm_Go 11 m_L_law 964 [some (.ref 1000), some (.ref 0), some (.ref 69), some (.ref 103), some (.int (nI (4 * i))), w5, w6, none] [] cu su (ST I J) out := by
  obtain ⟨k, r, I1, J1, I2, g1, g2, g3, g4, g9, g5, ⟨g6, g6b⟩, g7, g8⟩ := op_taken hW (I 1000 (4 * i + 1))
  have eL1 : I1 1001 0 = nI L := by rw [g6b]; exact eL
  refine ⟨I2, J1, some (.int k), some (.int r), cu + 2 + 0 + 0, su + 12 + 0 + 0, g5, g7, g8, rfl, rfl, by omega, by omega, fun out ho => ?_⟩
  rw [← g6] at g2
  refine go_aload_n d_L_law_964 rfl ?_
  refine go_aload_n d_L_law_965 rfl ?_
  refine go_iload d_L_law_966 rfl ?_
  refine go_iconst (v := 1) d_L_law_968 (by decide) ?_
  refine go_iadd d_L_law_969 ?_
  refine go_top (nI (4 * i + 1)) (nI_add (4 * i) 1) ?_
  refine go_scr (4 * i + 1) d_L_law_970 eL (by omega) hL ?_
  refine go_aload_n d_L_law_971 rfl ?_
  refine go_callW (k2 := m_L_taken) (As := [.ref 0, .int (I 1000 (4 * i + 1)), .ref 103]) (r := some (.int k)) d_L_law_972 ok_L_taken sl_L_138 rfl rfl (Nat.le_of_ble_eq_true rfl) (Nat.le_of_ble_eq_true rfl) (show cu + 2 ≤ 601024 by omega) (show su + 12 ≤ 7293034 by omega) (lt_L h5 h6 rfl) rfl g1 ?_
  refine go_istore d_L_law_975 (Nat.le_of_ble_eq_true rfl) rfl ?_
  refine go_aload_n d_L_law_977 rfl ?_
  refine go_aload_n d_L_law_978 rfl ?_
  refine go_iload d_L_law_979 rfl ?_
  refine go_iconst (v := 1) d_L_law_981 (by decide) ?_
  refine go_iadd d_L_law_982 ?_
  refine go_top (nI (4 * i + 1)) (nI_add (4 * i) 1) ?_
  refine go_scr (4 * i + 1) d_L_law_983 eL1 (by omega) hL ?_
  refine go_callV (k2 := m_M_taken) (As := [.int (I1 1000 (4 * i + 1))]) (r := some (.int r)) d_L_law_984 ok_M_taken (Nat.le_of_ble_eq_true rfl) rfl pc_M rfl vl_L_140 rfl rfl (Nat.le_of_ble_eq_true rfl) (Nat.le_of_ble_eq_true rfl) (show cu + 2 + 0 ≤ 601024 by omega) (show su + 12 + 0 ≤ 7293034 by omega) (lt_L rfl h6 rfl) rfl g2 ?_
  refine go_istore d_L_law_987 (Nat.le_of_ble_eq_true rfl) rfl ?_
  refine go_aload_n d_L_law_989 rfl ?_
  refine go_callV (k2 := m_M_thrown) (As := []) (r := some (.int k)) d_L_law_990 ok_M_thrown (Nat.le_of_ble_eq_true rfl) rfl pc_M rfl vl_L_88 rfl rfl (Nat.le_of_ble_eq_true rfl) (Nat.le_of_ble_eq_true rfl) (show cu + 2 + 0 + 0 ≤ 601024 by omega) (show su + 12 + 0 + 0 ≤ 7293034 by omega) (lt_L rfl rfl rfl) rfl (sp_M_thrown g3) ?_
  refine go_iload d_L_law_993 rfl ?_
  refine go_icmp_eq (tgt := 1000) d_L_law_995 (by decide) (fun z => ?_) (fun z => absurd rfl z)
  refine go_iload d_L_law_1000 rfl ?_
  by_cases hk : k = 0
  · refine go_if_ne (tgt := 1017) d_L_law_1002 (by decide) (fun z => absurd hk z) (fun z => ?_)
    refine go_aload_n d_L_law_1005 rfl ?_
    refine go_iconst (v := 0) d_L_law_1006 (by decide) ?_
    refine go_lald 0 r.toInt64 d_L_law_1007 (Nat.le_of_ble_eq_true rfl) rfl rfl (by decide) (by decide) (g4 hk) ?_
    refine go_iload d_L_law_1008 rfl ?_
    refine go_i2l d_L_law_1010 ?_
    refine go_lcmp d_L_law_1011 ?_
    refine go_top 0 (lc_0 _) ?_
    refine go_if_eq (tgt := 1017) d_L_law_1012 (by decide) (fun z => ?_) (fun z => absurd rfl z)
    refine go_goto (tgt := 1267) d_L_law_1017 (by decide) ?_
    exact ho
  · refine go_if_ne (tgt := 1017) d_L_law_1002 (by decide) (fun z => ?_) (fun z => absurd z hk)
    refine go_goto (tgt := 1267) d_L_law_1017 (by decide) ?_
    exact ho
theorem lw_c16 {L i cu su : Nat} {w5 w6 : Option Value} (hW : LW RT I J) (eL : I 1001 0 = nI L) (hi : 4 * i + 4 ≤ L) (hL : L ≤ 2048) (hcu : cu ≤ 600000) (hsu : su ≤ 7000000) (h5 : okW w5 = true) (h6 : okW w6 = true) : ∃ I' J' w5' w6' cu' su', LW RT I' J' ∧ I' 1000 = I 1000 ∧ I' 1001 = I 1001 ∧ okW w5' = true ∧ okW w6' = true ∧ cu' ≤ cu + 3 ∧ su' ≤ su + 18 ∧ ∀ out, pm_Go 11 m_L_law 1267 [some (.ref 1000), some (.ref 0), some (.ref 69), some (.ref 103), some (.int (nI (4 * i))), w5', w6', none] [] cu' su' (ST I' J') out → pm_Go 11 m_L_law 1020 [some (.ref 1000), some (.ref 0), some (.ref 69), some (.ref 103), some (.int (nI (4 * i))), w5, w6, none] [] cu su (ST I J) out := by
  obtain ⟨k, r, I1, J1, I2, g1, g2, g3, g4, g9, g5, ⟨g6, g6b⟩, g7, g8⟩ := op_given hW (I 1000 (4 * i + 1))
  have eL1 : I1 1001 0 = nI L := by rw [g6b]; exact eL
  refine ⟨I2, J1, some (.int k), some (.int r), cu + 2 + 0 + 0, su + 12 + 0 + 0, g5, g7, g8, rfl, rfl, by omega, by omega, fun out ho => ?_⟩
  rw [← g6] at g2
  refine go_aload_n d_L_law_1020 rfl ?_
  refine go_aload_n d_L_law_1021 rfl ?_
  refine go_iload d_L_law_1022 rfl ?_
  refine go_iconst (v := 1) d_L_law_1024 (by decide) ?_
  refine go_iadd d_L_law_1025 ?_
  refine go_top (nI (4 * i + 1)) (nI_add (4 * i) 1) ?_
  refine go_scr (4 * i + 1) d_L_law_1026 eL (by omega) hL ?_
  refine go_aload_n d_L_law_1027 rfl ?_
  refine go_callW (k2 := m_L_given) (As := [.ref 0, .int (I 1000 (4 * i + 1)), .ref 103]) (r := some (.int k)) d_L_law_1028 ok_L_given sl_L_141 rfl rfl (Nat.le_of_ble_eq_true rfl) (Nat.le_of_ble_eq_true rfl) (show cu + 2 ≤ 601024 by omega) (show su + 12 ≤ 7293034 by omega) (lt_L h5 h6 rfl) rfl g1 ?_
  refine go_istore d_L_law_1031 (Nat.le_of_ble_eq_true rfl) rfl ?_
  refine go_aload_n d_L_law_1033 rfl ?_
  refine go_aload_n d_L_law_1034 rfl ?_
  refine go_iload d_L_law_1035 rfl ?_
  refine go_iconst (v := 1) d_L_law_1037 (by decide) ?_
  refine go_iadd d_L_law_1038 ?_
  refine go_top (nI (4 * i + 1)) (nI_add (4 * i) 1) ?_
  refine go_scr (4 * i + 1) d_L_law_1039 eL1 (by omega) hL ?_
  refine go_callV (k2 := m_M_given) (As := [.int (I1 1000 (4 * i + 1))]) (r := some (.int r)) d_L_law_1040 ok_M_given (Nat.le_of_ble_eq_true rfl) rfl pc_M rfl vl_L_143 rfl rfl (Nat.le_of_ble_eq_true rfl) (Nat.le_of_ble_eq_true rfl) (show cu + 2 + 0 ≤ 601024 by omega) (show su + 12 + 0 ≤ 7293034 by omega) (lt_L rfl h6 rfl) rfl g2 ?_
  refine go_istore d_L_law_1043 (Nat.le_of_ble_eq_true rfl) rfl ?_
  refine go_aload_n d_L_law_1045 rfl ?_
  refine go_callV (k2 := m_M_thrown) (As := []) (r := some (.int k)) d_L_law_1046 ok_M_thrown (Nat.le_of_ble_eq_true rfl) rfl pc_M rfl vl_L_88 rfl rfl (Nat.le_of_ble_eq_true rfl) (Nat.le_of_ble_eq_true rfl) (show cu + 2 + 0 + 0 ≤ 601024 by omega) (show su + 12 + 0 + 0 ≤ 7293034 by omega) (lt_L rfl rfl rfl) rfl (sp_M_thrown g3) ?_
  refine go_iload d_L_law_1049 rfl ?_
  refine go_icmp_eq (tgt := 1056) d_L_law_1051 (by decide) (fun z => ?_) (fun z => absurd rfl z)
  refine go_iload d_L_law_1056 rfl ?_
  by_cases hk : k = 0
  · refine go_if_ne (tgt := 1073) d_L_law_1058 (by decide) (fun z => absurd hk z) (fun z => ?_)
    refine go_aload_n d_L_law_1061 rfl ?_
    refine go_iconst (v := 0) d_L_law_1062 (by decide) ?_
    refine go_lald 0 r.toInt64 d_L_law_1063 (Nat.le_of_ble_eq_true rfl) rfl rfl (by decide) (by decide) (g4 hk) ?_
    refine go_iload d_L_law_1064 rfl ?_
    refine go_i2l d_L_law_1066 ?_
    refine go_lcmp d_L_law_1067 ?_
    refine go_top 0 (lc_0 _) ?_
    refine go_if_eq (tgt := 1073) d_L_law_1068 (by decide) (fun z => ?_) (fun z => absurd rfl z)
    refine go_goto (tgt := 1267) d_L_law_1073 (by decide) ?_
    exact ho
  · refine go_if_ne (tgt := 1073) d_L_law_1058 (by decide) (fun z => ?_) (fun z => absurd z hk)
    refine go_goto (tgt := 1267) d_L_law_1073 (by decide) ?_
    exact ho
theorem lw_c17 {L i cu su : Nat} {w5 w6 : Option Value} (hW : LW RT I J) (eL : I 1001 0 = nI L) (hi : 4 * i + 4 ≤ L) (hL : L ≤ 2048) (hcu : cu ≤ 600000) (hsu : su ≤ 7000000) (h5 : okW w5 = true) (h6 : okW w6 = true) : ∃ I' J' w5' w6' cu' su', LW RT I' J' ∧ I' 1000 = I 1000 ∧ I' 1001 = I 1001 ∧ okW w5' = true ∧ okW w6' = true ∧ cu' ≤ cu + 3 ∧ su' ≤ su + 18 ∧ ∀ out, pm_Go 11 m_L_law 1267 [some (.ref 1000), some (.ref 0), some (.ref 69), some (.ref 103), some (.int (nI (4 * i))), w5', w6', none] [] cu' su' (ST I' J') out → pm_Go 11 m_L_law 1076 [some (.ref 1000), some (.ref 0), some (.ref 69), some (.ref 103), some (.int (nI (4 * i))), w5, w6, none] [] cu su (ST I J) out := by
  obtain ⟨k, r, I1, J1, I2, g1, g2, g3, g4, g5, ⟨g6, g6b⟩, g7, g8⟩ := op_value hW (I 1000 (4 * i + 1)) (I 1000 (4 * i + 2))
  have eL1 : I1 1001 0 = nI L := by rw [g6b]; exact eL
  refine ⟨I2, J1, some (.int k), some (.long r), cu + 3 + 0 + 0, su + 18 + 0 + 0, g5, g7, g8, rfl, rfl, by omega, by omega, fun out ho => ?_⟩
  rw [← g6] at g2
  refine go_aload_n d_L_law_1076 rfl ?_
  refine go_aload_n d_L_law_1077 rfl ?_
  refine go_iload d_L_law_1078 rfl ?_
  refine go_iconst (v := 1) d_L_law_1080 (by decide) ?_
  refine go_iadd d_L_law_1081 ?_
  refine go_top (nI (4 * i + 1)) (nI_add (4 * i) 1) ?_
  refine go_scr (4 * i + 1) d_L_law_1082 eL (by omega) hL ?_
  refine go_aload_n d_L_law_1083 rfl ?_
  refine go_iload d_L_law_1084 rfl ?_
  refine go_iconst (v := 2) d_L_law_1086 (by decide) ?_
  refine go_iadd d_L_law_1087 ?_
  refine go_top (nI (4 * i + 2)) (nI_add (4 * i) 2) ?_
  refine go_scr (4 * i + 2) d_L_law_1088 eL (by omega) hL ?_
  refine go_aload_n d_L_law_1089 rfl ?_
  refine go_callW (k2 := m_L_value) (As := [.ref 0, .int (I 1000 (4 * i + 1)), .int (I 1000 (4 * i + 2)), .ref 103]) (r := some (.int k)) d_L_law_1090 ok_L_value sl_L_144 rfl rfl (Nat.le_of_ble_eq_true rfl) (Nat.le_of_ble_eq_true rfl) (show cu + 3 ≤ 601024 by omega) (show su + 18 ≤ 7293034 by omega) (lt_L h5 h6 rfl) rfl g1 ?_
  refine go_istore d_L_law_1093 (Nat.le_of_ble_eq_true rfl) rfl ?_
  refine go_aload_n d_L_law_1095 rfl ?_
  refine go_aload_n d_L_law_1096 rfl ?_
  refine go_iload d_L_law_1097 rfl ?_
  refine go_iconst (v := 1) d_L_law_1099 (by decide) ?_
  refine go_iadd d_L_law_1100 ?_
  refine go_top (nI (4 * i + 1)) (nI_add (4 * i) 1) ?_
  refine go_scr (4 * i + 1) d_L_law_1101 eL1 (by omega) hL ?_
  refine go_aload_n d_L_law_1102 rfl ?_
  refine go_iload d_L_law_1103 rfl ?_
  refine go_iconst (v := 2) d_L_law_1105 (by decide) ?_
  refine go_iadd d_L_law_1106 ?_
  refine go_top (nI (4 * i + 2)) (nI_add (4 * i) 2) ?_
  refine go_scr (4 * i + 2) d_L_law_1107 eL1 (by omega) hL ?_
  refine go_callV (k2 := m_M_value) (As := [.int (I1 1000 (4 * i + 1)), .int (I1 1000 (4 * i + 2))]) (r := some (.long r)) d_L_law_1108 ok_M_value (Nat.le_of_ble_eq_true rfl) rfl pc_M rfl vl_L_146 rfl rfl (Nat.le_of_ble_eq_true rfl) (Nat.le_of_ble_eq_true rfl) (show cu + 3 + 0 ≤ 601024 by omega) (show su + 18 + 0 ≤ 7293034 by omega) (lt_L rfl h6 rfl) rfl g2 ?_
  refine go_lstore d_L_law_1111 (Nat.le_of_ble_eq_true rfl) rfl ?_
  refine go_aload_n d_L_law_1113 rfl ?_
  refine go_callV (k2 := m_M_thrown) (As := []) (r := some (.int k)) d_L_law_1114 ok_M_thrown (Nat.le_of_ble_eq_true rfl) rfl pc_M rfl vl_L_88 rfl rfl (Nat.le_of_ble_eq_true rfl) (Nat.le_of_ble_eq_true rfl) (show cu + 3 + 0 + 0 ≤ 601024 by omega) (show su + 18 + 0 + 0 ≤ 7293034 by omega) (lt_L rfl rfl rfl) rfl (sp_M_thrown g3) ?_
  refine go_iload d_L_law_1117 rfl ?_
  refine go_icmp_eq (tgt := 1124) d_L_law_1119 (by decide) (fun z => ?_) (fun z => absurd rfl z)
  refine go_iload d_L_law_1124 rfl ?_
  by_cases hk : k = 0
  · refine go_if_ne (tgt := 1140) d_L_law_1126 (by decide) (fun z => absurd hk z) (fun z => ?_)
    refine go_aload_n d_L_law_1129 rfl ?_
    refine go_iconst (v := 0) d_L_law_1130 (by decide) ?_
    refine go_lald 0 r d_L_law_1131 (Nat.le_of_ble_eq_true rfl) rfl rfl (by decide) (by decide) (g4 hk) ?_
    refine go_lload d_L_law_1132 rfl ?_
    refine go_lcmp d_L_law_1134 ?_
    refine go_top 0 (lc_0 _) ?_
    refine go_if_eq (tgt := 1140) d_L_law_1135 (by decide) (fun z => ?_) (fun z => absurd rfl z)
    refine go_goto (tgt := 1267) d_L_law_1140 (by decide) ?_
    exact ho
  · refine go_if_ne (tgt := 1140) d_L_law_1126 (by decide) (fun z => ?_) (fun z => absurd z hk)
    refine go_goto (tgt := 1267) d_L_law_1140 (by decide) ?_
    exact ho
theorem lw_c18 {L i cu su : Nat} {w5 w6 : Option Value} (hW : LW RT I J) (eL : I 1001 0 = nI L) (hi : 4 * i + 4 ≤ L) (hL : L ≤ 2048) (hcu : cu ≤ 600000) (hsu : su ≤ 7000000) (h5 : okW w5 = true) (h6 : okW w6 = true) : ∃ I' J' w5' w6' cu' su', LW RT I' J' ∧ I' 1000 = I 1000 ∧ I' 1001 = I 1001 ∧ okW w5' = true ∧ okW w6' = true ∧ cu' ≤ cu + 3 ∧ su' ≤ su + 18 ∧ ∀ out, pm_Go 11 m_L_law 1267 [some (.ref 1000), some (.ref 0), some (.ref 69), some (.ref 103), some (.int (nI (4 * i))), w5', w6', none] [] cu' su' (ST I' J') out → pm_Go 11 m_L_law 1143 [some (.ref 1000), some (.ref 0), some (.ref 69), some (.ref 103), some (.int (nI (4 * i))), w5, w6, none] [] cu su (ST I J) out := by
  obtain ⟨k, r, I1, J1, I2, g1, g2, g3, g4, g9, g5, ⟨g6, g6b⟩, g7, g8⟩ := op_byClock hW (I 1000 (4 * i + 1)) (I 1000 (4 * i + 2))
  have eL1 : I1 1001 0 = nI L := by rw [g6b]; exact eL
  refine ⟨I2, J1, some (.int k), some (.int r), cu + 3 + 0 + 0, su + 18 + 0 + 0, g5, g7, g8, rfl, rfl, by omega, by omega, fun out ho => ?_⟩
  rw [← g6] at g2
  refine go_aload_n d_L_law_1143 rfl ?_
  refine go_aload_n d_L_law_1144 rfl ?_
  refine go_iload d_L_law_1145 rfl ?_
  refine go_iconst (v := 1) d_L_law_1147 (by decide) ?_
  refine go_iadd d_L_law_1148 ?_
  refine go_top (nI (4 * i + 1)) (nI_add (4 * i) 1) ?_
  refine go_scr (4 * i + 1) d_L_law_1149 eL (by omega) hL ?_
  refine go_aload_n d_L_law_1150 rfl ?_
  refine go_iload d_L_law_1151 rfl ?_
  refine go_iconst (v := 2) d_L_law_1153 (by decide) ?_
  refine go_iadd d_L_law_1154 ?_
  refine go_top (nI (4 * i + 2)) (nI_add (4 * i) 2) ?_
  refine go_scr (4 * i + 2) d_L_law_1155 eL (by omega) hL ?_
  refine go_aload_n d_L_law_1156 rfl ?_
  refine go_callW (k2 := m_L_byClock) (As := [.ref 0, .int (I 1000 (4 * i + 1)), .int (I 1000 (4 * i + 2)), .ref 103]) (r := some (.int k)) d_L_law_1157 ok_L_byClock sl_L_147 rfl rfl (Nat.le_of_ble_eq_true rfl) (Nat.le_of_ble_eq_true rfl) (show cu + 3 ≤ 601024 by omega) (show su + 18 ≤ 7293034 by omega) (lt_L h5 h6 rfl) rfl g1 ?_
  refine go_istore d_L_law_1160 (Nat.le_of_ble_eq_true rfl) rfl ?_
  refine go_aload_n d_L_law_1162 rfl ?_
  refine go_aload_n d_L_law_1163 rfl ?_
  refine go_iload d_L_law_1164 rfl ?_
  refine go_iconst (v := 1) d_L_law_1166 (by decide) ?_
  refine go_iadd d_L_law_1167 ?_
  refine go_top (nI (4 * i + 1)) (nI_add (4 * i) 1) ?_
  refine go_scr (4 * i + 1) d_L_law_1168 eL1 (by omega) hL ?_
  refine go_aload_n d_L_law_1169 rfl ?_
  refine go_iload d_L_law_1170 rfl ?_
  refine go_iconst (v := 2) d_L_law_1172 (by decide) ?_
  refine go_iadd d_L_law_1173 ?_
  refine go_top (nI (4 * i + 2)) (nI_add (4 * i) 2) ?_
  refine go_scr (4 * i + 2) d_L_law_1174 eL1 (by omega) hL ?_
  refine go_callV (k2 := m_M_byClock) (As := [.int (I1 1000 (4 * i + 1)), .int (I1 1000 (4 * i + 2))]) (r := some (.int r)) d_L_law_1175 ok_M_byClock (Nat.le_of_ble_eq_true rfl) rfl pc_M rfl vl_L_149 rfl rfl (Nat.le_of_ble_eq_true rfl) (Nat.le_of_ble_eq_true rfl) (show cu + 3 + 0 ≤ 601024 by omega) (show su + 18 + 0 ≤ 7293034 by omega) (lt_L rfl h6 rfl) rfl g2 ?_
  refine go_istore d_L_law_1178 (Nat.le_of_ble_eq_true rfl) rfl ?_
  refine go_aload_n d_L_law_1180 rfl ?_
  refine go_callV (k2 := m_M_thrown) (As := []) (r := some (.int k)) d_L_law_1181 ok_M_thrown (Nat.le_of_ble_eq_true rfl) rfl pc_M rfl vl_L_88 rfl rfl (Nat.le_of_ble_eq_true rfl) (Nat.le_of_ble_eq_true rfl) (show cu + 3 + 0 + 0 ≤ 601024 by omega) (show su + 18 + 0 + 0 ≤ 7293034 by omega) (lt_L rfl rfl rfl) rfl (sp_M_thrown g3) ?_
  refine go_iload d_L_law_1184 rfl ?_
  refine go_icmp_eq (tgt := 1191) d_L_law_1186 (by decide) (fun z => ?_) (fun z => absurd rfl z)
  refine go_iload d_L_law_1191 rfl ?_
  by_cases hk : k = 0
  · refine go_if_ne (tgt := 1208) d_L_law_1193 (by decide) (fun z => absurd hk z) (fun z => ?_)
    refine go_aload_n d_L_law_1196 rfl ?_
    refine go_iconst (v := 0) d_L_law_1197 (by decide) ?_
    refine go_lald 0 r.toInt64 d_L_law_1198 (Nat.le_of_ble_eq_true rfl) rfl rfl (by decide) (by decide) (g4 hk) ?_
    refine go_iload d_L_law_1199 rfl ?_
    refine go_i2l d_L_law_1201 ?_
    refine go_lcmp d_L_law_1202 ?_
    refine go_top 0 (lc_0 _) ?_
    refine go_if_eq (tgt := 1208) d_L_law_1203 (by decide) (fun z => ?_) (fun z => absurd rfl z)
    refine go_goto (tgt := 1267) d_L_law_1208 (by decide) ?_
    exact ho
  · refine go_if_ne (tgt := 1208) d_L_law_1193 (by decide) (fun z => ?_) (fun z => absurd z hk)
    refine go_goto (tgt := 1267) d_L_law_1208 (by decide) ?_
    exact ho
theorem lw_c19 {L i cu su : Nat} {w5 w6 : Option Value} (hE : RateE RT) (hW : LW RT I J) (eL : I 1001 0 = nI L) (hi : 4 * i + 4 ≤ L) (hL : L ≤ 2048) (hcu : cu ≤ 600000) (hsu : su ≤ 7000000) (h5 : okW w5 = true) (h6 : okW w6 = true) : ∃ I' J' w5' w6' cu' su', LW RT I' J' ∧ I' 1000 = I 1000 ∧ I' 1001 = I 1001 ∧ okW w5' = true ∧ okW w6' = true ∧ cu' ≤ cu + 3 ∧ su' ≤ su + 18 ∧ ∀ out, pm_Go 11 m_L_law 1267 [some (.ref 1000), some (.ref 0), some (.ref 69), some (.ref 103), some (.int (nI (4 * i))), w5', w6', none] [] cu' su' (ST I' J') out → pm_Go 11 m_L_law 1211 [some (.ref 1000), some (.ref 0), some (.ref 69), some (.ref 103), some (.int (nI (4 * i))), w5, w6, none] [] cu su (ST I J) out := by
  obtain ⟨k, r, I1, J1, I2, g1, g2, g3, g4, g9, g5, ⟨g6, g6b⟩, g7, g8⟩ := op_rate hE hW (I 1000 (4 * i + 1))
  have eL1 : I1 1001 0 = nI L := by rw [g6b]; exact eL
  refine ⟨I2, J1, some (.int k), some (.int r), cu + 2 + 0 + 0, su + 12 + 0 + 0, g5, g7, g8, rfl, rfl, by omega, by omega, fun out ho => ?_⟩
  rw [← g6] at g2
  refine go_aload_n d_L_law_1211 rfl ?_
  refine go_aload_n d_L_law_1212 rfl ?_
  refine go_iload d_L_law_1213 rfl ?_
  refine go_iconst (v := 1) d_L_law_1215 (by decide) ?_
  refine go_iadd d_L_law_1216 ?_
  refine go_top (nI (4 * i + 1)) (nI_add (4 * i) 1) ?_
  refine go_scr (4 * i + 1) d_L_law_1217 eL (by omega) hL ?_
  refine go_aload_n d_L_law_1218 rfl ?_
  refine go_callW (k2 := m_L_rate) (As := [.ref 0, .int (I 1000 (4 * i + 1)), .ref 103]) (r := some (.int k)) d_L_law_1219 ok_L_rate sl_L_150 rfl rfl (Nat.le_of_ble_eq_true rfl) (Nat.le_of_ble_eq_true rfl) (show cu + 2 ≤ 601024 by omega) (show su + 12 ≤ 7293034 by omega) (lt_L h5 h6 rfl) rfl g1 ?_
  refine go_istore d_L_law_1222 (Nat.le_of_ble_eq_true rfl) rfl ?_
  refine go_aload_n d_L_law_1224 rfl ?_
  refine go_aload_n d_L_law_1225 rfl ?_
  refine go_iload d_L_law_1226 rfl ?_
  refine go_iconst (v := 1) d_L_law_1228 (by decide) ?_
  refine go_iadd d_L_law_1229 ?_
  refine go_top (nI (4 * i + 1)) (nI_add (4 * i) 1) ?_
  refine go_scr (4 * i + 1) d_L_law_1230 eL1 (by omega) hL ?_
  refine go_callV (k2 := m_M_rate) (As := [.int (I1 1000 (4 * i + 1))]) (r := some (.int r)) d_L_law_1231 ok_M_rate (Nat.le_of_ble_eq_true rfl) rfl pc_M rfl vl_L_152 rfl rfl (Nat.le_of_ble_eq_true rfl) (Nat.le_of_ble_eq_true rfl) (show cu + 2 + 0 ≤ 601024 by omega) (show su + 12 + 0 ≤ 7293034 by omega) (lt_L rfl h6 rfl) rfl g2 ?_
  refine go_istore d_L_law_1234 (Nat.le_of_ble_eq_true rfl) rfl ?_
  refine go_aload_n d_L_law_1236 rfl ?_
  refine go_callV (k2 := m_M_thrown) (As := []) (r := some (.int k)) d_L_law_1237 ok_M_thrown (Nat.le_of_ble_eq_true rfl) rfl pc_M rfl vl_L_88 rfl rfl (Nat.le_of_ble_eq_true rfl) (Nat.le_of_ble_eq_true rfl) (show cu + 2 + 0 + 0 ≤ 601024 by omega) (show su + 12 + 0 + 0 ≤ 7293034 by omega) (lt_L rfl rfl rfl) rfl (sp_M_thrown g3) ?_
  refine go_iload d_L_law_1240 rfl ?_
  refine go_icmp_eq (tgt := 1247) d_L_law_1242 (by decide) (fun z => ?_) (fun z => absurd rfl z)
  refine go_iload d_L_law_1247 rfl ?_
  by_cases hk : k = 0
  · refine go_if_ne (tgt := 1264) d_L_law_1249 (by decide) (fun z => absurd hk z) (fun z => ?_)
    refine go_aload_n d_L_law_1252 rfl ?_
    refine go_iconst (v := 0) d_L_law_1253 (by decide) ?_
    refine go_lald 0 r.toInt64 d_L_law_1254 (Nat.le_of_ble_eq_true rfl) rfl rfl (by decide) (by decide) (g4 hk) ?_
    refine go_iload d_L_law_1255 rfl ?_
    refine go_i2l d_L_law_1257 ?_
    refine go_lcmp d_L_law_1258 ?_
    refine go_top 0 (lc_0 _) ?_
    refine go_if_eq (tgt := 1264) d_L_law_1259 (by decide) (fun z => ?_) (fun z => absurd rfl z)
    refine go_goto (tgt := 1267) d_L_law_1264 (by decide) ?_
    exact ho
  · refine go_if_ne (tgt := 1264) d_L_law_1249 (by decide) (fun z => ?_) (fun z => absurd z hk)
    refine go_goto (tgt := 1267) d_L_law_1264 (by decide) ?_
    exact ho
theorem nI_m4 {L : Nat} (h : L < 4) : nI L - 4 < nI 0 := by
  rcases (show L = 0 ∨ L = 1 ∨ L = 2 ∨ L = 3 by omega) with rfl | rfl | rfl | rfl <;> decide +kernel
theorem lw_loop {L : Nat} (hE : RateE RT) (hR : RateM RT) (hL : L ≤ 2048) : ∀ n i (I : Nat → Nat → Int32) (J : Nat → Nat → Int64) (w5 w6 : Option Value) (cu su : Nat), L / 4 - i = n → 4 * i ≤ L → LW RT I J → I 1001 0 = nI L → cu ≤ 200 + 3 * i → su ≤ 200000 + 18 * i → okW w5 = true → okW w6 = true → ∃ σ', pm_Go 11 m_L_law 23 [some (.ref 1000), some (.ref 0), some (.ref 69), some (.ref 103), some (.int (nI (4 * i))), w5, w6, none] [] cu su (ST I J) (.inl (some (.int 1)), σ') := by
  intro n
  induction n with
  | zero =>
    intro i I J w5 w6 cu su hn hi hW eL hcu hsu h5 h6
    refine ⟨ST I J, ?_⟩
    refine go_iload d_L_law_23 rfl ?_
    refine go_aload_n d_L_law_25 rfl ?_
    refine go_slen d_L_law_26 rfl ?_
    refine go_iconst (v := 4) d_L_law_27 (by decide) ?_
    refine go_st (σ' := ST I J) rfl ?_
    have e0 : (ST I J).2.2.1 1001 0 = nI L := eL
    rw [e0]
    refine go_isub d_L_law_28 ?_
    have hlt : nI L - 4 < nI (4 * i) := by
      by_cases h4 : L < 4
      · have : i = 0 := by omega
        subst this
        exact nI_m4 h4
      · have e : nI L - 4 = nI (L - 4) := pk_sub (b := 4) (by omega)
        rw [e]
        exact nI_lt (by omega) (by omega)
    refine go_icmp_gt (tgt := 1273) d_L_law_29 (by decide) (fun z => ?_) (fun z => absurd hlt z)
    refine go_iconst (v := 1) d_L_law_1273 (by decide) ?_
    exact go_zreturn (st := []) d_L_law_1274 rfl (show cu ≤ 601024 by omega) (show su ≤ 7293034 by omega) rfl (Or.inr rfl)
  | succ n ih =>
    intro i I J w5 w6 cu su hn hi hW eL hcu hsu h5 h6
    have hi4 : 4 * i + 4 ≤ L := by omega
    have key : ∃ I' J' w5' w6' cu' su', LW RT I' J' ∧ I' 1000 = I 1000 ∧ I' 1001 = I 1001 ∧ okW w5' = true ∧ okW w6' = true ∧ cu' ≤ cu + 3 ∧ su' ≤ su + 18 ∧ ∀ out, pm_Go 11 m_L_law 1267 [some (.ref 1000), some (.ref 0), some (.ref 69), some (.ref 103), some (.int (nI (4 * i))), w5', w6', none] [] cu' su' (ST I' J') out → pm_Go 11 m_L_law 39 [some (.ref 1000), some (.ref 0), some (.ref 69), some (.ref 103), some (.int (nI (4 * i))), w5, w6, none] [.int (I 1000 (4 * i) &&& 31)] cu su (ST I J) out := by
      obtain ⟨q, hq, eq⟩ := pk_andE (I 1000 (4 * i)) (m := 31) 5 (by decide)
      rw [eq]
      by_cases h20 : 20 ≤ q
      · refine ⟨I, J, w5, w6, cu, su, hW, rfl, rfl, h5, h6, by omega, by omega, fun out ho => ?_⟩
        refine go_tableOut (tgt := 1267) d_L_law_39 (Or.inr (by rw [nI_toInt (by omega)]; omega)) (by decide) ?_
        exact ho
      · rcases (show q = 0 ∨ q = 1 ∨ q = 2 ∨ q = 3 ∨ q = 4 ∨ q = 5 ∨ q = 6 ∨ q = 7 ∨ q = 8 ∨ q = 9 ∨ q = 10 ∨ q = 11 ∨ q = 12 ∨ q = 13 ∨ q = 14 ∨ q = 15 ∨ q = 16 ∨ q = 17 ∨ q = 18 ∨ q = 19 by omega) with rfl | rfl | rfl | rfl | rfl | rfl | rfl | rfl | rfl | rfl | rfl | rfl | rfl | rfl | rfl | rfl | rfl | rfl | rfl | rfl
        · obtain ⟨I', J', w5', w6', cu', su', a1, a2, a3, a4, a5, a6, a7, a8⟩ := lw_c0 (w5 := w5) (w6 := w6) (cu := cu) (su := su) hW eL hi4 hL (by omega) (by omega) h5 h6
          refine ⟨I', J', w5', w6', cu', su', a1, a2, a3, a4, a5, a6, a7, fun out ho => ?_⟩
          exact go_tableIn (tgt := 132) d_L_law_39 (by decide) (by decide) (show _ = some 93 by decide) (by decide) (a8 out ho)
        · obtain ⟨I', J', w5', w6', cu', su', a1, a2, a3, a4, a5, a6, a7, a8⟩ := lw_c1 (w5 := w5) (w6 := w6) (cu := cu) (su := su) hW eL hi4 hL (by omega) (by omega) h5 h6
          refine ⟨I', J', w5', w6', cu', su', a1, a2, a3, a4, a5, a6, a7, fun out ho => ?_⟩
          exact go_tableIn (tgt := 200) d_L_law_39 (by decide) (by decide) (show _ = some 161 by decide) (by decide) (a8 out ho)
        · obtain ⟨I', J', w5', w6', cu', su', a1, a2, a3, a4, a5, a6, a7, a8⟩ := lw_c2 (w5 := w5) (w6 := w6) (cu := cu) (su := su) hW eL hi4 hL (by omega) (by omega) h5 h6
          refine ⟨I', J', w5', w6', cu', su', a1, a2, a3, a4, a5, a6, a7, fun out ho => ?_⟩
          exact go_tableIn (tgt := 280) d_L_law_39 (by decide) (by decide) (show _ = some 241 by decide) (by decide) (a8 out ho)
        · obtain ⟨I', J', w5', w6', cu', su', a1, a2, a3, a4, a5, a6, a7, a8⟩ := lw_c3 (w5 := w5) (w6 := w6) (cu := cu) (su := su) hW eL hi4 hL (by omega) (by omega) h5 h6
          refine ⟨I', J', w5', w6', cu', su', a1, a2, a3, a4, a5, a6, a7, fun out ho => ?_⟩
          exact go_tableIn (tgt := 336) d_L_law_39 (by decide) (by decide) (show _ = some 297 by decide) (by decide) (a8 out ho)
        · obtain ⟨I', J', w5', w6', cu', su', a1, a2, a3, a4, a5, a6, a7, a8⟩ := lw_c4 (w5 := w5) (w6 := w6) (cu := cu) (su := su) hW eL hi4 hL (by omega) (by omega) h5 h6
          refine ⟨I', J', w5', w6', cu', su', a1, a2, a3, a4, a5, a6, a7, fun out ho => ?_⟩
          exact go_tableIn (tgt := 392) d_L_law_39 (by decide) (by decide) (show _ = some 353 by decide) (by decide) (a8 out ho)
        · obtain ⟨I', J', w5', w6', cu', su', a1, a2, a3, a4, a5, a6, a7, a8⟩ := lw_c5 (w5 := w5) (w6 := w6) (cu := cu) (su := su) hR hW eL hi4 hL (by omega) (by omega) h5 h6
          refine ⟨I', J', w5', w6', cu', su', a1, a2, a3, a4, a5, a6, a7, fun out ho => ?_⟩
          exact go_tableIn (tgt := 460) d_L_law_39 (by decide) (by decide) (show _ = some 421 by decide) (by decide) (a8 out ho)
        · obtain ⟨I', J', w5', w6', cu', su', a1, a2, a3, a4, a5, a6, a7, a8⟩ := lw_c6 (w5 := w5) (w6 := w6) (cu := cu) (su := su) hW eL hi4 hL (by omega) (by omega) h5 h6
          refine ⟨I', J', w5', w6', cu', su', a1, a2, a3, a4, a5, a6, a7, fun out ho => ?_⟩
          exact go_tableIn (tgt := 504) d_L_law_39 (by decide) (by decide) (show _ = some 465 by decide) (by decide) (a8 out ho)
        · obtain ⟨I', J', w5', w6', cu', su', a1, a2, a3, a4, a5, a6, a7, a8⟩ := lw_c7 (w5 := w5) (w6 := w6) (cu := cu) (su := su) hW eL hi4 hL (by omega) (by omega) h5 h6
          refine ⟨I', J', w5', w6', cu', su', a1, a2, a3, a4, a5, a6, a7, fun out ho => ?_⟩
          exact go_tableIn (tgt := 517) d_L_law_39 (by decide) (by decide) (show _ = some 478 by decide) (by decide) (a8 out ho)
        · obtain ⟨I', J', w5', w6', cu', su', a1, a2, a3, a4, a5, a6, a7, a8⟩ := lw_c8 (w5 := w5) (w6 := w6) (cu := cu) (su := su) hW eL hi4 hL (by omega) (by omega) h5 h6
          refine ⟨I', J', w5', w6', cu', su', a1, a2, a3, a4, a5, a6, a7, fun out ho => ?_⟩
          exact go_tableIn (tgt := 541) d_L_law_39 (by decide) (by decide) (show _ = some 502 by decide) (by decide) (a8 out ho)
        · obtain ⟨I', J', w5', w6', cu', su', a1, a2, a3, a4, a5, a6, a7, a8⟩ := lw_c9 (w5 := w5) (w6 := w6) (cu := cu) (su := su) hW eL hi4 hL (by omega) (by omega) h5 h6
          refine ⟨I', J', w5', w6', cu', su', a1, a2, a3, a4, a5, a6, a7, fun out ho => ?_⟩
          exact go_tableIn (tgt := 616) d_L_law_39 (by decide) (by decide) (show _ = some 577 by decide) (by decide) (a8 out ho)
        · obtain ⟨I', J', w5', w6', cu', su', a1, a2, a3, a4, a5, a6, a7, a8⟩ := lw_c10 (w5 := w5) (w6 := w6) (cu := cu) (su := su) hW eL hi4 hL (by omega) (by omega) h5 h6
          refine ⟨I', J', w5', w6', cu', su', a1, a2, a3, a4, a5, a6, a7, fun out ho => ?_⟩
          exact go_tableIn (tgt := 672) d_L_law_39 (by decide) (by decide) (show _ = some 633 by decide) (by decide) (a8 out ho)
        · obtain ⟨I', J', w5', w6', cu', su', a1, a2, a3, a4, a5, a6, a7, a8⟩ := lw_c11 (w5 := w5) (w6 := w6) (cu := cu) (su := su) hW eL hi4 hL (by omega) (by omega) h5 h6
          refine ⟨I', J', w5', w6', cu', su', a1, a2, a3, a4, a5, a6, a7, fun out ho => ?_⟩
          exact go_tableIn (tgt := 740) d_L_law_39 (by decide) (by decide) (show _ = some 701 by decide) (by decide) (a8 out ho)
        · obtain ⟨I', J', w5', w6', cu', su', a1, a2, a3, a4, a5, a6, a7, a8⟩ := lw_c12 (w5 := w5) (w6 := w6) (cu := cu) (su := su) hW eL hi4 hL (by omega) (by omega) h5 h6
          refine ⟨I', J', w5', w6', cu', su', a1, a2, a3, a4, a5, a6, a7, fun out ho => ?_⟩
          exact go_tableIn (tgt := 784) d_L_law_39 (by decide) (by decide) (show _ = some 745 by decide) (by decide) (a8 out ho)
        · obtain ⟨I', J', w5', w6', cu', su', a1, a2, a3, a4, a5, a6, a7, a8⟩ := lw_c13 (w5 := w5) (w6 := w6) (cu := cu) (su := su) hW eL hi4 hL (by omega) (by omega) h5 h6
          refine ⟨I', J', w5', w6', cu', su', a1, a2, a3, a4, a5, a6, a7, fun out ho => ?_⟩
          exact go_tableIn (tgt := 840) d_L_law_39 (by decide) (by decide) (show _ = some 801 by decide) (by decide) (a8 out ho)
        · obtain ⟨I', J', w5', w6', cu', su', a1, a2, a3, a4, a5, a6, a7, a8⟩ := lw_c14 (w5 := w5) (w6 := w6) (cu := cu) (su := su) hW eL hi4 hL (by omega) (by omega) h5 h6
          refine ⟨I', J', w5', w6', cu', su', a1, a2, a3, a4, a5, a6, a7, fun out ho => ?_⟩
          exact go_tableIn (tgt := 896) d_L_law_39 (by decide) (by decide) (show _ = some 857 by decide) (by decide) (a8 out ho)
        · obtain ⟨I', J', w5', w6', cu', su', a1, a2, a3, a4, a5, a6, a7, a8⟩ := lw_c15 (w5 := w5) (w6 := w6) (cu := cu) (su := su) hW eL hi4 hL (by omega) (by omega) h5 h6
          refine ⟨I', J', w5', w6', cu', su', a1, a2, a3, a4, a5, a6, a7, fun out ho => ?_⟩
          exact go_tableIn (tgt := 964) d_L_law_39 (by decide) (by decide) (show _ = some 925 by decide) (by decide) (a8 out ho)
        · obtain ⟨I', J', w5', w6', cu', su', a1, a2, a3, a4, a5, a6, a7, a8⟩ := lw_c16 (w5 := w5) (w6 := w6) (cu := cu) (su := su) hW eL hi4 hL (by omega) (by omega) h5 h6
          refine ⟨I', J', w5', w6', cu', su', a1, a2, a3, a4, a5, a6, a7, fun out ho => ?_⟩
          exact go_tableIn (tgt := 1020) d_L_law_39 (by decide) (by decide) (show _ = some 981 by decide) (by decide) (a8 out ho)
        · obtain ⟨I', J', w5', w6', cu', su', a1, a2, a3, a4, a5, a6, a7, a8⟩ := lw_c17 (w5 := w5) (w6 := w6) (cu := cu) (su := su) hW eL hi4 hL (by omega) (by omega) h5 h6
          refine ⟨I', J', w5', w6', cu', su', a1, a2, a3, a4, a5, a6, a7, fun out ho => ?_⟩
          exact go_tableIn (tgt := 1076) d_L_law_39 (by decide) (by decide) (show _ = some 1037 by decide) (by decide) (a8 out ho)
        · obtain ⟨I', J', w5', w6', cu', su', a1, a2, a3, a4, a5, a6, a7, a8⟩ := lw_c18 (w5 := w5) (w6 := w6) (cu := cu) (su := su) hW eL hi4 hL (by omega) (by omega) h5 h6
          refine ⟨I', J', w5', w6', cu', su', a1, a2, a3, a4, a5, a6, a7, fun out ho => ?_⟩
          exact go_tableIn (tgt := 1143) d_L_law_39 (by decide) (by decide) (show _ = some 1104 by decide) (by decide) (a8 out ho)
        · obtain ⟨I', J', w5', w6', cu', su', a1, a2, a3, a4, a5, a6, a7, a8⟩ := lw_c19 (w5 := w5) (w6 := w6) (cu := cu) (su := su) hE hW eL hi4 hL (by omega) (by omega) h5 h6
          refine ⟨I', J', w5', w6', cu', su', a1, a2, a3, a4, a5, a6, a7, fun out ho => ?_⟩
          exact go_tableIn (tgt := 1211) d_L_law_39 (by decide) (by decide) (show _ = some 1172 by decide) (by decide) (a8 out ho)
    obtain ⟨I', J', w5', w6', cu', su', a1, a2, a3, a4, a5, a6, a7, a8⟩ := key
    obtain ⟨σ', i1⟩ := ih (i + 1) I' J' w5' w6' cu' su' (by omega) (by omega) a1 (by rw [a3]; exact eL) (by omega) (by omega) a4 a5
    refine ⟨σ', ?_⟩
    refine go_iload d_L_law_23 rfl ?_
    refine go_aload_n d_L_law_25 rfl ?_
    refine go_slen d_L_law_26 rfl ?_
    refine go_iconst (v := 4) d_L_law_27 (by decide) ?_
    have e0 : (ST I J).2.2.1 1001 0 = nI L := eL
    rw [e0]
    refine go_isub d_L_law_28 ?_
    refine go_top (nI (L - 4)) (pk_sub (b := 4) (by omega)) ?_
    refine go_icmp_gt (tgt := 1273) d_L_law_29 (by decide) (fun z => absurd z (nI_nlt (by omega) (by omega))) (fun z => ?_)
    refine go_aload_n d_L_law_32 rfl ?_
    refine go_iload d_L_law_33 rfl ?_
    refine go_scr (4 * i) d_L_law_35 eL (by omega) hL ?_
    refine go_bipush (v := 31) d_L_law_36 (by decide) ?_
    refine go_iand d_L_law_38 ?_
    refine a8 _ ?_
    refine go_iinc (v := nI (4 * (i + 1))) d_L_law_1267 rfl (by rw [show 4 * (i + 1) = 4 * i + 4 by omega]; exact nI_add (4 * i) 4) rfl ?_
    refine go_goto (tgt := 23) d_L_law_1270 (by decide) ?_
    exact i1
end S54
