/-! The constructors -/
section S6
variable {d : Nat} {P : Nat → Nat → Option Nat} {I : Nat → Nat → Int32} {J : Nat → Nat → Int64}
theorem gr_I : ("[" ++ (FieldType.array .int).toString) = "[[I" := by decide +kernel
theorem gr_J : ("[" ++ (FieldType.array .long).toString) = "[[J" := by decide +kernel
def II_D (I : Nat → Nat → Int32) : Nat → Nat → Int32 := pm_uI (pm_uI (pm_uI (pm_uI (I) 1 0 0) 1 1 0) 1 2 0) 1 3 0
set_option maxRecDepth 20000 in
theorem sp_D_init (hI : ∀ c, 2 ≤ c → c < 1000 → ∀ j, I c j = 0) : pm_Go (d + 1) m_D_init 0 [some (.ref 1)] [] 0 0 (2, P, I, J) (.inl none, (33, PI_D P, II_D I, J)) := by
  refine go_aload_n d_D_init_0 rfl ?_
  refine go_objInit d_D_init_1 w_29 w_22 w_23 (Nat.le_of_ble_eq_true rfl) (by omega) ?_
  refine go_aload_n d_D_init_4 rfl ?_
  refine go_iconst (v := 0) d_D_init_5 (by decide) ?_
  refine go_putI (j := 0) d_D_init_6 (Nat.le_of_ble_eq_true rfl) rfl pc_D (Nat.le_of_ble_eq_true rfl) (by decide) w_32 rfl (Or.inl rfl) ?_
  refine go_st (σ' := (2, P, pm_uI (I) 1 0 0, J)) rfl ?_
  refine go_aload_n d_D_init_9 rfl ?_
  refine go_iconst (v := 0) d_D_init_10 (by decide) ?_
  refine go_putI (j := 1) d_D_init_11 (Nat.le_of_ble_eq_true rfl) rfl pc_D (Nat.le_of_ble_eq_true rfl) (by decide) w_37 rfl (Or.inl rfl) ?_
  refine go_st (σ' := (2, P, pm_uI (pm_uI (I) 1 0 0) 1 1 0, J)) rfl ?_
  refine go_aload_n d_D_init_14 rfl ?_
  refine go_iconst (v := 0) d_D_init_15 (by decide) ?_
  refine go_putI (j := 2) d_D_init_16 (Nat.le_of_ble_eq_true rfl) rfl pc_D (Nat.le_of_ble_eq_true rfl) (by decide) w_42 rfl (Or.inl rfl) ?_
  refine go_st (σ' := (2, P, pm_uI (pm_uI (pm_uI (I) 1 0 0) 1 1 0) 1 2 0, J)) rfl ?_
  refine go_aload_n d_D_init_19 rfl ?_
  refine go_iconst (v := 0) d_D_init_20 (by decide) ?_
  refine go_putI (j := 3) d_D_init_21 (Nat.le_of_ble_eq_true rfl) rfl pc_D (Nat.le_of_ble_eq_true rfl) (by decide) w_46 rfl (Or.inl rfl) ?_
  refine go_st (σ' := (2, P, pm_uI (pm_uI (pm_uI (pm_uI (I) 1 0 0) 1 1 0) 1 2 0) 1 3 0, J)) rfl ?_
  refine go_aload_n d_D_init_24 rfl ?_
  refine go_bipush (v := 10) d_D_init_25 (by decide) ?_
  refine go_newI (n := 10) d_D_init_27 rfl (by decide) (by decide) (by decide) w_103 (Nat.le_of_ble_eq_true rfl) (Nat.le_of_ble_eq_true rfl) (Nat.le_of_ble_eq_true rfl) (fun j => hI 2 (by decide) (by decide) j) rfl ?_
  refine go_st (σ' := (3, P, pm_uI (pm_uI (pm_uI (pm_uI (I) 1 0 0) 1 1 0) 1 2 0) 1 3 0, J)) rfl ?_
  refine go_putP (j := 4) d_D_init_29 (Nat.le_of_ble_eq_true rfl) rfl pc_D (Nat.le_of_ble_eq_true rfl) rfl w_49 rfl rfl rfl rfl (Nat.le_of_ble_eq_true rfl) ?_
  refine go_st (σ' := (3, pm_uP (P) 1 4 (some 2), pm_uI (pm_uI (pm_uI (pm_uI (I) 1 0 0) 1 1 0) 1 2 0) 1 3 0, J)) rfl ?_
  refine go_aload_n d_D_init_32 rfl ?_
  refine go_bipush (v := 10) d_D_init_33 (by decide) ?_
  refine go_newI (n := 10) d_D_init_35 rfl (by decide) (by decide) (by decide) w_103 (Nat.le_of_ble_eq_true rfl) (Nat.le_of_ble_eq_true rfl) (Nat.le_of_ble_eq_true rfl) (fun j => hI 3 (by decide) (by decide) j) rfl ?_
  refine go_st (σ' := (4, pm_uP (P) 1 4 (some 2), pm_uI (pm_uI (pm_uI (pm_uI (I) 1 0 0) 1 1 0) 1 2 0) 1 3 0, J)) rfl ?_
  refine go_putP (j := 5) d_D_init_37 (Nat.le_of_ble_eq_true rfl) rfl pc_D (Nat.le_of_ble_eq_true rfl) rfl w_50 rfl rfl rfl rfl (Nat.le_of_ble_eq_true rfl) ?_
  refine go_st (σ' := (4, pm_uP (pm_uP (P) 1 4 (some 2)) 1 5 (some 3), pm_uI (pm_uI (pm_uI (pm_uI (I) 1 0 0) 1 1 0) 1 2 0) 1 3 0, J)) rfl ?_
  refine go_aload_n d_D_init_40 rfl ?_
  refine go_bipush (v := 20) d_D_init_41 (by decide) ?_
  refine go_newI (n := 20) d_D_init_43 rfl (by decide) (by decide) (by decide) w_103 (Nat.le_of_ble_eq_true rfl) (Nat.le_of_ble_eq_true rfl) (Nat.le_of_ble_eq_true rfl) (fun j => hI 4 (by decide) (by decide) j) rfl ?_
  refine go_st (σ' := (5, pm_uP (pm_uP (P) 1 4 (some 2)) 1 5 (some 3), pm_uI (pm_uI (pm_uI (pm_uI (I) 1 0 0) 1 1 0) 1 2 0) 1 3 0, J)) rfl ?_
  refine go_putP (j := 6) d_D_init_45 (Nat.le_of_ble_eq_true rfl) rfl pc_D (Nat.le_of_ble_eq_true rfl) rfl w_51 rfl rfl rfl rfl (Nat.le_of_ble_eq_true rfl) ?_
  refine go_st (σ' := (5, pm_uP (pm_uP (pm_uP (P) 1 4 (some 2)) 1 5 (some 3)) 1 6 (some 4), pm_uI (pm_uI (pm_uI (pm_uI (I) 1 0 0) 1 1 0) 1 2 0) 1 3 0, J)) rfl ?_
  refine go_aload_n d_D_init_48 rfl ?_
  refine go_bipush (v := 20) d_D_init_49 (by decide) ?_
  refine go_newI (n := 20) d_D_init_51 rfl (by decide) (by decide) (by decide) w_103 (Nat.le_of_ble_eq_true rfl) (Nat.le_of_ble_eq_true rfl) (Nat.le_of_ble_eq_true rfl) (fun j => hI 5 (by decide) (by decide) j) rfl ?_
  refine go_st (σ' := (6, pm_uP (pm_uP (pm_uP (P) 1 4 (some 2)) 1 5 (some 3)) 1 6 (some 4), pm_uI (pm_uI (pm_uI (pm_uI (I) 1 0 0) 1 1 0) 1 2 0) 1 3 0, J)) rfl ?_
  refine go_putP (j := 7) d_D_init_53 (Nat.le_of_ble_eq_true rfl) rfl pc_D (Nat.le_of_ble_eq_true rfl) rfl w_54 rfl rfl rfl rfl (Nat.le_of_ble_eq_true rfl) ?_
  refine go_st (σ' := (6, pm_uP (pm_uP (pm_uP (pm_uP (P) 1 4 (some 2)) 1 5 (some 3)) 1 6 (some 4)) 1 7 (some 5), pm_uI (pm_uI (pm_uI (pm_uI (I) 1 0 0) 1 1 0) 1 2 0) 1 3 0, J)) rfl ?_
  refine go_aload_n d_D_init_56 rfl ?_
  refine go_bipush (v := 20) d_D_init_57 (by decide) ?_
  refine go_newI (n := 20) d_D_init_59 rfl (by decide) (by decide) (by decide) w_103 (Nat.le_of_ble_eq_true rfl) (Nat.le_of_ble_eq_true rfl) (Nat.le_of_ble_eq_true rfl) (fun j => hI 6 (by decide) (by decide) j) rfl ?_
  refine go_st (σ' := (7, pm_uP (pm_uP (pm_uP (pm_uP (P) 1 4 (some 2)) 1 5 (some 3)) 1 6 (some 4)) 1 7 (some 5), pm_uI (pm_uI (pm_uI (pm_uI (I) 1 0 0) 1 1 0) 1 2 0) 1 3 0, J)) rfl ?_
  refine go_putP (j := 8) d_D_init_61 (Nat.le_of_ble_eq_true rfl) rfl pc_D (Nat.le_of_ble_eq_true rfl) rfl w_56 rfl rfl rfl rfl (Nat.le_of_ble_eq_true rfl) ?_
  refine go_st (σ' := (7, pm_uP (pm_uP (pm_uP (pm_uP (pm_uP (P) 1 4 (some 2)) 1 5 (some 3)) 1 6 (some 4)) 1 7 (some 5)) 1 8 (some 6), pm_uI (pm_uI (pm_uI (pm_uI (I) 1 0 0) 1 1 0) 1 2 0) 1 3 0, J)) rfl ?_
  refine go_aload_n d_D_init_64 rfl ?_
  refine go_bipush (v := 20) d_D_init_65 (by decide) ?_
  refine go_newI (n := 20) d_D_init_67 rfl (by decide) (by decide) (by decide) w_103 (Nat.le_of_ble_eq_true rfl) (Nat.le_of_ble_eq_true rfl) (Nat.le_of_ble_eq_true rfl) (fun j => hI 7 (by decide) (by decide) j) rfl ?_
  refine go_st (σ' := (8, pm_uP (pm_uP (pm_uP (pm_uP (pm_uP (P) 1 4 (some 2)) 1 5 (some 3)) 1 6 (some 4)) 1 7 (some 5)) 1 8 (some 6), pm_uI (pm_uI (pm_uI (pm_uI (I) 1 0 0) 1 1 0) 1 2 0) 1 3 0, J)) rfl ?_
  refine go_putP (j := 9) d_D_init_69 (Nat.le_of_ble_eq_true rfl) rfl pc_D (Nat.le_of_ble_eq_true rfl) rfl w_59 rfl rfl rfl rfl (Nat.le_of_ble_eq_true rfl) ?_
  refine go_st (σ' := (8, pm_uP (pm_uP (pm_uP (pm_uP (pm_uP (pm_uP (P) 1 4 (some 2)) 1 5 (some 3)) 1 6 (some 4)) 1 7 (some 5)) 1 8 (some 6)) 1 9 (some 7), pm_uI (pm_uI (pm_uI (pm_uI (I) 1 0 0) 1 1 0) 1 2 0) 1 3 0, J)) rfl ?_
  refine go_aload_n d_D_init_72 rfl ?_
  refine go_iconst (v := 4) d_D_init_73 (by decide) ?_
  refine go_newI (n := 4) d_D_init_74 rfl (by decide) (by decide) (by decide) w_103 (Nat.le_of_ble_eq_true rfl) (Nat.le_of_ble_eq_true rfl) (Nat.le_of_ble_eq_true rfl) (fun j => hI 8 (by decide) (by decide) j) rfl ?_
  refine go_st (σ' := (9, pm_uP (pm_uP (pm_uP (pm_uP (pm_uP (pm_uP (P) 1 4 (some 2)) 1 5 (some 3)) 1 6 (some 4)) 1 7 (some 5)) 1 8 (some 6)) 1 9 (some 7), pm_uI (pm_uI (pm_uI (pm_uI (I) 1 0 0) 1 1 0) 1 2 0) 1 3 0, J)) rfl ?_
  refine go_putP (j := 10) d_D_init_76 (Nat.le_of_ble_eq_true rfl) rfl pc_D (Nat.le_of_ble_eq_true rfl) rfl w_62 rfl rfl rfl rfl (Nat.le_of_ble_eq_true rfl) ?_
  refine go_st (σ' := (9, pm_uP (pm_uP (pm_uP (pm_uP (pm_uP (pm_uP (pm_uP (P) 1 4 (some 2)) 1 5 (some 3)) 1 6 (some 4)) 1 7 (some 5)) 1 8 (some 6)) 1 9 (some 7)) 1 10 (some 8), pm_uI (pm_uI (pm_uI (pm_uI (I) 1 0 0) 1 1 0) 1 2 0) 1 3 0, J)) rfl ?_
  refine go_aload_n d_D_init_79 rfl ?_
  refine go_bipush (v := 10) d_D_init_80 (by decide) ?_
  refine go_bipush (v := 24) d_D_init_82 (by decide) ?_
  refine go_mnaI (n := 10) (kk := 24) d_D_init_84 rfl (fun i hi => sh_10 i hi) (by decide) (by decide) (by decide) (by decide) ⟨by decide, by decide⟩ w_103 (by rw [gr_I]; exact wd_t 30 (by decide +kernel) (by decide +kernel)) (Nat.le_of_ble_eq_true rfl) (Nat.le_of_ble_eq_true rfl) (Nat.le_of_ble_eq_true rfl) (fun i hi j => by simp [uI_at]; intros; exact hI (10 + i) (by omega) (by omega) j) rfl ?_
  refine go_st (σ' := (20, pm_gP (pm_uP (pm_uP (pm_uP (pm_uP (pm_uP (pm_uP (pm_uP (P) 1 4 (some 2)) 1 5 (some 3)) 1 6 (some 4)) 1 7 (some 5)) 1 8 (some 6)) 1 9 (some 7)) 1 10 (some 8)) 9 10, pm_uI (pm_uI (pm_uI (pm_uI (I) 1 0 0) 1 1 0) 1 2 0) 1 3 0, J)) rfl ?_
  refine go_putP (j := 11) d_D_init_88 (Nat.le_of_ble_eq_true rfl) rfl pc_D (Nat.le_of_ble_eq_true rfl) rfl w_64 rfl rfl rfl rfl (Nat.le_of_ble_eq_true rfl) ?_
  refine go_st (σ' := (20, pm_uP (pm_gP (pm_uP (pm_uP (pm_uP (pm_uP (pm_uP (pm_uP (pm_uP (P) 1 4 (some 2)) 1 5 (some 3)) 1 6 (some 4)) 1 7 (some 5)) 1 8 (some 6)) 1 9 (some 7)) 1 10 (some 8)) 9 10) 1 11 (some 9), pm_uI (pm_uI (pm_uI (pm_uI (I) 1 0 0) 1 1 0) 1 2 0) 1 3 0, J)) rfl ?_
  refine go_aload_n d_D_init_91 rfl ?_
  refine go_bipush (v := 10) d_D_init_92 (by decide) ?_
  refine go_newI (n := 10) d_D_init_94 rfl (by decide) (by decide) (by decide) w_103 (Nat.le_of_ble_eq_true rfl) (Nat.le_of_ble_eq_true rfl) (Nat.le_of_ble_eq_true rfl) (fun j => hI 20 (by decide) (by decide) j) rfl ?_
  refine go_st (σ' := (21, pm_uP (pm_gP (pm_uP (pm_uP (pm_uP (pm_uP (pm_uP (pm_uP (pm_uP (P) 1 4 (some 2)) 1 5 (some 3)) 1 6 (some 4)) 1 7 (some 5)) 1 8 (some 6)) 1 9 (some 7)) 1 10 (some 8)) 9 10) 1 11 (some 9), pm_uI (pm_uI (pm_uI (pm_uI (I) 1 0 0) 1 1 0) 1 2 0) 1 3 0, J)) rfl ?_
  refine go_putP (j := 12) d_D_init_96 (Nat.le_of_ble_eq_true rfl) rfl pc_D (Nat.le_of_ble_eq_true rfl) rfl w_66 rfl rfl rfl rfl (Nat.le_of_ble_eq_true rfl) ?_
  refine go_st (σ' := (21, pm_uP (pm_uP (pm_gP (pm_uP (pm_uP (pm_uP (pm_uP (pm_uP (pm_uP (pm_uP (P) 1 4 (some 2)) 1 5 (some 3)) 1 6 (some 4)) 1 7 (some 5)) 1 8 (some 6)) 1 9 (some 7)) 1 10 (some 8)) 9 10) 1 11 (some 9)) 1 12 (some 20), pm_uI (pm_uI (pm_uI (pm_uI (I) 1 0 0) 1 1 0) 1 2 0) 1 3 0, J)) rfl ?_
  refine go_aload_n d_D_init_99 rfl ?_
  refine go_bipush (v := 10) d_D_init_100 (by decide) ?_
  refine go_bipush (v := 24) d_D_init_102 (by decide) ?_
  refine go_mnaI (n := 10) (kk := 24) d_D_init_104 rfl (fun i hi => sh_22 i hi) (by decide) (by decide) (by decide) (by decide) ⟨by decide, by decide⟩ w_103 (by rw [gr_I]; exact wd_t 30 (by decide +kernel) (by decide +kernel)) (Nat.le_of_ble_eq_true rfl) (Nat.le_of_ble_eq_true rfl) (Nat.le_of_ble_eq_true rfl) (fun i hi j => by simp [uI_at]; intros; exact hI (22 + i) (by omega) (by omega) j) rfl ?_
  refine go_st (σ' := (32, pm_gP (pm_uP (pm_uP (pm_gP (pm_uP (pm_uP (pm_uP (pm_uP (pm_uP (pm_uP (pm_uP (P) 1 4 (some 2)) 1 5 (some 3)) 1 6 (some 4)) 1 7 (some 5)) 1 8 (some 6)) 1 9 (some 7)) 1 10 (some 8)) 9 10) 1 11 (some 9)) 1 12 (some 20)) 21 10, pm_uI (pm_uI (pm_uI (pm_uI (I) 1 0 0) 1 1 0) 1 2 0) 1 3 0, J)) rfl ?_
  refine go_putP (j := 13) d_D_init_108 (Nat.le_of_ble_eq_true rfl) rfl pc_D (Nat.le_of_ble_eq_true rfl) rfl w_68 rfl rfl rfl rfl (Nat.le_of_ble_eq_true rfl) ?_
  refine go_st (σ' := (32, pm_uP (pm_gP (pm_uP (pm_uP (pm_gP (pm_uP (pm_uP (pm_uP (pm_uP (pm_uP (pm_uP (pm_uP (P) 1 4 (some 2)) 1 5 (some 3)) 1 6 (some 4)) 1 7 (some 5)) 1 8 (some 6)) 1 9 (some 7)) 1 10 (some 8)) 9 10) 1 11 (some 9)) 1 12 (some 20)) 21 10) 1 13 (some 21), pm_uI (pm_uI (pm_uI (pm_uI (I) 1 0 0) 1 1 0) 1 2 0) 1 3 0, J)) rfl ?_
  refine go_aload_n d_D_init_111 rfl ?_
  refine go_bipush (v := 10) d_D_init_112 (by decide) ?_
  refine go_newI (n := 10) d_D_init_114 rfl (by decide) (by decide) (by decide) w_103 (Nat.le_of_ble_eq_true rfl) (Nat.le_of_ble_eq_true rfl) (Nat.le_of_ble_eq_true rfl) (fun j => hI 32 (by decide) (by decide) j) rfl ?_
  refine go_st (σ' := (33, pm_uP (pm_gP (pm_uP (pm_uP (pm_gP (pm_uP (pm_uP (pm_uP (pm_uP (pm_uP (pm_uP (pm_uP (P) 1 4 (some 2)) 1 5 (some 3)) 1 6 (some 4)) 1 7 (some 5)) 1 8 (some 6)) 1 9 (some 7)) 1 10 (some 8)) 9 10) 1 11 (some 9)) 1 12 (some 20)) 21 10) 1 13 (some 21), pm_uI (pm_uI (pm_uI (pm_uI (I) 1 0 0) 1 1 0) 1 2 0) 1 3 0, J)) rfl ?_
  refine go_putP (j := 14) d_D_init_116 (Nat.le_of_ble_eq_true rfl) rfl pc_D (Nat.le_of_ble_eq_true rfl) rfl w_70 rfl rfl rfl rfl (Nat.le_of_ble_eq_true rfl) ?_
  refine go_st (σ' := (33, pm_uP (pm_uP (pm_gP (pm_uP (pm_uP (pm_gP (pm_uP (pm_uP (pm_uP (pm_uP (pm_uP (pm_uP (pm_uP (P) 1 4 (some 2)) 1 5 (some 3)) 1 6 (some 4)) 1 7 (some 5)) 1 8 (some 6)) 1 9 (some 7)) 1 10 (some 8)) 9 10) 1 11 (some 9)) 1 12 (some 20)) 21 10) 1 13 (some 21)) 1 14 (some 32), pm_uI (pm_uI (pm_uI (pm_uI (I) 1 0 0) 1 1 0) 1 2 0) 1 3 0, J)) rfl ?_
  exact go_vreturn (st := []) d_D_init_119 rfl (Nat.le_of_ble_eq_true rfl) (Nat.le_of_ble_eq_true rfl) rfl
def II_P (I : Nat → Nat → Int32) : Nat → Nat → Int32 := pm_uI (pm_uI (I) 33 1 0) 33 9 0
set_option maxRecDepth 20000 in
theorem sp_P_init (hI : ∀ c, 34 ≤ c → c < 1000 → ∀ j, I c j = 0) (hJ : ∀ c, 34 ≤ c → ∀ j, J c j = 0) : pm_Go (d + 1) m_P_init 0 [some (.ref 33), some (.ref 1)] [] 0 0 (34, P, I, J) (.inl none, (54, PI_P P, II_P I, J)) := by
  refine go_aload_n d_P_init_0 rfl ?_
  refine go_objInit d_P_init_1 w_109 w_22 w_23 (Nat.le_of_ble_eq_true rfl) (by omega) ?_
  refine go_aload_n d_P_init_4 rfl ?_
  refine go_iconst (v := 0) d_P_init_5 (by decide) ?_
  refine go_putI (j := 1) d_P_init_6 (Nat.le_of_ble_eq_true rfl) rfl pc_P (Nat.le_of_ble_eq_true rfl) (by decide) w_114 rfl (Or.inl rfl) ?_
  refine go_st (σ' := (34, P, pm_uI (I) 33 1 0, J)) rfl ?_
  refine go_aload_n d_P_init_9 rfl ?_
  refine go_sipush (v := 160) d_P_init_10 (by decide) ?_
  refine go_newI (n := 160) d_P_init_13 rfl (by decide) (by decide) (by decide) w_103 (Nat.le_of_ble_eq_true rfl) (Nat.le_of_ble_eq_true rfl) (Nat.le_of_ble_eq_true rfl) (fun j => hI 34 (by decide) (by decide) j) rfl ?_
  refine go_st (σ' := (35, P, pm_uI (I) 33 1 0, J)) rfl ?_
  refine go_putP (j := 2) d_P_init_15 (Nat.le_of_ble_eq_true rfl) rfl pc_P (Nat.le_of_ble_eq_true rfl) rfl w_116 rfl rfl rfl rfl (Nat.le_of_ble_eq_true rfl) ?_
  refine go_st (σ' := (35, pm_uP (P) 33 2 (some 34), pm_uI (I) 33 1 0, J)) rfl ?_
  refine go_aload_n d_P_init_18 rfl ?_
  refine go_bipush (v := 80) d_P_init_19 (by decide) ?_
  refine go_newI (n := 80) d_P_init_21 rfl (by decide) (by decide) (by decide) w_103 (Nat.le_of_ble_eq_true rfl) (Nat.le_of_ble_eq_true rfl) (Nat.le_of_ble_eq_true rfl) (fun j => hI 35 (by decide) (by decide) j) rfl ?_
  refine go_st (σ' := (36, pm_uP (P) 33 2 (some 34), pm_uI (I) 33 1 0, J)) rfl ?_
  refine go_putP (j := 3) d_P_init_23 (Nat.le_of_ble_eq_true rfl) rfl pc_P (Nat.le_of_ble_eq_true rfl) rfl w_117 rfl rfl rfl rfl (Nat.le_of_ble_eq_true rfl) ?_
  refine go_st (σ' := (36, pm_uP (pm_uP (P) 33 2 (some 34)) 33 3 (some 35), pm_uI (I) 33 1 0, J)) rfl ?_
  refine go_aload_n d_P_init_26 rfl ?_
  refine go_bipush (v := 80) d_P_init_27 (by decide) ?_
  refine go_newI (n := 80) d_P_init_29 rfl (by decide) (by decide) (by decide) w_103 (Nat.le_of_ble_eq_true rfl) (Nat.le_of_ble_eq_true rfl) (Nat.le_of_ble_eq_true rfl) (fun j => hI 36 (by decide) (by decide) j) rfl ?_
  refine go_st (σ' := (37, pm_uP (pm_uP (P) 33 2 (some 34)) 33 3 (some 35), pm_uI (I) 33 1 0, J)) rfl ?_
  refine go_putP (j := 4) d_P_init_31 (Nat.le_of_ble_eq_true rfl) rfl pc_P (Nat.le_of_ble_eq_true rfl) rfl w_119 rfl rfl rfl rfl (Nat.le_of_ble_eq_true rfl) ?_
  refine go_st (σ' := (37, pm_uP (pm_uP (pm_uP (P) 33 2 (some 34)) 33 3 (some 35)) 33 4 (some 36), pm_uI (I) 33 1 0, J)) rfl ?_
  refine go_aload_n d_P_init_34 rfl ?_
  refine go_bipush (v := 24) d_P_init_35 (by decide) ?_
  refine go_newI (n := 24) d_P_init_37 rfl (by decide) (by decide) (by decide) w_103 (Nat.le_of_ble_eq_true rfl) (Nat.le_of_ble_eq_true rfl) (Nat.le_of_ble_eq_true rfl) (fun j => hI 37 (by decide) (by decide) j) rfl ?_
  refine go_st (σ' := (38, pm_uP (pm_uP (pm_uP (P) 33 2 (some 34)) 33 3 (some 35)) 33 4 (some 36), pm_uI (I) 33 1 0, J)) rfl ?_
  refine go_putP (j := 5) d_P_init_39 (Nat.le_of_ble_eq_true rfl) rfl pc_P (Nat.le_of_ble_eq_true rfl) rfl w_120 rfl rfl rfl rfl (Nat.le_of_ble_eq_true rfl) ?_
  refine go_st (σ' := (38, pm_uP (pm_uP (pm_uP (pm_uP (P) 33 2 (some 34)) 33 3 (some 35)) 33 4 (some 36)) 33 5 (some 37), pm_uI (I) 33 1 0, J)) rfl ?_
  refine go_aload_n d_P_init_42 rfl ?_
  refine go_bipush (v := 10) d_P_init_43 (by decide) ?_
  refine go_newI (n := 10) d_P_init_45 rfl (by decide) (by decide) (by decide) w_103 (Nat.le_of_ble_eq_true rfl) (Nat.le_of_ble_eq_true rfl) (Nat.le_of_ble_eq_true rfl) (fun j => hI 38 (by decide) (by decide) j) rfl ?_
  refine go_st (σ' := (39, pm_uP (pm_uP (pm_uP (pm_uP (P) 33 2 (some 34)) 33 3 (some 35)) 33 4 (some 36)) 33 5 (some 37), pm_uI (I) 33 1 0, J)) rfl ?_
  refine go_putP (j := 6) d_P_init_47 (Nat.le_of_ble_eq_true rfl) rfl pc_P (Nat.le_of_ble_eq_true rfl) rfl w_121 rfl rfl rfl rfl (Nat.le_of_ble_eq_true rfl) ?_
  refine go_st (σ' := (39, pm_uP (pm_uP (pm_uP (pm_uP (pm_uP (P) 33 2 (some 34)) 33 3 (some 35)) 33 4 (some 36)) 33 5 (some 37)) 33 6 (some 38), pm_uI (I) 33 1 0, J)) rfl ?_
  refine go_aload_n d_P_init_50 rfl ?_
  refine go_bipush (v := 10) d_P_init_51 (by decide) ?_
  refine go_newI (n := 10) d_P_init_53 rfl (by decide) (by decide) (by decide) w_103 (Nat.le_of_ble_eq_true rfl) (Nat.le_of_ble_eq_true rfl) (Nat.le_of_ble_eq_true rfl) (fun j => hI 39 (by decide) (by decide) j) rfl ?_
  refine go_st (σ' := (40, pm_uP (pm_uP (pm_uP (pm_uP (pm_uP (P) 33 2 (some 34)) 33 3 (some 35)) 33 4 (some 36)) 33 5 (some 37)) 33 6 (some 38), pm_uI (I) 33 1 0, J)) rfl ?_
  refine go_putP (j := 7) d_P_init_55 (Nat.le_of_ble_eq_true rfl) rfl pc_P (Nat.le_of_ble_eq_true rfl) rfl w_123 rfl rfl rfl rfl (Nat.le_of_ble_eq_true rfl) ?_
  refine go_st (σ' := (40, pm_uP (pm_uP (pm_uP (pm_uP (pm_uP (pm_uP (P) 33 2 (some 34)) 33 3 (some 35)) 33 4 (some 36)) 33 5 (some 37)) 33 6 (some 38)) 33 7 (some 39), pm_uI (I) 33 1 0, J)) rfl ?_
  refine go_aload_n d_P_init_58 rfl ?_
  refine go_bipush (v := 10) d_P_init_59 (by decide) ?_
  refine go_newI (n := 10) d_P_init_61 rfl (by decide) (by decide) (by decide) w_103 (Nat.le_of_ble_eq_true rfl) (Nat.le_of_ble_eq_true rfl) (Nat.le_of_ble_eq_true rfl) (fun j => hI 40 (by decide) (by decide) j) rfl ?_
  refine go_st (σ' := (41, pm_uP (pm_uP (pm_uP (pm_uP (pm_uP (pm_uP (P) 33 2 (some 34)) 33 3 (some 35)) 33 4 (some 36)) 33 5 (some 37)) 33 6 (some 38)) 33 7 (some 39), pm_uI (I) 33 1 0, J)) rfl ?_
  refine go_putP (j := 8) d_P_init_63 (Nat.le_of_ble_eq_true rfl) rfl pc_P (Nat.le_of_ble_eq_true rfl) rfl w_125 rfl rfl rfl rfl (Nat.le_of_ble_eq_true rfl) ?_
  refine go_st (σ' := (41, pm_uP (pm_uP (pm_uP (pm_uP (pm_uP (pm_uP (pm_uP (P) 33 2 (some 34)) 33 3 (some 35)) 33 4 (some 36)) 33 5 (some 37)) 33 6 (some 38)) 33 7 (some 39)) 33 8 (some 40), pm_uI (I) 33 1 0, J)) rfl ?_
  refine go_aload_n d_P_init_66 rfl ?_
  refine go_iconst (v := 0) d_P_init_67 (by decide) ?_
  refine go_putI (j := 9) d_P_init_68 (Nat.le_of_ble_eq_true rfl) rfl pc_P (Nat.le_of_ble_eq_true rfl) (by decide) w_126 rfl (Or.inl rfl) ?_
  refine go_st (σ' := (41, pm_uP (pm_uP (pm_uP (pm_uP (pm_uP (pm_uP (pm_uP (P) 33 2 (some 34)) 33 3 (some 35)) 33 4 (some 36)) 33 5 (some 37)) 33 6 (some 38)) 33 7 (some 39)) 33 8 (some 40), pm_uI (pm_uI (I) 33 1 0) 33 9 0, J)) rfl ?_
  refine go_aload_n d_P_init_71 rfl ?_
  refine go_iconst (v := 4) d_P_init_72 (by decide) ?_
  refine go_newI (n := 4) d_P_init_73 rfl (by decide) (by decide) (by decide) w_103 (Nat.le_of_ble_eq_true rfl) (Nat.le_of_ble_eq_true rfl) (Nat.le_of_ble_eq_true rfl) (fun j => hI 41 (by decide) (by decide) j) rfl ?_
  refine go_st (σ' := (42, pm_uP (pm_uP (pm_uP (pm_uP (pm_uP (pm_uP (pm_uP (P) 33 2 (some 34)) 33 3 (some 35)) 33 4 (some 36)) 33 5 (some 37)) 33 6 (some 38)) 33 7 (some 39)) 33 8 (some 40), pm_uI (pm_uI (I) 33 1 0) 33 9 0, J)) rfl ?_
  refine go_putP (j := 10) d_P_init_75 (Nat.le_of_ble_eq_true rfl) rfl pc_P (Nat.le_of_ble_eq_true rfl) rfl w_127 rfl rfl rfl rfl (Nat.le_of_ble_eq_true rfl) ?_
  refine go_st (σ' := (42, pm_uP (pm_uP (pm_uP (pm_uP (pm_uP (pm_uP (pm_uP (pm_uP (P) 33 2 (some 34)) 33 3 (some 35)) 33 4 (some 36)) 33 5 (some 37)) 33 6 (some 38)) 33 7 (some 39)) 33 8 (some 40)) 33 10 (some 41), pm_uI (pm_uI (I) 33 1 0) 33 9 0, J)) rfl ?_
  refine go_aload_n d_P_init_78 rfl ?_
  refine go_iconst (v := 4) d_P_init_79 (by decide) ?_
  refine go_newI (n := 4) d_P_init_80 rfl (by decide) (by decide) (by decide) w_103 (Nat.le_of_ble_eq_true rfl) (Nat.le_of_ble_eq_true rfl) (Nat.le_of_ble_eq_true rfl) (fun j => hI 42 (by decide) (by decide) j) rfl ?_
  refine go_st (σ' := (43, pm_uP (pm_uP (pm_uP (pm_uP (pm_uP (pm_uP (pm_uP (pm_uP (P) 33 2 (some 34)) 33 3 (some 35)) 33 4 (some 36)) 33 5 (some 37)) 33 6 (some 38)) 33 7 (some 39)) 33 8 (some 40)) 33 10 (some 41), pm_uI (pm_uI (I) 33 1 0) 33 9 0, J)) rfl ?_
  refine go_putP (j := 11) d_P_init_82 (Nat.le_of_ble_eq_true rfl) rfl pc_P (Nat.le_of_ble_eq_true rfl) rfl w_128 rfl rfl rfl rfl (Nat.le_of_ble_eq_true rfl) ?_
  refine go_st (σ' := (43, pm_uP (pm_uP (pm_uP (pm_uP (pm_uP (pm_uP (pm_uP (pm_uP (pm_uP (P) 33 2 (some 34)) 33 3 (some 35)) 33 4 (some 36)) 33 5 (some 37)) 33 6 (some 38)) 33 7 (some 39)) 33 8 (some 40)) 33 10 (some 41)) 33 11 (some 42), pm_uI (pm_uI (I) 33 1 0) 33 9 0, J)) rfl ?_
  refine go_aload_n d_P_init_85 rfl ?_
  refine go_iconst (v := 4) d_P_init_86 (by decide) ?_
  refine go_sipush (v := 1000) d_P_init_87 (by decide) ?_
  refine go_mnaI (n := 4) (kk := 1000) d_P_init_90 rfl (fun i hi => sh_44 i hi) (by decide) (by decide) (by decide) (by decide) ⟨by decide, by decide⟩ w_103 (by rw [gr_I]; exact wd_t 110 (by decide +kernel) (by decide +kernel)) (Nat.le_of_ble_eq_true rfl) (Nat.le_of_ble_eq_true rfl) (Nat.le_of_ble_eq_true rfl) (fun i hi j => by simp [uI_at]; intros; exact hI (44 + i) (by omega) (by omega) j) rfl ?_
  refine go_st (σ' := (48, pm_gP (pm_uP (pm_uP (pm_uP (pm_uP (pm_uP (pm_uP (pm_uP (pm_uP (pm_uP (P) 33 2 (some 34)) 33 3 (some 35)) 33 4 (some 36)) 33 5 (some 37)) 33 6 (some 38)) 33 7 (some 39)) 33 8 (some 40)) 33 10 (some 41)) 33 11 (some 42)) 43 4, pm_uI (pm_uI (I) 33 1 0) 33 9 0, J)) rfl ?_
  refine go_putP (j := 12) d_P_init_94 (Nat.le_of_ble_eq_true rfl) rfl pc_P (Nat.le_of_ble_eq_true rfl) rfl w_131 rfl rfl rfl rfl (Nat.le_of_ble_eq_true rfl) ?_
  refine go_st (σ' := (48, pm_uP (pm_gP (pm_uP (pm_uP (pm_uP (pm_uP (pm_uP (pm_uP (pm_uP (pm_uP (pm_uP (P) 33 2 (some 34)) 33 3 (some 35)) 33 4 (some 36)) 33 5 (some 37)) 33 6 (some 38)) 33 7 (some 39)) 33 8 (some 40)) 33 10 (some 41)) 33 11 (some 42)) 43 4) 33 12 (some 43), pm_uI (pm_uI (I) 33 1 0) 33 9 0, J)) rfl ?_
  refine go_aload_n d_P_init_97 rfl ?_
  refine go_iconst (v := 4) d_P_init_98 (by decide) ?_
  refine go_newI (n := 4) d_P_init_99 rfl (by decide) (by decide) (by decide) w_103 (Nat.le_of_ble_eq_true rfl) (Nat.le_of_ble_eq_true rfl) (Nat.le_of_ble_eq_true rfl) (fun j => hI 48 (by decide) (by decide) j) rfl ?_
  refine go_st (σ' := (49, pm_uP (pm_gP (pm_uP (pm_uP (pm_uP (pm_uP (pm_uP (pm_uP (pm_uP (pm_uP (pm_uP (P) 33 2 (some 34)) 33 3 (some 35)) 33 4 (some 36)) 33 5 (some 37)) 33 6 (some 38)) 33 7 (some 39)) 33 8 (some 40)) 33 10 (some 41)) 33 11 (some 42)) 43 4) 33 12 (some 43), pm_uI (pm_uI (I) 33 1 0) 33 9 0, J)) rfl ?_
  refine go_putP (j := 13) d_P_init_101 (Nat.le_of_ble_eq_true rfl) rfl pc_P (Nat.le_of_ble_eq_true rfl) rfl w_132 rfl rfl rfl rfl (Nat.le_of_ble_eq_true rfl) ?_
  refine go_st (σ' := (49, pm_uP (pm_uP (pm_gP (pm_uP (pm_uP (pm_uP (pm_uP (pm_uP (pm_uP (pm_uP (pm_uP (pm_uP (P) 33 2 (some 34)) 33 3 (some 35)) 33 4 (some 36)) 33 5 (some 37)) 33 6 (some 38)) 33 7 (some 39)) 33 8 (some 40)) 33 10 (some 41)) 33 11 (some 42)) 43 4) 33 12 (some 43)) 33 13 (some 48), pm_uI (pm_uI (I) 33 1 0) 33 9 0, J)) rfl ?_
  refine go_aload_n d_P_init_104 rfl ?_
  refine go_iconst (v := 4) d_P_init_105 (by decide) ?_
  refine go_sipush (v := 1000) d_P_init_106 (by decide) ?_
  refine go_mnaJ (n := 4) (kk := 1000) d_P_init_109 rfl (fun i hi => sh_50 i hi) (by decide) (by decide) (by decide) (by decide) ⟨by decide, by decide⟩ w_167 (by rw [gr_J]; exact wd_t 111 (by decide +kernel) (by decide +kernel)) (Nat.le_of_ble_eq_true rfl) (Nat.le_of_ble_eq_true rfl) (Nat.le_of_ble_eq_true rfl) (fun i hi j => hJ _ (by omega) j) rfl ?_
  refine go_st (σ' := (54, pm_gP (pm_uP (pm_uP (pm_gP (pm_uP (pm_uP (pm_uP (pm_uP (pm_uP (pm_uP (pm_uP (pm_uP (pm_uP (P) 33 2 (some 34)) 33 3 (some 35)) 33 4 (some 36)) 33 5 (some 37)) 33 6 (some 38)) 33 7 (some 39)) 33 8 (some 40)) 33 10 (some 41)) 33 11 (some 42)) 43 4) 33 12 (some 43)) 33 13 (some 48)) 49 4, pm_uI (pm_uI (I) 33 1 0) 33 9 0, J)) rfl ?_
  refine go_putP (j := 14) d_P_init_113 (Nat.le_of_ble_eq_true rfl) rfl pc_P (Nat.le_of_ble_eq_true rfl) rfl w_134 rfl rfl rfl rfl (Nat.le_of_ble_eq_true rfl) ?_
  refine go_st (σ' := (54, pm_uP (pm_gP (pm_uP (pm_uP (pm_gP (pm_uP (pm_uP (pm_uP (pm_uP (pm_uP (pm_uP (pm_uP (pm_uP (pm_uP (P) 33 2 (some 34)) 33 3 (some 35)) 33 4 (some 36)) 33 5 (some 37)) 33 6 (some 38)) 33 7 (some 39)) 33 8 (some 40)) 33 10 (some 41)) 33 11 (some 42)) 43 4) 33 12 (some 43)) 33 13 (some 48)) 49 4) 33 14 (some 49), pm_uI (pm_uI (I) 33 1 0) 33 9 0, J)) rfl ?_
  refine go_aload_n d_P_init_116 rfl ?_
  refine go_aload_n d_P_init_117 rfl ?_
  refine go_putP (j := 0) d_P_init_118 (Nat.le_of_ble_eq_true rfl) rfl pc_P (Nat.le_of_ble_eq_true rfl) rfl w_113 rfl rfl rfl rfl (Nat.le_of_ble_eq_true rfl) ?_
  refine go_st (σ' := (54, pm_uP (pm_uP (pm_gP (pm_uP (pm_uP (pm_gP (pm_uP (pm_uP (pm_uP (pm_uP (pm_uP (pm_uP (pm_uP (pm_uP (pm_uP (P) 33 2 (some 34)) 33 3 (some 35)) 33 4 (some 36)) 33 5 (some 37)) 33 6 (some 38)) 33 7 (some 39)) 33 8 (some 40)) 33 10 (some 41)) 33 11 (some 42)) 43 4) 33 12 (some 43)) 33 13 (some 48)) 49 4) 33 14 (some 49)) 33 0 (some 1), pm_uI (pm_uI (I) 33 1 0) 33 9 0, J)) rfl ?_
  exact go_vreturn (st := []) d_P_init_121 rfl (Nat.le_of_ble_eq_true rfl) (Nat.le_of_ble_eq_true rfl) rfl
def II_C (I : Nat → Nat → Int32) : Nat → Nat → Int32 := pm_uI (I) 54 2 0
set_option maxRecDepth 20000 in
theorem sp_C_init (hI : ∀ c, 55 ≤ c → c < 1000 → ∀ j, I c j = 0) : pm_Go (d + 1) m_C_init 0 [some (.ref 54), some (.ref 1), some (.ref 43)] [] 0 0 (55, P, I, J) (.inl none, (62, PI_C P, II_C I, J)) := by
  refine go_aload_n d_C_init_0 rfl ?_
  refine go_objInit d_C_init_1 w_173 w_22 w_23 (Nat.le_of_ble_eq_true rfl) (by omega) ?_
  refine go_aload_n d_C_init_4 rfl ?_
  refine go_iconst (v := 0) d_C_init_5 (by decide) ?_
  refine go_putI (j := 2) d_C_init_6 (Nat.le_of_ble_eq_true rfl) rfl pc_C (Nat.le_of_ble_eq_true rfl) (by decide) w_177 rfl (Or.inl rfl) ?_
  refine go_st (σ' := (55, P, pm_uI (I) 54 2 0, J)) rfl ?_
  refine go_aload_n d_C_init_9 rfl ?_
  refine go_bipush (v := 24) d_C_init_10 (by decide) ?_
  refine go_newI (n := 24) d_C_init_12 rfl (by decide) (by decide) (by decide) w_103 (Nat.le_of_ble_eq_true rfl) (Nat.le_of_ble_eq_true rfl) (Nat.le_of_ble_eq_true rfl) (fun j => hI 55 (by decide) (by decide) j) rfl ?_
  refine go_st (σ' := (56, P, pm_uI (I) 54 2 0, J)) rfl ?_
  refine go_putP (j := 3) d_C_init_14 (Nat.le_of_ble_eq_true rfl) rfl pc_C (Nat.le_of_ble_eq_true rfl) rfl w_178 rfl rfl rfl rfl (Nat.le_of_ble_eq_true rfl) ?_
  refine go_st (σ' := (56, pm_uP (P) 54 3 (some 55), pm_uI (I) 54 2 0, J)) rfl ?_
  refine go_aload_n d_C_init_17 rfl ?_
  refine go_bipush (v := 10) d_C_init_18 (by decide) ?_
  refine go_newI (n := 10) d_C_init_20 rfl (by decide) (by decide) (by decide) w_103 (Nat.le_of_ble_eq_true rfl) (Nat.le_of_ble_eq_true rfl) (Nat.le_of_ble_eq_true rfl) (fun j => hI 56 (by decide) (by decide) j) rfl ?_
  refine go_st (σ' := (57, pm_uP (P) 54 3 (some 55), pm_uI (I) 54 2 0, J)) rfl ?_
  refine go_putP (j := 4) d_C_init_22 (Nat.le_of_ble_eq_true rfl) rfl pc_C (Nat.le_of_ble_eq_true rfl) rfl w_179 rfl rfl rfl rfl (Nat.le_of_ble_eq_true rfl) ?_
  refine go_st (σ' := (57, pm_uP (pm_uP (P) 54 3 (some 55)) 54 4 (some 56), pm_uI (I) 54 2 0, J)) rfl ?_
  refine go_aload_n d_C_init_25 rfl ?_
  refine go_iconst (v := 4) d_C_init_26 (by decide) ?_
  refine go_sipush (v := 1000) d_C_init_27 (by decide) ?_
  refine go_mnaI (n := 4) (kk := 1000) d_C_init_30 rfl (fun i hi => sh_58 i hi) (by decide) (by decide) (by decide) (by decide) ⟨by decide, by decide⟩ w_103 (by rw [gr_I]; exact wd_t 174 (by decide +kernel) (by decide +kernel)) (Nat.le_of_ble_eq_true rfl) (Nat.le_of_ble_eq_true rfl) (Nat.le_of_ble_eq_true rfl) (fun i hi j => by simp [uI_at]; intros; exact hI (58 + i) (by omega) (by omega) j) rfl ?_
  refine go_st (σ' := (62, pm_gP (pm_uP (pm_uP (P) 54 3 (some 55)) 54 4 (some 56)) 57 4, pm_uI (I) 54 2 0, J)) rfl ?_
  refine go_putP (j := 5) d_C_init_34 (Nat.le_of_ble_eq_true rfl) rfl pc_C (Nat.le_of_ble_eq_true rfl) rfl w_180 rfl rfl rfl rfl (Nat.le_of_ble_eq_true rfl) ?_
  refine go_st (σ' := (62, pm_uP (pm_gP (pm_uP (pm_uP (P) 54 3 (some 55)) 54 4 (some 56)) 57 4) 54 5 (some 57), pm_uI (I) 54 2 0, J)) rfl ?_
  refine go_aload_n d_C_init_37 rfl ?_
  refine go_aload_n d_C_init_38 rfl ?_
  refine go_putP (j := 0) d_C_init_39 (Nat.le_of_ble_eq_true rfl) rfl pc_C (Nat.le_of_ble_eq_true rfl) rfl w_175 rfl rfl rfl rfl (Nat.le_of_ble_eq_true rfl) ?_
  refine go_st (σ' := (62, pm_uP (pm_uP (pm_gP (pm_uP (pm_uP (P) 54 3 (some 55)) 54 4 (some 56)) 57 4) 54 5 (some 57)) 54 0 (some 1), pm_uI (I) 54 2 0, J)) rfl ?_
  refine go_aload_n d_C_init_42 rfl ?_
  refine go_aload_n d_C_init_43 rfl ?_
  refine go_putP (j := 1) d_C_init_44 (Nat.le_of_ble_eq_true rfl) rfl pc_C (Nat.le_of_ble_eq_true rfl) rfl w_176 rfl rfl rfl rfl (Nat.le_of_ble_eq_true rfl) ?_
  refine go_st (σ' := (62, pm_uP (pm_uP (pm_uP (pm_gP (pm_uP (pm_uP (P) 54 3 (some 55)) 54 4 (some 56)) 57 4) 54 5 (some 57)) 54 0 (some 1)) 54 1 (some 43), pm_uI (I) 54 2 0, J)) rfl ?_
  exact go_vreturn (st := []) d_C_init_47 rfl (Nat.le_of_ble_eq_true rfl) (Nat.le_of_ble_eq_true rfl) rfl
def II_A (I : Nat → Nat → Int32) : Nat → Nat → Int32 := pm_uI (pm_uI (pm_uI (pm_uI (pm_uI (I) 62 1 0) 62 2 1) 62 3 1) 62 4 0) 62 5 0
set_option maxRecDepth 20000 in
theorem sp_A_init (hI : ∀ c, 63 ≤ c → c < 1000 → ∀ j, I c j = 0) : pm_Go (d + 1) m_A_init 0 [some (.ref 62), some (.ref 1)] [] 0 0 (63, P, I, J) (.inl none, (69, PI_A P, II_A I, J)) := by
  refine go_aload_n d_A_init_0 rfl ?_
  refine go_objInit d_A_init_1 w_199 w_22 w_23 (Nat.le_of_ble_eq_true rfl) (by omega) ?_
  refine go_aload_n d_A_init_4 rfl ?_
  refine go_iconst (v := 0) d_A_init_5 (by decide) ?_
  refine go_putI (j := 1) d_A_init_6 (Nat.le_of_ble_eq_true rfl) rfl pc_A (Nat.le_of_ble_eq_true rfl) (by decide) w_201 rfl (Or.inr ⟨rfl, Or.inl rfl⟩) ?_
  refine go_st (σ' := (63, P, pm_uI (I) 62 1 0, J)) rfl ?_
  refine go_aload_n d_A_init_9 rfl ?_
  refine go_iconst (v := 1) d_A_init_10 (by decide) ?_
  refine go_putI (j := 2) d_A_init_11 (Nat.le_of_ble_eq_true rfl) rfl pc_A (Nat.le_of_ble_eq_true rfl) (by decide) w_202 rfl (Or.inl rfl) ?_
  refine go_st (σ' := (63, P, pm_uI (pm_uI (I) 62 1 0) 62 2 1, J)) rfl ?_
  refine go_aload_n d_A_init_14 rfl ?_
  refine go_iconst (v := 1) d_A_init_15 (by decide) ?_
  refine go_putI (j := 3) d_A_init_16 (Nat.le_of_ble_eq_true rfl) rfl pc_A (Nat.le_of_ble_eq_true rfl) (by decide) w_204 rfl (Or.inl rfl) ?_
  refine go_st (σ' := (63, P, pm_uI (pm_uI (pm_uI (I) 62 1 0) 62 2 1) 62 3 1, J)) rfl ?_
  refine go_aload_n d_A_init_19 rfl ?_
  refine go_iconst (v := 0) d_A_init_20 (by decide) ?_
  refine go_putI (j := 4) d_A_init_21 (Nat.le_of_ble_eq_true rfl) rfl pc_A (Nat.le_of_ble_eq_true rfl) (by decide) w_206 rfl (Or.inl rfl) ?_
  refine go_st (σ' := (63, P, pm_uI (pm_uI (pm_uI (pm_uI (I) 62 1 0) 62 2 1) 62 3 1) 62 4 0, J)) rfl ?_
  refine go_aload_n d_A_init_24 rfl ?_
  refine go_iconst (v := 0) d_A_init_25 (by decide) ?_
  refine go_putI (j := 5) d_A_init_26 (Nat.le_of_ble_eq_true rfl) rfl pc_A (Nat.le_of_ble_eq_true rfl) (by decide) w_207 rfl (Or.inl rfl) ?_
  refine go_st (σ' := (63, P, pm_uI (pm_uI (pm_uI (pm_uI (pm_uI (I) 62 1 0) 62 2 1) 62 3 1) 62 4 0) 62 5 0, J)) rfl ?_
  refine go_aload_n d_A_init_29 rfl ?_
  refine go_sipush (v := 220) d_A_init_30 (by decide) ?_
  refine go_newI (n := 220) d_A_init_33 rfl (by decide) (by decide) (by decide) w_103 (Nat.le_of_ble_eq_true rfl) (Nat.le_of_ble_eq_true rfl) (Nat.le_of_ble_eq_true rfl) (fun j => hI 63 (by decide) (by decide) j) rfl ?_
  refine go_st (σ' := (64, P, pm_uI (pm_uI (pm_uI (pm_uI (pm_uI (I) 62 1 0) 62 2 1) 62 3 1) 62 4 0) 62 5 0, J)) rfl ?_
  refine go_putP (j := 6) d_A_init_35 (Nat.le_of_ble_eq_true rfl) rfl pc_A (Nat.le_of_ble_eq_true rfl) rfl w_208 rfl rfl rfl rfl (Nat.le_of_ble_eq_true rfl) ?_
  refine go_st (σ' := (64, pm_uP (P) 62 6 (some 63), pm_uI (pm_uI (pm_uI (pm_uI (pm_uI (I) 62 1 0) 62 2 1) 62 3 1) 62 4 0) 62 5 0, J)) rfl ?_
  refine go_aload_n d_A_init_38 rfl ?_
  refine go_sipush (v := 220) d_A_init_39 (by decide) ?_
  refine go_newI (n := 220) d_A_init_42 rfl (by decide) (by decide) (by decide) w_103 (Nat.le_of_ble_eq_true rfl) (Nat.le_of_ble_eq_true rfl) (Nat.le_of_ble_eq_true rfl) (fun j => hI 64 (by decide) (by decide) j) rfl ?_
  refine go_st (σ' := (65, pm_uP (P) 62 6 (some 63), pm_uI (pm_uI (pm_uI (pm_uI (pm_uI (I) 62 1 0) 62 2 1) 62 3 1) 62 4 0) 62 5 0, J)) rfl ?_
  refine go_putP (j := 7) d_A_init_44 (Nat.le_of_ble_eq_true rfl) rfl pc_A (Nat.le_of_ble_eq_true rfl) rfl w_209 rfl rfl rfl rfl (Nat.le_of_ble_eq_true rfl) ?_
  refine go_st (σ' := (65, pm_uP (pm_uP (P) 62 6 (some 63)) 62 7 (some 64), pm_uI (pm_uI (pm_uI (pm_uI (pm_uI (I) 62 1 0) 62 2 1) 62 3 1) 62 4 0) 62 5 0, J)) rfl ?_
  refine go_aload_n d_A_init_47 rfl ?_
  refine go_sipush (v := 220) d_A_init_48 (by decide) ?_
  refine go_newI (n := 220) d_A_init_51 rfl (by decide) (by decide) (by decide) w_103 (Nat.le_of_ble_eq_true rfl) (Nat.le_of_ble_eq_true rfl) (Nat.le_of_ble_eq_true rfl) (fun j => hI 65 (by decide) (by decide) j) rfl ?_
  refine go_st (σ' := (66, pm_uP (pm_uP (P) 62 6 (some 63)) 62 7 (some 64), pm_uI (pm_uI (pm_uI (pm_uI (pm_uI (I) 62 1 0) 62 2 1) 62 3 1) 62 4 0) 62 5 0, J)) rfl ?_
  refine go_putP (j := 8) d_A_init_53 (Nat.le_of_ble_eq_true rfl) rfl pc_A (Nat.le_of_ble_eq_true rfl) rfl w_210 rfl rfl rfl rfl (Nat.le_of_ble_eq_true rfl) ?_
  refine go_st (σ' := (66, pm_uP (pm_uP (pm_uP (P) 62 6 (some 63)) 62 7 (some 64)) 62 8 (some 65), pm_uI (pm_uI (pm_uI (pm_uI (pm_uI (I) 62 1 0) 62 2 1) 62 3 1) 62 4 0) 62 5 0, J)) rfl ?_
  refine go_aload_n d_A_init_56 rfl ?_
  refine go_sipush (v := 220) d_A_init_57 (by decide) ?_
  refine go_newI (n := 220) d_A_init_60 rfl (by decide) (by decide) (by decide) w_103 (Nat.le_of_ble_eq_true rfl) (Nat.le_of_ble_eq_true rfl) (Nat.le_of_ble_eq_true rfl) (fun j => hI 66 (by decide) (by decide) j) rfl ?_
  refine go_st (σ' := (67, pm_uP (pm_uP (pm_uP (P) 62 6 (some 63)) 62 7 (some 64)) 62 8 (some 65), pm_uI (pm_uI (pm_uI (pm_uI (pm_uI (I) 62 1 0) 62 2 1) 62 3 1) 62 4 0) 62 5 0, J)) rfl ?_
  refine go_putP (j := 9) d_A_init_62 (Nat.le_of_ble_eq_true rfl) rfl pc_A (Nat.le_of_ble_eq_true rfl) rfl w_211 rfl rfl rfl rfl (Nat.le_of_ble_eq_true rfl) ?_
  refine go_st (σ' := (67, pm_uP (pm_uP (pm_uP (pm_uP (P) 62 6 (some 63)) 62 7 (some 64)) 62 8 (some 65)) 62 9 (some 66), pm_uI (pm_uI (pm_uI (pm_uI (pm_uI (I) 62 1 0) 62 2 1) 62 3 1) 62 4 0) 62 5 0, J)) rfl ?_
  refine go_aload_n d_A_init_65 rfl ?_
  refine go_bipush (v := 100) d_A_init_66 (by decide) ?_
  refine go_newI (n := 100) d_A_init_68 rfl (by decide) (by decide) (by decide) w_103 (Nat.le_of_ble_eq_true rfl) (Nat.le_of_ble_eq_true rfl) (Nat.le_of_ble_eq_true rfl) (fun j => hI 67 (by decide) (by decide) j) rfl ?_
  refine go_st (σ' := (68, pm_uP (pm_uP (pm_uP (pm_uP (P) 62 6 (some 63)) 62 7 (some 64)) 62 8 (some 65)) 62 9 (some 66), pm_uI (pm_uI (pm_uI (pm_uI (pm_uI (I) 62 1 0) 62 2 1) 62 3 1) 62 4 0) 62 5 0, J)) rfl ?_
  refine go_putP (j := 10) d_A_init_70 (Nat.le_of_ble_eq_true rfl) rfl pc_A (Nat.le_of_ble_eq_true rfl) rfl w_212 rfl rfl rfl rfl (Nat.le_of_ble_eq_true rfl) ?_
  refine go_st (σ' := (68, pm_uP (pm_uP (pm_uP (pm_uP (pm_uP (P) 62 6 (some 63)) 62 7 (some 64)) 62 8 (some 65)) 62 9 (some 66)) 62 10 (some 67), pm_uI (pm_uI (pm_uI (pm_uI (pm_uI (I) 62 1 0) 62 2 1) 62 3 1) 62 4 0) 62 5 0, J)) rfl ?_
  refine go_aload_n d_A_init_73 rfl ?_
  refine go_bipush (v := 100) d_A_init_74 (by decide) ?_
  refine go_newI (n := 100) d_A_init_76 rfl (by decide) (by decide) (by decide) w_103 (Nat.le_of_ble_eq_true rfl) (Nat.le_of_ble_eq_true rfl) (Nat.le_of_ble_eq_true rfl) (fun j => hI 68 (by decide) (by decide) j) rfl ?_
  refine go_st (σ' := (69, pm_uP (pm_uP (pm_uP (pm_uP (pm_uP (P) 62 6 (some 63)) 62 7 (some 64)) 62 8 (some 65)) 62 9 (some 66)) 62 10 (some 67), pm_uI (pm_uI (pm_uI (pm_uI (pm_uI (I) 62 1 0) 62 2 1) 62 3 1) 62 4 0) 62 5 0, J)) rfl ?_
  refine go_putP (j := 11) d_A_init_78 (Nat.le_of_ble_eq_true rfl) rfl pc_A (Nat.le_of_ble_eq_true rfl) rfl w_213 rfl rfl rfl rfl (Nat.le_of_ble_eq_true rfl) ?_
  refine go_st (σ' := (69, pm_uP (pm_uP (pm_uP (pm_uP (pm_uP (pm_uP (P) 62 6 (some 63)) 62 7 (some 64)) 62 8 (some 65)) 62 9 (some 66)) 62 10 (some 67)) 62 11 (some 68), pm_uI (pm_uI (pm_uI (pm_uI (pm_uI (I) 62 1 0) 62 2 1) 62 3 1) 62 4 0) 62 5 0, J)) rfl ?_
  refine go_aload_n d_A_init_81 rfl ?_
  refine go_aload_n d_A_init_82 rfl ?_
  refine go_putP (j := 0) d_A_init_83 (Nat.le_of_ble_eq_true rfl) rfl pc_A (Nat.le_of_ble_eq_true rfl) rfl w_200 rfl rfl rfl rfl (Nat.le_of_ble_eq_true rfl) ?_
  refine go_st (σ' := (69, pm_uP (pm_uP (pm_uP (pm_uP (pm_uP (pm_uP (pm_uP (P) 62 6 (some 63)) 62 7 (some 64)) 62 8 (some 65)) 62 9 (some 66)) 62 10 (some 67)) 62 11 (some 68)) 62 0 (some 1), pm_uI (pm_uI (pm_uI (pm_uI (pm_uI (I) 62 1 0) 62 2 1) 62 3 1) 62 4 0) 62 5 0, J)) rfl ?_
  exact go_vreturn (st := []) d_A_init_86 rfl (Nat.le_of_ble_eq_true rfl) (Nat.le_of_ble_eq_true rfl) rfl
def II_M (I : Nat → Nat → Int32) : Nat → Nat → Int32 := I
set_option maxRecDepth 20000 in
theorem sp_M_init (hI : ∀ c, 70 ≤ c → c < 1000 → ∀ j, I c j = 0) : pm_Go (d + 1) m_M_init 0 [some (.ref 69)] [] 0 0 (70, P, I, J) (.inl none, (103, PI_M P, II_M I, J)) := by
  refine go_aload_n d_M_init_0 rfl ?_
  refine go_objInit d_M_init_1 w_700 w_22 w_23 (Nat.le_of_ble_eq_true rfl) (by omega) ?_
  refine go_aload_n d_M_init_4 rfl ?_
  refine go_bipush (v := 10) d_M_init_5 (by decide) ?_
  refine go_newI (n := 10) d_M_init_7 rfl (by decide) (by decide) (by decide) w_103 (Nat.le_of_ble_eq_true rfl) (Nat.le_of_ble_eq_true rfl) (Nat.le_of_ble_eq_true rfl) (fun j => hI 70 (by decide) (by decide) j) rfl ?_
  refine go_st (σ' := (71, P, I, J)) rfl ?_
  refine go_putP (j := 3) d_M_init_9 (Nat.le_of_ble_eq_true rfl) rfl pc_M (Nat.le_of_ble_eq_true rfl) rfl w_705 rfl rfl rfl rfl (Nat.le_of_ble_eq_true rfl) ?_
  refine go_st (σ' := (71, pm_uP (P) 69 3 (some 70), I, J)) rfl ?_
  refine go_aload_n d_M_init_12 rfl ?_
  refine go_bipush (v := 10) d_M_init_13 (by decide) ?_
  refine go_newI (n := 10) d_M_init_15 rfl (by decide) (by decide) (by decide) w_103 (Nat.le_of_ble_eq_true rfl) (Nat.le_of_ble_eq_true rfl) (Nat.le_of_ble_eq_true rfl) (fun j => hI 71 (by decide) (by decide) j) rfl ?_
  refine go_st (σ' := (72, pm_uP (P) 69 3 (some 70), I, J)) rfl ?_
  refine go_putP (j := 4) d_M_init_17 (Nat.le_of_ble_eq_true rfl) rfl pc_M (Nat.le_of_ble_eq_true rfl) rfl w_706 rfl rfl rfl rfl (Nat.le_of_ble_eq_true rfl) ?_
  refine go_st (σ' := (72, pm_uP (pm_uP (P) 69 3 (some 70)) 69 4 (some 71), I, J)) rfl ?_
  refine go_aload_n d_M_init_20 rfl ?_
  refine go_bipush (v := 20) d_M_init_21 (by decide) ?_
  refine go_newI (n := 20) d_M_init_23 rfl (by decide) (by decide) (by decide) w_103 (Nat.le_of_ble_eq_true rfl) (Nat.le_of_ble_eq_true rfl) (Nat.le_of_ble_eq_true rfl) (fun j => hI 72 (by decide) (by decide) j) rfl ?_
  refine go_st (σ' := (73, pm_uP (pm_uP (P) 69 3 (some 70)) 69 4 (some 71), I, J)) rfl ?_
  refine go_putP (j := 6) d_M_init_25 (Nat.le_of_ble_eq_true rfl) rfl pc_M (Nat.le_of_ble_eq_true rfl) rfl w_708 rfl rfl rfl rfl (Nat.le_of_ble_eq_true rfl) ?_
  refine go_st (σ' := (73, pm_uP (pm_uP (pm_uP (P) 69 3 (some 70)) 69 4 (some 71)) 69 6 (some 72), I, J)) rfl ?_
  refine go_aload_n d_M_init_28 rfl ?_
  refine go_bipush (v := 20) d_M_init_29 (by decide) ?_
  refine go_newI (n := 20) d_M_init_31 rfl (by decide) (by decide) (by decide) w_103 (Nat.le_of_ble_eq_true rfl) (Nat.le_of_ble_eq_true rfl) (Nat.le_of_ble_eq_true rfl) (fun j => hI 73 (by decide) (by decide) j) rfl ?_
  refine go_st (σ' := (74, pm_uP (pm_uP (pm_uP (P) 69 3 (some 70)) 69 4 (some 71)) 69 6 (some 72), I, J)) rfl ?_
  refine go_putP (j := 7) d_M_init_33 (Nat.le_of_ble_eq_true rfl) rfl pc_M (Nat.le_of_ble_eq_true rfl) rfl w_709 rfl rfl rfl rfl (Nat.le_of_ble_eq_true rfl) ?_
  refine go_st (σ' := (74, pm_uP (pm_uP (pm_uP (pm_uP (P) 69 3 (some 70)) 69 4 (some 71)) 69 6 (some 72)) 69 7 (some 73), I, J)) rfl ?_
  refine go_aload_n d_M_init_36 rfl ?_
  refine go_bipush (v := 20) d_M_init_37 (by decide) ?_
  refine go_newI (n := 20) d_M_init_39 rfl (by decide) (by decide) (by decide) w_103 (Nat.le_of_ble_eq_true rfl) (Nat.le_of_ble_eq_true rfl) (Nat.le_of_ble_eq_true rfl) (fun j => hI 74 (by decide) (by decide) j) rfl ?_
  refine go_st (σ' := (75, pm_uP (pm_uP (pm_uP (pm_uP (P) 69 3 (some 70)) 69 4 (some 71)) 69 6 (some 72)) 69 7 (some 73), I, J)) rfl ?_
  refine go_putP (j := 8) d_M_init_41 (Nat.le_of_ble_eq_true rfl) rfl pc_M (Nat.le_of_ble_eq_true rfl) rfl w_710 rfl rfl rfl rfl (Nat.le_of_ble_eq_true rfl) ?_
  refine go_st (σ' := (75, pm_uP (pm_uP (pm_uP (pm_uP (pm_uP (P) 69 3 (some 70)) 69 4 (some 71)) 69 6 (some 72)) 69 7 (some 73)) 69 8 (some 74), I, J)) rfl ?_
  refine go_aload_n d_M_init_44 rfl ?_
  refine go_bipush (v := 20) d_M_init_45 (by decide) ?_
  refine go_newI (n := 20) d_M_init_47 rfl (by decide) (by decide) (by decide) w_103 (Nat.le_of_ble_eq_true rfl) (Nat.le_of_ble_eq_true rfl) (Nat.le_of_ble_eq_true rfl) (fun j => hI 75 (by decide) (by decide) j) rfl ?_
  refine go_st (σ' := (76, pm_uP (pm_uP (pm_uP (pm_uP (pm_uP (P) 69 3 (some 70)) 69 4 (some 71)) 69 6 (some 72)) 69 7 (some 73)) 69 8 (some 74), I, J)) rfl ?_
  refine go_putP (j := 9) d_M_init_49 (Nat.le_of_ble_eq_true rfl) rfl pc_M (Nat.le_of_ble_eq_true rfl) rfl w_711 rfl rfl rfl rfl (Nat.le_of_ble_eq_true rfl) ?_
  refine go_st (σ' := (76, pm_uP (pm_uP (pm_uP (pm_uP (pm_uP (pm_uP (P) 69 3 (some 70)) 69 4 (some 71)) 69 6 (some 72)) 69 7 (some 73)) 69 8 (some 74)) 69 9 (some 75), I, J)) rfl ?_
  refine go_aload_n d_M_init_52 rfl ?_
  refine go_bipush (v := 20) d_M_init_53 (by decide) ?_
  refine go_newI (n := 20) d_M_init_55 rfl (by decide) (by decide) (by decide) w_103 (Nat.le_of_ble_eq_true rfl) (Nat.le_of_ble_eq_true rfl) (Nat.le_of_ble_eq_true rfl) (fun j => hI 76 (by decide) (by decide) j) rfl ?_
  refine go_st (σ' := (77, pm_uP (pm_uP (pm_uP (pm_uP (pm_uP (pm_uP (P) 69 3 (some 70)) 69 4 (some 71)) 69 6 (some 72)) 69 7 (some 73)) 69 8 (some 74)) 69 9 (some 75), I, J)) rfl ?_
  refine go_putP (j := 10) d_M_init_57 (Nat.le_of_ble_eq_true rfl) rfl pc_M (Nat.le_of_ble_eq_true rfl) rfl w_712 rfl rfl rfl rfl (Nat.le_of_ble_eq_true rfl) ?_
  refine go_st (σ' := (77, pm_uP (pm_uP (pm_uP (pm_uP (pm_uP (pm_uP (pm_uP (P) 69 3 (some 70)) 69 4 (some 71)) 69 6 (some 72)) 69 7 (some 73)) 69 8 (some 74)) 69 9 (some 75)) 69 10 (some 76), I, J)) rfl ?_
  refine go_aload_n d_M_init_60 rfl ?_
  refine go_iconst (v := 4) d_M_init_61 (by decide) ?_
  refine go_newI (n := 4) d_M_init_62 rfl (by decide) (by decide) (by decide) w_103 (Nat.le_of_ble_eq_true rfl) (Nat.le_of_ble_eq_true rfl) (Nat.le_of_ble_eq_true rfl) (fun j => hI 77 (by decide) (by decide) j) rfl ?_
  refine go_st (σ' := (78, pm_uP (pm_uP (pm_uP (pm_uP (pm_uP (pm_uP (pm_uP (P) 69 3 (some 70)) 69 4 (some 71)) 69 6 (some 72)) 69 7 (some 73)) 69 8 (some 74)) 69 9 (some 75)) 69 10 (some 76), I, J)) rfl ?_
  refine go_putP (j := 12) d_M_init_64 (Nat.le_of_ble_eq_true rfl) rfl pc_M (Nat.le_of_ble_eq_true rfl) rfl w_714 rfl rfl rfl rfl (Nat.le_of_ble_eq_true rfl) ?_
  refine go_st (σ' := (78, pm_uP (pm_uP (pm_uP (pm_uP (pm_uP (pm_uP (pm_uP (pm_uP (P) 69 3 (some 70)) 69 4 (some 71)) 69 6 (some 72)) 69 7 (some 73)) 69 8 (some 74)) 69 9 (some 75)) 69 10 (some 76)) 69 12 (some 77), I, J)) rfl ?_
  refine go_aload_n d_M_init_67 rfl ?_
  refine go_iconst (v := 4) d_M_init_68 (by decide) ?_
  refine go_newI (n := 4) d_M_init_69 rfl (by decide) (by decide) (by decide) w_103 (Nat.le_of_ble_eq_true rfl) (Nat.le_of_ble_eq_true rfl) (Nat.le_of_ble_eq_true rfl) (fun j => hI 78 (by decide) (by decide) j) rfl ?_
  refine go_st (σ' := (79, pm_uP (pm_uP (pm_uP (pm_uP (pm_uP (pm_uP (pm_uP (pm_uP (P) 69 3 (some 70)) 69 4 (some 71)) 69 6 (some 72)) 69 7 (some 73)) 69 8 (some 74)) 69 9 (some 75)) 69 10 (some 76)) 69 12 (some 77), I, J)) rfl ?_
  refine go_putP (j := 13) d_M_init_71 (Nat.le_of_ble_eq_true rfl) rfl pc_M (Nat.le_of_ble_eq_true rfl) rfl w_715 rfl rfl rfl rfl (Nat.le_of_ble_eq_true rfl) ?_
  refine go_st (σ' := (79, pm_uP (pm_uP (pm_uP (pm_uP (pm_uP (pm_uP (pm_uP (pm_uP (pm_uP (P) 69 3 (some 70)) 69 4 (some 71)) 69 6 (some 72)) 69 7 (some 73)) 69 8 (some 74)) 69 9 (some 75)) 69 10 (some 76)) 69 12 (some 77)) 69 13 (some 78), I, J)) rfl ?_
  refine go_aload_n d_M_init_74 rfl ?_
  refine go_iconst (v := 4) d_M_init_75 (by decide) ?_
  refine go_newI (n := 4) d_M_init_76 rfl (by decide) (by decide) (by decide) w_103 (Nat.le_of_ble_eq_true rfl) (Nat.le_of_ble_eq_true rfl) (Nat.le_of_ble_eq_true rfl) (fun j => hI 79 (by decide) (by decide) j) rfl ?_
  refine go_st (σ' := (80, pm_uP (pm_uP (pm_uP (pm_uP (pm_uP (pm_uP (pm_uP (pm_uP (pm_uP (P) 69 3 (some 70)) 69 4 (some 71)) 69 6 (some 72)) 69 7 (some 73)) 69 8 (some 74)) 69 9 (some 75)) 69 10 (some 76)) 69 12 (some 77)) 69 13 (some 78), I, J)) rfl ?_
  refine go_putP (j := 15) d_M_init_78 (Nat.le_of_ble_eq_true rfl) rfl pc_M (Nat.le_of_ble_eq_true rfl) rfl w_717 rfl rfl rfl rfl (Nat.le_of_ble_eq_true rfl) ?_
  refine go_st (σ' := (80, pm_uP (pm_uP (pm_uP (pm_uP (pm_uP (pm_uP (pm_uP (pm_uP (pm_uP (pm_uP (P) 69 3 (some 70)) 69 4 (some 71)) 69 6 (some 72)) 69 7 (some 73)) 69 8 (some 74)) 69 9 (some 75)) 69 10 (some 76)) 69 12 (some 77)) 69 13 (some 78)) 69 15 (some 79), I, J)) rfl ?_
  refine go_aload_n d_M_init_81 rfl ?_
  refine go_iconst (v := 4) d_M_init_82 (by decide) ?_
  refine go_newI (n := 4) d_M_init_83 rfl (by decide) (by decide) (by decide) w_103 (Nat.le_of_ble_eq_true rfl) (Nat.le_of_ble_eq_true rfl) (Nat.le_of_ble_eq_true rfl) (fun j => hI 80 (by decide) (by decide) j) rfl ?_
  refine go_st (σ' := (81, pm_uP (pm_uP (pm_uP (pm_uP (pm_uP (pm_uP (pm_uP (pm_uP (pm_uP (pm_uP (P) 69 3 (some 70)) 69 4 (some 71)) 69 6 (some 72)) 69 7 (some 73)) 69 8 (some 74)) 69 9 (some 75)) 69 10 (some 76)) 69 12 (some 77)) 69 13 (some 78)) 69 15 (some 79), I, J)) rfl ?_
  refine go_putP (j := 16) d_M_init_85 (Nat.le_of_ble_eq_true rfl) rfl pc_M (Nat.le_of_ble_eq_true rfl) rfl w_718 rfl rfl rfl rfl (Nat.le_of_ble_eq_true rfl) ?_
  refine go_st (σ' := (81, pm_uP (pm_uP (pm_uP (pm_uP (pm_uP (pm_uP (pm_uP (pm_uP (pm_uP (pm_uP (pm_uP (P) 69 3 (some 70)) 69 4 (some 71)) 69 6 (some 72)) 69 7 (some 73)) 69 8 (some 74)) 69 9 (some 75)) 69 10 (some 76)) 69 12 (some 77)) 69 13 (some 78)) 69 15 (some 79)) 69 16 (some 80), I, J)) rfl ?_
  refine go_aload_n d_M_init_88 rfl ?_
  refine go_sipush (v := 1000) d_M_init_89 (by decide) ?_
  refine go_newI (n := 1000) d_M_init_92 rfl (by decide) (by decide) (by decide) w_103 (Nat.le_of_ble_eq_true rfl) (Nat.le_of_ble_eq_true rfl) (Nat.le_of_ble_eq_true rfl) (fun j => hI 81 (by decide) (by decide) j) rfl ?_
  refine go_st (σ' := (82, pm_uP (pm_uP (pm_uP (pm_uP (pm_uP (pm_uP (pm_uP (pm_uP (pm_uP (pm_uP (pm_uP (P) 69 3 (some 70)) 69 4 (some 71)) 69 6 (some 72)) 69 7 (some 73)) 69 8 (some 74)) 69 9 (some 75)) 69 10 (some 76)) 69 12 (some 77)) 69 13 (some 78)) 69 15 (some 79)) 69 16 (some 80), I, J)) rfl ?_
  refine go_putP (j := 19) d_M_init_94 (Nat.le_of_ble_eq_true rfl) rfl pc_M (Nat.le_of_ble_eq_true rfl) rfl w_721 rfl rfl rfl rfl (Nat.le_of_ble_eq_true rfl) ?_
  refine go_st (σ' := (82, pm_uP (pm_uP (pm_uP (pm_uP (pm_uP (pm_uP (pm_uP (pm_uP (pm_uP (pm_uP (pm_uP (pm_uP (P) 69 3 (some 70)) 69 4 (some 71)) 69 6 (some 72)) 69 7 (some 73)) 69 8 (some 74)) 69 9 (some 75)) 69 10 (some 76)) 69 12 (some 77)) 69 13 (some 78)) 69 15 (some 79)) 69 16 (some 80)) 69 19 (some 81), I, J)) rfl ?_
  refine go_aload_n d_M_init_97 rfl ?_
  refine go_sipush (v := 20040) d_M_init_98 (by decide) ?_
  refine go_newI (n := 20040) d_M_init_101 rfl (by decide) (by decide) (by decide) w_103 (Nat.le_of_ble_eq_true rfl) (Nat.le_of_ble_eq_true rfl) (Nat.le_of_ble_eq_true rfl) (fun j => hI 82 (by decide) (by decide) j) rfl ?_
  refine go_st (σ' := (83, pm_uP (pm_uP (pm_uP (pm_uP (pm_uP (pm_uP (pm_uP (pm_uP (pm_uP (pm_uP (pm_uP (pm_uP (P) 69 3 (some 70)) 69 4 (some 71)) 69 6 (some 72)) 69 7 (some 73)) 69 8 (some 74)) 69 9 (some 75)) 69 10 (some 76)) 69 12 (some 77)) 69 13 (some 78)) 69 15 (some 79)) 69 16 (some 80)) 69 19 (some 81), I, J)) rfl ?_
  refine go_putP (j := 20) d_M_init_103 (Nat.le_of_ble_eq_true rfl) rfl pc_M (Nat.le_of_ble_eq_true rfl) rfl w_722 rfl rfl rfl rfl (Nat.le_of_ble_eq_true rfl) ?_
  refine go_st (σ' := (83, pm_uP (pm_uP (pm_uP (pm_uP (pm_uP (pm_uP (pm_uP (pm_uP (pm_uP (pm_uP (pm_uP (pm_uP (pm_uP (P) 69 3 (some 70)) 69 4 (some 71)) 69 6 (some 72)) 69 7 (some 73)) 69 8 (some 74)) 69 9 (some 75)) 69 10 (some 76)) 69 12 (some 77)) 69 13 (some 78)) 69 15 (some 79)) 69 16 (some 80)) 69 19 (some 81)) 69 20 (some 82), I, J)) rfl ?_
  refine go_aload_n d_M_init_106 rfl ?_
  refine go_ldc (v := 80160) d_M_init_107 w_701 ?_
  refine go_newI (n := 80160) d_M_init_109 rfl (by decide) (by decide) (by decide) w_103 (Nat.le_of_ble_eq_true rfl) (Nat.le_of_ble_eq_true rfl) (Nat.le_of_ble_eq_true rfl) (fun j => hI 83 (by decide) (by decide) j) rfl ?_
  refine go_st (σ' := (84, pm_uP (pm_uP (pm_uP (pm_uP (pm_uP (pm_uP (pm_uP (pm_uP (pm_uP (pm_uP (pm_uP (pm_uP (pm_uP (P) 69 3 (some 70)) 69 4 (some 71)) 69 6 (some 72)) 69 7 (some 73)) 69 8 (some 74)) 69 9 (some 75)) 69 10 (some 76)) 69 12 (some 77)) 69 13 (some 78)) 69 15 (some 79)) 69 16 (some 80)) 69 19 (some 81)) 69 20 (some 82), I, J)) rfl ?_
  refine go_putP (j := 21) d_M_init_111 (Nat.le_of_ble_eq_true rfl) rfl pc_M (Nat.le_of_ble_eq_true rfl) rfl w_723 rfl rfl rfl rfl (Nat.le_of_ble_eq_true rfl) ?_
  refine go_st (σ' := (84, pm_uP (pm_uP (pm_uP (pm_uP (pm_uP (pm_uP (pm_uP (pm_uP (pm_uP (pm_uP (pm_uP (pm_uP (pm_uP (pm_uP (P) 69 3 (some 70)) 69 4 (some 71)) 69 6 (some 72)) 69 7 (some 73)) 69 8 (some 74)) 69 9 (some 75)) 69 10 (some 76)) 69 12 (some 77)) 69 13 (some 78)) 69 15 (some 79)) 69 16 (some 80)) 69 19 (some 81)) 69 20 (some 82)) 69 21 (some 83), I, J)) rfl ?_
  refine go_aload_n d_M_init_114 rfl ?_
  refine go_bipush (v := 80) d_M_init_115 (by decide) ?_
  refine go_newI (n := 80) d_M_init_117 rfl (by decide) (by decide) (by decide) w_103 (Nat.le_of_ble_eq_true rfl) (Nat.le_of_ble_eq_true rfl) (Nat.le_of_ble_eq_true rfl) (fun j => hI 84 (by decide) (by decide) j) rfl ?_
  refine go_st (σ' := (85, pm_uP (pm_uP (pm_uP (pm_uP (pm_uP (pm_uP (pm_uP (pm_uP (pm_uP (pm_uP (pm_uP (pm_uP (pm_uP (pm_uP (P) 69 3 (some 70)) 69 4 (some 71)) 69 6 (some 72)) 69 7 (some 73)) 69 8 (some 74)) 69 9 (some 75)) 69 10 (some 76)) 69 12 (some 77)) 69 13 (some 78)) 69 15 (some 79)) 69 16 (some 80)) 69 19 (some 81)) 69 20 (some 82)) 69 21 (some 83), I, J)) rfl ?_
  refine go_putP (j := 22) d_M_init_119 (Nat.le_of_ble_eq_true rfl) rfl pc_M (Nat.le_of_ble_eq_true rfl) rfl w_724 rfl rfl rfl rfl (Nat.le_of_ble_eq_true rfl) ?_
  refine go_st (σ' := (85, pm_uP (pm_uP (pm_uP (pm_uP (pm_uP (pm_uP (pm_uP (pm_uP (pm_uP (pm_uP (pm_uP (pm_uP (pm_uP (pm_uP (pm_uP (P) 69 3 (some 70)) 69 4 (some 71)) 69 6 (some 72)) 69 7 (some 73)) 69 8 (some 74)) 69 9 (some 75)) 69 10 (some 76)) 69 12 (some 77)) 69 13 (some 78)) 69 15 (some 79)) 69 16 (some 80)) 69 19 (some 81)) 69 20 (some 82)) 69 21 (some 83)) 69 22 (some 84), I, J)) rfl ?_
  refine go_aload_n d_M_init_122 rfl ?_
  refine go_sipush (v := 20040) d_M_init_123 (by decide) ?_
  refine go_newI (n := 20040) d_M_init_126 rfl (by decide) (by decide) (by decide) w_103 (Nat.le_of_ble_eq_true rfl) (Nat.le_of_ble_eq_true rfl) (Nat.le_of_ble_eq_true rfl) (fun j => hI 85 (by decide) (by decide) j) rfl ?_
  refine go_st (σ' := (86, pm_uP (pm_uP (pm_uP (pm_uP (pm_uP (pm_uP (pm_uP (pm_uP (pm_uP (pm_uP (pm_uP (pm_uP (pm_uP (pm_uP (pm_uP (P) 69 3 (some 70)) 69 4 (some 71)) 69 6 (some 72)) 69 7 (some 73)) 69 8 (some 74)) 69 9 (some 75)) 69 10 (some 76)) 69 12 (some 77)) 69 13 (some 78)) 69 15 (some 79)) 69 16 (some 80)) 69 19 (some 81)) 69 20 (some 82)) 69 21 (some 83)) 69 22 (some 84), I, J)) rfl ?_
  refine go_putP (j := 23) d_M_init_128 (Nat.le_of_ble_eq_true rfl) rfl pc_M (Nat.le_of_ble_eq_true rfl) rfl w_725 rfl rfl rfl rfl (Nat.le_of_ble_eq_true rfl) ?_
  refine go_st (σ' := (86, pm_uP (pm_uP (pm_uP (pm_uP (pm_uP (pm_uP (pm_uP (pm_uP (pm_uP (pm_uP (pm_uP (pm_uP (pm_uP (pm_uP (pm_uP (pm_uP (P) 69 3 (some 70)) 69 4 (some 71)) 69 6 (some 72)) 69 7 (some 73)) 69 8 (some 74)) 69 9 (some 75)) 69 10 (some 76)) 69 12 (some 77)) 69 13 (some 78)) 69 15 (some 79)) 69 16 (some 80)) 69 19 (some 81)) 69 20 (some 82)) 69 21 (some 83)) 69 22 (some 84)) 69 23 (some 85), I, J)) rfl ?_
  refine go_aload_n d_M_init_131 rfl ?_
  refine go_bipush (v := 20) d_M_init_132 (by decide) ?_
  refine go_newI (n := 20) d_M_init_134 rfl (by decide) (by decide) (by decide) w_103 (Nat.le_of_ble_eq_true rfl) (Nat.le_of_ble_eq_true rfl) (Nat.le_of_ble_eq_true rfl) (fun j => hI 86 (by decide) (by decide) j) rfl ?_
  refine go_st (σ' := (87, pm_uP (pm_uP (pm_uP (pm_uP (pm_uP (pm_uP (pm_uP (pm_uP (pm_uP (pm_uP (pm_uP (pm_uP (pm_uP (pm_uP (pm_uP (pm_uP (P) 69 3 (some 70)) 69 4 (some 71)) 69 6 (some 72)) 69 7 (some 73)) 69 8 (some 74)) 69 9 (some 75)) 69 10 (some 76)) 69 12 (some 77)) 69 13 (some 78)) 69 15 (some 79)) 69 16 (some 80)) 69 19 (some 81)) 69 20 (some 82)) 69 21 (some 83)) 69 22 (some 84)) 69 23 (some 85), I, J)) rfl ?_
  refine go_putP (j := 24) d_M_init_136 (Nat.le_of_ble_eq_true rfl) rfl pc_M (Nat.le_of_ble_eq_true rfl) rfl w_726 rfl rfl rfl rfl (Nat.le_of_ble_eq_true rfl) ?_
  refine go_st (σ' := (87, pm_uP (pm_uP (pm_uP (pm_uP (pm_uP (pm_uP (pm_uP (pm_uP (pm_uP (pm_uP (pm_uP (pm_uP (pm_uP (pm_uP (pm_uP (pm_uP (pm_uP (P) 69 3 (some 70)) 69 4 (some 71)) 69 6 (some 72)) 69 7 (some 73)) 69 8 (some 74)) 69 9 (some 75)) 69 10 (some 76)) 69 12 (some 77)) 69 13 (some 78)) 69 15 (some 79)) 69 16 (some 80)) 69 19 (some 81)) 69 20 (some 82)) 69 21 (some 83)) 69 22 (some 84)) 69 23 (some 85)) 69 24 (some 86), I, J)) rfl ?_
  refine go_aload_n d_M_init_139 rfl ?_
  refine go_sipush (v := 10020) d_M_init_140 (by decide) ?_
  refine go_newI (n := 10020) d_M_init_143 rfl (by decide) (by decide) (by decide) w_103 (Nat.le_of_ble_eq_true rfl) (Nat.le_of_ble_eq_true rfl) (Nat.le_of_ble_eq_true rfl) (fun j => hI 87 (by decide) (by decide) j) rfl ?_
  refine go_st (σ' := (88, pm_uP (pm_uP (pm_uP (pm_uP (pm_uP (pm_uP (pm_uP (pm_uP (pm_uP (pm_uP (pm_uP (pm_uP (pm_uP (pm_uP (pm_uP (pm_uP (pm_uP (P) 69 3 (some 70)) 69 4 (some 71)) 69 6 (some 72)) 69 7 (some 73)) 69 8 (some 74)) 69 9 (some 75)) 69 10 (some 76)) 69 12 (some 77)) 69 13 (some 78)) 69 15 (some 79)) 69 16 (some 80)) 69 19 (some 81)) 69 20 (some 82)) 69 21 (some 83)) 69 22 (some 84)) 69 23 (some 85)) 69 24 (some 86), I, J)) rfl ?_
  refine go_putP (j := 25) d_M_init_145 (Nat.le_of_ble_eq_true rfl) rfl pc_M (Nat.le_of_ble_eq_true rfl) rfl w_727 rfl rfl rfl rfl (Nat.le_of_ble_eq_true rfl) ?_
  refine go_st (σ' := (88, pm_uP (pm_uP (pm_uP (pm_uP (pm_uP (pm_uP (pm_uP (pm_uP (pm_uP (pm_uP (pm_uP (pm_uP (pm_uP (pm_uP (pm_uP (pm_uP (pm_uP (pm_uP (P) 69 3 (some 70)) 69 4 (some 71)) 69 6 (some 72)) 69 7 (some 73)) 69 8 (some 74)) 69 9 (some 75)) 69 10 (some 76)) 69 12 (some 77)) 69 13 (some 78)) 69 15 (some 79)) 69 16 (some 80)) 69 19 (some 81)) 69 20 (some 82)) 69 21 (some 83)) 69 22 (some 84)) 69 23 (some 85)) 69 24 (some 86)) 69 25 (some 87), I, J)) rfl ?_
  refine go_aload_n d_M_init_148 rfl ?_
  refine go_bipush (v := 10) d_M_init_149 (by decide) ?_
  refine go_newI (n := 10) d_M_init_151 rfl (by decide) (by decide) (by decide) w_103 (Nat.le_of_ble_eq_true rfl) (Nat.le_of_ble_eq_true rfl) (Nat.le_of_ble_eq_true rfl) (fun j => hI 88 (by decide) (by decide) j) rfl ?_
  refine go_st (σ' := (89, pm_uP (pm_uP (pm_uP (pm_uP (pm_uP (pm_uP (pm_uP (pm_uP (pm_uP (pm_uP (pm_uP (pm_uP (pm_uP (pm_uP (pm_uP (pm_uP (pm_uP (pm_uP (P) 69 3 (some 70)) 69 4 (some 71)) 69 6 (some 72)) 69 7 (some 73)) 69 8 (some 74)) 69 9 (some 75)) 69 10 (some 76)) 69 12 (some 77)) 69 13 (some 78)) 69 15 (some 79)) 69 16 (some 80)) 69 19 (some 81)) 69 20 (some 82)) 69 21 (some 83)) 69 22 (some 84)) 69 23 (some 85)) 69 24 (some 86)) 69 25 (some 87), I, J)) rfl ?_
  refine go_putP (j := 26) d_M_init_153 (Nat.le_of_ble_eq_true rfl) rfl pc_M (Nat.le_of_ble_eq_true rfl) rfl w_728 rfl rfl rfl rfl (Nat.le_of_ble_eq_true rfl) ?_
  refine go_st (σ' := (89, pm_uP (pm_uP (pm_uP (pm_uP (pm_uP (pm_uP (pm_uP (pm_uP (pm_uP (pm_uP (pm_uP (pm_uP (pm_uP (pm_uP (pm_uP (pm_uP (pm_uP (pm_uP (pm_uP (P) 69 3 (some 70)) 69 4 (some 71)) 69 6 (some 72)) 69 7 (some 73)) 69 8 (some 74)) 69 9 (some 75)) 69 10 (some 76)) 69 12 (some 77)) 69 13 (some 78)) 69 15 (some 79)) 69 16 (some 80)) 69 19 (some 81)) 69 20 (some 82)) 69 21 (some 83)) 69 22 (some 84)) 69 23 (some 85)) 69 24 (some 86)) 69 25 (some 87)) 69 26 (some 88), I, J)) rfl ?_
  refine go_aload_n d_M_init_156 rfl ?_
  refine go_sipush (v := 4008) d_M_init_157 (by decide) ?_
  refine go_newI (n := 4008) d_M_init_160 rfl (by decide) (by decide) (by decide) w_103 (Nat.le_of_ble_eq_true rfl) (Nat.le_of_ble_eq_true rfl) (Nat.le_of_ble_eq_true rfl) (fun j => hI 89 (by decide) (by decide) j) rfl ?_
  refine go_st (σ' := (90, pm_uP (pm_uP (pm_uP (pm_uP (pm_uP (pm_uP (pm_uP (pm_uP (pm_uP (pm_uP (pm_uP (pm_uP (pm_uP (pm_uP (pm_uP (pm_uP (pm_uP (pm_uP (pm_uP (P) 69 3 (some 70)) 69 4 (some 71)) 69 6 (some 72)) 69 7 (some 73)) 69 8 (some 74)) 69 9 (some 75)) 69 10 (some 76)) 69 12 (some 77)) 69 13 (some 78)) 69 15 (some 79)) 69 16 (some 80)) 69 19 (some 81)) 69 20 (some 82)) 69 21 (some 83)) 69 22 (some 84)) 69 23 (some 85)) 69 24 (some 86)) 69 25 (some 87)) 69 26 (some 88), I, J)) rfl ?_
  refine go_putP (j := 27) d_M_init_162 (Nat.le_of_ble_eq_true rfl) rfl pc_M (Nat.le_of_ble_eq_true rfl) rfl w_729 rfl rfl rfl rfl (Nat.le_of_ble_eq_true rfl) ?_
  refine go_st (σ' := (90, pm_uP (pm_uP (pm_uP (pm_uP (pm_uP (pm_uP (pm_uP (pm_uP (pm_uP (pm_uP (pm_uP (pm_uP (pm_uP (pm_uP (pm_uP (pm_uP (pm_uP (pm_uP (pm_uP (pm_uP (P) 69 3 (some 70)) 69 4 (some 71)) 69 6 (some 72)) 69 7 (some 73)) 69 8 (some 74)) 69 9 (some 75)) 69 10 (some 76)) 69 12 (some 77)) 69 13 (some 78)) 69 15 (some 79)) 69 16 (some 80)) 69 19 (some 81)) 69 20 (some 82)) 69 21 (some 83)) 69 22 (some 84)) 69 23 (some 85)) 69 24 (some 86)) 69 25 (some 87)) 69 26 (some 88)) 69 27 (some 89), I, J)) rfl ?_
  refine go_aload_n d_M_init_165 rfl ?_
  refine go_sipush (v := 4008) d_M_init_166 (by decide) ?_
  refine go_newI (n := 4008) d_M_init_169 rfl (by decide) (by decide) (by decide) w_103 (Nat.le_of_ble_eq_true rfl) (Nat.le_of_ble_eq_true rfl) (Nat.le_of_ble_eq_true rfl) (fun j => hI 90 (by decide) (by decide) j) rfl ?_
  refine go_st (σ' := (91, pm_uP (pm_uP (pm_uP (pm_uP (pm_uP (pm_uP (pm_uP (pm_uP (pm_uP (pm_uP (pm_uP (pm_uP (pm_uP (pm_uP (pm_uP (pm_uP (pm_uP (pm_uP (pm_uP (pm_uP (P) 69 3 (some 70)) 69 4 (some 71)) 69 6 (some 72)) 69 7 (some 73)) 69 8 (some 74)) 69 9 (some 75)) 69 10 (some 76)) 69 12 (some 77)) 69 13 (some 78)) 69 15 (some 79)) 69 16 (some 80)) 69 19 (some 81)) 69 20 (some 82)) 69 21 (some 83)) 69 22 (some 84)) 69 23 (some 85)) 69 24 (some 86)) 69 25 (some 87)) 69 26 (some 88)) 69 27 (some 89), I, J)) rfl ?_
  refine go_putP (j := 28) d_M_init_171 (Nat.le_of_ble_eq_true rfl) rfl pc_M (Nat.le_of_ble_eq_true rfl) rfl w_730 rfl rfl rfl rfl (Nat.le_of_ble_eq_true rfl) ?_
  refine go_st (σ' := (91, pm_uP (pm_uP (pm_uP (pm_uP (pm_uP (pm_uP (pm_uP (pm_uP (pm_uP (pm_uP (pm_uP (pm_uP (pm_uP (pm_uP (pm_uP (pm_uP (pm_uP (pm_uP (pm_uP (pm_uP (pm_uP (P) 69 3 (some 70)) 69 4 (some 71)) 69 6 (some 72)) 69 7 (some 73)) 69 8 (some 74)) 69 9 (some 75)) 69 10 (some 76)) 69 12 (some 77)) 69 13 (some 78)) 69 15 (some 79)) 69 16 (some 80)) 69 19 (some 81)) 69 20 (some 82)) 69 21 (some 83)) 69 22 (some 84)) 69 23 (some 85)) 69 24 (some 86)) 69 25 (some 87)) 69 26 (some 88)) 69 27 (some 89)) 69 28 (some 90), I, J)) rfl ?_
  refine go_aload_n d_M_init_174 rfl ?_
  refine go_iconst (v := 4) d_M_init_175 (by decide) ?_
  refine go_newI (n := 4) d_M_init_176 rfl (by decide) (by decide) (by decide) w_103 (Nat.le_of_ble_eq_true rfl) (Nat.le_of_ble_eq_true rfl) (Nat.le_of_ble_eq_true rfl) (fun j => hI 91 (by decide) (by decide) j) rfl ?_
  refine go_st (σ' := (92, pm_uP (pm_uP (pm_uP (pm_uP (pm_uP (pm_uP (pm_uP (pm_uP (pm_uP (pm_uP (pm_uP (pm_uP (pm_uP (pm_uP (pm_uP (pm_uP (pm_uP (pm_uP (pm_uP (pm_uP (pm_uP (P) 69 3 (some 70)) 69 4 (some 71)) 69 6 (some 72)) 69 7 (some 73)) 69 8 (some 74)) 69 9 (some 75)) 69 10 (some 76)) 69 12 (some 77)) 69 13 (some 78)) 69 15 (some 79)) 69 16 (some 80)) 69 19 (some 81)) 69 20 (some 82)) 69 21 (some 83)) 69 22 (some 84)) 69 23 (some 85)) 69 24 (some 86)) 69 25 (some 87)) 69 26 (some 88)) 69 27 (some 89)) 69 28 (some 90), I, J)) rfl ?_
  refine go_putP (j := 29) d_M_init_178 (Nat.le_of_ble_eq_true rfl) rfl pc_M (Nat.le_of_ble_eq_true rfl) rfl w_731 rfl rfl rfl rfl (Nat.le_of_ble_eq_true rfl) ?_
  refine go_st (σ' := (92, pm_uP (pm_uP (pm_uP (pm_uP (pm_uP (pm_uP (pm_uP (pm_uP (pm_uP (pm_uP (pm_uP (pm_uP (pm_uP (pm_uP (pm_uP (pm_uP (pm_uP (pm_uP (pm_uP (pm_uP (pm_uP (pm_uP (P) 69 3 (some 70)) 69 4 (some 71)) 69 6 (some 72)) 69 7 (some 73)) 69 8 (some 74)) 69 9 (some 75)) 69 10 (some 76)) 69 12 (some 77)) 69 13 (some 78)) 69 15 (some 79)) 69 16 (some 80)) 69 19 (some 81)) 69 20 (some 82)) 69 21 (some 83)) 69 22 (some 84)) 69 23 (some 85)) 69 24 (some 86)) 69 25 (some 87)) 69 26 (some 88)) 69 27 (some 89)) 69 28 (some 90)) 69 29 (some 91), I, J)) rfl ?_
  refine go_aload_n d_M_init_181 rfl ?_
  refine go_sipush (v := 4008) d_M_init_182 (by decide) ?_
  refine go_newI (n := 4008) d_M_init_185 rfl (by decide) (by decide) (by decide) w_103 (Nat.le_of_ble_eq_true rfl) (Nat.le_of_ble_eq_true rfl) (Nat.le_of_ble_eq_true rfl) (fun j => hI 92 (by decide) (by decide) j) rfl ?_
  refine go_st (σ' := (93, pm_uP (pm_uP (pm_uP (pm_uP (pm_uP (pm_uP (pm_uP (pm_uP (pm_uP (pm_uP (pm_uP (pm_uP (pm_uP (pm_uP (pm_uP (pm_uP (pm_uP (pm_uP (pm_uP (pm_uP (pm_uP (pm_uP (P) 69 3 (some 70)) 69 4 (some 71)) 69 6 (some 72)) 69 7 (some 73)) 69 8 (some 74)) 69 9 (some 75)) 69 10 (some 76)) 69 12 (some 77)) 69 13 (some 78)) 69 15 (some 79)) 69 16 (some 80)) 69 19 (some 81)) 69 20 (some 82)) 69 21 (some 83)) 69 22 (some 84)) 69 23 (some 85)) 69 24 (some 86)) 69 25 (some 87)) 69 26 (some 88)) 69 27 (some 89)) 69 28 (some 90)) 69 29 (some 91), I, J)) rfl ?_
  refine go_putP (j := 30) d_M_init_187 (Nat.le_of_ble_eq_true rfl) rfl pc_M (Nat.le_of_ble_eq_true rfl) rfl w_732 rfl rfl rfl rfl (Nat.le_of_ble_eq_true rfl) ?_
  refine go_st (σ' := (93, pm_uP (pm_uP (pm_uP (pm_uP (pm_uP (pm_uP (pm_uP (pm_uP (pm_uP (pm_uP (pm_uP (pm_uP (pm_uP (pm_uP (pm_uP (pm_uP (pm_uP (pm_uP (pm_uP (pm_uP (pm_uP (pm_uP (pm_uP (P) 69 3 (some 70)) 69 4 (some 71)) 69 6 (some 72)) 69 7 (some 73)) 69 8 (some 74)) 69 9 (some 75)) 69 10 (some 76)) 69 12 (some 77)) 69 13 (some 78)) 69 15 (some 79)) 69 16 (some 80)) 69 19 (some 81)) 69 20 (some 82)) 69 21 (some 83)) 69 22 (some 84)) 69 23 (some 85)) 69 24 (some 86)) 69 25 (some 87)) 69 26 (some 88)) 69 27 (some 89)) 69 28 (some 90)) 69 29 (some 91)) 69 30 (some 92), I, J)) rfl ?_
  refine go_aload_n d_M_init_190 rfl ?_
  refine go_sipush (v := 4008) d_M_init_191 (by decide) ?_
  refine go_newI (n := 4008) d_M_init_194 rfl (by decide) (by decide) (by decide) w_103 (Nat.le_of_ble_eq_true rfl) (Nat.le_of_ble_eq_true rfl) (Nat.le_of_ble_eq_true rfl) (fun j => hI 93 (by decide) (by decide) j) rfl ?_
  refine go_st (σ' := (94, pm_uP (pm_uP (pm_uP (pm_uP (pm_uP (pm_uP (pm_uP (pm_uP (pm_uP (pm_uP (pm_uP (pm_uP (pm_uP (pm_uP (pm_uP (pm_uP (pm_uP (pm_uP (pm_uP (pm_uP (pm_uP (pm_uP (pm_uP (P) 69 3 (some 70)) 69 4 (some 71)) 69 6 (some 72)) 69 7 (some 73)) 69 8 (some 74)) 69 9 (some 75)) 69 10 (some 76)) 69 12 (some 77)) 69 13 (some 78)) 69 15 (some 79)) 69 16 (some 80)) 69 19 (some 81)) 69 20 (some 82)) 69 21 (some 83)) 69 22 (some 84)) 69 23 (some 85)) 69 24 (some 86)) 69 25 (some 87)) 69 26 (some 88)) 69 27 (some 89)) 69 28 (some 90)) 69 29 (some 91)) 69 30 (some 92), I, J)) rfl ?_
  refine go_putP (j := 31) d_M_init_196 (Nat.le_of_ble_eq_true rfl) rfl pc_M (Nat.le_of_ble_eq_true rfl) rfl w_733 rfl rfl rfl rfl (Nat.le_of_ble_eq_true rfl) ?_
  refine go_st (σ' := (94, pm_uP (pm_uP (pm_uP (pm_uP (pm_uP (pm_uP (pm_uP (pm_uP (pm_uP (pm_uP (pm_uP (pm_uP (pm_uP (pm_uP (pm_uP (pm_uP (pm_uP (pm_uP (pm_uP (pm_uP (pm_uP (pm_uP (pm_uP (pm_uP (P) 69 3 (some 70)) 69 4 (some 71)) 69 6 (some 72)) 69 7 (some 73)) 69 8 (some 74)) 69 9 (some 75)) 69 10 (some 76)) 69 12 (some 77)) 69 13 (some 78)) 69 15 (some 79)) 69 16 (some 80)) 69 19 (some 81)) 69 20 (some 82)) 69 21 (some 83)) 69 22 (some 84)) 69 23 (some 85)) 69 24 (some 86)) 69 25 (some 87)) 69 26 (some 88)) 69 27 (some 89)) 69 28 (some 90)) 69 29 (some 91)) 69 30 (some 92)) 69 31 (some 93), I, J)) rfl ?_
  refine go_aload_n d_M_init_199 rfl ?_
  refine go_iconst (v := 4) d_M_init_200 (by decide) ?_
  refine go_newI (n := 4) d_M_init_201 rfl (by decide) (by decide) (by decide) w_103 (Nat.le_of_ble_eq_true rfl) (Nat.le_of_ble_eq_true rfl) (Nat.le_of_ble_eq_true rfl) (fun j => hI 94 (by decide) (by decide) j) rfl ?_
  refine go_st (σ' := (95, pm_uP (pm_uP (pm_uP (pm_uP (pm_uP (pm_uP (pm_uP (pm_uP (pm_uP (pm_uP (pm_uP (pm_uP (pm_uP (pm_uP (pm_uP (pm_uP (pm_uP (pm_uP (pm_uP (pm_uP (pm_uP (pm_uP (pm_uP (pm_uP (P) 69 3 (some 70)) 69 4 (some 71)) 69 6 (some 72)) 69 7 (some 73)) 69 8 (some 74)) 69 9 (some 75)) 69 10 (some 76)) 69 12 (some 77)) 69 13 (some 78)) 69 15 (some 79)) 69 16 (some 80)) 69 19 (some 81)) 69 20 (some 82)) 69 21 (some 83)) 69 22 (some 84)) 69 23 (some 85)) 69 24 (some 86)) 69 25 (some 87)) 69 26 (some 88)) 69 27 (some 89)) 69 28 (some 90)) 69 29 (some 91)) 69 30 (some 92)) 69 31 (some 93), I, J)) rfl ?_
  refine go_putP (j := 32) d_M_init_203 (Nat.le_of_ble_eq_true rfl) rfl pc_M (Nat.le_of_ble_eq_true rfl) rfl w_734 rfl rfl rfl rfl (Nat.le_of_ble_eq_true rfl) ?_
  refine go_st (σ' := (95, pm_uP (pm_uP (pm_uP (pm_uP (pm_uP (pm_uP (pm_uP (pm_uP (pm_uP (pm_uP (pm_uP (pm_uP (pm_uP (pm_uP (pm_uP (pm_uP (pm_uP (pm_uP (pm_uP (pm_uP (pm_uP (pm_uP (pm_uP (pm_uP (pm_uP (P) 69 3 (some 70)) 69 4 (some 71)) 69 6 (some 72)) 69 7 (some 73)) 69 8 (some 74)) 69 9 (some 75)) 69 10 (some 76)) 69 12 (some 77)) 69 13 (some 78)) 69 15 (some 79)) 69 16 (some 80)) 69 19 (some 81)) 69 20 (some 82)) 69 21 (some 83)) 69 22 (some 84)) 69 23 (some 85)) 69 24 (some 86)) 69 25 (some 87)) 69 26 (some 88)) 69 27 (some 89)) 69 28 (some 90)) 69 29 (some 91)) 69 30 (some 92)) 69 31 (some 93)) 69 32 (some 94), I, J)) rfl ?_
  refine go_aload_n d_M_init_206 rfl ?_
  refine go_bipush (v := 20) d_M_init_207 (by decide) ?_
  refine go_newI (n := 20) d_M_init_209 rfl (by decide) (by decide) (by decide) w_103 (Nat.le_of_ble_eq_true rfl) (Nat.le_of_ble_eq_true rfl) (Nat.le_of_ble_eq_true rfl) (fun j => hI 95 (by decide) (by decide) j) rfl ?_
  refine go_st (σ' := (96, pm_uP (pm_uP (pm_uP (pm_uP (pm_uP (pm_uP (pm_uP (pm_uP (pm_uP (pm_uP (pm_uP (pm_uP (pm_uP (pm_uP (pm_uP (pm_uP (pm_uP (pm_uP (pm_uP (pm_uP (pm_uP (pm_uP (pm_uP (pm_uP (pm_uP (P) 69 3 (some 70)) 69 4 (some 71)) 69 6 (some 72)) 69 7 (some 73)) 69 8 (some 74)) 69 9 (some 75)) 69 10 (some 76)) 69 12 (some 77)) 69 13 (some 78)) 69 15 (some 79)) 69 16 (some 80)) 69 19 (some 81)) 69 20 (some 82)) 69 21 (some 83)) 69 22 (some 84)) 69 23 (some 85)) 69 24 (some 86)) 69 25 (some 87)) 69 26 (some 88)) 69 27 (some 89)) 69 28 (some 90)) 69 29 (some 91)) 69 30 (some 92)) 69 31 (some 93)) 69 32 (some 94), I, J)) rfl ?_
  refine go_putP (j := 33) d_M_init_211 (Nat.le_of_ble_eq_true rfl) rfl pc_M (Nat.le_of_ble_eq_true rfl) rfl w_735 rfl rfl rfl rfl (Nat.le_of_ble_eq_true rfl) ?_
  refine go_st (σ' := (96, pm_uP (pm_uP (pm_uP (pm_uP (pm_uP (pm_uP (pm_uP (pm_uP (pm_uP (pm_uP (pm_uP (pm_uP (pm_uP (pm_uP (pm_uP (pm_uP (pm_uP (pm_uP (pm_uP (pm_uP (pm_uP (pm_uP (pm_uP (pm_uP (pm_uP (pm_uP (P) 69 3 (some 70)) 69 4 (some 71)) 69 6 (some 72)) 69 7 (some 73)) 69 8 (some 74)) 69 9 (some 75)) 69 10 (some 76)) 69 12 (some 77)) 69 13 (some 78)) 69 15 (some 79)) 69 16 (some 80)) 69 19 (some 81)) 69 20 (some 82)) 69 21 (some 83)) 69 22 (some 84)) 69 23 (some 85)) 69 24 (some 86)) 69 25 (some 87)) 69 26 (some 88)) 69 27 (some 89)) 69 28 (some 90)) 69 29 (some 91)) 69 30 (some 92)) 69 31 (some 93)) 69 32 (some 94)) 69 33 (some 95), I, J)) rfl ?_
  refine go_aload_n d_M_init_214 rfl ?_
  refine go_bipush (v := 10) d_M_init_215 (by decide) ?_
  refine go_newI (n := 10) d_M_init_217 rfl (by decide) (by decide) (by decide) w_103 (Nat.le_of_ble_eq_true rfl) (Nat.le_of_ble_eq_true rfl) (Nat.le_of_ble_eq_true rfl) (fun j => hI 96 (by decide) (by decide) j) rfl ?_
  refine go_st (σ' := (97, pm_uP (pm_uP (pm_uP (pm_uP (pm_uP (pm_uP (pm_uP (pm_uP (pm_uP (pm_uP (pm_uP (pm_uP (pm_uP (pm_uP (pm_uP (pm_uP (pm_uP (pm_uP (pm_uP (pm_uP (pm_uP (pm_uP (pm_uP (pm_uP (pm_uP (pm_uP (P) 69 3 (some 70)) 69 4 (some 71)) 69 6 (some 72)) 69 7 (some 73)) 69 8 (some 74)) 69 9 (some 75)) 69 10 (some 76)) 69 12 (some 77)) 69 13 (some 78)) 69 15 (some 79)) 69 16 (some 80)) 69 19 (some 81)) 69 20 (some 82)) 69 21 (some 83)) 69 22 (some 84)) 69 23 (some 85)) 69 24 (some 86)) 69 25 (some 87)) 69 26 (some 88)) 69 27 (some 89)) 69 28 (some 90)) 69 29 (some 91)) 69 30 (some 92)) 69 31 (some 93)) 69 32 (some 94)) 69 33 (some 95), I, J)) rfl ?_
  refine go_putP (j := 34) d_M_init_219 (Nat.le_of_ble_eq_true rfl) rfl pc_M (Nat.le_of_ble_eq_true rfl) rfl w_736 rfl rfl rfl rfl (Nat.le_of_ble_eq_true rfl) ?_
  refine go_st (σ' := (97, pm_uP (pm_uP (pm_uP (pm_uP (pm_uP (pm_uP (pm_uP (pm_uP (pm_uP (pm_uP (pm_uP (pm_uP (pm_uP (pm_uP (pm_uP (pm_uP (pm_uP (pm_uP (pm_uP (pm_uP (pm_uP (pm_uP (pm_uP (pm_uP (pm_uP (pm_uP (pm_uP (P) 69 3 (some 70)) 69 4 (some 71)) 69 6 (some 72)) 69 7 (some 73)) 69 8 (some 74)) 69 9 (some 75)) 69 10 (some 76)) 69 12 (some 77)) 69 13 (some 78)) 69 15 (some 79)) 69 16 (some 80)) 69 19 (some 81)) 69 20 (some 82)) 69 21 (some 83)) 69 22 (some 84)) 69 23 (some 85)) 69 24 (some 86)) 69 25 (some 87)) 69 26 (some 88)) 69 27 (some 89)) 69 28 (some 90)) 69 29 (some 91)) 69 30 (some 92)) 69 31 (some 93)) 69 32 (some 94)) 69 33 (some 95)) 69 34 (some 96), I, J)) rfl ?_
  refine go_aload_n d_M_init_222 rfl ?_
  refine go_sipush (v := 400) d_M_init_223 (by decide) ?_
  refine go_newI (n := 400) d_M_init_226 rfl (by decide) (by decide) (by decide) w_103 (Nat.le_of_ble_eq_true rfl) (Nat.le_of_ble_eq_true rfl) (Nat.le_of_ble_eq_true rfl) (fun j => hI 97 (by decide) (by decide) j) rfl ?_
  refine go_st (σ' := (98, pm_uP (pm_uP (pm_uP (pm_uP (pm_uP (pm_uP (pm_uP (pm_uP (pm_uP (pm_uP (pm_uP (pm_uP (pm_uP (pm_uP (pm_uP (pm_uP (pm_uP (pm_uP (pm_uP (pm_uP (pm_uP (pm_uP (pm_uP (pm_uP (pm_uP (pm_uP (pm_uP (P) 69 3 (some 70)) 69 4 (some 71)) 69 6 (some 72)) 69 7 (some 73)) 69 8 (some 74)) 69 9 (some 75)) 69 10 (some 76)) 69 12 (some 77)) 69 13 (some 78)) 69 15 (some 79)) 69 16 (some 80)) 69 19 (some 81)) 69 20 (some 82)) 69 21 (some 83)) 69 22 (some 84)) 69 23 (some 85)) 69 24 (some 86)) 69 25 (some 87)) 69 26 (some 88)) 69 27 (some 89)) 69 28 (some 90)) 69 29 (some 91)) 69 30 (some 92)) 69 31 (some 93)) 69 32 (some 94)) 69 33 (some 95)) 69 34 (some 96), I, J)) rfl ?_
  refine go_putP (j := 35) d_M_init_228 (Nat.le_of_ble_eq_true rfl) rfl pc_M (Nat.le_of_ble_eq_true rfl) rfl w_737 rfl rfl rfl rfl (Nat.le_of_ble_eq_true rfl) ?_
  refine go_st (σ' := (98, pm_uP (pm_uP (pm_uP (pm_uP (pm_uP (pm_uP (pm_uP (pm_uP (pm_uP (pm_uP (pm_uP (pm_uP (pm_uP (pm_uP (pm_uP (pm_uP (pm_uP (pm_uP (pm_uP (pm_uP (pm_uP (pm_uP (pm_uP (pm_uP (pm_uP (pm_uP (pm_uP (pm_uP (P) 69 3 (some 70)) 69 4 (some 71)) 69 6 (some 72)) 69 7 (some 73)) 69 8 (some 74)) 69 9 (some 75)) 69 10 (some 76)) 69 12 (some 77)) 69 13 (some 78)) 69 15 (some 79)) 69 16 (some 80)) 69 19 (some 81)) 69 20 (some 82)) 69 21 (some 83)) 69 22 (some 84)) 69 23 (some 85)) 69 24 (some 86)) 69 25 (some 87)) 69 26 (some 88)) 69 27 (some 89)) 69 28 (some 90)) 69 29 (some 91)) 69 30 (some 92)) 69 31 (some 93)) 69 32 (some 94)) 69 33 (some 95)) 69 34 (some 96)) 69 35 (some 97), I, J)) rfl ?_
  refine go_aload_n d_M_init_231 rfl ?_
  refine go_sipush (v := 400) d_M_init_232 (by decide) ?_
  refine go_newI (n := 400) d_M_init_235 rfl (by decide) (by decide) (by decide) w_103 (Nat.le_of_ble_eq_true rfl) (Nat.le_of_ble_eq_true rfl) (Nat.le_of_ble_eq_true rfl) (fun j => hI 98 (by decide) (by decide) j) rfl ?_
  refine go_st (σ' := (99, pm_uP (pm_uP (pm_uP (pm_uP (pm_uP (pm_uP (pm_uP (pm_uP (pm_uP (pm_uP (pm_uP (pm_uP (pm_uP (pm_uP (pm_uP (pm_uP (pm_uP (pm_uP (pm_uP (pm_uP (pm_uP (pm_uP (pm_uP (pm_uP (pm_uP (pm_uP (pm_uP (pm_uP (P) 69 3 (some 70)) 69 4 (some 71)) 69 6 (some 72)) 69 7 (some 73)) 69 8 (some 74)) 69 9 (some 75)) 69 10 (some 76)) 69 12 (some 77)) 69 13 (some 78)) 69 15 (some 79)) 69 16 (some 80)) 69 19 (some 81)) 69 20 (some 82)) 69 21 (some 83)) 69 22 (some 84)) 69 23 (some 85)) 69 24 (some 86)) 69 25 (some 87)) 69 26 (some 88)) 69 27 (some 89)) 69 28 (some 90)) 69 29 (some 91)) 69 30 (some 92)) 69 31 (some 93)) 69 32 (some 94)) 69 33 (some 95)) 69 34 (some 96)) 69 35 (some 97), I, J)) rfl ?_
  refine go_putP (j := 36) d_M_init_237 (Nat.le_of_ble_eq_true rfl) rfl pc_M (Nat.le_of_ble_eq_true rfl) rfl w_738 rfl rfl rfl rfl (Nat.le_of_ble_eq_true rfl) ?_
  refine go_st (σ' := (99, pm_uP (pm_uP (pm_uP (pm_uP (pm_uP (pm_uP (pm_uP (pm_uP (pm_uP (pm_uP (pm_uP (pm_uP (pm_uP (pm_uP (pm_uP (pm_uP (pm_uP (pm_uP (pm_uP (pm_uP (pm_uP (pm_uP (pm_uP (pm_uP (pm_uP (pm_uP (pm_uP (pm_uP (pm_uP (P) 69 3 (some 70)) 69 4 (some 71)) 69 6 (some 72)) 69 7 (some 73)) 69 8 (some 74)) 69 9 (some 75)) 69 10 (some 76)) 69 12 (some 77)) 69 13 (some 78)) 69 15 (some 79)) 69 16 (some 80)) 69 19 (some 81)) 69 20 (some 82)) 69 21 (some 83)) 69 22 (some 84)) 69 23 (some 85)) 69 24 (some 86)) 69 25 (some 87)) 69 26 (some 88)) 69 27 (some 89)) 69 28 (some 90)) 69 29 (some 91)) 69 30 (some 92)) 69 31 (some 93)) 69 32 (some 94)) 69 33 (some 95)) 69 34 (some 96)) 69 35 (some 97)) 69 36 (some 98), I, J)) rfl ?_
  refine go_aload_n d_M_init_240 rfl ?_
  refine go_sipush (v := 400) d_M_init_241 (by decide) ?_
  refine go_newI (n := 400) d_M_init_244 rfl (by decide) (by decide) (by decide) w_103 (Nat.le_of_ble_eq_true rfl) (Nat.le_of_ble_eq_true rfl) (Nat.le_of_ble_eq_true rfl) (fun j => hI 99 (by decide) (by decide) j) rfl ?_
  refine go_st (σ' := (100, pm_uP (pm_uP (pm_uP (pm_uP (pm_uP (pm_uP (pm_uP (pm_uP (pm_uP (pm_uP (pm_uP (pm_uP (pm_uP (pm_uP (pm_uP (pm_uP (pm_uP (pm_uP (pm_uP (pm_uP (pm_uP (pm_uP (pm_uP (pm_uP (pm_uP (pm_uP (pm_uP (pm_uP (pm_uP (P) 69 3 (some 70)) 69 4 (some 71)) 69 6 (some 72)) 69 7 (some 73)) 69 8 (some 74)) 69 9 (some 75)) 69 10 (some 76)) 69 12 (some 77)) 69 13 (some 78)) 69 15 (some 79)) 69 16 (some 80)) 69 19 (some 81)) 69 20 (some 82)) 69 21 (some 83)) 69 22 (some 84)) 69 23 (some 85)) 69 24 (some 86)) 69 25 (some 87)) 69 26 (some 88)) 69 27 (some 89)) 69 28 (some 90)) 69 29 (some 91)) 69 30 (some 92)) 69 31 (some 93)) 69 32 (some 94)) 69 33 (some 95)) 69 34 (some 96)) 69 35 (some 97)) 69 36 (some 98), I, J)) rfl ?_
  refine go_putP (j := 37) d_M_init_246 (Nat.le_of_ble_eq_true rfl) rfl pc_M (Nat.le_of_ble_eq_true rfl) rfl w_739 rfl rfl rfl rfl (Nat.le_of_ble_eq_true rfl) ?_
  refine go_st (σ' := (100, pm_uP (pm_uP (pm_uP (pm_uP (pm_uP (pm_uP (pm_uP (pm_uP (pm_uP (pm_uP (pm_uP (pm_uP (pm_uP (pm_uP (pm_uP (pm_uP (pm_uP (pm_uP (pm_uP (pm_uP (pm_uP (pm_uP (pm_uP (pm_uP (pm_uP (pm_uP (pm_uP (pm_uP (pm_uP (pm_uP (P) 69 3 (some 70)) 69 4 (some 71)) 69 6 (some 72)) 69 7 (some 73)) 69 8 (some 74)) 69 9 (some 75)) 69 10 (some 76)) 69 12 (some 77)) 69 13 (some 78)) 69 15 (some 79)) 69 16 (some 80)) 69 19 (some 81)) 69 20 (some 82)) 69 21 (some 83)) 69 22 (some 84)) 69 23 (some 85)) 69 24 (some 86)) 69 25 (some 87)) 69 26 (some 88)) 69 27 (some 89)) 69 28 (some 90)) 69 29 (some 91)) 69 30 (some 92)) 69 31 (some 93)) 69 32 (some 94)) 69 33 (some 95)) 69 34 (some 96)) 69 35 (some 97)) 69 36 (some 98)) 69 37 (some 99), I, J)) rfl ?_
  refine go_aload_n d_M_init_249 rfl ?_
  refine go_sipush (v := 400) d_M_init_250 (by decide) ?_
  refine go_newI (n := 400) d_M_init_253 rfl (by decide) (by decide) (by decide) w_103 (Nat.le_of_ble_eq_true rfl) (Nat.le_of_ble_eq_true rfl) (Nat.le_of_ble_eq_true rfl) (fun j => hI 100 (by decide) (by decide) j) rfl ?_
  refine go_st (σ' := (101, pm_uP (pm_uP (pm_uP (pm_uP (pm_uP (pm_uP (pm_uP (pm_uP (pm_uP (pm_uP (pm_uP (pm_uP (pm_uP (pm_uP (pm_uP (pm_uP (pm_uP (pm_uP (pm_uP (pm_uP (pm_uP (pm_uP (pm_uP (pm_uP (pm_uP (pm_uP (pm_uP (pm_uP (pm_uP (pm_uP (P) 69 3 (some 70)) 69 4 (some 71)) 69 6 (some 72)) 69 7 (some 73)) 69 8 (some 74)) 69 9 (some 75)) 69 10 (some 76)) 69 12 (some 77)) 69 13 (some 78)) 69 15 (some 79)) 69 16 (some 80)) 69 19 (some 81)) 69 20 (some 82)) 69 21 (some 83)) 69 22 (some 84)) 69 23 (some 85)) 69 24 (some 86)) 69 25 (some 87)) 69 26 (some 88)) 69 27 (some 89)) 69 28 (some 90)) 69 29 (some 91)) 69 30 (some 92)) 69 31 (some 93)) 69 32 (some 94)) 69 33 (some 95)) 69 34 (some 96)) 69 35 (some 97)) 69 36 (some 98)) 69 37 (some 99), I, J)) rfl ?_
  refine go_putP (j := 38) d_M_init_255 (Nat.le_of_ble_eq_true rfl) rfl pc_M (Nat.le_of_ble_eq_true rfl) rfl w_740 rfl rfl rfl rfl (Nat.le_of_ble_eq_true rfl) ?_
  refine go_st (σ' := (101, pm_uP (pm_uP (pm_uP (pm_uP (pm_uP (pm_uP (pm_uP (pm_uP (pm_uP (pm_uP (pm_uP (pm_uP (pm_uP (pm_uP (pm_uP (pm_uP (pm_uP (pm_uP (pm_uP (pm_uP (pm_uP (pm_uP (pm_uP (pm_uP (pm_uP (pm_uP (pm_uP (pm_uP (pm_uP (pm_uP (pm_uP (P) 69 3 (some 70)) 69 4 (some 71)) 69 6 (some 72)) 69 7 (some 73)) 69 8 (some 74)) 69 9 (some 75)) 69 10 (some 76)) 69 12 (some 77)) 69 13 (some 78)) 69 15 (some 79)) 69 16 (some 80)) 69 19 (some 81)) 69 20 (some 82)) 69 21 (some 83)) 69 22 (some 84)) 69 23 (some 85)) 69 24 (some 86)) 69 25 (some 87)) 69 26 (some 88)) 69 27 (some 89)) 69 28 (some 90)) 69 29 (some 91)) 69 30 (some 92)) 69 31 (some 93)) 69 32 (some 94)) 69 33 (some 95)) 69 34 (some 96)) 69 35 (some 97)) 69 36 (some 98)) 69 37 (some 99)) 69 38 (some 100), I, J)) rfl ?_
  refine go_aload_n d_M_init_258 rfl ?_
  refine go_bipush (v := 120) d_M_init_259 (by decide) ?_
  refine go_newI (n := 120) d_M_init_261 rfl (by decide) (by decide) (by decide) w_103 (Nat.le_of_ble_eq_true rfl) (Nat.le_of_ble_eq_true rfl) (Nat.le_of_ble_eq_true rfl) (fun j => hI 101 (by decide) (by decide) j) rfl ?_
  refine go_st (σ' := (102, pm_uP (pm_uP (pm_uP (pm_uP (pm_uP (pm_uP (pm_uP (pm_uP (pm_uP (pm_uP (pm_uP (pm_uP (pm_uP (pm_uP (pm_uP (pm_uP (pm_uP (pm_uP (pm_uP (pm_uP (pm_uP (pm_uP (pm_uP (pm_uP (pm_uP (pm_uP (pm_uP (pm_uP (pm_uP (pm_uP (pm_uP (P) 69 3 (some 70)) 69 4 (some 71)) 69 6 (some 72)) 69 7 (some 73)) 69 8 (some 74)) 69 9 (some 75)) 69 10 (some 76)) 69 12 (some 77)) 69 13 (some 78)) 69 15 (some 79)) 69 16 (some 80)) 69 19 (some 81)) 69 20 (some 82)) 69 21 (some 83)) 69 22 (some 84)) 69 23 (some 85)) 69 24 (some 86)) 69 25 (some 87)) 69 26 (some 88)) 69 27 (some 89)) 69 28 (some 90)) 69 29 (some 91)) 69 30 (some 92)) 69 31 (some 93)) 69 32 (some 94)) 69 33 (some 95)) 69 34 (some 96)) 69 35 (some 97)) 69 36 (some 98)) 69 37 (some 99)) 69 38 (some 100), I, J)) rfl ?_
  refine go_putP (j := 41) d_M_init_263 (Nat.le_of_ble_eq_true rfl) rfl pc_M (Nat.le_of_ble_eq_true rfl) rfl w_743 rfl rfl rfl rfl (Nat.le_of_ble_eq_true rfl) ?_
  refine go_st (σ' := (102, pm_uP (pm_uP (pm_uP (pm_uP (pm_uP (pm_uP (pm_uP (pm_uP (pm_uP (pm_uP (pm_uP (pm_uP (pm_uP (pm_uP (pm_uP (pm_uP (pm_uP (pm_uP (pm_uP (pm_uP (pm_uP (pm_uP (pm_uP (pm_uP (pm_uP (pm_uP (pm_uP (pm_uP (pm_uP (pm_uP (pm_uP (pm_uP (P) 69 3 (some 70)) 69 4 (some 71)) 69 6 (some 72)) 69 7 (some 73)) 69 8 (some 74)) 69 9 (some 75)) 69 10 (some 76)) 69 12 (some 77)) 69 13 (some 78)) 69 15 (some 79)) 69 16 (some 80)) 69 19 (some 81)) 69 20 (some 82)) 69 21 (some 83)) 69 22 (some 84)) 69 23 (some 85)) 69 24 (some 86)) 69 25 (some 87)) 69 26 (some 88)) 69 27 (some 89)) 69 28 (some 90)) 69 29 (some 91)) 69 30 (some 92)) 69 31 (some 93)) 69 32 (some 94)) 69 33 (some 95)) 69 34 (some 96)) 69 35 (some 97)) 69 36 (some 98)) 69 37 (some 99)) 69 38 (some 100)) 69 41 (some 101), I, J)) rfl ?_
  refine go_aload_n d_M_init_266 rfl ?_
  refine go_bipush (v := 120) d_M_init_267 (by decide) ?_
  refine go_newI (n := 120) d_M_init_269 rfl (by decide) (by decide) (by decide) w_103 (Nat.le_of_ble_eq_true rfl) (Nat.le_of_ble_eq_true rfl) (Nat.le_of_ble_eq_true rfl) (fun j => hI 102 (by decide) (by decide) j) rfl ?_
  refine go_st (σ' := (103, pm_uP (pm_uP (pm_uP (pm_uP (pm_uP (pm_uP (pm_uP (pm_uP (pm_uP (pm_uP (pm_uP (pm_uP (pm_uP (pm_uP (pm_uP (pm_uP (pm_uP (pm_uP (pm_uP (pm_uP (pm_uP (pm_uP (pm_uP (pm_uP (pm_uP (pm_uP (pm_uP (pm_uP (pm_uP (pm_uP (pm_uP (pm_uP (P) 69 3 (some 70)) 69 4 (some 71)) 69 6 (some 72)) 69 7 (some 73)) 69 8 (some 74)) 69 9 (some 75)) 69 10 (some 76)) 69 12 (some 77)) 69 13 (some 78)) 69 15 (some 79)) 69 16 (some 80)) 69 19 (some 81)) 69 20 (some 82)) 69 21 (some 83)) 69 22 (some 84)) 69 23 (some 85)) 69 24 (some 86)) 69 25 (some 87)) 69 26 (some 88)) 69 27 (some 89)) 69 28 (some 90)) 69 29 (some 91)) 69 30 (some 92)) 69 31 (some 93)) 69 32 (some 94)) 69 33 (some 95)) 69 34 (some 96)) 69 35 (some 97)) 69 36 (some 98)) 69 37 (some 99)) 69 38 (some 100)) 69 41 (some 101), I, J)) rfl ?_
  refine go_putP (j := 42) d_M_init_271 (Nat.le_of_ble_eq_true rfl) rfl pc_M (Nat.le_of_ble_eq_true rfl) rfl w_744 rfl rfl rfl rfl (Nat.le_of_ble_eq_true rfl) ?_
  refine go_st (σ' := (103, pm_uP (pm_uP (pm_uP (pm_uP (pm_uP (pm_uP (pm_uP (pm_uP (pm_uP (pm_uP (pm_uP (pm_uP (pm_uP (pm_uP (pm_uP (pm_uP (pm_uP (pm_uP (pm_uP (pm_uP (pm_uP (pm_uP (pm_uP (pm_uP (pm_uP (pm_uP (pm_uP (pm_uP (pm_uP (pm_uP (pm_uP (pm_uP (pm_uP (P) 69 3 (some 70)) 69 4 (some 71)) 69 6 (some 72)) 69 7 (some 73)) 69 8 (some 74)) 69 9 (some 75)) 69 10 (some 76)) 69 12 (some 77)) 69 13 (some 78)) 69 15 (some 79)) 69 16 (some 80)) 69 19 (some 81)) 69 20 (some 82)) 69 21 (some 83)) 69 22 (some 84)) 69 23 (some 85)) 69 24 (some 86)) 69 25 (some 87)) 69 26 (some 88)) 69 27 (some 89)) 69 28 (some 90)) 69 29 (some 91)) 69 30 (some 92)) 69 31 (some 93)) 69 32 (some 94)) 69 33 (some 95)) 69 34 (some 96)) 69 35 (some 97)) 69 36 (some 98)) 69 37 (some 99)) 69 38 (some 100)) 69 41 (some 101)) 69 42 (some 102), I, J)) rfl ?_
  exact go_vreturn (st := []) d_M_init_274 rfl (Nat.le_of_ble_eq_true rfl) (Nat.le_of_ble_eq_true rfl) rfl
theorem nl_E_11 : pm_nl "ElasticNets" 11 ⟨"ElasticNets$Design", "<init>", "()V"⟩ := ⟨rfl, (wd_t 27 (by decide +kernel) (by decide +kernel)), w_2, rfl⟩
set_option maxRecDepth 20000 in
theorem sp_E_init (hI : ∀ c, 1 ≤ c → c < 1000 → ∀ j, I c j = 0) (hJ : ∀ c, 1 ≤ c → ∀ j, J c j = 0) (hP : ∀ c, 1 ≤ c → ∀ j, P c j = none) : pm_Go (d + 2) m_E_init 0 [some (.ref 0)] [] 0 0 (1, P, I, J) (.inl none, (69, PI_E3 (PI_A (PI_E2 (PI_C (PI_E1 (PI_P (PI_E0 (PI_D (P)))))))), pm_uI (II_A (II_C (II_P (II_D (I))))) 0 4 0, J)) := by
  refine go_aload_n d_E_init_0 rfl ?_
  refine go_objInit d_E_init_1 w_21 w_22 w_23 (Nat.le_of_ble_eq_true rfl) (by omega) ?_
  refine go_aload_n d_E_init_4 rfl ?_
  refine go_new d_E_init_5 rfl pc_D w_24 w_25 w_2 (Nat.le_of_ble_eq_true rfl) (Nat.le_of_ble_eq_true rfl) (Nat.le_of_ble_eq_true rfl) (fun j => hI 1 (by decide) (by decide) j) (fun j => hP 1 (by decide) j) rfl ?_
  refine go_st (σ' := (2, P, I, J)) rfl ?_
  refine go_dup d_E_init_8 rfl ?_
  refine go_callN (k2 := m_D_init) (As := []) (r := none) (σ2 := (33, PI_D (P), II_D (I), J)) d_E_init_9 ok_D_init nl_E_11 rfl rfl (Nat.le_of_ble_eq_true rfl) (Nat.le_of_ble_eq_true rfl) (Nat.le_of_ble_eq_true rfl) (Nat.le_of_ble_eq_true rfl) rfl rfl rfl (sp_D_init (d := d) (fun c h1 h2 j => hI c (by omega) h2 j)) ?_
  refine go_st (σ' := (33, PI_D (P), II_D (I), J)) rfl ?_
  refine go_putP (j := 0) d_E_init_12 (Nat.le_of_ble_eq_true rfl) rfl pc_E (Nat.le_of_ble_eq_true rfl) rfl w_239 rfl rfl rfl rfl (Nat.le_of_ble_eq_true rfl) ?_
  refine go_st (σ' := (33, PI_E0 (PI_D (P)), II_D (I), J)) rfl ?_
  refine go_aload_n d_E_init_15 rfl ?_
  refine go_new d_E_init_16 rfl pc_P w_104 w_105 w_3 (Nat.le_of_ble_eq_true rfl) (Nat.le_of_ble_eq_true rfl) (Nat.le_of_ble_eq_true rfl) (fun j => hI 33 (by decide) (by decide) j) (fun j => hP 33 (by decide) j) rfl ?_
  refine go_st (σ' := (34, PI_E0 (PI_D (P)), II_D (I), J)) rfl ?_
  refine go_dup d_E_init_19 rfl ?_
  refine go_aload_n d_E_init_20 rfl ?_
  refine go_getP (j := 0) (r := 1) d_E_init_21 (Nat.le_of_ble_eq_true rfl) rfl pc_E (Nat.le_of_ble_eq_true rfl) rfl w_239 rfl ?_
  refine go_callI (k2 := m_P_init) (As := [.ref 1]) (r := none) (σ2 := (54, PI_P (PI_E0 (PI_D (P))), II_P (II_D (I)), J)) d_E_init_24 ok_P_init il_E_18 rfl rfl (Nat.le_of_ble_eq_true rfl) (Nat.le_of_ble_eq_true rfl) (Nat.le_of_ble_eq_true rfl) (Nat.le_of_ble_eq_true rfl) rfl rfl rfl (sp_P_init (d := d) (fun c h1 h2 j => by simp only [II_D, uI_at]; (repeat rw [if_neg (by omega)]); exact hI c (by omega) h2 j) (fun c h1 j => hJ c (by omega) j)) ?_
  refine go_st (σ' := (54, PI_P (PI_E0 (PI_D (P))), II_P (II_D (I)), J)) rfl ?_
  refine go_putP (j := 1) d_E_init_27 (Nat.le_of_ble_eq_true rfl) rfl pc_E (Nat.le_of_ble_eq_true rfl) rfl w_240 rfl rfl rfl rfl (Nat.le_of_ble_eq_true rfl) ?_
  refine go_st (σ' := (54, PI_E1 (PI_P (PI_E0 (PI_D (P)))), II_P (II_D (I)), J)) rfl ?_
  refine go_aload_n d_E_init_30 rfl ?_
  refine go_new d_E_init_31 rfl pc_C w_168 w_169 w_4 (Nat.le_of_ble_eq_true rfl) (Nat.le_of_ble_eq_true rfl) (Nat.le_of_ble_eq_true rfl) (fun j => hI 54 (by decide) (by decide) j) (fun j => hP 54 (by decide) j) rfl ?_
  refine go_st (σ' := (55, PI_E1 (PI_P (PI_E0 (PI_D (P)))), II_P (II_D (I)), J)) rfl ?_
  refine go_dup d_E_init_34 rfl ?_
  refine go_aload_n d_E_init_35 rfl ?_
  refine go_getP (j := 0) (r := 1) d_E_init_36 (Nat.le_of_ble_eq_true rfl) rfl pc_E (Nat.le_of_ble_eq_true rfl) rfl w_239 rfl ?_
  refine go_aload_n d_E_init_39 rfl ?_
  refine go_getP (j := 1) (r := 33) d_E_init_40 (Nat.le_of_ble_eq_true rfl) rfl pc_E (Nat.le_of_ble_eq_true rfl) rfl w_240 rfl ?_
  refine go_getP (j := 12) (r := 43) d_E_init_43 (Nat.le_of_ble_eq_true rfl) rfl pc_P (Nat.le_of_ble_eq_true rfl) rfl w_130 rfl ?_
  refine go_callI (k2 := m_C_init) (As := [.ref 1, .ref 43]) (r := none) (σ2 := (62, PI_C (PI_E1 (PI_P (PI_E0 (PI_D (P))))), II_C (II_P (II_D (I))), J)) d_E_init_46 ok_C_init il_E_31 rfl rfl (Nat.le_of_ble_eq_true rfl) (Nat.le_of_ble_eq_true rfl) (Nat.le_of_ble_eq_true rfl) (Nat.le_of_ble_eq_true rfl) rfl rfl rfl (sp_C_init (d := d) (fun c h1 h2 j => by simp only [II_D, II_P, uI_at]; (repeat rw [if_neg (by omega)]); exact hI c (by omega) h2 j)) ?_
  refine go_st (σ' := (62, PI_C (PI_E1 (PI_P (PI_E0 (PI_D (P))))), II_C (II_P (II_D (I))), J)) rfl ?_
  refine go_putP (j := 2) d_E_init_49 (Nat.le_of_ble_eq_true rfl) rfl pc_E (Nat.le_of_ble_eq_true rfl) rfl w_241 rfl rfl rfl rfl (Nat.le_of_ble_eq_true rfl) ?_
  refine go_st (σ' := (62, PI_E2 (PI_C (PI_E1 (PI_P (PI_E0 (PI_D (P)))))), II_C (II_P (II_D (I))), J)) rfl ?_
  refine go_aload_n d_E_init_52 rfl ?_
  refine go_new d_E_init_53 rfl pc_A w_194 w_195 w_5 (Nat.le_of_ble_eq_true rfl) (Nat.le_of_ble_eq_true rfl) (Nat.le_of_ble_eq_true rfl) (fun j => hI 62 (by decide) (by decide) j) (fun j => hP 62 (by decide) j) rfl ?_
  refine go_st (σ' := (63, PI_E2 (PI_C (PI_E1 (PI_P (PI_E0 (PI_D (P)))))), II_C (II_P (II_D (I))), J)) rfl ?_
  refine go_dup d_E_init_56 rfl ?_
  refine go_aload_n d_E_init_57 rfl ?_
  refine go_getP (j := 0) (r := 1) d_E_init_58 (Nat.le_of_ble_eq_true rfl) rfl pc_E (Nat.le_of_ble_eq_true rfl) rfl w_239 rfl ?_
  refine go_callI (k2 := m_A_init) (As := [.ref 1]) (r := none) (σ2 := (69, PI_A (PI_E2 (PI_C (PI_E1 (PI_P (PI_E0 (PI_D (P))))))), II_A (II_C (II_P (II_D (I)))), J)) d_E_init_61 ok_A_init il_E_40 rfl rfl (Nat.le_of_ble_eq_true rfl) (Nat.le_of_ble_eq_true rfl) (Nat.le_of_ble_eq_true rfl) (Nat.le_of_ble_eq_true rfl) rfl rfl rfl (sp_A_init (d := d) (fun c h1 h2 j => by simp only [II_D, II_P, II_C, uI_at]; (repeat rw [if_neg (by omega)]); exact hI c (by omega) h2 j)) ?_
  refine go_st (σ' := (69, PI_A (PI_E2 (PI_C (PI_E1 (PI_P (PI_E0 (PI_D (P))))))), II_A (II_C (II_P (II_D (I)))), J)) rfl ?_
  refine go_putP (j := 3) d_E_init_64 (Nat.le_of_ble_eq_true rfl) rfl pc_E (Nat.le_of_ble_eq_true rfl) rfl w_242 rfl rfl rfl rfl (Nat.le_of_ble_eq_true rfl) ?_
  refine go_st (σ' := (69, PI_E3 (PI_A (PI_E2 (PI_C (PI_E1 (PI_P (PI_E0 (PI_D (P)))))))), II_A (II_C (II_P (II_D (I)))), J)) rfl ?_
  refine go_aload_n d_E_init_67 rfl ?_
  refine go_iconst (v := 0) d_E_init_68 (by decide) ?_
  refine go_putI (j := 4) d_E_init_69 (Nat.le_of_ble_eq_true rfl) rfl pc_E (Nat.le_of_ble_eq_true rfl) (by decide) w_243 rfl (Or.inr ⟨rfl, Or.inl rfl⟩) ?_
  refine go_st (σ' := (69, PI_E3 (PI_A (PI_E2 (PI_C (PI_E1 (PI_P (PI_E0 (PI_D (P)))))))), pm_uI (II_A (II_C (II_P (II_D (I))))) 0 4 0, J)) rfl ?_
  exact go_vreturn (st := []) d_E_init_72 rfl (Nat.le_of_ble_eq_true rfl) (Nat.le_of_ble_eq_true rfl) rfl
end S6
