theorem so_iconst (l : Launch) (D : va_G) (G : pm_G) : pm_r_iconst (pm_sound l D G) := by
  intro d k pc ls st cu su σ out n v hd h1 ih p e R s m args below meth c H locs A ad real Qc XC free hC hX hL hP hD hS hwf hf hE
  have ih := ih p e R s m args below meth c H locs A ad real Qc XC free hC hX hL hP hD hS hwf hf hE
  obtain ⟨hx, hb, hr, hml, hown, hts, hlocks, hex, hA, hR, hin, hV, hlt⟩ := id hC
  exact lv_iconst hx hb hd h1 ih
theorem so_bipush (l : Launch) (D : va_G) (G : pm_G) : pm_r_bipush (pm_sound l D G) := by
  intro d k pc ls st cu su σ out n v hd h1 ih p e R s m args below meth c H locs A ad real Qc XC free hC hX hL hP hD hS hwf hf hE
  have ih := ih p e R s m args below meth c H locs A ad real Qc XC free hC hX hL hP hD hS hwf hf hE
  obtain ⟨hx, hb, hr, hml, hown, hts, hlocks, hex, hA, hR, hin, hV, hlt⟩ := id hC
  exact lv_bipush hx hb hd h1 ih
theorem so_sipush (l : Launch) (D : va_G) (G : pm_G) : pm_r_sipush (pm_sound l D G) := by
  intro d k pc ls st cu su σ out n v hd h1 ih p e R s m args below meth c H locs A ad real Qc XC free hC hX hL hP hD hS hwf hf hE
  have ih := ih p e R s m args below meth c H locs A ad real Qc XC free hC hX hL hP hD hS hwf hf hE
  obtain ⟨hx, hb, hr, hml, hown, hts, hlocks, hex, hA, hR, hin, hV, hlt⟩ := id hC
  exact lv_sipush hx hb hd h1 ih
theorem so_lconst (l : Launch) (D : va_G) (G : pm_G) : pm_r_lconst (pm_sound l D G) := by
  intro d k pc ls st cu su σ out n v hd h1 ih p e R s m args below meth c H locs A ad real Qc XC free hC hX hL hP hD hS hwf hf hE
  have ih := ih p e R s m args below meth c H locs A ad real Qc XC free hC hX hL hP hD hS hwf hf hE
  obtain ⟨hx, hb, hr, hml, hown, hts, hlocks, hex, hA, hR, hin, hV, hlt⟩ := id hC
  exact lv_lconst hx hb hd h1 ih
theorem so_ldc (l : Launch) (D : va_G) (G : pm_G) : pm_r_ldc (pm_sound l D G) := by
  intro d k pc ls st cu su σ out idx v hd h1 ih p e R s m args below meth c H locs A ad real Qc XC free hC hX hL hP hD hS hwf hf hE
  have ih := ih p e R s m args below meth c H locs A ad real Qc XC free hC hX hL hP hD hS hwf hf hE
  obtain ⟨hx, hb, hr, hml, hown, hts, hlocks, hex, hA, hR, hin, hV, hlt⟩ := id hC
  exact lv_ldc hx hb hown (hts _ h1) hd ih
theorem so_ldc2 (l : Launch) (D : va_G) (G : pm_G) : pm_r_ldc2 (pm_sound l D G) := by
  intro d k pc ls st cu su σ out idx v hd h1 ih p e R s m args below meth c H locs A ad real Qc XC free hC hX hL hP hD hS hwf hf hE
  have ih := ih p e R s m args below meth c H locs A ad real Qc XC free hC hX hL hP hD hS hwf hf hE
  obtain ⟨hx, hb, hr, hml, hown, hts, hlocks, hex, hA, hR, hin, hV, hlt⟩ := id hC
  exact lv_ldc2 hx hb hown (hts _ h1) hd ih
theorem so_iload (l : Launch) (D : va_G) (G : pm_G) : pm_r_iload (pm_sound l D G) := by
  intro d k pc ls st cu su σ out i x hd h1 ih p e R s m args below meth c H locs A ad real Qc XC free hC hX hL hP hD hS hwf hf hE
  have ih := ih p e R s m args below meth c H locs A ad real Qc XC free hC hX hL hP hD hS hwf hf hE
  obtain ⟨hx, hb, hr, hml, hown, hts, hlocks, hex, hA, hR, hin, hV, hlt⟩ := id hC
  exact lv_iload hx hb hd (pm_at hL h1) ih
theorem so_iload_n (l : Launch) (D : va_G) (G : pm_G) : pm_r_iload_n (pm_sound l D G) := by
  intro d k pc ls st cu su σ out i x hd h1 ih p e R s m args below meth c H locs A ad real Qc XC free hC hX hL hP hD hS hwf hf hE
  have ih := ih p e R s m args below meth c H locs A ad real Qc XC free hC hX hL hP hD hS hwf hf hE
  obtain ⟨hx, hb, hr, hml, hown, hts, hlocks, hex, hA, hR, hin, hV, hlt⟩ := id hC
  exact lv_iload_n hx hb hd rfl (pm_at hL h1) ih
theorem so_lload (l : Launch) (D : va_G) (G : pm_G) : pm_r_lload (pm_sound l D G) := by
  intro d k pc ls st cu su σ out i x hd h1 ih p e R s m args below meth c H locs A ad real Qc XC free hC hX hL hP hD hS hwf hf hE
  have ih := ih p e R s m args below meth c H locs A ad real Qc XC free hC hX hL hP hD hS hwf hf hE
  obtain ⟨hx, hb, hr, hml, hown, hts, hlocks, hex, hA, hR, hin, hV, hlt⟩ := id hC
  exact lv_lload hx hb hd (pm_at hL h1) ih
theorem so_lload_n (l : Launch) (D : va_G) (G : pm_G) : pm_r_lload_n (pm_sound l D G) := by
  intro d k pc ls st cu su σ out i x hd h1 ih p e R s m args below meth c H locs A ad real Qc XC free hC hX hL hP hD hS hwf hf hE
  have ih := ih p e R s m args below meth c H locs A ad real Qc XC free hC hX hL hP hD hS hwf hf hE
  obtain ⟨hx, hb, hr, hml, hown, hts, hlocks, hex, hA, hR, hin, hV, hlt⟩ := id hC
  exact lv_lload_n hx hb hd rfl (pm_at hL h1) ih
theorem so_aload (l : Launch) (D : va_G) (G : pm_G) : pm_r_aload (pm_sound l D G) := by
  intro d k pc ls st cu su σ out i x hd h1 ih p e R s m args below meth c H locs A ad real Qc XC free hC hX hL hP hD hS hwf hf hE
  have ih := ih p e R s m args below meth c H locs A ad real Qc XC free hC hX hL hP hD hS hwf hf hE
  obtain ⟨hx, hb, hr, hml, hown, hts, hlocks, hex, hA, hR, hin, hV, hlt⟩ := id hC
  exact lv_aload hx hb hd (pm_at hL h1) ih
theorem so_aload_n (l : Launch) (D : va_G) (G : pm_G) : pm_r_aload_n (pm_sound l D G) := by
  intro d k pc ls st cu su σ out i x hd h1 ih p e R s m args below meth c H locs A ad real Qc XC free hC hX hL hP hD hS hwf hf hE
  have ih := ih p e R s m args below meth c H locs A ad real Qc XC free hC hX hL hP hD hS hwf hf hE
  obtain ⟨hx, hb, hr, hml, hown, hts, hlocks, hex, hA, hR, hin, hV, hlt⟩ := id hC
  exact lv_aload_n hx hb hd rfl (pm_at hL h1) ih
theorem so_iadd (l : Launch) (D : va_G) (G : pm_G) : pm_r_iadd (pm_sound l D G) := by
  intro d k pc ls st cu su σ out x y hd ih p e R s m args below meth c H locs A ad real Qc XC free hC hX hL hP hD hS hwf hf hE
  have ih := ih p e R s m args below meth c H locs A ad real Qc XC free hC hX hL hP hD hS hwf hf hE
  obtain ⟨hx, hb, hr, hml, hown, hts, hlocks, hex, hA, hR, hin, hV, hlt⟩ := id hC
  exact lv_iadd hx hb hd ih
theorem so_isub (l : Launch) (D : va_G) (G : pm_G) : pm_r_isub (pm_sound l D G) := by
  intro d k pc ls st cu su σ out x y hd ih p e R s m args below meth c H locs A ad real Qc XC free hC hX hL hP hD hS hwf hf hE
  have ih := ih p e R s m args below meth c H locs A ad real Qc XC free hC hX hL hP hD hS hwf hf hE
  obtain ⟨hx, hb, hr, hml, hown, hts, hlocks, hex, hA, hR, hin, hV, hlt⟩ := id hC
  exact lv_isub hx hb hd ih
theorem so_imul (l : Launch) (D : va_G) (G : pm_G) : pm_r_imul (pm_sound l D G) := by
  intro d k pc ls st cu su σ out x y hd ih p e R s m args below meth c H locs A ad real Qc XC free hC hX hL hP hD hS hwf hf hE
  have ih := ih p e R s m args below meth c H locs A ad real Qc XC free hC hX hL hP hD hS hwf hf hE
  obtain ⟨hx, hb, hr, hml, hown, hts, hlocks, hex, hA, hR, hin, hV, hlt⟩ := id hC
  exact lv_imul hx hb hd ih
theorem so_iand (l : Launch) (D : va_G) (G : pm_G) : pm_r_iand (pm_sound l D G) := by
  intro d k pc ls st cu su σ out x y hd ih p e R s m args below meth c H locs A ad real Qc XC free hC hX hL hP hD hS hwf hf hE
  have ih := ih p e R s m args below meth c H locs A ad real Qc XC free hC hX hL hP hD hS hwf hf hE
  obtain ⟨hx, hb, hr, hml, hown, hts, hlocks, hex, hA, hR, hin, hV, hlt⟩ := id hC
  exact lv_iand hx hb hd ih
theorem so_ior (l : Launch) (D : va_G) (G : pm_G) : pm_r_ior (pm_sound l D G) := by
  intro d k pc ls st cu su σ out x y hd ih p e R s m args below meth c H locs A ad real Qc XC free hC hX hL hP hD hS hwf hf hE
  have ih := ih p e R s m args below meth c H locs A ad real Qc XC free hC hX hL hP hD hS hwf hf hE
  obtain ⟨hx, hb, hr, hml, hown, hts, hlocks, hex, hA, hR, hin, hV, hlt⟩ := id hC
  exact lv_ior hx hb hd ih
theorem so_ixor (l : Launch) (D : va_G) (G : pm_G) : pm_r_ixor (pm_sound l D G) := by
  intro d k pc ls st cu su σ out x y hd ih p e R s m args below meth c H locs A ad real Qc XC free hC hX hL hP hD hS hwf hf hE
  have ih := ih p e R s m args below meth c H locs A ad real Qc XC free hC hX hL hP hD hS hwf hf hE
  obtain ⟨hx, hb, hr, hml, hown, hts, hlocks, hex, hA, hR, hin, hV, hlt⟩ := id hC
  exact lv_ixor hx hb hd ih
theorem so_ishl (l : Launch) (D : va_G) (G : pm_G) : pm_r_ishl (pm_sound l D G) := by
  intro d k pc ls st cu su σ out x y hd ih p e R s m args below meth c H locs A ad real Qc XC free hC hX hL hP hD hS hwf hf hE
  have ih := ih p e R s m args below meth c H locs A ad real Qc XC free hC hX hL hP hD hS hwf hf hE
  obtain ⟨hx, hb, hr, hml, hown, hts, hlocks, hex, hA, hR, hin, hV, hlt⟩ := id hC
  exact lv_ishl hx hb hd ih
theorem so_ishr (l : Launch) (D : va_G) (G : pm_G) : pm_r_ishr (pm_sound l D G) := by
  intro d k pc ls st cu su σ out x y hd ih p e R s m args below meth c H locs A ad real Qc XC free hC hX hL hP hD hS hwf hf hE
  have ih := ih p e R s m args below meth c H locs A ad real Qc XC free hC hX hL hP hD hS hwf hf hE
  obtain ⟨hx, hb, hr, hml, hown, hts, hlocks, hex, hA, hR, hin, hV, hlt⟩ := id hC
  exact lv_ishr hx hb hd ih
theorem so_idiv (l : Launch) (D : va_G) (G : pm_G) : pm_r_idiv (pm_sound l D G) := by
  intro d k pc ls st cu su σ out x y hd h1 ih p e R s m args below meth c H locs A ad real Qc XC free hC hX hL hP hD hS hwf hf hE
  have ih := ih p e R s m args below meth c H locs A ad real Qc XC free hC hX hL hP hD hS hwf hf hE
  obtain ⟨hx, hb, hr, hml, hown, hts, hlocks, hex, hA, hR, hin, hV, hlt⟩ := id hC
  exact lv_idiv hx hb hd h1 ih
theorem so_irem (l : Launch) (D : va_G) (G : pm_G) : pm_r_irem (pm_sound l D G) := by
  intro d k pc ls st cu su σ out x y hd h1 ih p e R s m args below meth c H locs A ad real Qc XC free hC hX hL hP hD hS hwf hf hE
  have ih := ih p e R s m args below meth c H locs A ad real Qc XC free hC hX hL hP hD hS hwf hf hE
  obtain ⟨hx, hb, hr, hml, hown, hts, hlocks, hex, hA, hR, hin, hV, hlt⟩ := id hC
  exact lv_irem hx hb hd h1 ih
theorem so_land (l : Launch) (D : va_G) (G : pm_G) : pm_r_land (pm_sound l D G) := by
  intro d k pc ls st cu su σ out x y hd ih p e R s m args below meth c H locs A ad real Qc XC free hC hX hL hP hD hS hwf hf hE
  have ih := ih p e R s m args below meth c H locs A ad real Qc XC free hC hX hL hP hD hS hwf hf hE
  obtain ⟨hx, hb, hr, hml, hown, hts, hlocks, hex, hA, hR, hin, hV, hlt⟩ := id hC
  exact lv_land hx hb hd ih
theorem so_lor (l : Launch) (D : va_G) (G : pm_G) : pm_r_lor (pm_sound l D G) := by
  intro d k pc ls st cu su σ out x y hd ih p e R s m args below meth c H locs A ad real Qc XC free hC hX hL hP hD hS hwf hf hE
  have ih := ih p e R s m args below meth c H locs A ad real Qc XC free hC hX hL hP hD hS hwf hf hE
  obtain ⟨hx, hb, hr, hml, hown, hts, hlocks, hex, hA, hR, hin, hV, hlt⟩ := id hC
  exact lv_lor hx hb hd ih
theorem so_lshl (l : Launch) (D : va_G) (G : pm_G) : pm_r_lshl (pm_sound l D G) := by
  intro d k pc ls st cu su σ out x y hd ih p e R s m args below meth c H locs A ad real Qc XC free hC hX hL hP hD hS hwf hf hE
  have ih := ih p e R s m args below meth c H locs A ad real Qc XC free hC hX hL hP hD hS hwf hf hE
  obtain ⟨hx, hb, hr, hml, hown, hts, hlocks, hex, hA, hR, hin, hV, hlt⟩ := id hC
  exact lv_lshl hx hb hd rfl ih
theorem so_i2l (l : Launch) (D : va_G) (G : pm_G) : pm_r_i2l (pm_sound l D G) := by
  intro d k pc ls st cu su σ out x hd ih p e R s m args below meth c H locs A ad real Qc XC free hC hX hL hP hD hS hwf hf hE
  have ih := ih p e R s m args below meth c H locs A ad real Qc XC free hC hX hL hP hD hS hwf hf hE
  obtain ⟨hx, hb, hr, hml, hown, hts, hlocks, hex, hA, hR, hin, hV, hlt⟩ := id hC
  exact lv_i2l hx hb hd rfl ih
theorem so_lcmp (l : Launch) (D : va_G) (G : pm_G) : pm_r_lcmp (pm_sound l D G) := by
  intro d k pc ls st cu su σ out x y hd ih p e R s m args below meth c H locs A ad real Qc XC free hC hX hL hP hD hS hwf hf hE
  have ih := ih p e R s m args below meth c H locs A ad real Qc XC free hC hX hL hP hD hS hwf hf hE
  obtain ⟨hx, hb, hr, hml, hown, hts, hlocks, hex, hA, hR, hin, hV, hlt⟩ := id hC
  exact W.lcmp hx hb hd ih
theorem so_dup (l : Launch) (D : va_G) (G : pm_G) : pm_r_dup (pm_sound l D G) := by
  intro d k pc ls st cu su σ out va hd h1 ih p e R s m args below meth c H locs A ad real Qc XC free hC hX hL hP hD hS hwf hf hE
  have ih := ih p e R s m args below meth c H locs A ad real Qc XC free hC hX hL hP hD hS hwf hf hE
  obtain ⟨hx, hb, hr, hml, hown, hts, hlocks, hex, hA, hR, hin, hV, hlt⟩ := id hC
  exact lv_dup hx hb hd ((pm_cat ad va).trans h1) ih
theorem so_pop (l : Launch) (D : va_G) (G : pm_G) : pm_r_pop (pm_sound l D G) := by
  intro d k pc ls st cu su σ out va hd h1 ih p e R s m args below meth c H locs A ad real Qc XC free hC hX hL hP hD hS hwf hf hE
  have ih := ih p e R s m args below meth c H locs A ad real Qc XC free hC hX hL hP hD hS hwf hf hE
  obtain ⟨hx, hb, hr, hml, hown, hts, hlocks, hex, hA, hR, hin, hV, hlt⟩ := id hC
  exact lv_pop hx hb hd ((pm_cat ad va).trans h1) ih
theorem so_dup_x1 (l : Launch) (D : va_G) (G : pm_G) : pm_r_dup_x1 (pm_sound l D G) := by
  intro d k pc ls st cu su σ out va vb hd h1 h2 ih p e R s m args below meth c H locs A ad real Qc XC free hC hX hL hP hD hS hwf hf hE
  have ih := ih p e R s m args below meth c H locs A ad real Qc XC free hC hX hL hP hD hS hwf hf hE
  obtain ⟨hx, hb, hr, hml, hown, hts, hlocks, hex, hA, hR, hin, hV, hlt⟩ := id hC
  exact lv_dup_x1 hx hb hd ((pm_cat ad va).trans h1) ((pm_cat ad vb).trans h2) ih
theorem so_dup_x2 (l : Launch) (D : va_G) (G : pm_G) : pm_r_dup_x2 (pm_sound l D G) := by
  intro d k pc ls st cu su σ out va vb vd hd h1 h2 h3 ih p e R s m args below meth c H locs A ad real Qc XC free hC hX hL hP hD hS hwf hf hE
  have ih := ih p e R s m args below meth c H locs A ad real Qc XC free hC hX hL hP hD hS hwf hf hE
  obtain ⟨hx, hb, hr, hml, hown, hts, hlocks, hex, hA, hR, hin, hV, hlt⟩ := id hC
  exact lv_dup_x2 hx hb hd ((pm_cat ad va).trans h1) ((pm_cat ad vb).trans h2) ((pm_cat ad vd).trans h3) ih
theorem so_dup2 (l : Launch) (D : va_G) (G : pm_G) : pm_r_dup2 (pm_sound l D G) := by
  intro d k pc ls st cu su σ out va vb hd h1 h2 ih p e R s m args below meth c H locs A ad real Qc XC free hC hX hL hP hD hS hwf hf hE
  have ih := ih p e R s m args below meth c H locs A ad real Qc XC free hC hX hL hP hD hS hwf hf hE
  obtain ⟨hx, hb, hr, hml, hown, hts, hlocks, hex, hA, hR, hin, hV, hlt⟩ := id hC
  exact lv_dup2_11 hx hb hd ((pm_cat ad va).trans h1) ((pm_cat ad vb).trans h2) ih
theorem so_goto (l : Launch) (D : va_G) (G : pm_G) : pm_r_goto (pm_sound l D G) := by
  intro d k pc ls st cu su σ out off tgt hd h1 ih p e R s m args below meth c H locs A ad real Qc XC free hC hX hL hP hD hS hwf hf hE
  have ih := ih p e R s m args below meth c H locs A ad real Qc XC free hC hX hL hP hD hS hwf hf hE
  obtain ⟨hx, hb, hr, hml, hown, hts, hlocks, hex, hA, hR, hin, hV, hlt⟩ := id hC
  exact lv_goto hx hb hd h1 ih
theorem so_if_eq (l : Launch) (D : va_G) (G : pm_G) : pm_r_if_eq (pm_sound l D G) := by
  intro d k pc ls st cu su σ out x off tgt hd h1 ih ih2 p e R s m args below meth c H locs A ad real Qc XC free hC hX hL hP hD hS hwf hf hE
  obtain ⟨hx, hb, hr, hml, hown, hts, hlocks, hex, hA, hR, hin, hV, hlt⟩ := id hC
  exact lv_if_eq hx hb hd h1 (fun z => ih z p e R s m args below meth c H locs A ad real Qc XC free hC hX hL hP hD hS hwf hf hE) (fun z => ih2 z p e R s m args below meth c H locs A ad real Qc XC free hC hX hL hP hD hS hwf hf hE)
theorem so_if_ne (l : Launch) (D : va_G) (G : pm_G) : pm_r_if_ne (pm_sound l D G) := by
  intro d k pc ls st cu su σ out x off tgt hd h1 ih ih2 p e R s m args below meth c H locs A ad real Qc XC free hC hX hL hP hD hS hwf hf hE
  obtain ⟨hx, hb, hr, hml, hown, hts, hlocks, hex, hA, hR, hin, hV, hlt⟩ := id hC
  exact lv_if_ne hx hb hd h1 (fun z => ih z p e R s m args below meth c H locs A ad real Qc XC free hC hX hL hP hD hS hwf hf hE) (fun z => ih2 z p e R s m args below meth c H locs A ad real Qc XC free hC hX hL hP hD hS hwf hf hE)
theorem so_if_lt (l : Launch) (D : va_G) (G : pm_G) : pm_r_if_lt (pm_sound l D G) := by
  intro d k pc ls st cu su σ out x off tgt hd h1 ih ih2 p e R s m args below meth c H locs A ad real Qc XC free hC hX hL hP hD hS hwf hf hE
  obtain ⟨hx, hb, hr, hml, hown, hts, hlocks, hex, hA, hR, hin, hV, hlt⟩ := id hC
  exact lv_if_lt hx hb hd h1 (fun z => ih z p e R s m args below meth c H locs A ad real Qc XC free hC hX hL hP hD hS hwf hf hE) (fun z => ih2 z p e R s m args below meth c H locs A ad real Qc XC free hC hX hL hP hD hS hwf hf hE)
theorem so_if_ge (l : Launch) (D : va_G) (G : pm_G) : pm_r_if_ge (pm_sound l D G) := by
  intro d k pc ls st cu su σ out x off tgt hd h1 ih ih2 p e R s m args below meth c H locs A ad real Qc XC free hC hX hL hP hD hS hwf hf hE
  obtain ⟨hx, hb, hr, hml, hown, hts, hlocks, hex, hA, hR, hin, hV, hlt⟩ := id hC
  exact lv_if_ge hx hb hd h1 (fun z => ih z p e R s m args below meth c H locs A ad real Qc XC free hC hX hL hP hD hS hwf hf hE) (fun z => ih2 z p e R s m args below meth c H locs A ad real Qc XC free hC hX hL hP hD hS hwf hf hE)
theorem so_if_gt (l : Launch) (D : va_G) (G : pm_G) : pm_r_if_gt (pm_sound l D G) := by
  intro d k pc ls st cu su σ out x off tgt hd h1 ih ih2 p e R s m args below meth c H locs A ad real Qc XC free hC hX hL hP hD hS hwf hf hE
  obtain ⟨hx, hb, hr, hml, hown, hts, hlocks, hex, hA, hR, hin, hV, hlt⟩ := id hC
  exact lv_if_gt hx hb hd h1 (fun z => ih z p e R s m args below meth c H locs A ad real Qc XC free hC hX hL hP hD hS hwf hf hE) (fun z => ih2 z p e R s m args below meth c H locs A ad real Qc XC free hC hX hL hP hD hS hwf hf hE)
theorem so_if_le (l : Launch) (D : va_G) (G : pm_G) : pm_r_if_le (pm_sound l D G) := by
  intro d k pc ls st cu su σ out x off tgt hd h1 ih ih2 p e R s m args below meth c H locs A ad real Qc XC free hC hX hL hP hD hS hwf hf hE
  obtain ⟨hx, hb, hr, hml, hown, hts, hlocks, hex, hA, hR, hin, hV, hlt⟩ := id hC
  exact lv_if_le hx hb hd h1 (fun z => ih z p e R s m args below meth c H locs A ad real Qc XC free hC hX hL hP hD hS hwf hf hE) (fun z => ih2 z p e R s m args below meth c H locs A ad real Qc XC free hC hX hL hP hD hS hwf hf hE)
theorem so_icmp_eq (l : Launch) (D : va_G) (G : pm_G) : pm_r_icmp_eq (pm_sound l D G) := by
  intro d k pc ls st cu su σ out x y off tgt hd h1 ih ih2 p e R s m args below meth c H locs A ad real Qc XC free hC hX hL hP hD hS hwf hf hE
  obtain ⟨hx, hb, hr, hml, hown, hts, hlocks, hex, hA, hR, hin, hV, hlt⟩ := id hC
  exact lv_icmp_eq hx hb hd h1 (fun z => ih z p e R s m args below meth c H locs A ad real Qc XC free hC hX hL hP hD hS hwf hf hE) (fun z => ih2 z p e R s m args below meth c H locs A ad real Qc XC free hC hX hL hP hD hS hwf hf hE)
theorem so_icmp_ne (l : Launch) (D : va_G) (G : pm_G) : pm_r_icmp_ne (pm_sound l D G) := by
  intro d k pc ls st cu su σ out x y off tgt hd h1 ih ih2 p e R s m args below meth c H locs A ad real Qc XC free hC hX hL hP hD hS hwf hf hE
  obtain ⟨hx, hb, hr, hml, hown, hts, hlocks, hex, hA, hR, hin, hV, hlt⟩ := id hC
  exact lv_icmp_ne hx hb hd h1 (fun z => ih z p e R s m args below meth c H locs A ad real Qc XC free hC hX hL hP hD hS hwf hf hE) (fun z => ih2 z p e R s m args below meth c H locs A ad real Qc XC free hC hX hL hP hD hS hwf hf hE)
theorem so_icmp_lt (l : Launch) (D : va_G) (G : pm_G) : pm_r_icmp_lt (pm_sound l D G) := by
  intro d k pc ls st cu su σ out x y off tgt hd h1 ih ih2 p e R s m args below meth c H locs A ad real Qc XC free hC hX hL hP hD hS hwf hf hE
  obtain ⟨hx, hb, hr, hml, hown, hts, hlocks, hex, hA, hR, hin, hV, hlt⟩ := id hC
  exact lv_icmp_lt hx hb hd h1 (fun z => ih z p e R s m args below meth c H locs A ad real Qc XC free hC hX hL hP hD hS hwf hf hE) (fun z => ih2 z p e R s m args below meth c H locs A ad real Qc XC free hC hX hL hP hD hS hwf hf hE)
theorem so_icmp_ge (l : Launch) (D : va_G) (G : pm_G) : pm_r_icmp_ge (pm_sound l D G) := by
  intro d k pc ls st cu su σ out x y off tgt hd h1 ih ih2 p e R s m args below meth c H locs A ad real Qc XC free hC hX hL hP hD hS hwf hf hE
  obtain ⟨hx, hb, hr, hml, hown, hts, hlocks, hex, hA, hR, hin, hV, hlt⟩ := id hC
  exact lv_icmp_ge hx hb hd h1 (fun z => ih z p e R s m args below meth c H locs A ad real Qc XC free hC hX hL hP hD hS hwf hf hE) (fun z => ih2 z p e R s m args below meth c H locs A ad real Qc XC free hC hX hL hP hD hS hwf hf hE)
theorem so_icmp_gt (l : Launch) (D : va_G) (G : pm_G) : pm_r_icmp_gt (pm_sound l D G) := by
  intro d k pc ls st cu su σ out x y off tgt hd h1 ih ih2 p e R s m args below meth c H locs A ad real Qc XC free hC hX hL hP hD hS hwf hf hE
  obtain ⟨hx, hb, hr, hml, hown, hts, hlocks, hex, hA, hR, hin, hV, hlt⟩ := id hC
  exact lv_icmp_gt hx hb hd h1 (fun z => ih z p e R s m args below meth c H locs A ad real Qc XC free hC hX hL hP hD hS hwf hf hE) (fun z => ih2 z p e R s m args below meth c H locs A ad real Qc XC free hC hX hL hP hD hS hwf hf hE)
theorem so_icmp_le (l : Launch) (D : va_G) (G : pm_G) : pm_r_icmp_le (pm_sound l D G) := by
  intro d k pc ls st cu su σ out x y off tgt hd h1 ih ih2 p e R s m args below meth c H locs A ad real Qc XC free hC hX hL hP hD hS hwf hf hE
  obtain ⟨hx, hb, hr, hml, hown, hts, hlocks, hex, hA, hR, hin, hV, hlt⟩ := id hC
  exact lv_icmp_le hx hb hd h1 (fun z => ih z p e R s m args below meth c H locs A ad real Qc XC free hC hX hL hP hD hS hwf hf hE) (fun z => ih2 z p e R s m args below meth c H locs A ad real Qc XC free hC hX hL hP hD hS hwf hf hE)
theorem so_tableIn (l : Launch) (D : va_G) (G : pm_G) : pm_r_tableIn (pm_sound l D G) := by
  intro d k pc ls st cu su σ out dflt lo hi offs len x off tgt hd h1 h2 h3 h4 ih p e R s m args below meth c H locs A ad real Qc XC free hC hX hL hP hD hS hwf hf hE
  have ih := ih p e R s m args below meth c H locs A ad real Qc XC free hC hX hL hP hD hS hwf hf hE
  obtain ⟨hx, hb, hr, hml, hown, hts, hlocks, hex, hA, hR, hin, hV, hlt⟩ := id hC
  exact lv_tableIn hx hb hd h1 h2 h3 h4 ih
theorem so_tableOut (l : Launch) (D : va_G) (G : pm_G) : pm_r_tableOut (pm_sound l D G) := by
  intro d k pc ls st cu su σ out dflt lo hi offs len x tgt hd h1 h2 ih p e R s m args below meth c H locs A ad real Qc XC free hC hX hL hP hD hS hwf hf hE
  have ih := ih p e R s m args below meth c H locs A ad real Qc XC free hC hX hL hP hD hS hwf hf hE
  obtain ⟨hx, hb, hr, hml, hown, hts, hlocks, hex, hA, hR, hin, hV, hlt⟩ := id hC
  exact lv_tableOut hx hb hd h1 h2 ih
theorem so_istore (l : Launch) (D : va_G) (G : pm_G) : pm_r_istore (pm_sound l D G) := by
  intro d k pc ls st cu su σ out i x hd h1 h2 ih p e R s m args below meth c H locs A ad real Qc XC free hC hX hL hP hD hS hwf hf hE
  obtain ⟨hx, hb, hr, hml, hown, hts, hlocks, hex, hA, hR, hin, hV, hlt⟩ := id hC
  refine lv_istore hx hb hd hL.2 (by rw [← hL.1]; exact h1) rfl (fun real' h' => ?_)
  exact ih p e R s m args below meth c H locs A ad real' Qc XC free hC hX (pm_store1 (v := .int x) hL h2 h') hP hD hS hwf hf hE
theorem so_istore_n (l : Launch) (D : va_G) (G : pm_G) : pm_r_istore_n (pm_sound l D G) := by
  intro d k pc ls st cu su σ out i x hd h1 h2 ih p e R s m args below meth c H locs A ad real Qc XC free hC hX hL hP hD hS hwf hf hE
  obtain ⟨hx, hb, hr, hml, hown, hts, hlocks, hex, hA, hR, hin, hV, hlt⟩ := id hC
  refine lv_istore_n hx hb hd rfl hL.2 (by rw [← hL.1]; exact h1) rfl (fun real' h' => ?_)
  exact ih p e R s m args below meth c H locs A ad real' Qc XC free hC hX (pm_store1 (v := .int x) hL h2 h') hP hD hS hwf hf hE
theorem so_astore (l : Launch) (D : va_G) (G : pm_G) : pm_r_astore (pm_sound l D G) := by
  intro d k pc ls st cu su σ out i x hd h1 h2 ih p e R s m args below meth c H locs A ad real Qc XC free hC hX hL hP hD hS hwf hf hE
  obtain ⟨hx, hb, hr, hml, hown, hts, hlocks, hex, hA, hR, hin, hV, hlt⟩ := id hC
  refine lv_astore hx hb hd hL.2 (by rw [← hL.1]; exact h1) rfl (fun real' h' => ?_)
  exact ih p e R s m args below meth c H locs A ad real' Qc XC free hC hX (pm_store1 (v := .ref x) hL h2 h') hP hD hS hwf hf hE
theorem so_astore_n (l : Launch) (D : va_G) (G : pm_G) : pm_r_astore_n (pm_sound l D G) := by
  intro d k pc ls st cu su σ out i x hd h1 h2 ih p e R s m args below meth c H locs A ad real Qc XC free hC hX hL hP hD hS hwf hf hE
  obtain ⟨hx, hb, hr, hml, hown, hts, hlocks, hex, hA, hR, hin, hV, hlt⟩ := id hC
  refine lv_astore_n hx hb hd rfl hL.2 (by rw [← hL.1]; exact h1) rfl (fun real' h' => ?_)
  exact ih p e R s m args below meth c H locs A ad real' Qc XC free hC hX (pm_store1 (v := .ref x) hL h2 h') hP hD hS hwf hf hE
theorem so_lstore (l : Launch) (D : va_G) (G : pm_G) : pm_r_lstore (pm_sound l D G) := by
  intro d k pc ls st cu su σ out i x hd h1 h2 ih p e R s m args below meth c H locs A ad real Qc XC free hC hX hL hP hD hS hwf hf hE
  obtain ⟨hx, hb, hr, hml, hown, hts, hlocks, hex, hA, hR, hin, hV, hlt⟩ := id hC
  refine lv_lstore hx hb hd hL.2 (by rw [← hL.1]; exact h1) rfl (fun real' h' => ?_)
  exact ih p e R s m args below meth c H locs A ad real' Qc XC free hC hX (pm_store2 (v := .long x) hL h2 h') hP hD hS hwf hf hE
theorem so_lstore_n (l : Launch) (D : va_G) (G : pm_G) : pm_r_lstore_n (pm_sound l D G) := by
  intro d k pc ls st cu su σ out i x hd h1 h2 ih p e R s m args below meth c H locs A ad real Qc XC free hC hX hL hP hD hS hwf hf hE
  obtain ⟨hx, hb, hr, hml, hown, hts, hlocks, hex, hA, hR, hin, hV, hlt⟩ := id hC
  refine lv_lstore_n hx hb hd rfl hL.2 (by rw [← hL.1]; exact h1) rfl (fun real' h' => ?_)
  exact ih p e R s m args below meth c H locs A ad real' Qc XC free hC hX (pm_store2 (v := .long x) hL h2 h') hP hD hS hwf hf hE
theorem so_iinc (l : Launch) (D : va_G) (G : pm_G) : pm_r_iinc (pm_sound l D G) := by
  intro d k pc ls st cu su σ out i n x v hd h1 h2 h3 ih p e R s m args below meth c H locs A ad real Qc XC free hC hX hL hP hD hS hwf hf hE
  obtain ⟨hx, hb, hr, hml, hown, hts, hlocks, hex, hA, hR, hin, hV, hlt⟩ := id hC
  obtain ⟨q, hq⟩ := List.getElem?_of_mem (pm_lv_mem (ad := ad) h1)
  refine lv_iinc hx hb hd hL.2 (k := q) hq h2 (by rw [← hL.1]; exact (List.getElem?_eq_some_iff.mp h1).1) rfl (fun real' h' => ?_)
  exact ih p e R s m args below meth c H locs A ad real' Qc XC free hC hX (pm_store1 (v := .int v) hL h3 h') hP hD hS hwf hf hE
theorem so_getI (l : Launch) (D : va_G) (G : pm_G) : pm_r_getI (pm_sound l D G) := by
  intro d k pc ls st cu su σ out b ci C T N ty j idx hd h1 h2 h3 h4 h5 h6 ih p e R s m args below meth c H locs A ad real Qc XC free hC hX hL hP hD hS hwf hf hE
  have ih := ih p e R s m args below meth c H locs A ad real Qc XC free hC hX hL hP hD hS hwf hf hE
  obtain ⟨hx, hb, hr, hml, hown, hts, hlocks, hex, hA, hR, hin, hV, hlt⟩ := id hC
  exact va_get hx hb hts h3.2.1 hown hV.1 hP b (pm_ws0 h1 h2) h3.1 j h4 (hts _ h6) (fun _ h => h) (pm_fsI h3.1 h4 h5) hd ih
theorem so_getP (l : Launch) (D : va_G) (G : pm_G) : pm_r_getP (pm_sound l D G) := by
  intro d k pc ls st cu su σ out b ci C T N ty j idx r hd h1 h2 h3 h4 h5 h6 h7 ih p e R s m args below meth c H locs A ad real Qc XC free hC hX hL hP hD hS hwf hf hE
  have ih := ih p e R s m args below meth c H locs A ad real Qc XC free hC hX hL hP hD hS hwf hf hE
  obtain ⟨hx, hb, hr, hml, hown, hts, hlocks, hex, hA, hR, hin, hV, hlt⟩ := id hC
  exact va_get hx hb hts h3.2.1 hown hV.1 hP b (pm_ws0 h1 h2) h3.1 j h4 (hts _ h6) (fun _ h => h) (pm_fsP h3.1 h4 h5 h7) hd ih
theorem so_putI (l : Launch) (D : va_G) (G : pm_G) : pm_r_putI (pm_sound l D G) := by
  intro d k pc ls st cu su σ out b ci C T N ty j idx v hd h1 h2 h3 h4 h5 h6 h7 h8 ih p e R s m args below meth c H locs A ad real Qc XC free hC hX hL hP hD hS hwf hf hE
  obtain ⟨hx, hb, hr, hml, hown, hts, hlocks, hex, hA, hR, hin, hV, hlt⟩ := id hC
  have hn : narrow (ty j) (.int v) = .int v := pm_nar h8
  have hfi : fits (ty j) (.int v) = true := pm_fit h8
  refine va_put hx hb hts h3.2.1 ty h3.2.2.1 h3.2.2.2.1 hown hV.1 hP hD hS b (pm_ws0 h1 h2) h3.1 j h4 (hts _ h6) (fun _ h => h) h7 (h3.2.2.1 j h4) hn hfi (pm_fsl h3.1 h4) hd (fun H1 locs1 hP1 hD1 hS1 => ?_)
  exact ih p e R s m args below meth c H1 locs1 A ad real Qc XC free hC (pm_X_sI hwf h1 hX) hL (by rw [← pm_set0I h1 h2 h5]; exact hP1) (by rw [← pm_set0I h1 h2 h5]; exact hD1) hS1 (pm_wf_sI hwf) hf (pm_end_sI hwf h1 hE)
theorem so_putP (l : Launch) (D : va_G) (G : pm_G) : pm_r_putP (pm_sound l D G) := by
  intro d k pc ls st cu su σ out b ci C T N ty j idx r hd h1 h2 h3 h4 h5 h6 h7 h8 h9 h10 h11 ih p e R s m args below meth c H locs A ad real Qc XC free hC hX hL hP hD hS hwf hf hE
  obtain ⟨hx, hb, hr, hml, hown, hts, hlocks, hex, hA, hR, hin, hV, hlt⟩ := id hC
  refine va_putF hx hb hts h3.2.1 ty h3.2.2.1 h3.2.2.2.1 hown hV.1 hP hD hS b (pm_ws0 h1 h2) h3.1 j h4 (hts _ h6) (fun _ h => h) h7 (hin h8) h9 (h3.2.2.1 j h4) (pm_narR h10) (pm_fitR h10) (pm_fsl h3.1 h4) hd (fun H1 locs1 hP1 hD1 hS1 => ?_)
  exact ih p e R s m args below meth c H1 locs1 A ad real Qc XC free hC (pm_X_sP hX) hL (by rw [← pm_set0P h1 h2 h5]; exact hP1) (by rw [← pm_set0P h1 h2 h5]; exact hD1) hS1 (pm_wf_sP hwf h11) hf (pm_end_sP hE)
theorem so_iaload (l : Launch) (D : va_G) (G : pm_G) : pm_r_iaload (pm_sound l D G) := by
  intro d k pc ls st cu su σ out b n i hd h1 h2 h3 ih p e R s m args below meth c H locs A ad real Qc XC free hC hX hL hP hD hS hwf hf hE
  have ih := ih p e R s m args below meth c H locs A ad real Qc XC free hC hX hL hP hD hS hwf hf hE
  obtain ⟨hx, hb, hr, hml, hown, hts, hlocks, hex, hA, hR, hin, hV, hlt⟩ := id hC
  exact va_iald hx hb hV.1 hP b 0 (pm_ws1 h1 h2) rfl h3 hd ih
theorem so_iastore (l : Launch) (D : va_G) (G : pm_G) : pm_r_iastore (pm_sound l D G) := by
  intro d k pc ls st cu su σ out b n i v hd h1 h2 h3 ih p e R s m args below meth c H locs A ad real Qc XC free hC hX hL hP hD hS hwf hf hE
  obtain ⟨hx, hb, hr, hml, hown, hts, hlocks, hex, hA, hR, hin, hV, hlt⟩ := id hC
  refine va_iast hx hb hV.1 hP hD hS b 0 (pm_ws1 h1 h2) rfl h3 hd (fun H1 locs1 hP1 hD1 hS1 => ?_)
  rw [pm_set1 h1 h2] at hP1 hD1
  exact ih p e R s m args below meth c H1 locs1 A ad real Qc XC free hC (pm_X_sI hwf h1 hX) hL hP1 hD1 hS1 (pm_wf_sI hwf) hf (pm_end_sI hwf h1 hE)
theorem so_laload (l : Launch) (D : va_G) (G : pm_G) : pm_r_laload (pm_sound l D G) := by
  intro d k pc ls st cu su σ out b n i hd h1 h2 h3 ih p e R s m args below meth c H locs A ad real Qc XC free hC hX hL hP hD hS hwf hf hE
  have ih := ih p e R s m args below meth c H locs A ad real Qc XC free hC hX hL hP hD hS hwf hf hE
  obtain ⟨hx, hb, hr, hml, hown, hts, hlocks, hex, hA, hR, hin, hV, hlt⟩ := id hC
  exact va_lald hx hb hV.1 hP b 1 (pm_ws2 h1 h2) rfl h3 hd ih
theorem so_lastore (l : Launch) (D : va_G) (G : pm_G) : pm_r_lastore (pm_sound l D G) := by
  intro d k pc ls st cu su σ out b n i v hd h1 h2 h3 ih p e R s m args below meth c H locs A ad real Qc XC free hC hX hL hP hD hS hwf hf hE
  obtain ⟨hx, hb, hr, hml, hown, hts, hlocks, hex, hA, hR, hin, hV, hlt⟩ := id hC
  refine va_last hx hb hV.1 hP hD hS b 1 (pm_ws2 h1 h2) rfl h3 hd (fun H1 locs1 hP1 hD1 hS1 => ?_)
  rw [pm_set2 h1 h2] at hP1 hD1
  exact ih p e R s m args below meth c H1 locs1 A ad real Qc XC free hC (pm_X_sJ hX) hL hP1 hD1 hS1 (pm_wf_sJ hwf) hf (pm_end_sJ hE)
theorem so_aaload3 (l : Launch) (D : va_G) (G : pm_G) : pm_r_aaload3 (pm_sound l D G) := by
  intro d k pc ls st cu su σ out b n i r hd h1 h2 h3 h4 ih p e R s m args below meth c H locs A ad real Qc XC free hC hX hL hP hD hS hwf hf hE
  have ih := ih p e R s m args below meth c H locs A ad real Qc XC free hC hX hL hP hD hS hwf hf hE
  obtain ⟨hx, hb, hr, hml, hown, hts, hlocks, hex, hA, hR, hin, hV, hlt⟩ := id hC
  exact pm_aald hx hb hV.1 hP b 2 (pm_ws3 h1 h2) (ty := .array .int) rfl rfl h3 (by rw [h4]; rfl) hd ih
theorem so_aaload4 (l : Launch) (D : va_G) (G : pm_G) : pm_r_aaload4 (pm_sound l D G) := by
  intro d k pc ls st cu su σ out b n i r hd h1 h2 h3 h4 ih p e R s m args below meth c H locs A ad real Qc XC free hC hX hL hP hD hS hwf hf hE
  have ih := ih p e R s m args below meth c H locs A ad real Qc XC free hC hX hL hP hD hS hwf hf hE
  obtain ⟨hx, hb, hr, hml, hown, hts, hlocks, hex, hA, hR, hin, hV, hlt⟩ := id hC
  exact pm_aald hx hb hV.1 hP b 3 (pm_ws4 h1 h2) (ty := .array .long) rfl rfl h3 (by rw [h4]; rfl) hd ih
theorem so_alen (l : Launch) (D : va_G) (G : pm_G) : pm_r_alen (pm_sound l D G) := by
  intro d k pc ls st cu su σ out b n hd h1 h2 ih p e R s m args below meth c H locs A ad real Qc XC free hC hX hL hP hD hS hwf hf hE
  have ih := ih p e R s m args below meth c H locs A ad real Qc XC free hC hX hL hP hD hS hwf hf hE
  obtain ⟨hx, hb, hr, hml, hown, hts, hlocks, hex, hA, hR, hin, hV, hlt⟩ := id hC
  exact va_alen hx hb hV.1 hP b 0 (pm_ws1 h1 h2) rfl rfl hd ih
theorem so_sld (l : Launch) (D : va_G) (G : pm_G) : pm_r_sld (pm_sound l D G) := by
  intro d k pc ls st cu su σ out i hd h1 h2 ih p e R s m args below meth c H locs A ad real Qc XC free hC hX hL hP hD hS hwf hf hE
  have ih := ih p e R s m args below meth c H locs A ad real Qc XC free hC hX hL hP hD hS hwf hf hE
  obtain ⟨hx, hb, hr, hml, hown, hts, hlocks, hex, hA, hR, hin, hV, hlt⟩ := id hC
  obtain ⟨L, e1, e2, e3, e4, e5⟩ := hX h1
  rw [e1, pm_ofNat e2] at h2
  exact va_sld hx hb e3 e4 e5 hS h2 hd ih
theorem so_slen (l : Launch) (D : va_G) (G : pm_G) : pm_r_slen (pm_sound l D G) := by
  intro d k pc ls st cu su σ out hd h1 ih p e R s m args below meth c H locs A ad real Qc XC free hC hX hL hP hD hS hwf hf hE
  have ih := ih p e R s m args below meth c H locs A ad real Qc XC free hC hX hL hP hD hS hwf hf hE
  obtain ⟨hx, hb, hr, hml, hown, hts, hlocks, hex, hA, hR, hin, hV, hlt⟩ := id hC
  obtain ⟨L, e1, e2, e3, e4, e5⟩ := hX h1
  rw [e1] at ih
  exact va_slen hx hb e3 e4 e5 hS hd ih
theorem so_new (l : Launch) (D : va_G) (G : pm_G) : pm_r_new (pm_sound l D G) := by
  intro d k pc ls st cu su σ out ci C T N ty idx hd h1 h2 h3 h4 h5 h6 h7 h8 h9 h10 h11 ih p e R s m args below meth c H locs A ad real Qc XC free hC hX hL hP hD hS hwf hf hE
  obtain ⟨hx, hb, hr, hml, hown, hts, hlocks, hex, hA, hR, hin, hV, hlt⟩ := id hC
  refine va_new (fs := pm_fs ad σ σ.1 ci) hx hb hts h2.2.1 ty h2.2.2.1 hown (hts _ h3) (hts _ h4) (hts _ h5) hV.1 hP hD hS hA h2.1 (pm_dflt h2 h9 h10) (Nat.le_trans h6 hR.2.2.1) (Nat.le_trans h7 hR.2.2.2) hd (fun q H1 hP1 hD1 hS1 => ?_)
  have hag : pm_agree ad (pm_ext ad σ.1 q) σ.1 := pm_ext_agree
  rw [pm_push0 hwf h1 h10] at hP1 hD1
  have ih := ih p e R s m args below meth c H1 locs A (pm_ext ad σ.1 q) real Qc XC free hC (pm_X_new h8 hX) (pm_loc_ad hag (pm_ext_k h8) h11 hL) hP1 hD1 hS1 (pm_wf_new hwf h8) hf (pm_end_new hag hE)
  rw [show (Value.ref σ.1 :: st).map (pv (pm_ext ad σ.1 q)) = Value.ref q :: st.map (pv ad) from pm_st_ext h8 h11] at ih
  exact ih
theorem so_newI (l : Launch) (D : va_G) (G : pm_G) : pm_r_newI (pm_sound l D G) := by
  intro d k pc ls st cu su σ out n x hd h1 h2 h3 h4 h5 h6 h7 h8 h9 h10 ih p e R s m args below meth c H locs A ad real Qc XC free hC hX hL hP hD hS hwf hf hE
  obtain ⟨hx, hb, hr, hml, hown, hts, hlocks, hex, hA, hR, hin, hV, hlt⟩ := id hC
  refine va_newa (atype := .int) (a0 := (n, .inl (fun _ => 0))) hx hb (hts _ h5) (ty := .int) rfl hV.1 hP hD hS hA (pm_zeroI n) h2 h3 (pm_bytesI h4) (Nat.le_trans h6 hR.2.2.1) (Nat.le_trans h7 hR.2.2.2) hd (fun q cA H1 hK1 hP1 hD1 hS1 => ?_)
  have hag : pm_agree ad (pm_ext ad σ.1 q) σ.1 := pm_ext_agree
  have hcA : cA = pm_gI G := pm_sameA hV.1 hK1 0 rfl
  subst hcA
  rw [pm_push1 hwf h1 h9] at hP1 hD1
  have ih := ih p e R s m args below meth c H1 locs A (pm_ext ad σ.1 q) real Qc XC free hC (pm_X_new h8 hX) (pm_loc_ad hag (pm_ext_k h8) h10 hL) hP1 hD1 hS1 (pm_wf_new hwf h8) hf (pm_end_new hag hE)
  rw [show (Value.ref σ.1 :: st).map (pv (pm_ext ad σ.1 q)) = Value.ref q :: st.map (pv ad) from pm_st_ext h8 h10] at ih
  exact ih
theorem so_newJ (l : Launch) (D : va_G) (G : pm_G) : pm_r_newJ (pm_sound l D G) := by
  intro d k pc ls st cu su σ out n x hd h1 h2 h3 h4 h5 h6 h7 h8 h9 h10 ih p e R s m args below meth c H locs A ad real Qc XC free hC hX hL hP hD hS hwf hf hE
  obtain ⟨hx, hb, hr, hml, hown, hts, hlocks, hex, hA, hR, hin, hV, hlt⟩ := id hC
  refine va_newa (atype := .long) (a0 := (n, .inr (.inl (fun _ => 0)))) hx hb (hts _ h5) (ty := .long) rfl hV.1 hP hD hS hA (pm_zeroJ n) h2 h3 (pm_bytesJ h4) (Nat.le_trans h6 hR.2.2.1) (Nat.le_trans h7 hR.2.2.2) hd (fun q cA H1 hK1 hP1 hD1 hS1 => ?_)
  have hag : pm_agree ad (pm_ext ad σ.1 q) σ.1 := pm_ext_agree
  have hcA : cA = pm_gJ G := pm_sameA hV.1 hK1 1 rfl
  subst hcA
  rw [pm_push2 hwf h1 h9] at hP1 hD1
  have ih := ih p e R s m args below meth c H1 locs A (pm_ext ad σ.1 q) real Qc XC free hC (pm_X_new h8 hX) (pm_loc_ad hag (pm_ext_k h8) h10 hL) hP1 hD1 hS1 (pm_wf_new hwf h8) hf (pm_end_new hag hE)
  rw [show (Value.ref σ.1 :: st).map (pv (pm_ext ad σ.1 q)) = Value.ref q :: st.map (pv ad) from pm_st_ext h8 h10] at ih
  exact ih
theorem so_mnaI (l : Launch) (D : va_G) (G : pm_G) : pm_r_mnaI (pm_sound l D G) := by
  intro d k pc ls st cu su σ out idx n kk x y hd h1 h2 h3 h4 h5 h6 h7 h8 h9 h10 h11 h12 h13 h14 ih p e R s m args below meth c H locs A ad real Qc XC free hC hX hL hP hD hS hwf hf hE
  obtain ⟨hx, hb, hr, hml, hown, hts, hlocks, hex, hA, hR, hin, hV, hlt⟩ := id hC
  refine va_mna (X := pm_ws G ad σ) (L := []) (f := fun _ => .inr (0, [])) (z := (kk, .inl (fun _ => 0))) hx hb hown (hts _ h9) hV.2.2.2.2.2.1 (hts _ h8) (cy := pm_gI G) (pm_nameI hV.1) hV.1 (by simpa [va_pl] using hP) (by simpa [va_pl] using hD) hS hA h3 h4 h5 h6 (by omega) (pm_bytesI h7.2) (by omega) rfl rfl (Nat.le_trans (by omega) hR.2.2.1) (Nat.le_trans (by omega) hR.2.2.2) (pm_innerI kk) hd (fun q r cA H1 hi hn hK1 hP1 hD1 hS1 => ?_)
  have hag : pm_agree ad (pm_extR ad σ.1 q r) σ.1 := pm_extR_agree
  have hcA : cA = pm_gII G := pm_sameA hV.1 hK1 2 rfl
  subst hcA
  rw [pm_plrows, pm_push3 hwf h12 h1 h2 h13] at hP1 hD1
  have ih := ih p e R s m args below meth c H1 locs A (pm_extR ad σ.1 q r) real Qc XC free hC (pm_X_mna h12 hX) (pm_loc_ad hag (pm_extR_k (by omega)) h14 hL) hP1 hD1 hS1 (pm_wf_mna hwf h12) hf (pm_end_mna hag hE)
  rw [show (Value.ref σ.1 :: st).map (pv (pm_extR ad σ.1 q r)) = Value.ref q :: st.map (pv ad) from pm_st_extR (by omega) h14] at ih
  exact ih
theorem so_mnaJ (l : Launch) (D : va_G) (G : pm_G) : pm_r_mnaJ (pm_sound l D G) := by
  intro d k pc ls st cu su σ out idx n kk x y hd h1 h2 h3 h4 h5 h6 h7 h8 h9 h10 h11 h12 h13 h14 ih p e R s m args below meth c H locs A ad real Qc XC free hC hX hL hP hD hS hwf hf hE
  obtain ⟨hx, hb, hr, hml, hown, hts, hlocks, hex, hA, hR, hin, hV, hlt⟩ := id hC
  refine va_mna (X := pm_ws G ad σ) (L := []) (f := fun _ => .inr (0, [])) (z := (kk, .inr (.inl (fun _ => 0)))) hx hb hown (hts _ h9) hV.2.2.2.2.2.2.1 (hts _ h8) (cy := pm_gJ G) (pm_nameJ hV.1) hV.1 (by simpa [va_pl] using hP) (by simpa [va_pl] using hD) hS hA h3 h4 h5 h6 (by omega) (pm_bytesJ h7.2) (by omega) rfl rfl (Nat.le_trans (by omega) hR.2.2.1) (Nat.le_trans (by omega) hR.2.2.2) (pm_innerJ kk) hd (fun q r cA H1 hi hn hK1 hP1 hD1 hS1 => ?_)
  have hag : pm_agree ad (pm_extR ad σ.1 q r) σ.1 := pm_extR_agree
  have hcA : cA = pm_gJJ G := pm_sameA hV.1 hK1 3 rfl
  subst hcA
  rw [pm_plrows, pm_push4 hwf h12 h1 h2 h13] at hP1 hD1
  have ih := ih p e R s m args below meth c H1 locs A (pm_extR ad σ.1 q r) real Qc XC free hC (pm_X_mna h12 hX) (pm_loc_ad hag (pm_extR_k (by omega)) h14 hL) hP1 hD1 hS1 (pm_wf_mna hwf h12) hf (pm_end_mna hag hE)
  rw [show (Value.ref σ.1 :: st).map (pv (pm_extR ad σ.1 q r)) = Value.ref q :: st.map (pv ad) from pm_st_extR (by omega) h14] at ih
  exact ih
theorem so_objInit (l : Launch) (D : va_G) (G : pm_G) : pm_r_objInit (pm_sound l D G) := by
  intro d k pc ls st cu su σ out b idx hd h1 h2 h3 h4 h5 ih p e R s m args below meth c H locs A ad real Qc XC free hC hX hL hP hD hS hwf hf hE
  have ih := ih p e R s m args below meth c H locs A ad real Qc XC free hC hX hL hP hD hS hwf hf hE
  obtain ⟨hx, hb, hr, hml, hown, hts, hlocks, hex, hA, hR, hin, hV, hlt⟩ := id hC
  exact W.objInit hx hb hown (hts _ h1) (hts _ h2) (hts _ h3) rfl (hL.2.1.trans hml.symm) rfl hd (by omega) (by show 2 * 0 + _ + 12 ≤ _; rw [pm_cats]; omega) ih
theorem so_mmin (l : Launch) (D : va_G) (G : pm_G) : pm_r_mmin (pm_sound l D G) := by
  intro d k pc ls st cu su σ out x y idx hd h1 h2 h3 h4 h5 h6 h7 h8 ih p e R s m args below meth c H locs A ad real Qc XC free hC hX hL hP hD hS hwf hf hE
  have ih := ih p e R s m args below meth c H locs A ad real Qc XC free hC hX hL hP hD hS hwf hf hE
  obtain ⟨hx, hb, hr, hml, hown, hts, hlocks, hex, hA, hR, hin, hV, hlt⟩ := id hC
  exact va_mmin hx hb (hml.trans hL.2.1.symm) hown (hts _ h1) (hts _ h2) (hts _ h3) (hts _ h4) (by omega) (by rw [pm_cats]; omega) (Nat.le_trans h7 hR.2.2.1) (Nat.le_trans h8 hR.2.2.2) hd ih
theorem so_mmax (l : Launch) (D : va_G) (G : pm_G) : pm_r_mmax (pm_sound l D G) := by
  intro d k pc ls st cu su σ out x y idx hd h1 h2 h3 h4 h5 h6 h7 h8 ih p e R s m args below meth c H locs A ad real Qc XC free hC hX hL hP hD hS hwf hf hE
  have ih := ih p e R s m args below meth c H locs A ad real Qc XC free hC hX hL hP hD hS hwf hf hE
  obtain ⟨hx, hb, hr, hml, hown, hts, hlocks, hex, hA, hR, hin, hV, hlt⟩ := id hC
  exact va_mmax hx hb (hml.trans hL.2.1.symm) hown (hts _ h1) (hts _ h2) (hts _ h3) (hts _ h4) (by omega) (by rw [pm_cats]; omega) (Nat.le_trans h7 hR.2.2.1) (Nat.le_trans h8 hR.2.2.2) hd ih
theorem so_copyi (l : Launch) (D : va_G) (G : pm_G) : pm_r_copyi (pm_sound l D G) := by
  intro d k pc ls st cu su σ out b0 b1 n0 n1 sp dp n idx hd h1 h2 h3 h4 h5 h6 h7 h8 h9 h10 h11 h12 h13 h14 h15 ih p e R s m args below meth c H locs A ad real Qc XC free hC hX hL hP hD hS hwf hf hE
  obtain ⟨hx, hb, hr, hml, hown, hts, hlocks, hex, hA, hR, hin, hV, hlt⟩ := id hC
  have hnw : nativeFrameWords "java/lang/System" "arraycopy" 5 ≤ 30 := by decide
  refine va_copyi hx hb (hml.trans hL.2.1.symm) hown (hts _ h1) (hts _ h2) (hts _ h3) (hts _ h4) hV.1 hP hD hS b0 b1 0 0 (pm_ws1 h5 h7) (pm_ws1 h6 h8) (ty := .int) rfl rfl rfl h9 h10 h11 h12 h13 (fun _ _ => rfl) (by omega) (by rw [pm_cats]; omega) hd (fun H1 locs1 hP1 hD1 hS1 => ?_)
  rw [pm_set1A h6 h8] at hP1 hD1
  exact ih p e R s m args below meth c H1 locs1 A ad real Qc XC free hC (pm_X_sA hwf h6 hX) hL hP1 hD1 hS1 (pm_wf_sA hwf) hf (pm_end_sA hwf h6 hE)
theorem so_ireturn (l : Launch) (D : va_G) (G : pm_G) : pm_r_ireturn (pm_sound l D G) := by
  intro d k pc ls st cu su σ out v hd h1 h2 h3 h4 p e R s m args below meth c H locs A ad real Qc XC free hC hX hL hP hD hS hwf hf hE
  obtain ⟨hx, hb, hr, hml, hown, hts, hlocks, hex, hA, hR, hin, hV, hlt⟩ := id hC
  subst h4
  exact W.widen h2 h3 ((W.iret hx hb (hr.trans h1) (fun t ht hW => hE ad t (pm_post_rf hP hD hS hwf ht) hW.alike) (fun q hq => hf _ (hS.2.2 q hq)) hd hlocks))
theorem so_lreturn (l : Launch) (D : va_G) (G : pm_G) : pm_r_lreturn (pm_sound l D G) := by
  intro d k pc ls st cu su σ out v hd h1 h2 h3 h4 p e R s m args below meth c H locs A ad real Qc XC free hC hX hL hP hD hS hwf hf hE
  obtain ⟨hx, hb, hr, hml, hown, hts, hlocks, hex, hA, hR, hin, hV, hlt⟩ := id hC
  subst h4
  exact W.widen h2 h3 ((W.lret hx hb (hr.trans h1) (fun t ht hW => hE ad t (pm_post_rf hP hD hS hwf ht) hW.alike) (fun q hq => hf _ (hS.2.2 q hq)) hd hlocks))
theorem so_zreturn (l : Launch) (D : va_G) (G : pm_G) : pm_r_zreturn (pm_sound l D G) := by
  intro d k pc ls st cu su σ out v hd h1 h2 h3 h4 h5 p e R s m args below meth c H locs A ad real Qc XC free hC hX hL hP hD hS hwf hf hE
  obtain ⟨hx, hb, hr, hml, hown, hts, hlocks, hex, hA, hR, hin, hV, hlt⟩ := id hC
  subst h4
  exact W.widen h2 h3 ((W.zret hx hb (hr.trans h1) (pm_nar (Or.inr ⟨rfl, h5⟩)) (fun t ht hW => hE ad t (pm_post_rf hP hD hS hwf ht) hW.alike) (fun q hq => hf _ (hS.2.2 q hq)) hd hlocks))
theorem so_vreturn (l : Launch) (D : va_G) (G : pm_G) : pm_r_vreturn (pm_sound l D G) := by
  intro d k pc ls st cu su σ out hd h1 h2 h3 h4 p e R s m args below meth c H locs A ad real Qc XC free hC hX hL hP hD hS hwf hf hE
  obtain ⟨hx, hb, hr, hml, hown, hts, hlocks, hex, hA, hR, hin, hV, hlt⟩ := id hC
  subst h4
  exact W.widen h2 h3 ((W.vret hx hb (hr.trans h1) (fun t ht hW => hE ad t (pm_post_rf hP hD hS hwf ht) hW.alike) (fun q hq => hf _ (hS.2.2 q hq)) hd hlocks))
theorem so_callV (l : Launch) (D : va_G) (G : pm_G) : pm_r_callV (pm_sound l D G) := by
  intro d k pc ls st cu su σ out k2 idx ci b C T N ty As r σ2 hd h1 h2 h3 h4 h5 h6 h7 h8 h9 h10 h11 h12 h13 h14 ih ih2 p e R s m args below meth c H locs A ad real Qc XC free hC hX hL hP hD hS hwf hf hE
  obtain ⟨hx, hb, hr, hml, hown, hts, hlocks, hex, hA, hR, hin, hV, hlt⟩ := id hC
  have hA1 : ∀ q, va_A (pm_ws G ad σ) H.size q → A q := pm_A1 hD hS hA
  have hM := pm_met (ad := ad) H.size h1 hlt (As := .ref b :: As) (by simpa using h10) (by simpa [pm_cat1, Value.category] using h8) hwf ih
  have hrun := va_runV (As := As.map (pv ad)) (rest := st.map (pv ad)) (g := F0 m pc real ((As.reverse ++ .ref b :: st).map (pv ad))) (cells := cu) (slots := su) (locs := locs) (e := e) (below := below) (meth := meth) ⟨hx, hb, hml, hown, hts⟩ hM
    (pm_cwV (R := R) hts hR h1 h6 h7 h5) ⟨pm_blind, va_recv hV.1 hP h4.1 (pm_ws0 h2 h3), fun U hU hW => pm_prep hP hD hS hV hA1 hU hW⟩ rfl (by simp) (hL.2.1) (by simp [pv]) (lv_room (by rw [pm_cats]; exact h9)) hd ⟨Nat.le_trans h11 hR.2.2.1, Nat.le_trans h12 hR.2.2.2⟩
  refine pm_retW hrun hS hA1 h14 (fun ad' H1 locs1 hag hup hle hhi hP1 hD1 hS1 hwf1 => ?_)
  have i2 := ih2 p e R s m args below meth c H1 locs1 A ad' real Qc XC free hC (pm_X_call hwf1 hup hhi hX) (pm_loc_ad hag (hup 1000 hwf1.1) h13 hL) hP1 hD1 hS1 hwf1 hf (pm_end_call hag hle hhi hE)
  rw [List.map_append, pm_mapst hag (hup 1000 hwf1.1) h13, pm_tl] at i2
  exact i2
theorem so_callS (l : Launch) (D : va_G) (G : pm_G) : pm_r_callS (pm_sound l D G) := by
  intro d k pc ls st cu su σ out k2 idx As r σ2 hd h1 h2 h3 h4 h5 h6 h7 h8 h9 h10 ih ih2 p e R s m args below meth c H locs A ad real Qc XC free hC hX hL hP hD hS hwf hf hE
  obtain ⟨hx, hb, hr, hml, hown, hts, hlocks, hex, hA, hR, hin, hV, hlt⟩ := id hC
  have hA1 : ∀ q, va_A (pm_ws G ad σ) H.size q → A q := pm_A1 hD hS hA
  have hM := pm_met (ad := ad) H.size h1 hlt (As := As) h6 h4 hwf ih
  have hrun := va_runS (As := As.map (pv ad)) (rest := st.map (pv ad)) (g := F0 m pc real ((As.reverse ++ st).map (pv ad))) (cells := cu) (slots := su) (locs := locs) (e := e) (below := below) (meth := meth) ⟨hx, hb, hml, hown, hts⟩ hM
    (pm_cwS (R := R) hts hR h1 h2 h3) ⟨pm_blind, fun U hU hW => pm_prep hP hD hS hV hA1 hU hW⟩ rfl (by simp) (hL.2.1) (by simp) (lv_room (by rw [pm_cats]; exact h5)) hd ⟨Nat.le_trans h7 hR.2.2.1, Nat.le_trans h8 hR.2.2.2⟩
  refine pm_retW hrun hS hA1 h10 (fun ad' H1 locs1 hag hup hle hhi hP1 hD1 hS1 hwf1 => ?_)
  have i2 := ih2 p e R s m args below meth c H1 locs1 A ad' real Qc XC free hC (pm_X_call hwf1 hup hhi hX) (pm_loc_ad hag (hup 1000 hwf1.1) h9 hL) hP1 hD1 hS1 hwf1 hf (pm_end_call hag hle hhi hE)
  rw [List.map_append, pm_mapst hag (hup 1000 hwf1.1) h9, pm_tl] at i2
  exact i2
theorem so_callI (l : Launch) (D : va_G) (G : pm_G) : pm_r_callI (pm_sound l D G) := by
  intro d k pc ls st cu su σ out k2 idx b As r σ2 hd h1 h2 h3 h4 h5 h6 h7 h8 h9 h10 h11 ih ih2 p e R s m args below meth c H locs A ad real Qc XC free hC hX hL hP hD hS hwf hf hE
  obtain ⟨hx, hb, hr, hml, hown, hts, hlocks, hex, hA, hR, hin, hV, hlt⟩ := id hC
  have hA1 : ∀ q, va_A (pm_ws G ad σ) H.size q → A q := pm_A1 hD hS hA
  have hM := pm_met (ad := ad) H.size h1 hlt (As := .ref b :: As) (by simpa using h6) (by simpa [pm_cat1, Value.category] using h4) hwf ih
  have hrun := va_runI (As := As.map (pv ad)) (rest := st.map (pv ad)) (g := F0 m pc real ((As.reverse ++ .ref b :: st).map (pv ad))) (cells := cu) (slots := su) (locs := locs) (e := e) (below := below) (meth := meth) ⟨hx, hb, hml, hown, hts⟩ hM
    (pm_cwI (R := R) hts hR h1 h2 h3 h10) ⟨pm_blind, fun U hU hW => pm_prep hP hD hS hV hA1 hU hW⟩ rfl (by simp) (hL.2.1) (by simp [pv]) (lv_room (by rw [pm_cats]; exact h5)) hd ⟨Nat.le_trans h7 hR.2.2.1, Nat.le_trans h8 hR.2.2.2⟩
  refine pm_retW hrun hS hA1 h11 (fun ad' H1 locs1 hag hup hle hhi hP1 hD1 hS1 hwf1 => ?_)
  have i2 := ih2 p e R s m args below meth c H1 locs1 A ad' real Qc XC free hC (pm_X_call hwf1 hup hhi hX) (pm_loc_ad hag (hup 1000 hwf1.1) h9 hL) hP1 hD1 hS1 hwf1 hf (pm_end_call hag hle hhi hE)
  rw [List.map_append, pm_mapst hag (hup 1000 hwf1.1) h9, pm_tl] at i2
  exact i2
theorem so_callW (l : Launch) (D : va_G) (G : pm_G) : pm_r_callW (pm_sound l D G) := by
  intro d k pc ls st cu su σ out k2 idx As r σ2 hd h1 h2 h3 h4 h5 h6 h7 h8 h9 h10 ih ih2 p e R s m args below meth c H locs A ad real Qc XC free hC hX hL hP hD hS hwf hf hE
  obtain ⟨hx, hb, hr, hml, hown, hts, hlocks, hex, hA, hR, hin, hV, hlt⟩ := id hC
  have hA1 : ∀ q, va_A (pm_ws G ad σ) H.size q → A q := pm_A1 hD hS hA
  have hM := pm_metW (ad := ad) H.size h1 hlt (As := As) h6 h4 hwf ih
  have hrun := pm_runSW (As := As.map (pv ad)) (rest := st.map (pv ad)) (g := F0 m pc real ((As.reverse ++ st).map (pv ad))) (cells := cu) (slots := su) (locs := locs) (e := e) (below := below) (meth := meth) ⟨hx, hb, hml, hown, hts⟩ hM
    (pm_cwW (R := R) hts hR h1 h2 h3) ⟨pm_blind, fun U hU hW => pm_prep hP hD hS hV hA1 hU hW⟩ rfl (by simp) (hL.2.1) (by simp) (lv_room (by rw [pm_cats]; exact h5)) hd ⟨Nat.le_trans h7 hR.2.2.1, Nat.le_trans h8 hR.2.2.2⟩
  refine pm_retW hrun hS hA1 h10 (fun ad' H1 locs1 hag hup hle hhi hP1 hD1 hS1 hwf1 => ?_)
  have i2 := ih2 p e R s m args below meth c H1 locs1 A ad' real Qc XC free hC (pm_X_call hwf1 hup hhi hX) (pm_loc_ad hag (hup 1000 hwf1.1) h9 hL) hP1 hD1 hS1 hwf1 hf (pm_end_call hag hle hhi hE)
  rw [List.map_append, pm_mapst hag (hup 1000 hwf1.1) h9, pm_tl] at i2
  exact i2
theorem so_callN (l : Launch) (D : va_G) (G : pm_G) : pm_r_callN (pm_sound l D G) := by
  intro d k pc ls st cu su σ out k2 idx b As r σ2 hd h1 h2 h3 h4 h5 h6 h7 h8 h9 h10 h11 ih ih2 p e R s m args below meth c H locs A ad real Qc XC free hC hX hL hP hD hS hwf hf hE
  obtain ⟨hx, hb, hr, hml, hown, hts, hlocks, hex, hA, hR, hin, hV, hlt⟩ := id hC
  have hA1 : ∀ q, va_A (pm_ws G ad σ) H.size q → A q := pm_A1 hD hS hA
  have hM := pm_met (ad := ad) H.size h1 hlt (As := .ref b :: As) (by simpa using h6) (by simpa [pm_cat1, Value.category] using h4) hwf ih
  have hrun := va_runIN (As := As.map (pv ad)) (rest := st.map (pv ad)) (g := F0 m pc real ((As.reverse ++ .ref b :: st).map (pv ad))) (cells := cu) (slots := su) (locs := locs) (e := e) (below := below) (meth := meth) ⟨hx, hb, hml, hown, hts⟩ hM
    (pm_cwN (R := R) hts hR h1 h2 h3 h10 hV.2.2.2.2.2.2.2) ⟨pm_blind, fun U hU hW => pm_prep hP hD hS hV hA1 hU hW⟩ rfl (by simp) (hL.2.1) (by simp [pv]) (lv_room (by rw [pm_cats]; exact h5)) hd ⟨Nat.le_trans h7 hR.2.2.1, Nat.le_trans h8 hR.2.2.2⟩
  refine pm_retW hrun hS hA1 h11 (fun ad' H1 locs1 hag hup hle hhi hP1 hD1 hS1 hwf1 => ?_)
  have i2 := ih2 p e R s m args below meth c H1 locs1 A ad' real Qc XC free hC (pm_X_call hwf1 hup hhi hX) (pm_loc_ad hag (hup 1000 hwf1.1) h9 hL) hP1 hD1 hS1 hwf1 hf (pm_end_call hag hle hhi hE)
  rw [List.map_append, pm_mapst hag (hup 1000 hwf1.1) h9, pm_tl] at i2
  exact i2
theorem so_callVx (l : Launch) (D : va_G) (G : pm_G) : pm_r_callVx (pm_sound l D G) := by
  intro d k pc ls st cu su σ out k2 idx ci b C T N ty As E σ2 hd h1 h2 h3 h4 h5 h6 h7 h8 h9 h10 h11 h12 h13 h14 h15 ih p e R s m args below meth c H locs A ad real Qc XC free hC hX hL hP hD hS hwf hf hE
  obtain ⟨hx, hb, hr, hml, hown, hts, hlocks, hex, hA, hR, hin, hV, hlt⟩ := id hC
  have hA1 : ∀ q, va_A (pm_ws G ad σ) H.size q → A q := pm_A1 hD hS hA
  have hM := pm_metX (ad := ad) H.size h1 hlt (As := .ref b :: As) (by simpa using h10) (by simpa [pm_cat1, Value.category] using h8) hwf ih
  have hrun := pm_runVX (As := As.map (pv ad)) (rest := st.map (pv ad)) (g := F0 m pc real ((As.reverse ++ .ref b :: st).map (pv ad))) (cells := cu) (slots := su) (locs := locs) (e := e) (below := below) (meth := meth) ⟨hx, hb, hml, hown, hts⟩ hM
    (pm_cwV (R := R) hts hR h1 h6 h7 h5) ⟨pm_blind, va_recv hV.1 hP h4.1 (pm_ws0 h2 h3), fun U hU hW => pm_prep hP hD hS hV hA1 hU hW⟩ pm_XR_Q rfl (by simp) (hL.2.1) (by simp [pv]) (lv_room (by rw [pm_cats]; exact h9)) hd ⟨Nat.le_trans h11 hR.2.2.1, Nat.le_trans h12 hR.2.2.2⟩
  subst h15
  refine pm_outW hrun hS hA1 (fun ad' H1 locs1 q ce hag hup hle hhi hP1 hD1 hS1 hwf1 hce hcv hcl => ?_)
  refine pm_leave (by rw [hex, h14]; intro x hx; cases hx) hlocks hce hcv hcl (fun t ht hW => ?_) (fun z hz => hf _ (hS1.2.2 z hz)) h11 h12
  exact hE ad' t ⟨hle, hag, by rw [ht]; exact hP1, hD1, hS1.F ht, hwf1, hhi⟩ hW
theorem so_callSx (l : Launch) (D : va_G) (G : pm_G) : pm_r_callSx (pm_sound l D G) := by
  intro d k pc ls st cu su σ out k2 idx As E σ2 hd h1 h2 h3 h4 h5 h6 h7 h8 h9 h10 h11 ih p e R s m args below meth c H locs A ad real Qc XC free hC hX hL hP hD hS hwf hf hE
  obtain ⟨hx, hb, hr, hml, hown, hts, hlocks, hex, hA, hR, hin, hV, hlt⟩ := id hC
  have hA1 : ∀ q, va_A (pm_ws G ad σ) H.size q → A q := pm_A1 hD hS hA
  have hM := pm_metX (ad := ad) H.size h1 hlt (As := As) h6 h4 hwf ih
  have hrun := pm_runSX (As := As.map (pv ad)) (rest := st.map (pv ad)) (g := F0 m pc real ((As.reverse ++ st).map (pv ad))) (cells := cu) (slots := su) (locs := locs) (e := e) (below := below) (meth := meth) ⟨hx, hb, hml, hown, hts⟩ hM
    (pm_cwS (R := R) hts hR h1 h2 h3) ⟨pm_blind, fun U hU hW => pm_prep hP hD hS hV hA1 hU hW⟩ pm_XR_Q rfl (by simp) (hL.2.1) (by simp) (lv_room (by rw [pm_cats]; exact h5)) hd ⟨Nat.le_trans h7 hR.2.2.1, Nat.le_trans h8 hR.2.2.2⟩
  subst h11
  refine pm_outW hrun hS hA1 (fun ad' H1 locs1 q ce hag hup hle hhi hP1 hD1 hS1 hwf1 hce hcv hcl => ?_)
  refine pm_leave (by rw [hex, h10]; intro x hx; cases hx) hlocks hce hcv hcl (fun t ht hW => ?_) (fun z hz => hf _ (hS1.2.2 z hz)) h7 h8
  exact hE ad' t ⟨hle, hag, by rw [ht]; exact hP1, hD1, hS1.F ht, hwf1, hhi⟩ hW
theorem so_callVc_n (l : Launch) (D : va_G) (G : pm_G) : pm_r_callVc_n (pm_sound l D G) := by
  intro d k pc ls st cu su σ out k2 idx ci b C T N ty As E σ2 hpc i hd h1 h2 h3 h4 h5 h6 h7 h8 h9 h10 h11 h12 h13 h14 h15 h16 h17 ih ih2 p e R s m args below meth c H locs A ad real Qc XC free hC hX hL hP hD hS hwf hf hE
  obtain ⟨hx, hb, hr, hml, hown, hts, hlocks, hex, hA, hR, hin, hV, hlt⟩ := id hC
  have hA1 : ∀ q, va_A (pm_ws G ad σ) H.size q → A q := pm_A1 hD hS hA
  have hM := pm_metX (ad := ad) H.size h1 hlt (As := .ref b :: As) (by simpa using h10) (by simpa [pm_cat1, Value.category] using h8) hwf ih
  have hrun := pm_runVX (As := As.map (pv ad)) (rest := st.map (pv ad)) (g := F0 m pc real ((As.reverse ++ .ref b :: st).map (pv ad))) (cells := cu) (slots := su) (locs := locs) (e := e) (below := below) (meth := meth) ⟨hx, hb, hml, hown, hts⟩ hM
    (pm_cwV (R := R) hts hR h1 h6 h7 h5) ⟨pm_blind, va_recv hV.1 hP h4.1 (pm_ws0 h2 h3), fun U hU hW => pm_prep hP hD hS hV hA1 hU hW⟩ pm_XR_Q rfl (by simp) (hL.2.1) (by simp [pv]) (lv_room (by rw [pm_cats]; exact h9)) hd ⟨Nat.le_trans h11 hR.2.2.1, Nat.le_trans h12 hR.2.2.2⟩
  refine pm_outW hrun hS hA1 (fun ad' H1 locs1 q ce hag hup hle hhi hP1 hD1 hS1 hwf1 hce hcv hcl => ?_)
  obtain ⟨pre, x, suf, z1, z2, z3, z4, z5, nm, z6, z7, z8⟩ := h14
  subst z7
  refine pm_catch hown pre x suf (hex.trans z1) (fun z hz => (z2 z hz).imp_right (fun ⟨g1, n1, g2, g3⟩ => ⟨g1, n1, hts _ g2, hV.2.2.2.2.1 _ g3⟩)) z3 z4 (hts _ z6) (pm_der_cast (hts _ z8)) hce hcv hcl ?_
  rw [z5]
  refine lv_astore_n hx hb h15 rfl hL.2 (by rw [← hL.1]; exact h16) rfl (fun real' hq => ?_)
  exact ih2 p e R s m args below meth c H1 locs1 A ad' real' Qc XC free hC (pm_X_call hwf1 hup hhi hX) (pm_kill (pm_loc_ad hag (hup 1000 hwf1.1) h13 hL) h17 (by rw [pm_lv_ad hag (hup 1000 hwf1.1) h13]; exact hq)) hP1 hD1 hS1 hwf1 hf (pm_end_call hag hle hhi hE)
theorem so_callVc (l : Launch) (D : va_G) (G : pm_G) : pm_r_callVc (pm_sound l D G) := by
  intro d k pc ls st cu su σ out k2 idx ci b C T N ty As E σ2 hpc i hd h1 h2 h3 h4 h5 h6 h7 h8 h9 h10 h11 h12 h13 h14 h15 h16 h17 ih ih2 p e R s m args below meth c H locs A ad real Qc XC free hC hX hL hP hD hS hwf hf hE
  obtain ⟨hx, hb, hr, hml, hown, hts, hlocks, hex, hA, hR, hin, hV, hlt⟩ := id hC
  have hA1 : ∀ q, va_A (pm_ws G ad σ) H.size q → A q := pm_A1 hD hS hA
  have hM := pm_metX (ad := ad) H.size h1 hlt (As := .ref b :: As) (by simpa using h10) (by simpa [pm_cat1, Value.category] using h8) hwf ih
  have hrun := pm_runVX (As := As.map (pv ad)) (rest := st.map (pv ad)) (g := F0 m pc real ((As.reverse ++ .ref b :: st).map (pv ad))) (cells := cu) (slots := su) (locs := locs) (e := e) (below := below) (meth := meth) ⟨hx, hb, hml, hown, hts⟩ hM
    (pm_cwV (R := R) hts hR h1 h6 h7 h5) ⟨pm_blind, va_recv hV.1 hP h4.1 (pm_ws0 h2 h3), fun U hU hW => pm_prep hP hD hS hV hA1 hU hW⟩ pm_XR_Q rfl (by simp) (hL.2.1) (by simp [pv]) (lv_room (by rw [pm_cats]; exact h9)) hd ⟨Nat.le_trans h11 hR.2.2.1, Nat.le_trans h12 hR.2.2.2⟩
  refine pm_outW hrun hS hA1 (fun ad' H1 locs1 q ce hag hup hle hhi hP1 hD1 hS1 hwf1 hce hcv hcl => ?_)
  obtain ⟨pre, x, suf, z1, z2, z3, z4, z5, nm, z6, z7, z8⟩ := h14
  subst z7
  refine pm_catch hown pre x suf (hex.trans z1) (fun z hz => (z2 z hz).imp_right (fun ⟨g1, n1, g2, g3⟩ => ⟨g1, n1, hts _ g2, hV.2.2.2.2.1 _ g3⟩)) z3 z4 (hts _ z6) (pm_der_cast (hts _ z8)) hce hcv hcl ?_
  rw [z5]
  refine lv_astore hx hb h15 hL.2 (by rw [← hL.1]; exact h16) rfl (fun real' hq => ?_)
  exact ih2 p e R s m args below meth c H1 locs1 A ad' real' Qc XC free hC (pm_X_call hwf1 hup hhi hX) (pm_kill (pm_loc_ad hag (hup 1000 hwf1.1) h13 hL) h17 (by rw [pm_lv_ad hag (hup 1000 hwf1.1) h13]; exact hq)) hP1 hD1 hS1 hwf1 hf (pm_end_call hag hle hhi hE)
theorem so_throwS (l : Launch) (D : va_G) (G : pm_G) : pm_r_throwS (pm_sound l D G) := by
  intro d k pc ls st cu su σ out E text nms ik is ic hd h1 h2 h3 h4 h5 h6 h7 h8 h9 h10 h11 p e R s m args below meth c H locs A ad real Qc XC free hC hX hL hP hD hS hwf hf hE
  obtain ⟨hx, hb, hr, hml, hown, hts, hlocks, hex, hA, hR, hin, hV, hlt⟩ := id hC
  subst h11
  intro T hT X
  have hW1 : s.WarmedH ((T.setVm s.vm).setFrames (.invoking m args :: below)).vm := State.WarmedH.refl s
  have hV1 := pm_env_at (A1 := A) (U := (T.setVm s.vm).setFrames (.invoking m args :: below)) hV hS (fun _ z => z) hT hW1
  obtain ⟨sa, hsa⟩ := hV.2.2.2.1 _ h5.2.2.2.2.2.1
  obtain ⟨t, ce, a1, b1, b2, b3, b4, b5, b6, b7, b8, b9⟩ := pm_threw (k := k) (sa := sa) (pc := pc) (real := real) (rest := st.map (pv ad)) X hx hb hlt hown hts h5 (pm_spec_at hV1) hsa (hL.2.1.trans hml.symm) (by rw [hex, h6]; intro x hx; cases hx) hlocks hd h1 h2 h3 h4 (Nat.lt_of_lt_of_le h7 hR.1) (by rw [pm_cats]; omega) (Nat.le_trans h9 hR.2.2.1) (Nat.le_trans h10 hR.2.2.2)
  rw [hT] at b8 b9
  exact ⟨t, a1, _, ce, locs, b1, b2, hE ad t (pm_post_thrown hP hD hS hwf b8 b9) b6.alike, b3, b4, b5, b6, b7.mono h9 h10, fun z hz => hf _ (hS.2.2 z hz)⟩
