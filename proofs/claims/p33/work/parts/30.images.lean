set_option maxHeartbeats 4000000 in
set_option maxRecDepth 100000 in
theorem cy_X10_copyFrom_x_13_10 (l : Launch) (D : va_G) (cA : Nat → ClassId) (L : List Nat) (T : Nat → Nat) (r : Rg) (hG : GR L T r) (hL : L.Nodup) (σ : Sg) (ρ : Lg) (hW : WT L ry T σ) (sz : Nat) (h0 : Nat) (mh0 : h0 ∈ L) (th0 : T h0 = 13) (h1 : Nat) (mh1 : h1 ∈ L) (th1 : T h1 = 10) : Met l yX10_copyFrom (.code yX10_copyFrom cX10_copyFrom 2 none :: wsA) ({ frames := 3, cells := 0, slots := 0, locals := 142 }) (PR D cA L T r σ ρ sz [.ref h0, .ref h1]) (QV D cA L T r ry [(13, 6), (13, 7), (13, 8), (18, 6), (18, 7), (18, 8), (18, 9), (18, 10), (86, 1000), (87, 1000), (88, 1000), (89, 1000), (95, 1000), (96, 1000), (97, 1000), (98, 1000), (99, 1000), (105, 6), (105, 7), (106, 6), (106, 7), (137, 1000), (138, 1000), (139, 1000), (140, 1000), (141, 1000), (142, 1000), (143, 1000), (144, 1000), (145, 1000), (146, 1000), (147, 1000), (148, 1000)] σ sz (fun σ1 => (σ1 h0 8 = σ h1 8))) 0 0 (dm L sz) := by
  refine Met.ofW (cc := cX10_copyFrom) (maxL := 2) (ret := none) (by decide) rfl ?_
  intro p e s m args below meth c s₁ B hml hv
  obtain ⟨rfl, hsz, hP, hK, hN⟩ := hv
  have hx := B.exec
  have hb := B.bytes
  have hr := B.returns
  have hts : ∀ w ∈ wsA, w.before _ s = true := fun w h => atoms_spec (ws := .code yX10_copyFrom cX10_copyFrom 2 none :: wsA) B.pre w (List.mem_cons_of_mem _ h)
  have hown : s.vm.findClass RX10 = some m.cls := findClass_of_methodNamed B.named
  subst hsz
  have hLA : LA (dm L s.heap.size) L := ⟨hL, fun a h => Or.inl h⟩
  have hA : ∀ q : Nat, s.heap.size ≤ q → dm L s.heap.size q := fun q h => Or.inr h
  have hS : va_S (dm L s.heap.size) s.heap s.heap [] := va_S.rf
  have hB : TS D cA L T r ry [(13, 6), (13, 7), (13, 8), (18, 6), (18, 7), (18, 8), (18, 9), (18, 10), (86, 1000), (87, 1000), (88, 1000), (89, 1000), (95, 1000), (96, 1000), (97, 1000), (98, 1000), (99, 1000), (105, 6), (105, 7), (106, 6), (106, 7), (137, 1000), (138, 1000), (139, 1000), (140, 1000), (141, 1000), (142, 1000), (143, 1000), (144, 1000), (145, 1000), (146, 1000), (147, 1000), (148, 1000)] σ σ ρ s.heap := ⟨hP, hW, FR.rf⟩
  have hl := lv_entry ([.ref h0, .ref h1]) (n := 2) (Nat.le_of_ble_eq_true rfl)
  rw [lg_entry_eq]
  generalize (lg_sl ([.ref h0, .ref h1]) ++ List.replicate (2 - (lg_sl ([.ref h0, .ref h1])).length) Slot.unset).toArray = ls at hl ⊢
  have hl : lv_has ls 2 [(0, .ref h0), (1, .ref h1)] := hl
  have w_1 : (-2147483648) ≤ (σ h1 8).toInt ∧ (σ h1 8).toInt ≤ 2147483647 := by have z := hB.2.1 h1 mh1 8; rw [th1] at z; exact z
  refine lv_aload_n hx hb dX10_copyFrom_0 rfl (lv_at hl 0 rfl) ?_
  refine t_gr hx hb hts hown hK hG hB mh0 th0 fq_13_0 rfl mw_1_233 dX10_copyFrom_1 (fun b_2 hb_2 mb_2 tb_2 => ?_)
  refine lv_aload_n hx hb dX10_copyFrom_4 rfl (lv_at hl 1 rfl) ?_
  refine t_gr hx hb hts hown hK hG hB mh1 th1 fq_10_0 rfl mw_1_233 dX10_copyFrom_5 (fun b_3 hb_3 mb_3 tb_3 => ?_)
  refine t_cv (va_runV (As := [.ref b_3]) (rest := []) ⟨hx, hb, hml, hown, hts⟩ (cy_X3_copyFrom_18_3 l D cA L T r hG hLA.1 σ ρ hB.2.1 _ b_2 mb_2 tb_2 b_3 mb_3 tb_3) (cV hts mv_X3_copyFrom mw_3_233 rfl rfl ⟨Nat.le_of_ble_eq_true rfl, Nat.le_of_ble_eq_true rfl⟩) (pV hB.1 hK hN mb_2 tb_2 (show shp cA 18 _ _ _ = .inr (3, Fs3 _ _ _) from rfl) rfl) rfl rfl hl.1 rfl (lv_room (Nat.le_of_ble_eq_true rfl)) dX10_copyFrom_8 ⟨Nat.le_of_ble_eq_true rfl, Nat.le_of_ble_eq_true rfl⟩) hLA hA hB hS (by decide) (fun σ_4 ρ_5 H locs hB fσ_4 pσ_4 hS => ?_)
  refine lv_aload_n hx hb dX10_copyFrom_11 rfl (lv_at hl 0 rfl) ?_
  refine t_gr hx hb hts hown hK hG hB mh0 th0 fq_13_1 rfl mw_1_237 dX10_copyFrom_12 (fun b_7 hb_7 mb_7 tb_7 => ?_)
  refine lv_aload_n hx hb dX10_copyFrom_15 rfl (lv_at hl 1 rfl) ?_
  refine t_gr hx hb hts hown hK hG hB mh1 th1 fq_10_1 rfl mw_1_237 dX10_copyFrom_16 (fun b_8 hb_8 mb_8 tb_8 => ?_)
  refine t_cv (va_runV (As := [.ref b_8]) (rest := []) ⟨hx, hb, hml, hown, hts⟩ (cy_X8_copyFrom_105_8 l D cA L T r hG hLA.1 σ_4 ρ_5 hB.2.1 _ b_7 mb_7 tb_7 b_8 mb_8 tb_8) (cV hts mv_X8_copyFrom mw_4_5 rfl rfl ⟨Nat.le_of_ble_eq_true rfl, Nat.le_of_ble_eq_true rfl⟩) (pV hB.1 hK hN mb_7 tb_7 (show shp cA 105 _ _ _ = .inr (8, Fs8 _ _ _) from rfl) rfl) rfl rfl hl.1 rfl (lv_room (Nat.le_of_ble_eq_true rfl)) dX10_copyFrom_19 ⟨Nat.le_of_ble_eq_true rfl, Nat.le_of_ble_eq_true rfl⟩) hLA hA hB hS (by decide) (fun σ_9 ρ_10 H locs hB fσ_9 pσ_9 hS => ?_)
  refine lv_aload_n hx hb dX10_copyFrom_22 rfl (lv_at hl 1 rfl) ?_
  refine t_gr hx hb hts hown hK hG hB mh1 th1 fq_10_2 rfl mw_2_0 dX10_copyFrom_23 (fun b_12 hb_12 mb_12 tb_12 => ?_)
  refine lv_iconst (v := 0) hx hb dX10_copyFrom_26 (by decide) ?_
  refine lv_aload_n hx hb dX10_copyFrom_27 rfl (lv_at hl 0 rfl) ?_
  refine t_gr hx hb hts hown hK hG hB mh0 th0 fq_13_2 rfl mw_2_0 dX10_copyFrom_28 (fun b_13 hb_13 mb_13 tb_13 => ?_)
  refine lv_iconst (v := 0) hx hb dX10_copyFrom_31 (by decide) ?_
  refine lv_iconst (v := 5) hx hb dX10_copyFrom_32 (by decide) ?_
  refine t_cp (lo := 0) (hi := 9) hx hb (hml.trans hl.1.symm) hts hown mw_5_205 ⟨mw_3_239, mw_3_238, mw_1_20⟩ hK hLA hB hS mb_12 tb_12 ai_55 mb_13 tb_13 ai_86 (fun _ => ⟨show (0 : Int) ≤ 0 by decide, show (9 : Int) ≤ 9 by decide⟩) (fun _ => rfl) (by decide) (by decide) (by decide) (by decide) (by decide) (by decide) (Nat.le_of_ble_eq_true rfl) (Nat.le_of_ble_eq_true rfl) dX10_copyFrom_33 (fun H locs σ_14 eσ_14 hB hS => ?_)
  refine lv_aload_n hx hb dX10_copyFrom_36 rfl (lv_at hl 1 rfl) ?_
  refine t_gr hx hb hts hown hK hG hB mh1 th1 fq_10_3 rfl mw_2_2 dX10_copyFrom_37 (fun b_15 hb_15 mb_15 tb_15 => ?_)
  refine lv_iconst (v := 0) hx hb dX10_copyFrom_40 (by decide) ?_
  refine lv_aload_n hx hb dX10_copyFrom_41 rfl (lv_at hl 0 rfl) ?_
  refine t_gr hx hb hts hown hK hG hB mh0 th0 fq_13_3 rfl mw_2_2 dX10_copyFrom_42 (fun b_16 hb_16 mb_16 tb_16 => ?_)
  refine lv_iconst (v := 0) hx hb dX10_copyFrom_45 (by decide) ?_
  refine lv_bipush (v := 10) hx hb dX10_copyFrom_46 (by decide) ?_
  refine t_cp (lo := 0) (hi := 60) hx hb (hml.trans hl.1.symm) hts hown mw_5_205 ⟨mw_3_239, mw_3_238, mw_1_20⟩ hK hLA hB hS mb_15 tb_15 ai_56 mb_16 tb_16 ai_87 (fun _ => ⟨show (0 : Int) ≤ 0 by decide, show (60 : Int) ≤ 60 by decide⟩) (fun _ => rfl) (by decide) (by decide) (by decide) (by decide) (by decide) (by decide) (Nat.le_of_ble_eq_true rfl) (Nat.le_of_ble_eq_true rfl) dX10_copyFrom_48 (fun H locs σ_17 eσ_17 hB hS => ?_)
  refine lv_aload_n hx hb dX10_copyFrom_51 rfl (lv_at hl 1 rfl) ?_
  refine t_gr hx hb hts hown hK hG hB mh1 th1 fq_10_4 rfl mw_2_5 dX10_copyFrom_52 (fun b_18 hb_18 mb_18 tb_18 => ?_)
  refine lv_iconst (v := 0) hx hb dX10_copyFrom_55 (by decide) ?_
  refine lv_aload_n hx hb dX10_copyFrom_56 rfl (lv_at hl 0 rfl) ?_
  refine t_gr hx hb hts hown hK hG hB mh0 th0 fq_13_4 rfl mw_2_5 dX10_copyFrom_57 (fun b_19 hb_19 mb_19 tb_19 => ?_)
  refine lv_iconst (v := 0) hx hb dX10_copyFrom_60 (by decide) ?_
  refine lv_bipush (v := 10) hx hb dX10_copyFrom_61 (by decide) ?_
  refine t_cp (lo := 0) (hi := 7) hx hb (hml.trans hl.1.symm) hts hown mw_5_205 ⟨mw_3_239, mw_3_238, mw_1_20⟩ hK hLA hB hS mb_18 tb_18 ai_57 mb_19 tb_19 ai_88 (fun _ => ⟨show (0 : Int) ≤ 0 by decide, show (7 : Int) ≤ 7 by decide⟩) (fun _ => rfl) (by decide) (by decide) (by decide) (by decide) (by decide) (by decide) (Nat.le_of_ble_eq_true rfl) (Nat.le_of_ble_eq_true rfl) dX10_copyFrom_63 (fun H locs σ_20 eσ_20 hB hS => ?_)
  refine lv_aload_n hx hb dX10_copyFrom_66 rfl (lv_at hl 1 rfl) ?_
  refine t_gr hx hb hts hown hK hG hB mh1 th1 fq_10_5 rfl mw_2_8 dX10_copyFrom_67 (fun b_21 hb_21 mb_21 tb_21 => ?_)
  refine lv_iconst (v := 0) hx hb dX10_copyFrom_70 (by decide) ?_
  refine lv_aload_n hx hb dX10_copyFrom_71 rfl (lv_at hl 0 rfl) ?_
  refine t_gr hx hb hts hown hK hG hB mh0 th0 fq_13_5 rfl mw_2_8 dX10_copyFrom_72 (fun b_22 hb_22 mb_22 tb_22 => ?_)
  refine lv_iconst (v := 0) hx hb dX10_copyFrom_75 (by decide) ?_
  refine lv_bipush (v := 10) hx hb dX10_copyFrom_76 (by decide) ?_
  refine t_cp (lo := 0) (hi := 4) hx hb (hml.trans hl.1.symm) hts hown mw_5_205 ⟨mw_3_239, mw_3_238, mw_1_20⟩ hK hLA hB hS mb_21 tb_21 ai_58 mb_22 tb_22 ai_89 (fun _ => ⟨show (0 : Int) ≤ 0 by decide, show (4 : Int) ≤ 4 by decide⟩) (fun _ => rfl) (by decide) (by decide) (by decide) (by decide) (by decide) (by decide) (Nat.le_of_ble_eq_true rfl) (Nat.le_of_ble_eq_true rfl) dX10_copyFrom_78 (fun H locs σ_23 eσ_23 hB hS => ?_)
  refine lv_aload_n hx hb dX10_copyFrom_81 rfl (lv_at hl 0 rfl) ?_
  refine lv_aload_n hx hb dX10_copyFrom_82 rfl (lv_at hl 1 rfl) ?_
  refine t_gi hx hb hts hown hK hB mh1 th1 fi_10_6 rfl mw_2_11 dX10_copyFrom_83 (fun x_24 ex_24 lx_24 ux_24 => ?_)
  refine t_pi hx hb hts hown hK hLA hB hS mh0 th0 fi_13_6 rfl rfl rfl (by omega) (by omega) (Or.inl (by decide)) mw_2_11 dX10_copyFrom_86 (fun H locs σ_25 eσ_25 hB hS => ?_)
  have k_26 : σ_25 h0 6 = x_24 := by rw [eσ_25]; exact up2_same _ _ _ _
  refine lv_aload_n hx hb dX10_copyFrom_89 rfl (lv_at hl 0 rfl) ?_
  refine lv_aload_n hx hb dX10_copyFrom_90 rfl (lv_at hl 1 rfl) ?_
  refine t_gi hx hb hts hown hK hB mh1 th1 fi_10_7 rfl mw_2_14 dX10_copyFrom_91 (fun x_27 ex_27 lx_27 ux_27 => ?_)
  refine t_pi hx hb hts hown hK hLA hB hS mh0 th0 fi_13_7 rfl rfl rfl (i_lo _) (i_hi _) (Or.inl (by decide)) mw_2_14 dX10_copyFrom_94 (fun H locs σ_28 eσ_28 hB hS => ?_)
  have k_29 : σ_28 h0 7 = x_27 := by rw [eσ_28]; exact up2_same _ _ _ _
  refine lv_aload_n hx hb dX10_copyFrom_97 rfl (lv_at hl 0 rfl) ?_
  refine lv_aload_n hx hb dX10_copyFrom_98 rfl (lv_at hl 1 rfl) ?_
  have k_30 : σ_4 h1 8 = (σ h1 8) := (FR.at fσ_4 th1 (by decide)).trans rfl
  have k_31 : σ_9 h1 8 = (σ h1 8) := (FR.at fσ_9 th1 (by decide)).trans k_30
  have k_32 : σ_14 h1 8 = (σ h1 8) := by rw [eσ_14, va_up_ne _ _ (tg_ne th1 tb_13 (by decide))]; exact k_31
  have k_33 : σ_17 h1 8 = (σ h1 8) := by rw [eσ_17, va_up_ne _ _ (tg_ne th1 tb_16 (by decide))]; exact k_32
  have k_34 : σ_20 h1 8 = (σ h1 8) := by rw [eσ_20, va_up_ne _ _ (tg_ne th1 tb_19 (by decide))]; exact k_33
  have k_35 : σ_23 h1 8 = (σ h1 8) := by rw [eσ_23, va_up_ne _ _ (tg_ne th1 tb_22 (by decide))]; exact k_34
  have k_36 : σ_25 h1 8 = (σ h1 8) := by rw [eσ_25, up2_nej _ _ (by decide)]; exact k_35
  have k_37 : σ_28 h1 8 = (σ h1 8) := by rw [eσ_28, up2_nej _ _ (by decide)]; exact k_36
  refine t_gv hx hb hts hown hK hB mh1 th1 fi_10_8 k_37 mw_2_16 dX10_copyFrom_99 ?_
  refine t_pi hx hb hts hown hK hLA hB hS mh0 th0 fi_13_8 rfl rfl rfl (i_lo _) (i_hi _) (Or.inl (by decide)) mw_2_16 dX10_copyFrom_102 (fun H locs σ_38 eσ_38 hB hS => ?_)
  have k_39 : σ_38 h0 8 = (σ h1 8) := by rw [eσ_38]; exact up2_same _ _ _ _
  exact W.vret hx hb hr (fun t ht hW => ⟨⟨(σ_38, ρ_10), rfl, ⟨hB.2.1, hB.2.2, (show σ_38 h0 8 = σ h1 8 from k_39)⟩, (show TP D cA L T r σ_38 ρ_10 t.heap from by rw [ht]; exact hB.1)⟩, hS.F ht⟩) hS.2.2 dX10_copyFrom_105
set_option maxHeartbeats 4000000 in
set_option maxRecDepth 100000 in
theorem cy_X10_copyFrom_x_10_13 (l : Launch) (D : va_G) (cA : Nat → ClassId) (L : List Nat) (T : Nat → Nat) (r : Rg) (hG : GR L T r) (hL : L.Nodup) (σ : Sg) (ρ : Lg) (hW : WT L ry T σ) (sz : Nat) (h0 : Nat) (mh0 : h0 ∈ L) (th0 : T h0 = 10) (h1 : Nat) (mh1 : h1 ∈ L) (th1 : T h1 = 13) : Met l yX10_copyFrom (.code yX10_copyFrom cX10_copyFrom 2 none :: wsA) ({ frames := 3, cells := 0, slots := 0, locals := 142 }) (PR D cA L T r σ ρ sz [.ref h0, .ref h1]) (QV D cA L T r ry [(3, 6), (3, 7), (3, 8), (3, 9), (3, 10), (8, 6), (8, 7), (10, 6), (10, 7), (10, 8), (33, 1000), (34, 1000), (35, 1000), (36, 1000), (37, 1000), (45, 1000), (46, 1000), (47, 1000), (48, 1000), (49, 1000), (50, 1000), (55, 1000), (56, 1000), (57, 1000), (58, 1000), (100, 6), (100, 7), (107, 1000), (108, 1000), (109, 1000), (110, 1000), (111, 1000), (112, 1000)] σ sz (fun σ1 => (σ1 h0 8 = σ h1 8))) 0 0 (dm L sz) := by
  refine Met.ofW (cc := cX10_copyFrom) (maxL := 2) (ret := none) (by decide) rfl ?_
  intro p e s m args below meth c s₁ B hml hv
  obtain ⟨rfl, hsz, hP, hK, hN⟩ := hv
  have hx := B.exec
  have hb := B.bytes
  have hr := B.returns
  have hts : ∀ w ∈ wsA, w.before _ s = true := fun w h => atoms_spec (ws := .code yX10_copyFrom cX10_copyFrom 2 none :: wsA) B.pre w (List.mem_cons_of_mem _ h)
  have hown : s.vm.findClass RX10 = some m.cls := findClass_of_methodNamed B.named
  subst hsz
  have hLA : LA (dm L s.heap.size) L := ⟨hL, fun a h => Or.inl h⟩
  have hA : ∀ q : Nat, s.heap.size ≤ q → dm L s.heap.size q := fun q h => Or.inr h
  have hS : va_S (dm L s.heap.size) s.heap s.heap [] := va_S.rf
  have hB : TS D cA L T r ry [(3, 6), (3, 7), (3, 8), (3, 9), (3, 10), (8, 6), (8, 7), (10, 6), (10, 7), (10, 8), (33, 1000), (34, 1000), (35, 1000), (36, 1000), (37, 1000), (45, 1000), (46, 1000), (47, 1000), (48, 1000), (49, 1000), (50, 1000), (55, 1000), (56, 1000), (57, 1000), (58, 1000), (100, 6), (100, 7), (107, 1000), (108, 1000), (109, 1000), (110, 1000), (111, 1000), (112, 1000)] σ σ ρ s.heap := ⟨hP, hW, FR.rf⟩
  have hl := lv_entry ([.ref h0, .ref h1]) (n := 2) (Nat.le_of_ble_eq_true rfl)
  rw [lg_entry_eq]
  generalize (lg_sl ([.ref h0, .ref h1]) ++ List.replicate (2 - (lg_sl ([.ref h0, .ref h1])).length) Slot.unset).toArray = ls at hl ⊢
  have hl : lv_has ls 2 [(0, .ref h0), (1, .ref h1)] := hl
  have w_1 : (-2147483648) ≤ (σ h1 8).toInt ∧ (σ h1 8).toInt ≤ 2147483647 := by have z := hB.2.1 h1 mh1 8; rw [th1] at z; exact z
  refine lv_aload_n hx hb dX10_copyFrom_0 rfl (lv_at hl 0 rfl) ?_
  refine t_gr hx hb hts hown hK hG hB mh0 th0 fq_10_0 rfl mw_1_233 dX10_copyFrom_1 (fun b_2 hb_2 mb_2 tb_2 => ?_)
  refine lv_aload_n hx hb dX10_copyFrom_4 rfl (lv_at hl 1 rfl) ?_
  refine t_gr hx hb hts hown hK hG hB mh1 th1 fq_13_0 rfl mw_1_233 dX10_copyFrom_5 (fun b_3 hb_3 mb_3 tb_3 => ?_)
  refine t_cv (va_runV (As := [.ref b_3]) (rest := []) ⟨hx, hb, hml, hown, hts⟩ (cy_X3_copyFrom_3_18 l D cA L T r hG hLA.1 σ ρ hB.2.1 _ b_2 mb_2 tb_2 b_3 mb_3 tb_3) (cV hts mv_X3_copyFrom mw_3_233 rfl rfl ⟨Nat.le_of_ble_eq_true rfl, Nat.le_of_ble_eq_true rfl⟩) (pV hB.1 hK hN mb_2 tb_2 (show shp cA 3 _ _ _ = .inr (3, Fs3 _ _ _) from rfl) rfl) rfl rfl hl.1 rfl (lv_room (Nat.le_of_ble_eq_true rfl)) dX10_copyFrom_8 ⟨Nat.le_of_ble_eq_true rfl, Nat.le_of_ble_eq_true rfl⟩) hLA hA hB hS (by decide) (fun σ_4 ρ_5 H locs hB fσ_4 pσ_4 hS => ?_)
  refine lv_aload_n hx hb dX10_copyFrom_11 rfl (lv_at hl 0 rfl) ?_
  refine t_gr hx hb hts hown hK hG hB mh0 th0 fq_10_1 rfl mw_1_237 dX10_copyFrom_12 (fun b_7 hb_7 mb_7 tb_7 => ?_)
  refine lv_aload_n hx hb dX10_copyFrom_15 rfl (lv_at hl 1 rfl) ?_
  refine t_gr hx hb hts hown hK hG hB mh1 th1 fq_13_1 rfl mw_1_237 dX10_copyFrom_16 (fun b_8 hb_8 mb_8 tb_8 => ?_)
  refine t_cv (va_runV (As := [.ref b_8]) (rest := []) ⟨hx, hb, hml, hown, hts⟩ (cy_X8_copyFrom_8_105 l D cA L T r hG hLA.1 σ_4 ρ_5 hB.2.1 _ b_7 mb_7 tb_7 b_8 mb_8 tb_8) (cV hts mv_X8_copyFrom mw_4_5 rfl rfl ⟨Nat.le_of_ble_eq_true rfl, Nat.le_of_ble_eq_true rfl⟩) (pV hB.1 hK hN mb_7 tb_7 (show shp cA 8 _ _ _ = .inr (8, Fs8 _ _ _) from rfl) rfl) rfl rfl hl.1 rfl (lv_room (Nat.le_of_ble_eq_true rfl)) dX10_copyFrom_19 ⟨Nat.le_of_ble_eq_true rfl, Nat.le_of_ble_eq_true rfl⟩) hLA hA hB hS (by decide) (fun σ_9 ρ_10 H locs hB fσ_9 pσ_9 hS => ?_)
  refine lv_aload_n hx hb dX10_copyFrom_22 rfl (lv_at hl 1 rfl) ?_
  refine t_gr hx hb hts hown hK hG hB mh1 th1 fq_13_2 rfl mw_2_0 dX10_copyFrom_23 (fun b_12 hb_12 mb_12 tb_12 => ?_)
  refine lv_iconst (v := 0) hx hb dX10_copyFrom_26 (by decide) ?_
  refine lv_aload_n hx hb dX10_copyFrom_27 rfl (lv_at hl 0 rfl) ?_
  refine t_gr hx hb hts hown hK hG hB mh0 th0 fq_10_2 rfl mw_2_0 dX10_copyFrom_28 (fun b_13 hb_13 mb_13 tb_13 => ?_)
  refine lv_iconst (v := 0) hx hb dX10_copyFrom_31 (by decide) ?_
  refine lv_iconst (v := 5) hx hb dX10_copyFrom_32 (by decide) ?_
  refine t_cp (lo := 0) (hi := 9) hx hb (hml.trans hl.1.symm) hts hown mw_5_205 ⟨mw_3_239, mw_3_238, mw_1_20⟩ hK hLA hB hS mb_12 tb_12 ai_86 mb_13 tb_13 ai_55 (fun _ => ⟨show (0 : Int) ≤ 0 by decide, show (9 : Int) ≤ 9 by decide⟩) (fun _ => rfl) (by decide) (by decide) (by decide) (by decide) (by decide) (by decide) (Nat.le_of_ble_eq_true rfl) (Nat.le_of_ble_eq_true rfl) dX10_copyFrom_33 (fun H locs σ_14 eσ_14 hB hS => ?_)
  refine lv_aload_n hx hb dX10_copyFrom_36 rfl (lv_at hl 1 rfl) ?_
  refine t_gr hx hb hts hown hK hG hB mh1 th1 fq_13_3 rfl mw_2_2 dX10_copyFrom_37 (fun b_15 hb_15 mb_15 tb_15 => ?_)
  refine lv_iconst (v := 0) hx hb dX10_copyFrom_40 (by decide) ?_
  refine lv_aload_n hx hb dX10_copyFrom_41 rfl (lv_at hl 0 rfl) ?_
  refine t_gr hx hb hts hown hK hG hB mh0 th0 fq_10_3 rfl mw_2_2 dX10_copyFrom_42 (fun b_16 hb_16 mb_16 tb_16 => ?_)
  refine lv_iconst (v := 0) hx hb dX10_copyFrom_45 (by decide) ?_
  refine lv_bipush (v := 10) hx hb dX10_copyFrom_46 (by decide) ?_
  refine t_cp (lo := 0) (hi := 60) hx hb (hml.trans hl.1.symm) hts hown mw_5_205 ⟨mw_3_239, mw_3_238, mw_1_20⟩ hK hLA hB hS mb_15 tb_15 ai_87 mb_16 tb_16 ai_56 (fun _ => ⟨show (0 : Int) ≤ 0 by decide, show (60 : Int) ≤ 60 by decide⟩) (fun _ => rfl) (by decide) (by decide) (by decide) (by decide) (by decide) (by decide) (Nat.le_of_ble_eq_true rfl) (Nat.le_of_ble_eq_true rfl) dX10_copyFrom_48 (fun H locs σ_17 eσ_17 hB hS => ?_)
  refine lv_aload_n hx hb dX10_copyFrom_51 rfl (lv_at hl 1 rfl) ?_
  refine t_gr hx hb hts hown hK hG hB mh1 th1 fq_13_4 rfl mw_2_5 dX10_copyFrom_52 (fun b_18 hb_18 mb_18 tb_18 => ?_)
  refine lv_iconst (v := 0) hx hb dX10_copyFrom_55 (by decide) ?_
  refine lv_aload_n hx hb dX10_copyFrom_56 rfl (lv_at hl 0 rfl) ?_
  refine t_gr hx hb hts hown hK hG hB mh0 th0 fq_10_4 rfl mw_2_5 dX10_copyFrom_57 (fun b_19 hb_19 mb_19 tb_19 => ?_)
  refine lv_iconst (v := 0) hx hb dX10_copyFrom_60 (by decide) ?_
  refine lv_bipush (v := 10) hx hb dX10_copyFrom_61 (by decide) ?_
  refine t_cp (lo := 0) (hi := 7) hx hb (hml.trans hl.1.symm) hts hown mw_5_205 ⟨mw_3_239, mw_3_238, mw_1_20⟩ hK hLA hB hS mb_18 tb_18 ai_88 mb_19 tb_19 ai_57 (fun _ => ⟨show (0 : Int) ≤ 0 by decide, show (7 : Int) ≤ 7 by decide⟩) (fun _ => rfl) (by decide) (by decide) (by decide) (by decide) (by decide) (by decide) (Nat.le_of_ble_eq_true rfl) (Nat.le_of_ble_eq_true rfl) dX10_copyFrom_63 (fun H locs σ_20 eσ_20 hB hS => ?_)
  refine lv_aload_n hx hb dX10_copyFrom_66 rfl (lv_at hl 1 rfl) ?_
  refine t_gr hx hb hts hown hK hG hB mh1 th1 fq_13_5 rfl mw_2_8 dX10_copyFrom_67 (fun b_21 hb_21 mb_21 tb_21 => ?_)
  refine lv_iconst (v := 0) hx hb dX10_copyFrom_70 (by decide) ?_
  refine lv_aload_n hx hb dX10_copyFrom_71 rfl (lv_at hl 0 rfl) ?_
  refine t_gr hx hb hts hown hK hG hB mh0 th0 fq_10_5 rfl mw_2_8 dX10_copyFrom_72 (fun b_22 hb_22 mb_22 tb_22 => ?_)
  refine lv_iconst (v := 0) hx hb dX10_copyFrom_75 (by decide) ?_
  refine lv_bipush (v := 10) hx hb dX10_copyFrom_76 (by decide) ?_
  refine t_cp (lo := 0) (hi := 4) hx hb (hml.trans hl.1.symm) hts hown mw_5_205 ⟨mw_3_239, mw_3_238, mw_1_20⟩ hK hLA hB hS mb_21 tb_21 ai_89 mb_22 tb_22 ai_58 (fun _ => ⟨show (0 : Int) ≤ 0 by decide, show (4 : Int) ≤ 4 by decide⟩) (fun _ => rfl) (by decide) (by decide) (by decide) (by decide) (by decide) (by decide) (Nat.le_of_ble_eq_true rfl) (Nat.le_of_ble_eq_true rfl) dX10_copyFrom_78 (fun H locs σ_23 eσ_23 hB hS => ?_)
  refine lv_aload_n hx hb dX10_copyFrom_81 rfl (lv_at hl 0 rfl) ?_
  refine lv_aload_n hx hb dX10_copyFrom_82 rfl (lv_at hl 1 rfl) ?_
  refine t_gi hx hb hts hown hK hB mh1 th1 fi_13_6 rfl mw_2_11 dX10_copyFrom_83 (fun x_24 ex_24 lx_24 ux_24 => ?_)
  refine t_pi hx hb hts hown hK hLA hB hS mh0 th0 fi_10_6 rfl rfl rfl (by omega) (by omega) (Or.inl (by decide)) mw_2_11 dX10_copyFrom_86 (fun H locs σ_25 eσ_25 hB hS => ?_)
  have k_26 : σ_25 h0 6 = x_24 := by rw [eσ_25]; exact up2_same _ _ _ _
  refine lv_aload_n hx hb dX10_copyFrom_89 rfl (lv_at hl 0 rfl) ?_
  refine lv_aload_n hx hb dX10_copyFrom_90 rfl (lv_at hl 1 rfl) ?_
  refine t_gi hx hb hts hown hK hB mh1 th1 fi_13_7 rfl mw_2_14 dX10_copyFrom_91 (fun x_27 ex_27 lx_27 ux_27 => ?_)
  refine t_pi hx hb hts hown hK hLA hB hS mh0 th0 fi_10_7 rfl rfl rfl (i_lo _) (i_hi _) (Or.inl (by decide)) mw_2_14 dX10_copyFrom_94 (fun H locs σ_28 eσ_28 hB hS => ?_)
  have k_29 : σ_28 h0 7 = x_27 := by rw [eσ_28]; exact up2_same _ _ _ _
  refine lv_aload_n hx hb dX10_copyFrom_97 rfl (lv_at hl 0 rfl) ?_
  refine lv_aload_n hx hb dX10_copyFrom_98 rfl (lv_at hl 1 rfl) ?_
  have k_30 : σ_4 h1 8 = (σ h1 8) := (FR.at fσ_4 th1 (by decide)).trans rfl
  have k_31 : σ_9 h1 8 = (σ h1 8) := (FR.at fσ_9 th1 (by decide)).trans k_30
  have k_32 : σ_14 h1 8 = (σ h1 8) := by rw [eσ_14, va_up_ne _ _ (tg_ne th1 tb_13 (by decide))]; exact k_31
  have k_33 : σ_17 h1 8 = (σ h1 8) := by rw [eσ_17, va_up_ne _ _ (tg_ne th1 tb_16 (by decide))]; exact k_32
  have k_34 : σ_20 h1 8 = (σ h1 8) := by rw [eσ_20, va_up_ne _ _ (tg_ne th1 tb_19 (by decide))]; exact k_33
  have k_35 : σ_23 h1 8 = (σ h1 8) := by rw [eσ_23, va_up_ne _ _ (tg_ne th1 tb_22 (by decide))]; exact k_34
  have k_36 : σ_25 h1 8 = (σ h1 8) := by rw [eσ_25, up2_nej _ _ (by decide)]; exact k_35
  have k_37 : σ_28 h1 8 = (σ h1 8) := by rw [eσ_28, up2_nej _ _ (by decide)]; exact k_36
  refine t_gv hx hb hts hown hK hB mh1 th1 fi_13_8 k_37 mw_2_16 dX10_copyFrom_99 ?_
  refine t_pi hx hb hts hown hK hLA hB hS mh0 th0 fi_10_8 rfl rfl rfl (i_lo _) (i_hi _) (Or.inl (by decide)) mw_2_16 dX10_copyFrom_102 (fun H locs σ_38 eσ_38 hB hS => ?_)
  have k_39 : σ_38 h0 8 = (σ h1 8) := by rw [eσ_38]; exact up2_same _ _ _ _
  exact W.vret hx hb hr (fun t ht hW => ⟨⟨(σ_38, ρ_10), rfl, ⟨hB.2.1, hB.2.2, (show σ_38 h0 8 = σ h1 8 from k_39)⟩, (show TP D cA L T r σ_38 ρ_10 t.heap from by rw [ht]; exact hB.1)⟩, hS.F ht⟩) hS.2.2 dX10_copyFrom_105
set_option maxHeartbeats 4000000 in
set_option maxRecDepth 100000 in
theorem cy_X10_copyFrom_x_14_10 (l : Launch) (D : va_G) (cA : Nat → ClassId) (L : List Nat) (T : Nat → Nat) (r : Rg) (hG : GR L T r) (hL : L.Nodup) (σ : Sg) (ρ : Lg) (hW : WT L ry T σ) (sz : Nat) (h0 : Nat) (mh0 : h0 ∈ L) (th0 : T h0 = 14) (h1 : Nat) (mh1 : h1 ∈ L) (th1 : T h1 = 10) : Met l yX10_copyFrom (.code yX10_copyFrom cX10_copyFrom 2 none :: wsA) ({ frames := 3, cells := 0, slots := 0, locals := 142 }) (PR D cA L T r σ ρ sz [.ref h0, .ref h1]) (QV D cA L T r ry [(14, 6), (14, 7), (14, 8), (18, 6), (18, 7), (18, 8), (18, 9), (18, 10), (86, 1000), (87, 1000), (88, 1000), (89, 1000), (95, 1000), (96, 1000), (97, 1000), (98, 1000), (99, 1000), (105, 6), (105, 7), (106, 6), (106, 7), (137, 1000), (138, 1000), (139, 1000), (140, 1000), (141, 1000), (142, 1000), (143, 1000), (144, 1000), (145, 1000), (146, 1000), (147, 1000), (148, 1000)] σ sz (fun σ1 => (σ1 h0 8 = σ h1 8))) 0 0 (dm L sz) := by
  refine Met.ofW (cc := cX10_copyFrom) (maxL := 2) (ret := none) (by decide) rfl ?_
  intro p e s m args below meth c s₁ B hml hv
  obtain ⟨rfl, hsz, hP, hK, hN⟩ := hv
  have hx := B.exec
  have hb := B.bytes
  have hr := B.returns
  have hts : ∀ w ∈ wsA, w.before _ s = true := fun w h => atoms_spec (ws := .code yX10_copyFrom cX10_copyFrom 2 none :: wsA) B.pre w (List.mem_cons_of_mem _ h)
  have hown : s.vm.findClass RX10 = some m.cls := findClass_of_methodNamed B.named
  subst hsz
  have hLA : LA (dm L s.heap.size) L := ⟨hL, fun a h => Or.inl h⟩
  have hA : ∀ q : Nat, s.heap.size ≤ q → dm L s.heap.size q := fun q h => Or.inr h
  have hS : va_S (dm L s.heap.size) s.heap s.heap [] := va_S.rf
  have hB : TS D cA L T r ry [(14, 6), (14, 7), (14, 8), (18, 6), (18, 7), (18, 8), (18, 9), (18, 10), (86, 1000), (87, 1000), (88, 1000), (89, 1000), (95, 1000), (96, 1000), (97, 1000), (98, 1000), (99, 1000), (105, 6), (105, 7), (106, 6), (106, 7), (137, 1000), (138, 1000), (139, 1000), (140, 1000), (141, 1000), (142, 1000), (143, 1000), (144, 1000), (145, 1000), (146, 1000), (147, 1000), (148, 1000)] σ σ ρ s.heap := ⟨hP, hW, FR.rf⟩
  have hl := lv_entry ([.ref h0, .ref h1]) (n := 2) (Nat.le_of_ble_eq_true rfl)
  rw [lg_entry_eq]
  generalize (lg_sl ([.ref h0, .ref h1]) ++ List.replicate (2 - (lg_sl ([.ref h0, .ref h1])).length) Slot.unset).toArray = ls at hl ⊢
  have hl : lv_has ls 2 [(0, .ref h0), (1, .ref h1)] := hl
  have w_1 : (-2147483648) ≤ (σ h1 8).toInt ∧ (σ h1 8).toInt ≤ 2147483647 := by have z := hB.2.1 h1 mh1 8; rw [th1] at z; exact z
  refine lv_aload_n hx hb dX10_copyFrom_0 rfl (lv_at hl 0 rfl) ?_
  refine t_gr hx hb hts hown hK hG hB mh0 th0 fq_14_0 rfl mw_1_233 dX10_copyFrom_1 (fun b_2 hb_2 mb_2 tb_2 => ?_)
  refine lv_aload_n hx hb dX10_copyFrom_4 rfl (lv_at hl 1 rfl) ?_
  refine t_gr hx hb hts hown hK hG hB mh1 th1 fq_10_0 rfl mw_1_233 dX10_copyFrom_5 (fun b_3 hb_3 mb_3 tb_3 => ?_)
  refine t_cv (va_runV (As := [.ref b_3]) (rest := []) ⟨hx, hb, hml, hown, hts⟩ (cy_X3_copyFrom_18_3 l D cA L T r hG hLA.1 σ ρ hB.2.1 _ b_2 mb_2 tb_2 b_3 mb_3 tb_3) (cV hts mv_X3_copyFrom mw_3_233 rfl rfl ⟨Nat.le_of_ble_eq_true rfl, Nat.le_of_ble_eq_true rfl⟩) (pV hB.1 hK hN mb_2 tb_2 (show shp cA 18 _ _ _ = .inr (3, Fs3 _ _ _) from rfl) rfl) rfl rfl hl.1 rfl (lv_room (Nat.le_of_ble_eq_true rfl)) dX10_copyFrom_8 ⟨Nat.le_of_ble_eq_true rfl, Nat.le_of_ble_eq_true rfl⟩) hLA hA hB hS (by decide) (fun σ_4 ρ_5 H locs hB fσ_4 pσ_4 hS => ?_)
  refine lv_aload_n hx hb dX10_copyFrom_11 rfl (lv_at hl 0 rfl) ?_
  refine t_gr hx hb hts hown hK hG hB mh0 th0 fq_14_1 rfl mw_1_237 dX10_copyFrom_12 (fun b_7 hb_7 mb_7 tb_7 => ?_)
  refine lv_aload_n hx hb dX10_copyFrom_15 rfl (lv_at hl 1 rfl) ?_
  refine t_gr hx hb hts hown hK hG hB mh1 th1 fq_10_1 rfl mw_1_237 dX10_copyFrom_16 (fun b_8 hb_8 mb_8 tb_8 => ?_)
  refine t_cv (va_runV (As := [.ref b_8]) (rest := []) ⟨hx, hb, hml, hown, hts⟩ (cy_X8_copyFrom_105_8 l D cA L T r hG hLA.1 σ_4 ρ_5 hB.2.1 _ b_7 mb_7 tb_7 b_8 mb_8 tb_8) (cV hts mv_X8_copyFrom mw_4_5 rfl rfl ⟨Nat.le_of_ble_eq_true rfl, Nat.le_of_ble_eq_true rfl⟩) (pV hB.1 hK hN mb_7 tb_7 (show shp cA 105 _ _ _ = .inr (8, Fs8 _ _ _) from rfl) rfl) rfl rfl hl.1 rfl (lv_room (Nat.le_of_ble_eq_true rfl)) dX10_copyFrom_19 ⟨Nat.le_of_ble_eq_true rfl, Nat.le_of_ble_eq_true rfl⟩) hLA hA hB hS (by decide) (fun σ_9 ρ_10 H locs hB fσ_9 pσ_9 hS => ?_)
  refine lv_aload_n hx hb dX10_copyFrom_22 rfl (lv_at hl 1 rfl) ?_
  refine t_gr hx hb hts hown hK hG hB mh1 th1 fq_10_2 rfl mw_2_0 dX10_copyFrom_23 (fun b_12 hb_12 mb_12 tb_12 => ?_)
  refine lv_iconst (v := 0) hx hb dX10_copyFrom_26 (by decide) ?_
  refine lv_aload_n hx hb dX10_copyFrom_27 rfl (lv_at hl 0 rfl) ?_
  refine t_gr hx hb hts hown hK hG hB mh0 th0 fq_14_2 rfl mw_2_0 dX10_copyFrom_28 (fun b_13 hb_13 mb_13 tb_13 => ?_)
  refine lv_iconst (v := 0) hx hb dX10_copyFrom_31 (by decide) ?_
  refine lv_iconst (v := 5) hx hb dX10_copyFrom_32 (by decide) ?_
  refine t_cp (lo := 0) (hi := 9) hx hb (hml.trans hl.1.symm) hts hown mw_5_205 ⟨mw_3_239, mw_3_238, mw_1_20⟩ hK hLA hB hS mb_12 tb_12 ai_55 mb_13 tb_13 ai_86 (fun _ => ⟨show (0 : Int) ≤ 0 by decide, show (9 : Int) ≤ 9 by decide⟩) (fun _ => rfl) (by decide) (by decide) (by decide) (by decide) (by decide) (by decide) (Nat.le_of_ble_eq_true rfl) (Nat.le_of_ble_eq_true rfl) dX10_copyFrom_33 (fun H locs σ_14 eσ_14 hB hS => ?_)
  refine lv_aload_n hx hb dX10_copyFrom_36 rfl (lv_at hl 1 rfl) ?_
  refine t_gr hx hb hts hown hK hG hB mh1 th1 fq_10_3 rfl mw_2_2 dX10_copyFrom_37 (fun b_15 hb_15 mb_15 tb_15 => ?_)
  refine lv_iconst (v := 0) hx hb dX10_copyFrom_40 (by decide) ?_
  refine lv_aload_n hx hb dX10_copyFrom_41 rfl (lv_at hl 0 rfl) ?_
  refine t_gr hx hb hts hown hK hG hB mh0 th0 fq_14_3 rfl mw_2_2 dX10_copyFrom_42 (fun b_16 hb_16 mb_16 tb_16 => ?_)
  refine lv_iconst (v := 0) hx hb dX10_copyFrom_45 (by decide) ?_
  refine lv_bipush (v := 10) hx hb dX10_copyFrom_46 (by decide) ?_
  refine t_cp (lo := 0) (hi := 60) hx hb (hml.trans hl.1.symm) hts hown mw_5_205 ⟨mw_3_239, mw_3_238, mw_1_20⟩ hK hLA hB hS mb_15 tb_15 ai_56 mb_16 tb_16 ai_87 (fun _ => ⟨show (0 : Int) ≤ 0 by decide, show (60 : Int) ≤ 60 by decide⟩) (fun _ => rfl) (by decide) (by decide) (by decide) (by decide) (by decide) (by decide) (Nat.le_of_ble_eq_true rfl) (Nat.le_of_ble_eq_true rfl) dX10_copyFrom_48 (fun H locs σ_17 eσ_17 hB hS => ?_)
  refine lv_aload_n hx hb dX10_copyFrom_51 rfl (lv_at hl 1 rfl) ?_
  refine t_gr hx hb hts hown hK hG hB mh1 th1 fq_10_4 rfl mw_2_5 dX10_copyFrom_52 (fun b_18 hb_18 mb_18 tb_18 => ?_)
  refine lv_iconst (v := 0) hx hb dX10_copyFrom_55 (by decide) ?_
  refine lv_aload_n hx hb dX10_copyFrom_56 rfl (lv_at hl 0 rfl) ?_
  refine t_gr hx hb hts hown hK hG hB mh0 th0 fq_14_4 rfl mw_2_5 dX10_copyFrom_57 (fun b_19 hb_19 mb_19 tb_19 => ?_)
  refine lv_iconst (v := 0) hx hb dX10_copyFrom_60 (by decide) ?_
  refine lv_bipush (v := 10) hx hb dX10_copyFrom_61 (by decide) ?_
  refine t_cp (lo := 0) (hi := 7) hx hb (hml.trans hl.1.symm) hts hown mw_5_205 ⟨mw_3_239, mw_3_238, mw_1_20⟩ hK hLA hB hS mb_18 tb_18 ai_57 mb_19 tb_19 ai_88 (fun _ => ⟨show (0 : Int) ≤ 0 by decide, show (7 : Int) ≤ 7 by decide⟩) (fun _ => rfl) (by decide) (by decide) (by decide) (by decide) (by decide) (by decide) (Nat.le_of_ble_eq_true rfl) (Nat.le_of_ble_eq_true rfl) dX10_copyFrom_63 (fun H locs σ_20 eσ_20 hB hS => ?_)
  refine lv_aload_n hx hb dX10_copyFrom_66 rfl (lv_at hl 1 rfl) ?_
  refine t_gr hx hb hts hown hK hG hB mh1 th1 fq_10_5 rfl mw_2_8 dX10_copyFrom_67 (fun b_21 hb_21 mb_21 tb_21 => ?_)
  refine lv_iconst (v := 0) hx hb dX10_copyFrom_70 (by decide) ?_
  refine lv_aload_n hx hb dX10_copyFrom_71 rfl (lv_at hl 0 rfl) ?_
  refine t_gr hx hb hts hown hK hG hB mh0 th0 fq_14_5 rfl mw_2_8 dX10_copyFrom_72 (fun b_22 hb_22 mb_22 tb_22 => ?_)
  refine lv_iconst (v := 0) hx hb dX10_copyFrom_75 (by decide) ?_
  refine lv_bipush (v := 10) hx hb dX10_copyFrom_76 (by decide) ?_
  refine t_cp (lo := 0) (hi := 4) hx hb (hml.trans hl.1.symm) hts hown mw_5_205 ⟨mw_3_239, mw_3_238, mw_1_20⟩ hK hLA hB hS mb_21 tb_21 ai_58 mb_22 tb_22 ai_89 (fun _ => ⟨show (0 : Int) ≤ 0 by decide, show (4 : Int) ≤ 4 by decide⟩) (fun _ => rfl) (by decide) (by decide) (by decide) (by decide) (by decide) (by decide) (Nat.le_of_ble_eq_true rfl) (Nat.le_of_ble_eq_true rfl) dX10_copyFrom_78 (fun H locs σ_23 eσ_23 hB hS => ?_)
  refine lv_aload_n hx hb dX10_copyFrom_81 rfl (lv_at hl 0 rfl) ?_
  refine lv_aload_n hx hb dX10_copyFrom_82 rfl (lv_at hl 1 rfl) ?_
  refine t_gi hx hb hts hown hK hB mh1 th1 fi_10_6 rfl mw_2_11 dX10_copyFrom_83 (fun x_24 ex_24 lx_24 ux_24 => ?_)
  refine t_pi hx hb hts hown hK hLA hB hS mh0 th0 fi_14_6 rfl rfl rfl (by omega) (by omega) (Or.inl (by decide)) mw_2_11 dX10_copyFrom_86 (fun H locs σ_25 eσ_25 hB hS => ?_)
  have k_26 : σ_25 h0 6 = x_24 := by rw [eσ_25]; exact up2_same _ _ _ _
  refine lv_aload_n hx hb dX10_copyFrom_89 rfl (lv_at hl 0 rfl) ?_
  refine lv_aload_n hx hb dX10_copyFrom_90 rfl (lv_at hl 1 rfl) ?_
  refine t_gi hx hb hts hown hK hB mh1 th1 fi_10_7 rfl mw_2_14 dX10_copyFrom_91 (fun x_27 ex_27 lx_27 ux_27 => ?_)
  refine t_pi hx hb hts hown hK hLA hB hS mh0 th0 fi_14_7 rfl rfl rfl (i_lo _) (i_hi _) (Or.inl (by decide)) mw_2_14 dX10_copyFrom_94 (fun H locs σ_28 eσ_28 hB hS => ?_)
  have k_29 : σ_28 h0 7 = x_27 := by rw [eσ_28]; exact up2_same _ _ _ _
  refine lv_aload_n hx hb dX10_copyFrom_97 rfl (lv_at hl 0 rfl) ?_
  refine lv_aload_n hx hb dX10_copyFrom_98 rfl (lv_at hl 1 rfl) ?_
  have k_30 : σ_4 h1 8 = (σ h1 8) := (FR.at fσ_4 th1 (by decide)).trans rfl
  have k_31 : σ_9 h1 8 = (σ h1 8) := (FR.at fσ_9 th1 (by decide)).trans k_30
  have k_32 : σ_14 h1 8 = (σ h1 8) := by rw [eσ_14, va_up_ne _ _ (tg_ne th1 tb_13 (by decide))]; exact k_31
  have k_33 : σ_17 h1 8 = (σ h1 8) := by rw [eσ_17, va_up_ne _ _ (tg_ne th1 tb_16 (by decide))]; exact k_32
  have k_34 : σ_20 h1 8 = (σ h1 8) := by rw [eσ_20, va_up_ne _ _ (tg_ne th1 tb_19 (by decide))]; exact k_33
  have k_35 : σ_23 h1 8 = (σ h1 8) := by rw [eσ_23, va_up_ne _ _ (tg_ne th1 tb_22 (by decide))]; exact k_34
  have k_36 : σ_25 h1 8 = (σ h1 8) := by rw [eσ_25, up2_nej _ _ (by decide)]; exact k_35
  have k_37 : σ_28 h1 8 = (σ h1 8) := by rw [eσ_28, up2_nej _ _ (by decide)]; exact k_36
  refine t_gv hx hb hts hown hK hB mh1 th1 fi_10_8 k_37 mw_2_16 dX10_copyFrom_99 ?_
  refine t_pi hx hb hts hown hK hLA hB hS mh0 th0 fi_14_8 rfl rfl rfl (i_lo _) (i_hi _) (Or.inl (by decide)) mw_2_16 dX10_copyFrom_102 (fun H locs σ_38 eσ_38 hB hS => ?_)
  have k_39 : σ_38 h0 8 = (σ h1 8) := by rw [eσ_38]; exact up2_same _ _ _ _
  exact W.vret hx hb hr (fun t ht hW => ⟨⟨(σ_38, ρ_10), rfl, ⟨hB.2.1, hB.2.2, (show σ_38 h0 8 = σ h1 8 from k_39)⟩, (show TP D cA L T r σ_38 ρ_10 t.heap from by rw [ht]; exact hB.1)⟩, hS.F ht⟩) hS.2.2 dX10_copyFrom_105
set_option maxHeartbeats 4000000 in
set_option maxRecDepth 100000 in
theorem cy_X10_copyFrom_x_10_14 (l : Launch) (D : va_G) (cA : Nat → ClassId) (L : List Nat) (T : Nat → Nat) (r : Rg) (hG : GR L T r) (hL : L.Nodup) (σ : Sg) (ρ : Lg) (hW : WT L ry T σ) (sz : Nat) (h0 : Nat) (mh0 : h0 ∈ L) (th0 : T h0 = 10) (h1 : Nat) (mh1 : h1 ∈ L) (th1 : T h1 = 14) : Met l yX10_copyFrom (.code yX10_copyFrom cX10_copyFrom 2 none :: wsA) ({ frames := 3, cells := 0, slots := 0, locals := 142 }) (PR D cA L T r σ ρ sz [.ref h0, .ref h1]) (QV D cA L T r ry [(3, 6), (3, 7), (3, 8), (3, 9), (3, 10), (8, 6), (8, 7), (10, 6), (10, 7), (10, 8), (33, 1000), (34, 1000), (35, 1000), (36, 1000), (37, 1000), (45, 1000), (46, 1000), (47, 1000), (48, 1000), (49, 1000), (50, 1000), (55, 1000), (56, 1000), (57, 1000), (58, 1000), (100, 6), (100, 7), (107, 1000), (108, 1000), (109, 1000), (110, 1000), (111, 1000), (112, 1000)] σ sz (fun σ1 => (σ1 h0 8 = σ h1 8))) 0 0 (dm L sz) := by
  refine Met.ofW (cc := cX10_copyFrom) (maxL := 2) (ret := none) (by decide) rfl ?_
  intro p e s m args below meth c s₁ B hml hv
  obtain ⟨rfl, hsz, hP, hK, hN⟩ := hv
  have hx := B.exec
  have hb := B.bytes
  have hr := B.returns
  have hts : ∀ w ∈ wsA, w.before _ s = true := fun w h => atoms_spec (ws := .code yX10_copyFrom cX10_copyFrom 2 none :: wsA) B.pre w (List.mem_cons_of_mem _ h)
  have hown : s.vm.findClass RX10 = some m.cls := findClass_of_methodNamed B.named
  subst hsz
  have hLA : LA (dm L s.heap.size) L := ⟨hL, fun a h => Or.inl h⟩
  have hA : ∀ q : Nat, s.heap.size ≤ q → dm L s.heap.size q := fun q h => Or.inr h
  have hS : va_S (dm L s.heap.size) s.heap s.heap [] := va_S.rf
  have hB : TS D cA L T r ry [(3, 6), (3, 7), (3, 8), (3, 9), (3, 10), (8, 6), (8, 7), (10, 6), (10, 7), (10, 8), (33, 1000), (34, 1000), (35, 1000), (36, 1000), (37, 1000), (45, 1000), (46, 1000), (47, 1000), (48, 1000), (49, 1000), (50, 1000), (55, 1000), (56, 1000), (57, 1000), (58, 1000), (100, 6), (100, 7), (107, 1000), (108, 1000), (109, 1000), (110, 1000), (111, 1000), (112, 1000)] σ σ ρ s.heap := ⟨hP, hW, FR.rf⟩
  have hl := lv_entry ([.ref h0, .ref h1]) (n := 2) (Nat.le_of_ble_eq_true rfl)
  rw [lg_entry_eq]
  generalize (lg_sl ([.ref h0, .ref h1]) ++ List.replicate (2 - (lg_sl ([.ref h0, .ref h1])).length) Slot.unset).toArray = ls at hl ⊢
  have hl : lv_has ls 2 [(0, .ref h0), (1, .ref h1)] := hl
  have w_1 : (-2147483648) ≤ (σ h1 8).toInt ∧ (σ h1 8).toInt ≤ 2147483647 := by have z := hB.2.1 h1 mh1 8; rw [th1] at z; exact z
  refine lv_aload_n hx hb dX10_copyFrom_0 rfl (lv_at hl 0 rfl) ?_
  refine t_gr hx hb hts hown hK hG hB mh0 th0 fq_10_0 rfl mw_1_233 dX10_copyFrom_1 (fun b_2 hb_2 mb_2 tb_2 => ?_)
  refine lv_aload_n hx hb dX10_copyFrom_4 rfl (lv_at hl 1 rfl) ?_
  refine t_gr hx hb hts hown hK hG hB mh1 th1 fq_14_0 rfl mw_1_233 dX10_copyFrom_5 (fun b_3 hb_3 mb_3 tb_3 => ?_)
  refine t_cv (va_runV (As := [.ref b_3]) (rest := []) ⟨hx, hb, hml, hown, hts⟩ (cy_X3_copyFrom_3_18 l D cA L T r hG hLA.1 σ ρ hB.2.1 _ b_2 mb_2 tb_2 b_3 mb_3 tb_3) (cV hts mv_X3_copyFrom mw_3_233 rfl rfl ⟨Nat.le_of_ble_eq_true rfl, Nat.le_of_ble_eq_true rfl⟩) (pV hB.1 hK hN mb_2 tb_2 (show shp cA 3 _ _ _ = .inr (3, Fs3 _ _ _) from rfl) rfl) rfl rfl hl.1 rfl (lv_room (Nat.le_of_ble_eq_true rfl)) dX10_copyFrom_8 ⟨Nat.le_of_ble_eq_true rfl, Nat.le_of_ble_eq_true rfl⟩) hLA hA hB hS (by decide) (fun σ_4 ρ_5 H locs hB fσ_4 pσ_4 hS => ?_)
  refine lv_aload_n hx hb dX10_copyFrom_11 rfl (lv_at hl 0 rfl) ?_
  refine t_gr hx hb hts hown hK hG hB mh0 th0 fq_10_1 rfl mw_1_237 dX10_copyFrom_12 (fun b_7 hb_7 mb_7 tb_7 => ?_)
  refine lv_aload_n hx hb dX10_copyFrom_15 rfl (lv_at hl 1 rfl) ?_
  refine t_gr hx hb hts hown hK hG hB mh1 th1 fq_14_1 rfl mw_1_237 dX10_copyFrom_16 (fun b_8 hb_8 mb_8 tb_8 => ?_)
  refine t_cv (va_runV (As := [.ref b_8]) (rest := []) ⟨hx, hb, hml, hown, hts⟩ (cy_X8_copyFrom_8_105 l D cA L T r hG hLA.1 σ_4 ρ_5 hB.2.1 _ b_7 mb_7 tb_7 b_8 mb_8 tb_8) (cV hts mv_X8_copyFrom mw_4_5 rfl rfl ⟨Nat.le_of_ble_eq_true rfl, Nat.le_of_ble_eq_true rfl⟩) (pV hB.1 hK hN mb_7 tb_7 (show shp cA 8 _ _ _ = .inr (8, Fs8 _ _ _) from rfl) rfl) rfl rfl hl.1 rfl (lv_room (Nat.le_of_ble_eq_true rfl)) dX10_copyFrom_19 ⟨Nat.le_of_ble_eq_true rfl, Nat.le_of_ble_eq_true rfl⟩) hLA hA hB hS (by decide) (fun σ_9 ρ_10 H locs hB fσ_9 pσ_9 hS => ?_)
  refine lv_aload_n hx hb dX10_copyFrom_22 rfl (lv_at hl 1 rfl) ?_
  refine t_gr hx hb hts hown hK hG hB mh1 th1 fq_14_2 rfl mw_2_0 dX10_copyFrom_23 (fun b_12 hb_12 mb_12 tb_12 => ?_)
  refine lv_iconst (v := 0) hx hb dX10_copyFrom_26 (by decide) ?_
  refine lv_aload_n hx hb dX10_copyFrom_27 rfl (lv_at hl 0 rfl) ?_
  refine t_gr hx hb hts hown hK hG hB mh0 th0 fq_10_2 rfl mw_2_0 dX10_copyFrom_28 (fun b_13 hb_13 mb_13 tb_13 => ?_)
  refine lv_iconst (v := 0) hx hb dX10_copyFrom_31 (by decide) ?_
  refine lv_iconst (v := 5) hx hb dX10_copyFrom_32 (by decide) ?_
  refine t_cp (lo := 0) (hi := 9) hx hb (hml.trans hl.1.symm) hts hown mw_5_205 ⟨mw_3_239, mw_3_238, mw_1_20⟩ hK hLA hB hS mb_12 tb_12 ai_86 mb_13 tb_13 ai_55 (fun _ => ⟨show (0 : Int) ≤ 0 by decide, show (9 : Int) ≤ 9 by decide⟩) (fun _ => rfl) (by decide) (by decide) (by decide) (by decide) (by decide) (by decide) (Nat.le_of_ble_eq_true rfl) (Nat.le_of_ble_eq_true rfl) dX10_copyFrom_33 (fun H locs σ_14 eσ_14 hB hS => ?_)
  refine lv_aload_n hx hb dX10_copyFrom_36 rfl (lv_at hl 1 rfl) ?_
  refine t_gr hx hb hts hown hK hG hB mh1 th1 fq_14_3 rfl mw_2_2 dX10_copyFrom_37 (fun b_15 hb_15 mb_15 tb_15 => ?_)
  refine lv_iconst (v := 0) hx hb dX10_copyFrom_40 (by decide) ?_
  refine lv_aload_n hx hb dX10_copyFrom_41 rfl (lv_at hl 0 rfl) ?_
  refine t_gr hx hb hts hown hK hG hB mh0 th0 fq_10_3 rfl mw_2_2 dX10_copyFrom_42 (fun b_16 hb_16 mb_16 tb_16 => ?_)
  refine lv_iconst (v := 0) hx hb dX10_copyFrom_45 (by decide) ?_
  refine lv_bipush (v := 10) hx hb dX10_copyFrom_46 (by decide) ?_
  refine t_cp (lo := 0) (hi := 60) hx hb (hml.trans hl.1.symm) hts hown mw_5_205 ⟨mw_3_239, mw_3_238, mw_1_20⟩ hK hLA hB hS mb_15 tb_15 ai_87 mb_16 tb_16 ai_56 (fun _ => ⟨show (0 : Int) ≤ 0 by decide, show (60 : Int) ≤ 60 by decide⟩) (fun _ => rfl) (by decide) (by decide) (by decide) (by decide) (by decide) (by decide) (Nat.le_of_ble_eq_true rfl) (Nat.le_of_ble_eq_true rfl) dX10_copyFrom_48 (fun H locs σ_17 eσ_17 hB hS => ?_)
  refine lv_aload_n hx hb dX10_copyFrom_51 rfl (lv_at hl 1 rfl) ?_
  refine t_gr hx hb hts hown hK hG hB mh1 th1 fq_14_4 rfl mw_2_5 dX10_copyFrom_52 (fun b_18 hb_18 mb_18 tb_18 => ?_)
  refine lv_iconst (v := 0) hx hb dX10_copyFrom_55 (by decide) ?_
  refine lv_aload_n hx hb dX10_copyFrom_56 rfl (lv_at hl 0 rfl) ?_
  refine t_gr hx hb hts hown hK hG hB mh0 th0 fq_10_4 rfl mw_2_5 dX10_copyFrom_57 (fun b_19 hb_19 mb_19 tb_19 => ?_)
  refine lv_iconst (v := 0) hx hb dX10_copyFrom_60 (by decide) ?_
  refine lv_bipush (v := 10) hx hb dX10_copyFrom_61 (by decide) ?_
  refine t_cp (lo := 0) (hi := 7) hx hb (hml.trans hl.1.symm) hts hown mw_5_205 ⟨mw_3_239, mw_3_238, mw_1_20⟩ hK hLA hB hS mb_18 tb_18 ai_88 mb_19 tb_19 ai_57 (fun _ => ⟨show (0 : Int) ≤ 0 by decide, show (7 : Int) ≤ 7 by decide⟩) (fun _ => rfl) (by decide) (by decide) (by decide) (by decide) (by decide) (by decide) (Nat.le_of_ble_eq_true rfl) (Nat.le_of_ble_eq_true rfl) dX10_copyFrom_63 (fun H locs σ_20 eσ_20 hB hS => ?_)
  refine lv_aload_n hx hb dX10_copyFrom_66 rfl (lv_at hl 1 rfl) ?_
  refine t_gr hx hb hts hown hK hG hB mh1 th1 fq_14_5 rfl mw_2_8 dX10_copyFrom_67 (fun b_21 hb_21 mb_21 tb_21 => ?_)
  refine lv_iconst (v := 0) hx hb dX10_copyFrom_70 (by decide) ?_
  refine lv_aload_n hx hb dX10_copyFrom_71 rfl (lv_at hl 0 rfl) ?_
  refine t_gr hx hb hts hown hK hG hB mh0 th0 fq_10_5 rfl mw_2_8 dX10_copyFrom_72 (fun b_22 hb_22 mb_22 tb_22 => ?_)
  refine lv_iconst (v := 0) hx hb dX10_copyFrom_75 (by decide) ?_
  refine lv_bipush (v := 10) hx hb dX10_copyFrom_76 (by decide) ?_
  refine t_cp (lo := 0) (hi := 4) hx hb (hml.trans hl.1.symm) hts hown mw_5_205 ⟨mw_3_239, mw_3_238, mw_1_20⟩ hK hLA hB hS mb_21 tb_21 ai_89 mb_22 tb_22 ai_58 (fun _ => ⟨show (0 : Int) ≤ 0 by decide, show (4 : Int) ≤ 4 by decide⟩) (fun _ => rfl) (by decide) (by decide) (by decide) (by decide) (by decide) (by decide) (Nat.le_of_ble_eq_true rfl) (Nat.le_of_ble_eq_true rfl) dX10_copyFrom_78 (fun H locs σ_23 eσ_23 hB hS => ?_)
  refine lv_aload_n hx hb dX10_copyFrom_81 rfl (lv_at hl 0 rfl) ?_
  refine lv_aload_n hx hb dX10_copyFrom_82 rfl (lv_at hl 1 rfl) ?_
  refine t_gi hx hb hts hown hK hB mh1 th1 fi_14_6 rfl mw_2_11 dX10_copyFrom_83 (fun x_24 ex_24 lx_24 ux_24 => ?_)
  refine t_pi hx hb hts hown hK hLA hB hS mh0 th0 fi_10_6 rfl rfl rfl (by omega) (by omega) (Or.inl (by decide)) mw_2_11 dX10_copyFrom_86 (fun H locs σ_25 eσ_25 hB hS => ?_)
  have k_26 : σ_25 h0 6 = x_24 := by rw [eσ_25]; exact up2_same _ _ _ _
  refine lv_aload_n hx hb dX10_copyFrom_89 rfl (lv_at hl 0 rfl) ?_
  refine lv_aload_n hx hb dX10_copyFrom_90 rfl (lv_at hl 1 rfl) ?_
  refine t_gi hx hb hts hown hK hB mh1 th1 fi_14_7 rfl mw_2_14 dX10_copyFrom_91 (fun x_27 ex_27 lx_27 ux_27 => ?_)
  refine t_pi hx hb hts hown hK hLA hB hS mh0 th0 fi_10_7 rfl rfl rfl (i_lo _) (i_hi _) (Or.inl (by decide)) mw_2_14 dX10_copyFrom_94 (fun H locs σ_28 eσ_28 hB hS => ?_)
  have k_29 : σ_28 h0 7 = x_27 := by rw [eσ_28]; exact up2_same _ _ _ _
  refine lv_aload_n hx hb dX10_copyFrom_97 rfl (lv_at hl 0 rfl) ?_
  refine lv_aload_n hx hb dX10_copyFrom_98 rfl (lv_at hl 1 rfl) ?_
  have k_30 : σ_4 h1 8 = (σ h1 8) := (FR.at fσ_4 th1 (by decide)).trans rfl
  have k_31 : σ_9 h1 8 = (σ h1 8) := (FR.at fσ_9 th1 (by decide)).trans k_30
  have k_32 : σ_14 h1 8 = (σ h1 8) := by rw [eσ_14, va_up_ne _ _ (tg_ne th1 tb_13 (by decide))]; exact k_31
  have k_33 : σ_17 h1 8 = (σ h1 8) := by rw [eσ_17, va_up_ne _ _ (tg_ne th1 tb_16 (by decide))]; exact k_32
  have k_34 : σ_20 h1 8 = (σ h1 8) := by rw [eσ_20, va_up_ne _ _ (tg_ne th1 tb_19 (by decide))]; exact k_33
  have k_35 : σ_23 h1 8 = (σ h1 8) := by rw [eσ_23, va_up_ne _ _ (tg_ne th1 tb_22 (by decide))]; exact k_34
  have k_36 : σ_25 h1 8 = (σ h1 8) := by rw [eσ_25, up2_nej _ _ (by decide)]; exact k_35
  have k_37 : σ_28 h1 8 = (σ h1 8) := by rw [eσ_28, up2_nej _ _ (by decide)]; exact k_36
  refine t_gv hx hb hts hown hK hB mh1 th1 fi_14_8 k_37 mw_2_16 dX10_copyFrom_99 ?_
  refine t_pi hx hb hts hown hK hLA hB hS mh0 th0 fi_10_8 rfl rfl rfl (i_lo _) (i_hi _) (Or.inl (by decide)) mw_2_16 dX10_copyFrom_102 (fun H locs σ_38 eσ_38 hB hS => ?_)
  have k_39 : σ_38 h0 8 = (σ h1 8) := by rw [eσ_38]; exact up2_same _ _ _ _
  exact W.vret hx hb hr (fun t ht hW => ⟨⟨(σ_38, ρ_10), rfl, ⟨hB.2.1, hB.2.2, (show σ_38 h0 8 = σ h1 8 from k_39)⟩, (show TP D cA L T r σ_38 ρ_10 t.heap from by rw [ht]; exact hB.1)⟩, hS.F ht⟩) hS.2.2 dX10_copyFrom_105
set_option maxHeartbeats 4000000 in
set_option maxRecDepth 100000 in
theorem cy_X10_copyFrom_x_15_10 (l : Launch) (D : va_G) (cA : Nat → ClassId) (L : List Nat) (T : Nat → Nat) (r : Rg) (hG : GR L T r) (hL : L.Nodup) (σ : Sg) (ρ : Lg) (hW : WT L ry T σ) (sz : Nat) (h0 : Nat) (mh0 : h0 ∈ L) (th0 : T h0 = 15) (h1 : Nat) (mh1 : h1 ∈ L) (th1 : T h1 = 10) : Met l yX10_copyFrom (.code yX10_copyFrom cX10_copyFrom 2 none :: wsA) ({ frames := 3, cells := 0, slots := 0, locals := 142 }) (PR D cA L T r σ ρ sz [.ref h0, .ref h1]) (QV D cA L T r ry [(15, 6), (15, 7), (15, 8), (18, 6), (18, 7), (18, 8), (18, 9), (18, 10), (86, 1000), (87, 1000), (88, 1000), (89, 1000), (95, 1000), (96, 1000), (97, 1000), (98, 1000), (99, 1000), (105, 6), (105, 7), (106, 6), (106, 7), (137, 1000), (138, 1000), (139, 1000), (140, 1000), (141, 1000), (142, 1000), (143, 1000), (144, 1000), (145, 1000), (146, 1000), (147, 1000), (148, 1000)] σ sz (fun σ1 => (σ1 h0 8 = σ h1 8))) 0 0 (dm L sz) := by
  refine Met.ofW (cc := cX10_copyFrom) (maxL := 2) (ret := none) (by decide) rfl ?_
  intro p e s m args below meth c s₁ B hml hv
  obtain ⟨rfl, hsz, hP, hK, hN⟩ := hv
  have hx := B.exec
  have hb := B.bytes
  have hr := B.returns
  have hts : ∀ w ∈ wsA, w.before _ s = true := fun w h => atoms_spec (ws := .code yX10_copyFrom cX10_copyFrom 2 none :: wsA) B.pre w (List.mem_cons_of_mem _ h)
  have hown : s.vm.findClass RX10 = some m.cls := findClass_of_methodNamed B.named
  subst hsz
  have hLA : LA (dm L s.heap.size) L := ⟨hL, fun a h => Or.inl h⟩
  have hA : ∀ q : Nat, s.heap.size ≤ q → dm L s.heap.size q := fun q h => Or.inr h
  have hS : va_S (dm L s.heap.size) s.heap s.heap [] := va_S.rf
  have hB : TS D cA L T r ry [(15, 6), (15, 7), (15, 8), (18, 6), (18, 7), (18, 8), (18, 9), (18, 10), (86, 1000), (87, 1000), (88, 1000), (89, 1000), (95, 1000), (96, 1000), (97, 1000), (98, 1000), (99, 1000), (105, 6), (105, 7), (106, 6), (106, 7), (137, 1000), (138, 1000), (139, 1000), (140, 1000), (141, 1000), (142, 1000), (143, 1000), (144, 1000), (145, 1000), (146, 1000), (147, 1000), (148, 1000)] σ σ ρ s.heap := ⟨hP, hW, FR.rf⟩
  have hl := lv_entry ([.ref h0, .ref h1]) (n := 2) (Nat.le_of_ble_eq_true rfl)
  rw [lg_entry_eq]
  generalize (lg_sl ([.ref h0, .ref h1]) ++ List.replicate (2 - (lg_sl ([.ref h0, .ref h1])).length) Slot.unset).toArray = ls at hl ⊢
  have hl : lv_has ls 2 [(0, .ref h0), (1, .ref h1)] := hl
  have w_1 : (-2147483648) ≤ (σ h1 8).toInt ∧ (σ h1 8).toInt ≤ 2147483647 := by have z := hB.2.1 h1 mh1 8; rw [th1] at z; exact z
  refine lv_aload_n hx hb dX10_copyFrom_0 rfl (lv_at hl 0 rfl) ?_
  refine t_gr hx hb hts hown hK hG hB mh0 th0 fq_15_0 rfl mw_1_233 dX10_copyFrom_1 (fun b_2 hb_2 mb_2 tb_2 => ?_)
  refine lv_aload_n hx hb dX10_copyFrom_4 rfl (lv_at hl 1 rfl) ?_
  refine t_gr hx hb hts hown hK hG hB mh1 th1 fq_10_0 rfl mw_1_233 dX10_copyFrom_5 (fun b_3 hb_3 mb_3 tb_3 => ?_)
  refine t_cv (va_runV (As := [.ref b_3]) (rest := []) ⟨hx, hb, hml, hown, hts⟩ (cy_X3_copyFrom_18_3 l D cA L T r hG hLA.1 σ ρ hB.2.1 _ b_2 mb_2 tb_2 b_3 mb_3 tb_3) (cV hts mv_X3_copyFrom mw_3_233 rfl rfl ⟨Nat.le_of_ble_eq_true rfl, Nat.le_of_ble_eq_true rfl⟩) (pV hB.1 hK hN mb_2 tb_2 (show shp cA 18 _ _ _ = .inr (3, Fs3 _ _ _) from rfl) rfl) rfl rfl hl.1 rfl (lv_room (Nat.le_of_ble_eq_true rfl)) dX10_copyFrom_8 ⟨Nat.le_of_ble_eq_true rfl, Nat.le_of_ble_eq_true rfl⟩) hLA hA hB hS (by decide) (fun σ_4 ρ_5 H locs hB fσ_4 pσ_4 hS => ?_)
  refine lv_aload_n hx hb dX10_copyFrom_11 rfl (lv_at hl 0 rfl) ?_
  refine t_gr hx hb hts hown hK hG hB mh0 th0 fq_15_1 rfl mw_1_237 dX10_copyFrom_12 (fun b_7 hb_7 mb_7 tb_7 => ?_)
  refine lv_aload_n hx hb dX10_copyFrom_15 rfl (lv_at hl 1 rfl) ?_
  refine t_gr hx hb hts hown hK hG hB mh1 th1 fq_10_1 rfl mw_1_237 dX10_copyFrom_16 (fun b_8 hb_8 mb_8 tb_8 => ?_)
  refine t_cv (va_runV (As := [.ref b_8]) (rest := []) ⟨hx, hb, hml, hown, hts⟩ (cy_X8_copyFrom_105_8 l D cA L T r hG hLA.1 σ_4 ρ_5 hB.2.1 _ b_7 mb_7 tb_7 b_8 mb_8 tb_8) (cV hts mv_X8_copyFrom mw_4_5 rfl rfl ⟨Nat.le_of_ble_eq_true rfl, Nat.le_of_ble_eq_true rfl⟩) (pV hB.1 hK hN mb_7 tb_7 (show shp cA 105 _ _ _ = .inr (8, Fs8 _ _ _) from rfl) rfl) rfl rfl hl.1 rfl (lv_room (Nat.le_of_ble_eq_true rfl)) dX10_copyFrom_19 ⟨Nat.le_of_ble_eq_true rfl, Nat.le_of_ble_eq_true rfl⟩) hLA hA hB hS (by decide) (fun σ_9 ρ_10 H locs hB fσ_9 pσ_9 hS => ?_)
  refine lv_aload_n hx hb dX10_copyFrom_22 rfl (lv_at hl 1 rfl) ?_
  refine t_gr hx hb hts hown hK hG hB mh1 th1 fq_10_2 rfl mw_2_0 dX10_copyFrom_23 (fun b_12 hb_12 mb_12 tb_12 => ?_)
  refine lv_iconst (v := 0) hx hb dX10_copyFrom_26 (by decide) ?_
  refine lv_aload_n hx hb dX10_copyFrom_27 rfl (lv_at hl 0 rfl) ?_
  refine t_gr hx hb hts hown hK hG hB mh0 th0 fq_15_2 rfl mw_2_0 dX10_copyFrom_28 (fun b_13 hb_13 mb_13 tb_13 => ?_)
  refine lv_iconst (v := 0) hx hb dX10_copyFrom_31 (by decide) ?_
  refine lv_iconst (v := 5) hx hb dX10_copyFrom_32 (by decide) ?_
  refine t_cp (lo := 0) (hi := 9) hx hb (hml.trans hl.1.symm) hts hown mw_5_205 ⟨mw_3_239, mw_3_238, mw_1_20⟩ hK hLA hB hS mb_12 tb_12 ai_55 mb_13 tb_13 ai_86 (fun _ => ⟨show (0 : Int) ≤ 0 by decide, show (9 : Int) ≤ 9 by decide⟩) (fun _ => rfl) (by decide) (by decide) (by decide) (by decide) (by decide) (by decide) (Nat.le_of_ble_eq_true rfl) (Nat.le_of_ble_eq_true rfl) dX10_copyFrom_33 (fun H locs σ_14 eσ_14 hB hS => ?_)
  refine lv_aload_n hx hb dX10_copyFrom_36 rfl (lv_at hl 1 rfl) ?_
  refine t_gr hx hb hts hown hK hG hB mh1 th1 fq_10_3 rfl mw_2_2 dX10_copyFrom_37 (fun b_15 hb_15 mb_15 tb_15 => ?_)
  refine lv_iconst (v := 0) hx hb dX10_copyFrom_40 (by decide) ?_
  refine lv_aload_n hx hb dX10_copyFrom_41 rfl (lv_at hl 0 rfl) ?_
  refine t_gr hx hb hts hown hK hG hB mh0 th0 fq_15_3 rfl mw_2_2 dX10_copyFrom_42 (fun b_16 hb_16 mb_16 tb_16 => ?_)
  refine lv_iconst (v := 0) hx hb dX10_copyFrom_45 (by decide) ?_
  refine lv_bipush (v := 10) hx hb dX10_copyFrom_46 (by decide) ?_
  refine t_cp (lo := 0) (hi := 60) hx hb (hml.trans hl.1.symm) hts hown mw_5_205 ⟨mw_3_239, mw_3_238, mw_1_20⟩ hK hLA hB hS mb_15 tb_15 ai_56 mb_16 tb_16 ai_87 (fun _ => ⟨show (0 : Int) ≤ 0 by decide, show (60 : Int) ≤ 60 by decide⟩) (fun _ => rfl) (by decide) (by decide) (by decide) (by decide) (by decide) (by decide) (Nat.le_of_ble_eq_true rfl) (Nat.le_of_ble_eq_true rfl) dX10_copyFrom_48 (fun H locs σ_17 eσ_17 hB hS => ?_)
  refine lv_aload_n hx hb dX10_copyFrom_51 rfl (lv_at hl 1 rfl) ?_
  refine t_gr hx hb hts hown hK hG hB mh1 th1 fq_10_4 rfl mw_2_5 dX10_copyFrom_52 (fun b_18 hb_18 mb_18 tb_18 => ?_)
  refine lv_iconst (v := 0) hx hb dX10_copyFrom_55 (by decide) ?_
  refine lv_aload_n hx hb dX10_copyFrom_56 rfl (lv_at hl 0 rfl) ?_
  refine t_gr hx hb hts hown hK hG hB mh0 th0 fq_15_4 rfl mw_2_5 dX10_copyFrom_57 (fun b_19 hb_19 mb_19 tb_19 => ?_)
  refine lv_iconst (v := 0) hx hb dX10_copyFrom_60 (by decide) ?_
  refine lv_bipush (v := 10) hx hb dX10_copyFrom_61 (by decide) ?_
  refine t_cp (lo := 0) (hi := 7) hx hb (hml.trans hl.1.symm) hts hown mw_5_205 ⟨mw_3_239, mw_3_238, mw_1_20⟩ hK hLA hB hS mb_18 tb_18 ai_57 mb_19 tb_19 ai_88 (fun _ => ⟨show (0 : Int) ≤ 0 by decide, show (7 : Int) ≤ 7 by decide⟩) (fun _ => rfl) (by decide) (by decide) (by decide) (by decide) (by decide) (by decide) (Nat.le_of_ble_eq_true rfl) (Nat.le_of_ble_eq_true rfl) dX10_copyFrom_63 (fun H locs σ_20 eσ_20 hB hS => ?_)
  refine lv_aload_n hx hb dX10_copyFrom_66 rfl (lv_at hl 1 rfl) ?_
  refine t_gr hx hb hts hown hK hG hB mh1 th1 fq_10_5 rfl mw_2_8 dX10_copyFrom_67 (fun b_21 hb_21 mb_21 tb_21 => ?_)
  refine lv_iconst (v := 0) hx hb dX10_copyFrom_70 (by decide) ?_
  refine lv_aload_n hx hb dX10_copyFrom_71 rfl (lv_at hl 0 rfl) ?_
  refine t_gr hx hb hts hown hK hG hB mh0 th0 fq_15_5 rfl mw_2_8 dX10_copyFrom_72 (fun b_22 hb_22 mb_22 tb_22 => ?_)
  refine lv_iconst (v := 0) hx hb dX10_copyFrom_75 (by decide) ?_
  refine lv_bipush (v := 10) hx hb dX10_copyFrom_76 (by decide) ?_
  refine t_cp (lo := 0) (hi := 4) hx hb (hml.trans hl.1.symm) hts hown mw_5_205 ⟨mw_3_239, mw_3_238, mw_1_20⟩ hK hLA hB hS mb_21 tb_21 ai_58 mb_22 tb_22 ai_89 (fun _ => ⟨show (0 : Int) ≤ 0 by decide, show (4 : Int) ≤ 4 by decide⟩) (fun _ => rfl) (by decide) (by decide) (by decide) (by decide) (by decide) (by decide) (Nat.le_of_ble_eq_true rfl) (Nat.le_of_ble_eq_true rfl) dX10_copyFrom_78 (fun H locs σ_23 eσ_23 hB hS => ?_)
  refine lv_aload_n hx hb dX10_copyFrom_81 rfl (lv_at hl 0 rfl) ?_
  refine lv_aload_n hx hb dX10_copyFrom_82 rfl (lv_at hl 1 rfl) ?_
  refine t_gi hx hb hts hown hK hB mh1 th1 fi_10_6 rfl mw_2_11 dX10_copyFrom_83 (fun x_24 ex_24 lx_24 ux_24 => ?_)
  refine t_pi hx hb hts hown hK hLA hB hS mh0 th0 fi_15_6 rfl rfl rfl (by omega) (by omega) (Or.inl (by decide)) mw_2_11 dX10_copyFrom_86 (fun H locs σ_25 eσ_25 hB hS => ?_)
  have k_26 : σ_25 h0 6 = x_24 := by rw [eσ_25]; exact up2_same _ _ _ _
  refine lv_aload_n hx hb dX10_copyFrom_89 rfl (lv_at hl 0 rfl) ?_
  refine lv_aload_n hx hb dX10_copyFrom_90 rfl (lv_at hl 1 rfl) ?_
  refine t_gi hx hb hts hown hK hB mh1 th1 fi_10_7 rfl mw_2_14 dX10_copyFrom_91 (fun x_27 ex_27 lx_27 ux_27 => ?_)
  refine t_pi hx hb hts hown hK hLA hB hS mh0 th0 fi_15_7 rfl rfl rfl (i_lo _) (i_hi _) (Or.inl (by decide)) mw_2_14 dX10_copyFrom_94 (fun H locs σ_28 eσ_28 hB hS => ?_)
  have k_29 : σ_28 h0 7 = x_27 := by rw [eσ_28]; exact up2_same _ _ _ _
  refine lv_aload_n hx hb dX10_copyFrom_97 rfl (lv_at hl 0 rfl) ?_
  refine lv_aload_n hx hb dX10_copyFrom_98 rfl (lv_at hl 1 rfl) ?_
  have k_30 : σ_4 h1 8 = (σ h1 8) := (FR.at fσ_4 th1 (by decide)).trans rfl
  have k_31 : σ_9 h1 8 = (σ h1 8) := (FR.at fσ_9 th1 (by decide)).trans k_30
  have k_32 : σ_14 h1 8 = (σ h1 8) := by rw [eσ_14, va_up_ne _ _ (tg_ne th1 tb_13 (by decide))]; exact k_31
  have k_33 : σ_17 h1 8 = (σ h1 8) := by rw [eσ_17, va_up_ne _ _ (tg_ne th1 tb_16 (by decide))]; exact k_32
  have k_34 : σ_20 h1 8 = (σ h1 8) := by rw [eσ_20, va_up_ne _ _ (tg_ne th1 tb_19 (by decide))]; exact k_33
  have k_35 : σ_23 h1 8 = (σ h1 8) := by rw [eσ_23, va_up_ne _ _ (tg_ne th1 tb_22 (by decide))]; exact k_34
  have k_36 : σ_25 h1 8 = (σ h1 8) := by rw [eσ_25, up2_nej _ _ (by decide)]; exact k_35
  have k_37 : σ_28 h1 8 = (σ h1 8) := by rw [eσ_28, up2_nej _ _ (by decide)]; exact k_36
  refine t_gv hx hb hts hown hK hB mh1 th1 fi_10_8 k_37 mw_2_16 dX10_copyFrom_99 ?_
  refine t_pi hx hb hts hown hK hLA hB hS mh0 th0 fi_15_8 rfl rfl rfl (i_lo _) (i_hi _) (Or.inl (by decide)) mw_2_16 dX10_copyFrom_102 (fun H locs σ_38 eσ_38 hB hS => ?_)
  have k_39 : σ_38 h0 8 = (σ h1 8) := by rw [eσ_38]; exact up2_same _ _ _ _
  exact W.vret hx hb hr (fun t ht hW => ⟨⟨(σ_38, ρ_10), rfl, ⟨hB.2.1, hB.2.2, (show σ_38 h0 8 = σ h1 8 from k_39)⟩, (show TP D cA L T r σ_38 ρ_10 t.heap from by rw [ht]; exact hB.1)⟩, hS.F ht⟩) hS.2.2 dX10_copyFrom_105
set_option maxHeartbeats 4000000 in
set_option maxRecDepth 100000 in
theorem cy_X10_copyFrom_x_10_15 (l : Launch) (D : va_G) (cA : Nat → ClassId) (L : List Nat) (T : Nat → Nat) (r : Rg) (hG : GR L T r) (hL : L.Nodup) (σ : Sg) (ρ : Lg) (hW : WT L ry T σ) (sz : Nat) (h0 : Nat) (mh0 : h0 ∈ L) (th0 : T h0 = 10) (h1 : Nat) (mh1 : h1 ∈ L) (th1 : T h1 = 15) : Met l yX10_copyFrom (.code yX10_copyFrom cX10_copyFrom 2 none :: wsA) ({ frames := 3, cells := 0, slots := 0, locals := 142 }) (PR D cA L T r σ ρ sz [.ref h0, .ref h1]) (QV D cA L T r ry [(3, 6), (3, 7), (3, 8), (3, 9), (3, 10), (8, 6), (8, 7), (10, 6), (10, 7), (10, 8), (33, 1000), (34, 1000), (35, 1000), (36, 1000), (37, 1000), (45, 1000), (46, 1000), (47, 1000), (48, 1000), (49, 1000), (50, 1000), (55, 1000), (56, 1000), (57, 1000), (58, 1000), (100, 6), (100, 7), (107, 1000), (108, 1000), (109, 1000), (110, 1000), (111, 1000), (112, 1000)] σ sz (fun σ1 => (σ1 h0 8 = σ h1 8))) 0 0 (dm L sz) := by
  refine Met.ofW (cc := cX10_copyFrom) (maxL := 2) (ret := none) (by decide) rfl ?_
  intro p e s m args below meth c s₁ B hml hv
  obtain ⟨rfl, hsz, hP, hK, hN⟩ := hv
  have hx := B.exec
  have hb := B.bytes
  have hr := B.returns
  have hts : ∀ w ∈ wsA, w.before _ s = true := fun w h => atoms_spec (ws := .code yX10_copyFrom cX10_copyFrom 2 none :: wsA) B.pre w (List.mem_cons_of_mem _ h)
  have hown : s.vm.findClass RX10 = some m.cls := findClass_of_methodNamed B.named
  subst hsz
  have hLA : LA (dm L s.heap.size) L := ⟨hL, fun a h => Or.inl h⟩
  have hA : ∀ q : Nat, s.heap.size ≤ q → dm L s.heap.size q := fun q h => Or.inr h
  have hS : va_S (dm L s.heap.size) s.heap s.heap [] := va_S.rf
  have hB : TS D cA L T r ry [(3, 6), (3, 7), (3, 8), (3, 9), (3, 10), (8, 6), (8, 7), (10, 6), (10, 7), (10, 8), (33, 1000), (34, 1000), (35, 1000), (36, 1000), (37, 1000), (45, 1000), (46, 1000), (47, 1000), (48, 1000), (49, 1000), (50, 1000), (55, 1000), (56, 1000), (57, 1000), (58, 1000), (100, 6), (100, 7), (107, 1000), (108, 1000), (109, 1000), (110, 1000), (111, 1000), (112, 1000)] σ σ ρ s.heap := ⟨hP, hW, FR.rf⟩
  have hl := lv_entry ([.ref h0, .ref h1]) (n := 2) (Nat.le_of_ble_eq_true rfl)
  rw [lg_entry_eq]
  generalize (lg_sl ([.ref h0, .ref h1]) ++ List.replicate (2 - (lg_sl ([.ref h0, .ref h1])).length) Slot.unset).toArray = ls at hl ⊢
  have hl : lv_has ls 2 [(0, .ref h0), (1, .ref h1)] := hl
  have w_1 : (-2147483648) ≤ (σ h1 8).toInt ∧ (σ h1 8).toInt ≤ 2147483647 := by have z := hB.2.1 h1 mh1 8; rw [th1] at z; exact z
  refine lv_aload_n hx hb dX10_copyFrom_0 rfl (lv_at hl 0 rfl) ?_
  refine t_gr hx hb hts hown hK hG hB mh0 th0 fq_10_0 rfl mw_1_233 dX10_copyFrom_1 (fun b_2 hb_2 mb_2 tb_2 => ?_)
  refine lv_aload_n hx hb dX10_copyFrom_4 rfl (lv_at hl 1 rfl) ?_
  refine t_gr hx hb hts hown hK hG hB mh1 th1 fq_15_0 rfl mw_1_233 dX10_copyFrom_5 (fun b_3 hb_3 mb_3 tb_3 => ?_)
  refine t_cv (va_runV (As := [.ref b_3]) (rest := []) ⟨hx, hb, hml, hown, hts⟩ (cy_X3_copyFrom_3_18 l D cA L T r hG hLA.1 σ ρ hB.2.1 _ b_2 mb_2 tb_2 b_3 mb_3 tb_3) (cV hts mv_X3_copyFrom mw_3_233 rfl rfl ⟨Nat.le_of_ble_eq_true rfl, Nat.le_of_ble_eq_true rfl⟩) (pV hB.1 hK hN mb_2 tb_2 (show shp cA 3 _ _ _ = .inr (3, Fs3 _ _ _) from rfl) rfl) rfl rfl hl.1 rfl (lv_room (Nat.le_of_ble_eq_true rfl)) dX10_copyFrom_8 ⟨Nat.le_of_ble_eq_true rfl, Nat.le_of_ble_eq_true rfl⟩) hLA hA hB hS (by decide) (fun σ_4 ρ_5 H locs hB fσ_4 pσ_4 hS => ?_)
  refine lv_aload_n hx hb dX10_copyFrom_11 rfl (lv_at hl 0 rfl) ?_
  refine t_gr hx hb hts hown hK hG hB mh0 th0 fq_10_1 rfl mw_1_237 dX10_copyFrom_12 (fun b_7 hb_7 mb_7 tb_7 => ?_)
  refine lv_aload_n hx hb dX10_copyFrom_15 rfl (lv_at hl 1 rfl) ?_
  refine t_gr hx hb hts hown hK hG hB mh1 th1 fq_15_1 rfl mw_1_237 dX10_copyFrom_16 (fun b_8 hb_8 mb_8 tb_8 => ?_)
  refine t_cv (va_runV (As := [.ref b_8]) (rest := []) ⟨hx, hb, hml, hown, hts⟩ (cy_X8_copyFrom_8_105 l D cA L T r hG hLA.1 σ_4 ρ_5 hB.2.1 _ b_7 mb_7 tb_7 b_8 mb_8 tb_8) (cV hts mv_X8_copyFrom mw_4_5 rfl rfl ⟨Nat.le_of_ble_eq_true rfl, Nat.le_of_ble_eq_true rfl⟩) (pV hB.1 hK hN mb_7 tb_7 (show shp cA 8 _ _ _ = .inr (8, Fs8 _ _ _) from rfl) rfl) rfl rfl hl.1 rfl (lv_room (Nat.le_of_ble_eq_true rfl)) dX10_copyFrom_19 ⟨Nat.le_of_ble_eq_true rfl, Nat.le_of_ble_eq_true rfl⟩) hLA hA hB hS (by decide) (fun σ_9 ρ_10 H locs hB fσ_9 pσ_9 hS => ?_)
  refine lv_aload_n hx hb dX10_copyFrom_22 rfl (lv_at hl 1 rfl) ?_
  refine t_gr hx hb hts hown hK hG hB mh1 th1 fq_15_2 rfl mw_2_0 dX10_copyFrom_23 (fun b_12 hb_12 mb_12 tb_12 => ?_)
  refine lv_iconst (v := 0) hx hb dX10_copyFrom_26 (by decide) ?_
  refine lv_aload_n hx hb dX10_copyFrom_27 rfl (lv_at hl 0 rfl) ?_
  refine t_gr hx hb hts hown hK hG hB mh0 th0 fq_10_2 rfl mw_2_0 dX10_copyFrom_28 (fun b_13 hb_13 mb_13 tb_13 => ?_)
  refine lv_iconst (v := 0) hx hb dX10_copyFrom_31 (by decide) ?_
  refine lv_iconst (v := 5) hx hb dX10_copyFrom_32 (by decide) ?_
  refine t_cp (lo := 0) (hi := 9) hx hb (hml.trans hl.1.symm) hts hown mw_5_205 ⟨mw_3_239, mw_3_238, mw_1_20⟩ hK hLA hB hS mb_12 tb_12 ai_86 mb_13 tb_13 ai_55 (fun _ => ⟨show (0 : Int) ≤ 0 by decide, show (9 : Int) ≤ 9 by decide⟩) (fun _ => rfl) (by decide) (by decide) (by decide) (by decide) (by decide) (by decide) (Nat.le_of_ble_eq_true rfl) (Nat.le_of_ble_eq_true rfl) dX10_copyFrom_33 (fun H locs σ_14 eσ_14 hB hS => ?_)
  refine lv_aload_n hx hb dX10_copyFrom_36 rfl (lv_at hl 1 rfl) ?_
  refine t_gr hx hb hts hown hK hG hB mh1 th1 fq_15_3 rfl mw_2_2 dX10_copyFrom_37 (fun b_15 hb_15 mb_15 tb_15 => ?_)
  refine lv_iconst (v := 0) hx hb dX10_copyFrom_40 (by decide) ?_
  refine lv_aload_n hx hb dX10_copyFrom_41 rfl (lv_at hl 0 rfl) ?_
  refine t_gr hx hb hts hown hK hG hB mh0 th0 fq_10_3 rfl mw_2_2 dX10_copyFrom_42 (fun b_16 hb_16 mb_16 tb_16 => ?_)
  refine lv_iconst (v := 0) hx hb dX10_copyFrom_45 (by decide) ?_
  refine lv_bipush (v := 10) hx hb dX10_copyFrom_46 (by decide) ?_
  refine t_cp (lo := 0) (hi := 60) hx hb (hml.trans hl.1.symm) hts hown mw_5_205 ⟨mw_3_239, mw_3_238, mw_1_20⟩ hK hLA hB hS mb_15 tb_15 ai_87 mb_16 tb_16 ai_56 (fun _ => ⟨show (0 : Int) ≤ 0 by decide, show (60 : Int) ≤ 60 by decide⟩) (fun _ => rfl) (by decide) (by decide) (by decide) (by decide) (by decide) (by decide) (Nat.le_of_ble_eq_true rfl) (Nat.le_of_ble_eq_true rfl) dX10_copyFrom_48 (fun H locs σ_17 eσ_17 hB hS => ?_)
  refine lv_aload_n hx hb dX10_copyFrom_51 rfl (lv_at hl 1 rfl) ?_
  refine t_gr hx hb hts hown hK hG hB mh1 th1 fq_15_4 rfl mw_2_5 dX10_copyFrom_52 (fun b_18 hb_18 mb_18 tb_18 => ?_)
  refine lv_iconst (v := 0) hx hb dX10_copyFrom_55 (by decide) ?_
  refine lv_aload_n hx hb dX10_copyFrom_56 rfl (lv_at hl 0 rfl) ?_
  refine t_gr hx hb hts hown hK hG hB mh0 th0 fq_10_4 rfl mw_2_5 dX10_copyFrom_57 (fun b_19 hb_19 mb_19 tb_19 => ?_)
  refine lv_iconst (v := 0) hx hb dX10_copyFrom_60 (by decide) ?_
  refine lv_bipush (v := 10) hx hb dX10_copyFrom_61 (by decide) ?_
  refine t_cp (lo := 0) (hi := 7) hx hb (hml.trans hl.1.symm) hts hown mw_5_205 ⟨mw_3_239, mw_3_238, mw_1_20⟩ hK hLA hB hS mb_18 tb_18 ai_88 mb_19 tb_19 ai_57 (fun _ => ⟨show (0 : Int) ≤ 0 by decide, show (7 : Int) ≤ 7 by decide⟩) (fun _ => rfl) (by decide) (by decide) (by decide) (by decide) (by decide) (by decide) (Nat.le_of_ble_eq_true rfl) (Nat.le_of_ble_eq_true rfl) dX10_copyFrom_63 (fun H locs σ_20 eσ_20 hB hS => ?_)
  refine lv_aload_n hx hb dX10_copyFrom_66 rfl (lv_at hl 1 rfl) ?_
  refine t_gr hx hb hts hown hK hG hB mh1 th1 fq_15_5 rfl mw_2_8 dX10_copyFrom_67 (fun b_21 hb_21 mb_21 tb_21 => ?_)
  refine lv_iconst (v := 0) hx hb dX10_copyFrom_70 (by decide) ?_
  refine lv_aload_n hx hb dX10_copyFrom_71 rfl (lv_at hl 0 rfl) ?_
  refine t_gr hx hb hts hown hK hG hB mh0 th0 fq_10_5 rfl mw_2_8 dX10_copyFrom_72 (fun b_22 hb_22 mb_22 tb_22 => ?_)
  refine lv_iconst (v := 0) hx hb dX10_copyFrom_75 (by decide) ?_
  refine lv_bipush (v := 10) hx hb dX10_copyFrom_76 (by decide) ?_
  refine t_cp (lo := 0) (hi := 4) hx hb (hml.trans hl.1.symm) hts hown mw_5_205 ⟨mw_3_239, mw_3_238, mw_1_20⟩ hK hLA hB hS mb_21 tb_21 ai_89 mb_22 tb_22 ai_58 (fun _ => ⟨show (0 : Int) ≤ 0 by decide, show (4 : Int) ≤ 4 by decide⟩) (fun _ => rfl) (by decide) (by decide) (by decide) (by decide) (by decide) (by decide) (Nat.le_of_ble_eq_true rfl) (Nat.le_of_ble_eq_true rfl) dX10_copyFrom_78 (fun H locs σ_23 eσ_23 hB hS => ?_)
  refine lv_aload_n hx hb dX10_copyFrom_81 rfl (lv_at hl 0 rfl) ?_
  refine lv_aload_n hx hb dX10_copyFrom_82 rfl (lv_at hl 1 rfl) ?_
  refine t_gi hx hb hts hown hK hB mh1 th1 fi_15_6 rfl mw_2_11 dX10_copyFrom_83 (fun x_24 ex_24 lx_24 ux_24 => ?_)
  refine t_pi hx hb hts hown hK hLA hB hS mh0 th0 fi_10_6 rfl rfl rfl (by omega) (by omega) (Or.inl (by decide)) mw_2_11 dX10_copyFrom_86 (fun H locs σ_25 eσ_25 hB hS => ?_)
  have k_26 : σ_25 h0 6 = x_24 := by rw [eσ_25]; exact up2_same _ _ _ _
  refine lv_aload_n hx hb dX10_copyFrom_89 rfl (lv_at hl 0 rfl) ?_
  refine lv_aload_n hx hb dX10_copyFrom_90 rfl (lv_at hl 1 rfl) ?_
  refine t_gi hx hb hts hown hK hB mh1 th1 fi_15_7 rfl mw_2_14 dX10_copyFrom_91 (fun x_27 ex_27 lx_27 ux_27 => ?_)
  refine t_pi hx hb hts hown hK hLA hB hS mh0 th0 fi_10_7 rfl rfl rfl (i_lo _) (i_hi _) (Or.inl (by decide)) mw_2_14 dX10_copyFrom_94 (fun H locs σ_28 eσ_28 hB hS => ?_)
  have k_29 : σ_28 h0 7 = x_27 := by rw [eσ_28]; exact up2_same _ _ _ _
  refine lv_aload_n hx hb dX10_copyFrom_97 rfl (lv_at hl 0 rfl) ?_
  refine lv_aload_n hx hb dX10_copyFrom_98 rfl (lv_at hl 1 rfl) ?_
  have k_30 : σ_4 h1 8 = (σ h1 8) := (FR.at fσ_4 th1 (by decide)).trans rfl
  have k_31 : σ_9 h1 8 = (σ h1 8) := (FR.at fσ_9 th1 (by decide)).trans k_30
  have k_32 : σ_14 h1 8 = (σ h1 8) := by rw [eσ_14, va_up_ne _ _ (tg_ne th1 tb_13 (by decide))]; exact k_31
  have k_33 : σ_17 h1 8 = (σ h1 8) := by rw [eσ_17, va_up_ne _ _ (tg_ne th1 tb_16 (by decide))]; exact k_32
  have k_34 : σ_20 h1 8 = (σ h1 8) := by rw [eσ_20, va_up_ne _ _ (tg_ne th1 tb_19 (by decide))]; exact k_33
  have k_35 : σ_23 h1 8 = (σ h1 8) := by rw [eσ_23, va_up_ne _ _ (tg_ne th1 tb_22 (by decide))]; exact k_34
  have k_36 : σ_25 h1 8 = (σ h1 8) := by rw [eσ_25, up2_nej _ _ (by decide)]; exact k_35
  have k_37 : σ_28 h1 8 = (σ h1 8) := by rw [eσ_28, up2_nej _ _ (by decide)]; exact k_36
  refine t_gv hx hb hts hown hK hB mh1 th1 fi_15_8 k_37 mw_2_16 dX10_copyFrom_99 ?_
  refine t_pi hx hb hts hown hK hLA hB hS mh0 th0 fi_10_8 rfl rfl rfl (i_lo _) (i_hi _) (Or.inl (by decide)) mw_2_16 dX10_copyFrom_102 (fun H locs σ_38 eσ_38 hB hS => ?_)
  have k_39 : σ_38 h0 8 = (σ h1 8) := by rw [eσ_38]; exact up2_same _ _ _ _
  exact W.vret hx hb hr (fun t ht hW => ⟨⟨(σ_38, ρ_10), rfl, ⟨hB.2.1, hB.2.2, (show σ_38 h0 8 = σ h1 8 from k_39)⟩, (show TP D cA L T r σ_38 ρ_10 t.heap from by rw [ht]; exact hB.1)⟩, hS.F ht⟩) hS.2.2 dX10_copyFrom_105
set_option maxHeartbeats 4000000 in
set_option maxRecDepth 100000 in
theorem cy_X10_copyFrom_x_16_10 (l : Launch) (D : va_G) (cA : Nat → ClassId) (L : List Nat) (T : Nat → Nat) (r : Rg) (hG : GR L T r) (hL : L.Nodup) (σ : Sg) (ρ : Lg) (hW : WT L ry T σ) (sz : Nat) (h0 : Nat) (mh0 : h0 ∈ L) (th0 : T h0 = 16) (h1 : Nat) (mh1 : h1 ∈ L) (th1 : T h1 = 10) : Met l yX10_copyFrom (.code yX10_copyFrom cX10_copyFrom 2 none :: wsA) ({ frames := 3, cells := 0, slots := 0, locals := 142 }) (PR D cA L T r σ ρ sz [.ref h0, .ref h1]) (QV D cA L T r ry [(16, 6), (16, 7), (16, 8), (18, 6), (18, 7), (18, 8), (18, 9), (18, 10), (86, 1000), (87, 1000), (88, 1000), (89, 1000), (95, 1000), (96, 1000), (97, 1000), (98, 1000), (99, 1000), (105, 6), (105, 7), (106, 6), (106, 7), (137, 1000), (138, 1000), (139, 1000), (140, 1000), (141, 1000), (142, 1000), (143, 1000), (144, 1000), (145, 1000), (146, 1000), (147, 1000), (148, 1000)] σ sz (fun σ1 => (σ1 h0 8 = σ h1 8))) 0 0 (dm L sz) := by
  refine Met.ofW (cc := cX10_copyFrom) (maxL := 2) (ret := none) (by decide) rfl ?_
  intro p e s m args below meth c s₁ B hml hv
  obtain ⟨rfl, hsz, hP, hK, hN⟩ := hv
  have hx := B.exec
  have hb := B.bytes
  have hr := B.returns
  have hts : ∀ w ∈ wsA, w.before _ s = true := fun w h => atoms_spec (ws := .code yX10_copyFrom cX10_copyFrom 2 none :: wsA) B.pre w (List.mem_cons_of_mem _ h)
  have hown : s.vm.findClass RX10 = some m.cls := findClass_of_methodNamed B.named
  subst hsz
  have hLA : LA (dm L s.heap.size) L := ⟨hL, fun a h => Or.inl h⟩
  have hA : ∀ q : Nat, s.heap.size ≤ q → dm L s.heap.size q := fun q h => Or.inr h
  have hS : va_S (dm L s.heap.size) s.heap s.heap [] := va_S.rf
  have hB : TS D cA L T r ry [(16, 6), (16, 7), (16, 8), (18, 6), (18, 7), (18, 8), (18, 9), (18, 10), (86, 1000), (87, 1000), (88, 1000), (89, 1000), (95, 1000), (96, 1000), (97, 1000), (98, 1000), (99, 1000), (105, 6), (105, 7), (106, 6), (106, 7), (137, 1000), (138, 1000), (139, 1000), (140, 1000), (141, 1000), (142, 1000), (143, 1000), (144, 1000), (145, 1000), (146, 1000), (147, 1000), (148, 1000)] σ σ ρ s.heap := ⟨hP, hW, FR.rf⟩
  have hl := lv_entry ([.ref h0, .ref h1]) (n := 2) (Nat.le_of_ble_eq_true rfl)
  rw [lg_entry_eq]
  generalize (lg_sl ([.ref h0, .ref h1]) ++ List.replicate (2 - (lg_sl ([.ref h0, .ref h1])).length) Slot.unset).toArray = ls at hl ⊢
  have hl : lv_has ls 2 [(0, .ref h0), (1, .ref h1)] := hl
  have w_1 : (-2147483648) ≤ (σ h1 8).toInt ∧ (σ h1 8).toInt ≤ 2147483647 := by have z := hB.2.1 h1 mh1 8; rw [th1] at z; exact z
  refine lv_aload_n hx hb dX10_copyFrom_0 rfl (lv_at hl 0 rfl) ?_
  refine t_gr hx hb hts hown hK hG hB mh0 th0 fq_16_0 rfl mw_1_233 dX10_copyFrom_1 (fun b_2 hb_2 mb_2 tb_2 => ?_)
  refine lv_aload_n hx hb dX10_copyFrom_4 rfl (lv_at hl 1 rfl) ?_
  refine t_gr hx hb hts hown hK hG hB mh1 th1 fq_10_0 rfl mw_1_233 dX10_copyFrom_5 (fun b_3 hb_3 mb_3 tb_3 => ?_)
  refine t_cv (va_runV (As := [.ref b_3]) (rest := []) ⟨hx, hb, hml, hown, hts⟩ (cy_X3_copyFrom_18_3 l D cA L T r hG hLA.1 σ ρ hB.2.1 _ b_2 mb_2 tb_2 b_3 mb_3 tb_3) (cV hts mv_X3_copyFrom mw_3_233 rfl rfl ⟨Nat.le_of_ble_eq_true rfl, Nat.le_of_ble_eq_true rfl⟩) (pV hB.1 hK hN mb_2 tb_2 (show shp cA 18 _ _ _ = .inr (3, Fs3 _ _ _) from rfl) rfl) rfl rfl hl.1 rfl (lv_room (Nat.le_of_ble_eq_true rfl)) dX10_copyFrom_8 ⟨Nat.le_of_ble_eq_true rfl, Nat.le_of_ble_eq_true rfl⟩) hLA hA hB hS (by decide) (fun σ_4 ρ_5 H locs hB fσ_4 pσ_4 hS => ?_)
  refine lv_aload_n hx hb dX10_copyFrom_11 rfl (lv_at hl 0 rfl) ?_
  refine t_gr hx hb hts hown hK hG hB mh0 th0 fq_16_1 rfl mw_1_237 dX10_copyFrom_12 (fun b_7 hb_7 mb_7 tb_7 => ?_)
  refine lv_aload_n hx hb dX10_copyFrom_15 rfl (lv_at hl 1 rfl) ?_
  refine t_gr hx hb hts hown hK hG hB mh1 th1 fq_10_1 rfl mw_1_237 dX10_copyFrom_16 (fun b_8 hb_8 mb_8 tb_8 => ?_)
  refine t_cv (va_runV (As := [.ref b_8]) (rest := []) ⟨hx, hb, hml, hown, hts⟩ (cy_X8_copyFrom_105_8 l D cA L T r hG hLA.1 σ_4 ρ_5 hB.2.1 _ b_7 mb_7 tb_7 b_8 mb_8 tb_8) (cV hts mv_X8_copyFrom mw_4_5 rfl rfl ⟨Nat.le_of_ble_eq_true rfl, Nat.le_of_ble_eq_true rfl⟩) (pV hB.1 hK hN mb_7 tb_7 (show shp cA 105 _ _ _ = .inr (8, Fs8 _ _ _) from rfl) rfl) rfl rfl hl.1 rfl (lv_room (Nat.le_of_ble_eq_true rfl)) dX10_copyFrom_19 ⟨Nat.le_of_ble_eq_true rfl, Nat.le_of_ble_eq_true rfl⟩) hLA hA hB hS (by decide) (fun σ_9 ρ_10 H locs hB fσ_9 pσ_9 hS => ?_)
  refine lv_aload_n hx hb dX10_copyFrom_22 rfl (lv_at hl 1 rfl) ?_
  refine t_gr hx hb hts hown hK hG hB mh1 th1 fq_10_2 rfl mw_2_0 dX10_copyFrom_23 (fun b_12 hb_12 mb_12 tb_12 => ?_)
  refine lv_iconst (v := 0) hx hb dX10_copyFrom_26 (by decide) ?_
  refine lv_aload_n hx hb dX10_copyFrom_27 rfl (lv_at hl 0 rfl) ?_
  refine t_gr hx hb hts hown hK hG hB mh0 th0 fq_16_2 rfl mw_2_0 dX10_copyFrom_28 (fun b_13 hb_13 mb_13 tb_13 => ?_)
  refine lv_iconst (v := 0) hx hb dX10_copyFrom_31 (by decide) ?_
  refine lv_iconst (v := 5) hx hb dX10_copyFrom_32 (by decide) ?_
  refine t_cp (lo := 0) (hi := 9) hx hb (hml.trans hl.1.symm) hts hown mw_5_205 ⟨mw_3_239, mw_3_238, mw_1_20⟩ hK hLA hB hS mb_12 tb_12 ai_55 mb_13 tb_13 ai_86 (fun _ => ⟨show (0 : Int) ≤ 0 by decide, show (9 : Int) ≤ 9 by decide⟩) (fun _ => rfl) (by decide) (by decide) (by decide) (by decide) (by decide) (by decide) (Nat.le_of_ble_eq_true rfl) (Nat.le_of_ble_eq_true rfl) dX10_copyFrom_33 (fun H locs σ_14 eσ_14 hB hS => ?_)
  refine lv_aload_n hx hb dX10_copyFrom_36 rfl (lv_at hl 1 rfl) ?_
  refine t_gr hx hb hts hown hK hG hB mh1 th1 fq_10_3 rfl mw_2_2 dX10_copyFrom_37 (fun b_15 hb_15 mb_15 tb_15 => ?_)
  refine lv_iconst (v := 0) hx hb dX10_copyFrom_40 (by decide) ?_
  refine lv_aload_n hx hb dX10_copyFrom_41 rfl (lv_at hl 0 rfl) ?_
  refine t_gr hx hb hts hown hK hG hB mh0 th0 fq_16_3 rfl mw_2_2 dX10_copyFrom_42 (fun b_16 hb_16 mb_16 tb_16 => ?_)
  refine lv_iconst (v := 0) hx hb dX10_copyFrom_45 (by decide) ?_
  refine lv_bipush (v := 10) hx hb dX10_copyFrom_46 (by decide) ?_
  refine t_cp (lo := 0) (hi := 60) hx hb (hml.trans hl.1.symm) hts hown mw_5_205 ⟨mw_3_239, mw_3_238, mw_1_20⟩ hK hLA hB hS mb_15 tb_15 ai_56 mb_16 tb_16 ai_87 (fun _ => ⟨show (0 : Int) ≤ 0 by decide, show (60 : Int) ≤ 60 by decide⟩) (fun _ => rfl) (by decide) (by decide) (by decide) (by decide) (by decide) (by decide) (Nat.le_of_ble_eq_true rfl) (Nat.le_of_ble_eq_true rfl) dX10_copyFrom_48 (fun H locs σ_17 eσ_17 hB hS => ?_)
  refine lv_aload_n hx hb dX10_copyFrom_51 rfl (lv_at hl 1 rfl) ?_
  refine t_gr hx hb hts hown hK hG hB mh1 th1 fq_10_4 rfl mw_2_5 dX10_copyFrom_52 (fun b_18 hb_18 mb_18 tb_18 => ?_)
  refine lv_iconst (v := 0) hx hb dX10_copyFrom_55 (by decide) ?_
  refine lv_aload_n hx hb dX10_copyFrom_56 rfl (lv_at hl 0 rfl) ?_
  refine t_gr hx hb hts hown hK hG hB mh0 th0 fq_16_4 rfl mw_2_5 dX10_copyFrom_57 (fun b_19 hb_19 mb_19 tb_19 => ?_)
  refine lv_iconst (v := 0) hx hb dX10_copyFrom_60 (by decide) ?_
  refine lv_bipush (v := 10) hx hb dX10_copyFrom_61 (by decide) ?_
  refine t_cp (lo := 0) (hi := 7) hx hb (hml.trans hl.1.symm) hts hown mw_5_205 ⟨mw_3_239, mw_3_238, mw_1_20⟩ hK hLA hB hS mb_18 tb_18 ai_57 mb_19 tb_19 ai_88 (fun _ => ⟨show (0 : Int) ≤ 0 by decide, show (7 : Int) ≤ 7 by decide⟩) (fun _ => rfl) (by decide) (by decide) (by decide) (by decide) (by decide) (by decide) (Nat.le_of_ble_eq_true rfl) (Nat.le_of_ble_eq_true rfl) dX10_copyFrom_63 (fun H locs σ_20 eσ_20 hB hS => ?_)
  refine lv_aload_n hx hb dX10_copyFrom_66 rfl (lv_at hl 1 rfl) ?_
  refine t_gr hx hb hts hown hK hG hB mh1 th1 fq_10_5 rfl mw_2_8 dX10_copyFrom_67 (fun b_21 hb_21 mb_21 tb_21 => ?_)
  refine lv_iconst (v := 0) hx hb dX10_copyFrom_70 (by decide) ?_
  refine lv_aload_n hx hb dX10_copyFrom_71 rfl (lv_at hl 0 rfl) ?_
  refine t_gr hx hb hts hown hK hG hB mh0 th0 fq_16_5 rfl mw_2_8 dX10_copyFrom_72 (fun b_22 hb_22 mb_22 tb_22 => ?_)
  refine lv_iconst (v := 0) hx hb dX10_copyFrom_75 (by decide) ?_
  refine lv_bipush (v := 10) hx hb dX10_copyFrom_76 (by decide) ?_
  refine t_cp (lo := 0) (hi := 4) hx hb (hml.trans hl.1.symm) hts hown mw_5_205 ⟨mw_3_239, mw_3_238, mw_1_20⟩ hK hLA hB hS mb_21 tb_21 ai_58 mb_22 tb_22 ai_89 (fun _ => ⟨show (0 : Int) ≤ 0 by decide, show (4 : Int) ≤ 4 by decide⟩) (fun _ => rfl) (by decide) (by decide) (by decide) (by decide) (by decide) (by decide) (Nat.le_of_ble_eq_true rfl) (Nat.le_of_ble_eq_true rfl) dX10_copyFrom_78 (fun H locs σ_23 eσ_23 hB hS => ?_)
  refine lv_aload_n hx hb dX10_copyFrom_81 rfl (lv_at hl 0 rfl) ?_
  refine lv_aload_n hx hb dX10_copyFrom_82 rfl (lv_at hl 1 rfl) ?_
  refine t_gi hx hb hts hown hK hB mh1 th1 fi_10_6 rfl mw_2_11 dX10_copyFrom_83 (fun x_24 ex_24 lx_24 ux_24 => ?_)
  refine t_pi hx hb hts hown hK hLA hB hS mh0 th0 fi_16_6 rfl rfl rfl (by omega) (by omega) (Or.inl (by decide)) mw_2_11 dX10_copyFrom_86 (fun H locs σ_25 eσ_25 hB hS => ?_)
  have k_26 : σ_25 h0 6 = x_24 := by rw [eσ_25]; exact up2_same _ _ _ _
  refine lv_aload_n hx hb dX10_copyFrom_89 rfl (lv_at hl 0 rfl) ?_
  refine lv_aload_n hx hb dX10_copyFrom_90 rfl (lv_at hl 1 rfl) ?_
  refine t_gi hx hb hts hown hK hB mh1 th1 fi_10_7 rfl mw_2_14 dX10_copyFrom_91 (fun x_27 ex_27 lx_27 ux_27 => ?_)
  refine t_pi hx hb hts hown hK hLA hB hS mh0 th0 fi_16_7 rfl rfl rfl (i_lo _) (i_hi _) (Or.inl (by decide)) mw_2_14 dX10_copyFrom_94 (fun H locs σ_28 eσ_28 hB hS => ?_)
  have k_29 : σ_28 h0 7 = x_27 := by rw [eσ_28]; exact up2_same _ _ _ _
  refine lv_aload_n hx hb dX10_copyFrom_97 rfl (lv_at hl 0 rfl) ?_
  refine lv_aload_n hx hb dX10_copyFrom_98 rfl (lv_at hl 1 rfl) ?_
  have k_30 : σ_4 h1 8 = (σ h1 8) := (FR.at fσ_4 th1 (by decide)).trans rfl
  have k_31 : σ_9 h1 8 = (σ h1 8) := (FR.at fσ_9 th1 (by decide)).trans k_30
  have k_32 : σ_14 h1 8 = (σ h1 8) := by rw [eσ_14, va_up_ne _ _ (tg_ne th1 tb_13 (by decide))]; exact k_31
  have k_33 : σ_17 h1 8 = (σ h1 8) := by rw [eσ_17, va_up_ne _ _ (tg_ne th1 tb_16 (by decide))]; exact k_32
  have k_34 : σ_20 h1 8 = (σ h1 8) := by rw [eσ_20, va_up_ne _ _ (tg_ne th1 tb_19 (by decide))]; exact k_33
  have k_35 : σ_23 h1 8 = (σ h1 8) := by rw [eσ_23, va_up_ne _ _ (tg_ne th1 tb_22 (by decide))]; exact k_34
  have k_36 : σ_25 h1 8 = (σ h1 8) := by rw [eσ_25, up2_nej _ _ (by decide)]; exact k_35
  have k_37 : σ_28 h1 8 = (σ h1 8) := by rw [eσ_28, up2_nej _ _ (by decide)]; exact k_36
  refine t_gv hx hb hts hown hK hB mh1 th1 fi_10_8 k_37 mw_2_16 dX10_copyFrom_99 ?_
  refine t_pi hx hb hts hown hK hLA hB hS mh0 th0 fi_16_8 rfl rfl rfl (i_lo _) (i_hi _) (Or.inl (by decide)) mw_2_16 dX10_copyFrom_102 (fun H locs σ_38 eσ_38 hB hS => ?_)
  have k_39 : σ_38 h0 8 = (σ h1 8) := by rw [eσ_38]; exact up2_same _ _ _ _
  exact W.vret hx hb hr (fun t ht hW => ⟨⟨(σ_38, ρ_10), rfl, ⟨hB.2.1, hB.2.2, (show σ_38 h0 8 = σ h1 8 from k_39)⟩, (show TP D cA L T r σ_38 ρ_10 t.heap from by rw [ht]; exact hB.1)⟩, hS.F ht⟩) hS.2.2 dX10_copyFrom_105
set_option maxHeartbeats 4000000 in
set_option maxRecDepth 100000 in
theorem cy_X10_copyFrom_x_10_16 (l : Launch) (D : va_G) (cA : Nat → ClassId) (L : List Nat) (T : Nat → Nat) (r : Rg) (hG : GR L T r) (hL : L.Nodup) (σ : Sg) (ρ : Lg) (hW : WT L ry T σ) (sz : Nat) (h0 : Nat) (mh0 : h0 ∈ L) (th0 : T h0 = 10) (h1 : Nat) (mh1 : h1 ∈ L) (th1 : T h1 = 16) : Met l yX10_copyFrom (.code yX10_copyFrom cX10_copyFrom 2 none :: wsA) ({ frames := 3, cells := 0, slots := 0, locals := 142 }) (PR D cA L T r σ ρ sz [.ref h0, .ref h1]) (QV D cA L T r ry [(3, 6), (3, 7), (3, 8), (3, 9), (3, 10), (8, 6), (8, 7), (10, 6), (10, 7), (10, 8), (33, 1000), (34, 1000), (35, 1000), (36, 1000), (37, 1000), (45, 1000), (46, 1000), (47, 1000), (48, 1000), (49, 1000), (50, 1000), (55, 1000), (56, 1000), (57, 1000), (58, 1000), (100, 6), (100, 7), (107, 1000), (108, 1000), (109, 1000), (110, 1000), (111, 1000), (112, 1000)] σ sz (fun σ1 => (σ1 h0 8 = σ h1 8))) 0 0 (dm L sz) := by
  refine Met.ofW (cc := cX10_copyFrom) (maxL := 2) (ret := none) (by decide) rfl ?_
  intro p e s m args below meth c s₁ B hml hv
  obtain ⟨rfl, hsz, hP, hK, hN⟩ := hv
  have hx := B.exec
  have hb := B.bytes
  have hr := B.returns
  have hts : ∀ w ∈ wsA, w.before _ s = true := fun w h => atoms_spec (ws := .code yX10_copyFrom cX10_copyFrom 2 none :: wsA) B.pre w (List.mem_cons_of_mem _ h)
  have hown : s.vm.findClass RX10 = some m.cls := findClass_of_methodNamed B.named
  subst hsz
  have hLA : LA (dm L s.heap.size) L := ⟨hL, fun a h => Or.inl h⟩
  have hA : ∀ q : Nat, s.heap.size ≤ q → dm L s.heap.size q := fun q h => Or.inr h
  have hS : va_S (dm L s.heap.size) s.heap s.heap [] := va_S.rf
  have hB : TS D cA L T r ry [(3, 6), (3, 7), (3, 8), (3, 9), (3, 10), (8, 6), (8, 7), (10, 6), (10, 7), (10, 8), (33, 1000), (34, 1000), (35, 1000), (36, 1000), (37, 1000), (45, 1000), (46, 1000), (47, 1000), (48, 1000), (49, 1000), (50, 1000), (55, 1000), (56, 1000), (57, 1000), (58, 1000), (100, 6), (100, 7), (107, 1000), (108, 1000), (109, 1000), (110, 1000), (111, 1000), (112, 1000)] σ σ ρ s.heap := ⟨hP, hW, FR.rf⟩
  have hl := lv_entry ([.ref h0, .ref h1]) (n := 2) (Nat.le_of_ble_eq_true rfl)
  rw [lg_entry_eq]
  generalize (lg_sl ([.ref h0, .ref h1]) ++ List.replicate (2 - (lg_sl ([.ref h0, .ref h1])).length) Slot.unset).toArray = ls at hl ⊢
  have hl : lv_has ls 2 [(0, .ref h0), (1, .ref h1)] := hl
  have w_1 : (-2147483648) ≤ (σ h1 8).toInt ∧ (σ h1 8).toInt ≤ 2147483647 := by have z := hB.2.1 h1 mh1 8; rw [th1] at z; exact z
  refine lv_aload_n hx hb dX10_copyFrom_0 rfl (lv_at hl 0 rfl) ?_
  refine t_gr hx hb hts hown hK hG hB mh0 th0 fq_10_0 rfl mw_1_233 dX10_copyFrom_1 (fun b_2 hb_2 mb_2 tb_2 => ?_)
  refine lv_aload_n hx hb dX10_copyFrom_4 rfl (lv_at hl 1 rfl) ?_
  refine t_gr hx hb hts hown hK hG hB mh1 th1 fq_16_0 rfl mw_1_233 dX10_copyFrom_5 (fun b_3 hb_3 mb_3 tb_3 => ?_)
  refine t_cv (va_runV (As := [.ref b_3]) (rest := []) ⟨hx, hb, hml, hown, hts⟩ (cy_X3_copyFrom_3_18 l D cA L T r hG hLA.1 σ ρ hB.2.1 _ b_2 mb_2 tb_2 b_3 mb_3 tb_3) (cV hts mv_X3_copyFrom mw_3_233 rfl rfl ⟨Nat.le_of_ble_eq_true rfl, Nat.le_of_ble_eq_true rfl⟩) (pV hB.1 hK hN mb_2 tb_2 (show shp cA 3 _ _ _ = .inr (3, Fs3 _ _ _) from rfl) rfl) rfl rfl hl.1 rfl (lv_room (Nat.le_of_ble_eq_true rfl)) dX10_copyFrom_8 ⟨Nat.le_of_ble_eq_true rfl, Nat.le_of_ble_eq_true rfl⟩) hLA hA hB hS (by decide) (fun σ_4 ρ_5 H locs hB fσ_4 pσ_4 hS => ?_)
  refine lv_aload_n hx hb dX10_copyFrom_11 rfl (lv_at hl 0 rfl) ?_
  refine t_gr hx hb hts hown hK hG hB mh0 th0 fq_10_1 rfl mw_1_237 dX10_copyFrom_12 (fun b_7 hb_7 mb_7 tb_7 => ?_)
  refine lv_aload_n hx hb dX10_copyFrom_15 rfl (lv_at hl 1 rfl) ?_
  refine t_gr hx hb hts hown hK hG hB mh1 th1 fq_16_1 rfl mw_1_237 dX10_copyFrom_16 (fun b_8 hb_8 mb_8 tb_8 => ?_)
  refine t_cv (va_runV (As := [.ref b_8]) (rest := []) ⟨hx, hb, hml, hown, hts⟩ (cy_X8_copyFrom_8_105 l D cA L T r hG hLA.1 σ_4 ρ_5 hB.2.1 _ b_7 mb_7 tb_7 b_8 mb_8 tb_8) (cV hts mv_X8_copyFrom mw_4_5 rfl rfl ⟨Nat.le_of_ble_eq_true rfl, Nat.le_of_ble_eq_true rfl⟩) (pV hB.1 hK hN mb_7 tb_7 (show shp cA 8 _ _ _ = .inr (8, Fs8 _ _ _) from rfl) rfl) rfl rfl hl.1 rfl (lv_room (Nat.le_of_ble_eq_true rfl)) dX10_copyFrom_19 ⟨Nat.le_of_ble_eq_true rfl, Nat.le_of_ble_eq_true rfl⟩) hLA hA hB hS (by decide) (fun σ_9 ρ_10 H locs hB fσ_9 pσ_9 hS => ?_)
  refine lv_aload_n hx hb dX10_copyFrom_22 rfl (lv_at hl 1 rfl) ?_
  refine t_gr hx hb hts hown hK hG hB mh1 th1 fq_16_2 rfl mw_2_0 dX10_copyFrom_23 (fun b_12 hb_12 mb_12 tb_12 => ?_)
  refine lv_iconst (v := 0) hx hb dX10_copyFrom_26 (by decide) ?_
  refine lv_aload_n hx hb dX10_copyFrom_27 rfl (lv_at hl 0 rfl) ?_
  refine t_gr hx hb hts hown hK hG hB mh0 th0 fq_10_2 rfl mw_2_0 dX10_copyFrom_28 (fun b_13 hb_13 mb_13 tb_13 => ?_)
  refine lv_iconst (v := 0) hx hb dX10_copyFrom_31 (by decide) ?_
  refine lv_iconst (v := 5) hx hb dX10_copyFrom_32 (by decide) ?_
  refine t_cp (lo := 0) (hi := 9) hx hb (hml.trans hl.1.symm) hts hown mw_5_205 ⟨mw_3_239, mw_3_238, mw_1_20⟩ hK hLA hB hS mb_12 tb_12 ai_86 mb_13 tb_13 ai_55 (fun _ => ⟨show (0 : Int) ≤ 0 by decide, show (9 : Int) ≤ 9 by decide⟩) (fun _ => rfl) (by decide) (by decide) (by decide) (by decide) (by decide) (by decide) (Nat.le_of_ble_eq_true rfl) (Nat.le_of_ble_eq_true rfl) dX10_copyFrom_33 (fun H locs σ_14 eσ_14 hB hS => ?_)
  refine lv_aload_n hx hb dX10_copyFrom_36 rfl (lv_at hl 1 rfl) ?_
  refine t_gr hx hb hts hown hK hG hB mh1 th1 fq_16_3 rfl mw_2_2 dX10_copyFrom_37 (fun b_15 hb_15 mb_15 tb_15 => ?_)
  refine lv_iconst (v := 0) hx hb dX10_copyFrom_40 (by decide) ?_
  refine lv_aload_n hx hb dX10_copyFrom_41 rfl (lv_at hl 0 rfl) ?_
  refine t_gr hx hb hts hown hK hG hB mh0 th0 fq_10_3 rfl mw_2_2 dX10_copyFrom_42 (fun b_16 hb_16 mb_16 tb_16 => ?_)
  refine lv_iconst (v := 0) hx hb dX10_copyFrom_45 (by decide) ?_
  refine lv_bipush (v := 10) hx hb dX10_copyFrom_46 (by decide) ?_
  refine t_cp (lo := 0) (hi := 60) hx hb (hml.trans hl.1.symm) hts hown mw_5_205 ⟨mw_3_239, mw_3_238, mw_1_20⟩ hK hLA hB hS mb_15 tb_15 ai_87 mb_16 tb_16 ai_56 (fun _ => ⟨show (0 : Int) ≤ 0 by decide, show (60 : Int) ≤ 60 by decide⟩) (fun _ => rfl) (by decide) (by decide) (by decide) (by decide) (by decide) (by decide) (Nat.le_of_ble_eq_true rfl) (Nat.le_of_ble_eq_true rfl) dX10_copyFrom_48 (fun H locs σ_17 eσ_17 hB hS => ?_)
  refine lv_aload_n hx hb dX10_copyFrom_51 rfl (lv_at hl 1 rfl) ?_
  refine t_gr hx hb hts hown hK hG hB mh1 th1 fq_16_4 rfl mw_2_5 dX10_copyFrom_52 (fun b_18 hb_18 mb_18 tb_18 => ?_)
  refine lv_iconst (v := 0) hx hb dX10_copyFrom_55 (by decide) ?_
  refine lv_aload_n hx hb dX10_copyFrom_56 rfl (lv_at hl 0 rfl) ?_
  refine t_gr hx hb hts hown hK hG hB mh0 th0 fq_10_4 rfl mw_2_5 dX10_copyFrom_57 (fun b_19 hb_19 mb_19 tb_19 => ?_)
  refine lv_iconst (v := 0) hx hb dX10_copyFrom_60 (by decide) ?_
  refine lv_bipush (v := 10) hx hb dX10_copyFrom_61 (by decide) ?_
  refine t_cp (lo := 0) (hi := 7) hx hb (hml.trans hl.1.symm) hts hown mw_5_205 ⟨mw_3_239, mw_3_238, mw_1_20⟩ hK hLA hB hS mb_18 tb_18 ai_88 mb_19 tb_19 ai_57 (fun _ => ⟨show (0 : Int) ≤ 0 by decide, show (7 : Int) ≤ 7 by decide⟩) (fun _ => rfl) (by decide) (by decide) (by decide) (by decide) (by decide) (by decide) (Nat.le_of_ble_eq_true rfl) (Nat.le_of_ble_eq_true rfl) dX10_copyFrom_63 (fun H locs σ_20 eσ_20 hB hS => ?_)
  refine lv_aload_n hx hb dX10_copyFrom_66 rfl (lv_at hl 1 rfl) ?_
  refine t_gr hx hb hts hown hK hG hB mh1 th1 fq_16_5 rfl mw_2_8 dX10_copyFrom_67 (fun b_21 hb_21 mb_21 tb_21 => ?_)
  refine lv_iconst (v := 0) hx hb dX10_copyFrom_70 (by decide) ?_
  refine lv_aload_n hx hb dX10_copyFrom_71 rfl (lv_at hl 0 rfl) ?_
  refine t_gr hx hb hts hown hK hG hB mh0 th0 fq_10_5 rfl mw_2_8 dX10_copyFrom_72 (fun b_22 hb_22 mb_22 tb_22 => ?_)
  refine lv_iconst (v := 0) hx hb dX10_copyFrom_75 (by decide) ?_
  refine lv_bipush (v := 10) hx hb dX10_copyFrom_76 (by decide) ?_
  refine t_cp (lo := 0) (hi := 4) hx hb (hml.trans hl.1.symm) hts hown mw_5_205 ⟨mw_3_239, mw_3_238, mw_1_20⟩ hK hLA hB hS mb_21 tb_21 ai_89 mb_22 tb_22 ai_58 (fun _ => ⟨show (0 : Int) ≤ 0 by decide, show (4 : Int) ≤ 4 by decide⟩) (fun _ => rfl) (by decide) (by decide) (by decide) (by decide) (by decide) (by decide) (Nat.le_of_ble_eq_true rfl) (Nat.le_of_ble_eq_true rfl) dX10_copyFrom_78 (fun H locs σ_23 eσ_23 hB hS => ?_)
  refine lv_aload_n hx hb dX10_copyFrom_81 rfl (lv_at hl 0 rfl) ?_
  refine lv_aload_n hx hb dX10_copyFrom_82 rfl (lv_at hl 1 rfl) ?_
  refine t_gi hx hb hts hown hK hB mh1 th1 fi_16_6 rfl mw_2_11 dX10_copyFrom_83 (fun x_24 ex_24 lx_24 ux_24 => ?_)
  refine t_pi hx hb hts hown hK hLA hB hS mh0 th0 fi_10_6 rfl rfl rfl (by omega) (by omega) (Or.inl (by decide)) mw_2_11 dX10_copyFrom_86 (fun H locs σ_25 eσ_25 hB hS => ?_)
  have k_26 : σ_25 h0 6 = x_24 := by rw [eσ_25]; exact up2_same _ _ _ _
  refine lv_aload_n hx hb dX10_copyFrom_89 rfl (lv_at hl 0 rfl) ?_
  refine lv_aload_n hx hb dX10_copyFrom_90 rfl (lv_at hl 1 rfl) ?_
  refine t_gi hx hb hts hown hK hB mh1 th1 fi_16_7 rfl mw_2_14 dX10_copyFrom_91 (fun x_27 ex_27 lx_27 ux_27 => ?_)
  refine t_pi hx hb hts hown hK hLA hB hS mh0 th0 fi_10_7 rfl rfl rfl (i_lo _) (i_hi _) (Or.inl (by decide)) mw_2_14 dX10_copyFrom_94 (fun H locs σ_28 eσ_28 hB hS => ?_)
  have k_29 : σ_28 h0 7 = x_27 := by rw [eσ_28]; exact up2_same _ _ _ _
  refine lv_aload_n hx hb dX10_copyFrom_97 rfl (lv_at hl 0 rfl) ?_
  refine lv_aload_n hx hb dX10_copyFrom_98 rfl (lv_at hl 1 rfl) ?_
  have k_30 : σ_4 h1 8 = (σ h1 8) := (FR.at fσ_4 th1 (by decide)).trans rfl
  have k_31 : σ_9 h1 8 = (σ h1 8) := (FR.at fσ_9 th1 (by decide)).trans k_30
  have k_32 : σ_14 h1 8 = (σ h1 8) := by rw [eσ_14, va_up_ne _ _ (tg_ne th1 tb_13 (by decide))]; exact k_31
  have k_33 : σ_17 h1 8 = (σ h1 8) := by rw [eσ_17, va_up_ne _ _ (tg_ne th1 tb_16 (by decide))]; exact k_32
  have k_34 : σ_20 h1 8 = (σ h1 8) := by rw [eσ_20, va_up_ne _ _ (tg_ne th1 tb_19 (by decide))]; exact k_33
  have k_35 : σ_23 h1 8 = (σ h1 8) := by rw [eσ_23, va_up_ne _ _ (tg_ne th1 tb_22 (by decide))]; exact k_34
  have k_36 : σ_25 h1 8 = (σ h1 8) := by rw [eσ_25, up2_nej _ _ (by decide)]; exact k_35
  have k_37 : σ_28 h1 8 = (σ h1 8) := by rw [eσ_28, up2_nej _ _ (by decide)]; exact k_36
  refine t_gv hx hb hts hown hK hB mh1 th1 fi_16_8 k_37 mw_2_16 dX10_copyFrom_99 ?_
  refine t_pi hx hb hts hown hK hLA hB hS mh0 th0 fi_10_8 rfl rfl rfl (i_lo _) (i_hi _) (Or.inl (by decide)) mw_2_16 dX10_copyFrom_102 (fun H locs σ_38 eσ_38 hB hS => ?_)
  have k_39 : σ_38 h0 8 = (σ h1 8) := by rw [eσ_38]; exact up2_same _ _ _ _
  exact W.vret hx hb hr (fun t ht hW => ⟨⟨(σ_38, ρ_10), rfl, ⟨hB.2.1, hB.2.2, (show σ_38 h0 8 = σ h1 8 from k_39)⟩, (show TP D cA L T r σ_38 ρ_10 t.heap from by rw [ht]; exact hB.1)⟩, hS.F ht⟩) hS.2.2 dX10_copyFrom_105
theorem mw_2_211 : (.fieldLink RX11 36 "HillBends" "images" "[LHillBends$World;" : Cond) ∈ wsA := wsA_t (List.mem_append_right _ (List.mem_append_left _ (List.mem_of_getElem? (l := tables_1_2) (i := 211) rfl))) rfl
theorem mw_5_202 : (.instanceMethod yX10_copyFrom : Cond) ∈ wsA := wsA_t (List.mem_append_right _ (List.mem_append_right _ (List.mem_append_right _ (List.mem_append_right _ (List.mem_append_left _ (List.mem_of_getElem? (l := tables_1_5) (i := 202) rfl)))))) rfl
theorem mw_5_203 : (.selects RX10 yX10_copyFrom yX10_copyFrom : Cond) ∈ wsA := wsA_t (List.mem_append_right _ (List.mem_append_right _ (List.mem_append_right _ (List.mem_append_right _ (List.mem_append_left _ (List.mem_of_getElem? (l := tables_1_5) (i := 203) rfl)))))) rfl
theorem mw_1_6 : (.initialized RX10 : Cond) ∈ wsA := wsA_t (List.mem_append_left _ (List.mem_of_getElem? (l := tables_1_1) (i := 6) rfl)) rfl
theorem mw_5_204 : (.code yX10_copyFrom cX10_copyFrom 2 none : Cond) ∈ wsA := wsA_t (List.mem_append_right _ (List.mem_append_right _ (List.mem_append_right _ (List.mem_append_right _ (List.mem_append_left _ (List.mem_of_getElem? (l := tables_1_5) (i := 204) rfl)))))) rfl
theorem mw_5_201 : (.methodLink RX11 359 yX10_copyFrom : Cond) ∈ wsA := wsA_t (List.mem_append_right _ (List.mem_append_right _ (List.mem_append_right _ (List.mem_append_right _ (List.mem_append_left _ (List.mem_of_getElem? (l := tables_1_5) (i := 201) rfl)))))) rfl
theorem mw_2_218 : (.fieldLink RX11 363 "HillBends" "imagesMade" "I" : Cond) ∈ wsA := wsA_t (List.mem_append_right _ (List.mem_append_left _ (List.mem_of_getElem? (l := tables_1_2) (i := 218) rfl))) rfl
theorem dX11_image_0 : decode cX11_image 0 = .ok (.iload_n 1, 1) := by decide +kernel
theorem dX11_image_1 : decode cX11_image 1 = .ok (.ifCond .lt 8, 3) := by decide +kernel
theorem dX11_image_9 : decode cX11_image 9 = .ok (.iconst (-1), 1) := by decide +kernel
theorem dX11_image_10 : decode cX11_image 10 = .ok (.ireturn, 1) := by decide +kernel
theorem dX11_image_4 : decode cX11_image 4 = .ok (.iload_n 1, 1) := by decide +kernel
theorem dX11_image_5 : decode cX11_image 5 = .ok (.iconst 4, 1) := by decide +kernel
theorem dX11_image_6 : decode cX11_image 6 = .ok (.if_icmp .lt 5, 3) := by decide +kernel
theorem dX11_image_11 : decode cX11_image 11 = .ok (.aload_n 0, 1) := by decide +kernel
theorem dX11_image_12 : decode cX11_image 12 = .ok (.getfield 36, 3) := by decide +kernel
theorem dX11_image_15 : decode cX11_image 15 = .ok (.iload_n 1, 1) := by decide +kernel
theorem dX11_image_16 : decode cX11_image 16 = .ok (.aaload, 1) := by decide +kernel
theorem dX11_image_17 : decode cX11_image 17 = .ok (.aload_n 0, 1) := by decide +kernel
theorem dX11_image_18 : decode cX11_image 18 = .ok (.getfield 32, 3) := by decide +kernel
theorem dX11_image_21 : decode cX11_image 21 = .ok (.invokevirtual 359, 3) := by decide +kernel
theorem dX11_image_24 : decode cX11_image 24 = .ok (.aload_n 0, 1) := by decide +kernel
theorem dX11_image_25 : decode cX11_image 25 = .ok (.dup, 1) := by decide +kernel
theorem dX11_image_26 : decode cX11_image 26 = .ok (.getfield 363, 3) := by decide +kernel
theorem dX11_image_29 : decode cX11_image 29 = .ok (.iconst 1, 1) := by decide +kernel
theorem dX11_image_30 : decode cX11_image 30 = .ok (.iload_n 1, 1) := by decide +kernel
theorem dX11_image_31 : decode cX11_image 31 = .ok (.ishl, 1) := by decide +kernel
theorem dX11_image_32 : decode cX11_image 32 = .ok (.ior, 1) := by decide +kernel
theorem dX11_image_33 : decode cX11_image 33 = .ok (.putfield 363, 3) := by decide +kernel
theorem dX11_image_36 : decode cX11_image 36 = .ok (.aload_n 0, 1) := by decide +kernel
theorem dX11_image_37 : decode cX11_image 37 = .ok (.getfield 32, 3) := by decide +kernel
theorem dX11_image_40 : decode cX11_image 40 = .ok (.getfield 121, 3) := by decide +kernel
theorem dX11_image_43 : decode cX11_image 43 = .ok (.getfield 181, 3) := by decide +kernel
theorem dX11_image_46 : decode cX11_image 46 = .ok (.ireturn, 1) := by decide +kernel
theorem mv_X10_copyFrom : MV RX10 yX10_copyFrom cX10_copyFrom 2 none 1 := ⟨mw_5_202, mw_5_203, mw_1_6, mw_5_204, ⟨rfl, by decide, by decide, by decide +kernel⟩⟩
set_option maxHeartbeats 4000000 in
set_option maxRecDepth 100000 in
theorem cy_X11_image (l : Launch) (D : va_G) (cA : Nat → ClassId) (L : List Nat) (T : Nat → Nat) (r : Rg) (hG : GR L T r) (hL : L.Nodup) (σ : Sg) (ρ : Lg) (hW : WT L ry T σ) (sz : Nat) (h0 : Nat) (mh0 : h0 ∈ L) (th0 : T h0 = 11) (p1 : Int32) (bw : Nat) (hbw : r h0 3 = some bw) (mbw : bw ∈ L) (tbw : T bw = 10) (ba : Nat) (hba : r h0 4 = some ba) (mba : ba ∈ L) (tba : T ba = 60) (w0 : Nat) (hw0 : r ba 0 = some w0) (mw0 : w0 ∈ L) (tw0 : T w0 = 13) (w1 : Nat) (hw1 : r ba 1 = some w1) (mw1 : w1 ∈ L) (tw1 : T w1 = 14) (w2 : Nat) (hw2 : r ba 2 = some w2) (mw2 : w2 ∈ L) (tw2 : T w2 = 15) (w3 : Nat) (hw3 : r ba 3 = some w3) (mw3 : w3 ∈ L) (tw3 : T w3 = 16) : Met l yX11_image (.code yX11_image cX11_image 2 (some .int) :: wsA) ({ frames := 4, cells := 0, slots := 0, locals := 163 }) (PR D cA L T r σ ρ sz [.ref h0, .int p1]) (QI D cA L T r ry [(11, 11), (13, 6), (13, 7), (13, 8), (14, 6), (14, 7), (14, 8), (15, 6), (15, 7), (15, 8), (16, 6), (16, 7), (16, 8), (18, 6), (18, 7), (18, 8), (18, 9), (18, 10), (86, 1000), (87, 1000), (88, 1000), (89, 1000), (95, 1000), (96, 1000), (97, 1000), (98, 1000), (99, 1000), (105, 6), (105, 7), (106, 6), (106, 7), (137, 1000), (138, 1000), (139, 1000), (140, 1000), (141, 1000), (142, 1000), (143, 1000), (144, 1000), (145, 1000), (146, 1000), (147, 1000), (148, 1000)] σ sz (fun x σ1 => ((p1.toInt = 0 → σ1 w0 8 = σ bw 8) ∧ (¬ p1.toInt = 0 → σ1 w0 8 = σ w0 8)) ∧ ((p1.toInt = 1 → σ1 w1 8 = σ bw 8) ∧ (¬ p1.toInt = 1 → σ1 w1 8 = σ w1 8)) ∧ ((p1.toInt = 2 → σ1 w2 8 = σ bw 8) ∧ (¬ p1.toInt = 2 → σ1 w2 8 = σ w2 8)) ∧ ((p1.toInt = 3 → σ1 w3 8 = σ bw 8) ∧ (¬ p1.toInt = 3 → σ1 w3 8 = σ w3 8)) ∧ (((0 ≤ p1.toInt ∧ p1.toInt ≤ 3) → σ1 h0 11 = σ h0 11 ||| (1 <<< p1)) ∧ (¬ (0 ≤ p1.toInt ∧ p1.toInt ≤ 3) → σ1 h0 11 = σ h0 11)))) 0 0 (dm L sz) := by
  refine Met.ofW (cc := cX11_image) (maxL := 2) (ret := (some .int)) (by decide) rfl ?_
  intro p e s m args below meth c s₁ B hml hv
  obtain ⟨rfl, hsz, hP, hK, hN⟩ := hv
  have hx := B.exec
  have hb := B.bytes
  have hr := B.returns
  have hts : ∀ w ∈ wsA, w.before _ s = true := fun w h => atoms_spec (ws := .code yX11_image cX11_image 2 (some .int) :: wsA) B.pre w (List.mem_cons_of_mem _ h)
  have hown : s.vm.findClass RX11 = some m.cls := findClass_of_methodNamed B.named
  subst hsz
  have hLA : LA (dm L s.heap.size) L := ⟨hL, fun a h => Or.inl h⟩
  have hA : ∀ q : Nat, s.heap.size ≤ q → dm L s.heap.size q := fun q h => Or.inr h
  have hS : va_S (dm L s.heap.size) s.heap s.heap [] := va_S.rf
  have hB : TS D cA L T r ry [(11, 11), (13, 6), (13, 7), (13, 8), (14, 6), (14, 7), (14, 8), (15, 6), (15, 7), (15, 8), (16, 6), (16, 7), (16, 8), (18, 6), (18, 7), (18, 8), (18, 9), (18, 10), (86, 1000), (87, 1000), (88, 1000), (89, 1000), (95, 1000), (96, 1000), (97, 1000), (98, 1000), (99, 1000), (105, 6), (105, 7), (106, 6), (106, 7), (137, 1000), (138, 1000), (139, 1000), (140, 1000), (141, 1000), (142, 1000), (143, 1000), (144, 1000), (145, 1000), (146, 1000), (147, 1000), (148, 1000)] σ σ ρ s.heap := ⟨hP, hW, FR.rf⟩
  have hl := lv_entry ([.ref h0, .int p1]) (n := 2) (Nat.le_of_ble_eq_true rfl)
  rw [lg_entry_eq]
  generalize (lg_sl ([.ref h0, .int p1]) ++ List.replicate (2 - (lg_sl ([.ref h0, .int p1])).length) Slot.unset).toArray = ls at hl ⊢
  have hl : lv_has ls 2 [(0, .ref h0), (1, .int p1)] := hl
  have w_1 : (-2147483648) ≤ (σ w0 8).toInt ∧ (σ w0 8).toInt ≤ 2147483647 := by have z := hB.2.1 w0 mw0 8; rw [tw0] at z; exact z
  have w_2 : (-2147483648) ≤ (σ w1 8).toInt ∧ (σ w1 8).toInt ≤ 2147483647 := by have z := hB.2.1 w1 mw1 8; rw [tw1] at z; exact z
  have w_3 : (-2147483648) ≤ (σ w2 8).toInt ∧ (σ w2 8).toInt ≤ 2147483647 := by have z := hB.2.1 w2 mw2 8; rw [tw2] at z; exact z
  have w_4 : (-2147483648) ≤ (σ w3 8).toInt ∧ (σ w3 8).toInt ≤ 2147483647 := by have z := hB.2.1 w3 mw3 8; rw [tw3] at z; exact z
  have w_5 : (-2147483648) ≤ (σ bw 8).toInt ∧ (σ bw 8).toInt ≤ 2147483647 := by have z := hB.2.1 bw mbw 8; rw [tbw] at z; exact z
  have w_6 : (-2147483648) ≤ (σ h0 11).toInt ∧ (σ h0 11).toInt ≤ 2147483647 := by have z := hB.2.1 h0 mh0 11; rw [th0] at z; exact z
  refine lv_iload_n hx hb dX11_image_0 rfl (lv_at hl 1 rfl) ?_
  refine lv_if_lt (tgt := 9) hx hb dX11_image_1 (by decide) (fun c_7 => ?_) (fun c_7 => ?_)
  · skip
    have uc_7 := i_lt (n := 0) (by decide) c_7
    refine lv_iconst (v := (-1)) hx hb dX11_image_9 (by decide) ?_
    exact W.iret (v := (-1)) hx hb hr (fun t ht hW => ⟨⟨(-1), (σ, ρ), rfl, ⟨hB.2.1, hB.2.2, ⟨(show (p1.toInt = 0 → σ w0 8 = σ bw 8) ∧ (¬ p1.toInt = 0 → σ w0 8 = σ w0 8) from ⟨fun h => by exfalso; omega, fun _ => rfl⟩), (show (p1.toInt = 1 → σ w1 8 = σ bw 8) ∧ (¬ p1.toInt = 1 → σ w1 8 = σ w1 8) from ⟨fun h => by exfalso; omega, fun _ => rfl⟩), (show (p1.toInt = 2 → σ w2 8 = σ bw 8) ∧ (¬ p1.toInt = 2 → σ w2 8 = σ w2 8) from ⟨fun h => by exfalso; omega, fun _ => rfl⟩), (show (p1.toInt = 3 → σ w3 8 = σ bw 8) ∧ (¬ p1.toInt = 3 → σ w3 8 = σ w3 8) from ⟨fun h => by exfalso; omega, fun _ => rfl⟩), (show ((0 ≤ p1.toInt ∧ p1.toInt ≤ 3) → σ h0 11 = σ h0 11 ||| (1 <<< p1)) ∧ (¬ (0 ≤ p1.toInt ∧ p1.toInt ≤ 3) → σ h0 11 = σ h0 11) from ⟨fun h => by exfalso; omega, fun _ => rfl⟩)⟩⟩, (show TP D cA L T r σ ρ t.heap from by rw [ht]; exact hB.1)⟩, hS.F ht⟩) hS.2.2 dX11_image_10
  · skip
    have uc_7 := i_nlt (n := 0) (by decide) c_7
    refine lv_iload_n hx hb dX11_image_4 rfl (lv_at hl 1 rfl) ?_
    refine lv_iconst (v := 4) hx hb dX11_image_5 (by decide) ?_
    refine lv_icmp_lt (tgt := 11) hx hb dX11_image_6 (by decide) (fun c_8 => ?_) (fun c_8 => ?_)
    · skip
      have uc_8 := i_lt (n := 4) (by decide) c_8
      refine lv_aload_n hx hb dX11_image_11 rfl (lv_at hl 0 rfl) ?_
      refine t_gk hx hb hts hown hK hB mh0 th0 fq_11_4 hba mw_2_211 dX11_image_12 ?_
      refine lv_iload_n hx hb dX11_image_15 rfl (lv_at hl 1 rfl) ?_
      rcases (show p1.toInt = 0 ∨ p1.toInt = 1 ∨ p1.toInt = 2 ∨ p1.toInt = 3 by omega) with c_10j | c_10j | c_10j | c_10j
      · skip
        have c_10x : p1 = 0 := i_is (by decide) c_10j
        subst c_10x
        refine t_ar (t' := 13) hx hb hK hG hB mba tba ar_60 (by decide) rfl (i_in (by decide) (by decide)) dX11_image_16 (fun b_11 hb_11 mb_11 tb_11 => ?_)
        obtain rfl : w0 = b_11 := Option.some.inj (hw0.symm.trans hb_11)
        refine lv_aload_n hx hb dX11_image_17 rfl (lv_at hl 0 rfl) ?_
        refine t_gk hx hb hts hown hK hB mh0 th0 fq_11_3 hbw mw_2_210 dX11_image_18 ?_
        refine t_cv (va_runV (As := [.ref bw]) (rest := []) ⟨hx, hb, hml, hown, hts⟩ (cy_X10_copyFrom_x_13_10 l D cA L T r hG hLA.1 σ ρ hB.2.1 _ w0 mw0 tw0 bw mbw tbw) (cV hts mv_X10_copyFrom mw_5_201 rfl rfl ⟨Nat.le_of_ble_eq_true rfl, Nat.le_of_ble_eq_true rfl⟩) (pV hB.1 hK hN mw0 tw0 (show shp cA 13 _ _ _ = .inr (10, Fs10 _ _ _) from rfl) rfl) rfl rfl hl.1 rfl (lv_room (Nat.le_of_ble_eq_true rfl)) dX11_image_21 ⟨Nat.le_of_ble_eq_true rfl, Nat.le_of_ble_eq_true rfl⟩) hLA hA hB hS (by decide) (fun σ_12 ρ_13 H locs hB fσ_12 pσ_12 hS => ?_)
        refine lv_aload_n hx hb dX11_image_24 rfl (lv_at hl 0 rfl) ?_
        refine lv_dup hx hb dX11_image_25 rfl ?_
        have k_15 : σ_12 h0 11 = (σ h0 11) := (FR.at fσ_12 th0 (by decide)).trans rfl
        refine t_gv hx hb hts hown hK hB mh0 th0 fi_11_11 k_15 mw_2_218 dX11_image_26 ?_
        refine lv_iconst (v := 1) hx hb dX11_image_29 (by decide) ?_
        refine lv_iload_n hx hb dX11_image_30 rfl (lv_at hl 1 rfl) ?_
        refine lv_ishl hx hb dX11_image_31 ?_
        refine tp_i (w := 1) (by decide) ?_
        refine lv_ior hx hb dX11_image_32 ?_
        refine lv_topi (fun x_16 ex_16 => ?_)
        refine t_pi hx hb hts hown hK hLA hB hS mh0 th0 fi_11_11 rfl rfl rfl (i_lo _) (i_hi _) (Or.inl (by decide)) mw_2_218 dX11_image_33 (fun H locs σ_17 eσ_17 hB hS => ?_)
        have k_18 : σ_17 h0 11 = x_16 := by rw [eσ_17]; exact up2_same _ _ _ _
        refine lv_aload_n hx hb dX11_image_36 rfl (lv_at hl 0 rfl) ?_
        refine t_gk hx hb hts hown hK hB mh0 th0 fq_11_3 hbw mw_2_210 dX11_image_37 ?_
        refine t_gr hx hb hts hown hK hG hB mbw tbw fq_10_1 rfl mw_1_239 dX11_image_40 (fun b_19 hb_19 mb_19 tb_19 => ?_)
        refine t_gi hx hb hts hown hK hB mb_19 tb_19 fi_8_7 rfl mw_1_112 dX11_image_43 (fun x_20 ex_20 lx_20 ux_20 => ?_)
        have cx_20 := congrArg Int32.toInt ex_20
        have k_21 : σ_17 w0 8 = (σ bw 8) := by rw [eσ_17, up2_nej _ _ (by decide)]; exact pσ_12
        have k_22 : σ_12 w1 8 = (σ w1 8) := (FR.at fσ_12 tw1 (by decide)).trans rfl
        have k_23 : σ_17 w1 8 = (σ w1 8) := by rw [eσ_17, up2_nej _ _ (by decide)]; exact k_22
        have k_24 : σ_12 w2 8 = (σ w2 8) := (FR.at fσ_12 tw2 (by decide)).trans rfl
        have k_25 : σ_17 w2 8 = (σ w2 8) := by rw [eσ_17, up2_nej _ _ (by decide)]; exact k_24
        have k_26 : σ_12 w3 8 = (σ w3 8) := (FR.at fσ_12 tw3 (by decide)).trans rfl
        have k_27 : σ_17 w3 8 = (σ w3 8) := by rw [eσ_17, up2_nej _ _ (by decide)]; exact k_26
        exact W.iret (v := x_20) hx hb hr (fun t ht hW => ⟨⟨x_20, (σ_17, ρ_13), rfl, ⟨hB.2.1, hB.2.2, ⟨(show ((0 : Int32).toInt = 0 → σ_17 w0 8 = σ bw 8) ∧ (¬ (0 : Int32).toInt = 0 → σ_17 w0 8 = σ w0 8) from ⟨fun _ => k_21, fun h => absurd h (by decide)⟩), (show ((0 : Int32).toInt = 1 → σ_17 w1 8 = σ bw 8) ∧ (¬ (0 : Int32).toInt = 1 → σ_17 w1 8 = σ w1 8) from ⟨fun h => absurd h (by decide), fun _ => k_23⟩), (show ((0 : Int32).toInt = 2 → σ_17 w2 8 = σ bw 8) ∧ (¬ (0 : Int32).toInt = 2 → σ_17 w2 8 = σ w2 8) from ⟨fun h => absurd h (by decide), fun _ => k_25⟩), (show ((0 : Int32).toInt = 3 → σ_17 w3 8 = σ bw 8) ∧ (¬ (0 : Int32).toInt = 3 → σ_17 w3 8 = σ w3 8) from ⟨fun h => absurd h (by decide), fun _ => k_27⟩), (show ((0 ≤ (0 : Int32).toInt ∧ (0 : Int32).toInt ≤ 3) → σ_17 h0 11 = σ h0 11 ||| (1 <<< (0 : Int32))) ∧ (¬ (0 ≤ (0 : Int32).toInt ∧ (0 : Int32).toInt ≤ 3) → σ_17 h0 11 = σ h0 11) from ⟨fun _ => (by rw [k_18]; subst_vars; rfl), fun h => absurd (by decide) h⟩)⟩⟩, (show TP D cA L T r σ_17 ρ_13 t.heap from by rw [ht]; exact hB.1)⟩, hS.F ht⟩) hS.2.2 dX11_image_46
      · skip
        have c_10x : p1 = 1 := i_is (by decide) c_10j
        subst c_10x
        refine t_ar (t' := 14) hx hb hK hG hB mba tba ar_60 (by decide) rfl (i_in (by decide) (by decide)) dX11_image_16 (fun b_28 hb_28 mb_28 tb_28 => ?_)
        obtain rfl : w1 = b_28 := Option.some.inj (hw1.symm.trans hb_28)
        refine lv_aload_n hx hb dX11_image_17 rfl (lv_at hl 0 rfl) ?_
        refine t_gk hx hb hts hown hK hB mh0 th0 fq_11_3 hbw mw_2_210 dX11_image_18 ?_
        refine t_cv (va_runV (As := [.ref bw]) (rest := []) ⟨hx, hb, hml, hown, hts⟩ (cy_X10_copyFrom_x_14_10 l D cA L T r hG hLA.1 σ ρ hB.2.1 _ w1 mw1 tw1 bw mbw tbw) (cV hts mv_X10_copyFrom mw_5_201 rfl rfl ⟨Nat.le_of_ble_eq_true rfl, Nat.le_of_ble_eq_true rfl⟩) (pV hB.1 hK hN mw1 tw1 (show shp cA 14 _ _ _ = .inr (10, Fs10 _ _ _) from rfl) rfl) rfl rfl hl.1 rfl (lv_room (Nat.le_of_ble_eq_true rfl)) dX11_image_21 ⟨Nat.le_of_ble_eq_true rfl, Nat.le_of_ble_eq_true rfl⟩) hLA hA hB hS (by decide) (fun σ_29 ρ_30 H locs hB fσ_29 pσ_29 hS => ?_)
        refine lv_aload_n hx hb dX11_image_24 rfl (lv_at hl 0 rfl) ?_
        refine lv_dup hx hb dX11_image_25 rfl ?_
        have k_32 : σ_29 h0 11 = (σ h0 11) := (FR.at fσ_29 th0 (by decide)).trans rfl
        refine t_gv hx hb hts hown hK hB mh0 th0 fi_11_11 k_32 mw_2_218 dX11_image_26 ?_
        refine lv_iconst (v := 1) hx hb dX11_image_29 (by decide) ?_
        refine lv_iload_n hx hb dX11_image_30 rfl (lv_at hl 1 rfl) ?_
        refine lv_ishl hx hb dX11_image_31 ?_
        refine tp_i (w := 2) (by decide) ?_
        refine lv_ior hx hb dX11_image_32 ?_
        refine lv_topi (fun x_33 ex_33 => ?_)
        refine t_pi hx hb hts hown hK hLA hB hS mh0 th0 fi_11_11 rfl rfl rfl (i_lo _) (i_hi _) (Or.inl (by decide)) mw_2_218 dX11_image_33 (fun H locs σ_34 eσ_34 hB hS => ?_)
        have k_35 : σ_34 h0 11 = x_33 := by rw [eσ_34]; exact up2_same _ _ _ _
        refine lv_aload_n hx hb dX11_image_36 rfl (lv_at hl 0 rfl) ?_
        refine t_gk hx hb hts hown hK hB mh0 th0 fq_11_3 hbw mw_2_210 dX11_image_37 ?_
        refine t_gr hx hb hts hown hK hG hB mbw tbw fq_10_1 rfl mw_1_239 dX11_image_40 (fun b_36 hb_36 mb_36 tb_36 => ?_)
        refine t_gi hx hb hts hown hK hB mb_36 tb_36 fi_8_7 rfl mw_1_112 dX11_image_43 (fun x_37 ex_37 lx_37 ux_37 => ?_)
        have cx_37 := congrArg Int32.toInt ex_37
        have k_38 : σ_29 w0 8 = (σ w0 8) := (FR.at fσ_29 tw0 (by decide)).trans rfl
        have k_39 : σ_34 w0 8 = (σ w0 8) := by rw [eσ_34, up2_nej _ _ (by decide)]; exact k_38
        have k_40 : σ_34 w1 8 = (σ bw 8) := by rw [eσ_34, up2_nej _ _ (by decide)]; exact pσ_29
        have k_41 : σ_29 w2 8 = (σ w2 8) := (FR.at fσ_29 tw2 (by decide)).trans rfl
        have k_42 : σ_34 w2 8 = (σ w2 8) := by rw [eσ_34, up2_nej _ _ (by decide)]; exact k_41
        have k_43 : σ_29 w3 8 = (σ w3 8) := (FR.at fσ_29 tw3 (by decide)).trans rfl
        have k_44 : σ_34 w3 8 = (σ w3 8) := by rw [eσ_34, up2_nej _ _ (by decide)]; exact k_43
        exact W.iret (v := x_37) hx hb hr (fun t ht hW => ⟨⟨x_37, (σ_34, ρ_30), rfl, ⟨hB.2.1, hB.2.2, ⟨(show ((1 : Int32).toInt = 0 → σ_34 w0 8 = σ bw 8) ∧ (¬ (1 : Int32).toInt = 0 → σ_34 w0 8 = σ w0 8) from ⟨fun h => absurd h (by decide), fun _ => k_39⟩), (show ((1 : Int32).toInt = 1 → σ_34 w1 8 = σ bw 8) ∧ (¬ (1 : Int32).toInt = 1 → σ_34 w1 8 = σ w1 8) from ⟨fun _ => k_40, fun h => absurd h (by decide)⟩), (show ((1 : Int32).toInt = 2 → σ_34 w2 8 = σ bw 8) ∧ (¬ (1 : Int32).toInt = 2 → σ_34 w2 8 = σ w2 8) from ⟨fun h => absurd h (by decide), fun _ => k_42⟩), (show ((1 : Int32).toInt = 3 → σ_34 w3 8 = σ bw 8) ∧ (¬ (1 : Int32).toInt = 3 → σ_34 w3 8 = σ w3 8) from ⟨fun h => absurd h (by decide), fun _ => k_44⟩), (show ((0 ≤ (1 : Int32).toInt ∧ (1 : Int32).toInt ≤ 3) → σ_34 h0 11 = σ h0 11 ||| (1 <<< (1 : Int32))) ∧ (¬ (0 ≤ (1 : Int32).toInt ∧ (1 : Int32).toInt ≤ 3) → σ_34 h0 11 = σ h0 11) from ⟨fun _ => (by rw [k_35]; subst_vars; rfl), fun h => absurd (by decide) h⟩)⟩⟩, (show TP D cA L T r σ_34 ρ_30 t.heap from by rw [ht]; exact hB.1)⟩, hS.F ht⟩) hS.2.2 dX11_image_46
      · skip
        have c_10x : p1 = 2 := i_is (by decide) c_10j
        subst c_10x
        refine t_ar (t' := 15) hx hb hK hG hB mba tba ar_60 (by decide) rfl (i_in (by decide) (by decide)) dX11_image_16 (fun b_45 hb_45 mb_45 tb_45 => ?_)
        obtain rfl : w2 = b_45 := Option.some.inj (hw2.symm.trans hb_45)
        refine lv_aload_n hx hb dX11_image_17 rfl (lv_at hl 0 rfl) ?_
        refine t_gk hx hb hts hown hK hB mh0 th0 fq_11_3 hbw mw_2_210 dX11_image_18 ?_
        refine t_cv (va_runV (As := [.ref bw]) (rest := []) ⟨hx, hb, hml, hown, hts⟩ (cy_X10_copyFrom_x_15_10 l D cA L T r hG hLA.1 σ ρ hB.2.1 _ w2 mw2 tw2 bw mbw tbw) (cV hts mv_X10_copyFrom mw_5_201 rfl rfl ⟨Nat.le_of_ble_eq_true rfl, Nat.le_of_ble_eq_true rfl⟩) (pV hB.1 hK hN mw2 tw2 (show shp cA 15 _ _ _ = .inr (10, Fs10 _ _ _) from rfl) rfl) rfl rfl hl.1 rfl (lv_room (Nat.le_of_ble_eq_true rfl)) dX11_image_21 ⟨Nat.le_of_ble_eq_true rfl, Nat.le_of_ble_eq_true rfl⟩) hLA hA hB hS (by decide) (fun σ_46 ρ_47 H locs hB fσ_46 pσ_46 hS => ?_)
        refine lv_aload_n hx hb dX11_image_24 rfl (lv_at hl 0 rfl) ?_
        refine lv_dup hx hb dX11_image_25 rfl ?_
        have k_49 : σ_46 h0 11 = (σ h0 11) := (FR.at fσ_46 th0 (by decide)).trans rfl
        refine t_gv hx hb hts hown hK hB mh0 th0 fi_11_11 k_49 mw_2_218 dX11_image_26 ?_
        refine lv_iconst (v := 1) hx hb dX11_image_29 (by decide) ?_
        refine lv_iload_n hx hb dX11_image_30 rfl (lv_at hl 1 rfl) ?_
        refine lv_ishl hx hb dX11_image_31 ?_
        refine tp_i (w := 4) (by decide) ?_
        refine lv_ior hx hb dX11_image_32 ?_
        refine lv_topi (fun x_50 ex_50 => ?_)
        refine t_pi hx hb hts hown hK hLA hB hS mh0 th0 fi_11_11 rfl rfl rfl (i_lo _) (i_hi _) (Or.inl (by decide)) mw_2_218 dX11_image_33 (fun H locs σ_51 eσ_51 hB hS => ?_)
        have k_52 : σ_51 h0 11 = x_50 := by rw [eσ_51]; exact up2_same _ _ _ _
        refine lv_aload_n hx hb dX11_image_36 rfl (lv_at hl 0 rfl) ?_
        refine t_gk hx hb hts hown hK hB mh0 th0 fq_11_3 hbw mw_2_210 dX11_image_37 ?_
        refine t_gr hx hb hts hown hK hG hB mbw tbw fq_10_1 rfl mw_1_239 dX11_image_40 (fun b_53 hb_53 mb_53 tb_53 => ?_)
        refine t_gi hx hb hts hown hK hB mb_53 tb_53 fi_8_7 rfl mw_1_112 dX11_image_43 (fun x_54 ex_54 lx_54 ux_54 => ?_)
        have cx_54 := congrArg Int32.toInt ex_54
        have k_55 : σ_46 w0 8 = (σ w0 8) := (FR.at fσ_46 tw0 (by decide)).trans rfl
        have k_56 : σ_51 w0 8 = (σ w0 8) := by rw [eσ_51, up2_nej _ _ (by decide)]; exact k_55
        have k_57 : σ_46 w1 8 = (σ w1 8) := (FR.at fσ_46 tw1 (by decide)).trans rfl
        have k_58 : σ_51 w1 8 = (σ w1 8) := by rw [eσ_51, up2_nej _ _ (by decide)]; exact k_57
        have k_59 : σ_51 w2 8 = (σ bw 8) := by rw [eσ_51, up2_nej _ _ (by decide)]; exact pσ_46
        have k_60 : σ_46 w3 8 = (σ w3 8) := (FR.at fσ_46 tw3 (by decide)).trans rfl
        have k_61 : σ_51 w3 8 = (σ w3 8) := by rw [eσ_51, up2_nej _ _ (by decide)]; exact k_60
        exact W.iret (v := x_54) hx hb hr (fun t ht hW => ⟨⟨x_54, (σ_51, ρ_47), rfl, ⟨hB.2.1, hB.2.2, ⟨(show ((2 : Int32).toInt = 0 → σ_51 w0 8 = σ bw 8) ∧ (¬ (2 : Int32).toInt = 0 → σ_51 w0 8 = σ w0 8) from ⟨fun h => absurd h (by decide), fun _ => k_56⟩), (show ((2 : Int32).toInt = 1 → σ_51 w1 8 = σ bw 8) ∧ (¬ (2 : Int32).toInt = 1 → σ_51 w1 8 = σ w1 8) from ⟨fun h => absurd h (by decide), fun _ => k_58⟩), (show ((2 : Int32).toInt = 2 → σ_51 w2 8 = σ bw 8) ∧ (¬ (2 : Int32).toInt = 2 → σ_51 w2 8 = σ w2 8) from ⟨fun _ => k_59, fun h => absurd h (by decide)⟩), (show ((2 : Int32).toInt = 3 → σ_51 w3 8 = σ bw 8) ∧ (¬ (2 : Int32).toInt = 3 → σ_51 w3 8 = σ w3 8) from ⟨fun h => absurd h (by decide), fun _ => k_61⟩), (show ((0 ≤ (2 : Int32).toInt ∧ (2 : Int32).toInt ≤ 3) → σ_51 h0 11 = σ h0 11 ||| (1 <<< (2 : Int32))) ∧ (¬ (0 ≤ (2 : Int32).toInt ∧ (2 : Int32).toInt ≤ 3) → σ_51 h0 11 = σ h0 11) from ⟨fun _ => (by rw [k_52]; subst_vars; rfl), fun h => absurd (by decide) h⟩)⟩⟩, (show TP D cA L T r σ_51 ρ_47 t.heap from by rw [ht]; exact hB.1)⟩, hS.F ht⟩) hS.2.2 dX11_image_46
      · skip
        have c_10x : p1 = 3 := i_is (by decide) c_10j
        subst c_10x
        refine t_ar (t' := 16) hx hb hK hG hB mba tba ar_60 (by decide) rfl (i_in (by decide) (by decide)) dX11_image_16 (fun b_62 hb_62 mb_62 tb_62 => ?_)
        obtain rfl : w3 = b_62 := Option.some.inj (hw3.symm.trans hb_62)
        refine lv_aload_n hx hb dX11_image_17 rfl (lv_at hl 0 rfl) ?_
        refine t_gk hx hb hts hown hK hB mh0 th0 fq_11_3 hbw mw_2_210 dX11_image_18 ?_
        refine t_cv (va_runV (As := [.ref bw]) (rest := []) ⟨hx, hb, hml, hown, hts⟩ (cy_X10_copyFrom_x_16_10 l D cA L T r hG hLA.1 σ ρ hB.2.1 _ w3 mw3 tw3 bw mbw tbw) (cV hts mv_X10_copyFrom mw_5_201 rfl rfl ⟨Nat.le_of_ble_eq_true rfl, Nat.le_of_ble_eq_true rfl⟩) (pV hB.1 hK hN mw3 tw3 (show shp cA 16 _ _ _ = .inr (10, Fs10 _ _ _) from rfl) rfl) rfl rfl hl.1 rfl (lv_room (Nat.le_of_ble_eq_true rfl)) dX11_image_21 ⟨Nat.le_of_ble_eq_true rfl, Nat.le_of_ble_eq_true rfl⟩) hLA hA hB hS (by decide) (fun σ_63 ρ_64 H locs hB fσ_63 pσ_63 hS => ?_)
        refine lv_aload_n hx hb dX11_image_24 rfl (lv_at hl 0 rfl) ?_
        refine lv_dup hx hb dX11_image_25 rfl ?_
        have k_66 : σ_63 h0 11 = (σ h0 11) := (FR.at fσ_63 th0 (by decide)).trans rfl
        refine t_gv hx hb hts hown hK hB mh0 th0 fi_11_11 k_66 mw_2_218 dX11_image_26 ?_
        refine lv_iconst (v := 1) hx hb dX11_image_29 (by decide) ?_
        refine lv_iload_n hx hb dX11_image_30 rfl (lv_at hl 1 rfl) ?_
        refine lv_ishl hx hb dX11_image_31 ?_
        refine tp_i (w := 8) (by decide) ?_
        refine lv_ior hx hb dX11_image_32 ?_
        refine lv_topi (fun x_67 ex_67 => ?_)
        refine t_pi hx hb hts hown hK hLA hB hS mh0 th0 fi_11_11 rfl rfl rfl (i_lo _) (i_hi _) (Or.inl (by decide)) mw_2_218 dX11_image_33 (fun H locs σ_68 eσ_68 hB hS => ?_)
        have k_69 : σ_68 h0 11 = x_67 := by rw [eσ_68]; exact up2_same _ _ _ _
        refine lv_aload_n hx hb dX11_image_36 rfl (lv_at hl 0 rfl) ?_
        refine t_gk hx hb hts hown hK hB mh0 th0 fq_11_3 hbw mw_2_210 dX11_image_37 ?_
        refine t_gr hx hb hts hown hK hG hB mbw tbw fq_10_1 rfl mw_1_239 dX11_image_40 (fun b_70 hb_70 mb_70 tb_70 => ?_)
        refine t_gi hx hb hts hown hK hB mb_70 tb_70 fi_8_7 rfl mw_1_112 dX11_image_43 (fun x_71 ex_71 lx_71 ux_71 => ?_)
        have cx_71 := congrArg Int32.toInt ex_71
        have k_72 : σ_63 w0 8 = (σ w0 8) := (FR.at fσ_63 tw0 (by decide)).trans rfl
        have k_73 : σ_68 w0 8 = (σ w0 8) := by rw [eσ_68, up2_nej _ _ (by decide)]; exact k_72
        have k_74 : σ_63 w1 8 = (σ w1 8) := (FR.at fσ_63 tw1 (by decide)).trans rfl
        have k_75 : σ_68 w1 8 = (σ w1 8) := by rw [eσ_68, up2_nej _ _ (by decide)]; exact k_74
        have k_76 : σ_63 w2 8 = (σ w2 8) := (FR.at fσ_63 tw2 (by decide)).trans rfl
        have k_77 : σ_68 w2 8 = (σ w2 8) := by rw [eσ_68, up2_nej _ _ (by decide)]; exact k_76
        have k_78 : σ_68 w3 8 = (σ bw 8) := by rw [eσ_68, up2_nej _ _ (by decide)]; exact pσ_63
        exact W.iret (v := x_71) hx hb hr (fun t ht hW => ⟨⟨x_71, (σ_68, ρ_64), rfl, ⟨hB.2.1, hB.2.2, ⟨(show ((3 : Int32).toInt = 0 → σ_68 w0 8 = σ bw 8) ∧ (¬ (3 : Int32).toInt = 0 → σ_68 w0 8 = σ w0 8) from ⟨fun h => absurd h (by decide), fun _ => k_73⟩), (show ((3 : Int32).toInt = 1 → σ_68 w1 8 = σ bw 8) ∧ (¬ (3 : Int32).toInt = 1 → σ_68 w1 8 = σ w1 8) from ⟨fun h => absurd h (by decide), fun _ => k_75⟩), (show ((3 : Int32).toInt = 2 → σ_68 w2 8 = σ bw 8) ∧ (¬ (3 : Int32).toInt = 2 → σ_68 w2 8 = σ w2 8) from ⟨fun h => absurd h (by decide), fun _ => k_77⟩), (show ((3 : Int32).toInt = 3 → σ_68 w3 8 = σ bw 8) ∧ (¬ (3 : Int32).toInt = 3 → σ_68 w3 8 = σ w3 8) from ⟨fun _ => k_78, fun h => absurd h (by decide)⟩), (show ((0 ≤ (3 : Int32).toInt ∧ (3 : Int32).toInt ≤ 3) → σ_68 h0 11 = σ h0 11 ||| (1 <<< (3 : Int32))) ∧ (¬ (0 ≤ (3 : Int32).toInt ∧ (3 : Int32).toInt ≤ 3) → σ_68 h0 11 = σ h0 11) from ⟨fun _ => (by rw [k_69]; subst_vars; rfl), fun h => absurd (by decide) h⟩)⟩⟩, (show TP D cA L T r σ_68 ρ_64 t.heap from by rw [ht]; exact hB.1)⟩, hS.F ht⟩) hS.2.2 dX11_image_46
    · skip
      have uc_8 := i_nlt (n := 4) (by decide) c_8
      refine lv_iconst (v := (-1)) hx hb dX11_image_9 (by decide) ?_
      exact W.iret (v := (-1)) hx hb hr (fun t ht hW => ⟨⟨(-1), (σ, ρ), rfl, ⟨hB.2.1, hB.2.2, ⟨(show (p1.toInt = 0 → σ w0 8 = σ bw 8) ∧ (¬ p1.toInt = 0 → σ w0 8 = σ w0 8) from ⟨fun h => by exfalso; omega, fun _ => rfl⟩), (show (p1.toInt = 1 → σ w1 8 = σ bw 8) ∧ (¬ p1.toInt = 1 → σ w1 8 = σ w1 8) from ⟨fun h => by exfalso; omega, fun _ => rfl⟩), (show (p1.toInt = 2 → σ w2 8 = σ bw 8) ∧ (¬ p1.toInt = 2 → σ w2 8 = σ w2 8) from ⟨fun h => by exfalso; omega, fun _ => rfl⟩), (show (p1.toInt = 3 → σ w3 8 = σ bw 8) ∧ (¬ p1.toInt = 3 → σ w3 8 = σ w3 8) from ⟨fun h => by exfalso; omega, fun _ => rfl⟩), (show ((0 ≤ p1.toInt ∧ p1.toInt ≤ 3) → σ h0 11 = σ h0 11 ||| (1 <<< p1)) ∧ (¬ (0 ≤ p1.toInt ∧ p1.toInt ≤ 3) → σ h0 11 = σ h0 11) from ⟨fun h => by exfalso; omega, fun _ => rfl⟩)⟩⟩, (show TP D cA L T r σ ρ t.heap from by rw [ht]; exact hB.1)⟩, hS.F ht⟩) hS.2.2 dX11_image_10
theorem mw_4_7 : (.instanceMethod yX5_clear : Cond) ∈ wsA := wsA_t (List.mem_append_right _ (List.mem_append_right _ (List.mem_append_right _ (List.mem_append_left _ (List.mem_of_getElem? (l := tables_1_4) (i := 7) rfl))))) rfl
theorem mw_4_8 : (.selects RX5 yX5_clear yX5_clear : Cond) ∈ wsA := wsA_t (List.mem_append_right _ (List.mem_append_right _ (List.mem_append_right _ (List.mem_append_left _ (List.mem_of_getElem? (l := tables_1_4) (i := 8) rfl))))) rfl
theorem mw_4_9 : (.code yX5_clear cX5_clear 1 none : Cond) ∈ wsA := wsA_t (List.mem_append_right _ (List.mem_append_right _ (List.mem_append_right _ (List.mem_append_left _ (List.mem_of_getElem? (l := tables_1_4) (i := 9) rfl))))) rfl
theorem mw_4_6 : (.methodLink RX11 96 yX5_clear : Cond) ∈ wsA := wsA_t (List.mem_append_right _ (List.mem_append_right _ (List.mem_append_right _ (List.mem_append_left _ (List.mem_of_getElem? (l := tables_1_4) (i := 6) rfl))))) rfl
theorem mw_4_11 : (.instanceMethod yX2_forget : Cond) ∈ wsA := wsA_t (List.mem_append_right _ (List.mem_append_right _ (List.mem_append_right _ (List.mem_append_left _ (List.mem_of_getElem? (l := tables_1_4) (i := 11) rfl))))) rfl
theorem mw_4_12 : (.selects RX2 yX2_forget yX2_forget : Cond) ∈ wsA := wsA_t (List.mem_append_right _ (List.mem_append_right _ (List.mem_append_right _ (List.mem_append_left _ (List.mem_of_getElem? (l := tables_1_4) (i := 12) rfl))))) rfl
theorem mw_4_13 : (.code yX2_forget cX2_forget 1 none : Cond) ∈ wsA := wsA_t (List.mem_append_right _ (List.mem_append_right _ (List.mem_append_right _ (List.mem_append_left _ (List.mem_of_getElem? (l := tables_1_4) (i := 13) rfl))))) rfl
theorem mw_4_10 : (.methodLink RX11 99 yX2_forget : Cond) ∈ wsA := wsA_t (List.mem_append_right _ (List.mem_append_right _ (List.mem_append_right _ (List.mem_append_left _ (List.mem_of_getElem? (l := tables_1_4) (i := 10) rfl))))) rfl
theorem dX11_back_0 : decode cX11_back 0 = .ok (.iload_n 1, 1) := by decide +kernel
theorem dX11_back_1 : decode cX11_back 1 = .ok (.ifCond .lt 19, 3) := by decide +kernel
theorem dX11_back_20 : decode cX11_back 20 = .ok (.iconst (-1), 1) := by decide +kernel
theorem dX11_back_21 : decode cX11_back 21 = .ok (.ireturn, 1) := by decide +kernel
theorem dX11_back_4 : decode cX11_back 4 = .ok (.iload_n 1, 1) := by decide +kernel
theorem dX11_back_5 : decode cX11_back 5 = .ok (.iconst 4, 1) := by decide +kernel
theorem dX11_back_6 : decode cX11_back 6 = .ok (.if_icmp .ge 14, 3) := by decide +kernel
theorem dX11_back_9 : decode cX11_back 9 = .ok (.aload_n 0, 1) := by decide +kernel
theorem dX11_back_10 : decode cX11_back 10 = .ok (.getfield 363, 3) := by decide +kernel
theorem dX11_back_13 : decode cX11_back 13 = .ok (.iload_n 1, 1) := by decide +kernel
theorem dX11_back_14 : decode cX11_back 14 = .ok (.ishr, 1) := by decide +kernel
theorem dX11_back_15 : decode cX11_back 15 = .ok (.iconst 1, 1) := by decide +kernel
theorem dX11_back_16 : decode cX11_back 16 = .ok (.iand, 1) := by decide +kernel
theorem dX11_back_17 : decode cX11_back 17 = .ok (.ifCond .ne 5, 3) := by decide +kernel
theorem dX11_back_22 : decode cX11_back 22 = .ok (.aload_n 0, 1) := by decide +kernel
theorem dX11_back_23 : decode cX11_back 23 = .ok (.getfield 32, 3) := by decide +kernel
theorem dX11_back_26 : decode cX11_back 26 = .ok (.aload_n 0, 1) := by decide +kernel
theorem dX11_back_27 : decode cX11_back 27 = .ok (.getfield 36, 3) := by decide +kernel
theorem dX11_back_30 : decode cX11_back 30 = .ok (.iload_n 1, 1) := by decide +kernel
theorem dX11_back_31 : decode cX11_back 31 = .ok (.aaload, 1) := by decide +kernel
theorem dX11_back_32 : decode cX11_back 32 = .ok (.invokevirtual 359, 3) := by decide +kernel
theorem dX11_back_35 : decode cX11_back 35 = .ok (.aload_n 0, 1) := by decide +kernel
theorem dX11_back_36 : decode cX11_back 36 = .ok (.getfield 43, 3) := by decide +kernel
theorem dX11_back_39 : decode cX11_back 39 = .ok (.invokevirtual 96, 3) := by decide +kernel
theorem dX11_back_42 : decode cX11_back 42 = .ok (.aload_n 0, 1) := by decide +kernel
theorem dX11_back_43 : decode cX11_back 43 = .ok (.getfield 71, 3) := by decide +kernel
theorem dX11_back_46 : decode cX11_back 46 = .ok (.invokevirtual 99, 3) := by decide +kernel
theorem dX11_back_49 : decode cX11_back 49 = .ok (.aload_n 0, 1) := by decide +kernel
theorem dX11_back_50 : decode cX11_back 50 = .ok (.getfield 32, 3) := by decide +kernel
theorem dX11_back_53 : decode cX11_back 53 = .ok (.getfield 121, 3) := by decide +kernel
theorem dX11_back_56 : decode cX11_back 56 = .ok (.getfield 181, 3) := by decide +kernel
theorem dX11_back_59 : decode cX11_back 59 = .ok (.ireturn, 1) := by decide +kernel
theorem mv_X5_clear : MV RX5 yX5_clear cX5_clear 1 none 0 := ⟨mw_4_7, mw_4_8, mw_1_7, mw_4_9, ⟨rfl, by decide, by decide, by decide +kernel⟩⟩
theorem mv_X2_forget : MV RX2 yX2_forget cX2_forget 1 none 0 := ⟨mw_4_11, mw_4_12, mw_1_11, mw_4_13, ⟨rfl, by decide, by decide, by decide +kernel⟩⟩
set_option maxHeartbeats 4000000 in
set_option maxRecDepth 100000 in
theorem cy_X11_back (l : Launch) (D : va_G) (cA : Nat → ClassId) (L : List Nat) (T : Nat → Nat) (r : Rg) (hG : GR L T r) (hL : L.Nodup) (σ : Sg) (ρ : Lg) (hW : WT L ry T σ) (sz : Nat) (h0 : Nat) (mh0 : h0 ∈ L) (th0 : T h0 = 11) (p1 : Int32) (bw : Nat) (hbw : r h0 3 = some bw) (mbw : bw ∈ L) (tbw : T bw = 10) (ba : Nat) (hba : r h0 4 = some ba) (mba : ba ∈ L) (tba : T ba = 60) (w0 : Nat) (hw0 : r ba 0 = some w0) (mw0 : w0 ∈ L) (tw0 : T w0 = 13) (w1 : Nat) (hw1 : r ba 1 = some w1) (mw1 : w1 ∈ L) (tw1 : T w1 = 14) (w2 : Nat) (hw2 : r ba 2 = some w2) (mw2 : w2 ∈ L) (tw2 : T w2 = 15) (w3 : Nat) (hw3 : r ba 3 = some w3) (mw3 : w3 ∈ L) (tw3 : T w3 = 16) : Met l yX11_back (.code yX11_back cX11_back 2 (some .int) :: wsA) ({ frames := 4, cells := 0, slots := 0, locals := 163 }) (PR D cA L T r σ ρ sz [.ref h0, .int p1]) (QI D cA L T r ry [(2, 3), (3, 6), (3, 7), (3, 8), (3, 9), (3, 10), (5, 1), (8, 6), (8, 7), (10, 6), (10, 7), (10, 8), (33, 1000), (34, 1000), (35, 1000), (36, 1000), (37, 1000), (45, 1000), (46, 1000), (47, 1000), (48, 1000), (49, 1000), (50, 1000), (55, 1000), (56, 1000), (57, 1000), (58, 1000), (100, 6), (100, 7), (107, 1000), (108, 1000), (109, 1000), (110, 1000), (111, 1000), (112, 1000)] σ sz (fun x σ1 => True)) 0 0 (dm L sz) := by
  refine Met.ofW (cc := cX11_back) (maxL := 2) (ret := (some .int)) (by decide) rfl ?_
  intro p e s m args below meth c s₁ B hml hv
  obtain ⟨rfl, hsz, hP, hK, hN⟩ := hv
  have hx := B.exec
  have hb := B.bytes
  have hr := B.returns
  have hts : ∀ w ∈ wsA, w.before _ s = true := fun w h => atoms_spec (ws := .code yX11_back cX11_back 2 (some .int) :: wsA) B.pre w (List.mem_cons_of_mem _ h)
  have hown : s.vm.findClass RX11 = some m.cls := findClass_of_methodNamed B.named
  subst hsz
  have hLA : LA (dm L s.heap.size) L := ⟨hL, fun a h => Or.inl h⟩
  have hA : ∀ q : Nat, s.heap.size ≤ q → dm L s.heap.size q := fun q h => Or.inr h
  have hS : va_S (dm L s.heap.size) s.heap s.heap [] := va_S.rf
  have hB : TS D cA L T r ry [(2, 3), (3, 6), (3, 7), (3, 8), (3, 9), (3, 10), (5, 1), (8, 6), (8, 7), (10, 6), (10, 7), (10, 8), (33, 1000), (34, 1000), (35, 1000), (36, 1000), (37, 1000), (45, 1000), (46, 1000), (47, 1000), (48, 1000), (49, 1000), (50, 1000), (55, 1000), (56, 1000), (57, 1000), (58, 1000), (100, 6), (100, 7), (107, 1000), (108, 1000), (109, 1000), (110, 1000), (111, 1000), (112, 1000)] σ σ ρ s.heap := ⟨hP, hW, FR.rf⟩
  have hl := lv_entry ([.ref h0, .int p1]) (n := 2) (Nat.le_of_ble_eq_true rfl)
  rw [lg_entry_eq]
  generalize (lg_sl ([.ref h0, .int p1]) ++ List.replicate (2 - (lg_sl ([.ref h0, .int p1])).length) Slot.unset).toArray = ls at hl ⊢
  have hl : lv_has ls 2 [(0, .ref h0), (1, .int p1)] := hl
  have w_1 : (-2147483648) ≤ (σ w0 8).toInt ∧ (σ w0 8).toInt ≤ 2147483647 := by have z := hB.2.1 w0 mw0 8; rw [tw0] at z; exact z
  have w_2 : (-2147483648) ≤ (σ w1 8).toInt ∧ (σ w1 8).toInt ≤ 2147483647 := by have z := hB.2.1 w1 mw1 8; rw [tw1] at z; exact z
  have w_3 : (-2147483648) ≤ (σ w2 8).toInt ∧ (σ w2 8).toInt ≤ 2147483647 := by have z := hB.2.1 w2 mw2 8; rw [tw2] at z; exact z
  have w_4 : (-2147483648) ≤ (σ w3 8).toInt ∧ (σ w3 8).toInt ≤ 2147483647 := by have z := hB.2.1 w3 mw3 8; rw [tw3] at z; exact z
  have w_5 : (-2147483648) ≤ (σ bw 8).toInt ∧ (σ bw 8).toInt ≤ 2147483647 := by have z := hB.2.1 bw mbw 8; rw [tbw] at z; exact z
  have w_6 : (-2147483648) ≤ (σ h0 11).toInt ∧ (σ h0 11).toInt ≤ 2147483647 := by have z := hB.2.1 h0 mh0 11; rw [th0] at z; exact z
  refine lv_iload_n hx hb dX11_back_0 rfl (lv_at hl 1 rfl) ?_
  refine lv_if_lt (tgt := 20) hx hb dX11_back_1 (by decide) (fun c_7 => ?_) (fun c_7 => ?_)
  · skip
    have uc_7 := i_lt (n := 0) (by decide) c_7
    refine lv_iconst (v := (-1)) hx hb dX11_back_20 (by decide) ?_
    exact W.iret (v := (-1)) hx hb hr (fun t ht hW => ⟨⟨(-1), (σ, ρ), rfl, ⟨hB.2.1, hB.2.2, trivial⟩, (show TP D cA L T r σ ρ t.heap from by rw [ht]; exact hB.1)⟩, hS.F ht⟩) hS.2.2 dX11_back_21
  · skip
    have uc_7 := i_nlt (n := 0) (by decide) c_7
    refine lv_iload_n hx hb dX11_back_4 rfl (lv_at hl 1 rfl) ?_
    refine lv_iconst (v := 4) hx hb dX11_back_5 (by decide) ?_
    refine lv_icmp_ge (tgt := 20) hx hb dX11_back_6 (by decide) (fun c_8 => ?_) (fun c_8 => ?_)
    · skip
      have uc_8 := i_ge (n := 4) (by decide) c_8
      refine lv_iconst (v := (-1)) hx hb dX11_back_20 (by decide) ?_
      exact W.iret (v := (-1)) hx hb hr (fun t ht hW => ⟨⟨(-1), (σ, ρ), rfl, ⟨hB.2.1, hB.2.2, trivial⟩, (show TP D cA L T r σ ρ t.heap from by rw [ht]; exact hB.1)⟩, hS.F ht⟩) hS.2.2 dX11_back_21
    · skip
      have uc_8 := i_nge (n := 4) (by decide) c_8
      refine lv_aload_n hx hb dX11_back_9 rfl (lv_at hl 0 rfl) ?_
      refine t_gv hx hb hts hown hK hB mh0 th0 fi_11_11 rfl mw_2_218 dX11_back_10 ?_
      refine lv_iload_n hx hb dX11_back_13 rfl (lv_at hl 1 rfl) ?_
      refine lv_ishr hx hb dX11_back_14 ?_
      refine lv_topi (fun x_9 ex_9 => ?_)
      refine lv_iconst (v := 1) hx hb dX11_back_15 (by decide) ?_
      refine lv_iand hx hb dX11_back_16 ?_
      refine lv_topi (fun x_10 ex_10 => ?_)
      obtain ⟨lx_10, ux_10⟩ := and_m 1 (n := 1) (by decide) (by decide) (by decide) ex_10
      refine lv_if_ne (tgt := 22) hx hb dX11_back_17 (by decide) (fun c_11 => ?_) (fun c_11 => ?_)
      · skip
        have uc_11 := i_ne (n := 0) (by decide) c_11
        refine lv_aload_n hx hb dX11_back_22 rfl (lv_at hl 0 rfl) ?_
        refine t_gk hx hb hts hown hK hB mh0 th0 fq_11_3 hbw mw_2_210 dX11_back_23 ?_
        refine lv_aload_n hx hb dX11_back_26 rfl (lv_at hl 0 rfl) ?_
        refine t_gk hx hb hts hown hK hB mh0 th0 fq_11_4 hba mw_2_211 dX11_back_27 ?_
        refine lv_iload_n hx hb dX11_back_30 rfl (lv_at hl 1 rfl) ?_
        rcases (show p1.toInt = 0 ∨ p1.toInt = 1 ∨ p1.toInt = 2 ∨ p1.toInt = 3 by omega) with c_13j | c_13j | c_13j | c_13j
        · skip
          have c_13x : p1 = 0 := i_is (by decide) c_13j
          subst c_13x
          refine t_ar (t' := 13) hx hb hK hG hB mba tba ar_60 (by decide) rfl (i_in (by decide) (by decide)) dX11_back_31 (fun b_14 hb_14 mb_14 tb_14 => ?_)
          obtain rfl : w0 = b_14 := Option.some.inj (hw0.symm.trans hb_14)
          refine t_cv (va_runV (As := [.ref w0]) (rest := []) ⟨hx, hb, hml, hown, hts⟩ (cy_X10_copyFrom_x_10_13 l D cA L T r hG hLA.1 σ ρ hB.2.1 _ bw mbw tbw w0 mw0 tw0) (cV hts mv_X10_copyFrom mw_5_201 rfl rfl ⟨Nat.le_of_ble_eq_true rfl, Nat.le_of_ble_eq_true rfl⟩) (pV hB.1 hK hN mbw tbw (show shp cA 10 _ _ _ = .inr (10, Fs10 _ _ _) from rfl) rfl) rfl rfl hl.1 rfl (lv_room (Nat.le_of_ble_eq_true rfl)) dX11_back_32 ⟨Nat.le_of_ble_eq_true rfl, Nat.le_of_ble_eq_true rfl⟩) hLA hA hB hS (by decide) (fun σ_15 ρ_16 H locs hB fσ_15 pσ_15 hS => ?_)
          refine lv_aload_n hx hb dX11_back_35 rfl (lv_at hl 0 rfl) ?_
          refine t_gr hx hb hts hown hK hG hB mh0 th0 fq_11_5 rfl mw_2_212 dX11_back_36 (fun b_18 hb_18 mb_18 tb_18 => ?_)
          refine t_cv (va_runV (As := []) (rest := []) ⟨hx, hb, hml, hown, hts⟩ (cy_X5_clear l D cA L T r hG hLA.1 σ_15 ρ_16 hB.2.1 _ b_18 mb_18 tb_18) (cV hts mv_X5_clear mw_4_6 rfl rfl ⟨Nat.le_of_ble_eq_true rfl, Nat.le_of_ble_eq_true rfl⟩) (pV hB.1 hK hN mb_18 tb_18 (show shp cA 5 _ _ _ = .inr (5, Fs5 _ _ _) from rfl) rfl) rfl rfl hl.1 rfl (lv_room (Nat.le_of_ble_eq_true rfl)) dX11_back_39 ⟨Nat.le_of_ble_eq_true rfl, Nat.le_of_ble_eq_true rfl⟩) hLA hA hB hS (by decide) (fun σ_19 ρ_20 H locs hB fσ_19 pσ_19 hS => ?_)
          refine lv_aload_n hx hb dX11_back_42 rfl (lv_at hl 0 rfl) ?_
          refine t_gr hx hb hts hown hK hG hB mh0 th0 fq_11_9 rfl mw_2_216 dX11_back_43 (fun b_22 hb_22 mb_22 tb_22 => ?_)
          refine t_cv (va_runV (As := []) (rest := []) ⟨hx, hb, hml, hown, hts⟩ (cy_X2_forget l D cA L T r hG hLA.1 σ_19 ρ_20 hB.2.1 _ b_22 mb_22 tb_22) (cV hts mv_X2_forget mw_4_10 rfl rfl ⟨Nat.le_of_ble_eq_true rfl, Nat.le_of_ble_eq_true rfl⟩) (pV hB.1 hK hN mb_22 tb_22 (show shp cA 2 _ _ _ = .inr (2, Fs2 _ _ _) from rfl) rfl) rfl rfl hl.1 rfl (lv_room (Nat.le_of_ble_eq_true rfl)) dX11_back_46 ⟨Nat.le_of_ble_eq_true rfl, Nat.le_of_ble_eq_true rfl⟩) hLA hA hB hS (by decide) (fun σ_23 ρ_24 H locs hB fσ_23 pσ_23 hS => ?_)
          refine lv_aload_n hx hb dX11_back_49 rfl (lv_at hl 0 rfl) ?_
          refine t_gk hx hb hts hown hK hB mh0 th0 fq_11_3 hbw mw_2_210 dX11_back_50 ?_
          refine t_gr hx hb hts hown hK hG hB mbw tbw fq_10_1 rfl mw_1_239 dX11_back_53 (fun b_26 hb_26 mb_26 tb_26 => ?_)
          refine t_gi hx hb hts hown hK hB mb_26 tb_26 fi_8_7 rfl mw_1_112 dX11_back_56 (fun x_27 ex_27 lx_27 ux_27 => ?_)
          have cx_27 := congrArg Int32.toInt ex_27
          exact W.iret (v := x_27) hx hb hr (fun t ht hW => ⟨⟨x_27, (σ_23, ρ_24), rfl, ⟨hB.2.1, hB.2.2, trivial⟩, (show TP D cA L T r σ_23 ρ_24 t.heap from by rw [ht]; exact hB.1)⟩, hS.F ht⟩) hS.2.2 dX11_back_59
        · skip
          have c_13x : p1 = 1 := i_is (by decide) c_13j
          subst c_13x
          refine t_ar (t' := 14) hx hb hK hG hB mba tba ar_60 (by decide) rfl (i_in (by decide) (by decide)) dX11_back_31 (fun b_28 hb_28 mb_28 tb_28 => ?_)
          obtain rfl : w1 = b_28 := Option.some.inj (hw1.symm.trans hb_28)
          refine t_cv (va_runV (As := [.ref w1]) (rest := []) ⟨hx, hb, hml, hown, hts⟩ (cy_X10_copyFrom_x_10_14 l D cA L T r hG hLA.1 σ ρ hB.2.1 _ bw mbw tbw w1 mw1 tw1) (cV hts mv_X10_copyFrom mw_5_201 rfl rfl ⟨Nat.le_of_ble_eq_true rfl, Nat.le_of_ble_eq_true rfl⟩) (pV hB.1 hK hN mbw tbw (show shp cA 10 _ _ _ = .inr (10, Fs10 _ _ _) from rfl) rfl) rfl rfl hl.1 rfl (lv_room (Nat.le_of_ble_eq_true rfl)) dX11_back_32 ⟨Nat.le_of_ble_eq_true rfl, Nat.le_of_ble_eq_true rfl⟩) hLA hA hB hS (by decide) (fun σ_29 ρ_30 H locs hB fσ_29 pσ_29 hS => ?_)
          refine lv_aload_n hx hb dX11_back_35 rfl (lv_at hl 0 rfl) ?_
          refine t_gr hx hb hts hown hK hG hB mh0 th0 fq_11_5 rfl mw_2_212 dX11_back_36 (fun b_32 hb_32 mb_32 tb_32 => ?_)
          refine t_cv (va_runV (As := []) (rest := []) ⟨hx, hb, hml, hown, hts⟩ (cy_X5_clear l D cA L T r hG hLA.1 σ_29 ρ_30 hB.2.1 _ b_32 mb_32 tb_32) (cV hts mv_X5_clear mw_4_6 rfl rfl ⟨Nat.le_of_ble_eq_true rfl, Nat.le_of_ble_eq_true rfl⟩) (pV hB.1 hK hN mb_32 tb_32 (show shp cA 5 _ _ _ = .inr (5, Fs5 _ _ _) from rfl) rfl) rfl rfl hl.1 rfl (lv_room (Nat.le_of_ble_eq_true rfl)) dX11_back_39 ⟨Nat.le_of_ble_eq_true rfl, Nat.le_of_ble_eq_true rfl⟩) hLA hA hB hS (by decide) (fun σ_33 ρ_34 H locs hB fσ_33 pσ_33 hS => ?_)
          refine lv_aload_n hx hb dX11_back_42 rfl (lv_at hl 0 rfl) ?_
          refine t_gr hx hb hts hown hK hG hB mh0 th0 fq_11_9 rfl mw_2_216 dX11_back_43 (fun b_36 hb_36 mb_36 tb_36 => ?_)
          refine t_cv (va_runV (As := []) (rest := []) ⟨hx, hb, hml, hown, hts⟩ (cy_X2_forget l D cA L T r hG hLA.1 σ_33 ρ_34 hB.2.1 _ b_36 mb_36 tb_36) (cV hts mv_X2_forget mw_4_10 rfl rfl ⟨Nat.le_of_ble_eq_true rfl, Nat.le_of_ble_eq_true rfl⟩) (pV hB.1 hK hN mb_36 tb_36 (show shp cA 2 _ _ _ = .inr (2, Fs2 _ _ _) from rfl) rfl) rfl rfl hl.1 rfl (lv_room (Nat.le_of_ble_eq_true rfl)) dX11_back_46 ⟨Nat.le_of_ble_eq_true rfl, Nat.le_of_ble_eq_true rfl⟩) hLA hA hB hS (by decide) (fun σ_37 ρ_38 H locs hB fσ_37 pσ_37 hS => ?_)
          refine lv_aload_n hx hb dX11_back_49 rfl (lv_at hl 0 rfl) ?_
          refine t_gk hx hb hts hown hK hB mh0 th0 fq_11_3 hbw mw_2_210 dX11_back_50 ?_
          refine t_gr hx hb hts hown hK hG hB mbw tbw fq_10_1 rfl mw_1_239 dX11_back_53 (fun b_40 hb_40 mb_40 tb_40 => ?_)
          refine t_gi hx hb hts hown hK hB mb_40 tb_40 fi_8_7 rfl mw_1_112 dX11_back_56 (fun x_41 ex_41 lx_41 ux_41 => ?_)
          have cx_41 := congrArg Int32.toInt ex_41
          exact W.iret (v := x_41) hx hb hr (fun t ht hW => ⟨⟨x_41, (σ_37, ρ_38), rfl, ⟨hB.2.1, hB.2.2, trivial⟩, (show TP D cA L T r σ_37 ρ_38 t.heap from by rw [ht]; exact hB.1)⟩, hS.F ht⟩) hS.2.2 dX11_back_59
        · skip
          have c_13x : p1 = 2 := i_is (by decide) c_13j
          subst c_13x
          refine t_ar (t' := 15) hx hb hK hG hB mba tba ar_60 (by decide) rfl (i_in (by decide) (by decide)) dX11_back_31 (fun b_42 hb_42 mb_42 tb_42 => ?_)
          obtain rfl : w2 = b_42 := Option.some.inj (hw2.symm.trans hb_42)
          refine t_cv (va_runV (As := [.ref w2]) (rest := []) ⟨hx, hb, hml, hown, hts⟩ (cy_X10_copyFrom_x_10_15 l D cA L T r hG hLA.1 σ ρ hB.2.1 _ bw mbw tbw w2 mw2 tw2) (cV hts mv_X10_copyFrom mw_5_201 rfl rfl ⟨Nat.le_of_ble_eq_true rfl, Nat.le_of_ble_eq_true rfl⟩) (pV hB.1 hK hN mbw tbw (show shp cA 10 _ _ _ = .inr (10, Fs10 _ _ _) from rfl) rfl) rfl rfl hl.1 rfl (lv_room (Nat.le_of_ble_eq_true rfl)) dX11_back_32 ⟨Nat.le_of_ble_eq_true rfl, Nat.le_of_ble_eq_true rfl⟩) hLA hA hB hS (by decide) (fun σ_43 ρ_44 H locs hB fσ_43 pσ_43 hS => ?_)
          refine lv_aload_n hx hb dX11_back_35 rfl (lv_at hl 0 rfl) ?_
          refine t_gr hx hb hts hown hK hG hB mh0 th0 fq_11_5 rfl mw_2_212 dX11_back_36 (fun b_46 hb_46 mb_46 tb_46 => ?_)
          refine t_cv (va_runV (As := []) (rest := []) ⟨hx, hb, hml, hown, hts⟩ (cy_X5_clear l D cA L T r hG hLA.1 σ_43 ρ_44 hB.2.1 _ b_46 mb_46 tb_46) (cV hts mv_X5_clear mw_4_6 rfl rfl ⟨Nat.le_of_ble_eq_true rfl, Nat.le_of_ble_eq_true rfl⟩) (pV hB.1 hK hN mb_46 tb_46 (show shp cA 5 _ _ _ = .inr (5, Fs5 _ _ _) from rfl) rfl) rfl rfl hl.1 rfl (lv_room (Nat.le_of_ble_eq_true rfl)) dX11_back_39 ⟨Nat.le_of_ble_eq_true rfl, Nat.le_of_ble_eq_true rfl⟩) hLA hA hB hS (by decide) (fun σ_47 ρ_48 H locs hB fσ_47 pσ_47 hS => ?_)
          refine lv_aload_n hx hb dX11_back_42 rfl (lv_at hl 0 rfl) ?_
          refine t_gr hx hb hts hown hK hG hB mh0 th0 fq_11_9 rfl mw_2_216 dX11_back_43 (fun b_50 hb_50 mb_50 tb_50 => ?_)
          refine t_cv (va_runV (As := []) (rest := []) ⟨hx, hb, hml, hown, hts⟩ (cy_X2_forget l D cA L T r hG hLA.1 σ_47 ρ_48 hB.2.1 _ b_50 mb_50 tb_50) (cV hts mv_X2_forget mw_4_10 rfl rfl ⟨Nat.le_of_ble_eq_true rfl, Nat.le_of_ble_eq_true rfl⟩) (pV hB.1 hK hN mb_50 tb_50 (show shp cA 2 _ _ _ = .inr (2, Fs2 _ _ _) from rfl) rfl) rfl rfl hl.1 rfl (lv_room (Nat.le_of_ble_eq_true rfl)) dX11_back_46 ⟨Nat.le_of_ble_eq_true rfl, Nat.le_of_ble_eq_true rfl⟩) hLA hA hB hS (by decide) (fun σ_51 ρ_52 H locs hB fσ_51 pσ_51 hS => ?_)
          refine lv_aload_n hx hb dX11_back_49 rfl (lv_at hl 0 rfl) ?_
          refine t_gk hx hb hts hown hK hB mh0 th0 fq_11_3 hbw mw_2_210 dX11_back_50 ?_
          refine t_gr hx hb hts hown hK hG hB mbw tbw fq_10_1 rfl mw_1_239 dX11_back_53 (fun b_54 hb_54 mb_54 tb_54 => ?_)
          refine t_gi hx hb hts hown hK hB mb_54 tb_54 fi_8_7 rfl mw_1_112 dX11_back_56 (fun x_55 ex_55 lx_55 ux_55 => ?_)
          have cx_55 := congrArg Int32.toInt ex_55
          exact W.iret (v := x_55) hx hb hr (fun t ht hW => ⟨⟨x_55, (σ_51, ρ_52), rfl, ⟨hB.2.1, hB.2.2, trivial⟩, (show TP D cA L T r σ_51 ρ_52 t.heap from by rw [ht]; exact hB.1)⟩, hS.F ht⟩) hS.2.2 dX11_back_59
        · skip
          have c_13x : p1 = 3 := i_is (by decide) c_13j
          subst c_13x
          refine t_ar (t' := 16) hx hb hK hG hB mba tba ar_60 (by decide) rfl (i_in (by decide) (by decide)) dX11_back_31 (fun b_56 hb_56 mb_56 tb_56 => ?_)
          obtain rfl : w3 = b_56 := Option.some.inj (hw3.symm.trans hb_56)
          refine t_cv (va_runV (As := [.ref w3]) (rest := []) ⟨hx, hb, hml, hown, hts⟩ (cy_X10_copyFrom_x_10_16 l D cA L T r hG hLA.1 σ ρ hB.2.1 _ bw mbw tbw w3 mw3 tw3) (cV hts mv_X10_copyFrom mw_5_201 rfl rfl ⟨Nat.le_of_ble_eq_true rfl, Nat.le_of_ble_eq_true rfl⟩) (pV hB.1 hK hN mbw tbw (show shp cA 10 _ _ _ = .inr (10, Fs10 _ _ _) from rfl) rfl) rfl rfl hl.1 rfl (lv_room (Nat.le_of_ble_eq_true rfl)) dX11_back_32 ⟨Nat.le_of_ble_eq_true rfl, Nat.le_of_ble_eq_true rfl⟩) hLA hA hB hS (by decide) (fun σ_57 ρ_58 H locs hB fσ_57 pσ_57 hS => ?_)
          refine lv_aload_n hx hb dX11_back_35 rfl (lv_at hl 0 rfl) ?_
          refine t_gr hx hb hts hown hK hG hB mh0 th0 fq_11_5 rfl mw_2_212 dX11_back_36 (fun b_60 hb_60 mb_60 tb_60 => ?_)
          refine t_cv (va_runV (As := []) (rest := []) ⟨hx, hb, hml, hown, hts⟩ (cy_X5_clear l D cA L T r hG hLA.1 σ_57 ρ_58 hB.2.1 _ b_60 mb_60 tb_60) (cV hts mv_X5_clear mw_4_6 rfl rfl ⟨Nat.le_of_ble_eq_true rfl, Nat.le_of_ble_eq_true rfl⟩) (pV hB.1 hK hN mb_60 tb_60 (show shp cA 5 _ _ _ = .inr (5, Fs5 _ _ _) from rfl) rfl) rfl rfl hl.1 rfl (lv_room (Nat.le_of_ble_eq_true rfl)) dX11_back_39 ⟨Nat.le_of_ble_eq_true rfl, Nat.le_of_ble_eq_true rfl⟩) hLA hA hB hS (by decide) (fun σ_61 ρ_62 H locs hB fσ_61 pσ_61 hS => ?_)
          refine lv_aload_n hx hb dX11_back_42 rfl (lv_at hl 0 rfl) ?_
          refine t_gr hx hb hts hown hK hG hB mh0 th0 fq_11_9 rfl mw_2_216 dX11_back_43 (fun b_64 hb_64 mb_64 tb_64 => ?_)
          refine t_cv (va_runV (As := []) (rest := []) ⟨hx, hb, hml, hown, hts⟩ (cy_X2_forget l D cA L T r hG hLA.1 σ_61 ρ_62 hB.2.1 _ b_64 mb_64 tb_64) (cV hts mv_X2_forget mw_4_10 rfl rfl ⟨Nat.le_of_ble_eq_true rfl, Nat.le_of_ble_eq_true rfl⟩) (pV hB.1 hK hN mb_64 tb_64 (show shp cA 2 _ _ _ = .inr (2, Fs2 _ _ _) from rfl) rfl) rfl rfl hl.1 rfl (lv_room (Nat.le_of_ble_eq_true rfl)) dX11_back_46 ⟨Nat.le_of_ble_eq_true rfl, Nat.le_of_ble_eq_true rfl⟩) hLA hA hB hS (by decide) (fun σ_65 ρ_66 H locs hB fσ_65 pσ_65 hS => ?_)
          refine lv_aload_n hx hb dX11_back_49 rfl (lv_at hl 0 rfl) ?_
          refine t_gk hx hb hts hown hK hB mh0 th0 fq_11_3 hbw mw_2_210 dX11_back_50 ?_
          refine t_gr hx hb hts hown hK hG hB mbw tbw fq_10_1 rfl mw_1_239 dX11_back_53 (fun b_68 hb_68 mb_68 tb_68 => ?_)
          refine t_gi hx hb hts hown hK hB mb_68 tb_68 fi_8_7 rfl mw_1_112 dX11_back_56 (fun x_69 ex_69 lx_69 ux_69 => ?_)
          have cx_69 := congrArg Int32.toInt ex_69
          exact W.iret (v := x_69) hx hb hr (fun t ht hW => ⟨⟨x_69, (σ_65, ρ_66), rfl, ⟨hB.2.1, hB.2.2, trivial⟩, (show TP D cA L T r σ_65 ρ_66 t.heap from by rw [ht]; exact hB.1)⟩, hS.F ht⟩) hS.2.2 dX11_back_59
      · skip
        have uc_11 := i_eq (n := 0) (by decide) c_11
        refine lv_iconst (v := (-1)) hx hb dX11_back_20 (by decide) ?_
        exact W.iret (v := (-1)) hx hb hr (fun t ht hW => ⟨⟨(-1), (σ, ρ), rfl, ⟨hB.2.1, hB.2.2, trivial⟩, (show TP D cA L T r σ ρ t.heap from by rw [ht]; exact hB.1)⟩, hS.F ht⟩) hS.2.2 dX11_back_21
