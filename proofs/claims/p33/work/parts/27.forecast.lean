theorem mw_2_166 : (.fieldLink RX2 21 "HillBends$Forecast" "scene" "LHillBends$Scene;" : Cond) ∈ wsA := wsA_t (List.mem_append_right _ (List.mem_append_left _ (List.mem_of_getElem? (l := tables_1_2) (i := 166) rfl))) rfl
theorem mw_1_160 : (.fieldLink RX2 29 "HillBends$Hill" "begin" "LHillBends$Scene;" : Cond) ∈ wsA := wsA_t (List.mem_append_left _ (List.mem_of_getElem? (l := tables_1_1) (i := 160) rfl)) rfl
theorem mw_5_139 : (.methodLink RX2 34 yX8_copyFrom : Cond) ∈ wsA := wsA_t (List.mem_append_right _ (List.mem_append_right _ (List.mem_append_right _ (List.mem_append_right _ (List.mem_append_left _ (List.mem_of_getElem? (l := tables_1_5) (i := 139) rfl)))))) rfl
theorem mw_2_164 : (.fieldLink RX2 11 "HillBends$Forecast" "seconds" "[I" : Cond) ∈ wsA := wsA_t (List.mem_append_right _ (List.mem_append_left _ (List.mem_of_getElem? (l := tables_1_2) (i := 164) rfl))) rfl
theorem mw_1_108 : (.fieldLink RX2 38 "HillBends$Scene" "seconds" "I" : Cond) ∈ wsA := wsA_t (List.mem_append_left _ (List.mem_of_getElem? (l := tables_1_1) (i := 108) rfl)) rfl
theorem mw_5_140 : (.methodLink RX2 40 yX6_pass : Cond) ∈ wsA := wsA_t (List.mem_append_right _ (List.mem_append_right _ (List.mem_append_right _ (List.mem_append_right _ (List.mem_append_left _ (List.mem_of_getElem? (l := tables_1_5) (i := 140) rfl)))))) rfl
theorem dX2_foresee_0 : decode cX2_foresee 0 = .ok (.aload_n 0, 1) := by decide +kernel
theorem dX2_foresee_1 : decode cX2_foresee 1 = .ok (.getfield 25, 3) := by decide +kernel
theorem dX2_foresee_4 : decode cX2_foresee 4 = .ok (.iload 4, 2) := by decide +kernel
theorem dX2_foresee_6 : decode cX2_foresee 6 = .ok (.ishr, 1) := by decide +kernel
theorem dX2_foresee_7 : decode cX2_foresee 7 = .ok (.iconst 1, 1) := by decide +kernel
theorem dX2_foresee_8 : decode cX2_foresee 8 = .ok (.iand, 1) := by decide +kernel
theorem dX2_foresee_9 : decode cX2_foresee 9 = .ok (.ifCond .eq 4, 3) := by decide +kernel
theorem dX2_foresee_13 : decode cX2_foresee 13 = .ok (.aload_n 0, 1) := by decide +kernel
theorem dX2_foresee_14 : decode cX2_foresee 14 = .ok (.dup, 1) := by decide +kernel
theorem dX2_foresee_15 : decode cX2_foresee 15 = .ok (.getfield 25, 3) := by decide +kernel
theorem dX2_foresee_18 : decode cX2_foresee 18 = .ok (.iconst 1, 1) := by decide +kernel
theorem dX2_foresee_19 : decode cX2_foresee 19 = .ok (.iload 4, 2) := by decide +kernel
theorem dX2_foresee_21 : decode cX2_foresee 21 = .ok (.ishl, 1) := by decide +kernel
theorem dX2_foresee_22 : decode cX2_foresee 22 = .ok (.ior, 1) := by decide +kernel
theorem dX2_foresee_23 : decode cX2_foresee 23 = .ok (.putfield 25, 3) := by decide +kernel
theorem dX2_foresee_26 : decode cX2_foresee 26 = .ok (.aload_n 0, 1) := by decide +kernel
theorem dX2_foresee_27 : decode cX2_foresee 27 = .ok (.getfield 21, 3) := by decide +kernel
theorem dX2_foresee_30 : decode cX2_foresee 30 = .ok (.aload_n 1, 1) := by decide +kernel
theorem dX2_foresee_31 : decode cX2_foresee 31 = .ok (.getfield 29, 3) := by decide +kernel
theorem dX2_foresee_34 : decode cX2_foresee 34 = .ok (.invokevirtual 34, 3) := by decide +kernel
theorem dX2_foresee_37 : decode cX2_foresee 37 = .ok (.iconst 0, 1) := by decide +kernel
theorem dX2_foresee_38 : decode cX2_foresee 38 = .ok (.istore 5, 2) := by decide +kernel
theorem dX2_foresee_40 : decode cX2_foresee 40 = .ok (.iload 5, 2) := by decide +kernel
theorem dX2_foresee_42 : decode cX2_foresee 42 = .ok (.bipush 61, 2) := by decide +kernel
theorem dX2_foresee_44 : decode cX2_foresee 44 = .ok (.if_icmp .ge 39, 3) := by decide +kernel
theorem dX2_foresee_83 : decode cX2_foresee 83 = .ok (.return_, 1) := by decide +kernel
theorem dX2_foresee_47 : decode cX2_foresee 47 = .ok (.aload_n 0, 1) := by decide +kernel
theorem dX2_foresee_48 : decode cX2_foresee 48 = .ok (.getfield 11, 3) := by decide +kernel
theorem dX2_foresee_51 : decode cX2_foresee 51 = .ok (.iload 4, 2) := by decide +kernel
theorem dX2_foresee_53 : decode cX2_foresee 53 = .ok (.bipush 61, 2) := by decide +kernel
theorem dX2_foresee_55 : decode cX2_foresee 55 = .ok (.imul, 1) := by decide +kernel
theorem dX2_foresee_56 : decode cX2_foresee 56 = .ok (.iload 5, 2) := by decide +kernel
theorem dX2_foresee_58 : decode cX2_foresee 58 = .ok (.iadd, 1) := by decide +kernel
theorem dX2_foresee_59 : decode cX2_foresee 59 = .ok (.aload_n 0, 1) := by decide +kernel
theorem dX2_foresee_60 : decode cX2_foresee 60 = .ok (.getfield 21, 3) := by decide +kernel
theorem dX2_foresee_63 : decode cX2_foresee 63 = .ok (.getfield 38, 3) := by decide +kernel
theorem dX2_foresee_66 : decode cX2_foresee 66 = .ok (.iastore, 1) := by decide +kernel
theorem dX2_foresee_67 : decode cX2_foresee 67 = .ok (.aload_n 2, 1) := by decide +kernel
theorem dX2_foresee_68 : decode cX2_foresee 68 = .ok (.aload_n 1, 1) := by decide +kernel
theorem dX2_foresee_69 : decode cX2_foresee 69 = .ok (.aload_n 0, 1) := by decide +kernel
theorem dX2_foresee_70 : decode cX2_foresee 70 = .ok (.getfield 21, 3) := by decide +kernel
theorem dX2_foresee_73 : decode cX2_foresee 73 = .ok (.aload_n 3, 1) := by decide +kernel
theorem dX2_foresee_74 : decode cX2_foresee 74 = .ok (.invokevirtual 40, 3) := by decide +kernel
theorem dX2_foresee_77 : decode cX2_foresee 77 = .ok (.iinc 5 1, 3) := by decide +kernel
theorem dX2_foresee_80 : decode cX2_foresee 80 = .ok (.goto (-40), 3) := by decide +kernel
theorem dX2_foresee_12 : decode cX2_foresee 12 = .ok (.return_, 1) := by decide +kernel
set_option maxHeartbeats 4000000 in
set_option maxRecDepth 100000 in
theorem cy_X2_foresee_7 (l : Launch) (D : va_G) (cA : Nat → ClassId) (L : List Nat) (T : Nat → Nat) (r : Rg) (hG : GR L T r) (hL : L.Nodup) (σ : Sg) (ρ : Lg) (hW : WT L ry T σ) (sz : Nat) (h0 : Nat) (mh0 : h0 ∈ L) (th0 : T h0 = 2) (h1 : Nat) (mh1 : h1 ∈ L) (th1 : T h1 = 3) (h2 : Nat) (mh2 : h2 ∈ L) (th2 : T h2 = 6) (h3 : Nat) (mh3 : h3 ∈ L) (th3 : T h3 = 7) (p4 : Int32) (w0 : 0 ≤ p4.toInt) (w1 : p4.toInt ≤ 6) : Met l yX2_foresee (.code yX2_foresee cX2_foresee 6 none :: wsA) ({ frames := 4, cells := 0, slots := 0, locals := 121 }) (PR D cA L T r σ ρ sz [.ref h0, .ref h1, .ref h2, .ref h3, .int p4]) (QV D cA L T r ry [(2, 3), (31, 1000), (104, 6), (104, 7), (131, 1000), (132, 1000), (133, 1000), (134, 1000), (135, 1000), (136, 1000)] σ sz (fun σ1 => True)) 0 0 (dm L sz) := by
  refine Met.ofW (cc := cX2_foresee) (maxL := 6) (ret := none) (by decide) rfl ?_
  intro p e s m args below meth c s₁ B hml hv
  obtain ⟨rfl, hsz, hP, hK, hN⟩ := hv
  have hx := B.exec
  have hb := B.bytes
  have hr := B.returns
  have hts : ∀ w ∈ wsA, w.before _ s = true := fun w h => atoms_spec (ws := .code yX2_foresee cX2_foresee 6 none :: wsA) B.pre w (List.mem_cons_of_mem _ h)
  have hown : s.vm.findClass RX2 = some m.cls := findClass_of_methodNamed B.named
  subst hsz
  have hLA : LA (dm L s.heap.size) L := ⟨hL, fun a h => Or.inl h⟩
  have hA : ∀ q : Nat, s.heap.size ≤ q → dm L s.heap.size q := fun q h => Or.inr h
  have hS : va_S (dm L s.heap.size) s.heap s.heap [] := va_S.rf
  have hB : TS D cA L T r ry [(2, 3), (31, 1000), (104, 6), (104, 7), (131, 1000), (132, 1000), (133, 1000), (134, 1000), (135, 1000), (136, 1000)] σ σ ρ s.heap := ⟨hP, hW, FR.rf⟩
  have hl := lv_entry ([.ref h0, .ref h1, .ref h2, .ref h3, .int p4]) (n := 6) (Nat.le_of_ble_eq_true rfl)
  rw [lg_entry_eq]
  generalize (lg_sl ([.ref h0, .ref h1, .ref h2, .ref h3, .int p4]) ++ List.replicate (6 - (lg_sl ([.ref h0, .ref h1, .ref h2, .ref h3, .int p4])).length) Slot.unset).toArray = ls at hl ⊢
  have hl : lv_has ls 6 [(0, .ref h0), (1, .ref h1), (2, .ref h2), (3, .ref h3), (4, .int p4)] := hl
  refine lv_aload_n hx hb dX2_foresee_0 rfl (lv_at hl 0 rfl) ?_
  refine t_gi hx hb hts hown hK hB mh0 th0 fi_2_3 rfl mw_2_167 dX2_foresee_1 (fun x_1 ex_1 lx_1 ux_1 => ?_)
  refine lv_iload hx hb dX2_foresee_4 (lv_at hl 4 rfl) ?_
  refine lv_ishr hx hb dX2_foresee_6 ?_
  refine lv_topi (fun x_2 ex_2 => ?_)
  refine lv_iconst (v := 1) hx hb dX2_foresee_7 (by decide) ?_
  refine lv_iand hx hb dX2_foresee_8 ?_
  refine lv_topi (fun x_3 ex_3 => ?_)
  obtain ⟨lx_3, ux_3⟩ := and_m 1 (n := 1) (by decide) (by decide) (by decide) ex_3
  refine lv_if_eq (tgt := 13) hx hb dX2_foresee_9 (by decide) (fun c_4 => ?_) (fun c_4 => ?_)
  · skip
    have uc_4 := i_eq (n := 0) (by decide) c_4
    refine lv_aload_n hx hb dX2_foresee_13 rfl (lv_at hl 0 rfl) ?_
    refine lv_dup hx hb dX2_foresee_14 rfl ?_
    refine t_gv hx hb hts hown hK hB mh0 th0 fi_2_3 ex_1.symm mw_2_167 dX2_foresee_15 ?_
    refine lv_iconst (v := 1) hx hb dX2_foresee_18 (by decide) ?_
    refine lv_iload hx hb dX2_foresee_19 (lv_at hl 4 rfl) ?_
    refine lv_ishl hx hb dX2_foresee_21 ?_
    refine lv_topi (fun x_5 ex_5 => ?_)
    refine lv_ior hx hb dX2_foresee_22 ?_
    refine lv_topi (fun x_6 ex_6 => ?_)
    refine t_pi hx hb hts hown hK hLA hB hS mh0 th0 fi_2_3 rfl rfl rfl (i_lo _) (i_hi _) (Or.inl (by decide)) mw_2_167 dX2_foresee_23 (fun H locs σ_7 eσ_7 hB hS => ?_)
    have k_8 : σ_7 h0 3 = x_6 := by rw [eσ_7]; exact up2_same _ _ _ _
    refine lv_aload_n hx hb dX2_foresee_26 rfl (lv_at hl 0 rfl) ?_
    refine t_gr hx hb hts hown hK hG hB mh0 th0 fq_2_2 rfl mw_2_166 dX2_foresee_27 (fun b_9 hb_9 mb_9 tb_9 => ?_)
    refine lv_aload_n hx hb dX2_foresee_30 rfl (lv_at hl 1 rfl) ?_
    refine t_gr hx hb hts hown hK hG hB mh1 th1 fq_3_5 rfl mw_1_160 dX2_foresee_31 (fun b_10 hb_10 mb_10 tb_10 => ?_)
    refine t_cv (va_runV (As := [.ref b_10]) (rest := []) ⟨hx, hb, hml, hown, hts⟩ (cy_X8_copyFrom_104_100 l D cA L T r hG hLA.1 σ_7 ρ hB.2.1 _ b_9 mb_9 tb_9 b_10 mb_10 tb_10) (cV hts mv_X8_copyFrom mw_5_139 rfl rfl ⟨Nat.le_of_ble_eq_true rfl, Nat.le_of_ble_eq_true rfl⟩) (pV hB.1 hK hN mb_9 tb_9 (show shp cA 104 _ _ _ = .inr (8, Fs8 _ _ _) from rfl) rfl) rfl rfl hl.1 rfl (lv_room (Nat.le_of_ble_eq_true rfl)) dX2_foresee_34 ⟨Nat.le_of_ble_eq_true rfl, Nat.le_of_ble_eq_true rfl⟩) hLA hA hB hS (by decide) (fun σ_11 ρ_12 H locs hB fσ_11 pσ_11 hS => ?_)
    refine lv_iconst (v := 0) hx hb dX2_foresee_37 (by decide) ?_
    refine lv_istore (lv' := [(5, .int 0), (0, .ref h0), (1, .ref h1), (2, .ref h2), (3, .ref h3), (4, .int p4)]) hx hb dX2_foresee_38 hl (by decide) rfl (fun ls hl => ?_)
    have k_14 : σ_11 h0 3 = x_6 := (FR.at fσ_11 th0 (by decide)).trans k_8
    refine w_loop (α := Int32 × Sg × Lg) (fun (i_15, σ_16, ρ_17) H locs ls => 0 ≤ i_15.toInt ∧ i_15.toInt ≤ 61 ∧ σ_16 h0 3 = x_6 ∧ TS D cA L T r ry [(2, 3), (31, 1000), (104, 6), (104, 7), (131, 1000), (132, 1000), (133, 1000), (134, 1000), (135, 1000), (136, 1000)] σ σ_16 ρ_17 H ∧ va_S (dm L s.heap.size) s.heap H locs ∧ lv_has ls 6 [(5, .int i_15), (0, .ref h0), (1, .ref h1), (2, .ref h2), (3, .ref h3), (4, .int p4)]) (fun (i_15, σ_16, ρ_17) => (61 - i_15.toInt).toNat) ?_ ⟨0, σ_11, ρ_12⟩ ⟨(by decide), (by decide), k_14, hB, hS, lv_sub hl [0, 1, 2, 3, 4, 5] rfl⟩
    rintro ⟨i_15, σ_16, ρ_17⟩ H locs ls ⟨li_15, ui_15, k_19, hB, hS, hl⟩ ih_18
    refine lv_iload hx hb dX2_foresee_40 (lv_at hl 0 rfl) ?_
    refine lv_bipush (v := 61) hx hb dX2_foresee_42 (by decide) ?_
    refine lv_icmp_ge (tgt := 83) hx hb dX2_foresee_44 (by decide) (fun c_20 => ?_) (fun c_20 => ?_)
    · skip
      have uc_20 := i_ge (n := 61) (by decide) c_20
      exact W.vret hx hb hr (fun t ht hW => ⟨⟨(σ_16, ρ_17), rfl, ⟨hB.2.1, hB.2.2, trivial⟩, (show TP D cA L T r σ_16 ρ_17 t.heap from by rw [ht]; exact hB.1)⟩, hS.F ht⟩) hS.2.2 dX2_foresee_83
    · skip
      have uc_20 := i_nge (n := 61) (by decide) c_20
      refine lv_aload_n hx hb dX2_foresee_47 rfl (lv_at hl 1 rfl) ?_
      refine t_gr hx hb hts hown hK hG hB mh0 th0 fq_2_0 rfl mw_2_164 dX2_foresee_48 (fun b_21 hb_21 mb_21 tb_21 => ?_)
      refine lv_iload hx hb dX2_foresee_51 (lv_at hl 5 rfl) ?_
      refine lv_bipush (v := 61) hx hb dX2_foresee_53 (by decide) ?_
      refine lv_imul hx hb dX2_foresee_55 ?_
      refine lv_topi (fun x_22 ex_22 => ?_)
      have vx_22 := b_mul (rfl : p4.toInt = _) (by decide : (61 : Int32).toInt = 61) ex_22 (by omega) (by omega)
      refine lv_iload hx hb dX2_foresee_56 (lv_at hl 0 rfl) ?_
      refine lv_iadd hx hb dX2_foresee_58 ?_
      refine lv_topi (fun x_23 ex_23 => ?_)
      have vx_23 := b_add (rfl : x_22.toInt = _) (rfl : i_15.toInt = _) ex_23 (by omega) (by omega)
      refine lv_aload_n hx hb dX2_foresee_59 rfl (lv_at hl 1 rfl) ?_
      refine t_gk hx hb hts hown hK hB mh0 th0 fq_2_2 hb_9 mw_2_166 dX2_foresee_60 ?_
      refine t_gi hx hb hts hown hK hB mb_9 tb_9 fi_104_6 rfl mw_1_108 dX2_foresee_63 (fun x_24 ex_24 lx_24 ux_24 => ?_)
      refine t_si hx hb hK hLA hB hS mb_21 tb_21 ai_31 (i_in (by omega) (by omega)) (i_lo _) (i_hi _) (Or.inr (by decide)) dX2_foresee_66 (fun H locs σ_25 eσ_25 hB hS => ?_)
      have k_26 : σ_25 b_21 x_23.toNatClampNeg = x_24 := by rw [eσ_25]; exact up2_same _ _ _ _
      refine lv_aload_n hx hb dX2_foresee_67 rfl (lv_at hl 3 rfl) ?_
      refine lv_aload_n hx hb dX2_foresee_68 rfl (lv_at hl 2 rfl) ?_
      refine lv_aload_n hx hb dX2_foresee_69 rfl (lv_at hl 1 rfl) ?_
      refine t_gk hx hb hts hown hK hB mh0 th0 fq_2_2 hb_9 mw_2_166 dX2_foresee_70 ?_
      refine lv_aload_n hx hb dX2_foresee_73 rfl (lv_at hl 4 rfl) ?_
      refine t_cv (va_runV (As := [.ref h1, .ref b_9, .ref h3]) (rest := []) ⟨hx, hb, hml, hown, hts⟩ (cy_X6_pass_104_7 l D cA L T r hG hLA.1 σ_25 ρ_17 hB.2.1 _ h2 mh2 th2 h1 mh1 th1 b_9 mb_9 tb_9 h3 mh3 th3) (cV hts mv_X6_pass mw_5_140 rfl rfl ⟨Nat.le_of_ble_eq_true rfl, Nat.le_of_ble_eq_true rfl⟩) (pV hB.1 hK hN mh2 th2 (show shp cA 6 _ _ _ = .inr (6, Fs6 _ _ _) from rfl) rfl) rfl rfl hl.1 rfl (lv_room (Nat.le_of_ble_eq_true rfl)) dX2_foresee_74 ⟨Nat.le_of_ble_eq_true rfl, Nat.le_of_ble_eq_true rfl⟩) hLA hA hB hS (by decide) (fun σ_27 ρ_28 H locs hB fσ_27 pσ_27 hS => ?_)
      obtain ⟨x_30, ex_30⟩ : ∃ y : Int32, y = i_15 + 1 := ⟨_, rfl⟩
      have vx_30 := b_add (rfl : i_15.toInt = _) (by decide : (1 : Int32).toInt = 1) ex_30 (by omega) (by omega)
      refine lv_iinc (v := x_30) (lv' := [(5, .int x_30), (0, .ref h0), (1, .ref h1), (2, .ref h2), (3, .ref h3), (4, .int p4)]) hx hb dX2_foresee_77 hl (k := 0) rfl (by rw [ex_30]; rfl) (by decide) rfl (fun ls hl => ?_)
      refine lv_goto (tgt := 40) hx hb dX2_foresee_80 (by decide) ?_
      have k_31 : σ_25 h0 3 = x_6 := by rw [eσ_25, up2_nea _ _ (tg_ne th0 tb_21 (by decide))]; exact k_19
      have k_32 : σ_27 h0 3 = x_6 := (FR.at fσ_27 th0 (by decide)).trans k_31
      exact ih_18 ⟨x_30, σ_27, ρ_28⟩ _ _ _ ⟨(by omega), (by omega), k_32, hB, hS, lv_sub hl [0, 1, 2, 3, 4, 5] rfl⟩ (by show (61 - x_30.toInt).toNat < (61 - i_15.toInt).toNat; omega)
  · skip
    have uc_4 := i_ne (n := 0) (by decide) c_4
    exact W.vret hx hb hr (fun t ht hW => ⟨⟨(σ, ρ), rfl, ⟨hB.2.1, hB.2.2, trivial⟩, (show TP D cA L T r σ ρ t.heap from by rw [ht]; exact hB.1)⟩, hS.F ht⟩) hS.2.2 dX2_foresee_12
set_option maxHeartbeats 4000000 in
set_option maxRecDepth 100000 in
theorem cy_X2_foresee_0 (l : Launch) (D : va_G) (cA : Nat → ClassId) (L : List Nat) (T : Nat → Nat) (r : Rg) (hG : GR L T r) (hL : L.Nodup) (σ : Sg) (ρ : Lg) (hW : WT L ry T σ) (sz : Nat) (h0 : Nat) (mh0 : h0 ∈ L) (th0 : T h0 = 2) (h1 : Nat) (mh1 : h1 ∈ L) (th1 : T h1 = 3) (h2 : Nat) (mh2 : h2 ∈ L) (th2 : T h2 = 6) (p4 : Int32) (w0 : 0 ≤ p4.toInt) (w1 : p4.toInt ≤ 6) : Met l yX2_foresee (.code yX2_foresee cX2_foresee 6 none :: wsA) ({ frames := 2, cells := 0, slots := 0, locals := 121 }) (PR D cA L T r σ ρ sz [.ref h0, .ref h1, .ref h2, .null, .int p4]) (QV D cA L T r ry [(2, 3), (31, 1000), (104, 6), (104, 7), (131, 1000), (132, 1000), (133, 1000), (134, 1000), (135, 1000), (136, 1000)] σ sz (fun σ1 => True)) 0 0 (dm L sz) := by
  refine Met.ofW (cc := cX2_foresee) (maxL := 6) (ret := none) (by decide) rfl ?_
  intro p e s m args below meth c s₁ B hml hv
  obtain ⟨rfl, hsz, hP, hK, hN⟩ := hv
  have hx := B.exec
  have hb := B.bytes
  have hr := B.returns
  have hts : ∀ w ∈ wsA, w.before _ s = true := fun w h => atoms_spec (ws := .code yX2_foresee cX2_foresee 6 none :: wsA) B.pre w (List.mem_cons_of_mem _ h)
  have hown : s.vm.findClass RX2 = some m.cls := findClass_of_methodNamed B.named
  subst hsz
  have hLA : LA (dm L s.heap.size) L := ⟨hL, fun a h => Or.inl h⟩
  have hA : ∀ q : Nat, s.heap.size ≤ q → dm L s.heap.size q := fun q h => Or.inr h
  have hS : va_S (dm L s.heap.size) s.heap s.heap [] := va_S.rf
  have hB : TS D cA L T r ry [(2, 3), (31, 1000), (104, 6), (104, 7), (131, 1000), (132, 1000), (133, 1000), (134, 1000), (135, 1000), (136, 1000)] σ σ ρ s.heap := ⟨hP, hW, FR.rf⟩
  have hl := lv_entry ([.ref h0, .ref h1, .ref h2, .null, .int p4]) (n := 6) (Nat.le_of_ble_eq_true rfl)
  rw [lg_entry_eq]
  generalize (lg_sl ([.ref h0, .ref h1, .ref h2, .null, .int p4]) ++ List.replicate (6 - (lg_sl ([.ref h0, .ref h1, .ref h2, .null, .int p4])).length) Slot.unset).toArray = ls at hl ⊢
  have hl : lv_has ls 6 [(0, .ref h0), (1, .ref h1), (2, .ref h2), (3, .null), (4, .int p4)] := hl
  refine lv_aload_n hx hb dX2_foresee_0 rfl (lv_at hl 0 rfl) ?_
  refine t_gi hx hb hts hown hK hB mh0 th0 fi_2_3 rfl mw_2_167 dX2_foresee_1 (fun x_1 ex_1 lx_1 ux_1 => ?_)
  refine lv_iload hx hb dX2_foresee_4 (lv_at hl 4 rfl) ?_
  refine lv_ishr hx hb dX2_foresee_6 ?_
  refine lv_topi (fun x_2 ex_2 => ?_)
  refine lv_iconst (v := 1) hx hb dX2_foresee_7 (by decide) ?_
  refine lv_iand hx hb dX2_foresee_8 ?_
  refine lv_topi (fun x_3 ex_3 => ?_)
  obtain ⟨lx_3, ux_3⟩ := and_m 1 (n := 1) (by decide) (by decide) (by decide) ex_3
  refine lv_if_eq (tgt := 13) hx hb dX2_foresee_9 (by decide) (fun c_4 => ?_) (fun c_4 => ?_)
  · skip
    have uc_4 := i_eq (n := 0) (by decide) c_4
    refine lv_aload_n hx hb dX2_foresee_13 rfl (lv_at hl 0 rfl) ?_
    refine lv_dup hx hb dX2_foresee_14 rfl ?_
    refine t_gv hx hb hts hown hK hB mh0 th0 fi_2_3 ex_1.symm mw_2_167 dX2_foresee_15 ?_
    refine lv_iconst (v := 1) hx hb dX2_foresee_18 (by decide) ?_
    refine lv_iload hx hb dX2_foresee_19 (lv_at hl 4 rfl) ?_
    refine lv_ishl hx hb dX2_foresee_21 ?_
    refine lv_topi (fun x_5 ex_5 => ?_)
    refine lv_ior hx hb dX2_foresee_22 ?_
    refine lv_topi (fun x_6 ex_6 => ?_)
    refine t_pi hx hb hts hown hK hLA hB hS mh0 th0 fi_2_3 rfl rfl rfl (i_lo _) (i_hi _) (Or.inl (by decide)) mw_2_167 dX2_foresee_23 (fun H locs σ_7 eσ_7 hB hS => ?_)
    have k_8 : σ_7 h0 3 = x_6 := by rw [eσ_7]; exact up2_same _ _ _ _
    refine lv_aload_n hx hb dX2_foresee_26 rfl (lv_at hl 0 rfl) ?_
    refine t_gr hx hb hts hown hK hG hB mh0 th0 fq_2_2 rfl mw_2_166 dX2_foresee_27 (fun b_9 hb_9 mb_9 tb_9 => ?_)
    refine lv_aload_n hx hb dX2_foresee_30 rfl (lv_at hl 1 rfl) ?_
    refine t_gr hx hb hts hown hK hG hB mh1 th1 fq_3_5 rfl mw_1_160 dX2_foresee_31 (fun b_10 hb_10 mb_10 tb_10 => ?_)
    refine t_cv (va_runV (As := [.ref b_10]) (rest := []) ⟨hx, hb, hml, hown, hts⟩ (cy_X8_copyFrom_104_100 l D cA L T r hG hLA.1 σ_7 ρ hB.2.1 _ b_9 mb_9 tb_9 b_10 mb_10 tb_10) (cV hts mv_X8_copyFrom mw_5_139 rfl rfl ⟨Nat.le_of_ble_eq_true rfl, Nat.le_of_ble_eq_true rfl⟩) (pV hB.1 hK hN mb_9 tb_9 (show shp cA 104 _ _ _ = .inr (8, Fs8 _ _ _) from rfl) rfl) rfl rfl hl.1 rfl (lv_room (Nat.le_of_ble_eq_true rfl)) dX2_foresee_34 ⟨Nat.le_of_ble_eq_true rfl, Nat.le_of_ble_eq_true rfl⟩) hLA hA hB hS (by decide) (fun σ_11 ρ_12 H locs hB fσ_11 pσ_11 hS => ?_)
    refine lv_iconst (v := 0) hx hb dX2_foresee_37 (by decide) ?_
    refine lv_istore (lv' := [(5, .int 0), (0, .ref h0), (1, .ref h1), (2, .ref h2), (3, .null), (4, .int p4)]) hx hb dX2_foresee_38 hl (by decide) rfl (fun ls hl => ?_)
    have k_14 : σ_11 h0 3 = x_6 := (FR.at fσ_11 th0 (by decide)).trans k_8
    refine w_loop (α := Int32 × Sg × Lg) (fun (i_15, σ_16, ρ_17) H locs ls => 0 ≤ i_15.toInt ∧ i_15.toInt ≤ 61 ∧ σ_16 h0 3 = x_6 ∧ TS D cA L T r ry [(2, 3), (31, 1000), (104, 6), (104, 7), (131, 1000), (132, 1000), (133, 1000), (134, 1000), (135, 1000), (136, 1000)] σ σ_16 ρ_17 H ∧ va_S (dm L s.heap.size) s.heap H locs ∧ lv_has ls 6 [(5, .int i_15), (0, .ref h0), (1, .ref h1), (2, .ref h2), (3, .null), (4, .int p4)]) (fun (i_15, σ_16, ρ_17) => (61 - i_15.toInt).toNat) ?_ ⟨0, σ_11, ρ_12⟩ ⟨(by decide), (by decide), k_14, hB, hS, lv_sub hl [0, 1, 2, 3, 4, 5] rfl⟩
    rintro ⟨i_15, σ_16, ρ_17⟩ H locs ls ⟨li_15, ui_15, k_19, hB, hS, hl⟩ ih_18
    refine lv_iload hx hb dX2_foresee_40 (lv_at hl 0 rfl) ?_
    refine lv_bipush (v := 61) hx hb dX2_foresee_42 (by decide) ?_
    refine lv_icmp_ge (tgt := 83) hx hb dX2_foresee_44 (by decide) (fun c_20 => ?_) (fun c_20 => ?_)
    · skip
      have uc_20 := i_ge (n := 61) (by decide) c_20
      exact W.vret hx hb hr (fun t ht hW => ⟨⟨(σ_16, ρ_17), rfl, ⟨hB.2.1, hB.2.2, trivial⟩, (show TP D cA L T r σ_16 ρ_17 t.heap from by rw [ht]; exact hB.1)⟩, hS.F ht⟩) hS.2.2 dX2_foresee_83
    · skip
      have uc_20 := i_nge (n := 61) (by decide) c_20
      refine lv_aload_n hx hb dX2_foresee_47 rfl (lv_at hl 1 rfl) ?_
      refine t_gr hx hb hts hown hK hG hB mh0 th0 fq_2_0 rfl mw_2_164 dX2_foresee_48 (fun b_21 hb_21 mb_21 tb_21 => ?_)
      refine lv_iload hx hb dX2_foresee_51 (lv_at hl 5 rfl) ?_
      refine lv_bipush (v := 61) hx hb dX2_foresee_53 (by decide) ?_
      refine lv_imul hx hb dX2_foresee_55 ?_
      refine lv_topi (fun x_22 ex_22 => ?_)
      have vx_22 := b_mul (rfl : p4.toInt = _) (by decide : (61 : Int32).toInt = 61) ex_22 (by omega) (by omega)
      refine lv_iload hx hb dX2_foresee_56 (lv_at hl 0 rfl) ?_
      refine lv_iadd hx hb dX2_foresee_58 ?_
      refine lv_topi (fun x_23 ex_23 => ?_)
      have vx_23 := b_add (rfl : x_22.toInt = _) (rfl : i_15.toInt = _) ex_23 (by omega) (by omega)
      refine lv_aload_n hx hb dX2_foresee_59 rfl (lv_at hl 1 rfl) ?_
      refine t_gk hx hb hts hown hK hB mh0 th0 fq_2_2 hb_9 mw_2_166 dX2_foresee_60 ?_
      refine t_gi hx hb hts hown hK hB mb_9 tb_9 fi_104_6 rfl mw_1_108 dX2_foresee_63 (fun x_24 ex_24 lx_24 ux_24 => ?_)
      refine t_si hx hb hK hLA hB hS mb_21 tb_21 ai_31 (i_in (by omega) (by omega)) (i_lo _) (i_hi _) (Or.inr (by decide)) dX2_foresee_66 (fun H locs σ_25 eσ_25 hB hS => ?_)
      have k_26 : σ_25 b_21 x_23.toNatClampNeg = x_24 := by rw [eσ_25]; exact up2_same _ _ _ _
      refine lv_aload_n hx hb dX2_foresee_67 rfl (lv_at hl 3 rfl) ?_
      refine lv_aload_n hx hb dX2_foresee_68 rfl (lv_at hl 2 rfl) ?_
      refine lv_aload_n hx hb dX2_foresee_69 rfl (lv_at hl 1 rfl) ?_
      refine t_gk hx hb hts hown hK hB mh0 th0 fq_2_2 hb_9 mw_2_166 dX2_foresee_70 ?_
      refine lv_aload_nN hx hb dX2_foresee_73 rfl (lv_at hl 4 rfl) ?_
      refine t_cv (va_runV (As := [.ref h1, .ref b_9, .null]) (rest := []) ⟨hx, hb, hml, hown, hts⟩ (cy_X6_pass_104_0 l D cA L T r hG hLA.1 σ_25 ρ_17 hB.2.1 _ h2 mh2 th2 h1 mh1 th1 b_9 mb_9 tb_9) (cV hts mv_X6_pass mw_5_140 rfl rfl ⟨Nat.le_of_ble_eq_true rfl, Nat.le_of_ble_eq_true rfl⟩) (pV hB.1 hK hN mh2 th2 (show shp cA 6 _ _ _ = .inr (6, Fs6 _ _ _) from rfl) rfl) rfl rfl hl.1 rfl (lv_room (Nat.le_of_ble_eq_true rfl)) dX2_foresee_74 ⟨Nat.le_of_ble_eq_true rfl, Nat.le_of_ble_eq_true rfl⟩) hLA hA hB hS (by decide) (fun σ_27 ρ_28 H locs hB fσ_27 pσ_27 hS => ?_)
      obtain ⟨x_30, ex_30⟩ : ∃ y : Int32, y = i_15 + 1 := ⟨_, rfl⟩
      have vx_30 := b_add (rfl : i_15.toInt = _) (by decide : (1 : Int32).toInt = 1) ex_30 (by omega) (by omega)
      refine lv_iinc (v := x_30) (lv' := [(5, .int x_30), (0, .ref h0), (1, .ref h1), (2, .ref h2), (3, .null), (4, .int p4)]) hx hb dX2_foresee_77 hl (k := 0) rfl (by rw [ex_30]; rfl) (by decide) rfl (fun ls hl => ?_)
      refine lv_goto (tgt := 40) hx hb dX2_foresee_80 (by decide) ?_
      have k_31 : σ_25 h0 3 = x_6 := by rw [eσ_25, up2_nea _ _ (tg_ne th0 tb_21 (by decide))]; exact k_19
      have k_32 : σ_27 h0 3 = x_6 := (FR.at fσ_27 th0 (by decide)).trans k_31
      exact ih_18 ⟨x_30, σ_27, ρ_28⟩ _ _ _ ⟨(by omega), (by omega), k_32, hB, hS, lv_sub hl [0, 1, 2, 3, 4, 5] rfl⟩ (by show (61 - x_30.toInt).toNat < (61 - i_15.toInt).toNat; omega)
  · skip
    have uc_4 := i_ne (n := 0) (by decide) c_4
    exact W.vret hx hb hr (fun t ht hW => ⟨⟨(σ, ρ), rfl, ⟨hB.2.1, hB.2.2, trivial⟩, (show TP D cA L T r σ ρ t.heap from by rw [ht]; exact hB.1)⟩, hS.F ht⟩) hS.2.2 dX2_foresee_12
theorem mw_2_12 : (.fieldLink RX2 46 "HillBends$World" "notes" "I" : Cond) ∈ wsA := wsA_t (List.mem_append_right _ (List.mem_append_left _ (List.mem_of_getElem? (l := tables_1_2) (i := 12) rfl))) rfl
theorem mw_2_3 : (.fieldLink RX2 51 "HillBends$World" "noteNight" "[I" : Cond) ∈ wsA := wsA_t (List.mem_append_right _ (List.mem_append_left _ (List.mem_of_getElem? (l := tables_1_2) (i := 3) rfl))) rfl
theorem mw_1_234 : (.fieldLink RX2 54 "HillBends$World" "hill" "LHillBends$Hill;" : Cond) ∈ wsA := wsA_t (List.mem_append_left _ (List.mem_of_getElem? (l := tables_1_1) (i := 234) rfl)) rfl
theorem mw_2_6 : (.fieldLink RX2 58 "HillBends$World" "noteBend" "[I" : Cond) ∈ wsA := wsA_t (List.mem_append_right _ (List.mem_append_left _ (List.mem_of_getElem? (l := tables_1_2) (i := 6) rfl))) rfl
theorem mw_5_145 : (.methodLink RX2 61 yX3_askedAt : Cond) ∈ wsA := wsA_t (List.mem_append_right _ (List.mem_append_right _ (List.mem_append_right _ (List.mem_append_right _ (List.mem_append_left _ (List.mem_of_getElem? (l := tables_1_5) (i := 145) rfl)))))) rfl
theorem mw_2_9 : (.fieldLink RX2 65 "HillBends$World" "noteSort" "[I" : Cond) ∈ wsA := wsA_t (List.mem_append_right _ (List.mem_append_left _ (List.mem_of_getElem? (l := tables_1_2) (i := 9) rfl))) rfl
theorem dX2_agrees_0 : decode cX2_agrees 0 = .ok (.iconst 0, 1) := by decide +kernel
theorem dX2_agrees_1 : decode cX2_agrees 1 = .ok (.istore_n 3, 1) := by decide +kernel
theorem dX2_agrees_2 : decode cX2_agrees 2 = .ok (.iload_n 3, 1) := by decide +kernel
theorem dX2_agrees_3 : decode cX2_agrees 3 = .ok (.aload_n 1, 1) := by decide +kernel
theorem dX2_agrees_4 : decode cX2_agrees 4 = .ok (.getfield 46, 3) := by decide +kernel
theorem dX2_agrees_7 : decode cX2_agrees 7 = .ok (.if_icmp .ge 53, 3) := by decide +kernel
theorem dX2_agrees_60 : decode cX2_agrees 60 = .ok (.iconst 1, 1) := by decide +kernel
theorem dX2_agrees_61 : decode cX2_agrees 61 = .ok (.ireturn, 1) := by decide +kernel
theorem dX2_agrees_10 : decode cX2_agrees 10 = .ok (.aload_n 0, 1) := by decide +kernel
theorem dX2_agrees_11 : decode cX2_agrees 11 = .ok (.getfield 11, 3) := by decide +kernel
theorem dX2_agrees_14 : decode cX2_agrees 14 = .ok (.iload_n 2, 1) := by decide +kernel
theorem dX2_agrees_15 : decode cX2_agrees 15 = .ok (.bipush 61, 2) := by decide +kernel
theorem dX2_agrees_17 : decode cX2_agrees 17 = .ok (.imul, 1) := by decide +kernel
theorem dX2_agrees_18 : decode cX2_agrees 18 = .ok (.aload_n 1, 1) := by decide +kernel
theorem dX2_agrees_19 : decode cX2_agrees 19 = .ok (.getfield 51, 3) := by decide +kernel
theorem dX2_agrees_22 : decode cX2_agrees 22 = .ok (.iload_n 3, 1) := by decide +kernel
theorem dX2_agrees_23 : decode cX2_agrees 23 = .ok (.iaload, 1) := by decide +kernel
theorem dX2_agrees_24 : decode cX2_agrees 24 = .ok (.iadd, 1) := by decide +kernel
theorem dX2_agrees_25 : decode cX2_agrees 25 = .ok (.iaload, 1) := by decide +kernel
theorem dX2_agrees_26 : decode cX2_agrees 26 = .ok (.istore 4, 2) := by decide +kernel
theorem dX2_agrees_28 : decode cX2_agrees 28 = .ok (.aload_n 1, 1) := by decide +kernel
theorem dX2_agrees_29 : decode cX2_agrees 29 = .ok (.getfield 54, 3) := by decide +kernel
theorem dX2_agrees_32 : decode cX2_agrees 32 = .ok (.aload_n 1, 1) := by decide +kernel
theorem dX2_agrees_33 : decode cX2_agrees 33 = .ok (.getfield 58, 3) := by decide +kernel
theorem dX2_agrees_36 : decode cX2_agrees 36 = .ok (.iload_n 3, 1) := by decide +kernel
theorem dX2_agrees_37 : decode cX2_agrees 37 = .ok (.iaload, 1) := by decide +kernel
theorem dX2_agrees_38 : decode cX2_agrees 38 = .ok (.iload 4, 2) := by decide +kernel
theorem dX2_agrees_40 : decode cX2_agrees 40 = .ok (.invokevirtual 61, 3) := by decide +kernel
theorem dX2_agrees_43 : decode cX2_agrees 43 = .ok (.aload_n 1, 1) := by decide +kernel
theorem dX2_agrees_44 : decode cX2_agrees 44 = .ok (.getfield 65, 3) := by decide +kernel
theorem dX2_agrees_47 : decode cX2_agrees 47 = .ok (.iload_n 3, 1) := by decide +kernel
theorem dX2_agrees_48 : decode cX2_agrees 48 = .ok (.iaload, 1) := by decide +kernel
theorem dX2_agrees_49 : decode cX2_agrees 49 = .ok (.if_icmp .eq 5, 3) := by decide +kernel
theorem dX2_agrees_54 : decode cX2_agrees 54 = .ok (.iinc 3 1, 3) := by decide +kernel
theorem dX2_agrees_57 : decode cX2_agrees 57 = .ok (.goto (-55), 3) := by decide +kernel
theorem dX2_agrees_52 : decode cX2_agrees 52 = .ok (.iconst 0, 1) := by decide +kernel
theorem dX2_agrees_53 : decode cX2_agrees 53 = .ok (.ireturn, 1) := by decide +kernel
set_option maxHeartbeats 4000000 in
set_option maxRecDepth 100000 in
theorem cy_X2_agrees (l : Launch) (D : va_G) (cA : Nat → ClassId) (L : List Nat) (T : Nat → Nat) (r : Rg) (hG : GR L T r) (hL : L.Nodup) (σ : Sg) (ρ : Lg) (hW : WT L ry T σ) (sz : Nat) (h0 : Nat) (mh0 : h0 ∈ L) (th0 : T h0 = 2) (h1 : Nat) (mh1 : h1 ∈ L) (th1 : T h1 = 10) (p2 : Int32) (w0 : 0 ≤ p2.toInt) (w1 : p2.toInt ≤ 6) : Met l yX2_agrees (.code yX2_agrees cX2_agrees 5 (some .boolean) :: wsA) ({ frames := 1, cells := 0, slots := 0, locals := 22 }) (PR D cA L T r σ ρ sz [.ref h0, .ref h1, .int p2]) (QI D cA L T r ry ([] : List (Nat × Nat)) σ sz (fun x σ1 => (0 ≤ x.toInt ∧ x.toInt ≤ 1))) 0 0 (dm L sz) := by
  refine Met.ofW (cc := cX2_agrees) (maxL := 5) (ret := (some .boolean)) (by decide) rfl ?_
  intro p e s m args below meth c s₁ B hml hv
  obtain ⟨rfl, hsz, hP, hK, hN⟩ := hv
  have hx := B.exec
  have hb := B.bytes
  have hr := B.returns
  have hts : ∀ w ∈ wsA, w.before _ s = true := fun w h => atoms_spec (ws := .code yX2_agrees cX2_agrees 5 (some .boolean) :: wsA) B.pre w (List.mem_cons_of_mem _ h)
  have hown : s.vm.findClass RX2 = some m.cls := findClass_of_methodNamed B.named
  subst hsz
  have hLA : LA (dm L s.heap.size) L := ⟨hL, fun a h => Or.inl h⟩
  have hA : ∀ q : Nat, s.heap.size ≤ q → dm L s.heap.size q := fun q h => Or.inr h
  have hS : va_S (dm L s.heap.size) s.heap s.heap [] := va_S.rf
  have hB : TS D cA L T r ry ([] : List (Nat × Nat)) σ σ ρ s.heap := ⟨hP, hW, FR.rf⟩
  have hl := lv_entry ([.ref h0, .ref h1, .int p2]) (n := 5) (Nat.le_of_ble_eq_true rfl)
  rw [lg_entry_eq]
  generalize (lg_sl ([.ref h0, .ref h1, .int p2]) ++ List.replicate (5 - (lg_sl ([.ref h0, .ref h1, .int p2])).length) Slot.unset).toArray = ls at hl ⊢
  have hl : lv_has ls 5 [(0, .ref h0), (1, .ref h1), (2, .int p2)] := hl
  refine lv_iconst (v := 0) hx hb dX2_agrees_0 (by decide) ?_
  refine lv_istore_n (lv' := [(3, .int 0), (0, .ref h0), (1, .ref h1), (2, .int p2)]) hx hb dX2_agrees_1 rfl hl (by decide) rfl (fun ls hl => ?_)
  refine w_loop (α := Int32 × Sg × Lg) (fun (i_1, σ_2, ρ_3) H locs ls => 0 ≤ i_1.toInt ∧ i_1.toInt ≤ 10 ∧ TS D cA L T r ry ([] : List (Nat × Nat)) σ σ_2 ρ_3 H ∧ va_S (dm L s.heap.size) s.heap H locs ∧ lv_has ls 5 [(3, .int i_1), (0, .ref h0), (1, .ref h1), (2, .int p2)]) (fun (i_1, σ_2, ρ_3) => (10 - i_1.toInt).toNat) ?_ ⟨0, σ, ρ⟩ ⟨(by decide), (by decide), hB, hS, lv_sub hl [0, 1, 2, 3] rfl⟩
  rintro ⟨i_1, σ_2, ρ_3⟩ H locs ls ⟨li_1, ui_1, hB, hS, hl⟩ ih_4
  refine lv_iload_n hx hb dX2_agrees_2 rfl (lv_at hl 0 rfl) ?_
  refine lv_aload_n hx hb dX2_agrees_3 rfl (lv_at hl 2 rfl) ?_
  refine t_gi hx hb hts hown hK hB mh1 th1 fi_10_6 rfl mw_2_12 dX2_agrees_4 (fun x_5 ex_5 lx_5 ux_5 => ?_)
  refine lv_icmp_ge (tgt := 60) hx hb dX2_agrees_7 (by decide) (fun c_6 => ?_) (fun c_6 => ?_)
  · skip
    have uc_6 := j_le c_6
    refine lv_iconst (v := 1) hx hb dX2_agrees_60 (by decide) ?_
    exact W.zret (v := 1) hx hb hr rfl (fun t ht hW => ⟨⟨1, (σ_2, ρ_3), rfl, ⟨hB.2.1, hB.2.2, (show 0 ≤ (1 : Int32).toInt ∧ (1 : Int32).toInt ≤ 1 from ⟨by decide, by decide⟩)⟩, (show TP D cA L T r σ_2 ρ_3 t.heap from by rw [ht]; exact hB.1)⟩, hS.F ht⟩) hS.2.2 dX2_agrees_61
  · skip
    have uc_6 := j_nle c_6
    refine lv_aload_n hx hb dX2_agrees_10 rfl (lv_at hl 1 rfl) ?_
    refine t_gr hx hb hts hown hK hG hB mh0 th0 fq_2_0 rfl mw_2_164 dX2_agrees_11 (fun b_7 hb_7 mb_7 tb_7 => ?_)
    refine lv_iload_n hx hb dX2_agrees_14 rfl (lv_at hl 3 rfl) ?_
    refine lv_bipush (v := 61) hx hb dX2_agrees_15 (by decide) ?_
    refine lv_imul hx hb dX2_agrees_17 ?_
    refine lv_topi (fun x_8 ex_8 => ?_)
    have vx_8 := b_mul (rfl : p2.toInt = _) (by decide : (61 : Int32).toInt = 61) ex_8 (by omega) (by omega)
    refine lv_aload_n hx hb dX2_agrees_18 rfl (lv_at hl 2 rfl) ?_
    refine t_gr hx hb hts hown hK hG hB mh1 th1 fq_10_3 rfl mw_2_3 dX2_agrees_19 (fun b_9 hb_9 mb_9 tb_9 => ?_)
    refine lv_iload_n hx hb dX2_agrees_22 rfl (lv_at hl 0 rfl) ?_
    refine t_ai hx hb hK hB mb_9 tb_9 ai_56 (fun _ => rfl) (i_in (by omega) (by omega)) dX2_agrees_23 (fun x_10 ex_10 lx_10 ux_10 => ?_)
    refine lv_iadd hx hb dX2_agrees_24 ?_
    refine lv_topi (fun x_11 ex_11 => ?_)
    have vx_11 := b_add (rfl : x_8.toInt = _) (rfl : x_10.toInt = _) ex_11 (by omega) (by omega)
    refine t_ai hx hb hK hB mb_7 tb_7 ai_31 (fun _ => rfl) (i_in (by omega) (by omega)) dX2_agrees_25 (fun x_12 ex_12 lx_12 ux_12 => ?_)
    refine lv_istore (lv' := [(4, .int x_12), (3, .int i_1), (0, .ref h0), (1, .ref h1), (2, .int p2)]) hx hb dX2_agrees_26 hl (by decide) rfl (fun ls hl => ?_)
    refine lv_aload_n hx hb dX2_agrees_28 rfl (lv_at hl 3 rfl) ?_
    refine t_gr hx hb hts hown hK hG hB mh1 th1 fq_10_0 rfl mw_1_234 dX2_agrees_29 (fun b_13 hb_13 mb_13 tb_13 => ?_)
    refine lv_aload_n hx hb dX2_agrees_32 rfl (lv_at hl 3 rfl) ?_
    refine t_gr hx hb hts hown hK hG hB mh1 th1 fq_10_4 rfl mw_2_6 dX2_agrees_33 (fun b_14 hb_14 mb_14 tb_14 => ?_)
    refine lv_iload_n hx hb dX2_agrees_36 rfl (lv_at hl 1 rfl) ?_
    refine t_ai hx hb hK hB mb_14 tb_14 ai_57 (fun _ => rfl) (i_in (by omega) (by omega)) dX2_agrees_37 (fun x_15 ex_15 lx_15 ux_15 => ?_)
    refine lv_iload hx hb dX2_agrees_38 (lv_at hl 0 rfl) ?_
    refine t_ci (va_runV (As := [.int x_15, .int x_12]) (rest := []) ⟨hx, hb, hml, hown, hts⟩ (cy_X3_askedAt l D cA L T r hG hLA.1 σ_2 ρ_3 hB.2.1 _ b_13 mb_13 tb_13 x_15 x_12 (by first | omega | decide) (by first | omega | decide)) (cV hts mv_X3_askedAt mw_5_145 rfl rfl ⟨Nat.le_of_ble_eq_true rfl, Nat.le_of_ble_eq_true rfl⟩) (pV hB.1 hK hN mb_13 tb_13 (show shp cA 3 _ _ _ = .inr (3, Fs3 _ _ _) from rfl) rfl) rfl rfl hl.1 rfl (lv_room (Nat.le_of_ble_eq_true rfl)) dX2_agrees_40 ⟨Nat.le_of_ble_eq_true rfl, Nat.le_of_ble_eq_true rfl⟩) hLA hA hB hS (by decide) (fun x_18 σ_16 ρ_17 H locs hB fσ_16 pσ_16 hS => ?_)
    have qσ_16 := FR.nil fσ_16
    subst qσ_16
    obtain ⟨lx_18, ux_18⟩ := pσ_16
    refine lv_aload_n hx hb dX2_agrees_43 rfl (lv_at hl 3 rfl) ?_
    refine t_gr hx hb hts hown hK hG hB mh1 th1 fq_10_5 rfl mw_2_9 dX2_agrees_44 (fun b_19 hb_19 mb_19 tb_19 => ?_)
    refine lv_iload_n hx hb dX2_agrees_47 rfl (lv_at hl 1 rfl) ?_
    refine t_ai hx hb hK hB mb_19 tb_19 ai_58 (fun _ => rfl) (i_in (by omega) (by omega)) dX2_agrees_48 (fun x_20 ex_20 lx_20 ux_20 => ?_)
    refine lv_icmp_eq (tgt := 54) hx hb dX2_agrees_49 (by decide) (fun c_21 => ?_) (fun c_21 => ?_)
    · skip
      have uc_21 := j_eq c_21
      obtain ⟨x_22, ex_22⟩ : ∃ y : Int32, y = i_1 + 1 := ⟨_, rfl⟩
      have vx_22 := b_add (rfl : i_1.toInt = _) (by decide : (1 : Int32).toInt = 1) ex_22 (by omega) (by omega)
      refine lv_iinc (v := x_22) (lv' := [(3, .int x_22), (4, .int x_12), (0, .ref h0), (1, .ref h1), (2, .int p2)]) hx hb dX2_agrees_54 hl (k := 1) rfl (by rw [ex_22]; rfl) (by decide) rfl (fun ls hl => ?_)
      refine lv_goto (tgt := 2) hx hb dX2_agrees_57 (by decide) ?_
      exact ih_4 ⟨x_22, σ_2, ρ_17⟩ _ _ _ ⟨(by omega), (by omega), hB, hS, lv_sub hl [0, 2, 3, 4] rfl⟩ (by show (10 - x_22.toInt).toNat < (10 - i_1.toInt).toNat; omega)
    · skip
      have uc_21 := j_ne c_21
      refine lv_iconst (v := 0) hx hb dX2_agrees_52 (by decide) ?_
      exact W.zret (v := 0) hx hb hr rfl (fun t ht hW => ⟨⟨0, (σ_2, ρ_17), rfl, ⟨hB.2.1, hB.2.2, (show 0 ≤ (0 : Int32).toInt ∧ (0 : Int32).toInt ≤ 1 from ⟨by decide, by decide⟩)⟩, (show TP D cA L T r σ_2 ρ_17 t.heap from by rw [ht]; exact hB.1)⟩, hS.F ht⟩) hS.2.2 dX2_agrees_53
theorem mw_2_165 : (.fieldLink RX2 15 "HillBends$Forecast" "alike" "[I" : Cond) ∈ wsA := wsA_t (List.mem_append_right _ (List.mem_append_left _ (List.mem_of_getElem? (l := tables_1_2) (i := 165) rfl))) rfl
theorem mw_5_160 : (.methodLink RX2 68 yJ9_max_7cf53 : Cond) ∈ wsA := wsA_t (List.mem_append_right _ (List.mem_append_right _ (List.mem_append_right _ (List.mem_append_right _ (List.mem_append_left _ (List.mem_of_getElem? (l := tables_1_5) (i := 160) rfl)))))) rfl
theorem dX2_mostAlike_0 : decode cX2_mostAlike 0 = .ok (.iconst 0, 1) := by decide +kernel
theorem dX2_mostAlike_1 : decode cX2_mostAlike 1 = .ok (.istore 5, 2) := by decide +kernel
theorem dX2_mostAlike_3 : decode cX2_mostAlike 3 = .ok (.iload 5, 2) := by decide +kernel
theorem dX2_mostAlike_5 : decode cX2_mostAlike 5 = .ok (.iconst 5, 1) := by decide +kernel
theorem dX2_mostAlike_6 : decode cX2_mostAlike 6 = .ok (.if_icmp .ge 17, 3) := by decide +kernel
theorem dX2_mostAlike_23 : decode cX2_mostAlike 23 = .ok (.iconst 0, 1) := by decide +kernel
theorem dX2_mostAlike_24 : decode cX2_mostAlike 24 = .ok (.istore 5, 2) := by decide +kernel
theorem dX2_mostAlike_26 : decode cX2_mostAlike 26 = .ok (.iconst 0, 1) := by decide +kernel
theorem dX2_mostAlike_27 : decode cX2_mostAlike 27 = .ok (.istore 6, 2) := by decide +kernel
theorem dX2_mostAlike_29 : decode cX2_mostAlike 29 = .ok (.iload 6, 2) := by decide +kernel
theorem dX2_mostAlike_31 : decode cX2_mostAlike 31 = .ok (.bipush 6, 2) := by decide +kernel
theorem dX2_mostAlike_33 : decode cX2_mostAlike 33 = .ok (.if_icmp .gt 63, 3) := by decide +kernel
theorem dX2_mostAlike_96 : decode cX2_mostAlike 96 = .ok (.iload 5, 2) := by decide +kernel
theorem dX2_mostAlike_98 : decode cX2_mostAlike 98 = .ok (.ireturn, 1) := by decide +kernel
theorem dX2_mostAlike_36 : decode cX2_mostAlike 36 = .ok (.iload_n 2, 1) := by decide +kernel
theorem dX2_mostAlike_37 : decode cX2_mostAlike 37 = .ok (.iload 6, 2) := by decide +kernel
theorem dX2_mostAlike_39 : decode cX2_mostAlike 39 = .ok (.ishr, 1) := by decide +kernel
theorem dX2_mostAlike_40 : decode cX2_mostAlike 40 = .ok (.iconst 1, 1) := by decide +kernel
theorem dX2_mostAlike_41 : decode cX2_mostAlike 41 = .ok (.iand, 1) := by decide +kernel
theorem dX2_mostAlike_42 : decode cX2_mostAlike 42 = .ok (.ifCond .eq 48, 3) := by decide +kernel
theorem dX2_mostAlike_90 : decode cX2_mostAlike 90 = .ok (.iinc 6 1, 3) := by decide +kernel
theorem dX2_mostAlike_93 : decode cX2_mostAlike 93 = .ok (.goto (-64), 3) := by decide +kernel
theorem dX2_mostAlike_45 : decode cX2_mostAlike 45 = .ok (.aload_n 1, 1) := by decide +kernel
theorem dX2_mostAlike_46 : decode cX2_mostAlike 46 = .ok (.iload_n 3, 1) := by decide +kernel
theorem dX2_mostAlike_47 : decode cX2_mostAlike 47 = .ok (.aload_n 0, 1) := by decide +kernel
theorem dX2_mostAlike_48 : decode cX2_mostAlike 48 = .ok (.getfield 11, 3) := by decide +kernel
theorem dX2_mostAlike_51 : decode cX2_mostAlike 51 = .ok (.iload 6, 2) := by decide +kernel
theorem dX2_mostAlike_53 : decode cX2_mostAlike 53 = .ok (.bipush 61, 2) := by decide +kernel
theorem dX2_mostAlike_55 : decode cX2_mostAlike 55 = .ok (.imul, 1) := by decide +kernel
theorem dX2_mostAlike_56 : decode cX2_mostAlike 56 = .ok (.iload 4, 2) := by decide +kernel
theorem dX2_mostAlike_58 : decode cX2_mostAlike 58 = .ok (.iadd, 1) := by decide +kernel
theorem dX2_mostAlike_59 : decode cX2_mostAlike 59 = .ok (.iaload, 1) := by decide +kernel
theorem dX2_mostAlike_60 : decode cX2_mostAlike 60 = .ok (.invokevirtual 61, 3) := by decide +kernel
theorem dX2_mostAlike_63 : decode cX2_mostAlike 63 = .ok (.istore 7, 2) := by decide +kernel
theorem dX2_mostAlike_65 : decode cX2_mostAlike 65 = .ok (.aload_n 0, 1) := by decide +kernel
theorem dX2_mostAlike_66 : decode cX2_mostAlike 66 = .ok (.getfield 15, 3) := by decide +kernel
theorem dX2_mostAlike_69 : decode cX2_mostAlike 69 = .ok (.iload 7, 2) := by decide +kernel
theorem dX2_mostAlike_71 : decode cX2_mostAlike 71 = .ok (.dup2, 1) := by decide +kernel
theorem dX2_mostAlike_72 : decode cX2_mostAlike 72 = .ok (.iaload, 1) := by decide +kernel
theorem dX2_mostAlike_73 : decode cX2_mostAlike 73 = .ok (.iconst 1, 1) := by decide +kernel
theorem dX2_mostAlike_74 : decode cX2_mostAlike 74 = .ok (.iadd, 1) := by decide +kernel
theorem dX2_mostAlike_75 : decode cX2_mostAlike 75 = .ok (.iastore, 1) := by decide +kernel
theorem dX2_mostAlike_76 : decode cX2_mostAlike 76 = .ok (.iload 5, 2) := by decide +kernel
theorem dX2_mostAlike_78 : decode cX2_mostAlike 78 = .ok (.aload_n 0, 1) := by decide +kernel
theorem dX2_mostAlike_79 : decode cX2_mostAlike 79 = .ok (.getfield 15, 3) := by decide +kernel
theorem dX2_mostAlike_82 : decode cX2_mostAlike 82 = .ok (.iload 7, 2) := by decide +kernel
theorem dX2_mostAlike_84 : decode cX2_mostAlike 84 = .ok (.iaload, 1) := by decide +kernel
theorem dX2_mostAlike_85 : decode cX2_mostAlike 85 = .ok (.invokestatic 68, 3) := by decide +kernel
theorem dX2_mostAlike_88 : decode cX2_mostAlike 88 = .ok (.istore 5, 2) := by decide +kernel
theorem dX2_mostAlike_9 : decode cX2_mostAlike 9 = .ok (.aload_n 0, 1) := by decide +kernel
theorem dX2_mostAlike_10 : decode cX2_mostAlike 10 = .ok (.getfield 15, 3) := by decide +kernel
theorem dX2_mostAlike_13 : decode cX2_mostAlike 13 = .ok (.iload 5, 2) := by decide +kernel
theorem dX2_mostAlike_15 : decode cX2_mostAlike 15 = .ok (.iconst 0, 1) := by decide +kernel
theorem dX2_mostAlike_16 : decode cX2_mostAlike 16 = .ok (.iastore, 1) := by decide +kernel
theorem dX2_mostAlike_17 : decode cX2_mostAlike 17 = .ok (.iinc 5 1, 3) := by decide +kernel
theorem dX2_mostAlike_20 : decode cX2_mostAlike 20 = .ok (.goto (-17), 3) := by decide +kernel
set_option maxHeartbeats 4000000 in
set_option maxRecDepth 100000 in
theorem cy_X2_mostAlike (l : Launch) (D : va_G) (cA : Nat → ClassId) (L : List Nat) (T : Nat → Nat) (r : Rg) (hG : GR L T r) (hL : L.Nodup) (σ : Sg) (ρ : Lg) (hW : WT L ry T σ) (sz : Nat) (h0 : Nat) (mh0 : h0 ∈ L) (th0 : T h0 = 2) (h1 : Nat) (mh1 : h1 ∈ L) (th1 : T h1 = 3) (p2 : Int32) (p3 : Int32) (p4 : Int32) (w0 : 0 ≤ p3.toInt) (w1 : p3.toInt ≤ 7) (w2 : 0 ≤ p4.toInt) (w3 : p4.toInt ≤ 60) : Met l yX2_mostAlike (.code yX2_mostAlike cX2_mostAlike 8 (some .int) :: wsA) ({ frames := 1, cells := 0, slots := 0, locals := 40 }) (PR D cA L T r σ ρ sz [.ref h0, .ref h1, .int p2, .int p3, .int p4]) (QI D cA L T r ry [(32, 1000)] σ sz (fun x σ1 => True)) 0 0 (dm L sz) := by
  refine Met.ofW (cc := cX2_mostAlike) (maxL := 8) (ret := (some .int)) (by decide) rfl ?_
  intro p e s m args below meth c s₁ B hml hv
  obtain ⟨rfl, hsz, hP, hK, hN⟩ := hv
  have hx := B.exec
  have hb := B.bytes
  have hr := B.returns
  have hts : ∀ w ∈ wsA, w.before _ s = true := fun w h => atoms_spec (ws := .code yX2_mostAlike cX2_mostAlike 8 (some .int) :: wsA) B.pre w (List.mem_cons_of_mem _ h)
  have hown : s.vm.findClass RX2 = some m.cls := findClass_of_methodNamed B.named
  subst hsz
  have hLA : LA (dm L s.heap.size) L := ⟨hL, fun a h => Or.inl h⟩
  have hA : ∀ q : Nat, s.heap.size ≤ q → dm L s.heap.size q := fun q h => Or.inr h
  have hS : va_S (dm L s.heap.size) s.heap s.heap [] := va_S.rf
  have hB : TS D cA L T r ry [(32, 1000)] σ σ ρ s.heap := ⟨hP, hW, FR.rf⟩
  have hl := lv_entry ([.ref h0, .ref h1, .int p2, .int p3, .int p4]) (n := 8) (Nat.le_of_ble_eq_true rfl)
  rw [lg_entry_eq]
  generalize (lg_sl ([.ref h0, .ref h1, .int p2, .int p3, .int p4]) ++ List.replicate (8 - (lg_sl ([.ref h0, .ref h1, .int p2, .int p3, .int p4])).length) Slot.unset).toArray = ls at hl ⊢
  have hl : lv_has ls 8 [(0, .ref h0), (1, .ref h1), (2, .int p2), (3, .int p3), (4, .int p4)] := hl
  refine lv_iconst (v := 0) hx hb dX2_mostAlike_0 (by decide) ?_
  refine lv_istore (lv' := [(5, .int 0), (0, .ref h0), (1, .ref h1), (2, .int p2), (3, .int p3), (4, .int p4)]) hx hb dX2_mostAlike_1 hl (by decide) rfl (fun ls hl => ?_)
  refine w_loop (α := Int32 × Sg × Lg) (fun (i_1, σ_2, ρ_3) H locs ls => 0 ≤ i_1.toInt ∧ i_1.toInt ≤ 5 ∧ TS D cA L T r ry [(32, 1000)] σ σ_2 ρ_3 H ∧ va_S (dm L s.heap.size) s.heap H locs ∧ lv_has ls 8 [(5, .int i_1), (0, .ref h0), (1, .ref h1), (2, .int p2), (3, .int p3), (4, .int p4)]) (fun (i_1, σ_2, ρ_3) => (5 - i_1.toInt).toNat) ?_ ⟨0, σ, ρ⟩ ⟨(by decide), (by decide), hB, hS, lv_sub hl [0, 1, 2, 3, 4, 5] rfl⟩
  rintro ⟨i_1, σ_2, ρ_3⟩ H locs ls ⟨li_1, ui_1, hB, hS, hl⟩ ih_4
  refine lv_iload hx hb dX2_mostAlike_3 (lv_at hl 0 rfl) ?_
  refine lv_iconst (v := 5) hx hb dX2_mostAlike_5 (by decide) ?_
  refine lv_icmp_ge (tgt := 23) hx hb dX2_mostAlike_6 (by decide) (fun c_5 => ?_) (fun c_5 => ?_)
  · skip
    have uc_5 := i_ge (n := 5) (by decide) c_5
    refine lv_iconst (v := 0) hx hb dX2_mostAlike_23 (by decide) ?_
    refine lv_istore (lv' := [(5, .int 0), (0, .ref h0), (1, .ref h1), (2, .int p2), (3, .int p3), (4, .int p4)]) hx hb dX2_mostAlike_24 hl (by decide) rfl (fun ls hl => ?_)
    refine lv_iconst (v := 0) hx hb dX2_mostAlike_26 (by decide) ?_
    refine lv_istore (lv' := [(6, .int 0), (5, .int 0), (0, .ref h0), (1, .ref h1), (2, .int p2), (3, .int p3), (4, .int p4)]) hx hb dX2_mostAlike_27 hl (by decide) rfl (fun ls hl => ?_)
    refine w_loop (α := Int32 × Int32 × Sg × Lg) (fun (i_6, i_7, σ_8, ρ_9) H locs ls => 0 ≤ i_7.toInt ∧ i_7.toInt ≤ 7 ∧ TS D cA L T r ry [(32, 1000)] σ σ_8 ρ_9 H ∧ va_S (dm L s.heap.size) s.heap H locs ∧ lv_has ls 8 [(6, .int i_7), (5, .int i_6), (0, .ref h0), (1, .ref h1), (2, .int p2), (3, .int p3), (4, .int p4)]) (fun (i_6, i_7, σ_8, ρ_9) => (7 - i_7.toInt).toNat) ?_ ⟨0, 0, σ_2, ρ_3⟩ ⟨(by decide), (by decide), hB, hS, lv_sub hl [0, 1, 2, 3, 4, 5, 6] rfl⟩
    rintro ⟨i_6, i_7, σ_8, ρ_9⟩ H locs ls ⟨li_7, ui_7, hB, hS, hl⟩ ih_10
    refine lv_iload hx hb dX2_mostAlike_29 (lv_at hl 0 rfl) ?_
    refine lv_bipush (v := 6) hx hb dX2_mostAlike_31 (by decide) ?_
    refine lv_icmp_gt (tgt := 96) hx hb dX2_mostAlike_33 (by decide) (fun c_11 => ?_) (fun c_11 => ?_)
    · skip
      have uc_11 := i_gt (n := 6) (by decide) c_11
      refine lv_iload hx hb dX2_mostAlike_96 (lv_at hl 1 rfl) ?_
      exact W.iret (v := i_6) hx hb hr (fun t ht hW => ⟨⟨i_6, (σ_8, ρ_9), rfl, ⟨hB.2.1, hB.2.2, trivial⟩, (show TP D cA L T r σ_8 ρ_9 t.heap from by rw [ht]; exact hB.1)⟩, hS.F ht⟩) hS.2.2 dX2_mostAlike_98
    · skip
      have uc_11 := i_ngt (n := 6) (by decide) c_11
      refine lv_iload_n hx hb dX2_mostAlike_36 rfl (lv_at hl 4 rfl) ?_
      refine lv_iload hx hb dX2_mostAlike_37 (lv_at hl 0 rfl) ?_
      refine lv_ishr hx hb dX2_mostAlike_39 ?_
      refine lv_topi (fun x_12 ex_12 => ?_)
      refine lv_iconst (v := 1) hx hb dX2_mostAlike_40 (by decide) ?_
      refine lv_iand hx hb dX2_mostAlike_41 ?_
      refine lv_topi (fun x_13 ex_13 => ?_)
      obtain ⟨lx_13, ux_13⟩ := and_m 1 (n := 1) (by decide) (by decide) (by decide) ex_13
      refine lv_if_eq (tgt := 90) hx hb dX2_mostAlike_42 (by decide) (fun c_14 => ?_) (fun c_14 => ?_)
      · skip
        have uc_14 := i_eq (n := 0) (by decide) c_14
        obtain ⟨x_15, ex_15⟩ : ∃ y : Int32, y = i_7 + 1 := ⟨_, rfl⟩
        have vx_15 := b_add (rfl : i_7.toInt = _) (by decide : (1 : Int32).toInt = 1) ex_15 (by omega) (by omega)
        refine lv_iinc (v := x_15) (lv' := [(6, .int x_15), (5, .int i_6), (0, .ref h0), (1, .ref h1), (2, .int p2), (3, .int p3), (4, .int p4)]) hx hb dX2_mostAlike_90 hl (k := 0) rfl (by rw [ex_15]; rfl) (by decide) rfl (fun ls hl => ?_)
        refine lv_goto (tgt := 29) hx hb dX2_mostAlike_93 (by decide) ?_
        exact ih_10 ⟨i_6, x_15, σ_8, ρ_9⟩ _ _ _ ⟨(by omega), (by omega), hB, hS, lv_sub hl [0, 1, 2, 3, 4, 5, 6] rfl⟩ (by show (7 - x_15.toInt).toNat < (7 - i_7.toInt).toNat; omega)
      · skip
        have uc_14 := i_ne (n := 0) (by decide) c_14
        refine lv_aload_n hx hb dX2_mostAlike_45 rfl (lv_at hl 3 rfl) ?_
        refine lv_iload_n hx hb dX2_mostAlike_46 rfl (lv_at hl 5 rfl) ?_
        refine lv_aload_n hx hb dX2_mostAlike_47 rfl (lv_at hl 2 rfl) ?_
        refine t_gr hx hb hts hown hK hG hB mh0 th0 fq_2_0 rfl mw_2_164 dX2_mostAlike_48 (fun b_16 hb_16 mb_16 tb_16 => ?_)
        refine lv_iload hx hb dX2_mostAlike_51 (lv_at hl 0 rfl) ?_
        refine lv_bipush (v := 61) hx hb dX2_mostAlike_53 (by decide) ?_
        refine lv_imul hx hb dX2_mostAlike_55 ?_
        refine lv_topi (fun x_17 ex_17 => ?_)
        have vx_17 := b_mul (rfl : i_7.toInt = _) (by decide : (61 : Int32).toInt = 61) ex_17 (by omega) (by omega)
        refine lv_iload hx hb dX2_mostAlike_56 (lv_at hl 6 rfl) ?_
        refine lv_iadd hx hb dX2_mostAlike_58 ?_
        refine lv_topi (fun x_18 ex_18 => ?_)
        have vx_18 := b_add (rfl : x_17.toInt = _) (rfl : p4.toInt = _) ex_18 (by omega) (by omega)
        refine t_ai hx hb hK hB mb_16 tb_16 ai_31 (fun _ => rfl) (i_in (by omega) (by omega)) dX2_mostAlike_59 (fun x_19 ex_19 lx_19 ux_19 => ?_)
        refine t_ci (va_runV (As := [.int p3, .int x_19]) (rest := []) ⟨hx, hb, hml, hown, hts⟩ (cy_X3_askedAt l D cA L T r hG hLA.1 σ_8 ρ_9 hB.2.1 _ h1 mh1 th1 p3 x_19 (by first | omega | decide) (by first | omega | decide)) (cV hts mv_X3_askedAt mw_5_145 rfl rfl ⟨Nat.le_of_ble_eq_true rfl, Nat.le_of_ble_eq_true rfl⟩) (pV hB.1 hK hN mh1 th1 (show shp cA 3 _ _ _ = .inr (3, Fs3 _ _ _) from rfl) rfl) rfl rfl hl.1 rfl (lv_room (Nat.le_of_ble_eq_true rfl)) dX2_mostAlike_60 ⟨Nat.le_of_ble_eq_true rfl, Nat.le_of_ble_eq_true rfl⟩) hLA hA hB hS (by decide) (fun x_22 σ_20 ρ_21 H locs hB fσ_20 pσ_20 hS => ?_)
        have qσ_20 := FR.nil fσ_20
        subst qσ_20
        obtain ⟨lx_22, ux_22⟩ := pσ_20
        refine lv_istore (lv' := [(7, .int x_22), (6, .int i_7), (5, .int i_6), (0, .ref h0), (1, .ref h1), (2, .int p2), (3, .int p3), (4, .int p4)]) hx hb dX2_mostAlike_63 hl (by decide) rfl (fun ls hl => ?_)
        refine lv_aload_n hx hb dX2_mostAlike_65 rfl (lv_at hl 3 rfl) ?_
        refine t_gr hx hb hts hown hK hG hB mh0 th0 fq_2_1 rfl mw_2_165 dX2_mostAlike_66 (fun b_23 hb_23 mb_23 tb_23 => ?_)
        refine lv_iload hx hb dX2_mostAlike_69 (lv_at hl 0 rfl) ?_
        refine lv_dup2_11 hx hb dX2_mostAlike_71 rfl rfl ?_
        refine t_ai hx hb hK hB mb_23 tb_23 ai_32 (fun _ => rfl) (i_in (by omega) (by omega)) dX2_mostAlike_72 (fun x_24 ex_24 lx_24 ux_24 => ?_)
        refine lv_iconst (v := 1) hx hb dX2_mostAlike_73 (by decide) ?_
        refine lv_iadd hx hb dX2_mostAlike_74 ?_
        refine lv_topi (fun x_25 ex_25 => ?_)
        refine t_si hx hb hK hLA hB hS mb_23 tb_23 ai_32 (i_in (by omega) (by omega)) (i_lo _) (i_hi _) (Or.inr (by decide)) dX2_mostAlike_75 (fun H locs σ_26 eσ_26 hB hS => ?_)
        have k_27 : σ_26 b_23 x_22.toNatClampNeg = x_25 := by rw [eσ_26]; exact up2_same _ _ _ _
        refine lv_iload hx hb dX2_mostAlike_76 (lv_at hl 2 rfl) ?_
        refine lv_aload_n hx hb dX2_mostAlike_78 rfl (lv_at hl 3 rfl) ?_
        refine t_gk hx hb hts hown hK hB mh0 th0 fq_2_1 hb_23 mw_2_165 dX2_mostAlike_79 ?_
        refine lv_iload hx hb dX2_mostAlike_82 (lv_at hl 0 rfl) ?_
        refine t_ai hx hb hK hB mb_23 tb_23 ai_32 (fun _ => rfl) (i_in (by omega) (by omega)) dX2_mostAlike_84 (fun x_28 ex_28 lx_28 ux_28 => ?_)
        have qx_28 : x_28 = x_25 := ex_28.trans k_27
        have qx_28 := qx_28.symm
        subst qx_28
        refine va_mmax hx hb (hml.trans hl.1.symm) hown (hts _ mw_5_160) (hts _ mw_3_120) (hts _ mw_1_18) (hts _ mw_3_121) (Nat.le_of_ble_eq_true rfl) (Nat.le_of_ble_eq_true rfl) (Nat.zero_le _) (Nat.zero_le _) dX2_mostAlike_85 ?_
        refine lv_topi (fun x_29 ex_29 => ?_)
        obtain ⟨lx_29, mx_29, ux_29⟩ := m_max (rfl : i_6.toInt = _) (rfl : x_25.toInt = _) ex_29
        refine lv_istore (lv' := [(5, .int x_29), (7, .int x_22), (6, .int i_7), (0, .ref h0), (1, .ref h1), (2, .int p2), (3, .int p3), (4, .int p4)]) hx hb dX2_mostAlike_88 hl (by decide) rfl (fun ls hl => ?_)
        obtain ⟨x_30, ex_30⟩ : ∃ y : Int32, y = i_7 + 1 := ⟨_, rfl⟩
        have vx_30 := b_add (rfl : i_7.toInt = _) (by decide : (1 : Int32).toInt = 1) ex_30 (by omega) (by omega)
        refine lv_iinc (v := x_30) (lv' := [(6, .int x_30), (5, .int x_29), (7, .int x_22), (0, .ref h0), (1, .ref h1), (2, .int p2), (3, .int p3), (4, .int p4)]) hx hb dX2_mostAlike_90 hl (k := 2) rfl (by rw [ex_30]; rfl) (by decide) rfl (fun ls hl => ?_)
        refine lv_goto (tgt := 29) hx hb dX2_mostAlike_93 (by decide) ?_
        exact ih_10 ⟨x_29, x_30, σ_26, ρ_21⟩ _ _ _ ⟨(by omega), (by omega), hB, hS, lv_sub hl [0, 1, 3, 4, 5, 6, 7] rfl⟩ (by show (7 - x_30.toInt).toNat < (7 - i_7.toInt).toNat; omega)
  · skip
    have uc_5 := i_nge (n := 5) (by decide) c_5
    refine lv_aload_n hx hb dX2_mostAlike_9 rfl (lv_at hl 1 rfl) ?_
    refine t_gr hx hb hts hown hK hG hB mh0 th0 fq_2_1 rfl mw_2_165 dX2_mostAlike_10 (fun b_31 hb_31 mb_31 tb_31 => ?_)
    refine lv_iload hx hb dX2_mostAlike_13 (lv_at hl 0 rfl) ?_
    refine lv_iconst (v := 0) hx hb dX2_mostAlike_15 (by decide) ?_
    refine t_si hx hb hK hLA hB hS mb_31 tb_31 ai_32 (i_in (by omega) (by omega)) (i_lo _) (i_hi _) (Or.inr (by decide)) dX2_mostAlike_16 (fun H locs σ_32 eσ_32 hB hS => ?_)
    have k_33 : σ_32 b_31 i_1.toNatClampNeg = 0 := by rw [eσ_32]; exact up2_same _ _ _ _
    obtain ⟨x_34, ex_34⟩ : ∃ y : Int32, y = i_1 + 1 := ⟨_, rfl⟩
    have vx_34 := b_add (rfl : i_1.toInt = _) (by decide : (1 : Int32).toInt = 1) ex_34 (by omega) (by omega)
    refine lv_iinc (v := x_34) (lv' := [(5, .int x_34), (0, .ref h0), (1, .ref h1), (2, .int p2), (3, .int p3), (4, .int p4)]) hx hb dX2_mostAlike_17 hl (k := 0) rfl (by rw [ex_34]; rfl) (by decide) rfl (fun ls hl => ?_)
    refine lv_goto (tgt := 3) hx hb dX2_mostAlike_20 (by decide) ?_
    exact ih_4 ⟨x_34, σ_32, ρ_3⟩ _ _ _ ⟨(by omega), (by omega), hB, hS, lv_sub hl [0, 1, 2, 3, 4, 5] rfl⟩ (by show (5 - x_34.toInt).toNat < (5 - i_1.toInt).toNat; omega)
theorem mw_2_216 : (.fieldLink RX11 71 "HillBends" "forecast" "LHillBends$Forecast;" : Cond) ∈ wsA := wsA_t (List.mem_append_right _ (List.mem_append_left _ (List.mem_of_getElem? (l := tables_1_2) (i := 216) rfl))) rfl
theorem mw_5_136 : (.instanceMethod yX2_foresee : Cond) ∈ wsA := wsA_t (List.mem_append_right _ (List.mem_append_right _ (List.mem_append_right _ (List.mem_append_right _ (List.mem_append_left _ (List.mem_of_getElem? (l := tables_1_5) (i := 136) rfl)))))) rfl
theorem mw_5_137 : (.selects RX2 yX2_foresee yX2_foresee : Cond) ∈ wsA := wsA_t (List.mem_append_right _ (List.mem_append_right _ (List.mem_append_right _ (List.mem_append_right _ (List.mem_append_left _ (List.mem_of_getElem? (l := tables_1_5) (i := 137) rfl)))))) rfl
theorem mw_1_11 : (.initialized RX2 : Cond) ∈ wsA := wsA_t (List.mem_append_left _ (List.mem_of_getElem? (l := tables_1_1) (i := 11) rfl)) rfl
theorem mw_5_138 : (.code yX2_foresee cX2_foresee 6 none : Cond) ∈ wsA := wsA_t (List.mem_append_right _ (List.mem_append_right _ (List.mem_append_right _ (List.mem_append_right _ (List.mem_append_left _ (List.mem_of_getElem? (l := tables_1_5) (i := 138) rfl)))))) rfl
theorem mw_5_135 : (.methodLink RX11 366 yX2_foresee : Cond) ∈ wsA := wsA_t (List.mem_append_right _ (List.mem_append_right _ (List.mem_append_right _ (List.mem_append_right _ (List.mem_append_left _ (List.mem_of_getElem? (l := tables_1_5) (i := 135) rfl)))))) rfl
theorem mw_5_142 : (.instanceMethod yX2_agrees : Cond) ∈ wsA := wsA_t (List.mem_append_right _ (List.mem_append_right _ (List.mem_append_right _ (List.mem_append_right _ (List.mem_append_left _ (List.mem_of_getElem? (l := tables_1_5) (i := 142) rfl)))))) rfl
theorem mw_5_143 : (.selects RX2 yX2_agrees yX2_agrees : Cond) ∈ wsA := wsA_t (List.mem_append_right _ (List.mem_append_right _ (List.mem_append_right _ (List.mem_append_right _ (List.mem_append_left _ (List.mem_of_getElem? (l := tables_1_5) (i := 143) rfl)))))) rfl
theorem mw_5_144 : (.code yX2_agrees cX2_agrees 5 (some .boolean) : Cond) ∈ wsA := wsA_t (List.mem_append_right _ (List.mem_append_right _ (List.mem_append_right _ (List.mem_append_right _ (List.mem_append_left _ (List.mem_of_getElem? (l := tables_1_5) (i := 144) rfl)))))) rfl
theorem mw_5_141 : (.methodLink RX11 370 yX2_agrees : Cond) ∈ wsA := wsA_t (List.mem_append_right _ (List.mem_append_right _ (List.mem_append_right _ (List.mem_append_right _ (List.mem_append_left _ (List.mem_of_getElem? (l := tables_1_5) (i := 141) rfl)))))) rfl
theorem dX11_candidates_0 : decode cX11_candidates 0 = .ok (.iconst 0, 1) := by decide +kernel
theorem dX11_candidates_1 : decode cX11_candidates 1 = .ok (.istore_n 1, 1) := by decide +kernel
theorem dX11_candidates_2 : decode cX11_candidates 2 = .ok (.iconst 0, 1) := by decide +kernel
theorem dX11_candidates_3 : decode cX11_candidates 3 = .ok (.istore_n 2, 1) := by decide +kernel
theorem dX11_candidates_4 : decode cX11_candidates 4 = .ok (.iload_n 2, 1) := by decide +kernel
theorem dX11_candidates_5 : decode cX11_candidates 5 = .ok (.aload_n 0, 1) := by decide +kernel
theorem dX11_candidates_6 : decode cX11_candidates 6 = .ok (.getfield 110, 3) := by decide +kernel
theorem dX11_candidates_9 : decode cX11_candidates 9 = .ok (.if_icmp .gt 56, 3) := by decide +kernel
theorem dX11_candidates_65 : decode cX11_candidates 65 = .ok (.iload_n 1, 1) := by decide +kernel
theorem dX11_candidates_66 : decode cX11_candidates 66 = .ok (.ireturn, 1) := by decide +kernel
theorem dX11_candidates_12 : decode cX11_candidates 12 = .ok (.aload_n 0, 1) := by decide +kernel
theorem dX11_candidates_13 : decode cX11_candidates 13 = .ok (.getfield 71, 3) := by decide +kernel
theorem dX11_candidates_16 : decode cX11_candidates 16 = .ok (.aload_n 0, 1) := by decide +kernel
theorem dX11_candidates_17 : decode cX11_candidates 17 = .ok (.getfield 32, 3) := by decide +kernel
theorem dX11_candidates_20 : decode cX11_candidates 20 = .ok (.getfield 102, 3) := by decide +kernel
theorem dX11_candidates_23 : decode cX11_candidates 23 = .ok (.aload_n 0, 1) := by decide +kernel
theorem dX11_candidates_24 : decode cX11_candidates 24 = .ok (.getfield 50, 3) := by decide +kernel
theorem dX11_candidates_27 : decode cX11_candidates 27 = .ok (.aload_n 0, 1) := by decide +kernel
theorem dX11_candidates_28 : decode cX11_candidates 28 = .ok (.iload_n 2, 1) := by decide +kernel
theorem dX11_candidates_29 : decode cX11_candidates 29 = .ok (.iconst 1, 1) := by decide +kernel
theorem dX11_candidates_30 : decode cX11_candidates 30 = .ok (.isub, 1) := by decide +kernel
theorem dX11_candidates_31 : decode cX11_candidates 31 = .ok (.invokevirtual 192, 3) := by decide +kernel
theorem dX11_candidates_34 : decode cX11_candidates 34 = .ok (.iload_n 2, 1) := by decide +kernel
theorem dX11_candidates_35 : decode cX11_candidates 35 = .ok (.invokevirtual 366, 3) := by decide +kernel
theorem dX11_candidates_38 : decode cX11_candidates 38 = .ok (.aload_n 0, 1) := by decide +kernel
theorem dX11_candidates_39 : decode cX11_candidates 39 = .ok (.getfield 71, 3) := by decide +kernel
theorem dX11_candidates_42 : decode cX11_candidates 42 = .ok (.aload_n 0, 1) := by decide +kernel
theorem dX11_candidates_43 : decode cX11_candidates 43 = .ok (.getfield 32, 3) := by decide +kernel
theorem dX11_candidates_46 : decode cX11_candidates 46 = .ok (.iload_n 2, 1) := by decide +kernel
theorem dX11_candidates_47 : decode cX11_candidates 47 = .ok (.invokevirtual 370, 3) := by decide +kernel
theorem dX11_candidates_50 : decode cX11_candidates 50 = .ok (.ifCond .eq 9, 3) := by decide +kernel
theorem dX11_candidates_59 : decode cX11_candidates 59 = .ok (.iinc 2 1, 3) := by decide +kernel
theorem dX11_candidates_62 : decode cX11_candidates 62 = .ok (.goto (-58), 3) := by decide +kernel
theorem dX11_candidates_53 : decode cX11_candidates 53 = .ok (.iload_n 1, 1) := by decide +kernel
theorem dX11_candidates_54 : decode cX11_candidates 54 = .ok (.iconst 1, 1) := by decide +kernel
theorem dX11_candidates_55 : decode cX11_candidates 55 = .ok (.iload_n 2, 1) := by decide +kernel
theorem dX11_candidates_56 : decode cX11_candidates 56 = .ok (.ishl, 1) := by decide +kernel
theorem dX11_candidates_57 : decode cX11_candidates 57 = .ok (.ior, 1) := by decide +kernel
theorem dX11_candidates_58 : decode cX11_candidates 58 = .ok (.istore_n 1, 1) := by decide +kernel
theorem mv_X2_foresee : MV RX2 yX2_foresee cX2_foresee 6 none 4 := ⟨mw_5_136, mw_5_137, mw_1_11, mw_5_138, ⟨rfl, by decide, by decide, by decide +kernel⟩⟩
theorem mv_X2_agrees : MV RX2 yX2_agrees cX2_agrees 5 (some .boolean) 2 := ⟨mw_5_142, mw_5_143, mw_1_11, mw_5_144, ⟨rfl, by decide, by decide, by decide +kernel⟩⟩
set_option maxHeartbeats 4000000 in
set_option maxRecDepth 100000 in
theorem cy_X11_candidates (l : Launch) (D : va_G) (cA : Nat → ClassId) (L : List Nat) (T : Nat → Nat) (r : Rg) (hG : GR L T r) (hL : L.Nodup) (σ : Sg) (ρ : Lg) (hW : WT L ry T σ) (sz : Nat) (h0 : Nat) (mh0 : h0 ∈ L) (th0 : T h0 = 11) : Met l yX11_candidates (.code yX11_candidates cX11_candidates 3 (some .int) :: wsA) ({ frames := 5, cells := 0, slots := 0, locals := 146 }) (PR D cA L T r σ ρ sz [.ref h0]) (QI D cA L T r ry [(2, 3), (31, 1000), (104, 6), (104, 7), (131, 1000), (132, 1000), (133, 1000), (134, 1000), (135, 1000), (136, 1000)] σ sz (fun x σ1 => True)) 0 0 (dm L sz) := by
  refine Met.ofW (cc := cX11_candidates) (maxL := 3) (ret := (some .int)) (by decide) rfl ?_
  intro p e s m args below meth c s₁ B hml hv
  obtain ⟨rfl, hsz, hP, hK, hN⟩ := hv
  have hx := B.exec
  have hb := B.bytes
  have hr := B.returns
  have hts : ∀ w ∈ wsA, w.before _ s = true := fun w h => atoms_spec (ws := .code yX11_candidates cX11_candidates 3 (some .int) :: wsA) B.pre w (List.mem_cons_of_mem _ h)
  have hown : s.vm.findClass RX11 = some m.cls := findClass_of_methodNamed B.named
  subst hsz
  have hLA : LA (dm L s.heap.size) L := ⟨hL, fun a h => Or.inl h⟩
  have hA : ∀ q : Nat, s.heap.size ≤ q → dm L s.heap.size q := fun q h => Or.inr h
  have hS : va_S (dm L s.heap.size) s.heap s.heap [] := va_S.rf
  have hB : TS D cA L T r ry [(2, 3), (31, 1000), (104, 6), (104, 7), (131, 1000), (132, 1000), (133, 1000), (134, 1000), (135, 1000), (136, 1000)] σ σ ρ s.heap := ⟨hP, hW, FR.rf⟩
  have hl := lv_entry ([.ref h0]) (n := 3) (Nat.le_of_ble_eq_true rfl)
  rw [lg_entry_eq]
  generalize (lg_sl ([.ref h0]) ++ List.replicate (3 - (lg_sl ([.ref h0])).length) Slot.unset).toArray = ls at hl ⊢
  have hl : lv_has ls 3 [(0, .ref h0)] := hl
  refine lv_iconst (v := 0) hx hb dX11_candidates_0 (by decide) ?_
  refine lv_istore_n (lv' := [(1, .int 0), (0, .ref h0)]) hx hb dX11_candidates_1 rfl hl (by decide) rfl (fun ls hl => ?_)
  refine lv_iconst (v := 0) hx hb dX11_candidates_2 (by decide) ?_
  refine lv_istore_n (lv' := [(2, .int 0), (1, .int 0), (0, .ref h0)]) hx hb dX11_candidates_3 rfl hl (by decide) rfl (fun ls hl => ?_)
  refine w_loop (α := Int32 × Int32 × Sg × Lg) (fun (i_1, i_2, σ_3, ρ_4) H locs ls => 0 ≤ i_2.toInt ∧ i_2.toInt ≤ 7 ∧ TS D cA L T r ry [(2, 3), (31, 1000), (104, 6), (104, 7), (131, 1000), (132, 1000), (133, 1000), (134, 1000), (135, 1000), (136, 1000)] σ σ_3 ρ_4 H ∧ va_S (dm L s.heap.size) s.heap H locs ∧ lv_has ls 3 [(2, .int i_2), (1, .int i_1), (0, .ref h0)]) (fun (i_1, i_2, σ_3, ρ_4) => (7 - i_2.toInt).toNat) ?_ ⟨0, 0, σ, ρ⟩ ⟨(by decide), (by decide), hB, hS, lv_sub hl [0, 1, 2] rfl⟩
  rintro ⟨i_1, i_2, σ_3, ρ_4⟩ H locs ls ⟨li_2, ui_2, hB, hS, hl⟩ ih_5
  refine lv_iload_n hx hb dX11_candidates_4 rfl (lv_at hl 0 rfl) ?_
  refine lv_aload_n hx hb dX11_candidates_5 rfl (lv_at hl 2 rfl) ?_
  refine t_gi hx hb hts hown hK hB mh0 th0 fi_11_10 rfl mw_2_217 dX11_candidates_6 (fun x_6 ex_6 lx_6 ux_6 => ?_)
  refine lv_icmp_gt (tgt := 65) hx hb dX11_candidates_9 (by decide) (fun c_7 => ?_) (fun c_7 => ?_)
  · skip
    have uc_7 := j_lt c_7
    refine lv_iload_n hx hb dX11_candidates_65 rfl (lv_at hl 1 rfl) ?_
    exact W.iret (v := i_1) hx hb hr (fun t ht hW => ⟨⟨i_1, (σ_3, ρ_4), rfl, ⟨hB.2.1, hB.2.2, trivial⟩, (show TP D cA L T r σ_3 ρ_4 t.heap from by rw [ht]; exact hB.1)⟩, hS.F ht⟩) hS.2.2 dX11_candidates_66
  · skip
    have uc_7 := j_nlt c_7
    refine lv_aload_n hx hb dX11_candidates_12 rfl (lv_at hl 2 rfl) ?_
    refine t_gr hx hb hts hown hK hG hB mh0 th0 fq_11_9 rfl mw_2_216 dX11_candidates_13 (fun b_8 hb_8 mb_8 tb_8 => ?_)
    refine lv_aload_n hx hb dX11_candidates_16 rfl (lv_at hl 2 rfl) ?_
    refine t_gr hx hb hts hown hK hG hB mh0 th0 fq_11_3 rfl mw_2_210 dX11_candidates_17 (fun b_9 hb_9 mb_9 tb_9 => ?_)
    refine t_gr hx hb hts hown hK hG hB mb_9 tb_9 fq_10_0 rfl mw_1_236 dX11_candidates_20 (fun b_10 hb_10 mb_10 tb_10 => ?_)
    refine lv_aload_n hx hb dX11_candidates_23 rfl (lv_at hl 2 rfl) ?_
    refine t_gr hx hb hts hown hK hG hB mh0 th0 fq_11_6 rfl mw_2_213 dX11_candidates_24 (fun b_11 hb_11 mb_11 tb_11 => ?_)
    refine lv_aload_n hx hb dX11_candidates_27 rfl (lv_at hl 2 rfl) ?_
    refine lv_iload_n hx hb dX11_candidates_28 rfl (lv_at hl 0 rfl) ?_
    refine lv_iconst (v := 1) hx hb dX11_candidates_29 (by decide) ?_
    refine lv_isub hx hb dX11_candidates_30 ?_
    refine lv_topi (fun x_12 ex_12 => ?_)
    have vx_12 := b_sub (rfl : i_2.toInt = _) (by decide : (1 : Int32).toInt = 1) ex_12 (by omega) (by omega)
    refine t_cq (va_runV (As := [.int x_12]) (rest := [.ref b_11, .ref b_10, .ref b_8]) ⟨hx, hb, hml, hown, hts⟩ (cy_X11_ruleOf l D cA L T r hG hLA.1 σ_3 ρ_4 hB.2.1 _ h0 mh0 th0 x_12) (cV hts mv_X11_ruleOf mw_4_110 rfl rfl ⟨Nat.le_of_ble_eq_true rfl, Nat.le_of_ble_eq_true rfl⟩) (pV hB.1 hK hN mh0 th0 (show shp cA 11 _ _ _ = .inr (11, Fs11 _ _ _) from rfl) rfl) rfl rfl hl.1 rfl (lv_room (Nat.le_of_ble_eq_true rfl)) dX11_candidates_31 ⟨Nat.le_of_ble_eq_true rfl, Nat.le_of_ble_eq_true rfl⟩) hLA hA hB hS (by decide) (fun x_15 σ_13 ρ_14 H locs hB fσ_13 pσ_13 hS => ?_)
    have qσ_13 := FR.nil fσ_13
    subst qσ_13
    rcases x_15 with _ | bx_15
    · skip
      refine W.eq (g2 := F0 m 34 ls [.null, .ref b_11, .ref b_10, .ref b_8]) rfl ?_
      refine lv_iload_n hx hb dX11_candidates_34 rfl (lv_at hl 0 rfl) ?_
      refine t_cv (va_runV (As := [.ref b_10, .ref b_11, .null, .int i_2]) (rest := []) ⟨hx, hb, hml, hown, hts⟩ (cy_X2_foresee_0 l D cA L T r hG hLA.1 σ_3 ρ_14 hB.2.1 _ b_8 mb_8 tb_8 b_10 mb_10 tb_10 b_11 mb_11 tb_11 i_2 (by first | omega | decide) (by first | omega | decide)) (cV hts mv_X2_foresee mw_5_135 rfl rfl ⟨Nat.le_of_ble_eq_true rfl, Nat.le_of_ble_eq_true rfl⟩) (pV hB.1 hK hN mb_8 tb_8 (show shp cA 2 _ _ _ = .inr (2, Fs2 _ _ _) from rfl) rfl) rfl rfl hl.1 rfl (lv_room (Nat.le_of_ble_eq_true rfl)) dX11_candidates_35 ⟨Nat.le_of_ble_eq_true rfl, Nat.le_of_ble_eq_true rfl⟩) hLA hA hB hS (by decide) (fun σ_16 ρ_17 H locs hB fσ_16 pσ_16 hS => ?_)
      refine lv_aload_n hx hb dX11_candidates_38 rfl (lv_at hl 2 rfl) ?_
      refine t_gk hx hb hts hown hK hB mh0 th0 fq_11_9 hb_8 mw_2_216 dX11_candidates_39 ?_
      refine lv_aload_n hx hb dX11_candidates_42 rfl (lv_at hl 2 rfl) ?_
      refine t_gk hx hb hts hown hK hB mh0 th0 fq_11_3 hb_9 mw_2_210 dX11_candidates_43 ?_
      refine lv_iload_n hx hb dX11_candidates_46 rfl (lv_at hl 0 rfl) ?_
      refine t_ci (va_runV (As := [.ref b_9, .int i_2]) (rest := []) ⟨hx, hb, hml, hown, hts⟩ (cy_X2_agrees l D cA L T r hG hLA.1 σ_16 ρ_17 hB.2.1 _ b_8 mb_8 tb_8 b_9 mb_9 tb_9 i_2 (by first | omega | decide) (by first | omega | decide)) (cV hts mv_X2_agrees mw_5_141 rfl rfl ⟨Nat.le_of_ble_eq_true rfl, Nat.le_of_ble_eq_true rfl⟩) (pV hB.1 hK hN mb_8 tb_8 (show shp cA 2 _ _ _ = .inr (2, Fs2 _ _ _) from rfl) rfl) rfl rfl hl.1 rfl (lv_room (Nat.le_of_ble_eq_true rfl)) dX11_candidates_47 ⟨Nat.le_of_ble_eq_true rfl, Nat.le_of_ble_eq_true rfl⟩) hLA hA hB hS (by decide) (fun x_21 σ_19 ρ_20 H locs hB fσ_19 pσ_19 hS => ?_)
      have qσ_19 := FR.nil fσ_19
      subst qσ_19
      obtain ⟨lx_21, ux_21⟩ := pσ_19
      refine lv_if_eq (tgt := 59) hx hb dX11_candidates_50 (by decide) (fun c_22 => ?_) (fun c_22 => ?_)
      · skip
        have uc_22 := i_eq (n := 0) (by decide) c_22
        obtain ⟨x_23, ex_23⟩ : ∃ y : Int32, y = i_2 + 1 := ⟨_, rfl⟩
        have vx_23 := b_add (rfl : i_2.toInt = _) (by decide : (1 : Int32).toInt = 1) ex_23 (by omega) (by omega)
        refine lv_iinc (v := x_23) (lv' := [(2, .int x_23), (1, .int i_1), (0, .ref h0)]) hx hb dX11_candidates_59 hl (k := 0) rfl (by rw [ex_23]; rfl) (by decide) rfl (fun ls hl => ?_)
        refine lv_goto (tgt := 4) hx hb dX11_candidates_62 (by decide) ?_
        exact ih_5 ⟨i_1, x_23, σ_16, ρ_20⟩ _ _ _ ⟨(by omega), (by omega), hB, hS, lv_sub hl [0, 1, 2] rfl⟩ (by show (7 - x_23.toInt).toNat < (7 - i_2.toInt).toNat; omega)
      · skip
        have uc_22 := i_ne (n := 0) (by decide) c_22
        refine lv_iload_n hx hb dX11_candidates_53 rfl (lv_at hl 1 rfl) ?_
        refine lv_iconst (v := 1) hx hb dX11_candidates_54 (by decide) ?_
        refine lv_iload_n hx hb dX11_candidates_55 rfl (lv_at hl 0 rfl) ?_
        refine lv_ishl hx hb dX11_candidates_56 ?_
        refine lv_topi (fun x_24 ex_24 => ?_)
        refine lv_ior hx hb dX11_candidates_57 ?_
        refine lv_topi (fun x_25 ex_25 => ?_)
        refine lv_istore_n (lv' := [(1, .int x_25), (2, .int i_2), (0, .ref h0)]) hx hb dX11_candidates_58 rfl hl (by decide) rfl (fun ls hl => ?_)
        obtain ⟨x_26, ex_26⟩ : ∃ y : Int32, y = i_2 + 1 := ⟨_, rfl⟩
        have vx_26 := b_add (rfl : i_2.toInt = _) (by decide : (1 : Int32).toInt = 1) ex_26 (by omega) (by omega)
        refine lv_iinc (v := x_26) (lv' := [(2, .int x_26), (1, .int x_25), (0, .ref h0)]) hx hb dX11_candidates_59 hl (k := 1) rfl (by rw [ex_26]; rfl) (by decide) rfl (fun ls hl => ?_)
        refine lv_goto (tgt := 4) hx hb dX11_candidates_62 (by decide) ?_
        exact ih_5 ⟨x_25, x_26, σ_16, ρ_20⟩ _ _ _ ⟨(by omega), (by omega), hB, hS, lv_sub hl [0, 1, 2] rfl⟩ (by show (7 - x_26.toInt).toNat < (7 - i_2.toInt).toNat; omega)
    · skip
      obtain ⟨mbx_15, tbx_15⟩ := pσ_13 _ rfl
      refine W.eq (g2 := F0 m 34 ls [.ref bx_15, .ref b_11, .ref b_10, .ref b_8]) rfl ?_
      refine lv_iload_n hx hb dX11_candidates_34 rfl (lv_at hl 0 rfl) ?_
      refine t_cv (va_runV (As := [.ref b_10, .ref b_11, .ref bx_15, .int i_2]) (rest := []) ⟨hx, hb, hml, hown, hts⟩ (cy_X2_foresee_7 l D cA L T r hG hLA.1 σ_3 ρ_14 hB.2.1 _ b_8 mb_8 tb_8 b_10 mb_10 tb_10 b_11 mb_11 tb_11 bx_15 mbx_15 tbx_15 i_2 (by first | omega | decide) (by first | omega | decide)) (cV hts mv_X2_foresee mw_5_135 rfl rfl ⟨Nat.le_of_ble_eq_true rfl, Nat.le_of_ble_eq_true rfl⟩) (pV hB.1 hK hN mb_8 tb_8 (show shp cA 2 _ _ _ = .inr (2, Fs2 _ _ _) from rfl) rfl) rfl rfl hl.1 rfl (lv_room (Nat.le_of_ble_eq_true rfl)) dX11_candidates_35 ⟨Nat.le_of_ble_eq_true rfl, Nat.le_of_ble_eq_true rfl⟩) hLA hA hB hS (by decide) (fun σ_27 ρ_28 H locs hB fσ_27 pσ_27 hS => ?_)
      refine lv_aload_n hx hb dX11_candidates_38 rfl (lv_at hl 2 rfl) ?_
      refine t_gk hx hb hts hown hK hB mh0 th0 fq_11_9 hb_8 mw_2_216 dX11_candidates_39 ?_
      refine lv_aload_n hx hb dX11_candidates_42 rfl (lv_at hl 2 rfl) ?_
      refine t_gk hx hb hts hown hK hB mh0 th0 fq_11_3 hb_9 mw_2_210 dX11_candidates_43 ?_
      refine lv_iload_n hx hb dX11_candidates_46 rfl (lv_at hl 0 rfl) ?_
      refine t_ci (va_runV (As := [.ref b_9, .int i_2]) (rest := []) ⟨hx, hb, hml, hown, hts⟩ (cy_X2_agrees l D cA L T r hG hLA.1 σ_27 ρ_28 hB.2.1 _ b_8 mb_8 tb_8 b_9 mb_9 tb_9 i_2 (by first | omega | decide) (by first | omega | decide)) (cV hts mv_X2_agrees mw_5_141 rfl rfl ⟨Nat.le_of_ble_eq_true rfl, Nat.le_of_ble_eq_true rfl⟩) (pV hB.1 hK hN mb_8 tb_8 (show shp cA 2 _ _ _ = .inr (2, Fs2 _ _ _) from rfl) rfl) rfl rfl hl.1 rfl (lv_room (Nat.le_of_ble_eq_true rfl)) dX11_candidates_47 ⟨Nat.le_of_ble_eq_true rfl, Nat.le_of_ble_eq_true rfl⟩) hLA hA hB hS (by decide) (fun x_32 σ_30 ρ_31 H locs hB fσ_30 pσ_30 hS => ?_)
      have qσ_30 := FR.nil fσ_30
      subst qσ_30
      obtain ⟨lx_32, ux_32⟩ := pσ_30
      refine lv_if_eq (tgt := 59) hx hb dX11_candidates_50 (by decide) (fun c_33 => ?_) (fun c_33 => ?_)
      · skip
        have uc_33 := i_eq (n := 0) (by decide) c_33
        obtain ⟨x_34, ex_34⟩ : ∃ y : Int32, y = i_2 + 1 := ⟨_, rfl⟩
        have vx_34 := b_add (rfl : i_2.toInt = _) (by decide : (1 : Int32).toInt = 1) ex_34 (by omega) (by omega)
        refine lv_iinc (v := x_34) (lv' := [(2, .int x_34), (1, .int i_1), (0, .ref h0)]) hx hb dX11_candidates_59 hl (k := 0) rfl (by rw [ex_34]; rfl) (by decide) rfl (fun ls hl => ?_)
        refine lv_goto (tgt := 4) hx hb dX11_candidates_62 (by decide) ?_
        exact ih_5 ⟨i_1, x_34, σ_27, ρ_31⟩ _ _ _ ⟨(by omega), (by omega), hB, hS, lv_sub hl [0, 1, 2] rfl⟩ (by show (7 - x_34.toInt).toNat < (7 - i_2.toInt).toNat; omega)
      · skip
        have uc_33 := i_ne (n := 0) (by decide) c_33
        refine lv_iload_n hx hb dX11_candidates_53 rfl (lv_at hl 1 rfl) ?_
        refine lv_iconst (v := 1) hx hb dX11_candidates_54 (by decide) ?_
        refine lv_iload_n hx hb dX11_candidates_55 rfl (lv_at hl 0 rfl) ?_
        refine lv_ishl hx hb dX11_candidates_56 ?_
        refine lv_topi (fun x_35 ex_35 => ?_)
        refine lv_ior hx hb dX11_candidates_57 ?_
        refine lv_topi (fun x_36 ex_36 => ?_)
        refine lv_istore_n (lv' := [(1, .int x_36), (2, .int i_2), (0, .ref h0)]) hx hb dX11_candidates_58 rfl hl (by decide) rfl (fun ls hl => ?_)
        obtain ⟨x_37, ex_37⟩ : ∃ y : Int32, y = i_2 + 1 := ⟨_, rfl⟩
        have vx_37 := b_add (rfl : i_2.toInt = _) (by decide : (1 : Int32).toInt = 1) ex_37 (by omega) (by omega)
        refine lv_iinc (v := x_37) (lv' := [(2, .int x_37), (1, .int x_36), (0, .ref h0)]) hx hb dX11_candidates_59 hl (k := 1) rfl (by rw [ex_37]; rfl) (by decide) rfl (fun ls hl => ?_)
        refine lv_goto (tgt := 4) hx hb dX11_candidates_62 (by decide) ?_
        exact ih_5 ⟨x_36, x_37, σ_27, ρ_31⟩ _ _ _ ⟨(by omega), (by omega), hB, hS, lv_sub hl [0, 1, 2] rfl⟩ (by show (7 - x_37.toInt).toNat < (7 - i_2.toInt).toNat; omega)
theorem mw_5_133 : (.instanceMethod yX11_candidates : Cond) ∈ wsA := wsA_t (List.mem_append_right _ (List.mem_append_right _ (List.mem_append_right _ (List.mem_append_right _ (List.mem_append_left _ (List.mem_of_getElem? (l := tables_1_5) (i := 133) rfl)))))) rfl
theorem mp_3_8 : (.selects RX11 yX11_candidates yX11_candidates : Cond) ∈ wsA := wsA_p (q := (yX11_candidates, 12)) (List.mem_append_right _ (List.mem_append_right _ (List.mem_append_left _ (List.mem_of_getElem? (l := lw_privs_3) (i := 8) rfl))))
theorem mw_5_134 : (.code yX11_candidates cX11_candidates 3 (some .int) : Cond) ∈ wsA := wsA_t (List.mem_append_right _ (List.mem_append_right _ (List.mem_append_right _ (List.mem_append_right _ (List.mem_append_left _ (List.mem_of_getElem? (l := tables_1_5) (i := 134) rfl)))))) rfl
theorem mw_5_131 : (.methodLink RX11 321 yX11_candidates : Cond) ∈ wsA := wsA_t (List.mem_append_right _ (List.mem_append_right _ (List.mem_append_right _ (List.mem_append_right _ (List.mem_append_left _ (List.mem_of_getElem? (l := tables_1_5) (i := 131) rfl)))))) rfl
theorem mw_5_147 : (.static yJ6_bitCount_0f7a4 : Cond) ∈ wsA := wsA_t (List.mem_append_right _ (List.mem_append_right _ (List.mem_append_right _ (List.mem_append_right _ (List.mem_append_left _ (List.mem_of_getElem? (l := tables_1_5) (i := 147) rfl)))))) rfl
theorem mw_1_21 : (.initialized RJ6 : Cond) ∈ wsA := wsA_t (List.mem_append_left _ (List.mem_of_getElem? (l := tables_1_1) (i := 21) rfl)) rfl
theorem mw_5_148 : (.code yJ6_bitCount_0f7a4 cJ6_bitCount_0f7a4 1 (some .int) : Cond) ∈ wsA := wsA_t (List.mem_append_right _ (List.mem_append_right _ (List.mem_append_right _ (List.mem_append_right _ (List.mem_append_left _ (List.mem_of_getElem? (l := tables_1_5) (i := 148) rfl)))))) rfl
theorem mw_5_146 : (.methodLink RX11 325 yJ6_bitCount_0f7a4 : Cond) ∈ wsA := wsA_t (List.mem_append_right _ (List.mem_append_right _ (List.mem_append_right _ (List.mem_append_right _ (List.mem_append_left _ (List.mem_of_getElem? (l := tables_1_5) (i := 146) rfl)))))) rfl
theorem dX11_ruled_0 : decode cX11_ruled 0 = .ok (.aload_n 0, 1) := by decide +kernel
theorem dX11_ruled_1 : decode cX11_ruled 1 = .ok (.getfield 32, 3) := by decide +kernel
theorem dX11_ruled_4 : decode cX11_ruled 4 = .ok (.getfield 102, 3) := by decide +kernel
theorem dX11_ruled_7 : decode cX11_ruled 7 = .ok (.getfield 178, 3) := by decide +kernel
theorem dX11_ruled_10 : decode cX11_ruled 10 = .ok (.ifCond .eq 12, 3) := by decide +kernel
theorem dX11_ruled_22 : decode cX11_ruled 22 = .ok (.bipush (-3), 2) := by decide +kernel
theorem dX11_ruled_24 : decode cX11_ruled 24 = .ok (.ireturn, 1) := by decide +kernel
theorem dX11_ruled_13 : decode cX11_ruled 13 = .ok (.iload_n 1, 1) := by decide +kernel
theorem dX11_ruled_14 : decode cX11_ruled 14 = .ok (.ifCond .lt 8, 3) := by decide +kernel
theorem dX11_ruled_17 : decode cX11_ruled 17 = .ok (.iload_n 1, 1) := by decide +kernel
theorem dX11_ruled_18 : decode cX11_ruled 18 = .ok (.iconst 1, 1) := by decide +kernel
theorem dX11_ruled_19 : decode cX11_ruled 19 = .ok (.if_icmp .le 6, 3) := by decide +kernel
theorem dX11_ruled_25 : decode cX11_ruled 25 = .ok (.aload_n 0, 1) := by decide +kernel
theorem dX11_ruled_26 : decode cX11_ruled 26 = .ok (.invokevirtual 321, 3) := by decide +kernel
theorem dX11_ruled_29 : decode cX11_ruled 29 = .ok (.istore_n 2, 1) := by decide +kernel
theorem dX11_ruled_30 : decode cX11_ruled 30 = .ok (.iload_n 1, 1) := by decide +kernel
theorem dX11_ruled_31 : decode cX11_ruled 31 = .ok (.ifCond .ne 8, 3) := by decide +kernel
theorem dX11_ruled_39 : decode cX11_ruled 39 = .ok (.iconst (-1), 1) := by decide +kernel
theorem dX11_ruled_40 : decode cX11_ruled 40 = .ok (.istore_n 3, 1) := by decide +kernel
theorem dX11_ruled_41 : decode cX11_ruled 41 = .ok (.iload_n 3, 1) := by decide +kernel
theorem dX11_ruled_42 : decode cX11_ruled 42 = .ok (.aload_n 0, 1) := by decide +kernel
theorem dX11_ruled_43 : decode cX11_ruled 43 = .ok (.getfield 110, 3) := by decide +kernel
theorem dX11_ruled_46 : decode cX11_ruled 46 = .ok (.if_icmp .ge 21, 3) := by decide +kernel
theorem dX11_ruled_67 : decode cX11_ruled 67 = .ok (.bipush (-2), 2) := by decide +kernel
theorem dX11_ruled_69 : decode cX11_ruled 69 = .ok (.ireturn, 1) := by decide +kernel
theorem dX11_ruled_49 : decode cX11_ruled 49 = .ok (.iload_n 2, 1) := by decide +kernel
theorem dX11_ruled_50 : decode cX11_ruled 50 = .ok (.iload_n 3, 1) := by decide +kernel
theorem dX11_ruled_51 : decode cX11_ruled 51 = .ok (.iconst 1, 1) := by decide +kernel
theorem dX11_ruled_52 : decode cX11_ruled 52 = .ok (.iadd, 1) := by decide +kernel
theorem dX11_ruled_53 : decode cX11_ruled 53 = .ok (.ishr, 1) := by decide +kernel
theorem dX11_ruled_54 : decode cX11_ruled 54 = .ok (.iconst 1, 1) := by decide +kernel
theorem dX11_ruled_55 : decode cX11_ruled 55 = .ok (.iand, 1) := by decide +kernel
theorem dX11_ruled_56 : decode cX11_ruled 56 = .ok (.ifCond .eq 5, 3) := by decide +kernel
theorem dX11_ruled_61 : decode cX11_ruled 61 = .ok (.iinc 3 1, 3) := by decide +kernel
theorem dX11_ruled_64 : decode cX11_ruled 64 = .ok (.goto (-23), 3) := by decide +kernel
theorem dX11_ruled_59 : decode cX11_ruled 59 = .ok (.iload_n 3, 1) := by decide +kernel
theorem dX11_ruled_60 : decode cX11_ruled 60 = .ok (.ireturn, 1) := by decide +kernel
theorem dX11_ruled_34 : decode cX11_ruled 34 = .ok (.iload_n 2, 1) := by decide +kernel
theorem dX11_ruled_35 : decode cX11_ruled 35 = .ok (.invokestatic 325, 3) := by decide +kernel
theorem dX11_ruled_38 : decode cX11_ruled 38 = .ok (.ireturn, 1) := by decide +kernel
theorem mv_X11_candidates : MV RX11 yX11_candidates cX11_candidates 3 (some .int) 0 := ⟨mw_5_133, mp_3_8, mw_1_1, mw_5_134, ⟨rfl, by decide, by decide, by decide +kernel⟩⟩
theorem mo_J6_bitCount_0f7a4 : MZ yJ6_bitCount_0f7a4 cJ6_bitCount_0f7a4 1 (some .int) 1 := ⟨mw_5_147, mw_1_21, mw_5_148, by decide, by decide, by decide +kernel⟩
set_option maxHeartbeats 4000000 in
set_option maxRecDepth 100000 in
theorem cy_X11_ruled (l : Launch) (D : va_G) (cA : Nat → ClassId) (L : List Nat) (T : Nat → Nat) (r : Rg) (hG : GR L T r) (hL : L.Nodup) (σ : Sg) (ρ : Lg) (hW : WT L ry T σ) (sz : Nat) (h0 : Nat) (mh0 : h0 ∈ L) (th0 : T h0 = 11) (p1 : Int32) : Met l yX11_ruled (.code yX11_ruled cX11_ruled 4 (some .int) :: wsA) ({ frames := 6, cells := 0, slots := 0, locals := 168 }) (PR D cA L T r σ ρ sz [.ref h0, .int p1]) (QI D cA L T r ry [(2, 3), (31, 1000), (104, 6), (104, 7), (131, 1000), (132, 1000), (133, 1000), (134, 1000), (135, 1000), (136, 1000)] σ sz (fun x σ1 => True)) 0 0 (dm L sz) := by
  refine Met.ofW (cc := cX11_ruled) (maxL := 4) (ret := (some .int)) (by decide) rfl ?_
  intro p e s m args below meth c s₁ B hml hv
  obtain ⟨rfl, hsz, hP, hK, hN⟩ := hv
  have hx := B.exec
  have hb := B.bytes
  have hr := B.returns
  have hts : ∀ w ∈ wsA, w.before _ s = true := fun w h => atoms_spec (ws := .code yX11_ruled cX11_ruled 4 (some .int) :: wsA) B.pre w (List.mem_cons_of_mem _ h)
  have hown : s.vm.findClass RX11 = some m.cls := findClass_of_methodNamed B.named
  subst hsz
  have hLA : LA (dm L s.heap.size) L := ⟨hL, fun a h => Or.inl h⟩
  have hA : ∀ q : Nat, s.heap.size ≤ q → dm L s.heap.size q := fun q h => Or.inr h
  have hS : va_S (dm L s.heap.size) s.heap s.heap [] := va_S.rf
  have hB : TS D cA L T r ry [(2, 3), (31, 1000), (104, 6), (104, 7), (131, 1000), (132, 1000), (133, 1000), (134, 1000), (135, 1000), (136, 1000)] σ σ ρ s.heap := ⟨hP, hW, FR.rf⟩
  have hl := lv_entry ([.ref h0, .int p1]) (n := 4) (Nat.le_of_ble_eq_true rfl)
  rw [lg_entry_eq]
  generalize (lg_sl ([.ref h0, .int p1]) ++ List.replicate (4 - (lg_sl ([.ref h0, .int p1])).length) Slot.unset).toArray = ls at hl ⊢
  have hl : lv_has ls 4 [(0, .ref h0), (1, .int p1)] := hl
  refine lv_aload_n hx hb dX11_ruled_0 rfl (lv_at hl 0 rfl) ?_
  refine t_gr hx hb hts hown hK hG hB mh0 th0 fq_11_3 rfl mw_2_210 dX11_ruled_1 (fun b_1 hb_1 mb_1 tb_1 => ?_)
  refine t_gr hx hb hts hown hK hG hB mb_1 tb_1 fq_10_0 rfl mw_1_236 dX11_ruled_4 (fun b_2 hb_2 mb_2 tb_2 => ?_)
  refine t_gi hx hb hts hown hK hB mb_2 tb_2 fi_3_6 rfl mw_1_164 dX11_ruled_7 (fun x_3 ex_3 lx_3 ux_3 => ?_)
  refine lv_if_eq (tgt := 22) hx hb dX11_ruled_10 (by decide) (fun c_4 => ?_) (fun c_4 => ?_)
  · skip
    have uc_4 := i_eq (n := 0) (by decide) c_4
    refine lv_bipush (v := (-3)) hx hb dX11_ruled_22 (by decide) ?_
    exact W.iret (v := (-3)) hx hb hr (fun t ht hW => ⟨⟨(-3), (σ, ρ), rfl, ⟨hB.2.1, hB.2.2, trivial⟩, (show TP D cA L T r σ ρ t.heap from by rw [ht]; exact hB.1)⟩, hS.F ht⟩) hS.2.2 dX11_ruled_24
  · skip
    have uc_4 := i_ne (n := 0) (by decide) c_4
    refine lv_iload_n hx hb dX11_ruled_13 rfl (lv_at hl 1 rfl) ?_
    refine lv_if_lt (tgt := 22) hx hb dX11_ruled_14 (by decide) (fun c_5 => ?_) (fun c_5 => ?_)
    · skip
      have uc_5 := i_lt (n := 0) (by decide) c_5
      refine lv_bipush (v := (-3)) hx hb dX11_ruled_22 (by decide) ?_
      exact W.iret (v := (-3)) hx hb hr (fun t ht hW => ⟨⟨(-3), (σ, ρ), rfl, ⟨hB.2.1, hB.2.2, trivial⟩, (show TP D cA L T r σ ρ t.heap from by rw [ht]; exact hB.1)⟩, hS.F ht⟩) hS.2.2 dX11_ruled_24
    · skip
      have uc_5 := i_nlt (n := 0) (by decide) c_5
      refine lv_iload_n hx hb dX11_ruled_17 rfl (lv_at hl 1 rfl) ?_
      refine lv_iconst (v := 1) hx hb dX11_ruled_18 (by decide) ?_
      refine lv_icmp_le (tgt := 25) hx hb dX11_ruled_19 (by decide) (fun c_6 => ?_) (fun c_6 => ?_)
      · skip
        have uc_6 := i_le (n := 1) (by decide) c_6
        refine lv_aload_n hx hb dX11_ruled_25 rfl (lv_at hl 0 rfl) ?_
        refine t_ci (va_runV (As := []) (rest := []) ⟨hx, hb, hml, hown, hts⟩ (cy_X11_candidates l D cA L T r hG hLA.1 σ ρ hB.2.1 _ h0 mh0 th0) (cV hts mv_X11_candidates mw_5_131 rfl rfl ⟨Nat.le_of_ble_eq_true rfl, Nat.le_of_ble_eq_true rfl⟩) (pV hB.1 hK hN mh0 th0 (show shp cA 11 _ _ _ = .inr (11, Fs11 _ _ _) from rfl) rfl) rfl rfl hl.1 rfl (lv_room (Nat.le_of_ble_eq_true rfl)) dX11_ruled_26 ⟨Nat.le_of_ble_eq_true rfl, Nat.le_of_ble_eq_true rfl⟩) hLA hA hB hS (by decide) (fun x_9 σ_7 ρ_8 H locs hB fσ_7 pσ_7 hS => ?_)
        refine lv_istore_n (lv' := [(2, .int x_9), (0, .ref h0), (1, .int p1)]) hx hb dX11_ruled_29 rfl hl (by decide) rfl (fun ls hl => ?_)
        refine lv_iload_n hx hb dX11_ruled_30 rfl (lv_at hl 2 rfl) ?_
        refine lv_if_ne (tgt := 39) hx hb dX11_ruled_31 (by decide) (fun c_10 => ?_) (fun c_10 => ?_)
        · skip
          have uc_10 := i_ne (n := 0) (by decide) c_10
          refine lv_iconst (v := (-1)) hx hb dX11_ruled_39 (by decide) ?_
          refine lv_istore_n (lv' := [(3, .int (-1)), (2, .int x_9), (0, .ref h0), (1, .int p1)]) hx hb dX11_ruled_40 rfl hl (by decide) rfl (fun ls hl => ?_)
          have k_11 : σ_7 b_2 6 = x_3 := (FR.at fσ_7 tb_2 (by decide)).trans ex_3.symm
          refine w_loop (α := Int32 × Sg × Lg) (fun (i_12, σ_13, ρ_14) H locs ls => (-1) ≤ i_12.toInt ∧ i_12.toInt ≤ 6 ∧ σ_13 b_2 6 = x_3 ∧ TS D cA L T r ry [(2, 3), (31, 1000), (104, 6), (104, 7), (131, 1000), (132, 1000), (133, 1000), (134, 1000), (135, 1000), (136, 1000)] σ σ_13 ρ_14 H ∧ va_S (dm L s.heap.size) s.heap H locs ∧ lv_has ls 4 [(3, .int i_12), (2, .int x_9), (0, .ref h0), (1, .int p1)]) (fun (i_12, σ_13, ρ_14) => (6 - i_12.toInt).toNat) ?_ ⟨(-1), σ_7, ρ_8⟩ ⟨(by decide), (by decide), k_11, hB, hS, lv_sub hl [0, 1, 2, 3] rfl⟩
          rintro ⟨i_12, σ_13, ρ_14⟩ H locs ls ⟨li_12, ui_12, k_16, hB, hS, hl⟩ ih_15
          refine lv_iload_n hx hb dX11_ruled_41 rfl (lv_at hl 0 rfl) ?_
          refine lv_aload_n hx hb dX11_ruled_42 rfl (lv_at hl 2 rfl) ?_
          refine t_gi hx hb hts hown hK hB mh0 th0 fi_11_10 rfl mw_2_217 dX11_ruled_43 (fun x_17 ex_17 lx_17 ux_17 => ?_)
          refine lv_icmp_ge (tgt := 67) hx hb dX11_ruled_46 (by decide) (fun c_18 => ?_) (fun c_18 => ?_)
          · skip
            have uc_18 := j_le c_18
            refine lv_bipush (v := (-2)) hx hb dX11_ruled_67 (by decide) ?_
            exact W.iret (v := (-2)) hx hb hr (fun t ht hW => ⟨⟨(-2), (σ_13, ρ_14), rfl, ⟨hB.2.1, hB.2.2, trivial⟩, (show TP D cA L T r σ_13 ρ_14 t.heap from by rw [ht]; exact hB.1)⟩, hS.F ht⟩) hS.2.2 dX11_ruled_69
          · skip
            have uc_18 := j_nle c_18
            refine lv_iload_n hx hb dX11_ruled_49 rfl (lv_at hl 1 rfl) ?_
            refine lv_iload_n hx hb dX11_ruled_50 rfl (lv_at hl 0 rfl) ?_
            refine lv_iconst (v := 1) hx hb dX11_ruled_51 (by decide) ?_
            refine lv_iadd hx hb dX11_ruled_52 ?_
            refine lv_topi (fun x_19 ex_19 => ?_)
            have vx_19 := b_add (rfl : i_12.toInt = _) (by decide : (1 : Int32).toInt = 1) ex_19 (by omega) (by omega)
            refine lv_ishr hx hb dX11_ruled_53 ?_
            refine lv_topi (fun x_20 ex_20 => ?_)
            refine lv_iconst (v := 1) hx hb dX11_ruled_54 (by decide) ?_
            refine lv_iand hx hb dX11_ruled_55 ?_
            refine lv_topi (fun x_21 ex_21 => ?_)
            obtain ⟨lx_21, ux_21⟩ := and_m 1 (n := 1) (by decide) (by decide) (by decide) ex_21
            refine lv_if_eq (tgt := 61) hx hb dX11_ruled_56 (by decide) (fun c_22 => ?_) (fun c_22 => ?_)
            · skip
              have uc_22 := i_eq (n := 0) (by decide) c_22
              obtain ⟨x_23, ex_23⟩ : ∃ y : Int32, y = i_12 + 1 := ⟨_, rfl⟩
              have vx_23 := b_add (rfl : i_12.toInt = _) (by decide : (1 : Int32).toInt = 1) ex_23 (by omega) (by omega)
              refine lv_iinc (v := x_23) (lv' := [(3, .int x_23), (2, .int x_9), (0, .ref h0), (1, .int p1)]) hx hb dX11_ruled_61 hl (k := 0) rfl (by rw [ex_23]; rfl) (by decide) rfl (fun ls hl => ?_)
              refine lv_goto (tgt := 41) hx hb dX11_ruled_64 (by decide) ?_
              exact ih_15 ⟨x_23, σ_13, ρ_14⟩ _ _ _ ⟨(by omega), (by omega), k_16, hB, hS, lv_sub hl [0, 1, 2, 3] rfl⟩ (by show (6 - x_23.toInt).toNat < (6 - i_12.toInt).toNat; omega)
            · skip
              have uc_22 := i_ne (n := 0) (by decide) c_22
              refine lv_iload_n hx hb dX11_ruled_59 rfl (lv_at hl 0 rfl) ?_
              exact W.iret (v := i_12) hx hb hr (fun t ht hW => ⟨⟨i_12, (σ_13, ρ_14), rfl, ⟨hB.2.1, hB.2.2, trivial⟩, (show TP D cA L T r σ_13 ρ_14 t.heap from by rw [ht]; exact hB.1)⟩, hS.F ht⟩) hS.2.2 dX11_ruled_60
        · skip
          have uc_10 := i_eq (n := 0) (by decide) c_10
          refine lv_iload_n hx hb dX11_ruled_34 rfl (lv_at hl 0 rfl) ?_
          refine t_ci (va_runS (As := [.int x_9]) (rest := []) ⟨hx, hb, hml, hown, hts⟩ (cy_J6_bitCount_0f7a4 l D cA L T r hG hLA.1 σ_7 ρ_8 hB.2.1 _ x_9) (cO hts mo_J6_bitCount_0f7a4 mw_5_146 rfl rfl ⟨Nat.le_of_ble_eq_true rfl, Nat.le_of_ble_eq_true rfl⟩) (pS hB.1 hK hN) rfl rfl hl.1 rfl (lv_room (Nat.le_of_ble_eq_true rfl)) dX11_ruled_35 ⟨Nat.le_of_ble_eq_true rfl, Nat.le_of_ble_eq_true rfl⟩) hLA hA hB hS (by decide) (fun x_26 σ_24 ρ_25 H locs hB fσ_24 pσ_24 hS => ?_)
          have qσ_24 := FR.nil fσ_24
          subst qσ_24
          exact W.iret (v := x_26) hx hb hr (fun t ht hW => ⟨⟨x_26, (σ_7, ρ_25), rfl, ⟨hB.2.1, hB.2.2, trivial⟩, (show TP D cA L T r σ_7 ρ_25 t.heap from by rw [ht]; exact hB.1)⟩, hS.F ht⟩) hS.2.2 dX11_ruled_38
      · skip
        have uc_6 := i_nle (n := 1) (by decide) c_6
        refine lv_bipush (v := (-3)) hx hb dX11_ruled_22 (by decide) ?_
        exact W.iret (v := (-3)) hx hb hr (fun t ht hW => ⟨⟨(-3), (σ, ρ), rfl, ⟨hB.2.1, hB.2.2, trivial⟩, (show TP D cA L T r σ ρ t.heap from by rw [ht]; exact hB.1)⟩, hS.F ht⟩) hS.2.2 dX11_ruled_24
theorem mw_5_157 : (.instanceMethod yX2_mostAlike : Cond) ∈ wsA := wsA_t (List.mem_append_right _ (List.mem_append_right _ (List.mem_append_right _ (List.mem_append_right _ (List.mem_append_left _ (List.mem_of_getElem? (l := tables_1_5) (i := 157) rfl)))))) rfl
theorem mw_5_158 : (.selects RX2 yX2_mostAlike yX2_mostAlike : Cond) ∈ wsA := wsA_t (List.mem_append_right _ (List.mem_append_right _ (List.mem_append_right _ (List.mem_append_right _ (List.mem_append_left _ (List.mem_of_getElem? (l := tables_1_5) (i := 158) rfl)))))) rfl
theorem mw_5_159 : (.code yX2_mostAlike cX2_mostAlike 8 (some .int) : Cond) ∈ wsA := wsA_t (List.mem_append_right _ (List.mem_append_right _ (List.mem_append_right _ (List.mem_append_right _ (List.mem_append_left _ (List.mem_of_getElem? (l := tables_1_5) (i := 159) rfl)))))) rfl
theorem mw_5_156 : (.methodLink RX11 330 yX2_mostAlike : Cond) ∈ wsA := wsA_t (List.mem_append_right _ (List.mem_append_right _ (List.mem_append_right _ (List.mem_append_right _ (List.mem_append_left _ (List.mem_of_getElem? (l := tables_1_5) (i := 156) rfl)))))) rfl
theorem dX11_look_0 : decode cX11_look 0 = .ok (.aload_n 0, 1) := by decide +kernel
theorem dX11_look_1 : decode cX11_look 1 = .ok (.getfield 32, 3) := by decide +kernel
theorem dX11_look_4 : decode cX11_look 4 = .ok (.getfield 102, 3) := by decide +kernel
theorem dX11_look_7 : decode cX11_look 7 = .ok (.getfield 178, 3) := by decide +kernel
theorem dX11_look_10 : decode cX11_look 10 = .ok (.ifCond .eq 22, 3) := by decide +kernel
theorem dX11_look_32 : decode cX11_look 32 = .ok (.iconst (-1), 1) := by decide +kernel
theorem dX11_look_33 : decode cX11_look 33 = .ok (.ireturn, 1) := by decide +kernel
theorem dX11_look_13 : decode cX11_look 13 = .ok (.iload_n 1, 1) := by decide +kernel
theorem dX11_look_14 : decode cX11_look 14 = .ok (.ifCond .lt 18, 3) := by decide +kernel
theorem dX11_look_17 : decode cX11_look 17 = .ok (.iload_n 1, 1) := by decide +kernel
theorem dX11_look_18 : decode cX11_look 18 = .ok (.bipush 60, 2) := by decide +kernel
theorem dX11_look_20 : decode cX11_look 20 = .ok (.if_icmp .gt 12, 3) := by decide +kernel
theorem dX11_look_23 : decode cX11_look 23 = .ok (.iload_n 2, 1) := by decide +kernel
theorem dX11_look_24 : decode cX11_look 24 = .ok (.ifCond .lt 8, 3) := by decide +kernel
theorem dX11_look_27 : decode cX11_look 27 = .ok (.iload_n 2, 1) := by decide +kernel
theorem dX11_look_28 : decode cX11_look 28 = .ok (.iconst 1, 1) := by decide +kernel
theorem dX11_look_29 : decode cX11_look 29 = .ok (.if_icmp .le 5, 3) := by decide +kernel
theorem dX11_look_34 : decode cX11_look 34 = .ok (.aload_n 0, 1) := by decide +kernel
theorem dX11_look_35 : decode cX11_look 35 = .ok (.invokevirtual 321, 3) := by decide +kernel
theorem dX11_look_38 : decode cX11_look 38 = .ok (.istore_n 3, 1) := by decide +kernel
theorem dX11_look_39 : decode cX11_look 39 = .ok (.bipush (-2), 2) := by decide +kernel
theorem dX11_look_41 : decode cX11_look 41 = .ok (.istore 4, 2) := by decide +kernel
theorem dX11_look_43 : decode cX11_look 43 = .ok (.bipush (-2), 2) := by decide +kernel
theorem dX11_look_45 : decode cX11_look 45 = .ok (.istore 5, 2) := by decide +kernel
theorem dX11_look_47 : decode cX11_look 47 = .ok (.iconst 0, 1) := by decide +kernel
theorem dX11_look_48 : decode cX11_look 48 = .ok (.istore 6, 2) := by decide +kernel
theorem dX11_look_50 : decode cX11_look 50 = .ok (.iload_n 3, 1) := by decide +kernel
theorem dX11_look_51 : decode cX11_look 51 = .ok (.ifCond .eq 64, 3) := by decide +kernel
theorem dX11_look_115 : decode cX11_look 115 = .ok (.iload_n 2, 1) := by decide +kernel
theorem dX11_look_116 : decode cX11_look 116 = .ok (.ifCond .ne 8, 3) := by decide +kernel
theorem dX11_look_124 : decode cX11_look 124 = .ok (.iload 5, 2) := by decide +kernel
theorem dX11_look_126 : decode cX11_look 126 = .ok (.ireturn, 1) := by decide +kernel
theorem dX11_look_119 : decode cX11_look 119 = .ok (.iload 4, 2) := by decide +kernel
theorem dX11_look_121 : decode cX11_look 121 = .ok (.goto 5, 3) := by decide +kernel
theorem dX11_look_54 : decode cX11_look 54 = .ok (.iload 6, 2) := by decide +kernel
theorem dX11_look_56 : decode cX11_look 56 = .ok (.aload_n 0, 1) := by decide +kernel
theorem dX11_look_57 : decode cX11_look 57 = .ok (.getfield 32, 3) := by decide +kernel
theorem dX11_look_60 : decode cX11_look 60 = .ok (.getfield 102, 3) := by decide +kernel
theorem dX11_look_63 : decode cX11_look 63 = .ok (.getfield 105, 3) := by decide +kernel
theorem dX11_look_66 : decode cX11_look 66 = .ok (.if_icmp .ge 49, 3) := by decide +kernel
theorem dX11_look_69 : decode cX11_look 69 = .ok (.aload_n 0, 1) := by decide +kernel
theorem dX11_look_70 : decode cX11_look 70 = .ok (.getfield 71, 3) := by decide +kernel
theorem dX11_look_73 : decode cX11_look 73 = .ok (.aload_n 0, 1) := by decide +kernel
theorem dX11_look_74 : decode cX11_look 74 = .ok (.getfield 32, 3) := by decide +kernel
theorem dX11_look_77 : decode cX11_look 77 = .ok (.getfield 102, 3) := by decide +kernel
theorem dX11_look_80 : decode cX11_look 80 = .ok (.iload_n 3, 1) := by decide +kernel
theorem dX11_look_81 : decode cX11_look 81 = .ok (.iload 6, 2) := by decide +kernel
theorem dX11_look_83 : decode cX11_look 83 = .ok (.iload_n 1, 1) := by decide +kernel
theorem dX11_look_84 : decode cX11_look 84 = .ok (.invokevirtual 330, 3) := by decide +kernel
theorem dX11_look_87 : decode cX11_look 87 = .ok (.istore 7, 2) := by decide +kernel
theorem dX11_look_89 : decode cX11_look 89 = .ok (.iload 4, 2) := by decide +kernel
theorem dX11_look_91 : decode cX11_look 91 = .ok (.ifCond .lt 10, 3) := by decide +kernel
theorem dX11_look_101 : decode cX11_look 101 = .ok (.iload 7, 2) := by decide +kernel
theorem dX11_look_103 : decode cX11_look 103 = .ok (.istore 5, 2) := by decide +kernel
theorem dX11_look_105 : decode cX11_look 105 = .ok (.iload 6, 2) := by decide +kernel
theorem dX11_look_107 : decode cX11_look 107 = .ok (.istore 4, 2) := by decide +kernel
theorem dX11_look_109 : decode cX11_look 109 = .ok (.iinc 6 1, 3) := by decide +kernel
theorem dX11_look_112 : decode cX11_look 112 = .ok (.goto (-62), 3) := by decide +kernel
theorem dX11_look_94 : decode cX11_look 94 = .ok (.iload 7, 2) := by decide +kernel
theorem dX11_look_96 : decode cX11_look 96 = .ok (.iload 5, 2) := by decide +kernel
theorem dX11_look_98 : decode cX11_look 98 = .ok (.if_icmp .ge 11, 3) := by decide +kernel
theorem mv_X2_mostAlike : MV RX2 yX2_mostAlike cX2_mostAlike 8 (some .int) 4 := ⟨mw_5_157, mw_5_158, mw_1_11, mw_5_159, ⟨rfl, by decide, by decide, by decide +kernel⟩⟩
set_option maxHeartbeats 4000000 in
set_option maxRecDepth 100000 in
theorem cy_X11_look (l : Launch) (D : va_G) (cA : Nat → ClassId) (L : List Nat) (T : Nat → Nat) (r : Rg) (hG : GR L T r) (hL : L.Nodup) (σ : Sg) (ρ : Lg) (hW : WT L ry T σ) (sz : Nat) (h0 : Nat) (mh0 : h0 ∈ L) (th0 : T h0 = 11) (p1 : Int32) (p2 : Int32) : Met l yX11_look (.code yX11_look cX11_look 8 (some .int) :: wsA) ({ frames := 6, cells := 0, slots := 0, locals := 168 }) (PR D cA L T r σ ρ sz [.ref h0, .int p1, .int p2]) (QI D cA L T r ry [(2, 3), (31, 1000), (32, 1000), (104, 6), (104, 7), (131, 1000), (132, 1000), (133, 1000), (134, 1000), (135, 1000), (136, 1000)] σ sz (fun x σ1 => True)) 0 0 (dm L sz) := by
  refine Met.ofW (cc := cX11_look) (maxL := 8) (ret := (some .int)) (by decide) rfl ?_
  intro p e s m args below meth c s₁ B hml hv
  obtain ⟨rfl, hsz, hP, hK, hN⟩ := hv
  have hx := B.exec
  have hb := B.bytes
  have hr := B.returns
  have hts : ∀ w ∈ wsA, w.before _ s = true := fun w h => atoms_spec (ws := .code yX11_look cX11_look 8 (some .int) :: wsA) B.pre w (List.mem_cons_of_mem _ h)
  have hown : s.vm.findClass RX11 = some m.cls := findClass_of_methodNamed B.named
  subst hsz
  have hLA : LA (dm L s.heap.size) L := ⟨hL, fun a h => Or.inl h⟩
  have hA : ∀ q : Nat, s.heap.size ≤ q → dm L s.heap.size q := fun q h => Or.inr h
  have hS : va_S (dm L s.heap.size) s.heap s.heap [] := va_S.rf
  have hB : TS D cA L T r ry [(2, 3), (31, 1000), (32, 1000), (104, 6), (104, 7), (131, 1000), (132, 1000), (133, 1000), (134, 1000), (135, 1000), (136, 1000)] σ σ ρ s.heap := ⟨hP, hW, FR.rf⟩
  have hl := lv_entry ([.ref h0, .int p1, .int p2]) (n := 8) (Nat.le_of_ble_eq_true rfl)
  rw [lg_entry_eq]
  generalize (lg_sl ([.ref h0, .int p1, .int p2]) ++ List.replicate (8 - (lg_sl ([.ref h0, .int p1, .int p2])).length) Slot.unset).toArray = ls at hl ⊢
  have hl : lv_has ls 8 [(0, .ref h0), (1, .int p1), (2, .int p2)] := hl
  refine lv_aload_n hx hb dX11_look_0 rfl (lv_at hl 0 rfl) ?_
  refine t_gr hx hb hts hown hK hG hB mh0 th0 fq_11_3 rfl mw_2_210 dX11_look_1 (fun b_1 hb_1 mb_1 tb_1 => ?_)
  refine t_gr hx hb hts hown hK hG hB mb_1 tb_1 fq_10_0 rfl mw_1_236 dX11_look_4 (fun b_2 hb_2 mb_2 tb_2 => ?_)
  refine t_gi hx hb hts hown hK hB mb_2 tb_2 fi_3_6 rfl mw_1_164 dX11_look_7 (fun x_3 ex_3 lx_3 ux_3 => ?_)
  refine lv_if_eq (tgt := 32) hx hb dX11_look_10 (by decide) (fun c_4 => ?_) (fun c_4 => ?_)
  · skip
    have uc_4 := i_eq (n := 0) (by decide) c_4
    refine lv_iconst (v := (-1)) hx hb dX11_look_32 (by decide) ?_
    exact W.iret (v := (-1)) hx hb hr (fun t ht hW => ⟨⟨(-1), (σ, ρ), rfl, ⟨hB.2.1, hB.2.2, trivial⟩, (show TP D cA L T r σ ρ t.heap from by rw [ht]; exact hB.1)⟩, hS.F ht⟩) hS.2.2 dX11_look_33
  · skip
    have uc_4 := i_ne (n := 0) (by decide) c_4
    refine lv_iload_n hx hb dX11_look_13 rfl (lv_at hl 1 rfl) ?_
    refine lv_if_lt (tgt := 32) hx hb dX11_look_14 (by decide) (fun c_5 => ?_) (fun c_5 => ?_)
    · skip
      have uc_5 := i_lt (n := 0) (by decide) c_5
      refine lv_iconst (v := (-1)) hx hb dX11_look_32 (by decide) ?_
      exact W.iret (v := (-1)) hx hb hr (fun t ht hW => ⟨⟨(-1), (σ, ρ), rfl, ⟨hB.2.1, hB.2.2, trivial⟩, (show TP D cA L T r σ ρ t.heap from by rw [ht]; exact hB.1)⟩, hS.F ht⟩) hS.2.2 dX11_look_33
    · skip
      have uc_5 := i_nlt (n := 0) (by decide) c_5
      refine lv_iload_n hx hb dX11_look_17 rfl (lv_at hl 1 rfl) ?_
      refine lv_bipush (v := 60) hx hb dX11_look_18 (by decide) ?_
      refine lv_icmp_gt (tgt := 32) hx hb dX11_look_20 (by decide) (fun c_6 => ?_) (fun c_6 => ?_)
      · skip
        have uc_6 := i_gt (n := 60) (by decide) c_6
        refine lv_iconst (v := (-1)) hx hb dX11_look_32 (by decide) ?_
        exact W.iret (v := (-1)) hx hb hr (fun t ht hW => ⟨⟨(-1), (σ, ρ), rfl, ⟨hB.2.1, hB.2.2, trivial⟩, (show TP D cA L T r σ ρ t.heap from by rw [ht]; exact hB.1)⟩, hS.F ht⟩) hS.2.2 dX11_look_33
      · skip
        have uc_6 := i_ngt (n := 60) (by decide) c_6
        refine lv_iload_n hx hb dX11_look_23 rfl (lv_at hl 2 rfl) ?_
        refine lv_if_lt (tgt := 32) hx hb dX11_look_24 (by decide) (fun c_7 => ?_) (fun c_7 => ?_)
        · skip
          have uc_7 := i_lt (n := 0) (by decide) c_7
          refine lv_iconst (v := (-1)) hx hb dX11_look_32 (by decide) ?_
          exact W.iret (v := (-1)) hx hb hr (fun t ht hW => ⟨⟨(-1), (σ, ρ), rfl, ⟨hB.2.1, hB.2.2, trivial⟩, (show TP D cA L T r σ ρ t.heap from by rw [ht]; exact hB.1)⟩, hS.F ht⟩) hS.2.2 dX11_look_33
        · skip
          have uc_7 := i_nlt (n := 0) (by decide) c_7
          refine lv_iload_n hx hb dX11_look_27 rfl (lv_at hl 2 rfl) ?_
          refine lv_iconst (v := 1) hx hb dX11_look_28 (by decide) ?_
          refine lv_icmp_le (tgt := 34) hx hb dX11_look_29 (by decide) (fun c_8 => ?_) (fun c_8 => ?_)
          · skip
            have uc_8 := i_le (n := 1) (by decide) c_8
            refine lv_aload_n hx hb dX11_look_34 rfl (lv_at hl 0 rfl) ?_
            refine t_ci (va_runV (As := []) (rest := []) ⟨hx, hb, hml, hown, hts⟩ (cy_X11_candidates l D cA L T r hG hLA.1 σ ρ hB.2.1 _ h0 mh0 th0) (cV hts mv_X11_candidates mw_5_131 rfl rfl ⟨Nat.le_of_ble_eq_true rfl, Nat.le_of_ble_eq_true rfl⟩) (pV hB.1 hK hN mh0 th0 (show shp cA 11 _ _ _ = .inr (11, Fs11 _ _ _) from rfl) rfl) rfl rfl hl.1 rfl (lv_room (Nat.le_of_ble_eq_true rfl)) dX11_look_35 ⟨Nat.le_of_ble_eq_true rfl, Nat.le_of_ble_eq_true rfl⟩) hLA hA hB hS (by decide) (fun x_11 σ_9 ρ_10 H locs hB fσ_9 pσ_9 hS => ?_)
            refine lv_istore_n (lv' := [(3, .int x_11), (0, .ref h0), (1, .int p1), (2, .int p2)]) hx hb dX11_look_38 rfl hl (by decide) rfl (fun ls hl => ?_)
            refine lv_bipush (v := (-2)) hx hb dX11_look_39 (by decide) ?_
            refine lv_istore (lv' := [(4, .int (-2)), (3, .int x_11), (0, .ref h0), (1, .int p1), (2, .int p2)]) hx hb dX11_look_41 hl (by decide) rfl (fun ls hl => ?_)
            refine lv_bipush (v := (-2)) hx hb dX11_look_43 (by decide) ?_
            refine lv_istore (lv' := [(5, .int (-2)), (4, .int (-2)), (3, .int x_11), (0, .ref h0), (1, .int p1), (2, .int p2)]) hx hb dX11_look_45 hl (by decide) rfl (fun ls hl => ?_)
            refine lv_iconst (v := 0) hx hb dX11_look_47 (by decide) ?_
            refine lv_istore (lv' := [(6, .int 0), (5, .int (-2)), (4, .int (-2)), (3, .int x_11), (0, .ref h0), (1, .int p1), (2, .int p2)]) hx hb dX11_look_48 hl (by decide) rfl (fun ls hl => ?_)
            have k_12 : σ_9 b_2 6 = x_3 := (FR.at fσ_9 tb_2 (by decide)).trans ex_3.symm
            refine w_loop (α := Int32 × Int32 × Int32 × Sg × Lg) (fun (i_13, i_14, i_15, σ_16, ρ_17) H locs ls => 0 ≤ i_15.toInt ∧ i_15.toInt ≤ 8 ∧ σ_16 b_2 6 = x_3 ∧ TS D cA L T r ry [(2, 3), (31, 1000), (32, 1000), (104, 6), (104, 7), (131, 1000), (132, 1000), (133, 1000), (134, 1000), (135, 1000), (136, 1000)] σ σ_16 ρ_17 H ∧ va_S (dm L s.heap.size) s.heap H locs ∧ lv_has ls 8 [(6, .int i_15), (5, .int i_14), (4, .int i_13), (3, .int x_11), (0, .ref h0), (1, .int p1), (2, .int p2)]) (fun (i_13, i_14, i_15, σ_16, ρ_17) => (8 - i_15.toInt).toNat) ?_ ⟨(-2), (-2), 0, σ_9, ρ_10⟩ ⟨(by decide), (by decide), k_12, hB, hS, lv_sub hl [0, 1, 2, 3, 4, 5, 6] rfl⟩
            rintro ⟨i_13, i_14, i_15, σ_16, ρ_17⟩ H locs ls ⟨li_15, ui_15, k_19, hB, hS, hl⟩ ih_18
            refine lv_iload_n hx hb dX11_look_50 rfl (lv_at hl 3 rfl) ?_
            refine lv_if_eq (tgt := 115) hx hb dX11_look_51 (by decide) (fun c_20 => ?_) (fun c_20 => ?_)
            · skip
              have uc_20 := i_eq (n := 0) (by decide) c_20
              refine lv_iload_n hx hb dX11_look_115 rfl (lv_at hl 6 rfl) ?_
              refine lv_if_ne (tgt := 124) hx hb dX11_look_116 (by decide) (fun c_21 => ?_) (fun c_21 => ?_)
              · skip
                have uc_21 := i_ne (n := 0) (by decide) c_21
                refine lv_iload hx hb dX11_look_124 (lv_at hl 1 rfl) ?_
                exact W.iret (v := i_14) hx hb hr (fun t ht hW => ⟨⟨i_14, (σ_16, ρ_17), rfl, ⟨hB.2.1, hB.2.2, trivial⟩, (show TP D cA L T r σ_16 ρ_17 t.heap from by rw [ht]; exact hB.1)⟩, hS.F ht⟩) hS.2.2 dX11_look_126
              · skip
                have uc_21 := i_eq (n := 0) (by decide) c_21
                refine lv_iload hx hb dX11_look_119 (lv_at hl 2 rfl) ?_
                refine lv_goto (tgt := 126) hx hb dX11_look_121 (by decide) ?_
                exact W.iret (v := i_13) hx hb hr (fun t ht hW => ⟨⟨i_13, (σ_16, ρ_17), rfl, ⟨hB.2.1, hB.2.2, trivial⟩, (show TP D cA L T r σ_16 ρ_17 t.heap from by rw [ht]; exact hB.1)⟩, hS.F ht⟩) hS.2.2 dX11_look_126
            · skip
              have uc_20 := i_ne (n := 0) (by decide) c_20
              refine lv_iload hx hb dX11_look_54 (lv_at hl 0 rfl) ?_
              refine lv_aload_n hx hb dX11_look_56 rfl (lv_at hl 4 rfl) ?_
              refine t_gk hx hb hts hown hK hB mh0 th0 fq_11_3 hb_1 mw_2_210 dX11_look_57 ?_
              refine t_gk hx hb hts hown hK hB mb_1 tb_1 fq_10_0 hb_2 mw_1_236 dX11_look_60 ?_
              refine t_gi hx hb hts hown hK hB mb_2 tb_2 fi_3_9 rfl mw_1_182 dX11_look_63 (fun x_22 ex_22 lx_22 ux_22 => ?_)
              refine lv_icmp_ge (tgt := 115) hx hb dX11_look_66 (by decide) (fun c_23 => ?_) (fun c_23 => ?_)
              · skip
                have uc_23 := j_le c_23
                refine lv_iload_n hx hb dX11_look_115 rfl (lv_at hl 6 rfl) ?_
                refine lv_if_ne (tgt := 124) hx hb dX11_look_116 (by decide) (fun c_24 => ?_) (fun c_24 => ?_)
                · skip
                  have uc_24 := i_ne (n := 0) (by decide) c_24
                  refine lv_iload hx hb dX11_look_124 (lv_at hl 1 rfl) ?_
                  exact W.iret (v := i_14) hx hb hr (fun t ht hW => ⟨⟨i_14, (σ_16, ρ_17), rfl, ⟨hB.2.1, hB.2.2, trivial⟩, (show TP D cA L T r σ_16 ρ_17 t.heap from by rw [ht]; exact hB.1)⟩, hS.F ht⟩) hS.2.2 dX11_look_126
                · skip
                  have uc_24 := i_eq (n := 0) (by decide) c_24
                  refine lv_iload hx hb dX11_look_119 (lv_at hl 2 rfl) ?_
                  refine lv_goto (tgt := 126) hx hb dX11_look_121 (by decide) ?_
                  exact W.iret (v := i_13) hx hb hr (fun t ht hW => ⟨⟨i_13, (σ_16, ρ_17), rfl, ⟨hB.2.1, hB.2.2, trivial⟩, (show TP D cA L T r σ_16 ρ_17 t.heap from by rw [ht]; exact hB.1)⟩, hS.F ht⟩) hS.2.2 dX11_look_126
              · skip
                have uc_23 := j_nle c_23
                refine lv_aload_n hx hb dX11_look_69 rfl (lv_at hl 4 rfl) ?_
                refine t_gr hx hb hts hown hK hG hB mh0 th0 fq_11_9 rfl mw_2_216 dX11_look_70 (fun b_25 hb_25 mb_25 tb_25 => ?_)
                refine lv_aload_n hx hb dX11_look_73 rfl (lv_at hl 4 rfl) ?_
                refine t_gk hx hb hts hown hK hB mh0 th0 fq_11_3 hb_1 mw_2_210 dX11_look_74 ?_
                refine t_gk hx hb hts hown hK hB mb_1 tb_1 fq_10_0 hb_2 mw_1_236 dX11_look_77 ?_
                refine lv_iload_n hx hb dX11_look_80 rfl (lv_at hl 3 rfl) ?_
                refine lv_iload hx hb dX11_look_81 (lv_at hl 0 rfl) ?_
                refine lv_iload_n hx hb dX11_look_83 rfl (lv_at hl 5 rfl) ?_
                refine t_ci (va_runV (As := [.ref b_2, .int x_11, .int i_15, .int p1]) (rest := []) ⟨hx, hb, hml, hown, hts⟩ (cy_X2_mostAlike l D cA L T r hG hLA.1 σ_16 ρ_17 hB.2.1 _ b_25 mb_25 tb_25 b_2 mb_2 tb_2 x_11 i_15 p1 (by first | omega | decide) (by first | omega | decide) (by first | omega | decide) (by first | omega | decide)) (cV hts mv_X2_mostAlike mw_5_156 rfl rfl ⟨Nat.le_of_ble_eq_true rfl, Nat.le_of_ble_eq_true rfl⟩) (pV hB.1 hK hN mb_25 tb_25 (show shp cA 2 _ _ _ = .inr (2, Fs2 _ _ _) from rfl) rfl) rfl rfl hl.1 rfl (lv_room (Nat.le_of_ble_eq_true rfl)) dX11_look_84 ⟨Nat.le_of_ble_eq_true rfl, Nat.le_of_ble_eq_true rfl⟩) hLA hA hB hS (by decide) (fun x_28 σ_26 ρ_27 H locs hB fσ_26 pσ_26 hS => ?_)
                refine lv_istore (lv' := [(7, .int x_28), (6, .int i_15), (5, .int i_14), (4, .int i_13), (3, .int x_11), (0, .ref h0), (1, .int p1), (2, .int p2)]) hx hb dX11_look_87 hl (by decide) rfl (fun ls hl => ?_)
                refine lv_iload hx hb dX11_look_89 (lv_at hl 3 rfl) ?_
                refine lv_if_lt (tgt := 101) hx hb dX11_look_91 (by decide) (fun c_29 => ?_) (fun c_29 => ?_)
                · skip
                  have uc_29 := i_lt (n := 0) (by decide) c_29
                  refine lv_iload hx hb dX11_look_101 (lv_at hl 0 rfl) ?_
                  refine lv_istore (lv' := [(5, .int x_28), (7, .int x_28), (6, .int i_15), (4, .int i_13), (3, .int x_11), (0, .ref h0), (1, .int p1), (2, .int p2)]) hx hb dX11_look_103 hl (by decide) rfl (fun ls hl => ?_)
                  refine lv_iload hx hb dX11_look_105 (lv_at hl 2 rfl) ?_
                  refine lv_istore (lv' := [(4, .int i_15), (5, .int x_28), (7, .int x_28), (6, .int i_15), (3, .int x_11), (0, .ref h0), (1, .int p1), (2, .int p2)]) hx hb dX11_look_107 hl (by decide) rfl (fun ls hl => ?_)
                  obtain ⟨x_30, ex_30⟩ : ∃ y : Int32, y = i_15 + 1 := ⟨_, rfl⟩
                  have vx_30 := b_add (rfl : i_15.toInt = _) (by decide : (1 : Int32).toInt = 1) ex_30 (by omega) (by omega)
                  refine lv_iinc (v := x_30) (lv' := [(6, .int x_30), (4, .int i_15), (5, .int x_28), (7, .int x_28), (3, .int x_11), (0, .ref h0), (1, .int p1), (2, .int p2)]) hx hb dX11_look_109 hl (k := 3) rfl (by rw [ex_30]; rfl) (by decide) rfl (fun ls hl => ?_)
                  refine lv_goto (tgt := 50) hx hb dX11_look_112 (by decide) ?_
                  have k_31 : σ_26 b_2 6 = x_3 := (FR.at fσ_26 tb_2 (by decide)).trans k_19
                  exact ih_18 ⟨i_15, x_28, x_30, σ_26, ρ_27⟩ _ _ _ ⟨(by omega), (by omega), k_31, hB, hS, lv_sub hl [0, 2, 1, 4, 5, 6, 7] rfl⟩ (by show (8 - x_30.toInt).toNat < (8 - i_15.toInt).toNat; omega)
                · skip
                  have uc_29 := i_nlt (n := 0) (by decide) c_29
                  refine lv_iload hx hb dX11_look_94 (lv_at hl 0 rfl) ?_
                  refine lv_iload hx hb dX11_look_96 (lv_at hl 2 rfl) ?_
                  refine lv_icmp_ge (tgt := 109) hx hb dX11_look_98 (by decide) (fun c_32 => ?_) (fun c_32 => ?_)
                  · skip
                    have uc_32 := j_le c_32
                    obtain ⟨x_33, ex_33⟩ : ∃ y : Int32, y = i_15 + 1 := ⟨_, rfl⟩
                    have vx_33 := b_add (rfl : i_15.toInt = _) (by decide : (1 : Int32).toInt = 1) ex_33 (by omega) (by omega)
                    refine lv_iinc (v := x_33) (lv' := [(6, .int x_33), (7, .int x_28), (5, .int i_14), (4, .int i_13), (3, .int x_11), (0, .ref h0), (1, .int p1), (2, .int p2)]) hx hb dX11_look_109 hl (k := 1) rfl (by rw [ex_33]; rfl) (by decide) rfl (fun ls hl => ?_)
                    refine lv_goto (tgt := 50) hx hb dX11_look_112 (by decide) ?_
                    have k_34 : σ_26 b_2 6 = x_3 := (FR.at fσ_26 tb_2 (by decide)).trans k_19
                    exact ih_18 ⟨i_13, i_14, x_33, σ_26, ρ_27⟩ _ _ _ ⟨(by omega), (by omega), k_34, hB, hS, lv_sub hl [0, 2, 3, 4, 5, 6, 7] rfl⟩ (by show (8 - x_33.toInt).toNat < (8 - i_15.toInt).toNat; omega)
                  · skip
                    have uc_32 := j_nle c_32
                    refine lv_iload hx hb dX11_look_101 (lv_at hl 0 rfl) ?_
                    refine lv_istore (lv' := [(5, .int x_28), (7, .int x_28), (6, .int i_15), (4, .int i_13), (3, .int x_11), (0, .ref h0), (1, .int p1), (2, .int p2)]) hx hb dX11_look_103 hl (by decide) rfl (fun ls hl => ?_)
                    refine lv_iload hx hb dX11_look_105 (lv_at hl 2 rfl) ?_
                    refine lv_istore (lv' := [(4, .int i_15), (5, .int x_28), (7, .int x_28), (6, .int i_15), (3, .int x_11), (0, .ref h0), (1, .int p1), (2, .int p2)]) hx hb dX11_look_107 hl (by decide) rfl (fun ls hl => ?_)
                    obtain ⟨x_35, ex_35⟩ : ∃ y : Int32, y = i_15 + 1 := ⟨_, rfl⟩
                    have vx_35 := b_add (rfl : i_15.toInt = _) (by decide : (1 : Int32).toInt = 1) ex_35 (by omega) (by omega)
                    refine lv_iinc (v := x_35) (lv' := [(6, .int x_35), (4, .int i_15), (5, .int x_28), (7, .int x_28), (3, .int x_11), (0, .ref h0), (1, .int p1), (2, .int p2)]) hx hb dX11_look_109 hl (k := 3) rfl (by rw [ex_35]; rfl) (by decide) rfl (fun ls hl => ?_)
                    refine lv_goto (tgt := 50) hx hb dX11_look_112 (by decide) ?_
                    have k_36 : σ_26 b_2 6 = x_3 := (FR.at fσ_26 tb_2 (by decide)).trans k_19
                    exact ih_18 ⟨i_15, x_28, x_35, σ_26, ρ_27⟩ _ _ _ ⟨(by omega), (by omega), k_36, hB, hS, lv_sub hl [0, 2, 1, 4, 5, 6, 7] rfl⟩ (by show (8 - x_35.toInt).toNat < (8 - i_15.toInt).toNat; omega)
          · skip
            have uc_8 := i_nle (n := 1) (by decide) c_8
            refine lv_iconst (v := (-1)) hx hb dX11_look_32 (by decide) ?_
            exact W.iret (v := (-1)) hx hb hr (fun t ht hW => ⟨⟨(-1), (σ, ρ), rfl, ⟨hB.2.1, hB.2.2, trivial⟩, (show TP D cA L T r σ ρ t.heap from by rw [ht]; exact hB.1)⟩, hS.F ht⟩) hS.2.2 dX11_look_33
