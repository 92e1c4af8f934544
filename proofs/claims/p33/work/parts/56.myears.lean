theorem mw_7_133 : (.instanceMethod yX12_passes : Cond) ∈ wsA := wsA_t (List.mem_append_right _ (List.mem_append_right _ (List.mem_append_right _ (List.mem_append_right _ (List.mem_append_right _ (List.mem_append_right _ (List.mem_append_left _ (List.mem_of_getElem? (l := tables_1_7) (i := 133) rfl)))))))) rfl
theorem mp_6_10 : (.selects RX12 yX12_passes yX12_passes : Cond) ∈ wsA := wsA_p (q := (yX12_passes, 44)) (List.mem_append_right _ (List.mem_append_right _ (List.mem_append_right _ (List.mem_append_right _ (List.mem_append_right _ (List.mem_append_left _ (List.mem_of_getElem? (l := lw_privs_6) (i := 10) rfl)))))))
theorem mw_7_134 : (.code yX12_passes cX12_passes 4 (some .int) : Cond) ∈ wsA := wsA_t (List.mem_append_right _ (List.mem_append_right _ (List.mem_append_right _ (List.mem_append_right _ (List.mem_append_right _ (List.mem_append_right _ (List.mem_append_left _ (List.mem_of_getElem? (l := tables_1_7) (i := 134) rfl)))))))) rfl
theorem mw_7_131 : (.methodLink RX12 360 yX12_passes : Cond) ∈ wsA := wsA_t (List.mem_append_right _ (List.mem_append_right _ (List.mem_append_right _ (List.mem_append_right _ (List.mem_append_right _ (List.mem_append_right _ (List.mem_append_left _ (List.mem_of_getElem? (l := tables_1_7) (i := 131) rfl)))))))) rfl
theorem dX12_night_0 : decode cX12_night 0 = .ok (.aload_n 0, 1) := by decide +kernel
theorem dX12_night_1 : decode cX12_night 1 = .ok (.invokevirtual 354, 3) := by decide +kernel
theorem dX12_night_4 : decode cX12_night 4 = .ok (.ifCond .eq 15, 3) := by decide +kernel
theorem dX12_night_19 : decode cX12_night 19 = .ok (.iconst (-1), 1) := by decide +kernel
theorem dX12_night_20 : decode cX12_night 20 = .ok (.ireturn, 1) := by decide +kernel
theorem dX12_night_7 : decode cX12_night 7 = .ok (.aload_n 0, 1) := by decide +kernel
theorem dX12_night_8 : decode cX12_night 8 = .ok (.getfield 39, 3) := by decide +kernel
theorem dX12_night_11 : decode cX12_night 11 = .ok (.iconst 4, 1) := by decide +kernel
theorem dX12_night_12 : decode cX12_night 12 = .ok (.iaload, 1) := by decide +kernel
theorem dX12_night_13 : decode cX12_night 13 = .ok (.sipush 999, 3) := by decide +kernel
theorem dX12_night_16 : decode cX12_night 16 = .ok (.if_icmp .ne 5, 3) := by decide +kernel
theorem dX12_night_21 : decode cX12_night 21 = .ok (.aload_n 0, 1) := by decide +kernel
theorem dX12_night_22 : decode cX12_night 22 = .ok (.invokevirtual 357, 3) := by decide +kernel
theorem dX12_night_25 : decode cX12_night 25 = .ok (.aload_n 0, 1) := by decide +kernel
theorem dX12_night_26 : decode cX12_night 26 = .ok (.invokevirtual 360, 3) := by decide +kernel
theorem dX12_night_29 : decode cX12_night 29 = .ok (.ireturn, 1) := by decide +kernel
theorem mv_X12_passes : MV RX12 yX12_passes cX12_passes 4 (some .int) 0 := ⟨mw_7_133, mp_6_10, mw_1_13, mw_7_134, ⟨rfl, by decide, by decide, by decide +kernel⟩⟩
set_option maxHeartbeats 4000000 in
set_option maxRecDepth 100000 in
theorem cy_X12_night (l : Launch) (D : va_G) (cA : Nat → ClassId) (L : List Nat) (T : Nat → Nat) (r : Rg) (hG : GR L T r) (hL : L.Nodup) (σ : Sg) (ρ : Lg) (hW : WT L ry T σ) (sz : Nat) (h0 : Nat) (mh0 : h0 ∈ L) (th0 : T h0 = 12) (bg : Nat) (hbg : r h0 3 = some bg) (mbg : bg ∈ L) (tbg : T bg = 62) (bk : Nat) (hbk : r h0 5 = some bk) (mbk : bk ∈ L) (tbk : T bk = 64) (bc : Nat) (hbc : r h0 6 = some bc) (mbc : bc ∈ L) (tbc : T bc = 65) (w0 : WR (σ bg) (σ bk) (σ bc) (σ h0 2).toInt.toNat) (w1 : (σ h0 21).toInt < (σ h0 2).toInt) : Met l yX12_night (.code yX12_night cX12_night 1 (some .int) :: wsA) ({ frames := 4, cells := 0, slots := 0, locals := 100 }) (PR D cA L T r σ ρ sz [.ref h0]) (QI D cA L T r ry [(12, 18), (12, 25), (70, 1000), (71, 1000), (72, 1000)] σ sz (fun x σ1 => True)) 0 0 (dm L sz) := by
  refine Met.ofW (cc := cX12_night) (maxL := 1) (ret := (some .int)) (by decide) rfl ?_
  intro p e s m args below meth c s₁ B hml hv
  obtain ⟨rfl, hsz, hP, hK, hN⟩ := hv
  have hx := B.exec
  have hb := B.bytes
  have hr := B.returns
  have hts : ∀ w ∈ wsA, w.before _ s = true := fun w h => atoms_spec (ws := .code yX12_night cX12_night 1 (some .int) :: wsA) B.pre w (List.mem_cons_of_mem _ h)
  have hown : s.vm.findClass RX12 = some m.cls := findClass_of_methodNamed B.named
  subst hsz
  have hLA : LA (dm L s.heap.size) L := ⟨hL, fun a h => Or.inl h⟩
  have hA : ∀ q : Nat, s.heap.size ≤ q → dm L s.heap.size q := fun q h => Or.inr h
  have hS : va_S (dm L s.heap.size) s.heap s.heap [] := va_S.rf
  have hB : TS D cA L T r ry [(12, 18), (12, 25), (70, 1000), (71, 1000), (72, 1000)] σ σ ρ s.heap := ⟨hP, hW, FR.rf⟩
  have hl := lv_entry ([.ref h0]) (n := 1) (Nat.le_of_ble_eq_true rfl)
  rw [lg_entry_eq]
  generalize (lg_sl ([.ref h0]) ++ List.replicate (1 - (lg_sl ([.ref h0])).length) Slot.unset).toArray = ls at hl ⊢
  have hl : lv_has ls 1 [(0, .ref h0)] := hl
  refine lv_aload_n hx hb dX12_night_0 rfl (lv_at hl 0 rfl) ?_
  refine t_ci (va_runV (As := []) (rest := []) ⟨hx, hb, hml, hown, hts⟩ (cy_X12_isHill l D cA L T r hG hLA.1 σ ρ hB.2.1 _ h0 mh0 th0) (cV hts mv_X12_isHill mw_7_123 rfl rfl ⟨Nat.le_of_ble_eq_true rfl, Nat.le_of_ble_eq_true rfl⟩) (pV hB.1 hK hN mh0 th0 (show shp cA 12 _ _ _ = .inr (12, Fs12 _ _ _) from rfl) rfl) rfl rfl hl.1 rfl (lv_room (Nat.le_of_ble_eq_true rfl)) dX12_night_1 ⟨Nat.le_of_ble_eq_true rfl, Nat.le_of_ble_eq_true rfl⟩) hLA hA hB hS (by decide) (fun x_3 σ_1 ρ_2 H locs hB fσ_1 pσ_1 hS => ?_)
  have qσ_1 := FR.nil fσ_1
  subst qσ_1
  obtain ⟨lx_3, ux_3⟩ := pσ_1
  refine lv_if_eq (tgt := 19) hx hb dX12_night_4 (by decide) (fun c_4 => ?_) (fun c_4 => ?_)
  · skip
    have uc_4 := i_eq (n := 0) (by decide) c_4
    refine lv_iconst (v := (-1)) hx hb dX12_night_19 (by decide) ?_
    exact W.iret (v := (-1)) hx hb hr (fun t ht hW => ⟨⟨(-1), (σ, ρ_2), rfl, ⟨hB.2.1, hB.2.2, trivial⟩, (show TP D cA L T r σ ρ_2 t.heap from by rw [ht]; exact hB.1)⟩, hS.F ht⟩) hS.2.2 dX12_night_20
  · skip
    have uc_4 := i_ne (n := 0) (by decide) c_4
    refine lv_aload_n hx hb dX12_night_7 rfl (lv_at hl 0 rfl) ?_
    refine t_gr hx hb hts hown hK hG hB mh0 th0 fq_12_20 rfl mw_5_236 dX12_night_8 (fun b_5 hb_5 mb_5 tb_5 => ?_)
    refine lv_iconst (v := 4) hx hb dX12_night_11 (by decide) ?_
    refine t_aj hx hb hK hB mb_5 tb_5 ai_70 (i_in (by decide) (by decide)) dX12_night_12 (fun x_6 ex_6 lx_6 ux_6 => ?_)
    have lx_6 : (-2147483648) ≤ x_6.toInt := lx_6
    have ux_6 : x_6.toInt ≤ 2147483647 := ux_6
    have cx_6 := congrArg Int32.toInt ex_6
    refine lv_sipush (v := 999) hx hb dX12_night_13 (by decide) ?_
    refine lv_icmp_ne (tgt := 21) hx hb dX12_night_16 (by decide) (fun c_7 => ?_) (fun c_7 => ?_)
    · skip
      have uc_7 := i_ne (n := 999) (by decide) c_7
      refine lv_aload_n hx hb dX12_night_21 rfl (lv_at hl 0 rfl) ?_
      refine t_cv (va_runV (As := []) (rest := []) ⟨hx, hb, hml, hown, hts⟩ (cy_X12_keepsAct l D cA L T r hG hLA.1 σ ρ_2 hB.2.1 _ h0 mh0 th0) (cV hts mv_X12_keepsAct mw_7_127 rfl rfl ⟨Nat.le_of_ble_eq_true rfl, Nat.le_of_ble_eq_true rfl⟩) (pV hB.1 hK hN mh0 th0 (show shp cA 12 _ _ _ = .inr (12, Fs12 _ _ _) from rfl) rfl) rfl rfl hl.1 rfl (lv_room (Nat.le_of_ble_eq_true rfl)) dX12_night_22 ⟨Nat.le_of_ble_eq_true rfl, Nat.le_of_ble_eq_true rfl⟩) hLA hA hB hS (by decide) (fun σ_8 ρ_9 H locs hB fσ_8 pσ_8 hS => ?_)
      refine lv_aload_n hx hb dX12_night_25 rfl (lv_at hl 0 rfl) ?_
      refine t_ci (va_runV (As := []) (rest := []) ⟨hx, hb, hml, hown, hts⟩ (cy_X12_passes l D cA L T r hG hLA.1 σ_8 ρ_9 hB.2.1 _ h0 mh0 th0 bg hbg mbg tbg bk hbk mbk tbk bc hbc mbc tbc (by rw [FR.row hB.2.2 tbg (fun j => by simp), FR.row hB.2.2 tbk (fun j => by simp), FR.row hB.2.2 tbc (fun j => by simp), FR.at hB.2.2 th0 (by simp)]; exact w0) (by rw [FR.at hB.2.2 th0 (by simp), FR.at hB.2.2 th0 (by simp)]; exact w1)) (cV hts mv_X12_passes mw_7_131 rfl rfl ⟨Nat.le_of_ble_eq_true rfl, Nat.le_of_ble_eq_true rfl⟩) (pV hB.1 hK hN mh0 th0 (show shp cA 12 _ _ _ = .inr (12, Fs12 _ _ _) from rfl) rfl) rfl rfl hl.1 rfl (lv_room (Nat.le_of_ble_eq_true rfl)) dX12_night_26 ⟨Nat.le_of_ble_eq_true rfl, Nat.le_of_ble_eq_true rfl⟩) hLA hA hB hS (by decide) (fun x_13 σ_11 ρ_12 H locs hB fσ_11 pσ_11 hS => ?_)
      exact W.iret (v := x_13) hx hb hr (fun t ht hW => ⟨⟨x_13, (σ_11, ρ_12), rfl, ⟨hB.2.1, hB.2.2, trivial⟩, (show TP D cA L T r σ_11 ρ_12 t.heap from by rw [ht]; exact hB.1)⟩, hS.F ht⟩) hS.2.2 dX12_night_29
    · skip
      have uc_7 := i_eq (n := 999) (by decide) c_7
      refine lv_iconst (v := (-1)) hx hb dX12_night_19 (by decide) ?_
      exact W.iret (v := (-1)) hx hb hr (fun t ht hW => ⟨⟨(-1), (σ, ρ_2), rfl, ⟨hB.2.1, hB.2.2, trivial⟩, (show TP D cA L T r σ ρ_2 t.heap from by rw [ht]; exact hB.1)⟩, hS.F ht⟩) hS.2.2 dX12_night_20
theorem mw_8_88 : (.instanceMethod yX12_keeps : Cond) ∈ wsA := wsA_t (List.mem_append_right _ (List.mem_append_right _ (List.mem_append_right _ (List.mem_append_right _ (List.mem_append_right _ (List.mem_append_right _ (List.mem_append_right _ (List.mem_of_getElem? (l := tables_1_8) (i := 88) rfl)))))))) rfl
theorem mp_8_5 : (.selects RX12 yX12_keeps yX12_keeps : Cond) ∈ wsA := wsA_p (q := (yX12_keeps, 44)) (List.mem_append_right _ (List.mem_append_right _ (List.mem_append_right _ (List.mem_append_right _ (List.mem_append_right _ (List.mem_append_right _ (List.mem_append_right _ (List.mem_of_getElem? (l := lw_privs_8) (i := 5) rfl))))))))
theorem mw_8_89 : (.code yX12_keeps cX12_keeps 2 none : Cond) ∈ wsA := wsA_t (List.mem_append_right _ (List.mem_append_right _ (List.mem_append_right _ (List.mem_append_right _ (List.mem_append_right _ (List.mem_append_right _ (List.mem_append_right _ (List.mem_of_getElem? (l := tables_1_8) (i := 89) rfl)))))))) rfl
theorem mw_8_86 : (.methodLink RX12 442 yX12_keeps : Cond) ∈ wsA := wsA_t (List.mem_append_right _ (List.mem_append_right _ (List.mem_append_right _ (List.mem_append_right _ (List.mem_append_right _ (List.mem_append_right _ (List.mem_append_right _ (List.mem_of_getElem? (l := tables_1_8) (i := 86) rfl)))))))) rfl
theorem mw_8_120 : (.instanceMethod yX12_climbsDrawn : Cond) ∈ wsA := wsA_t (List.mem_append_right _ (List.mem_append_right _ (List.mem_append_right _ (List.mem_append_right _ (List.mem_append_right _ (List.mem_append_right _ (List.mem_append_right _ (List.mem_of_getElem? (l := tables_1_8) (i := 120) rfl)))))))) rfl
theorem mp_8_10 : (.selects RX12 yX12_climbsDrawn yX12_climbsDrawn : Cond) ∈ wsA := wsA_p (q := (yX12_climbsDrawn, 44)) (List.mem_append_right _ (List.mem_append_right _ (List.mem_append_right _ (List.mem_append_right _ (List.mem_append_right _ (List.mem_append_right _ (List.mem_append_right _ (List.mem_of_getElem? (l := lw_privs_8) (i := 10) rfl))))))))
theorem mw_8_121 : (.code yX12_climbsDrawn cX12_climbsDrawn 4 (some .int) : Cond) ∈ wsA := wsA_t (List.mem_append_right _ (List.mem_append_right _ (List.mem_append_right _ (List.mem_append_right _ (List.mem_append_right _ (List.mem_append_right _ (List.mem_append_right _ (List.mem_of_getElem? (l := tables_1_8) (i := 121) rfl)))))))) rfl
theorem mw_8_118 : (.methodLink RX12 478 yX12_climbsDrawn : Cond) ∈ wsA := wsA_t (List.mem_append_right _ (List.mem_append_right _ (List.mem_append_right _ (List.mem_append_right _ (List.mem_append_right _ (List.mem_append_right _ (List.mem_append_right _ (List.mem_of_getElem? (l := tables_1_8) (i := 118) rfl)))))))) rfl
theorem mw_8_100 : (.instanceMethod yX12_laysBack : Cond) ∈ wsA := wsA_t (List.mem_append_right _ (List.mem_append_right _ (List.mem_append_right _ (List.mem_append_right _ (List.mem_append_right _ (List.mem_append_right _ (List.mem_append_right _ (List.mem_of_getElem? (l := tables_1_8) (i := 100) rfl)))))))) rfl
theorem mp_8_8 : (.selects RX12 yX12_laysBack yX12_laysBack : Cond) ∈ wsA := wsA_p (q := (yX12_laysBack, 44)) (List.mem_append_right _ (List.mem_append_right _ (List.mem_append_right _ (List.mem_append_right _ (List.mem_append_right _ (List.mem_append_right _ (List.mem_append_right _ (List.mem_of_getElem? (l := lw_privs_8) (i := 8) rfl))))))))
theorem mw_8_101 : (.code yX12_laysBack cX12_laysBack 2 none : Cond) ∈ wsA := wsA_t (List.mem_append_right _ (List.mem_append_right _ (List.mem_append_right _ (List.mem_append_right _ (List.mem_append_right _ (List.mem_append_right _ (List.mem_append_right _ (List.mem_of_getElem? (l := tables_1_8) (i := 101) rfl)))))))) rfl
theorem mw_8_98 : (.methodLink RX12 451 yX12_laysBack : Cond) ∈ wsA := wsA_t (List.mem_append_right _ (List.mem_append_right _ (List.mem_append_right _ (List.mem_append_right _ (List.mem_append_right _ (List.mem_append_right _ (List.mem_append_right _ (List.mem_of_getElem? (l := tables_1_8) (i := 98) rfl)))))))) rfl
theorem dX12_years_0 : decode cX12_years 0 = .ok (.aload_n 0, 1) := by decide +kernel
theorem dX12_years_1 : decode cX12_years 1 = .ok (.invokevirtual 354, 3) := by decide +kernel
theorem dX12_years_4 : decode cX12_years 4 = .ok (.ifCond .eq 37, 3) := by decide +kernel
theorem dX12_years_41 : decode cX12_years 41 = .ok (.iconst (-1), 1) := by decide +kernel
theorem dX12_years_42 : decode cX12_years 42 = .ok (.ireturn, 1) := by decide +kernel
theorem dX12_years_7 : decode cX12_years 7 = .ok (.iload_n 1, 1) := by decide +kernel
theorem dX12_years_8 : decode cX12_years 8 = .ok (.i2l, 1) := by decide +kernel
theorem dX12_years_9 : decode cX12_years 9 = .ok (.lconst 1, 1) := by decide +kernel
theorem dX12_years_10 : decode cX12_years 10 = .ok (.ldc2_w 433, 3) := by decide +kernel
theorem dX12_years_13 : decode cX12_years 13 = .ok (.invokestatic 130, 3) := by decide +kernel
theorem dX12_years_16 : decode cX12_years 16 = .ok (.ifCond .eq 25, 3) := by decide +kernel
theorem dX12_years_19 : decode cX12_years 19 = .ok (.iload_n 2, 1) := by decide +kernel
theorem dX12_years_20 : decode cX12_years 20 = .ok (.i2l, 1) := by decide +kernel
theorem dX12_years_21 : decode cX12_years 21 = .ok (.lconst 1, 1) := by decide +kernel
theorem dX12_years_22 : decode cX12_years 22 = .ok (.ldc2_w 440, 3) := by decide +kernel
theorem dX12_years_25 : decode cX12_years 25 = .ok (.invokestatic 130, 3) := by decide +kernel
theorem dX12_years_28 : decode cX12_years 28 = .ok (.ifCond .eq 13, 3) := by decide +kernel
theorem dX12_years_31 : decode cX12_years 31 = .ok (.iload_n 3, 1) := by decide +kernel
theorem dX12_years_32 : decode cX12_years 32 = .ok (.i2l, 1) := by decide +kernel
theorem dX12_years_33 : decode cX12_years 33 = .ok (.lconst 0, 1) := by decide +kernel
theorem dX12_years_34 : decode cX12_years 34 = .ok (.lconst 1, 1) := by decide +kernel
theorem dX12_years_35 : decode cX12_years 35 = .ok (.invokestatic 130, 3) := by decide +kernel
theorem dX12_years_38 : decode cX12_years 38 = .ok (.ifCond .ne 5, 3) := by decide +kernel
theorem dX12_years_43 : decode cX12_years 43 = .ok (.aload_n 0, 1) := by decide +kernel
theorem dX12_years_44 : decode cX12_years 44 = .ok (.aload_n 0, 1) := by decide +kernel
theorem dX12_years_45 : decode cX12_years 45 = .ok (.getfield 460, 3) := by decide +kernel
theorem dX12_years_48 : decode cX12_years 48 = .ok (.i2l, 1) := by decide +kernel
theorem dX12_years_49 : decode cX12_years 49 = .ok (.putfield 463, 3) := by decide +kernel
theorem dX12_years_52 : decode cX12_years 52 = .ok (.iconst 0, 1) := by decide +kernel
theorem dX12_years_53 : decode cX12_years 53 = .ok (.istore 4, 2) := by decide +kernel
theorem dX12_years_55 : decode cX12_years 55 = .ok (.iconst 0, 1) := by decide +kernel
theorem dX12_years_56 : decode cX12_years 56 = .ok (.istore 5, 2) := by decide +kernel
theorem dX12_years_58 : decode cX12_years 58 = .ok (.aload_n 0, 1) := by decide +kernel
theorem dX12_years_59 : decode cX12_years 59 = .ok (.invokevirtual 442, 3) := by decide +kernel
theorem dX12_years_62 : decode cX12_years 62 = .ok (.iconst 0, 1) := by decide +kernel
theorem dX12_years_63 : decode cX12_years 63 = .ok (.istore 6, 2) := by decide +kernel
theorem dX12_years_65 : decode cX12_years 65 = .ok (.iload 6, 2) := by decide +kernel
theorem dX12_years_67 : decode cX12_years 67 = .ok (.iload_n 1, 1) := by decide +kernel
theorem dX12_years_68 : decode cX12_years 68 = .ok (.if_icmp .ge 74, 3) := by decide +kernel
theorem dX12_years_71 : decode cX12_years 71 = .ok (.iconst 0, 1) := by decide +kernel
theorem dX12_years_72 : decode cX12_years 72 = .ok (.istore 7, 2) := by decide +kernel
theorem dX12_years_74 : decode cX12_years 74 = .ok (.iload 7, 2) := by decide +kernel
theorem dX12_years_76 : decode cX12_years 76 = .ok (.iload_n 2, 1) := by decide +kernel
theorem dX12_years_77 : decode cX12_years 77 = .ok (.if_icmp .ge 23, 3) := by decide +kernel
theorem dX12_years_80 : decode cX12_years 80 = .ok (.iload 5, 2) := by decide +kernel
theorem dX12_years_82 : decode cX12_years 82 = .ok (.aload_n 0, 1) := by decide +kernel
theorem dX12_years_83 : decode cX12_years 83 = .ok (.invokevirtual 478, 3) := by decide +kernel
theorem dX12_years_86 : decode cX12_years 86 = .ok (.iadd, 1) := by decide +kernel
theorem dX12_years_87 : decode cX12_years 87 = .ok (.istore 5, 2) := by decide +kernel
theorem dX12_years_89 : decode cX12_years 89 = .ok (.aload_n 0, 1) := by decide +kernel
theorem dX12_years_90 : decode cX12_years 90 = .ok (.invokevirtual 360, 3) := by decide +kernel
theorem dX12_years_93 : decode cX12_years 93 = .ok (.pop, 1) := by decide +kernel
theorem dX12_years_94 : decode cX12_years 94 = .ok (.iinc 7 1, 3) := by decide +kernel
theorem dX12_years_97 : decode cX12_years 97 = .ok (.goto (-23), 3) := by decide +kernel
theorem dX12_years_100 : decode cX12_years 100 = .ok (.iconst 0, 1) := by decide +kernel
theorem dX12_years_101 : decode cX12_years 101 = .ok (.istore 7, 2) := by decide +kernel
theorem dX12_years_103 : decode cX12_years 103 = .ok (.iload 7, 2) := by decide +kernel
theorem dX12_years_105 : decode cX12_years 105 = .ok (.aload_n 0, 1) := by decide +kernel
theorem dX12_years_106 : decode cX12_years 106 = .ok (.getfield 39, 3) := by decide +kernel
theorem dX12_years_109 : decode cX12_years 109 = .ok (.iconst 3, 1) := by decide +kernel
theorem dX12_years_110 : decode cX12_years 110 = .ok (.iaload, 1) := by decide +kernel
theorem dX12_years_111 : decode cX12_years 111 = .ok (.if_icmp .ge 21, 3) := by decide +kernel
theorem dX12_years_114 : decode cX12_years 114 = .ok (.iload 4, 2) := by decide +kernel
theorem dX12_years_116 : decode cX12_years 116 = .ok (.aload_n 0, 1) := by decide +kernel
theorem dX12_years_117 : decode cX12_years 117 = .ok (.iload 7, 2) := by decide +kernel
theorem dX12_years_119 : decode cX12_years 119 = .ok (.iconst 0, 1) := by decide +kernel
theorem dX12_years_120 : decode cX12_years 120 = .ok (.invokevirtual 324, 3) := by decide +kernel
theorem dX12_years_123 : decode cX12_years 123 = .ok (.iadd, 1) := by decide +kernel
theorem dX12_years_124 : decode cX12_years 124 = .ok (.istore 4, 2) := by decide +kernel
theorem dX12_years_126 : decode cX12_years 126 = .ok (.iinc 7 1, 3) := by decide +kernel
theorem dX12_years_129 : decode cX12_years 129 = .ok (.goto (-26), 3) := by decide +kernel
theorem dX12_years_132 : decode cX12_years 132 = .ok (.aload_n 0, 1) := by decide +kernel
theorem dX12_years_133 : decode cX12_years 133 = .ok (.invokevirtual 451, 3) := by decide +kernel
theorem dX12_years_136 : decode cX12_years 136 = .ok (.iinc 6 1, 3) := by decide +kernel
theorem dX12_years_139 : decode cX12_years 139 = .ok (.goto (-74), 3) := by decide +kernel
theorem dX12_years_142 : decode cX12_years 142 = .ok (.iload_n 3, 1) := by decide +kernel
theorem dX12_years_143 : decode cX12_years 143 = .ok (.ifCond .ne 8, 3) := by decide +kernel
theorem dX12_years_151 : decode cX12_years 151 = .ok (.iload 5, 2) := by decide +kernel
theorem dX12_years_153 : decode cX12_years 153 = .ok (.ireturn, 1) := by decide +kernel
theorem dX12_years_146 : decode cX12_years 146 = .ok (.iload 4, 2) := by decide +kernel
theorem dX12_years_148 : decode cX12_years 148 = .ok (.goto 5, 3) := by decide +kernel
theorem mv_X12_keeps : MV RX12 yX12_keeps cX12_keeps 2 none 0 := ⟨mw_8_88, mp_8_5, mw_1_13, mw_8_89, ⟨rfl, by decide, by decide, by decide +kernel⟩⟩
theorem mv_X12_climbsDrawn : MV RX12 yX12_climbsDrawn cX12_climbsDrawn 4 (some .int) 0 := ⟨mw_8_120, mp_8_10, mw_1_13, mw_8_121, ⟨rfl, by decide, by decide, by decide +kernel⟩⟩
theorem mv_X12_laysBack : MV RX12 yX12_laysBack cX12_laysBack 2 none 0 := ⟨mw_8_100, mp_8_8, mw_1_13, mw_8_101, ⟨rfl, by decide, by decide, by decide +kernel⟩⟩
set_option maxHeartbeats 4000000 in
set_option maxRecDepth 100000 in
theorem cy_X12_years (l : Launch) (D : va_G) (cA : Nat → ClassId) (L : List Nat) (T : Nat → Nat) (r : Rg) (hG : GR L T r) (hL : L.Nodup) (σ : Sg) (ρ : Lg) (hW : WT L ry T σ) (sz : Nat) (h0 : Nat) (mh0 : h0 ∈ L) (th0 : T h0 = 12) (p1 : Int32) (p2 : Int32) (p3 : Int32) (bg : Nat) (hbg : r h0 3 = some bg) (mbg : bg ∈ L) (tbg : T bg = 62) (bk : Nat) (hbk : r h0 5 = some bk) (mbk : bk ∈ L) (tbk : T bk = 64) (bc : Nat) (hbc : r h0 6 = some bc) (mbc : bc ∈ L) (tbc : T bc = 65) (w0 : WR (σ bg) (σ bk) (σ bc) (σ h0 2).toInt.toNat) (w1 : (σ h0 21).toInt < (σ h0 2).toInt) : Met l yX12_years (.code yX12_years cX12_years 8 (some .int) :: wsA) ({ frames := 4, cells := 0, slots := 0, locals := 100 }) (PR D cA L T r σ ρ sz [.ref h0, .int p1, .int p2, .int p3]) (QI D cA L T r ry [(12, 18), (70, 1000), (71, 1000), (79, 1000)] σ sz (fun x σ1 => True)) 0 0 (dm L sz) := by
  refine Met.ofW (cc := cX12_years) (maxL := 8) (ret := (some .int)) (by decide) rfl ?_
  intro p e s m args below meth c s₁ B hml hv
  obtain ⟨rfl, hsz, hP, hK, hN⟩ := hv
  have hx := B.exec
  have hb := B.bytes
  have hr := B.returns
  have hts : ∀ w ∈ wsA, w.before _ s = true := fun w h => atoms_spec (ws := .code yX12_years cX12_years 8 (some .int) :: wsA) B.pre w (List.mem_cons_of_mem _ h)
  have hown : s.vm.findClass RX12 = some m.cls := findClass_of_methodNamed B.named
  subst hsz
  have hLA : LA (dm L s.heap.size) L := ⟨hL, fun a h => Or.inl h⟩
  have hA : ∀ q : Nat, s.heap.size ≤ q → dm L s.heap.size q := fun q h => Or.inr h
  have hS : va_S (dm L s.heap.size) s.heap s.heap [] := va_S.rf
  have hB : TS D cA L T r ry [(12, 18), (70, 1000), (71, 1000), (79, 1000)] σ σ ρ s.heap := ⟨hP, hW, FR.rf⟩
  have hl := lv_entry ([.ref h0, .int p1, .int p2, .int p3]) (n := 8) (Nat.le_of_ble_eq_true rfl)
  rw [lg_entry_eq]
  generalize (lg_sl ([.ref h0, .int p1, .int p2, .int p3]) ++ List.replicate (8 - (lg_sl ([.ref h0, .int p1, .int p2, .int p3])).length) Slot.unset).toArray = ls at hl ⊢
  have hl : lv_has ls 8 [(0, .ref h0), (1, .int p1), (2, .int p2), (3, .int p3)] := hl
  refine lv_aload_n hx hb dX12_years_0 rfl (lv_at hl 0 rfl) ?_
  refine t_ci (va_runV (As := []) (rest := []) ⟨hx, hb, hml, hown, hts⟩ (cy_X12_isHill l D cA L T r hG hLA.1 σ ρ hB.2.1 _ h0 mh0 th0) (cV hts mv_X12_isHill mw_7_123 rfl rfl ⟨Nat.le_of_ble_eq_true rfl, Nat.le_of_ble_eq_true rfl⟩) (pV hB.1 hK hN mh0 th0 (show shp cA 12 _ _ _ = .inr (12, Fs12 _ _ _) from rfl) rfl) rfl rfl hl.1 rfl (lv_room (Nat.le_of_ble_eq_true rfl)) dX12_years_1 ⟨Nat.le_of_ble_eq_true rfl, Nat.le_of_ble_eq_true rfl⟩) hLA hA hB hS (by decide) (fun x_3 σ_1 ρ_2 H locs hB fσ_1 pσ_1 hS => ?_)
  have qσ_1 := FR.nil fσ_1
  subst qσ_1
  obtain ⟨lx_3, ux_3⟩ := pσ_1
  refine lv_if_eq (tgt := 41) hx hb dX12_years_4 (by decide) (fun c_4 => ?_) (fun c_4 => ?_)
  · skip
    have uc_4 := i_eq (n := 0) (by decide) c_4
    refine lv_iconst (v := (-1)) hx hb dX12_years_41 (by decide) ?_
    exact W.iret (v := (-1)) hx hb hr (fun t ht hW => ⟨⟨(-1), (σ, ρ_2), rfl, ⟨hB.2.1, hB.2.2, trivial⟩, (show TP D cA L T r σ ρ_2 t.heap from by rw [ht]; exact hB.1)⟩, hS.F ht⟩) hS.2.2 dX12_years_42
  · skip
    have uc_4 := i_ne (n := 0) (by decide) c_4
    refine lv_iload_n hx hb dX12_years_7 rfl (lv_at hl 1 rfl) ?_
    refine lv_i2l (v := p1.toInt64) hx hb dX12_years_8 rfl ?_
    refine lv_lconst (v := 1) hx hb dX12_years_9 (by decide) ?_
    refine lv_ldc2 (v := 10) hx hb hown (hts _ mw_8_63) dX12_years_10 ?_
    refine t_ci (va_runS (As := [.long p1.toInt64, .long 1, .long 10]) (rest := []) ⟨hx, hb, hml, hown, hts⟩ (cy_X12_in_1_10 l D cA L T r hG hLA.1 σ ρ_2 hB.2.1 _ p1) (cS hts ms_X12_in mw_6_185 rfl rfl ⟨Nat.le_of_ble_eq_true rfl, Nat.le_of_ble_eq_true rfl⟩) (pS hB.1 hK hN) rfl rfl hl.1 rfl (lv_room (Nat.le_of_ble_eq_true rfl)) dX12_years_13 ⟨Nat.le_of_ble_eq_true rfl, Nat.le_of_ble_eq_true rfl⟩) hLA hA hB hS (by decide) (fun x_7 σ_5 ρ_6 H locs hB fσ_5 pσ_5 hS => ?_)
    have qσ_5 := FR.nil fσ_5
    subst qσ_5
    obtain ⟨ox_7, ix_7⟩ := pσ_5
    refine lv_if_eq (tgt := 41) hx hb dX12_years_16 (by decide) (fun c_8 => ?_) (fun c_8 => ?_)
    · skip
      have uc_8 := i_eq (n := 0) (by decide) c_8
      refine lv_iconst (v := (-1)) hx hb dX12_years_41 (by decide) ?_
      exact W.iret (v := (-1)) hx hb hr (fun t ht hW => ⟨⟨(-1), (σ, ρ_6), rfl, ⟨hB.2.1, hB.2.2, trivial⟩, (show TP D cA L T r σ ρ_6 t.heap from by rw [ht]; exact hB.1)⟩, hS.F ht⟩) hS.2.2 dX12_years_42
    · skip
      have uc_8 := i_ne (n := 0) (by decide) c_8
      refine lv_iload_n hx hb dX12_years_19 rfl (lv_at hl 2 rfl) ?_
      refine lv_i2l (v := p2.toInt64) hx hb dX12_years_20 rfl ?_
      refine lv_lconst (v := 1) hx hb dX12_years_21 (by decide) ?_
      refine lv_ldc2 (v := 60) hx hb hown (hts _ mw_8_77) dX12_years_22 ?_
      refine t_ci (va_runS (As := [.long p2.toInt64, .long 1, .long 60]) (rest := []) ⟨hx, hb, hml, hown, hts⟩ (cy_X12_in_1_60 l D cA L T r hG hLA.1 σ ρ_6 hB.2.1 _ p2) (cS hts ms_X12_in mw_6_185 rfl rfl ⟨Nat.le_of_ble_eq_true rfl, Nat.le_of_ble_eq_true rfl⟩) (pS hB.1 hK hN) rfl rfl hl.1 rfl (lv_room (Nat.le_of_ble_eq_true rfl)) dX12_years_25 ⟨Nat.le_of_ble_eq_true rfl, Nat.le_of_ble_eq_true rfl⟩) hLA hA hB hS (by decide) (fun x_11 σ_9 ρ_10 H locs hB fσ_9 pσ_9 hS => ?_)
      have qσ_9 := FR.nil fσ_9
      subst qσ_9
      obtain ⟨ox_11, ix_11⟩ := pσ_9
      refine lv_if_eq (tgt := 41) hx hb dX12_years_28 (by decide) (fun c_12 => ?_) (fun c_12 => ?_)
      · skip
        have uc_12 := i_eq (n := 0) (by decide) c_12
        refine lv_iconst (v := (-1)) hx hb dX12_years_41 (by decide) ?_
        exact W.iret (v := (-1)) hx hb hr (fun t ht hW => ⟨⟨(-1), (σ, ρ_10), rfl, ⟨hB.2.1, hB.2.2, trivial⟩, (show TP D cA L T r σ ρ_10 t.heap from by rw [ht]; exact hB.1)⟩, hS.F ht⟩) hS.2.2 dX12_years_42
      · skip
        have uc_12 := i_ne (n := 0) (by decide) c_12
        refine lv_iload_n hx hb dX12_years_31 rfl (lv_at hl 3 rfl) ?_
        refine lv_i2l (v := p3.toInt64) hx hb dX12_years_32 rfl ?_
        refine lv_lconst (v := 0) hx hb dX12_years_33 (by decide) ?_
        refine lv_lconst (v := 1) hx hb dX12_years_34 (by decide) ?_
        refine t_ci (va_runS (As := [.long p3.toInt64, .long 0, .long 1]) (rest := []) ⟨hx, hb, hml, hown, hts⟩ (cy_X12_in_0_1 l D cA L T r hG hLA.1 σ ρ_10 hB.2.1 _ p3) (cS hts ms_X12_in mw_6_185 rfl rfl ⟨Nat.le_of_ble_eq_true rfl, Nat.le_of_ble_eq_true rfl⟩) (pS hB.1 hK hN) rfl rfl hl.1 rfl (lv_room (Nat.le_of_ble_eq_true rfl)) dX12_years_35 ⟨Nat.le_of_ble_eq_true rfl, Nat.le_of_ble_eq_true rfl⟩) hLA hA hB hS (by decide) (fun x_15 σ_13 ρ_14 H locs hB fσ_13 pσ_13 hS => ?_)
        have qσ_13 := FR.nil fσ_13
        subst qσ_13
        obtain ⟨ox_15, ix_15⟩ := pσ_13
        refine lv_if_ne (tgt := 43) hx hb dX12_years_38 (by decide) (fun c_16 => ?_) (fun c_16 => ?_)
        · skip
          have uc_16 := i_ne (n := 0) (by decide) c_16
          refine lv_aload_n hx hb dX12_years_43 rfl (lv_at hl 0 rfl) ?_
          refine lv_aload_n hx hb dX12_years_44 rfl (lv_at hl 0 rfl) ?_
          refine t_gi hx hb hts hown hK hB mh0 th0 fi_12_22 rfl mw_5_238 dX12_years_45 (fun x_17 ex_17 lx_17 ux_17 => ?_)
          have cx_17 := congrArg Int32.toInt ex_17
          refine lv_i2l (v := x_17.toInt64) hx hb dX12_years_48 rfl ?_
          refine t_pl hx hb hts hown hK hLA hB hS mh0 th0 fl_12_39 mw_6_15 dX12_years_49 (fun H locs ρ_18 eρ_18 hB hS => ?_)
          refine lv_iconst (v := 0) hx hb dX12_years_52 (by decide) ?_
          refine lv_istore (lv' := [(4, .int 0), (0, .ref h0), (1, .int p1), (2, .int p2), (3, .int p3)]) hx hb dX12_years_53 hl (by decide) rfl (fun ls hl => ?_)
          refine lv_iconst (v := 0) hx hb dX12_years_55 (by decide) ?_
          refine lv_istore (lv' := [(5, .int 0), (4, .int 0), (0, .ref h0), (1, .int p1), (2, .int p2), (3, .int p3)]) hx hb dX12_years_56 hl (by decide) rfl (fun ls hl => ?_)
          refine lv_aload_n hx hb dX12_years_58 rfl (lv_at hl 2 rfl) ?_
          refine t_cv (va_runV (As := []) (rest := []) ⟨hx, hb, hml, hown, hts⟩ (cy_X12_keeps l D cA L T r hG hLA.1 σ ρ_18 hB.2.1 _ h0 mh0 th0) (cV hts mv_X12_keeps mw_8_86 rfl rfl ⟨Nat.le_of_ble_eq_true rfl, Nat.le_of_ble_eq_true rfl⟩) (pV hB.1 hK hN mh0 th0 (show shp cA 12 _ _ _ = .inr (12, Fs12 _ _ _) from rfl) rfl) rfl rfl hl.1 rfl (lv_room (Nat.le_of_ble_eq_true rfl)) dX12_years_59 ⟨Nat.le_of_ble_eq_true rfl, Nat.le_of_ble_eq_true rfl⟩) hLA hA hB hS (by decide) (fun σ_19 ρ_20 H locs hB fσ_19 pσ_19 hS => ?_)
          refine lv_iconst (v := 0) hx hb dX12_years_62 (by decide) ?_
          refine lv_istore (lv' := [(6, .int 0), (5, .int 0), (4, .int 0), (0, .ref h0), (1, .int p1), (2, .int p2), (3, .int p3)]) hx hb dX12_years_63 hl (by decide) rfl (fun ls hl => ?_)
          have k_22 : σ_19 h0 22 = x_17 := (FR.at fσ_19 th0 (by decide)).trans ex_17.symm
          refine w_loop (α := Int32 × Int32 × Int32 × Sg × Lg) (fun (i_23, i_24, i_25, σ_26, ρ_27) H locs ls => 0 ≤ i_25.toInt ∧ i_25.toInt ≤ 2147483647 ∧ σ_26 h0 22 = x_17 ∧ TS D cA L T r ry [(12, 18), (70, 1000), (71, 1000), (79, 1000)] σ σ_26 ρ_27 H ∧ va_S (dm L s.heap.size) s.heap H locs ∧ lv_has ls 8 [(6, .int i_25), (5, .int i_24), (4, .int i_23), (0, .ref h0), (1, .int p1), (2, .int p2), (3, .int p3)]) (fun (i_23, i_24, i_25, σ_26, ρ_27) => (2147483647 - i_25.toInt).toNat) ?_ ⟨0, 0, 0, σ_19, ρ_20⟩ ⟨(by decide), (by decide), k_22, hB, hS, lv_sub hl [0, 1, 2, 3, 4, 5, 6] rfl⟩
          rintro ⟨i_23, i_24, i_25, σ_26, ρ_27⟩ H locs ls ⟨li_25, ui_25, k_29, hB, hS, hl⟩ ih_28
          refine lv_iload hx hb dX12_years_65 (lv_at hl 0 rfl) ?_
          refine lv_iload_n hx hb dX12_years_67 rfl (lv_at hl 4 rfl) ?_
          refine lv_icmp_ge (tgt := 142) hx hb dX12_years_68 (by decide) (fun c_30 => ?_) (fun c_30 => ?_)
          · skip
            have uc_30 := j_le c_30
            refine lv_iload_n hx hb dX12_years_142 rfl (lv_at hl 6 rfl) ?_
            refine lv_if_ne (tgt := 151) hx hb dX12_years_143 (by decide) (fun c_31 => ?_) (fun c_31 => ?_)
            · skip
              have uc_31 := i_ne (n := 0) (by decide) c_31
              refine lv_iload hx hb dX12_years_151 (lv_at hl 1 rfl) ?_
              exact W.iret (v := i_24) hx hb hr (fun t ht hW => ⟨⟨i_24, (σ_26, ρ_27), rfl, ⟨hB.2.1, hB.2.2, trivial⟩, (show TP D cA L T r σ_26 ρ_27 t.heap from by rw [ht]; exact hB.1)⟩, hS.F ht⟩) hS.2.2 dX12_years_153
            · skip
              have uc_31 := i_eq (n := 0) (by decide) c_31
              refine lv_iload hx hb dX12_years_146 (lv_at hl 2 rfl) ?_
              refine lv_goto (tgt := 153) hx hb dX12_years_148 (by decide) ?_
              exact W.iret (v := i_23) hx hb hr (fun t ht hW => ⟨⟨i_23, (σ_26, ρ_27), rfl, ⟨hB.2.1, hB.2.2, trivial⟩, (show TP D cA L T r σ_26 ρ_27 t.heap from by rw [ht]; exact hB.1)⟩, hS.F ht⟩) hS.2.2 dX12_years_153
          · skip
            have uc_30 := j_nle c_30
            refine lv_iconst (v := 0) hx hb dX12_years_71 (by decide) ?_
            refine lv_istore (lv' := [(7, .int 0), (6, .int i_25), (5, .int i_24), (4, .int i_23), (0, .ref h0), (1, .int p1), (2, .int p2), (3, .int p3)]) hx hb dX12_years_72 hl (by decide) rfl (fun ls hl => ?_)
            refine w_loop (α := Int32 × Int32 × Sg × Lg) (fun (i_32, i_33, σ_34, ρ_35) H locs ls => 0 ≤ i_33.toInt ∧ i_33.toInt ≤ 2147483647 ∧ σ_34 h0 22 = x_17 ∧ TS D cA L T r ry [(12, 18), (70, 1000), (71, 1000), (79, 1000)] σ σ_34 ρ_35 H ∧ va_S (dm L s.heap.size) s.heap H locs ∧ lv_has ls 8 [(7, .int i_33), (6, .int i_25), (5, .int i_32), (4, .int i_23), (0, .ref h0), (1, .int p1), (2, .int p2), (3, .int p3)]) (fun (i_32, i_33, σ_34, ρ_35) => (2147483647 - i_33.toInt).toNat) ?_ ⟨i_24, 0, σ_26, ρ_27⟩ ⟨(by decide), (by decide), k_29, hB, hS, lv_sub hl [0, 1, 2, 3, 4, 5, 6, 7] rfl⟩
            rintro ⟨i_32, i_33, σ_34, ρ_35⟩ H locs ls ⟨li_33, ui_33, k_37, hB, hS, hl⟩ ih_36
            refine lv_iload hx hb dX12_years_74 (lv_at hl 0 rfl) ?_
            refine lv_iload_n hx hb dX12_years_76 rfl (lv_at hl 6 rfl) ?_
            refine lv_icmp_ge (tgt := 100) hx hb dX12_years_77 (by decide) (fun c_38 => ?_) (fun c_38 => ?_)
            · skip
              have uc_38 := j_le c_38
              refine lv_iconst (v := 0) hx hb dX12_years_100 (by decide) ?_
              refine lv_istore (lv' := [(7, .int 0), (6, .int i_25), (5, .int i_32), (4, .int i_23), (0, .ref h0), (1, .int p1), (2, .int p2), (3, .int p3)]) hx hb dX12_years_101 hl (by decide) rfl (fun ls hl => ?_)
              refine w_loop (α := Int32 × Int32 × Sg × Lg) (fun (i_39, i_40, σ_41, ρ_42) H locs ls => 0 ≤ i_40.toInt ∧ i_40.toInt ≤ 4 ∧ σ_41 h0 22 = x_17 ∧ TS D cA L T r ry [(12, 18), (70, 1000), (71, 1000), (79, 1000)] σ σ_41 ρ_42 H ∧ va_S (dm L s.heap.size) s.heap H locs ∧ lv_has ls 8 [(7, .int i_40), (6, .int i_25), (5, .int i_32), (4, .int i_39), (0, .ref h0), (1, .int p1), (2, .int p2), (3, .int p3)]) (fun (i_39, i_40, σ_41, ρ_42) => (4 - i_40.toInt).toNat) ?_ ⟨i_23, 0, σ_34, ρ_35⟩ ⟨(by decide), (by decide), k_37, hB, hS, lv_sub hl [0, 1, 2, 3, 4, 5, 6, 7] rfl⟩
              rintro ⟨i_39, i_40, σ_41, ρ_42⟩ H locs ls ⟨li_40, ui_40, k_44, hB, hS, hl⟩ ih_43
              refine lv_iload hx hb dX12_years_103 (lv_at hl 0 rfl) ?_
              refine lv_aload_n hx hb dX12_years_105 rfl (lv_at hl 4 rfl) ?_
              refine t_gr hx hb hts hown hK hG hB mh0 th0 fq_12_20 rfl mw_5_236 dX12_years_106 (fun b_45 hb_45 mb_45 tb_45 => ?_)
              refine lv_iconst (v := 3) hx hb dX12_years_109 (by decide) ?_
              refine t_aj hx hb hK hB mb_45 tb_45 ai_70 (i_in (by decide) (by decide)) dX12_years_110 (fun x_46 ex_46 lx_46 ux_46 => ?_)
              have lx_46 : 0 ≤ x_46.toInt := lx_46
              have ux_46 : x_46.toInt ≤ 4 := ux_46
              have cx_46 := congrArg Int32.toInt ex_46
              refine lv_icmp_ge (tgt := 132) hx hb dX12_years_111 (by decide) (fun c_47 => ?_) (fun c_47 => ?_)
              · skip
                have uc_47 := j_le c_47
                refine lv_aload_n hx hb dX12_years_132 rfl (lv_at hl 4 rfl) ?_
                refine t_cv (va_runV (As := []) (rest := []) ⟨hx, hb, hml, hown, hts⟩ (cy_X12_laysBack l D cA L T r hG hLA.1 σ_41 ρ_42 hB.2.1 _ h0 mh0 th0) (cV hts mv_X12_laysBack mw_8_98 rfl rfl ⟨Nat.le_of_ble_eq_true rfl, Nat.le_of_ble_eq_true rfl⟩) (pV hB.1 hK hN mh0 th0 (show shp cA 12 _ _ _ = .inr (12, Fs12 _ _ _) from rfl) rfl) rfl rfl hl.1 rfl (lv_room (Nat.le_of_ble_eq_true rfl)) dX12_years_133 ⟨Nat.le_of_ble_eq_true rfl, Nat.le_of_ble_eq_true rfl⟩) hLA hA hB hS (by decide) (fun σ_48 ρ_49 H locs hB fσ_48 pσ_48 hS => ?_)
                obtain ⟨x_51, ex_51⟩ : ∃ y : Int32, y = i_25 + 1 := ⟨_, rfl⟩
                try have vx_51 := b_add (rfl : i_25.toInt = _) (by decide : (1 : Int32).toInt = 1) ex_51 (by omega) (by omega)
                refine lv_iinc (v := x_51) (lv' := [(6, .int x_51), (7, .int i_40), (5, .int i_32), (4, .int i_39), (0, .ref h0), (1, .int p1), (2, .int p2), (3, .int p3)]) hx hb dX12_years_136 hl (k := 1) rfl (by rw [ex_51]; rfl) (by decide) rfl (fun ls hl => ?_)
                refine lv_goto (tgt := 65) hx hb dX12_years_139 (by decide) ?_
                have k_52 : σ_48 h0 22 = x_17 := (FR.at fσ_48 th0 (by decide)).trans k_44
                exact ih_28 ⟨i_39, i_32, x_51, σ_48, ρ_49⟩ _ _ _ ⟨(by omega), (by omega), k_52, hB, hS, lv_sub hl [0, 2, 3, 4, 5, 6, 7] rfl⟩ (by show (2147483647 - x_51.toInt).toNat < (2147483647 - i_25.toInt).toNat; omega)
              · skip
                have uc_47 := j_nle c_47
                refine lv_iload hx hb dX12_years_114 (lv_at hl 3 rfl) ?_
                refine lv_aload_n hx hb dX12_years_116 rfl (lv_at hl 4 rfl) ?_
                refine lv_iload hx hb dX12_years_117 (lv_at hl 0 rfl) ?_
                refine lv_iconst (v := 0) hx hb dX12_years_119 (by decide) ?_
                refine t_ci (va_runV (As := [.int i_40, .int 0]) (rest := [.int i_39]) ⟨hx, hb, hml, hown, hts⟩ (cy_X12_pilgrimOf_0x l D cA L T r hG hLA.1 σ_41 ρ_42 hB.2.1 _ h0 mh0 th0 i_40 b_45 hb_45 mb_45 tb_45 (by first | omega | decide) (by first | omega | decide)) (cV hts mv_X12_pilgrimOf mw_7_69 rfl rfl ⟨Nat.le_of_ble_eq_true rfl, Nat.le_of_ble_eq_true rfl⟩) (pV hB.1 hK hN mh0 th0 (show shp cA 12 _ _ _ = .inr (12, Fs12 _ _ _) from rfl) rfl) rfl rfl hl.1 rfl (lv_room (Nat.le_of_ble_eq_true rfl)) dX12_years_120 ⟨Nat.le_of_ble_eq_true rfl, Nat.le_of_ble_eq_true rfl⟩) hLA hA hB hS (by decide) (fun x_55 σ_53 ρ_54 H locs hB fσ_53 pσ_53 hS => ?_)
                have qσ_53 := FR.nil fσ_53
                subst qσ_53
                obtain ⟨g_56, g_57⟩ := pσ_53
                have dx_55 := congrArg Int32.toInt g_57
                obtain ⟨lx_55, ux_55⟩ := g_56
                refine lv_iadd hx hb dX12_years_123 ?_
                refine lv_topi (fun x_58 ex_58 => ?_)
                try have vx_58 := b_add (rfl : i_39.toInt = _) (rfl : x_55.toInt = _) ex_58 (by omega) (by omega)
                refine lv_istore (lv' := [(4, .int x_58), (7, .int i_40), (6, .int i_25), (5, .int i_32), (0, .ref h0), (1, .int p1), (2, .int p2), (3, .int p3)]) hx hb dX12_years_124 hl (by decide) rfl (fun ls hl => ?_)
                obtain ⟨x_59, ex_59⟩ : ∃ y : Int32, y = i_40 + 1 := ⟨_, rfl⟩
                have vx_59 := b_add (rfl : i_40.toInt = _) (by decide : (1 : Int32).toInt = 1) ex_59 (by omega) (by omega)
                refine lv_iinc (v := x_59) (lv' := [(7, .int x_59), (4, .int x_58), (6, .int i_25), (5, .int i_32), (0, .ref h0), (1, .int p1), (2, .int p2), (3, .int p3)]) hx hb dX12_years_126 hl (k := 1) rfl (by rw [ex_59]; rfl) (by decide) rfl (fun ls hl => ?_)
                refine lv_goto (tgt := 103) hx hb dX12_years_129 (by decide) ?_
                exact ih_43 ⟨x_58, x_59, σ_41, ρ_54⟩ _ _ _ ⟨(by omega), (by omega), k_44, hB, hS, lv_sub hl [0, 2, 3, 1, 4, 5, 6, 7] rfl⟩ (by show (4 - x_59.toInt).toNat < (4 - i_40.toInt).toNat; omega)
            · skip
              have uc_38 := j_nle c_38
              refine lv_iload hx hb dX12_years_80 (lv_at hl 2 rfl) ?_
              refine lv_aload_n hx hb dX12_years_82 rfl (lv_at hl 4 rfl) ?_
              refine t_ci (va_runV (As := []) (rest := [.int i_32]) ⟨hx, hb, hml, hown, hts⟩ (cy_X12_climbsDrawn l D cA L T r hG hLA.1 σ_34 ρ_35 hB.2.1 _ h0 mh0 th0) (cV hts mv_X12_climbsDrawn mw_8_118 rfl rfl ⟨Nat.le_of_ble_eq_true rfl, Nat.le_of_ble_eq_true rfl⟩) (pV hB.1 hK hN mh0 th0 (show shp cA 12 _ _ _ = .inr (12, Fs12 _ _ _) from rfl) rfl) rfl rfl hl.1 rfl (lv_room (Nat.le_of_ble_eq_true rfl)) dX12_years_83 ⟨Nat.le_of_ble_eq_true rfl, Nat.le_of_ble_eq_true rfl⟩) hLA hA hB hS (by decide) (fun x_62 σ_60 ρ_61 H locs hB fσ_60 pσ_60 hS => ?_)
              refine lv_iadd hx hb dX12_years_86 ?_
              refine lv_topi (fun x_63 ex_63 => ?_)
              try have vx_63 := b_add (rfl : i_32.toInt = _) (rfl : x_62.toInt = _) ex_63 (by omega) (by omega)
              refine lv_istore (lv' := [(5, .int x_63), (7, .int i_33), (6, .int i_25), (4, .int i_23), (0, .ref h0), (1, .int p1), (2, .int p2), (3, .int p3)]) hx hb dX12_years_87 hl (by decide) rfl (fun ls hl => ?_)
              refine lv_aload_n hx hb dX12_years_89 rfl (lv_at hl 4 rfl) ?_
              refine t_ci (va_runV (As := []) (rest := []) ⟨hx, hb, hml, hown, hts⟩ (cy_X12_passes l D cA L T r hG hLA.1 σ_60 ρ_61 hB.2.1 _ h0 mh0 th0 bg hbg mbg tbg bk hbk mbk tbk bc hbc mbc tbc (by rw [FR.row hB.2.2 tbg (fun j => by simp), FR.row hB.2.2 tbk (fun j => by simp), FR.row hB.2.2 tbc (fun j => by simp), FR.at hB.2.2 th0 (by simp)]; exact w0) (by rw [FR.at hB.2.2 th0 (by simp), FR.at hB.2.2 th0 (by simp)]; exact w1)) (cV hts mv_X12_passes mw_7_131 rfl rfl ⟨Nat.le_of_ble_eq_true rfl, Nat.le_of_ble_eq_true rfl⟩) (pV hB.1 hK hN mh0 th0 (show shp cA 12 _ _ _ = .inr (12, Fs12 _ _ _) from rfl) rfl) rfl rfl hl.1 rfl (lv_room (Nat.le_of_ble_eq_true rfl)) dX12_years_90 ⟨Nat.le_of_ble_eq_true rfl, Nat.le_of_ble_eq_true rfl⟩) hLA hA hB hS (by decide) (fun x_66 σ_64 ρ_65 H locs hB fσ_64 pσ_64 hS => ?_)
              refine lv_pop hx hb dX12_years_93 rfl ?_
              obtain ⟨x_67, ex_67⟩ : ∃ y : Int32, y = i_33 + 1 := ⟨_, rfl⟩
              try have vx_67 := b_add (rfl : i_33.toInt = _) (by decide : (1 : Int32).toInt = 1) ex_67 (by omega) (by omega)
              refine lv_iinc (v := x_67) (lv' := [(7, .int x_67), (5, .int x_63), (6, .int i_25), (4, .int i_23), (0, .ref h0), (1, .int p1), (2, .int p2), (3, .int p3)]) hx hb dX12_years_94 hl (k := 1) rfl (by rw [ex_67]; rfl) (by decide) rfl (fun ls hl => ?_)
              refine lv_goto (tgt := 74) hx hb dX12_years_97 (by decide) ?_
              have k_68 : σ_60 h0 22 = x_17 := (FR.at fσ_60 th0 (by decide)).trans k_37
              have k_69 : σ_64 h0 22 = x_17 := (FR.at fσ_64 th0 (by decide)).trans k_68
              exact ih_36 ⟨x_63, x_67, σ_64, ρ_65⟩ _ _ _ ⟨(by omega), (by omega), k_69, hB, hS, lv_sub hl [0, 2, 1, 3, 4, 5, 6, 7] rfl⟩ (by show (2147483647 - x_67.toInt).toNat < (2147483647 - i_33.toInt).toNat; omega)
        · skip
          have uc_16 := i_eq (n := 0) (by decide) c_16
          refine lv_iconst (v := (-1)) hx hb dX12_years_41 (by decide) ?_
          exact W.iret (v := (-1)) hx hb hr (fun t ht hW => ⟨⟨(-1), (σ, ρ_14), rfl, ⟨hB.2.1, hB.2.2, trivial⟩, (show TP D cA L T r σ ρ_14 t.heap from by rw [ht]; exact hB.1)⟩, hS.F ht⟩) hS.2.2 dX12_years_42
