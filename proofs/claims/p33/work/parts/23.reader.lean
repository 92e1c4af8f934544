theorem mw_1_44 : (.fieldLink RX4 45 "HillBends$Tape" "fault" "I" : Cond) ∈ wsA := wsA_t (List.mem_append_left _ (List.mem_of_getElem? (l := tables_1_1) (i := 44) rfl)) rfl
theorem mw_1_215 : (.fieldLink RX4 29 "HillBends$HillReader" "at" "I" : Cond) ∈ wsA := wsA_t (List.mem_append_left _ (List.mem_of_getElem? (l := tables_1_1) (i := 215) rfl)) rfl
theorem mw_3_176 : (.instanceMethod yX9_kindAt : Cond) ∈ wsA := wsA_t (List.mem_append_right _ (List.mem_append_right _ (List.mem_append_left _ (List.mem_of_getElem? (l := tables_1_3) (i := 176) rfl)))) rfl
theorem mw_3_177 : (.selects RX9 yX9_kindAt yX9_kindAt : Cond) ∈ wsA := wsA_t (List.mem_append_right _ (List.mem_append_right _ (List.mem_append_left _ (List.mem_of_getElem? (l := tables_1_3) (i := 177) rfl)))) rfl
theorem mw_1_2 : (.initialized RX9 : Cond) ∈ wsA := wsA_t (List.mem_append_left _ (List.mem_of_getElem? (l := tables_1_1) (i := 2) rfl)) rfl
theorem mw_3_178 : (.code yX9_kindAt cX9_kindAt 2 (some .int) : Cond) ∈ wsA := wsA_t (List.mem_append_right _ (List.mem_append_right _ (List.mem_append_left _ (List.mem_of_getElem? (l := tables_1_3) (i := 178) rfl)))) rfl
theorem mw_3_175 : (.methodLink RX4 37 yX9_kindAt : Cond) ∈ wsA := wsA_t (List.mem_append_right _ (List.mem_append_right _ (List.mem_append_left _ (List.mem_of_getElem? (l := tables_1_3) (i := 175) rfl)))) rfl
theorem mw_3_180 : (.instanceMethod yX9_valueAt : Cond) ∈ wsA := wsA_t (List.mem_append_right _ (List.mem_append_right _ (List.mem_append_left _ (List.mem_of_getElem? (l := tables_1_3) (i := 180) rfl)))) rfl
theorem mw_3_181 : (.selects RX9 yX9_valueAt yX9_valueAt : Cond) ∈ wsA := wsA_t (List.mem_append_right _ (List.mem_append_right _ (List.mem_append_left _ (List.mem_of_getElem? (l := tables_1_3) (i := 181) rfl)))) rfl
theorem mw_3_182 : (.code yX9_valueAt cX9_valueAt 2 (some .int) : Cond) ∈ wsA := wsA_t (List.mem_append_right _ (List.mem_append_right _ (List.mem_append_left _ (List.mem_of_getElem? (l := tables_1_3) (i := 182) rfl)))) rfl
theorem mw_3_179 : (.methodLink RX4 48 yX9_valueAt : Cond) ∈ wsA := wsA_t (List.mem_append_right _ (List.mem_append_right _ (List.mem_append_left _ (List.mem_of_getElem? (l := tables_1_3) (i := 179) rfl)))) rfl
theorem mw_3_184 : (.instanceMethod yX9_wrong : Cond) ∈ wsA := wsA_t (List.mem_append_right _ (List.mem_append_right _ (List.mem_append_left _ (List.mem_of_getElem? (l := tables_1_3) (i := 184) rfl)))) rfl
theorem mw_3_185 : (.selects RX9 yX9_wrong yX9_wrong : Cond) ∈ wsA := wsA_t (List.mem_append_right _ (List.mem_append_right _ (List.mem_append_left _ (List.mem_of_getElem? (l := tables_1_3) (i := 185) rfl)))) rfl
theorem mw_3_186 : (.code yX9_wrong cX9_wrong 4 (some .boolean) : Cond) ∈ wsA := wsA_t (List.mem_append_right _ (List.mem_append_right _ (List.mem_append_left _ (List.mem_of_getElem? (l := tables_1_3) (i := 186) rfl)))) rfl
theorem mw_3_183 : (.methodLink RX4 41 yX9_wrong : Cond) ∈ wsA := wsA_t (List.mem_append_right _ (List.mem_append_right _ (List.mem_append_left _ (List.mem_of_getElem? (l := tables_1_3) (i := 183) rfl)))) rfl
theorem dX4_number_0 : decode cX4_number 0 = .ok (.aload_n 1, 1) := by decide +kernel
theorem dX4_number_1 : decode cX4_number 1 = .ok (.getfield 45, 3) := by decide +kernel
theorem dX4_number_4 : decode cX4_number 4 = .ok (.ifCond .eq 5, 3) := by decide +kernel
theorem dX4_number_9 : decode cX4_number 9 = .ok (.aload_n 1, 1) := by decide +kernel
theorem dX4_number_10 : decode cX4_number 10 = .ok (.aload_n 0, 1) := by decide +kernel
theorem dX4_number_11 : decode cX4_number 11 = .ok (.getfield 29, 3) := by decide +kernel
theorem dX4_number_14 : decode cX4_number 14 = .ok (.invokevirtual 37, 3) := by decide +kernel
theorem dX4_number_17 : decode cX4_number 17 = .ok (.sipush 130, 3) := by decide +kernel
theorem dX4_number_20 : decode cX4_number 20 = .ok (.if_icmp .eq 15, 3) := by decide +kernel
theorem dX4_number_35 : decode cX4_number 35 = .ok (.aload_n 1, 1) := by decide +kernel
theorem dX4_number_36 : decode cX4_number 36 = .ok (.aload_n 0, 1) := by decide +kernel
theorem dX4_number_37 : decode cX4_number 37 = .ok (.getfield 29, 3) := by decide +kernel
theorem dX4_number_40 : decode cX4_number 40 = .ok (.invokevirtual 48, 3) := by decide +kernel
theorem dX4_number_43 : decode cX4_number 43 = .ok (.istore 4, 2) := by decide +kernel
theorem dX4_number_45 : decode cX4_number 45 = .ok (.iload 4, 2) := by decide +kernel
theorem dX4_number_47 : decode cX4_number 47 = .ok (.iload_n 2, 1) := by decide +kernel
theorem dX4_number_48 : decode cX4_number 48 = .ok (.if_icmp .lt 9, 3) := by decide +kernel
theorem dX4_number_57 : decode cX4_number 57 = .ok (.aload_n 1, 1) := by decide +kernel
theorem dX4_number_58 : decode cX4_number 58 = .ok (.aload_n 0, 1) := by decide +kernel
theorem dX4_number_59 : decode cX4_number 59 = .ok (.getfield 29, 3) := by decide +kernel
theorem dX4_number_62 : decode cX4_number 62 = .ok (.iconst 1, 1) := by decide +kernel
theorem dX4_number_63 : decode cX4_number 63 = .ok (.invokevirtual 41, 3) := by decide +kernel
theorem dX4_number_66 : decode cX4_number 66 = .ok (.pop, 1) := by decide +kernel
theorem dX4_number_67 : decode cX4_number 67 = .ok (.iconst (-1), 1) := by decide +kernel
theorem dX4_number_68 : decode cX4_number 68 = .ok (.ireturn, 1) := by decide +kernel
theorem dX4_number_51 : decode cX4_number 51 = .ok (.iload 4, 2) := by decide +kernel
theorem dX4_number_53 : decode cX4_number 53 = .ok (.iload_n 3, 1) := by decide +kernel
theorem dX4_number_54 : decode cX4_number 54 = .ok (.if_icmp .le 15, 3) := by decide +kernel
theorem dX4_number_69 : decode cX4_number 69 = .ok (.aload_n 0, 1) := by decide +kernel
theorem dX4_number_70 : decode cX4_number 70 = .ok (.dup, 1) := by decide +kernel
theorem dX4_number_71 : decode cX4_number 71 = .ok (.getfield 29, 3) := by decide +kernel
theorem dX4_number_74 : decode cX4_number 74 = .ok (.iconst 1, 1) := by decide +kernel
theorem dX4_number_75 : decode cX4_number 75 = .ok (.iadd, 1) := by decide +kernel
theorem dX4_number_76 : decode cX4_number 76 = .ok (.putfield 29, 3) := by decide +kernel
theorem dX4_number_79 : decode cX4_number 79 = .ok (.iload 4, 2) := by decide +kernel
theorem dX4_number_81 : decode cX4_number 81 = .ok (.ireturn, 1) := by decide +kernel
theorem dX4_number_23 : decode cX4_number 23 = .ok (.aload_n 1, 1) := by decide +kernel
theorem dX4_number_24 : decode cX4_number 24 = .ok (.aload_n 0, 1) := by decide +kernel
theorem dX4_number_25 : decode cX4_number 25 = .ok (.getfield 29, 3) := by decide +kernel
theorem dX4_number_28 : decode cX4_number 28 = .ok (.iconst 0, 1) := by decide +kernel
theorem dX4_number_29 : decode cX4_number 29 = .ok (.invokevirtual 41, 3) := by decide +kernel
theorem dX4_number_32 : decode cX4_number 32 = .ok (.pop, 1) := by decide +kernel
theorem dX4_number_33 : decode cX4_number 33 = .ok (.iconst (-1), 1) := by decide +kernel
theorem dX4_number_34 : decode cX4_number 34 = .ok (.ireturn, 1) := by decide +kernel
theorem dX4_number_7 : decode cX4_number 7 = .ok (.iconst (-1), 1) := by decide +kernel
theorem dX4_number_8 : decode cX4_number 8 = .ok (.ireturn, 1) := by decide +kernel
theorem mv_X9_kindAt : MV RX9 yX9_kindAt cX9_kindAt 2 (some .int) 1 := ⟨mw_3_176, mw_3_177, mw_1_2, mw_3_178, ⟨rfl, by decide, by decide, by decide +kernel⟩⟩
theorem mv_X9_valueAt : MV RX9 yX9_valueAt cX9_valueAt 2 (some .int) 1 := ⟨mw_3_180, mw_3_181, mw_1_2, mw_3_182, ⟨rfl, by decide, by decide, by decide +kernel⟩⟩
theorem mv_X9_wrong : MV RX9 yX9_wrong cX9_wrong 4 (some .boolean) 2 := ⟨mw_3_184, mw_3_185, mw_1_2, mw_3_186, ⟨rfl, by decide, by decide, by decide +kernel⟩⟩
set_option maxHeartbeats 4000000 in
set_option maxRecDepth 100000 in
theorem cy_X4_number (l : Launch) (D : va_G) (cA : Nat → ClassId) (L : List Nat) (T : Nat → Nat) (r : Rg) (hG : GR L T r) (hL : L.Nodup) (σ : Sg) (ρ : Lg) (hW : WT L ry T σ) (sz : Nat) (h0 : Nat) (mh0 : h0 ∈ L) (th0 : T h0 = 4) (h1 : Nat) (mh1 : h1 ∈ L) (th1 : T h1 = 9) (p2 : Int32) (p3 : Int32) : Met l yX4_number (.code yX4_number cX4_number 5 (some .int) :: wsA) ({ frames := 1, cells := 0, slots := 0, locals := 23 }) (PR D cA L T r σ ρ sz [.ref h0, .ref h1, .int p2, .int p3]) (QI D cA L T r ry [(4, 1), (9, 6)] σ sz (fun x σ1 => ((σ1 h1 6).toInt = 0 → (σ h1 6).toInt = 0 ∧ p2.toInt ≤ x.toInt ∧ x.toInt ≤ p3.toInt))) 0 0 (dm L sz) := by
  refine Met.ofW (cc := cX4_number) (maxL := 5) (ret := (some .int)) (by decide) rfl ?_
  intro p e s m args below meth c s₁ B hml hv
  obtain ⟨rfl, hsz, hP, hK, hN⟩ := hv
  have hx := B.exec
  have hb := B.bytes
  have hr := B.returns
  have hts : ∀ w ∈ wsA, w.before _ s = true := fun w h => atoms_spec (ws := .code yX4_number cX4_number 5 (some .int) :: wsA) B.pre w (List.mem_cons_of_mem _ h)
  have hown : s.vm.findClass RX4 = some m.cls := findClass_of_methodNamed B.named
  subst hsz
  have hLA : LA (dm L s.heap.size) L := ⟨hL, fun a h => Or.inl h⟩
  have hA : ∀ q : Nat, s.heap.size ≤ q → dm L s.heap.size q := fun q h => Or.inr h
  have hS : va_S (dm L s.heap.size) s.heap s.heap [] := va_S.rf
  have hB : TS D cA L T r ry [(4, 1), (9, 6)] σ σ ρ s.heap := ⟨hP, hW, FR.rf⟩
  have hl := lv_entry ([.ref h0, .ref h1, .int p2, .int p3]) (n := 5) (Nat.le_of_ble_eq_true rfl)
  rw [lg_entry_eq]
  generalize (lg_sl ([.ref h0, .ref h1, .int p2, .int p3]) ++ List.replicate (5 - (lg_sl ([.ref h0, .ref h1, .int p2, .int p3])).length) Slot.unset).toArray = ls at hl ⊢
  have hl : lv_has ls 5 [(0, .ref h0), (1, .ref h1), (2, .int p2), (3, .int p3)] := hl
  refine lv_aload_n hx hb dX4_number_0 rfl (lv_at hl 1 rfl) ?_
  refine t_gi hx hb hts hown hK hB mh1 th1 fi_9_6 rfl mw_1_44 dX4_number_1 (fun x_1 ex_1 lx_1 ux_1 => ?_)
  have cx_1 := congrArg Int32.toInt ex_1
  refine lv_if_eq (tgt := 9) hx hb dX4_number_4 (by decide) (fun c_2 => ?_) (fun c_2 => ?_)
  · skip
    have uc_2 := i_eq (n := 0) (by decide) c_2
    refine lv_aload_n hx hb dX4_number_9 rfl (lv_at hl 1 rfl) ?_
    refine lv_aload_n hx hb dX4_number_10 rfl (lv_at hl 0 rfl) ?_
    refine t_gi hx hb hts hown hK hB mh0 th0 fi_4_1 rfl mw_1_215 dX4_number_11 (fun x_3 ex_3 lx_3 ux_3 => ?_)
    have cx_3 := congrArg Int32.toInt ex_3
    refine t_ci (va_runV (As := [.int x_3]) (rest := []) ⟨hx, hb, hml, hown, hts⟩ (cy_X9_kindAt l D cA L T r hG hLA.1 σ ρ hB.2.1 _ h1 mh1 th1 x_3) (cV hts mv_X9_kindAt mw_3_175 rfl rfl ⟨Nat.le_of_ble_eq_true rfl, Nat.le_of_ble_eq_true rfl⟩) (pV hB.1 hK hN mh1 th1 (show shp cA 9 _ _ _ = .inr (9, Fs9 _ _ _) from rfl) rfl) rfl rfl hl.1 rfl (lv_room (Nat.le_of_ble_eq_true rfl)) dX4_number_14 ⟨Nat.le_of_ble_eq_true rfl, Nat.le_of_ble_eq_true rfl⟩) hLA hA hB hS (by decide) (fun x_6 σ_4 ρ_5 H locs hB fσ_4 pσ_4 hS => ?_)
    have qσ_4 := FR.nil fσ_4
    subst qσ_4
    obtain ⟨lx_6, ux_6⟩ := pσ_4
    refine lv_sipush (v := 130) hx hb dX4_number_17 (by decide) ?_
    refine lv_icmp_eq (tgt := 35) hx hb dX4_number_20 (by decide) (fun c_7 => ?_) (fun c_7 => ?_)
    · skip
      have uc_7 := i_eq (n := 130) (by decide) c_7
      refine lv_aload_n hx hb dX4_number_35 rfl (lv_at hl 1 rfl) ?_
      refine lv_aload_n hx hb dX4_number_36 rfl (lv_at hl 0 rfl) ?_
      refine t_gv hx hb hts hown hK hB mh0 th0 fi_4_1 ex_3.symm mw_1_215 dX4_number_37 ?_
      refine t_ci (va_runV (As := [.int x_3]) (rest := []) ⟨hx, hb, hml, hown, hts⟩ (cy_X9_valueAt l D cA L T r hG hLA.1 σ ρ_5 hB.2.1 _ h1 mh1 th1 x_3) (cV hts mv_X9_valueAt mw_3_179 rfl rfl ⟨Nat.le_of_ble_eq_true rfl, Nat.le_of_ble_eq_true rfl⟩) (pV hB.1 hK hN mh1 th1 (show shp cA 9 _ _ _ = .inr (9, Fs9 _ _ _) from rfl) rfl) rfl rfl hl.1 rfl (lv_room (Nat.le_of_ble_eq_true rfl)) dX4_number_40 ⟨Nat.le_of_ble_eq_true rfl, Nat.le_of_ble_eq_true rfl⟩) hLA hA hB hS (by decide) (fun x_10 σ_8 ρ_9 H locs hB fσ_8 pσ_8 hS => ?_)
      have qσ_8 := FR.nil fσ_8
      subst qσ_8
      obtain ⟨lx_10, ux_10⟩ := pσ_8
      refine lv_istore (lv' := [(4, .int x_10), (0, .ref h0), (1, .ref h1), (2, .int p2), (3, .int p3)]) hx hb dX4_number_43 hl (by decide) rfl (fun ls hl => ?_)
      refine lv_iload hx hb dX4_number_45 (lv_at hl 0 rfl) ?_
      refine lv_iload_n hx hb dX4_number_47 rfl (lv_at hl 3 rfl) ?_
      refine lv_icmp_lt (tgt := 57) hx hb dX4_number_48 (by decide) (fun c_11 => ?_) (fun c_11 => ?_)
      · skip
        have uc_11 := j_lt c_11
        refine lv_aload_n hx hb dX4_number_57 rfl (lv_at hl 2 rfl) ?_
        refine lv_aload_n hx hb dX4_number_58 rfl (lv_at hl 1 rfl) ?_
        refine t_gv hx hb hts hown hK hB mh0 th0 fi_4_1 ex_3.symm mw_1_215 dX4_number_59 ?_
        refine lv_iconst (v := 1) hx hb dX4_number_62 (by decide) ?_
        refine t_ci (va_runV (As := [.int x_3, .int 1]) (rest := []) ⟨hx, hb, hml, hown, hts⟩ (cy_X9_wrong l D cA L T r hG hLA.1 σ ρ_9 hB.2.1 _ h1 mh1 th1 x_3 1 (by first | omega | decide) (by first | omega | decide)) (cV hts mv_X9_wrong mw_3_183 rfl rfl ⟨Nat.le_of_ble_eq_true rfl, Nat.le_of_ble_eq_true rfl⟩) (pV hB.1 hK hN mh1 th1 (show shp cA 9 _ _ _ = .inr (9, Fs9 _ _ _) from rfl) rfl) rfl rfl hl.1 rfl (lv_room (Nat.le_of_ble_eq_true rfl)) dX4_number_63 ⟨Nat.le_of_ble_eq_true rfl, Nat.le_of_ble_eq_true rfl⟩) hLA hA hB hS (by decide) (fun x_14 σ_12 ρ_13 H locs hB fσ_12 pσ_12 hS => ?_)
        obtain ⟨g_15, g_16⟩ := pσ_12
        subst g_15
        refine lv_pop hx hb dX4_number_66 rfl ?_
        refine lv_iconst (v := (-1)) hx hb dX4_number_67 (by decide) ?_
        exact W.iret (v := (-1)) hx hb hr (fun t ht hW => ⟨⟨(-1), (σ_12, ρ_13), rfl, ⟨hB.2.1, hB.2.2, (show (σ_12 h1 6).toInt = 0 → (σ h1 6).toInt = 0 ∧ p2.toInt ≤ ((-1) : Int32).toInt ∧ ((-1) : Int32).toInt ≤ p3.toInt from (fun h => by omega))⟩, (show TP D cA L T r σ_12 ρ_13 t.heap from by rw [ht]; exact hB.1)⟩, hS.F ht⟩) hS.2.2 dX4_number_68
      · skip
        have uc_11 := j_nlt c_11
        refine lv_iload hx hb dX4_number_51 (lv_at hl 0 rfl) ?_
        refine lv_iload_n hx hb dX4_number_53 rfl (lv_at hl 4 rfl) ?_
        refine lv_icmp_le (tgt := 69) hx hb dX4_number_54 (by decide) (fun c_17 => ?_) (fun c_17 => ?_)
        · skip
          have uc_17 := j_le c_17
          refine lv_aload_n hx hb dX4_number_69 rfl (lv_at hl 1 rfl) ?_
          refine lv_dup hx hb dX4_number_70 rfl ?_
          refine t_gv hx hb hts hown hK hB mh0 th0 fi_4_1 ex_3.symm mw_1_215 dX4_number_71 ?_
          refine lv_iconst (v := 1) hx hb dX4_number_74 (by decide) ?_
          refine lv_iadd hx hb dX4_number_75 ?_
          refine lv_topi (fun x_18 ex_18 => ?_)
          try have vx_18 := b_add (rfl : x_3.toInt = _) (by decide : (1 : Int32).toInt = 1) ex_18 (by omega) (by omega)
          refine t_pi hx hb hts hown hK hLA hB hS mh0 th0 fi_4_1 rfl rfl rfl (i_lo _) (i_hi _) (Or.inl (by decide)) mw_1_215 dX4_number_76 (fun H locs σ_19 eσ_19 hB hS => ?_)
          have k_20 : σ_19 h0 1 = x_18 := by rw [eσ_19]; exact up2_same _ _ _ _
          refine lv_iload hx hb dX4_number_79 (lv_at hl 0 rfl) ?_
          have k_21 : σ_19 h1 6 = x_1 := by rw [eσ_19, up2_nej _ _ (by decide)]; exact ex_1.symm
          exact W.iret (v := x_10) hx hb hr (fun t ht hW => ⟨⟨x_10, (σ_19, ρ_9), rfl, ⟨hB.2.1, hB.2.2, (show (σ_19 h1 6).toInt = 0 → (σ h1 6).toInt = 0 ∧ p2.toInt ≤ (x_10 : Int32).toInt ∧ (x_10 : Int32).toInt ≤ p3.toInt from (fun h => by rw [k_21] at h; omega))⟩, (show TP D cA L T r σ_19 ρ_9 t.heap from by rw [ht]; exact hB.1)⟩, hS.F ht⟩) hS.2.2 dX4_number_81
        · skip
          have uc_17 := j_nle c_17
          refine lv_aload_n hx hb dX4_number_57 rfl (lv_at hl 2 rfl) ?_
          refine lv_aload_n hx hb dX4_number_58 rfl (lv_at hl 1 rfl) ?_
          refine t_gv hx hb hts hown hK hB mh0 th0 fi_4_1 ex_3.symm mw_1_215 dX4_number_59 ?_
          refine lv_iconst (v := 1) hx hb dX4_number_62 (by decide) ?_
          refine t_ci (va_runV (As := [.int x_3, .int 1]) (rest := []) ⟨hx, hb, hml, hown, hts⟩ (cy_X9_wrong l D cA L T r hG hLA.1 σ ρ_9 hB.2.1 _ h1 mh1 th1 x_3 1 (by first | omega | decide) (by first | omega | decide)) (cV hts mv_X9_wrong mw_3_183 rfl rfl ⟨Nat.le_of_ble_eq_true rfl, Nat.le_of_ble_eq_true rfl⟩) (pV hB.1 hK hN mh1 th1 (show shp cA 9 _ _ _ = .inr (9, Fs9 _ _ _) from rfl) rfl) rfl rfl hl.1 rfl (lv_room (Nat.le_of_ble_eq_true rfl)) dX4_number_63 ⟨Nat.le_of_ble_eq_true rfl, Nat.le_of_ble_eq_true rfl⟩) hLA hA hB hS (by decide) (fun x_24 σ_22 ρ_23 H locs hB fσ_22 pσ_22 hS => ?_)
          obtain ⟨g_25, g_26⟩ := pσ_22
          subst g_25
          refine lv_pop hx hb dX4_number_66 rfl ?_
          refine lv_iconst (v := (-1)) hx hb dX4_number_67 (by decide) ?_
          exact W.iret (v := (-1)) hx hb hr (fun t ht hW => ⟨⟨(-1), (σ_22, ρ_23), rfl, ⟨hB.2.1, hB.2.2, (show (σ_22 h1 6).toInt = 0 → (σ h1 6).toInt = 0 ∧ p2.toInt ≤ ((-1) : Int32).toInt ∧ ((-1) : Int32).toInt ≤ p3.toInt from (fun h => by omega))⟩, (show TP D cA L T r σ_22 ρ_23 t.heap from by rw [ht]; exact hB.1)⟩, hS.F ht⟩) hS.2.2 dX4_number_68
    · skip
      have uc_7 := i_ne (n := 130) (by decide) c_7
      refine lv_aload_n hx hb dX4_number_23 rfl (lv_at hl 1 rfl) ?_
      refine lv_aload_n hx hb dX4_number_24 rfl (lv_at hl 0 rfl) ?_
      refine t_gv hx hb hts hown hK hB mh0 th0 fi_4_1 ex_3.symm mw_1_215 dX4_number_25 ?_
      refine lv_iconst (v := 0) hx hb dX4_number_28 (by decide) ?_
      refine t_ci (va_runV (As := [.int x_3, .int 0]) (rest := []) ⟨hx, hb, hml, hown, hts⟩ (cy_X9_wrong l D cA L T r hG hLA.1 σ ρ_5 hB.2.1 _ h1 mh1 th1 x_3 0 (by first | omega | decide) (by first | omega | decide)) (cV hts mv_X9_wrong mw_3_183 rfl rfl ⟨Nat.le_of_ble_eq_true rfl, Nat.le_of_ble_eq_true rfl⟩) (pV hB.1 hK hN mh1 th1 (show shp cA 9 _ _ _ = .inr (9, Fs9 _ _ _) from rfl) rfl) rfl rfl hl.1 rfl (lv_room (Nat.le_of_ble_eq_true rfl)) dX4_number_29 ⟨Nat.le_of_ble_eq_true rfl, Nat.le_of_ble_eq_true rfl⟩) hLA hA hB hS (by decide) (fun x_29 σ_27 ρ_28 H locs hB fσ_27 pσ_27 hS => ?_)
      obtain ⟨g_30, g_31⟩ := pσ_27
      subst g_30
      refine lv_pop hx hb dX4_number_32 rfl ?_
      refine lv_iconst (v := (-1)) hx hb dX4_number_33 (by decide) ?_
      exact W.iret (v := (-1)) hx hb hr (fun t ht hW => ⟨⟨(-1), (σ_27, ρ_28), rfl, ⟨hB.2.1, hB.2.2, (show (σ_27 h1 6).toInt = 0 → (σ h1 6).toInt = 0 ∧ p2.toInt ≤ ((-1) : Int32).toInt ∧ ((-1) : Int32).toInt ≤ p3.toInt from (fun h => by omega))⟩, (show TP D cA L T r σ_27 ρ_28 t.heap from by rw [ht]; exact hB.1)⟩, hS.F ht⟩) hS.2.2 dX4_number_34
  · skip
    have uc_2 := i_ne (n := 0) (by decide) c_2
    refine lv_iconst (v := (-1)) hx hb dX4_number_7 (by decide) ?_
    exact W.iret (v := (-1)) hx hb hr (fun t ht hW => ⟨⟨(-1), (σ, ρ), rfl, ⟨hB.2.1, hB.2.2, (show (σ h1 6).toInt = 0 → (σ h1 6).toInt = 0 ∧ p2.toInt ≤ ((-1) : Int32).toInt ∧ ((-1) : Int32).toInt ≤ p3.toInt from (fun h => by rw [ex_1.symm] at h; omega))⟩, (show TP D cA L T r σ ρ t.heap from by rw [ht]; exact hB.1)⟩, hS.F ht⟩) hS.2.2 dX4_number_8
theorem mw_1_213 : (.fieldLink RX4 12 "HillBends$HillReader" "told" "LHillBends$Hill;" : Cond) ∈ wsA := wsA_t (List.mem_append_left _ (List.mem_of_getElem? (l := tables_1_1) (i := 213) rfl)) rfl
theorem mw_3_197 : (.instanceMethod yX4_number : Cond) ∈ wsA := wsA_t (List.mem_append_right _ (List.mem_append_right _ (List.mem_append_left _ (List.mem_of_getElem? (l := tables_1_3) (i := 197) rfl)))) rfl
theorem mp_1_8 : (.selects RX4 yX4_number yX4_number : Cond) ∈ wsA := wsA_p (q := (yX4_number, 2)) (List.mem_append_left _ (List.mem_of_getElem? (l := lw_privs_1) (i := 8) rfl))
theorem mw_1_3 : (.initialized RX4 : Cond) ∈ wsA := wsA_t (List.mem_append_left _ (List.mem_of_getElem? (l := tables_1_1) (i := 3) rfl)) rfl
theorem mw_3_198 : (.code yX4_number cX4_number 5 (some .int) : Cond) ∈ wsA := wsA_t (List.mem_append_right _ (List.mem_append_right _ (List.mem_append_left _ (List.mem_of_getElem? (l := tables_1_3) (i := 198) rfl)))) rfl
theorem mw_3_195 : (.methodLink RX4 83 yX4_number : Cond) ∈ wsA := wsA_t (List.mem_append_right _ (List.mem_append_right _ (List.mem_append_left _ (List.mem_of_getElem? (l := tables_1_3) (i := 195) rfl)))) rfl
theorem mw_1_167 : (.fieldLink RX4 87 "HillBends$Hill" "burden" "I" : Cond) ∈ wsA := wsA_t (List.mem_append_left _ (List.mem_of_getElem? (l := tables_1_1) (i := 167) rfl)) rfl
theorem dX4_burdenClause_0 : decode cX4_burdenClause 0 = .ok (.aload_n 0, 1) := by decide +kernel
theorem dX4_burdenClause_1 : decode cX4_burdenClause 1 = .ok (.getfield 12, 3) := by decide +kernel
theorem dX4_burdenClause_4 : decode cX4_burdenClause 4 = .ok (.aload_n 0, 1) := by decide +kernel
theorem dX4_burdenClause_5 : decode cX4_burdenClause 5 = .ok (.aload_n 1, 1) := by decide +kernel
theorem dX4_burdenClause_6 : decode cX4_burdenClause 6 = .ok (.iconst 1, 1) := by decide +kernel
theorem dX4_burdenClause_7 : decode cX4_burdenClause 7 = .ok (.bipush 40, 2) := by decide +kernel
theorem dX4_burdenClause_9 : decode cX4_burdenClause 9 = .ok (.invokevirtual 83, 3) := by decide +kernel
theorem dX4_burdenClause_12 : decode cX4_burdenClause 12 = .ok (.putfield 87, 3) := by decide +kernel
theorem dX4_burdenClause_15 : decode cX4_burdenClause 15 = .ok (.aload_n 1, 1) := by decide +kernel
theorem dX4_burdenClause_16 : decode cX4_burdenClause 16 = .ok (.getfield 45, 3) := by decide +kernel
theorem dX4_burdenClause_19 : decode cX4_burdenClause 19 = .ok (.ifCond .ne 7, 3) := by decide +kernel
theorem dX4_burdenClause_26 : decode cX4_burdenClause 26 = .ok (.iconst 0, 1) := by decide +kernel
theorem dX4_burdenClause_27 : decode cX4_burdenClause 27 = .ok (.ireturn, 1) := by decide +kernel
theorem dX4_burdenClause_22 : decode cX4_burdenClause 22 = .ok (.iconst 1, 1) := by decide +kernel
theorem dX4_burdenClause_23 : decode cX4_burdenClause 23 = .ok (.goto 4, 3) := by decide +kernel
theorem mv_X4_number : MV RX4 yX4_number cX4_number 5 (some .int) 3 := ⟨mw_3_197, mp_1_8, mw_1_3, mw_3_198, ⟨rfl, by decide, by decide, by decide +kernel⟩⟩
set_option maxHeartbeats 4000000 in
set_option maxRecDepth 100000 in
theorem cy_X4_burdenClause (l : Launch) (D : va_G) (cA : Nat → ClassId) (L : List Nat) (T : Nat → Nat) (r : Rg) (hG : GR L T r) (hL : L.Nodup) (σ : Sg) (ρ : Lg) (hW : WT L ry T σ) (sz : Nat) (h0 : Nat) (mh0 : h0 ∈ L) (th0 : T h0 = 4) (h1 : Nat) (mh1 : h1 ∈ L) (th1 : T h1 = 9) : Met l yX4_burdenClause (.code yX4_burdenClause cX4_burdenClause 2 (some .boolean) :: wsA) ({ frames := 2, cells := 0, slots := 0, locals := 47 }) (PR D cA L T r σ ρ sz [.ref h0, .ref h1]) (QI D cA L T r ry [(4, 1), (9, 6), (17, 7)] σ sz (fun x σ1 => (0 ≤ x.toInt ∧ x.toInt ≤ 1))) 0 0 (dm L sz) := by
  refine Met.ofW (cc := cX4_burdenClause) (maxL := 2) (ret := (some .boolean)) (by decide) rfl ?_
  intro p e s m args below meth c s₁ B hml hv
  obtain ⟨rfl, hsz, hP, hK, hN⟩ := hv
  have hx := B.exec
  have hb := B.bytes
  have hr := B.returns
  have hts : ∀ w ∈ wsA, w.before _ s = true := fun w h => atoms_spec (ws := .code yX4_burdenClause cX4_burdenClause 2 (some .boolean) :: wsA) B.pre w (List.mem_cons_of_mem _ h)
  have hown : s.vm.findClass RX4 = some m.cls := findClass_of_methodNamed B.named
  subst hsz
  have hLA : LA (dm L s.heap.size) L := ⟨hL, fun a h => Or.inl h⟩
  have hA : ∀ q : Nat, s.heap.size ≤ q → dm L s.heap.size q := fun q h => Or.inr h
  have hS : va_S (dm L s.heap.size) s.heap s.heap [] := va_S.rf
  have hB : TS D cA L T r ry [(4, 1), (9, 6), (17, 7)] σ σ ρ s.heap := ⟨hP, hW, FR.rf⟩
  have hl := lv_entry ([.ref h0, .ref h1]) (n := 2) (Nat.le_of_ble_eq_true rfl)
  rw [lg_entry_eq]
  generalize (lg_sl ([.ref h0, .ref h1]) ++ List.replicate (2 - (lg_sl ([.ref h0, .ref h1])).length) Slot.unset).toArray = ls at hl ⊢
  have hl : lv_has ls 2 [(0, .ref h0), (1, .ref h1)] := hl
  refine lv_aload_n hx hb dX4_burdenClause_0 rfl (lv_at hl 0 rfl) ?_
  refine t_gr hx hb hts hown hK hG hB mh0 th0 fq_4_0 rfl mw_1_213 dX4_burdenClause_1 (fun b_1 hb_1 mb_1 tb_1 => ?_)
  refine lv_aload_n hx hb dX4_burdenClause_4 rfl (lv_at hl 0 rfl) ?_
  refine lv_aload_n hx hb dX4_burdenClause_5 rfl (lv_at hl 1 rfl) ?_
  refine lv_iconst (v := 1) hx hb dX4_burdenClause_6 (by decide) ?_
  refine lv_bipush (v := 40) hx hb dX4_burdenClause_7 (by decide) ?_
  refine t_ci (va_runV (As := [.ref h1, .int 1, .int 40]) (rest := [.ref b_1]) ⟨hx, hb, hml, hown, hts⟩ (cy_X4_number l D cA L T r hG hLA.1 σ ρ hB.2.1 _ h0 mh0 th0 h1 mh1 th1 1 40) (cV hts mv_X4_number mw_3_195 rfl rfl ⟨Nat.le_of_ble_eq_true rfl, Nat.le_of_ble_eq_true rfl⟩) (pV hB.1 hK hN mh0 th0 (show shp cA 4 _ _ _ = .inr (4, Fs4 _ _ _) from rfl) rfl) rfl rfl hl.1 rfl (lv_room (Nat.le_of_ble_eq_true rfl)) dX4_burdenClause_9 ⟨Nat.le_of_ble_eq_true rfl, Nat.le_of_ble_eq_true rfl⟩) hLA hA hB hS (by decide) (fun x_4 σ_2 ρ_3 H locs hB fσ_2 pσ_2 hS => ?_)
  have nx_4p2 : (1 : Int32).toInt = 1 := by decide
  have nx_4p3 : (40 : Int32).toInt = 40 := by decide
  refine t_pi hx hb hts hown hK hLA hB hS mb_1 tb_1 fi_17_7 rfl rfl rfl (i_lo _) (i_hi _) (Or.inl (by decide)) mw_1_167 dX4_burdenClause_12 (fun H locs σ_5 eσ_5 hB hS => ?_)
  have k_6 : σ_5 b_1 7 = x_4 := by rw [eσ_5]; exact up2_same _ _ _ _
  refine lv_aload_n hx hb dX4_burdenClause_15 rfl (lv_at hl 1 rfl) ?_
  refine t_gi hx hb hts hown hK hB mh1 th1 fi_9_6 rfl mw_1_44 dX4_burdenClause_16 (fun x_7 ex_7 lx_7 ux_7 => ?_)
  refine lv_if_ne (tgt := 26) hx hb dX4_burdenClause_19 (by decide) (fun c_8 => ?_) (fun c_8 => ?_)
  · skip
    have uc_8 := i_ne (n := 0) (by decide) c_8
    refine lv_iconst (v := 0) hx hb dX4_burdenClause_26 (by decide) ?_
    exact W.zret (v := 0) hx hb hr rfl (fun t ht hW => ⟨⟨0, (σ_5, ρ_3), rfl, ⟨hB.2.1, hB.2.2, (show 0 ≤ (0 : Int32).toInt ∧ (0 : Int32).toInt ≤ 1 from ⟨by decide, by decide⟩)⟩, (show TP D cA L T r σ_5 ρ_3 t.heap from by rw [ht]; exact hB.1)⟩, hS.F ht⟩) hS.2.2 dX4_burdenClause_27
  · skip
    have uc_8 := i_eq (n := 0) (by decide) c_8
    refine lv_iconst (v := 1) hx hb dX4_burdenClause_22 (by decide) ?_
    refine lv_goto (tgt := 27) hx hb dX4_burdenClause_23 (by decide) ?_
    exact W.zret (v := 1) hx hb hr rfl (fun t ht hW => ⟨⟨1, (σ_5, ρ_3), rfl, ⟨hB.2.1, hB.2.2, (show 0 ≤ (1 : Int32).toInt ∧ (1 : Int32).toInt ≤ 1 from ⟨by decide, by decide⟩)⟩, (show TP D cA L T r σ_5 ρ_3 t.heap from by rw [ht]; exact hB.1)⟩, hS.F ht⟩) hS.2.2 dX4_burdenClause_27
theorem mw_1_133 : (.fieldLink RX4 90 "HillBends$Hill" "weight" "[I" : Cond) ∈ wsA := wsA_t (List.mem_append_left _ (List.mem_of_getElem? (l := tables_1_1) (i := 133) rfl)) rfl
theorem mw_1_175 : (.fieldLink RX4 74 "HillBends$Hill" "sorts" "I" : Cond) ∈ wsA := wsA_t (List.mem_append_left _ (List.mem_of_getElem? (l := tables_1_1) (i := 175) rfl)) rfl
theorem mw_1_139 : (.fieldLink RX4 94 "HillBends$Hill" "worth" "[I" : Cond) ∈ wsA := wsA_t (List.mem_append_left _ (List.mem_of_getElem? (l := tables_1_1) (i := 139) rfl)) rfl
theorem mw_1_142 : (.fieldLink RX4 97 "HillBends$Hill" "price" "[I" : Cond) ∈ wsA := wsA_t (List.mem_append_left _ (List.mem_of_getElem? (l := tables_1_1) (i := 142) rfl)) rfl
theorem dX4_sortClause_0 : decode cX4_sortClause 0 = .ok (.aload_n 0, 1) := by decide +kernel
theorem dX4_sortClause_1 : decode cX4_sortClause 1 = .ok (.aload_n 1, 1) := by decide +kernel
theorem dX4_sortClause_2 : decode cX4_sortClause 2 = .ok (.iconst 1, 1) := by decide +kernel
theorem dX4_sortClause_3 : decode cX4_sortClause 3 = .ok (.bipush 9, 2) := by decide +kernel
theorem dX4_sortClause_5 : decode cX4_sortClause 5 = .ok (.invokevirtual 83, 3) := by decide +kernel
theorem dX4_sortClause_8 : decode cX4_sortClause 8 = .ok (.istore_n 2, 1) := by decide +kernel
theorem dX4_sortClause_9 : decode cX4_sortClause 9 = .ok (.aload_n 0, 1) := by decide +kernel
theorem dX4_sortClause_10 : decode cX4_sortClause 10 = .ok (.aload_n 1, 1) := by decide +kernel
theorem dX4_sortClause_11 : decode cX4_sortClause 11 = .ok (.iconst 0, 1) := by decide +kernel
theorem dX4_sortClause_12 : decode cX4_sortClause 12 = .ok (.bipush 30, 2) := by decide +kernel
theorem dX4_sortClause_14 : decode cX4_sortClause 14 = .ok (.invokevirtual 83, 3) := by decide +kernel
theorem dX4_sortClause_17 : decode cX4_sortClause 17 = .ok (.istore_n 3, 1) := by decide +kernel
theorem dX4_sortClause_18 : decode cX4_sortClause 18 = .ok (.aload_n 0, 1) := by decide +kernel
theorem dX4_sortClause_19 : decode cX4_sortClause 19 = .ok (.aload_n 1, 1) := by decide +kernel
theorem dX4_sortClause_20 : decode cX4_sortClause 20 = .ok (.iconst 1, 1) := by decide +kernel
theorem dX4_sortClause_21 : decode cX4_sortClause 21 = .ok (.bipush 30, 2) := by decide +kernel
theorem dX4_sortClause_23 : decode cX4_sortClause 23 = .ok (.invokevirtual 83, 3) := by decide +kernel
theorem dX4_sortClause_26 : decode cX4_sortClause 26 = .ok (.istore 4, 2) := by decide +kernel
theorem dX4_sortClause_28 : decode cX4_sortClause 28 = .ok (.aload_n 1, 1) := by decide +kernel
theorem dX4_sortClause_29 : decode cX4_sortClause 29 = .ok (.getfield 45, 3) := by decide +kernel
theorem dX4_sortClause_32 : decode cX4_sortClause 32 = .ok (.ifCond .eq 5, 3) := by decide +kernel
theorem dX4_sortClause_37 : decode cX4_sortClause 37 = .ok (.aload_n 0, 1) := by decide +kernel
theorem dX4_sortClause_38 : decode cX4_sortClause 38 = .ok (.getfield 12, 3) := by decide +kernel
theorem dX4_sortClause_41 : decode cX4_sortClause 41 = .ok (.getfield 90, 3) := by decide +kernel
theorem dX4_sortClause_44 : decode cX4_sortClause 44 = .ok (.aload_n 0, 1) := by decide +kernel
theorem dX4_sortClause_45 : decode cX4_sortClause 45 = .ok (.getfield 12, 3) := by decide +kernel
theorem dX4_sortClause_48 : decode cX4_sortClause 48 = .ok (.getfield 74, 3) := by decide +kernel
theorem dX4_sortClause_51 : decode cX4_sortClause 51 = .ok (.iload_n 2, 1) := by decide +kernel
theorem dX4_sortClause_52 : decode cX4_sortClause 52 = .ok (.iastore, 1) := by decide +kernel
theorem dX4_sortClause_53 : decode cX4_sortClause 53 = .ok (.aload_n 0, 1) := by decide +kernel
theorem dX4_sortClause_54 : decode cX4_sortClause 54 = .ok (.getfield 12, 3) := by decide +kernel
theorem dX4_sortClause_57 : decode cX4_sortClause 57 = .ok (.getfield 94, 3) := by decide +kernel
theorem dX4_sortClause_60 : decode cX4_sortClause 60 = .ok (.aload_n 0, 1) := by decide +kernel
theorem dX4_sortClause_61 : decode cX4_sortClause 61 = .ok (.getfield 12, 3) := by decide +kernel
theorem dX4_sortClause_64 : decode cX4_sortClause 64 = .ok (.getfield 74, 3) := by decide +kernel
theorem dX4_sortClause_67 : decode cX4_sortClause 67 = .ok (.iload_n 3, 1) := by decide +kernel
theorem dX4_sortClause_68 : decode cX4_sortClause 68 = .ok (.iastore, 1) := by decide +kernel
theorem dX4_sortClause_69 : decode cX4_sortClause 69 = .ok (.aload_n 0, 1) := by decide +kernel
theorem dX4_sortClause_70 : decode cX4_sortClause 70 = .ok (.getfield 12, 3) := by decide +kernel
theorem dX4_sortClause_73 : decode cX4_sortClause 73 = .ok (.getfield 97, 3) := by decide +kernel
theorem dX4_sortClause_76 : decode cX4_sortClause 76 = .ok (.aload_n 0, 1) := by decide +kernel
theorem dX4_sortClause_77 : decode cX4_sortClause 77 = .ok (.getfield 12, 3) := by decide +kernel
theorem dX4_sortClause_80 : decode cX4_sortClause 80 = .ok (.getfield 74, 3) := by decide +kernel
theorem dX4_sortClause_83 : decode cX4_sortClause 83 = .ok (.iload 4, 2) := by decide +kernel
theorem dX4_sortClause_85 : decode cX4_sortClause 85 = .ok (.iastore, 1) := by decide +kernel
theorem dX4_sortClause_86 : decode cX4_sortClause 86 = .ok (.aload_n 0, 1) := by decide +kernel
theorem dX4_sortClause_87 : decode cX4_sortClause 87 = .ok (.getfield 12, 3) := by decide +kernel
theorem dX4_sortClause_90 : decode cX4_sortClause 90 = .ok (.dup, 1) := by decide +kernel
theorem dX4_sortClause_91 : decode cX4_sortClause 91 = .ok (.getfield 74, 3) := by decide +kernel
theorem dX4_sortClause_94 : decode cX4_sortClause 94 = .ok (.iconst 1, 1) := by decide +kernel
theorem dX4_sortClause_95 : decode cX4_sortClause 95 = .ok (.iadd, 1) := by decide +kernel
theorem dX4_sortClause_96 : decode cX4_sortClause 96 = .ok (.putfield 74, 3) := by decide +kernel
theorem dX4_sortClause_99 : decode cX4_sortClause 99 = .ok (.iconst 1, 1) := by decide +kernel
theorem dX4_sortClause_100 : decode cX4_sortClause 100 = .ok (.ireturn, 1) := by decide +kernel
theorem dX4_sortClause_35 : decode cX4_sortClause 35 = .ok (.iconst 0, 1) := by decide +kernel
theorem dX4_sortClause_36 : decode cX4_sortClause 36 = .ok (.ireturn, 1) := by decide +kernel
set_option maxHeartbeats 4000000 in
set_option maxRecDepth 100000 in
theorem cy_X4_sortClause (l : Launch) (D : va_G) (cA : Nat → ClassId) (L : List Nat) (T : Nat → Nat) (r : Rg) (hG : GR L T r) (hL : L.Nodup) (σ : Sg) (ρ : Lg) (hW : WT L ry T σ) (sz : Nat) (h0 : Nat) (mh0 : h0 ∈ L) (th0 : T h0 = 4) (h1 : Nat) (mh1 : h1 ∈ L) (th1 : T h1 = 9) (bh : Nat) (hbh : r h0 0 = some bh) (mbh : bh ∈ L) (tbh : T bh = 17) (w0 : (σ bh 8).toInt ≤ 4) : Met l yX4_sortClause (.code yX4_sortClause cX4_sortClause 5 (some .boolean) :: wsA) ({ frames := 2, cells := 0, slots := 0, locals := 47 }) (PR D cA L T r σ ρ sz [.ref h0, .ref h1]) (QI D cA L T r ry [(4, 1), (9, 6), (17, 8), (90, 1000), (91, 1000), (92, 1000)] σ sz (fun x σ1 => (0 ≤ x.toInt ∧ x.toInt ≤ 1))) 0 0 (dm L sz) := by
  refine Met.ofW (cc := cX4_sortClause) (maxL := 5) (ret := (some .boolean)) (by decide) rfl ?_
  intro p e s m args below meth c s₁ B hml hv
  obtain ⟨rfl, hsz, hP, hK, hN⟩ := hv
  have hx := B.exec
  have hb := B.bytes
  have hr := B.returns
  have hts : ∀ w ∈ wsA, w.before _ s = true := fun w h => atoms_spec (ws := .code yX4_sortClause cX4_sortClause 5 (some .boolean) :: wsA) B.pre w (List.mem_cons_of_mem _ h)
  have hown : s.vm.findClass RX4 = some m.cls := findClass_of_methodNamed B.named
  subst hsz
  have hLA : LA (dm L s.heap.size) L := ⟨hL, fun a h => Or.inl h⟩
  have hA : ∀ q : Nat, s.heap.size ≤ q → dm L s.heap.size q := fun q h => Or.inr h
  have hS : va_S (dm L s.heap.size) s.heap s.heap [] := va_S.rf
  have hB : TS D cA L T r ry [(4, 1), (9, 6), (17, 8), (90, 1000), (91, 1000), (92, 1000)] σ σ ρ s.heap := ⟨hP, hW, FR.rf⟩
  have hl := lv_entry ([.ref h0, .ref h1]) (n := 5) (Nat.le_of_ble_eq_true rfl)
  rw [lg_entry_eq]
  generalize (lg_sl ([.ref h0, .ref h1]) ++ List.replicate (5 - (lg_sl ([.ref h0, .ref h1])).length) Slot.unset).toArray = ls at hl ⊢
  have hl : lv_has ls 5 [(0, .ref h0), (1, .ref h1)] := hl
  have w_1 : 0 ≤ (σ bh 8).toInt ∧ (σ bh 8).toInt ≤ 5 := by have z := hB.2.1 bh mbh 8; rw [tbh] at z; exact z
  refine lv_aload_n hx hb dX4_sortClause_0 rfl (lv_at hl 0 rfl) ?_
  refine lv_aload_n hx hb dX4_sortClause_1 rfl (lv_at hl 1 rfl) ?_
  refine lv_iconst (v := 1) hx hb dX4_sortClause_2 (by decide) ?_
  refine lv_bipush (v := 9) hx hb dX4_sortClause_3 (by decide) ?_
  refine t_ci (va_runV (As := [.ref h1, .int 1, .int 9]) (rest := []) ⟨hx, hb, hml, hown, hts⟩ (cy_X4_number l D cA L T r hG hLA.1 σ ρ hB.2.1 _ h0 mh0 th0 h1 mh1 th1 1 9) (cV hts mv_X4_number mw_3_195 rfl rfl ⟨Nat.le_of_ble_eq_true rfl, Nat.le_of_ble_eq_true rfl⟩) (pV hB.1 hK hN mh0 th0 (show shp cA 4 _ _ _ = .inr (4, Fs4 _ _ _) from rfl) rfl) rfl rfl hl.1 rfl (lv_room (Nat.le_of_ble_eq_true rfl)) dX4_sortClause_5 ⟨Nat.le_of_ble_eq_true rfl, Nat.le_of_ble_eq_true rfl⟩) hLA hA hB hS (by decide) (fun x_4 σ_2 ρ_3 H locs hB fσ_2 pσ_2 hS => ?_)
  have nx_4p2 : (1 : Int32).toInt = 1 := by decide
  have nx_4p3 : (9 : Int32).toInt = 9 := by decide
  refine lv_istore_n (lv' := [(2, .int x_4), (0, .ref h0), (1, .ref h1)]) hx hb dX4_sortClause_8 rfl hl (by decide) rfl (fun ls hl => ?_)
  refine lv_aload_n hx hb dX4_sortClause_9 rfl (lv_at hl 1 rfl) ?_
  refine lv_aload_n hx hb dX4_sortClause_10 rfl (lv_at hl 2 rfl) ?_
  refine lv_iconst (v := 0) hx hb dX4_sortClause_11 (by decide) ?_
  refine lv_bipush (v := 30) hx hb dX4_sortClause_12 (by decide) ?_
  refine t_ci (va_runV (As := [.ref h1, .int 0, .int 30]) (rest := []) ⟨hx, hb, hml, hown, hts⟩ (cy_X4_number l D cA L T r hG hLA.1 σ_2 ρ_3 hB.2.1 _ h0 mh0 th0 h1 mh1 th1 0 30) (cV hts mv_X4_number mw_3_195 rfl rfl ⟨Nat.le_of_ble_eq_true rfl, Nat.le_of_ble_eq_true rfl⟩) (pV hB.1 hK hN mh0 th0 (show shp cA 4 _ _ _ = .inr (4, Fs4 _ _ _) from rfl) rfl) rfl rfl hl.1 rfl (lv_room (Nat.le_of_ble_eq_true rfl)) dX4_sortClause_14 ⟨Nat.le_of_ble_eq_true rfl, Nat.le_of_ble_eq_true rfl⟩) hLA hA hB hS (by decide) (fun x_7 σ_5 ρ_6 H locs hB fσ_5 pσ_5 hS => ?_)
  have nx_7p2 : (0 : Int32).toInt = 0 := by decide
  have nx_7p3 : (30 : Int32).toInt = 30 := by decide
  refine lv_istore_n (lv' := [(3, .int x_7), (2, .int x_4), (0, .ref h0), (1, .ref h1)]) hx hb dX4_sortClause_17 rfl hl (by decide) rfl (fun ls hl => ?_)
  refine lv_aload_n hx hb dX4_sortClause_18 rfl (lv_at hl 2 rfl) ?_
  refine lv_aload_n hx hb dX4_sortClause_19 rfl (lv_at hl 3 rfl) ?_
  refine lv_iconst (v := 1) hx hb dX4_sortClause_20 (by decide) ?_
  refine lv_bipush (v := 30) hx hb dX4_sortClause_21 (by decide) ?_
  refine t_ci (va_runV (As := [.ref h1, .int 1, .int 30]) (rest := []) ⟨hx, hb, hml, hown, hts⟩ (cy_X4_number l D cA L T r hG hLA.1 σ_5 ρ_6 hB.2.1 _ h0 mh0 th0 h1 mh1 th1 1 30) (cV hts mv_X4_number mw_3_195 rfl rfl ⟨Nat.le_of_ble_eq_true rfl, Nat.le_of_ble_eq_true rfl⟩) (pV hB.1 hK hN mh0 th0 (show shp cA 4 _ _ _ = .inr (4, Fs4 _ _ _) from rfl) rfl) rfl rfl hl.1 rfl (lv_room (Nat.le_of_ble_eq_true rfl)) dX4_sortClause_23 ⟨Nat.le_of_ble_eq_true rfl, Nat.le_of_ble_eq_true rfl⟩) hLA hA hB hS (by decide) (fun x_10 σ_8 ρ_9 H locs hB fσ_8 pσ_8 hS => ?_)
  have nx_10p2 : (1 : Int32).toInt = 1 := by decide
  have nx_10p3 : (30 : Int32).toInt = 30 := by decide
  refine lv_istore (lv' := [(4, .int x_10), (3, .int x_7), (2, .int x_4), (0, .ref h0), (1, .ref h1)]) hx hb dX4_sortClause_26 hl (by decide) rfl (fun ls hl => ?_)
  refine lv_aload_n hx hb dX4_sortClause_28 rfl (lv_at hl 4 rfl) ?_
  refine t_gi hx hb hts hown hK hB mh1 th1 fi_9_6 rfl mw_1_44 dX4_sortClause_29 (fun x_11 ex_11 lx_11 ux_11 => ?_)
  have cx_11 := congrArg Int32.toInt ex_11
  refine lv_if_eq (tgt := 37) hx hb dX4_sortClause_32 (by decide) (fun c_12 => ?_) (fun c_12 => ?_)
  · skip
    have uc_12 := i_eq (n := 0) (by decide) c_12
    refine lv_aload_n hx hb dX4_sortClause_37 rfl (lv_at hl 3 rfl) ?_
    refine t_gk hx hb hts hown hK hB mh0 th0 fq_4_0 hbh mw_1_213 dX4_sortClause_38 ?_
    refine t_gr hx hb hts hown hK hG hB mbh tbh fq_17_0 rfl mw_1_133 dX4_sortClause_41 (fun b_13 hb_13 mb_13 tb_13 => ?_)
    refine lv_aload_n hx hb dX4_sortClause_44 rfl (lv_at hl 3 rfl) ?_
    refine t_gk hx hb hts hown hK hB mh0 th0 fq_4_0 hbh mw_1_213 dX4_sortClause_45 ?_
    have k_14 : σ_2 bh 8 = (σ bh 8) := (FR.at fσ_2 tbh (by decide)).trans rfl
    have k_15 : σ_5 bh 8 = (σ bh 8) := (FR.at fσ_5 tbh (by decide)).trans k_14
    have k_16 : σ_8 bh 8 = (σ bh 8) := (FR.at fσ_8 tbh (by decide)).trans k_15
    refine t_gv hx hb hts hown hK hB mbh tbh fi_17_8 k_16 mw_1_175 dX4_sortClause_48 ?_
    refine lv_iload_n hx hb dX4_sortClause_51 rfl (lv_at hl 2 rfl) ?_
    refine t_si hx hb hK hLA hB hS mb_13 tb_13 ai_90 (i_in (by omega) (by omega)) (i_lo _) (i_hi _) (Or.inr (by decide)) dX4_sortClause_52 (fun H locs σ_17 eσ_17 hB hS => ?_)
    have k_18 : σ_17 b_13 (σ bh 8).toNatClampNeg = x_4 := by rw [eσ_17]; exact up2_same _ _ _ _
    refine lv_aload_n hx hb dX4_sortClause_53 rfl (lv_at hl 3 rfl) ?_
    refine t_gk hx hb hts hown hK hB mh0 th0 fq_4_0 hbh mw_1_213 dX4_sortClause_54 ?_
    refine t_gr hx hb hts hown hK hG hB mbh tbh fq_17_1 rfl mw_1_139 dX4_sortClause_57 (fun b_19 hb_19 mb_19 tb_19 => ?_)
    refine lv_aload_n hx hb dX4_sortClause_60 rfl (lv_at hl 3 rfl) ?_
    refine t_gk hx hb hts hown hK hB mh0 th0 fq_4_0 hbh mw_1_213 dX4_sortClause_61 ?_
    have k_20 : σ_17 bh 8 = (σ bh 8) := by rw [eσ_17, up2_nea _ _ (tg_ne tbh tb_13 (by decide))]; exact k_16
    refine t_gv hx hb hts hown hK hB mbh tbh fi_17_8 k_20 mw_1_175 dX4_sortClause_64 ?_
    refine lv_iload_n hx hb dX4_sortClause_67 rfl (lv_at hl 1 rfl) ?_
    refine t_si hx hb hK hLA hB hS mb_19 tb_19 ai_91 (i_in (by omega) (by omega)) (i_lo _) (i_hi _) (Or.inr (by decide)) dX4_sortClause_68 (fun H locs σ_21 eσ_21 hB hS => ?_)
    have k_22 : σ_21 b_19 (σ bh 8).toNatClampNeg = x_7 := by rw [eσ_21]; exact up2_same _ _ _ _
    refine lv_aload_n hx hb dX4_sortClause_69 rfl (lv_at hl 3 rfl) ?_
    refine t_gk hx hb hts hown hK hB mh0 th0 fq_4_0 hbh mw_1_213 dX4_sortClause_70 ?_
    refine t_gr hx hb hts hown hK hG hB mbh tbh fq_17_2 rfl mw_1_142 dX4_sortClause_73 (fun b_23 hb_23 mb_23 tb_23 => ?_)
    refine lv_aload_n hx hb dX4_sortClause_76 rfl (lv_at hl 3 rfl) ?_
    refine t_gk hx hb hts hown hK hB mh0 th0 fq_4_0 hbh mw_1_213 dX4_sortClause_77 ?_
    have k_24 : σ_21 bh 8 = (σ bh 8) := by rw [eσ_21, up2_nea _ _ (tg_ne tbh tb_19 (by decide))]; exact k_20
    refine t_gv hx hb hts hown hK hB mbh tbh fi_17_8 k_24 mw_1_175 dX4_sortClause_80 ?_
    refine lv_iload hx hb dX4_sortClause_83 (lv_at hl 0 rfl) ?_
    refine t_si hx hb hK hLA hB hS mb_23 tb_23 ai_92 (i_in (by omega) (by omega)) (i_lo _) (i_hi _) (Or.inr (by decide)) dX4_sortClause_85 (fun H locs σ_25 eσ_25 hB hS => ?_)
    have k_26 : σ_25 b_23 (σ bh 8).toNatClampNeg = x_10 := by rw [eσ_25]; exact up2_same _ _ _ _
    refine lv_aload_n hx hb dX4_sortClause_86 rfl (lv_at hl 3 rfl) ?_
    refine t_gk hx hb hts hown hK hB mh0 th0 fq_4_0 hbh mw_1_213 dX4_sortClause_87 ?_
    refine lv_dup hx hb dX4_sortClause_90 rfl ?_
    have k_27 : σ_25 bh 8 = (σ bh 8) := by rw [eσ_25, up2_nea _ _ (tg_ne tbh tb_23 (by decide))]; exact k_24
    refine t_gv hx hb hts hown hK hB mbh tbh fi_17_8 k_27 mw_1_175 dX4_sortClause_91 ?_
    refine lv_iconst (v := 1) hx hb dX4_sortClause_94 (by decide) ?_
    refine lv_iadd hx hb dX4_sortClause_95 ?_
    refine lv_topi (fun x_28 ex_28 => ?_)
    have vx_28 := b_add (rfl : (σ bh 8).toInt = _) (by decide : (1 : Int32).toInt = 1) ex_28 (by omega) (by omega)
    refine t_pi hx hb hts hown hK hLA hB hS mbh tbh fi_17_8 rfl rfl rfl (by first | omega | (subst_vars; omega)) (by first | omega | (subst_vars; omega)) (Or.inl (by decide)) mw_1_175 dX4_sortClause_96 (fun H locs σ_29 eσ_29 hB hS => ?_)
    have k_30 : σ_29 bh 8 = x_28 := by rw [eσ_29]; exact up2_same _ _ _ _
    refine lv_iconst (v := 1) hx hb dX4_sortClause_99 (by decide) ?_
    exact W.zret (v := 1) hx hb hr rfl (fun t ht hW => ⟨⟨1, (σ_29, ρ_9), rfl, ⟨hB.2.1, hB.2.2, (show 0 ≤ (1 : Int32).toInt ∧ (1 : Int32).toInt ≤ 1 from ⟨by decide, by decide⟩)⟩, (show TP D cA L T r σ_29 ρ_9 t.heap from by rw [ht]; exact hB.1)⟩, hS.F ht⟩) hS.2.2 dX4_sortClause_100
  · skip
    have uc_12 := i_ne (n := 0) (by decide) c_12
    refine lv_iconst (v := 0) hx hb dX4_sortClause_35 (by decide) ?_
    exact W.zret (v := 0) hx hb hr rfl (fun t ht hW => ⟨⟨0, (σ_8, ρ_9), rfl, ⟨hB.2.1, hB.2.2, (show 0 ≤ (0 : Int32).toInt ∧ (0 : Int32).toInt ≤ 1 from ⟨by decide, by decide⟩)⟩, (show TP D cA L T r σ_8 ρ_9 t.heap from by rw [ht]; exact hB.1)⟩, hS.F ht⟩) hS.2.2 dX4_sortClause_36
theorem mw_1_150 : (.fieldLink RX4 100 "HillBends$Hill" "first" "[I" : Cond) ∈ wsA := wsA_t (List.mem_append_left _ (List.mem_of_getElem? (l := tables_1_1) (i := 150) rfl)) rfl
theorem mw_1_181 : (.fieldLink RX4 77 "HillBends$Hill" "bends" "I" : Cond) ∈ wsA := wsA_t (List.mem_append_left _ (List.mem_of_getElem? (l := tables_1_1) (i := 181) rfl)) rfl
theorem mw_1_157 : (.fieldLink RX4 103 "HillBends$Hill" "second" "[I" : Cond) ∈ wsA := wsA_t (List.mem_append_left _ (List.mem_of_getElem? (l := tables_1_1) (i := 157) rfl)) rfl
theorem dX4_bendClause_0 : decode cX4_bendClause 0 = .ok (.aload_n 0, 1) := by decide +kernel
theorem dX4_bendClause_1 : decode cX4_bendClause 1 = .ok (.aload_n 1, 1) := by decide +kernel
theorem dX4_bendClause_2 : decode cX4_bendClause 2 = .ok (.iconst 0, 1) := by decide +kernel
theorem dX4_bendClause_3 : decode cX4_bendClause 3 = .ok (.aload_n 0, 1) := by decide +kernel
theorem dX4_bendClause_4 : decode cX4_bendClause 4 = .ok (.getfield 12, 3) := by decide +kernel
theorem dX4_bendClause_7 : decode cX4_bendClause 7 = .ok (.getfield 74, 3) := by decide +kernel
theorem dX4_bendClause_10 : decode cX4_bendClause 10 = .ok (.iconst 1, 1) := by decide +kernel
theorem dX4_bendClause_11 : decode cX4_bendClause 11 = .ok (.isub, 1) := by decide +kernel
theorem dX4_bendClause_12 : decode cX4_bendClause 12 = .ok (.invokevirtual 83, 3) := by decide +kernel
theorem dX4_bendClause_15 : decode cX4_bendClause 15 = .ok (.istore_n 2, 1) := by decide +kernel
theorem dX4_bendClause_16 : decode cX4_bendClause 16 = .ok (.aload_n 0, 1) := by decide +kernel
theorem dX4_bendClause_17 : decode cX4_bendClause 17 = .ok (.aload_n 1, 1) := by decide +kernel
theorem dX4_bendClause_18 : decode cX4_bendClause 18 = .ok (.iconst 0, 1) := by decide +kernel
theorem dX4_bendClause_19 : decode cX4_bendClause 19 = .ok (.aload_n 0, 1) := by decide +kernel
theorem dX4_bendClause_20 : decode cX4_bendClause 20 = .ok (.getfield 12, 3) := by decide +kernel
theorem dX4_bendClause_23 : decode cX4_bendClause 23 = .ok (.getfield 74, 3) := by decide +kernel
theorem dX4_bendClause_26 : decode cX4_bendClause 26 = .ok (.iconst 1, 1) := by decide +kernel
theorem dX4_bendClause_27 : decode cX4_bendClause 27 = .ok (.isub, 1) := by decide +kernel
theorem dX4_bendClause_28 : decode cX4_bendClause 28 = .ok (.invokevirtual 83, 3) := by decide +kernel
theorem dX4_bendClause_31 : decode cX4_bendClause 31 = .ok (.istore_n 3, 1) := by decide +kernel
theorem dX4_bendClause_32 : decode cX4_bendClause 32 = .ok (.aload_n 1, 1) := by decide +kernel
theorem dX4_bendClause_33 : decode cX4_bendClause 33 = .ok (.getfield 45, 3) := by decide +kernel
theorem dX4_bendClause_36 : decode cX4_bendClause 36 = .ok (.ifCond .eq 5, 3) := by decide +kernel
theorem dX4_bendClause_41 : decode cX4_bendClause 41 = .ok (.aload_n 0, 1) := by decide +kernel
theorem dX4_bendClause_42 : decode cX4_bendClause 42 = .ok (.getfield 12, 3) := by decide +kernel
theorem dX4_bendClause_45 : decode cX4_bendClause 45 = .ok (.getfield 100, 3) := by decide +kernel
theorem dX4_bendClause_48 : decode cX4_bendClause 48 = .ok (.aload_n 0, 1) := by decide +kernel
theorem dX4_bendClause_49 : decode cX4_bendClause 49 = .ok (.getfield 12, 3) := by decide +kernel
theorem dX4_bendClause_52 : decode cX4_bendClause 52 = .ok (.getfield 77, 3) := by decide +kernel
theorem dX4_bendClause_55 : decode cX4_bendClause 55 = .ok (.iload_n 2, 1) := by decide +kernel
theorem dX4_bendClause_56 : decode cX4_bendClause 56 = .ok (.iastore, 1) := by decide +kernel
theorem dX4_bendClause_57 : decode cX4_bendClause 57 = .ok (.aload_n 0, 1) := by decide +kernel
theorem dX4_bendClause_58 : decode cX4_bendClause 58 = .ok (.getfield 12, 3) := by decide +kernel
theorem dX4_bendClause_61 : decode cX4_bendClause 61 = .ok (.getfield 103, 3) := by decide +kernel
theorem dX4_bendClause_64 : decode cX4_bendClause 64 = .ok (.aload_n 0, 1) := by decide +kernel
theorem dX4_bendClause_65 : decode cX4_bendClause 65 = .ok (.getfield 12, 3) := by decide +kernel
theorem dX4_bendClause_68 : decode cX4_bendClause 68 = .ok (.getfield 77, 3) := by decide +kernel
theorem dX4_bendClause_71 : decode cX4_bendClause 71 = .ok (.iload_n 3, 1) := by decide +kernel
theorem dX4_bendClause_72 : decode cX4_bendClause 72 = .ok (.iastore, 1) := by decide +kernel
theorem dX4_bendClause_73 : decode cX4_bendClause 73 = .ok (.aload_n 0, 1) := by decide +kernel
theorem dX4_bendClause_74 : decode cX4_bendClause 74 = .ok (.getfield 12, 3) := by decide +kernel
theorem dX4_bendClause_77 : decode cX4_bendClause 77 = .ok (.dup, 1) := by decide +kernel
theorem dX4_bendClause_78 : decode cX4_bendClause 78 = .ok (.getfield 77, 3) := by decide +kernel
theorem dX4_bendClause_81 : decode cX4_bendClause 81 = .ok (.iconst 1, 1) := by decide +kernel
theorem dX4_bendClause_82 : decode cX4_bendClause 82 = .ok (.iadd, 1) := by decide +kernel
theorem dX4_bendClause_83 : decode cX4_bendClause 83 = .ok (.putfield 77, 3) := by decide +kernel
theorem dX4_bendClause_86 : decode cX4_bendClause 86 = .ok (.iconst 1, 1) := by decide +kernel
theorem dX4_bendClause_87 : decode cX4_bendClause 87 = .ok (.ireturn, 1) := by decide +kernel
theorem dX4_bendClause_39 : decode cX4_bendClause 39 = .ok (.iconst 0, 1) := by decide +kernel
theorem dX4_bendClause_40 : decode cX4_bendClause 40 = .ok (.ireturn, 1) := by decide +kernel
set_option maxHeartbeats 4000000 in
set_option maxRecDepth 100000 in
theorem cy_X4_bendClause (l : Launch) (D : va_G) (cA : Nat → ClassId) (L : List Nat) (T : Nat → Nat) (r : Rg) (hG : GR L T r) (hL : L.Nodup) (σ : Sg) (ρ : Lg) (hW : WT L ry T σ) (sz : Nat) (h0 : Nat) (mh0 : h0 ∈ L) (th0 : T h0 = 4) (h1 : Nat) (mh1 : h1 ∈ L) (th1 : T h1 = 9) (bh : Nat) (hbh : r h0 0 = some bh) (mbh : bh ∈ L) (tbh : T bh = 17) (w0 : (σ bh 9).toInt ≤ 7) : Met l yX4_bendClause (.code yX4_bendClause cX4_bendClause 4 (some .boolean) :: wsA) ({ frames := 2, cells := 0, slots := 0, locals := 47 }) (PR D cA L T r σ ρ sz [.ref h0, .ref h1]) (QI D cA L T r ry [(4, 1), (9, 6), (17, 9), (93, 1000), (94, 1000)] σ sz (fun x σ1 => (0 ≤ x.toInt ∧ x.toInt ≤ 1))) 0 0 (dm L sz) := by
  refine Met.ofW (cc := cX4_bendClause) (maxL := 4) (ret := (some .boolean)) (by decide) rfl ?_
  intro p e s m args below meth c s₁ B hml hv
  obtain ⟨rfl, hsz, hP, hK, hN⟩ := hv
  have hx := B.exec
  have hb := B.bytes
  have hr := B.returns
  have hts : ∀ w ∈ wsA, w.before _ s = true := fun w h => atoms_spec (ws := .code yX4_bendClause cX4_bendClause 4 (some .boolean) :: wsA) B.pre w (List.mem_cons_of_mem _ h)
  have hown : s.vm.findClass RX4 = some m.cls := findClass_of_methodNamed B.named
  subst hsz
  have hLA : LA (dm L s.heap.size) L := ⟨hL, fun a h => Or.inl h⟩
  have hA : ∀ q : Nat, s.heap.size ≤ q → dm L s.heap.size q := fun q h => Or.inr h
  have hS : va_S (dm L s.heap.size) s.heap s.heap [] := va_S.rf
  have hB : TS D cA L T r ry [(4, 1), (9, 6), (17, 9), (93, 1000), (94, 1000)] σ σ ρ s.heap := ⟨hP, hW, FR.rf⟩
  have hl := lv_entry ([.ref h0, .ref h1]) (n := 4) (Nat.le_of_ble_eq_true rfl)
  rw [lg_entry_eq]
  generalize (lg_sl ([.ref h0, .ref h1]) ++ List.replicate (4 - (lg_sl ([.ref h0, .ref h1])).length) Slot.unset).toArray = ls at hl ⊢
  have hl : lv_has ls 4 [(0, .ref h0), (1, .ref h1)] := hl
  have w_1 : 0 ≤ (σ bh 8).toInt ∧ (σ bh 8).toInt ≤ 5 := by have z := hB.2.1 bh mbh 8; rw [tbh] at z; exact z
  have w_2 : 0 ≤ (σ bh 9).toInt ∧ (σ bh 9).toInt ≤ 8 := by have z := hB.2.1 bh mbh 9; rw [tbh] at z; exact z
  refine lv_aload_n hx hb dX4_bendClause_0 rfl (lv_at hl 0 rfl) ?_
  refine lv_aload_n hx hb dX4_bendClause_1 rfl (lv_at hl 1 rfl) ?_
  refine lv_iconst (v := 0) hx hb dX4_bendClause_2 (by decide) ?_
  refine lv_aload_n hx hb dX4_bendClause_3 rfl (lv_at hl 0 rfl) ?_
  refine t_gk hx hb hts hown hK hB mh0 th0 fq_4_0 hbh mw_1_213 dX4_bendClause_4 ?_
  refine t_gv hx hb hts hown hK hB mbh tbh fi_17_8 rfl mw_1_175 dX4_bendClause_7 ?_
  refine lv_iconst (v := 1) hx hb dX4_bendClause_10 (by decide) ?_
  refine lv_isub hx hb dX4_bendClause_11 ?_
  refine lv_topi (fun x_3 ex_3 => ?_)
  have vx_3 := b_sub (rfl : (σ bh 8).toInt = _) (by decide : (1 : Int32).toInt = 1) ex_3 (by omega) (by omega)
  refine t_ci (va_runV (As := [.ref h1, .int 0, .int x_3]) (rest := []) ⟨hx, hb, hml, hown, hts⟩ (cy_X4_number l D cA L T r hG hLA.1 σ ρ hB.2.1 _ h0 mh0 th0 h1 mh1 th1 0 x_3) (cV hts mv_X4_number mw_3_195 rfl rfl ⟨Nat.le_of_ble_eq_true rfl, Nat.le_of_ble_eq_true rfl⟩) (pV hB.1 hK hN mh0 th0 (show shp cA 4 _ _ _ = .inr (4, Fs4 _ _ _) from rfl) rfl) rfl rfl hl.1 rfl (lv_room (Nat.le_of_ble_eq_true rfl)) dX4_bendClause_12 ⟨Nat.le_of_ble_eq_true rfl, Nat.le_of_ble_eq_true rfl⟩) hLA hA hB hS (by decide) (fun x_6 σ_4 ρ_5 H locs hB fσ_4 pσ_4 hS => ?_)
  have nx_6p2 : (0 : Int32).toInt = 0 := by decide
  refine lv_istore_n (lv' := [(2, .int x_6), (0, .ref h0), (1, .ref h1)]) hx hb dX4_bendClause_15 rfl hl (by decide) rfl (fun ls hl => ?_)
  refine lv_aload_n hx hb dX4_bendClause_16 rfl (lv_at hl 1 rfl) ?_
  refine lv_aload_n hx hb dX4_bendClause_17 rfl (lv_at hl 2 rfl) ?_
  refine lv_iconst (v := 0) hx hb dX4_bendClause_18 (by decide) ?_
  refine lv_aload_n hx hb dX4_bendClause_19 rfl (lv_at hl 1 rfl) ?_
  refine t_gk hx hb hts hown hK hB mh0 th0 fq_4_0 hbh mw_1_213 dX4_bendClause_20 ?_
  have k_7 : σ_4 bh 8 = (σ bh 8) := (FR.at fσ_4 tbh (by decide)).trans rfl
  refine t_gv hx hb hts hown hK hB mbh tbh fi_17_8 k_7 mw_1_175 dX4_bendClause_23 ?_
  refine lv_iconst (v := 1) hx hb dX4_bendClause_26 (by decide) ?_
  refine lv_isub hx hb dX4_bendClause_27 ?_
  refine lv_topi (fun x_8 ex_8 => ?_)
  have vx_8 := b_sub (rfl : (σ bh 8).toInt = _) (by decide : (1 : Int32).toInt = 1) ex_8 (by omega) (by omega)
  refine t_ci (va_runV (As := [.ref h1, .int 0, .int x_8]) (rest := []) ⟨hx, hb, hml, hown, hts⟩ (cy_X4_number l D cA L T r hG hLA.1 σ_4 ρ_5 hB.2.1 _ h0 mh0 th0 h1 mh1 th1 0 x_8) (cV hts mv_X4_number mw_3_195 rfl rfl ⟨Nat.le_of_ble_eq_true rfl, Nat.le_of_ble_eq_true rfl⟩) (pV hB.1 hK hN mh0 th0 (show shp cA 4 _ _ _ = .inr (4, Fs4 _ _ _) from rfl) rfl) rfl rfl hl.1 rfl (lv_room (Nat.le_of_ble_eq_true rfl)) dX4_bendClause_28 ⟨Nat.le_of_ble_eq_true rfl, Nat.le_of_ble_eq_true rfl⟩) hLA hA hB hS (by decide) (fun x_11 σ_9 ρ_10 H locs hB fσ_9 pσ_9 hS => ?_)
  have nx_11p2 : (0 : Int32).toInt = 0 := by decide
  refine lv_istore_n (lv' := [(3, .int x_11), (2, .int x_6), (0, .ref h0), (1, .ref h1)]) hx hb dX4_bendClause_31 rfl hl (by decide) rfl (fun ls hl => ?_)
  refine lv_aload_n hx hb dX4_bendClause_32 rfl (lv_at hl 3 rfl) ?_
  refine t_gi hx hb hts hown hK hB mh1 th1 fi_9_6 rfl mw_1_44 dX4_bendClause_33 (fun x_12 ex_12 lx_12 ux_12 => ?_)
  have cx_12 := congrArg Int32.toInt ex_12
  refine lv_if_eq (tgt := 41) hx hb dX4_bendClause_36 (by decide) (fun c_13 => ?_) (fun c_13 => ?_)
  · skip
    have uc_13 := i_eq (n := 0) (by decide) c_13
    refine lv_aload_n hx hb dX4_bendClause_41 rfl (lv_at hl 2 rfl) ?_
    refine t_gk hx hb hts hown hK hB mh0 th0 fq_4_0 hbh mw_1_213 dX4_bendClause_42 ?_
    refine t_gr hx hb hts hown hK hG hB mbh tbh fq_17_3 rfl mw_1_150 dX4_bendClause_45 (fun b_14 hb_14 mb_14 tb_14 => ?_)
    refine lv_aload_n hx hb dX4_bendClause_48 rfl (lv_at hl 2 rfl) ?_
    refine t_gk hx hb hts hown hK hB mh0 th0 fq_4_0 hbh mw_1_213 dX4_bendClause_49 ?_
    have k_15 : σ_4 bh 9 = (σ bh 9) := (FR.at fσ_4 tbh (by decide)).trans rfl
    have k_16 : σ_9 bh 9 = (σ bh 9) := (FR.at fσ_9 tbh (by decide)).trans k_15
    refine t_gv hx hb hts hown hK hB mbh tbh fi_17_9 k_16 mw_1_181 dX4_bendClause_52 ?_
    refine lv_iload_n hx hb dX4_bendClause_55 rfl (lv_at hl 1 rfl) ?_
    refine t_si hx hb hK hLA hB hS mb_14 tb_14 ai_93 (i_in (by omega) (by omega)) (by show 0 ≤ _; (first | omega | (subst_vars; omega))) (by show _ ≤ 4; (first | omega | (subst_vars; omega))) (Or.inr (by decide)) dX4_bendClause_56 (fun H locs σ_17 eσ_17 hB hS => ?_)
    have k_18 : σ_17 b_14 (σ bh 9).toNatClampNeg = x_6 := by rw [eσ_17]; exact up2_same _ _ _ _
    refine lv_aload_n hx hb dX4_bendClause_57 rfl (lv_at hl 2 rfl) ?_
    refine t_gk hx hb hts hown hK hB mh0 th0 fq_4_0 hbh mw_1_213 dX4_bendClause_58 ?_
    refine t_gr hx hb hts hown hK hG hB mbh tbh fq_17_4 rfl mw_1_157 dX4_bendClause_61 (fun b_19 hb_19 mb_19 tb_19 => ?_)
    refine lv_aload_n hx hb dX4_bendClause_64 rfl (lv_at hl 2 rfl) ?_
    refine t_gk hx hb hts hown hK hB mh0 th0 fq_4_0 hbh mw_1_213 dX4_bendClause_65 ?_
    have k_20 : σ_17 bh 9 = (σ bh 9) := by rw [eσ_17, up2_nea _ _ (tg_ne tbh tb_14 (by decide))]; exact k_16
    refine t_gv hx hb hts hown hK hB mbh tbh fi_17_9 k_20 mw_1_181 dX4_bendClause_68 ?_
    refine lv_iload_n hx hb dX4_bendClause_71 rfl (lv_at hl 0 rfl) ?_
    refine t_si hx hb hK hLA hB hS mb_19 tb_19 ai_94 (i_in (by omega) (by omega)) (by show 0 ≤ _; (first | omega | (subst_vars; omega))) (by show _ ≤ 4; (first | omega | (subst_vars; omega))) (Or.inr (by decide)) dX4_bendClause_72 (fun H locs σ_21 eσ_21 hB hS => ?_)
    have k_22 : σ_21 b_19 (σ bh 9).toNatClampNeg = x_11 := by rw [eσ_21]; exact up2_same _ _ _ _
    refine lv_aload_n hx hb dX4_bendClause_73 rfl (lv_at hl 2 rfl) ?_
    refine t_gk hx hb hts hown hK hB mh0 th0 fq_4_0 hbh mw_1_213 dX4_bendClause_74 ?_
    refine lv_dup hx hb dX4_bendClause_77 rfl ?_
    have k_23 : σ_21 bh 9 = (σ bh 9) := by rw [eσ_21, up2_nea _ _ (tg_ne tbh tb_19 (by decide))]; exact k_20
    refine t_gv hx hb hts hown hK hB mbh tbh fi_17_9 k_23 mw_1_181 dX4_bendClause_78 ?_
    refine lv_iconst (v := 1) hx hb dX4_bendClause_81 (by decide) ?_
    refine lv_iadd hx hb dX4_bendClause_82 ?_
    refine lv_topi (fun x_24 ex_24 => ?_)
    have vx_24 := b_add (rfl : (σ bh 9).toInt = _) (by decide : (1 : Int32).toInt = 1) ex_24 (by omega) (by omega)
    refine t_pi hx hb hts hown hK hLA hB hS mbh tbh fi_17_9 rfl rfl rfl (by first | omega | (subst_vars; omega)) (by first | omega | (subst_vars; omega)) (Or.inl (by decide)) mw_1_181 dX4_bendClause_83 (fun H locs σ_25 eσ_25 hB hS => ?_)
    have k_26 : σ_25 bh 9 = x_24 := by rw [eσ_25]; exact up2_same _ _ _ _
    refine lv_iconst (v := 1) hx hb dX4_bendClause_86 (by decide) ?_
    exact W.zret (v := 1) hx hb hr rfl (fun t ht hW => ⟨⟨1, (σ_25, ρ_10), rfl, ⟨hB.2.1, hB.2.2, (show 0 ≤ (1 : Int32).toInt ∧ (1 : Int32).toInt ≤ 1 from ⟨by decide, by decide⟩)⟩, (show TP D cA L T r σ_25 ρ_10 t.heap from by rw [ht]; exact hB.1)⟩, hS.F ht⟩) hS.2.2 dX4_bendClause_87
  · skip
    have uc_13 := i_ne (n := 0) (by decide) c_13
    refine lv_iconst (v := 0) hx hb dX4_bendClause_39 (by decide) ?_
    exact W.zret (v := 0) hx hb hr rfl (fun t ht hW => ⟨⟨0, (σ_9, ρ_10), rfl, ⟨hB.2.1, hB.2.2, (show 0 ≤ (0 : Int32).toInt ∧ (0 : Int32).toInt ≤ 1 from ⟨by decide, by decide⟩)⟩, (show TP D cA L T r σ_9 ρ_10 t.heap from by rw [ht]; exact hB.1)⟩, hS.F ht⟩) hS.2.2 dX4_bendClause_40
theorem mw_1_161 : (.fieldLink RX4 106 "HillBends$Hill" "begin" "LHillBends$Scene;" : Cond) ∈ wsA := wsA_t (List.mem_append_left _ (List.mem_of_getElem? (l := tables_1_1) (i := 161) rfl)) rfl
theorem mw_1_87 : (.fieldLink RX4 110 "HillBends$Scene" "money" "[I" : Cond) ∈ wsA := wsA_t (List.mem_append_left _ (List.mem_of_getElem? (l := tables_1_1) (i := 87) rfl)) rfl
theorem mw_1_187 : (.fieldLink RX4 80 "HillBends$Hill" "pilgrims" "I" : Cond) ∈ wsA := wsA_t (List.mem_append_left _ (List.mem_of_getElem? (l := tables_1_1) (i := 187) rfl)) rfl
theorem dX4_pilgrimClause_0 : decode cX4_pilgrimClause 0 = .ok (.aload_n 0, 1) := by decide +kernel
theorem dX4_pilgrimClause_1 : decode cX4_pilgrimClause 1 = .ok (.aload_n 1, 1) := by decide +kernel
theorem dX4_pilgrimClause_2 : decode cX4_pilgrimClause 2 = .ok (.iconst 0, 1) := by decide +kernel
theorem dX4_pilgrimClause_3 : decode cX4_pilgrimClause 3 = .ok (.bipush 99, 2) := by decide +kernel
theorem dX4_pilgrimClause_5 : decode cX4_pilgrimClause 5 = .ok (.invokevirtual 83, 3) := by decide +kernel
theorem dX4_pilgrimClause_8 : decode cX4_pilgrimClause 8 = .ok (.istore_n 2, 1) := by decide +kernel
theorem dX4_pilgrimClause_9 : decode cX4_pilgrimClause 9 = .ok (.aload_n 1, 1) := by decide +kernel
theorem dX4_pilgrimClause_10 : decode cX4_pilgrimClause 10 = .ok (.getfield 45, 3) := by decide +kernel
theorem dX4_pilgrimClause_13 : decode cX4_pilgrimClause 13 = .ok (.ifCond .eq 5, 3) := by decide +kernel
theorem dX4_pilgrimClause_18 : decode cX4_pilgrimClause 18 = .ok (.aload_n 0, 1) := by decide +kernel
theorem dX4_pilgrimClause_19 : decode cX4_pilgrimClause 19 = .ok (.getfield 12, 3) := by decide +kernel
theorem dX4_pilgrimClause_22 : decode cX4_pilgrimClause 22 = .ok (.getfield 106, 3) := by decide +kernel
theorem dX4_pilgrimClause_25 : decode cX4_pilgrimClause 25 = .ok (.getfield 110, 3) := by decide +kernel
theorem dX4_pilgrimClause_28 : decode cX4_pilgrimClause 28 = .ok (.aload_n 0, 1) := by decide +kernel
theorem dX4_pilgrimClause_29 : decode cX4_pilgrimClause 29 = .ok (.getfield 12, 3) := by decide +kernel
theorem dX4_pilgrimClause_32 : decode cX4_pilgrimClause 32 = .ok (.getfield 80, 3) := by decide +kernel
theorem dX4_pilgrimClause_35 : decode cX4_pilgrimClause 35 = .ok (.iload_n 2, 1) := by decide +kernel
theorem dX4_pilgrimClause_36 : decode cX4_pilgrimClause 36 = .ok (.iastore, 1) := by decide +kernel
theorem dX4_pilgrimClause_37 : decode cX4_pilgrimClause 37 = .ok (.aload_n 0, 1) := by decide +kernel
theorem dX4_pilgrimClause_38 : decode cX4_pilgrimClause 38 = .ok (.getfield 12, 3) := by decide +kernel
theorem dX4_pilgrimClause_41 : decode cX4_pilgrimClause 41 = .ok (.dup, 1) := by decide +kernel
theorem dX4_pilgrimClause_42 : decode cX4_pilgrimClause 42 = .ok (.getfield 80, 3) := by decide +kernel
theorem dX4_pilgrimClause_45 : decode cX4_pilgrimClause 45 = .ok (.iconst 1, 1) := by decide +kernel
theorem dX4_pilgrimClause_46 : decode cX4_pilgrimClause 46 = .ok (.iadd, 1) := by decide +kernel
theorem dX4_pilgrimClause_47 : decode cX4_pilgrimClause 47 = .ok (.putfield 80, 3) := by decide +kernel
theorem dX4_pilgrimClause_50 : decode cX4_pilgrimClause 50 = .ok (.iconst 1, 1) := by decide +kernel
theorem dX4_pilgrimClause_51 : decode cX4_pilgrimClause 51 = .ok (.ireturn, 1) := by decide +kernel
theorem dX4_pilgrimClause_16 : decode cX4_pilgrimClause 16 = .ok (.iconst 0, 1) := by decide +kernel
theorem dX4_pilgrimClause_17 : decode cX4_pilgrimClause 17 = .ok (.ireturn, 1) := by decide +kernel
set_option maxHeartbeats 4000000 in
set_option maxRecDepth 100000 in
theorem cy_X4_pilgrimClause (l : Launch) (D : va_G) (cA : Nat → ClassId) (L : List Nat) (T : Nat → Nat) (r : Rg) (hG : GR L T r) (hL : L.Nodup) (σ : Sg) (ρ : Lg) (hW : WT L ry T σ) (sz : Nat) (h0 : Nat) (mh0 : h0 ∈ L) (th0 : T h0 = 4) (h1 : Nat) (mh1 : h1 ∈ L) (th1 : T h1 = 9) (bh : Nat) (hbh : r h0 0 = some bh) (mbh : bh ∈ L) (tbh : T bh = 17) (w0 : (σ bh 10).toInt ≤ 3) : Met l yX4_pilgrimClause (.code yX4_pilgrimClause cX4_pilgrimClause 3 (some .boolean) :: wsA) ({ frames := 2, cells := 0, slots := 0, locals := 47 }) (PR D cA L T r σ ρ sz [.ref h0, .ref h1]) (QI D cA L T r ry [(4, 1), (9, 6), (17, 10), (114, 1000)] σ sz (fun x σ1 => (0 ≤ x.toInt ∧ x.toInt ≤ 1))) 0 0 (dm L sz) := by
  refine Met.ofW (cc := cX4_pilgrimClause) (maxL := 3) (ret := (some .boolean)) (by decide) rfl ?_
  intro p e s m args below meth c s₁ B hml hv
  obtain ⟨rfl, hsz, hP, hK, hN⟩ := hv
  have hx := B.exec
  have hb := B.bytes
  have hr := B.returns
  have hts : ∀ w ∈ wsA, w.before _ s = true := fun w h => atoms_spec (ws := .code yX4_pilgrimClause cX4_pilgrimClause 3 (some .boolean) :: wsA) B.pre w (List.mem_cons_of_mem _ h)
  have hown : s.vm.findClass RX4 = some m.cls := findClass_of_methodNamed B.named
  subst hsz
  have hLA : LA (dm L s.heap.size) L := ⟨hL, fun a h => Or.inl h⟩
  have hA : ∀ q : Nat, s.heap.size ≤ q → dm L s.heap.size q := fun q h => Or.inr h
  have hS : va_S (dm L s.heap.size) s.heap s.heap [] := va_S.rf
  have hB : TS D cA L T r ry [(4, 1), (9, 6), (17, 10), (114, 1000)] σ σ ρ s.heap := ⟨hP, hW, FR.rf⟩
  have hl := lv_entry ([.ref h0, .ref h1]) (n := 3) (Nat.le_of_ble_eq_true rfl)
  rw [lg_entry_eq]
  generalize (lg_sl ([.ref h0, .ref h1]) ++ List.replicate (3 - (lg_sl ([.ref h0, .ref h1])).length) Slot.unset).toArray = ls at hl ⊢
  have hl : lv_has ls 3 [(0, .ref h0), (1, .ref h1)] := hl
  have w_1 : 0 ≤ (σ bh 10).toInt ∧ (σ bh 10).toInt ≤ 4 := by have z := hB.2.1 bh mbh 10; rw [tbh] at z; exact z
  refine lv_aload_n hx hb dX4_pilgrimClause_0 rfl (lv_at hl 0 rfl) ?_
  refine lv_aload_n hx hb dX4_pilgrimClause_1 rfl (lv_at hl 1 rfl) ?_
  refine lv_iconst (v := 0) hx hb dX4_pilgrimClause_2 (by decide) ?_
  refine lv_bipush (v := 99) hx hb dX4_pilgrimClause_3 (by decide) ?_
  refine t_ci (va_runV (As := [.ref h1, .int 0, .int 99]) (rest := []) ⟨hx, hb, hml, hown, hts⟩ (cy_X4_number l D cA L T r hG hLA.1 σ ρ hB.2.1 _ h0 mh0 th0 h1 mh1 th1 0 99) (cV hts mv_X4_number mw_3_195 rfl rfl ⟨Nat.le_of_ble_eq_true rfl, Nat.le_of_ble_eq_true rfl⟩) (pV hB.1 hK hN mh0 th0 (show shp cA 4 _ _ _ = .inr (4, Fs4 _ _ _) from rfl) rfl) rfl rfl hl.1 rfl (lv_room (Nat.le_of_ble_eq_true rfl)) dX4_pilgrimClause_5 ⟨Nat.le_of_ble_eq_true rfl, Nat.le_of_ble_eq_true rfl⟩) hLA hA hB hS (by decide) (fun x_4 σ_2 ρ_3 H locs hB fσ_2 pσ_2 hS => ?_)
  have nx_4p2 : (0 : Int32).toInt = 0 := by decide
  have nx_4p3 : (99 : Int32).toInt = 99 := by decide
  refine lv_istore_n (lv' := [(2, .int x_4), (0, .ref h0), (1, .ref h1)]) hx hb dX4_pilgrimClause_8 rfl hl (by decide) rfl (fun ls hl => ?_)
  refine lv_aload_n hx hb dX4_pilgrimClause_9 rfl (lv_at hl 2 rfl) ?_
  refine t_gi hx hb hts hown hK hB mh1 th1 fi_9_6 rfl mw_1_44 dX4_pilgrimClause_10 (fun x_5 ex_5 lx_5 ux_5 => ?_)
  have cx_5 := congrArg Int32.toInt ex_5
  refine lv_if_eq (tgt := 18) hx hb dX4_pilgrimClause_13 (by decide) (fun c_6 => ?_) (fun c_6 => ?_)
  · skip
    have uc_6 := i_eq (n := 0) (by decide) c_6
    refine lv_aload_n hx hb dX4_pilgrimClause_18 rfl (lv_at hl 1 rfl) ?_
    refine t_gk hx hb hts hown hK hB mh0 th0 fq_4_0 hbh mw_1_213 dX4_pilgrimClause_19 ?_
    refine t_gr hx hb hts hown hK hG hB mbh tbh fq_17_5 rfl mw_1_161 dX4_pilgrimClause_22 (fun b_7 hb_7 mb_7 tb_7 => ?_)
    refine t_gr hx hb hts hown hK hG hB mb_7 tb_7 fq_101_1 rfl mw_1_87 dX4_pilgrimClause_25 (fun b_8 hb_8 mb_8 tb_8 => ?_)
    refine lv_aload_n hx hb dX4_pilgrimClause_28 rfl (lv_at hl 1 rfl) ?_
    refine t_gk hx hb hts hown hK hB mh0 th0 fq_4_0 hbh mw_1_213 dX4_pilgrimClause_29 ?_
    have k_9 : σ_2 bh 10 = (σ bh 10) := (FR.at fσ_2 tbh (by decide)).trans rfl
    refine t_gv hx hb hts hown hK hB mbh tbh fi_17_10 k_9 mw_1_187 dX4_pilgrimClause_32 ?_
    refine lv_iload_n hx hb dX4_pilgrimClause_35 rfl (lv_at hl 0 rfl) ?_
    refine t_si hx hb hK hLA hB hS mb_8 tb_8 ai_114 (i_in (by omega) (by omega)) (i_lo _) (i_hi _) (Or.inr (by decide)) dX4_pilgrimClause_36 (fun H locs σ_10 eσ_10 hB hS => ?_)
    have k_11 : σ_10 b_8 (σ bh 10).toNatClampNeg = x_4 := by rw [eσ_10]; exact up2_same _ _ _ _
    refine lv_aload_n hx hb dX4_pilgrimClause_37 rfl (lv_at hl 1 rfl) ?_
    refine t_gk hx hb hts hown hK hB mh0 th0 fq_4_0 hbh mw_1_213 dX4_pilgrimClause_38 ?_
    refine lv_dup hx hb dX4_pilgrimClause_41 rfl ?_
    have k_12 : σ_10 bh 10 = (σ bh 10) := by rw [eσ_10, up2_nea _ _ (tg_ne tbh tb_8 (by decide))]; exact k_9
    refine t_gv hx hb hts hown hK hB mbh tbh fi_17_10 k_12 mw_1_187 dX4_pilgrimClause_42 ?_
    refine lv_iconst (v := 1) hx hb dX4_pilgrimClause_45 (by decide) ?_
    refine lv_iadd hx hb dX4_pilgrimClause_46 ?_
    refine lv_topi (fun x_13 ex_13 => ?_)
    have vx_13 := b_add (rfl : (σ bh 10).toInt = _) (by decide : (1 : Int32).toInt = 1) ex_13 (by omega) (by omega)
    refine t_pi hx hb hts hown hK hLA hB hS mbh tbh fi_17_10 rfl rfl rfl (by first | omega | (subst_vars; omega)) (by first | omega | (subst_vars; omega)) (Or.inl (by decide)) mw_1_187 dX4_pilgrimClause_47 (fun H locs σ_14 eσ_14 hB hS => ?_)
    have k_15 : σ_14 bh 10 = x_13 := by rw [eσ_14]; exact up2_same _ _ _ _
    refine lv_iconst (v := 1) hx hb dX4_pilgrimClause_50 (by decide) ?_
    exact W.zret (v := 1) hx hb hr rfl (fun t ht hW => ⟨⟨1, (σ_14, ρ_3), rfl, ⟨hB.2.1, hB.2.2, (show 0 ≤ (1 : Int32).toInt ∧ (1 : Int32).toInt ≤ 1 from ⟨by decide, by decide⟩)⟩, (show TP D cA L T r σ_14 ρ_3 t.heap from by rw [ht]; exact hB.1)⟩, hS.F ht⟩) hS.2.2 dX4_pilgrimClause_51
  · skip
    have uc_6 := i_ne (n := 0) (by decide) c_6
    refine lv_iconst (v := 0) hx hb dX4_pilgrimClause_16 (by decide) ?_
    exact W.zret (v := 0) hx hb hr rfl (fun t ht hW => ⟨⟨0, (σ_2, ρ_3), rfl, ⟨hB.2.1, hB.2.2, (show 0 ≤ (0 : Int32).toInt ∧ (0 : Int32).toInt ≤ 1 from ⟨by decide, by decide⟩)⟩, (show TP D cA L T r σ_2 ρ_3 t.heap from by rw [ht]; exact hB.1)⟩, hS.F ht⟩) hS.2.2 dX4_pilgrimClause_17
theorem mw_1_99 : (.fieldLink RX4 119 "HillBends$Scene" "has" "[I" : Cond) ∈ wsA := wsA_t (List.mem_append_left _ (List.mem_of_getElem? (l := tables_1_1) (i := 99) rfl)) rfl
theorem mw_3_219 : (.methodLink RX4 122 yJ9_min_7cf53 : Cond) ∈ wsA := wsA_t (List.mem_append_right _ (List.mem_append_right _ (List.mem_append_left _ (List.mem_of_getElem? (l := tables_1_3) (i := 219) rfl)))) rfl
theorem mw_3_220 : (.methodLink RX4 127 yX8_weightOf : Cond) ∈ wsA := wsA_t (List.mem_append_right _ (List.mem_append_right _ (List.mem_append_left _ (List.mem_of_getElem? (l := tables_1_3) (i := 220) rfl)))) rfl
theorem mw_3_224 : (.methodLink RX4 131 yJ9_max_7cf53 : Cond) ∈ wsA := wsA_t (List.mem_append_right _ (List.mem_append_right _ (List.mem_append_left _ (List.mem_of_getElem? (l := tables_1_3) (i := 224) rfl)))) rfl
theorem dX4_mostMore_0 : decode cX4_mostMore 0 = .ok (.iconst 4, 1) := by decide +kernel
theorem dX4_mostMore_1 : decode cX4_mostMore 1 = .ok (.bipush 9, 2) := by decide +kernel
theorem dX4_mostMore_3 : decode cX4_mostMore 3 = .ok (.aload_n 0, 1) := by decide +kernel
theorem dX4_mostMore_4 : decode cX4_mostMore 4 = .ok (.getfield 12, 3) := by decide +kernel
theorem dX4_mostMore_7 : decode cX4_mostMore 7 = .ok (.getfield 106, 3) := by decide +kernel
theorem dX4_mostMore_10 : decode cX4_mostMore 10 = .ok (.getfield 119, 3) := by decide +kernel
theorem dX4_mostMore_13 : decode cX4_mostMore 13 = .ok (.iload_n 1, 1) := by decide +kernel
theorem dX4_mostMore_14 : decode cX4_mostMore 14 = .ok (.iconst 5, 1) := by decide +kernel
theorem dX4_mostMore_15 : decode cX4_mostMore 15 = .ok (.imul, 1) := by decide +kernel
theorem dX4_mostMore_16 : decode cX4_mostMore 16 = .ok (.iload_n 2, 1) := by decide +kernel
theorem dX4_mostMore_17 : decode cX4_mostMore 17 = .ok (.iadd, 1) := by decide +kernel
theorem dX4_mostMore_18 : decode cX4_mostMore 18 = .ok (.iaload, 1) := by decide +kernel
theorem dX4_mostMore_19 : decode cX4_mostMore 19 = .ok (.isub, 1) := by decide +kernel
theorem dX4_mostMore_20 : decode cX4_mostMore 20 = .ok (.invokestatic 122, 3) := by decide +kernel
theorem dX4_mostMore_23 : decode cX4_mostMore 23 = .ok (.istore_n 3, 1) := by decide +kernel
theorem dX4_mostMore_24 : decode cX4_mostMore 24 = .ok (.aload_n 0, 1) := by decide +kernel
theorem dX4_mostMore_25 : decode cX4_mostMore 25 = .ok (.getfield 12, 3) := by decide +kernel
theorem dX4_mostMore_28 : decode cX4_mostMore 28 = .ok (.getfield 87, 3) := by decide +kernel
theorem dX4_mostMore_31 : decode cX4_mostMore 31 = .ok (.aload_n 0, 1) := by decide +kernel
theorem dX4_mostMore_32 : decode cX4_mostMore 32 = .ok (.getfield 12, 3) := by decide +kernel
theorem dX4_mostMore_35 : decode cX4_mostMore 35 = .ok (.getfield 106, 3) := by decide +kernel
theorem dX4_mostMore_38 : decode cX4_mostMore 38 = .ok (.aload_n 0, 1) := by decide +kernel
theorem dX4_mostMore_39 : decode cX4_mostMore 39 = .ok (.getfield 12, 3) := by decide +kernel
theorem dX4_mostMore_42 : decode cX4_mostMore 42 = .ok (.iload_n 1, 1) := by decide +kernel
theorem dX4_mostMore_43 : decode cX4_mostMore 43 = .ok (.invokevirtual 127, 3) := by decide +kernel
theorem dX4_mostMore_46 : decode cX4_mostMore 46 = .ok (.isub, 1) := by decide +kernel
theorem dX4_mostMore_47 : decode cX4_mostMore 47 = .ok (.istore 4, 2) := by decide +kernel
theorem dX4_mostMore_49 : decode cX4_mostMore 49 = .ok (.iload_n 3, 1) := by decide +kernel
theorem dX4_mostMore_50 : decode cX4_mostMore 50 = .ok (.iload 4, 2) := by decide +kernel
theorem dX4_mostMore_52 : decode cX4_mostMore 52 = .ok (.iconst 1, 1) := by decide +kernel
theorem dX4_mostMore_53 : decode cX4_mostMore 53 = .ok (.aload_n 0, 1) := by decide +kernel
theorem dX4_mostMore_54 : decode cX4_mostMore 54 = .ok (.getfield 12, 3) := by decide +kernel
theorem dX4_mostMore_57 : decode cX4_mostMore 57 = .ok (.getfield 90, 3) := by decide +kernel
theorem dX4_mostMore_60 : decode cX4_mostMore 60 = .ok (.iload_n 2, 1) := by decide +kernel
theorem dX4_mostMore_61 : decode cX4_mostMore 61 = .ok (.iaload, 1) := by decide +kernel
theorem dX4_mostMore_62 : decode cX4_mostMore 62 = .ok (.invokestatic 131, 3) := by decide +kernel
theorem dX4_mostMore_65 : decode cX4_mostMore 65 = .ok (.idiv, 1) := by decide +kernel
theorem dX4_mostMore_66 : decode cX4_mostMore 66 = .ok (.invokestatic 122, 3) := by decide +kernel
theorem dX4_mostMore_69 : decode cX4_mostMore 69 = .ok (.ireturn, 1) := by decide +kernel
set_option maxHeartbeats 4000000 in
set_option maxRecDepth 100000 in
theorem cy_X4_mostMore (l : Launch) (D : va_G) (cA : Nat → ClassId) (L : List Nat) (T : Nat → Nat) (r : Rg) (hG : GR L T r) (hL : L.Nodup) (σ : Sg) (ρ : Lg) (hW : WT L ry T σ) (sz : Nat) (h0 : Nat) (mh0 : h0 ∈ L) (th0 : T h0 = 4) (p1 : Int32) (p2 : Int32) (w0 : 0 ≤ p1.toInt) (w1 : p1.toInt ≤ 3) (w2 : 0 ≤ p2.toInt) (w3 : p2.toInt ≤ 4) : Met l yX4_mostMore (.code yX4_mostMore cX4_mostMore 5 (some .int) :: wsA) ({ frames := 1, cells := 0, slots := 0, locals := 40 }) (PR D cA L T r σ ρ sz [.ref h0, .int p1, .int p2]) (QI D cA L T r ry ([] : List (Nat × Nat)) σ sz (fun x σ1 => True)) 0 0 (dm L sz) := by
  refine Met.ofW (cc := cX4_mostMore) (maxL := 5) (ret := (some .int)) (by decide) rfl ?_
  intro p e s m args below meth c s₁ B hml hv
  obtain ⟨rfl, hsz, hP, hK, hN⟩ := hv
  have hx := B.exec
  have hb := B.bytes
  have hr := B.returns
  have hts : ∀ w ∈ wsA, w.before _ s = true := fun w h => atoms_spec (ws := .code yX4_mostMore cX4_mostMore 5 (some .int) :: wsA) B.pre w (List.mem_cons_of_mem _ h)
  have hown : s.vm.findClass RX4 = some m.cls := findClass_of_methodNamed B.named
  subst hsz
  have hLA : LA (dm L s.heap.size) L := ⟨hL, fun a h => Or.inl h⟩
  have hA : ∀ q : Nat, s.heap.size ≤ q → dm L s.heap.size q := fun q h => Or.inr h
  have hS : va_S (dm L s.heap.size) s.heap s.heap [] := va_S.rf
  have hB : TS D cA L T r ry ([] : List (Nat × Nat)) σ σ ρ s.heap := ⟨hP, hW, FR.rf⟩
  have hl := lv_entry ([.ref h0, .int p1, .int p2]) (n := 5) (Nat.le_of_ble_eq_true rfl)
  rw [lg_entry_eq]
  generalize (lg_sl ([.ref h0, .int p1, .int p2]) ++ List.replicate (5 - (lg_sl ([.ref h0, .int p1, .int p2])).length) Slot.unset).toArray = ls at hl ⊢
  have hl : lv_has ls 5 [(0, .ref h0), (1, .int p1), (2, .int p2)] := hl
  refine lv_iconst (v := 4) hx hb dX4_mostMore_0 (by decide) ?_
  refine lv_bipush (v := 9) hx hb dX4_mostMore_1 (by decide) ?_
  refine lv_aload_n hx hb dX4_mostMore_3 rfl (lv_at hl 0 rfl) ?_
  refine t_gr hx hb hts hown hK hG hB mh0 th0 fq_4_0 rfl mw_1_213 dX4_mostMore_4 (fun b_1 hb_1 mb_1 tb_1 => ?_)
  refine t_gr hx hb hts hown hK hG hB mb_1 tb_1 fq_17_5 rfl mw_1_161 dX4_mostMore_7 (fun b_2 hb_2 mb_2 tb_2 => ?_)
  refine t_gr hx hb hts hown hK hG hB mb_2 tb_2 fq_101_4 rfl mw_1_99 dX4_mostMore_10 (fun b_3 hb_3 mb_3 tb_3 => ?_)
  refine lv_iload_n hx hb dX4_mostMore_13 rfl (lv_at hl 1 rfl) ?_
  refine lv_iconst (v := 5) hx hb dX4_mostMore_14 (by decide) ?_
  refine lv_imul hx hb dX4_mostMore_15 ?_
  refine lv_topi (fun x_4 ex_4 => ?_)
  have vx_4 := b_mul (rfl : p1.toInt = _) (by decide : (5 : Int32).toInt = 5) ex_4 (by omega) (by omega)
  refine lv_iload_n hx hb dX4_mostMore_16 rfl (lv_at hl 2 rfl) ?_
  refine lv_iadd hx hb dX4_mostMore_17 ?_
  refine lv_topi (fun x_5 ex_5 => ?_)
  have vx_5 := b_add (rfl : x_4.toInt = _) (rfl : p2.toInt = _) ex_5 (by omega) (by omega)
  refine t_ai hx hb hK hB mb_3 tb_3 ai_117 (fun _ => rfl) (i_in (by omega) (by omega)) dX4_mostMore_18 (fun x_6 ex_6 lx_6 ux_6 => ?_)
  refine lv_isub hx hb dX4_mostMore_19 ?_
  refine lv_topi (fun x_7 ex_7 => ?_)
  refine va_mmin hx hb (hml.trans hl.1.symm) hown (hts _ mw_3_219) (hts _ mw_3_123) (hts _ mw_1_18) (hts _ mw_3_124) (Nat.le_of_ble_eq_true rfl) (Nat.le_of_ble_eq_true rfl) (Nat.zero_le _) (Nat.zero_le _) dX4_mostMore_20 ?_
  refine lv_topi (fun x_8 ex_8 => ?_)
  obtain ⟨lx_8, mx_8, ux_8⟩ := m_min (by decide : (4 : Int32).toInt = 4) (rfl : x_7.toInt = _) ex_8
  refine lv_istore_n (lv' := [(3, .int x_8), (0, .ref h0), (1, .int p1), (2, .int p2)]) hx hb dX4_mostMore_23 rfl hl (by decide) rfl (fun ls hl => ?_)
  refine lv_aload_n hx hb dX4_mostMore_24 rfl (lv_at hl 1 rfl) ?_
  refine t_gk hx hb hts hown hK hB mh0 th0 fq_4_0 hb_1 mw_1_213 dX4_mostMore_25 ?_
  refine t_gi hx hb hts hown hK hB mb_1 tb_1 fi_17_7 rfl mw_1_167 dX4_mostMore_28 (fun x_9 ex_9 lx_9 ux_9 => ?_)
  refine lv_aload_n hx hb dX4_mostMore_31 rfl (lv_at hl 1 rfl) ?_
  refine t_gk hx hb hts hown hK hB mh0 th0 fq_4_0 hb_1 mw_1_213 dX4_mostMore_32 ?_
  refine t_gk hx hb hts hown hK hB mb_1 tb_1 fq_17_5 hb_2 mw_1_161 dX4_mostMore_35 ?_
  refine lv_aload_n hx hb dX4_mostMore_38 rfl (lv_at hl 1 rfl) ?_
  refine t_gk hx hb hts hown hK hB mh0 th0 fq_4_0 hb_1 mw_1_213 dX4_mostMore_39 ?_
  refine lv_iload_n hx hb dX4_mostMore_42 rfl (lv_at hl 2 rfl) ?_
  refine t_ci (va_runV (As := [.ref b_1, .int p1]) (rest := [.int x_9]) ⟨hx, hb, hml, hown, hts⟩ (cy_X8_weightOf_101 l D cA L T r hG hLA.1 σ ρ hB.2.1 _ b_2 mb_2 tb_2 b_1 mb_1 tb_1 p1 (by first | omega | decide) (by first | omega | decide)) (cV hts mv_X8_weightOf mw_3_220 rfl rfl ⟨Nat.le_of_ble_eq_true rfl, Nat.le_of_ble_eq_true rfl⟩) (pV hB.1 hK hN mb_2 tb_2 (show shp cA 101 _ _ _ = .inr (8, Fs8 _ _ _) from rfl) rfl) rfl rfl hl.1 rfl (lv_room (Nat.le_of_ble_eq_true rfl)) dX4_mostMore_43 ⟨Nat.le_of_ble_eq_true rfl, Nat.le_of_ble_eq_true rfl⟩) hLA hA hB hS (by decide) (fun x_12 σ_10 ρ_11 H locs hB fσ_10 pσ_10 hS => ?_)
  have qσ_10 := FR.nil fσ_10
  subst qσ_10
  refine lv_isub hx hb dX4_mostMore_46 ?_
  refine lv_topi (fun x_13 ex_13 => ?_)
  refine lv_istore (lv' := [(4, .int x_13), (3, .int x_8), (0, .ref h0), (1, .int p1), (2, .int p2)]) hx hb dX4_mostMore_47 hl (by decide) rfl (fun ls hl => ?_)
  refine lv_iload_n hx hb dX4_mostMore_49 rfl (lv_at hl 1 rfl) ?_
  refine lv_iload hx hb dX4_mostMore_50 (lv_at hl 0 rfl) ?_
  refine lv_iconst (v := 1) hx hb dX4_mostMore_52 (by decide) ?_
  refine lv_aload_n hx hb dX4_mostMore_53 rfl (lv_at hl 2 rfl) ?_
  refine t_gk hx hb hts hown hK hB mh0 th0 fq_4_0 hb_1 mw_1_213 dX4_mostMore_54 ?_
  refine t_gr hx hb hts hown hK hG hB mb_1 tb_1 fq_17_0 rfl mw_1_133 dX4_mostMore_57 (fun b_14 hb_14 mb_14 tb_14 => ?_)
  refine lv_iload_n hx hb dX4_mostMore_60 rfl (lv_at hl 4 rfl) ?_
  refine t_ai hx hb hK hB mb_14 tb_14 ai_90 (fun _ => rfl) (i_in (by omega) (by omega)) dX4_mostMore_61 (fun x_15 ex_15 lx_15 ux_15 => ?_)
  refine va_mmax hx hb (hml.trans hl.1.symm) hown (hts _ mw_3_224) (hts _ mw_3_120) (hts _ mw_1_18) (hts _ mw_3_121) (Nat.le_of_ble_eq_true rfl) (Nat.le_of_ble_eq_true rfl) (Nat.zero_le _) (Nat.zero_le _) dX4_mostMore_62 ?_
  refine lv_topi (fun x_16 ex_16 => ?_)
  obtain ⟨lx_16, mx_16, ux_16⟩ := m_max (by decide : (1 : Int32).toInt = 1) (rfl : x_15.toInt = _) ex_16
  refine lv_idiv hx hb dX4_mostMore_65 (d_ne (by omega)) ?_
  refine lv_topi (fun x_17 ex_17 => ?_)
  refine va_mmin hx hb (hml.trans hl.1.symm) hown (hts _ mw_3_219) (hts _ mw_3_123) (hts _ mw_1_18) (hts _ mw_3_124) (Nat.le_of_ble_eq_true rfl) (Nat.le_of_ble_eq_true rfl) (Nat.zero_le _) (Nat.zero_le _) dX4_mostMore_66 ?_
  refine lv_topi (fun x_18 ex_18 => ?_)
  obtain ⟨lx_18, mx_18, ux_18⟩ := m_min (rfl : x_8.toInt = _) (rfl : x_17.toInt = _) ex_18
  exact W.iret (v := x_18) hx hb hr (fun t ht hW => ⟨⟨x_18, (σ, ρ_11), rfl, ⟨hB.2.1, hB.2.2, trivial⟩, (show TP D cA L T r σ ρ_11 t.heap from by rw [ht]; exact hB.1)⟩, hS.F ht⟩) hS.2.2 dX4_mostMore_69
theorem mw_3_217 : (.instanceMethod yX4_mostMore : Cond) ∈ wsA := wsA_t (List.mem_append_right _ (List.mem_append_right _ (List.mem_append_left _ (List.mem_of_getElem? (l := tables_1_3) (i := 217) rfl)))) rfl
theorem mp_1_13 : (.selects RX4 yX4_mostMore yX4_mostMore : Cond) ∈ wsA := wsA_p (q := (yX4_mostMore, 2)) (List.mem_append_left _ (List.mem_of_getElem? (l := lw_privs_1) (i := 13) rfl))
theorem mw_3_218 : (.code yX4_mostMore cX4_mostMore 5 (some .int) : Cond) ∈ wsA := wsA_t (List.mem_append_right _ (List.mem_append_right _ (List.mem_append_left _ (List.mem_of_getElem? (l := tables_1_3) (i := 218) rfl)))) rfl
theorem mw_3_215 : (.methodLink RX4 115 yX4_mostMore : Cond) ∈ wsA := wsA_t (List.mem_append_right _ (List.mem_append_right _ (List.mem_append_left _ (List.mem_of_getElem? (l := tables_1_3) (i := 215) rfl)))) rfl
theorem dX4_hasClause_0 : decode cX4_hasClause 0 = .ok (.aload_n 0, 1) := by decide +kernel
theorem dX4_hasClause_1 : decode cX4_hasClause 1 = .ok (.aload_n 1, 1) := by decide +kernel
theorem dX4_hasClause_2 : decode cX4_hasClause 2 = .ok (.iconst 0, 1) := by decide +kernel
theorem dX4_hasClause_3 : decode cX4_hasClause 3 = .ok (.aload_n 0, 1) := by decide +kernel
theorem dX4_hasClause_4 : decode cX4_hasClause 4 = .ok (.getfield 12, 3) := by decide +kernel
theorem dX4_hasClause_7 : decode cX4_hasClause 7 = .ok (.getfield 80, 3) := by decide +kernel
theorem dX4_hasClause_10 : decode cX4_hasClause 10 = .ok (.iconst 1, 1) := by decide +kernel
theorem dX4_hasClause_11 : decode cX4_hasClause 11 = .ok (.isub, 1) := by decide +kernel
theorem dX4_hasClause_12 : decode cX4_hasClause 12 = .ok (.invokevirtual 83, 3) := by decide +kernel
theorem dX4_hasClause_15 : decode cX4_hasClause 15 = .ok (.istore_n 2, 1) := by decide +kernel
theorem dX4_hasClause_16 : decode cX4_hasClause 16 = .ok (.aload_n 0, 1) := by decide +kernel
theorem dX4_hasClause_17 : decode cX4_hasClause 17 = .ok (.aload_n 1, 1) := by decide +kernel
theorem dX4_hasClause_18 : decode cX4_hasClause 18 = .ok (.iconst 0, 1) := by decide +kernel
theorem dX4_hasClause_19 : decode cX4_hasClause 19 = .ok (.aload_n 0, 1) := by decide +kernel
theorem dX4_hasClause_20 : decode cX4_hasClause 20 = .ok (.getfield 12, 3) := by decide +kernel
theorem dX4_hasClause_23 : decode cX4_hasClause 23 = .ok (.getfield 74, 3) := by decide +kernel
theorem dX4_hasClause_26 : decode cX4_hasClause 26 = .ok (.iconst 1, 1) := by decide +kernel
theorem dX4_hasClause_27 : decode cX4_hasClause 27 = .ok (.isub, 1) := by decide +kernel
theorem dX4_hasClause_28 : decode cX4_hasClause 28 = .ok (.invokevirtual 83, 3) := by decide +kernel
theorem dX4_hasClause_31 : decode cX4_hasClause 31 = .ok (.istore_n 3, 1) := by decide +kernel
theorem dX4_hasClause_32 : decode cX4_hasClause 32 = .ok (.aload_n 1, 1) := by decide +kernel
theorem dX4_hasClause_33 : decode cX4_hasClause 33 = .ok (.getfield 45, 3) := by decide +kernel
theorem dX4_hasClause_36 : decode cX4_hasClause 36 = .ok (.ifCond .eq 5, 3) := by decide +kernel
theorem dX4_hasClause_41 : decode cX4_hasClause 41 = .ok (.aload_n 0, 1) := by decide +kernel
theorem dX4_hasClause_42 : decode cX4_hasClause 42 = .ok (.aload_n 1, 1) := by decide +kernel
theorem dX4_hasClause_43 : decode cX4_hasClause 43 = .ok (.iconst 1, 1) := by decide +kernel
theorem dX4_hasClause_44 : decode cX4_hasClause 44 = .ok (.aload_n 0, 1) := by decide +kernel
theorem dX4_hasClause_45 : decode cX4_hasClause 45 = .ok (.iload_n 2, 1) := by decide +kernel
theorem dX4_hasClause_46 : decode cX4_hasClause 46 = .ok (.iload_n 3, 1) := by decide +kernel
theorem dX4_hasClause_47 : decode cX4_hasClause 47 = .ok (.invokevirtual 115, 3) := by decide +kernel
theorem dX4_hasClause_50 : decode cX4_hasClause 50 = .ok (.invokevirtual 83, 3) := by decide +kernel
theorem dX4_hasClause_53 : decode cX4_hasClause 53 = .ok (.istore 4, 2) := by decide +kernel
theorem dX4_hasClause_55 : decode cX4_hasClause 55 = .ok (.aload_n 1, 1) := by decide +kernel
theorem dX4_hasClause_56 : decode cX4_hasClause 56 = .ok (.getfield 45, 3) := by decide +kernel
theorem dX4_hasClause_59 : decode cX4_hasClause 59 = .ok (.ifCond .eq 5, 3) := by decide +kernel
theorem dX4_hasClause_64 : decode cX4_hasClause 64 = .ok (.aload_n 0, 1) := by decide +kernel
theorem dX4_hasClause_65 : decode cX4_hasClause 65 = .ok (.getfield 12, 3) := by decide +kernel
theorem dX4_hasClause_68 : decode cX4_hasClause 68 = .ok (.getfield 106, 3) := by decide +kernel
theorem dX4_hasClause_71 : decode cX4_hasClause 71 = .ok (.getfield 119, 3) := by decide +kernel
theorem dX4_hasClause_74 : decode cX4_hasClause 74 = .ok (.iload_n 2, 1) := by decide +kernel
theorem dX4_hasClause_75 : decode cX4_hasClause 75 = .ok (.iconst 5, 1) := by decide +kernel
theorem dX4_hasClause_76 : decode cX4_hasClause 76 = .ok (.imul, 1) := by decide +kernel
theorem dX4_hasClause_77 : decode cX4_hasClause 77 = .ok (.iload_n 3, 1) := by decide +kernel
theorem dX4_hasClause_78 : decode cX4_hasClause 78 = .ok (.iadd, 1) := by decide +kernel
theorem dX4_hasClause_79 : decode cX4_hasClause 79 = .ok (.dup2, 1) := by decide +kernel
theorem dX4_hasClause_80 : decode cX4_hasClause 80 = .ok (.iaload, 1) := by decide +kernel
theorem dX4_hasClause_81 : decode cX4_hasClause 81 = .ok (.iload 4, 2) := by decide +kernel
theorem dX4_hasClause_83 : decode cX4_hasClause 83 = .ok (.iadd, 1) := by decide +kernel
theorem dX4_hasClause_84 : decode cX4_hasClause 84 = .ok (.iastore, 1) := by decide +kernel
theorem dX4_hasClause_85 : decode cX4_hasClause 85 = .ok (.iconst 1, 1) := by decide +kernel
theorem dX4_hasClause_86 : decode cX4_hasClause 86 = .ok (.ireturn, 1) := by decide +kernel
theorem dX4_hasClause_62 : decode cX4_hasClause 62 = .ok (.iconst 0, 1) := by decide +kernel
theorem dX4_hasClause_63 : decode cX4_hasClause 63 = .ok (.ireturn, 1) := by decide +kernel
theorem dX4_hasClause_39 : decode cX4_hasClause 39 = .ok (.iconst 0, 1) := by decide +kernel
theorem dX4_hasClause_40 : decode cX4_hasClause 40 = .ok (.ireturn, 1) := by decide +kernel
theorem mv_X4_mostMore : MV RX4 yX4_mostMore cX4_mostMore 5 (some .int) 2 := ⟨mw_3_217, mp_1_13, mw_1_3, mw_3_218, ⟨rfl, by decide, by decide, by decide +kernel⟩⟩
set_option maxHeartbeats 4000000 in
set_option maxRecDepth 100000 in
theorem cy_X4_hasClause (l : Launch) (D : va_G) (cA : Nat → ClassId) (L : List Nat) (T : Nat → Nat) (r : Rg) (hG : GR L T r) (hL : L.Nodup) (σ : Sg) (ρ : Lg) (hW : WT L ry T σ) (sz : Nat) (h0 : Nat) (mh0 : h0 ∈ L) (th0 : T h0 = 4) (h1 : Nat) (mh1 : h1 ∈ L) (th1 : T h1 = 9) (bh : Nat) (hbh : r h0 0 = some bh) (mbh : bh ∈ L) (tbh : T bh = 17) : Met l yX4_hasClause (.code yX4_hasClause cX4_hasClause 5 (some .boolean) :: wsA) ({ frames := 2, cells := 0, slots := 0, locals := 64 }) (PR D cA L T r σ ρ sz [.ref h0, .ref h1]) (QI D cA L T r ry [(4, 1), (9, 6), (117, 1000)] σ sz (fun x σ1 => (0 ≤ x.toInt ∧ x.toInt ≤ 1))) 0 0 (dm L sz) := by
  refine Met.ofW (cc := cX4_hasClause) (maxL := 5) (ret := (some .boolean)) (by decide) rfl ?_
  intro p e s m args below meth c s₁ B hml hv
  obtain ⟨rfl, hsz, hP, hK, hN⟩ := hv
  have hx := B.exec
  have hb := B.bytes
  have hr := B.returns
  have hts : ∀ w ∈ wsA, w.before _ s = true := fun w h => atoms_spec (ws := .code yX4_hasClause cX4_hasClause 5 (some .boolean) :: wsA) B.pre w (List.mem_cons_of_mem _ h)
  have hown : s.vm.findClass RX4 = some m.cls := findClass_of_methodNamed B.named
  subst hsz
  have hLA : LA (dm L s.heap.size) L := ⟨hL, fun a h => Or.inl h⟩
  have hA : ∀ q : Nat, s.heap.size ≤ q → dm L s.heap.size q := fun q h => Or.inr h
  have hS : va_S (dm L s.heap.size) s.heap s.heap [] := va_S.rf
  have hB : TS D cA L T r ry [(4, 1), (9, 6), (117, 1000)] σ σ ρ s.heap := ⟨hP, hW, FR.rf⟩
  have hl := lv_entry ([.ref h0, .ref h1]) (n := 5) (Nat.le_of_ble_eq_true rfl)
  rw [lg_entry_eq]
  generalize (lg_sl ([.ref h0, .ref h1]) ++ List.replicate (5 - (lg_sl ([.ref h0, .ref h1])).length) Slot.unset).toArray = ls at hl ⊢
  have hl : lv_has ls 5 [(0, .ref h0), (1, .ref h1)] := hl
  have w_1 : 0 ≤ (σ bh 8).toInt ∧ (σ bh 8).toInt ≤ 5 := by have z := hB.2.1 bh mbh 8; rw [tbh] at z; exact z
  have w_2 : 0 ≤ (σ bh 10).toInt ∧ (σ bh 10).toInt ≤ 4 := by have z := hB.2.1 bh mbh 10; rw [tbh] at z; exact z
  refine lv_aload_n hx hb dX4_hasClause_0 rfl (lv_at hl 0 rfl) ?_
  refine lv_aload_n hx hb dX4_hasClause_1 rfl (lv_at hl 1 rfl) ?_
  refine lv_iconst (v := 0) hx hb dX4_hasClause_2 (by decide) ?_
  refine lv_aload_n hx hb dX4_hasClause_3 rfl (lv_at hl 0 rfl) ?_
  refine t_gk hx hb hts hown hK hB mh0 th0 fq_4_0 hbh mw_1_213 dX4_hasClause_4 ?_
  refine t_gv hx hb hts hown hK hB mbh tbh fi_17_10 rfl mw_1_187 dX4_hasClause_7 ?_
  refine lv_iconst (v := 1) hx hb dX4_hasClause_10 (by decide) ?_
  refine lv_isub hx hb dX4_hasClause_11 ?_
  refine lv_topi (fun x_3 ex_3 => ?_)
  have vx_3 := b_sub (rfl : (σ bh 10).toInt = _) (by decide : (1 : Int32).toInt = 1) ex_3 (by omega) (by omega)
  refine t_ci (va_runV (As := [.ref h1, .int 0, .int x_3]) (rest := []) ⟨hx, hb, hml, hown, hts⟩ (cy_X4_number l D cA L T r hG hLA.1 σ ρ hB.2.1 _ h0 mh0 th0 h1 mh1 th1 0 x_3) (cV hts mv_X4_number mw_3_195 rfl rfl ⟨Nat.le_of_ble_eq_true rfl, Nat.le_of_ble_eq_true rfl⟩) (pV hB.1 hK hN mh0 th0 (show shp cA 4 _ _ _ = .inr (4, Fs4 _ _ _) from rfl) rfl) rfl rfl hl.1 rfl (lv_room (Nat.le_of_ble_eq_true rfl)) dX4_hasClause_12 ⟨Nat.le_of_ble_eq_true rfl, Nat.le_of_ble_eq_true rfl⟩) hLA hA hB hS (by decide) (fun x_6 σ_4 ρ_5 H locs hB fσ_4 pσ_4 hS => ?_)
  have nx_6p2 : (0 : Int32).toInt = 0 := by decide
  refine lv_istore_n (lv' := [(2, .int x_6), (0, .ref h0), (1, .ref h1)]) hx hb dX4_hasClause_15 rfl hl (by decide) rfl (fun ls hl => ?_)
  refine lv_aload_n hx hb dX4_hasClause_16 rfl (lv_at hl 1 rfl) ?_
  refine lv_aload_n hx hb dX4_hasClause_17 rfl (lv_at hl 2 rfl) ?_
  refine lv_iconst (v := 0) hx hb dX4_hasClause_18 (by decide) ?_
  refine lv_aload_n hx hb dX4_hasClause_19 rfl (lv_at hl 1 rfl) ?_
  refine t_gk hx hb hts hown hK hB mh0 th0 fq_4_0 hbh mw_1_213 dX4_hasClause_20 ?_
  have k_7 : σ_4 bh 8 = (σ bh 8) := (FR.at fσ_4 tbh (by decide)).trans rfl
  refine t_gv hx hb hts hown hK hB mbh tbh fi_17_8 k_7 mw_1_175 dX4_hasClause_23 ?_
  refine lv_iconst (v := 1) hx hb dX4_hasClause_26 (by decide) ?_
  refine lv_isub hx hb dX4_hasClause_27 ?_
  refine lv_topi (fun x_8 ex_8 => ?_)
  have vx_8 := b_sub (rfl : (σ bh 8).toInt = _) (by decide : (1 : Int32).toInt = 1) ex_8 (by omega) (by omega)
  refine t_ci (va_runV (As := [.ref h1, .int 0, .int x_8]) (rest := []) ⟨hx, hb, hml, hown, hts⟩ (cy_X4_number l D cA L T r hG hLA.1 σ_4 ρ_5 hB.2.1 _ h0 mh0 th0 h1 mh1 th1 0 x_8) (cV hts mv_X4_number mw_3_195 rfl rfl ⟨Nat.le_of_ble_eq_true rfl, Nat.le_of_ble_eq_true rfl⟩) (pV hB.1 hK hN mh0 th0 (show shp cA 4 _ _ _ = .inr (4, Fs4 _ _ _) from rfl) rfl) rfl rfl hl.1 rfl (lv_room (Nat.le_of_ble_eq_true rfl)) dX4_hasClause_28 ⟨Nat.le_of_ble_eq_true rfl, Nat.le_of_ble_eq_true rfl⟩) hLA hA hB hS (by decide) (fun x_11 σ_9 ρ_10 H locs hB fσ_9 pσ_9 hS => ?_)
  have nx_11p2 : (0 : Int32).toInt = 0 := by decide
  refine lv_istore_n (lv' := [(3, .int x_11), (2, .int x_6), (0, .ref h0), (1, .ref h1)]) hx hb dX4_hasClause_31 rfl hl (by decide) rfl (fun ls hl => ?_)
  refine lv_aload_n hx hb dX4_hasClause_32 rfl (lv_at hl 3 rfl) ?_
  refine t_gi hx hb hts hown hK hB mh1 th1 fi_9_6 rfl mw_1_44 dX4_hasClause_33 (fun x_12 ex_12 lx_12 ux_12 => ?_)
  have cx_12 := congrArg Int32.toInt ex_12
  refine lv_if_eq (tgt := 41) hx hb dX4_hasClause_36 (by decide) (fun c_13 => ?_) (fun c_13 => ?_)
  · skip
    have uc_13 := i_eq (n := 0) (by decide) c_13
    refine lv_aload_n hx hb dX4_hasClause_41 rfl (lv_at hl 2 rfl) ?_
    refine lv_aload_n hx hb dX4_hasClause_42 rfl (lv_at hl 3 rfl) ?_
    refine lv_iconst (v := 1) hx hb dX4_hasClause_43 (by decide) ?_
    refine lv_aload_n hx hb dX4_hasClause_44 rfl (lv_at hl 2 rfl) ?_
    refine lv_iload_n hx hb dX4_hasClause_45 rfl (lv_at hl 1 rfl) ?_
    refine lv_iload_n hx hb dX4_hasClause_46 rfl (lv_at hl 0 rfl) ?_
    refine t_ci (va_runV (As := [.int x_6, .int x_11]) (rest := [.int 1, .ref h1, .ref h0]) ⟨hx, hb, hml, hown, hts⟩ (cy_X4_mostMore l D cA L T r hG hLA.1 σ_9 ρ_10 hB.2.1 _ h0 mh0 th0 x_6 x_11 (by first | omega | decide) (by first | omega | decide) (by first | omega | decide) (by first | omega | decide)) (cV hts mv_X4_mostMore mw_3_215 rfl rfl ⟨Nat.le_of_ble_eq_true rfl, Nat.le_of_ble_eq_true rfl⟩) (pV hB.1 hK hN mh0 th0 (show shp cA 4 _ _ _ = .inr (4, Fs4 _ _ _) from rfl) rfl) rfl rfl hl.1 rfl (lv_room (Nat.le_of_ble_eq_true rfl)) dX4_hasClause_47 ⟨Nat.le_of_ble_eq_true rfl, Nat.le_of_ble_eq_true rfl⟩) hLA hA hB hS (by decide) (fun x_16 σ_14 ρ_15 H locs hB fσ_14 pσ_14 hS => ?_)
    have qσ_14 := FR.nil fσ_14
    subst qσ_14
    refine t_ci (va_runV (As := [.ref h1, .int 1, .int x_16]) (rest := []) ⟨hx, hb, hml, hown, hts⟩ (cy_X4_number l D cA L T r hG hLA.1 σ_9 ρ_15 hB.2.1 _ h0 mh0 th0 h1 mh1 th1 1 x_16) (cV hts mv_X4_number mw_3_195 rfl rfl ⟨Nat.le_of_ble_eq_true rfl, Nat.le_of_ble_eq_true rfl⟩) (pV hB.1 hK hN mh0 th0 (show shp cA 4 _ _ _ = .inr (4, Fs4 _ _ _) from rfl) rfl) rfl rfl hl.1 rfl (lv_room (Nat.le_of_ble_eq_true rfl)) dX4_hasClause_50 ⟨Nat.le_of_ble_eq_true rfl, Nat.le_of_ble_eq_true rfl⟩) hLA hA hB hS (by decide) (fun x_19 σ_17 ρ_18 H locs hB fσ_17 pσ_17 hS => ?_)
    have nx_19p2 : (1 : Int32).toInt = 1 := by decide
    refine lv_istore (lv' := [(4, .int x_19), (3, .int x_11), (2, .int x_6), (0, .ref h0), (1, .ref h1)]) hx hb dX4_hasClause_53 hl (by decide) rfl (fun ls hl => ?_)
    refine lv_aload_n hx hb dX4_hasClause_55 rfl (lv_at hl 4 rfl) ?_
    refine t_gi hx hb hts hown hK hB mh1 th1 fi_9_6 rfl mw_1_44 dX4_hasClause_56 (fun x_20 ex_20 lx_20 ux_20 => ?_)
    have cx_20 := congrArg Int32.toInt ex_20
    refine lv_if_eq (tgt := 64) hx hb dX4_hasClause_59 (by decide) (fun c_21 => ?_) (fun c_21 => ?_)
    · skip
      have uc_21 := i_eq (n := 0) (by decide) c_21
      refine lv_aload_n hx hb dX4_hasClause_64 rfl (lv_at hl 3 rfl) ?_
      refine t_gk hx hb hts hown hK hB mh0 th0 fq_4_0 hbh mw_1_213 dX4_hasClause_65 ?_
      refine t_gr hx hb hts hown hK hG hB mbh tbh fq_17_5 rfl mw_1_161 dX4_hasClause_68 (fun b_22 hb_22 mb_22 tb_22 => ?_)
      refine t_gr hx hb hts hown hK hG hB mb_22 tb_22 fq_101_4 rfl mw_1_99 dX4_hasClause_71 (fun b_23 hb_23 mb_23 tb_23 => ?_)
      refine lv_iload_n hx hb dX4_hasClause_74 rfl (lv_at hl 2 rfl) ?_
      refine lv_iconst (v := 5) hx hb dX4_hasClause_75 (by decide) ?_
      refine lv_imul hx hb dX4_hasClause_76 ?_
      refine lv_topi (fun x_24 ex_24 => ?_)
      try have vx_24 := b_mul (rfl : x_6.toInt = _) (by decide : (5 : Int32).toInt = 5) ex_24 (by omega) (by omega)
      refine lv_iload_n hx hb dX4_hasClause_77 rfl (lv_at hl 1 rfl) ?_
      refine lv_iadd hx hb dX4_hasClause_78 ?_
      refine lv_topi (fun x_25 ex_25 => ?_)
      try have vx_25 := b_add (rfl : x_24.toInt = _) (rfl : x_11.toInt = _) ex_25 (by omega) (by omega)
      refine lv_dup2_11 hx hb dX4_hasClause_79 rfl rfl ?_
      refine t_ai hx hb hK hB mb_23 tb_23 ai_117 (fun _ => rfl) (i_in (by omega) (by omega)) dX4_hasClause_80 (fun x_26 ex_26 lx_26 ux_26 => ?_)
      have cx_26 := congrArg Int32.toInt ex_26
      refine lv_iload hx hb dX4_hasClause_81 (lv_at hl 0 rfl) ?_
      refine lv_iadd hx hb dX4_hasClause_83 ?_
      refine lv_topi (fun x_27 ex_27 => ?_)
      try have vx_27 := b_add (rfl : x_26.toInt = _) (rfl : x_19.toInt = _) ex_27 (by omega) (by omega)
      refine t_si hx hb hK hLA hB hS mb_23 tb_23 ai_117 (i_in (by omega) (by omega)) (i_lo _) (i_hi _) (Or.inr (by decide)) dX4_hasClause_84 (fun H locs σ_28 eσ_28 hB hS => ?_)
      have k_29 : σ_28 b_23 x_25.toNatClampNeg = x_27 := by rw [eσ_28]; exact up2_same _ _ _ _
      refine lv_iconst (v := 1) hx hb dX4_hasClause_85 (by decide) ?_
      exact W.zret (v := 1) hx hb hr rfl (fun t ht hW => ⟨⟨1, (σ_28, ρ_18), rfl, ⟨hB.2.1, hB.2.2, (show 0 ≤ (1 : Int32).toInt ∧ (1 : Int32).toInt ≤ 1 from ⟨by decide, by decide⟩)⟩, (show TP D cA L T r σ_28 ρ_18 t.heap from by rw [ht]; exact hB.1)⟩, hS.F ht⟩) hS.2.2 dX4_hasClause_86
    · skip
      have uc_21 := i_ne (n := 0) (by decide) c_21
      refine lv_iconst (v := 0) hx hb dX4_hasClause_62 (by decide) ?_
      exact W.zret (v := 0) hx hb hr rfl (fun t ht hW => ⟨⟨0, (σ_17, ρ_18), rfl, ⟨hB.2.1, hB.2.2, (show 0 ≤ (0 : Int32).toInt ∧ (0 : Int32).toInt ≤ 1 from ⟨by decide, by decide⟩)⟩, (show TP D cA L T r σ_17 ρ_18 t.heap from by rw [ht]; exact hB.1)⟩, hS.F ht⟩) hS.2.2 dX4_hasClause_63
  · skip
    have uc_13 := i_ne (n := 0) (by decide) c_13
    refine lv_iconst (v := 0) hx hb dX4_hasClause_39 (by decide) ?_
    exact W.zret (v := 0) hx hb hr rfl (fun t ht hW => ⟨⟨0, (σ_9, ρ_10), rfl, ⟨hB.2.1, hB.2.2, (show 0 ≤ (0 : Int32).toInt ∧ (0 : Int32).toInt ≤ 1 from ⟨by decide, by decide⟩)⟩, (show TP D cA L T r σ_9 ρ_10 t.heap from by rw [ht]; exact hB.1)⟩, hS.F ht⟩) hS.2.2 dX4_hasClause_40
theorem mw_1_104 : (.fieldLink RX4 134 "HillBends$Scene" "heap" "[I" : Cond) ∈ wsA := wsA_t (List.mem_append_left _ (List.mem_of_getElem? (l := tables_1_1) (i := 104) rfl)) rfl
theorem dX4_heapClause_0 : decode cX4_heapClause 0 = .ok (.aload_n 0, 1) := by decide +kernel
theorem dX4_heapClause_1 : decode cX4_heapClause 1 = .ok (.aload_n 1, 1) := by decide +kernel
theorem dX4_heapClause_2 : decode cX4_heapClause 2 = .ok (.iconst 0, 1) := by decide +kernel
theorem dX4_heapClause_3 : decode cX4_heapClause 3 = .ok (.aload_n 0, 1) := by decide +kernel
theorem dX4_heapClause_4 : decode cX4_heapClause 4 = .ok (.getfield 12, 3) := by decide +kernel
theorem dX4_heapClause_7 : decode cX4_heapClause 7 = .ok (.getfield 77, 3) := by decide +kernel
theorem dX4_heapClause_10 : decode cX4_heapClause 10 = .ok (.iconst 1, 1) := by decide +kernel
theorem dX4_heapClause_11 : decode cX4_heapClause 11 = .ok (.isub, 1) := by decide +kernel
theorem dX4_heapClause_12 : decode cX4_heapClause 12 = .ok (.invokevirtual 83, 3) := by decide +kernel
theorem dX4_heapClause_15 : decode cX4_heapClause 15 = .ok (.istore_n 2, 1) := by decide +kernel
theorem dX4_heapClause_16 : decode cX4_heapClause 16 = .ok (.aload_n 0, 1) := by decide +kernel
theorem dX4_heapClause_17 : decode cX4_heapClause 17 = .ok (.aload_n 1, 1) := by decide +kernel
theorem dX4_heapClause_18 : decode cX4_heapClause 18 = .ok (.iconst 0, 1) := by decide +kernel
theorem dX4_heapClause_19 : decode cX4_heapClause 19 = .ok (.aload_n 0, 1) := by decide +kernel
theorem dX4_heapClause_20 : decode cX4_heapClause 20 = .ok (.getfield 12, 3) := by decide +kernel
theorem dX4_heapClause_23 : decode cX4_heapClause 23 = .ok (.getfield 74, 3) := by decide +kernel
theorem dX4_heapClause_26 : decode cX4_heapClause 26 = .ok (.iconst 1, 1) := by decide +kernel
theorem dX4_heapClause_27 : decode cX4_heapClause 27 = .ok (.isub, 1) := by decide +kernel
theorem dX4_heapClause_28 : decode cX4_heapClause 28 = .ok (.invokevirtual 83, 3) := by decide +kernel
theorem dX4_heapClause_31 : decode cX4_heapClause 31 = .ok (.istore_n 3, 1) := by decide +kernel
theorem dX4_heapClause_32 : decode cX4_heapClause 32 = .ok (.aload_n 0, 1) := by decide +kernel
theorem dX4_heapClause_33 : decode cX4_heapClause 33 = .ok (.aload_n 1, 1) := by decide +kernel
theorem dX4_heapClause_34 : decode cX4_heapClause 34 = .ok (.iconst 0, 1) := by decide +kernel
theorem dX4_heapClause_35 : decode cX4_heapClause 35 = .ok (.bipush 9, 2) := by decide +kernel
theorem dX4_heapClause_37 : decode cX4_heapClause 37 = .ok (.invokevirtual 83, 3) := by decide +kernel
theorem dX4_heapClause_40 : decode cX4_heapClause 40 = .ok (.istore 4, 2) := by decide +kernel
theorem dX4_heapClause_42 : decode cX4_heapClause 42 = .ok (.aload_n 1, 1) := by decide +kernel
theorem dX4_heapClause_43 : decode cX4_heapClause 43 = .ok (.getfield 45, 3) := by decide +kernel
theorem dX4_heapClause_46 : decode cX4_heapClause 46 = .ok (.ifCond .eq 5, 3) := by decide +kernel
theorem dX4_heapClause_51 : decode cX4_heapClause 51 = .ok (.aload_n 0, 1) := by decide +kernel
theorem dX4_heapClause_52 : decode cX4_heapClause 52 = .ok (.getfield 12, 3) := by decide +kernel
theorem dX4_heapClause_55 : decode cX4_heapClause 55 = .ok (.getfield 106, 3) := by decide +kernel
theorem dX4_heapClause_58 : decode cX4_heapClause 58 = .ok (.getfield 134, 3) := by decide +kernel
theorem dX4_heapClause_61 : decode cX4_heapClause 61 = .ok (.iload_n 2, 1) := by decide +kernel
theorem dX4_heapClause_62 : decode cX4_heapClause 62 = .ok (.iconst 5, 1) := by decide +kernel
theorem dX4_heapClause_63 : decode cX4_heapClause 63 = .ok (.imul, 1) := by decide +kernel
theorem dX4_heapClause_64 : decode cX4_heapClause 64 = .ok (.iload_n 3, 1) := by decide +kernel
theorem dX4_heapClause_65 : decode cX4_heapClause 65 = .ok (.iadd, 1) := by decide +kernel
theorem dX4_heapClause_66 : decode cX4_heapClause 66 = .ok (.iload 4, 2) := by decide +kernel
theorem dX4_heapClause_68 : decode cX4_heapClause 68 = .ok (.iastore, 1) := by decide +kernel
theorem dX4_heapClause_69 : decode cX4_heapClause 69 = .ok (.iconst 1, 1) := by decide +kernel
theorem dX4_heapClause_70 : decode cX4_heapClause 70 = .ok (.ireturn, 1) := by decide +kernel
theorem dX4_heapClause_49 : decode cX4_heapClause 49 = .ok (.iconst 0, 1) := by decide +kernel
theorem dX4_heapClause_50 : decode cX4_heapClause 50 = .ok (.ireturn, 1) := by decide +kernel
set_option maxHeartbeats 4000000 in
set_option maxRecDepth 100000 in
theorem cy_X4_heapClause (l : Launch) (D : va_G) (cA : Nat → ClassId) (L : List Nat) (T : Nat → Nat) (r : Rg) (hG : GR L T r) (hL : L.Nodup) (σ : Sg) (ρ : Lg) (hW : WT L ry T σ) (sz : Nat) (h0 : Nat) (mh0 : h0 ∈ L) (th0 : T h0 = 4) (h1 : Nat) (mh1 : h1 ∈ L) (th1 : T h1 = 9) (bh : Nat) (hbh : r h0 0 = some bh) (mbh : bh ∈ L) (tbh : T bh = 17) : Met l yX4_heapClause (.code yX4_heapClause cX4_heapClause 5 (some .boolean) :: wsA) ({ frames := 2, cells := 0, slots := 0, locals := 47 }) (PR D cA L T r σ ρ sz [.ref h0, .ref h1]) (QI D cA L T r ry [(4, 1), (9, 6), (118, 1000)] σ sz (fun x σ1 => (0 ≤ x.toInt ∧ x.toInt ≤ 1))) 0 0 (dm L sz) := by
  refine Met.ofW (cc := cX4_heapClause) (maxL := 5) (ret := (some .boolean)) (by decide) rfl ?_
  intro p e s m args below meth c s₁ B hml hv
  obtain ⟨rfl, hsz, hP, hK, hN⟩ := hv
  have hx := B.exec
  have hb := B.bytes
  have hr := B.returns
  have hts : ∀ w ∈ wsA, w.before _ s = true := fun w h => atoms_spec (ws := .code yX4_heapClause cX4_heapClause 5 (some .boolean) :: wsA) B.pre w (List.mem_cons_of_mem _ h)
  have hown : s.vm.findClass RX4 = some m.cls := findClass_of_methodNamed B.named
  subst hsz
  have hLA : LA (dm L s.heap.size) L := ⟨hL, fun a h => Or.inl h⟩
  have hA : ∀ q : Nat, s.heap.size ≤ q → dm L s.heap.size q := fun q h => Or.inr h
  have hS : va_S (dm L s.heap.size) s.heap s.heap [] := va_S.rf
  have hB : TS D cA L T r ry [(4, 1), (9, 6), (118, 1000)] σ σ ρ s.heap := ⟨hP, hW, FR.rf⟩
  have hl := lv_entry ([.ref h0, .ref h1]) (n := 5) (Nat.le_of_ble_eq_true rfl)
  rw [lg_entry_eq]
  generalize (lg_sl ([.ref h0, .ref h1]) ++ List.replicate (5 - (lg_sl ([.ref h0, .ref h1])).length) Slot.unset).toArray = ls at hl ⊢
  have hl : lv_has ls 5 [(0, .ref h0), (1, .ref h1)] := hl
  have w_1 : 0 ≤ (σ bh 8).toInt ∧ (σ bh 8).toInt ≤ 5 := by have z := hB.2.1 bh mbh 8; rw [tbh] at z; exact z
  have w_2 : 0 ≤ (σ bh 9).toInt ∧ (σ bh 9).toInt ≤ 8 := by have z := hB.2.1 bh mbh 9; rw [tbh] at z; exact z
  refine lv_aload_n hx hb dX4_heapClause_0 rfl (lv_at hl 0 rfl) ?_
  refine lv_aload_n hx hb dX4_heapClause_1 rfl (lv_at hl 1 rfl) ?_
  refine lv_iconst (v := 0) hx hb dX4_heapClause_2 (by decide) ?_
  refine lv_aload_n hx hb dX4_heapClause_3 rfl (lv_at hl 0 rfl) ?_
  refine t_gk hx hb hts hown hK hB mh0 th0 fq_4_0 hbh mw_1_213 dX4_heapClause_4 ?_
  refine t_gv hx hb hts hown hK hB mbh tbh fi_17_9 rfl mw_1_181 dX4_heapClause_7 ?_
  refine lv_iconst (v := 1) hx hb dX4_heapClause_10 (by decide) ?_
  refine lv_isub hx hb dX4_heapClause_11 ?_
  refine lv_topi (fun x_3 ex_3 => ?_)
  have vx_3 := b_sub (rfl : (σ bh 9).toInt = _) (by decide : (1 : Int32).toInt = 1) ex_3 (by omega) (by omega)
  refine t_ci (va_runV (As := [.ref h1, .int 0, .int x_3]) (rest := []) ⟨hx, hb, hml, hown, hts⟩ (cy_X4_number l D cA L T r hG hLA.1 σ ρ hB.2.1 _ h0 mh0 th0 h1 mh1 th1 0 x_3) (cV hts mv_X4_number mw_3_195 rfl rfl ⟨Nat.le_of_ble_eq_true rfl, Nat.le_of_ble_eq_true rfl⟩) (pV hB.1 hK hN mh0 th0 (show shp cA 4 _ _ _ = .inr (4, Fs4 _ _ _) from rfl) rfl) rfl rfl hl.1 rfl (lv_room (Nat.le_of_ble_eq_true rfl)) dX4_heapClause_12 ⟨Nat.le_of_ble_eq_true rfl, Nat.le_of_ble_eq_true rfl⟩) hLA hA hB hS (by decide) (fun x_6 σ_4 ρ_5 H locs hB fσ_4 pσ_4 hS => ?_)
  have nx_6p2 : (0 : Int32).toInt = 0 := by decide
  refine lv_istore_n (lv' := [(2, .int x_6), (0, .ref h0), (1, .ref h1)]) hx hb dX4_heapClause_15 rfl hl (by decide) rfl (fun ls hl => ?_)
  refine lv_aload_n hx hb dX4_heapClause_16 rfl (lv_at hl 1 rfl) ?_
  refine lv_aload_n hx hb dX4_heapClause_17 rfl (lv_at hl 2 rfl) ?_
  refine lv_iconst (v := 0) hx hb dX4_heapClause_18 (by decide) ?_
  refine lv_aload_n hx hb dX4_heapClause_19 rfl (lv_at hl 1 rfl) ?_
  refine t_gk hx hb hts hown hK hB mh0 th0 fq_4_0 hbh mw_1_213 dX4_heapClause_20 ?_
  have k_7 : σ_4 bh 8 = (σ bh 8) := (FR.at fσ_4 tbh (by decide)).trans rfl
  refine t_gv hx hb hts hown hK hB mbh tbh fi_17_8 k_7 mw_1_175 dX4_heapClause_23 ?_
  refine lv_iconst (v := 1) hx hb dX4_heapClause_26 (by decide) ?_
  refine lv_isub hx hb dX4_heapClause_27 ?_
  refine lv_topi (fun x_8 ex_8 => ?_)
  have vx_8 := b_sub (rfl : (σ bh 8).toInt = _) (by decide : (1 : Int32).toInt = 1) ex_8 (by omega) (by omega)
  refine t_ci (va_runV (As := [.ref h1, .int 0, .int x_8]) (rest := []) ⟨hx, hb, hml, hown, hts⟩ (cy_X4_number l D cA L T r hG hLA.1 σ_4 ρ_5 hB.2.1 _ h0 mh0 th0 h1 mh1 th1 0 x_8) (cV hts mv_X4_number mw_3_195 rfl rfl ⟨Nat.le_of_ble_eq_true rfl, Nat.le_of_ble_eq_true rfl⟩) (pV hB.1 hK hN mh0 th0 (show shp cA 4 _ _ _ = .inr (4, Fs4 _ _ _) from rfl) rfl) rfl rfl hl.1 rfl (lv_room (Nat.le_of_ble_eq_true rfl)) dX4_heapClause_28 ⟨Nat.le_of_ble_eq_true rfl, Nat.le_of_ble_eq_true rfl⟩) hLA hA hB hS (by decide) (fun x_11 σ_9 ρ_10 H locs hB fσ_9 pσ_9 hS => ?_)
  have nx_11p2 : (0 : Int32).toInt = 0 := by decide
  refine lv_istore_n (lv' := [(3, .int x_11), (2, .int x_6), (0, .ref h0), (1, .ref h1)]) hx hb dX4_heapClause_31 rfl hl (by decide) rfl (fun ls hl => ?_)
  refine lv_aload_n hx hb dX4_heapClause_32 rfl (lv_at hl 2 rfl) ?_
  refine lv_aload_n hx hb dX4_heapClause_33 rfl (lv_at hl 3 rfl) ?_
  refine lv_iconst (v := 0) hx hb dX4_heapClause_34 (by decide) ?_
  refine lv_bipush (v := 9) hx hb dX4_heapClause_35 (by decide) ?_
  refine t_ci (va_runV (As := [.ref h1, .int 0, .int 9]) (rest := []) ⟨hx, hb, hml, hown, hts⟩ (cy_X4_number l D cA L T r hG hLA.1 σ_9 ρ_10 hB.2.1 _ h0 mh0 th0 h1 mh1 th1 0 9) (cV hts mv_X4_number mw_3_195 rfl rfl ⟨Nat.le_of_ble_eq_true rfl, Nat.le_of_ble_eq_true rfl⟩) (pV hB.1 hK hN mh0 th0 (show shp cA 4 _ _ _ = .inr (4, Fs4 _ _ _) from rfl) rfl) rfl rfl hl.1 rfl (lv_room (Nat.le_of_ble_eq_true rfl)) dX4_heapClause_37 ⟨Nat.le_of_ble_eq_true rfl, Nat.le_of_ble_eq_true rfl⟩) hLA hA hB hS (by decide) (fun x_14 σ_12 ρ_13 H locs hB fσ_12 pσ_12 hS => ?_)
  have nx_14p2 : (0 : Int32).toInt = 0 := by decide
  have nx_14p3 : (9 : Int32).toInt = 9 := by decide
  refine lv_istore (lv' := [(4, .int x_14), (3, .int x_11), (2, .int x_6), (0, .ref h0), (1, .ref h1)]) hx hb dX4_heapClause_40 hl (by decide) rfl (fun ls hl => ?_)
  refine lv_aload_n hx hb dX4_heapClause_42 rfl (lv_at hl 4 rfl) ?_
  refine t_gi hx hb hts hown hK hB mh1 th1 fi_9_6 rfl mw_1_44 dX4_heapClause_43 (fun x_15 ex_15 lx_15 ux_15 => ?_)
  have cx_15 := congrArg Int32.toInt ex_15
  refine lv_if_eq (tgt := 51) hx hb dX4_heapClause_46 (by decide) (fun c_16 => ?_) (fun c_16 => ?_)
  · skip
    have uc_16 := i_eq (n := 0) (by decide) c_16
    refine lv_aload_n hx hb dX4_heapClause_51 rfl (lv_at hl 3 rfl) ?_
    refine t_gk hx hb hts hown hK hB mh0 th0 fq_4_0 hbh mw_1_213 dX4_heapClause_52 ?_
    refine t_gr hx hb hts hown hK hG hB mbh tbh fq_17_5 rfl mw_1_161 dX4_heapClause_55 (fun b_17 hb_17 mb_17 tb_17 => ?_)
    refine t_gr hx hb hts hown hK hG hB mb_17 tb_17 fq_101_5 rfl mw_1_104 dX4_heapClause_58 (fun b_18 hb_18 mb_18 tb_18 => ?_)
    refine lv_iload_n hx hb dX4_heapClause_61 rfl (lv_at hl 2 rfl) ?_
    refine lv_iconst (v := 5) hx hb dX4_heapClause_62 (by decide) ?_
    refine lv_imul hx hb dX4_heapClause_63 ?_
    refine lv_topi (fun x_19 ex_19 => ?_)
    try have vx_19 := b_mul (rfl : x_6.toInt = _) (by decide : (5 : Int32).toInt = 5) ex_19 (by omega) (by omega)
    refine lv_iload_n hx hb dX4_heapClause_64 rfl (lv_at hl 1 rfl) ?_
    refine lv_iadd hx hb dX4_heapClause_65 ?_
    refine lv_topi (fun x_20 ex_20 => ?_)
    try have vx_20 := b_add (rfl : x_19.toInt = _) (rfl : x_11.toInt = _) ex_20 (by omega) (by omega)
    refine lv_iload hx hb dX4_heapClause_66 (lv_at hl 0 rfl) ?_
    refine t_si hx hb hK hLA hB hS mb_18 tb_18 ai_118 (i_in (by omega) (by omega)) (by show 0 ≤ _; (first | omega | (subst_vars; omega))) (by show _ ≤ 99; (first | omega | (subst_vars; omega))) (Or.inr (by decide)) dX4_heapClause_68 (fun H locs σ_21 eσ_21 hB hS => ?_)
    have k_22 : σ_21 b_18 x_20.toNatClampNeg = x_14 := by rw [eσ_21]; exact up2_same _ _ _ _
    refine lv_iconst (v := 1) hx hb dX4_heapClause_69 (by decide) ?_
    exact W.zret (v := 1) hx hb hr rfl (fun t ht hW => ⟨⟨1, (σ_21, ρ_13), rfl, ⟨hB.2.1, hB.2.2, (show 0 ≤ (1 : Int32).toInt ∧ (1 : Int32).toInt ≤ 1 from ⟨by decide, by decide⟩)⟩, (show TP D cA L T r σ_21 ρ_13 t.heap from by rw [ht]; exact hB.1)⟩, hS.F ht⟩) hS.2.2 dX4_heapClause_70
  · skip
    have uc_16 := i_ne (n := 0) (by decide) c_16
    refine lv_iconst (v := 0) hx hb dX4_heapClause_49 (by decide) ?_
    exact W.zret (v := 0) hx hb hr rfl (fun t ht hW => ⟨⟨0, (σ_12, ρ_13), rfl, ⟨hB.2.1, hB.2.2, (show 0 ≤ (0 : Int32).toInt ∧ (0 : Int32).toInt ≤ 1 from ⟨by decide, by decide⟩)⟩, (show TP D cA L T r σ_12 ρ_13 t.heap from by rw [ht]; exact hB.1)⟩, hS.F ht⟩) hS.2.2 dX4_heapClause_50
theorem dX4_isFull_0 : decode cX4_isFull 0 = .ok (.iload_n 1, 1) := by decide +kernel
theorem dX4_isFull_1 : decode cX4_isFull 1 = .ok (.tableswitch 79 1 3 #[27, 44, 62], 27) := by decide +kernel
theorem dX4_isFull_80 : decode cX4_isFull 80 = .ok (.iconst 0, 1) := by decide +kernel
theorem dX4_isFull_81 : decode cX4_isFull 81 = .ok (.ireturn, 1) := by decide +kernel
theorem dX4_isFull_28 : decode cX4_isFull 28 = .ok (.aload_n 0, 1) := by decide +kernel
theorem dX4_isFull_29 : decode cX4_isFull 29 = .ok (.getfield 12, 3) := by decide +kernel
theorem dX4_isFull_32 : decode cX4_isFull 32 = .ok (.getfield 74, 3) := by decide +kernel
theorem dX4_isFull_35 : decode cX4_isFull 35 = .ok (.iconst 5, 1) := by decide +kernel
theorem dX4_isFull_36 : decode cX4_isFull 36 = .ok (.if_icmp .lt 7, 3) := by decide +kernel
theorem dX4_isFull_43 : decode cX4_isFull 43 = .ok (.iconst 0, 1) := by decide +kernel
theorem dX4_isFull_44 : decode cX4_isFull 44 = .ok (.ireturn, 1) := by decide +kernel
theorem dX4_isFull_39 : decode cX4_isFull 39 = .ok (.iconst 1, 1) := by decide +kernel
theorem dX4_isFull_40 : decode cX4_isFull 40 = .ok (.goto 4, 3) := by decide +kernel
theorem dX4_isFull_45 : decode cX4_isFull 45 = .ok (.aload_n 0, 1) := by decide +kernel
theorem dX4_isFull_46 : decode cX4_isFull 46 = .ok (.getfield 12, 3) := by decide +kernel
theorem dX4_isFull_49 : decode cX4_isFull 49 = .ok (.getfield 77, 3) := by decide +kernel
theorem dX4_isFull_52 : decode cX4_isFull 52 = .ok (.bipush 8, 2) := by decide +kernel
theorem dX4_isFull_54 : decode cX4_isFull 54 = .ok (.if_icmp .lt 7, 3) := by decide +kernel
theorem dX4_isFull_61 : decode cX4_isFull 61 = .ok (.iconst 0, 1) := by decide +kernel
theorem dX4_isFull_62 : decode cX4_isFull 62 = .ok (.ireturn, 1) := by decide +kernel
theorem dX4_isFull_57 : decode cX4_isFull 57 = .ok (.iconst 1, 1) := by decide +kernel
theorem dX4_isFull_58 : decode cX4_isFull 58 = .ok (.goto 4, 3) := by decide +kernel
theorem dX4_isFull_63 : decode cX4_isFull 63 = .ok (.aload_n 0, 1) := by decide +kernel
theorem dX4_isFull_64 : decode cX4_isFull 64 = .ok (.getfield 12, 3) := by decide +kernel
theorem dX4_isFull_67 : decode cX4_isFull 67 = .ok (.getfield 80, 3) := by decide +kernel
theorem dX4_isFull_70 : decode cX4_isFull 70 = .ok (.iconst 4, 1) := by decide +kernel
theorem dX4_isFull_71 : decode cX4_isFull 71 = .ok (.if_icmp .lt 7, 3) := by decide +kernel
theorem dX4_isFull_78 : decode cX4_isFull 78 = .ok (.iconst 0, 1) := by decide +kernel
theorem dX4_isFull_79 : decode cX4_isFull 79 = .ok (.ireturn, 1) := by decide +kernel
theorem dX4_isFull_74 : decode cX4_isFull 74 = .ok (.iconst 1, 1) := by decide +kernel
theorem dX4_isFull_75 : decode cX4_isFull 75 = .ok (.goto 4, 3) := by decide +kernel
set_option maxHeartbeats 4000000 in
set_option maxRecDepth 100000 in
theorem cy_X4_isFull (l : Launch) (D : va_G) (cA : Nat → ClassId) (L : List Nat) (T : Nat → Nat) (r : Rg) (hG : GR L T r) (hL : L.Nodup) (σ : Sg) (ρ : Lg) (hW : WT L ry T σ) (sz : Nat) (h0 : Nat) (mh0 : h0 ∈ L) (th0 : T h0 = 4) (p1 : Int32) (bh : Nat) (hbh : r h0 0 = some bh) (mbh : bh ∈ L) (tbh : T bh = 17) : Met l yX4_isFull (.code yX4_isFull cX4_isFull 2 (some .boolean) :: wsA) ({ frames := 0, cells := 0, slots := 0, locals := 0 }) (PR D cA L T r σ ρ sz [.ref h0, .int p1]) (QI D cA L T r ry ([] : List (Nat × Nat)) σ sz (fun x σ1 => (0 ≤ x.toInt ∧ x.toInt ≤ 1) ∧ (x.toInt = 0 → (p1.toInt = 1 → (σ1 bh 8).toInt ≤ 4) ∧ (p1.toInt = 2 → (σ1 bh 9).toInt ≤ 7) ∧ (p1.toInt = 3 → (σ1 bh 10).toInt ≤ 3)))) 0 0 (dm L sz) := by
  refine Met.ofW (cc := cX4_isFull) (maxL := 2) (ret := (some .boolean)) (by decide) rfl ?_
  intro p e s m args below meth c s₁ B hml hv
  obtain ⟨rfl, hsz, hP, hK, hN⟩ := hv
  have hx := B.exec
  have hb := B.bytes
  have hr := B.returns
  have hts : ∀ w ∈ wsA, w.before _ s = true := fun w h => atoms_spec (ws := .code yX4_isFull cX4_isFull 2 (some .boolean) :: wsA) B.pre w (List.mem_cons_of_mem _ h)
  have hown : s.vm.findClass RX4 = some m.cls := findClass_of_methodNamed B.named
  subst hsz
  have hLA : LA (dm L s.heap.size) L := ⟨hL, fun a h => Or.inl h⟩
  have hA : ∀ q : Nat, s.heap.size ≤ q → dm L s.heap.size q := fun q h => Or.inr h
  have hS : va_S (dm L s.heap.size) s.heap s.heap [] := va_S.rf
  have hB : TS D cA L T r ry ([] : List (Nat × Nat)) σ σ ρ s.heap := ⟨hP, hW, FR.rf⟩
  have hl := lv_entry ([.ref h0, .int p1]) (n := 2) (Nat.le_of_ble_eq_true rfl)
  rw [lg_entry_eq]
  generalize (lg_sl ([.ref h0, .int p1]) ++ List.replicate (2 - (lg_sl ([.ref h0, .int p1])).length) Slot.unset).toArray = ls at hl ⊢
  have hl : lv_has ls 2 [(0, .ref h0), (1, .int p1)] := hl
  refine lv_iload_n hx hb dX4_isFull_0 rfl (lv_at hl 1 rfl) ?_
  by_cases c_1 : p1.toInt < 1 ∨ 3 < p1.toInt
  · skip
    refine lv_tableOut (tgt := 80) hx hb dX4_isFull_1 c_1 (by decide) ?_
    refine lv_iconst (v := 0) hx hb dX4_isFull_80 (by decide) ?_
    exact W.zret (v := 0) hx hb hr rfl (fun t ht hW => ⟨⟨0, (σ, ρ), rfl, ⟨hB.2.1, hB.2.2, ⟨(show 0 ≤ (0 : Int32).toInt ∧ (0 : Int32).toInt ≤ 1 from ⟨by decide, by decide⟩), (show (0 : Int32).toInt = 0 → (p1.toInt = 1 → (σ bh 8).toInt ≤ 4) ∧ (p1.toInt = 2 → (σ bh 9).toInt ≤ 7) ∧ (p1.toInt = 3 → (σ bh 10).toInt ≤ 3) from (by omega))⟩⟩, (show TP D cA L T r σ ρ t.heap from by rw [ht]; exact hB.1)⟩, hS.F ht⟩) hS.2.2 dX4_isFull_81
  · skip
    rcases (show p1.toInt = 1 ∨ p1.toInt = 2 ∨ p1.toInt = 3 by omega) with c_1j | c_1j | c_1j
    · skip
      have c_1x : p1 = 1 := i_is (by decide) c_1j
      subst c_1x
      have nnc_1 : (1 : Int32).toInt = 1 := by decide
      refine lv_tableIn (tgt := 28) hx hb dX4_isFull_1 (by decide) (by decide) rfl (by decide) ?_
      refine lv_aload_n hx hb dX4_isFull_28 rfl (lv_at hl 0 rfl) ?_
      refine t_gk hx hb hts hown hK hB mh0 th0 fq_4_0 hbh mw_1_213 dX4_isFull_29 ?_
      refine t_gi hx hb hts hown hK hB mbh tbh fi_17_8 rfl mw_1_175 dX4_isFull_32 (fun x_2 ex_2 lx_2 ux_2 => ?_)
      have cx_2 := congrArg Int32.toInt ex_2
      refine lv_iconst (v := 5) hx hb dX4_isFull_35 (by decide) ?_
      refine lv_icmp_lt (tgt := 43) hx hb dX4_isFull_36 (by decide) (fun c_3 => ?_) (fun c_3 => ?_)
      · skip
        have uc_3 := i_lt (n := 5) (by decide) c_3
        refine lv_iconst (v := 0) hx hb dX4_isFull_43 (by decide) ?_
        exact W.zret (v := 0) hx hb hr rfl (fun t ht hW => ⟨⟨0, (σ, ρ), rfl, ⟨hB.2.1, hB.2.2, ⟨(show 0 ≤ (0 : Int32).toInt ∧ (0 : Int32).toInt ≤ 1 from ⟨by decide, by decide⟩), (show (0 : Int32).toInt = 0 → ((1 : Int32).toInt = 1 → (σ bh 8).toInt ≤ 4) ∧ ((1 : Int32).toInt = 2 → (σ bh 9).toInt ≤ 7) ∧ ((1 : Int32).toInt = 3 → (σ bh 10).toInt ≤ 3) from (fun h => by first | (exact absurd h (by decide)) | (exact ⟨fun g => by first | omega | (exact absurd g (by decide)), fun g => by first | omega | (exact absurd g (by decide)), fun g => by first | omega | (exact absurd g (by decide))⟩)))⟩⟩, (show TP D cA L T r σ ρ t.heap from by rw [ht]; exact hB.1)⟩, hS.F ht⟩) hS.2.2 dX4_isFull_44
      · skip
        have uc_3 := i_nlt (n := 5) (by decide) c_3
        refine lv_iconst (v := 1) hx hb dX4_isFull_39 (by decide) ?_
        refine lv_goto (tgt := 44) hx hb dX4_isFull_40 (by decide) ?_
        exact W.zret (v := 1) hx hb hr rfl (fun t ht hW => ⟨⟨1, (σ, ρ), rfl, ⟨hB.2.1, hB.2.2, ⟨(show 0 ≤ (1 : Int32).toInt ∧ (1 : Int32).toInt ≤ 1 from ⟨by decide, by decide⟩), (show (1 : Int32).toInt = 0 → ((1 : Int32).toInt = 1 → (σ bh 8).toInt ≤ 4) ∧ ((1 : Int32).toInt = 2 → (σ bh 9).toInt ≤ 7) ∧ ((1 : Int32).toInt = 3 → (σ bh 10).toInt ≤ 3) from (fun h => by first | (exact absurd h (by decide)) | (exact ⟨fun g => by first | omega | (exact absurd g (by decide)), fun g => by first | omega | (exact absurd g (by decide)), fun g => by first | omega | (exact absurd g (by decide))⟩)))⟩⟩, (show TP D cA L T r σ ρ t.heap from by rw [ht]; exact hB.1)⟩, hS.F ht⟩) hS.2.2 dX4_isFull_44
    · skip
      have c_1x : p1 = 2 := i_is (by decide) c_1j
      subst c_1x
      have nnc_1 : (2 : Int32).toInt = 2 := by decide
      refine lv_tableIn (tgt := 45) hx hb dX4_isFull_1 (by decide) (by decide) rfl (by decide) ?_
      refine lv_aload_n hx hb dX4_isFull_45 rfl (lv_at hl 0 rfl) ?_
      refine t_gk hx hb hts hown hK hB mh0 th0 fq_4_0 hbh mw_1_213 dX4_isFull_46 ?_
      refine t_gi hx hb hts hown hK hB mbh tbh fi_17_9 rfl mw_1_181 dX4_isFull_49 (fun x_4 ex_4 lx_4 ux_4 => ?_)
      have cx_4 := congrArg Int32.toInt ex_4
      refine lv_bipush (v := 8) hx hb dX4_isFull_52 (by decide) ?_
      refine lv_icmp_lt (tgt := 61) hx hb dX4_isFull_54 (by decide) (fun c_5 => ?_) (fun c_5 => ?_)
      · skip
        have uc_5 := i_lt (n := 8) (by decide) c_5
        refine lv_iconst (v := 0) hx hb dX4_isFull_61 (by decide) ?_
        exact W.zret (v := 0) hx hb hr rfl (fun t ht hW => ⟨⟨0, (σ, ρ), rfl, ⟨hB.2.1, hB.2.2, ⟨(show 0 ≤ (0 : Int32).toInt ∧ (0 : Int32).toInt ≤ 1 from ⟨by decide, by decide⟩), (show (0 : Int32).toInt = 0 → ((2 : Int32).toInt = 1 → (σ bh 8).toInt ≤ 4) ∧ ((2 : Int32).toInt = 2 → (σ bh 9).toInt ≤ 7) ∧ ((2 : Int32).toInt = 3 → (σ bh 10).toInt ≤ 3) from (fun h => by first | (exact absurd h (by decide)) | (exact ⟨fun g => by first | omega | (exact absurd g (by decide)), fun g => by first | omega | (exact absurd g (by decide)), fun g => by first | omega | (exact absurd g (by decide))⟩)))⟩⟩, (show TP D cA L T r σ ρ t.heap from by rw [ht]; exact hB.1)⟩, hS.F ht⟩) hS.2.2 dX4_isFull_62
      · skip
        have uc_5 := i_nlt (n := 8) (by decide) c_5
        refine lv_iconst (v := 1) hx hb dX4_isFull_57 (by decide) ?_
        refine lv_goto (tgt := 62) hx hb dX4_isFull_58 (by decide) ?_
        exact W.zret (v := 1) hx hb hr rfl (fun t ht hW => ⟨⟨1, (σ, ρ), rfl, ⟨hB.2.1, hB.2.2, ⟨(show 0 ≤ (1 : Int32).toInt ∧ (1 : Int32).toInt ≤ 1 from ⟨by decide, by decide⟩), (show (1 : Int32).toInt = 0 → ((2 : Int32).toInt = 1 → (σ bh 8).toInt ≤ 4) ∧ ((2 : Int32).toInt = 2 → (σ bh 9).toInt ≤ 7) ∧ ((2 : Int32).toInt = 3 → (σ bh 10).toInt ≤ 3) from (fun h => by first | (exact absurd h (by decide)) | (exact ⟨fun g => by first | omega | (exact absurd g (by decide)), fun g => by first | omega | (exact absurd g (by decide)), fun g => by first | omega | (exact absurd g (by decide))⟩)))⟩⟩, (show TP D cA L T r σ ρ t.heap from by rw [ht]; exact hB.1)⟩, hS.F ht⟩) hS.2.2 dX4_isFull_62
    · skip
      have c_1x : p1 = 3 := i_is (by decide) c_1j
      subst c_1x
      have nnc_1 : (3 : Int32).toInt = 3 := by decide
      refine lv_tableIn (tgt := 63) hx hb dX4_isFull_1 (by decide) (by decide) rfl (by decide) ?_
      refine lv_aload_n hx hb dX4_isFull_63 rfl (lv_at hl 0 rfl) ?_
      refine t_gk hx hb hts hown hK hB mh0 th0 fq_4_0 hbh mw_1_213 dX4_isFull_64 ?_
      refine t_gi hx hb hts hown hK hB mbh tbh fi_17_10 rfl mw_1_187 dX4_isFull_67 (fun x_6 ex_6 lx_6 ux_6 => ?_)
      have cx_6 := congrArg Int32.toInt ex_6
      refine lv_iconst (v := 4) hx hb dX4_isFull_70 (by decide) ?_
      refine lv_icmp_lt (tgt := 78) hx hb dX4_isFull_71 (by decide) (fun c_7 => ?_) (fun c_7 => ?_)
      · skip
        have uc_7 := i_lt (n := 4) (by decide) c_7
        refine lv_iconst (v := 0) hx hb dX4_isFull_78 (by decide) ?_
        exact W.zret (v := 0) hx hb hr rfl (fun t ht hW => ⟨⟨0, (σ, ρ), rfl, ⟨hB.2.1, hB.2.2, ⟨(show 0 ≤ (0 : Int32).toInt ∧ (0 : Int32).toInt ≤ 1 from ⟨by decide, by decide⟩), (show (0 : Int32).toInt = 0 → ((3 : Int32).toInt = 1 → (σ bh 8).toInt ≤ 4) ∧ ((3 : Int32).toInt = 2 → (σ bh 9).toInt ≤ 7) ∧ ((3 : Int32).toInt = 3 → (σ bh 10).toInt ≤ 3) from (fun h => by first | (exact absurd h (by decide)) | (exact ⟨fun g => by first | omega | (exact absurd g (by decide)), fun g => by first | omega | (exact absurd g (by decide)), fun g => by first | omega | (exact absurd g (by decide))⟩)))⟩⟩, (show TP D cA L T r σ ρ t.heap from by rw [ht]; exact hB.1)⟩, hS.F ht⟩) hS.2.2 dX4_isFull_79
      · skip
        have uc_7 := i_nlt (n := 4) (by decide) c_7
        refine lv_iconst (v := 1) hx hb dX4_isFull_74 (by decide) ?_
        refine lv_goto (tgt := 79) hx hb dX4_isFull_75 (by decide) ?_
        exact W.zret (v := 1) hx hb hr rfl (fun t ht hW => ⟨⟨1, (σ, ρ), rfl, ⟨hB.2.1, hB.2.2, ⟨(show 0 ≤ (1 : Int32).toInt ∧ (1 : Int32).toInt ≤ 1 from ⟨by decide, by decide⟩), (show (1 : Int32).toInt = 0 → ((3 : Int32).toInt = 1 → (σ bh 8).toInt ≤ 4) ∧ ((3 : Int32).toInt = 2 → (σ bh 9).toInt ≤ 7) ∧ ((3 : Int32).toInt = 3 → (σ bh 10).toInt ≤ 3) from (fun h => by first | (exact absurd h (by decide)) | (exact ⟨fun g => by first | omega | (exact absurd g (by decide)), fun g => by first | omega | (exact absurd g (by decide)), fun g => by first | omega | (exact absurd g (by decide))⟩)))⟩⟩, (show TP D cA L T r σ ρ t.heap from by rw [ht]; exact hB.1)⟩, hS.F ht⟩) hS.2.2 dX4_isFull_79
theorem mw_3_189 : (.instanceMethod yX4_isFull : Cond) ∈ wsA := wsA_t (List.mem_append_right _ (List.mem_append_right _ (List.mem_append_left _ (List.mem_of_getElem? (l := tables_1_3) (i := 189) rfl)))) rfl
theorem mp_1_6 : (.selects RX4 yX4_isFull yX4_isFull : Cond) ∈ wsA := wsA_p (q := (yX4_isFull, 2)) (List.mem_append_left _ (List.mem_of_getElem? (l := lw_privs_1) (i := 6) rfl))
theorem mw_3_190 : (.code yX4_isFull cX4_isFull 2 (some .boolean) : Cond) ∈ wsA := wsA_t (List.mem_append_right _ (List.mem_append_right _ (List.mem_append_left _ (List.mem_of_getElem? (l := tables_1_3) (i := 190) rfl)))) rfl
theorem mw_3_187 : (.methodLink RX4 51 yX4_isFull : Cond) ∈ wsA := wsA_t (List.mem_append_right _ (List.mem_append_right _ (List.mem_append_left _ (List.mem_of_getElem? (l := tables_1_3) (i := 187) rfl)))) rfl
theorem mw_3_227 : (.instanceMethod yX4_heapClause : Cond) ∈ wsA := wsA_t (List.mem_append_right _ (List.mem_append_right _ (List.mem_append_left _ (List.mem_of_getElem? (l := tables_1_3) (i := 227) rfl)))) rfl
theorem mp_1_14 : (.selects RX4 yX4_heapClause yX4_heapClause : Cond) ∈ wsA := wsA_p (q := (yX4_heapClause, 2)) (List.mem_append_left _ (List.mem_of_getElem? (l := lw_privs_1) (i := 14) rfl))
theorem mw_3_228 : (.code yX4_heapClause cX4_heapClause 5 (some .boolean) : Cond) ∈ wsA := wsA_t (List.mem_append_right _ (List.mem_append_right _ (List.mem_append_left _ (List.mem_of_getElem? (l := tables_1_3) (i := 228) rfl)))) rfl
theorem mw_3_225 : (.methodLink RX4 71 yX4_heapClause : Cond) ∈ wsA := wsA_t (List.mem_append_right _ (List.mem_append_right _ (List.mem_append_left _ (List.mem_of_getElem? (l := tables_1_3) (i := 225) rfl)))) rfl
theorem mw_3_193 : (.instanceMethod yX4_burdenClause : Cond) ∈ wsA := wsA_t (List.mem_append_right _ (List.mem_append_right _ (List.mem_append_left _ (List.mem_of_getElem? (l := tables_1_3) (i := 193) rfl)))) rfl
theorem mp_1_7 : (.selects RX4 yX4_burdenClause yX4_burdenClause : Cond) ∈ wsA := wsA_p (q := (yX4_burdenClause, 2)) (List.mem_append_left _ (List.mem_of_getElem? (l := lw_privs_1) (i := 7) rfl))
theorem mw_3_194 : (.code yX4_burdenClause cX4_burdenClause 2 (some .boolean) : Cond) ∈ wsA := wsA_t (List.mem_append_right _ (List.mem_append_right _ (List.mem_append_left _ (List.mem_of_getElem? (l := tables_1_3) (i := 194) rfl)))) rfl
theorem mw_3_191 : (.methodLink RX4 55 yX4_burdenClause : Cond) ∈ wsA := wsA_t (List.mem_append_right _ (List.mem_append_right _ (List.mem_append_left _ (List.mem_of_getElem? (l := tables_1_3) (i := 191) rfl)))) rfl
theorem mw_3_201 : (.instanceMethod yX4_sortClause : Cond) ∈ wsA := wsA_t (List.mem_append_right _ (List.mem_append_right _ (List.mem_append_left _ (List.mem_of_getElem? (l := tables_1_3) (i := 201) rfl)))) rfl
theorem mp_1_9 : (.selects RX4 yX4_sortClause yX4_sortClause : Cond) ∈ wsA := wsA_p (q := (yX4_sortClause, 2)) (List.mem_append_left _ (List.mem_of_getElem? (l := lw_privs_1) (i := 9) rfl))
theorem mw_3_202 : (.code yX4_sortClause cX4_sortClause 5 (some .boolean) : Cond) ∈ wsA := wsA_t (List.mem_append_right _ (List.mem_append_right _ (List.mem_append_left _ (List.mem_of_getElem? (l := tables_1_3) (i := 202) rfl)))) rfl
theorem mw_3_199 : (.methodLink RX4 59 yX4_sortClause : Cond) ∈ wsA := wsA_t (List.mem_append_right _ (List.mem_append_right _ (List.mem_append_left _ (List.mem_of_getElem? (l := tables_1_3) (i := 199) rfl)))) rfl
theorem mw_3_205 : (.instanceMethod yX4_bendClause : Cond) ∈ wsA := wsA_t (List.mem_append_right _ (List.mem_append_right _ (List.mem_append_left _ (List.mem_of_getElem? (l := tables_1_3) (i := 205) rfl)))) rfl
theorem mp_1_10 : (.selects RX4 yX4_bendClause yX4_bendClause : Cond) ∈ wsA := wsA_p (q := (yX4_bendClause, 2)) (List.mem_append_left _ (List.mem_of_getElem? (l := lw_privs_1) (i := 10) rfl))
theorem mw_3_206 : (.code yX4_bendClause cX4_bendClause 4 (some .boolean) : Cond) ∈ wsA := wsA_t (List.mem_append_right _ (List.mem_append_right _ (List.mem_append_left _ (List.mem_of_getElem? (l := tables_1_3) (i := 206) rfl)))) rfl
theorem mw_3_203 : (.methodLink RX4 62 yX4_bendClause : Cond) ∈ wsA := wsA_t (List.mem_append_right _ (List.mem_append_right _ (List.mem_append_left _ (List.mem_of_getElem? (l := tables_1_3) (i := 203) rfl)))) rfl
theorem mw_3_209 : (.instanceMethod yX4_pilgrimClause : Cond) ∈ wsA := wsA_t (List.mem_append_right _ (List.mem_append_right _ (List.mem_append_left _ (List.mem_of_getElem? (l := tables_1_3) (i := 209) rfl)))) rfl
theorem mp_1_11 : (.selects RX4 yX4_pilgrimClause yX4_pilgrimClause : Cond) ∈ wsA := wsA_p (q := (yX4_pilgrimClause, 2)) (List.mem_append_left _ (List.mem_of_getElem? (l := lw_privs_1) (i := 11) rfl))
theorem mw_3_210 : (.code yX4_pilgrimClause cX4_pilgrimClause 3 (some .boolean) : Cond) ∈ wsA := wsA_t (List.mem_append_right _ (List.mem_append_right _ (List.mem_append_left _ (List.mem_of_getElem? (l := tables_1_3) (i := 210) rfl)))) rfl
theorem mw_3_207 : (.methodLink RX4 65 yX4_pilgrimClause : Cond) ∈ wsA := wsA_t (List.mem_append_right _ (List.mem_append_right _ (List.mem_append_left _ (List.mem_of_getElem? (l := tables_1_3) (i := 207) rfl)))) rfl
theorem mw_3_213 : (.instanceMethod yX4_hasClause : Cond) ∈ wsA := wsA_t (List.mem_append_right _ (List.mem_append_right _ (List.mem_append_left _ (List.mem_of_getElem? (l := tables_1_3) (i := 213) rfl)))) rfl
theorem mp_1_12 : (.selects RX4 yX4_hasClause yX4_hasClause : Cond) ∈ wsA := wsA_p (q := (yX4_hasClause, 2)) (List.mem_append_left _ (List.mem_of_getElem? (l := lw_privs_1) (i := 12) rfl))
theorem mw_3_214 : (.code yX4_hasClause cX4_hasClause 5 (some .boolean) : Cond) ∈ wsA := wsA_t (List.mem_append_right _ (List.mem_append_right _ (List.mem_append_left _ (List.mem_of_getElem? (l := tables_1_3) (i := 214) rfl)))) rfl
theorem mw_3_211 : (.methodLink RX4 68 yX4_hasClause : Cond) ∈ wsA := wsA_t (List.mem_append_right _ (List.mem_append_right _ (List.mem_append_left _ (List.mem_of_getElem? (l := tables_1_3) (i := 211) rfl)))) rfl
theorem dX4_clause_0 : decode cX4_clause 0 = .ok (.aload_n 1, 1) := by decide +kernel
theorem dX4_clause_1 : decode cX4_clause 1 = .ok (.aload_n 0, 1) := by decide +kernel
theorem dX4_clause_2 : decode cX4_clause 2 = .ok (.getfield 29, 3) := by decide +kernel
theorem dX4_clause_5 : decode cX4_clause 5 = .ok (.invokevirtual 37, 3) := by decide +kernel
theorem dX4_clause_8 : decode cX4_clause 8 = .ok (.sipush 131, 3) := by decide +kernel
theorem dX4_clause_11 : decode cX4_clause 11 = .ok (.if_icmp .ne 14, 3) := by decide +kernel
theorem dX4_clause_25 : decode cX4_clause 25 = .ok (.iconst (-1), 1) := by decide +kernel
theorem dX4_clause_26 : decode cX4_clause 26 = .ok (.istore_n 3, 1) := by decide +kernel
theorem dX4_clause_27 : decode cX4_clause 27 = .ok (.iload_n 3, 1) := by decide +kernel
theorem dX4_clause_28 : decode cX4_clause 28 = .ok (.ifCond .lt 8, 3) := by decide +kernel
theorem dX4_clause_36 : decode cX4_clause 36 = .ok (.aload_n 1, 1) := by decide +kernel
theorem dX4_clause_37 : decode cX4_clause 37 = .ok (.aload_n 0, 1) := by decide +kernel
theorem dX4_clause_38 : decode cX4_clause 38 = .ok (.getfield 29, 3) := by decide +kernel
theorem dX4_clause_41 : decode cX4_clause 41 = .ok (.iconst 0, 1) := by decide +kernel
theorem dX4_clause_42 : decode cX4_clause 42 = .ok (.invokevirtual 41, 3) := by decide +kernel
theorem dX4_clause_45 : decode cX4_clause 45 = .ok (.ireturn, 1) := by decide +kernel
theorem dX4_clause_14 : decode cX4_clause 14 = .ok (.aload_n 1, 1) := by decide +kernel
theorem dX4_clause_15 : decode cX4_clause 15 = .ok (.aload_n 0, 1) := by decide +kernel
theorem dX4_clause_16 : decode cX4_clause 16 = .ok (.getfield 29, 3) := by decide +kernel
theorem dX4_clause_19 : decode cX4_clause 19 = .ok (.invokevirtual 48, 3) := by decide +kernel
theorem dX4_clause_22 : decode cX4_clause 22 = .ok (.goto 4, 3) := by decide +kernel
theorem dX4_clause_31 : decode cX4_clause 31 = .ok (.iload_n 3, 1) := by decide +kernel
theorem dX4_clause_32 : decode cX4_clause 32 = .ok (.iconst 5, 1) := by decide +kernel
theorem dX4_clause_33 : decode cX4_clause 33 = .ok (.if_icmp .le 13, 3) := by decide +kernel
theorem dX4_clause_46 : decode cX4_clause 46 = .ok (.iload_n 3, 1) := by decide +kernel
theorem dX4_clause_47 : decode cX4_clause 47 = .ok (.ifCond .ne 7, 3) := by decide +kernel
theorem dX4_clause_54 : decode cX4_clause 54 = .ok (.iconst 0, 1) := by decide +kernel
theorem dX4_clause_55 : decode cX4_clause 55 = .ok (.iload_n 2, 1) := by decide +kernel
theorem dX4_clause_56 : decode cX4_clause 56 = .ok (.ifCond .ne 7, 3) := by decide +kernel
theorem dX4_clause_63 : decode cX4_clause 63 = .ok (.iconst 0, 1) := by decide +kernel
theorem dX4_clause_64 : decode cX4_clause 64 = .ok (.if_icmp .eq 7, 3) := by decide +kernel
theorem dX4_clause_71 : decode cX4_clause 71 = .ok (.iconst 0, 1) := by decide +kernel
theorem dX4_clause_72 : decode cX4_clause 72 = .ok (.istore 4, 2) := by decide +kernel
theorem dX4_clause_74 : decode cX4_clause 74 = .ok (.iload_n 2, 1) := by decide +kernel
theorem dX4_clause_75 : decode cX4_clause 75 = .ok (.bipush 40, 2) := by decide +kernel
theorem dX4_clause_77 : decode cX4_clause 77 = .ok (.if_icmp .ge 16, 3) := by decide +kernel
theorem dX4_clause_93 : decode cX4_clause 93 = .ok (.aload_n 1, 1) := by decide +kernel
theorem dX4_clause_94 : decode cX4_clause 94 = .ok (.aload_n 0, 1) := by decide +kernel
theorem dX4_clause_95 : decode cX4_clause 95 = .ok (.getfield 29, 3) := by decide +kernel
theorem dX4_clause_98 : decode cX4_clause 98 = .ok (.iconst 4, 1) := by decide +kernel
theorem dX4_clause_99 : decode cX4_clause 99 = .ok (.invokevirtual 41, 3) := by decide +kernel
theorem dX4_clause_102 : decode cX4_clause 102 = .ok (.ireturn, 1) := by decide +kernel
theorem dX4_clause_80 : decode cX4_clause 80 = .ok (.iload 4, 2) := by decide +kernel
theorem dX4_clause_82 : decode cX4_clause 82 = .ok (.ifCond .ne 11, 3) := by decide +kernel
theorem dX4_clause_85 : decode cX4_clause 85 = .ok (.aload_n 0, 1) := by decide +kernel
theorem dX4_clause_86 : decode cX4_clause 86 = .ok (.iload_n 3, 1) := by decide +kernel
theorem dX4_clause_87 : decode cX4_clause 87 = .ok (.invokevirtual 51, 3) := by decide +kernel
theorem dX4_clause_90 : decode cX4_clause 90 = .ok (.ifCond .eq 13, 3) := by decide +kernel
theorem dX4_clause_103 : decode cX4_clause 103 = .ok (.aload_n 0, 1) := by decide +kernel
theorem dX4_clause_104 : decode cX4_clause 104 = .ok (.dup, 1) := by decide +kernel
theorem dX4_clause_105 : decode cX4_clause 105 = .ok (.getfield 29, 3) := by decide +kernel
theorem dX4_clause_108 : decode cX4_clause 108 = .ok (.iconst 1, 1) := by decide +kernel
theorem dX4_clause_109 : decode cX4_clause 109 = .ok (.iadd, 1) := by decide +kernel
theorem dX4_clause_110 : decode cX4_clause 110 = .ok (.putfield 29, 3) := by decide +kernel
theorem dX4_clause_113 : decode cX4_clause 113 = .ok (.iload_n 3, 1) := by decide +kernel
theorem dX4_clause_114 : decode cX4_clause 114 = .ok (.tableswitch 64 0 4 #[34, 40, 46, 52, 58], 34) := by decide +kernel
theorem dX4_clause_178 : decode cX4_clause 178 = .ok (.aload_n 0, 1) := by decide +kernel
theorem dX4_clause_179 : decode cX4_clause 179 = .ok (.aload_n 1, 1) := by decide +kernel
theorem dX4_clause_180 : decode cX4_clause 180 = .ok (.invokevirtual 71, 3) := by decide +kernel
theorem dX4_clause_183 : decode cX4_clause 183 = .ok (.ireturn, 1) := by decide +kernel
theorem dX4_clause_148 : decode cX4_clause 148 = .ok (.aload_n 0, 1) := by decide +kernel
theorem dX4_clause_149 : decode cX4_clause 149 = .ok (.aload_n 1, 1) := by decide +kernel
theorem dX4_clause_150 : decode cX4_clause 150 = .ok (.invokevirtual 55, 3) := by decide +kernel
theorem dX4_clause_153 : decode cX4_clause 153 = .ok (.ireturn, 1) := by decide +kernel
theorem dX4_clause_154 : decode cX4_clause 154 = .ok (.aload_n 0, 1) := by decide +kernel
theorem dX4_clause_155 : decode cX4_clause 155 = .ok (.aload_n 1, 1) := by decide +kernel
theorem dX4_clause_156 : decode cX4_clause 156 = .ok (.invokevirtual 59, 3) := by decide +kernel
theorem dX4_clause_159 : decode cX4_clause 159 = .ok (.ireturn, 1) := by decide +kernel
theorem dX4_clause_160 : decode cX4_clause 160 = .ok (.aload_n 0, 1) := by decide +kernel
theorem dX4_clause_161 : decode cX4_clause 161 = .ok (.aload_n 1, 1) := by decide +kernel
theorem dX4_clause_162 : decode cX4_clause 162 = .ok (.invokevirtual 62, 3) := by decide +kernel
theorem dX4_clause_165 : decode cX4_clause 165 = .ok (.ireturn, 1) := by decide +kernel
theorem dX4_clause_166 : decode cX4_clause 166 = .ok (.aload_n 0, 1) := by decide +kernel
theorem dX4_clause_167 : decode cX4_clause 167 = .ok (.aload_n 1, 1) := by decide +kernel
theorem dX4_clause_168 : decode cX4_clause 168 = .ok (.invokevirtual 65, 3) := by decide +kernel
theorem dX4_clause_171 : decode cX4_clause 171 = .ok (.ireturn, 1) := by decide +kernel
theorem dX4_clause_172 : decode cX4_clause 172 = .ok (.aload_n 0, 1) := by decide +kernel
theorem dX4_clause_173 : decode cX4_clause 173 = .ok (.aload_n 1, 1) := by decide +kernel
theorem dX4_clause_174 : decode cX4_clause 174 = .ok (.invokevirtual 68, 3) := by decide +kernel
theorem dX4_clause_177 : decode cX4_clause 177 = .ok (.ireturn, 1) := by decide +kernel
theorem dX4_clause_59 : decode cX4_clause 59 = .ok (.iconst 1, 1) := by decide +kernel
theorem dX4_clause_60 : decode cX4_clause 60 = .ok (.goto 4, 3) := by decide +kernel
theorem dX4_clause_67 : decode cX4_clause 67 = .ok (.iconst 1, 1) := by decide +kernel
theorem dX4_clause_68 : decode cX4_clause 68 = .ok (.goto 4, 3) := by decide +kernel
theorem dX4_clause_50 : decode cX4_clause 50 = .ok (.iconst 1, 1) := by decide +kernel
theorem dX4_clause_51 : decode cX4_clause 51 = .ok (.goto 4, 3) := by decide +kernel
theorem mv_X4_isFull : MV RX4 yX4_isFull cX4_isFull 2 (some .boolean) 1 := ⟨mw_3_189, mp_1_6, mw_1_3, mw_3_190, ⟨rfl, by decide, by decide, by decide +kernel⟩⟩
theorem mv_X4_heapClause : MV RX4 yX4_heapClause cX4_heapClause 5 (some .boolean) 1 := ⟨mw_3_227, mp_1_14, mw_1_3, mw_3_228, ⟨rfl, by decide, by decide, by decide +kernel⟩⟩
theorem mv_X4_burdenClause : MV RX4 yX4_burdenClause cX4_burdenClause 2 (some .boolean) 1 := ⟨mw_3_193, mp_1_7, mw_1_3, mw_3_194, ⟨rfl, by decide, by decide, by decide +kernel⟩⟩
theorem mv_X4_sortClause : MV RX4 yX4_sortClause cX4_sortClause 5 (some .boolean) 1 := ⟨mw_3_201, mp_1_9, mw_1_3, mw_3_202, ⟨rfl, by decide, by decide, by decide +kernel⟩⟩
theorem mv_X4_bendClause : MV RX4 yX4_bendClause cX4_bendClause 4 (some .boolean) 1 := ⟨mw_3_205, mp_1_10, mw_1_3, mw_3_206, ⟨rfl, by decide, by decide, by decide +kernel⟩⟩
theorem mv_X4_pilgrimClause : MV RX4 yX4_pilgrimClause cX4_pilgrimClause 3 (some .boolean) 1 := ⟨mw_3_209, mp_1_11, mw_1_3, mw_3_210, ⟨rfl, by decide, by decide, by decide +kernel⟩⟩
theorem mv_X4_hasClause : MV RX4 yX4_hasClause cX4_hasClause 5 (some .boolean) 1 := ⟨mw_3_213, mp_1_12, mw_1_3, mw_3_214, ⟨rfl, by decide, by decide, by decide +kernel⟩⟩
set_option maxHeartbeats 4000000 in
set_option maxRecDepth 100000 in
theorem cy_X4_clause (l : Launch) (D : va_G) (cA : Nat → ClassId) (L : List Nat) (T : Nat → Nat) (r : Rg) (hG : GR L T r) (hL : L.Nodup) (σ : Sg) (ρ : Lg) (hW : WT L ry T σ) (sz : Nat) (h0 : Nat) (mh0 : h0 ∈ L) (th0 : T h0 = 4) (h1 : Nat) (mh1 : h1 ∈ L) (th1 : T h1 = 9) (p2 : Int32) (bh : Nat) (hbh : r h0 0 = some bh) (mbh : bh ∈ L) (tbh : T bh = 17) : Met l yX4_clause (.code yX4_clause cX4_clause 5 (some .boolean) :: wsA) ({ frames := 3, cells := 0, slots := 0, locals := 88 }) (PR D cA L T r σ ρ sz [.ref h0, .ref h1, .int p2]) (QI D cA L T r ry [(4, 1), (9, 6), (17, 7), (17, 8), (17, 9), (17, 10), (90, 1000), (91, 1000), (92, 1000), (93, 1000), (94, 1000), (114, 1000), (117, 1000), (118, 1000)] σ sz (fun x σ1 => (0 ≤ x.toInt ∧ x.toInt ≤ 1))) 0 0 (dm L sz) := by
  refine Met.ofW (cc := cX4_clause) (maxL := 5) (ret := (some .boolean)) (by decide) rfl ?_
  intro p e s m args below meth c s₁ B hml hv
  obtain ⟨rfl, hsz, hP, hK, hN⟩ := hv
  have hx := B.exec
  have hb := B.bytes
  have hr := B.returns
  have hts : ∀ w ∈ wsA, w.before _ s = true := fun w h => atoms_spec (ws := .code yX4_clause cX4_clause 5 (some .boolean) :: wsA) B.pre w (List.mem_cons_of_mem _ h)
  have hown : s.vm.findClass RX4 = some m.cls := findClass_of_methodNamed B.named
  subst hsz
  have hLA : LA (dm L s.heap.size) L := ⟨hL, fun a h => Or.inl h⟩
  have hA : ∀ q : Nat, s.heap.size ≤ q → dm L s.heap.size q := fun q h => Or.inr h
  have hS : va_S (dm L s.heap.size) s.heap s.heap [] := va_S.rf
  have hB : TS D cA L T r ry [(4, 1), (9, 6), (17, 7), (17, 8), (17, 9), (17, 10), (90, 1000), (91, 1000), (92, 1000), (93, 1000), (94, 1000), (114, 1000), (117, 1000), (118, 1000)] σ σ ρ s.heap := ⟨hP, hW, FR.rf⟩
  have hl := lv_entry ([.ref h0, .ref h1, .int p2]) (n := 5) (Nat.le_of_ble_eq_true rfl)
  rw [lg_entry_eq]
  generalize (lg_sl ([.ref h0, .ref h1, .int p2]) ++ List.replicate (5 - (lg_sl ([.ref h0, .ref h1, .int p2])).length) Slot.unset).toArray = ls at hl ⊢
  have hl : lv_has ls 5 [(0, .ref h0), (1, .ref h1), (2, .int p2)] := hl
  refine lv_aload_n hx hb dX4_clause_0 rfl (lv_at hl 1 rfl) ?_
  refine lv_aload_n hx hb dX4_clause_1 rfl (lv_at hl 0 rfl) ?_
  refine t_gi hx hb hts hown hK hB mh0 th0 fi_4_1 rfl mw_1_215 dX4_clause_2 (fun x_1 ex_1 lx_1 ux_1 => ?_)
  have cx_1 := congrArg Int32.toInt ex_1
  refine t_ci (va_runV (As := [.int x_1]) (rest := []) ⟨hx, hb, hml, hown, hts⟩ (cy_X9_kindAt l D cA L T r hG hLA.1 σ ρ hB.2.1 _ h1 mh1 th1 x_1) (cV hts mv_X9_kindAt mw_3_175 rfl rfl ⟨Nat.le_of_ble_eq_true rfl, Nat.le_of_ble_eq_true rfl⟩) (pV hB.1 hK hN mh1 th1 (show shp cA 9 _ _ _ = .inr (9, Fs9 _ _ _) from rfl) rfl) rfl rfl hl.1 rfl (lv_room (Nat.le_of_ble_eq_true rfl)) dX4_clause_5 ⟨Nat.le_of_ble_eq_true rfl, Nat.le_of_ble_eq_true rfl⟩) hLA hA hB hS (by decide) (fun x_4 σ_2 ρ_3 H locs hB fσ_2 pσ_2 hS => ?_)
  have qσ_2 := FR.nil fσ_2
  subst qσ_2
  obtain ⟨lx_4, ux_4⟩ := pσ_2
  refine lv_sipush (v := 131) hx hb dX4_clause_8 (by decide) ?_
  refine lv_icmp_ne (tgt := 25) hx hb dX4_clause_11 (by decide) (fun c_5 => ?_) (fun c_5 => ?_)
  · skip
    have uc_5 := i_ne (n := 131) (by decide) c_5
    refine lv_iconst (v := (-1)) hx hb dX4_clause_25 (by decide) ?_
    refine lv_istore_n (lv' := [(3, .int (-1)), (0, .ref h0), (1, .ref h1), (2, .int p2)]) hx hb dX4_clause_26 rfl hl (by decide) rfl (fun ls hl => ?_)
    refine lv_iload_n hx hb dX4_clause_27 rfl (lv_at hl 0 rfl) ?_
    refine lv_if_lt (tgt := 36) hx hb dX4_clause_28 (by decide) (fun _ => ?_) (fun c9 => absurd (by decide) c9)
    refine lv_aload_n hx hb dX4_clause_36 rfl (lv_at hl 2 rfl) ?_
    refine lv_aload_n hx hb dX4_clause_37 rfl (lv_at hl 1 rfl) ?_
    refine t_gv hx hb hts hown hK hB mh0 th0 fi_4_1 ex_1.symm mw_1_215 dX4_clause_38 ?_
    refine lv_iconst (v := 0) hx hb dX4_clause_41 (by decide) ?_
    refine t_ci (va_runV (As := [.int x_1, .int 0]) (rest := []) ⟨hx, hb, hml, hown, hts⟩ (cy_X9_wrong l D cA L T r hG hLA.1 σ ρ_3 hB.2.1 _ h1 mh1 th1 x_1 0 (by first | omega | decide) (by first | omega | decide)) (cV hts mv_X9_wrong mw_3_183 rfl rfl ⟨Nat.le_of_ble_eq_true rfl, Nat.le_of_ble_eq_true rfl⟩) (pV hB.1 hK hN mh1 th1 (show shp cA 9 _ _ _ = .inr (9, Fs9 _ _ _) from rfl) rfl) rfl rfl hl.1 rfl (lv_room (Nat.le_of_ble_eq_true rfl)) dX4_clause_42 ⟨Nat.le_of_ble_eq_true rfl, Nat.le_of_ble_eq_true rfl⟩) hLA hA hB hS (by decide) (fun x_8 σ_6 ρ_7 H locs hB fσ_6 pσ_6 hS => ?_)
    obtain ⟨g_9, g_10⟩ := pσ_6
    subst g_9
    exact W.zret (v := 0) hx hb hr rfl (fun t ht hW => ⟨⟨0, (σ_6, ρ_7), rfl, ⟨hB.2.1, hB.2.2, (show 0 ≤ (0 : Int32).toInt ∧ (0 : Int32).toInt ≤ 1 from ⟨by decide, by decide⟩)⟩, (show TP D cA L T r σ_6 ρ_7 t.heap from by rw [ht]; exact hB.1)⟩, hS.F ht⟩) hS.2.2 dX4_clause_45
  · skip
    have uc_5 := i_eq (n := 131) (by decide) c_5
    refine lv_aload_n hx hb dX4_clause_14 rfl (lv_at hl 1 rfl) ?_
    refine lv_aload_n hx hb dX4_clause_15 rfl (lv_at hl 0 rfl) ?_
    refine t_gv hx hb hts hown hK hB mh0 th0 fi_4_1 ex_1.symm mw_1_215 dX4_clause_16 ?_
    refine t_ci (va_runV (As := [.int x_1]) (rest := []) ⟨hx, hb, hml, hown, hts⟩ (cy_X9_valueAt l D cA L T r hG hLA.1 σ ρ_3 hB.2.1 _ h1 mh1 th1 x_1) (cV hts mv_X9_valueAt mw_3_179 rfl rfl ⟨Nat.le_of_ble_eq_true rfl, Nat.le_of_ble_eq_true rfl⟩) (pV hB.1 hK hN mh1 th1 (show shp cA 9 _ _ _ = .inr (9, Fs9 _ _ _) from rfl) rfl) rfl rfl hl.1 rfl (lv_room (Nat.le_of_ble_eq_true rfl)) dX4_clause_19 ⟨Nat.le_of_ble_eq_true rfl, Nat.le_of_ble_eq_true rfl⟩) hLA hA hB hS (by decide) (fun x_13 σ_11 ρ_12 H locs hB fσ_11 pσ_11 hS => ?_)
    have qσ_11 := FR.nil fσ_11
    subst qσ_11
    obtain ⟨lx_13, ux_13⟩ := pσ_11
    refine lv_goto (tgt := 26) hx hb dX4_clause_22 (by decide) ?_
    refine lv_istore_n (lv' := [(3, .int x_13), (0, .ref h0), (1, .ref h1), (2, .int p2)]) hx hb dX4_clause_26 rfl hl (by decide) rfl (fun ls hl => ?_)
    refine lv_iload_n hx hb dX4_clause_27 rfl (lv_at hl 0 rfl) ?_
    refine lv_if_lt (tgt := 36) hx hb dX4_clause_28 (by decide) (fun c_14 => ?_) (fun c_14 => ?_)
    · skip
      have uc_14 := i_lt (n := 0) (by decide) c_14
      refine lv_aload_n hx hb dX4_clause_36 rfl (lv_at hl 2 rfl) ?_
      refine lv_aload_n hx hb dX4_clause_37 rfl (lv_at hl 1 rfl) ?_
      refine t_gv hx hb hts hown hK hB mh0 th0 fi_4_1 ex_1.symm mw_1_215 dX4_clause_38 ?_
      refine lv_iconst (v := 0) hx hb dX4_clause_41 (by decide) ?_
      refine t_ci (va_runV (As := [.int x_1, .int 0]) (rest := []) ⟨hx, hb, hml, hown, hts⟩ (cy_X9_wrong l D cA L T r hG hLA.1 σ ρ_12 hB.2.1 _ h1 mh1 th1 x_1 0 (by first | omega | decide) (by first | omega | decide)) (cV hts mv_X9_wrong mw_3_183 rfl rfl ⟨Nat.le_of_ble_eq_true rfl, Nat.le_of_ble_eq_true rfl⟩) (pV hB.1 hK hN mh1 th1 (show shp cA 9 _ _ _ = .inr (9, Fs9 _ _ _) from rfl) rfl) rfl rfl hl.1 rfl (lv_room (Nat.le_of_ble_eq_true rfl)) dX4_clause_42 ⟨Nat.le_of_ble_eq_true rfl, Nat.le_of_ble_eq_true rfl⟩) hLA hA hB hS (by decide) (fun x_17 σ_15 ρ_16 H locs hB fσ_15 pσ_15 hS => ?_)
      obtain ⟨g_18, g_19⟩ := pσ_15
      subst g_18
      exact W.zret (v := 0) hx hb hr rfl (fun t ht hW => ⟨⟨0, (σ_15, ρ_16), rfl, ⟨hB.2.1, hB.2.2, (show 0 ≤ (0 : Int32).toInt ∧ (0 : Int32).toInt ≤ 1 from ⟨by decide, by decide⟩)⟩, (show TP D cA L T r σ_15 ρ_16 t.heap from by rw [ht]; exact hB.1)⟩, hS.F ht⟩) hS.2.2 dX4_clause_45
    · skip
      have uc_14 := i_nlt (n := 0) (by decide) c_14
      refine lv_iload_n hx hb dX4_clause_31 rfl (lv_at hl 0 rfl) ?_
      refine lv_iconst (v := 5) hx hb dX4_clause_32 (by decide) ?_
      refine lv_icmp_le (tgt := 46) hx hb dX4_clause_33 (by decide) (fun c_20 => ?_) (fun c_20 => ?_)
      · skip
        have uc_20 := i_le (n := 5) (by decide) c_20
        refine lv_iload_n hx hb dX4_clause_46 rfl (lv_at hl 0 rfl) ?_
        refine lv_if_ne (tgt := 54) hx hb dX4_clause_47 (by decide) (fun c_21 => ?_) (fun c_21 => ?_)
        · skip
          have uc_21 := i_ne (n := 0) (by decide) c_21
          refine lv_iconst (v := 0) hx hb dX4_clause_54 (by decide) ?_
          refine lv_iload_n hx hb dX4_clause_55 rfl (lv_at hl 3 rfl) ?_
          refine lv_if_ne (tgt := 63) hx hb dX4_clause_56 (by decide) (fun c_22 => ?_) (fun c_22 => ?_)
          · skip
            have uc_22 := i_ne (n := 0) (by decide) c_22
            refine lv_iconst (v := 0) hx hb dX4_clause_63 (by decide) ?_
            refine lv_icmp_eq (tgt := 71) hx hb dX4_clause_64 (by decide) (fun _ => ?_) (fun c9 => absurd (by decide) c9)
            refine lv_iconst (v := 0) hx hb dX4_clause_71 (by decide) ?_
            refine lv_istore (lv' := [(4, .int 0), (3, .int x_13), (0, .ref h0), (1, .ref h1), (2, .int p2)]) hx hb dX4_clause_72 hl (by decide) rfl (fun ls hl => ?_)
            refine lv_iload_n hx hb dX4_clause_74 rfl (lv_at hl 4 rfl) ?_
            refine lv_bipush (v := 40) hx hb dX4_clause_75 (by decide) ?_
            refine lv_icmp_ge (tgt := 93) hx hb dX4_clause_77 (by decide) (fun c_23 => ?_) (fun c_23 => ?_)
            · skip
              have uc_23 := i_ge (n := 40) (by decide) c_23
              refine lv_aload_n hx hb dX4_clause_93 rfl (lv_at hl 3 rfl) ?_
              refine lv_aload_n hx hb dX4_clause_94 rfl (lv_at hl 2 rfl) ?_
              refine t_gv hx hb hts hown hK hB mh0 th0 fi_4_1 ex_1.symm mw_1_215 dX4_clause_95 ?_
              refine lv_iconst (v := 4) hx hb dX4_clause_98 (by decide) ?_
              refine t_ci (va_runV (As := [.int x_1, .int 4]) (rest := []) ⟨hx, hb, hml, hown, hts⟩ (cy_X9_wrong l D cA L T r hG hLA.1 σ ρ_12 hB.2.1 _ h1 mh1 th1 x_1 4 (by first | omega | decide) (by first | omega | decide)) (cV hts mv_X9_wrong mw_3_183 rfl rfl ⟨Nat.le_of_ble_eq_true rfl, Nat.le_of_ble_eq_true rfl⟩) (pV hB.1 hK hN mh1 th1 (show shp cA 9 _ _ _ = .inr (9, Fs9 _ _ _) from rfl) rfl) rfl rfl hl.1 rfl (lv_room (Nat.le_of_ble_eq_true rfl)) dX4_clause_99 ⟨Nat.le_of_ble_eq_true rfl, Nat.le_of_ble_eq_true rfl⟩) hLA hA hB hS (by decide) (fun x_26 σ_24 ρ_25 H locs hB fσ_24 pσ_24 hS => ?_)
              obtain ⟨g_27, g_28⟩ := pσ_24
              subst g_27
              exact W.zret (v := 0) hx hb hr rfl (fun t ht hW => ⟨⟨0, (σ_24, ρ_25), rfl, ⟨hB.2.1, hB.2.2, (show 0 ≤ (0 : Int32).toInt ∧ (0 : Int32).toInt ≤ 1 from ⟨by decide, by decide⟩)⟩, (show TP D cA L T r σ_24 ρ_25 t.heap from by rw [ht]; exact hB.1)⟩, hS.F ht⟩) hS.2.2 dX4_clause_102
            · skip
              have uc_23 := i_nge (n := 40) (by decide) c_23
              refine lv_iload hx hb dX4_clause_80 (lv_at hl 0 rfl) ?_
              refine lv_if_ne (tgt := 93) hx hb dX4_clause_82 (by decide) (fun c9 => absurd (by decide) c9) (fun _ => ?_)
              refine lv_aload_n hx hb dX4_clause_85 rfl (lv_at hl 2 rfl) ?_
              refine lv_iload_n hx hb dX4_clause_86 rfl (lv_at hl 1 rfl) ?_
              refine t_ci (va_runV (As := [.int x_13]) (rest := []) ⟨hx, hb, hml, hown, hts⟩ (cy_X4_isFull l D cA L T r hG hLA.1 σ ρ_12 hB.2.1 _ h0 mh0 th0 x_13 bh hbh mbh tbh) (cV hts mv_X4_isFull mw_3_187 rfl rfl ⟨Nat.le_of_ble_eq_true rfl, Nat.le_of_ble_eq_true rfl⟩) (pV hB.1 hK hN mh0 th0 (show shp cA 4 _ _ _ = .inr (4, Fs4 _ _ _) from rfl) rfl) rfl rfl hl.1 rfl (lv_room (Nat.le_of_ble_eq_true rfl)) dX4_clause_87 ⟨Nat.le_of_ble_eq_true rfl, Nat.le_of_ble_eq_true rfl⟩) hLA hA hB hS (by decide) (fun x_31 σ_29 ρ_30 H locs hB fσ_29 pσ_29 hS => ?_)
              have qσ_29 := FR.nil fσ_29
              subst qσ_29
              obtain ⟨g_32, g_33⟩ := pσ_29
              have w_34 : 0 ≤ (σ bh 8).toInt ∧ (σ bh 8).toInt ≤ 5 := by have z := hB.2.1 bh mbh 8; rw [tbh] at z; exact z
              have w_35 : 0 ≤ (σ bh 9).toInt ∧ (σ bh 9).toInt ≤ 8 := by have z := hB.2.1 bh mbh 9; rw [tbh] at z; exact z
              have w_36 : 0 ≤ (σ bh 10).toInt ∧ (σ bh 10).toInt ≤ 4 := by have z := hB.2.1 bh mbh 10; rw [tbh] at z; exact z
              obtain ⟨lx_31, ux_31⟩ := g_32
              refine lv_if_eq (tgt := 103) hx hb dX4_clause_90 (by decide) (fun c_37 => ?_) (fun c_37 => ?_)
              · skip
                have uc_37 := i_eq (n := 0) (by decide) c_37
                refine lv_aload_n hx hb dX4_clause_103 rfl (lv_at hl 2 rfl) ?_
                refine lv_dup hx hb dX4_clause_104 rfl ?_
                refine t_gv hx hb hts hown hK hB mh0 th0 fi_4_1 ex_1.symm mw_1_215 dX4_clause_105 ?_
                refine lv_iconst (v := 1) hx hb dX4_clause_108 (by decide) ?_
                refine lv_iadd hx hb dX4_clause_109 ?_
                refine lv_topi (fun x_38 ex_38 => ?_)
                try have vx_38 := b_add (rfl : x_1.toInt = _) (by decide : (1 : Int32).toInt = 1) ex_38 (by omega) (by omega)
                refine t_pi hx hb hts hown hK hLA hB hS mh0 th0 fi_4_1 rfl rfl rfl (i_lo _) (i_hi _) (Or.inl (by decide)) mw_1_215 dX4_clause_110 (fun H locs σ_39 eσ_39 hB hS => ?_)
                have k_40 : σ_39 h0 1 = x_38 := by rw [eσ_39]; exact up2_same _ _ _ _
                refine lv_iload_n hx hb dX4_clause_113 rfl (lv_at hl 1 rfl) ?_
                by_cases c_41 : x_13.toInt < 0 ∨ 4 < x_13.toInt
                · skip
                  refine lv_tableOut (tgt := 178) hx hb dX4_clause_114 c_41 (by decide) ?_
                  refine lv_aload_n hx hb dX4_clause_178 rfl (lv_at hl 2 rfl) ?_
                  refine lv_aload_n hx hb dX4_clause_179 rfl (lv_at hl 3 rfl) ?_
                  refine t_ci (va_runV (As := [.ref h1]) (rest := []) ⟨hx, hb, hml, hown, hts⟩ (cy_X4_heapClause l D cA L T r hG hLA.1 σ_39 ρ_30 hB.2.1 _ h0 mh0 th0 h1 mh1 th1 bh hbh mbh tbh) (cV hts mv_X4_heapClause mw_3_225 rfl rfl ⟨Nat.le_of_ble_eq_true rfl, Nat.le_of_ble_eq_true rfl⟩) (pV hB.1 hK hN mh0 th0 (show shp cA 4 _ _ _ = .inr (4, Fs4 _ _ _) from rfl) rfl) rfl rfl hl.1 rfl (lv_room (Nat.le_of_ble_eq_true rfl)) dX4_clause_180 ⟨Nat.le_of_ble_eq_true rfl, Nat.le_of_ble_eq_true rfl⟩) hLA hA hB hS (by decide) (fun x_44 σ_42 ρ_43 H locs hB fσ_42 pσ_42 hS => ?_)
                  obtain ⟨lx_44, ux_44⟩ := pσ_42
                  exact W.zret (v := x_44) hx hb hr (n_bool (by omega) (by omega)) (fun t ht hW => ⟨⟨x_44, (σ_42, ρ_43), rfl, ⟨hB.2.1, hB.2.2, (show 0 ≤ (x_44 : Int32).toInt ∧ (x_44 : Int32).toInt ≤ 1 from ⟨by omega, by omega⟩)⟩, (show TP D cA L T r σ_42 ρ_43 t.heap from by rw [ht]; exact hB.1)⟩, hS.F ht⟩) hS.2.2 dX4_clause_183
                · skip
                  rcases (show x_13.toInt = 0 ∨ x_13.toInt = 1 ∨ x_13.toInt = 2 ∨ x_13.toInt = 3 ∨ x_13.toInt = 4 by omega) with c_41j | c_41j | c_41j | c_41j | c_41j
                  · skip
                    have c_41x : x_13 = 0 := i_is (by decide) c_41j
                    subst c_41x
                    have nnc_41 : (0 : Int32).toInt = 0 := by decide
                    refine lv_tableIn (tgt := 148) hx hb dX4_clause_114 (by decide) (by decide) rfl (by decide) ?_
                    refine lv_aload_n hx hb dX4_clause_148 rfl (lv_at hl 2 rfl) ?_
                    refine lv_aload_n hx hb dX4_clause_149 rfl (lv_at hl 3 rfl) ?_
                    refine t_ci (va_runV (As := [.ref h1]) (rest := []) ⟨hx, hb, hml, hown, hts⟩ (cy_X4_burdenClause l D cA L T r hG hLA.1 σ_39 ρ_30 hB.2.1 _ h0 mh0 th0 h1 mh1 th1) (cV hts mv_X4_burdenClause mw_3_191 rfl rfl ⟨Nat.le_of_ble_eq_true rfl, Nat.le_of_ble_eq_true rfl⟩) (pV hB.1 hK hN mh0 th0 (show shp cA 4 _ _ _ = .inr (4, Fs4 _ _ _) from rfl) rfl) rfl rfl hl.1 rfl (lv_room (Nat.le_of_ble_eq_true rfl)) dX4_clause_150 ⟨Nat.le_of_ble_eq_true rfl, Nat.le_of_ble_eq_true rfl⟩) hLA hA hB hS (by decide) (fun x_47 σ_45 ρ_46 H locs hB fσ_45 pσ_45 hS => ?_)
                    obtain ⟨lx_47, ux_47⟩ := pσ_45
                    exact W.zret (v := x_47) hx hb hr (n_bool (by omega) (by omega)) (fun t ht hW => ⟨⟨x_47, (σ_45, ρ_46), rfl, ⟨hB.2.1, hB.2.2, (show 0 ≤ (x_47 : Int32).toInt ∧ (x_47 : Int32).toInt ≤ 1 from ⟨by omega, by omega⟩)⟩, (show TP D cA L T r σ_45 ρ_46 t.heap from by rw [ht]; exact hB.1)⟩, hS.F ht⟩) hS.2.2 dX4_clause_153
                  · skip
                    have c_41x : x_13 = 1 := i_is (by decide) c_41j
                    subst c_41x
                    have nnc_41 : (1 : Int32).toInt = 1 := by decide
                    refine lv_tableIn (tgt := 154) hx hb dX4_clause_114 (by decide) (by decide) rfl (by decide) ?_
                    refine lv_aload_n hx hb dX4_clause_154 rfl (lv_at hl 2 rfl) ?_
                    refine lv_aload_n hx hb dX4_clause_155 rfl (lv_at hl 3 rfl) ?_
                    have k_48 : σ_39 bh 8 = (σ bh 8) := by rw [eσ_39, up2_nej _ _ (by decide)]
                    refine t_ci (va_runV (As := [.ref h1]) (rest := []) ⟨hx, hb, hml, hown, hts⟩ (cy_X4_sortClause l D cA L T r hG hLA.1 σ_39 ρ_30 hB.2.1 _ h0 mh0 th0 h1 mh1 th1 bh hbh mbh tbh (by rw [k_48]; omega)) (cV hts mv_X4_sortClause mw_3_199 rfl rfl ⟨Nat.le_of_ble_eq_true rfl, Nat.le_of_ble_eq_true rfl⟩) (pV hB.1 hK hN mh0 th0 (show shp cA 4 _ _ _ = .inr (4, Fs4 _ _ _) from rfl) rfl) rfl rfl hl.1 rfl (lv_room (Nat.le_of_ble_eq_true rfl)) dX4_clause_156 ⟨Nat.le_of_ble_eq_true rfl, Nat.le_of_ble_eq_true rfl⟩) hLA hA hB hS (by decide) (fun x_51 σ_49 ρ_50 H locs hB fσ_49 pσ_49 hS => ?_)
                    obtain ⟨lx_51, ux_51⟩ := pσ_49
                    exact W.zret (v := x_51) hx hb hr (n_bool (by omega) (by omega)) (fun t ht hW => ⟨⟨x_51, (σ_49, ρ_50), rfl, ⟨hB.2.1, hB.2.2, (show 0 ≤ (x_51 : Int32).toInt ∧ (x_51 : Int32).toInt ≤ 1 from ⟨by omega, by omega⟩)⟩, (show TP D cA L T r σ_49 ρ_50 t.heap from by rw [ht]; exact hB.1)⟩, hS.F ht⟩) hS.2.2 dX4_clause_159
                  · skip
                    have c_41x : x_13 = 2 := i_is (by decide) c_41j
                    subst c_41x
                    have nnc_41 : (2 : Int32).toInt = 2 := by decide
                    refine lv_tableIn (tgt := 160) hx hb dX4_clause_114 (by decide) (by decide) rfl (by decide) ?_
                    refine lv_aload_n hx hb dX4_clause_160 rfl (lv_at hl 2 rfl) ?_
                    refine lv_aload_n hx hb dX4_clause_161 rfl (lv_at hl 3 rfl) ?_
                    have k_52 : σ_39 bh 9 = (σ bh 9) := by rw [eσ_39, up2_nej _ _ (by decide)]
                    refine t_ci (va_runV (As := [.ref h1]) (rest := []) ⟨hx, hb, hml, hown, hts⟩ (cy_X4_bendClause l D cA L T r hG hLA.1 σ_39 ρ_30 hB.2.1 _ h0 mh0 th0 h1 mh1 th1 bh hbh mbh tbh (by rw [k_52]; omega)) (cV hts mv_X4_bendClause mw_3_203 rfl rfl ⟨Nat.le_of_ble_eq_true rfl, Nat.le_of_ble_eq_true rfl⟩) (pV hB.1 hK hN mh0 th0 (show shp cA 4 _ _ _ = .inr (4, Fs4 _ _ _) from rfl) rfl) rfl rfl hl.1 rfl (lv_room (Nat.le_of_ble_eq_true rfl)) dX4_clause_162 ⟨Nat.le_of_ble_eq_true rfl, Nat.le_of_ble_eq_true rfl⟩) hLA hA hB hS (by decide) (fun x_55 σ_53 ρ_54 H locs hB fσ_53 pσ_53 hS => ?_)
                    obtain ⟨lx_55, ux_55⟩ := pσ_53
                    exact W.zret (v := x_55) hx hb hr (n_bool (by omega) (by omega)) (fun t ht hW => ⟨⟨x_55, (σ_53, ρ_54), rfl, ⟨hB.2.1, hB.2.2, (show 0 ≤ (x_55 : Int32).toInt ∧ (x_55 : Int32).toInt ≤ 1 from ⟨by omega, by omega⟩)⟩, (show TP D cA L T r σ_53 ρ_54 t.heap from by rw [ht]; exact hB.1)⟩, hS.F ht⟩) hS.2.2 dX4_clause_165
                  · skip
                    have c_41x : x_13 = 3 := i_is (by decide) c_41j
                    subst c_41x
                    have nnc_41 : (3 : Int32).toInt = 3 := by decide
                    refine lv_tableIn (tgt := 166) hx hb dX4_clause_114 (by decide) (by decide) rfl (by decide) ?_
                    refine lv_aload_n hx hb dX4_clause_166 rfl (lv_at hl 2 rfl) ?_
                    refine lv_aload_n hx hb dX4_clause_167 rfl (lv_at hl 3 rfl) ?_
                    have k_56 : σ_39 bh 10 = (σ bh 10) := by rw [eσ_39, up2_nej _ _ (by decide)]
                    refine t_ci (va_runV (As := [.ref h1]) (rest := []) ⟨hx, hb, hml, hown, hts⟩ (cy_X4_pilgrimClause l D cA L T r hG hLA.1 σ_39 ρ_30 hB.2.1 _ h0 mh0 th0 h1 mh1 th1 bh hbh mbh tbh (by rw [k_56]; omega)) (cV hts mv_X4_pilgrimClause mw_3_207 rfl rfl ⟨Nat.le_of_ble_eq_true rfl, Nat.le_of_ble_eq_true rfl⟩) (pV hB.1 hK hN mh0 th0 (show shp cA 4 _ _ _ = .inr (4, Fs4 _ _ _) from rfl) rfl) rfl rfl hl.1 rfl (lv_room (Nat.le_of_ble_eq_true rfl)) dX4_clause_168 ⟨Nat.le_of_ble_eq_true rfl, Nat.le_of_ble_eq_true rfl⟩) hLA hA hB hS (by decide) (fun x_59 σ_57 ρ_58 H locs hB fσ_57 pσ_57 hS => ?_)
                    obtain ⟨lx_59, ux_59⟩ := pσ_57
                    exact W.zret (v := x_59) hx hb hr (n_bool (by omega) (by omega)) (fun t ht hW => ⟨⟨x_59, (σ_57, ρ_58), rfl, ⟨hB.2.1, hB.2.2, (show 0 ≤ (x_59 : Int32).toInt ∧ (x_59 : Int32).toInt ≤ 1 from ⟨by omega, by omega⟩)⟩, (show TP D cA L T r σ_57 ρ_58 t.heap from by rw [ht]; exact hB.1)⟩, hS.F ht⟩) hS.2.2 dX4_clause_171
                  · skip
                    have c_41x : x_13 = 4 := i_is (by decide) c_41j
                    subst c_41x
                    have nnc_41 : (4 : Int32).toInt = 4 := by decide
                    refine lv_tableIn (tgt := 172) hx hb dX4_clause_114 (by decide) (by decide) rfl (by decide) ?_
                    refine lv_aload_n hx hb dX4_clause_172 rfl (lv_at hl 2 rfl) ?_
                    refine lv_aload_n hx hb dX4_clause_173 rfl (lv_at hl 3 rfl) ?_
                    refine t_ci (va_runV (As := [.ref h1]) (rest := []) ⟨hx, hb, hml, hown, hts⟩ (cy_X4_hasClause l D cA L T r hG hLA.1 σ_39 ρ_30 hB.2.1 _ h0 mh0 th0 h1 mh1 th1 bh hbh mbh tbh) (cV hts mv_X4_hasClause mw_3_211 rfl rfl ⟨Nat.le_of_ble_eq_true rfl, Nat.le_of_ble_eq_true rfl⟩) (pV hB.1 hK hN mh0 th0 (show shp cA 4 _ _ _ = .inr (4, Fs4 _ _ _) from rfl) rfl) rfl rfl hl.1 rfl (lv_room (Nat.le_of_ble_eq_true rfl)) dX4_clause_174 ⟨Nat.le_of_ble_eq_true rfl, Nat.le_of_ble_eq_true rfl⟩) hLA hA hB hS (by decide) (fun x_62 σ_60 ρ_61 H locs hB fσ_60 pσ_60 hS => ?_)
                    obtain ⟨lx_62, ux_62⟩ := pσ_60
                    exact W.zret (v := x_62) hx hb hr (n_bool (by omega) (by omega)) (fun t ht hW => ⟨⟨x_62, (σ_60, ρ_61), rfl, ⟨hB.2.1, hB.2.2, (show 0 ≤ (x_62 : Int32).toInt ∧ (x_62 : Int32).toInt ≤ 1 from ⟨by omega, by omega⟩)⟩, (show TP D cA L T r σ_60 ρ_61 t.heap from by rw [ht]; exact hB.1)⟩, hS.F ht⟩) hS.2.2 dX4_clause_177
              · skip
                have uc_37 := i_ne (n := 0) (by decide) c_37
                refine lv_aload_n hx hb dX4_clause_93 rfl (lv_at hl 3 rfl) ?_
                refine lv_aload_n hx hb dX4_clause_94 rfl (lv_at hl 2 rfl) ?_
                refine t_gv hx hb hts hown hK hB mh0 th0 fi_4_1 ex_1.symm mw_1_215 dX4_clause_95 ?_
                refine lv_iconst (v := 4) hx hb dX4_clause_98 (by decide) ?_
                refine t_ci (va_runV (As := [.int x_1, .int 4]) (rest := []) ⟨hx, hb, hml, hown, hts⟩ (cy_X9_wrong l D cA L T r hG hLA.1 σ ρ_30 hB.2.1 _ h1 mh1 th1 x_1 4 (by first | omega | decide) (by first | omega | decide)) (cV hts mv_X9_wrong mw_3_183 rfl rfl ⟨Nat.le_of_ble_eq_true rfl, Nat.le_of_ble_eq_true rfl⟩) (pV hB.1 hK hN mh1 th1 (show shp cA 9 _ _ _ = .inr (9, Fs9 _ _ _) from rfl) rfl) rfl rfl hl.1 rfl (lv_room (Nat.le_of_ble_eq_true rfl)) dX4_clause_99 ⟨Nat.le_of_ble_eq_true rfl, Nat.le_of_ble_eq_true rfl⟩) hLA hA hB hS (by decide) (fun x_65 σ_63 ρ_64 H locs hB fσ_63 pσ_63 hS => ?_)
                obtain ⟨g_66, g_67⟩ := pσ_63
                subst g_66
                exact W.zret (v := 0) hx hb hr rfl (fun t ht hW => ⟨⟨0, (σ_63, ρ_64), rfl, ⟨hB.2.1, hB.2.2, (show 0 ≤ (0 : Int32).toInt ∧ (0 : Int32).toInt ≤ 1 from ⟨by decide, by decide⟩)⟩, (show TP D cA L T r σ_63 ρ_64 t.heap from by rw [ht]; exact hB.1)⟩, hS.F ht⟩) hS.2.2 dX4_clause_102
          · skip
            have uc_22 := i_eq (n := 0) (by decide) c_22
            refine lv_iconst (v := 1) hx hb dX4_clause_59 (by decide) ?_
            refine lv_goto (tgt := 64) hx hb dX4_clause_60 (by decide) ?_
            refine lv_icmp_eq (tgt := 71) hx hb dX4_clause_64 (by decide) (fun c9 => absurd c9 (by decide)) (fun _ => ?_)
            refine lv_iconst (v := 1) hx hb dX4_clause_67 (by decide) ?_
            refine lv_goto (tgt := 72) hx hb dX4_clause_68 (by decide) ?_
            refine lv_istore (lv' := [(4, .int 1), (3, .int x_13), (0, .ref h0), (1, .ref h1), (2, .int p2)]) hx hb dX4_clause_72 hl (by decide) rfl (fun ls hl => ?_)
            refine lv_iload_n hx hb dX4_clause_74 rfl (lv_at hl 4 rfl) ?_
            refine lv_bipush (v := 40) hx hb dX4_clause_75 (by decide) ?_
            refine lv_icmp_ge (tgt := 93) hx hb dX4_clause_77 (by decide) (fun c_68 => ?_) (fun c_68 => ?_)
            · skip
              have uc_68 := i_ge (n := 40) (by decide) c_68
              exfalso; omega
            · skip
              have uc_68 := i_nge (n := 40) (by decide) c_68
              refine lv_iload hx hb dX4_clause_80 (lv_at hl 0 rfl) ?_
              refine lv_if_ne (tgt := 93) hx hb dX4_clause_82 (by decide) (fun _ => ?_) (fun c9 => absurd c9 (by decide))
              refine lv_aload_n hx hb dX4_clause_93 rfl (lv_at hl 3 rfl) ?_
              refine lv_aload_n hx hb dX4_clause_94 rfl (lv_at hl 2 rfl) ?_
              refine t_gv hx hb hts hown hK hB mh0 th0 fi_4_1 ex_1.symm mw_1_215 dX4_clause_95 ?_
              refine lv_iconst (v := 4) hx hb dX4_clause_98 (by decide) ?_
              refine t_ci (va_runV (As := [.int x_1, .int 4]) (rest := []) ⟨hx, hb, hml, hown, hts⟩ (cy_X9_wrong l D cA L T r hG hLA.1 σ ρ_12 hB.2.1 _ h1 mh1 th1 x_1 4 (by first | omega | decide) (by first | omega | decide)) (cV hts mv_X9_wrong mw_3_183 rfl rfl ⟨Nat.le_of_ble_eq_true rfl, Nat.le_of_ble_eq_true rfl⟩) (pV hB.1 hK hN mh1 th1 (show shp cA 9 _ _ _ = .inr (9, Fs9 _ _ _) from rfl) rfl) rfl rfl hl.1 rfl (lv_room (Nat.le_of_ble_eq_true rfl)) dX4_clause_99 ⟨Nat.le_of_ble_eq_true rfl, Nat.le_of_ble_eq_true rfl⟩) hLA hA hB hS (by decide) (fun x_71 σ_69 ρ_70 H locs hB fσ_69 pσ_69 hS => ?_)
              obtain ⟨g_72, g_73⟩ := pσ_69
              subst g_72
              exact W.zret (v := 0) hx hb hr rfl (fun t ht hW => ⟨⟨0, (σ_69, ρ_70), rfl, ⟨hB.2.1, hB.2.2, (show 0 ≤ (0 : Int32).toInt ∧ (0 : Int32).toInt ≤ 1 from ⟨by decide, by decide⟩)⟩, (show TP D cA L T r σ_69 ρ_70 t.heap from by rw [ht]; exact hB.1)⟩, hS.F ht⟩) hS.2.2 dX4_clause_102
        · skip
          have uc_21 := i_eq (n := 0) (by decide) c_21
          refine lv_iconst (v := 1) hx hb dX4_clause_50 (by decide) ?_
          refine lv_goto (tgt := 55) hx hb dX4_clause_51 (by decide) ?_
          refine lv_iload_n hx hb dX4_clause_55 rfl (lv_at hl 3 rfl) ?_
          refine lv_if_ne (tgt := 63) hx hb dX4_clause_56 (by decide) (fun c_74 => ?_) (fun c_74 => ?_)
          · skip
            have uc_74 := i_ne (n := 0) (by decide) c_74
            refine lv_iconst (v := 0) hx hb dX4_clause_63 (by decide) ?_
            refine lv_icmp_eq (tgt := 71) hx hb dX4_clause_64 (by decide) (fun c9 => absurd c9 (by decide)) (fun _ => ?_)
            refine lv_iconst (v := 1) hx hb dX4_clause_67 (by decide) ?_
            refine lv_goto (tgt := 72) hx hb dX4_clause_68 (by decide) ?_
            refine lv_istore (lv' := [(4, .int 1), (3, .int x_13), (0, .ref h0), (1, .ref h1), (2, .int p2)]) hx hb dX4_clause_72 hl (by decide) rfl (fun ls hl => ?_)
            refine lv_iload_n hx hb dX4_clause_74 rfl (lv_at hl 4 rfl) ?_
            refine lv_bipush (v := 40) hx hb dX4_clause_75 (by decide) ?_
            refine lv_icmp_ge (tgt := 93) hx hb dX4_clause_77 (by decide) (fun c_75 => ?_) (fun c_75 => ?_)
            · skip
              have uc_75 := i_ge (n := 40) (by decide) c_75
              refine lv_aload_n hx hb dX4_clause_93 rfl (lv_at hl 3 rfl) ?_
              refine lv_aload_n hx hb dX4_clause_94 rfl (lv_at hl 2 rfl) ?_
              refine t_gv hx hb hts hown hK hB mh0 th0 fi_4_1 ex_1.symm mw_1_215 dX4_clause_95 ?_
              refine lv_iconst (v := 4) hx hb dX4_clause_98 (by decide) ?_
              refine t_ci (va_runV (As := [.int x_1, .int 4]) (rest := []) ⟨hx, hb, hml, hown, hts⟩ (cy_X9_wrong l D cA L T r hG hLA.1 σ ρ_12 hB.2.1 _ h1 mh1 th1 x_1 4 (by first | omega | decide) (by first | omega | decide)) (cV hts mv_X9_wrong mw_3_183 rfl rfl ⟨Nat.le_of_ble_eq_true rfl, Nat.le_of_ble_eq_true rfl⟩) (pV hB.1 hK hN mh1 th1 (show shp cA 9 _ _ _ = .inr (9, Fs9 _ _ _) from rfl) rfl) rfl rfl hl.1 rfl (lv_room (Nat.le_of_ble_eq_true rfl)) dX4_clause_99 ⟨Nat.le_of_ble_eq_true rfl, Nat.le_of_ble_eq_true rfl⟩) hLA hA hB hS (by decide) (fun x_78 σ_76 ρ_77 H locs hB fσ_76 pσ_76 hS => ?_)
              obtain ⟨g_79, g_80⟩ := pσ_76
              subst g_79
              exact W.zret (v := 0) hx hb hr rfl (fun t ht hW => ⟨⟨0, (σ_76, ρ_77), rfl, ⟨hB.2.1, hB.2.2, (show 0 ≤ (0 : Int32).toInt ∧ (0 : Int32).toInt ≤ 1 from ⟨by decide, by decide⟩)⟩, (show TP D cA L T r σ_76 ρ_77 t.heap from by rw [ht]; exact hB.1)⟩, hS.F ht⟩) hS.2.2 dX4_clause_102
            · skip
              have uc_75 := i_nge (n := 40) (by decide) c_75
              refine lv_iload hx hb dX4_clause_80 (lv_at hl 0 rfl) ?_
              refine lv_if_ne (tgt := 93) hx hb dX4_clause_82 (by decide) (fun _ => ?_) (fun c9 => absurd c9 (by decide))
              refine lv_aload_n hx hb dX4_clause_93 rfl (lv_at hl 3 rfl) ?_
              refine lv_aload_n hx hb dX4_clause_94 rfl (lv_at hl 2 rfl) ?_
              refine t_gv hx hb hts hown hK hB mh0 th0 fi_4_1 ex_1.symm mw_1_215 dX4_clause_95 ?_
              refine lv_iconst (v := 4) hx hb dX4_clause_98 (by decide) ?_
              refine t_ci (va_runV (As := [.int x_1, .int 4]) (rest := []) ⟨hx, hb, hml, hown, hts⟩ (cy_X9_wrong l D cA L T r hG hLA.1 σ ρ_12 hB.2.1 _ h1 mh1 th1 x_1 4 (by first | omega | decide) (by first | omega | decide)) (cV hts mv_X9_wrong mw_3_183 rfl rfl ⟨Nat.le_of_ble_eq_true rfl, Nat.le_of_ble_eq_true rfl⟩) (pV hB.1 hK hN mh1 th1 (show shp cA 9 _ _ _ = .inr (9, Fs9 _ _ _) from rfl) rfl) rfl rfl hl.1 rfl (lv_room (Nat.le_of_ble_eq_true rfl)) dX4_clause_99 ⟨Nat.le_of_ble_eq_true rfl, Nat.le_of_ble_eq_true rfl⟩) hLA hA hB hS (by decide) (fun x_83 σ_81 ρ_82 H locs hB fσ_81 pσ_81 hS => ?_)
              obtain ⟨g_84, g_85⟩ := pσ_81
              subst g_84
              exact W.zret (v := 0) hx hb hr rfl (fun t ht hW => ⟨⟨0, (σ_81, ρ_82), rfl, ⟨hB.2.1, hB.2.2, (show 0 ≤ (0 : Int32).toInt ∧ (0 : Int32).toInt ≤ 1 from ⟨by decide, by decide⟩)⟩, (show TP D cA L T r σ_81 ρ_82 t.heap from by rw [ht]; exact hB.1)⟩, hS.F ht⟩) hS.2.2 dX4_clause_102
          · skip
            have uc_74 := i_eq (n := 0) (by decide) c_74
            refine lv_iconst (v := 1) hx hb dX4_clause_59 (by decide) ?_
            refine lv_goto (tgt := 64) hx hb dX4_clause_60 (by decide) ?_
            refine lv_icmp_eq (tgt := 71) hx hb dX4_clause_64 (by decide) (fun _ => ?_) (fun c9 => absurd (by decide) c9)
            refine lv_iconst (v := 0) hx hb dX4_clause_71 (by decide) ?_
            refine lv_istore (lv' := [(4, .int 0), (3, .int x_13), (0, .ref h0), (1, .ref h1), (2, .int p2)]) hx hb dX4_clause_72 hl (by decide) rfl (fun ls hl => ?_)
            refine lv_iload_n hx hb dX4_clause_74 rfl (lv_at hl 4 rfl) ?_
            refine lv_bipush (v := 40) hx hb dX4_clause_75 (by decide) ?_
            refine lv_icmp_ge (tgt := 93) hx hb dX4_clause_77 (by decide) (fun c_86 => ?_) (fun c_86 => ?_)
            · skip
              have uc_86 := i_ge (n := 40) (by decide) c_86
              exfalso; omega
            · skip
              have uc_86 := i_nge (n := 40) (by decide) c_86
              refine lv_iload hx hb dX4_clause_80 (lv_at hl 0 rfl) ?_
              refine lv_if_ne (tgt := 93) hx hb dX4_clause_82 (by decide) (fun c9 => absurd (by decide) c9) (fun _ => ?_)
              refine lv_aload_n hx hb dX4_clause_85 rfl (lv_at hl 2 rfl) ?_
              refine lv_iload_n hx hb dX4_clause_86 rfl (lv_at hl 1 rfl) ?_
              refine t_ci (va_runV (As := [.int x_13]) (rest := []) ⟨hx, hb, hml, hown, hts⟩ (cy_X4_isFull l D cA L T r hG hLA.1 σ ρ_12 hB.2.1 _ h0 mh0 th0 x_13 bh hbh mbh tbh) (cV hts mv_X4_isFull mw_3_187 rfl rfl ⟨Nat.le_of_ble_eq_true rfl, Nat.le_of_ble_eq_true rfl⟩) (pV hB.1 hK hN mh0 th0 (show shp cA 4 _ _ _ = .inr (4, Fs4 _ _ _) from rfl) rfl) rfl rfl hl.1 rfl (lv_room (Nat.le_of_ble_eq_true rfl)) dX4_clause_87 ⟨Nat.le_of_ble_eq_true rfl, Nat.le_of_ble_eq_true rfl⟩) hLA hA hB hS (by decide) (fun x_89 σ_87 ρ_88 H locs hB fσ_87 pσ_87 hS => ?_)
              have qσ_87 := FR.nil fσ_87
              subst qσ_87
              obtain ⟨g_90, g_91⟩ := pσ_87
              have w_92 : 0 ≤ (σ bh 8).toInt ∧ (σ bh 8).toInt ≤ 5 := by have z := hB.2.1 bh mbh 8; rw [tbh] at z; exact z
              have w_93 : 0 ≤ (σ bh 9).toInt ∧ (σ bh 9).toInt ≤ 8 := by have z := hB.2.1 bh mbh 9; rw [tbh] at z; exact z
              have w_94 : 0 ≤ (σ bh 10).toInt ∧ (σ bh 10).toInt ≤ 4 := by have z := hB.2.1 bh mbh 10; rw [tbh] at z; exact z
              obtain ⟨lx_89, ux_89⟩ := g_90
              refine lv_if_eq (tgt := 103) hx hb dX4_clause_90 (by decide) (fun c_95 => ?_) (fun c_95 => ?_)
              · skip
                have uc_95 := i_eq (n := 0) (by decide) c_95
                refine lv_aload_n hx hb dX4_clause_103 rfl (lv_at hl 2 rfl) ?_
                refine lv_dup hx hb dX4_clause_104 rfl ?_
                refine t_gv hx hb hts hown hK hB mh0 th0 fi_4_1 ex_1.symm mw_1_215 dX4_clause_105 ?_
                refine lv_iconst (v := 1) hx hb dX4_clause_108 (by decide) ?_
                refine lv_iadd hx hb dX4_clause_109 ?_
                refine lv_topi (fun x_96 ex_96 => ?_)
                try have vx_96 := b_add (rfl : x_1.toInt = _) (by decide : (1 : Int32).toInt = 1) ex_96 (by omega) (by omega)
                refine t_pi hx hb hts hown hK hLA hB hS mh0 th0 fi_4_1 rfl rfl rfl (i_lo _) (i_hi _) (Or.inl (by decide)) mw_1_215 dX4_clause_110 (fun H locs σ_97 eσ_97 hB hS => ?_)
                have k_98 : σ_97 h0 1 = x_96 := by rw [eσ_97]; exact up2_same _ _ _ _
                refine lv_iload_n hx hb dX4_clause_113 rfl (lv_at hl 1 rfl) ?_
                by_cases c_99 : x_13.toInt < 0 ∨ 4 < x_13.toInt
                · skip
                  refine lv_tableOut (tgt := 178) hx hb dX4_clause_114 c_99 (by decide) ?_
                  refine lv_aload_n hx hb dX4_clause_178 rfl (lv_at hl 2 rfl) ?_
                  refine lv_aload_n hx hb dX4_clause_179 rfl (lv_at hl 3 rfl) ?_
                  refine t_ci (va_runV (As := [.ref h1]) (rest := []) ⟨hx, hb, hml, hown, hts⟩ (cy_X4_heapClause l D cA L T r hG hLA.1 σ_97 ρ_88 hB.2.1 _ h0 mh0 th0 h1 mh1 th1 bh hbh mbh tbh) (cV hts mv_X4_heapClause mw_3_225 rfl rfl ⟨Nat.le_of_ble_eq_true rfl, Nat.le_of_ble_eq_true rfl⟩) (pV hB.1 hK hN mh0 th0 (show shp cA 4 _ _ _ = .inr (4, Fs4 _ _ _) from rfl) rfl) rfl rfl hl.1 rfl (lv_room (Nat.le_of_ble_eq_true rfl)) dX4_clause_180 ⟨Nat.le_of_ble_eq_true rfl, Nat.le_of_ble_eq_true rfl⟩) hLA hA hB hS (by decide) (fun x_102 σ_100 ρ_101 H locs hB fσ_100 pσ_100 hS => ?_)
                  obtain ⟨lx_102, ux_102⟩ := pσ_100
                  exact W.zret (v := x_102) hx hb hr (n_bool (by omega) (by omega)) (fun t ht hW => ⟨⟨x_102, (σ_100, ρ_101), rfl, ⟨hB.2.1, hB.2.2, (show 0 ≤ (x_102 : Int32).toInt ∧ (x_102 : Int32).toInt ≤ 1 from ⟨by omega, by omega⟩)⟩, (show TP D cA L T r σ_100 ρ_101 t.heap from by rw [ht]; exact hB.1)⟩, hS.F ht⟩) hS.2.2 dX4_clause_183
                · skip
                  rcases (show x_13.toInt = 0 ∨ x_13.toInt = 1 ∨ x_13.toInt = 2 ∨ x_13.toInt = 3 ∨ x_13.toInt = 4 by omega) with c_99j | c_99j | c_99j | c_99j | c_99j
                  · skip
                    have c_99x : x_13 = 0 := i_is (by decide) c_99j
                    subst c_99x
                    have nnc_99 : (0 : Int32).toInt = 0 := by decide
                    refine lv_tableIn (tgt := 148) hx hb dX4_clause_114 (by decide) (by decide) rfl (by decide) ?_
                    refine lv_aload_n hx hb dX4_clause_148 rfl (lv_at hl 2 rfl) ?_
                    refine lv_aload_n hx hb dX4_clause_149 rfl (lv_at hl 3 rfl) ?_
                    refine t_ci (va_runV (As := [.ref h1]) (rest := []) ⟨hx, hb, hml, hown, hts⟩ (cy_X4_burdenClause l D cA L T r hG hLA.1 σ_97 ρ_88 hB.2.1 _ h0 mh0 th0 h1 mh1 th1) (cV hts mv_X4_burdenClause mw_3_191 rfl rfl ⟨Nat.le_of_ble_eq_true rfl, Nat.le_of_ble_eq_true rfl⟩) (pV hB.1 hK hN mh0 th0 (show shp cA 4 _ _ _ = .inr (4, Fs4 _ _ _) from rfl) rfl) rfl rfl hl.1 rfl (lv_room (Nat.le_of_ble_eq_true rfl)) dX4_clause_150 ⟨Nat.le_of_ble_eq_true rfl, Nat.le_of_ble_eq_true rfl⟩) hLA hA hB hS (by decide) (fun x_105 σ_103 ρ_104 H locs hB fσ_103 pσ_103 hS => ?_)
                    obtain ⟨lx_105, ux_105⟩ := pσ_103
                    exact W.zret (v := x_105) hx hb hr (n_bool (by omega) (by omega)) (fun t ht hW => ⟨⟨x_105, (σ_103, ρ_104), rfl, ⟨hB.2.1, hB.2.2, (show 0 ≤ (x_105 : Int32).toInt ∧ (x_105 : Int32).toInt ≤ 1 from ⟨by omega, by omega⟩)⟩, (show TP D cA L T r σ_103 ρ_104 t.heap from by rw [ht]; exact hB.1)⟩, hS.F ht⟩) hS.2.2 dX4_clause_153
                  · skip
                    have c_99x : x_13 = 1 := i_is (by decide) c_99j
                    subst c_99x
                    have nnc_99 : (1 : Int32).toInt = 1 := by decide
                    refine lv_tableIn (tgt := 154) hx hb dX4_clause_114 (by decide) (by decide) rfl (by decide) ?_
                    refine lv_aload_n hx hb dX4_clause_154 rfl (lv_at hl 2 rfl) ?_
                    refine lv_aload_n hx hb dX4_clause_155 rfl (lv_at hl 3 rfl) ?_
                    have k_106 : σ_97 bh 8 = (σ bh 8) := by rw [eσ_97, up2_nej _ _ (by decide)]
                    refine t_ci (va_runV (As := [.ref h1]) (rest := []) ⟨hx, hb, hml, hown, hts⟩ (cy_X4_sortClause l D cA L T r hG hLA.1 σ_97 ρ_88 hB.2.1 _ h0 mh0 th0 h1 mh1 th1 bh hbh mbh tbh (by rw [k_106]; omega)) (cV hts mv_X4_sortClause mw_3_199 rfl rfl ⟨Nat.le_of_ble_eq_true rfl, Nat.le_of_ble_eq_true rfl⟩) (pV hB.1 hK hN mh0 th0 (show shp cA 4 _ _ _ = .inr (4, Fs4 _ _ _) from rfl) rfl) rfl rfl hl.1 rfl (lv_room (Nat.le_of_ble_eq_true rfl)) dX4_clause_156 ⟨Nat.le_of_ble_eq_true rfl, Nat.le_of_ble_eq_true rfl⟩) hLA hA hB hS (by decide) (fun x_109 σ_107 ρ_108 H locs hB fσ_107 pσ_107 hS => ?_)
                    obtain ⟨lx_109, ux_109⟩ := pσ_107
                    exact W.zret (v := x_109) hx hb hr (n_bool (by omega) (by omega)) (fun t ht hW => ⟨⟨x_109, (σ_107, ρ_108), rfl, ⟨hB.2.1, hB.2.2, (show 0 ≤ (x_109 : Int32).toInt ∧ (x_109 : Int32).toInt ≤ 1 from ⟨by omega, by omega⟩)⟩, (show TP D cA L T r σ_107 ρ_108 t.heap from by rw [ht]; exact hB.1)⟩, hS.F ht⟩) hS.2.2 dX4_clause_159
                  · skip
                    have c_99x : x_13 = 2 := i_is (by decide) c_99j
                    subst c_99x
                    have nnc_99 : (2 : Int32).toInt = 2 := by decide
                    refine lv_tableIn (tgt := 160) hx hb dX4_clause_114 (by decide) (by decide) rfl (by decide) ?_
                    refine lv_aload_n hx hb dX4_clause_160 rfl (lv_at hl 2 rfl) ?_
                    refine lv_aload_n hx hb dX4_clause_161 rfl (lv_at hl 3 rfl) ?_
                    have k_110 : σ_97 bh 9 = (σ bh 9) := by rw [eσ_97, up2_nej _ _ (by decide)]
                    refine t_ci (va_runV (As := [.ref h1]) (rest := []) ⟨hx, hb, hml, hown, hts⟩ (cy_X4_bendClause l D cA L T r hG hLA.1 σ_97 ρ_88 hB.2.1 _ h0 mh0 th0 h1 mh1 th1 bh hbh mbh tbh (by rw [k_110]; omega)) (cV hts mv_X4_bendClause mw_3_203 rfl rfl ⟨Nat.le_of_ble_eq_true rfl, Nat.le_of_ble_eq_true rfl⟩) (pV hB.1 hK hN mh0 th0 (show shp cA 4 _ _ _ = .inr (4, Fs4 _ _ _) from rfl) rfl) rfl rfl hl.1 rfl (lv_room (Nat.le_of_ble_eq_true rfl)) dX4_clause_162 ⟨Nat.le_of_ble_eq_true rfl, Nat.le_of_ble_eq_true rfl⟩) hLA hA hB hS (by decide) (fun x_113 σ_111 ρ_112 H locs hB fσ_111 pσ_111 hS => ?_)
                    obtain ⟨lx_113, ux_113⟩ := pσ_111
                    exact W.zret (v := x_113) hx hb hr (n_bool (by omega) (by omega)) (fun t ht hW => ⟨⟨x_113, (σ_111, ρ_112), rfl, ⟨hB.2.1, hB.2.2, (show 0 ≤ (x_113 : Int32).toInt ∧ (x_113 : Int32).toInt ≤ 1 from ⟨by omega, by omega⟩)⟩, (show TP D cA L T r σ_111 ρ_112 t.heap from by rw [ht]; exact hB.1)⟩, hS.F ht⟩) hS.2.2 dX4_clause_165
                  · skip
                    have c_99x : x_13 = 3 := i_is (by decide) c_99j
                    subst c_99x
                    have nnc_99 : (3 : Int32).toInt = 3 := by decide
                    refine lv_tableIn (tgt := 166) hx hb dX4_clause_114 (by decide) (by decide) rfl (by decide) ?_
                    refine lv_aload_n hx hb dX4_clause_166 rfl (lv_at hl 2 rfl) ?_
                    refine lv_aload_n hx hb dX4_clause_167 rfl (lv_at hl 3 rfl) ?_
                    have k_114 : σ_97 bh 10 = (σ bh 10) := by rw [eσ_97, up2_nej _ _ (by decide)]
                    refine t_ci (va_runV (As := [.ref h1]) (rest := []) ⟨hx, hb, hml, hown, hts⟩ (cy_X4_pilgrimClause l D cA L T r hG hLA.1 σ_97 ρ_88 hB.2.1 _ h0 mh0 th0 h1 mh1 th1 bh hbh mbh tbh (by rw [k_114]; omega)) (cV hts mv_X4_pilgrimClause mw_3_207 rfl rfl ⟨Nat.le_of_ble_eq_true rfl, Nat.le_of_ble_eq_true rfl⟩) (pV hB.1 hK hN mh0 th0 (show shp cA 4 _ _ _ = .inr (4, Fs4 _ _ _) from rfl) rfl) rfl rfl hl.1 rfl (lv_room (Nat.le_of_ble_eq_true rfl)) dX4_clause_168 ⟨Nat.le_of_ble_eq_true rfl, Nat.le_of_ble_eq_true rfl⟩) hLA hA hB hS (by decide) (fun x_117 σ_115 ρ_116 H locs hB fσ_115 pσ_115 hS => ?_)
                    obtain ⟨lx_117, ux_117⟩ := pσ_115
                    exact W.zret (v := x_117) hx hb hr (n_bool (by omega) (by omega)) (fun t ht hW => ⟨⟨x_117, (σ_115, ρ_116), rfl, ⟨hB.2.1, hB.2.2, (show 0 ≤ (x_117 : Int32).toInt ∧ (x_117 : Int32).toInt ≤ 1 from ⟨by omega, by omega⟩)⟩, (show TP D cA L T r σ_115 ρ_116 t.heap from by rw [ht]; exact hB.1)⟩, hS.F ht⟩) hS.2.2 dX4_clause_171
                  · skip
                    have c_99x : x_13 = 4 := i_is (by decide) c_99j
                    subst c_99x
                    have nnc_99 : (4 : Int32).toInt = 4 := by decide
                    refine lv_tableIn (tgt := 172) hx hb dX4_clause_114 (by decide) (by decide) rfl (by decide) ?_
                    refine lv_aload_n hx hb dX4_clause_172 rfl (lv_at hl 2 rfl) ?_
                    refine lv_aload_n hx hb dX4_clause_173 rfl (lv_at hl 3 rfl) ?_
                    refine t_ci (va_runV (As := [.ref h1]) (rest := []) ⟨hx, hb, hml, hown, hts⟩ (cy_X4_hasClause l D cA L T r hG hLA.1 σ_97 ρ_88 hB.2.1 _ h0 mh0 th0 h1 mh1 th1 bh hbh mbh tbh) (cV hts mv_X4_hasClause mw_3_211 rfl rfl ⟨Nat.le_of_ble_eq_true rfl, Nat.le_of_ble_eq_true rfl⟩) (pV hB.1 hK hN mh0 th0 (show shp cA 4 _ _ _ = .inr (4, Fs4 _ _ _) from rfl) rfl) rfl rfl hl.1 rfl (lv_room (Nat.le_of_ble_eq_true rfl)) dX4_clause_174 ⟨Nat.le_of_ble_eq_true rfl, Nat.le_of_ble_eq_true rfl⟩) hLA hA hB hS (by decide) (fun x_120 σ_118 ρ_119 H locs hB fσ_118 pσ_118 hS => ?_)
                    obtain ⟨lx_120, ux_120⟩ := pσ_118
                    exact W.zret (v := x_120) hx hb hr (n_bool (by omega) (by omega)) (fun t ht hW => ⟨⟨x_120, (σ_118, ρ_119), rfl, ⟨hB.2.1, hB.2.2, (show 0 ≤ (x_120 : Int32).toInt ∧ (x_120 : Int32).toInt ≤ 1 from ⟨by omega, by omega⟩)⟩, (show TP D cA L T r σ_118 ρ_119 t.heap from by rw [ht]; exact hB.1)⟩, hS.F ht⟩) hS.2.2 dX4_clause_177
              · skip
                have uc_95 := i_ne (n := 0) (by decide) c_95
                refine lv_aload_n hx hb dX4_clause_93 rfl (lv_at hl 3 rfl) ?_
                refine lv_aload_n hx hb dX4_clause_94 rfl (lv_at hl 2 rfl) ?_
                refine t_gv hx hb hts hown hK hB mh0 th0 fi_4_1 ex_1.symm mw_1_215 dX4_clause_95 ?_
                refine lv_iconst (v := 4) hx hb dX4_clause_98 (by decide) ?_
                refine t_ci (va_runV (As := [.int x_1, .int 4]) (rest := []) ⟨hx, hb, hml, hown, hts⟩ (cy_X9_wrong l D cA L T r hG hLA.1 σ ρ_88 hB.2.1 _ h1 mh1 th1 x_1 4 (by first | omega | decide) (by first | omega | decide)) (cV hts mv_X9_wrong mw_3_183 rfl rfl ⟨Nat.le_of_ble_eq_true rfl, Nat.le_of_ble_eq_true rfl⟩) (pV hB.1 hK hN mh1 th1 (show shp cA 9 _ _ _ = .inr (9, Fs9 _ _ _) from rfl) rfl) rfl rfl hl.1 rfl (lv_room (Nat.le_of_ble_eq_true rfl)) dX4_clause_99 ⟨Nat.le_of_ble_eq_true rfl, Nat.le_of_ble_eq_true rfl⟩) hLA hA hB hS (by decide) (fun x_123 σ_121 ρ_122 H locs hB fσ_121 pσ_121 hS => ?_)
                obtain ⟨g_124, g_125⟩ := pσ_121
                subst g_124
                exact W.zret (v := 0) hx hb hr rfl (fun t ht hW => ⟨⟨0, (σ_121, ρ_122), rfl, ⟨hB.2.1, hB.2.2, (show 0 ≤ (0 : Int32).toInt ∧ (0 : Int32).toInt ≤ 1 from ⟨by decide, by decide⟩)⟩, (show TP D cA L T r σ_121 ρ_122 t.heap from by rw [ht]; exact hB.1)⟩, hS.F ht⟩) hS.2.2 dX4_clause_102
      · skip
        have uc_20 := i_nle (n := 5) (by decide) c_20
        refine lv_aload_n hx hb dX4_clause_36 rfl (lv_at hl 2 rfl) ?_
        refine lv_aload_n hx hb dX4_clause_37 rfl (lv_at hl 1 rfl) ?_
        refine t_gv hx hb hts hown hK hB mh0 th0 fi_4_1 ex_1.symm mw_1_215 dX4_clause_38 ?_
        refine lv_iconst (v := 0) hx hb dX4_clause_41 (by decide) ?_
        refine t_ci (va_runV (As := [.int x_1, .int 0]) (rest := []) ⟨hx, hb, hml, hown, hts⟩ (cy_X9_wrong l D cA L T r hG hLA.1 σ ρ_12 hB.2.1 _ h1 mh1 th1 x_1 0 (by first | omega | decide) (by first | omega | decide)) (cV hts mv_X9_wrong mw_3_183 rfl rfl ⟨Nat.le_of_ble_eq_true rfl, Nat.le_of_ble_eq_true rfl⟩) (pV hB.1 hK hN mh1 th1 (show shp cA 9 _ _ _ = .inr (9, Fs9 _ _ _) from rfl) rfl) rfl rfl hl.1 rfl (lv_room (Nat.le_of_ble_eq_true rfl)) dX4_clause_42 ⟨Nat.le_of_ble_eq_true rfl, Nat.le_of_ble_eq_true rfl⟩) hLA hA hB hS (by decide) (fun x_128 σ_126 ρ_127 H locs hB fσ_126 pσ_126 hS => ?_)
        obtain ⟨g_129, g_130⟩ := pσ_126
        subst g_129
        exact W.zret (v := 0) hx hb hr rfl (fun t ht hW => ⟨⟨0, (σ_126, ρ_127), rfl, ⟨hB.2.1, hB.2.2, (show 0 ≤ (0 : Int32).toInt ∧ (0 : Int32).toInt ≤ 1 from ⟨by decide, by decide⟩)⟩, (show TP D cA L T r σ_126 ρ_127 t.heap from by rw [ht]; exact hB.1)⟩, hS.F ht⟩) hS.2.2 dX4_clause_45
