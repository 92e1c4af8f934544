theorem mw_7_188 : (.instanceMethod yX12_canCarry : Cond) ∈ wsA := wsA_t (List.mem_append_right _ (List.mem_append_right _ (List.mem_append_right _ (List.mem_append_right _ (List.mem_append_right _ (List.mem_append_right _ (List.mem_append_left _ (List.mem_of_getElem? (l := tables_1_7) (i := 188) rfl)))))))) rfl
theorem mp_7_4 : (.selects RX12 yX12_canCarry yX12_canCarry : Cond) ∈ wsA := wsA_p (q := (yX12_canCarry, 44)) (List.mem_append_right _ (List.mem_append_right _ (List.mem_append_right _ (List.mem_append_right _ (List.mem_append_right _ (List.mem_append_right _ (List.mem_append_left _ (List.mem_of_getElem? (l := lw_privs_7) (i := 4) rfl))))))))
theorem mw_7_189 : (.code yX12_canCarry cX12_canCarry 3 (some .boolean) : Cond) ∈ wsA := wsA_t (List.mem_append_right _ (List.mem_append_right _ (List.mem_append_right _ (List.mem_append_right _ (List.mem_append_right _ (List.mem_append_right _ (List.mem_append_left _ (List.mem_of_getElem? (l := tables_1_7) (i := 189) rfl)))))))) rfl
theorem mw_7_186 : (.methodLink RX12 373 yX12_canCarry : Cond) ∈ wsA := wsA_t (List.mem_append_right _ (List.mem_append_right _ (List.mem_append_right _ (List.mem_append_right _ (List.mem_append_right _ (List.mem_append_right _ (List.mem_append_left _ (List.mem_of_getElem? (l := tables_1_7) (i := 186) rfl)))))))) rfl
theorem mw_7_129 : (.instanceMethod yX12_keepsAct : Cond) ∈ wsA := wsA_t (List.mem_append_right _ (List.mem_append_right _ (List.mem_append_right _ (List.mem_append_right _ (List.mem_append_right _ (List.mem_append_right _ (List.mem_append_left _ (List.mem_of_getElem? (l := tables_1_7) (i := 129) rfl)))))))) rfl
theorem mp_6_9 : (.selects RX12 yX12_keepsAct yX12_keepsAct : Cond) ∈ wsA := wsA_p (q := (yX12_keepsAct, 44)) (List.mem_append_right _ (List.mem_append_right _ (List.mem_append_right _ (List.mem_append_right _ (List.mem_append_right _ (List.mem_append_left _ (List.mem_of_getElem? (l := lw_privs_6) (i := 9) rfl)))))))
theorem mw_7_130 : (.code yX12_keepsAct cX12_keepsAct 2 none : Cond) ∈ wsA := wsA_t (List.mem_append_right _ (List.mem_append_right _ (List.mem_append_right _ (List.mem_append_right _ (List.mem_append_right _ (List.mem_append_right _ (List.mem_append_left _ (List.mem_of_getElem? (l := tables_1_7) (i := 130) rfl)))))))) rfl
theorem mw_7_127 : (.methodLink RX12 357 yX12_keepsAct : Cond) ∈ wsA := wsA_t (List.mem_append_right _ (List.mem_append_right _ (List.mem_append_right _ (List.mem_append_right _ (List.mem_append_right _ (List.mem_append_right _ (List.mem_append_left _ (List.mem_of_getElem? (l := tables_1_7) (i := 127) rfl)))))))) rfl
theorem mw_7_176 : (.instanceMethod yX12_adds : Cond) ∈ wsA := wsA_t (List.mem_append_right _ (List.mem_append_right _ (List.mem_append_right _ (List.mem_append_right _ (List.mem_append_right _ (List.mem_append_right _ (List.mem_append_left _ (List.mem_of_getElem? (l := tables_1_7) (i := 176) rfl)))))))) rfl
theorem mp_7_3 : (.selects RX12 yX12_adds yX12_adds : Cond) ∈ wsA := wsA_p (q := (yX12_adds, 44)) (List.mem_append_right _ (List.mem_append_right _ (List.mem_append_right _ (List.mem_append_right _ (List.mem_append_right _ (List.mem_append_right _ (List.mem_append_left _ (List.mem_of_getElem? (l := lw_privs_7) (i := 3) rfl))))))))
theorem mw_7_177 : (.code yX12_adds cX12_adds 4 none : Cond) ∈ wsA := wsA_t (List.mem_append_right _ (List.mem_append_right _ (List.mem_append_right _ (List.mem_append_right _ (List.mem_append_right _ (List.mem_append_right _ (List.mem_append_left _ (List.mem_of_getElem? (l := tables_1_7) (i := 177) rfl)))))))) rfl
theorem mw_7_174 : (.methodLink RX12 363 yX12_adds : Cond) ∈ wsA := wsA_t (List.mem_append_right _ (List.mem_append_right _ (List.mem_append_right _ (List.mem_append_right _ (List.mem_append_right _ (List.mem_append_right _ (List.mem_append_left _ (List.mem_of_getElem? (l := tables_1_7) (i := 174) rfl)))))))) rfl
theorem dX12_buy_0 : decode cX12_buy 0 = .ok (.aload_n 0, 1) := by decide +kernel
theorem dX12_buy_1 : decode cX12_buy 1 = .ok (.iload_n 1, 1) := by decide +kernel
theorem dX12_buy_2 : decode cX12_buy 2 = .ok (.invokevirtual 319, 3) := by decide +kernel
theorem dX12_buy_5 : decode cX12_buy 5 = .ok (.ifCond .eq 20, 3) := by decide +kernel
theorem dX12_buy_25 : decode cX12_buy 25 = .ok (.iconst (-1), 1) := by decide +kernel
theorem dX12_buy_26 : decode cX12_buy 26 = .ok (.ireturn, 1) := by decide +kernel
theorem dX12_buy_8 : decode cX12_buy 8 = .ok (.aload_n 0, 1) := by decide +kernel
theorem dX12_buy_9 : decode cX12_buy 9 = .ok (.iload_n 2, 1) := by decide +kernel
theorem dX12_buy_10 : decode cX12_buy 10 = .ok (.invokevirtual 335, 3) := by decide +kernel
theorem dX12_buy_13 : decode cX12_buy 13 = .ok (.ifCond .eq 12, 3) := by decide +kernel
theorem dX12_buy_16 : decode cX12_buy 16 = .ok (.aload_n 0, 1) := by decide +kernel
theorem dX12_buy_17 : decode cX12_buy 17 = .ok (.iload_n 1, 1) := by decide +kernel
theorem dX12_buy_18 : decode cX12_buy 18 = .ok (.iconst 0, 1) := by decide +kernel
theorem dX12_buy_19 : decode cX12_buy 19 = .ok (.invokevirtual 324, 3) := by decide +kernel
theorem dX12_buy_22 : decode cX12_buy 22 = .ok (.ifCond .le 5, 3) := by decide +kernel
theorem dX12_buy_27 : decode cX12_buy 27 = .ok (.aload_n 0, 1) := by decide +kernel
theorem dX12_buy_28 : decode cX12_buy 28 = .ok (.iload_n 1, 1) := by decide +kernel
theorem dX12_buy_29 : decode cX12_buy 29 = .ok (.iconst 1, 1) := by decide +kernel
theorem dX12_buy_30 : decode cX12_buy 30 = .ok (.invokevirtual 324, 3) := by decide +kernel
theorem dX12_buy_33 : decode cX12_buy 33 = .ok (.aload_n 0, 1) := by decide +kernel
theorem dX12_buy_34 : decode cX12_buy 34 = .ok (.iload_n 2, 1) := by decide +kernel
theorem dX12_buy_35 : decode cX12_buy 35 = .ok (.invokevirtual 376, 3) := by decide +kernel
theorem dX12_buy_38 : decode cX12_buy 38 = .ok (.if_icmp .lt 12, 3) := by decide +kernel
theorem dX12_buy_50 : decode cX12_buy 50 = .ok (.iconst (-1), 1) := by decide +kernel
theorem dX12_buy_51 : decode cX12_buy 51 = .ok (.ireturn, 1) := by decide +kernel
theorem dX12_buy_41 : decode cX12_buy 41 = .ok (.aload_n 0, 1) := by decide +kernel
theorem dX12_buy_42 : decode cX12_buy 42 = .ok (.iload_n 1, 1) := by decide +kernel
theorem dX12_buy_43 : decode cX12_buy 43 = .ok (.iload_n 2, 1) := by decide +kernel
theorem dX12_buy_44 : decode cX12_buy 44 = .ok (.invokevirtual 373, 3) := by decide +kernel
theorem dX12_buy_47 : decode cX12_buy 47 = .ok (.ifCond .ne 5, 3) := by decide +kernel
theorem dX12_buy_52 : decode cX12_buy 52 = .ok (.aload_n 0, 1) := by decide +kernel
theorem dX12_buy_53 : decode cX12_buy 53 = .ok (.invokevirtual 357, 3) := by decide +kernel
theorem dX12_buy_56 : decode cX12_buy 56 = .ok (.aload_n 0, 1) := by decide +kernel
theorem dX12_buy_57 : decode cX12_buy 57 = .ok (.iload_n 1, 1) := by decide +kernel
theorem dX12_buy_58 : decode cX12_buy 58 = .ok (.iconst 1, 1) := by decide +kernel
theorem dX12_buy_59 : decode cX12_buy 59 = .ok (.aload_n 0, 1) := by decide +kernel
theorem dX12_buy_60 : decode cX12_buy 60 = .ok (.iload_n 2, 1) := by decide +kernel
theorem dX12_buy_61 : decode cX12_buy 61 = .ok (.invokevirtual 376, 3) := by decide +kernel
theorem dX12_buy_64 : decode cX12_buy 64 = .ok (.ineg, 1) := by decide +kernel
theorem dX12_buy_65 : decode cX12_buy 65 = .ok (.invokevirtual 363, 3) := by decide +kernel
theorem dX12_buy_68 : decode cX12_buy 68 = .ok (.aload_n 0, 1) := by decide +kernel
theorem dX12_buy_69 : decode cX12_buy 69 = .ok (.iload_n 1, 1) := by decide +kernel
theorem dX12_buy_70 : decode cX12_buy 70 = .ok (.iconst 4, 1) := by decide +kernel
theorem dX12_buy_71 : decode cX12_buy 71 = .ok (.iload_n 2, 1) := by decide +kernel
theorem dX12_buy_72 : decode cX12_buy 72 = .ok (.iadd, 1) := by decide +kernel
theorem dX12_buy_73 : decode cX12_buy 73 = .ok (.iconst 1, 1) := by decide +kernel
theorem dX12_buy_74 : decode cX12_buy 74 = .ok (.invokevirtual 363, 3) := by decide +kernel
theorem dX12_buy_77 : decode cX12_buy 77 = .ok (.aload_n 0, 1) := by decide +kernel
theorem dX12_buy_78 : decode cX12_buy 78 = .ok (.iload_n 1, 1) := by decide +kernel
theorem dX12_buy_79 : decode cX12_buy 79 = .ok (.iconst 1, 1) := by decide +kernel
theorem dX12_buy_80 : decode cX12_buy 80 = .ok (.invokevirtual 324, 3) := by decide +kernel
theorem dX12_buy_83 : decode cX12_buy 83 = .ok (.ireturn, 1) := by decide +kernel
theorem mv_X12_canCarry : MV RX12 yX12_canCarry cX12_canCarry 3 (some .boolean) 2 := ⟨mw_7_188, mp_7_4, mw_1_13, mw_7_189, ⟨rfl, by decide, by decide, by decide +kernel⟩⟩
theorem mv_X12_keepsAct : MV RX12 yX12_keepsAct cX12_keepsAct 2 none 0 := ⟨mw_7_129, mp_6_9, mw_1_13, mw_7_130, ⟨rfl, by decide, by decide, by decide +kernel⟩⟩
theorem mv_X12_adds : MV RX12 yX12_adds cX12_adds 4 none 3 := ⟨mw_7_176, mp_7_3, mw_1_13, mw_7_177, ⟨rfl, by decide, by decide, by decide +kernel⟩⟩
set_option maxHeartbeats 4000000 in
set_option maxRecDepth 100000 in
theorem cy_X12_buy (l : Launch) (D : va_G) (cA : Nat → ClassId) (L : List Nat) (T : Nat → Nat) (r : Rg) (hG : GR L T r) (hL : L.Nodup) (σ : Sg) (ρ : Lg) (hW : WT L ry T σ) (sz : Nat) (h0 : Nat) (mh0 : h0 ∈ L) (th0 : T h0 = 12) (p1 : Int32) (p2 : Int32) : Met l yX12_buy (.code yX12_buy cX12_buy 3 (some .int) :: wsA) ({ frames := 3, cells := 0, slots := 0, locals := 67 }) (PR D cA L T r σ ρ sz [.ref h0, .int p1, .int p2]) (QI D cA L T r ry [(12, 25), (70, 1000), (72, 1000)] σ sz (fun x σ1 => True)) 0 0 (dm L sz) := by
  refine Met.ofW (cc := cX12_buy) (maxL := 3) (ret := (some .int)) (by decide) rfl ?_
  intro p e s m args below meth c s₁ B hml hv
  obtain ⟨rfl, hsz, hP, hK, hN⟩ := hv
  have hx := B.exec
  have hb := B.bytes
  have hr := B.returns
  have hts : ∀ w ∈ wsA, w.before _ s = true := fun w h => atoms_spec (ws := .code yX12_buy cX12_buy 3 (some .int) :: wsA) B.pre w (List.mem_cons_of_mem _ h)
  have hown : s.vm.findClass RX12 = some m.cls := findClass_of_methodNamed B.named
  subst hsz
  have hLA : LA (dm L s.heap.size) L := ⟨hL, fun a h => Or.inl h⟩
  have hA : ∀ q : Nat, s.heap.size ≤ q → dm L s.heap.size q := fun q h => Or.inr h
  have hS : va_S (dm L s.heap.size) s.heap s.heap [] := va_S.rf
  have hB : TS D cA L T r ry [(12, 25), (70, 1000), (72, 1000)] σ σ ρ s.heap := ⟨hP, hW, FR.rf⟩
  have hl := lv_entry ([.ref h0, .int p1, .int p2]) (n := 3) (Nat.le_of_ble_eq_true rfl)
  rw [lg_entry_eq]
  generalize (lg_sl ([.ref h0, .int p1, .int p2]) ++ List.replicate (3 - (lg_sl ([.ref h0, .int p1, .int p2])).length) Slot.unset).toArray = ls at hl ⊢
  have hl : lv_has ls 3 [(0, .ref h0), (1, .int p1), (2, .int p2)] := hl
  refine lv_aload_n hx hb dX12_buy_0 rfl (lv_at hl 0 rfl) ?_
  refine lv_iload_n hx hb dX12_buy_1 rfl (lv_at hl 1 rfl) ?_
  refine t_ci (va_runV (As := [.int p1]) (rest := []) ⟨hx, hb, hml, hown, hts⟩ (cy_X12_isPilgrim l D cA L T r hG hLA.1 σ ρ hB.2.1 _ h0 mh0 th0 p1) (cV hts mv_X12_isPilgrim mw_7_64 rfl rfl ⟨Nat.le_of_ble_eq_true rfl, Nat.le_of_ble_eq_true rfl⟩) (pV hB.1 hK hN mh0 th0 (show shp cA 12 _ _ _ = .inr (12, Fs12 _ _ _) from rfl) rfl) rfl rfl hl.1 rfl (lv_room (Nat.le_of_ble_eq_true rfl)) dX12_buy_2 ⟨Nat.le_of_ble_eq_true rfl, Nat.le_of_ble_eq_true rfl⟩) hLA hA hB hS (by decide) (fun x_3 σ_1 ρ_2 H locs hB fσ_1 pσ_1 hS => ?_)
  have qσ_1 := FR.nil fσ_1
  subst qσ_1
  obtain ⟨ox_3, ix_3⟩ := pσ_1
  refine lv_if_eq (tgt := 25) hx hb dX12_buy_5 (by decide) (fun c_4 => ?_) (fun c_4 => ?_)
  · skip
    have uc_4 := i_eq (n := 0) (by decide) c_4
    refine lv_iconst (v := (-1)) hx hb dX12_buy_25 (by decide) ?_
    exact W.iret (v := (-1)) hx hb hr (fun t ht hW => ⟨⟨(-1), (σ, ρ_2), rfl, ⟨hB.2.1, hB.2.2, trivial⟩, (show TP D cA L T r σ ρ_2 t.heap from by rw [ht]; exact hB.1)⟩, hS.F ht⟩) hS.2.2 dX12_buy_26
  · skip
    have uc_4 := i_ne (n := 0) (by decide) c_4
    refine lv_aload_n hx hb dX12_buy_8 rfl (lv_at hl 0 rfl) ?_
    refine lv_iload_n hx hb dX12_buy_9 rfl (lv_at hl 2 rfl) ?_
    refine t_ci (va_runV (As := [.int p2]) (rest := []) ⟨hx, hb, hml, hown, hts⟩ (cy_X12_isSort l D cA L T r hG hLA.1 σ ρ_2 hB.2.1 _ h0 mh0 th0 p2) (cV hts mv_X12_isSort mw_7_110 rfl rfl ⟨Nat.le_of_ble_eq_true rfl, Nat.le_of_ble_eq_true rfl⟩) (pV hB.1 hK hN mh0 th0 (show shp cA 12 _ _ _ = .inr (12, Fs12 _ _ _) from rfl) rfl) rfl rfl hl.1 rfl (lv_room (Nat.le_of_ble_eq_true rfl)) dX12_buy_10 ⟨Nat.le_of_ble_eq_true rfl, Nat.le_of_ble_eq_true rfl⟩) hLA hA hB hS (by decide) (fun x_7 σ_5 ρ_6 H locs hB fσ_5 pσ_5 hS => ?_)
    have qσ_5 := FR.nil fσ_5
    subst qσ_5
    obtain ⟨ox_7, ix_7⟩ := pσ_5
    refine lv_if_eq (tgt := 25) hx hb dX12_buy_13 (by decide) (fun c_8 => ?_) (fun c_8 => ?_)
    · skip
      have uc_8 := i_eq (n := 0) (by decide) c_8
      refine lv_iconst (v := (-1)) hx hb dX12_buy_25 (by decide) ?_
      exact W.iret (v := (-1)) hx hb hr (fun t ht hW => ⟨⟨(-1), (σ, ρ_6), rfl, ⟨hB.2.1, hB.2.2, trivial⟩, (show TP D cA L T r σ ρ_6 t.heap from by rw [ht]; exact hB.1)⟩, hS.F ht⟩) hS.2.2 dX12_buy_26
    · skip
      have uc_8 := i_ne (n := 0) (by decide) c_8
      refine lv_aload_n hx hb dX12_buy_16 rfl (lv_at hl 0 rfl) ?_
      refine lv_iload_n hx hb dX12_buy_17 rfl (lv_at hl 1 rfl) ?_
      refine lv_iconst (v := 0) hx hb dX12_buy_18 (by decide) ?_
      refine t_ci (va_runV (As := [.int p1, .int 0]) (rest := []) ⟨hx, hb, hml, hown, hts⟩ (cy_X12_pilgrimOf_0 l D cA L T r hG hLA.1 σ ρ_6 hB.2.1 _ h0 mh0 th0 p1 (by first | omega | decide) (by first | omega | decide)) (cV hts mv_X12_pilgrimOf mw_7_69 rfl rfl ⟨Nat.le_of_ble_eq_true rfl, Nat.le_of_ble_eq_true rfl⟩) (pV hB.1 hK hN mh0 th0 (show shp cA 12 _ _ _ = .inr (12, Fs12 _ _ _) from rfl) rfl) rfl rfl hl.1 rfl (lv_room (Nat.le_of_ble_eq_true rfl)) dX12_buy_19 ⟨Nat.le_of_ble_eq_true rfl, Nat.le_of_ble_eq_true rfl⟩) hLA hA hB hS (by decide) (fun x_11 σ_9 ρ_10 H locs hB fσ_9 pσ_9 hS => ?_)
      have qσ_9 := FR.nil fσ_9
      subst qσ_9
      obtain ⟨lx_11, ux_11⟩ := pσ_9
      refine lv_if_le (tgt := 27) hx hb dX12_buy_22 (by decide) (fun c_12 => ?_) (fun c_12 => ?_)
      · skip
        have uc_12 := i_le (n := 0) (by decide) c_12
        refine lv_aload_n hx hb dX12_buy_27 rfl (lv_at hl 0 rfl) ?_
        refine lv_iload_n hx hb dX12_buy_28 rfl (lv_at hl 1 rfl) ?_
        refine lv_iconst (v := 1) hx hb dX12_buy_29 (by decide) ?_
        refine t_ci (va_runV (As := [.int p1, .int 1]) (rest := []) ⟨hx, hb, hml, hown, hts⟩ (cy_X12_pilgrimOf l D cA L T r hG hLA.1 σ ρ_10 hB.2.1 _ h0 mh0 th0 p1 1 (by first | omega | decide) (by first | omega | decide) (by first | omega | decide) (by first | omega | decide)) (cV hts mv_X12_pilgrimOf mw_7_69 rfl rfl ⟨Nat.le_of_ble_eq_true rfl, Nat.le_of_ble_eq_true rfl⟩) (pV hB.1 hK hN mh0 th0 (show shp cA 12 _ _ _ = .inr (12, Fs12 _ _ _) from rfl) rfl) rfl rfl hl.1 rfl (lv_room (Nat.le_of_ble_eq_true rfl)) dX12_buy_30 ⟨Nat.le_of_ble_eq_true rfl, Nat.le_of_ble_eq_true rfl⟩) hLA hA hB hS (by decide) (fun x_15 σ_13 ρ_14 H locs hB fσ_13 pσ_13 hS => ?_)
        have qσ_13 := FR.nil fσ_13
        subst qσ_13
        refine lv_aload_n hx hb dX12_buy_33 rfl (lv_at hl 0 rfl) ?_
        refine lv_iload_n hx hb dX12_buy_34 rfl (lv_at hl 2 rfl) ?_
        refine t_ci (va_runV (As := [.int p2]) (rest := [.int x_15]) ⟨hx, hb, hml, hown, hts⟩ (cy_X12_priceOf l D cA L T r hG hLA.1 σ ρ_14 hB.2.1 _ h0 mh0 th0 p2 (by first | omega | decide) (by first | omega | decide)) (cV hts mv_X12_priceOf mw_7_194 rfl rfl ⟨Nat.le_of_ble_eq_true rfl, Nat.le_of_ble_eq_true rfl⟩) (pV hB.1 hK hN mh0 th0 (show shp cA 12 _ _ _ = .inr (12, Fs12 _ _ _) from rfl) rfl) rfl rfl hl.1 rfl (lv_room (Nat.le_of_ble_eq_true rfl)) dX12_buy_35 ⟨Nat.le_of_ble_eq_true rfl, Nat.le_of_ble_eq_true rfl⟩) hLA hA hB hS (by decide) (fun x_18 σ_16 ρ_17 H locs hB fσ_16 pσ_16 hS => ?_)
        have qσ_16 := FR.nil fσ_16
        subst qσ_16
        refine lv_icmp_lt (tgt := 50) hx hb dX12_buy_38 (by decide) (fun c_19 => ?_) (fun c_19 => ?_)
        · skip
          have uc_19 := j_lt c_19
          refine lv_iconst (v := (-1)) hx hb dX12_buy_50 (by decide) ?_
          exact W.iret (v := (-1)) hx hb hr (fun t ht hW => ⟨⟨(-1), (σ, ρ_17), rfl, ⟨hB.2.1, hB.2.2, trivial⟩, (show TP D cA L T r σ ρ_17 t.heap from by rw [ht]; exact hB.1)⟩, hS.F ht⟩) hS.2.2 dX12_buy_51
        · skip
          have uc_19 := j_nlt c_19
          refine lv_aload_n hx hb dX12_buy_41 rfl (lv_at hl 0 rfl) ?_
          refine lv_iload_n hx hb dX12_buy_42 rfl (lv_at hl 1 rfl) ?_
          refine lv_iload_n hx hb dX12_buy_43 rfl (lv_at hl 2 rfl) ?_
          refine t_ci (va_runV (As := [.int p1, .int p2]) (rest := []) ⟨hx, hb, hml, hown, hts⟩ (cy_X12_canCarry l D cA L T r hG hLA.1 σ ρ_17 hB.2.1 _ h0 mh0 th0 p1 p2 (by first | omega | decide) (by first | omega | decide) (by first | omega | decide) (by first | omega | decide)) (cV hts mv_X12_canCarry mw_7_186 rfl rfl ⟨Nat.le_of_ble_eq_true rfl, Nat.le_of_ble_eq_true rfl⟩) (pV hB.1 hK hN mh0 th0 (show shp cA 12 _ _ _ = .inr (12, Fs12 _ _ _) from rfl) rfl) rfl rfl hl.1 rfl (lv_room (Nat.le_of_ble_eq_true rfl)) dX12_buy_44 ⟨Nat.le_of_ble_eq_true rfl, Nat.le_of_ble_eq_true rfl⟩) hLA hA hB hS (by decide) (fun x_22 σ_20 ρ_21 H locs hB fσ_20 pσ_20 hS => ?_)
          have qσ_20 := FR.nil fσ_20
          subst qσ_20
          obtain ⟨lx_22, ux_22⟩ := pσ_20
          refine lv_if_ne (tgt := 52) hx hb dX12_buy_47 (by decide) (fun c_23 => ?_) (fun c_23 => ?_)
          · skip
            have uc_23 := i_ne (n := 0) (by decide) c_23
            refine lv_aload_n hx hb dX12_buy_52 rfl (lv_at hl 0 rfl) ?_
            refine t_cv (va_runV (As := []) (rest := []) ⟨hx, hb, hml, hown, hts⟩ (cy_X12_keepsAct l D cA L T r hG hLA.1 σ ρ_21 hB.2.1 _ h0 mh0 th0) (cV hts mv_X12_keepsAct mw_7_127 rfl rfl ⟨Nat.le_of_ble_eq_true rfl, Nat.le_of_ble_eq_true rfl⟩) (pV hB.1 hK hN mh0 th0 (show shp cA 12 _ _ _ = .inr (12, Fs12 _ _ _) from rfl) rfl) rfl rfl hl.1 rfl (lv_room (Nat.le_of_ble_eq_true rfl)) dX12_buy_53 ⟨Nat.le_of_ble_eq_true rfl, Nat.le_of_ble_eq_true rfl⟩) hLA hA hB hS (by decide) (fun σ_24 ρ_25 H locs hB fσ_24 pσ_24 hS => ?_)
            refine lv_aload_n hx hb dX12_buy_56 rfl (lv_at hl 0 rfl) ?_
            refine lv_iload_n hx hb dX12_buy_57 rfl (lv_at hl 1 rfl) ?_
            refine lv_iconst (v := 1) hx hb dX12_buy_58 (by decide) ?_
            refine lv_aload_n hx hb dX12_buy_59 rfl (lv_at hl 0 rfl) ?_
            refine lv_iload_n hx hb dX12_buy_60 rfl (lv_at hl 2 rfl) ?_
            refine t_ci (va_runV (As := [.int p2]) (rest := [.int 1, .int p1, .ref h0]) ⟨hx, hb, hml, hown, hts⟩ (cy_X12_priceOf l D cA L T r hG hLA.1 σ_24 ρ_25 hB.2.1 _ h0 mh0 th0 p2 (by first | omega | decide) (by first | omega | decide)) (cV hts mv_X12_priceOf mw_7_194 rfl rfl ⟨Nat.le_of_ble_eq_true rfl, Nat.le_of_ble_eq_true rfl⟩) (pV hB.1 hK hN mh0 th0 (show shp cA 12 _ _ _ = .inr (12, Fs12 _ _ _) from rfl) rfl) rfl rfl hl.1 rfl (lv_room (Nat.le_of_ble_eq_true rfl)) dX12_buy_61 ⟨Nat.le_of_ble_eq_true rfl, Nat.le_of_ble_eq_true rfl⟩) hLA hA hB hS (by decide) (fun x_29 σ_27 ρ_28 H locs hB fσ_27 pσ_27 hS => ?_)
            have qσ_27 := FR.nil fσ_27
            subst qσ_27
            refine lv_ineg hx hb dX12_buy_64 ?_
            refine lv_topi (fun x_30 ex_30 => ?_)
            refine t_cv (va_runV (As := [.int p1, .int 1, .int x_30]) (rest := []) ⟨hx, hb, hml, hown, hts⟩ (cy_X12_adds_1 l D cA L T r hG hLA.1 σ_24 ρ_28 hB.2.1 _ h0 mh0 th0 p1 x_30 (by first | omega | decide) (by first | omega | decide)) (cV hts mv_X12_adds mw_7_174 rfl rfl ⟨Nat.le_of_ble_eq_true rfl, Nat.le_of_ble_eq_true rfl⟩) (pV hB.1 hK hN mh0 th0 (show shp cA 12 _ _ _ = .inr (12, Fs12 _ _ _) from rfl) rfl) rfl rfl hl.1 rfl (lv_room (Nat.le_of_ble_eq_true rfl)) dX12_buy_65 ⟨Nat.le_of_ble_eq_true rfl, Nat.le_of_ble_eq_true rfl⟩) hLA hA hB hS (by decide) (fun σ_31 ρ_32 H locs hB fσ_31 pσ_31 hS => ?_)
            refine lv_aload_n hx hb dX12_buy_68 rfl (lv_at hl 0 rfl) ?_
            refine lv_iload_n hx hb dX12_buy_69 rfl (lv_at hl 1 rfl) ?_
            refine lv_iconst (v := 4) hx hb dX12_buy_70 (by decide) ?_
            refine lv_iload_n hx hb dX12_buy_71 rfl (lv_at hl 2 rfl) ?_
            refine lv_iadd hx hb dX12_buy_72 ?_
            refine lv_topi (fun x_34 ex_34 => ?_)
            try have vx_34 := b_add (by decide : (4 : Int32).toInt = 4) (rfl : p2.toInt = _) ex_34 (by omega) (by omega)
            refine lv_iconst (v := 1) hx hb dX12_buy_73 (by decide) ?_
            refine t_cv (va_runV (As := [.int p1, .int x_34, .int 1]) (rest := []) ⟨hx, hb, hml, hown, hts⟩ (cy_X12_adds_t l D cA L T r hG hLA.1 σ_31 ρ_32 hB.2.1 _ h0 mh0 th0 p1 x_34 1 (by first | omega | decide) (by first | omega | decide) (by first | omega | decide) (by first | omega | decide)) (cV hts mv_X12_adds mw_7_174 rfl rfl ⟨Nat.le_of_ble_eq_true rfl, Nat.le_of_ble_eq_true rfl⟩) (pV hB.1 hK hN mh0 th0 (show shp cA 12 _ _ _ = .inr (12, Fs12 _ _ _) from rfl) rfl) rfl rfl hl.1 rfl (lv_room (Nat.le_of_ble_eq_true rfl)) dX12_buy_74 ⟨Nat.le_of_ble_eq_true rfl, Nat.le_of_ble_eq_true rfl⟩) hLA hA hB hS (by decide) (fun σ_35 ρ_36 H locs hB fσ_35 pσ_35 hS => ?_)
            refine lv_aload_n hx hb dX12_buy_77 rfl (lv_at hl 0 rfl) ?_
            refine lv_iload_n hx hb dX12_buy_78 rfl (lv_at hl 1 rfl) ?_
            refine lv_iconst (v := 1) hx hb dX12_buy_79 (by decide) ?_
            refine t_ci (va_runV (As := [.int p1, .int 1]) (rest := []) ⟨hx, hb, hml, hown, hts⟩ (cy_X12_pilgrimOf l D cA L T r hG hLA.1 σ_35 ρ_36 hB.2.1 _ h0 mh0 th0 p1 1 (by first | omega | decide) (by first | omega | decide) (by first | omega | decide) (by first | omega | decide)) (cV hts mv_X12_pilgrimOf mw_7_69 rfl rfl ⟨Nat.le_of_ble_eq_true rfl, Nat.le_of_ble_eq_true rfl⟩) (pV hB.1 hK hN mh0 th0 (show shp cA 12 _ _ _ = .inr (12, Fs12 _ _ _) from rfl) rfl) rfl rfl hl.1 rfl (lv_room (Nat.le_of_ble_eq_true rfl)) dX12_buy_80 ⟨Nat.le_of_ble_eq_true rfl, Nat.le_of_ble_eq_true rfl⟩) hLA hA hB hS (by decide) (fun x_40 σ_38 ρ_39 H locs hB fσ_38 pσ_38 hS => ?_)
            have qσ_38 := FR.nil fσ_38
            subst qσ_38
            exact W.iret (v := x_40) hx hb hr (fun t ht hW => ⟨⟨x_40, (σ_35, ρ_39), rfl, ⟨hB.2.1, hB.2.2, trivial⟩, (show TP D cA L T r σ_35 ρ_39 t.heap from by rw [ht]; exact hB.1)⟩, hS.F ht⟩) hS.2.2 dX12_buy_83
          · skip
            have uc_23 := i_eq (n := 0) (by decide) c_23
            refine lv_iconst (v := (-1)) hx hb dX12_buy_50 (by decide) ?_
            exact W.iret (v := (-1)) hx hb hr (fun t ht hW => ⟨⟨(-1), (σ, ρ_21), rfl, ⟨hB.2.1, hB.2.2, trivial⟩, (show TP D cA L T r σ ρ_21 t.heap from by rw [ht]; exact hB.1)⟩, hS.F ht⟩) hS.2.2 dX12_buy_51
      · skip
        have uc_12 := i_nle (n := 0) (by decide) c_12
        refine lv_iconst (v := (-1)) hx hb dX12_buy_25 (by decide) ?_
        exact W.iret (v := (-1)) hx hb hr (fun t ht hW => ⟨⟨(-1), (σ, ρ_10), rfl, ⟨hB.2.1, hB.2.2, trivial⟩, (show TP D cA L T r σ ρ_10 t.heap from by rw [ht]; exact hB.1)⟩, hS.F ht⟩) hS.2.2 dX12_buy_26
theorem dX12_sell_0 : decode cX12_sell 0 = .ok (.aload_n 0, 1) := by decide +kernel
theorem dX12_sell_1 : decode cX12_sell 1 = .ok (.iload_n 1, 1) := by decide +kernel
theorem dX12_sell_2 : decode cX12_sell 2 = .ok (.invokevirtual 319, 3) := by decide +kernel
theorem dX12_sell_5 : decode cX12_sell 5 = .ok (.ifCond .eq 29, 3) := by decide +kernel
theorem dX12_sell_34 : decode cX12_sell 34 = .ok (.iconst (-1), 1) := by decide +kernel
theorem dX12_sell_35 : decode cX12_sell 35 = .ok (.ireturn, 1) := by decide +kernel
theorem dX12_sell_8 : decode cX12_sell 8 = .ok (.aload_n 0, 1) := by decide +kernel
theorem dX12_sell_9 : decode cX12_sell 9 = .ok (.iload_n 2, 1) := by decide +kernel
theorem dX12_sell_10 : decode cX12_sell 10 = .ok (.invokevirtual 335, 3) := by decide +kernel
theorem dX12_sell_13 : decode cX12_sell 13 = .ok (.ifCond .eq 21, 3) := by decide +kernel
theorem dX12_sell_16 : decode cX12_sell 16 = .ok (.aload_n 0, 1) := by decide +kernel
theorem dX12_sell_17 : decode cX12_sell 17 = .ok (.iload_n 1, 1) := by decide +kernel
theorem dX12_sell_18 : decode cX12_sell 18 = .ok (.iconst 0, 1) := by decide +kernel
theorem dX12_sell_19 : decode cX12_sell 19 = .ok (.invokevirtual 324, 3) := by decide +kernel
theorem dX12_sell_22 : decode cX12_sell 22 = .ok (.ifCond .gt 12, 3) := by decide +kernel
theorem dX12_sell_25 : decode cX12_sell 25 = .ok (.aload_n 0, 1) := by decide +kernel
theorem dX12_sell_26 : decode cX12_sell 26 = .ok (.iload_n 1, 1) := by decide +kernel
theorem dX12_sell_27 : decode cX12_sell 27 = .ok (.iload_n 2, 1) := by decide +kernel
theorem dX12_sell_28 : decode cX12_sell 28 = .ok (.invokevirtual 304, 3) := by decide +kernel
theorem dX12_sell_31 : decode cX12_sell 31 = .ok (.ifCond .ne 5, 3) := by decide +kernel
theorem dX12_sell_36 : decode cX12_sell 36 = .ok (.aload_n 0, 1) := by decide +kernel
theorem dX12_sell_37 : decode cX12_sell 37 = .ok (.invokevirtual 357, 3) := by decide +kernel
theorem dX12_sell_40 : decode cX12_sell 40 = .ok (.aload_n 0, 1) := by decide +kernel
theorem dX12_sell_41 : decode cX12_sell 41 = .ok (.iload_n 1, 1) := by decide +kernel
theorem dX12_sell_42 : decode cX12_sell 42 = .ok (.iconst 4, 1) := by decide +kernel
theorem dX12_sell_43 : decode cX12_sell 43 = .ok (.iload_n 2, 1) := by decide +kernel
theorem dX12_sell_44 : decode cX12_sell 44 = .ok (.iadd, 1) := by decide +kernel
theorem dX12_sell_45 : decode cX12_sell 45 = .ok (.iconst (-1), 1) := by decide +kernel
theorem dX12_sell_46 : decode cX12_sell 46 = .ok (.invokevirtual 363, 3) := by decide +kernel
theorem dX12_sell_49 : decode cX12_sell 49 = .ok (.aload_n 0, 1) := by decide +kernel
theorem dX12_sell_50 : decode cX12_sell 50 = .ok (.iload_n 1, 1) := by decide +kernel
theorem dX12_sell_51 : decode cX12_sell 51 = .ok (.iconst 1, 1) := by decide +kernel
theorem dX12_sell_52 : decode cX12_sell 52 = .ok (.aload_n 0, 1) := by decide +kernel
theorem dX12_sell_53 : decode cX12_sell 53 = .ok (.iload_n 2, 1) := by decide +kernel
theorem dX12_sell_54 : decode cX12_sell 54 = .ok (.invokevirtual 376, 3) := by decide +kernel
theorem dX12_sell_57 : decode cX12_sell 57 = .ok (.iconst 2, 1) := by decide +kernel
theorem dX12_sell_58 : decode cX12_sell 58 = .ok (.idiv, 1) := by decide +kernel
theorem dX12_sell_59 : decode cX12_sell 59 = .ok (.invokevirtual 363, 3) := by decide +kernel
theorem dX12_sell_62 : decode cX12_sell 62 = .ok (.aload_n 0, 1) := by decide +kernel
theorem dX12_sell_63 : decode cX12_sell 63 = .ok (.iload_n 1, 1) := by decide +kernel
theorem dX12_sell_64 : decode cX12_sell 64 = .ok (.iconst 1, 1) := by decide +kernel
theorem dX12_sell_65 : decode cX12_sell 65 = .ok (.invokevirtual 324, 3) := by decide +kernel
theorem dX12_sell_68 : decode cX12_sell 68 = .ok (.sipush 999, 3) := by decide +kernel
theorem dX12_sell_71 : decode cX12_sell 71 = .ok (.if_icmp .le 20, 3) := by decide +kernel
theorem dX12_sell_91 : decode cX12_sell 91 = .ok (.aload_n 0, 1) := by decide +kernel
theorem dX12_sell_92 : decode cX12_sell 92 = .ok (.iload_n 1, 1) := by decide +kernel
theorem dX12_sell_93 : decode cX12_sell 93 = .ok (.iconst 1, 1) := by decide +kernel
theorem dX12_sell_94 : decode cX12_sell 94 = .ok (.invokevirtual 324, 3) := by decide +kernel
theorem dX12_sell_97 : decode cX12_sell 97 = .ok (.ireturn, 1) := by decide +kernel
theorem dX12_sell_74 : decode cX12_sell 74 = .ok (.aload_n 0, 1) := by decide +kernel
theorem dX12_sell_75 : decode cX12_sell 75 = .ok (.getfield 39, 3) := by decide +kernel
theorem dX12_sell_78 : decode cX12_sell 78 = .ok (.bipush 58, 2) := by decide +kernel
theorem dX12_sell_80 : decode cX12_sell 80 = .ok (.bipush 9, 2) := by decide +kernel
theorem dX12_sell_82 : decode cX12_sell 82 = .ok (.iload_n 1, 1) := by decide +kernel
theorem dX12_sell_83 : decode cX12_sell 83 = .ok (.imul, 1) := by decide +kernel
theorem dX12_sell_84 : decode cX12_sell 84 = .ok (.iadd, 1) := by decide +kernel
theorem dX12_sell_85 : decode cX12_sell 85 = .ok (.iconst 1, 1) := by decide +kernel
theorem dX12_sell_86 : decode cX12_sell 86 = .ok (.iadd, 1) := by decide +kernel
theorem dX12_sell_87 : decode cX12_sell 87 = .ok (.sipush 999, 3) := by decide +kernel
theorem dX12_sell_90 : decode cX12_sell 90 = .ok (.iastore, 1) := by decide +kernel
set_option maxHeartbeats 4000000 in
set_option maxRecDepth 100000 in
theorem cy_X12_sell (l : Launch) (D : va_G) (cA : Nat → ClassId) (L : List Nat) (T : Nat → Nat) (r : Rg) (hG : GR L T r) (hL : L.Nodup) (σ : Sg) (ρ : Lg) (hW : WT L ry T σ) (sz : Nat) (h0 : Nat) (mh0 : h0 ∈ L) (th0 : T h0 = 12) (p1 : Int32) (p2 : Int32) : Met l yX12_sell (.code yX12_sell cX12_sell 3 (some .int) :: wsA) ({ frames := 1, cells := 0, slots := 0, locals := 23 }) (PR D cA L T r σ ρ sz [.ref h0, .int p1, .int p2]) (QI D cA L T r ry [(12, 25), (70, 1000), (72, 1000)] σ sz (fun x σ1 => True)) 0 0 (dm L sz) := by
  refine Met.ofW (cc := cX12_sell) (maxL := 3) (ret := (some .int)) (by decide) rfl ?_
  intro p e s m args below meth c s₁ B hml hv
  obtain ⟨rfl, hsz, hP, hK, hN⟩ := hv
  have hx := B.exec
  have hb := B.bytes
  have hr := B.returns
  have hts : ∀ w ∈ wsA, w.before _ s = true := fun w h => atoms_spec (ws := .code yX12_sell cX12_sell 3 (some .int) :: wsA) B.pre w (List.mem_cons_of_mem _ h)
  have hown : s.vm.findClass RX12 = some m.cls := findClass_of_methodNamed B.named
  subst hsz
  have hLA : LA (dm L s.heap.size) L := ⟨hL, fun a h => Or.inl h⟩
  have hA : ∀ q : Nat, s.heap.size ≤ q → dm L s.heap.size q := fun q h => Or.inr h
  have hS : va_S (dm L s.heap.size) s.heap s.heap [] := va_S.rf
  have hB : TS D cA L T r ry [(12, 25), (70, 1000), (72, 1000)] σ σ ρ s.heap := ⟨hP, hW, FR.rf⟩
  have hl := lv_entry ([.ref h0, .int p1, .int p2]) (n := 3) (Nat.le_of_ble_eq_true rfl)
  rw [lg_entry_eq]
  generalize (lg_sl ([.ref h0, .int p1, .int p2]) ++ List.replicate (3 - (lg_sl ([.ref h0, .int p1, .int p2])).length) Slot.unset).toArray = ls at hl ⊢
  have hl : lv_has ls 3 [(0, .ref h0), (1, .int p1), (2, .int p2)] := hl
  refine lv_aload_n hx hb dX12_sell_0 rfl (lv_at hl 0 rfl) ?_
  refine lv_iload_n hx hb dX12_sell_1 rfl (lv_at hl 1 rfl) ?_
  refine t_ci (va_runV (As := [.int p1]) (rest := []) ⟨hx, hb, hml, hown, hts⟩ (cy_X12_isPilgrim l D cA L T r hG hLA.1 σ ρ hB.2.1 _ h0 mh0 th0 p1) (cV hts mv_X12_isPilgrim mw_7_64 rfl rfl ⟨Nat.le_of_ble_eq_true rfl, Nat.le_of_ble_eq_true rfl⟩) (pV hB.1 hK hN mh0 th0 (show shp cA 12 _ _ _ = .inr (12, Fs12 _ _ _) from rfl) rfl) rfl rfl hl.1 rfl (lv_room (Nat.le_of_ble_eq_true rfl)) dX12_sell_2 ⟨Nat.le_of_ble_eq_true rfl, Nat.le_of_ble_eq_true rfl⟩) hLA hA hB hS (by decide) (fun x_3 σ_1 ρ_2 H locs hB fσ_1 pσ_1 hS => ?_)
  have qσ_1 := FR.nil fσ_1
  subst qσ_1
  obtain ⟨ox_3, ix_3⟩ := pσ_1
  refine lv_if_eq (tgt := 34) hx hb dX12_sell_5 (by decide) (fun c_4 => ?_) (fun c_4 => ?_)
  · skip
    have uc_4 := i_eq (n := 0) (by decide) c_4
    refine lv_iconst (v := (-1)) hx hb dX12_sell_34 (by decide) ?_
    exact W.iret (v := (-1)) hx hb hr (fun t ht hW => ⟨⟨(-1), (σ, ρ_2), rfl, ⟨hB.2.1, hB.2.2, trivial⟩, (show TP D cA L T r σ ρ_2 t.heap from by rw [ht]; exact hB.1)⟩, hS.F ht⟩) hS.2.2 dX12_sell_35
  · skip
    have uc_4 := i_ne (n := 0) (by decide) c_4
    refine lv_aload_n hx hb dX12_sell_8 rfl (lv_at hl 0 rfl) ?_
    refine lv_iload_n hx hb dX12_sell_9 rfl (lv_at hl 2 rfl) ?_
    refine t_ci (va_runV (As := [.int p2]) (rest := []) ⟨hx, hb, hml, hown, hts⟩ (cy_X12_isSort l D cA L T r hG hLA.1 σ ρ_2 hB.2.1 _ h0 mh0 th0 p2) (cV hts mv_X12_isSort mw_7_110 rfl rfl ⟨Nat.le_of_ble_eq_true rfl, Nat.le_of_ble_eq_true rfl⟩) (pV hB.1 hK hN mh0 th0 (show shp cA 12 _ _ _ = .inr (12, Fs12 _ _ _) from rfl) rfl) rfl rfl hl.1 rfl (lv_room (Nat.le_of_ble_eq_true rfl)) dX12_sell_10 ⟨Nat.le_of_ble_eq_true rfl, Nat.le_of_ble_eq_true rfl⟩) hLA hA hB hS (by decide) (fun x_7 σ_5 ρ_6 H locs hB fσ_5 pσ_5 hS => ?_)
    have qσ_5 := FR.nil fσ_5
    subst qσ_5
    obtain ⟨ox_7, ix_7⟩ := pσ_5
    refine lv_if_eq (tgt := 34) hx hb dX12_sell_13 (by decide) (fun c_8 => ?_) (fun c_8 => ?_)
    · skip
      have uc_8 := i_eq (n := 0) (by decide) c_8
      refine lv_iconst (v := (-1)) hx hb dX12_sell_34 (by decide) ?_
      exact W.iret (v := (-1)) hx hb hr (fun t ht hW => ⟨⟨(-1), (σ, ρ_6), rfl, ⟨hB.2.1, hB.2.2, trivial⟩, (show TP D cA L T r σ ρ_6 t.heap from by rw [ht]; exact hB.1)⟩, hS.F ht⟩) hS.2.2 dX12_sell_35
    · skip
      have uc_8 := i_ne (n := 0) (by decide) c_8
      refine lv_aload_n hx hb dX12_sell_16 rfl (lv_at hl 0 rfl) ?_
      refine lv_iload_n hx hb dX12_sell_17 rfl (lv_at hl 1 rfl) ?_
      refine lv_iconst (v := 0) hx hb dX12_sell_18 (by decide) ?_
      refine t_ci (va_runV (As := [.int p1, .int 0]) (rest := []) ⟨hx, hb, hml, hown, hts⟩ (cy_X12_pilgrimOf_0 l D cA L T r hG hLA.1 σ ρ_6 hB.2.1 _ h0 mh0 th0 p1 (by first | omega | decide) (by first | omega | decide)) (cV hts mv_X12_pilgrimOf mw_7_69 rfl rfl ⟨Nat.le_of_ble_eq_true rfl, Nat.le_of_ble_eq_true rfl⟩) (pV hB.1 hK hN mh0 th0 (show shp cA 12 _ _ _ = .inr (12, Fs12 _ _ _) from rfl) rfl) rfl rfl hl.1 rfl (lv_room (Nat.le_of_ble_eq_true rfl)) dX12_sell_19 ⟨Nat.le_of_ble_eq_true rfl, Nat.le_of_ble_eq_true rfl⟩) hLA hA hB hS (by decide) (fun x_11 σ_9 ρ_10 H locs hB fσ_9 pσ_9 hS => ?_)
      have qσ_9 := FR.nil fσ_9
      subst qσ_9
      obtain ⟨lx_11, ux_11⟩ := pσ_9
      refine lv_if_gt (tgt := 34) hx hb dX12_sell_22 (by decide) (fun c_12 => ?_) (fun c_12 => ?_)
      · skip
        have uc_12 := i_gt (n := 0) (by decide) c_12
        refine lv_iconst (v := (-1)) hx hb dX12_sell_34 (by decide) ?_
        exact W.iret (v := (-1)) hx hb hr (fun t ht hW => ⟨⟨(-1), (σ, ρ_10), rfl, ⟨hB.2.1, hB.2.2, trivial⟩, (show TP D cA L T r σ ρ_10 t.heap from by rw [ht]; exact hB.1)⟩, hS.F ht⟩) hS.2.2 dX12_sell_35
      · skip
        have uc_12 := i_ngt (n := 0) (by decide) c_12
        refine lv_aload_n hx hb dX12_sell_25 rfl (lv_at hl 0 rfl) ?_
        refine lv_iload_n hx hb dX12_sell_26 rfl (lv_at hl 1 rfl) ?_
        refine lv_iload_n hx hb dX12_sell_27 rfl (lv_at hl 2 rfl) ?_
        refine t_ci (va_runV (As := [.int p1, .int p2]) (rest := []) ⟨hx, hb, hml, hown, hts⟩ (cy_X12_hasOf l D cA L T r hG hLA.1 σ ρ_10 hB.2.1 _ h0 mh0 th0 p1 p2 (by first | omega | decide) (by first | omega | decide) (by first | omega | decide) (by first | omega | decide)) (cV hts mv_X12_hasOf mw_7_77 rfl rfl ⟨Nat.le_of_ble_eq_true rfl, Nat.le_of_ble_eq_true rfl⟩) (pV hB.1 hK hN mh0 th0 (show shp cA 12 _ _ _ = .inr (12, Fs12 _ _ _) from rfl) rfl) rfl rfl hl.1 rfl (lv_room (Nat.le_of_ble_eq_true rfl)) dX12_sell_28 ⟨Nat.le_of_ble_eq_true rfl, Nat.le_of_ble_eq_true rfl⟩) hLA hA hB hS (by decide) (fun x_15 σ_13 ρ_14 H locs hB fσ_13 pσ_13 hS => ?_)
        have qσ_13 := FR.nil fσ_13
        subst qσ_13
        refine lv_if_ne (tgt := 36) hx hb dX12_sell_31 (by decide) (fun c_16 => ?_) (fun c_16 => ?_)
        · skip
          have uc_16 := i_ne (n := 0) (by decide) c_16
          refine lv_aload_n hx hb dX12_sell_36 rfl (lv_at hl 0 rfl) ?_
          refine t_cv (va_runV (As := []) (rest := []) ⟨hx, hb, hml, hown, hts⟩ (cy_X12_keepsAct l D cA L T r hG hLA.1 σ ρ_14 hB.2.1 _ h0 mh0 th0) (cV hts mv_X12_keepsAct mw_7_127 rfl rfl ⟨Nat.le_of_ble_eq_true rfl, Nat.le_of_ble_eq_true rfl⟩) (pV hB.1 hK hN mh0 th0 (show shp cA 12 _ _ _ = .inr (12, Fs12 _ _ _) from rfl) rfl) rfl rfl hl.1 rfl (lv_room (Nat.le_of_ble_eq_true rfl)) dX12_sell_37 ⟨Nat.le_of_ble_eq_true rfl, Nat.le_of_ble_eq_true rfl⟩) hLA hA hB hS (by decide) (fun σ_17 ρ_18 H locs hB fσ_17 pσ_17 hS => ?_)
          refine lv_aload_n hx hb dX12_sell_40 rfl (lv_at hl 0 rfl) ?_
          refine lv_iload_n hx hb dX12_sell_41 rfl (lv_at hl 1 rfl) ?_
          refine lv_iconst (v := 4) hx hb dX12_sell_42 (by decide) ?_
          refine lv_iload_n hx hb dX12_sell_43 rfl (lv_at hl 2 rfl) ?_
          refine lv_iadd hx hb dX12_sell_44 ?_
          refine lv_topi (fun x_20 ex_20 => ?_)
          try have vx_20 := b_add (by decide : (4 : Int32).toInt = 4) (rfl : p2.toInt = _) ex_20 (by omega) (by omega)
          refine lv_iconst (v := (-1)) hx hb dX12_sell_45 (by decide) ?_
          refine t_cv (va_runV (As := [.int p1, .int x_20, .int (-1)]) (rest := []) ⟨hx, hb, hml, hown, hts⟩ (cy_X12_adds_t l D cA L T r hG hLA.1 σ_17 ρ_18 hB.2.1 _ h0 mh0 th0 p1 x_20 ((-1)) (by first | omega | decide) (by first | omega | decide) (by first | omega | decide) (by first | omega | decide)) (cV hts mv_X12_adds mw_7_174 rfl rfl ⟨Nat.le_of_ble_eq_true rfl, Nat.le_of_ble_eq_true rfl⟩) (pV hB.1 hK hN mh0 th0 (show shp cA 12 _ _ _ = .inr (12, Fs12 _ _ _) from rfl) rfl) rfl rfl hl.1 rfl (lv_room (Nat.le_of_ble_eq_true rfl)) dX12_sell_46 ⟨Nat.le_of_ble_eq_true rfl, Nat.le_of_ble_eq_true rfl⟩) hLA hA hB hS (by decide) (fun σ_21 ρ_22 H locs hB fσ_21 pσ_21 hS => ?_)
          refine lv_aload_n hx hb dX12_sell_49 rfl (lv_at hl 0 rfl) ?_
          refine lv_iload_n hx hb dX12_sell_50 rfl (lv_at hl 1 rfl) ?_
          refine lv_iconst (v := 1) hx hb dX12_sell_51 (by decide) ?_
          refine lv_aload_n hx hb dX12_sell_52 rfl (lv_at hl 0 rfl) ?_
          refine lv_iload_n hx hb dX12_sell_53 rfl (lv_at hl 2 rfl) ?_
          refine t_ci (va_runV (As := [.int p2]) (rest := [.int 1, .int p1, .ref h0]) ⟨hx, hb, hml, hown, hts⟩ (cy_X12_priceOf l D cA L T r hG hLA.1 σ_21 ρ_22 hB.2.1 _ h0 mh0 th0 p2 (by first | omega | decide) (by first | omega | decide)) (cV hts mv_X12_priceOf mw_7_194 rfl rfl ⟨Nat.le_of_ble_eq_true rfl, Nat.le_of_ble_eq_true rfl⟩) (pV hB.1 hK hN mh0 th0 (show shp cA 12 _ _ _ = .inr (12, Fs12 _ _ _) from rfl) rfl) rfl rfl hl.1 rfl (lv_room (Nat.le_of_ble_eq_true rfl)) dX12_sell_54 ⟨Nat.le_of_ble_eq_true rfl, Nat.le_of_ble_eq_true rfl⟩) hLA hA hB hS (by decide) (fun x_26 σ_24 ρ_25 H locs hB fσ_24 pσ_24 hS => ?_)
          have qσ_24 := FR.nil fσ_24
          subst qσ_24
          refine lv_iconst (v := 2) hx hb dX12_sell_57 (by decide) ?_
          refine lv_idiv hx hb dX12_sell_58 (by decide) ?_
          refine lv_topi (fun x_27 ex_27 => ?_)
          refine t_cv (va_runV (As := [.int p1, .int 1, .int x_27]) (rest := []) ⟨hx, hb, hml, hown, hts⟩ (cy_X12_adds_1 l D cA L T r hG hLA.1 σ_21 ρ_25 hB.2.1 _ h0 mh0 th0 p1 x_27 (by first | omega | decide) (by first | omega | decide)) (cV hts mv_X12_adds mw_7_174 rfl rfl ⟨Nat.le_of_ble_eq_true rfl, Nat.le_of_ble_eq_true rfl⟩) (pV hB.1 hK hN mh0 th0 (show shp cA 12 _ _ _ = .inr (12, Fs12 _ _ _) from rfl) rfl) rfl rfl hl.1 rfl (lv_room (Nat.le_of_ble_eq_true rfl)) dX12_sell_59 ⟨Nat.le_of_ble_eq_true rfl, Nat.le_of_ble_eq_true rfl⟩) hLA hA hB hS (by decide) (fun σ_28 ρ_29 H locs hB fσ_28 pσ_28 hS => ?_)
          refine lv_aload_n hx hb dX12_sell_62 rfl (lv_at hl 0 rfl) ?_
          refine lv_iload_n hx hb dX12_sell_63 rfl (lv_at hl 1 rfl) ?_
          refine lv_iconst (v := 1) hx hb dX12_sell_64 (by decide) ?_
          refine t_ci (va_runV (As := [.int p1, .int 1]) (rest := []) ⟨hx, hb, hml, hown, hts⟩ (cy_X12_pilgrimOf l D cA L T r hG hLA.1 σ_28 ρ_29 hB.2.1 _ h0 mh0 th0 p1 1 (by first | omega | decide) (by first | omega | decide) (by first | omega | decide) (by first | omega | decide)) (cV hts mv_X12_pilgrimOf mw_7_69 rfl rfl ⟨Nat.le_of_ble_eq_true rfl, Nat.le_of_ble_eq_true rfl⟩) (pV hB.1 hK hN mh0 th0 (show shp cA 12 _ _ _ = .inr (12, Fs12 _ _ _) from rfl) rfl) rfl rfl hl.1 rfl (lv_room (Nat.le_of_ble_eq_true rfl)) dX12_sell_65 ⟨Nat.le_of_ble_eq_true rfl, Nat.le_of_ble_eq_true rfl⟩) hLA hA hB hS (by decide) (fun x_33 σ_31 ρ_32 H locs hB fσ_31 pσ_31 hS => ?_)
          have qσ_31 := FR.nil fσ_31
          subst qσ_31
          refine lv_sipush (v := 999) hx hb dX12_sell_68 (by decide) ?_
          refine lv_icmp_le (tgt := 91) hx hb dX12_sell_71 (by decide) (fun c_34 => ?_) (fun c_34 => ?_)
          · skip
            have uc_34 := i_le (n := 999) (by decide) c_34
            refine lv_aload_n hx hb dX12_sell_91 rfl (lv_at hl 0 rfl) ?_
            refine lv_iload_n hx hb dX12_sell_92 rfl (lv_at hl 1 rfl) ?_
            refine lv_iconst (v := 1) hx hb dX12_sell_93 (by decide) ?_
            refine t_ci (va_runV (As := [.int p1, .int 1]) (rest := []) ⟨hx, hb, hml, hown, hts⟩ (cy_X12_pilgrimOf l D cA L T r hG hLA.1 σ_28 ρ_32 hB.2.1 _ h0 mh0 th0 p1 1 (by first | omega | decide) (by first | omega | decide) (by first | omega | decide) (by first | omega | decide)) (cV hts mv_X12_pilgrimOf mw_7_69 rfl rfl ⟨Nat.le_of_ble_eq_true rfl, Nat.le_of_ble_eq_true rfl⟩) (pV hB.1 hK hN mh0 th0 (show shp cA 12 _ _ _ = .inr (12, Fs12 _ _ _) from rfl) rfl) rfl rfl hl.1 rfl (lv_room (Nat.le_of_ble_eq_true rfl)) dX12_sell_94 ⟨Nat.le_of_ble_eq_true rfl, Nat.le_of_ble_eq_true rfl⟩) hLA hA hB hS (by decide) (fun x_37 σ_35 ρ_36 H locs hB fσ_35 pσ_35 hS => ?_)
            have qσ_35 := FR.nil fσ_35
            subst qσ_35
            exact W.iret (v := x_37) hx hb hr (fun t ht hW => ⟨⟨x_37, (σ_28, ρ_36), rfl, ⟨hB.2.1, hB.2.2, trivial⟩, (show TP D cA L T r σ_28 ρ_36 t.heap from by rw [ht]; exact hB.1)⟩, hS.F ht⟩) hS.2.2 dX12_sell_97
          · skip
            have uc_34 := i_nle (n := 999) (by decide) c_34
            refine lv_aload_n hx hb dX12_sell_74 rfl (lv_at hl 0 rfl) ?_
            refine t_gr hx hb hts hown hK hG hB mh0 th0 fq_12_20 rfl mw_5_236 dX12_sell_75 (fun b_38 hb_38 mb_38 tb_38 => ?_)
            refine lv_bipush (v := 58) hx hb dX12_sell_78 (by decide) ?_
            refine lv_bipush (v := 9) hx hb dX12_sell_80 (by decide) ?_
            refine lv_iload_n hx hb dX12_sell_82 rfl (lv_at hl 1 rfl) ?_
            refine lv_imul hx hb dX12_sell_83 ?_
            refine lv_topi (fun x_39 ex_39 => ?_)
            try have vx_39 := b_mul (by decide : (9 : Int32).toInt = 9) (rfl : p1.toInt = _) ex_39 (by omega) (by omega)
            refine lv_iadd hx hb dX12_sell_84 ?_
            refine lv_topi (fun x_40 ex_40 => ?_)
            try have vx_40 := b_add (by decide : (58 : Int32).toInt = 58) (rfl : x_39.toInt = _) ex_40 (by omega) (by omega)
            refine lv_iconst (v := 1) hx hb dX12_sell_85 (by decide) ?_
            refine lv_iadd hx hb dX12_sell_86 ?_
            refine lv_topi (fun x_41 ex_41 => ?_)
            try have vx_41 := b_add (rfl : x_40.toInt = _) (by decide : (1 : Int32).toInt = 1) ex_41 (by omega) (by omega)
            refine lv_sipush (v := 999) hx hb dX12_sell_87 (by decide) ?_
            refine t_si hx hb hK hLA hB hS mb_38 tb_38 ai_70 (i_in (by omega) (by omega)) (by rw [show ry 70 x_41.toNatClampNeg = ((-2147483648), 2147483647) from sbF (by have hn : x_41.toNatClampNeg = x_41.toInt.toNat := rfl; omega)]; exact i_lo _) (by rw [show ry 70 x_41.toNatClampNeg = ((-2147483648), 2147483647) from sbF (by have hn : x_41.toNatClampNeg = x_41.toInt.toNat := rfl; omega)]; exact i_hi _) (Or.inr (by decide)) dX12_sell_90 (fun H locs σ_42 eσ_42 hB hS => ?_)
            have k_43 : σ_42 b_38 x_41.toNatClampNeg = 999 := by rw [eσ_42]; exact up2_same _ _ _ _
            refine lv_aload_n hx hb dX12_sell_91 rfl (lv_at hl 0 rfl) ?_
            refine lv_iload_n hx hb dX12_sell_92 rfl (lv_at hl 1 rfl) ?_
            refine lv_iconst (v := 1) hx hb dX12_sell_93 (by decide) ?_
            refine t_ci (va_runV (As := [.int p1, .int 1]) (rest := []) ⟨hx, hb, hml, hown, hts⟩ (cy_X12_pilgrimOf l D cA L T r hG hLA.1 σ_42 ρ_32 hB.2.1 _ h0 mh0 th0 p1 1 (by first | omega | decide) (by first | omega | decide) (by first | omega | decide) (by first | omega | decide)) (cV hts mv_X12_pilgrimOf mw_7_69 rfl rfl ⟨Nat.le_of_ble_eq_true rfl, Nat.le_of_ble_eq_true rfl⟩) (pV hB.1 hK hN mh0 th0 (show shp cA 12 _ _ _ = .inr (12, Fs12 _ _ _) from rfl) rfl) rfl rfl hl.1 rfl (lv_room (Nat.le_of_ble_eq_true rfl)) dX12_sell_94 ⟨Nat.le_of_ble_eq_true rfl, Nat.le_of_ble_eq_true rfl⟩) hLA hA hB hS (by decide) (fun x_46 σ_44 ρ_45 H locs hB fσ_44 pσ_44 hS => ?_)
            have qσ_44 := FR.nil fσ_44
            subst qσ_44
            exact W.iret (v := x_46) hx hb hr (fun t ht hW => ⟨⟨x_46, (σ_42, ρ_45), rfl, ⟨hB.2.1, hB.2.2, trivial⟩, (show TP D cA L T r σ_42 ρ_45 t.heap from by rw [ht]; exact hB.1)⟩, hS.F ht⟩) hS.2.2 dX12_sell_97
        · skip
          have uc_16 := i_eq (n := 0) (by decide) c_16
          refine lv_iconst (v := (-1)) hx hb dX12_sell_34 (by decide) ?_
          exact W.iret (v := (-1)) hx hb hr (fun t ht hW => ⟨⟨(-1), (σ, ρ_14), rfl, ⟨hB.2.1, hB.2.2, trivial⟩, (show TP D cA L T r σ ρ_14 t.heap from by rw [ht]; exact hB.1)⟩, hS.F ht⟩) hS.2.2 dX12_sell_35
theorem dX12_hand_0 : decode cX12_hand 0 = .ok (.aload_n 0, 1) := by decide +kernel
theorem dX12_hand_1 : decode cX12_hand 1 = .ok (.iload_n 1, 1) := by decide +kernel
theorem dX12_hand_2 : decode cX12_hand 2 = .ok (.invokevirtual 319, 3) := by decide +kernel
theorem dX12_hand_5 : decode cX12_hand 5 = .ok (.ifCond .eq 24, 3) := by decide +kernel
theorem dX12_hand_29 : decode cX12_hand 29 = .ok (.iconst (-1), 1) := by decide +kernel
theorem dX12_hand_30 : decode cX12_hand 30 = .ok (.ireturn, 1) := by decide +kernel
theorem dX12_hand_8 : decode cX12_hand 8 = .ok (.aload_n 0, 1) := by decide +kernel
theorem dX12_hand_9 : decode cX12_hand 9 = .ok (.iload_n 2, 1) := by decide +kernel
theorem dX12_hand_10 : decode cX12_hand 10 = .ok (.invokevirtual 319, 3) := by decide +kernel
theorem dX12_hand_13 : decode cX12_hand 13 = .ok (.ifCond .eq 16, 3) := by decide +kernel
theorem dX12_hand_16 : decode cX12_hand 16 = .ok (.iload_n 1, 1) := by decide +kernel
theorem dX12_hand_17 : decode cX12_hand 17 = .ok (.iload_n 2, 1) := by decide +kernel
theorem dX12_hand_18 : decode cX12_hand 18 = .ok (.if_icmp .eq 11, 3) := by decide +kernel
theorem dX12_hand_21 : decode cX12_hand 21 = .ok (.aload_n 0, 1) := by decide +kernel
theorem dX12_hand_22 : decode cX12_hand 22 = .ok (.iload_n 3, 1) := by decide +kernel
theorem dX12_hand_23 : decode cX12_hand 23 = .ok (.invokevirtual 335, 3) := by decide +kernel
theorem dX12_hand_26 : decode cX12_hand 26 = .ok (.ifCond .ne 5, 3) := by decide +kernel
theorem dX12_hand_31 : decode cX12_hand 31 = .ok (.aload_n 0, 1) := by decide +kernel
theorem dX12_hand_32 : decode cX12_hand 32 = .ok (.iload_n 1, 1) := by decide +kernel
theorem dX12_hand_33 : decode cX12_hand 33 = .ok (.iconst 0, 1) := by decide +kernel
theorem dX12_hand_34 : decode cX12_hand 34 = .ok (.invokevirtual 324, 3) := by decide +kernel
theorem dX12_hand_37 : decode cX12_hand 37 = .ok (.aload_n 0, 1) := by decide +kernel
theorem dX12_hand_38 : decode cX12_hand 38 = .ok (.iload_n 2, 1) := by decide +kernel
theorem dX12_hand_39 : decode cX12_hand 39 = .ok (.iconst 0, 1) := by decide +kernel
theorem dX12_hand_40 : decode cX12_hand 40 = .ok (.invokevirtual 324, 3) := by decide +kernel
theorem dX12_hand_43 : decode cX12_hand 43 = .ok (.if_icmp .ne 21, 3) := by decide +kernel
theorem dX12_hand_64 : decode cX12_hand 64 = .ok (.iconst (-1), 1) := by decide +kernel
theorem dX12_hand_65 : decode cX12_hand 65 = .ok (.ireturn, 1) := by decide +kernel
theorem dX12_hand_46 : decode cX12_hand 46 = .ok (.aload_n 0, 1) := by decide +kernel
theorem dX12_hand_47 : decode cX12_hand 47 = .ok (.iload_n 1, 1) := by decide +kernel
theorem dX12_hand_48 : decode cX12_hand 48 = .ok (.iload_n 3, 1) := by decide +kernel
theorem dX12_hand_49 : decode cX12_hand 49 = .ok (.invokevirtual 304, 3) := by decide +kernel
theorem dX12_hand_52 : decode cX12_hand 52 = .ok (.ifCond .eq 12, 3) := by decide +kernel
theorem dX12_hand_55 : decode cX12_hand 55 = .ok (.aload_n 0, 1) := by decide +kernel
theorem dX12_hand_56 : decode cX12_hand 56 = .ok (.iload_n 2, 1) := by decide +kernel
theorem dX12_hand_57 : decode cX12_hand 57 = .ok (.iload_n 3, 1) := by decide +kernel
theorem dX12_hand_58 : decode cX12_hand 58 = .ok (.invokevirtual 373, 3) := by decide +kernel
theorem dX12_hand_61 : decode cX12_hand 61 = .ok (.ifCond .ne 5, 3) := by decide +kernel
theorem dX12_hand_66 : decode cX12_hand 66 = .ok (.aload_n 0, 1) := by decide +kernel
theorem dX12_hand_67 : decode cX12_hand 67 = .ok (.invokevirtual 357, 3) := by decide +kernel
theorem dX12_hand_70 : decode cX12_hand 70 = .ok (.aload_n 0, 1) := by decide +kernel
theorem dX12_hand_71 : decode cX12_hand 71 = .ok (.iload_n 1, 1) := by decide +kernel
theorem dX12_hand_72 : decode cX12_hand 72 = .ok (.iconst 4, 1) := by decide +kernel
theorem dX12_hand_73 : decode cX12_hand 73 = .ok (.iload_n 3, 1) := by decide +kernel
theorem dX12_hand_74 : decode cX12_hand 74 = .ok (.iadd, 1) := by decide +kernel
theorem dX12_hand_75 : decode cX12_hand 75 = .ok (.iconst (-1), 1) := by decide +kernel
theorem dX12_hand_76 : decode cX12_hand 76 = .ok (.invokevirtual 363, 3) := by decide +kernel
theorem dX12_hand_79 : decode cX12_hand 79 = .ok (.aload_n 0, 1) := by decide +kernel
theorem dX12_hand_80 : decode cX12_hand 80 = .ok (.iload_n 2, 1) := by decide +kernel
theorem dX12_hand_81 : decode cX12_hand 81 = .ok (.iconst 4, 1) := by decide +kernel
theorem dX12_hand_82 : decode cX12_hand 82 = .ok (.iload_n 3, 1) := by decide +kernel
theorem dX12_hand_83 : decode cX12_hand 83 = .ok (.iadd, 1) := by decide +kernel
theorem dX12_hand_84 : decode cX12_hand 84 = .ok (.iconst 1, 1) := by decide +kernel
theorem dX12_hand_85 : decode cX12_hand 85 = .ok (.invokevirtual 363, 3) := by decide +kernel
theorem dX12_hand_88 : decode cX12_hand 88 = .ok (.aload_n 0, 1) := by decide +kernel
theorem dX12_hand_89 : decode cX12_hand 89 = .ok (.iload_n 2, 1) := by decide +kernel
theorem dX12_hand_90 : decode cX12_hand 90 = .ok (.iload_n 3, 1) := by decide +kernel
theorem dX12_hand_91 : decode cX12_hand 91 = .ok (.invokevirtual 304, 3) := by decide +kernel
theorem dX12_hand_94 : decode cX12_hand 94 = .ok (.ireturn, 1) := by decide +kernel
set_option maxHeartbeats 4000000 in
set_option maxRecDepth 100000 in
theorem cy_X12_hand (l : Launch) (D : va_G) (cA : Nat → ClassId) (L : List Nat) (T : Nat → Nat) (r : Rg) (hG : GR L T r) (hL : L.Nodup) (σ : Sg) (ρ : Lg) (hW : WT L ry T σ) (sz : Nat) (h0 : Nat) (mh0 : h0 ∈ L) (th0 : T h0 = 12) (p1 : Int32) (p2 : Int32) (p3 : Int32) : Met l yX12_hand (.code yX12_hand cX12_hand 4 (some .int) :: wsA) ({ frames := 3, cells := 0, slots := 0, locals := 67 }) (PR D cA L T r σ ρ sz [.ref h0, .int p1, .int p2, .int p3]) (QI D cA L T r ry [(12, 25), (70, 1000), (72, 1000)] σ sz (fun x σ1 => True)) 0 0 (dm L sz) := by
  refine Met.ofW (cc := cX12_hand) (maxL := 4) (ret := (some .int)) (by decide) rfl ?_
  intro p e s m args below meth c s₁ B hml hv
  obtain ⟨rfl, hsz, hP, hK, hN⟩ := hv
  have hx := B.exec
  have hb := B.bytes
  have hr := B.returns
  have hts : ∀ w ∈ wsA, w.before _ s = true := fun w h => atoms_spec (ws := .code yX12_hand cX12_hand 4 (some .int) :: wsA) B.pre w (List.mem_cons_of_mem _ h)
  have hown : s.vm.findClass RX12 = some m.cls := findClass_of_methodNamed B.named
  subst hsz
  have hLA : LA (dm L s.heap.size) L := ⟨hL, fun a h => Or.inl h⟩
  have hA : ∀ q : Nat, s.heap.size ≤ q → dm L s.heap.size q := fun q h => Or.inr h
  have hS : va_S (dm L s.heap.size) s.heap s.heap [] := va_S.rf
  have hB : TS D cA L T r ry [(12, 25), (70, 1000), (72, 1000)] σ σ ρ s.heap := ⟨hP, hW, FR.rf⟩
  have hl := lv_entry ([.ref h0, .int p1, .int p2, .int p3]) (n := 4) (Nat.le_of_ble_eq_true rfl)
  rw [lg_entry_eq]
  generalize (lg_sl ([.ref h0, .int p1, .int p2, .int p3]) ++ List.replicate (4 - (lg_sl ([.ref h0, .int p1, .int p2, .int p3])).length) Slot.unset).toArray = ls at hl ⊢
  have hl : lv_has ls 4 [(0, .ref h0), (1, .int p1), (2, .int p2), (3, .int p3)] := hl
  refine lv_aload_n hx hb dX12_hand_0 rfl (lv_at hl 0 rfl) ?_
  refine lv_iload_n hx hb dX12_hand_1 rfl (lv_at hl 1 rfl) ?_
  refine t_ci (va_runV (As := [.int p1]) (rest := []) ⟨hx, hb, hml, hown, hts⟩ (cy_X12_isPilgrim l D cA L T r hG hLA.1 σ ρ hB.2.1 _ h0 mh0 th0 p1) (cV hts mv_X12_isPilgrim mw_7_64 rfl rfl ⟨Nat.le_of_ble_eq_true rfl, Nat.le_of_ble_eq_true rfl⟩) (pV hB.1 hK hN mh0 th0 (show shp cA 12 _ _ _ = .inr (12, Fs12 _ _ _) from rfl) rfl) rfl rfl hl.1 rfl (lv_room (Nat.le_of_ble_eq_true rfl)) dX12_hand_2 ⟨Nat.le_of_ble_eq_true rfl, Nat.le_of_ble_eq_true rfl⟩) hLA hA hB hS (by decide) (fun x_3 σ_1 ρ_2 H locs hB fσ_1 pσ_1 hS => ?_)
  have qσ_1 := FR.nil fσ_1
  subst qσ_1
  obtain ⟨ox_3, ix_3⟩ := pσ_1
  refine lv_if_eq (tgt := 29) hx hb dX12_hand_5 (by decide) (fun c_4 => ?_) (fun c_4 => ?_)
  · skip
    have uc_4 := i_eq (n := 0) (by decide) c_4
    refine lv_iconst (v := (-1)) hx hb dX12_hand_29 (by decide) ?_
    exact W.iret (v := (-1)) hx hb hr (fun t ht hW => ⟨⟨(-1), (σ, ρ_2), rfl, ⟨hB.2.1, hB.2.2, trivial⟩, (show TP D cA L T r σ ρ_2 t.heap from by rw [ht]; exact hB.1)⟩, hS.F ht⟩) hS.2.2 dX12_hand_30
  · skip
    have uc_4 := i_ne (n := 0) (by decide) c_4
    refine lv_aload_n hx hb dX12_hand_8 rfl (lv_at hl 0 rfl) ?_
    refine lv_iload_n hx hb dX12_hand_9 rfl (lv_at hl 2 rfl) ?_
    refine t_ci (va_runV (As := [.int p2]) (rest := []) ⟨hx, hb, hml, hown, hts⟩ (cy_X12_isPilgrim l D cA L T r hG hLA.1 σ ρ_2 hB.2.1 _ h0 mh0 th0 p2) (cV hts mv_X12_isPilgrim mw_7_64 rfl rfl ⟨Nat.le_of_ble_eq_true rfl, Nat.le_of_ble_eq_true rfl⟩) (pV hB.1 hK hN mh0 th0 (show shp cA 12 _ _ _ = .inr (12, Fs12 _ _ _) from rfl) rfl) rfl rfl hl.1 rfl (lv_room (Nat.le_of_ble_eq_true rfl)) dX12_hand_10 ⟨Nat.le_of_ble_eq_true rfl, Nat.le_of_ble_eq_true rfl⟩) hLA hA hB hS (by decide) (fun x_7 σ_5 ρ_6 H locs hB fσ_5 pσ_5 hS => ?_)
    have qσ_5 := FR.nil fσ_5
    subst qσ_5
    obtain ⟨ox_7, ix_7⟩ := pσ_5
    refine lv_if_eq (tgt := 29) hx hb dX12_hand_13 (by decide) (fun c_8 => ?_) (fun c_8 => ?_)
    · skip
      have uc_8 := i_eq (n := 0) (by decide) c_8
      refine lv_iconst (v := (-1)) hx hb dX12_hand_29 (by decide) ?_
      exact W.iret (v := (-1)) hx hb hr (fun t ht hW => ⟨⟨(-1), (σ, ρ_6), rfl, ⟨hB.2.1, hB.2.2, trivial⟩, (show TP D cA L T r σ ρ_6 t.heap from by rw [ht]; exact hB.1)⟩, hS.F ht⟩) hS.2.2 dX12_hand_30
    · skip
      have uc_8 := i_ne (n := 0) (by decide) c_8
      refine lv_iload_n hx hb dX12_hand_16 rfl (lv_at hl 1 rfl) ?_
      refine lv_iload_n hx hb dX12_hand_17 rfl (lv_at hl 2 rfl) ?_
      refine lv_icmp_eq (tgt := 29) hx hb dX12_hand_18 (by decide) (fun c_9 => ?_) (fun c_9 => ?_)
      · skip
        have uc_9 := j_eq c_9
        refine lv_iconst (v := (-1)) hx hb dX12_hand_29 (by decide) ?_
        exact W.iret (v := (-1)) hx hb hr (fun t ht hW => ⟨⟨(-1), (σ, ρ_6), rfl, ⟨hB.2.1, hB.2.2, trivial⟩, (show TP D cA L T r σ ρ_6 t.heap from by rw [ht]; exact hB.1)⟩, hS.F ht⟩) hS.2.2 dX12_hand_30
      · skip
        have uc_9 := j_ne c_9
        refine lv_aload_n hx hb dX12_hand_21 rfl (lv_at hl 0 rfl) ?_
        refine lv_iload_n hx hb dX12_hand_22 rfl (lv_at hl 3 rfl) ?_
        refine t_ci (va_runV (As := [.int p3]) (rest := []) ⟨hx, hb, hml, hown, hts⟩ (cy_X12_isSort l D cA L T r hG hLA.1 σ ρ_6 hB.2.1 _ h0 mh0 th0 p3) (cV hts mv_X12_isSort mw_7_110 rfl rfl ⟨Nat.le_of_ble_eq_true rfl, Nat.le_of_ble_eq_true rfl⟩) (pV hB.1 hK hN mh0 th0 (show shp cA 12 _ _ _ = .inr (12, Fs12 _ _ _) from rfl) rfl) rfl rfl hl.1 rfl (lv_room (Nat.le_of_ble_eq_true rfl)) dX12_hand_23 ⟨Nat.le_of_ble_eq_true rfl, Nat.le_of_ble_eq_true rfl⟩) hLA hA hB hS (by decide) (fun x_12 σ_10 ρ_11 H locs hB fσ_10 pσ_10 hS => ?_)
        have qσ_10 := FR.nil fσ_10
        subst qσ_10
        obtain ⟨ox_12, ix_12⟩ := pσ_10
        refine lv_if_ne (tgt := 31) hx hb dX12_hand_26 (by decide) (fun c_13 => ?_) (fun c_13 => ?_)
        · skip
          have uc_13 := i_ne (n := 0) (by decide) c_13
          refine lv_aload_n hx hb dX12_hand_31 rfl (lv_at hl 0 rfl) ?_
          refine lv_iload_n hx hb dX12_hand_32 rfl (lv_at hl 1 rfl) ?_
          refine lv_iconst (v := 0) hx hb dX12_hand_33 (by decide) ?_
          refine t_ci (va_runV (As := [.int p1, .int 0]) (rest := []) ⟨hx, hb, hml, hown, hts⟩ (cy_X12_pilgrimOf_0 l D cA L T r hG hLA.1 σ ρ_11 hB.2.1 _ h0 mh0 th0 p1 (by first | omega | decide) (by first | omega | decide)) (cV hts mv_X12_pilgrimOf mw_7_69 rfl rfl ⟨Nat.le_of_ble_eq_true rfl, Nat.le_of_ble_eq_true rfl⟩) (pV hB.1 hK hN mh0 th0 (show shp cA 12 _ _ _ = .inr (12, Fs12 _ _ _) from rfl) rfl) rfl rfl hl.1 rfl (lv_room (Nat.le_of_ble_eq_true rfl)) dX12_hand_34 ⟨Nat.le_of_ble_eq_true rfl, Nat.le_of_ble_eq_true rfl⟩) hLA hA hB hS (by decide) (fun x_16 σ_14 ρ_15 H locs hB fσ_14 pσ_14 hS => ?_)
          have qσ_14 := FR.nil fσ_14
          subst qσ_14
          obtain ⟨lx_16, ux_16⟩ := pσ_14
          refine lv_aload_n hx hb dX12_hand_37 rfl (lv_at hl 0 rfl) ?_
          refine lv_iload_n hx hb dX12_hand_38 rfl (lv_at hl 2 rfl) ?_
          refine lv_iconst (v := 0) hx hb dX12_hand_39 (by decide) ?_
          refine t_ci (va_runV (As := [.int p2, .int 0]) (rest := [.int x_16]) ⟨hx, hb, hml, hown, hts⟩ (cy_X12_pilgrimOf_0 l D cA L T r hG hLA.1 σ ρ_15 hB.2.1 _ h0 mh0 th0 p2 (by first | omega | decide) (by first | omega | decide)) (cV hts mv_X12_pilgrimOf mw_7_69 rfl rfl ⟨Nat.le_of_ble_eq_true rfl, Nat.le_of_ble_eq_true rfl⟩) (pV hB.1 hK hN mh0 th0 (show shp cA 12 _ _ _ = .inr (12, Fs12 _ _ _) from rfl) rfl) rfl rfl hl.1 rfl (lv_room (Nat.le_of_ble_eq_true rfl)) dX12_hand_40 ⟨Nat.le_of_ble_eq_true rfl, Nat.le_of_ble_eq_true rfl⟩) hLA hA hB hS (by decide) (fun x_19 σ_17 ρ_18 H locs hB fσ_17 pσ_17 hS => ?_)
          have qσ_17 := FR.nil fσ_17
          subst qσ_17
          obtain ⟨lx_19, ux_19⟩ := pσ_17
          refine lv_icmp_ne (tgt := 64) hx hb dX12_hand_43 (by decide) (fun c_20 => ?_) (fun c_20 => ?_)
          · skip
            have uc_20 := j_ne c_20
            refine lv_iconst (v := (-1)) hx hb dX12_hand_64 (by decide) ?_
            exact W.iret (v := (-1)) hx hb hr (fun t ht hW => ⟨⟨(-1), (σ, ρ_18), rfl, ⟨hB.2.1, hB.2.2, trivial⟩, (show TP D cA L T r σ ρ_18 t.heap from by rw [ht]; exact hB.1)⟩, hS.F ht⟩) hS.2.2 dX12_hand_65
          · skip
            have uc_20 := j_eq c_20
            refine lv_aload_n hx hb dX12_hand_46 rfl (lv_at hl 0 rfl) ?_
            refine lv_iload_n hx hb dX12_hand_47 rfl (lv_at hl 1 rfl) ?_
            refine lv_iload_n hx hb dX12_hand_48 rfl (lv_at hl 3 rfl) ?_
            refine t_ci (va_runV (As := [.int p1, .int p3]) (rest := []) ⟨hx, hb, hml, hown, hts⟩ (cy_X12_hasOf l D cA L T r hG hLA.1 σ ρ_18 hB.2.1 _ h0 mh0 th0 p1 p3 (by first | omega | decide) (by first | omega | decide) (by first | omega | decide) (by first | omega | decide)) (cV hts mv_X12_hasOf mw_7_77 rfl rfl ⟨Nat.le_of_ble_eq_true rfl, Nat.le_of_ble_eq_true rfl⟩) (pV hB.1 hK hN mh0 th0 (show shp cA 12 _ _ _ = .inr (12, Fs12 _ _ _) from rfl) rfl) rfl rfl hl.1 rfl (lv_room (Nat.le_of_ble_eq_true rfl)) dX12_hand_49 ⟨Nat.le_of_ble_eq_true rfl, Nat.le_of_ble_eq_true rfl⟩) hLA hA hB hS (by decide) (fun x_23 σ_21 ρ_22 H locs hB fσ_21 pσ_21 hS => ?_)
            have qσ_21 := FR.nil fσ_21
            subst qσ_21
            refine lv_if_eq (tgt := 64) hx hb dX12_hand_52 (by decide) (fun c_24 => ?_) (fun c_24 => ?_)
            · skip
              have uc_24 := i_eq (n := 0) (by decide) c_24
              refine lv_iconst (v := (-1)) hx hb dX12_hand_64 (by decide) ?_
              exact W.iret (v := (-1)) hx hb hr (fun t ht hW => ⟨⟨(-1), (σ, ρ_22), rfl, ⟨hB.2.1, hB.2.2, trivial⟩, (show TP D cA L T r σ ρ_22 t.heap from by rw [ht]; exact hB.1)⟩, hS.F ht⟩) hS.2.2 dX12_hand_65
            · skip
              have uc_24 := i_ne (n := 0) (by decide) c_24
              refine lv_aload_n hx hb dX12_hand_55 rfl (lv_at hl 0 rfl) ?_
              refine lv_iload_n hx hb dX12_hand_56 rfl (lv_at hl 2 rfl) ?_
              refine lv_iload_n hx hb dX12_hand_57 rfl (lv_at hl 3 rfl) ?_
              refine t_ci (va_runV (As := [.int p2, .int p3]) (rest := []) ⟨hx, hb, hml, hown, hts⟩ (cy_X12_canCarry l D cA L T r hG hLA.1 σ ρ_22 hB.2.1 _ h0 mh0 th0 p2 p3 (by first | omega | decide) (by first | omega | decide) (by first | omega | decide) (by first | omega | decide)) (cV hts mv_X12_canCarry mw_7_186 rfl rfl ⟨Nat.le_of_ble_eq_true rfl, Nat.le_of_ble_eq_true rfl⟩) (pV hB.1 hK hN mh0 th0 (show shp cA 12 _ _ _ = .inr (12, Fs12 _ _ _) from rfl) rfl) rfl rfl hl.1 rfl (lv_room (Nat.le_of_ble_eq_true rfl)) dX12_hand_58 ⟨Nat.le_of_ble_eq_true rfl, Nat.le_of_ble_eq_true rfl⟩) hLA hA hB hS (by decide) (fun x_27 σ_25 ρ_26 H locs hB fσ_25 pσ_25 hS => ?_)
              have qσ_25 := FR.nil fσ_25
              subst qσ_25
              obtain ⟨lx_27, ux_27⟩ := pσ_25
              refine lv_if_ne (tgt := 66) hx hb dX12_hand_61 (by decide) (fun c_28 => ?_) (fun c_28 => ?_)
              · skip
                have uc_28 := i_ne (n := 0) (by decide) c_28
                refine lv_aload_n hx hb dX12_hand_66 rfl (lv_at hl 0 rfl) ?_
                refine t_cv (va_runV (As := []) (rest := []) ⟨hx, hb, hml, hown, hts⟩ (cy_X12_keepsAct l D cA L T r hG hLA.1 σ ρ_26 hB.2.1 _ h0 mh0 th0) (cV hts mv_X12_keepsAct mw_7_127 rfl rfl ⟨Nat.le_of_ble_eq_true rfl, Nat.le_of_ble_eq_true rfl⟩) (pV hB.1 hK hN mh0 th0 (show shp cA 12 _ _ _ = .inr (12, Fs12 _ _ _) from rfl) rfl) rfl rfl hl.1 rfl (lv_room (Nat.le_of_ble_eq_true rfl)) dX12_hand_67 ⟨Nat.le_of_ble_eq_true rfl, Nat.le_of_ble_eq_true rfl⟩) hLA hA hB hS (by decide) (fun σ_29 ρ_30 H locs hB fσ_29 pσ_29 hS => ?_)
                refine lv_aload_n hx hb dX12_hand_70 rfl (lv_at hl 0 rfl) ?_
                refine lv_iload_n hx hb dX12_hand_71 rfl (lv_at hl 1 rfl) ?_
                refine lv_iconst (v := 4) hx hb dX12_hand_72 (by decide) ?_
                refine lv_iload_n hx hb dX12_hand_73 rfl (lv_at hl 3 rfl) ?_
                refine lv_iadd hx hb dX12_hand_74 ?_
                refine lv_topi (fun x_32 ex_32 => ?_)
                try have vx_32 := b_add (by decide : (4 : Int32).toInt = 4) (rfl : p3.toInt = _) ex_32 (by omega) (by omega)
                refine lv_iconst (v := (-1)) hx hb dX12_hand_75 (by decide) ?_
                refine t_cv (va_runV (As := [.int p1, .int x_32, .int (-1)]) (rest := []) ⟨hx, hb, hml, hown, hts⟩ (cy_X12_adds_t l D cA L T r hG hLA.1 σ_29 ρ_30 hB.2.1 _ h0 mh0 th0 p1 x_32 ((-1)) (by first | omega | decide) (by first | omega | decide) (by first | omega | decide) (by first | omega | decide)) (cV hts mv_X12_adds mw_7_174 rfl rfl ⟨Nat.le_of_ble_eq_true rfl, Nat.le_of_ble_eq_true rfl⟩) (pV hB.1 hK hN mh0 th0 (show shp cA 12 _ _ _ = .inr (12, Fs12 _ _ _) from rfl) rfl) rfl rfl hl.1 rfl (lv_room (Nat.le_of_ble_eq_true rfl)) dX12_hand_76 ⟨Nat.le_of_ble_eq_true rfl, Nat.le_of_ble_eq_true rfl⟩) hLA hA hB hS (by decide) (fun σ_33 ρ_34 H locs hB fσ_33 pσ_33 hS => ?_)
                refine lv_aload_n hx hb dX12_hand_79 rfl (lv_at hl 0 rfl) ?_
                refine lv_iload_n hx hb dX12_hand_80 rfl (lv_at hl 2 rfl) ?_
                refine lv_iconst (v := 4) hx hb dX12_hand_81 (by decide) ?_
                refine lv_iload_n hx hb dX12_hand_82 rfl (lv_at hl 3 rfl) ?_
                refine lv_iadd hx hb dX12_hand_83 ?_
                refine lv_topi (fun x_36 ex_36 => ?_)
                try have vx_36 := b_add (by decide : (4 : Int32).toInt = 4) (rfl : p3.toInt = _) ex_36 (by omega) (by omega)
                refine lv_iconst (v := 1) hx hb dX12_hand_84 (by decide) ?_
                refine t_cv (va_runV (As := [.int p2, .int x_36, .int 1]) (rest := []) ⟨hx, hb, hml, hown, hts⟩ (cy_X12_adds_t l D cA L T r hG hLA.1 σ_33 ρ_34 hB.2.1 _ h0 mh0 th0 p2 x_36 1 (by first | omega | decide) (by first | omega | decide) (by first | omega | decide) (by first | omega | decide)) (cV hts mv_X12_adds mw_7_174 rfl rfl ⟨Nat.le_of_ble_eq_true rfl, Nat.le_of_ble_eq_true rfl⟩) (pV hB.1 hK hN mh0 th0 (show shp cA 12 _ _ _ = .inr (12, Fs12 _ _ _) from rfl) rfl) rfl rfl hl.1 rfl (lv_room (Nat.le_of_ble_eq_true rfl)) dX12_hand_85 ⟨Nat.le_of_ble_eq_true rfl, Nat.le_of_ble_eq_true rfl⟩) hLA hA hB hS (by decide) (fun σ_37 ρ_38 H locs hB fσ_37 pσ_37 hS => ?_)
                refine lv_aload_n hx hb dX12_hand_88 rfl (lv_at hl 0 rfl) ?_
                refine lv_iload_n hx hb dX12_hand_89 rfl (lv_at hl 2 rfl) ?_
                refine lv_iload_n hx hb dX12_hand_90 rfl (lv_at hl 3 rfl) ?_
                refine t_ci (va_runV (As := [.int p2, .int p3]) (rest := []) ⟨hx, hb, hml, hown, hts⟩ (cy_X12_hasOf l D cA L T r hG hLA.1 σ_37 ρ_38 hB.2.1 _ h0 mh0 th0 p2 p3 (by first | omega | decide) (by first | omega | decide) (by first | omega | decide) (by first | omega | decide)) (cV hts mv_X12_hasOf mw_7_77 rfl rfl ⟨Nat.le_of_ble_eq_true rfl, Nat.le_of_ble_eq_true rfl⟩) (pV hB.1 hK hN mh0 th0 (show shp cA 12 _ _ _ = .inr (12, Fs12 _ _ _) from rfl) rfl) rfl rfl hl.1 rfl (lv_room (Nat.le_of_ble_eq_true rfl)) dX12_hand_91 ⟨Nat.le_of_ble_eq_true rfl, Nat.le_of_ble_eq_true rfl⟩) hLA hA hB hS (by decide) (fun x_42 σ_40 ρ_41 H locs hB fσ_40 pσ_40 hS => ?_)
                have qσ_40 := FR.nil fσ_40
                subst qσ_40
                exact W.iret (v := x_42) hx hb hr (fun t ht hW => ⟨⟨x_42, (σ_37, ρ_41), rfl, ⟨hB.2.1, hB.2.2, trivial⟩, (show TP D cA L T r σ_37 ρ_41 t.heap from by rw [ht]; exact hB.1)⟩, hS.F ht⟩) hS.2.2 dX12_hand_94
              · skip
                have uc_28 := i_eq (n := 0) (by decide) c_28
                refine lv_iconst (v := (-1)) hx hb dX12_hand_64 (by decide) ?_
                exact W.iret (v := (-1)) hx hb hr (fun t ht hW => ⟨⟨(-1), (σ, ρ_26), rfl, ⟨hB.2.1, hB.2.2, trivial⟩, (show TP D cA L T r σ ρ_26 t.heap from by rw [ht]; exact hB.1)⟩, hS.F ht⟩) hS.2.2 dX12_hand_65
        · skip
          have uc_13 := i_eq (n := 0) (by decide) c_13
          refine lv_iconst (v := (-1)) hx hb dX12_hand_29 (by decide) ?_
          exact W.iret (v := (-1)) hx hb hr (fun t ht hW => ⟨⟨(-1), (σ, ρ_11), rfl, ⟨hB.2.1, hB.2.2, trivial⟩, (show TP D cA L T r σ ρ_11 t.heap from by rw [ht]; exact hB.1)⟩, hS.F ht⟩) hS.2.2 dX12_hand_30
theorem dX12_waysWith_0 : decode cX12_waysWith 0 = .ok (.iconst 0, 1) := by decide +kernel
theorem dX12_waysWith_1 : decode cX12_waysWith 1 = .ok (.istore 4, 2) := by decide +kernel
theorem dX12_waysWith_3 : decode cX12_waysWith 3 = .ok (.aload_n 0, 1) := by decide +kernel
theorem dX12_waysWith_4 : decode cX12_waysWith 4 = .ok (.getfield 39, 3) := by decide +kernel
theorem dX12_waysWith_7 : decode cX12_waysWith 7 = .ok (.iconst 2, 1) := by decide +kernel
theorem dX12_waysWith_8 : decode cX12_waysWith 8 = .ok (.iaload, 1) := by decide +kernel
theorem dX12_waysWith_9 : decode cX12_waysWith 9 = .ok (.iload_n 1, 1) := by decide +kernel
theorem dX12_waysWith_10 : decode cX12_waysWith 10 = .ok (.isub, 1) := by decide +kernel
theorem dX12_waysWith_11 : decode cX12_waysWith 11 = .ok (.iload_n 2, 1) := by decide +kernel
theorem dX12_waysWith_12 : decode cX12_waysWith 12 = .ok (.ifCond .ge 7, 3) := by decide +kernel
theorem dX12_waysWith_19 : decode cX12_waysWith 19 = .ok (.iconst 1, 1) := by decide +kernel
theorem dX12_waysWith_20 : decode cX12_waysWith 20 = .ok (.isub, 1) := by decide +kernel
theorem dX12_waysWith_21 : decode cX12_waysWith 21 = .ok (.istore 5, 2) := by decide +kernel
theorem dX12_waysWith_23 : decode cX12_waysWith 23 = .ok (.iconst 0, 1) := by decide +kernel
theorem dX12_waysWith_24 : decode cX12_waysWith 24 = .ok (.istore 6, 2) := by decide +kernel
theorem dX12_waysWith_26 : decode cX12_waysWith 26 = .ok (.iload 6, 2) := by decide +kernel
theorem dX12_waysWith_28 : decode cX12_waysWith 28 = .ok (.iconst 1, 1) := by decide +kernel
theorem dX12_waysWith_29 : decode cX12_waysWith 29 = .ok (.iload 5, 2) := by decide +kernel
theorem dX12_waysWith_31 : decode cX12_waysWith 31 = .ok (.ishl, 1) := by decide +kernel
theorem dX12_waysWith_32 : decode cX12_waysWith 32 = .ok (.if_icmp .ge 139, 3) := by decide +kernel
theorem dX12_waysWith_35 : decode cX12_waysWith 35 = .ok (.iconst 0, 1) := by decide +kernel
theorem dX12_waysWith_36 : decode cX12_waysWith 36 = .ok (.istore 7, 2) := by decide +kernel
theorem dX12_waysWith_38 : decode cX12_waysWith 38 = .ok (.iload 7, 2) := by decide +kernel
theorem dX12_waysWith_40 : decode cX12_waysWith 40 = .ok (.iconst 5, 1) := by decide +kernel
theorem dX12_waysWith_41 : decode cX12_waysWith 41 = .ok (.if_icmp .ge 23, 3) := by decide +kernel
theorem dX12_waysWith_44 : decode cX12_waysWith 44 = .ok (.aload_n 0, 1) := by decide +kernel
theorem dX12_waysWith_45 : decode cX12_waysWith 45 = .ok (.getfield 52, 3) := by decide +kernel
theorem dX12_waysWith_48 : decode cX12_waysWith 48 = .ok (.iload 7, 2) := by decide +kernel
theorem dX12_waysWith_50 : decode cX12_waysWith 50 = .ok (.aload_n 0, 1) := by decide +kernel
theorem dX12_waysWith_51 : decode cX12_waysWith 51 = .ok (.getfield 55, 3) := by decide +kernel
theorem dX12_waysWith_54 : decode cX12_waysWith 54 = .ok (.iload 7, 2) := by decide +kernel
theorem dX12_waysWith_56 : decode cX12_waysWith 56 = .ok (.iaload, 1) := by decide +kernel
theorem dX12_waysWith_57 : decode cX12_waysWith 57 = .ok (.iastore, 1) := by decide +kernel
theorem dX12_waysWith_58 : decode cX12_waysWith 58 = .ok (.iinc 7 1, 3) := by decide +kernel
theorem dX12_waysWith_61 : decode cX12_waysWith 61 = .ok (.goto (-23), 3) := by decide +kernel
theorem dX12_waysWith_64 : decode cX12_waysWith 64 = .ok (.iconst 0, 1) := by decide +kernel
theorem dX12_waysWith_65 : decode cX12_waysWith 65 = .ok (.istore 7, 2) := by decide +kernel
theorem dX12_waysWith_67 : decode cX12_waysWith 67 = .ok (.iconst 1, 1) := by decide +kernel
theorem dX12_waysWith_68 : decode cX12_waysWith 68 = .ok (.istore 8, 2) := by decide +kernel
theorem dX12_waysWith_70 : decode cX12_waysWith 70 = .ok (.iload_n 1, 1) := by decide +kernel
theorem dX12_waysWith_71 : decode cX12_waysWith 71 = .ok (.istore 9, 2) := by decide +kernel
theorem dX12_waysWith_73 : decode cX12_waysWith 73 = .ok (.iload 9, 2) := by decide +kernel
theorem dX12_waysWith_75 : decode cX12_waysWith 75 = .ok (.aload_n 0, 1) := by decide +kernel
theorem dX12_waysWith_76 : decode cX12_waysWith 76 = .ok (.getfield 39, 3) := by decide +kernel
theorem dX12_waysWith_79 : decode cX12_waysWith 79 = .ok (.iconst 2, 1) := by decide +kernel
theorem dX12_waysWith_80 : decode cX12_waysWith 80 = .ok (.iaload, 1) := by decide +kernel
theorem dX12_waysWith_81 : decode cX12_waysWith 81 = .ok (.if_icmp .ge 69, 3) := by decide +kernel
theorem dX12_waysWith_150 : decode cX12_waysWith 150 = .ok (.iload 4, 2) := by decide +kernel
theorem dX12_waysWith_152 : decode cX12_waysWith 152 = .ok (.iload 8, 2) := by decide +kernel
theorem dX12_waysWith_154 : decode cX12_waysWith 154 = .ok (.ifCond .eq 7, 3) := by decide +kernel
theorem dX12_waysWith_161 : decode cX12_waysWith 161 = .ok (.iconst 0, 1) := by decide +kernel
theorem dX12_waysWith_162 : decode cX12_waysWith 162 = .ok (.iadd, 1) := by decide +kernel
theorem dX12_waysWith_163 : decode cX12_waysWith 163 = .ok (.istore 4, 2) := by decide +kernel
theorem dX12_waysWith_165 : decode cX12_waysWith 165 = .ok (.iinc 6 1, 3) := by decide +kernel
theorem dX12_waysWith_168 : decode cX12_waysWith 168 = .ok (.goto (-142), 3) := by decide +kernel
theorem dX12_waysWith_157 : decode cX12_waysWith 157 = .ok (.iconst 1, 1) := by decide +kernel
theorem dX12_waysWith_158 : decode cX12_waysWith 158 = .ok (.goto 4, 3) := by decide +kernel
theorem dX12_waysWith_84 : decode cX12_waysWith 84 = .ok (.iload 9, 2) := by decide +kernel
theorem dX12_waysWith_86 : decode cX12_waysWith 86 = .ok (.iload_n 2, 1) := by decide +kernel
theorem dX12_waysWith_87 : decode cX12_waysWith 87 = .ok (.if_icmp .ne 6, 3) := by decide +kernel
theorem dX12_waysWith_93 : decode cX12_waysWith 93 = .ok (.aload_n 0, 1) := by decide +kernel
theorem dX12_waysWith_94 : decode cX12_waysWith 94 = .ok (.iload 9, 2) := by decide +kernel
theorem dX12_waysWith_96 : decode cX12_waysWith 96 = .ok (.iload 6, 2) := by decide +kernel
theorem dX12_waysWith_98 : decode cX12_waysWith 98 = .ok (.iload 7, 2) := by decide +kernel
theorem dX12_waysWith_100 : decode cX12_waysWith 100 = .ok (.ishr, 1) := by decide +kernel
theorem dX12_waysWith_101 : decode cX12_waysWith 101 = .ok (.iconst 1, 1) := by decide +kernel
theorem dX12_waysWith_102 : decode cX12_waysWith 102 = .ok (.iand, 1) := by decide +kernel
theorem dX12_waysWith_103 : decode cX12_waysWith 103 = .ok (.invokevirtual 300, 3) := by decide +kernel
theorem dX12_waysWith_106 : decode cX12_waysWith 106 = .ok (.istore 10, 2) := by decide +kernel
theorem dX12_waysWith_108 : decode cX12_waysWith 108 = .ok (.aload_n 0, 1) := by decide +kernel
theorem dX12_waysWith_109 : decode cX12_waysWith 109 = .ok (.getfield 52, 3) := by decide +kernel
theorem dX12_waysWith_112 : decode cX12_waysWith 112 = .ok (.iload 10, 2) := by decide +kernel
theorem dX12_waysWith_114 : decode cX12_waysWith 114 = .ok (.dup2, 1) := by decide +kernel
theorem dX12_waysWith_115 : decode cX12_waysWith 115 = .ok (.iaload, 1) := by decide +kernel
theorem dX12_waysWith_116 : decode cX12_waysWith 116 = .ok (.iload_n 3, 1) := by decide +kernel
theorem dX12_waysWith_117 : decode cX12_waysWith 117 = .ok (.isub, 1) := by decide +kernel
theorem dX12_waysWith_118 : decode cX12_waysWith 118 = .ok (.iastore, 1) := by decide +kernel
theorem dX12_waysWith_119 : decode cX12_waysWith 119 = .ok (.iload 8, 2) := by decide +kernel
theorem dX12_waysWith_121 : decode cX12_waysWith 121 = .ok (.ifCond .eq 17, 3) := by decide +kernel
theorem dX12_waysWith_138 : decode cX12_waysWith 138 = .ok (.iconst 0, 1) := by decide +kernel
theorem dX12_waysWith_139 : decode cX12_waysWith 139 = .ok (.istore 8, 2) := by decide +kernel
theorem dX12_waysWith_141 : decode cX12_waysWith 141 = .ok (.iinc 7 1, 3) := by decide +kernel
theorem dX12_waysWith_144 : decode cX12_waysWith 144 = .ok (.iinc 9 1, 3) := by decide +kernel
theorem dX12_waysWith_147 : decode cX12_waysWith 147 = .ok (.goto (-74), 3) := by decide +kernel
theorem dX12_waysWith_124 : decode cX12_waysWith 124 = .ok (.aload_n 0, 1) := by decide +kernel
theorem dX12_waysWith_125 : decode cX12_waysWith 125 = .ok (.getfield 52, 3) := by decide +kernel
theorem dX12_waysWith_128 : decode cX12_waysWith 128 = .ok (.iload 10, 2) := by decide +kernel
theorem dX12_waysWith_130 : decode cX12_waysWith 130 = .ok (.iaload, 1) := by decide +kernel
theorem dX12_waysWith_131 : decode cX12_waysWith 131 = .ok (.ifCond .lt 7, 3) := by decide +kernel
theorem dX12_waysWith_134 : decode cX12_waysWith 134 = .ok (.iconst 1, 1) := by decide +kernel
theorem dX12_waysWith_135 : decode cX12_waysWith 135 = .ok (.goto 4, 3) := by decide +kernel
theorem dX12_waysWith_90 : decode cX12_waysWith 90 = .ok (.goto 54, 3) := by decide +kernel
theorem dX12_waysWith_171 : decode cX12_waysWith 171 = .ok (.iload 4, 2) := by decide +kernel
theorem dX12_waysWith_173 : decode cX12_waysWith 173 = .ok (.ireturn, 1) := by decide +kernel
theorem dX12_waysWith_15 : decode cX12_waysWith 15 = .ok (.iconst 0, 1) := by decide +kernel
theorem dX12_waysWith_16 : decode cX12_waysWith 16 = .ok (.goto 4, 3) := by decide +kernel
set_option maxHeartbeats 4000000 in
set_option maxRecDepth 100000 in
theorem cy_X12_waysWith (l : Launch) (D : va_G) (cA : Nat → ClassId) (L : List Nat) (T : Nat → Nat) (r : Rg) (hG : GR L T r) (hL : L.Nodup) (σ : Sg) (ρ : Lg) (hW : WT L ry T σ) (sz : Nat) (h0 : Nat) (mh0 : h0 ∈ L) (th0 : T h0 = 12) (p1 : Int32) (p2 : Int32) (p3 : Int32) (w0 : 0 ≤ p1.toInt) (w1 : p1.toInt ≤ 8) : Met l yX12_waysWith (.code yX12_waysWith cX12_waysWith 11 (some .int) :: wsA) ({ frames := 1, cells := 0, slots := 0, locals := 22 }) (PR D cA L T r σ ρ sz [.ref h0, .int p1, .int p2, .int p3]) (QI D cA L T r ry [(73, 1000)] σ sz (fun x σ1 => True)) 0 0 (dm L sz) := by
  refine Met.ofW (cc := cX12_waysWith) (maxL := 11) (ret := (some .int)) (by decide) rfl ?_
  intro p e s m args below meth c s₁ B hml hv
  obtain ⟨rfl, hsz, hP, hK, hN⟩ := hv
  have hx := B.exec
  have hb := B.bytes
  have hr := B.returns
  have hts : ∀ w ∈ wsA, w.before _ s = true := fun w h => atoms_spec (ws := .code yX12_waysWith cX12_waysWith 11 (some .int) :: wsA) B.pre w (List.mem_cons_of_mem _ h)
  have hown : s.vm.findClass RX12 = some m.cls := findClass_of_methodNamed B.named
  subst hsz
  have hLA : LA (dm L s.heap.size) L := ⟨hL, fun a h => Or.inl h⟩
  have hA : ∀ q : Nat, s.heap.size ≤ q → dm L s.heap.size q := fun q h => Or.inr h
  have hS : va_S (dm L s.heap.size) s.heap s.heap [] := va_S.rf
  have hB : TS D cA L T r ry [(73, 1000)] σ σ ρ s.heap := ⟨hP, hW, FR.rf⟩
  have hl := lv_entry ([.ref h0, .int p1, .int p2, .int p3]) (n := 11) (Nat.le_of_ble_eq_true rfl)
  rw [lg_entry_eq]
  generalize (lg_sl ([.ref h0, .int p1, .int p2, .int p3]) ++ List.replicate (11 - (lg_sl ([.ref h0, .int p1, .int p2, .int p3])).length) Slot.unset).toArray = ls at hl ⊢
  have hl : lv_has ls 11 [(0, .ref h0), (1, .int p1), (2, .int p2), (3, .int p3)] := hl
  refine lv_iconst (v := 0) hx hb dX12_waysWith_0 (by decide) ?_
  refine lv_istore (lv' := [(4, .int 0), (0, .ref h0), (1, .int p1), (2, .int p2), (3, .int p3)]) hx hb dX12_waysWith_1 hl (by decide) rfl (fun ls hl => ?_)
  refine lv_aload_n hx hb dX12_waysWith_3 rfl (lv_at hl 1 rfl) ?_
  refine t_gr hx hb hts hown hK hG hB mh0 th0 fq_12_20 rfl mw_5_236 dX12_waysWith_4 (fun b_1 hb_1 mb_1 tb_1 => ?_)
  refine lv_iconst (v := 2) hx hb dX12_waysWith_7 (by decide) ?_
  refine t_aj hx hb hK hB mb_1 tb_1 ai_70 (i_in (by decide) (by decide)) dX12_waysWith_8 (fun x_2 ex_2 lx_2 ux_2 => ?_)
  have lx_2 : 0 ≤ x_2.toInt := lx_2
  have ux_2 : x_2.toInt ≤ 8 := ux_2
  have cx_2 := congrArg Int32.toInt ex_2
  refine lv_iload_n hx hb dX12_waysWith_9 rfl (lv_at hl 2 rfl) ?_
  refine lv_isub hx hb dX12_waysWith_10 ?_
  refine lv_topi (fun x_3 ex_3 => ?_)
  have vx_3 := b_sub (rfl : x_2.toInt = _) (rfl : p1.toInt = _) ex_3 (by omega) (by omega)
  refine lv_iload_n hx hb dX12_waysWith_11 rfl (lv_at hl 3 rfl) ?_
  refine lv_if_ge (tgt := 19) hx hb dX12_waysWith_12 (by decide) (fun c_4 => ?_) (fun c_4 => ?_)
  · skip
    have uc_4 := i_ge (n := 0) (by decide) c_4
    refine lv_iconst (v := 1) hx hb dX12_waysWith_19 (by decide) ?_
    refine lv_isub hx hb dX12_waysWith_20 ?_
    refine lv_topi (fun x_5 ex_5 => ?_)
    have vx_5 := b_sub (rfl : x_3.toInt = _) (by decide : (1 : Int32).toInt = 1) ex_5 (by omega) (by omega)
    refine lv_istore (lv' := [(5, .int x_5), (4, .int 0), (0, .ref h0), (1, .int p1), (2, .int p2), (3, .int p3)]) hx hb dX12_waysWith_21 hl (by decide) rfl (fun ls hl => ?_)
    refine lv_iconst (v := 0) hx hb dX12_waysWith_23 (by decide) ?_
    refine lv_istore (lv' := [(6, .int 0), (5, .int x_5), (4, .int 0), (0, .ref h0), (1, .int p1), (2, .int p2), (3, .int p3)]) hx hb dX12_waysWith_24 hl (by decide) rfl (fun ls hl => ?_)
    refine w_loop (α := Int32 × Int32 × Sg × Lg) (fun (i_6, i_7, σ_8, ρ_9) H locs ls => 0 ≤ i_7.toInt ∧ i_7.toInt ≤ 2147483647 ∧ σ_8 b_1 2 = x_2 ∧ TS D cA L T r ry [(73, 1000)] σ σ_8 ρ_9 H ∧ va_S (dm L s.heap.size) s.heap H locs ∧ lv_has ls 11 [(6, .int i_7), (5, .int x_5), (4, .int i_6), (0, .ref h0), (1, .int p1), (2, .int p2), (3, .int p3)]) (fun (i_6, i_7, σ_8, ρ_9) => (2147483647 - i_7.toInt).toNat) ?_ ⟨0, 0, σ, ρ⟩ ⟨(by decide), (by decide), ex_2.symm, hB, hS, lv_sub hl [0, 1, 2, 3, 4, 5, 6] rfl⟩
    rintro ⟨i_6, i_7, σ_8, ρ_9⟩ H locs ls ⟨li_7, ui_7, k_11, hB, hS, hl⟩ ih_10
    refine lv_iload hx hb dX12_waysWith_26 (lv_at hl 0 rfl) ?_
    refine lv_iconst (v := 1) hx hb dX12_waysWith_28 (by decide) ?_
    refine lv_iload hx hb dX12_waysWith_29 (lv_at hl 1 rfl) ?_
    refine lv_ishl hx hb dX12_waysWith_31 ?_
    refine lv_topi (fun x_12 ex_12 => ?_)
    have lx_12 := i_lo x_12
    have ux_12 := i_hi x_12
    refine lv_icmp_ge (tgt := 171) hx hb dX12_waysWith_32 (by decide) (fun c_13 => ?_) (fun c_13 => ?_)
    · skip
      have uc_13 := j_le c_13
      refine lv_iload hx hb dX12_waysWith_171 (lv_at hl 2 rfl) ?_
      exact W.iret (v := i_6) hx hb hr (fun t ht hW => ⟨⟨i_6, (σ_8, ρ_9), rfl, ⟨hB.2.1, hB.2.2, trivial⟩, (show TP D cA L T r σ_8 ρ_9 t.heap from by rw [ht]; exact hB.1)⟩, hS.F ht⟩) hS.2.2 dX12_waysWith_173
    · skip
      have uc_13 := j_nle c_13
      refine lv_iconst (v := 0) hx hb dX12_waysWith_35 (by decide) ?_
      refine lv_istore (lv' := [(7, .int 0), (6, .int i_7), (5, .int x_5), (4, .int i_6), (0, .ref h0), (1, .int p1), (2, .int p2), (3, .int p3)]) hx hb dX12_waysWith_36 hl (by decide) rfl (fun ls hl => ?_)
      refine w_loop (α := Int32 × Sg × Lg) (fun (i_14, σ_15, ρ_16) H locs ls => 0 ≤ i_14.toInt ∧ i_14.toInt ≤ 5 ∧ σ_15 b_1 2 = x_2 ∧ TS D cA L T r ry [(73, 1000)] σ σ_15 ρ_16 H ∧ va_S (dm L s.heap.size) s.heap H locs ∧ lv_has ls 11 [(7, .int i_14), (6, .int i_7), (5, .int x_5), (4, .int i_6), (0, .ref h0), (1, .int p1), (2, .int p2), (3, .int p3)]) (fun (i_14, σ_15, ρ_16) => (5 - i_14.toInt).toNat) ?_ ⟨0, σ_8, ρ_9⟩ ⟨(by decide), (by decide), k_11, hB, hS, lv_sub hl [0, 1, 2, 3, 4, 5, 6, 7] rfl⟩
      rintro ⟨i_14, σ_15, ρ_16⟩ H locs ls ⟨li_14, ui_14, k_18, hB, hS, hl⟩ ih_17
      refine lv_iload hx hb dX12_waysWith_38 (lv_at hl 0 rfl) ?_
      refine lv_iconst (v := 5) hx hb dX12_waysWith_40 (by decide) ?_
      refine lv_icmp_ge (tgt := 64) hx hb dX12_waysWith_41 (by decide) (fun c_19 => ?_) (fun c_19 => ?_)
      · skip
        have uc_19 := i_ge (n := 5) (by decide) c_19
        refine lv_iconst (v := 0) hx hb dX12_waysWith_64 (by decide) ?_
        refine lv_istore (lv' := [(7, .int 0), (6, .int i_7), (5, .int x_5), (4, .int i_6), (0, .ref h0), (1, .int p1), (2, .int p2), (3, .int p3)]) hx hb dX12_waysWith_65 hl (by decide) rfl (fun ls hl => ?_)
        refine lv_iconst (v := 1) hx hb dX12_waysWith_67 (by decide) ?_
        refine lv_istore (lv' := [(8, .int 1), (7, .int 0), (6, .int i_7), (5, .int x_5), (4, .int i_6), (0, .ref h0), (1, .int p1), (2, .int p2), (3, .int p3)]) hx hb dX12_waysWith_68 hl (by decide) rfl (fun ls hl => ?_)
        refine lv_iload_n hx hb dX12_waysWith_70 rfl (lv_at hl 6 rfl) ?_
        refine lv_istore (lv' := [(9, .int p1), (8, .int 1), (7, .int 0), (6, .int i_7), (5, .int x_5), (4, .int i_6), (0, .ref h0), (1, .int p1), (2, .int p2), (3, .int p3)]) hx hb dX12_waysWith_71 hl (by decide) rfl (fun ls hl => ?_)
        refine w_loop (α := Int32 × Int32 × Int32 × Sg × Lg) (fun (i_20, i_21, i_22, σ_23, ρ_24) H locs ls => 0 ≤ i_22.toInt ∧ i_22.toInt ≤ 8 ∧ σ_23 b_1 2 = x_2 ∧ TS D cA L T r ry [(73, 1000)] σ σ_23 ρ_24 H ∧ va_S (dm L s.heap.size) s.heap H locs ∧ lv_has ls 11 [(9, .int i_22), (8, .int i_21), (7, .int i_20), (6, .int i_7), (5, .int x_5), (4, .int i_6), (0, .ref h0), (1, .int p1), (2, .int p2), (3, .int p3)]) (fun (i_20, i_21, i_22, σ_23, ρ_24) => (8 - i_22.toInt).toNat) ?_ ⟨0, 1, p1, σ_15, ρ_16⟩ ⟨(by omega), (by omega), k_18, hB, hS, lv_sub hl [0, 1, 2, 3, 4, 5, 6, 7, 8, 9] rfl⟩
        rintro ⟨i_20, i_21, i_22, σ_23, ρ_24⟩ H locs ls ⟨li_22, ui_22, k_26, hB, hS, hl⟩ ih_25
        refine lv_iload hx hb dX12_waysWith_73 (lv_at hl 0 rfl) ?_
        refine lv_aload_n hx hb dX12_waysWith_75 rfl (lv_at hl 6 rfl) ?_
        refine t_gk hx hb hts hown hK hB mh0 th0 fq_12_20 hb_1 mw_5_236 dX12_waysWith_76 ?_
        refine lv_iconst (v := 2) hx hb dX12_waysWith_79 (by decide) ?_
        refine t_aj hx hb hK hB mb_1 tb_1 ai_70 (i_in (by decide) (by decide)) dX12_waysWith_80 (fun x_27 ex_27 lx_27 ux_27 => ?_)
        have qx_27 : x_27 = x_2 := ex_27.trans k_26
        have qx_27 := qx_27.symm
        subst qx_27
        refine lv_icmp_ge (tgt := 150) hx hb dX12_waysWith_81 (by decide) (fun c_28 => ?_) (fun c_28 => ?_)
        · skip
          have uc_28 := j_le c_28
          refine lv_iload hx hb dX12_waysWith_150 (lv_at hl 5 rfl) ?_
          refine lv_iload hx hb dX12_waysWith_152 (lv_at hl 1 rfl) ?_
          refine lv_if_eq (tgt := 161) hx hb dX12_waysWith_154 (by decide) (fun c_29 => ?_) (fun c_29 => ?_)
          · skip
            have uc_29 := i_eq (n := 0) (by decide) c_29
            refine lv_iconst (v := 0) hx hb dX12_waysWith_161 (by decide) ?_
            refine lv_iadd hx hb dX12_waysWith_162 ?_
            refine lv_topi (fun x_30 ex_30 => ?_)
            try have vx_30 := b_add (rfl : i_6.toInt = _) (by decide : (0 : Int32).toInt = 0) ex_30 (by omega) (by omega)
            refine lv_istore (lv' := [(4, .int x_30), (9, .int i_22), (8, .int i_21), (7, .int i_20), (6, .int i_7), (5, .int x_5), (0, .ref h0), (1, .int p1), (2, .int p2), (3, .int p3)]) hx hb dX12_waysWith_163 hl (by decide) rfl (fun ls hl => ?_)
            obtain ⟨x_31, ex_31⟩ : ∃ y : Int32, y = i_7 + 1 := ⟨_, rfl⟩
            try have vx_31 := b_add (rfl : i_7.toInt = _) (by decide : (1 : Int32).toInt = 1) ex_31 (by omega) (by omega)
            refine lv_iinc (v := x_31) (lv' := [(6, .int x_31), (4, .int x_30), (9, .int i_22), (8, .int i_21), (7, .int i_20), (5, .int x_5), (0, .ref h0), (1, .int p1), (2, .int p2), (3, .int p3)]) hx hb dX12_waysWith_165 hl (k := 4) rfl (by rw [ex_31]; rfl) (by decide) rfl (fun ls hl => ?_)
            refine lv_goto (tgt := 26) hx hb dX12_waysWith_168 (by decide) ?_
            exact ih_10 ⟨x_30, x_31, σ_23, ρ_24⟩ _ _ _ ⟨(by omega), (by omega), k_26, hB, hS, lv_sub hl [0, 5, 1, 6, 7, 8, 9] rfl⟩ (by show (2147483647 - x_31.toInt).toNat < (2147483647 - i_7.toInt).toNat; omega)
          · skip
            have uc_29 := i_ne (n := 0) (by decide) c_29
            refine lv_iconst (v := 1) hx hb dX12_waysWith_157 (by decide) ?_
            refine lv_goto (tgt := 162) hx hb dX12_waysWith_158 (by decide) ?_
            refine lv_iadd hx hb dX12_waysWith_162 ?_
            refine lv_topi (fun x_32 ex_32 => ?_)
            try have vx_32 := b_add (rfl : i_6.toInt = _) (by decide : (1 : Int32).toInt = 1) ex_32 (by omega) (by omega)
            refine lv_istore (lv' := [(4, .int x_32), (9, .int i_22), (8, .int i_21), (7, .int i_20), (6, .int i_7), (5, .int x_5), (0, .ref h0), (1, .int p1), (2, .int p2), (3, .int p3)]) hx hb dX12_waysWith_163 hl (by decide) rfl (fun ls hl => ?_)
            obtain ⟨x_33, ex_33⟩ : ∃ y : Int32, y = i_7 + 1 := ⟨_, rfl⟩
            try have vx_33 := b_add (rfl : i_7.toInt = _) (by decide : (1 : Int32).toInt = 1) ex_33 (by omega) (by omega)
            refine lv_iinc (v := x_33) (lv' := [(6, .int x_33), (4, .int x_32), (9, .int i_22), (8, .int i_21), (7, .int i_20), (5, .int x_5), (0, .ref h0), (1, .int p1), (2, .int p2), (3, .int p3)]) hx hb dX12_waysWith_165 hl (k := 4) rfl (by rw [ex_33]; rfl) (by decide) rfl (fun ls hl => ?_)
            refine lv_goto (tgt := 26) hx hb dX12_waysWith_168 (by decide) ?_
            exact ih_10 ⟨x_32, x_33, σ_23, ρ_24⟩ _ _ _ ⟨(by omega), (by omega), k_26, hB, hS, lv_sub hl [0, 5, 1, 6, 7, 8, 9] rfl⟩ (by show (2147483647 - x_33.toInt).toNat < (2147483647 - i_7.toInt).toNat; omega)
        · skip
          have uc_28 := j_nle c_28
          refine lv_iload hx hb dX12_waysWith_84 (lv_at hl 0 rfl) ?_
          refine lv_iload_n hx hb dX12_waysWith_86 rfl (lv_at hl 8 rfl) ?_
          refine lv_icmp_ne (tgt := 93) hx hb dX12_waysWith_87 (by decide) (fun c_34 => ?_) (fun c_34 => ?_)
          · skip
            have uc_34 := j_ne c_34
            refine lv_aload_n hx hb dX12_waysWith_93 rfl (lv_at hl 6 rfl) ?_
            refine lv_iload hx hb dX12_waysWith_94 (lv_at hl 0 rfl) ?_
            refine lv_iload hx hb dX12_waysWith_96 (lv_at hl 3 rfl) ?_
            refine lv_iload hx hb dX12_waysWith_98 (lv_at hl 2 rfl) ?_
            refine lv_ishr hx hb dX12_waysWith_100 ?_
            refine lv_topi (fun x_35 ex_35 => ?_)
            refine lv_iconst (v := 1) hx hb dX12_waysWith_101 (by decide) ?_
            refine lv_iand hx hb dX12_waysWith_102 ?_
            refine lv_topi (fun x_36 ex_36 => ?_)
            obtain ⟨lx_36, ux_36⟩ := and_m 1 (n := 1) (by decide) (by decide) (by decide) ex_36
            refine t_ci (va_runV (As := [.int i_22, .int x_36]) (rest := []) ⟨hx, hb, hml, hown, hts⟩ (cy_X12_sortOf l D cA L T r hG hLA.1 σ_23 ρ_24 hB.2.1 _ h0 mh0 th0 i_22 x_36 (by first | omega | decide) (by first | omega | decide) (by first | omega | decide) (by first | omega | decide)) (cV hts mv_X12_sortOf mw_7_94 rfl rfl ⟨Nat.le_of_ble_eq_true rfl, Nat.le_of_ble_eq_true rfl⟩) (pV hB.1 hK hN mh0 th0 (show shp cA 12 _ _ _ = .inr (12, Fs12 _ _ _) from rfl) rfl) rfl rfl hl.1 rfl (lv_room (Nat.le_of_ble_eq_true rfl)) dX12_waysWith_103 ⟨Nat.le_of_ble_eq_true rfl, Nat.le_of_ble_eq_true rfl⟩) hLA hA hB hS (by decide) (fun x_39 σ_37 ρ_38 H locs hB fσ_37 pσ_37 hS => ?_)
            have qσ_37 := FR.nil fσ_37
            subst qσ_37
            obtain ⟨lx_39, ux_39⟩ := pσ_37
            refine lv_istore (lv' := [(10, .int x_39), (9, .int i_22), (8, .int i_21), (7, .int i_20), (6, .int i_7), (5, .int x_5), (4, .int i_6), (0, .ref h0), (1, .int p1), (2, .int p2), (3, .int p3)]) hx hb dX12_waysWith_106 hl (by decide) rfl (fun ls hl => ?_)
            refine lv_aload_n hx hb dX12_waysWith_108 rfl (lv_at hl 7 rfl) ?_
            refine t_gr hx hb hts hown hK hG hB mh0 th0 fq_12_26 rfl mw_6_2 dX12_waysWith_109 (fun b_40 hb_40 mb_40 tb_40 => ?_)
            refine lv_iload hx hb dX12_waysWith_112 (lv_at hl 0 rfl) ?_
            refine lv_dup2_11 hx hb dX12_waysWith_114 rfl rfl ?_
            refine t_ai hx hb hK hB mb_40 tb_40 ai_73 (fun _ => rfl) (i_in (by omega) (by omega)) dX12_waysWith_115 (fun x_41 ex_41 lx_41 ux_41 => ?_)
            have cx_41 := congrArg Int32.toInt ex_41
            refine lv_iload_n hx hb dX12_waysWith_116 rfl (lv_at hl 10 rfl) ?_
            refine lv_isub hx hb dX12_waysWith_117 ?_
            refine lv_topi (fun x_42 ex_42 => ?_)
            try have vx_42 := b_sub (rfl : x_41.toInt = _) (rfl : p3.toInt = _) ex_42 (by omega) (by omega)
            refine t_si hx hb hK hLA hB hS mb_40 tb_40 ai_73 (i_in (by omega) (by omega)) (i_lo _) (i_hi _) (Or.inr (by decide)) dX12_waysWith_118 (fun H locs σ_43 eσ_43 hB hS => ?_)
            have k_44 : σ_43 b_40 x_39.toNatClampNeg = x_42 := by rw [eσ_43]; exact up2_same _ _ _ _
            refine lv_iload hx hb dX12_waysWith_119 (lv_at hl 2 rfl) ?_
            refine lv_if_eq (tgt := 138) hx hb dX12_waysWith_121 (by decide) (fun c_45 => ?_) (fun c_45 => ?_)
            · skip
              have uc_45 := i_eq (n := 0) (by decide) c_45
              refine lv_iconst (v := 0) hx hb dX12_waysWith_138 (by decide) ?_
              refine lv_istore (lv' := [(8, .int 0), (10, .int x_39), (9, .int i_22), (7, .int i_20), (6, .int i_7), (5, .int x_5), (4, .int i_6), (0, .ref h0), (1, .int p1), (2, .int p2), (3, .int p3)]) hx hb dX12_waysWith_139 hl (by decide) rfl (fun ls hl => ?_)
              obtain ⟨x_46, ex_46⟩ : ∃ y : Int32, y = i_20 + 1 := ⟨_, rfl⟩
              try have vx_46 := b_add (rfl : i_20.toInt = _) (by decide : (1 : Int32).toInt = 1) ex_46 (by omega) (by omega)
              refine lv_iinc (v := x_46) (lv' := [(7, .int x_46), (8, .int 0), (10, .int x_39), (9, .int i_22), (6, .int i_7), (5, .int x_5), (4, .int i_6), (0, .ref h0), (1, .int p1), (2, .int p2), (3, .int p3)]) hx hb dX12_waysWith_141 hl (k := 3) rfl (by rw [ex_46]; rfl) (by decide) rfl (fun ls hl => ?_)
              obtain ⟨x_47, ex_47⟩ : ∃ y : Int32, y = i_22 + 1 := ⟨_, rfl⟩
              have vx_47 := b_add (rfl : i_22.toInt = _) (by decide : (1 : Int32).toInt = 1) ex_47 (by omega) (by omega)
              refine lv_iinc (v := x_47) (lv' := [(9, .int x_47), (7, .int x_46), (8, .int 0), (10, .int x_39), (6, .int i_7), (5, .int x_5), (4, .int i_6), (0, .ref h0), (1, .int p1), (2, .int p2), (3, .int p3)]) hx hb dX12_waysWith_144 hl (k := 3) rfl (by rw [ex_47]; rfl) (by decide) rfl (fun ls hl => ?_)
              refine lv_goto (tgt := 73) hx hb dX12_waysWith_147 (by decide) ?_
              have k_48 : σ_43 b_1 2 = x_2 := by rw [eσ_43, up2_nea _ _ (tg_ne tb_1 tb_40 (by decide))]; exact k_26
              exact ih_25 ⟨x_46, 0, x_47, σ_43, ρ_38⟩ _ _ _ ⟨(by omega), (by omega), k_48, hB, hS, lv_sub hl [0, 2, 1, 4, 5, 6, 7, 8, 9, 10] rfl⟩ (by show (8 - x_47.toInt).toNat < (8 - i_22.toInt).toNat; omega)
            · skip
              have uc_45 := i_ne (n := 0) (by decide) c_45
              refine lv_aload_n hx hb dX12_waysWith_124 rfl (lv_at hl 7 rfl) ?_
              refine t_gk hx hb hts hown hK hB mh0 th0 fq_12_26 hb_40 mw_6_2 dX12_waysWith_125 ?_
              refine lv_iload hx hb dX12_waysWith_128 (lv_at hl 0 rfl) ?_
              refine t_ai hx hb hK hB mb_40 tb_40 ai_73 (fun _ => rfl) (i_in (by omega) (by omega)) dX12_waysWith_130 (fun x_49 ex_49 lx_49 ux_49 => ?_)
              have qx_49 : x_49 = x_42 := ex_49.trans k_44
              have qx_49 := qx_49.symm
              subst qx_49
              refine lv_if_lt (tgt := 138) hx hb dX12_waysWith_131 (by decide) (fun c_50 => ?_) (fun c_50 => ?_)
              · skip
                have uc_50 := i_lt (n := 0) (by decide) c_50
                refine lv_iconst (v := 0) hx hb dX12_waysWith_138 (by decide) ?_
                refine lv_istore (lv' := [(8, .int 0), (10, .int x_39), (9, .int i_22), (7, .int i_20), (6, .int i_7), (5, .int x_5), (4, .int i_6), (0, .ref h0), (1, .int p1), (2, .int p2), (3, .int p3)]) hx hb dX12_waysWith_139 hl (by decide) rfl (fun ls hl => ?_)
                obtain ⟨x_51, ex_51⟩ : ∃ y : Int32, y = i_20 + 1 := ⟨_, rfl⟩
                try have vx_51 := b_add (rfl : i_20.toInt = _) (by decide : (1 : Int32).toInt = 1) ex_51 (by omega) (by omega)
                refine lv_iinc (v := x_51) (lv' := [(7, .int x_51), (8, .int 0), (10, .int x_39), (9, .int i_22), (6, .int i_7), (5, .int x_5), (4, .int i_6), (0, .ref h0), (1, .int p1), (2, .int p2), (3, .int p3)]) hx hb dX12_waysWith_141 hl (k := 3) rfl (by rw [ex_51]; rfl) (by decide) rfl (fun ls hl => ?_)
                obtain ⟨x_52, ex_52⟩ : ∃ y : Int32, y = i_22 + 1 := ⟨_, rfl⟩
                have vx_52 := b_add (rfl : i_22.toInt = _) (by decide : (1 : Int32).toInt = 1) ex_52 (by omega) (by omega)
                refine lv_iinc (v := x_52) (lv' := [(9, .int x_52), (7, .int x_51), (8, .int 0), (10, .int x_39), (6, .int i_7), (5, .int x_5), (4, .int i_6), (0, .ref h0), (1, .int p1), (2, .int p2), (3, .int p3)]) hx hb dX12_waysWith_144 hl (k := 3) rfl (by rw [ex_52]; rfl) (by decide) rfl (fun ls hl => ?_)
                refine lv_goto (tgt := 73) hx hb dX12_waysWith_147 (by decide) ?_
                have k_53 : σ_43 b_1 2 = x_2 := by rw [eσ_43, up2_nea _ _ (tg_ne tb_1 tb_40 (by decide))]; exact k_26
                exact ih_25 ⟨x_51, 0, x_52, σ_43, ρ_38⟩ _ _ _ ⟨(by omega), (by omega), k_53, hB, hS, lv_sub hl [0, 2, 1, 4, 5, 6, 7, 8, 9, 10] rfl⟩ (by show (8 - x_52.toInt).toNat < (8 - i_22.toInt).toNat; omega)
              · skip
                have uc_50 := i_nlt (n := 0) (by decide) c_50
                refine lv_iconst (v := 1) hx hb dX12_waysWith_134 (by decide) ?_
                refine lv_goto (tgt := 139) hx hb dX12_waysWith_135 (by decide) ?_
                refine lv_istore (lv' := [(8, .int 1), (10, .int x_39), (9, .int i_22), (7, .int i_20), (6, .int i_7), (5, .int x_5), (4, .int i_6), (0, .ref h0), (1, .int p1), (2, .int p2), (3, .int p3)]) hx hb dX12_waysWith_139 hl (by decide) rfl (fun ls hl => ?_)
                obtain ⟨x_54, ex_54⟩ : ∃ y : Int32, y = i_20 + 1 := ⟨_, rfl⟩
                try have vx_54 := b_add (rfl : i_20.toInt = _) (by decide : (1 : Int32).toInt = 1) ex_54 (by omega) (by omega)
                refine lv_iinc (v := x_54) (lv' := [(7, .int x_54), (8, .int 1), (10, .int x_39), (9, .int i_22), (6, .int i_7), (5, .int x_5), (4, .int i_6), (0, .ref h0), (1, .int p1), (2, .int p2), (3, .int p3)]) hx hb dX12_waysWith_141 hl (k := 3) rfl (by rw [ex_54]; rfl) (by decide) rfl (fun ls hl => ?_)
                obtain ⟨x_55, ex_55⟩ : ∃ y : Int32, y = i_22 + 1 := ⟨_, rfl⟩
                have vx_55 := b_add (rfl : i_22.toInt = _) (by decide : (1 : Int32).toInt = 1) ex_55 (by omega) (by omega)
                refine lv_iinc (v := x_55) (lv' := [(9, .int x_55), (7, .int x_54), (8, .int 1), (10, .int x_39), (6, .int i_7), (5, .int x_5), (4, .int i_6), (0, .ref h0), (1, .int p1), (2, .int p2), (3, .int p3)]) hx hb dX12_waysWith_144 hl (k := 3) rfl (by rw [ex_55]; rfl) (by decide) rfl (fun ls hl => ?_)
                refine lv_goto (tgt := 73) hx hb dX12_waysWith_147 (by decide) ?_
                have k_56 : σ_43 b_1 2 = x_2 := by rw [eσ_43, up2_nea _ _ (tg_ne tb_1 tb_40 (by decide))]; exact k_26
                exact ih_25 ⟨x_54, 1, x_55, σ_43, ρ_38⟩ _ _ _ ⟨(by omega), (by omega), k_56, hB, hS, lv_sub hl [0, 2, 1, 4, 5, 6, 7, 8, 9, 10] rfl⟩ (by show (8 - x_55.toInt).toNat < (8 - i_22.toInt).toNat; omega)
          · skip
            have uc_34 := j_eq c_34
            refine lv_goto (tgt := 144) hx hb dX12_waysWith_90 (by decide) ?_
            obtain ⟨x_57, ex_57⟩ : ∃ y : Int32, y = i_22 + 1 := ⟨_, rfl⟩
            have vx_57 := b_add (rfl : i_22.toInt = _) (by decide : (1 : Int32).toInt = 1) ex_57 (by omega) (by omega)
            refine lv_iinc (v := x_57) (lv' := [(9, .int x_57), (8, .int i_21), (7, .int i_20), (6, .int i_7), (5, .int x_5), (4, .int i_6), (0, .ref h0), (1, .int p1), (2, .int p2), (3, .int p3)]) hx hb dX12_waysWith_144 hl (k := 0) rfl (by rw [ex_57]; rfl) (by decide) rfl (fun ls hl => ?_)
            refine lv_goto (tgt := 73) hx hb dX12_waysWith_147 (by decide) ?_
            exact ih_25 ⟨i_20, i_21, x_57, σ_23, ρ_24⟩ _ _ _ ⟨(by omega), (by omega), k_26, hB, hS, lv_sub hl [0, 1, 2, 3, 4, 5, 6, 7, 8, 9] rfl⟩ (by show (8 - x_57.toInt).toNat < (8 - i_22.toInt).toNat; omega)
      · skip
        have uc_19 := i_nge (n := 5) (by decide) c_19
        refine lv_aload_n hx hb dX12_waysWith_44 rfl (lv_at hl 4 rfl) ?_
        refine t_gr hx hb hts hown hK hG hB mh0 th0 fq_12_26 rfl mw_6_2 dX12_waysWith_45 (fun b_58 hb_58 mb_58 tb_58 => ?_)
        refine lv_iload hx hb dX12_waysWith_48 (lv_at hl 0 rfl) ?_
        refine lv_aload_n hx hb dX12_waysWith_50 rfl (lv_at hl 4 rfl) ?_
        refine t_gr hx hb hts hown hK hG hB mh0 th0 fq_12_27 rfl mw_6_3 dX12_waysWith_51 (fun b_59 hb_59 mb_59 tb_59 => ?_)
        refine lv_iload hx hb dX12_waysWith_54 (lv_at hl 0 rfl) ?_
        refine t_ai hx hb hK hB mb_59 tb_59 ai_74 (fun _ => rfl) (i_in (by omega) (by omega)) dX12_waysWith_56 (fun x_60 ex_60 lx_60 ux_60 => ?_)
        have cx_60 := congrArg Int32.toInt ex_60
        refine t_si hx hb hK hLA hB hS mb_58 tb_58 ai_73 (i_in (by omega) (by omega)) (i_lo _) (i_hi _) (Or.inr (by decide)) dX12_waysWith_57 (fun H locs σ_61 eσ_61 hB hS => ?_)
        have k_62 : σ_61 b_58 i_14.toNatClampNeg = x_60 := by rw [eσ_61]; exact up2_same _ _ _ _
        obtain ⟨x_63, ex_63⟩ : ∃ y : Int32, y = i_14 + 1 := ⟨_, rfl⟩
        have vx_63 := b_add (rfl : i_14.toInt = _) (by decide : (1 : Int32).toInt = 1) ex_63 (by omega) (by omega)
        refine lv_iinc (v := x_63) (lv' := [(7, .int x_63), (6, .int i_7), (5, .int x_5), (4, .int i_6), (0, .ref h0), (1, .int p1), (2, .int p2), (3, .int p3)]) hx hb dX12_waysWith_58 hl (k := 0) rfl (by rw [ex_63]; rfl) (by decide) rfl (fun ls hl => ?_)
        refine lv_goto (tgt := 38) hx hb dX12_waysWith_61 (by decide) ?_
        have k_64 : σ_61 b_1 2 = x_2 := by rw [eσ_61, up2_nea _ _ (tg_ne tb_1 tb_58 (by decide))]; exact k_18
        exact ih_17 ⟨x_63, σ_61, ρ_16⟩ _ _ _ ⟨(by omega), (by omega), k_64, hB, hS, lv_sub hl [0, 1, 2, 3, 4, 5, 6, 7] rfl⟩ (by show (5 - x_63.toInt).toNat < (5 - i_14.toInt).toNat; omega)
  · skip
    have uc_4 := i_nge (n := 0) (by decide) c_4
    refine lv_iconst (v := 0) hx hb dX12_waysWith_15 (by decide) ?_
    refine lv_goto (tgt := 20) hx hb dX12_waysWith_16 (by decide) ?_
    refine lv_isub hx hb dX12_waysWith_20 ?_
    refine lv_topi (fun x_65 ex_65 => ?_)
    have vx_65 := b_sub (rfl : x_3.toInt = _) (by decide : (0 : Int32).toInt = 0) ex_65 (by omega) (by omega)
    refine lv_istore (lv' := [(5, .int x_65), (4, .int 0), (0, .ref h0), (1, .int p1), (2, .int p2), (3, .int p3)]) hx hb dX12_waysWith_21 hl (by decide) rfl (fun ls hl => ?_)
    refine lv_iconst (v := 0) hx hb dX12_waysWith_23 (by decide) ?_
    refine lv_istore (lv' := [(6, .int 0), (5, .int x_65), (4, .int 0), (0, .ref h0), (1, .int p1), (2, .int p2), (3, .int p3)]) hx hb dX12_waysWith_24 hl (by decide) rfl (fun ls hl => ?_)
    refine w_loop (α := Int32 × Int32 × Sg × Lg) (fun (i_66, i_67, σ_68, ρ_69) H locs ls => 0 ≤ i_67.toInt ∧ i_67.toInt ≤ 2147483647 ∧ σ_68 b_1 2 = x_2 ∧ TS D cA L T r ry [(73, 1000)] σ σ_68 ρ_69 H ∧ va_S (dm L s.heap.size) s.heap H locs ∧ lv_has ls 11 [(6, .int i_67), (5, .int x_65), (4, .int i_66), (0, .ref h0), (1, .int p1), (2, .int p2), (3, .int p3)]) (fun (i_66, i_67, σ_68, ρ_69) => (2147483647 - i_67.toInt).toNat) ?_ ⟨0, 0, σ, ρ⟩ ⟨(by decide), (by decide), ex_2.symm, hB, hS, lv_sub hl [0, 1, 2, 3, 4, 5, 6] rfl⟩
    rintro ⟨i_66, i_67, σ_68, ρ_69⟩ H locs ls ⟨li_67, ui_67, k_71, hB, hS, hl⟩ ih_70
    refine lv_iload hx hb dX12_waysWith_26 (lv_at hl 0 rfl) ?_
    refine lv_iconst (v := 1) hx hb dX12_waysWith_28 (by decide) ?_
    refine lv_iload hx hb dX12_waysWith_29 (lv_at hl 1 rfl) ?_
    refine lv_ishl hx hb dX12_waysWith_31 ?_
    refine lv_topi (fun x_72 ex_72 => ?_)
    have lx_72 := i_lo x_72
    have ux_72 := i_hi x_72
    refine lv_icmp_ge (tgt := 171) hx hb dX12_waysWith_32 (by decide) (fun c_73 => ?_) (fun c_73 => ?_)
    · skip
      have uc_73 := j_le c_73
      refine lv_iload hx hb dX12_waysWith_171 (lv_at hl 2 rfl) ?_
      exact W.iret (v := i_66) hx hb hr (fun t ht hW => ⟨⟨i_66, (σ_68, ρ_69), rfl, ⟨hB.2.1, hB.2.2, trivial⟩, (show TP D cA L T r σ_68 ρ_69 t.heap from by rw [ht]; exact hB.1)⟩, hS.F ht⟩) hS.2.2 dX12_waysWith_173
    · skip
      have uc_73 := j_nle c_73
      refine lv_iconst (v := 0) hx hb dX12_waysWith_35 (by decide) ?_
      refine lv_istore (lv' := [(7, .int 0), (6, .int i_67), (5, .int x_65), (4, .int i_66), (0, .ref h0), (1, .int p1), (2, .int p2), (3, .int p3)]) hx hb dX12_waysWith_36 hl (by decide) rfl (fun ls hl => ?_)
      refine w_loop (α := Int32 × Sg × Lg) (fun (i_74, σ_75, ρ_76) H locs ls => 0 ≤ i_74.toInt ∧ i_74.toInt ≤ 5 ∧ σ_75 b_1 2 = x_2 ∧ TS D cA L T r ry [(73, 1000)] σ σ_75 ρ_76 H ∧ va_S (dm L s.heap.size) s.heap H locs ∧ lv_has ls 11 [(7, .int i_74), (6, .int i_67), (5, .int x_65), (4, .int i_66), (0, .ref h0), (1, .int p1), (2, .int p2), (3, .int p3)]) (fun (i_74, σ_75, ρ_76) => (5 - i_74.toInt).toNat) ?_ ⟨0, σ_68, ρ_69⟩ ⟨(by decide), (by decide), k_71, hB, hS, lv_sub hl [0, 1, 2, 3, 4, 5, 6, 7] rfl⟩
      rintro ⟨i_74, σ_75, ρ_76⟩ H locs ls ⟨li_74, ui_74, k_78, hB, hS, hl⟩ ih_77
      refine lv_iload hx hb dX12_waysWith_38 (lv_at hl 0 rfl) ?_
      refine lv_iconst (v := 5) hx hb dX12_waysWith_40 (by decide) ?_
      refine lv_icmp_ge (tgt := 64) hx hb dX12_waysWith_41 (by decide) (fun c_79 => ?_) (fun c_79 => ?_)
      · skip
        have uc_79 := i_ge (n := 5) (by decide) c_79
        refine lv_iconst (v := 0) hx hb dX12_waysWith_64 (by decide) ?_
        refine lv_istore (lv' := [(7, .int 0), (6, .int i_67), (5, .int x_65), (4, .int i_66), (0, .ref h0), (1, .int p1), (2, .int p2), (3, .int p3)]) hx hb dX12_waysWith_65 hl (by decide) rfl (fun ls hl => ?_)
        refine lv_iconst (v := 1) hx hb dX12_waysWith_67 (by decide) ?_
        refine lv_istore (lv' := [(8, .int 1), (7, .int 0), (6, .int i_67), (5, .int x_65), (4, .int i_66), (0, .ref h0), (1, .int p1), (2, .int p2), (3, .int p3)]) hx hb dX12_waysWith_68 hl (by decide) rfl (fun ls hl => ?_)
        refine lv_iload_n hx hb dX12_waysWith_70 rfl (lv_at hl 6 rfl) ?_
        refine lv_istore (lv' := [(9, .int p1), (8, .int 1), (7, .int 0), (6, .int i_67), (5, .int x_65), (4, .int i_66), (0, .ref h0), (1, .int p1), (2, .int p2), (3, .int p3)]) hx hb dX12_waysWith_71 hl (by decide) rfl (fun ls hl => ?_)
        refine w_loop (α := Int32 × Int32 × Int32 × Sg × Lg) (fun (i_80, i_81, i_82, σ_83, ρ_84) H locs ls => 0 ≤ i_82.toInt ∧ i_82.toInt ≤ 8 ∧ σ_83 b_1 2 = x_2 ∧ TS D cA L T r ry [(73, 1000)] σ σ_83 ρ_84 H ∧ va_S (dm L s.heap.size) s.heap H locs ∧ lv_has ls 11 [(9, .int i_82), (8, .int i_81), (7, .int i_80), (6, .int i_67), (5, .int x_65), (4, .int i_66), (0, .ref h0), (1, .int p1), (2, .int p2), (3, .int p3)]) (fun (i_80, i_81, i_82, σ_83, ρ_84) => (8 - i_82.toInt).toNat) ?_ ⟨0, 1, p1, σ_75, ρ_76⟩ ⟨(by omega), (by omega), k_78, hB, hS, lv_sub hl [0, 1, 2, 3, 4, 5, 6, 7, 8, 9] rfl⟩
        rintro ⟨i_80, i_81, i_82, σ_83, ρ_84⟩ H locs ls ⟨li_82, ui_82, k_86, hB, hS, hl⟩ ih_85
        refine lv_iload hx hb dX12_waysWith_73 (lv_at hl 0 rfl) ?_
        refine lv_aload_n hx hb dX12_waysWith_75 rfl (lv_at hl 6 rfl) ?_
        refine t_gk hx hb hts hown hK hB mh0 th0 fq_12_20 hb_1 mw_5_236 dX12_waysWith_76 ?_
        refine lv_iconst (v := 2) hx hb dX12_waysWith_79 (by decide) ?_
        refine t_aj hx hb hK hB mb_1 tb_1 ai_70 (i_in (by decide) (by decide)) dX12_waysWith_80 (fun x_87 ex_87 lx_87 ux_87 => ?_)
        have qx_87 : x_87 = x_2 := ex_87.trans k_86
        have qx_87 := qx_87.symm
        subst qx_87
        refine lv_icmp_ge (tgt := 150) hx hb dX12_waysWith_81 (by decide) (fun c_88 => ?_) (fun c_88 => ?_)
        · skip
          have uc_88 := j_le c_88
          refine lv_iload hx hb dX12_waysWith_150 (lv_at hl 5 rfl) ?_
          refine lv_iload hx hb dX12_waysWith_152 (lv_at hl 1 rfl) ?_
          refine lv_if_eq (tgt := 161) hx hb dX12_waysWith_154 (by decide) (fun c_89 => ?_) (fun c_89 => ?_)
          · skip
            have uc_89 := i_eq (n := 0) (by decide) c_89
            refine lv_iconst (v := 0) hx hb dX12_waysWith_161 (by decide) ?_
            refine lv_iadd hx hb dX12_waysWith_162 ?_
            refine lv_topi (fun x_90 ex_90 => ?_)
            try have vx_90 := b_add (rfl : i_66.toInt = _) (by decide : (0 : Int32).toInt = 0) ex_90 (by omega) (by omega)
            refine lv_istore (lv' := [(4, .int x_90), (9, .int i_82), (8, .int i_81), (7, .int i_80), (6, .int i_67), (5, .int x_65), (0, .ref h0), (1, .int p1), (2, .int p2), (3, .int p3)]) hx hb dX12_waysWith_163 hl (by decide) rfl (fun ls hl => ?_)
            obtain ⟨x_91, ex_91⟩ : ∃ y : Int32, y = i_67 + 1 := ⟨_, rfl⟩
            try have vx_91 := b_add (rfl : i_67.toInt = _) (by decide : (1 : Int32).toInt = 1) ex_91 (by omega) (by omega)
            refine lv_iinc (v := x_91) (lv' := [(6, .int x_91), (4, .int x_90), (9, .int i_82), (8, .int i_81), (7, .int i_80), (5, .int x_65), (0, .ref h0), (1, .int p1), (2, .int p2), (3, .int p3)]) hx hb dX12_waysWith_165 hl (k := 4) rfl (by rw [ex_91]; rfl) (by decide) rfl (fun ls hl => ?_)
            refine lv_goto (tgt := 26) hx hb dX12_waysWith_168 (by decide) ?_
            exact ih_70 ⟨x_90, x_91, σ_83, ρ_84⟩ _ _ _ ⟨(by omega), (by omega), k_86, hB, hS, lv_sub hl [0, 5, 1, 6, 7, 8, 9] rfl⟩ (by show (2147483647 - x_91.toInt).toNat < (2147483647 - i_67.toInt).toNat; omega)
          · skip
            have uc_89 := i_ne (n := 0) (by decide) c_89
            refine lv_iconst (v := 1) hx hb dX12_waysWith_157 (by decide) ?_
            refine lv_goto (tgt := 162) hx hb dX12_waysWith_158 (by decide) ?_
            refine lv_iadd hx hb dX12_waysWith_162 ?_
            refine lv_topi (fun x_92 ex_92 => ?_)
            try have vx_92 := b_add (rfl : i_66.toInt = _) (by decide : (1 : Int32).toInt = 1) ex_92 (by omega) (by omega)
            refine lv_istore (lv' := [(4, .int x_92), (9, .int i_82), (8, .int i_81), (7, .int i_80), (6, .int i_67), (5, .int x_65), (0, .ref h0), (1, .int p1), (2, .int p2), (3, .int p3)]) hx hb dX12_waysWith_163 hl (by decide) rfl (fun ls hl => ?_)
            obtain ⟨x_93, ex_93⟩ : ∃ y : Int32, y = i_67 + 1 := ⟨_, rfl⟩
            try have vx_93 := b_add (rfl : i_67.toInt = _) (by decide : (1 : Int32).toInt = 1) ex_93 (by omega) (by omega)
            refine lv_iinc (v := x_93) (lv' := [(6, .int x_93), (4, .int x_92), (9, .int i_82), (8, .int i_81), (7, .int i_80), (5, .int x_65), (0, .ref h0), (1, .int p1), (2, .int p2), (3, .int p3)]) hx hb dX12_waysWith_165 hl (k := 4) rfl (by rw [ex_93]; rfl) (by decide) rfl (fun ls hl => ?_)
            refine lv_goto (tgt := 26) hx hb dX12_waysWith_168 (by decide) ?_
            exact ih_70 ⟨x_92, x_93, σ_83, ρ_84⟩ _ _ _ ⟨(by omega), (by omega), k_86, hB, hS, lv_sub hl [0, 5, 1, 6, 7, 8, 9] rfl⟩ (by show (2147483647 - x_93.toInt).toNat < (2147483647 - i_67.toInt).toNat; omega)
        · skip
          have uc_88 := j_nle c_88
          refine lv_iload hx hb dX12_waysWith_84 (lv_at hl 0 rfl) ?_
          refine lv_iload_n hx hb dX12_waysWith_86 rfl (lv_at hl 8 rfl) ?_
          refine lv_icmp_ne (tgt := 93) hx hb dX12_waysWith_87 (by decide) (fun c_94 => ?_) (fun c_94 => ?_)
          · skip
            have uc_94 := j_ne c_94
            refine lv_aload_n hx hb dX12_waysWith_93 rfl (lv_at hl 6 rfl) ?_
            refine lv_iload hx hb dX12_waysWith_94 (lv_at hl 0 rfl) ?_
            refine lv_iload hx hb dX12_waysWith_96 (lv_at hl 3 rfl) ?_
            refine lv_iload hx hb dX12_waysWith_98 (lv_at hl 2 rfl) ?_
            refine lv_ishr hx hb dX12_waysWith_100 ?_
            refine lv_topi (fun x_95 ex_95 => ?_)
            refine lv_iconst (v := 1) hx hb dX12_waysWith_101 (by decide) ?_
            refine lv_iand hx hb dX12_waysWith_102 ?_
            refine lv_topi (fun x_96 ex_96 => ?_)
            obtain ⟨lx_96, ux_96⟩ := and_m 1 (n := 1) (by decide) (by decide) (by decide) ex_96
            refine t_ci (va_runV (As := [.int i_82, .int x_96]) (rest := []) ⟨hx, hb, hml, hown, hts⟩ (cy_X12_sortOf l D cA L T r hG hLA.1 σ_83 ρ_84 hB.2.1 _ h0 mh0 th0 i_82 x_96 (by first | omega | decide) (by first | omega | decide) (by first | omega | decide) (by first | omega | decide)) (cV hts mv_X12_sortOf mw_7_94 rfl rfl ⟨Nat.le_of_ble_eq_true rfl, Nat.le_of_ble_eq_true rfl⟩) (pV hB.1 hK hN mh0 th0 (show shp cA 12 _ _ _ = .inr (12, Fs12 _ _ _) from rfl) rfl) rfl rfl hl.1 rfl (lv_room (Nat.le_of_ble_eq_true rfl)) dX12_waysWith_103 ⟨Nat.le_of_ble_eq_true rfl, Nat.le_of_ble_eq_true rfl⟩) hLA hA hB hS (by decide) (fun x_99 σ_97 ρ_98 H locs hB fσ_97 pσ_97 hS => ?_)
            have qσ_97 := FR.nil fσ_97
            subst qσ_97
            obtain ⟨lx_99, ux_99⟩ := pσ_97
            refine lv_istore (lv' := [(10, .int x_99), (9, .int i_82), (8, .int i_81), (7, .int i_80), (6, .int i_67), (5, .int x_65), (4, .int i_66), (0, .ref h0), (1, .int p1), (2, .int p2), (3, .int p3)]) hx hb dX12_waysWith_106 hl (by decide) rfl (fun ls hl => ?_)
            refine lv_aload_n hx hb dX12_waysWith_108 rfl (lv_at hl 7 rfl) ?_
            refine t_gr hx hb hts hown hK hG hB mh0 th0 fq_12_26 rfl mw_6_2 dX12_waysWith_109 (fun b_100 hb_100 mb_100 tb_100 => ?_)
            refine lv_iload hx hb dX12_waysWith_112 (lv_at hl 0 rfl) ?_
            refine lv_dup2_11 hx hb dX12_waysWith_114 rfl rfl ?_
            refine t_ai hx hb hK hB mb_100 tb_100 ai_73 (fun _ => rfl) (i_in (by omega) (by omega)) dX12_waysWith_115 (fun x_101 ex_101 lx_101 ux_101 => ?_)
            have cx_101 := congrArg Int32.toInt ex_101
            refine lv_iload_n hx hb dX12_waysWith_116 rfl (lv_at hl 10 rfl) ?_
            refine lv_isub hx hb dX12_waysWith_117 ?_
            refine lv_topi (fun x_102 ex_102 => ?_)
            try have vx_102 := b_sub (rfl : x_101.toInt = _) (rfl : p3.toInt = _) ex_102 (by omega) (by omega)
            refine t_si hx hb hK hLA hB hS mb_100 tb_100 ai_73 (i_in (by omega) (by omega)) (i_lo _) (i_hi _) (Or.inr (by decide)) dX12_waysWith_118 (fun H locs σ_103 eσ_103 hB hS => ?_)
            have k_104 : σ_103 b_100 x_99.toNatClampNeg = x_102 := by rw [eσ_103]; exact up2_same _ _ _ _
            refine lv_iload hx hb dX12_waysWith_119 (lv_at hl 2 rfl) ?_
            refine lv_if_eq (tgt := 138) hx hb dX12_waysWith_121 (by decide) (fun c_105 => ?_) (fun c_105 => ?_)
            · skip
              have uc_105 := i_eq (n := 0) (by decide) c_105
              refine lv_iconst (v := 0) hx hb dX12_waysWith_138 (by decide) ?_
              refine lv_istore (lv' := [(8, .int 0), (10, .int x_99), (9, .int i_82), (7, .int i_80), (6, .int i_67), (5, .int x_65), (4, .int i_66), (0, .ref h0), (1, .int p1), (2, .int p2), (3, .int p3)]) hx hb dX12_waysWith_139 hl (by decide) rfl (fun ls hl => ?_)
              obtain ⟨x_106, ex_106⟩ : ∃ y : Int32, y = i_80 + 1 := ⟨_, rfl⟩
              try have vx_106 := b_add (rfl : i_80.toInt = _) (by decide : (1 : Int32).toInt = 1) ex_106 (by omega) (by omega)
              refine lv_iinc (v := x_106) (lv' := [(7, .int x_106), (8, .int 0), (10, .int x_99), (9, .int i_82), (6, .int i_67), (5, .int x_65), (4, .int i_66), (0, .ref h0), (1, .int p1), (2, .int p2), (3, .int p3)]) hx hb dX12_waysWith_141 hl (k := 3) rfl (by rw [ex_106]; rfl) (by decide) rfl (fun ls hl => ?_)
              obtain ⟨x_107, ex_107⟩ : ∃ y : Int32, y = i_82 + 1 := ⟨_, rfl⟩
              have vx_107 := b_add (rfl : i_82.toInt = _) (by decide : (1 : Int32).toInt = 1) ex_107 (by omega) (by omega)
              refine lv_iinc (v := x_107) (lv' := [(9, .int x_107), (7, .int x_106), (8, .int 0), (10, .int x_99), (6, .int i_67), (5, .int x_65), (4, .int i_66), (0, .ref h0), (1, .int p1), (2, .int p2), (3, .int p3)]) hx hb dX12_waysWith_144 hl (k := 3) rfl (by rw [ex_107]; rfl) (by decide) rfl (fun ls hl => ?_)
              refine lv_goto (tgt := 73) hx hb dX12_waysWith_147 (by decide) ?_
              have k_108 : σ_103 b_1 2 = x_2 := by rw [eσ_103, up2_nea _ _ (tg_ne tb_1 tb_100 (by decide))]; exact k_86
              exact ih_85 ⟨x_106, 0, x_107, σ_103, ρ_98⟩ _ _ _ ⟨(by omega), (by omega), k_108, hB, hS, lv_sub hl [0, 2, 1, 4, 5, 6, 7, 8, 9, 10] rfl⟩ (by show (8 - x_107.toInt).toNat < (8 - i_82.toInt).toNat; omega)
            · skip
              have uc_105 := i_ne (n := 0) (by decide) c_105
              refine lv_aload_n hx hb dX12_waysWith_124 rfl (lv_at hl 7 rfl) ?_
              refine t_gk hx hb hts hown hK hB mh0 th0 fq_12_26 hb_100 mw_6_2 dX12_waysWith_125 ?_
              refine lv_iload hx hb dX12_waysWith_128 (lv_at hl 0 rfl) ?_
              refine t_ai hx hb hK hB mb_100 tb_100 ai_73 (fun _ => rfl) (i_in (by omega) (by omega)) dX12_waysWith_130 (fun x_109 ex_109 lx_109 ux_109 => ?_)
              have qx_109 : x_109 = x_102 := ex_109.trans k_104
              have qx_109 := qx_109.symm
              subst qx_109
              refine lv_if_lt (tgt := 138) hx hb dX12_waysWith_131 (by decide) (fun c_110 => ?_) (fun c_110 => ?_)
              · skip
                have uc_110 := i_lt (n := 0) (by decide) c_110
                refine lv_iconst (v := 0) hx hb dX12_waysWith_138 (by decide) ?_
                refine lv_istore (lv' := [(8, .int 0), (10, .int x_99), (9, .int i_82), (7, .int i_80), (6, .int i_67), (5, .int x_65), (4, .int i_66), (0, .ref h0), (1, .int p1), (2, .int p2), (3, .int p3)]) hx hb dX12_waysWith_139 hl (by decide) rfl (fun ls hl => ?_)
                obtain ⟨x_111, ex_111⟩ : ∃ y : Int32, y = i_80 + 1 := ⟨_, rfl⟩
                try have vx_111 := b_add (rfl : i_80.toInt = _) (by decide : (1 : Int32).toInt = 1) ex_111 (by omega) (by omega)
                refine lv_iinc (v := x_111) (lv' := [(7, .int x_111), (8, .int 0), (10, .int x_99), (9, .int i_82), (6, .int i_67), (5, .int x_65), (4, .int i_66), (0, .ref h0), (1, .int p1), (2, .int p2), (3, .int p3)]) hx hb dX12_waysWith_141 hl (k := 3) rfl (by rw [ex_111]; rfl) (by decide) rfl (fun ls hl => ?_)
                obtain ⟨x_112, ex_112⟩ : ∃ y : Int32, y = i_82 + 1 := ⟨_, rfl⟩
                have vx_112 := b_add (rfl : i_82.toInt = _) (by decide : (1 : Int32).toInt = 1) ex_112 (by omega) (by omega)
                refine lv_iinc (v := x_112) (lv' := [(9, .int x_112), (7, .int x_111), (8, .int 0), (10, .int x_99), (6, .int i_67), (5, .int x_65), (4, .int i_66), (0, .ref h0), (1, .int p1), (2, .int p2), (3, .int p3)]) hx hb dX12_waysWith_144 hl (k := 3) rfl (by rw [ex_112]; rfl) (by decide) rfl (fun ls hl => ?_)
                refine lv_goto (tgt := 73) hx hb dX12_waysWith_147 (by decide) ?_
                have k_113 : σ_103 b_1 2 = x_2 := by rw [eσ_103, up2_nea _ _ (tg_ne tb_1 tb_100 (by decide))]; exact k_86
                exact ih_85 ⟨x_111, 0, x_112, σ_103, ρ_98⟩ _ _ _ ⟨(by omega), (by omega), k_113, hB, hS, lv_sub hl [0, 2, 1, 4, 5, 6, 7, 8, 9, 10] rfl⟩ (by show (8 - x_112.toInt).toNat < (8 - i_82.toInt).toNat; omega)
              · skip
                have uc_110 := i_nlt (n := 0) (by decide) c_110
                refine lv_iconst (v := 1) hx hb dX12_waysWith_134 (by decide) ?_
                refine lv_goto (tgt := 139) hx hb dX12_waysWith_135 (by decide) ?_
                refine lv_istore (lv' := [(8, .int 1), (10, .int x_99), (9, .int i_82), (7, .int i_80), (6, .int i_67), (5, .int x_65), (4, .int i_66), (0, .ref h0), (1, .int p1), (2, .int p2), (3, .int p3)]) hx hb dX12_waysWith_139 hl (by decide) rfl (fun ls hl => ?_)
                obtain ⟨x_114, ex_114⟩ : ∃ y : Int32, y = i_80 + 1 := ⟨_, rfl⟩
                try have vx_114 := b_add (rfl : i_80.toInt = _) (by decide : (1 : Int32).toInt = 1) ex_114 (by omega) (by omega)
                refine lv_iinc (v := x_114) (lv' := [(7, .int x_114), (8, .int 1), (10, .int x_99), (9, .int i_82), (6, .int i_67), (5, .int x_65), (4, .int i_66), (0, .ref h0), (1, .int p1), (2, .int p2), (3, .int p3)]) hx hb dX12_waysWith_141 hl (k := 3) rfl (by rw [ex_114]; rfl) (by decide) rfl (fun ls hl => ?_)
                obtain ⟨x_115, ex_115⟩ : ∃ y : Int32, y = i_82 + 1 := ⟨_, rfl⟩
                have vx_115 := b_add (rfl : i_82.toInt = _) (by decide : (1 : Int32).toInt = 1) ex_115 (by omega) (by omega)
                refine lv_iinc (v := x_115) (lv' := [(9, .int x_115), (7, .int x_114), (8, .int 1), (10, .int x_99), (6, .int i_67), (5, .int x_65), (4, .int i_66), (0, .ref h0), (1, .int p1), (2, .int p2), (3, .int p3)]) hx hb dX12_waysWith_144 hl (k := 3) rfl (by rw [ex_115]; rfl) (by decide) rfl (fun ls hl => ?_)
                refine lv_goto (tgt := 73) hx hb dX12_waysWith_147 (by decide) ?_
                have k_116 : σ_103 b_1 2 = x_2 := by rw [eσ_103, up2_nea _ _ (tg_ne tb_1 tb_100 (by decide))]; exact k_86
                exact ih_85 ⟨x_114, 1, x_115, σ_103, ρ_98⟩ _ _ _ ⟨(by omega), (by omega), k_116, hB, hS, lv_sub hl [0, 2, 1, 4, 5, 6, 7, 8, 9, 10] rfl⟩ (by show (8 - x_115.toInt).toNat < (8 - i_82.toInt).toNat; omega)
          · skip
            have uc_94 := j_eq c_94
            exfalso; omega
      · skip
        have uc_79 := i_nge (n := 5) (by decide) c_79
        refine lv_aload_n hx hb dX12_waysWith_44 rfl (lv_at hl 4 rfl) ?_
        refine t_gr hx hb hts hown hK hG hB mh0 th0 fq_12_26 rfl mw_6_2 dX12_waysWith_45 (fun b_117 hb_117 mb_117 tb_117 => ?_)
        refine lv_iload hx hb dX12_waysWith_48 (lv_at hl 0 rfl) ?_
        refine lv_aload_n hx hb dX12_waysWith_50 rfl (lv_at hl 4 rfl) ?_
        refine t_gr hx hb hts hown hK hG hB mh0 th0 fq_12_27 rfl mw_6_3 dX12_waysWith_51 (fun b_118 hb_118 mb_118 tb_118 => ?_)
        refine lv_iload hx hb dX12_waysWith_54 (lv_at hl 0 rfl) ?_
        refine t_ai hx hb hK hB mb_118 tb_118 ai_74 (fun _ => rfl) (i_in (by omega) (by omega)) dX12_waysWith_56 (fun x_119 ex_119 lx_119 ux_119 => ?_)
        have cx_119 := congrArg Int32.toInt ex_119
        refine t_si hx hb hK hLA hB hS mb_117 tb_117 ai_73 (i_in (by omega) (by omega)) (i_lo _) (i_hi _) (Or.inr (by decide)) dX12_waysWith_57 (fun H locs σ_120 eσ_120 hB hS => ?_)
        have k_121 : σ_120 b_117 i_74.toNatClampNeg = x_119 := by rw [eσ_120]; exact up2_same _ _ _ _
        obtain ⟨x_122, ex_122⟩ : ∃ y : Int32, y = i_74 + 1 := ⟨_, rfl⟩
        have vx_122 := b_add (rfl : i_74.toInt = _) (by decide : (1 : Int32).toInt = 1) ex_122 (by omega) (by omega)
        refine lv_iinc (v := x_122) (lv' := [(7, .int x_122), (6, .int i_67), (5, .int x_65), (4, .int i_66), (0, .ref h0), (1, .int p1), (2, .int p2), (3, .int p3)]) hx hb dX12_waysWith_58 hl (k := 0) rfl (by rw [ex_122]; rfl) (by decide) rfl (fun ls hl => ?_)
        refine lv_goto (tgt := 38) hx hb dX12_waysWith_61 (by decide) ?_
        have k_123 : σ_120 b_1 2 = x_2 := by rw [eσ_120, up2_nea _ _ (tg_ne tb_1 tb_117 (by decide))]; exact k_78
        exact ih_77 ⟨x_122, σ_120, ρ_76⟩ _ _ _ ⟨(by omega), (by omega), k_123, hB, hS, lv_sub hl [0, 1, 2, 3, 4, 5, 6, 7] rfl⟩ (by show (5 - x_122.toInt).toNat < (5 - i_74.toInt).toNat; omega)
theorem mw_7_228 : (.instanceMethod yX12_takesHad : Cond) ∈ wsA := wsA_t (List.mem_append_right _ (List.mem_append_right _ (List.mem_append_right _ (List.mem_append_right _ (List.mem_append_right _ (List.mem_append_right _ (List.mem_append_left _ (List.mem_of_getElem? (l := tables_1_7) (i := 228) rfl)))))))) rfl
theorem mp_7_7 : (.selects RX12 yX12_takesHad yX12_takesHad : Cond) ∈ wsA := wsA_p (q := (yX12_takesHad, 44)) (List.mem_append_right _ (List.mem_append_right _ (List.mem_append_right _ (List.mem_append_right _ (List.mem_append_right _ (List.mem_append_right _ (List.mem_append_left _ (List.mem_of_getElem? (l := lw_privs_7) (i := 7) rfl))))))))
theorem mw_7_229 : (.code yX12_takesHad cX12_takesHad 3 none : Cond) ∈ wsA := wsA_t (List.mem_append_right _ (List.mem_append_right _ (List.mem_append_right _ (List.mem_append_right _ (List.mem_append_right _ (List.mem_append_right _ (List.mem_append_left _ (List.mem_of_getElem? (l := tables_1_7) (i := 229) rfl)))))))) rfl
theorem mw_7_226 : (.methodLink RX12 382 yX12_takesHad : Cond) ∈ wsA := wsA_t (List.mem_append_right _ (List.mem_append_right _ (List.mem_append_right _ (List.mem_append_right _ (List.mem_append_right _ (List.mem_append_right _ (List.mem_append_left _ (List.mem_of_getElem? (l := tables_1_7) (i := 226) rfl)))))))) rfl
theorem mw_7_232 : (.instanceMethod yX12_waysWith : Cond) ∈ wsA := wsA_t (List.mem_append_right _ (List.mem_append_right _ (List.mem_append_right _ (List.mem_append_right _ (List.mem_append_right _ (List.mem_append_right _ (List.mem_append_left _ (List.mem_of_getElem? (l := tables_1_7) (i := 232) rfl)))))))) rfl
theorem mp_7_8 : (.selects RX12 yX12_waysWith yX12_waysWith : Cond) ∈ wsA := wsA_p (q := (yX12_waysWith, 44)) (List.mem_append_right _ (List.mem_append_right _ (List.mem_append_right _ (List.mem_append_right _ (List.mem_append_right _ (List.mem_append_right _ (List.mem_append_left _ (List.mem_of_getElem? (l := lw_privs_7) (i := 8) rfl))))))))
theorem mw_7_233 : (.code yX12_waysWith cX12_waysWith 11 (some .int) : Cond) ∈ wsA := wsA_t (List.mem_append_right _ (List.mem_append_right _ (List.mem_append_right _ (List.mem_append_right _ (List.mem_append_right _ (List.mem_append_right _ (List.mem_append_left _ (List.mem_of_getElem? (l := tables_1_7) (i := 233) rfl)))))))) rfl
theorem mw_7_230 : (.methodLink RX12 385 yX12_waysWith : Cond) ∈ wsA := wsA_t (List.mem_append_right _ (List.mem_append_right _ (List.mem_append_right _ (List.mem_append_right _ (List.mem_append_right _ (List.mem_append_right _ (List.mem_append_left _ (List.mem_of_getElem? (l := tables_1_7) (i := 230) rfl)))))))) rfl
theorem dX12_ways_0 : decode cX12_ways 0 = .ok (.aload_n 0, 1) := by decide +kernel
theorem dX12_ways_1 : decode cX12_ways 1 = .ok (.iload_n 1, 1) := by decide +kernel
theorem dX12_ways_2 : decode cX12_ways 2 = .ok (.invokevirtual 319, 3) := by decide +kernel
theorem dX12_ways_5 : decode cX12_ways 5 = .ok (.ifCond .ne 5, 3) := by decide +kernel
theorem dX12_ways_10 : decode cX12_ways 10 = .ok (.aload_n 0, 1) := by decide +kernel
theorem dX12_ways_11 : decode cX12_ways 11 = .ok (.iload_n 1, 1) := by decide +kernel
theorem dX12_ways_12 : decode cX12_ways 12 = .ok (.invokevirtual 382, 3) := by decide +kernel
theorem dX12_ways_15 : decode cX12_ways 15 = .ok (.aload_n 0, 1) := by decide +kernel
theorem dX12_ways_16 : decode cX12_ways 16 = .ok (.aload_n 0, 1) := by decide +kernel
theorem dX12_ways_17 : decode cX12_ways 17 = .ok (.iload_n 1, 1) := by decide +kernel
theorem dX12_ways_18 : decode cX12_ways 18 = .ok (.iconst 0, 1) := by decide +kernel
theorem dX12_ways_19 : decode cX12_ways 19 = .ok (.invokevirtual 324, 3) := by decide +kernel
theorem dX12_ways_22 : decode cX12_ways 22 = .ok (.iconst (-1), 1) := by decide +kernel
theorem dX12_ways_23 : decode cX12_ways 23 = .ok (.iconst 1, 1) := by decide +kernel
theorem dX12_ways_24 : decode cX12_ways 24 = .ok (.invokevirtual 385, 3) := by decide +kernel
theorem dX12_ways_27 : decode cX12_ways 27 = .ok (.ireturn, 1) := by decide +kernel
theorem dX12_ways_8 : decode cX12_ways 8 = .ok (.iconst (-1), 1) := by decide +kernel
theorem dX12_ways_9 : decode cX12_ways 9 = .ok (.ireturn, 1) := by decide +kernel
theorem mv_X12_takesHad : MV RX12 yX12_takesHad cX12_takesHad 3 none 1 := ⟨mw_7_228, mp_7_7, mw_1_13, mw_7_229, ⟨rfl, by decide, by decide, by decide +kernel⟩⟩
theorem mv_X12_waysWith : MV RX12 yX12_waysWith cX12_waysWith 11 (some .int) 3 := ⟨mw_7_232, mp_7_8, mw_1_13, mw_7_233, ⟨rfl, by decide, by decide, by decide +kernel⟩⟩
set_option maxHeartbeats 4000000 in
set_option maxRecDepth 100000 in
theorem cy_X12_ways (l : Launch) (D : va_G) (cA : Nat → ClassId) (L : List Nat) (T : Nat → Nat) (r : Rg) (hG : GR L T r) (hL : L.Nodup) (σ : Sg) (ρ : Lg) (hW : WT L ry T σ) (sz : Nat) (h0 : Nat) (mh0 : h0 ∈ L) (th0 : T h0 = 12) (p1 : Int32) : Met l yX12_ways (.code yX12_ways cX12_ways 2 (some .int) :: wsA) ({ frames := 2, cells := 0, slots := 0, locals := 52 }) (PR D cA L T r σ ρ sz [.ref h0, .int p1]) (QI D cA L T r ry [(73, 1000), (74, 1000)] σ sz (fun x σ1 => True)) 0 0 (dm L sz) := by
  refine Met.ofW (cc := cX12_ways) (maxL := 2) (ret := (some .int)) (by decide) rfl ?_
  intro p e s m args below meth c s₁ B hml hv
  obtain ⟨rfl, hsz, hP, hK, hN⟩ := hv
  have hx := B.exec
  have hb := B.bytes
  have hr := B.returns
  have hts : ∀ w ∈ wsA, w.before _ s = true := fun w h => atoms_spec (ws := .code yX12_ways cX12_ways 2 (some .int) :: wsA) B.pre w (List.mem_cons_of_mem _ h)
  have hown : s.vm.findClass RX12 = some m.cls := findClass_of_methodNamed B.named
  subst hsz
  have hLA : LA (dm L s.heap.size) L := ⟨hL, fun a h => Or.inl h⟩
  have hA : ∀ q : Nat, s.heap.size ≤ q → dm L s.heap.size q := fun q h => Or.inr h
  have hS : va_S (dm L s.heap.size) s.heap s.heap [] := va_S.rf
  have hB : TS D cA L T r ry [(73, 1000), (74, 1000)] σ σ ρ s.heap := ⟨hP, hW, FR.rf⟩
  have hl := lv_entry ([.ref h0, .int p1]) (n := 2) (Nat.le_of_ble_eq_true rfl)
  rw [lg_entry_eq]
  generalize (lg_sl ([.ref h0, .int p1]) ++ List.replicate (2 - (lg_sl ([.ref h0, .int p1])).length) Slot.unset).toArray = ls at hl ⊢
  have hl : lv_has ls 2 [(0, .ref h0), (1, .int p1)] := hl
  refine lv_aload_n hx hb dX12_ways_0 rfl (lv_at hl 0 rfl) ?_
  refine lv_iload_n hx hb dX12_ways_1 rfl (lv_at hl 1 rfl) ?_
  refine t_ci (va_runV (As := [.int p1]) (rest := []) ⟨hx, hb, hml, hown, hts⟩ (cy_X12_isPilgrim l D cA L T r hG hLA.1 σ ρ hB.2.1 _ h0 mh0 th0 p1) (cV hts mv_X12_isPilgrim mw_7_64 rfl rfl ⟨Nat.le_of_ble_eq_true rfl, Nat.le_of_ble_eq_true rfl⟩) (pV hB.1 hK hN mh0 th0 (show shp cA 12 _ _ _ = .inr (12, Fs12 _ _ _) from rfl) rfl) rfl rfl hl.1 rfl (lv_room (Nat.le_of_ble_eq_true rfl)) dX12_ways_2 ⟨Nat.le_of_ble_eq_true rfl, Nat.le_of_ble_eq_true rfl⟩) hLA hA hB hS (by decide) (fun x_3 σ_1 ρ_2 H locs hB fσ_1 pσ_1 hS => ?_)
  have qσ_1 := FR.nil fσ_1
  subst qσ_1
  obtain ⟨ox_3, ix_3⟩ := pσ_1
  refine lv_if_ne (tgt := 10) hx hb dX12_ways_5 (by decide) (fun c_4 => ?_) (fun c_4 => ?_)
  · skip
    have uc_4 := i_ne (n := 0) (by decide) c_4
    refine lv_aload_n hx hb dX12_ways_10 rfl (lv_at hl 0 rfl) ?_
    refine lv_iload_n hx hb dX12_ways_11 rfl (lv_at hl 1 rfl) ?_
    refine t_cv (va_runV (As := [.int p1]) (rest := []) ⟨hx, hb, hml, hown, hts⟩ (cy_X12_takesHad l D cA L T r hG hLA.1 σ ρ_2 hB.2.1 _ h0 mh0 th0 p1 (by first | omega | decide) (by first | omega | decide)) (cV hts mv_X12_takesHad mw_7_226 rfl rfl ⟨Nat.le_of_ble_eq_true rfl, Nat.le_of_ble_eq_true rfl⟩) (pV hB.1 hK hN mh0 th0 (show shp cA 12 _ _ _ = .inr (12, Fs12 _ _ _) from rfl) rfl) rfl rfl hl.1 rfl (lv_room (Nat.le_of_ble_eq_true rfl)) dX12_ways_12 ⟨Nat.le_of_ble_eq_true rfl, Nat.le_of_ble_eq_true rfl⟩) hLA hA hB hS (by decide) (fun σ_5 ρ_6 H locs hB fσ_5 pσ_5 hS => ?_)
    refine lv_aload_n hx hb dX12_ways_15 rfl (lv_at hl 0 rfl) ?_
    refine lv_aload_n hx hb dX12_ways_16 rfl (lv_at hl 0 rfl) ?_
    refine lv_iload_n hx hb dX12_ways_17 rfl (lv_at hl 1 rfl) ?_
    refine lv_iconst (v := 0) hx hb dX12_ways_18 (by decide) ?_
    refine t_ci (va_runV (As := [.int p1, .int 0]) (rest := [.ref h0]) ⟨hx, hb, hml, hown, hts⟩ (cy_X12_pilgrimOf_0 l D cA L T r hG hLA.1 σ_5 ρ_6 hB.2.1 _ h0 mh0 th0 p1 (by first | omega | decide) (by first | omega | decide)) (cV hts mv_X12_pilgrimOf mw_7_69 rfl rfl ⟨Nat.le_of_ble_eq_true rfl, Nat.le_of_ble_eq_true rfl⟩) (pV hB.1 hK hN mh0 th0 (show shp cA 12 _ _ _ = .inr (12, Fs12 _ _ _) from rfl) rfl) rfl rfl hl.1 rfl (lv_room (Nat.le_of_ble_eq_true rfl)) dX12_ways_19 ⟨Nat.le_of_ble_eq_true rfl, Nat.le_of_ble_eq_true rfl⟩) hLA hA hB hS (by decide) (fun x_10 σ_8 ρ_9 H locs hB fσ_8 pσ_8 hS => ?_)
    have qσ_8 := FR.nil fσ_8
    subst qσ_8
    obtain ⟨lx_10, ux_10⟩ := pσ_8
    refine lv_iconst (v := (-1)) hx hb dX12_ways_22 (by decide) ?_
    refine lv_iconst (v := 1) hx hb dX12_ways_23 (by decide) ?_
    refine t_ci (va_runV (As := [.int x_10, .int (-1), .int 1]) (rest := []) ⟨hx, hb, hml, hown, hts⟩ (cy_X12_waysWith l D cA L T r hG hLA.1 σ_5 ρ_9 hB.2.1 _ h0 mh0 th0 x_10 ((-1)) 1 (by first | omega | decide) (by first | omega | decide)) (cV hts mv_X12_waysWith mw_7_230 rfl rfl ⟨Nat.le_of_ble_eq_true rfl, Nat.le_of_ble_eq_true rfl⟩) (pV hB.1 hK hN mh0 th0 (show shp cA 12 _ _ _ = .inr (12, Fs12 _ _ _) from rfl) rfl) rfl rfl hl.1 rfl (lv_room (Nat.le_of_ble_eq_true rfl)) dX12_ways_24 ⟨Nat.le_of_ble_eq_true rfl, Nat.le_of_ble_eq_true rfl⟩) hLA hA hB hS (by decide) (fun x_13 σ_11 ρ_12 H locs hB fσ_11 pσ_11 hS => ?_)
    exact W.iret (v := x_13) hx hb hr (fun t ht hW => ⟨⟨x_13, (σ_11, ρ_12), rfl, ⟨hB.2.1, hB.2.2, trivial⟩, (show TP D cA L T r σ_11 ρ_12 t.heap from by rw [ht]; exact hB.1)⟩, hS.F ht⟩) hS.2.2 dX12_ways_27
  · skip
    have uc_4 := i_eq (n := 0) (by decide) c_4
    refine lv_iconst (v := (-1)) hx hb dX12_ways_8 (by decide) ?_
    exact W.iret (v := (-1)) hx hb hr (fun t ht hW => ⟨⟨(-1), (σ, ρ_2), rfl, ⟨hB.2.1, hB.2.2, trivial⟩, (show TP D cA L T r σ ρ_2 t.heap from by rw [ht]; exact hB.1)⟩, hS.F ht⟩) hS.2.2 dX12_ways_9
theorem dX12_less_0 : decode cX12_less 0 = .ok (.aload_n 0, 1) := by decide +kernel
theorem dX12_less_1 : decode cX12_less 1 = .ok (.iload_n 1, 1) := by decide +kernel
theorem dX12_less_2 : decode cX12_less 2 = .ok (.invokevirtual 319, 3) := by decide +kernel
theorem dX12_less_5 : decode cX12_less 5 = .ok (.ifCond .eq 13, 3) := by decide +kernel
theorem dX12_less_18 : decode cX12_less 18 = .ok (.iconst (-1), 1) := by decide +kernel
theorem dX12_less_19 : decode cX12_less 19 = .ok (.ireturn, 1) := by decide +kernel
theorem dX12_less_8 : decode cX12_less 8 = .ok (.iload_n 2, 1) := by decide +kernel
theorem dX12_less_9 : decode cX12_less 9 = .ok (.i2l, 1) := by decide +kernel
theorem dX12_less_10 : decode cX12_less 10 = .ok (.lconst 0, 1) := by decide +kernel
theorem dX12_less_11 : decode cX12_less 11 = .ok (.lconst 1, 1) := by decide +kernel
theorem dX12_less_12 : decode cX12_less 12 = .ok (.invokestatic 130, 3) := by decide +kernel
theorem dX12_less_15 : decode cX12_less 15 = .ok (.ifCond .ne 5, 3) := by decide +kernel
theorem dX12_less_20 : decode cX12_less 20 = .ok (.aload_n 0, 1) := by decide +kernel
theorem dX12_less_21 : decode cX12_less 21 = .ok (.iload_n 1, 1) := by decide +kernel
theorem dX12_less_22 : decode cX12_less 22 = .ok (.invokevirtual 382, 3) := by decide +kernel
theorem dX12_less_25 : decode cX12_less 25 = .ok (.bipush (-2), 2) := by decide +kernel
theorem dX12_less_27 : decode cX12_less 27 = .ok (.istore_n 3, 1) := by decide +kernel
theorem dX12_less_28 : decode cX12_less 28 = .ok (.bipush (-2), 2) := by decide +kernel
theorem dX12_less_30 : decode cX12_less 30 = .ok (.istore 4, 2) := by decide +kernel
theorem dX12_less_32 : decode cX12_less 32 = .ok (.aload_n 0, 1) := by decide +kernel
theorem dX12_less_33 : decode cX12_less 33 = .ok (.iload_n 1, 1) := by decide +kernel
theorem dX12_less_34 : decode cX12_less 34 = .ok (.iconst 0, 1) := by decide +kernel
theorem dX12_less_35 : decode cX12_less 35 = .ok (.invokevirtual 324, 3) := by decide +kernel
theorem dX12_less_38 : decode cX12_less 38 = .ok (.istore 5, 2) := by decide +kernel
theorem dX12_less_40 : decode cX12_less 40 = .ok (.iload 5, 2) := by decide +kernel
theorem dX12_less_42 : decode cX12_less 42 = .ok (.aload_n 0, 1) := by decide +kernel
theorem dX12_less_43 : decode cX12_less 43 = .ok (.getfield 39, 3) := by decide +kernel
theorem dX12_less_46 : decode cX12_less 46 = .ok (.iconst 2, 1) := by decide +kernel
theorem dX12_less_47 : decode cX12_less 47 = .ok (.iaload, 1) := by decide +kernel
theorem dX12_less_48 : decode cX12_less 48 = .ok (.if_icmp .ge 41, 3) := by decide +kernel
theorem dX12_less_51 : decode cX12_less 51 = .ok (.aload_n 0, 1) := by decide +kernel
theorem dX12_less_52 : decode cX12_less 52 = .ok (.aload_n 0, 1) := by decide +kernel
theorem dX12_less_53 : decode cX12_less 53 = .ok (.iload_n 1, 1) := by decide +kernel
theorem dX12_less_54 : decode cX12_less 54 = .ok (.iconst 0, 1) := by decide +kernel
theorem dX12_less_55 : decode cX12_less 55 = .ok (.invokevirtual 324, 3) := by decide +kernel
theorem dX12_less_58 : decode cX12_less 58 = .ok (.iload 5, 2) := by decide +kernel
theorem dX12_less_60 : decode cX12_less 60 = .ok (.iconst 1, 1) := by decide +kernel
theorem dX12_less_61 : decode cX12_less 61 = .ok (.invokevirtual 385, 3) := by decide +kernel
theorem dX12_less_64 : decode cX12_less 64 = .ok (.istore 6, 2) := by decide +kernel
theorem dX12_less_66 : decode cX12_less 66 = .ok (.iload 6, 2) := by decide +kernel
theorem dX12_less_68 : decode cX12_less 68 = .ok (.iload 4, 2) := by decide +kernel
theorem dX12_less_70 : decode cX12_less 70 = .ok (.if_icmp .gt 6, 3) := by decide +kernel
theorem dX12_less_76 : decode cX12_less 76 = .ok (.iload 5, 2) := by decide +kernel
theorem dX12_less_78 : decode cX12_less 78 = .ok (.istore_n 3, 1) := by decide +kernel
theorem dX12_less_79 : decode cX12_less 79 = .ok (.iload 6, 2) := by decide +kernel
theorem dX12_less_81 : decode cX12_less 81 = .ok (.istore 4, 2) := by decide +kernel
theorem dX12_less_83 : decode cX12_less 83 = .ok (.iinc 5 1, 3) := by decide +kernel
theorem dX12_less_86 : decode cX12_less 86 = .ok (.goto (-46), 3) := by decide +kernel
theorem dX12_less_73 : decode cX12_less 73 = .ok (.goto 10, 3) := by decide +kernel
theorem dX12_less_89 : decode cX12_less 89 = .ok (.iload_n 2, 1) := by decide +kernel
theorem dX12_less_90 : decode cX12_less 90 = .ok (.ifCond .ne 7, 3) := by decide +kernel
theorem dX12_less_97 : decode cX12_less 97 = .ok (.iload 4, 2) := by decide +kernel
theorem dX12_less_99 : decode cX12_less 99 = .ok (.ireturn, 1) := by decide +kernel
theorem dX12_less_93 : decode cX12_less 93 = .ok (.iload_n 3, 1) := by decide +kernel
theorem dX12_less_94 : decode cX12_less 94 = .ok (.goto 5, 3) := by decide +kernel
set_option maxHeartbeats 4000000 in
set_option maxRecDepth 100000 in
theorem cy_X12_less (l : Launch) (D : va_G) (cA : Nat → ClassId) (L : List Nat) (T : Nat → Nat) (r : Rg) (hG : GR L T r) (hL : L.Nodup) (σ : Sg) (ρ : Lg) (hW : WT L ry T σ) (sz : Nat) (h0 : Nat) (mh0 : h0 ∈ L) (th0 : T h0 = 12) (p1 : Int32) (p2 : Int32) : Met l yX12_less (.code yX12_less cX12_less 7 (some .int) :: wsA) ({ frames := 2, cells := 0, slots := 0, locals := 52 }) (PR D cA L T r σ ρ sz [.ref h0, .int p1, .int p2]) (QI D cA L T r ry [(73, 1000), (74, 1000)] σ sz (fun x σ1 => True)) 0 0 (dm L sz) := by
  refine Met.ofW (cc := cX12_less) (maxL := 7) (ret := (some .int)) (by decide) rfl ?_
  intro p e s m args below meth c s₁ B hml hv
  obtain ⟨rfl, hsz, hP, hK, hN⟩ := hv
  have hx := B.exec
  have hb := B.bytes
  have hr := B.returns
  have hts : ∀ w ∈ wsA, w.before _ s = true := fun w h => atoms_spec (ws := .code yX12_less cX12_less 7 (some .int) :: wsA) B.pre w (List.mem_cons_of_mem _ h)
  have hown : s.vm.findClass RX12 = some m.cls := findClass_of_methodNamed B.named
  subst hsz
  have hLA : LA (dm L s.heap.size) L := ⟨hL, fun a h => Or.inl h⟩
  have hA : ∀ q : Nat, s.heap.size ≤ q → dm L s.heap.size q := fun q h => Or.inr h
  have hS : va_S (dm L s.heap.size) s.heap s.heap [] := va_S.rf
  have hB : TS D cA L T r ry [(73, 1000), (74, 1000)] σ σ ρ s.heap := ⟨hP, hW, FR.rf⟩
  have hl := lv_entry ([.ref h0, .int p1, .int p2]) (n := 7) (Nat.le_of_ble_eq_true rfl)
  rw [lg_entry_eq]
  generalize (lg_sl ([.ref h0, .int p1, .int p2]) ++ List.replicate (7 - (lg_sl ([.ref h0, .int p1, .int p2])).length) Slot.unset).toArray = ls at hl ⊢
  have hl : lv_has ls 7 [(0, .ref h0), (1, .int p1), (2, .int p2)] := hl
  refine lv_aload_n hx hb dX12_less_0 rfl (lv_at hl 0 rfl) ?_
  refine lv_iload_n hx hb dX12_less_1 rfl (lv_at hl 1 rfl) ?_
  refine t_ci (va_runV (As := [.int p1]) (rest := []) ⟨hx, hb, hml, hown, hts⟩ (cy_X12_isPilgrim l D cA L T r hG hLA.1 σ ρ hB.2.1 _ h0 mh0 th0 p1) (cV hts mv_X12_isPilgrim mw_7_64 rfl rfl ⟨Nat.le_of_ble_eq_true rfl, Nat.le_of_ble_eq_true rfl⟩) (pV hB.1 hK hN mh0 th0 (show shp cA 12 _ _ _ = .inr (12, Fs12 _ _ _) from rfl) rfl) rfl rfl hl.1 rfl (lv_room (Nat.le_of_ble_eq_true rfl)) dX12_less_2 ⟨Nat.le_of_ble_eq_true rfl, Nat.le_of_ble_eq_true rfl⟩) hLA hA hB hS (by decide) (fun x_3 σ_1 ρ_2 H locs hB fσ_1 pσ_1 hS => ?_)
  have qσ_1 := FR.nil fσ_1
  subst qσ_1
  obtain ⟨ox_3, ix_3⟩ := pσ_1
  refine lv_if_eq (tgt := 18) hx hb dX12_less_5 (by decide) (fun c_4 => ?_) (fun c_4 => ?_)
  · skip
    have uc_4 := i_eq (n := 0) (by decide) c_4
    refine lv_iconst (v := (-1)) hx hb dX12_less_18 (by decide) ?_
    exact W.iret (v := (-1)) hx hb hr (fun t ht hW => ⟨⟨(-1), (σ, ρ_2), rfl, ⟨hB.2.1, hB.2.2, trivial⟩, (show TP D cA L T r σ ρ_2 t.heap from by rw [ht]; exact hB.1)⟩, hS.F ht⟩) hS.2.2 dX12_less_19
  · skip
    have uc_4 := i_ne (n := 0) (by decide) c_4
    refine lv_iload_n hx hb dX12_less_8 rfl (lv_at hl 2 rfl) ?_
    refine lv_i2l (v := p2.toInt64) hx hb dX12_less_9 rfl ?_
    refine lv_lconst (v := 0) hx hb dX12_less_10 (by decide) ?_
    refine lv_lconst (v := 1) hx hb dX12_less_11 (by decide) ?_
    refine t_ci (va_runS (As := [.long p2.toInt64, .long 0, .long 1]) (rest := []) ⟨hx, hb, hml, hown, hts⟩ (cy_X12_in_0_1 l D cA L T r hG hLA.1 σ ρ_2 hB.2.1 _ p2) (cS hts ms_X12_in mw_6_185 rfl rfl ⟨Nat.le_of_ble_eq_true rfl, Nat.le_of_ble_eq_true rfl⟩) (pS hB.1 hK hN) rfl rfl hl.1 rfl (lv_room (Nat.le_of_ble_eq_true rfl)) dX12_less_12 ⟨Nat.le_of_ble_eq_true rfl, Nat.le_of_ble_eq_true rfl⟩) hLA hA hB hS (by decide) (fun x_7 σ_5 ρ_6 H locs hB fσ_5 pσ_5 hS => ?_)
    have qσ_5 := FR.nil fσ_5
    subst qσ_5
    obtain ⟨ox_7, ix_7⟩ := pσ_5
    refine lv_if_ne (tgt := 20) hx hb dX12_less_15 (by decide) (fun c_8 => ?_) (fun c_8 => ?_)
    · skip
      have uc_8 := i_ne (n := 0) (by decide) c_8
      refine lv_aload_n hx hb dX12_less_20 rfl (lv_at hl 0 rfl) ?_
      refine lv_iload_n hx hb dX12_less_21 rfl (lv_at hl 1 rfl) ?_
      refine t_cv (va_runV (As := [.int p1]) (rest := []) ⟨hx, hb, hml, hown, hts⟩ (cy_X12_takesHad l D cA L T r hG hLA.1 σ ρ_6 hB.2.1 _ h0 mh0 th0 p1 (by first | omega | decide) (by first | omega | decide)) (cV hts mv_X12_takesHad mw_7_226 rfl rfl ⟨Nat.le_of_ble_eq_true rfl, Nat.le_of_ble_eq_true rfl⟩) (pV hB.1 hK hN mh0 th0 (show shp cA 12 _ _ _ = .inr (12, Fs12 _ _ _) from rfl) rfl) rfl rfl hl.1 rfl (lv_room (Nat.le_of_ble_eq_true rfl)) dX12_less_22 ⟨Nat.le_of_ble_eq_true rfl, Nat.le_of_ble_eq_true rfl⟩) hLA hA hB hS (by decide) (fun σ_9 ρ_10 H locs hB fσ_9 pσ_9 hS => ?_)
      refine lv_bipush (v := (-2)) hx hb dX12_less_25 (by decide) ?_
      refine lv_istore_n (lv' := [(3, .int (-2)), (0, .ref h0), (1, .int p1), (2, .int p2)]) hx hb dX12_less_27 rfl hl (by decide) rfl (fun ls hl => ?_)
      refine lv_bipush (v := (-2)) hx hb dX12_less_28 (by decide) ?_
      refine lv_istore (lv' := [(4, .int (-2)), (3, .int (-2)), (0, .ref h0), (1, .int p1), (2, .int p2)]) hx hb dX12_less_30 hl (by decide) rfl (fun ls hl => ?_)
      refine lv_aload_n hx hb dX12_less_32 rfl (lv_at hl 2 rfl) ?_
      refine lv_iload_n hx hb dX12_less_33 rfl (lv_at hl 3 rfl) ?_
      refine lv_iconst (v := 0) hx hb dX12_less_34 (by decide) ?_
      refine t_ci (va_runV (As := [.int p1, .int 0]) (rest := []) ⟨hx, hb, hml, hown, hts⟩ (cy_X12_pilgrimOf_0 l D cA L T r hG hLA.1 σ_9 ρ_10 hB.2.1 _ h0 mh0 th0 p1 (by first | omega | decide) (by first | omega | decide)) (cV hts mv_X12_pilgrimOf mw_7_69 rfl rfl ⟨Nat.le_of_ble_eq_true rfl, Nat.le_of_ble_eq_true rfl⟩) (pV hB.1 hK hN mh0 th0 (show shp cA 12 _ _ _ = .inr (12, Fs12 _ _ _) from rfl) rfl) rfl rfl hl.1 rfl (lv_room (Nat.le_of_ble_eq_true rfl)) dX12_less_35 ⟨Nat.le_of_ble_eq_true rfl, Nat.le_of_ble_eq_true rfl⟩) hLA hA hB hS (by decide) (fun x_14 σ_12 ρ_13 H locs hB fσ_12 pσ_12 hS => ?_)
      have qσ_12 := FR.nil fσ_12
      subst qσ_12
      obtain ⟨lx_14, ux_14⟩ := pσ_12
      refine lv_istore (lv' := [(5, .int x_14), (4, .int (-2)), (3, .int (-2)), (0, .ref h0), (1, .int p1), (2, .int p2)]) hx hb dX12_less_38 hl (by decide) rfl (fun ls hl => ?_)
      refine w_loop (α := Int32 × Int32 × Int32 × Sg × Lg) (fun (i_15, i_16, i_17, σ_18, ρ_19) H locs ls => 0 ≤ i_17.toInt ∧ i_17.toInt ≤ 8 ∧ TS D cA L T r ry [(73, 1000), (74, 1000)] σ σ_18 ρ_19 H ∧ va_S (dm L s.heap.size) s.heap H locs ∧ lv_has ls 7 [(5, .int i_17), (4, .int i_16), (3, .int i_15), (0, .ref h0), (1, .int p1), (2, .int p2)]) (fun (i_15, i_16, i_17, σ_18, ρ_19) => (8 - i_17.toInt).toNat) ?_ ⟨(-2), (-2), x_14, σ_9, ρ_13⟩ ⟨(by omega), (by omega), hB, hS, lv_sub hl [0, 1, 2, 3, 4, 5] rfl⟩
      rintro ⟨i_15, i_16, i_17, σ_18, ρ_19⟩ H locs ls ⟨li_17, ui_17, hB, hS, hl⟩ ih_20
      refine lv_iload hx hb dX12_less_40 (lv_at hl 0 rfl) ?_
      refine lv_aload_n hx hb dX12_less_42 rfl (lv_at hl 3 rfl) ?_
      refine t_gr hx hb hts hown hK hG hB mh0 th0 fq_12_20 rfl mw_5_236 dX12_less_43 (fun b_21 hb_21 mb_21 tb_21 => ?_)
      refine lv_iconst (v := 2) hx hb dX12_less_46 (by decide) ?_
      refine t_aj hx hb hK hB mb_21 tb_21 ai_70 (i_in (by decide) (by decide)) dX12_less_47 (fun x_22 ex_22 lx_22 ux_22 => ?_)
      have lx_22 : 0 ≤ x_22.toInt := lx_22
      have ux_22 : x_22.toInt ≤ 8 := ux_22
      have cx_22 := congrArg Int32.toInt ex_22
      refine lv_icmp_ge (tgt := 89) hx hb dX12_less_48 (by decide) (fun c_23 => ?_) (fun c_23 => ?_)
      · skip
        have uc_23 := j_le c_23
        refine lv_iload_n hx hb dX12_less_89 rfl (lv_at hl 5 rfl) ?_
        refine lv_if_ne (tgt := 97) hx hb dX12_less_90 (by decide) (fun c_24 => ?_) (fun c_24 => ?_)
        · skip
          have uc_24 := i_ne (n := 0) (by decide) c_24
          refine lv_iload hx hb dX12_less_97 (lv_at hl 1 rfl) ?_
          exact W.iret (v := i_16) hx hb hr (fun t ht hW => ⟨⟨i_16, (σ_18, ρ_19), rfl, ⟨hB.2.1, hB.2.2, trivial⟩, (show TP D cA L T r σ_18 ρ_19 t.heap from by rw [ht]; exact hB.1)⟩, hS.F ht⟩) hS.2.2 dX12_less_99
        · skip
          have uc_24 := i_eq (n := 0) (by decide) c_24
          refine lv_iload_n hx hb dX12_less_93 rfl (lv_at hl 2 rfl) ?_
          refine lv_goto (tgt := 99) hx hb dX12_less_94 (by decide) ?_
          exact W.iret (v := i_15) hx hb hr (fun t ht hW => ⟨⟨i_15, (σ_18, ρ_19), rfl, ⟨hB.2.1, hB.2.2, trivial⟩, (show TP D cA L T r σ_18 ρ_19 t.heap from by rw [ht]; exact hB.1)⟩, hS.F ht⟩) hS.2.2 dX12_less_99
      · skip
        have uc_23 := j_nle c_23
        refine lv_aload_n hx hb dX12_less_51 rfl (lv_at hl 3 rfl) ?_
        refine lv_aload_n hx hb dX12_less_52 rfl (lv_at hl 3 rfl) ?_
        refine lv_iload_n hx hb dX12_less_53 rfl (lv_at hl 4 rfl) ?_
        refine lv_iconst (v := 0) hx hb dX12_less_54 (by decide) ?_
        refine t_ci (va_runV (As := [.int p1, .int 0]) (rest := [.ref h0]) ⟨hx, hb, hml, hown, hts⟩ (cy_X12_pilgrimOf_0 l D cA L T r hG hLA.1 σ_18 ρ_19 hB.2.1 _ h0 mh0 th0 p1 (by first | omega | decide) (by first | omega | decide)) (cV hts mv_X12_pilgrimOf mw_7_69 rfl rfl ⟨Nat.le_of_ble_eq_true rfl, Nat.le_of_ble_eq_true rfl⟩) (pV hB.1 hK hN mh0 th0 (show shp cA 12 _ _ _ = .inr (12, Fs12 _ _ _) from rfl) rfl) rfl rfl hl.1 rfl (lv_room (Nat.le_of_ble_eq_true rfl)) dX12_less_55 ⟨Nat.le_of_ble_eq_true rfl, Nat.le_of_ble_eq_true rfl⟩) hLA hA hB hS (by decide) (fun x_27 σ_25 ρ_26 H locs hB fσ_25 pσ_25 hS => ?_)
        have qσ_25 := FR.nil fσ_25
        subst qσ_25
        obtain ⟨lx_27, ux_27⟩ := pσ_25
        refine lv_iload hx hb dX12_less_58 (lv_at hl 0 rfl) ?_
        refine lv_iconst (v := 1) hx hb dX12_less_60 (by decide) ?_
        refine t_ci (va_runV (As := [.int x_27, .int i_17, .int 1]) (rest := []) ⟨hx, hb, hml, hown, hts⟩ (cy_X12_waysWith l D cA L T r hG hLA.1 σ_18 ρ_26 hB.2.1 _ h0 mh0 th0 x_27 i_17 1 (by first | omega | decide) (by first | omega | decide)) (cV hts mv_X12_waysWith mw_7_230 rfl rfl ⟨Nat.le_of_ble_eq_true rfl, Nat.le_of_ble_eq_true rfl⟩) (pV hB.1 hK hN mh0 th0 (show shp cA 12 _ _ _ = .inr (12, Fs12 _ _ _) from rfl) rfl) rfl rfl hl.1 rfl (lv_room (Nat.le_of_ble_eq_true rfl)) dX12_less_61 ⟨Nat.le_of_ble_eq_true rfl, Nat.le_of_ble_eq_true rfl⟩) hLA hA hB hS (by decide) (fun x_30 σ_28 ρ_29 H locs hB fσ_28 pσ_28 hS => ?_)
        refine lv_istore (lv' := [(6, .int x_30), (5, .int i_17), (4, .int i_16), (3, .int i_15), (0, .ref h0), (1, .int p1), (2, .int p2)]) hx hb dX12_less_64 hl (by decide) rfl (fun ls hl => ?_)
        refine lv_iload hx hb dX12_less_66 (lv_at hl 0 rfl) ?_
        refine lv_iload hx hb dX12_less_68 (lv_at hl 2 rfl) ?_
        refine lv_icmp_gt (tgt := 76) hx hb dX12_less_70 (by decide) (fun c_31 => ?_) (fun c_31 => ?_)
        · skip
          have uc_31 := j_lt c_31
          refine lv_iload hx hb dX12_less_76 (lv_at hl 1 rfl) ?_
          refine lv_istore_n (lv' := [(3, .int i_17), (6, .int x_30), (5, .int i_17), (4, .int i_16), (0, .ref h0), (1, .int p1), (2, .int p2)]) hx hb dX12_less_78 rfl hl (by decide) rfl (fun ls hl => ?_)
          refine lv_iload hx hb dX12_less_79 (lv_at hl 1 rfl) ?_
          refine lv_istore (lv' := [(4, .int x_30), (3, .int i_17), (6, .int x_30), (5, .int i_17), (0, .ref h0), (1, .int p1), (2, .int p2)]) hx hb dX12_less_81 hl (by decide) rfl (fun ls hl => ?_)
          obtain ⟨x_32, ex_32⟩ : ∃ y : Int32, y = i_17 + 1 := ⟨_, rfl⟩
          have vx_32 := b_add (rfl : i_17.toInt = _) (by decide : (1 : Int32).toInt = 1) ex_32 (by omega) (by omega)
          refine lv_iinc (v := x_32) (lv' := [(5, .int x_32), (4, .int x_30), (3, .int i_17), (6, .int x_30), (0, .ref h0), (1, .int p1), (2, .int p2)]) hx hb dX12_less_83 hl (k := 3) rfl (by rw [ex_32]; rfl) (by decide) rfl (fun ls hl => ?_)
          refine lv_goto (tgt := 40) hx hb dX12_less_86 (by decide) ?_
          exact ih_20 ⟨i_17, x_30, x_32, σ_28, ρ_29⟩ _ _ _ ⟨(by omega), (by omega), hB, hS, lv_sub hl [0, 1, 2, 4, 5, 6] rfl⟩ (by show (8 - x_32.toInt).toNat < (8 - i_17.toInt).toNat; omega)
        · skip
          have uc_31 := j_nlt c_31
          refine lv_goto (tgt := 83) hx hb dX12_less_73 (by decide) ?_
          obtain ⟨x_33, ex_33⟩ : ∃ y : Int32, y = i_17 + 1 := ⟨_, rfl⟩
          have vx_33 := b_add (rfl : i_17.toInt = _) (by decide : (1 : Int32).toInt = 1) ex_33 (by omega) (by omega)
          refine lv_iinc (v := x_33) (lv' := [(5, .int x_33), (6, .int x_30), (4, .int i_16), (3, .int i_15), (0, .ref h0), (1, .int p1), (2, .int p2)]) hx hb dX12_less_83 hl (k := 1) rfl (by rw [ex_33]; rfl) (by decide) rfl (fun ls hl => ?_)
          refine lv_goto (tgt := 40) hx hb dX12_less_86 (by decide) ?_
          exact ih_20 ⟨i_15, i_16, x_33, σ_28, ρ_29⟩ _ _ _ ⟨(by omega), (by omega), hB, hS, lv_sub hl [0, 2, 3, 4, 5, 6] rfl⟩ (by show (8 - x_33.toInt).toNat < (8 - i_17.toInt).toNat; omega)
    · skip
      have uc_8 := i_eq (n := 0) (by decide) c_8
      refine lv_iconst (v := (-1)) hx hb dX12_less_18 (by decide) ?_
      exact W.iret (v := (-1)) hx hb hr (fun t ht hW => ⟨⟨(-1), (σ, ρ_6), rfl, ⟨hB.2.1, hB.2.2, trivial⟩, (show TP D cA L T r σ ρ_6 t.heap from by rw [ht]; exact hB.1)⟩, hS.F ht⟩) hS.2.2 dX12_less_19
theorem dX12_bothWays_0 : decode cX12_bothWays 0 = .ok (.iconst 0, 1) := by decide +kernel
theorem dX12_bothWays_1 : decode cX12_bothWays 1 = .ok (.istore_n 3, 1) := by decide +kernel
theorem dX12_bothWays_2 : decode cX12_bothWays 2 = .ok (.iload_n 3, 1) := by decide +kernel
theorem dX12_bothWays_3 : decode cX12_bothWays 3 = .ok (.iconst 5, 1) := by decide +kernel
theorem dX12_bothWays_4 : decode cX12_bothWays 4 = .ok (.if_icmp .ge 28, 3) := by decide +kernel
theorem dX12_bothWays_7 : decode cX12_bothWays 7 = .ok (.aload_n 0, 1) := by decide +kernel
theorem dX12_bothWays_8 : decode cX12_bothWays 8 = .ok (.getfield 55, 3) := by decide +kernel
theorem dX12_bothWays_11 : decode cX12_bothWays 11 = .ok (.iload_n 3, 1) := by decide +kernel
theorem dX12_bothWays_12 : decode cX12_bothWays 12 = .ok (.aload_n 0, 1) := by decide +kernel
theorem dX12_bothWays_13 : decode cX12_bothWays 13 = .ok (.iload_n 1, 1) := by decide +kernel
theorem dX12_bothWays_14 : decode cX12_bothWays 14 = .ok (.iload_n 3, 1) := by decide +kernel
theorem dX12_bothWays_15 : decode cX12_bothWays 15 = .ok (.invokevirtual 304, 3) := by decide +kernel
theorem dX12_bothWays_18 : decode cX12_bothWays 18 = .ok (.aload_n 0, 1) := by decide +kernel
theorem dX12_bothWays_19 : decode cX12_bothWays 19 = .ok (.iload_n 2, 1) := by decide +kernel
theorem dX12_bothWays_20 : decode cX12_bothWays 20 = .ok (.iload_n 3, 1) := by decide +kernel
theorem dX12_bothWays_21 : decode cX12_bothWays 21 = .ok (.invokevirtual 304, 3) := by decide +kernel
theorem dX12_bothWays_24 : decode cX12_bothWays 24 = .ok (.iadd, 1) := by decide +kernel
theorem dX12_bothWays_25 : decode cX12_bothWays 25 = .ok (.iastore, 1) := by decide +kernel
theorem dX12_bothWays_26 : decode cX12_bothWays 26 = .ok (.iinc 3 1, 3) := by decide +kernel
theorem dX12_bothWays_29 : decode cX12_bothWays 29 = .ok (.goto (-27), 3) := by decide +kernel
theorem dX12_bothWays_32 : decode cX12_bothWays 32 = .ok (.aload_n 0, 1) := by decide +kernel
theorem dX12_bothWays_33 : decode cX12_bothWays 33 = .ok (.aload_n 0, 1) := by decide +kernel
theorem dX12_bothWays_34 : decode cX12_bothWays 34 = .ok (.iload_n 1, 1) := by decide +kernel
theorem dX12_bothWays_35 : decode cX12_bothWays 35 = .ok (.iconst 0, 1) := by decide +kernel
theorem dX12_bothWays_36 : decode cX12_bothWays 36 = .ok (.invokevirtual 324, 3) := by decide +kernel
theorem dX12_bothWays_39 : decode cX12_bothWays 39 = .ok (.iconst (-1), 1) := by decide +kernel
theorem dX12_bothWays_40 : decode cX12_bothWays 40 = .ok (.iconst 2, 1) := by decide +kernel
theorem dX12_bothWays_41 : decode cX12_bothWays 41 = .ok (.invokevirtual 385, 3) := by decide +kernel
theorem dX12_bothWays_44 : decode cX12_bothWays 44 = .ok (.ireturn, 1) := by decide +kernel
set_option maxHeartbeats 4000000 in
set_option maxRecDepth 100000 in
theorem cy_X12_bothWays (l : Launch) (D : va_G) (cA : Nat → ClassId) (L : List Nat) (T : Nat → Nat) (r : Rg) (hG : GR L T r) (hL : L.Nodup) (σ : Sg) (ρ : Lg) (hW : WT L ry T σ) (sz : Nat) (h0 : Nat) (mh0 : h0 ∈ L) (th0 : T h0 = 12) (p1 : Int32) (p2 : Int32) (w0 : 0 ≤ p1.toInt) (w1 : p1.toInt ≤ 3) (w2 : 0 ≤ p2.toInt) (w3 : p2.toInt ≤ 3) : Met l yX12_bothWays (.code yX12_bothWays cX12_bothWays 4 (some .int) :: wsA) ({ frames := 2, cells := 0, slots := 0, locals := 52 }) (PR D cA L T r σ ρ sz [.ref h0, .int p1, .int p2]) (QI D cA L T r ry [(73, 1000), (74, 1000)] σ sz (fun x σ1 => True)) 0 0 (dm L sz) := by
  refine Met.ofW (cc := cX12_bothWays) (maxL := 4) (ret := (some .int)) (by decide) rfl ?_
  intro p e s m args below meth c s₁ B hml hv
  obtain ⟨rfl, hsz, hP, hK, hN⟩ := hv
  have hx := B.exec
  have hb := B.bytes
  have hr := B.returns
  have hts : ∀ w ∈ wsA, w.before _ s = true := fun w h => atoms_spec (ws := .code yX12_bothWays cX12_bothWays 4 (some .int) :: wsA) B.pre w (List.mem_cons_of_mem _ h)
  have hown : s.vm.findClass RX12 = some m.cls := findClass_of_methodNamed B.named
  subst hsz
  have hLA : LA (dm L s.heap.size) L := ⟨hL, fun a h => Or.inl h⟩
  have hA : ∀ q : Nat, s.heap.size ≤ q → dm L s.heap.size q := fun q h => Or.inr h
  have hS : va_S (dm L s.heap.size) s.heap s.heap [] := va_S.rf
  have hB : TS D cA L T r ry [(73, 1000), (74, 1000)] σ σ ρ s.heap := ⟨hP, hW, FR.rf⟩
  have hl := lv_entry ([.ref h0, .int p1, .int p2]) (n := 4) (Nat.le_of_ble_eq_true rfl)
  rw [lg_entry_eq]
  generalize (lg_sl ([.ref h0, .int p1, .int p2]) ++ List.replicate (4 - (lg_sl ([.ref h0, .int p1, .int p2])).length) Slot.unset).toArray = ls at hl ⊢
  have hl : lv_has ls 4 [(0, .ref h0), (1, .int p1), (2, .int p2)] := hl
  refine lv_iconst (v := 0) hx hb dX12_bothWays_0 (by decide) ?_
  refine lv_istore_n (lv' := [(3, .int 0), (0, .ref h0), (1, .int p1), (2, .int p2)]) hx hb dX12_bothWays_1 rfl hl (by decide) rfl (fun ls hl => ?_)
  refine w_loop (α := Int32 × Sg × Lg) (fun (i_1, σ_2, ρ_3) H locs ls => 0 ≤ i_1.toInt ∧ i_1.toInt ≤ 5 ∧ TS D cA L T r ry [(73, 1000), (74, 1000)] σ σ_2 ρ_3 H ∧ va_S (dm L s.heap.size) s.heap H locs ∧ lv_has ls 4 [(3, .int i_1), (0, .ref h0), (1, .int p1), (2, .int p2)]) (fun (i_1, σ_2, ρ_3) => (5 - i_1.toInt).toNat) ?_ ⟨0, σ, ρ⟩ ⟨(by decide), (by decide), hB, hS, lv_sub hl [0, 1, 2, 3] rfl⟩
  rintro ⟨i_1, σ_2, ρ_3⟩ H locs ls ⟨li_1, ui_1, hB, hS, hl⟩ ih_4
  refine lv_iload_n hx hb dX12_bothWays_2 rfl (lv_at hl 0 rfl) ?_
  refine lv_iconst (v := 5) hx hb dX12_bothWays_3 (by decide) ?_
  refine lv_icmp_ge (tgt := 32) hx hb dX12_bothWays_4 (by decide) (fun c_5 => ?_) (fun c_5 => ?_)
  · skip
    have uc_5 := i_ge (n := 5) (by decide) c_5
    refine lv_aload_n hx hb dX12_bothWays_32 rfl (lv_at hl 1 rfl) ?_
    refine lv_aload_n hx hb dX12_bothWays_33 rfl (lv_at hl 1 rfl) ?_
    refine lv_iload_n hx hb dX12_bothWays_34 rfl (lv_at hl 2 rfl) ?_
    refine lv_iconst (v := 0) hx hb dX12_bothWays_35 (by decide) ?_
    refine t_ci (va_runV (As := [.int p1, .int 0]) (rest := [.ref h0]) ⟨hx, hb, hml, hown, hts⟩ (cy_X12_pilgrimOf_0 l D cA L T r hG hLA.1 σ_2 ρ_3 hB.2.1 _ h0 mh0 th0 p1 (by first | omega | decide) (by first | omega | decide)) (cV hts mv_X12_pilgrimOf mw_7_69 rfl rfl ⟨Nat.le_of_ble_eq_true rfl, Nat.le_of_ble_eq_true rfl⟩) (pV hB.1 hK hN mh0 th0 (show shp cA 12 _ _ _ = .inr (12, Fs12 _ _ _) from rfl) rfl) rfl rfl hl.1 rfl (lv_room (Nat.le_of_ble_eq_true rfl)) dX12_bothWays_36 ⟨Nat.le_of_ble_eq_true rfl, Nat.le_of_ble_eq_true rfl⟩) hLA hA hB hS (by decide) (fun x_8 σ_6 ρ_7 H locs hB fσ_6 pσ_6 hS => ?_)
    have qσ_6 := FR.nil fσ_6
    subst qσ_6
    obtain ⟨lx_8, ux_8⟩ := pσ_6
    refine lv_iconst (v := (-1)) hx hb dX12_bothWays_39 (by decide) ?_
    refine lv_iconst (v := 2) hx hb dX12_bothWays_40 (by decide) ?_
    refine t_ci (va_runV (As := [.int x_8, .int (-1), .int 2]) (rest := []) ⟨hx, hb, hml, hown, hts⟩ (cy_X12_waysWith l D cA L T r hG hLA.1 σ_2 ρ_7 hB.2.1 _ h0 mh0 th0 x_8 ((-1)) 2 (by first | omega | decide) (by first | omega | decide)) (cV hts mv_X12_waysWith mw_7_230 rfl rfl ⟨Nat.le_of_ble_eq_true rfl, Nat.le_of_ble_eq_true rfl⟩) (pV hB.1 hK hN mh0 th0 (show shp cA 12 _ _ _ = .inr (12, Fs12 _ _ _) from rfl) rfl) rfl rfl hl.1 rfl (lv_room (Nat.le_of_ble_eq_true rfl)) dX12_bothWays_41 ⟨Nat.le_of_ble_eq_true rfl, Nat.le_of_ble_eq_true rfl⟩) hLA hA hB hS (by decide) (fun x_11 σ_9 ρ_10 H locs hB fσ_9 pσ_9 hS => ?_)
    exact W.iret (v := x_11) hx hb hr (fun t ht hW => ⟨⟨x_11, (σ_9, ρ_10), rfl, ⟨hB.2.1, hB.2.2, trivial⟩, (show TP D cA L T r σ_9 ρ_10 t.heap from by rw [ht]; exact hB.1)⟩, hS.F ht⟩) hS.2.2 dX12_bothWays_44
  · skip
    have uc_5 := i_nge (n := 5) (by decide) c_5
    refine lv_aload_n hx hb dX12_bothWays_7 rfl (lv_at hl 1 rfl) ?_
    refine t_gr hx hb hts hown hK hG hB mh0 th0 fq_12_27 rfl mw_6_3 dX12_bothWays_8 (fun b_12 hb_12 mb_12 tb_12 => ?_)
    refine lv_iload_n hx hb dX12_bothWays_11 rfl (lv_at hl 0 rfl) ?_
    refine lv_aload_n hx hb dX12_bothWays_12 rfl (lv_at hl 1 rfl) ?_
    refine lv_iload_n hx hb dX12_bothWays_13 rfl (lv_at hl 2 rfl) ?_
    refine lv_iload_n hx hb dX12_bothWays_14 rfl (lv_at hl 0 rfl) ?_
    refine t_ci (va_runV (As := [.int p1, .int i_1]) (rest := [.int i_1, .ref b_12]) ⟨hx, hb, hml, hown, hts⟩ (cy_X12_hasOf l D cA L T r hG hLA.1 σ_2 ρ_3 hB.2.1 _ h0 mh0 th0 p1 i_1 (by first | omega | decide) (by first | omega | decide) (by first | omega | decide) (by first | omega | decide)) (cV hts mv_X12_hasOf mw_7_77 rfl rfl ⟨Nat.le_of_ble_eq_true rfl, Nat.le_of_ble_eq_true rfl⟩) (pV hB.1 hK hN mh0 th0 (show shp cA 12 _ _ _ = .inr (12, Fs12 _ _ _) from rfl) rfl) rfl rfl hl.1 rfl (lv_room (Nat.le_of_ble_eq_true rfl)) dX12_bothWays_15 ⟨Nat.le_of_ble_eq_true rfl, Nat.le_of_ble_eq_true rfl⟩) hLA hA hB hS (by decide) (fun x_15 σ_13 ρ_14 H locs hB fσ_13 pσ_13 hS => ?_)
    have qσ_13 := FR.nil fσ_13
    subst qσ_13
    refine lv_aload_n hx hb dX12_bothWays_18 rfl (lv_at hl 1 rfl) ?_
    refine lv_iload_n hx hb dX12_bothWays_19 rfl (lv_at hl 3 rfl) ?_
    refine lv_iload_n hx hb dX12_bothWays_20 rfl (lv_at hl 0 rfl) ?_
    refine t_ci (va_runV (As := [.int p2, .int i_1]) (rest := [.int x_15, .int i_1, .ref b_12]) ⟨hx, hb, hml, hown, hts⟩ (cy_X12_hasOf l D cA L T r hG hLA.1 σ_2 ρ_14 hB.2.1 _ h0 mh0 th0 p2 i_1 (by first | omega | decide) (by first | omega | decide) (by first | omega | decide) (by first | omega | decide)) (cV hts mv_X12_hasOf mw_7_77 rfl rfl ⟨Nat.le_of_ble_eq_true rfl, Nat.le_of_ble_eq_true rfl⟩) (pV hB.1 hK hN mh0 th0 (show shp cA 12 _ _ _ = .inr (12, Fs12 _ _ _) from rfl) rfl) rfl rfl hl.1 rfl (lv_room (Nat.le_of_ble_eq_true rfl)) dX12_bothWays_21 ⟨Nat.le_of_ble_eq_true rfl, Nat.le_of_ble_eq_true rfl⟩) hLA hA hB hS (by decide) (fun x_18 σ_16 ρ_17 H locs hB fσ_16 pσ_16 hS => ?_)
    have qσ_16 := FR.nil fσ_16
    subst qσ_16
    refine lv_iadd hx hb dX12_bothWays_24 ?_
    refine lv_topi (fun x_19 ex_19 => ?_)
    try have vx_19 := b_add (rfl : x_15.toInt = _) (rfl : x_18.toInt = _) ex_19 (by omega) (by omega)
    refine t_si hx hb hK hLA hB hS mb_12 tb_12 ai_74 (i_in (by omega) (by omega)) (i_lo _) (i_hi _) (Or.inr (by decide)) dX12_bothWays_25 (fun H locs σ_20 eσ_20 hB hS => ?_)
    have k_21 : σ_20 b_12 i_1.toNatClampNeg = x_19 := by rw [eσ_20]; exact up2_same _ _ _ _
    obtain ⟨x_22, ex_22⟩ : ∃ y : Int32, y = i_1 + 1 := ⟨_, rfl⟩
    have vx_22 := b_add (rfl : i_1.toInt = _) (by decide : (1 : Int32).toInt = 1) ex_22 (by omega) (by omega)
    refine lv_iinc (v := x_22) (lv' := [(3, .int x_22), (0, .ref h0), (1, .int p1), (2, .int p2)]) hx hb dX12_bothWays_26 hl (k := 0) rfl (by rw [ex_22]; rfl) (by decide) rfl (fun ls hl => ?_)
    refine lv_goto (tgt := 2) hx hb dX12_bothWays_29 (by decide) ?_
    exact ih_4 ⟨x_22, σ_20, ρ_17⟩ _ _ _ ⟨(by omega), (by omega), hB, hS, lv_sub hl [0, 1, 2, 3] rfl⟩ (by show (5 - x_22.toInt).toNat < (5 - i_1.toInt).toNat; omega)
theorem mw_8_4 : (.instanceMethod yX12_bothWays : Cond) ∈ wsA := wsA_t (List.mem_append_right _ (List.mem_append_right _ (List.mem_append_right _ (List.mem_append_right _ (List.mem_append_right _ (List.mem_append_right _ (List.mem_append_right _ (List.mem_of_getElem? (l := tables_1_8) (i := 4) rfl)))))))) rfl
theorem mp_7_9 : (.selects RX12 yX12_bothWays yX12_bothWays : Cond) ∈ wsA := wsA_p (q := (yX12_bothWays, 44)) (List.mem_append_right _ (List.mem_append_right _ (List.mem_append_right _ (List.mem_append_right _ (List.mem_append_right _ (List.mem_append_right _ (List.mem_append_left _ (List.mem_of_getElem? (l := lw_privs_7) (i := 9) rfl))))))))
theorem mw_8_5 : (.code yX12_bothWays cX12_bothWays 4 (some .int) : Cond) ∈ wsA := wsA_t (List.mem_append_right _ (List.mem_append_right _ (List.mem_append_right _ (List.mem_append_right _ (List.mem_append_right _ (List.mem_append_right _ (List.mem_append_right _ (List.mem_of_getElem? (l := tables_1_8) (i := 5) rfl)))))))) rfl
theorem mw_8_2 : (.methodLink RX12 389 yX12_bothWays : Cond) ∈ wsA := wsA_t (List.mem_append_right _ (List.mem_append_right _ (List.mem_append_right _ (List.mem_append_right _ (List.mem_append_right _ (List.mem_append_right _ (List.mem_append_right _ (List.mem_of_getElem? (l := tables_1_8) (i := 2) rfl)))))))) rfl
theorem dX12_both_0 : decode cX12_both 0 = .ok (.aload_n 0, 1) := by decide +kernel
theorem dX12_both_1 : decode cX12_both 1 = .ok (.iload_n 1, 1) := by decide +kernel
theorem dX12_both_2 : decode cX12_both 2 = .ok (.invokevirtual 319, 3) := by decide +kernel
theorem dX12_both_5 : decode cX12_both 5 = .ok (.ifCond .eq 31, 3) := by decide +kernel
theorem dX12_both_36 : decode cX12_both 36 = .ok (.iconst (-1), 1) := by decide +kernel
theorem dX12_both_37 : decode cX12_both 37 = .ok (.ireturn, 1) := by decide +kernel
theorem dX12_both_8 : decode cX12_both 8 = .ok (.aload_n 0, 1) := by decide +kernel
theorem dX12_both_9 : decode cX12_both 9 = .ok (.iload_n 2, 1) := by decide +kernel
theorem dX12_both_10 : decode cX12_both 10 = .ok (.invokevirtual 319, 3) := by decide +kernel
theorem dX12_both_13 : decode cX12_both 13 = .ok (.ifCond .eq 23, 3) := by decide +kernel
theorem dX12_both_16 : decode cX12_both 16 = .ok (.iload_n 1, 1) := by decide +kernel
theorem dX12_both_17 : decode cX12_both 17 = .ok (.iload_n 2, 1) := by decide +kernel
theorem dX12_both_18 : decode cX12_both 18 = .ok (.if_icmp .eq 18, 3) := by decide +kernel
theorem dX12_both_21 : decode cX12_both 21 = .ok (.aload_n 0, 1) := by decide +kernel
theorem dX12_both_22 : decode cX12_both 22 = .ok (.iload_n 1, 1) := by decide +kernel
theorem dX12_both_23 : decode cX12_both 23 = .ok (.iconst 0, 1) := by decide +kernel
theorem dX12_both_24 : decode cX12_both 24 = .ok (.invokevirtual 324, 3) := by decide +kernel
theorem dX12_both_27 : decode cX12_both 27 = .ok (.aload_n 0, 1) := by decide +kernel
theorem dX12_both_28 : decode cX12_both 28 = .ok (.iload_n 2, 1) := by decide +kernel
theorem dX12_both_29 : decode cX12_both 29 = .ok (.iconst 0, 1) := by decide +kernel
theorem dX12_both_30 : decode cX12_both 30 = .ok (.invokevirtual 324, 3) := by decide +kernel
theorem dX12_both_33 : decode cX12_both 33 = .ok (.if_icmp .eq 5, 3) := by decide +kernel
theorem dX12_both_38 : decode cX12_both 38 = .ok (.aload_n 0, 1) := by decide +kernel
theorem dX12_both_39 : decode cX12_both 39 = .ok (.iload_n 1, 1) := by decide +kernel
theorem dX12_both_40 : decode cX12_both 40 = .ok (.iload_n 2, 1) := by decide +kernel
theorem dX12_both_41 : decode cX12_both 41 = .ok (.invokevirtual 389, 3) := by decide +kernel
theorem dX12_both_44 : decode cX12_both 44 = .ok (.ireturn, 1) := by decide +kernel
theorem mv_X12_bothWays : MV RX12 yX12_bothWays cX12_bothWays 4 (some .int) 2 := ⟨mw_8_4, mp_7_9, mw_1_13, mw_8_5, ⟨rfl, by decide, by decide, by decide +kernel⟩⟩
set_option maxHeartbeats 4000000 in
set_option maxRecDepth 100000 in
theorem cy_X12_both (l : Launch) (D : va_G) (cA : Nat → ClassId) (L : List Nat) (T : Nat → Nat) (r : Rg) (hG : GR L T r) (hL : L.Nodup) (σ : Sg) (ρ : Lg) (hW : WT L ry T σ) (sz : Nat) (h0 : Nat) (mh0 : h0 ∈ L) (th0 : T h0 = 12) (p1 : Int32) (p2 : Int32) : Met l yX12_both (.code yX12_both cX12_both 3 (some .int) :: wsA) ({ frames := 3, cells := 0, slots := 0, locals := 75 }) (PR D cA L T r σ ρ sz [.ref h0, .int p1, .int p2]) (QI D cA L T r ry [(73, 1000), (74, 1000)] σ sz (fun x σ1 => True)) 0 0 (dm L sz) := by
  refine Met.ofW (cc := cX12_both) (maxL := 3) (ret := (some .int)) (by decide) rfl ?_
  intro p e s m args below meth c s₁ B hml hv
  obtain ⟨rfl, hsz, hP, hK, hN⟩ := hv
  have hx := B.exec
  have hb := B.bytes
  have hr := B.returns
  have hts : ∀ w ∈ wsA, w.before _ s = true := fun w h => atoms_spec (ws := .code yX12_both cX12_both 3 (some .int) :: wsA) B.pre w (List.mem_cons_of_mem _ h)
  have hown : s.vm.findClass RX12 = some m.cls := findClass_of_methodNamed B.named
  subst hsz
  have hLA : LA (dm L s.heap.size) L := ⟨hL, fun a h => Or.inl h⟩
  have hA : ∀ q : Nat, s.heap.size ≤ q → dm L s.heap.size q := fun q h => Or.inr h
  have hS : va_S (dm L s.heap.size) s.heap s.heap [] := va_S.rf
  have hB : TS D cA L T r ry [(73, 1000), (74, 1000)] σ σ ρ s.heap := ⟨hP, hW, FR.rf⟩
  have hl := lv_entry ([.ref h0, .int p1, .int p2]) (n := 3) (Nat.le_of_ble_eq_true rfl)
  rw [lg_entry_eq]
  generalize (lg_sl ([.ref h0, .int p1, .int p2]) ++ List.replicate (3 - (lg_sl ([.ref h0, .int p1, .int p2])).length) Slot.unset).toArray = ls at hl ⊢
  have hl : lv_has ls 3 [(0, .ref h0), (1, .int p1), (2, .int p2)] := hl
  refine lv_aload_n hx hb dX12_both_0 rfl (lv_at hl 0 rfl) ?_
  refine lv_iload_n hx hb dX12_both_1 rfl (lv_at hl 1 rfl) ?_
  refine t_ci (va_runV (As := [.int p1]) (rest := []) ⟨hx, hb, hml, hown, hts⟩ (cy_X12_isPilgrim l D cA L T r hG hLA.1 σ ρ hB.2.1 _ h0 mh0 th0 p1) (cV hts mv_X12_isPilgrim mw_7_64 rfl rfl ⟨Nat.le_of_ble_eq_true rfl, Nat.le_of_ble_eq_true rfl⟩) (pV hB.1 hK hN mh0 th0 (show shp cA 12 _ _ _ = .inr (12, Fs12 _ _ _) from rfl) rfl) rfl rfl hl.1 rfl (lv_room (Nat.le_of_ble_eq_true rfl)) dX12_both_2 ⟨Nat.le_of_ble_eq_true rfl, Nat.le_of_ble_eq_true rfl⟩) hLA hA hB hS (by decide) (fun x_3 σ_1 ρ_2 H locs hB fσ_1 pσ_1 hS => ?_)
  have qσ_1 := FR.nil fσ_1
  subst qσ_1
  obtain ⟨ox_3, ix_3⟩ := pσ_1
  refine lv_if_eq (tgt := 36) hx hb dX12_both_5 (by decide) (fun c_4 => ?_) (fun c_4 => ?_)
  · skip
    have uc_4 := i_eq (n := 0) (by decide) c_4
    refine lv_iconst (v := (-1)) hx hb dX12_both_36 (by decide) ?_
    exact W.iret (v := (-1)) hx hb hr (fun t ht hW => ⟨⟨(-1), (σ, ρ_2), rfl, ⟨hB.2.1, hB.2.2, trivial⟩, (show TP D cA L T r σ ρ_2 t.heap from by rw [ht]; exact hB.1)⟩, hS.F ht⟩) hS.2.2 dX12_both_37
  · skip
    have uc_4 := i_ne (n := 0) (by decide) c_4
    refine lv_aload_n hx hb dX12_both_8 rfl (lv_at hl 0 rfl) ?_
    refine lv_iload_n hx hb dX12_both_9 rfl (lv_at hl 2 rfl) ?_
    refine t_ci (va_runV (As := [.int p2]) (rest := []) ⟨hx, hb, hml, hown, hts⟩ (cy_X12_isPilgrim l D cA L T r hG hLA.1 σ ρ_2 hB.2.1 _ h0 mh0 th0 p2) (cV hts mv_X12_isPilgrim mw_7_64 rfl rfl ⟨Nat.le_of_ble_eq_true rfl, Nat.le_of_ble_eq_true rfl⟩) (pV hB.1 hK hN mh0 th0 (show shp cA 12 _ _ _ = .inr (12, Fs12 _ _ _) from rfl) rfl) rfl rfl hl.1 rfl (lv_room (Nat.le_of_ble_eq_true rfl)) dX12_both_10 ⟨Nat.le_of_ble_eq_true rfl, Nat.le_of_ble_eq_true rfl⟩) hLA hA hB hS (by decide) (fun x_7 σ_5 ρ_6 H locs hB fσ_5 pσ_5 hS => ?_)
    have qσ_5 := FR.nil fσ_5
    subst qσ_5
    obtain ⟨ox_7, ix_7⟩ := pσ_5
    refine lv_if_eq (tgt := 36) hx hb dX12_both_13 (by decide) (fun c_8 => ?_) (fun c_8 => ?_)
    · skip
      have uc_8 := i_eq (n := 0) (by decide) c_8
      refine lv_iconst (v := (-1)) hx hb dX12_both_36 (by decide) ?_
      exact W.iret (v := (-1)) hx hb hr (fun t ht hW => ⟨⟨(-1), (σ, ρ_6), rfl, ⟨hB.2.1, hB.2.2, trivial⟩, (show TP D cA L T r σ ρ_6 t.heap from by rw [ht]; exact hB.1)⟩, hS.F ht⟩) hS.2.2 dX12_both_37
    · skip
      have uc_8 := i_ne (n := 0) (by decide) c_8
      refine lv_iload_n hx hb dX12_both_16 rfl (lv_at hl 1 rfl) ?_
      refine lv_iload_n hx hb dX12_both_17 rfl (lv_at hl 2 rfl) ?_
      refine lv_icmp_eq (tgt := 36) hx hb dX12_both_18 (by decide) (fun c_9 => ?_) (fun c_9 => ?_)
      · skip
        have uc_9 := j_eq c_9
        refine lv_iconst (v := (-1)) hx hb dX12_both_36 (by decide) ?_
        exact W.iret (v := (-1)) hx hb hr (fun t ht hW => ⟨⟨(-1), (σ, ρ_6), rfl, ⟨hB.2.1, hB.2.2, trivial⟩, (show TP D cA L T r σ ρ_6 t.heap from by rw [ht]; exact hB.1)⟩, hS.F ht⟩) hS.2.2 dX12_both_37
      · skip
        have uc_9 := j_ne c_9
        refine lv_aload_n hx hb dX12_both_21 rfl (lv_at hl 0 rfl) ?_
        refine lv_iload_n hx hb dX12_both_22 rfl (lv_at hl 1 rfl) ?_
        refine lv_iconst (v := 0) hx hb dX12_both_23 (by decide) ?_
        refine t_ci (va_runV (As := [.int p1, .int 0]) (rest := []) ⟨hx, hb, hml, hown, hts⟩ (cy_X12_pilgrimOf_0 l D cA L T r hG hLA.1 σ ρ_6 hB.2.1 _ h0 mh0 th0 p1 (by first | omega | decide) (by first | omega | decide)) (cV hts mv_X12_pilgrimOf mw_7_69 rfl rfl ⟨Nat.le_of_ble_eq_true rfl, Nat.le_of_ble_eq_true rfl⟩) (pV hB.1 hK hN mh0 th0 (show shp cA 12 _ _ _ = .inr (12, Fs12 _ _ _) from rfl) rfl) rfl rfl hl.1 rfl (lv_room (Nat.le_of_ble_eq_true rfl)) dX12_both_24 ⟨Nat.le_of_ble_eq_true rfl, Nat.le_of_ble_eq_true rfl⟩) hLA hA hB hS (by decide) (fun x_12 σ_10 ρ_11 H locs hB fσ_10 pσ_10 hS => ?_)
        have qσ_10 := FR.nil fσ_10
        subst qσ_10
        obtain ⟨lx_12, ux_12⟩ := pσ_10
        refine lv_aload_n hx hb dX12_both_27 rfl (lv_at hl 0 rfl) ?_
        refine lv_iload_n hx hb dX12_both_28 rfl (lv_at hl 2 rfl) ?_
        refine lv_iconst (v := 0) hx hb dX12_both_29 (by decide) ?_
        refine t_ci (va_runV (As := [.int p2, .int 0]) (rest := [.int x_12]) ⟨hx, hb, hml, hown, hts⟩ (cy_X12_pilgrimOf_0 l D cA L T r hG hLA.1 σ ρ_11 hB.2.1 _ h0 mh0 th0 p2 (by first | omega | decide) (by first | omega | decide)) (cV hts mv_X12_pilgrimOf mw_7_69 rfl rfl ⟨Nat.le_of_ble_eq_true rfl, Nat.le_of_ble_eq_true rfl⟩) (pV hB.1 hK hN mh0 th0 (show shp cA 12 _ _ _ = .inr (12, Fs12 _ _ _) from rfl) rfl) rfl rfl hl.1 rfl (lv_room (Nat.le_of_ble_eq_true rfl)) dX12_both_30 ⟨Nat.le_of_ble_eq_true rfl, Nat.le_of_ble_eq_true rfl⟩) hLA hA hB hS (by decide) (fun x_15 σ_13 ρ_14 H locs hB fσ_13 pσ_13 hS => ?_)
        have qσ_13 := FR.nil fσ_13
        subst qσ_13
        obtain ⟨lx_15, ux_15⟩ := pσ_13
        refine lv_icmp_eq (tgt := 38) hx hb dX12_both_33 (by decide) (fun c_16 => ?_) (fun c_16 => ?_)
        · skip
          have uc_16 := j_eq c_16
          refine lv_aload_n hx hb dX12_both_38 rfl (lv_at hl 0 rfl) ?_
          refine lv_iload_n hx hb dX12_both_39 rfl (lv_at hl 1 rfl) ?_
          refine lv_iload_n hx hb dX12_both_40 rfl (lv_at hl 2 rfl) ?_
          refine t_ci (va_runV (As := [.int p1, .int p2]) (rest := []) ⟨hx, hb, hml, hown, hts⟩ (cy_X12_bothWays l D cA L T r hG hLA.1 σ ρ_14 hB.2.1 _ h0 mh0 th0 p1 p2 (by first | omega | decide) (by first | omega | decide) (by first | omega | decide) (by first | omega | decide)) (cV hts mv_X12_bothWays mw_8_2 rfl rfl ⟨Nat.le_of_ble_eq_true rfl, Nat.le_of_ble_eq_true rfl⟩) (pV hB.1 hK hN mh0 th0 (show shp cA 12 _ _ _ = .inr (12, Fs12 _ _ _) from rfl) rfl) rfl rfl hl.1 rfl (lv_room (Nat.le_of_ble_eq_true rfl)) dX12_both_41 ⟨Nat.le_of_ble_eq_true rfl, Nat.le_of_ble_eq_true rfl⟩) hLA hA hB hS (by decide) (fun x_19 σ_17 ρ_18 H locs hB fσ_17 pσ_17 hS => ?_)
          exact W.iret (v := x_19) hx hb hr (fun t ht hW => ⟨⟨x_19, (σ_17, ρ_18), rfl, ⟨hB.2.1, hB.2.2, trivial⟩, (show TP D cA L T r σ_17 ρ_18 t.heap from by rw [ht]; exact hB.1)⟩, hS.F ht⟩) hS.2.2 dX12_both_44
        · skip
          have uc_16 := j_ne c_16
          refine lv_iconst (v := (-1)) hx hb dX12_both_36 (by decide) ?_
          exact W.iret (v := (-1)) hx hb hr (fun t ht hW => ⟨⟨(-1), (σ, ρ_14), rfl, ⟨hB.2.1, hB.2.2, trivial⟩, (show TP D cA L T r σ ρ_14 t.heap from by rw [ht]; exact hB.1)⟩, hS.F ht⟩) hS.2.2 dX12_both_37
theorem dX12_partner_0 : decode cX12_partner 0 = .ok (.aload_n 0, 1) := by decide +kernel
theorem dX12_partner_1 : decode cX12_partner 1 = .ok (.iload_n 1, 1) := by decide +kernel
theorem dX12_partner_2 : decode cX12_partner 2 = .ok (.invokevirtual 319, 3) := by decide +kernel
theorem dX12_partner_5 : decode cX12_partner 5 = .ok (.ifCond .eq 13, 3) := by decide +kernel
theorem dX12_partner_18 : decode cX12_partner 18 = .ok (.iconst (-1), 1) := by decide +kernel
theorem dX12_partner_19 : decode cX12_partner 19 = .ok (.ireturn, 1) := by decide +kernel
theorem dX12_partner_8 : decode cX12_partner 8 = .ok (.iload_n 2, 1) := by decide +kernel
theorem dX12_partner_9 : decode cX12_partner 9 = .ok (.i2l, 1) := by decide +kernel
theorem dX12_partner_10 : decode cX12_partner 10 = .ok (.lconst 0, 1) := by decide +kernel
theorem dX12_partner_11 : decode cX12_partner 11 = .ok (.lconst 1, 1) := by decide +kernel
theorem dX12_partner_12 : decode cX12_partner 12 = .ok (.invokestatic 130, 3) := by decide +kernel
theorem dX12_partner_15 : decode cX12_partner 15 = .ok (.ifCond .ne 5, 3) := by decide +kernel
theorem dX12_partner_20 : decode cX12_partner 20 = .ok (.bipush (-2), 2) := by decide +kernel
theorem dX12_partner_22 : decode cX12_partner 22 = .ok (.istore_n 3, 1) := by decide +kernel
theorem dX12_partner_23 : decode cX12_partner 23 = .ok (.bipush (-2), 2) := by decide +kernel
theorem dX12_partner_25 : decode cX12_partner 25 = .ok (.istore 4, 2) := by decide +kernel
theorem dX12_partner_27 : decode cX12_partner 27 = .ok (.iconst 0, 1) := by decide +kernel
theorem dX12_partner_28 : decode cX12_partner 28 = .ok (.istore 5, 2) := by decide +kernel
theorem dX12_partner_30 : decode cX12_partner 30 = .ok (.iload 5, 2) := by decide +kernel
theorem dX12_partner_32 : decode cX12_partner 32 = .ok (.aload_n 0, 1) := by decide +kernel
theorem dX12_partner_33 : decode cX12_partner 33 = .ok (.getfield 39, 3) := by decide +kernel
theorem dX12_partner_36 : decode cX12_partner 36 = .ok (.iconst 3, 1) := by decide +kernel
theorem dX12_partner_37 : decode cX12_partner 37 = .ok (.iaload, 1) := by decide +kernel
theorem dX12_partner_38 : decode cX12_partner 38 = .ok (.if_icmp .ge 60, 3) := by decide +kernel
theorem dX12_partner_41 : decode cX12_partner 41 = .ok (.iload 5, 2) := by decide +kernel
theorem dX12_partner_43 : decode cX12_partner 43 = .ok (.iload_n 1, 1) := by decide +kernel
theorem dX12_partner_44 : decode cX12_partner 44 = .ok (.if_icmp .eq 48, 3) := by decide +kernel
theorem dX12_partner_92 : decode cX12_partner 92 = .ok (.iinc 5 1, 3) := by decide +kernel
theorem dX12_partner_95 : decode cX12_partner 95 = .ok (.goto (-65), 3) := by decide +kernel
theorem dX12_partner_47 : decode cX12_partner 47 = .ok (.aload_n 0, 1) := by decide +kernel
theorem dX12_partner_48 : decode cX12_partner 48 = .ok (.iload 5, 2) := by decide +kernel
theorem dX12_partner_50 : decode cX12_partner 50 = .ok (.iconst 0, 1) := by decide +kernel
theorem dX12_partner_51 : decode cX12_partner 51 = .ok (.invokevirtual 324, 3) := by decide +kernel
theorem dX12_partner_54 : decode cX12_partner 54 = .ok (.aload_n 0, 1) := by decide +kernel
theorem dX12_partner_55 : decode cX12_partner 55 = .ok (.iload_n 1, 1) := by decide +kernel
theorem dX12_partner_56 : decode cX12_partner 56 = .ok (.iconst 0, 1) := by decide +kernel
theorem dX12_partner_57 : decode cX12_partner 57 = .ok (.invokevirtual 324, 3) := by decide +kernel
theorem dX12_partner_60 : decode cX12_partner 60 = .ok (.if_icmp .eq 6, 3) := by decide +kernel
theorem dX12_partner_66 : decode cX12_partner 66 = .ok (.aload_n 0, 1) := by decide +kernel
theorem dX12_partner_67 : decode cX12_partner 67 = .ok (.iload_n 1, 1) := by decide +kernel
theorem dX12_partner_68 : decode cX12_partner 68 = .ok (.iload 5, 2) := by decide +kernel
theorem dX12_partner_70 : decode cX12_partner 70 = .ok (.invokevirtual 389, 3) := by decide +kernel
theorem dX12_partner_73 : decode cX12_partner 73 = .ok (.istore 6, 2) := by decide +kernel
theorem dX12_partner_75 : decode cX12_partner 75 = .ok (.iload 6, 2) := by decide +kernel
theorem dX12_partner_77 : decode cX12_partner 77 = .ok (.iload 4, 2) := by decide +kernel
theorem dX12_partner_79 : decode cX12_partner 79 = .ok (.if_icmp .gt 6, 3) := by decide +kernel
theorem dX12_partner_85 : decode cX12_partner 85 = .ok (.iload 5, 2) := by decide +kernel
theorem dX12_partner_87 : decode cX12_partner 87 = .ok (.istore_n 3, 1) := by decide +kernel
theorem dX12_partner_88 : decode cX12_partner 88 = .ok (.iload 6, 2) := by decide +kernel
theorem dX12_partner_90 : decode cX12_partner 90 = .ok (.istore 4, 2) := by decide +kernel
theorem dX12_partner_82 : decode cX12_partner 82 = .ok (.goto 10, 3) := by decide +kernel
theorem dX12_partner_63 : decode cX12_partner 63 = .ok (.goto 29, 3) := by decide +kernel
theorem dX12_partner_98 : decode cX12_partner 98 = .ok (.iload_n 2, 1) := by decide +kernel
theorem dX12_partner_99 : decode cX12_partner 99 = .ok (.ifCond .ne 7, 3) := by decide +kernel
theorem dX12_partner_106 : decode cX12_partner 106 = .ok (.iload 4, 2) := by decide +kernel
theorem dX12_partner_108 : decode cX12_partner 108 = .ok (.ireturn, 1) := by decide +kernel
theorem dX12_partner_102 : decode cX12_partner 102 = .ok (.iload_n 3, 1) := by decide +kernel
theorem dX12_partner_103 : decode cX12_partner 103 = .ok (.goto 5, 3) := by decide +kernel
set_option maxHeartbeats 4000000 in
set_option maxRecDepth 100000 in
theorem cy_X12_partner (l : Launch) (D : va_G) (cA : Nat → ClassId) (L : List Nat) (T : Nat → Nat) (r : Rg) (hG : GR L T r) (hL : L.Nodup) (σ : Sg) (ρ : Lg) (hW : WT L ry T σ) (sz : Nat) (h0 : Nat) (mh0 : h0 ∈ L) (th0 : T h0 = 12) (p1 : Int32) (p2 : Int32) : Met l yX12_partner (.code yX12_partner cX12_partner 7 (some .int) :: wsA) ({ frames := 3, cells := 0, slots := 0, locals := 75 }) (PR D cA L T r σ ρ sz [.ref h0, .int p1, .int p2]) (QI D cA L T r ry [(73, 1000), (74, 1000)] σ sz (fun x σ1 => True)) 0 0 (dm L sz) := by
  refine Met.ofW (cc := cX12_partner) (maxL := 7) (ret := (some .int)) (by decide) rfl ?_
  intro p e s m args below meth c s₁ B hml hv
  obtain ⟨rfl, hsz, hP, hK, hN⟩ := hv
  have hx := B.exec
  have hb := B.bytes
  have hr := B.returns
  have hts : ∀ w ∈ wsA, w.before _ s = true := fun w h => atoms_spec (ws := .code yX12_partner cX12_partner 7 (some .int) :: wsA) B.pre w (List.mem_cons_of_mem _ h)
  have hown : s.vm.findClass RX12 = some m.cls := findClass_of_methodNamed B.named
  subst hsz
  have hLA : LA (dm L s.heap.size) L := ⟨hL, fun a h => Or.inl h⟩
  have hA : ∀ q : Nat, s.heap.size ≤ q → dm L s.heap.size q := fun q h => Or.inr h
  have hS : va_S (dm L s.heap.size) s.heap s.heap [] := va_S.rf
  have hB : TS D cA L T r ry [(73, 1000), (74, 1000)] σ σ ρ s.heap := ⟨hP, hW, FR.rf⟩
  have hl := lv_entry ([.ref h0, .int p1, .int p2]) (n := 7) (Nat.le_of_ble_eq_true rfl)
  rw [lg_entry_eq]
  generalize (lg_sl ([.ref h0, .int p1, .int p2]) ++ List.replicate (7 - (lg_sl ([.ref h0, .int p1, .int p2])).length) Slot.unset).toArray = ls at hl ⊢
  have hl : lv_has ls 7 [(0, .ref h0), (1, .int p1), (2, .int p2)] := hl
  refine lv_aload_n hx hb dX12_partner_0 rfl (lv_at hl 0 rfl) ?_
  refine lv_iload_n hx hb dX12_partner_1 rfl (lv_at hl 1 rfl) ?_
  refine t_ci (va_runV (As := [.int p1]) (rest := []) ⟨hx, hb, hml, hown, hts⟩ (cy_X12_isPilgrim l D cA L T r hG hLA.1 σ ρ hB.2.1 _ h0 mh0 th0 p1) (cV hts mv_X12_isPilgrim mw_7_64 rfl rfl ⟨Nat.le_of_ble_eq_true rfl, Nat.le_of_ble_eq_true rfl⟩) (pV hB.1 hK hN mh0 th0 (show shp cA 12 _ _ _ = .inr (12, Fs12 _ _ _) from rfl) rfl) rfl rfl hl.1 rfl (lv_room (Nat.le_of_ble_eq_true rfl)) dX12_partner_2 ⟨Nat.le_of_ble_eq_true rfl, Nat.le_of_ble_eq_true rfl⟩) hLA hA hB hS (by decide) (fun x_3 σ_1 ρ_2 H locs hB fσ_1 pσ_1 hS => ?_)
  have qσ_1 := FR.nil fσ_1
  subst qσ_1
  obtain ⟨ox_3, ix_3⟩ := pσ_1
  refine lv_if_eq (tgt := 18) hx hb dX12_partner_5 (by decide) (fun c_4 => ?_) (fun c_4 => ?_)
  · skip
    have uc_4 := i_eq (n := 0) (by decide) c_4
    refine lv_iconst (v := (-1)) hx hb dX12_partner_18 (by decide) ?_
    exact W.iret (v := (-1)) hx hb hr (fun t ht hW => ⟨⟨(-1), (σ, ρ_2), rfl, ⟨hB.2.1, hB.2.2, trivial⟩, (show TP D cA L T r σ ρ_2 t.heap from by rw [ht]; exact hB.1)⟩, hS.F ht⟩) hS.2.2 dX12_partner_19
  · skip
    have uc_4 := i_ne (n := 0) (by decide) c_4
    refine lv_iload_n hx hb dX12_partner_8 rfl (lv_at hl 2 rfl) ?_
    refine lv_i2l (v := p2.toInt64) hx hb dX12_partner_9 rfl ?_
    refine lv_lconst (v := 0) hx hb dX12_partner_10 (by decide) ?_
    refine lv_lconst (v := 1) hx hb dX12_partner_11 (by decide) ?_
    refine t_ci (va_runS (As := [.long p2.toInt64, .long 0, .long 1]) (rest := []) ⟨hx, hb, hml, hown, hts⟩ (cy_X12_in_0_1 l D cA L T r hG hLA.1 σ ρ_2 hB.2.1 _ p2) (cS hts ms_X12_in mw_6_185 rfl rfl ⟨Nat.le_of_ble_eq_true rfl, Nat.le_of_ble_eq_true rfl⟩) (pS hB.1 hK hN) rfl rfl hl.1 rfl (lv_room (Nat.le_of_ble_eq_true rfl)) dX12_partner_12 ⟨Nat.le_of_ble_eq_true rfl, Nat.le_of_ble_eq_true rfl⟩) hLA hA hB hS (by decide) (fun x_7 σ_5 ρ_6 H locs hB fσ_5 pσ_5 hS => ?_)
    have qσ_5 := FR.nil fσ_5
    subst qσ_5
    obtain ⟨ox_7, ix_7⟩ := pσ_5
    refine lv_if_ne (tgt := 20) hx hb dX12_partner_15 (by decide) (fun c_8 => ?_) (fun c_8 => ?_)
    · skip
      have uc_8 := i_ne (n := 0) (by decide) c_8
      refine lv_bipush (v := (-2)) hx hb dX12_partner_20 (by decide) ?_
      refine lv_istore_n (lv' := [(3, .int (-2)), (0, .ref h0), (1, .int p1), (2, .int p2)]) hx hb dX12_partner_22 rfl hl (by decide) rfl (fun ls hl => ?_)
      refine lv_bipush (v := (-2)) hx hb dX12_partner_23 (by decide) ?_
      refine lv_istore (lv' := [(4, .int (-2)), (3, .int (-2)), (0, .ref h0), (1, .int p1), (2, .int p2)]) hx hb dX12_partner_25 hl (by decide) rfl (fun ls hl => ?_)
      refine lv_iconst (v := 0) hx hb dX12_partner_27 (by decide) ?_
      refine lv_istore (lv' := [(5, .int 0), (4, .int (-2)), (3, .int (-2)), (0, .ref h0), (1, .int p1), (2, .int p2)]) hx hb dX12_partner_28 hl (by decide) rfl (fun ls hl => ?_)
      refine w_loop (α := Int32 × Int32 × Int32 × Sg × Lg) (fun (i_9, i_10, i_11, σ_12, ρ_13) H locs ls => 0 ≤ i_11.toInt ∧ i_11.toInt ≤ 4 ∧ TS D cA L T r ry [(73, 1000), (74, 1000)] σ σ_12 ρ_13 H ∧ va_S (dm L s.heap.size) s.heap H locs ∧ lv_has ls 7 [(5, .int i_11), (4, .int i_10), (3, .int i_9), (0, .ref h0), (1, .int p1), (2, .int p2)]) (fun (i_9, i_10, i_11, σ_12, ρ_13) => (4 - i_11.toInt).toNat) ?_ ⟨(-2), (-2), 0, σ, ρ_6⟩ ⟨(by decide), (by decide), hB, hS, lv_sub hl [0, 1, 2, 3, 4, 5] rfl⟩
      rintro ⟨i_9, i_10, i_11, σ_12, ρ_13⟩ H locs ls ⟨li_11, ui_11, hB, hS, hl⟩ ih_14
      refine lv_iload hx hb dX12_partner_30 (lv_at hl 0 rfl) ?_
      refine lv_aload_n hx hb dX12_partner_32 rfl (lv_at hl 3 rfl) ?_
      refine t_gr hx hb hts hown hK hG hB mh0 th0 fq_12_20 rfl mw_5_236 dX12_partner_33 (fun b_15 hb_15 mb_15 tb_15 => ?_)
      refine lv_iconst (v := 3) hx hb dX12_partner_36 (by decide) ?_
      refine t_aj hx hb hK hB mb_15 tb_15 ai_70 (i_in (by decide) (by decide)) dX12_partner_37 (fun x_16 ex_16 lx_16 ux_16 => ?_)
      have lx_16 : 0 ≤ x_16.toInt := lx_16
      have ux_16 : x_16.toInt ≤ 4 := ux_16
      have cx_16 := congrArg Int32.toInt ex_16
      refine lv_icmp_ge (tgt := 98) hx hb dX12_partner_38 (by decide) (fun c_17 => ?_) (fun c_17 => ?_)
      · skip
        have uc_17 := j_le c_17
        refine lv_iload_n hx hb dX12_partner_98 rfl (lv_at hl 5 rfl) ?_
        refine lv_if_ne (tgt := 106) hx hb dX12_partner_99 (by decide) (fun c_18 => ?_) (fun c_18 => ?_)
        · skip
          have uc_18 := i_ne (n := 0) (by decide) c_18
          refine lv_iload hx hb dX12_partner_106 (lv_at hl 1 rfl) ?_
          exact W.iret (v := i_10) hx hb hr (fun t ht hW => ⟨⟨i_10, (σ_12, ρ_13), rfl, ⟨hB.2.1, hB.2.2, trivial⟩, (show TP D cA L T r σ_12 ρ_13 t.heap from by rw [ht]; exact hB.1)⟩, hS.F ht⟩) hS.2.2 dX12_partner_108
        · skip
          have uc_18 := i_eq (n := 0) (by decide) c_18
          refine lv_iload_n hx hb dX12_partner_102 rfl (lv_at hl 2 rfl) ?_
          refine lv_goto (tgt := 108) hx hb dX12_partner_103 (by decide) ?_
          exact W.iret (v := i_9) hx hb hr (fun t ht hW => ⟨⟨i_9, (σ_12, ρ_13), rfl, ⟨hB.2.1, hB.2.2, trivial⟩, (show TP D cA L T r σ_12 ρ_13 t.heap from by rw [ht]; exact hB.1)⟩, hS.F ht⟩) hS.2.2 dX12_partner_108
      · skip
        have uc_17 := j_nle c_17
        refine lv_iload hx hb dX12_partner_41 (lv_at hl 0 rfl) ?_
        refine lv_iload_n hx hb dX12_partner_43 rfl (lv_at hl 4 rfl) ?_
        refine lv_icmp_eq (tgt := 92) hx hb dX12_partner_44 (by decide) (fun c_19 => ?_) (fun c_19 => ?_)
        · skip
          have uc_19 := j_eq c_19
          obtain ⟨x_20, ex_20⟩ : ∃ y : Int32, y = i_11 + 1 := ⟨_, rfl⟩
          have vx_20 := b_add (rfl : i_11.toInt = _) (by decide : (1 : Int32).toInt = 1) ex_20 (by omega) (by omega)
          refine lv_iinc (v := x_20) (lv' := [(5, .int x_20), (4, .int i_10), (3, .int i_9), (0, .ref h0), (1, .int p1), (2, .int p2)]) hx hb dX12_partner_92 hl (k := 0) rfl (by rw [ex_20]; rfl) (by decide) rfl (fun ls hl => ?_)
          refine lv_goto (tgt := 30) hx hb dX12_partner_95 (by decide) ?_
          exact ih_14 ⟨i_9, i_10, x_20, σ_12, ρ_13⟩ _ _ _ ⟨(by omega), (by omega), hB, hS, lv_sub hl [0, 1, 2, 3, 4, 5] rfl⟩ (by show (4 - x_20.toInt).toNat < (4 - i_11.toInt).toNat; omega)
        · skip
          have uc_19 := j_ne c_19
          refine lv_aload_n hx hb dX12_partner_47 rfl (lv_at hl 3 rfl) ?_
          refine lv_iload hx hb dX12_partner_48 (lv_at hl 0 rfl) ?_
          refine lv_iconst (v := 0) hx hb dX12_partner_50 (by decide) ?_
          refine t_ci (va_runV (As := [.int i_11, .int 0]) (rest := []) ⟨hx, hb, hml, hown, hts⟩ (cy_X12_pilgrimOf_0 l D cA L T r hG hLA.1 σ_12 ρ_13 hB.2.1 _ h0 mh0 th0 i_11 (by first | omega | decide) (by first | omega | decide)) (cV hts mv_X12_pilgrimOf mw_7_69 rfl rfl ⟨Nat.le_of_ble_eq_true rfl, Nat.le_of_ble_eq_true rfl⟩) (pV hB.1 hK hN mh0 th0 (show shp cA 12 _ _ _ = .inr (12, Fs12 _ _ _) from rfl) rfl) rfl rfl hl.1 rfl (lv_room (Nat.le_of_ble_eq_true rfl)) dX12_partner_51 ⟨Nat.le_of_ble_eq_true rfl, Nat.le_of_ble_eq_true rfl⟩) hLA hA hB hS (by decide) (fun x_23 σ_21 ρ_22 H locs hB fσ_21 pσ_21 hS => ?_)
          have qσ_21 := FR.nil fσ_21
          subst qσ_21
          obtain ⟨lx_23, ux_23⟩ := pσ_21
          refine lv_aload_n hx hb dX12_partner_54 rfl (lv_at hl 3 rfl) ?_
          refine lv_iload_n hx hb dX12_partner_55 rfl (lv_at hl 4 rfl) ?_
          refine lv_iconst (v := 0) hx hb dX12_partner_56 (by decide) ?_
          refine t_ci (va_runV (As := [.int p1, .int 0]) (rest := [.int x_23]) ⟨hx, hb, hml, hown, hts⟩ (cy_X12_pilgrimOf_0 l D cA L T r hG hLA.1 σ_12 ρ_22 hB.2.1 _ h0 mh0 th0 p1 (by first | omega | decide) (by first | omega | decide)) (cV hts mv_X12_pilgrimOf mw_7_69 rfl rfl ⟨Nat.le_of_ble_eq_true rfl, Nat.le_of_ble_eq_true rfl⟩) (pV hB.1 hK hN mh0 th0 (show shp cA 12 _ _ _ = .inr (12, Fs12 _ _ _) from rfl) rfl) rfl rfl hl.1 rfl (lv_room (Nat.le_of_ble_eq_true rfl)) dX12_partner_57 ⟨Nat.le_of_ble_eq_true rfl, Nat.le_of_ble_eq_true rfl⟩) hLA hA hB hS (by decide) (fun x_26 σ_24 ρ_25 H locs hB fσ_24 pσ_24 hS => ?_)
          have qσ_24 := FR.nil fσ_24
          subst qσ_24
          obtain ⟨lx_26, ux_26⟩ := pσ_24
          refine lv_icmp_eq (tgt := 66) hx hb dX12_partner_60 (by decide) (fun c_27 => ?_) (fun c_27 => ?_)
          · skip
            have uc_27 := j_eq c_27
            refine lv_aload_n hx hb dX12_partner_66 rfl (lv_at hl 3 rfl) ?_
            refine lv_iload_n hx hb dX12_partner_67 rfl (lv_at hl 4 rfl) ?_
            refine lv_iload hx hb dX12_partner_68 (lv_at hl 0 rfl) ?_
            refine t_ci (va_runV (As := [.int p1, .int i_11]) (rest := []) ⟨hx, hb, hml, hown, hts⟩ (cy_X12_bothWays l D cA L T r hG hLA.1 σ_12 ρ_25 hB.2.1 _ h0 mh0 th0 p1 i_11 (by first | omega | decide) (by first | omega | decide) (by first | omega | decide) (by first | omega | decide)) (cV hts mv_X12_bothWays mw_8_2 rfl rfl ⟨Nat.le_of_ble_eq_true rfl, Nat.le_of_ble_eq_true rfl⟩) (pV hB.1 hK hN mh0 th0 (show shp cA 12 _ _ _ = .inr (12, Fs12 _ _ _) from rfl) rfl) rfl rfl hl.1 rfl (lv_room (Nat.le_of_ble_eq_true rfl)) dX12_partner_70 ⟨Nat.le_of_ble_eq_true rfl, Nat.le_of_ble_eq_true rfl⟩) hLA hA hB hS (by decide) (fun x_30 σ_28 ρ_29 H locs hB fσ_28 pσ_28 hS => ?_)
            refine lv_istore (lv' := [(6, .int x_30), (5, .int i_11), (4, .int i_10), (3, .int i_9), (0, .ref h0), (1, .int p1), (2, .int p2)]) hx hb dX12_partner_73 hl (by decide) rfl (fun ls hl => ?_)
            refine lv_iload hx hb dX12_partner_75 (lv_at hl 0 rfl) ?_
            refine lv_iload hx hb dX12_partner_77 (lv_at hl 2 rfl) ?_
            refine lv_icmp_gt (tgt := 85) hx hb dX12_partner_79 (by decide) (fun c_31 => ?_) (fun c_31 => ?_)
            · skip
              have uc_31 := j_lt c_31
              refine lv_iload hx hb dX12_partner_85 (lv_at hl 1 rfl) ?_
              refine lv_istore_n (lv' := [(3, .int i_11), (6, .int x_30), (5, .int i_11), (4, .int i_10), (0, .ref h0), (1, .int p1), (2, .int p2)]) hx hb dX12_partner_87 rfl hl (by decide) rfl (fun ls hl => ?_)
              refine lv_iload hx hb dX12_partner_88 (lv_at hl 1 rfl) ?_
              refine lv_istore (lv' := [(4, .int x_30), (3, .int i_11), (6, .int x_30), (5, .int i_11), (0, .ref h0), (1, .int p1), (2, .int p2)]) hx hb dX12_partner_90 hl (by decide) rfl (fun ls hl => ?_)
              obtain ⟨x_32, ex_32⟩ : ∃ y : Int32, y = i_11 + 1 := ⟨_, rfl⟩
              have vx_32 := b_add (rfl : i_11.toInt = _) (by decide : (1 : Int32).toInt = 1) ex_32 (by omega) (by omega)
              refine lv_iinc (v := x_32) (lv' := [(5, .int x_32), (4, .int x_30), (3, .int i_11), (6, .int x_30), (0, .ref h0), (1, .int p1), (2, .int p2)]) hx hb dX12_partner_92 hl (k := 3) rfl (by rw [ex_32]; rfl) (by decide) rfl (fun ls hl => ?_)
              refine lv_goto (tgt := 30) hx hb dX12_partner_95 (by decide) ?_
              exact ih_14 ⟨i_11, x_30, x_32, σ_28, ρ_29⟩ _ _ _ ⟨(by omega), (by omega), hB, hS, lv_sub hl [0, 1, 2, 4, 5, 6] rfl⟩ (by show (4 - x_32.toInt).toNat < (4 - i_11.toInt).toNat; omega)
            · skip
              have uc_31 := j_nlt c_31
              refine lv_goto (tgt := 92) hx hb dX12_partner_82 (by decide) ?_
              obtain ⟨x_33, ex_33⟩ : ∃ y : Int32, y = i_11 + 1 := ⟨_, rfl⟩
              have vx_33 := b_add (rfl : i_11.toInt = _) (by decide : (1 : Int32).toInt = 1) ex_33 (by omega) (by omega)
              refine lv_iinc (v := x_33) (lv' := [(5, .int x_33), (6, .int x_30), (4, .int i_10), (3, .int i_9), (0, .ref h0), (1, .int p1), (2, .int p2)]) hx hb dX12_partner_92 hl (k := 1) rfl (by rw [ex_33]; rfl) (by decide) rfl (fun ls hl => ?_)
              refine lv_goto (tgt := 30) hx hb dX12_partner_95 (by decide) ?_
              exact ih_14 ⟨i_9, i_10, x_33, σ_28, ρ_29⟩ _ _ _ ⟨(by omega), (by omega), hB, hS, lv_sub hl [0, 2, 3, 4, 5, 6] rfl⟩ (by show (4 - x_33.toInt).toNat < (4 - i_11.toInt).toNat; omega)
          · skip
            have uc_27 := j_ne c_27
            refine lv_goto (tgt := 92) hx hb dX12_partner_63 (by decide) ?_
            obtain ⟨x_34, ex_34⟩ : ∃ y : Int32, y = i_11 + 1 := ⟨_, rfl⟩
            have vx_34 := b_add (rfl : i_11.toInt = _) (by decide : (1 : Int32).toInt = 1) ex_34 (by omega) (by omega)
            refine lv_iinc (v := x_34) (lv' := [(5, .int x_34), (4, .int i_10), (3, .int i_9), (0, .ref h0), (1, .int p1), (2, .int p2)]) hx hb dX12_partner_92 hl (k := 0) rfl (by rw [ex_34]; rfl) (by decide) rfl (fun ls hl => ?_)
            refine lv_goto (tgt := 30) hx hb dX12_partner_95 (by decide) ?_
            exact ih_14 ⟨i_9, i_10, x_34, σ_12, ρ_25⟩ _ _ _ ⟨(by omega), (by omega), hB, hS, lv_sub hl [0, 1, 2, 3, 4, 5] rfl⟩ (by show (4 - x_34.toInt).toNat < (4 - i_11.toInt).toNat; omega)
    · skip
      have uc_8 := i_eq (n := 0) (by decide) c_8
      refine lv_iconst (v := (-1)) hx hb dX12_partner_18 (by decide) ?_
      exact W.iret (v := (-1)) hx hb hr (fun t ht hW => ⟨⟨(-1), (σ, ρ_6), rfl, ⟨hB.2.1, hB.2.2, trivial⟩, (show TP D cA L T r σ ρ_6 t.heap from by rw [ht]; exact hB.1)⟩, hS.F ht⟩) hS.2.2 dX12_partner_19
theorem dX12_isGift_0 : decode cX12_isGift 0 = .ok (.iconst 0, 1) := by decide +kernel
theorem dX12_isGift_1 : decode cX12_isGift 1 = .ok (.istore_n 3, 1) := by decide +kernel
theorem dX12_isGift_2 : decode cX12_isGift 2 = .ok (.iload_n 3, 1) := by decide +kernel
theorem dX12_isGift_3 : decode cX12_isGift 3 = .ok (.iconst 5, 1) := by decide +kernel
theorem dX12_isGift_4 : decode cX12_isGift 4 = .ok (.if_icmp .ge 25, 3) := by decide +kernel
theorem dX12_isGift_7 : decode cX12_isGift 7 = .ok (.aload_n 0, 1) := by decide +kernel
theorem dX12_isGift_8 : decode cX12_isGift 8 = .ok (.getfield 52, 3) := by decide +kernel
theorem dX12_isGift_11 : decode cX12_isGift 11 = .ok (.iload_n 3, 1) := by decide +kernel
theorem dX12_isGift_12 : decode cX12_isGift 12 = .ok (.aload_n 0, 1) := by decide +kernel
theorem dX12_isGift_13 : decode cX12_isGift 13 = .ok (.getfield 39, 3) := by decide +kernel
theorem dX12_isGift_16 : decode cX12_isGift 16 = .ok (.sipush 165, 3) := by decide +kernel
theorem dX12_isGift_19 : decode cX12_isGift 19 = .ok (.iload_n 3, 1) := by decide +kernel
theorem dX12_isGift_20 : decode cX12_isGift 20 = .ok (.iadd, 1) := by decide +kernel
theorem dX12_isGift_21 : decode cX12_isGift 21 = .ok (.iaload, 1) := by decide +kernel
theorem dX12_isGift_22 : decode cX12_isGift 22 = .ok (.iastore, 1) := by decide +kernel
theorem dX12_isGift_23 : decode cX12_isGift 23 = .ok (.iinc 3 1, 3) := by decide +kernel
theorem dX12_isGift_26 : decode cX12_isGift 26 = .ok (.goto (-24), 3) := by decide +kernel
theorem dX12_isGift_29 : decode cX12_isGift 29 = .ok (.iconst 0, 1) := by decide +kernel
theorem dX12_isGift_30 : decode cX12_isGift 30 = .ok (.istore_n 3, 1) := by decide +kernel
theorem dX12_isGift_31 : decode cX12_isGift 31 = .ok (.iload_n 3, 1) := by decide +kernel
theorem dX12_isGift_32 : decode cX12_isGift 32 = .ok (.iload_n 2, 1) := by decide +kernel
theorem dX12_isGift_33 : decode cX12_isGift 33 = .ok (.if_icmp .ge 75, 3) := by decide +kernel
theorem dX12_isGift_36 : decode cX12_isGift 36 = .ok (.iload_n 1, 1) := by decide +kernel
theorem dX12_isGift_37 : decode cX12_isGift 37 = .ok (.iload_n 2, 1) := by decide +kernel
theorem dX12_isGift_38 : decode cX12_isGift 38 = .ok (.iconst 1, 1) := by decide +kernel
theorem dX12_isGift_39 : decode cX12_isGift 39 = .ok (.isub, 1) := by decide +kernel
theorem dX12_isGift_40 : decode cX12_isGift 40 = .ok (.iload_n 3, 1) := by decide +kernel
theorem dX12_isGift_41 : decode cX12_isGift 41 = .ok (.isub, 1) := by decide +kernel
theorem dX12_isGift_42 : decode cX12_isGift 42 = .ok (.ishr, 1) := by decide +kernel
theorem dX12_isGift_43 : decode cX12_isGift 43 = .ok (.iconst 1, 1) := by decide +kernel
theorem dX12_isGift_44 : decode cX12_isGift 44 = .ok (.iand, 1) := by decide +kernel
theorem dX12_isGift_45 : decode cX12_isGift 45 = .ok (.istore 4, 2) := by decide +kernel
theorem dX12_isGift_47 : decode cX12_isGift 47 = .ok (.iload 4, 2) := by decide +kernel
theorem dX12_isGift_49 : decode cX12_isGift 49 = .ok (.iconst 1, 1) := by decide +kernel
theorem dX12_isGift_50 : decode cX12_isGift 50 = .ok (.if_icmp .ne 20, 3) := by decide +kernel
theorem dX12_isGift_70 : decode cX12_isGift 70 = .ok (.aload_n 0, 1) := by decide +kernel
theorem dX12_isGift_71 : decode cX12_isGift 71 = .ok (.iload_n 3, 1) := by decide +kernel
theorem dX12_isGift_72 : decode cX12_isGift 72 = .ok (.iload 4, 2) := by decide +kernel
theorem dX12_isGift_74 : decode cX12_isGift 74 = .ok (.invokevirtual 300, 3) := by decide +kernel
theorem dX12_isGift_77 : decode cX12_isGift 77 = .ok (.istore 5, 2) := by decide +kernel
theorem dX12_isGift_79 : decode cX12_isGift 79 = .ok (.aload_n 0, 1) := by decide +kernel
theorem dX12_isGift_80 : decode cX12_isGift 80 = .ok (.getfield 52, 3) := by decide +kernel
theorem dX12_isGift_83 : decode cX12_isGift 83 = .ok (.iload 5, 2) := by decide +kernel
theorem dX12_isGift_85 : decode cX12_isGift 85 = .ok (.dup2, 1) := by decide +kernel
theorem dX12_isGift_86 : decode cX12_isGift 86 = .ok (.iaload, 1) := by decide +kernel
theorem dX12_isGift_87 : decode cX12_isGift 87 = .ok (.iconst 1, 1) := by decide +kernel
theorem dX12_isGift_88 : decode cX12_isGift 88 = .ok (.isub, 1) := by decide +kernel
theorem dX12_isGift_89 : decode cX12_isGift 89 = .ok (.iastore, 1) := by decide +kernel
theorem dX12_isGift_90 : decode cX12_isGift 90 = .ok (.aload_n 0, 1) := by decide +kernel
theorem dX12_isGift_91 : decode cX12_isGift 91 = .ok (.getfield 52, 3) := by decide +kernel
theorem dX12_isGift_94 : decode cX12_isGift 94 = .ok (.iload 5, 2) := by decide +kernel
theorem dX12_isGift_96 : decode cX12_isGift 96 = .ok (.iaload, 1) := by decide +kernel
theorem dX12_isGift_97 : decode cX12_isGift 97 = .ok (.ifCond .ge 5, 3) := by decide +kernel
theorem dX12_isGift_102 : decode cX12_isGift 102 = .ok (.iinc 3 1, 3) := by decide +kernel
theorem dX12_isGift_105 : decode cX12_isGift 105 = .ok (.goto (-74), 3) := by decide +kernel
theorem dX12_isGift_100 : decode cX12_isGift 100 = .ok (.iconst 0, 1) := by decide +kernel
theorem dX12_isGift_101 : decode cX12_isGift 101 = .ok (.ireturn, 1) := by decide +kernel
theorem dX12_isGift_53 : decode cX12_isGift 53 = .ok (.aload_n 0, 1) := by decide +kernel
theorem dX12_isGift_54 : decode cX12_isGift 54 = .ok (.iload_n 3, 1) := by decide +kernel
theorem dX12_isGift_55 : decode cX12_isGift 55 = .ok (.iconst 0, 1) := by decide +kernel
theorem dX12_isGift_56 : decode cX12_isGift 56 = .ok (.invokevirtual 300, 3) := by decide +kernel
theorem dX12_isGift_59 : decode cX12_isGift 59 = .ok (.aload_n 0, 1) := by decide +kernel
theorem dX12_isGift_60 : decode cX12_isGift 60 = .ok (.iload_n 3, 1) := by decide +kernel
theorem dX12_isGift_61 : decode cX12_isGift 61 = .ok (.iconst 1, 1) := by decide +kernel
theorem dX12_isGift_62 : decode cX12_isGift 62 = .ok (.invokevirtual 300, 3) := by decide +kernel
theorem dX12_isGift_65 : decode cX12_isGift 65 = .ok (.if_icmp .ne 5, 3) := by decide +kernel
theorem dX12_isGift_68 : decode cX12_isGift 68 = .ok (.iconst 0, 1) := by decide +kernel
theorem dX12_isGift_69 : decode cX12_isGift 69 = .ok (.ireturn, 1) := by decide +kernel
theorem dX12_isGift_108 : decode cX12_isGift 108 = .ok (.iconst 1, 1) := by decide +kernel
theorem dX12_isGift_109 : decode cX12_isGift 109 = .ok (.ireturn, 1) := by decide +kernel
set_option maxHeartbeats 4000000 in
set_option maxRecDepth 100000 in
theorem cy_X12_isGift (l : Launch) (D : va_G) (cA : Nat → ClassId) (L : List Nat) (T : Nat → Nat) (r : Rg) (hG : GR L T r) (hL : L.Nodup) (σ : Sg) (ρ : Lg) (hW : WT L ry T σ) (sz : Nat) (h0 : Nat) (mh0 : h0 ∈ L) (th0 : T h0 = 12) (p1 : Int32) (p2 : Int32) (w0 : 0 ≤ p2.toInt) (w1 : p2.toInt ≤ 8) : Met l yX12_isGift (.code yX12_isGift cX12_isGift 6 (some .boolean) :: wsA) ({ frames := 1, cells := 0, slots := 0, locals := 22 }) (PR D cA L T r σ ρ sz [.ref h0, .int p1, .int p2]) (QI D cA L T r ry [(73, 1000)] σ sz (fun x σ1 => (0 ≤ x.toInt ∧ x.toInt ≤ 1))) 0 0 (dm L sz) := by
  refine Met.ofW (cc := cX12_isGift) (maxL := 6) (ret := (some .boolean)) (by decide) rfl ?_
  intro p e s m args below meth c s₁ B hml hv
  obtain ⟨rfl, hsz, hP, hK, hN⟩ := hv
  have hx := B.exec
  have hb := B.bytes
  have hr := B.returns
  have hts : ∀ w ∈ wsA, w.before _ s = true := fun w h => atoms_spec (ws := .code yX12_isGift cX12_isGift 6 (some .boolean) :: wsA) B.pre w (List.mem_cons_of_mem _ h)
  have hown : s.vm.findClass RX12 = some m.cls := findClass_of_methodNamed B.named
  subst hsz
  have hLA : LA (dm L s.heap.size) L := ⟨hL, fun a h => Or.inl h⟩
  have hA : ∀ q : Nat, s.heap.size ≤ q → dm L s.heap.size q := fun q h => Or.inr h
  have hS : va_S (dm L s.heap.size) s.heap s.heap [] := va_S.rf
  have hB : TS D cA L T r ry [(73, 1000)] σ σ ρ s.heap := ⟨hP, hW, FR.rf⟩
  have hl := lv_entry ([.ref h0, .int p1, .int p2]) (n := 6) (Nat.le_of_ble_eq_true rfl)
  rw [lg_entry_eq]
  generalize (lg_sl ([.ref h0, .int p1, .int p2]) ++ List.replicate (6 - (lg_sl ([.ref h0, .int p1, .int p2])).length) Slot.unset).toArray = ls at hl ⊢
  have hl : lv_has ls 6 [(0, .ref h0), (1, .int p1), (2, .int p2)] := hl
  refine lv_iconst (v := 0) hx hb dX12_isGift_0 (by decide) ?_
  refine lv_istore_n (lv' := [(3, .int 0), (0, .ref h0), (1, .int p1), (2, .int p2)]) hx hb dX12_isGift_1 rfl hl (by decide) rfl (fun ls hl => ?_)
  refine w_loop (α := Int32 × Sg × Lg) (fun (i_1, σ_2, ρ_3) H locs ls => 0 ≤ i_1.toInt ∧ i_1.toInt ≤ 5 ∧ TS D cA L T r ry [(73, 1000)] σ σ_2 ρ_3 H ∧ va_S (dm L s.heap.size) s.heap H locs ∧ lv_has ls 6 [(3, .int i_1), (0, .ref h0), (1, .int p1), (2, .int p2)]) (fun (i_1, σ_2, ρ_3) => (5 - i_1.toInt).toNat) ?_ ⟨0, σ, ρ⟩ ⟨(by decide), (by decide), hB, hS, lv_sub hl [0, 1, 2, 3] rfl⟩
  rintro ⟨i_1, σ_2, ρ_3⟩ H locs ls ⟨li_1, ui_1, hB, hS, hl⟩ ih_4
  refine lv_iload_n hx hb dX12_isGift_2 rfl (lv_at hl 0 rfl) ?_
  refine lv_iconst (v := 5) hx hb dX12_isGift_3 (by decide) ?_
  refine lv_icmp_ge (tgt := 29) hx hb dX12_isGift_4 (by decide) (fun c_5 => ?_) (fun c_5 => ?_)
  · skip
    have uc_5 := i_ge (n := 5) (by decide) c_5
    refine lv_iconst (v := 0) hx hb dX12_isGift_29 (by decide) ?_
    refine lv_istore_n (lv' := [(3, .int 0), (0, .ref h0), (1, .int p1), (2, .int p2)]) hx hb dX12_isGift_30 rfl hl (by decide) rfl (fun ls hl => ?_)
    refine w_loop (α := Int32 × Sg × Lg) (fun (i_6, σ_7, ρ_8) H locs ls => 0 ≤ i_6.toInt ∧ i_6.toInt ≤ 8 ∧ TS D cA L T r ry [(73, 1000)] σ σ_7 ρ_8 H ∧ va_S (dm L s.heap.size) s.heap H locs ∧ lv_has ls 6 [(3, .int i_6), (0, .ref h0), (1, .int p1), (2, .int p2)]) (fun (i_6, σ_7, ρ_8) => (8 - i_6.toInt).toNat) ?_ ⟨0, σ_2, ρ_3⟩ ⟨(by decide), (by decide), hB, hS, lv_sub hl [0, 1, 2, 3] rfl⟩
    rintro ⟨i_6, σ_7, ρ_8⟩ H locs ls ⟨li_6, ui_6, hB, hS, hl⟩ ih_9
    refine lv_iload_n hx hb dX12_isGift_31 rfl (lv_at hl 0 rfl) ?_
    refine lv_iload_n hx hb dX12_isGift_32 rfl (lv_at hl 3 rfl) ?_
    refine lv_icmp_ge (tgt := 108) hx hb dX12_isGift_33 (by decide) (fun c_10 => ?_) (fun c_10 => ?_)
    · skip
      have uc_10 := j_le c_10
      refine lv_iconst (v := 1) hx hb dX12_isGift_108 (by decide) ?_
      exact W.zret (v := 1) hx hb hr rfl (fun t ht hW => ⟨⟨1, (σ_7, ρ_8), rfl, ⟨hB.2.1, hB.2.2, (show 0 ≤ (1 : Int32).toInt ∧ (1 : Int32).toInt ≤ 1 from ⟨by decide, by decide⟩)⟩, (show TP D cA L T r σ_7 ρ_8 t.heap from by rw [ht]; exact hB.1)⟩, hS.F ht⟩) hS.2.2 dX12_isGift_109
    · skip
      have uc_10 := j_nle c_10
      refine lv_iload_n hx hb dX12_isGift_36 rfl (lv_at hl 2 rfl) ?_
      refine lv_iload_n hx hb dX12_isGift_37 rfl (lv_at hl 3 rfl) ?_
      refine lv_iconst (v := 1) hx hb dX12_isGift_38 (by decide) ?_
      refine lv_isub hx hb dX12_isGift_39 ?_
      refine lv_topi (fun x_11 ex_11 => ?_)
      have vx_11 := b_sub (rfl : p2.toInt = _) (by decide : (1 : Int32).toInt = 1) ex_11 (by omega) (by omega)
      refine lv_iload_n hx hb dX12_isGift_40 rfl (lv_at hl 0 rfl) ?_
      refine lv_isub hx hb dX12_isGift_41 ?_
      refine lv_topi (fun x_12 ex_12 => ?_)
      have vx_12 := b_sub (rfl : x_11.toInt = _) (rfl : i_6.toInt = _) ex_12 (by omega) (by omega)
      refine lv_ishr hx hb dX12_isGift_42 ?_
      refine lv_topi (fun x_13 ex_13 => ?_)
      refine lv_iconst (v := 1) hx hb dX12_isGift_43 (by decide) ?_
      refine lv_iand hx hb dX12_isGift_44 ?_
      refine lv_topi (fun x_14 ex_14 => ?_)
      obtain ⟨lx_14, ux_14⟩ := and_m 1 (n := 1) (by decide) (by decide) (by decide) ex_14
      refine lv_istore (lv' := [(4, .int x_14), (3, .int i_6), (0, .ref h0), (1, .int p1), (2, .int p2)]) hx hb dX12_isGift_45 hl (by decide) rfl (fun ls hl => ?_)
      refine lv_iload hx hb dX12_isGift_47 (lv_at hl 0 rfl) ?_
      refine lv_iconst (v := 1) hx hb dX12_isGift_49 (by decide) ?_
      refine lv_icmp_ne (tgt := 70) hx hb dX12_isGift_50 (by decide) (fun c_15 => ?_) (fun c_15 => ?_)
      · skip
        have uc_15 := i_ne (n := 1) (by decide) c_15
        refine lv_aload_n hx hb dX12_isGift_70 rfl (lv_at hl 2 rfl) ?_
        refine lv_iload_n hx hb dX12_isGift_71 rfl (lv_at hl 1 rfl) ?_
        refine lv_iload hx hb dX12_isGift_72 (lv_at hl 0 rfl) ?_
        refine t_ci (va_runV (As := [.int i_6, .int x_14]) (rest := []) ⟨hx, hb, hml, hown, hts⟩ (cy_X12_sortOf l D cA L T r hG hLA.1 σ_7 ρ_8 hB.2.1 _ h0 mh0 th0 i_6 x_14 (by first | omega | decide) (by first | omega | decide) (by first | omega | decide) (by first | omega | decide)) (cV hts mv_X12_sortOf mw_7_94 rfl rfl ⟨Nat.le_of_ble_eq_true rfl, Nat.le_of_ble_eq_true rfl⟩) (pV hB.1 hK hN mh0 th0 (show shp cA 12 _ _ _ = .inr (12, Fs12 _ _ _) from rfl) rfl) rfl rfl hl.1 rfl (lv_room (Nat.le_of_ble_eq_true rfl)) dX12_isGift_74 ⟨Nat.le_of_ble_eq_true rfl, Nat.le_of_ble_eq_true rfl⟩) hLA hA hB hS (by decide) (fun x_18 σ_16 ρ_17 H locs hB fσ_16 pσ_16 hS => ?_)
        have qσ_16 := FR.nil fσ_16
        subst qσ_16
        obtain ⟨lx_18, ux_18⟩ := pσ_16
        refine lv_istore (lv' := [(5, .int x_18), (4, .int x_14), (3, .int i_6), (0, .ref h0), (1, .int p1), (2, .int p2)]) hx hb dX12_isGift_77 hl (by decide) rfl (fun ls hl => ?_)
        refine lv_aload_n hx hb dX12_isGift_79 rfl (lv_at hl 3 rfl) ?_
        refine t_gr hx hb hts hown hK hG hB mh0 th0 fq_12_26 rfl mw_6_2 dX12_isGift_80 (fun b_19 hb_19 mb_19 tb_19 => ?_)
        refine lv_iload hx hb dX12_isGift_83 (lv_at hl 0 rfl) ?_
        refine lv_dup2_11 hx hb dX12_isGift_85 rfl rfl ?_
        refine t_ai hx hb hK hB mb_19 tb_19 ai_73 (fun _ => rfl) (i_in (by omega) (by omega)) dX12_isGift_86 (fun x_20 ex_20 lx_20 ux_20 => ?_)
        have cx_20 := congrArg Int32.toInt ex_20
        refine lv_iconst (v := 1) hx hb dX12_isGift_87 (by decide) ?_
        refine lv_isub hx hb dX12_isGift_88 ?_
        refine lv_topi (fun x_21 ex_21 => ?_)
        try have vx_21 := b_sub (rfl : x_20.toInt = _) (by decide : (1 : Int32).toInt = 1) ex_21 (by omega) (by omega)
        refine t_si hx hb hK hLA hB hS mb_19 tb_19 ai_73 (i_in (by omega) (by omega)) (i_lo _) (i_hi _) (Or.inr (by decide)) dX12_isGift_89 (fun H locs σ_22 eσ_22 hB hS => ?_)
        have k_23 : σ_22 b_19 x_18.toNatClampNeg = x_21 := by rw [eσ_22]; exact up2_same _ _ _ _
        refine lv_aload_n hx hb dX12_isGift_90 rfl (lv_at hl 3 rfl) ?_
        refine t_gk hx hb hts hown hK hB mh0 th0 fq_12_26 hb_19 mw_6_2 dX12_isGift_91 ?_
        refine lv_iload hx hb dX12_isGift_94 (lv_at hl 0 rfl) ?_
        refine t_ai hx hb hK hB mb_19 tb_19 ai_73 (fun _ => rfl) (i_in (by omega) (by omega)) dX12_isGift_96 (fun x_24 ex_24 lx_24 ux_24 => ?_)
        have qx_24 : x_24 = x_21 := ex_24.trans k_23
        have qx_24 := qx_24.symm
        subst qx_24
        refine lv_if_ge (tgt := 102) hx hb dX12_isGift_97 (by decide) (fun c_25 => ?_) (fun c_25 => ?_)
        · skip
          have uc_25 := i_ge (n := 0) (by decide) c_25
          obtain ⟨x_26, ex_26⟩ : ∃ y : Int32, y = i_6 + 1 := ⟨_, rfl⟩
          have vx_26 := b_add (rfl : i_6.toInt = _) (by decide : (1 : Int32).toInt = 1) ex_26 (by omega) (by omega)
          refine lv_iinc (v := x_26) (lv' := [(3, .int x_26), (5, .int x_18), (4, .int x_14), (0, .ref h0), (1, .int p1), (2, .int p2)]) hx hb dX12_isGift_102 hl (k := 2) rfl (by rw [ex_26]; rfl) (by decide) rfl (fun ls hl => ?_)
          refine lv_goto (tgt := 31) hx hb dX12_isGift_105 (by decide) ?_
          exact ih_9 ⟨x_26, σ_22, ρ_17⟩ _ _ _ ⟨(by omega), (by omega), hB, hS, lv_sub hl [0, 3, 4, 5] rfl⟩ (by show (8 - x_26.toInt).toNat < (8 - i_6.toInt).toNat; omega)
        · skip
          have uc_25 := i_nge (n := 0) (by decide) c_25
          refine lv_iconst (v := 0) hx hb dX12_isGift_100 (by decide) ?_
          exact W.zret (v := 0) hx hb hr rfl (fun t ht hW => ⟨⟨0, (σ_22, ρ_17), rfl, ⟨hB.2.1, hB.2.2, (show 0 ≤ (0 : Int32).toInt ∧ (0 : Int32).toInt ≤ 1 from ⟨by decide, by decide⟩)⟩, (show TP D cA L T r σ_22 ρ_17 t.heap from by rw [ht]; exact hB.1)⟩, hS.F ht⟩) hS.2.2 dX12_isGift_101
      · skip
        have uc_15 := i_eq (n := 1) (by decide) c_15
        refine lv_aload_n hx hb dX12_isGift_53 rfl (lv_at hl 2 rfl) ?_
        refine lv_iload_n hx hb dX12_isGift_54 rfl (lv_at hl 1 rfl) ?_
        refine lv_iconst (v := 0) hx hb dX12_isGift_55 (by decide) ?_
        refine t_ci (va_runV (As := [.int i_6, .int 0]) (rest := []) ⟨hx, hb, hml, hown, hts⟩ (cy_X12_sortOf l D cA L T r hG hLA.1 σ_7 ρ_8 hB.2.1 _ h0 mh0 th0 i_6 0 (by first | omega | decide) (by first | omega | decide) (by first | omega | decide) (by first | omega | decide)) (cV hts mv_X12_sortOf mw_7_94 rfl rfl ⟨Nat.le_of_ble_eq_true rfl, Nat.le_of_ble_eq_true rfl⟩) (pV hB.1 hK hN mh0 th0 (show shp cA 12 _ _ _ = .inr (12, Fs12 _ _ _) from rfl) rfl) rfl rfl hl.1 rfl (lv_room (Nat.le_of_ble_eq_true rfl)) dX12_isGift_56 ⟨Nat.le_of_ble_eq_true rfl, Nat.le_of_ble_eq_true rfl⟩) hLA hA hB hS (by decide) (fun x_29 σ_27 ρ_28 H locs hB fσ_27 pσ_27 hS => ?_)
        have qσ_27 := FR.nil fσ_27
        subst qσ_27
        obtain ⟨lx_29, ux_29⟩ := pσ_27
        refine lv_aload_n hx hb dX12_isGift_59 rfl (lv_at hl 2 rfl) ?_
        refine lv_iload_n hx hb dX12_isGift_60 rfl (lv_at hl 1 rfl) ?_
        refine lv_iconst (v := 1) hx hb dX12_isGift_61 (by decide) ?_
        refine t_ci (va_runV (As := [.int i_6, .int 1]) (rest := [.int x_29]) ⟨hx, hb, hml, hown, hts⟩ (cy_X12_sortOf l D cA L T r hG hLA.1 σ_7 ρ_28 hB.2.1 _ h0 mh0 th0 i_6 1 (by first | omega | decide) (by first | omega | decide) (by first | omega | decide) (by first | omega | decide)) (cV hts mv_X12_sortOf mw_7_94 rfl rfl ⟨Nat.le_of_ble_eq_true rfl, Nat.le_of_ble_eq_true rfl⟩) (pV hB.1 hK hN mh0 th0 (show shp cA 12 _ _ _ = .inr (12, Fs12 _ _ _) from rfl) rfl) rfl rfl hl.1 rfl (lv_room (Nat.le_of_ble_eq_true rfl)) dX12_isGift_62 ⟨Nat.le_of_ble_eq_true rfl, Nat.le_of_ble_eq_true rfl⟩) hLA hA hB hS (by decide) (fun x_32 σ_30 ρ_31 H locs hB fσ_30 pσ_30 hS => ?_)
        have qσ_30 := FR.nil fσ_30
        subst qσ_30
        obtain ⟨lx_32, ux_32⟩ := pσ_30
        refine lv_icmp_ne (tgt := 70) hx hb dX12_isGift_65 (by decide) (fun c_33 => ?_) (fun c_33 => ?_)
        · skip
          have uc_33 := j_ne c_33
          refine lv_aload_n hx hb dX12_isGift_70 rfl (lv_at hl 2 rfl) ?_
          refine lv_iload_n hx hb dX12_isGift_71 rfl (lv_at hl 1 rfl) ?_
          refine lv_iload hx hb dX12_isGift_72 (lv_at hl 0 rfl) ?_
          refine t_ci (va_runV (As := [.int i_6, .int x_14]) (rest := []) ⟨hx, hb, hml, hown, hts⟩ (cy_X12_sortOf l D cA L T r hG hLA.1 σ_7 ρ_31 hB.2.1 _ h0 mh0 th0 i_6 x_14 (by first | omega | decide) (by first | omega | decide) (by first | omega | decide) (by first | omega | decide)) (cV hts mv_X12_sortOf mw_7_94 rfl rfl ⟨Nat.le_of_ble_eq_true rfl, Nat.le_of_ble_eq_true rfl⟩) (pV hB.1 hK hN mh0 th0 (show shp cA 12 _ _ _ = .inr (12, Fs12 _ _ _) from rfl) rfl) rfl rfl hl.1 rfl (lv_room (Nat.le_of_ble_eq_true rfl)) dX12_isGift_74 ⟨Nat.le_of_ble_eq_true rfl, Nat.le_of_ble_eq_true rfl⟩) hLA hA hB hS (by decide) (fun x_36 σ_34 ρ_35 H locs hB fσ_34 pσ_34 hS => ?_)
          have qσ_34 := FR.nil fσ_34
          subst qσ_34
          obtain ⟨lx_36, ux_36⟩ := pσ_34
          refine lv_istore (lv' := [(5, .int x_36), (4, .int x_14), (3, .int i_6), (0, .ref h0), (1, .int p1), (2, .int p2)]) hx hb dX12_isGift_77 hl (by decide) rfl (fun ls hl => ?_)
          refine lv_aload_n hx hb dX12_isGift_79 rfl (lv_at hl 3 rfl) ?_
          refine t_gr hx hb hts hown hK hG hB mh0 th0 fq_12_26 rfl mw_6_2 dX12_isGift_80 (fun b_37 hb_37 mb_37 tb_37 => ?_)
          refine lv_iload hx hb dX12_isGift_83 (lv_at hl 0 rfl) ?_
          refine lv_dup2_11 hx hb dX12_isGift_85 rfl rfl ?_
          refine t_ai hx hb hK hB mb_37 tb_37 ai_73 (fun _ => rfl) (i_in (by omega) (by omega)) dX12_isGift_86 (fun x_38 ex_38 lx_38 ux_38 => ?_)
          have cx_38 := congrArg Int32.toInt ex_38
          refine lv_iconst (v := 1) hx hb dX12_isGift_87 (by decide) ?_
          refine lv_isub hx hb dX12_isGift_88 ?_
          refine lv_topi (fun x_39 ex_39 => ?_)
          try have vx_39 := b_sub (rfl : x_38.toInt = _) (by decide : (1 : Int32).toInt = 1) ex_39 (by omega) (by omega)
          refine t_si hx hb hK hLA hB hS mb_37 tb_37 ai_73 (i_in (by omega) (by omega)) (i_lo _) (i_hi _) (Or.inr (by decide)) dX12_isGift_89 (fun H locs σ_40 eσ_40 hB hS => ?_)
          have k_41 : σ_40 b_37 x_36.toNatClampNeg = x_39 := by rw [eσ_40]; exact up2_same _ _ _ _
          refine lv_aload_n hx hb dX12_isGift_90 rfl (lv_at hl 3 rfl) ?_
          refine t_gk hx hb hts hown hK hB mh0 th0 fq_12_26 hb_37 mw_6_2 dX12_isGift_91 ?_
          refine lv_iload hx hb dX12_isGift_94 (lv_at hl 0 rfl) ?_
          refine t_ai hx hb hK hB mb_37 tb_37 ai_73 (fun _ => rfl) (i_in (by omega) (by omega)) dX12_isGift_96 (fun x_42 ex_42 lx_42 ux_42 => ?_)
          have qx_42 : x_42 = x_39 := ex_42.trans k_41
          have qx_42 := qx_42.symm
          subst qx_42
          refine lv_if_ge (tgt := 102) hx hb dX12_isGift_97 (by decide) (fun c_43 => ?_) (fun c_43 => ?_)
          · skip
            have uc_43 := i_ge (n := 0) (by decide) c_43
            obtain ⟨x_44, ex_44⟩ : ∃ y : Int32, y = i_6 + 1 := ⟨_, rfl⟩
            have vx_44 := b_add (rfl : i_6.toInt = _) (by decide : (1 : Int32).toInt = 1) ex_44 (by omega) (by omega)
            refine lv_iinc (v := x_44) (lv' := [(3, .int x_44), (5, .int x_36), (4, .int x_14), (0, .ref h0), (1, .int p1), (2, .int p2)]) hx hb dX12_isGift_102 hl (k := 2) rfl (by rw [ex_44]; rfl) (by decide) rfl (fun ls hl => ?_)
            refine lv_goto (tgt := 31) hx hb dX12_isGift_105 (by decide) ?_
            exact ih_9 ⟨x_44, σ_40, ρ_35⟩ _ _ _ ⟨(by omega), (by omega), hB, hS, lv_sub hl [0, 3, 4, 5] rfl⟩ (by show (8 - x_44.toInt).toNat < (8 - i_6.toInt).toNat; omega)
          · skip
            have uc_43 := i_nge (n := 0) (by decide) c_43
            refine lv_iconst (v := 0) hx hb dX12_isGift_100 (by decide) ?_
            exact W.zret (v := 0) hx hb hr rfl (fun t ht hW => ⟨⟨0, (σ_40, ρ_35), rfl, ⟨hB.2.1, hB.2.2, (show 0 ≤ (0 : Int32).toInt ∧ (0 : Int32).toInt ≤ 1 from ⟨by decide, by decide⟩)⟩, (show TP D cA L T r σ_40 ρ_35 t.heap from by rw [ht]; exact hB.1)⟩, hS.F ht⟩) hS.2.2 dX12_isGift_101
        · skip
          have uc_33 := j_eq c_33
          refine lv_iconst (v := 0) hx hb dX12_isGift_68 (by decide) ?_
          exact W.zret (v := 0) hx hb hr rfl (fun t ht hW => ⟨⟨0, (σ_7, ρ_31), rfl, ⟨hB.2.1, hB.2.2, (show 0 ≤ (0 : Int32).toInt ∧ (0 : Int32).toInt ≤ 1 from ⟨by decide, by decide⟩)⟩, (show TP D cA L T r σ_7 ρ_31 t.heap from by rw [ht]; exact hB.1)⟩, hS.F ht⟩) hS.2.2 dX12_isGift_69
  · skip
    have uc_5 := i_nge (n := 5) (by decide) c_5
    refine lv_aload_n hx hb dX12_isGift_7 rfl (lv_at hl 1 rfl) ?_
    refine t_gr hx hb hts hown hK hG hB mh0 th0 fq_12_26 rfl mw_6_2 dX12_isGift_8 (fun b_45 hb_45 mb_45 tb_45 => ?_)
    refine lv_iload_n hx hb dX12_isGift_11 rfl (lv_at hl 0 rfl) ?_
    refine lv_aload_n hx hb dX12_isGift_12 rfl (lv_at hl 1 rfl) ?_
    refine t_gr hx hb hts hown hK hG hB mh0 th0 fq_12_20 rfl mw_5_236 dX12_isGift_13 (fun b_46 hb_46 mb_46 tb_46 => ?_)
    refine lv_sipush (v := 165) hx hb dX12_isGift_16 (by decide) ?_
    refine lv_iload_n hx hb dX12_isGift_19 rfl (lv_at hl 0 rfl) ?_
    refine lv_iadd hx hb dX12_isGift_20 ?_
    refine lv_topi (fun x_47 ex_47 => ?_)
    have vx_47 := b_add (by decide : (165 : Int32).toInt = 165) (rfl : i_1.toInt = _) ex_47 (by omega) (by omega)
    refine t_aj hx hb hK hB mb_46 tb_46 ai_70 (i_in (by omega) (by omega)) dX12_isGift_21 (fun x_48 ex_48 lx_48 ux_48 => ?_)
    rw [show ry 70 x_47.toNatClampNeg = (0, 9) from sbK (by have hn : x_47.toNatClampNeg = x_47.toInt.toNat := rfl; omega) (by have hn : x_47.toNatClampNeg = x_47.toInt.toNat := rfl; omega)] at lx_48 ux_48
    have cx_48 := congrArg Int32.toInt ex_48
    refine t_si hx hb hK hLA hB hS mb_45 tb_45 ai_73 (i_in (by omega) (by omega)) (i_lo _) (i_hi _) (Or.inr (by decide)) dX12_isGift_22 (fun H locs σ_49 eσ_49 hB hS => ?_)
    have k_50 : σ_49 b_45 i_1.toNatClampNeg = x_48 := by rw [eσ_49]; exact up2_same _ _ _ _
    obtain ⟨x_51, ex_51⟩ : ∃ y : Int32, y = i_1 + 1 := ⟨_, rfl⟩
    have vx_51 := b_add (rfl : i_1.toInt = _) (by decide : (1 : Int32).toInt = 1) ex_51 (by omega) (by omega)
    refine lv_iinc (v := x_51) (lv' := [(3, .int x_51), (0, .ref h0), (1, .int p1), (2, .int p2)]) hx hb dX12_isGift_23 hl (k := 0) rfl (by rw [ex_51]; rfl) (by decide) rfl (fun ls hl => ?_)
    refine lv_goto (tgt := 2) hx hb dX12_isGift_26 (by decide) ?_
    exact ih_4 ⟨x_51, σ_49, ρ_3⟩ _ _ _ ⟨(by omega), (by omega), hB, hS, lv_sub hl [0, 1, 2, 3] rfl⟩ (by show (5 - x_51.toInt).toNat < (5 - i_1.toInt).toNat; omega)
