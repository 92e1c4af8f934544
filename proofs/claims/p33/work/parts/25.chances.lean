theorem dX0_shiftOf_0 : decode cX0_shiftOf 0 = .ok (.iconst 2, 1) := by decide +kernel
theorem dX0_shiftOf_1 : decode cX0_shiftOf 1 = .ok (.aload_n 0, 1) := by decide +kernel
theorem dX0_shiftOf_2 : decode cX0_shiftOf 2 = .ok (.getfield 66, 3) := by decide +kernel
theorem dX0_shiftOf_5 : decode cX0_shiftOf 5 = .ok (.iconst 1, 1) := by decide +kernel
theorem dX0_shiftOf_6 : decode cX0_shiftOf 6 = .ok (.isub, 1) := by decide +kernel
theorem dX0_shiftOf_7 : decode cX0_shiftOf 7 = .ok (.iload_n 1, 1) := by decide +kernel
theorem dX0_shiftOf_8 : decode cX0_shiftOf 8 = .ok (.isub, 1) := by decide +kernel
theorem dX0_shiftOf_9 : decode cX0_shiftOf 9 = .ok (.imul, 1) := by decide +kernel
theorem dX0_shiftOf_10 : decode cX0_shiftOf 10 = .ok (.ireturn, 1) := by decide +kernel
set_option maxHeartbeats 4000000 in
set_option maxRecDepth 100000 in
theorem cy_X0_shiftOf (l : Launch) (D : va_G) (cA : Nat → ClassId) (L : List Nat) (T : Nat → Nat) (r : Rg) (hG : GR L T r) (hL : L.Nodup) (σ : Sg) (ρ : Lg) (hW : WT L ry T σ) (sz : Nat) (h1 : Nat) (mh1 : h1 ∈ L) (th1 : T h1 = 3) (p2 : Int32) (w0 : 0 ≤ p2.toInt) (w1 : p2.toInt ≤ 4) : Met l yX0_shiftOf (.code yX0_shiftOf cX0_shiftOf 2 (some .int) :: wsA) ({ frames := 0, cells := 0, slots := 0, locals := 0 }) (PR D cA L T r σ ρ sz [.ref h1, .int p2]) (QI D cA L T r ry ([] : List (Nat × Nat)) σ sz (fun x σ1 => ((-10) ≤ x.toInt ∧ x.toInt ≤ 8))) 0 0 (dm L sz) := by
  refine Met.ofW (cc := cX0_shiftOf) (maxL := 2) (ret := (some .int)) (by decide) rfl ?_
  intro p e s m args below meth c s₁ B hml hv
  obtain ⟨rfl, hsz, hP, hK, hN⟩ := hv
  have hx := B.exec
  have hb := B.bytes
  have hr := B.returns
  have hts : ∀ w ∈ wsA, w.before _ s = true := fun w h => atoms_spec (ws := .code yX0_shiftOf cX0_shiftOf 2 (some .int) :: wsA) B.pre w (List.mem_cons_of_mem _ h)
  have hown : s.vm.findClass RX0 = some m.cls := findClass_of_methodNamed B.named
  subst hsz
  have hLA : LA (dm L s.heap.size) L := ⟨hL, fun a h => Or.inl h⟩
  have hA : ∀ q : Nat, s.heap.size ≤ q → dm L s.heap.size q := fun q h => Or.inr h
  have hS : va_S (dm L s.heap.size) s.heap s.heap [] := va_S.rf
  have hB : TS D cA L T r ry ([] : List (Nat × Nat)) σ σ ρ s.heap := ⟨hP, hW, FR.rf⟩
  have hl := lv_entry ([.ref h1, .int p2]) (n := 2) (Nat.le_of_ble_eq_true rfl)
  rw [lg_entry_eq]
  generalize (lg_sl ([.ref h1, .int p2]) ++ List.replicate (2 - (lg_sl ([.ref h1, .int p2])).length) Slot.unset).toArray = ls at hl ⊢
  have hl : lv_has ls 2 [(0, .ref h1), (1, .int p2)] := hl
  refine lv_iconst (v := 2) hx hb dX0_shiftOf_0 (by decide) ?_
  refine lv_aload_n hx hb dX0_shiftOf_1 rfl (lv_at hl 0 rfl) ?_
  refine t_gi hx hb hts hown hK hB mh1 th1 fi_3_8 rfl mw_1_176 dX0_shiftOf_2 (fun x_1 ex_1 lx_1 ux_1 => ?_)
  refine lv_iconst (v := 1) hx hb dX0_shiftOf_5 (by decide) ?_
  refine lv_isub hx hb dX0_shiftOf_6 ?_
  refine lv_topi (fun x_2 ex_2 => ?_)
  have vx_2 := b_sub (rfl : x_1.toInt = _) (by decide : (1 : Int32).toInt = 1) ex_2 (by omega) (by omega)
  refine lv_iload_n hx hb dX0_shiftOf_7 rfl (lv_at hl 1 rfl) ?_
  refine lv_isub hx hb dX0_shiftOf_8 ?_
  refine lv_topi (fun x_3 ex_3 => ?_)
  have vx_3 := b_sub (rfl : x_2.toInt = _) (rfl : p2.toInt = _) ex_3 (by omega) (by omega)
  refine lv_imul hx hb dX0_shiftOf_9 ?_
  refine lv_topi (fun x_4 ex_4 => ?_)
  have vx_4 := b_mul (by decide : (2 : Int32).toInt = 2) (rfl : x_3.toInt = _) ex_4 (by omega) (by omega)
  exact W.iret (v := x_4) hx hb hr (fun t ht hW => ⟨⟨x_4, (σ, ρ), rfl, ⟨hB.2.1, hB.2.2, (show (-10) ≤ (x_4 : Int32).toInt ∧ (x_4 : Int32).toInt ≤ 8 from ⟨by omega, by omega⟩)⟩, (show TP D cA L T r σ ρ t.heap from by rw [ht]; exact hB.1)⟩, hS.F ht⟩) hS.2.2 dX0_shiftOf_10
theorem mw_5_46 : (.static yX0_shiftOf : Cond) ∈ wsA := wsA_t (List.mem_append_right _ (List.mem_append_right _ (List.mem_append_right _ (List.mem_append_right _ (List.mem_append_left _ (List.mem_of_getElem? (l := tables_1_5) (i := 46) rfl)))))) rfl
theorem mw_5_47 : (.code yX0_shiftOf cX0_shiftOf 2 (some .int) : Cond) ∈ wsA := wsA_t (List.mem_append_right _ (List.mem_append_right _ (List.mem_append_right _ (List.mem_append_right _ (List.mem_append_left _ (List.mem_of_getElem? (l := tables_1_5) (i := 47) rfl)))))) rfl
theorem mw_5_45 : (.methodLink RX0 102 yX0_shiftOf : Cond) ∈ wsA := wsA_t (List.mem_append_right _ (List.mem_append_right _ (List.mem_append_right _ (List.mem_append_right _ (List.mem_append_left _ (List.mem_of_getElem? (l := tables_1_5) (i := 45) rfl)))))) rfl
theorem dX0_inBag_0 : decode cX0_inBag 0 = .ok (.iload_n 1, 1) := by decide +kernel
theorem dX0_inBag_1 : decode cX0_inBag 1 = .ok (.aload_n 0, 1) := by decide +kernel
theorem dX0_inBag_2 : decode cX0_inBag 2 = .ok (.iload_n 2, 1) := by decide +kernel
theorem dX0_inBag_3 : decode cX0_inBag 3 = .ok (.invokestatic 102, 3) := by decide +kernel
theorem dX0_inBag_6 : decode cX0_inBag 6 = .ok (.ishr, 1) := by decide +kernel
theorem dX0_inBag_7 : decode cX0_inBag 7 = .ok (.iconst 3, 1) := by decide +kernel
theorem dX0_inBag_8 : decode cX0_inBag 8 = .ok (.iand, 1) := by decide +kernel
theorem dX0_inBag_9 : decode cX0_inBag 9 = .ok (.ireturn, 1) := by decide +kernel
theorem ms_X0_shiftOf : MS RX0 yX0_shiftOf cX0_shiftOf 2 (some .int) 2 := ⟨mw_5_46, mw_1_9, mw_5_47, ⟨rfl, by decide, by decide, by decide +kernel⟩⟩
set_option maxHeartbeats 4000000 in
set_option maxRecDepth 100000 in
theorem cy_X0_inBag (l : Launch) (D : va_G) (cA : Nat → ClassId) (L : List Nat) (T : Nat → Nat) (r : Rg) (hG : GR L T r) (hL : L.Nodup) (σ : Sg) (ρ : Lg) (hW : WT L ry T σ) (sz : Nat) (h1 : Nat) (mh1 : h1 ∈ L) (th1 : T h1 = 3) (p2 : Int32) (p3 : Int32) (w0 : 0 ≤ p3.toInt) (w1 : p3.toInt ≤ 4) : Met l yX0_inBag (.code yX0_inBag cX0_inBag 3 (some .int) :: wsA) ({ frames := 1, cells := 0, slots := 0, locals := 21 }) (PR D cA L T r σ ρ sz [.ref h1, .int p2, .int p3]) (QI D cA L T r ry ([] : List (Nat × Nat)) σ sz (fun x σ1 => (0 ≤ x.toInt ∧ x.toInt ≤ 3))) 0 0 (dm L sz) := by
  refine Met.ofW (cc := cX0_inBag) (maxL := 3) (ret := (some .int)) (by decide) rfl ?_
  intro p e s m args below meth c s₁ B hml hv
  obtain ⟨rfl, hsz, hP, hK, hN⟩ := hv
  have hx := B.exec
  have hb := B.bytes
  have hr := B.returns
  have hts : ∀ w ∈ wsA, w.before _ s = true := fun w h => atoms_spec (ws := .code yX0_inBag cX0_inBag 3 (some .int) :: wsA) B.pre w (List.mem_cons_of_mem _ h)
  have hown : s.vm.findClass RX0 = some m.cls := findClass_of_methodNamed B.named
  subst hsz
  have hLA : LA (dm L s.heap.size) L := ⟨hL, fun a h => Or.inl h⟩
  have hA : ∀ q : Nat, s.heap.size ≤ q → dm L s.heap.size q := fun q h => Or.inr h
  have hS : va_S (dm L s.heap.size) s.heap s.heap [] := va_S.rf
  have hB : TS D cA L T r ry ([] : List (Nat × Nat)) σ σ ρ s.heap := ⟨hP, hW, FR.rf⟩
  have hl := lv_entry ([.ref h1, .int p2, .int p3]) (n := 3) (Nat.le_of_ble_eq_true rfl)
  rw [lg_entry_eq]
  generalize (lg_sl ([.ref h1, .int p2, .int p3]) ++ List.replicate (3 - (lg_sl ([.ref h1, .int p2, .int p3])).length) Slot.unset).toArray = ls at hl ⊢
  have hl : lv_has ls 3 [(0, .ref h1), (1, .int p2), (2, .int p3)] := hl
  refine lv_iload_n hx hb dX0_inBag_0 rfl (lv_at hl 1 rfl) ?_
  refine lv_aload_n hx hb dX0_inBag_1 rfl (lv_at hl 0 rfl) ?_
  refine lv_iload_n hx hb dX0_inBag_2 rfl (lv_at hl 2 rfl) ?_
  refine t_ci (va_runS (As := [.ref h1, .int p3]) (rest := [.int p2]) ⟨hx, hb, hml, hown, hts⟩ (cy_X0_shiftOf l D cA L T r hG hLA.1 σ ρ hB.2.1 _ h1 mh1 th1 p3 (by first | omega | decide) (by first | omega | decide)) (cS hts ms_X0_shiftOf mw_5_45 rfl rfl ⟨Nat.le_of_ble_eq_true rfl, Nat.le_of_ble_eq_true rfl⟩) (pS hB.1 hK hN) rfl rfl hl.1 rfl (lv_room (Nat.le_of_ble_eq_true rfl)) dX0_inBag_3 ⟨Nat.le_of_ble_eq_true rfl, Nat.le_of_ble_eq_true rfl⟩) hLA hA hB hS (by decide) (fun x_3 σ_1 ρ_2 H locs hB fσ_1 pσ_1 hS => ?_)
  have qσ_1 := FR.nil fσ_1
  subst qσ_1
  obtain ⟨lx_3, ux_3⟩ := pσ_1
  refine lv_ishr hx hb dX0_inBag_6 ?_
  refine lv_topi (fun x_4 ex_4 => ?_)
  refine lv_iconst (v := 3) hx hb dX0_inBag_7 (by decide) ?_
  refine lv_iand hx hb dX0_inBag_8 ?_
  refine lv_topi (fun x_5 ex_5 => ?_)
  obtain ⟨lx_5, ux_5⟩ := and_m 2 (n := 3) (by decide) (by decide) (by decide) ex_5
  exact W.iret (v := x_5) hx hb hr (fun t ht hW => ⟨⟨x_5, (σ, ρ_2), rfl, ⟨hB.2.1, hB.2.2, (show 0 ≤ (x_5 : Int32).toInt ∧ (x_5 : Int32).toInt ≤ 3 from ⟨by omega, by omega⟩)⟩, (show TP D cA L T r σ ρ_2 t.heap from by rw [ht]; exact hB.1)⟩, hS.F ht⟩) hS.2.2 dX0_inBag_9
theorem mw_5_54 : (.methodLink RX0 106 yX8_weightOf : Cond) ∈ wsA := wsA_t (List.mem_append_right _ (List.mem_append_right _ (List.mem_append_right _ (List.mem_append_right _ (List.mem_append_left _ (List.mem_of_getElem? (l := tables_1_5) (i := 54) rfl)))))) rfl
theorem mw_1_88 : (.fieldLink RX0 112 "HillBends$Scene" "money" "[I" : Cond) ∈ wsA := wsA_t (List.mem_append_left _ (List.mem_of_getElem? (l := tables_1_1) (i := 88) rfl)) rfl
theorem mw_1_169 : (.fieldLink RX0 115 "HillBends$Hill" "burden" "I" : Cond) ∈ wsA := wsA_t (List.mem_append_left _ (List.mem_of_getElem? (l := tables_1_1) (i := 169) rfl)) rfl
theorem mw_5_49 : (.static yX0_inBag : Cond) ∈ wsA := wsA_t (List.mem_append_right _ (List.mem_append_right _ (List.mem_append_right _ (List.mem_append_right _ (List.mem_append_left _ (List.mem_of_getElem? (l := tables_1_5) (i := 49) rfl)))))) rfl
theorem mw_5_50 : (.code yX0_inBag cX0_inBag 3 (some .int) : Cond) ∈ wsA := wsA_t (List.mem_append_right _ (List.mem_append_right _ (List.mem_append_right _ (List.mem_append_right _ (List.mem_append_left _ (List.mem_of_getElem? (l := tables_1_5) (i := 50) rfl)))))) rfl
theorem mw_5_48 : (.methodLink RX0 94 yX0_inBag : Cond) ∈ wsA := wsA_t (List.mem_append_right _ (List.mem_append_right _ (List.mem_append_right _ (List.mem_append_right _ (List.mem_append_left _ (List.mem_of_getElem? (l := tables_1_5) (i := 48) rfl)))))) rfl
theorem mw_1_135 : (.fieldLink RX0 109 "HillBends$Hill" "weight" "[I" : Cond) ∈ wsA := wsA_t (List.mem_append_left _ (List.mem_of_getElem? (l := tables_1_1) (i := 135) rfl)) rfl
theorem dX0_priceIfBuyable_0 : decode cX0_priceIfBuyable 0 = .ok (.iconst 0, 1) := by decide +kernel
theorem dX0_priceIfBuyable_1 : decode cX0_priceIfBuyable 1 = .ok (.istore 4, 2) := by decide +kernel
theorem dX0_priceIfBuyable_3 : decode cX0_priceIfBuyable 3 = .ok (.aload_n 1, 1) := by decide +kernel
theorem dX0_priceIfBuyable_4 : decode cX0_priceIfBuyable 4 = .ok (.aload_n 0, 1) := by decide +kernel
theorem dX0_priceIfBuyable_5 : decode cX0_priceIfBuyable 5 = .ok (.iload_n 2, 1) := by decide +kernel
theorem dX0_priceIfBuyable_6 : decode cX0_priceIfBuyable 6 = .ok (.invokevirtual 106, 3) := by decide +kernel
theorem dX0_priceIfBuyable_9 : decode cX0_priceIfBuyable 9 = .ok (.istore 5, 2) := by decide +kernel
theorem dX0_priceIfBuyable_11 : decode cX0_priceIfBuyable 11 = .ok (.iconst 0, 1) := by decide +kernel
theorem dX0_priceIfBuyable_12 : decode cX0_priceIfBuyable 12 = .ok (.istore 6, 2) := by decide +kernel
theorem dX0_priceIfBuyable_14 : decode cX0_priceIfBuyable 14 = .ok (.iload 6, 2) := by decide +kernel
theorem dX0_priceIfBuyable_16 : decode cX0_priceIfBuyable 16 = .ok (.aload_n 0, 1) := by decide +kernel
theorem dX0_priceIfBuyable_17 : decode cX0_priceIfBuyable 17 = .ok (.getfield 66, 3) := by decide +kernel
theorem dX0_priceIfBuyable_20 : decode cX0_priceIfBuyable 20 = .ok (.if_icmp .ge 69, 3) := by decide +kernel
theorem dX0_priceIfBuyable_89 : decode cX0_priceIfBuyable 89 = .ok (.iload 4, 2) := by decide +kernel
theorem dX0_priceIfBuyable_91 : decode cX0_priceIfBuyable 91 = .ok (.aload_n 1, 1) := by decide +kernel
theorem dX0_priceIfBuyable_92 : decode cX0_priceIfBuyable 92 = .ok (.getfield 112, 3) := by decide +kernel
theorem dX0_priceIfBuyable_95 : decode cX0_priceIfBuyable 95 = .ok (.iload_n 2, 1) := by decide +kernel
theorem dX0_priceIfBuyable_96 : decode cX0_priceIfBuyable 96 = .ok (.iaload, 1) := by decide +kernel
theorem dX0_priceIfBuyable_97 : decode cX0_priceIfBuyable 97 = .ok (.if_icmp .gt 17, 3) := by decide +kernel
theorem dX0_priceIfBuyable_114 : decode cX0_priceIfBuyable 114 = .ok (.iconst (-1), 1) := by decide +kernel
theorem dX0_priceIfBuyable_115 : decode cX0_priceIfBuyable 115 = .ok (.ireturn, 1) := by decide +kernel
theorem dX0_priceIfBuyable_100 : decode cX0_priceIfBuyable 100 = .ok (.iload 5, 2) := by decide +kernel
theorem dX0_priceIfBuyable_102 : decode cX0_priceIfBuyable 102 = .ok (.aload_n 0, 1) := by decide +kernel
theorem dX0_priceIfBuyable_103 : decode cX0_priceIfBuyable 103 = .ok (.getfield 115, 3) := by decide +kernel
theorem dX0_priceIfBuyable_106 : decode cX0_priceIfBuyable 106 = .ok (.if_icmp .gt 8, 3) := by decide +kernel
theorem dX0_priceIfBuyable_109 : decode cX0_priceIfBuyable 109 = .ok (.iload 4, 2) := by decide +kernel
theorem dX0_priceIfBuyable_111 : decode cX0_priceIfBuyable 111 = .ok (.goto 4, 3) := by decide +kernel
theorem dX0_priceIfBuyable_23 : decode cX0_priceIfBuyable 23 = .ok (.aload_n 0, 1) := by decide +kernel
theorem dX0_priceIfBuyable_24 : decode cX0_priceIfBuyable 24 = .ok (.iload_n 3, 1) := by decide +kernel
theorem dX0_priceIfBuyable_25 : decode cX0_priceIfBuyable 25 = .ok (.iload 6, 2) := by decide +kernel
theorem dX0_priceIfBuyable_27 : decode cX0_priceIfBuyable 27 = .ok (.invokestatic 94, 3) := by decide +kernel
theorem dX0_priceIfBuyable_30 : decode cX0_priceIfBuyable 30 = .ok (.istore 7, 2) := by decide +kernel
theorem dX0_priceIfBuyable_32 : decode cX0_priceIfBuyable 32 = .ok (.aload_n 1, 1) := by decide +kernel
theorem dX0_priceIfBuyable_33 : decode cX0_priceIfBuyable 33 = .ok (.getfield 24, 3) := by decide +kernel
theorem dX0_priceIfBuyable_36 : decode cX0_priceIfBuyable 36 = .ok (.iload_n 2, 1) := by decide +kernel
theorem dX0_priceIfBuyable_37 : decode cX0_priceIfBuyable 37 = .ok (.iconst 5, 1) := by decide +kernel
theorem dX0_priceIfBuyable_38 : decode cX0_priceIfBuyable 38 = .ok (.imul, 1) := by decide +kernel
theorem dX0_priceIfBuyable_39 : decode cX0_priceIfBuyable 39 = .ok (.iload 6, 2) := by decide +kernel
theorem dX0_priceIfBuyable_41 : decode cX0_priceIfBuyable 41 = .ok (.iadd, 1) := by decide +kernel
theorem dX0_priceIfBuyable_42 : decode cX0_priceIfBuyable 42 = .ok (.iaload, 1) := by decide +kernel
theorem dX0_priceIfBuyable_43 : decode cX0_priceIfBuyable 43 = .ok (.iload 7, 2) := by decide +kernel
theorem dX0_priceIfBuyable_45 : decode cX0_priceIfBuyable 45 = .ok (.iadd, 1) := by decide +kernel
theorem dX0_priceIfBuyable_46 : decode cX0_priceIfBuyable 46 = .ok (.bipush 9, 2) := by decide +kernel
theorem dX0_priceIfBuyable_48 : decode cX0_priceIfBuyable 48 = .ok (.if_icmp .le 5, 3) := by decide +kernel
theorem dX0_priceIfBuyable_53 : decode cX0_priceIfBuyable 53 = .ok (.iload 4, 2) := by decide +kernel
theorem dX0_priceIfBuyable_55 : decode cX0_priceIfBuyable 55 = .ok (.iload 7, 2) := by decide +kernel
theorem dX0_priceIfBuyable_57 : decode cX0_priceIfBuyable 57 = .ok (.aload_n 0, 1) := by decide +kernel
theorem dX0_priceIfBuyable_58 : decode cX0_priceIfBuyable 58 = .ok (.getfield 69, 3) := by decide +kernel
theorem dX0_priceIfBuyable_61 : decode cX0_priceIfBuyable 61 = .ok (.iload 6, 2) := by decide +kernel
theorem dX0_priceIfBuyable_63 : decode cX0_priceIfBuyable 63 = .ok (.iaload, 1) := by decide +kernel
theorem dX0_priceIfBuyable_64 : decode cX0_priceIfBuyable 64 = .ok (.imul, 1) := by decide +kernel
theorem dX0_priceIfBuyable_65 : decode cX0_priceIfBuyable 65 = .ok (.iadd, 1) := by decide +kernel
theorem dX0_priceIfBuyable_66 : decode cX0_priceIfBuyable 66 = .ok (.istore 4, 2) := by decide +kernel
theorem dX0_priceIfBuyable_68 : decode cX0_priceIfBuyable 68 = .ok (.iload 5, 2) := by decide +kernel
theorem dX0_priceIfBuyable_70 : decode cX0_priceIfBuyable 70 = .ok (.iload 7, 2) := by decide +kernel
theorem dX0_priceIfBuyable_72 : decode cX0_priceIfBuyable 72 = .ok (.aload_n 0, 1) := by decide +kernel
theorem dX0_priceIfBuyable_73 : decode cX0_priceIfBuyable 73 = .ok (.getfield 109, 3) := by decide +kernel
theorem dX0_priceIfBuyable_76 : decode cX0_priceIfBuyable 76 = .ok (.iload 6, 2) := by decide +kernel
theorem dX0_priceIfBuyable_78 : decode cX0_priceIfBuyable 78 = .ok (.iaload, 1) := by decide +kernel
theorem dX0_priceIfBuyable_79 : decode cX0_priceIfBuyable 79 = .ok (.imul, 1) := by decide +kernel
theorem dX0_priceIfBuyable_80 : decode cX0_priceIfBuyable 80 = .ok (.iadd, 1) := by decide +kernel
theorem dX0_priceIfBuyable_81 : decode cX0_priceIfBuyable 81 = .ok (.istore 5, 2) := by decide +kernel
theorem dX0_priceIfBuyable_83 : decode cX0_priceIfBuyable 83 = .ok (.iinc 6 1, 3) := by decide +kernel
theorem dX0_priceIfBuyable_86 : decode cX0_priceIfBuyable 86 = .ok (.goto (-72), 3) := by decide +kernel
theorem dX0_priceIfBuyable_51 : decode cX0_priceIfBuyable 51 = .ok (.iconst (-1), 1) := by decide +kernel
theorem dX0_priceIfBuyable_52 : decode cX0_priceIfBuyable 52 = .ok (.ireturn, 1) := by decide +kernel
theorem ms_X0_inBag : MS RX0 yX0_inBag cX0_inBag 3 (some .int) 3 := ⟨mw_5_49, mw_1_9, mw_5_50, ⟨rfl, by decide, by decide, by decide +kernel⟩⟩
set_option maxHeartbeats 4000000 in
set_option maxRecDepth 100000 in
theorem cy_X0_priceIfBuyable (l : Launch) (D : va_G) (cA : Nat → ClassId) (L : List Nat) (T : Nat → Nat) (r : Rg) (hG : GR L T r) (hL : L.Nodup) (σ : Sg) (ρ : Lg) (hW : WT L ry T σ) (sz : Nat) (h1 : Nat) (mh1 : h1 ∈ L) (th1 : T h1 = 3) (h2 : Nat) (mh2 : h2 ∈ L) (th2 : T h2 = 8) (p3 : Int32) (p4 : Int32) (w0 : 0 ≤ p3.toInt) (w1 : p3.toInt ≤ 3) : Met l yX0_priceIfBuyable (.code yX0_priceIfBuyable cX0_priceIfBuyable 8 (some .int) :: wsA) ({ frames := 2, cells := 0, slots := 0, locals := 43 }) (PR D cA L T r σ ρ sz [.ref h1, .ref h2, .int p3, .int p4]) (QI D cA L T r ry ([] : List (Nat × Nat)) σ sz (fun x σ1 => True)) 0 0 (dm L sz) := by
  refine Met.ofW (cc := cX0_priceIfBuyable) (maxL := 8) (ret := (some .int)) (by decide) rfl ?_
  intro p e s m args below meth c s₁ B hml hv
  obtain ⟨rfl, hsz, hP, hK, hN⟩ := hv
  have hx := B.exec
  have hb := B.bytes
  have hr := B.returns
  have hts : ∀ w ∈ wsA, w.before _ s = true := fun w h => atoms_spec (ws := .code yX0_priceIfBuyable cX0_priceIfBuyable 8 (some .int) :: wsA) B.pre w (List.mem_cons_of_mem _ h)
  have hown : s.vm.findClass RX0 = some m.cls := findClass_of_methodNamed B.named
  subst hsz
  have hLA : LA (dm L s.heap.size) L := ⟨hL, fun a h => Or.inl h⟩
  have hA : ∀ q : Nat, s.heap.size ≤ q → dm L s.heap.size q := fun q h => Or.inr h
  have hS : va_S (dm L s.heap.size) s.heap s.heap [] := va_S.rf
  have hB : TS D cA L T r ry ([] : List (Nat × Nat)) σ σ ρ s.heap := ⟨hP, hW, FR.rf⟩
  have hl := lv_entry ([.ref h1, .ref h2, .int p3, .int p4]) (n := 8) (Nat.le_of_ble_eq_true rfl)
  rw [lg_entry_eq]
  generalize (lg_sl ([.ref h1, .ref h2, .int p3, .int p4]) ++ List.replicate (8 - (lg_sl ([.ref h1, .ref h2, .int p3, .int p4])).length) Slot.unset).toArray = ls at hl ⊢
  have hl : lv_has ls 8 [(0, .ref h1), (1, .ref h2), (2, .int p3), (3, .int p4)] := hl
  refine lv_iconst (v := 0) hx hb dX0_priceIfBuyable_0 (by decide) ?_
  refine lv_istore (lv' := [(4, .int 0), (0, .ref h1), (1, .ref h2), (2, .int p3), (3, .int p4)]) hx hb dX0_priceIfBuyable_1 hl (by decide) rfl (fun ls hl => ?_)
  refine lv_aload_n hx hb dX0_priceIfBuyable_3 rfl (lv_at hl 2 rfl) ?_
  refine lv_aload_n hx hb dX0_priceIfBuyable_4 rfl (lv_at hl 1 rfl) ?_
  refine lv_iload_n hx hb dX0_priceIfBuyable_5 rfl (lv_at hl 3 rfl) ?_
  refine t_ci (va_runV (As := [.ref h1, .int p3]) (rest := []) ⟨hx, hb, hml, hown, hts⟩ (cy_X8_weightOf_8 l D cA L T r hG hLA.1 σ ρ hB.2.1 _ h2 mh2 th2 h1 mh1 th1 p3 (by first | omega | decide) (by first | omega | decide)) (cV hts mv_X8_weightOf mw_5_54 rfl rfl ⟨Nat.le_of_ble_eq_true rfl, Nat.le_of_ble_eq_true rfl⟩) (pV hB.1 hK hN mh2 th2 (show shp cA 8 _ _ _ = .inr (8, Fs8 _ _ _) from rfl) rfl) rfl rfl hl.1 rfl (lv_room (Nat.le_of_ble_eq_true rfl)) dX0_priceIfBuyable_6 ⟨Nat.le_of_ble_eq_true rfl, Nat.le_of_ble_eq_true rfl⟩) hLA hA hB hS (by decide) (fun x_3 σ_1 ρ_2 H locs hB fσ_1 pσ_1 hS => ?_)
  have qσ_1 := FR.nil fσ_1
  subst qσ_1
  refine lv_istore (lv' := [(5, .int x_3), (4, .int 0), (0, .ref h1), (1, .ref h2), (2, .int p3), (3, .int p4)]) hx hb dX0_priceIfBuyable_9 hl (by decide) rfl (fun ls hl => ?_)
  refine lv_iconst (v := 0) hx hb dX0_priceIfBuyable_11 (by decide) ?_
  refine lv_istore (lv' := [(6, .int 0), (5, .int x_3), (4, .int 0), (0, .ref h1), (1, .ref h2), (2, .int p3), (3, .int p4)]) hx hb dX0_priceIfBuyable_12 hl (by decide) rfl (fun ls hl => ?_)
  refine w_loop (α := Int32 × Int32 × Int32 × Sg × Lg) (fun (i_4, i_5, i_6, σ_7, ρ_8) H locs ls => 0 ≤ i_6.toInt ∧ i_6.toInt ≤ 5 ∧ TS D cA L T r ry ([] : List (Nat × Nat)) σ σ_7 ρ_8 H ∧ va_S (dm L s.heap.size) s.heap H locs ∧ lv_has ls 8 [(6, .int i_6), (5, .int i_5), (4, .int i_4), (0, .ref h1), (1, .ref h2), (2, .int p3), (3, .int p4)]) (fun (i_4, i_5, i_6, σ_7, ρ_8) => (5 - i_6.toInt).toNat) ?_ ⟨0, x_3, 0, σ, ρ_2⟩ ⟨(by decide), (by decide), hB, hS, lv_sub hl [0, 1, 2, 3, 4, 5, 6] rfl⟩
  rintro ⟨i_4, i_5, i_6, σ_7, ρ_8⟩ H locs ls ⟨li_6, ui_6, hB, hS, hl⟩ ih_9
  refine lv_iload hx hb dX0_priceIfBuyable_14 (lv_at hl 0 rfl) ?_
  refine lv_aload_n hx hb dX0_priceIfBuyable_16 rfl (lv_at hl 3 rfl) ?_
  refine t_gi hx hb hts hown hK hB mh1 th1 fi_3_8 rfl mw_1_176 dX0_priceIfBuyable_17 (fun x_10 ex_10 lx_10 ux_10 => ?_)
  refine lv_icmp_ge (tgt := 89) hx hb dX0_priceIfBuyable_20 (by decide) (fun c_11 => ?_) (fun c_11 => ?_)
  · skip
    have uc_11 := j_le c_11
    refine lv_iload hx hb dX0_priceIfBuyable_89 (lv_at hl 2 rfl) ?_
    refine lv_aload_n hx hb dX0_priceIfBuyable_91 rfl (lv_at hl 4 rfl) ?_
    refine t_gr hx hb hts hown hK hG hB mh2 th2 fq_8_1 rfl mw_1_88 dX0_priceIfBuyable_92 (fun b_12 hb_12 mb_12 tb_12 => ?_)
    refine lv_iload_n hx hb dX0_priceIfBuyable_95 rfl (lv_at hl 5 rfl) ?_
    refine t_ai hx hb hK hB mb_12 tb_12 ai_46 (fun _ => rfl) (i_in (by omega) (by omega)) dX0_priceIfBuyable_96 (fun x_13 ex_13 lx_13 ux_13 => ?_)
    refine lv_icmp_gt (tgt := 114) hx hb dX0_priceIfBuyable_97 (by decide) (fun c_14 => ?_) (fun c_14 => ?_)
    · skip
      have uc_14 := j_lt c_14
      refine lv_iconst (v := (-1)) hx hb dX0_priceIfBuyable_114 (by decide) ?_
      exact W.iret (v := (-1)) hx hb hr (fun t ht hW => ⟨⟨(-1), (σ_7, ρ_8), rfl, ⟨hB.2.1, hB.2.2, trivial⟩, (show TP D cA L T r σ_7 ρ_8 t.heap from by rw [ht]; exact hB.1)⟩, hS.F ht⟩) hS.2.2 dX0_priceIfBuyable_115
    · skip
      have uc_14 := j_nlt c_14
      refine lv_iload hx hb dX0_priceIfBuyable_100 (lv_at hl 1 rfl) ?_
      refine lv_aload_n hx hb dX0_priceIfBuyable_102 rfl (lv_at hl 3 rfl) ?_
      refine t_gi hx hb hts hown hK hB mh1 th1 fi_3_7 rfl mw_1_169 dX0_priceIfBuyable_103 (fun x_15 ex_15 lx_15 ux_15 => ?_)
      refine lv_icmp_gt (tgt := 114) hx hb dX0_priceIfBuyable_106 (by decide) (fun c_16 => ?_) (fun c_16 => ?_)
      · skip
        have uc_16 := j_lt c_16
        refine lv_iconst (v := (-1)) hx hb dX0_priceIfBuyable_114 (by decide) ?_
        exact W.iret (v := (-1)) hx hb hr (fun t ht hW => ⟨⟨(-1), (σ_7, ρ_8), rfl, ⟨hB.2.1, hB.2.2, trivial⟩, (show TP D cA L T r σ_7 ρ_8 t.heap from by rw [ht]; exact hB.1)⟩, hS.F ht⟩) hS.2.2 dX0_priceIfBuyable_115
      · skip
        have uc_16 := j_nlt c_16
        refine lv_iload hx hb dX0_priceIfBuyable_109 (lv_at hl 2 rfl) ?_
        refine lv_goto (tgt := 115) hx hb dX0_priceIfBuyable_111 (by decide) ?_
        exact W.iret (v := i_4) hx hb hr (fun t ht hW => ⟨⟨i_4, (σ_7, ρ_8), rfl, ⟨hB.2.1, hB.2.2, trivial⟩, (show TP D cA L T r σ_7 ρ_8 t.heap from by rw [ht]; exact hB.1)⟩, hS.F ht⟩) hS.2.2 dX0_priceIfBuyable_115
  · skip
    have uc_11 := j_nle c_11
    refine lv_aload_n hx hb dX0_priceIfBuyable_23 rfl (lv_at hl 3 rfl) ?_
    refine lv_iload_n hx hb dX0_priceIfBuyable_24 rfl (lv_at hl 6 rfl) ?_
    refine lv_iload hx hb dX0_priceIfBuyable_25 (lv_at hl 0 rfl) ?_
    refine t_ci (va_runS (As := [.ref h1, .int p4, .int i_6]) (rest := []) ⟨hx, hb, hml, hown, hts⟩ (cy_X0_inBag l D cA L T r hG hLA.1 σ_7 ρ_8 hB.2.1 _ h1 mh1 th1 p4 i_6 (by first | omega | decide) (by first | omega | decide)) (cS hts ms_X0_inBag mw_5_48 rfl rfl ⟨Nat.le_of_ble_eq_true rfl, Nat.le_of_ble_eq_true rfl⟩) (pS hB.1 hK hN) rfl rfl hl.1 rfl (lv_room (Nat.le_of_ble_eq_true rfl)) dX0_priceIfBuyable_27 ⟨Nat.le_of_ble_eq_true rfl, Nat.le_of_ble_eq_true rfl⟩) hLA hA hB hS (by decide) (fun x_19 σ_17 ρ_18 H locs hB fσ_17 pσ_17 hS => ?_)
    have qσ_17 := FR.nil fσ_17
    subst qσ_17
    obtain ⟨lx_19, ux_19⟩ := pσ_17
    refine lv_istore (lv' := [(7, .int x_19), (6, .int i_6), (5, .int i_5), (4, .int i_4), (0, .ref h1), (1, .ref h2), (2, .int p3), (3, .int p4)]) hx hb dX0_priceIfBuyable_30 hl (by decide) rfl (fun ls hl => ?_)
    refine lv_aload_n hx hb dX0_priceIfBuyable_32 rfl (lv_at hl 5 rfl) ?_
    refine t_gr hx hb hts hown hK hG hB mh2 th2 fq_8_4 rfl mw_1_96 dX0_priceIfBuyable_33 (fun b_20 hb_20 mb_20 tb_20 => ?_)
    refine lv_iload_n hx hb dX0_priceIfBuyable_36 rfl (lv_at hl 6 rfl) ?_
    refine lv_iconst (v := 5) hx hb dX0_priceIfBuyable_37 (by decide) ?_
    refine lv_imul hx hb dX0_priceIfBuyable_38 ?_
    refine lv_topi (fun x_21 ex_21 => ?_)
    have vx_21 := b_mul (rfl : p3.toInt = _) (by decide : (5 : Int32).toInt = 5) ex_21 (by omega) (by omega)
    refine lv_iload hx hb dX0_priceIfBuyable_39 (lv_at hl 1 rfl) ?_
    refine lv_iadd hx hb dX0_priceIfBuyable_41 ?_
    refine lv_topi (fun x_22 ex_22 => ?_)
    have vx_22 := b_add (rfl : x_21.toInt = _) (rfl : i_6.toInt = _) ex_22 (by omega) (by omega)
    refine t_ai hx hb hK hB mb_20 tb_20 ai_49 (fun _ => rfl) (i_in (by omega) (by omega)) dX0_priceIfBuyable_42 (fun x_23 ex_23 lx_23 ux_23 => ?_)
    refine lv_iload hx hb dX0_priceIfBuyable_43 (lv_at hl 0 rfl) ?_
    refine lv_iadd hx hb dX0_priceIfBuyable_45 ?_
    refine lv_topi (fun x_24 ex_24 => ?_)
    refine lv_bipush (v := 9) hx hb dX0_priceIfBuyable_46 (by decide) ?_
    refine lv_icmp_le (tgt := 53) hx hb dX0_priceIfBuyable_48 (by decide) (fun c_25 => ?_) (fun c_25 => ?_)
    · skip
      have uc_25 := i_le (n := 9) (by decide) c_25
      refine lv_iload hx hb dX0_priceIfBuyable_53 (lv_at hl 3 rfl) ?_
      refine lv_iload hx hb dX0_priceIfBuyable_55 (lv_at hl 0 rfl) ?_
      refine lv_aload_n hx hb dX0_priceIfBuyable_57 rfl (lv_at hl 4 rfl) ?_
      refine t_gr hx hb hts hown hK hG hB mh1 th1 fq_3_2 rfl mw_1_143 dX0_priceIfBuyable_58 (fun b_26 hb_26 mb_26 tb_26 => ?_)
      refine lv_iload hx hb dX0_priceIfBuyable_61 (lv_at hl 1 rfl) ?_
      refine t_ai hx hb hK hB mb_26 tb_26 ai_35 (fun _ => rfl) (i_in (by omega) (by omega)) dX0_priceIfBuyable_63 (fun x_27 ex_27 lx_27 ux_27 => ?_)
      refine lv_imul hx hb dX0_priceIfBuyable_64 ?_
      refine lv_topi (fun x_28 ex_28 => ?_)
      refine lv_iadd hx hb dX0_priceIfBuyable_65 ?_
      refine lv_topi (fun x_29 ex_29 => ?_)
      refine lv_istore (lv' := [(4, .int x_29), (7, .int x_19), (6, .int i_6), (5, .int i_5), (0, .ref h1), (1, .ref h2), (2, .int p3), (3, .int p4)]) hx hb dX0_priceIfBuyable_66 hl (by decide) rfl (fun ls hl => ?_)
      refine lv_iload hx hb dX0_priceIfBuyable_68 (lv_at hl 3 rfl) ?_
      refine lv_iload hx hb dX0_priceIfBuyable_70 (lv_at hl 1 rfl) ?_
      refine lv_aload_n hx hb dX0_priceIfBuyable_72 rfl (lv_at hl 4 rfl) ?_
      refine t_gr hx hb hts hown hK hG hB mh1 th1 fq_3_0 rfl mw_1_135 dX0_priceIfBuyable_73 (fun b_30 hb_30 mb_30 tb_30 => ?_)
      refine lv_iload hx hb dX0_priceIfBuyable_76 (lv_at hl 2 rfl) ?_
      refine t_ai hx hb hK hB mb_30 tb_30 ai_33 (fun _ => rfl) (i_in (by omega) (by omega)) dX0_priceIfBuyable_78 (fun x_31 ex_31 lx_31 ux_31 => ?_)
      refine lv_imul hx hb dX0_priceIfBuyable_79 ?_
      refine lv_topi (fun x_32 ex_32 => ?_)
      refine lv_iadd hx hb dX0_priceIfBuyable_80 ?_
      refine lv_topi (fun x_33 ex_33 => ?_)
      refine lv_istore (lv' := [(5, .int x_33), (4, .int x_29), (7, .int x_19), (6, .int i_6), (0, .ref h1), (1, .ref h2), (2, .int p3), (3, .int p4)]) hx hb dX0_priceIfBuyable_81 hl (by decide) rfl (fun ls hl => ?_)
      obtain ⟨x_34, ex_34⟩ : ∃ y : Int32, y = i_6 + 1 := ⟨_, rfl⟩
      have vx_34 := b_add (rfl : i_6.toInt = _) (by decide : (1 : Int32).toInt = 1) ex_34 (by omega) (by omega)
      refine lv_iinc (v := x_34) (lv' := [(6, .int x_34), (5, .int x_33), (4, .int x_29), (7, .int x_19), (0, .ref h1), (1, .ref h2), (2, .int p3), (3, .int p4)]) hx hb dX0_priceIfBuyable_83 hl (k := 3) rfl (by rw [ex_34]; rfl) (by decide) rfl (fun ls hl => ?_)
      refine lv_goto (tgt := 14) hx hb dX0_priceIfBuyable_86 (by decide) ?_
      exact ih_9 ⟨x_29, x_33, x_34, σ_7, ρ_18⟩ _ _ _ ⟨(by omega), (by omega), hB, hS, lv_sub hl [0, 1, 2, 4, 5, 6, 7] rfl⟩ (by show (5 - x_34.toInt).toNat < (5 - i_6.toInt).toNat; omega)
    · skip
      have uc_25 := i_nle (n := 9) (by decide) c_25
      refine lv_iconst (v := (-1)) hx hb dX0_priceIfBuyable_51 (by decide) ?_
      exact W.iret (v := (-1)) hx hb hr (fun t ht hW => ⟨⟨(-1), (σ_7, ρ_18), rfl, ⟨hB.2.1, hB.2.2, trivial⟩, (show TP D cA L T r σ_7 ρ_18 t.heap from by rw [ht]; exact hB.1)⟩, hS.F ht⟩) hS.2.2 dX0_priceIfBuyable_52
theorem dX0_waysFrom_0 : decode cX0_waysFrom 0 = .ok (.iload_n 2, 1) := by decide +kernel
theorem dX0_waysFrom_1 : decode cX0_waysFrom 1 = .ok (.aload_n 1, 1) := by decide +kernel
theorem dX0_waysFrom_2 : decode cX0_waysFrom 2 = .ok (.getfield 36, 3) := by decide +kernel
theorem dX0_waysFrom_5 : decode cX0_waysFrom 5 = .ok (.if_icmp .lt 5, 3) := by decide +kernel
theorem dX0_waysFrom_8 : decode cX0_waysFrom 8 = .ok (.iconst 1, 1) := by decide +kernel
theorem dX0_waysFrom_9 : decode cX0_waysFrom 9 = .ok (.ireturn, 1) := by decide +kernel
set_option maxHeartbeats 4000000 in
set_option maxRecDepth 100000 in
theorem cy_X0_waysFrom_0 (l : Launch) (D : va_G) (cA : Nat → ClassId) (L : List Nat) (T : Nat → Nat) (r : Rg) (hG : GR L T r) (hL : L.Nodup) (σ : Sg) (ρ : Lg) (hW : WT L ry T σ) (sz : Nat) (h0 : Nat) (mh0 : h0 ∈ L) (th0 : T h0 = 0) (h1 : Nat) (mh1 : h1 ∈ L) (th1 : T h1 = 3) (p2 : Int32) (p3 : Int32) (p4 : Int32) (w0 : 8 ≤ p2.toInt) (w1 : p2.toInt ≤ 8) : Met l yX0_waysFrom (.code yX0_waysFrom cX0_waysFrom 8 (some .int) :: wsA) ({ frames := 0, cells := 0, slots := 0, locals := 0 }) (PR D cA L T r σ ρ sz [.ref h0, .ref h1, .int p2, .int p3, .int p4]) (QI D cA L T r ry ([] : List (Nat × Nat)) σ sz (fun x σ1 => True)) 0 0 (dm L sz) := by
  refine Met.ofW (cc := cX0_waysFrom) (maxL := 8) (ret := (some .int)) (by decide) rfl ?_
  intro p e s m args below meth c s₁ B hml hv
  obtain ⟨rfl, hsz, hP, hK, hN⟩ := hv
  have hx := B.exec
  have hb := B.bytes
  have hr := B.returns
  have hts : ∀ w ∈ wsA, w.before _ s = true := fun w h => atoms_spec (ws := .code yX0_waysFrom cX0_waysFrom 8 (some .int) :: wsA) B.pre w (List.mem_cons_of_mem _ h)
  have hown : s.vm.findClass RX0 = some m.cls := findClass_of_methodNamed B.named
  subst hsz
  have hLA : LA (dm L s.heap.size) L := ⟨hL, fun a h => Or.inl h⟩
  have hA : ∀ q : Nat, s.heap.size ≤ q → dm L s.heap.size q := fun q h => Or.inr h
  have hS : va_S (dm L s.heap.size) s.heap s.heap [] := va_S.rf
  have hB : TS D cA L T r ry ([] : List (Nat × Nat)) σ σ ρ s.heap := ⟨hP, hW, FR.rf⟩
  have hl := lv_entry ([.ref h0, .ref h1, .int p2, .int p3, .int p4]) (n := 8) (Nat.le_of_ble_eq_true rfl)
  rw [lg_entry_eq]
  generalize (lg_sl ([.ref h0, .ref h1, .int p2, .int p3, .int p4]) ++ List.replicate (8 - (lg_sl ([.ref h0, .ref h1, .int p2, .int p3, .int p4])).length) Slot.unset).toArray = ls at hl ⊢
  have hl : lv_has ls 8 [(0, .ref h0), (1, .ref h1), (2, .int p2), (3, .int p3), (4, .int p4)] := hl
  refine lv_iload_n hx hb dX0_waysFrom_0 rfl (lv_at hl 2 rfl) ?_
  refine lv_aload_n hx hb dX0_waysFrom_1 rfl (lv_at hl 1 rfl) ?_
  refine t_gi hx hb hts hown hK hB mh1 th1 fi_3_9 rfl mw_1_180 dX0_waysFrom_2 (fun x_1 ex_1 lx_1 ux_1 => ?_)
  refine lv_icmp_lt (tgt := 10) hx hb dX0_waysFrom_5 (by decide) (fun c_2 => ?_) (fun c_2 => ?_)
  · skip
    have uc_2 := j_lt c_2
    exfalso; omega
  · skip
    have uc_2 := j_nlt c_2
    refine lv_iconst (v := 1) hx hb dX0_waysFrom_8 (by decide) ?_
    exact W.iret (v := 1) hx hb hr (fun t ht hW => ⟨⟨1, (σ, ρ), rfl, ⟨hB.2.1, hB.2.2, trivial⟩, (show TP D cA L T r σ ρ t.heap from by rw [ht]; exact hB.1)⟩, hS.F ht⟩) hS.2.2 dX0_waysFrom_9
theorem mw_5_15 : (.instanceMethod yX0_waysFrom : Cond) ∈ wsA := wsA_t (List.mem_append_right _ (List.mem_append_right _ (List.mem_append_right _ (List.mem_append_right _ (List.mem_append_left _ (List.mem_of_getElem? (l := tables_1_5) (i := 15) rfl)))))) rfl
theorem mp_3_1 : (.selects RX0 yX0_waysFrom yX0_waysFrom : Cond) ∈ wsA := wsA_p (q := (yX0_waysFrom, 6)) (List.mem_append_right _ (List.mem_append_right _ (List.mem_append_left _ (List.mem_of_getElem? (l := lw_privs_3) (i := 1) rfl))))
theorem mw_5_16 : (.code yX0_waysFrom cX0_waysFrom 8 (some .int) : Cond) ∈ wsA := wsA_t (List.mem_append_right _ (List.mem_append_right _ (List.mem_append_right _ (List.mem_append_right _ (List.mem_append_left _ (List.mem_of_getElem? (l := tables_1_5) (i := 16) rfl)))))) rfl
theorem mw_5_13 : (.methodLink RX0 72 yX0_waysFrom : Cond) ∈ wsA := wsA_t (List.mem_append_right _ (List.mem_append_right _ (List.mem_append_right _ (List.mem_append_right _ (List.mem_append_left _ (List.mem_of_getElem? (l := tables_1_5) (i := 13) rfl)))))) rfl
theorem dX0_waysFrom_10 : decode cX0_waysFrom 10 = .ok (.iload_n 2, 1) := by decide +kernel
theorem dX0_waysFrom_11 : decode cX0_waysFrom 11 = .ok (.iload_n 3, 1) := by decide +kernel
theorem dX0_waysFrom_12 : decode cX0_waysFrom 12 = .ok (.if_icmp .ne 15, 3) := by decide +kernel
theorem dX0_waysFrom_27 : decode cX0_waysFrom 27 = .ok (.iconst 0, 1) := by decide +kernel
theorem dX0_waysFrom_28 : decode cX0_waysFrom 28 = .ok (.istore 5, 2) := by decide +kernel
theorem dX0_waysFrom_30 : decode cX0_waysFrom 30 = .ok (.iconst 0, 1) := by decide +kernel
theorem dX0_waysFrom_31 : decode cX0_waysFrom 31 = .ok (.istore 6, 2) := by decide +kernel
theorem dX0_waysFrom_33 : decode cX0_waysFrom 33 = .ok (.iload 6, 2) := by decide +kernel
theorem dX0_waysFrom_35 : decode cX0_waysFrom 35 = .ok (.iconst 1, 1) := by decide +kernel
theorem dX0_waysFrom_36 : decode cX0_waysFrom 36 = .ok (.if_icmp .gt 72, 3) := by decide +kernel
theorem dX0_waysFrom_108 : decode cX0_waysFrom 108 = .ok (.iload 5, 2) := by decide +kernel
theorem dX0_waysFrom_110 : decode cX0_waysFrom 110 = .ok (.ireturn, 1) := by decide +kernel
theorem dX0_waysFrom_39 : decode cX0_waysFrom 39 = .ok (.aload_n 1, 1) := by decide +kernel
theorem dX0_waysFrom_40 : decode cX0_waysFrom 40 = .ok (.iload_n 2, 1) := by decide +kernel
theorem dX0_waysFrom_41 : decode cX0_waysFrom 41 = .ok (.iload 6, 2) := by decide +kernel
theorem dX0_waysFrom_43 : decode cX0_waysFrom 43 = .ok (.iload_n 2, 1) := by decide +kernel
theorem dX0_waysFrom_44 : decode cX0_waysFrom 44 = .ok (.ishl, 1) := by decide +kernel
theorem dX0_waysFrom_45 : decode cX0_waysFrom 45 = .ok (.invokevirtual 45, 3) := by decide +kernel
theorem dX0_waysFrom_48 : decode cX0_waysFrom 48 = .ok (.istore 7, 2) := by decide +kernel
theorem dX0_waysFrom_50 : decode cX0_waysFrom 50 = .ok (.aload_n 0, 1) := by decide +kernel
theorem dX0_waysFrom_51 : decode cX0_waysFrom 51 = .ok (.getfield 9, 3) := by decide +kernel
theorem dX0_waysFrom_54 : decode cX0_waysFrom 54 = .ok (.iload 7, 2) := by decide +kernel
theorem dX0_waysFrom_56 : decode cX0_waysFrom 56 = .ok (.iaload, 1) := by decide +kernel
theorem dX0_waysFrom_57 : decode cX0_waysFrom 57 = .ok (.iload 4, 2) := by decide +kernel
theorem dX0_waysFrom_59 : decode cX0_waysFrom 59 = .ok (.if_icmp .lt 43, 3) := by decide +kernel
theorem dX0_waysFrom_102 : decode cX0_waysFrom 102 = .ok (.iinc 6 1, 3) := by decide +kernel
theorem dX0_waysFrom_105 : decode cX0_waysFrom 105 = .ok (.goto (-72), 3) := by decide +kernel
theorem dX0_waysFrom_62 : decode cX0_waysFrom 62 = .ok (.aload_n 0, 1) := by decide +kernel
theorem dX0_waysFrom_63 : decode cX0_waysFrom 63 = .ok (.getfield 9, 3) := by decide +kernel
theorem dX0_waysFrom_66 : decode cX0_waysFrom 66 = .ok (.iload 7, 2) := by decide +kernel
theorem dX0_waysFrom_68 : decode cX0_waysFrom 68 = .ok (.dup2, 1) := by decide +kernel
theorem dX0_waysFrom_69 : decode cX0_waysFrom 69 = .ok (.iaload, 1) := by decide +kernel
theorem dX0_waysFrom_70 : decode cX0_waysFrom 70 = .ok (.iload 4, 2) := by decide +kernel
theorem dX0_waysFrom_72 : decode cX0_waysFrom 72 = .ok (.isub, 1) := by decide +kernel
theorem dX0_waysFrom_73 : decode cX0_waysFrom 73 = .ok (.iastore, 1) := by decide +kernel
theorem dX0_waysFrom_74 : decode cX0_waysFrom 74 = .ok (.iload 5, 2) := by decide +kernel
theorem dX0_waysFrom_76 : decode cX0_waysFrom 76 = .ok (.aload_n 0, 1) := by decide +kernel
theorem dX0_waysFrom_77 : decode cX0_waysFrom 77 = .ok (.aload_n 1, 1) := by decide +kernel
theorem dX0_waysFrom_78 : decode cX0_waysFrom 78 = .ok (.iload_n 2, 1) := by decide +kernel
theorem dX0_waysFrom_79 : decode cX0_waysFrom 79 = .ok (.iconst 1, 1) := by decide +kernel
theorem dX0_waysFrom_80 : decode cX0_waysFrom 80 = .ok (.iadd, 1) := by decide +kernel
theorem dX0_waysFrom_81 : decode cX0_waysFrom 81 = .ok (.iload_n 3, 1) := by decide +kernel
theorem dX0_waysFrom_82 : decode cX0_waysFrom 82 = .ok (.iload 4, 2) := by decide +kernel
theorem dX0_waysFrom_84 : decode cX0_waysFrom 84 = .ok (.invokevirtual 72, 3) := by decide +kernel
theorem dX0_waysFrom_87 : decode cX0_waysFrom 87 = .ok (.iadd, 1) := by decide +kernel
theorem dX0_waysFrom_88 : decode cX0_waysFrom 88 = .ok (.istore 5, 2) := by decide +kernel
theorem dX0_waysFrom_90 : decode cX0_waysFrom 90 = .ok (.aload_n 0, 1) := by decide +kernel
theorem dX0_waysFrom_91 : decode cX0_waysFrom 91 = .ok (.getfield 9, 3) := by decide +kernel
theorem dX0_waysFrom_94 : decode cX0_waysFrom 94 = .ok (.iload 7, 2) := by decide +kernel
theorem dX0_waysFrom_96 : decode cX0_waysFrom 96 = .ok (.dup2, 1) := by decide +kernel
theorem dX0_waysFrom_97 : decode cX0_waysFrom 97 = .ok (.iaload, 1) := by decide +kernel
theorem dX0_waysFrom_98 : decode cX0_waysFrom 98 = .ok (.iload 4, 2) := by decide +kernel
theorem dX0_waysFrom_100 : decode cX0_waysFrom 100 = .ok (.iadd, 1) := by decide +kernel
theorem dX0_waysFrom_101 : decode cX0_waysFrom 101 = .ok (.iastore, 1) := by decide +kernel
theorem dX0_waysFrom_15 : decode cX0_waysFrom 15 = .ok (.aload_n 0, 1) := by decide +kernel
theorem dX0_waysFrom_16 : decode cX0_waysFrom 16 = .ok (.aload_n 1, 1) := by decide +kernel
theorem dX0_waysFrom_17 : decode cX0_waysFrom 17 = .ok (.iload_n 2, 1) := by decide +kernel
theorem dX0_waysFrom_18 : decode cX0_waysFrom 18 = .ok (.iconst 1, 1) := by decide +kernel
theorem dX0_waysFrom_19 : decode cX0_waysFrom 19 = .ok (.iadd, 1) := by decide +kernel
theorem dX0_waysFrom_20 : decode cX0_waysFrom 20 = .ok (.iload_n 3, 1) := by decide +kernel
theorem dX0_waysFrom_21 : decode cX0_waysFrom 21 = .ok (.iload 4, 2) := by decide +kernel
theorem dX0_waysFrom_23 : decode cX0_waysFrom 23 = .ok (.invokevirtual 72, 3) := by decide +kernel
theorem dX0_waysFrom_26 : decode cX0_waysFrom 26 = .ok (.ireturn, 1) := by decide +kernel
theorem mv_X0_waysFrom : MV RX0 yX0_waysFrom cX0_waysFrom 8 (some .int) 4 := ⟨mw_5_15, mp_3_1, mw_1_9, mw_5_16, ⟨rfl, by decide, by decide, by decide +kernel⟩⟩
set_option maxHeartbeats 4000000 in
set_option maxRecDepth 100000 in
theorem cy_X0_waysFrom_1 (l : Launch) (D : va_G) (cA : Nat → ClassId) (L : List Nat) (T : Nat → Nat) (r : Rg) (hG : GR L T r) (hL : L.Nodup) (σ : Sg) (ρ : Lg) (hW : WT L ry T σ) (sz : Nat) (h0 : Nat) (mh0 : h0 ∈ L) (th0 : T h0 = 0) (h1 : Nat) (mh1 : h1 ∈ L) (th1 : T h1 = 3) (p2 : Int32) (p3 : Int32) (p4 : Int32) (w0 : 7 ≤ p2.toInt) (w1 : p2.toInt ≤ 8) : Met l yX0_waysFrom (.code yX0_waysFrom cX0_waysFrom 8 (some .int) :: wsA) ({ frames := 1, cells := 0, slots := 0, locals := 27 }) (PR D cA L T r σ ρ sz [.ref h0, .ref h1, .int p2, .int p3, .int p4]) (QI D cA L T r ry [(20, 1000)] σ sz (fun x σ1 => True)) 0 0 (dm L sz) := by
  refine Met.ofW (cc := cX0_waysFrom) (maxL := 8) (ret := (some .int)) (by decide) rfl ?_
  intro p e s m args below meth c s₁ B hml hv
  obtain ⟨rfl, hsz, hP, hK, hN⟩ := hv
  have hx := B.exec
  have hb := B.bytes
  have hr := B.returns
  have hts : ∀ w ∈ wsA, w.before _ s = true := fun w h => atoms_spec (ws := .code yX0_waysFrom cX0_waysFrom 8 (some .int) :: wsA) B.pre w (List.mem_cons_of_mem _ h)
  have hown : s.vm.findClass RX0 = some m.cls := findClass_of_methodNamed B.named
  subst hsz
  have hLA : LA (dm L s.heap.size) L := ⟨hL, fun a h => Or.inl h⟩
  have hA : ∀ q : Nat, s.heap.size ≤ q → dm L s.heap.size q := fun q h => Or.inr h
  have hS : va_S (dm L s.heap.size) s.heap s.heap [] := va_S.rf
  have hB : TS D cA L T r ry [(20, 1000)] σ σ ρ s.heap := ⟨hP, hW, FR.rf⟩
  have hl := lv_entry ([.ref h0, .ref h1, .int p2, .int p3, .int p4]) (n := 8) (Nat.le_of_ble_eq_true rfl)
  rw [lg_entry_eq]
  generalize (lg_sl ([.ref h0, .ref h1, .int p2, .int p3, .int p4]) ++ List.replicate (8 - (lg_sl ([.ref h0, .ref h1, .int p2, .int p3, .int p4])).length) Slot.unset).toArray = ls at hl ⊢
  have hl : lv_has ls 8 [(0, .ref h0), (1, .ref h1), (2, .int p2), (3, .int p3), (4, .int p4)] := hl
  refine lv_iload_n hx hb dX0_waysFrom_0 rfl (lv_at hl 2 rfl) ?_
  refine lv_aload_n hx hb dX0_waysFrom_1 rfl (lv_at hl 1 rfl) ?_
  refine t_gi hx hb hts hown hK hB mh1 th1 fi_3_9 rfl mw_1_180 dX0_waysFrom_2 (fun x_1 ex_1 lx_1 ux_1 => ?_)
  refine lv_icmp_lt (tgt := 10) hx hb dX0_waysFrom_5 (by decide) (fun c_2 => ?_) (fun c_2 => ?_)
  · skip
    have uc_2 := j_lt c_2
    refine lv_iload_n hx hb dX0_waysFrom_10 rfl (lv_at hl 2 rfl) ?_
    refine lv_iload_n hx hb dX0_waysFrom_11 rfl (lv_at hl 3 rfl) ?_
    refine lv_icmp_ne (tgt := 27) hx hb dX0_waysFrom_12 (by decide) (fun c_3 => ?_) (fun c_3 => ?_)
    · skip
      have uc_3 := j_ne c_3
      refine lv_iconst (v := 0) hx hb dX0_waysFrom_27 (by decide) ?_
      refine lv_istore (lv' := [(5, .int 0), (0, .ref h0), (1, .ref h1), (2, .int p2), (3, .int p3), (4, .int p4)]) hx hb dX0_waysFrom_28 hl (by decide) rfl (fun ls hl => ?_)
      refine lv_iconst (v := 0) hx hb dX0_waysFrom_30 (by decide) ?_
      refine lv_istore (lv' := [(6, .int 0), (5, .int 0), (0, .ref h0), (1, .ref h1), (2, .int p2), (3, .int p3), (4, .int p4)]) hx hb dX0_waysFrom_31 hl (by decide) rfl (fun ls hl => ?_)
      refine w_loop (α := Int32 × Int32 × Sg × Lg) (fun (i_4, i_5, σ_6, ρ_7) H locs ls => 0 ≤ i_5.toInt ∧ i_5.toInt ≤ 2 ∧ σ_6 h1 9 = x_1 ∧ TS D cA L T r ry [(20, 1000)] σ σ_6 ρ_7 H ∧ va_S (dm L s.heap.size) s.heap H locs ∧ lv_has ls 8 [(6, .int i_5), (5, .int i_4), (0, .ref h0), (1, .ref h1), (2, .int p2), (3, .int p3), (4, .int p4)]) (fun (i_4, i_5, σ_6, ρ_7) => (2 - i_5.toInt).toNat) ?_ ⟨0, 0, σ, ρ⟩ ⟨(by decide), (by decide), ex_1.symm, hB, hS, lv_sub hl [0, 1, 2, 3, 4, 5, 6] rfl⟩
      rintro ⟨i_4, i_5, σ_6, ρ_7⟩ H locs ls ⟨li_5, ui_5, k_9, hB, hS, hl⟩ ih_8
      refine lv_iload hx hb dX0_waysFrom_33 (lv_at hl 0 rfl) ?_
      refine lv_iconst (v := 1) hx hb dX0_waysFrom_35 (by decide) ?_
      refine lv_icmp_gt (tgt := 108) hx hb dX0_waysFrom_36 (by decide) (fun c_10 => ?_) (fun c_10 => ?_)
      · skip
        have uc_10 := i_gt (n := 1) (by decide) c_10
        refine lv_iload hx hb dX0_waysFrom_108 (lv_at hl 1 rfl) ?_
        exact W.iret (v := i_4) hx hb hr (fun t ht hW => ⟨⟨i_4, (σ_6, ρ_7), rfl, ⟨hB.2.1, hB.2.2, trivial⟩, (show TP D cA L T r σ_6 ρ_7 t.heap from by rw [ht]; exact hB.1)⟩, hS.F ht⟩) hS.2.2 dX0_waysFrom_110
      · skip
        have uc_10 := i_ngt (n := 1) (by decide) c_10
        refine lv_aload_n hx hb dX0_waysFrom_39 rfl (lv_at hl 3 rfl) ?_
        refine lv_iload_n hx hb dX0_waysFrom_40 rfl (lv_at hl 4 rfl) ?_
        refine lv_iload hx hb dX0_waysFrom_41 (lv_at hl 0 rfl) ?_
        refine lv_iload_n hx hb dX0_waysFrom_43 rfl (lv_at hl 4 rfl) ?_
        refine lv_ishl hx hb dX0_waysFrom_44 ?_
        refine lv_topi (fun x_11 ex_11 => ?_)
        refine t_ci (va_runV (As := [.int p2, .int x_11]) (rest := []) ⟨hx, hb, hml, hown, hts⟩ (cy_X3_askedAt l D cA L T r hG hLA.1 σ_6 ρ_7 hB.2.1 _ h1 mh1 th1 p2 x_11 (by first | omega | decide) (by first | omega | decide)) (cV hts mv_X3_askedAt mw_4_223 rfl rfl ⟨Nat.le_of_ble_eq_true rfl, Nat.le_of_ble_eq_true rfl⟩) (pV hB.1 hK hN mh1 th1 (show shp cA 3 _ _ _ = .inr (3, Fs3 _ _ _) from rfl) rfl) rfl rfl hl.1 rfl (lv_room (Nat.le_of_ble_eq_true rfl)) dX0_waysFrom_45 ⟨Nat.le_of_ble_eq_true rfl, Nat.le_of_ble_eq_true rfl⟩) hLA hA hB hS (by decide) (fun x_14 σ_12 ρ_13 H locs hB fσ_12 pσ_12 hS => ?_)
        have qσ_12 := FR.nil fσ_12
        subst qσ_12
        obtain ⟨lx_14, ux_14⟩ := pσ_12
        refine lv_istore (lv' := [(7, .int x_14), (6, .int i_5), (5, .int i_4), (0, .ref h0), (1, .ref h1), (2, .int p2), (3, .int p3), (4, .int p4)]) hx hb dX0_waysFrom_48 hl (by decide) rfl (fun ls hl => ?_)
        refine lv_aload_n hx hb dX0_waysFrom_50 rfl (lv_at hl 3 rfl) ?_
        refine t_gr hx hb hts hown hK hG hB mh0 th0 fq_0_0 rfl mw_2_95 dX0_waysFrom_51 (fun b_15 hb_15 mb_15 tb_15 => ?_)
        refine lv_iload hx hb dX0_waysFrom_54 (lv_at hl 0 rfl) ?_
        refine t_ai hx hb hK hB mb_15 tb_15 ai_20 (fun _ => rfl) (i_in (by omega) (by omega)) dX0_waysFrom_56 (fun x_16 ex_16 lx_16 ux_16 => ?_)
        refine lv_iload hx hb dX0_waysFrom_57 (lv_at hl 7 rfl) ?_
        refine lv_icmp_lt (tgt := 102) hx hb dX0_waysFrom_59 (by decide) (fun c_17 => ?_) (fun c_17 => ?_)
        · skip
          have uc_17 := j_lt c_17
          obtain ⟨x_18, ex_18⟩ : ∃ y : Int32, y = i_5 + 1 := ⟨_, rfl⟩
          have vx_18 := b_add (rfl : i_5.toInt = _) (by decide : (1 : Int32).toInt = 1) ex_18 (by omega) (by omega)
          refine lv_iinc (v := x_18) (lv' := [(6, .int x_18), (7, .int x_14), (5, .int i_4), (0, .ref h0), (1, .ref h1), (2, .int p2), (3, .int p3), (4, .int p4)]) hx hb dX0_waysFrom_102 hl (k := 1) rfl (by rw [ex_18]; rfl) (by decide) rfl (fun ls hl => ?_)
          refine lv_goto (tgt := 33) hx hb dX0_waysFrom_105 (by decide) ?_
          exact ih_8 ⟨i_4, x_18, σ_6, ρ_13⟩ _ _ _ ⟨(by omega), (by omega), k_9, hB, hS, lv_sub hl [0, 2, 3, 4, 5, 6, 7] rfl⟩ (by show (2 - x_18.toInt).toNat < (2 - i_5.toInt).toNat; omega)
        · skip
          have uc_17 := j_nlt c_17
          refine lv_aload_n hx hb dX0_waysFrom_62 rfl (lv_at hl 3 rfl) ?_
          refine t_gk hx hb hts hown hK hB mh0 th0 fq_0_0 hb_15 mw_2_95 dX0_waysFrom_63 ?_
          refine lv_iload hx hb dX0_waysFrom_66 (lv_at hl 0 rfl) ?_
          refine lv_dup2_11 hx hb dX0_waysFrom_68 rfl rfl ?_
          refine t_ai hx hb hK hB mb_15 tb_15 ai_20 (fun _ => rfl) (i_in (by omega) (by omega)) dX0_waysFrom_69 (fun x_19 ex_19 lx_19 ux_19 => ?_)
          have qx_19 : x_19 = x_16 := ex_19.trans ex_16.symm
          have qx_19 := qx_19.symm
          subst qx_19
          refine lv_iload hx hb dX0_waysFrom_70 (lv_at hl 7 rfl) ?_
          refine lv_isub hx hb dX0_waysFrom_72 ?_
          refine lv_topi (fun x_20 ex_20 => ?_)
          refine t_si hx hb hK hLA hB hS mb_15 tb_15 ai_20 (i_in (by omega) (by omega)) (i_lo _) (i_hi _) (Or.inr (by decide)) dX0_waysFrom_73 (fun H locs σ_21 eσ_21 hB hS => ?_)
          have k_22 : σ_21 b_15 x_14.toNatClampNeg = x_20 := by rw [eσ_21]; exact up2_same _ _ _ _
          refine lv_iload hx hb dX0_waysFrom_74 (lv_at hl 2 rfl) ?_
          refine lv_aload_n hx hb dX0_waysFrom_76 rfl (lv_at hl 3 rfl) ?_
          refine lv_aload_n hx hb dX0_waysFrom_77 rfl (lv_at hl 4 rfl) ?_
          refine lv_iload_n hx hb dX0_waysFrom_78 rfl (lv_at hl 5 rfl) ?_
          refine lv_iconst (v := 1) hx hb dX0_waysFrom_79 (by decide) ?_
          refine lv_iadd hx hb dX0_waysFrom_80 ?_
          refine lv_topi (fun x_23 ex_23 => ?_)
          have vx_23 := b_add (rfl : p2.toInt = _) (by decide : (1 : Int32).toInt = 1) ex_23 (by omega) (by omega)
          refine lv_iload_n hx hb dX0_waysFrom_81 rfl (lv_at hl 6 rfl) ?_
          refine lv_iload hx hb dX0_waysFrom_82 (lv_at hl 7 rfl) ?_
          refine t_ci (va_runV (As := [.ref h1, .int x_23, .int p3, .int p4]) (rest := [.int i_4]) ⟨hx, hb, hml, hown, hts⟩ (cy_X0_waysFrom_0 l D cA L T r hG hLA.1 σ_21 ρ_13 hB.2.1 _ h0 mh0 th0 h1 mh1 th1 x_23 p3 p4 (by first | omega | decide) (by first | omega | decide)) (cV hts mv_X0_waysFrom mw_5_13 rfl rfl ⟨Nat.le_of_ble_eq_true rfl, Nat.le_of_ble_eq_true rfl⟩) (pV hB.1 hK hN mh0 th0 (show shp cA 0 _ _ _ = .inr (0, Fs0 _ _ _) from rfl) rfl) rfl rfl hl.1 rfl (lv_room (Nat.le_of_ble_eq_true rfl)) dX0_waysFrom_84 ⟨Nat.le_of_ble_eq_true rfl, Nat.le_of_ble_eq_true rfl⟩) hLA hA hB hS (by decide) (fun x_26 σ_24 ρ_25 H locs hB fσ_24 pσ_24 hS => ?_)
          have qσ_24 := FR.nil fσ_24
          subst qσ_24
          refine lv_iadd hx hb dX0_waysFrom_87 ?_
          refine lv_topi (fun x_27 ex_27 => ?_)
          refine lv_istore (lv' := [(5, .int x_27), (7, .int x_14), (6, .int i_5), (0, .ref h0), (1, .ref h1), (2, .int p2), (3, .int p3), (4, .int p4)]) hx hb dX0_waysFrom_88 hl (by decide) rfl (fun ls hl => ?_)
          refine lv_aload_n hx hb dX0_waysFrom_90 rfl (lv_at hl 3 rfl) ?_
          refine t_gk hx hb hts hown hK hB mh0 th0 fq_0_0 hb_15 mw_2_95 dX0_waysFrom_91 ?_
          refine lv_iload hx hb dX0_waysFrom_94 (lv_at hl 1 rfl) ?_
          refine lv_dup2_11 hx hb dX0_waysFrom_96 rfl rfl ?_
          refine t_ai hx hb hK hB mb_15 tb_15 ai_20 (fun _ => rfl) (i_in (by omega) (by omega)) dX0_waysFrom_97 (fun x_28 ex_28 lx_28 ux_28 => ?_)
          have qx_28 : x_28 = x_20 := ex_28.trans k_22
          have qx_28 := qx_28.symm
          subst qx_28
          refine lv_iload hx hb dX0_waysFrom_98 (lv_at hl 7 rfl) ?_
          refine lv_iadd hx hb dX0_waysFrom_100 ?_
          refine lv_topi (fun x_29 ex_29 => ?_)
          refine t_si hx hb hK hLA hB hS mb_15 tb_15 ai_20 (i_in (by omega) (by omega)) (i_lo _) (i_hi _) (Or.inr (by decide)) dX0_waysFrom_101 (fun H locs σ_30 eσ_30 hB hS => ?_)
          have k_31 : σ_30 b_15 x_14.toNatClampNeg = x_29 := by rw [eσ_30]; exact up2_same _ _ _ _
          obtain ⟨x_32, ex_32⟩ : ∃ y : Int32, y = i_5 + 1 := ⟨_, rfl⟩
          have vx_32 := b_add (rfl : i_5.toInt = _) (by decide : (1 : Int32).toInt = 1) ex_32 (by omega) (by omega)
          refine lv_iinc (v := x_32) (lv' := [(6, .int x_32), (5, .int x_27), (7, .int x_14), (0, .ref h0), (1, .ref h1), (2, .int p2), (3, .int p3), (4, .int p4)]) hx hb dX0_waysFrom_102 hl (k := 2) rfl (by rw [ex_32]; rfl) (by decide) rfl (fun ls hl => ?_)
          refine lv_goto (tgt := 33) hx hb dX0_waysFrom_105 (by decide) ?_
          have k_33 : σ_21 h1 9 = x_1 := by rw [eσ_21, up2_nea _ _ (tg_ne th1 tb_15 (by decide))]; exact k_9
          have k_34 : σ_30 h1 9 = x_1 := by rw [eσ_30, up2_nea _ _ (tg_ne th1 tb_15 (by decide))]; exact k_33
          exact ih_8 ⟨x_27, x_32, σ_30, ρ_25⟩ _ _ _ ⟨(by omega), (by omega), k_34, hB, hS, lv_sub hl [0, 1, 3, 4, 5, 6, 7] rfl⟩ (by show (2 - x_32.toInt).toNat < (2 - i_5.toInt).toNat; omega)
    · skip
      have uc_3 := j_eq c_3
      refine lv_aload_n hx hb dX0_waysFrom_15 rfl (lv_at hl 0 rfl) ?_
      refine lv_aload_n hx hb dX0_waysFrom_16 rfl (lv_at hl 1 rfl) ?_
      refine lv_iload_n hx hb dX0_waysFrom_17 rfl (lv_at hl 2 rfl) ?_
      refine lv_iconst (v := 1) hx hb dX0_waysFrom_18 (by decide) ?_
      refine lv_iadd hx hb dX0_waysFrom_19 ?_
      refine lv_topi (fun x_35 ex_35 => ?_)
      have vx_35 := b_add (rfl : p2.toInt = _) (by decide : (1 : Int32).toInt = 1) ex_35 (by omega) (by omega)
      refine lv_iload_n hx hb dX0_waysFrom_20 rfl (lv_at hl 3 rfl) ?_
      refine lv_iload hx hb dX0_waysFrom_21 (lv_at hl 4 rfl) ?_
      refine t_ci (va_runV (As := [.ref h1, .int x_35, .int p3, .int p4]) (rest := []) ⟨hx, hb, hml, hown, hts⟩ (cy_X0_waysFrom_0 l D cA L T r hG hLA.1 σ ρ hB.2.1 _ h0 mh0 th0 h1 mh1 th1 x_35 p3 p4 (by first | omega | decide) (by first | omega | decide)) (cV hts mv_X0_waysFrom mw_5_13 rfl rfl ⟨Nat.le_of_ble_eq_true rfl, Nat.le_of_ble_eq_true rfl⟩) (pV hB.1 hK hN mh0 th0 (show shp cA 0 _ _ _ = .inr (0, Fs0 _ _ _) from rfl) rfl) rfl rfl hl.1 rfl (lv_room (Nat.le_of_ble_eq_true rfl)) dX0_waysFrom_23 ⟨Nat.le_of_ble_eq_true rfl, Nat.le_of_ble_eq_true rfl⟩) hLA hA hB hS (by decide) (fun x_38 σ_36 ρ_37 H locs hB fσ_36 pσ_36 hS => ?_)
      have qσ_36 := FR.nil fσ_36
      subst qσ_36
      exact W.iret (v := x_38) hx hb hr (fun t ht hW => ⟨⟨x_38, (σ, ρ_37), rfl, ⟨hB.2.1, hB.2.2, trivial⟩, (show TP D cA L T r σ ρ_37 t.heap from by rw [ht]; exact hB.1)⟩, hS.F ht⟩) hS.2.2 dX0_waysFrom_26
  · skip
    have uc_2 := j_nlt c_2
    refine lv_iconst (v := 1) hx hb dX0_waysFrom_8 (by decide) ?_
    exact W.iret (v := 1) hx hb hr (fun t ht hW => ⟨⟨1, (σ, ρ), rfl, ⟨hB.2.1, hB.2.2, trivial⟩, (show TP D cA L T r σ ρ t.heap from by rw [ht]; exact hB.1)⟩, hS.F ht⟩) hS.2.2 dX0_waysFrom_9
set_option maxHeartbeats 4000000 in
set_option maxRecDepth 100000 in
theorem cy_X0_waysFrom_2 (l : Launch) (D : va_G) (cA : Nat → ClassId) (L : List Nat) (T : Nat → Nat) (r : Rg) (hG : GR L T r) (hL : L.Nodup) (σ : Sg) (ρ : Lg) (hW : WT L ry T σ) (sz : Nat) (h0 : Nat) (mh0 : h0 ∈ L) (th0 : T h0 = 0) (h1 : Nat) (mh1 : h1 ∈ L) (th1 : T h1 = 3) (p2 : Int32) (p3 : Int32) (p4 : Int32) (w0 : 6 ≤ p2.toInt) (w1 : p2.toInt ≤ 8) : Met l yX0_waysFrom (.code yX0_waysFrom cX0_waysFrom 8 (some .int) :: wsA) ({ frames := 2, cells := 0, slots := 0, locals := 54 }) (PR D cA L T r σ ρ sz [.ref h0, .ref h1, .int p2, .int p3, .int p4]) (QI D cA L T r ry [(20, 1000)] σ sz (fun x σ1 => True)) 0 0 (dm L sz) := by
  refine Met.ofW (cc := cX0_waysFrom) (maxL := 8) (ret := (some .int)) (by decide) rfl ?_
  intro p e s m args below meth c s₁ B hml hv
  obtain ⟨rfl, hsz, hP, hK, hN⟩ := hv
  have hx := B.exec
  have hb := B.bytes
  have hr := B.returns
  have hts : ∀ w ∈ wsA, w.before _ s = true := fun w h => atoms_spec (ws := .code yX0_waysFrom cX0_waysFrom 8 (some .int) :: wsA) B.pre w (List.mem_cons_of_mem _ h)
  have hown : s.vm.findClass RX0 = some m.cls := findClass_of_methodNamed B.named
  subst hsz
  have hLA : LA (dm L s.heap.size) L := ⟨hL, fun a h => Or.inl h⟩
  have hA : ∀ q : Nat, s.heap.size ≤ q → dm L s.heap.size q := fun q h => Or.inr h
  have hS : va_S (dm L s.heap.size) s.heap s.heap [] := va_S.rf
  have hB : TS D cA L T r ry [(20, 1000)] σ σ ρ s.heap := ⟨hP, hW, FR.rf⟩
  have hl := lv_entry ([.ref h0, .ref h1, .int p2, .int p3, .int p4]) (n := 8) (Nat.le_of_ble_eq_true rfl)
  rw [lg_entry_eq]
  generalize (lg_sl ([.ref h0, .ref h1, .int p2, .int p3, .int p4]) ++ List.replicate (8 - (lg_sl ([.ref h0, .ref h1, .int p2, .int p3, .int p4])).length) Slot.unset).toArray = ls at hl ⊢
  have hl : lv_has ls 8 [(0, .ref h0), (1, .ref h1), (2, .int p2), (3, .int p3), (4, .int p4)] := hl
  refine lv_iload_n hx hb dX0_waysFrom_0 rfl (lv_at hl 2 rfl) ?_
  refine lv_aload_n hx hb dX0_waysFrom_1 rfl (lv_at hl 1 rfl) ?_
  refine t_gi hx hb hts hown hK hB mh1 th1 fi_3_9 rfl mw_1_180 dX0_waysFrom_2 (fun x_1 ex_1 lx_1 ux_1 => ?_)
  refine lv_icmp_lt (tgt := 10) hx hb dX0_waysFrom_5 (by decide) (fun c_2 => ?_) (fun c_2 => ?_)
  · skip
    have uc_2 := j_lt c_2
    refine lv_iload_n hx hb dX0_waysFrom_10 rfl (lv_at hl 2 rfl) ?_
    refine lv_iload_n hx hb dX0_waysFrom_11 rfl (lv_at hl 3 rfl) ?_
    refine lv_icmp_ne (tgt := 27) hx hb dX0_waysFrom_12 (by decide) (fun c_3 => ?_) (fun c_3 => ?_)
    · skip
      have uc_3 := j_ne c_3
      refine lv_iconst (v := 0) hx hb dX0_waysFrom_27 (by decide) ?_
      refine lv_istore (lv' := [(5, .int 0), (0, .ref h0), (1, .ref h1), (2, .int p2), (3, .int p3), (4, .int p4)]) hx hb dX0_waysFrom_28 hl (by decide) rfl (fun ls hl => ?_)
      refine lv_iconst (v := 0) hx hb dX0_waysFrom_30 (by decide) ?_
      refine lv_istore (lv' := [(6, .int 0), (5, .int 0), (0, .ref h0), (1, .ref h1), (2, .int p2), (3, .int p3), (4, .int p4)]) hx hb dX0_waysFrom_31 hl (by decide) rfl (fun ls hl => ?_)
      refine w_loop (α := Int32 × Int32 × Sg × Lg) (fun (i_4, i_5, σ_6, ρ_7) H locs ls => 0 ≤ i_5.toInt ∧ i_5.toInt ≤ 2 ∧ σ_6 h1 9 = x_1 ∧ TS D cA L T r ry [(20, 1000)] σ σ_6 ρ_7 H ∧ va_S (dm L s.heap.size) s.heap H locs ∧ lv_has ls 8 [(6, .int i_5), (5, .int i_4), (0, .ref h0), (1, .ref h1), (2, .int p2), (3, .int p3), (4, .int p4)]) (fun (i_4, i_5, σ_6, ρ_7) => (2 - i_5.toInt).toNat) ?_ ⟨0, 0, σ, ρ⟩ ⟨(by decide), (by decide), ex_1.symm, hB, hS, lv_sub hl [0, 1, 2, 3, 4, 5, 6] rfl⟩
      rintro ⟨i_4, i_5, σ_6, ρ_7⟩ H locs ls ⟨li_5, ui_5, k_9, hB, hS, hl⟩ ih_8
      refine lv_iload hx hb dX0_waysFrom_33 (lv_at hl 0 rfl) ?_
      refine lv_iconst (v := 1) hx hb dX0_waysFrom_35 (by decide) ?_
      refine lv_icmp_gt (tgt := 108) hx hb dX0_waysFrom_36 (by decide) (fun c_10 => ?_) (fun c_10 => ?_)
      · skip
        have uc_10 := i_gt (n := 1) (by decide) c_10
        refine lv_iload hx hb dX0_waysFrom_108 (lv_at hl 1 rfl) ?_
        exact W.iret (v := i_4) hx hb hr (fun t ht hW => ⟨⟨i_4, (σ_6, ρ_7), rfl, ⟨hB.2.1, hB.2.2, trivial⟩, (show TP D cA L T r σ_6 ρ_7 t.heap from by rw [ht]; exact hB.1)⟩, hS.F ht⟩) hS.2.2 dX0_waysFrom_110
      · skip
        have uc_10 := i_ngt (n := 1) (by decide) c_10
        refine lv_aload_n hx hb dX0_waysFrom_39 rfl (lv_at hl 3 rfl) ?_
        refine lv_iload_n hx hb dX0_waysFrom_40 rfl (lv_at hl 4 rfl) ?_
        refine lv_iload hx hb dX0_waysFrom_41 (lv_at hl 0 rfl) ?_
        refine lv_iload_n hx hb dX0_waysFrom_43 rfl (lv_at hl 4 rfl) ?_
        refine lv_ishl hx hb dX0_waysFrom_44 ?_
        refine lv_topi (fun x_11 ex_11 => ?_)
        refine t_ci (va_runV (As := [.int p2, .int x_11]) (rest := []) ⟨hx, hb, hml, hown, hts⟩ (cy_X3_askedAt l D cA L T r hG hLA.1 σ_6 ρ_7 hB.2.1 _ h1 mh1 th1 p2 x_11 (by first | omega | decide) (by first | omega | decide)) (cV hts mv_X3_askedAt mw_4_223 rfl rfl ⟨Nat.le_of_ble_eq_true rfl, Nat.le_of_ble_eq_true rfl⟩) (pV hB.1 hK hN mh1 th1 (show shp cA 3 _ _ _ = .inr (3, Fs3 _ _ _) from rfl) rfl) rfl rfl hl.1 rfl (lv_room (Nat.le_of_ble_eq_true rfl)) dX0_waysFrom_45 ⟨Nat.le_of_ble_eq_true rfl, Nat.le_of_ble_eq_true rfl⟩) hLA hA hB hS (by decide) (fun x_14 σ_12 ρ_13 H locs hB fσ_12 pσ_12 hS => ?_)
        have qσ_12 := FR.nil fσ_12
        subst qσ_12
        obtain ⟨lx_14, ux_14⟩ := pσ_12
        refine lv_istore (lv' := [(7, .int x_14), (6, .int i_5), (5, .int i_4), (0, .ref h0), (1, .ref h1), (2, .int p2), (3, .int p3), (4, .int p4)]) hx hb dX0_waysFrom_48 hl (by decide) rfl (fun ls hl => ?_)
        refine lv_aload_n hx hb dX0_waysFrom_50 rfl (lv_at hl 3 rfl) ?_
        refine t_gr hx hb hts hown hK hG hB mh0 th0 fq_0_0 rfl mw_2_95 dX0_waysFrom_51 (fun b_15 hb_15 mb_15 tb_15 => ?_)
        refine lv_iload hx hb dX0_waysFrom_54 (lv_at hl 0 rfl) ?_
        refine t_ai hx hb hK hB mb_15 tb_15 ai_20 (fun _ => rfl) (i_in (by omega) (by omega)) dX0_waysFrom_56 (fun x_16 ex_16 lx_16 ux_16 => ?_)
        refine lv_iload hx hb dX0_waysFrom_57 (lv_at hl 7 rfl) ?_
        refine lv_icmp_lt (tgt := 102) hx hb dX0_waysFrom_59 (by decide) (fun c_17 => ?_) (fun c_17 => ?_)
        · skip
          have uc_17 := j_lt c_17
          obtain ⟨x_18, ex_18⟩ : ∃ y : Int32, y = i_5 + 1 := ⟨_, rfl⟩
          have vx_18 := b_add (rfl : i_5.toInt = _) (by decide : (1 : Int32).toInt = 1) ex_18 (by omega) (by omega)
          refine lv_iinc (v := x_18) (lv' := [(6, .int x_18), (7, .int x_14), (5, .int i_4), (0, .ref h0), (1, .ref h1), (2, .int p2), (3, .int p3), (4, .int p4)]) hx hb dX0_waysFrom_102 hl (k := 1) rfl (by rw [ex_18]; rfl) (by decide) rfl (fun ls hl => ?_)
          refine lv_goto (tgt := 33) hx hb dX0_waysFrom_105 (by decide) ?_
          exact ih_8 ⟨i_4, x_18, σ_6, ρ_13⟩ _ _ _ ⟨(by omega), (by omega), k_9, hB, hS, lv_sub hl [0, 2, 3, 4, 5, 6, 7] rfl⟩ (by show (2 - x_18.toInt).toNat < (2 - i_5.toInt).toNat; omega)
        · skip
          have uc_17 := j_nlt c_17
          refine lv_aload_n hx hb dX0_waysFrom_62 rfl (lv_at hl 3 rfl) ?_
          refine t_gk hx hb hts hown hK hB mh0 th0 fq_0_0 hb_15 mw_2_95 dX0_waysFrom_63 ?_
          refine lv_iload hx hb dX0_waysFrom_66 (lv_at hl 0 rfl) ?_
          refine lv_dup2_11 hx hb dX0_waysFrom_68 rfl rfl ?_
          refine t_ai hx hb hK hB mb_15 tb_15 ai_20 (fun _ => rfl) (i_in (by omega) (by omega)) dX0_waysFrom_69 (fun x_19 ex_19 lx_19 ux_19 => ?_)
          have qx_19 : x_19 = x_16 := ex_19.trans ex_16.symm
          have qx_19 := qx_19.symm
          subst qx_19
          refine lv_iload hx hb dX0_waysFrom_70 (lv_at hl 7 rfl) ?_
          refine lv_isub hx hb dX0_waysFrom_72 ?_
          refine lv_topi (fun x_20 ex_20 => ?_)
          refine t_si hx hb hK hLA hB hS mb_15 tb_15 ai_20 (i_in (by omega) (by omega)) (i_lo _) (i_hi _) (Or.inr (by decide)) dX0_waysFrom_73 (fun H locs σ_21 eσ_21 hB hS => ?_)
          have k_22 : σ_21 b_15 x_14.toNatClampNeg = x_20 := by rw [eσ_21]; exact up2_same _ _ _ _
          refine lv_iload hx hb dX0_waysFrom_74 (lv_at hl 2 rfl) ?_
          refine lv_aload_n hx hb dX0_waysFrom_76 rfl (lv_at hl 3 rfl) ?_
          refine lv_aload_n hx hb dX0_waysFrom_77 rfl (lv_at hl 4 rfl) ?_
          refine lv_iload_n hx hb dX0_waysFrom_78 rfl (lv_at hl 5 rfl) ?_
          refine lv_iconst (v := 1) hx hb dX0_waysFrom_79 (by decide) ?_
          refine lv_iadd hx hb dX0_waysFrom_80 ?_
          refine lv_topi (fun x_23 ex_23 => ?_)
          have vx_23 := b_add (rfl : p2.toInt = _) (by decide : (1 : Int32).toInt = 1) ex_23 (by omega) (by omega)
          refine lv_iload_n hx hb dX0_waysFrom_81 rfl (lv_at hl 6 rfl) ?_
          refine lv_iload hx hb dX0_waysFrom_82 (lv_at hl 7 rfl) ?_
          refine t_ci (va_runV (As := [.ref h1, .int x_23, .int p3, .int p4]) (rest := [.int i_4]) ⟨hx, hb, hml, hown, hts⟩ (cy_X0_waysFrom_1 l D cA L T r hG hLA.1 σ_21 ρ_13 hB.2.1 _ h0 mh0 th0 h1 mh1 th1 x_23 p3 p4 (by first | omega | decide) (by first | omega | decide)) (cV hts mv_X0_waysFrom mw_5_13 rfl rfl ⟨Nat.le_of_ble_eq_true rfl, Nat.le_of_ble_eq_true rfl⟩) (pV hB.1 hK hN mh0 th0 (show shp cA 0 _ _ _ = .inr (0, Fs0 _ _ _) from rfl) rfl) rfl rfl hl.1 rfl (lv_room (Nat.le_of_ble_eq_true rfl)) dX0_waysFrom_84 ⟨Nat.le_of_ble_eq_true rfl, Nat.le_of_ble_eq_true rfl⟩) hLA hA hB hS (by decide) (fun x_26 σ_24 ρ_25 H locs hB fσ_24 pσ_24 hS => ?_)
          refine lv_iadd hx hb dX0_waysFrom_87 ?_
          refine lv_topi (fun x_27 ex_27 => ?_)
          refine lv_istore (lv' := [(5, .int x_27), (7, .int x_14), (6, .int i_5), (0, .ref h0), (1, .ref h1), (2, .int p2), (3, .int p3), (4, .int p4)]) hx hb dX0_waysFrom_88 hl (by decide) rfl (fun ls hl => ?_)
          refine lv_aload_n hx hb dX0_waysFrom_90 rfl (lv_at hl 3 rfl) ?_
          refine t_gk hx hb hts hown hK hB mh0 th0 fq_0_0 hb_15 mw_2_95 dX0_waysFrom_91 ?_
          refine lv_iload hx hb dX0_waysFrom_94 (lv_at hl 1 rfl) ?_
          refine lv_dup2_11 hx hb dX0_waysFrom_96 rfl rfl ?_
          refine t_ai hx hb hK hB mb_15 tb_15 ai_20 (fun _ => rfl) (i_in (by omega) (by omega)) dX0_waysFrom_97 (fun x_28 ex_28 lx_28 ux_28 => ?_)
          refine lv_iload hx hb dX0_waysFrom_98 (lv_at hl 7 rfl) ?_
          refine lv_iadd hx hb dX0_waysFrom_100 ?_
          refine lv_topi (fun x_29 ex_29 => ?_)
          refine t_si hx hb hK hLA hB hS mb_15 tb_15 ai_20 (i_in (by omega) (by omega)) (i_lo _) (i_hi _) (Or.inr (by decide)) dX0_waysFrom_101 (fun H locs σ_30 eσ_30 hB hS => ?_)
          have k_31 : σ_30 b_15 x_14.toNatClampNeg = x_29 := by rw [eσ_30]; exact up2_same _ _ _ _
          obtain ⟨x_32, ex_32⟩ : ∃ y : Int32, y = i_5 + 1 := ⟨_, rfl⟩
          have vx_32 := b_add (rfl : i_5.toInt = _) (by decide : (1 : Int32).toInt = 1) ex_32 (by omega) (by omega)
          refine lv_iinc (v := x_32) (lv' := [(6, .int x_32), (5, .int x_27), (7, .int x_14), (0, .ref h0), (1, .ref h1), (2, .int p2), (3, .int p3), (4, .int p4)]) hx hb dX0_waysFrom_102 hl (k := 2) rfl (by rw [ex_32]; rfl) (by decide) rfl (fun ls hl => ?_)
          refine lv_goto (tgt := 33) hx hb dX0_waysFrom_105 (by decide) ?_
          have k_33 : σ_21 h1 9 = x_1 := by rw [eσ_21, up2_nea _ _ (tg_ne th1 tb_15 (by decide))]; exact k_9
          have k_34 : σ_24 h1 9 = x_1 := (FR.at fσ_24 th1 (by decide)).trans k_33
          have k_35 : σ_30 h1 9 = x_1 := by rw [eσ_30, up2_nea _ _ (tg_ne th1 tb_15 (by decide))]; exact k_34
          exact ih_8 ⟨x_27, x_32, σ_30, ρ_25⟩ _ _ _ ⟨(by omega), (by omega), k_35, hB, hS, lv_sub hl [0, 1, 3, 4, 5, 6, 7] rfl⟩ (by show (2 - x_32.toInt).toNat < (2 - i_5.toInt).toNat; omega)
    · skip
      have uc_3 := j_eq c_3
      refine lv_aload_n hx hb dX0_waysFrom_15 rfl (lv_at hl 0 rfl) ?_
      refine lv_aload_n hx hb dX0_waysFrom_16 rfl (lv_at hl 1 rfl) ?_
      refine lv_iload_n hx hb dX0_waysFrom_17 rfl (lv_at hl 2 rfl) ?_
      refine lv_iconst (v := 1) hx hb dX0_waysFrom_18 (by decide) ?_
      refine lv_iadd hx hb dX0_waysFrom_19 ?_
      refine lv_topi (fun x_36 ex_36 => ?_)
      have vx_36 := b_add (rfl : p2.toInt = _) (by decide : (1 : Int32).toInt = 1) ex_36 (by omega) (by omega)
      refine lv_iload_n hx hb dX0_waysFrom_20 rfl (lv_at hl 3 rfl) ?_
      refine lv_iload hx hb dX0_waysFrom_21 (lv_at hl 4 rfl) ?_
      refine t_ci (va_runV (As := [.ref h1, .int x_36, .int p3, .int p4]) (rest := []) ⟨hx, hb, hml, hown, hts⟩ (cy_X0_waysFrom_1 l D cA L T r hG hLA.1 σ ρ hB.2.1 _ h0 mh0 th0 h1 mh1 th1 x_36 p3 p4 (by first | omega | decide) (by first | omega | decide)) (cV hts mv_X0_waysFrom mw_5_13 rfl rfl ⟨Nat.le_of_ble_eq_true rfl, Nat.le_of_ble_eq_true rfl⟩) (pV hB.1 hK hN mh0 th0 (show shp cA 0 _ _ _ = .inr (0, Fs0 _ _ _) from rfl) rfl) rfl rfl hl.1 rfl (lv_room (Nat.le_of_ble_eq_true rfl)) dX0_waysFrom_23 ⟨Nat.le_of_ble_eq_true rfl, Nat.le_of_ble_eq_true rfl⟩) hLA hA hB hS (by decide) (fun x_39 σ_37 ρ_38 H locs hB fσ_37 pσ_37 hS => ?_)
      exact W.iret (v := x_39) hx hb hr (fun t ht hW => ⟨⟨x_39, (σ_37, ρ_38), rfl, ⟨hB.2.1, hB.2.2, trivial⟩, (show TP D cA L T r σ_37 ρ_38 t.heap from by rw [ht]; exact hB.1)⟩, hS.F ht⟩) hS.2.2 dX0_waysFrom_26
  · skip
    have uc_2 := j_nlt c_2
    refine lv_iconst (v := 1) hx hb dX0_waysFrom_8 (by decide) ?_
    exact W.iret (v := 1) hx hb hr (fun t ht hW => ⟨⟨1, (σ, ρ), rfl, ⟨hB.2.1, hB.2.2, trivial⟩, (show TP D cA L T r σ ρ t.heap from by rw [ht]; exact hB.1)⟩, hS.F ht⟩) hS.2.2 dX0_waysFrom_9
set_option maxHeartbeats 4000000 in
set_option maxRecDepth 100000 in
theorem cy_X0_waysFrom_3 (l : Launch) (D : va_G) (cA : Nat → ClassId) (L : List Nat) (T : Nat → Nat) (r : Rg) (hG : GR L T r) (hL : L.Nodup) (σ : Sg) (ρ : Lg) (hW : WT L ry T σ) (sz : Nat) (h0 : Nat) (mh0 : h0 ∈ L) (th0 : T h0 = 0) (h1 : Nat) (mh1 : h1 ∈ L) (th1 : T h1 = 3) (p2 : Int32) (p3 : Int32) (p4 : Int32) (w0 : 5 ≤ p2.toInt) (w1 : p2.toInt ≤ 8) : Met l yX0_waysFrom (.code yX0_waysFrom cX0_waysFrom 8 (some .int) :: wsA) ({ frames := 3, cells := 0, slots := 0, locals := 81 }) (PR D cA L T r σ ρ sz [.ref h0, .ref h1, .int p2, .int p3, .int p4]) (QI D cA L T r ry [(20, 1000)] σ sz (fun x σ1 => True)) 0 0 (dm L sz) := by
  refine Met.ofW (cc := cX0_waysFrom) (maxL := 8) (ret := (some .int)) (by decide) rfl ?_
  intro p e s m args below meth c s₁ B hml hv
  obtain ⟨rfl, hsz, hP, hK, hN⟩ := hv
  have hx := B.exec
  have hb := B.bytes
  have hr := B.returns
  have hts : ∀ w ∈ wsA, w.before _ s = true := fun w h => atoms_spec (ws := .code yX0_waysFrom cX0_waysFrom 8 (some .int) :: wsA) B.pre w (List.mem_cons_of_mem _ h)
  have hown : s.vm.findClass RX0 = some m.cls := findClass_of_methodNamed B.named
  subst hsz
  have hLA : LA (dm L s.heap.size) L := ⟨hL, fun a h => Or.inl h⟩
  have hA : ∀ q : Nat, s.heap.size ≤ q → dm L s.heap.size q := fun q h => Or.inr h
  have hS : va_S (dm L s.heap.size) s.heap s.heap [] := va_S.rf
  have hB : TS D cA L T r ry [(20, 1000)] σ σ ρ s.heap := ⟨hP, hW, FR.rf⟩
  have hl := lv_entry ([.ref h0, .ref h1, .int p2, .int p3, .int p4]) (n := 8) (Nat.le_of_ble_eq_true rfl)
  rw [lg_entry_eq]
  generalize (lg_sl ([.ref h0, .ref h1, .int p2, .int p3, .int p4]) ++ List.replicate (8 - (lg_sl ([.ref h0, .ref h1, .int p2, .int p3, .int p4])).length) Slot.unset).toArray = ls at hl ⊢
  have hl : lv_has ls 8 [(0, .ref h0), (1, .ref h1), (2, .int p2), (3, .int p3), (4, .int p4)] := hl
  refine lv_iload_n hx hb dX0_waysFrom_0 rfl (lv_at hl 2 rfl) ?_
  refine lv_aload_n hx hb dX0_waysFrom_1 rfl (lv_at hl 1 rfl) ?_
  refine t_gi hx hb hts hown hK hB mh1 th1 fi_3_9 rfl mw_1_180 dX0_waysFrom_2 (fun x_1 ex_1 lx_1 ux_1 => ?_)
  refine lv_icmp_lt (tgt := 10) hx hb dX0_waysFrom_5 (by decide) (fun c_2 => ?_) (fun c_2 => ?_)
  · skip
    have uc_2 := j_lt c_2
    refine lv_iload_n hx hb dX0_waysFrom_10 rfl (lv_at hl 2 rfl) ?_
    refine lv_iload_n hx hb dX0_waysFrom_11 rfl (lv_at hl 3 rfl) ?_
    refine lv_icmp_ne (tgt := 27) hx hb dX0_waysFrom_12 (by decide) (fun c_3 => ?_) (fun c_3 => ?_)
    · skip
      have uc_3 := j_ne c_3
      refine lv_iconst (v := 0) hx hb dX0_waysFrom_27 (by decide) ?_
      refine lv_istore (lv' := [(5, .int 0), (0, .ref h0), (1, .ref h1), (2, .int p2), (3, .int p3), (4, .int p4)]) hx hb dX0_waysFrom_28 hl (by decide) rfl (fun ls hl => ?_)
      refine lv_iconst (v := 0) hx hb dX0_waysFrom_30 (by decide) ?_
      refine lv_istore (lv' := [(6, .int 0), (5, .int 0), (0, .ref h0), (1, .ref h1), (2, .int p2), (3, .int p3), (4, .int p4)]) hx hb dX0_waysFrom_31 hl (by decide) rfl (fun ls hl => ?_)
      refine w_loop (α := Int32 × Int32 × Sg × Lg) (fun (i_4, i_5, σ_6, ρ_7) H locs ls => 0 ≤ i_5.toInt ∧ i_5.toInt ≤ 2 ∧ σ_6 h1 9 = x_1 ∧ TS D cA L T r ry [(20, 1000)] σ σ_6 ρ_7 H ∧ va_S (dm L s.heap.size) s.heap H locs ∧ lv_has ls 8 [(6, .int i_5), (5, .int i_4), (0, .ref h0), (1, .ref h1), (2, .int p2), (3, .int p3), (4, .int p4)]) (fun (i_4, i_5, σ_6, ρ_7) => (2 - i_5.toInt).toNat) ?_ ⟨0, 0, σ, ρ⟩ ⟨(by decide), (by decide), ex_1.symm, hB, hS, lv_sub hl [0, 1, 2, 3, 4, 5, 6] rfl⟩
      rintro ⟨i_4, i_5, σ_6, ρ_7⟩ H locs ls ⟨li_5, ui_5, k_9, hB, hS, hl⟩ ih_8
      refine lv_iload hx hb dX0_waysFrom_33 (lv_at hl 0 rfl) ?_
      refine lv_iconst (v := 1) hx hb dX0_waysFrom_35 (by decide) ?_
      refine lv_icmp_gt (tgt := 108) hx hb dX0_waysFrom_36 (by decide) (fun c_10 => ?_) (fun c_10 => ?_)
      · skip
        have uc_10 := i_gt (n := 1) (by decide) c_10
        refine lv_iload hx hb dX0_waysFrom_108 (lv_at hl 1 rfl) ?_
        exact W.iret (v := i_4) hx hb hr (fun t ht hW => ⟨⟨i_4, (σ_6, ρ_7), rfl, ⟨hB.2.1, hB.2.2, trivial⟩, (show TP D cA L T r σ_6 ρ_7 t.heap from by rw [ht]; exact hB.1)⟩, hS.F ht⟩) hS.2.2 dX0_waysFrom_110
      · skip
        have uc_10 := i_ngt (n := 1) (by decide) c_10
        refine lv_aload_n hx hb dX0_waysFrom_39 rfl (lv_at hl 3 rfl) ?_
        refine lv_iload_n hx hb dX0_waysFrom_40 rfl (lv_at hl 4 rfl) ?_
        refine lv_iload hx hb dX0_waysFrom_41 (lv_at hl 0 rfl) ?_
        refine lv_iload_n hx hb dX0_waysFrom_43 rfl (lv_at hl 4 rfl) ?_
        refine lv_ishl hx hb dX0_waysFrom_44 ?_
        refine lv_topi (fun x_11 ex_11 => ?_)
        refine t_ci (va_runV (As := [.int p2, .int x_11]) (rest := []) ⟨hx, hb, hml, hown, hts⟩ (cy_X3_askedAt l D cA L T r hG hLA.1 σ_6 ρ_7 hB.2.1 _ h1 mh1 th1 p2 x_11 (by first | omega | decide) (by first | omega | decide)) (cV hts mv_X3_askedAt mw_4_223 rfl rfl ⟨Nat.le_of_ble_eq_true rfl, Nat.le_of_ble_eq_true rfl⟩) (pV hB.1 hK hN mh1 th1 (show shp cA 3 _ _ _ = .inr (3, Fs3 _ _ _) from rfl) rfl) rfl rfl hl.1 rfl (lv_room (Nat.le_of_ble_eq_true rfl)) dX0_waysFrom_45 ⟨Nat.le_of_ble_eq_true rfl, Nat.le_of_ble_eq_true rfl⟩) hLA hA hB hS (by decide) (fun x_14 σ_12 ρ_13 H locs hB fσ_12 pσ_12 hS => ?_)
        have qσ_12 := FR.nil fσ_12
        subst qσ_12
        obtain ⟨lx_14, ux_14⟩ := pσ_12
        refine lv_istore (lv' := [(7, .int x_14), (6, .int i_5), (5, .int i_4), (0, .ref h0), (1, .ref h1), (2, .int p2), (3, .int p3), (4, .int p4)]) hx hb dX0_waysFrom_48 hl (by decide) rfl (fun ls hl => ?_)
        refine lv_aload_n hx hb dX0_waysFrom_50 rfl (lv_at hl 3 rfl) ?_
        refine t_gr hx hb hts hown hK hG hB mh0 th0 fq_0_0 rfl mw_2_95 dX0_waysFrom_51 (fun b_15 hb_15 mb_15 tb_15 => ?_)
        refine lv_iload hx hb dX0_waysFrom_54 (lv_at hl 0 rfl) ?_
        refine t_ai hx hb hK hB mb_15 tb_15 ai_20 (fun _ => rfl) (i_in (by omega) (by omega)) dX0_waysFrom_56 (fun x_16 ex_16 lx_16 ux_16 => ?_)
        refine lv_iload hx hb dX0_waysFrom_57 (lv_at hl 7 rfl) ?_
        refine lv_icmp_lt (tgt := 102) hx hb dX0_waysFrom_59 (by decide) (fun c_17 => ?_) (fun c_17 => ?_)
        · skip
          have uc_17 := j_lt c_17
          obtain ⟨x_18, ex_18⟩ : ∃ y : Int32, y = i_5 + 1 := ⟨_, rfl⟩
          have vx_18 := b_add (rfl : i_5.toInt = _) (by decide : (1 : Int32).toInt = 1) ex_18 (by omega) (by omega)
          refine lv_iinc (v := x_18) (lv' := [(6, .int x_18), (7, .int x_14), (5, .int i_4), (0, .ref h0), (1, .ref h1), (2, .int p2), (3, .int p3), (4, .int p4)]) hx hb dX0_waysFrom_102 hl (k := 1) rfl (by rw [ex_18]; rfl) (by decide) rfl (fun ls hl => ?_)
          refine lv_goto (tgt := 33) hx hb dX0_waysFrom_105 (by decide) ?_
          exact ih_8 ⟨i_4, x_18, σ_6, ρ_13⟩ _ _ _ ⟨(by omega), (by omega), k_9, hB, hS, lv_sub hl [0, 2, 3, 4, 5, 6, 7] rfl⟩ (by show (2 - x_18.toInt).toNat < (2 - i_5.toInt).toNat; omega)
        · skip
          have uc_17 := j_nlt c_17
          refine lv_aload_n hx hb dX0_waysFrom_62 rfl (lv_at hl 3 rfl) ?_
          refine t_gk hx hb hts hown hK hB mh0 th0 fq_0_0 hb_15 mw_2_95 dX0_waysFrom_63 ?_
          refine lv_iload hx hb dX0_waysFrom_66 (lv_at hl 0 rfl) ?_
          refine lv_dup2_11 hx hb dX0_waysFrom_68 rfl rfl ?_
          refine t_ai hx hb hK hB mb_15 tb_15 ai_20 (fun _ => rfl) (i_in (by omega) (by omega)) dX0_waysFrom_69 (fun x_19 ex_19 lx_19 ux_19 => ?_)
          have qx_19 : x_19 = x_16 := ex_19.trans ex_16.symm
          have qx_19 := qx_19.symm
          subst qx_19
          refine lv_iload hx hb dX0_waysFrom_70 (lv_at hl 7 rfl) ?_
          refine lv_isub hx hb dX0_waysFrom_72 ?_
          refine lv_topi (fun x_20 ex_20 => ?_)
          refine t_si hx hb hK hLA hB hS mb_15 tb_15 ai_20 (i_in (by omega) (by omega)) (i_lo _) (i_hi _) (Or.inr (by decide)) dX0_waysFrom_73 (fun H locs σ_21 eσ_21 hB hS => ?_)
          have k_22 : σ_21 b_15 x_14.toNatClampNeg = x_20 := by rw [eσ_21]; exact up2_same _ _ _ _
          refine lv_iload hx hb dX0_waysFrom_74 (lv_at hl 2 rfl) ?_
          refine lv_aload_n hx hb dX0_waysFrom_76 rfl (lv_at hl 3 rfl) ?_
          refine lv_aload_n hx hb dX0_waysFrom_77 rfl (lv_at hl 4 rfl) ?_
          refine lv_iload_n hx hb dX0_waysFrom_78 rfl (lv_at hl 5 rfl) ?_
          refine lv_iconst (v := 1) hx hb dX0_waysFrom_79 (by decide) ?_
          refine lv_iadd hx hb dX0_waysFrom_80 ?_
          refine lv_topi (fun x_23 ex_23 => ?_)
          have vx_23 := b_add (rfl : p2.toInt = _) (by decide : (1 : Int32).toInt = 1) ex_23 (by omega) (by omega)
          refine lv_iload_n hx hb dX0_waysFrom_81 rfl (lv_at hl 6 rfl) ?_
          refine lv_iload hx hb dX0_waysFrom_82 (lv_at hl 7 rfl) ?_
          refine t_ci (va_runV (As := [.ref h1, .int x_23, .int p3, .int p4]) (rest := [.int i_4]) ⟨hx, hb, hml, hown, hts⟩ (cy_X0_waysFrom_2 l D cA L T r hG hLA.1 σ_21 ρ_13 hB.2.1 _ h0 mh0 th0 h1 mh1 th1 x_23 p3 p4 (by first | omega | decide) (by first | omega | decide)) (cV hts mv_X0_waysFrom mw_5_13 rfl rfl ⟨Nat.le_of_ble_eq_true rfl, Nat.le_of_ble_eq_true rfl⟩) (pV hB.1 hK hN mh0 th0 (show shp cA 0 _ _ _ = .inr (0, Fs0 _ _ _) from rfl) rfl) rfl rfl hl.1 rfl (lv_room (Nat.le_of_ble_eq_true rfl)) dX0_waysFrom_84 ⟨Nat.le_of_ble_eq_true rfl, Nat.le_of_ble_eq_true rfl⟩) hLA hA hB hS (by decide) (fun x_26 σ_24 ρ_25 H locs hB fσ_24 pσ_24 hS => ?_)
          refine lv_iadd hx hb dX0_waysFrom_87 ?_
          refine lv_topi (fun x_27 ex_27 => ?_)
          refine lv_istore (lv' := [(5, .int x_27), (7, .int x_14), (6, .int i_5), (0, .ref h0), (1, .ref h1), (2, .int p2), (3, .int p3), (4, .int p4)]) hx hb dX0_waysFrom_88 hl (by decide) rfl (fun ls hl => ?_)
          refine lv_aload_n hx hb dX0_waysFrom_90 rfl (lv_at hl 3 rfl) ?_
          refine t_gk hx hb hts hown hK hB mh0 th0 fq_0_0 hb_15 mw_2_95 dX0_waysFrom_91 ?_
          refine lv_iload hx hb dX0_waysFrom_94 (lv_at hl 1 rfl) ?_
          refine lv_dup2_11 hx hb dX0_waysFrom_96 rfl rfl ?_
          refine t_ai hx hb hK hB mb_15 tb_15 ai_20 (fun _ => rfl) (i_in (by omega) (by omega)) dX0_waysFrom_97 (fun x_28 ex_28 lx_28 ux_28 => ?_)
          refine lv_iload hx hb dX0_waysFrom_98 (lv_at hl 7 rfl) ?_
          refine lv_iadd hx hb dX0_waysFrom_100 ?_
          refine lv_topi (fun x_29 ex_29 => ?_)
          refine t_si hx hb hK hLA hB hS mb_15 tb_15 ai_20 (i_in (by omega) (by omega)) (i_lo _) (i_hi _) (Or.inr (by decide)) dX0_waysFrom_101 (fun H locs σ_30 eσ_30 hB hS => ?_)
          have k_31 : σ_30 b_15 x_14.toNatClampNeg = x_29 := by rw [eσ_30]; exact up2_same _ _ _ _
          obtain ⟨x_32, ex_32⟩ : ∃ y : Int32, y = i_5 + 1 := ⟨_, rfl⟩
          have vx_32 := b_add (rfl : i_5.toInt = _) (by decide : (1 : Int32).toInt = 1) ex_32 (by omega) (by omega)
          refine lv_iinc (v := x_32) (lv' := [(6, .int x_32), (5, .int x_27), (7, .int x_14), (0, .ref h0), (1, .ref h1), (2, .int p2), (3, .int p3), (4, .int p4)]) hx hb dX0_waysFrom_102 hl (k := 2) rfl (by rw [ex_32]; rfl) (by decide) rfl (fun ls hl => ?_)
          refine lv_goto (tgt := 33) hx hb dX0_waysFrom_105 (by decide) ?_
          have k_33 : σ_21 h1 9 = x_1 := by rw [eσ_21, up2_nea _ _ (tg_ne th1 tb_15 (by decide))]; exact k_9
          have k_34 : σ_24 h1 9 = x_1 := (FR.at fσ_24 th1 (by decide)).trans k_33
          have k_35 : σ_30 h1 9 = x_1 := by rw [eσ_30, up2_nea _ _ (tg_ne th1 tb_15 (by decide))]; exact k_34
          exact ih_8 ⟨x_27, x_32, σ_30, ρ_25⟩ _ _ _ ⟨(by omega), (by omega), k_35, hB, hS, lv_sub hl [0, 1, 3, 4, 5, 6, 7] rfl⟩ (by show (2 - x_32.toInt).toNat < (2 - i_5.toInt).toNat; omega)
    · skip
      have uc_3 := j_eq c_3
      refine lv_aload_n hx hb dX0_waysFrom_15 rfl (lv_at hl 0 rfl) ?_
      refine lv_aload_n hx hb dX0_waysFrom_16 rfl (lv_at hl 1 rfl) ?_
      refine lv_iload_n hx hb dX0_waysFrom_17 rfl (lv_at hl 2 rfl) ?_
      refine lv_iconst (v := 1) hx hb dX0_waysFrom_18 (by decide) ?_
      refine lv_iadd hx hb dX0_waysFrom_19 ?_
      refine lv_topi (fun x_36 ex_36 => ?_)
      have vx_36 := b_add (rfl : p2.toInt = _) (by decide : (1 : Int32).toInt = 1) ex_36 (by omega) (by omega)
      refine lv_iload_n hx hb dX0_waysFrom_20 rfl (lv_at hl 3 rfl) ?_
      refine lv_iload hx hb dX0_waysFrom_21 (lv_at hl 4 rfl) ?_
      refine t_ci (va_runV (As := [.ref h1, .int x_36, .int p3, .int p4]) (rest := []) ⟨hx, hb, hml, hown, hts⟩ (cy_X0_waysFrom_2 l D cA L T r hG hLA.1 σ ρ hB.2.1 _ h0 mh0 th0 h1 mh1 th1 x_36 p3 p4 (by first | omega | decide) (by first | omega | decide)) (cV hts mv_X0_waysFrom mw_5_13 rfl rfl ⟨Nat.le_of_ble_eq_true rfl, Nat.le_of_ble_eq_true rfl⟩) (pV hB.1 hK hN mh0 th0 (show shp cA 0 _ _ _ = .inr (0, Fs0 _ _ _) from rfl) rfl) rfl rfl hl.1 rfl (lv_room (Nat.le_of_ble_eq_true rfl)) dX0_waysFrom_23 ⟨Nat.le_of_ble_eq_true rfl, Nat.le_of_ble_eq_true rfl⟩) hLA hA hB hS (by decide) (fun x_39 σ_37 ρ_38 H locs hB fσ_37 pσ_37 hS => ?_)
      exact W.iret (v := x_39) hx hb hr (fun t ht hW => ⟨⟨x_39, (σ_37, ρ_38), rfl, ⟨hB.2.1, hB.2.2, trivial⟩, (show TP D cA L T r σ_37 ρ_38 t.heap from by rw [ht]; exact hB.1)⟩, hS.F ht⟩) hS.2.2 dX0_waysFrom_26
  · skip
    have uc_2 := j_nlt c_2
    refine lv_iconst (v := 1) hx hb dX0_waysFrom_8 (by decide) ?_
    exact W.iret (v := 1) hx hb hr (fun t ht hW => ⟨⟨1, (σ, ρ), rfl, ⟨hB.2.1, hB.2.2, trivial⟩, (show TP D cA L T r σ ρ t.heap from by rw [ht]; exact hB.1)⟩, hS.F ht⟩) hS.2.2 dX0_waysFrom_9
set_option maxHeartbeats 4000000 in
set_option maxRecDepth 100000 in
theorem cy_X0_waysFrom_4 (l : Launch) (D : va_G) (cA : Nat → ClassId) (L : List Nat) (T : Nat → Nat) (r : Rg) (hG : GR L T r) (hL : L.Nodup) (σ : Sg) (ρ : Lg) (hW : WT L ry T σ) (sz : Nat) (h0 : Nat) (mh0 : h0 ∈ L) (th0 : T h0 = 0) (h1 : Nat) (mh1 : h1 ∈ L) (th1 : T h1 = 3) (p2 : Int32) (p3 : Int32) (p4 : Int32) (w0 : 4 ≤ p2.toInt) (w1 : p2.toInt ≤ 8) : Met l yX0_waysFrom (.code yX0_waysFrom cX0_waysFrom 8 (some .int) :: wsA) ({ frames := 4, cells := 0, slots := 0, locals := 108 }) (PR D cA L T r σ ρ sz [.ref h0, .ref h1, .int p2, .int p3, .int p4]) (QI D cA L T r ry [(20, 1000)] σ sz (fun x σ1 => True)) 0 0 (dm L sz) := by
  refine Met.ofW (cc := cX0_waysFrom) (maxL := 8) (ret := (some .int)) (by decide) rfl ?_
  intro p e s m args below meth c s₁ B hml hv
  obtain ⟨rfl, hsz, hP, hK, hN⟩ := hv
  have hx := B.exec
  have hb := B.bytes
  have hr := B.returns
  have hts : ∀ w ∈ wsA, w.before _ s = true := fun w h => atoms_spec (ws := .code yX0_waysFrom cX0_waysFrom 8 (some .int) :: wsA) B.pre w (List.mem_cons_of_mem _ h)
  have hown : s.vm.findClass RX0 = some m.cls := findClass_of_methodNamed B.named
  subst hsz
  have hLA : LA (dm L s.heap.size) L := ⟨hL, fun a h => Or.inl h⟩
  have hA : ∀ q : Nat, s.heap.size ≤ q → dm L s.heap.size q := fun q h => Or.inr h
  have hS : va_S (dm L s.heap.size) s.heap s.heap [] := va_S.rf
  have hB : TS D cA L T r ry [(20, 1000)] σ σ ρ s.heap := ⟨hP, hW, FR.rf⟩
  have hl := lv_entry ([.ref h0, .ref h1, .int p2, .int p3, .int p4]) (n := 8) (Nat.le_of_ble_eq_true rfl)
  rw [lg_entry_eq]
  generalize (lg_sl ([.ref h0, .ref h1, .int p2, .int p3, .int p4]) ++ List.replicate (8 - (lg_sl ([.ref h0, .ref h1, .int p2, .int p3, .int p4])).length) Slot.unset).toArray = ls at hl ⊢
  have hl : lv_has ls 8 [(0, .ref h0), (1, .ref h1), (2, .int p2), (3, .int p3), (4, .int p4)] := hl
  refine lv_iload_n hx hb dX0_waysFrom_0 rfl (lv_at hl 2 rfl) ?_
  refine lv_aload_n hx hb dX0_waysFrom_1 rfl (lv_at hl 1 rfl) ?_
  refine t_gi hx hb hts hown hK hB mh1 th1 fi_3_9 rfl mw_1_180 dX0_waysFrom_2 (fun x_1 ex_1 lx_1 ux_1 => ?_)
  refine lv_icmp_lt (tgt := 10) hx hb dX0_waysFrom_5 (by decide) (fun c_2 => ?_) (fun c_2 => ?_)
  · skip
    have uc_2 := j_lt c_2
    refine lv_iload_n hx hb dX0_waysFrom_10 rfl (lv_at hl 2 rfl) ?_
    refine lv_iload_n hx hb dX0_waysFrom_11 rfl (lv_at hl 3 rfl) ?_
    refine lv_icmp_ne (tgt := 27) hx hb dX0_waysFrom_12 (by decide) (fun c_3 => ?_) (fun c_3 => ?_)
    · skip
      have uc_3 := j_ne c_3
      refine lv_iconst (v := 0) hx hb dX0_waysFrom_27 (by decide) ?_
      refine lv_istore (lv' := [(5, .int 0), (0, .ref h0), (1, .ref h1), (2, .int p2), (3, .int p3), (4, .int p4)]) hx hb dX0_waysFrom_28 hl (by decide) rfl (fun ls hl => ?_)
      refine lv_iconst (v := 0) hx hb dX0_waysFrom_30 (by decide) ?_
      refine lv_istore (lv' := [(6, .int 0), (5, .int 0), (0, .ref h0), (1, .ref h1), (2, .int p2), (3, .int p3), (4, .int p4)]) hx hb dX0_waysFrom_31 hl (by decide) rfl (fun ls hl => ?_)
      refine w_loop (α := Int32 × Int32 × Sg × Lg) (fun (i_4, i_5, σ_6, ρ_7) H locs ls => 0 ≤ i_5.toInt ∧ i_5.toInt ≤ 2 ∧ σ_6 h1 9 = x_1 ∧ TS D cA L T r ry [(20, 1000)] σ σ_6 ρ_7 H ∧ va_S (dm L s.heap.size) s.heap H locs ∧ lv_has ls 8 [(6, .int i_5), (5, .int i_4), (0, .ref h0), (1, .ref h1), (2, .int p2), (3, .int p3), (4, .int p4)]) (fun (i_4, i_5, σ_6, ρ_7) => (2 - i_5.toInt).toNat) ?_ ⟨0, 0, σ, ρ⟩ ⟨(by decide), (by decide), ex_1.symm, hB, hS, lv_sub hl [0, 1, 2, 3, 4, 5, 6] rfl⟩
      rintro ⟨i_4, i_5, σ_6, ρ_7⟩ H locs ls ⟨li_5, ui_5, k_9, hB, hS, hl⟩ ih_8
      refine lv_iload hx hb dX0_waysFrom_33 (lv_at hl 0 rfl) ?_
      refine lv_iconst (v := 1) hx hb dX0_waysFrom_35 (by decide) ?_
      refine lv_icmp_gt (tgt := 108) hx hb dX0_waysFrom_36 (by decide) (fun c_10 => ?_) (fun c_10 => ?_)
      · skip
        have uc_10 := i_gt (n := 1) (by decide) c_10
        refine lv_iload hx hb dX0_waysFrom_108 (lv_at hl 1 rfl) ?_
        exact W.iret (v := i_4) hx hb hr (fun t ht hW => ⟨⟨i_4, (σ_6, ρ_7), rfl, ⟨hB.2.1, hB.2.2, trivial⟩, (show TP D cA L T r σ_6 ρ_7 t.heap from by rw [ht]; exact hB.1)⟩, hS.F ht⟩) hS.2.2 dX0_waysFrom_110
      · skip
        have uc_10 := i_ngt (n := 1) (by decide) c_10
        refine lv_aload_n hx hb dX0_waysFrom_39 rfl (lv_at hl 3 rfl) ?_
        refine lv_iload_n hx hb dX0_waysFrom_40 rfl (lv_at hl 4 rfl) ?_
        refine lv_iload hx hb dX0_waysFrom_41 (lv_at hl 0 rfl) ?_
        refine lv_iload_n hx hb dX0_waysFrom_43 rfl (lv_at hl 4 rfl) ?_
        refine lv_ishl hx hb dX0_waysFrom_44 ?_
        refine lv_topi (fun x_11 ex_11 => ?_)
        refine t_ci (va_runV (As := [.int p2, .int x_11]) (rest := []) ⟨hx, hb, hml, hown, hts⟩ (cy_X3_askedAt l D cA L T r hG hLA.1 σ_6 ρ_7 hB.2.1 _ h1 mh1 th1 p2 x_11 (by first | omega | decide) (by first | omega | decide)) (cV hts mv_X3_askedAt mw_4_223 rfl rfl ⟨Nat.le_of_ble_eq_true rfl, Nat.le_of_ble_eq_true rfl⟩) (pV hB.1 hK hN mh1 th1 (show shp cA 3 _ _ _ = .inr (3, Fs3 _ _ _) from rfl) rfl) rfl rfl hl.1 rfl (lv_room (Nat.le_of_ble_eq_true rfl)) dX0_waysFrom_45 ⟨Nat.le_of_ble_eq_true rfl, Nat.le_of_ble_eq_true rfl⟩) hLA hA hB hS (by decide) (fun x_14 σ_12 ρ_13 H locs hB fσ_12 pσ_12 hS => ?_)
        have qσ_12 := FR.nil fσ_12
        subst qσ_12
        obtain ⟨lx_14, ux_14⟩ := pσ_12
        refine lv_istore (lv' := [(7, .int x_14), (6, .int i_5), (5, .int i_4), (0, .ref h0), (1, .ref h1), (2, .int p2), (3, .int p3), (4, .int p4)]) hx hb dX0_waysFrom_48 hl (by decide) rfl (fun ls hl => ?_)
        refine lv_aload_n hx hb dX0_waysFrom_50 rfl (lv_at hl 3 rfl) ?_
        refine t_gr hx hb hts hown hK hG hB mh0 th0 fq_0_0 rfl mw_2_95 dX0_waysFrom_51 (fun b_15 hb_15 mb_15 tb_15 => ?_)
        refine lv_iload hx hb dX0_waysFrom_54 (lv_at hl 0 rfl) ?_
        refine t_ai hx hb hK hB mb_15 tb_15 ai_20 (fun _ => rfl) (i_in (by omega) (by omega)) dX0_waysFrom_56 (fun x_16 ex_16 lx_16 ux_16 => ?_)
        refine lv_iload hx hb dX0_waysFrom_57 (lv_at hl 7 rfl) ?_
        refine lv_icmp_lt (tgt := 102) hx hb dX0_waysFrom_59 (by decide) (fun c_17 => ?_) (fun c_17 => ?_)
        · skip
          have uc_17 := j_lt c_17
          obtain ⟨x_18, ex_18⟩ : ∃ y : Int32, y = i_5 + 1 := ⟨_, rfl⟩
          have vx_18 := b_add (rfl : i_5.toInt = _) (by decide : (1 : Int32).toInt = 1) ex_18 (by omega) (by omega)
          refine lv_iinc (v := x_18) (lv' := [(6, .int x_18), (7, .int x_14), (5, .int i_4), (0, .ref h0), (1, .ref h1), (2, .int p2), (3, .int p3), (4, .int p4)]) hx hb dX0_waysFrom_102 hl (k := 1) rfl (by rw [ex_18]; rfl) (by decide) rfl (fun ls hl => ?_)
          refine lv_goto (tgt := 33) hx hb dX0_waysFrom_105 (by decide) ?_
          exact ih_8 ⟨i_4, x_18, σ_6, ρ_13⟩ _ _ _ ⟨(by omega), (by omega), k_9, hB, hS, lv_sub hl [0, 2, 3, 4, 5, 6, 7] rfl⟩ (by show (2 - x_18.toInt).toNat < (2 - i_5.toInt).toNat; omega)
        · skip
          have uc_17 := j_nlt c_17
          refine lv_aload_n hx hb dX0_waysFrom_62 rfl (lv_at hl 3 rfl) ?_
          refine t_gk hx hb hts hown hK hB mh0 th0 fq_0_0 hb_15 mw_2_95 dX0_waysFrom_63 ?_
          refine lv_iload hx hb dX0_waysFrom_66 (lv_at hl 0 rfl) ?_
          refine lv_dup2_11 hx hb dX0_waysFrom_68 rfl rfl ?_
          refine t_ai hx hb hK hB mb_15 tb_15 ai_20 (fun _ => rfl) (i_in (by omega) (by omega)) dX0_waysFrom_69 (fun x_19 ex_19 lx_19 ux_19 => ?_)
          have qx_19 : x_19 = x_16 := ex_19.trans ex_16.symm
          have qx_19 := qx_19.symm
          subst qx_19
          refine lv_iload hx hb dX0_waysFrom_70 (lv_at hl 7 rfl) ?_
          refine lv_isub hx hb dX0_waysFrom_72 ?_
          refine lv_topi (fun x_20 ex_20 => ?_)
          refine t_si hx hb hK hLA hB hS mb_15 tb_15 ai_20 (i_in (by omega) (by omega)) (i_lo _) (i_hi _) (Or.inr (by decide)) dX0_waysFrom_73 (fun H locs σ_21 eσ_21 hB hS => ?_)
          have k_22 : σ_21 b_15 x_14.toNatClampNeg = x_20 := by rw [eσ_21]; exact up2_same _ _ _ _
          refine lv_iload hx hb dX0_waysFrom_74 (lv_at hl 2 rfl) ?_
          refine lv_aload_n hx hb dX0_waysFrom_76 rfl (lv_at hl 3 rfl) ?_
          refine lv_aload_n hx hb dX0_waysFrom_77 rfl (lv_at hl 4 rfl) ?_
          refine lv_iload_n hx hb dX0_waysFrom_78 rfl (lv_at hl 5 rfl) ?_
          refine lv_iconst (v := 1) hx hb dX0_waysFrom_79 (by decide) ?_
          refine lv_iadd hx hb dX0_waysFrom_80 ?_
          refine lv_topi (fun x_23 ex_23 => ?_)
          have vx_23 := b_add (rfl : p2.toInt = _) (by decide : (1 : Int32).toInt = 1) ex_23 (by omega) (by omega)
          refine lv_iload_n hx hb dX0_waysFrom_81 rfl (lv_at hl 6 rfl) ?_
          refine lv_iload hx hb dX0_waysFrom_82 (lv_at hl 7 rfl) ?_
          refine t_ci (va_runV (As := [.ref h1, .int x_23, .int p3, .int p4]) (rest := [.int i_4]) ⟨hx, hb, hml, hown, hts⟩ (cy_X0_waysFrom_3 l D cA L T r hG hLA.1 σ_21 ρ_13 hB.2.1 _ h0 mh0 th0 h1 mh1 th1 x_23 p3 p4 (by first | omega | decide) (by first | omega | decide)) (cV hts mv_X0_waysFrom mw_5_13 rfl rfl ⟨Nat.le_of_ble_eq_true rfl, Nat.le_of_ble_eq_true rfl⟩) (pV hB.1 hK hN mh0 th0 (show shp cA 0 _ _ _ = .inr (0, Fs0 _ _ _) from rfl) rfl) rfl rfl hl.1 rfl (lv_room (Nat.le_of_ble_eq_true rfl)) dX0_waysFrom_84 ⟨Nat.le_of_ble_eq_true rfl, Nat.le_of_ble_eq_true rfl⟩) hLA hA hB hS (by decide) (fun x_26 σ_24 ρ_25 H locs hB fσ_24 pσ_24 hS => ?_)
          refine lv_iadd hx hb dX0_waysFrom_87 ?_
          refine lv_topi (fun x_27 ex_27 => ?_)
          refine lv_istore (lv' := [(5, .int x_27), (7, .int x_14), (6, .int i_5), (0, .ref h0), (1, .ref h1), (2, .int p2), (3, .int p3), (4, .int p4)]) hx hb dX0_waysFrom_88 hl (by decide) rfl (fun ls hl => ?_)
          refine lv_aload_n hx hb dX0_waysFrom_90 rfl (lv_at hl 3 rfl) ?_
          refine t_gk hx hb hts hown hK hB mh0 th0 fq_0_0 hb_15 mw_2_95 dX0_waysFrom_91 ?_
          refine lv_iload hx hb dX0_waysFrom_94 (lv_at hl 1 rfl) ?_
          refine lv_dup2_11 hx hb dX0_waysFrom_96 rfl rfl ?_
          refine t_ai hx hb hK hB mb_15 tb_15 ai_20 (fun _ => rfl) (i_in (by omega) (by omega)) dX0_waysFrom_97 (fun x_28 ex_28 lx_28 ux_28 => ?_)
          refine lv_iload hx hb dX0_waysFrom_98 (lv_at hl 7 rfl) ?_
          refine lv_iadd hx hb dX0_waysFrom_100 ?_
          refine lv_topi (fun x_29 ex_29 => ?_)
          refine t_si hx hb hK hLA hB hS mb_15 tb_15 ai_20 (i_in (by omega) (by omega)) (i_lo _) (i_hi _) (Or.inr (by decide)) dX0_waysFrom_101 (fun H locs σ_30 eσ_30 hB hS => ?_)
          have k_31 : σ_30 b_15 x_14.toNatClampNeg = x_29 := by rw [eσ_30]; exact up2_same _ _ _ _
          obtain ⟨x_32, ex_32⟩ : ∃ y : Int32, y = i_5 + 1 := ⟨_, rfl⟩
          have vx_32 := b_add (rfl : i_5.toInt = _) (by decide : (1 : Int32).toInt = 1) ex_32 (by omega) (by omega)
          refine lv_iinc (v := x_32) (lv' := [(6, .int x_32), (5, .int x_27), (7, .int x_14), (0, .ref h0), (1, .ref h1), (2, .int p2), (3, .int p3), (4, .int p4)]) hx hb dX0_waysFrom_102 hl (k := 2) rfl (by rw [ex_32]; rfl) (by decide) rfl (fun ls hl => ?_)
          refine lv_goto (tgt := 33) hx hb dX0_waysFrom_105 (by decide) ?_
          have k_33 : σ_21 h1 9 = x_1 := by rw [eσ_21, up2_nea _ _ (tg_ne th1 tb_15 (by decide))]; exact k_9
          have k_34 : σ_24 h1 9 = x_1 := (FR.at fσ_24 th1 (by decide)).trans k_33
          have k_35 : σ_30 h1 9 = x_1 := by rw [eσ_30, up2_nea _ _ (tg_ne th1 tb_15 (by decide))]; exact k_34
          exact ih_8 ⟨x_27, x_32, σ_30, ρ_25⟩ _ _ _ ⟨(by omega), (by omega), k_35, hB, hS, lv_sub hl [0, 1, 3, 4, 5, 6, 7] rfl⟩ (by show (2 - x_32.toInt).toNat < (2 - i_5.toInt).toNat; omega)
    · skip
      have uc_3 := j_eq c_3
      refine lv_aload_n hx hb dX0_waysFrom_15 rfl (lv_at hl 0 rfl) ?_
      refine lv_aload_n hx hb dX0_waysFrom_16 rfl (lv_at hl 1 rfl) ?_
      refine lv_iload_n hx hb dX0_waysFrom_17 rfl (lv_at hl 2 rfl) ?_
      refine lv_iconst (v := 1) hx hb dX0_waysFrom_18 (by decide) ?_
      refine lv_iadd hx hb dX0_waysFrom_19 ?_
      refine lv_topi (fun x_36 ex_36 => ?_)
      have vx_36 := b_add (rfl : p2.toInt = _) (by decide : (1 : Int32).toInt = 1) ex_36 (by omega) (by omega)
      refine lv_iload_n hx hb dX0_waysFrom_20 rfl (lv_at hl 3 rfl) ?_
      refine lv_iload hx hb dX0_waysFrom_21 (lv_at hl 4 rfl) ?_
      refine t_ci (va_runV (As := [.ref h1, .int x_36, .int p3, .int p4]) (rest := []) ⟨hx, hb, hml, hown, hts⟩ (cy_X0_waysFrom_3 l D cA L T r hG hLA.1 σ ρ hB.2.1 _ h0 mh0 th0 h1 mh1 th1 x_36 p3 p4 (by first | omega | decide) (by first | omega | decide)) (cV hts mv_X0_waysFrom mw_5_13 rfl rfl ⟨Nat.le_of_ble_eq_true rfl, Nat.le_of_ble_eq_true rfl⟩) (pV hB.1 hK hN mh0 th0 (show shp cA 0 _ _ _ = .inr (0, Fs0 _ _ _) from rfl) rfl) rfl rfl hl.1 rfl (lv_room (Nat.le_of_ble_eq_true rfl)) dX0_waysFrom_23 ⟨Nat.le_of_ble_eq_true rfl, Nat.le_of_ble_eq_true rfl⟩) hLA hA hB hS (by decide) (fun x_39 σ_37 ρ_38 H locs hB fσ_37 pσ_37 hS => ?_)
      exact W.iret (v := x_39) hx hb hr (fun t ht hW => ⟨⟨x_39, (σ_37, ρ_38), rfl, ⟨hB.2.1, hB.2.2, trivial⟩, (show TP D cA L T r σ_37 ρ_38 t.heap from by rw [ht]; exact hB.1)⟩, hS.F ht⟩) hS.2.2 dX0_waysFrom_26
  · skip
    have uc_2 := j_nlt c_2
    refine lv_iconst (v := 1) hx hb dX0_waysFrom_8 (by decide) ?_
    exact W.iret (v := 1) hx hb hr (fun t ht hW => ⟨⟨1, (σ, ρ), rfl, ⟨hB.2.1, hB.2.2, trivial⟩, (show TP D cA L T r σ ρ t.heap from by rw [ht]; exact hB.1)⟩, hS.F ht⟩) hS.2.2 dX0_waysFrom_9
set_option maxHeartbeats 4000000 in
set_option maxRecDepth 100000 in
theorem cy_X0_waysFrom_5 (l : Launch) (D : va_G) (cA : Nat → ClassId) (L : List Nat) (T : Nat → Nat) (r : Rg) (hG : GR L T r) (hL : L.Nodup) (σ : Sg) (ρ : Lg) (hW : WT L ry T σ) (sz : Nat) (h0 : Nat) (mh0 : h0 ∈ L) (th0 : T h0 = 0) (h1 : Nat) (mh1 : h1 ∈ L) (th1 : T h1 = 3) (p2 : Int32) (p3 : Int32) (p4 : Int32) (w0 : 3 ≤ p2.toInt) (w1 : p2.toInt ≤ 8) : Met l yX0_waysFrom (.code yX0_waysFrom cX0_waysFrom 8 (some .int) :: wsA) ({ frames := 5, cells := 0, slots := 0, locals := 135 }) (PR D cA L T r σ ρ sz [.ref h0, .ref h1, .int p2, .int p3, .int p4]) (QI D cA L T r ry [(20, 1000)] σ sz (fun x σ1 => True)) 0 0 (dm L sz) := by
  refine Met.ofW (cc := cX0_waysFrom) (maxL := 8) (ret := (some .int)) (by decide) rfl ?_
  intro p e s m args below meth c s₁ B hml hv
  obtain ⟨rfl, hsz, hP, hK, hN⟩ := hv
  have hx := B.exec
  have hb := B.bytes
  have hr := B.returns
  have hts : ∀ w ∈ wsA, w.before _ s = true := fun w h => atoms_spec (ws := .code yX0_waysFrom cX0_waysFrom 8 (some .int) :: wsA) B.pre w (List.mem_cons_of_mem _ h)
  have hown : s.vm.findClass RX0 = some m.cls := findClass_of_methodNamed B.named
  subst hsz
  have hLA : LA (dm L s.heap.size) L := ⟨hL, fun a h => Or.inl h⟩
  have hA : ∀ q : Nat, s.heap.size ≤ q → dm L s.heap.size q := fun q h => Or.inr h
  have hS : va_S (dm L s.heap.size) s.heap s.heap [] := va_S.rf
  have hB : TS D cA L T r ry [(20, 1000)] σ σ ρ s.heap := ⟨hP, hW, FR.rf⟩
  have hl := lv_entry ([.ref h0, .ref h1, .int p2, .int p3, .int p4]) (n := 8) (Nat.le_of_ble_eq_true rfl)
  rw [lg_entry_eq]
  generalize (lg_sl ([.ref h0, .ref h1, .int p2, .int p3, .int p4]) ++ List.replicate (8 - (lg_sl ([.ref h0, .ref h1, .int p2, .int p3, .int p4])).length) Slot.unset).toArray = ls at hl ⊢
  have hl : lv_has ls 8 [(0, .ref h0), (1, .ref h1), (2, .int p2), (3, .int p3), (4, .int p4)] := hl
  refine lv_iload_n hx hb dX0_waysFrom_0 rfl (lv_at hl 2 rfl) ?_
  refine lv_aload_n hx hb dX0_waysFrom_1 rfl (lv_at hl 1 rfl) ?_
  refine t_gi hx hb hts hown hK hB mh1 th1 fi_3_9 rfl mw_1_180 dX0_waysFrom_2 (fun x_1 ex_1 lx_1 ux_1 => ?_)
  refine lv_icmp_lt (tgt := 10) hx hb dX0_waysFrom_5 (by decide) (fun c_2 => ?_) (fun c_2 => ?_)
  · skip
    have uc_2 := j_lt c_2
    refine lv_iload_n hx hb dX0_waysFrom_10 rfl (lv_at hl 2 rfl) ?_
    refine lv_iload_n hx hb dX0_waysFrom_11 rfl (lv_at hl 3 rfl) ?_
    refine lv_icmp_ne (tgt := 27) hx hb dX0_waysFrom_12 (by decide) (fun c_3 => ?_) (fun c_3 => ?_)
    · skip
      have uc_3 := j_ne c_3
      refine lv_iconst (v := 0) hx hb dX0_waysFrom_27 (by decide) ?_
      refine lv_istore (lv' := [(5, .int 0), (0, .ref h0), (1, .ref h1), (2, .int p2), (3, .int p3), (4, .int p4)]) hx hb dX0_waysFrom_28 hl (by decide) rfl (fun ls hl => ?_)
      refine lv_iconst (v := 0) hx hb dX0_waysFrom_30 (by decide) ?_
      refine lv_istore (lv' := [(6, .int 0), (5, .int 0), (0, .ref h0), (1, .ref h1), (2, .int p2), (3, .int p3), (4, .int p4)]) hx hb dX0_waysFrom_31 hl (by decide) rfl (fun ls hl => ?_)
      refine w_loop (α := Int32 × Int32 × Sg × Lg) (fun (i_4, i_5, σ_6, ρ_7) H locs ls => 0 ≤ i_5.toInt ∧ i_5.toInt ≤ 2 ∧ σ_6 h1 9 = x_1 ∧ TS D cA L T r ry [(20, 1000)] σ σ_6 ρ_7 H ∧ va_S (dm L s.heap.size) s.heap H locs ∧ lv_has ls 8 [(6, .int i_5), (5, .int i_4), (0, .ref h0), (1, .ref h1), (2, .int p2), (3, .int p3), (4, .int p4)]) (fun (i_4, i_5, σ_6, ρ_7) => (2 - i_5.toInt).toNat) ?_ ⟨0, 0, σ, ρ⟩ ⟨(by decide), (by decide), ex_1.symm, hB, hS, lv_sub hl [0, 1, 2, 3, 4, 5, 6] rfl⟩
      rintro ⟨i_4, i_5, σ_6, ρ_7⟩ H locs ls ⟨li_5, ui_5, k_9, hB, hS, hl⟩ ih_8
      refine lv_iload hx hb dX0_waysFrom_33 (lv_at hl 0 rfl) ?_
      refine lv_iconst (v := 1) hx hb dX0_waysFrom_35 (by decide) ?_
      refine lv_icmp_gt (tgt := 108) hx hb dX0_waysFrom_36 (by decide) (fun c_10 => ?_) (fun c_10 => ?_)
      · skip
        have uc_10 := i_gt (n := 1) (by decide) c_10
        refine lv_iload hx hb dX0_waysFrom_108 (lv_at hl 1 rfl) ?_
        exact W.iret (v := i_4) hx hb hr (fun t ht hW => ⟨⟨i_4, (σ_6, ρ_7), rfl, ⟨hB.2.1, hB.2.2, trivial⟩, (show TP D cA L T r σ_6 ρ_7 t.heap from by rw [ht]; exact hB.1)⟩, hS.F ht⟩) hS.2.2 dX0_waysFrom_110
      · skip
        have uc_10 := i_ngt (n := 1) (by decide) c_10
        refine lv_aload_n hx hb dX0_waysFrom_39 rfl (lv_at hl 3 rfl) ?_
        refine lv_iload_n hx hb dX0_waysFrom_40 rfl (lv_at hl 4 rfl) ?_
        refine lv_iload hx hb dX0_waysFrom_41 (lv_at hl 0 rfl) ?_
        refine lv_iload_n hx hb dX0_waysFrom_43 rfl (lv_at hl 4 rfl) ?_
        refine lv_ishl hx hb dX0_waysFrom_44 ?_
        refine lv_topi (fun x_11 ex_11 => ?_)
        refine t_ci (va_runV (As := [.int p2, .int x_11]) (rest := []) ⟨hx, hb, hml, hown, hts⟩ (cy_X3_askedAt l D cA L T r hG hLA.1 σ_6 ρ_7 hB.2.1 _ h1 mh1 th1 p2 x_11 (by first | omega | decide) (by first | omega | decide)) (cV hts mv_X3_askedAt mw_4_223 rfl rfl ⟨Nat.le_of_ble_eq_true rfl, Nat.le_of_ble_eq_true rfl⟩) (pV hB.1 hK hN mh1 th1 (show shp cA 3 _ _ _ = .inr (3, Fs3 _ _ _) from rfl) rfl) rfl rfl hl.1 rfl (lv_room (Nat.le_of_ble_eq_true rfl)) dX0_waysFrom_45 ⟨Nat.le_of_ble_eq_true rfl, Nat.le_of_ble_eq_true rfl⟩) hLA hA hB hS (by decide) (fun x_14 σ_12 ρ_13 H locs hB fσ_12 pσ_12 hS => ?_)
        have qσ_12 := FR.nil fσ_12
        subst qσ_12
        obtain ⟨lx_14, ux_14⟩ := pσ_12
        refine lv_istore (lv' := [(7, .int x_14), (6, .int i_5), (5, .int i_4), (0, .ref h0), (1, .ref h1), (2, .int p2), (3, .int p3), (4, .int p4)]) hx hb dX0_waysFrom_48 hl (by decide) rfl (fun ls hl => ?_)
        refine lv_aload_n hx hb dX0_waysFrom_50 rfl (lv_at hl 3 rfl) ?_
        refine t_gr hx hb hts hown hK hG hB mh0 th0 fq_0_0 rfl mw_2_95 dX0_waysFrom_51 (fun b_15 hb_15 mb_15 tb_15 => ?_)
        refine lv_iload hx hb dX0_waysFrom_54 (lv_at hl 0 rfl) ?_
        refine t_ai hx hb hK hB mb_15 tb_15 ai_20 (fun _ => rfl) (i_in (by omega) (by omega)) dX0_waysFrom_56 (fun x_16 ex_16 lx_16 ux_16 => ?_)
        refine lv_iload hx hb dX0_waysFrom_57 (lv_at hl 7 rfl) ?_
        refine lv_icmp_lt (tgt := 102) hx hb dX0_waysFrom_59 (by decide) (fun c_17 => ?_) (fun c_17 => ?_)
        · skip
          have uc_17 := j_lt c_17
          obtain ⟨x_18, ex_18⟩ : ∃ y : Int32, y = i_5 + 1 := ⟨_, rfl⟩
          have vx_18 := b_add (rfl : i_5.toInt = _) (by decide : (1 : Int32).toInt = 1) ex_18 (by omega) (by omega)
          refine lv_iinc (v := x_18) (lv' := [(6, .int x_18), (7, .int x_14), (5, .int i_4), (0, .ref h0), (1, .ref h1), (2, .int p2), (3, .int p3), (4, .int p4)]) hx hb dX0_waysFrom_102 hl (k := 1) rfl (by rw [ex_18]; rfl) (by decide) rfl (fun ls hl => ?_)
          refine lv_goto (tgt := 33) hx hb dX0_waysFrom_105 (by decide) ?_
          exact ih_8 ⟨i_4, x_18, σ_6, ρ_13⟩ _ _ _ ⟨(by omega), (by omega), k_9, hB, hS, lv_sub hl [0, 2, 3, 4, 5, 6, 7] rfl⟩ (by show (2 - x_18.toInt).toNat < (2 - i_5.toInt).toNat; omega)
        · skip
          have uc_17 := j_nlt c_17
          refine lv_aload_n hx hb dX0_waysFrom_62 rfl (lv_at hl 3 rfl) ?_
          refine t_gk hx hb hts hown hK hB mh0 th0 fq_0_0 hb_15 mw_2_95 dX0_waysFrom_63 ?_
          refine lv_iload hx hb dX0_waysFrom_66 (lv_at hl 0 rfl) ?_
          refine lv_dup2_11 hx hb dX0_waysFrom_68 rfl rfl ?_
          refine t_ai hx hb hK hB mb_15 tb_15 ai_20 (fun _ => rfl) (i_in (by omega) (by omega)) dX0_waysFrom_69 (fun x_19 ex_19 lx_19 ux_19 => ?_)
          have qx_19 : x_19 = x_16 := ex_19.trans ex_16.symm
          have qx_19 := qx_19.symm
          subst qx_19
          refine lv_iload hx hb dX0_waysFrom_70 (lv_at hl 7 rfl) ?_
          refine lv_isub hx hb dX0_waysFrom_72 ?_
          refine lv_topi (fun x_20 ex_20 => ?_)
          refine t_si hx hb hK hLA hB hS mb_15 tb_15 ai_20 (i_in (by omega) (by omega)) (i_lo _) (i_hi _) (Or.inr (by decide)) dX0_waysFrom_73 (fun H locs σ_21 eσ_21 hB hS => ?_)
          have k_22 : σ_21 b_15 x_14.toNatClampNeg = x_20 := by rw [eσ_21]; exact up2_same _ _ _ _
          refine lv_iload hx hb dX0_waysFrom_74 (lv_at hl 2 rfl) ?_
          refine lv_aload_n hx hb dX0_waysFrom_76 rfl (lv_at hl 3 rfl) ?_
          refine lv_aload_n hx hb dX0_waysFrom_77 rfl (lv_at hl 4 rfl) ?_
          refine lv_iload_n hx hb dX0_waysFrom_78 rfl (lv_at hl 5 rfl) ?_
          refine lv_iconst (v := 1) hx hb dX0_waysFrom_79 (by decide) ?_
          refine lv_iadd hx hb dX0_waysFrom_80 ?_
          refine lv_topi (fun x_23 ex_23 => ?_)
          have vx_23 := b_add (rfl : p2.toInt = _) (by decide : (1 : Int32).toInt = 1) ex_23 (by omega) (by omega)
          refine lv_iload_n hx hb dX0_waysFrom_81 rfl (lv_at hl 6 rfl) ?_
          refine lv_iload hx hb dX0_waysFrom_82 (lv_at hl 7 rfl) ?_
          refine t_ci (va_runV (As := [.ref h1, .int x_23, .int p3, .int p4]) (rest := [.int i_4]) ⟨hx, hb, hml, hown, hts⟩ (cy_X0_waysFrom_4 l D cA L T r hG hLA.1 σ_21 ρ_13 hB.2.1 _ h0 mh0 th0 h1 mh1 th1 x_23 p3 p4 (by first | omega | decide) (by first | omega | decide)) (cV hts mv_X0_waysFrom mw_5_13 rfl rfl ⟨Nat.le_of_ble_eq_true rfl, Nat.le_of_ble_eq_true rfl⟩) (pV hB.1 hK hN mh0 th0 (show shp cA 0 _ _ _ = .inr (0, Fs0 _ _ _) from rfl) rfl) rfl rfl hl.1 rfl (lv_room (Nat.le_of_ble_eq_true rfl)) dX0_waysFrom_84 ⟨Nat.le_of_ble_eq_true rfl, Nat.le_of_ble_eq_true rfl⟩) hLA hA hB hS (by decide) (fun x_26 σ_24 ρ_25 H locs hB fσ_24 pσ_24 hS => ?_)
          refine lv_iadd hx hb dX0_waysFrom_87 ?_
          refine lv_topi (fun x_27 ex_27 => ?_)
          refine lv_istore (lv' := [(5, .int x_27), (7, .int x_14), (6, .int i_5), (0, .ref h0), (1, .ref h1), (2, .int p2), (3, .int p3), (4, .int p4)]) hx hb dX0_waysFrom_88 hl (by decide) rfl (fun ls hl => ?_)
          refine lv_aload_n hx hb dX0_waysFrom_90 rfl (lv_at hl 3 rfl) ?_
          refine t_gk hx hb hts hown hK hB mh0 th0 fq_0_0 hb_15 mw_2_95 dX0_waysFrom_91 ?_
          refine lv_iload hx hb dX0_waysFrom_94 (lv_at hl 1 rfl) ?_
          refine lv_dup2_11 hx hb dX0_waysFrom_96 rfl rfl ?_
          refine t_ai hx hb hK hB mb_15 tb_15 ai_20 (fun _ => rfl) (i_in (by omega) (by omega)) dX0_waysFrom_97 (fun x_28 ex_28 lx_28 ux_28 => ?_)
          refine lv_iload hx hb dX0_waysFrom_98 (lv_at hl 7 rfl) ?_
          refine lv_iadd hx hb dX0_waysFrom_100 ?_
          refine lv_topi (fun x_29 ex_29 => ?_)
          refine t_si hx hb hK hLA hB hS mb_15 tb_15 ai_20 (i_in (by omega) (by omega)) (i_lo _) (i_hi _) (Or.inr (by decide)) dX0_waysFrom_101 (fun H locs σ_30 eσ_30 hB hS => ?_)
          have k_31 : σ_30 b_15 x_14.toNatClampNeg = x_29 := by rw [eσ_30]; exact up2_same _ _ _ _
          obtain ⟨x_32, ex_32⟩ : ∃ y : Int32, y = i_5 + 1 := ⟨_, rfl⟩
          have vx_32 := b_add (rfl : i_5.toInt = _) (by decide : (1 : Int32).toInt = 1) ex_32 (by omega) (by omega)
          refine lv_iinc (v := x_32) (lv' := [(6, .int x_32), (5, .int x_27), (7, .int x_14), (0, .ref h0), (1, .ref h1), (2, .int p2), (3, .int p3), (4, .int p4)]) hx hb dX0_waysFrom_102 hl (k := 2) rfl (by rw [ex_32]; rfl) (by decide) rfl (fun ls hl => ?_)
          refine lv_goto (tgt := 33) hx hb dX0_waysFrom_105 (by decide) ?_
          have k_33 : σ_21 h1 9 = x_1 := by rw [eσ_21, up2_nea _ _ (tg_ne th1 tb_15 (by decide))]; exact k_9
          have k_34 : σ_24 h1 9 = x_1 := (FR.at fσ_24 th1 (by decide)).trans k_33
          have k_35 : σ_30 h1 9 = x_1 := by rw [eσ_30, up2_nea _ _ (tg_ne th1 tb_15 (by decide))]; exact k_34
          exact ih_8 ⟨x_27, x_32, σ_30, ρ_25⟩ _ _ _ ⟨(by omega), (by omega), k_35, hB, hS, lv_sub hl [0, 1, 3, 4, 5, 6, 7] rfl⟩ (by show (2 - x_32.toInt).toNat < (2 - i_5.toInt).toNat; omega)
    · skip
      have uc_3 := j_eq c_3
      refine lv_aload_n hx hb dX0_waysFrom_15 rfl (lv_at hl 0 rfl) ?_
      refine lv_aload_n hx hb dX0_waysFrom_16 rfl (lv_at hl 1 rfl) ?_
      refine lv_iload_n hx hb dX0_waysFrom_17 rfl (lv_at hl 2 rfl) ?_
      refine lv_iconst (v := 1) hx hb dX0_waysFrom_18 (by decide) ?_
      refine lv_iadd hx hb dX0_waysFrom_19 ?_
      refine lv_topi (fun x_36 ex_36 => ?_)
      have vx_36 := b_add (rfl : p2.toInt = _) (by decide : (1 : Int32).toInt = 1) ex_36 (by omega) (by omega)
      refine lv_iload_n hx hb dX0_waysFrom_20 rfl (lv_at hl 3 rfl) ?_
      refine lv_iload hx hb dX0_waysFrom_21 (lv_at hl 4 rfl) ?_
      refine t_ci (va_runV (As := [.ref h1, .int x_36, .int p3, .int p4]) (rest := []) ⟨hx, hb, hml, hown, hts⟩ (cy_X0_waysFrom_4 l D cA L T r hG hLA.1 σ ρ hB.2.1 _ h0 mh0 th0 h1 mh1 th1 x_36 p3 p4 (by first | omega | decide) (by first | omega | decide)) (cV hts mv_X0_waysFrom mw_5_13 rfl rfl ⟨Nat.le_of_ble_eq_true rfl, Nat.le_of_ble_eq_true rfl⟩) (pV hB.1 hK hN mh0 th0 (show shp cA 0 _ _ _ = .inr (0, Fs0 _ _ _) from rfl) rfl) rfl rfl hl.1 rfl (lv_room (Nat.le_of_ble_eq_true rfl)) dX0_waysFrom_23 ⟨Nat.le_of_ble_eq_true rfl, Nat.le_of_ble_eq_true rfl⟩) hLA hA hB hS (by decide) (fun x_39 σ_37 ρ_38 H locs hB fσ_37 pσ_37 hS => ?_)
      exact W.iret (v := x_39) hx hb hr (fun t ht hW => ⟨⟨x_39, (σ_37, ρ_38), rfl, ⟨hB.2.1, hB.2.2, trivial⟩, (show TP D cA L T r σ_37 ρ_38 t.heap from by rw [ht]; exact hB.1)⟩, hS.F ht⟩) hS.2.2 dX0_waysFrom_26
  · skip
    have uc_2 := j_nlt c_2
    refine lv_iconst (v := 1) hx hb dX0_waysFrom_8 (by decide) ?_
    exact W.iret (v := 1) hx hb hr (fun t ht hW => ⟨⟨1, (σ, ρ), rfl, ⟨hB.2.1, hB.2.2, trivial⟩, (show TP D cA L T r σ ρ t.heap from by rw [ht]; exact hB.1)⟩, hS.F ht⟩) hS.2.2 dX0_waysFrom_9
set_option maxHeartbeats 4000000 in
set_option maxRecDepth 100000 in
theorem cy_X0_waysFrom_6 (l : Launch) (D : va_G) (cA : Nat → ClassId) (L : List Nat) (T : Nat → Nat) (r : Rg) (hG : GR L T r) (hL : L.Nodup) (σ : Sg) (ρ : Lg) (hW : WT L ry T σ) (sz : Nat) (h0 : Nat) (mh0 : h0 ∈ L) (th0 : T h0 = 0) (h1 : Nat) (mh1 : h1 ∈ L) (th1 : T h1 = 3) (p2 : Int32) (p3 : Int32) (p4 : Int32) (w0 : 2 ≤ p2.toInt) (w1 : p2.toInt ≤ 8) : Met l yX0_waysFrom (.code yX0_waysFrom cX0_waysFrom 8 (some .int) :: wsA) ({ frames := 6, cells := 0, slots := 0, locals := 162 }) (PR D cA L T r σ ρ sz [.ref h0, .ref h1, .int p2, .int p3, .int p4]) (QI D cA L T r ry [(20, 1000)] σ sz (fun x σ1 => True)) 0 0 (dm L sz) := by
  refine Met.ofW (cc := cX0_waysFrom) (maxL := 8) (ret := (some .int)) (by decide) rfl ?_
  intro p e s m args below meth c s₁ B hml hv
  obtain ⟨rfl, hsz, hP, hK, hN⟩ := hv
  have hx := B.exec
  have hb := B.bytes
  have hr := B.returns
  have hts : ∀ w ∈ wsA, w.before _ s = true := fun w h => atoms_spec (ws := .code yX0_waysFrom cX0_waysFrom 8 (some .int) :: wsA) B.pre w (List.mem_cons_of_mem _ h)
  have hown : s.vm.findClass RX0 = some m.cls := findClass_of_methodNamed B.named
  subst hsz
  have hLA : LA (dm L s.heap.size) L := ⟨hL, fun a h => Or.inl h⟩
  have hA : ∀ q : Nat, s.heap.size ≤ q → dm L s.heap.size q := fun q h => Or.inr h
  have hS : va_S (dm L s.heap.size) s.heap s.heap [] := va_S.rf
  have hB : TS D cA L T r ry [(20, 1000)] σ σ ρ s.heap := ⟨hP, hW, FR.rf⟩
  have hl := lv_entry ([.ref h0, .ref h1, .int p2, .int p3, .int p4]) (n := 8) (Nat.le_of_ble_eq_true rfl)
  rw [lg_entry_eq]
  generalize (lg_sl ([.ref h0, .ref h1, .int p2, .int p3, .int p4]) ++ List.replicate (8 - (lg_sl ([.ref h0, .ref h1, .int p2, .int p3, .int p4])).length) Slot.unset).toArray = ls at hl ⊢
  have hl : lv_has ls 8 [(0, .ref h0), (1, .ref h1), (2, .int p2), (3, .int p3), (4, .int p4)] := hl
  refine lv_iload_n hx hb dX0_waysFrom_0 rfl (lv_at hl 2 rfl) ?_
  refine lv_aload_n hx hb dX0_waysFrom_1 rfl (lv_at hl 1 rfl) ?_
  refine t_gi hx hb hts hown hK hB mh1 th1 fi_3_9 rfl mw_1_180 dX0_waysFrom_2 (fun x_1 ex_1 lx_1 ux_1 => ?_)
  refine lv_icmp_lt (tgt := 10) hx hb dX0_waysFrom_5 (by decide) (fun c_2 => ?_) (fun c_2 => ?_)
  · skip
    have uc_2 := j_lt c_2
    refine lv_iload_n hx hb dX0_waysFrom_10 rfl (lv_at hl 2 rfl) ?_
    refine lv_iload_n hx hb dX0_waysFrom_11 rfl (lv_at hl 3 rfl) ?_
    refine lv_icmp_ne (tgt := 27) hx hb dX0_waysFrom_12 (by decide) (fun c_3 => ?_) (fun c_3 => ?_)
    · skip
      have uc_3 := j_ne c_3
      refine lv_iconst (v := 0) hx hb dX0_waysFrom_27 (by decide) ?_
      refine lv_istore (lv' := [(5, .int 0), (0, .ref h0), (1, .ref h1), (2, .int p2), (3, .int p3), (4, .int p4)]) hx hb dX0_waysFrom_28 hl (by decide) rfl (fun ls hl => ?_)
      refine lv_iconst (v := 0) hx hb dX0_waysFrom_30 (by decide) ?_
      refine lv_istore (lv' := [(6, .int 0), (5, .int 0), (0, .ref h0), (1, .ref h1), (2, .int p2), (3, .int p3), (4, .int p4)]) hx hb dX0_waysFrom_31 hl (by decide) rfl (fun ls hl => ?_)
      refine w_loop (α := Int32 × Int32 × Sg × Lg) (fun (i_4, i_5, σ_6, ρ_7) H locs ls => 0 ≤ i_5.toInt ∧ i_5.toInt ≤ 2 ∧ σ_6 h1 9 = x_1 ∧ TS D cA L T r ry [(20, 1000)] σ σ_6 ρ_7 H ∧ va_S (dm L s.heap.size) s.heap H locs ∧ lv_has ls 8 [(6, .int i_5), (5, .int i_4), (0, .ref h0), (1, .ref h1), (2, .int p2), (3, .int p3), (4, .int p4)]) (fun (i_4, i_5, σ_6, ρ_7) => (2 - i_5.toInt).toNat) ?_ ⟨0, 0, σ, ρ⟩ ⟨(by decide), (by decide), ex_1.symm, hB, hS, lv_sub hl [0, 1, 2, 3, 4, 5, 6] rfl⟩
      rintro ⟨i_4, i_5, σ_6, ρ_7⟩ H locs ls ⟨li_5, ui_5, k_9, hB, hS, hl⟩ ih_8
      refine lv_iload hx hb dX0_waysFrom_33 (lv_at hl 0 rfl) ?_
      refine lv_iconst (v := 1) hx hb dX0_waysFrom_35 (by decide) ?_
      refine lv_icmp_gt (tgt := 108) hx hb dX0_waysFrom_36 (by decide) (fun c_10 => ?_) (fun c_10 => ?_)
      · skip
        have uc_10 := i_gt (n := 1) (by decide) c_10
        refine lv_iload hx hb dX0_waysFrom_108 (lv_at hl 1 rfl) ?_
        exact W.iret (v := i_4) hx hb hr (fun t ht hW => ⟨⟨i_4, (σ_6, ρ_7), rfl, ⟨hB.2.1, hB.2.2, trivial⟩, (show TP D cA L T r σ_6 ρ_7 t.heap from by rw [ht]; exact hB.1)⟩, hS.F ht⟩) hS.2.2 dX0_waysFrom_110
      · skip
        have uc_10 := i_ngt (n := 1) (by decide) c_10
        refine lv_aload_n hx hb dX0_waysFrom_39 rfl (lv_at hl 3 rfl) ?_
        refine lv_iload_n hx hb dX0_waysFrom_40 rfl (lv_at hl 4 rfl) ?_
        refine lv_iload hx hb dX0_waysFrom_41 (lv_at hl 0 rfl) ?_
        refine lv_iload_n hx hb dX0_waysFrom_43 rfl (lv_at hl 4 rfl) ?_
        refine lv_ishl hx hb dX0_waysFrom_44 ?_
        refine lv_topi (fun x_11 ex_11 => ?_)
        refine t_ci (va_runV (As := [.int p2, .int x_11]) (rest := []) ⟨hx, hb, hml, hown, hts⟩ (cy_X3_askedAt l D cA L T r hG hLA.1 σ_6 ρ_7 hB.2.1 _ h1 mh1 th1 p2 x_11 (by first | omega | decide) (by first | omega | decide)) (cV hts mv_X3_askedAt mw_4_223 rfl rfl ⟨Nat.le_of_ble_eq_true rfl, Nat.le_of_ble_eq_true rfl⟩) (pV hB.1 hK hN mh1 th1 (show shp cA 3 _ _ _ = .inr (3, Fs3 _ _ _) from rfl) rfl) rfl rfl hl.1 rfl (lv_room (Nat.le_of_ble_eq_true rfl)) dX0_waysFrom_45 ⟨Nat.le_of_ble_eq_true rfl, Nat.le_of_ble_eq_true rfl⟩) hLA hA hB hS (by decide) (fun x_14 σ_12 ρ_13 H locs hB fσ_12 pσ_12 hS => ?_)
        have qσ_12 := FR.nil fσ_12
        subst qσ_12
        obtain ⟨lx_14, ux_14⟩ := pσ_12
        refine lv_istore (lv' := [(7, .int x_14), (6, .int i_5), (5, .int i_4), (0, .ref h0), (1, .ref h1), (2, .int p2), (3, .int p3), (4, .int p4)]) hx hb dX0_waysFrom_48 hl (by decide) rfl (fun ls hl => ?_)
        refine lv_aload_n hx hb dX0_waysFrom_50 rfl (lv_at hl 3 rfl) ?_
        refine t_gr hx hb hts hown hK hG hB mh0 th0 fq_0_0 rfl mw_2_95 dX0_waysFrom_51 (fun b_15 hb_15 mb_15 tb_15 => ?_)
        refine lv_iload hx hb dX0_waysFrom_54 (lv_at hl 0 rfl) ?_
        refine t_ai hx hb hK hB mb_15 tb_15 ai_20 (fun _ => rfl) (i_in (by omega) (by omega)) dX0_waysFrom_56 (fun x_16 ex_16 lx_16 ux_16 => ?_)
        refine lv_iload hx hb dX0_waysFrom_57 (lv_at hl 7 rfl) ?_
        refine lv_icmp_lt (tgt := 102) hx hb dX0_waysFrom_59 (by decide) (fun c_17 => ?_) (fun c_17 => ?_)
        · skip
          have uc_17 := j_lt c_17
          obtain ⟨x_18, ex_18⟩ : ∃ y : Int32, y = i_5 + 1 := ⟨_, rfl⟩
          have vx_18 := b_add (rfl : i_5.toInt = _) (by decide : (1 : Int32).toInt = 1) ex_18 (by omega) (by omega)
          refine lv_iinc (v := x_18) (lv' := [(6, .int x_18), (7, .int x_14), (5, .int i_4), (0, .ref h0), (1, .ref h1), (2, .int p2), (3, .int p3), (4, .int p4)]) hx hb dX0_waysFrom_102 hl (k := 1) rfl (by rw [ex_18]; rfl) (by decide) rfl (fun ls hl => ?_)
          refine lv_goto (tgt := 33) hx hb dX0_waysFrom_105 (by decide) ?_
          exact ih_8 ⟨i_4, x_18, σ_6, ρ_13⟩ _ _ _ ⟨(by omega), (by omega), k_9, hB, hS, lv_sub hl [0, 2, 3, 4, 5, 6, 7] rfl⟩ (by show (2 - x_18.toInt).toNat < (2 - i_5.toInt).toNat; omega)
        · skip
          have uc_17 := j_nlt c_17
          refine lv_aload_n hx hb dX0_waysFrom_62 rfl (lv_at hl 3 rfl) ?_
          refine t_gk hx hb hts hown hK hB mh0 th0 fq_0_0 hb_15 mw_2_95 dX0_waysFrom_63 ?_
          refine lv_iload hx hb dX0_waysFrom_66 (lv_at hl 0 rfl) ?_
          refine lv_dup2_11 hx hb dX0_waysFrom_68 rfl rfl ?_
          refine t_ai hx hb hK hB mb_15 tb_15 ai_20 (fun _ => rfl) (i_in (by omega) (by omega)) dX0_waysFrom_69 (fun x_19 ex_19 lx_19 ux_19 => ?_)
          have qx_19 : x_19 = x_16 := ex_19.trans ex_16.symm
          have qx_19 := qx_19.symm
          subst qx_19
          refine lv_iload hx hb dX0_waysFrom_70 (lv_at hl 7 rfl) ?_
          refine lv_isub hx hb dX0_waysFrom_72 ?_
          refine lv_topi (fun x_20 ex_20 => ?_)
          refine t_si hx hb hK hLA hB hS mb_15 tb_15 ai_20 (i_in (by omega) (by omega)) (i_lo _) (i_hi _) (Or.inr (by decide)) dX0_waysFrom_73 (fun H locs σ_21 eσ_21 hB hS => ?_)
          have k_22 : σ_21 b_15 x_14.toNatClampNeg = x_20 := by rw [eσ_21]; exact up2_same _ _ _ _
          refine lv_iload hx hb dX0_waysFrom_74 (lv_at hl 2 rfl) ?_
          refine lv_aload_n hx hb dX0_waysFrom_76 rfl (lv_at hl 3 rfl) ?_
          refine lv_aload_n hx hb dX0_waysFrom_77 rfl (lv_at hl 4 rfl) ?_
          refine lv_iload_n hx hb dX0_waysFrom_78 rfl (lv_at hl 5 rfl) ?_
          refine lv_iconst (v := 1) hx hb dX0_waysFrom_79 (by decide) ?_
          refine lv_iadd hx hb dX0_waysFrom_80 ?_
          refine lv_topi (fun x_23 ex_23 => ?_)
          have vx_23 := b_add (rfl : p2.toInt = _) (by decide : (1 : Int32).toInt = 1) ex_23 (by omega) (by omega)
          refine lv_iload_n hx hb dX0_waysFrom_81 rfl (lv_at hl 6 rfl) ?_
          refine lv_iload hx hb dX0_waysFrom_82 (lv_at hl 7 rfl) ?_
          refine t_ci (va_runV (As := [.ref h1, .int x_23, .int p3, .int p4]) (rest := [.int i_4]) ⟨hx, hb, hml, hown, hts⟩ (cy_X0_waysFrom_5 l D cA L T r hG hLA.1 σ_21 ρ_13 hB.2.1 _ h0 mh0 th0 h1 mh1 th1 x_23 p3 p4 (by first | omega | decide) (by first | omega | decide)) (cV hts mv_X0_waysFrom mw_5_13 rfl rfl ⟨Nat.le_of_ble_eq_true rfl, Nat.le_of_ble_eq_true rfl⟩) (pV hB.1 hK hN mh0 th0 (show shp cA 0 _ _ _ = .inr (0, Fs0 _ _ _) from rfl) rfl) rfl rfl hl.1 rfl (lv_room (Nat.le_of_ble_eq_true rfl)) dX0_waysFrom_84 ⟨Nat.le_of_ble_eq_true rfl, Nat.le_of_ble_eq_true rfl⟩) hLA hA hB hS (by decide) (fun x_26 σ_24 ρ_25 H locs hB fσ_24 pσ_24 hS => ?_)
          refine lv_iadd hx hb dX0_waysFrom_87 ?_
          refine lv_topi (fun x_27 ex_27 => ?_)
          refine lv_istore (lv' := [(5, .int x_27), (7, .int x_14), (6, .int i_5), (0, .ref h0), (1, .ref h1), (2, .int p2), (3, .int p3), (4, .int p4)]) hx hb dX0_waysFrom_88 hl (by decide) rfl (fun ls hl => ?_)
          refine lv_aload_n hx hb dX0_waysFrom_90 rfl (lv_at hl 3 rfl) ?_
          refine t_gk hx hb hts hown hK hB mh0 th0 fq_0_0 hb_15 mw_2_95 dX0_waysFrom_91 ?_
          refine lv_iload hx hb dX0_waysFrom_94 (lv_at hl 1 rfl) ?_
          refine lv_dup2_11 hx hb dX0_waysFrom_96 rfl rfl ?_
          refine t_ai hx hb hK hB mb_15 tb_15 ai_20 (fun _ => rfl) (i_in (by omega) (by omega)) dX0_waysFrom_97 (fun x_28 ex_28 lx_28 ux_28 => ?_)
          refine lv_iload hx hb dX0_waysFrom_98 (lv_at hl 7 rfl) ?_
          refine lv_iadd hx hb dX0_waysFrom_100 ?_
          refine lv_topi (fun x_29 ex_29 => ?_)
          refine t_si hx hb hK hLA hB hS mb_15 tb_15 ai_20 (i_in (by omega) (by omega)) (i_lo _) (i_hi _) (Or.inr (by decide)) dX0_waysFrom_101 (fun H locs σ_30 eσ_30 hB hS => ?_)
          have k_31 : σ_30 b_15 x_14.toNatClampNeg = x_29 := by rw [eσ_30]; exact up2_same _ _ _ _
          obtain ⟨x_32, ex_32⟩ : ∃ y : Int32, y = i_5 + 1 := ⟨_, rfl⟩
          have vx_32 := b_add (rfl : i_5.toInt = _) (by decide : (1 : Int32).toInt = 1) ex_32 (by omega) (by omega)
          refine lv_iinc (v := x_32) (lv' := [(6, .int x_32), (5, .int x_27), (7, .int x_14), (0, .ref h0), (1, .ref h1), (2, .int p2), (3, .int p3), (4, .int p4)]) hx hb dX0_waysFrom_102 hl (k := 2) rfl (by rw [ex_32]; rfl) (by decide) rfl (fun ls hl => ?_)
          refine lv_goto (tgt := 33) hx hb dX0_waysFrom_105 (by decide) ?_
          have k_33 : σ_21 h1 9 = x_1 := by rw [eσ_21, up2_nea _ _ (tg_ne th1 tb_15 (by decide))]; exact k_9
          have k_34 : σ_24 h1 9 = x_1 := (FR.at fσ_24 th1 (by decide)).trans k_33
          have k_35 : σ_30 h1 9 = x_1 := by rw [eσ_30, up2_nea _ _ (tg_ne th1 tb_15 (by decide))]; exact k_34
          exact ih_8 ⟨x_27, x_32, σ_30, ρ_25⟩ _ _ _ ⟨(by omega), (by omega), k_35, hB, hS, lv_sub hl [0, 1, 3, 4, 5, 6, 7] rfl⟩ (by show (2 - x_32.toInt).toNat < (2 - i_5.toInt).toNat; omega)
    · skip
      have uc_3 := j_eq c_3
      refine lv_aload_n hx hb dX0_waysFrom_15 rfl (lv_at hl 0 rfl) ?_
      refine lv_aload_n hx hb dX0_waysFrom_16 rfl (lv_at hl 1 rfl) ?_
      refine lv_iload_n hx hb dX0_waysFrom_17 rfl (lv_at hl 2 rfl) ?_
      refine lv_iconst (v := 1) hx hb dX0_waysFrom_18 (by decide) ?_
      refine lv_iadd hx hb dX0_waysFrom_19 ?_
      refine lv_topi (fun x_36 ex_36 => ?_)
      have vx_36 := b_add (rfl : p2.toInt = _) (by decide : (1 : Int32).toInt = 1) ex_36 (by omega) (by omega)
      refine lv_iload_n hx hb dX0_waysFrom_20 rfl (lv_at hl 3 rfl) ?_
      refine lv_iload hx hb dX0_waysFrom_21 (lv_at hl 4 rfl) ?_
      refine t_ci (va_runV (As := [.ref h1, .int x_36, .int p3, .int p4]) (rest := []) ⟨hx, hb, hml, hown, hts⟩ (cy_X0_waysFrom_5 l D cA L T r hG hLA.1 σ ρ hB.2.1 _ h0 mh0 th0 h1 mh1 th1 x_36 p3 p4 (by first | omega | decide) (by first | omega | decide)) (cV hts mv_X0_waysFrom mw_5_13 rfl rfl ⟨Nat.le_of_ble_eq_true rfl, Nat.le_of_ble_eq_true rfl⟩) (pV hB.1 hK hN mh0 th0 (show shp cA 0 _ _ _ = .inr (0, Fs0 _ _ _) from rfl) rfl) rfl rfl hl.1 rfl (lv_room (Nat.le_of_ble_eq_true rfl)) dX0_waysFrom_23 ⟨Nat.le_of_ble_eq_true rfl, Nat.le_of_ble_eq_true rfl⟩) hLA hA hB hS (by decide) (fun x_39 σ_37 ρ_38 H locs hB fσ_37 pσ_37 hS => ?_)
      exact W.iret (v := x_39) hx hb hr (fun t ht hW => ⟨⟨x_39, (σ_37, ρ_38), rfl, ⟨hB.2.1, hB.2.2, trivial⟩, (show TP D cA L T r σ_37 ρ_38 t.heap from by rw [ht]; exact hB.1)⟩, hS.F ht⟩) hS.2.2 dX0_waysFrom_26
  · skip
    have uc_2 := j_nlt c_2
    refine lv_iconst (v := 1) hx hb dX0_waysFrom_8 (by decide) ?_
    exact W.iret (v := 1) hx hb hr (fun t ht hW => ⟨⟨1, (σ, ρ), rfl, ⟨hB.2.1, hB.2.2, trivial⟩, (show TP D cA L T r σ ρ t.heap from by rw [ht]; exact hB.1)⟩, hS.F ht⟩) hS.2.2 dX0_waysFrom_9
set_option maxHeartbeats 4000000 in
set_option maxRecDepth 100000 in
theorem cy_X0_waysFrom_7 (l : Launch) (D : va_G) (cA : Nat → ClassId) (L : List Nat) (T : Nat → Nat) (r : Rg) (hG : GR L T r) (hL : L.Nodup) (σ : Sg) (ρ : Lg) (hW : WT L ry T σ) (sz : Nat) (h0 : Nat) (mh0 : h0 ∈ L) (th0 : T h0 = 0) (h1 : Nat) (mh1 : h1 ∈ L) (th1 : T h1 = 3) (p2 : Int32) (p3 : Int32) (p4 : Int32) (w0 : 1 ≤ p2.toInt) (w1 : p2.toInt ≤ 8) : Met l yX0_waysFrom (.code yX0_waysFrom cX0_waysFrom 8 (some .int) :: wsA) ({ frames := 7, cells := 0, slots := 0, locals := 189 }) (PR D cA L T r σ ρ sz [.ref h0, .ref h1, .int p2, .int p3, .int p4]) (QI D cA L T r ry [(20, 1000)] σ sz (fun x σ1 => True)) 0 0 (dm L sz) := by
  refine Met.ofW (cc := cX0_waysFrom) (maxL := 8) (ret := (some .int)) (by decide) rfl ?_
  intro p e s m args below meth c s₁ B hml hv
  obtain ⟨rfl, hsz, hP, hK, hN⟩ := hv
  have hx := B.exec
  have hb := B.bytes
  have hr := B.returns
  have hts : ∀ w ∈ wsA, w.before _ s = true := fun w h => atoms_spec (ws := .code yX0_waysFrom cX0_waysFrom 8 (some .int) :: wsA) B.pre w (List.mem_cons_of_mem _ h)
  have hown : s.vm.findClass RX0 = some m.cls := findClass_of_methodNamed B.named
  subst hsz
  have hLA : LA (dm L s.heap.size) L := ⟨hL, fun a h => Or.inl h⟩
  have hA : ∀ q : Nat, s.heap.size ≤ q → dm L s.heap.size q := fun q h => Or.inr h
  have hS : va_S (dm L s.heap.size) s.heap s.heap [] := va_S.rf
  have hB : TS D cA L T r ry [(20, 1000)] σ σ ρ s.heap := ⟨hP, hW, FR.rf⟩
  have hl := lv_entry ([.ref h0, .ref h1, .int p2, .int p3, .int p4]) (n := 8) (Nat.le_of_ble_eq_true rfl)
  rw [lg_entry_eq]
  generalize (lg_sl ([.ref h0, .ref h1, .int p2, .int p3, .int p4]) ++ List.replicate (8 - (lg_sl ([.ref h0, .ref h1, .int p2, .int p3, .int p4])).length) Slot.unset).toArray = ls at hl ⊢
  have hl : lv_has ls 8 [(0, .ref h0), (1, .ref h1), (2, .int p2), (3, .int p3), (4, .int p4)] := hl
  refine lv_iload_n hx hb dX0_waysFrom_0 rfl (lv_at hl 2 rfl) ?_
  refine lv_aload_n hx hb dX0_waysFrom_1 rfl (lv_at hl 1 rfl) ?_
  refine t_gi hx hb hts hown hK hB mh1 th1 fi_3_9 rfl mw_1_180 dX0_waysFrom_2 (fun x_1 ex_1 lx_1 ux_1 => ?_)
  refine lv_icmp_lt (tgt := 10) hx hb dX0_waysFrom_5 (by decide) (fun c_2 => ?_) (fun c_2 => ?_)
  · skip
    have uc_2 := j_lt c_2
    refine lv_iload_n hx hb dX0_waysFrom_10 rfl (lv_at hl 2 rfl) ?_
    refine lv_iload_n hx hb dX0_waysFrom_11 rfl (lv_at hl 3 rfl) ?_
    refine lv_icmp_ne (tgt := 27) hx hb dX0_waysFrom_12 (by decide) (fun c_3 => ?_) (fun c_3 => ?_)
    · skip
      have uc_3 := j_ne c_3
      refine lv_iconst (v := 0) hx hb dX0_waysFrom_27 (by decide) ?_
      refine lv_istore (lv' := [(5, .int 0), (0, .ref h0), (1, .ref h1), (2, .int p2), (3, .int p3), (4, .int p4)]) hx hb dX0_waysFrom_28 hl (by decide) rfl (fun ls hl => ?_)
      refine lv_iconst (v := 0) hx hb dX0_waysFrom_30 (by decide) ?_
      refine lv_istore (lv' := [(6, .int 0), (5, .int 0), (0, .ref h0), (1, .ref h1), (2, .int p2), (3, .int p3), (4, .int p4)]) hx hb dX0_waysFrom_31 hl (by decide) rfl (fun ls hl => ?_)
      refine w_loop (α := Int32 × Int32 × Sg × Lg) (fun (i_4, i_5, σ_6, ρ_7) H locs ls => 0 ≤ i_5.toInt ∧ i_5.toInt ≤ 2 ∧ σ_6 h1 9 = x_1 ∧ TS D cA L T r ry [(20, 1000)] σ σ_6 ρ_7 H ∧ va_S (dm L s.heap.size) s.heap H locs ∧ lv_has ls 8 [(6, .int i_5), (5, .int i_4), (0, .ref h0), (1, .ref h1), (2, .int p2), (3, .int p3), (4, .int p4)]) (fun (i_4, i_5, σ_6, ρ_7) => (2 - i_5.toInt).toNat) ?_ ⟨0, 0, σ, ρ⟩ ⟨(by decide), (by decide), ex_1.symm, hB, hS, lv_sub hl [0, 1, 2, 3, 4, 5, 6] rfl⟩
      rintro ⟨i_4, i_5, σ_6, ρ_7⟩ H locs ls ⟨li_5, ui_5, k_9, hB, hS, hl⟩ ih_8
      refine lv_iload hx hb dX0_waysFrom_33 (lv_at hl 0 rfl) ?_
      refine lv_iconst (v := 1) hx hb dX0_waysFrom_35 (by decide) ?_
      refine lv_icmp_gt (tgt := 108) hx hb dX0_waysFrom_36 (by decide) (fun c_10 => ?_) (fun c_10 => ?_)
      · skip
        have uc_10 := i_gt (n := 1) (by decide) c_10
        refine lv_iload hx hb dX0_waysFrom_108 (lv_at hl 1 rfl) ?_
        exact W.iret (v := i_4) hx hb hr (fun t ht hW => ⟨⟨i_4, (σ_6, ρ_7), rfl, ⟨hB.2.1, hB.2.2, trivial⟩, (show TP D cA L T r σ_6 ρ_7 t.heap from by rw [ht]; exact hB.1)⟩, hS.F ht⟩) hS.2.2 dX0_waysFrom_110
      · skip
        have uc_10 := i_ngt (n := 1) (by decide) c_10
        refine lv_aload_n hx hb dX0_waysFrom_39 rfl (lv_at hl 3 rfl) ?_
        refine lv_iload_n hx hb dX0_waysFrom_40 rfl (lv_at hl 4 rfl) ?_
        refine lv_iload hx hb dX0_waysFrom_41 (lv_at hl 0 rfl) ?_
        refine lv_iload_n hx hb dX0_waysFrom_43 rfl (lv_at hl 4 rfl) ?_
        refine lv_ishl hx hb dX0_waysFrom_44 ?_
        refine lv_topi (fun x_11 ex_11 => ?_)
        refine t_ci (va_runV (As := [.int p2, .int x_11]) (rest := []) ⟨hx, hb, hml, hown, hts⟩ (cy_X3_askedAt l D cA L T r hG hLA.1 σ_6 ρ_7 hB.2.1 _ h1 mh1 th1 p2 x_11 (by first | omega | decide) (by first | omega | decide)) (cV hts mv_X3_askedAt mw_4_223 rfl rfl ⟨Nat.le_of_ble_eq_true rfl, Nat.le_of_ble_eq_true rfl⟩) (pV hB.1 hK hN mh1 th1 (show shp cA 3 _ _ _ = .inr (3, Fs3 _ _ _) from rfl) rfl) rfl rfl hl.1 rfl (lv_room (Nat.le_of_ble_eq_true rfl)) dX0_waysFrom_45 ⟨Nat.le_of_ble_eq_true rfl, Nat.le_of_ble_eq_true rfl⟩) hLA hA hB hS (by decide) (fun x_14 σ_12 ρ_13 H locs hB fσ_12 pσ_12 hS => ?_)
        have qσ_12 := FR.nil fσ_12
        subst qσ_12
        obtain ⟨lx_14, ux_14⟩ := pσ_12
        refine lv_istore (lv' := [(7, .int x_14), (6, .int i_5), (5, .int i_4), (0, .ref h0), (1, .ref h1), (2, .int p2), (3, .int p3), (4, .int p4)]) hx hb dX0_waysFrom_48 hl (by decide) rfl (fun ls hl => ?_)
        refine lv_aload_n hx hb dX0_waysFrom_50 rfl (lv_at hl 3 rfl) ?_
        refine t_gr hx hb hts hown hK hG hB mh0 th0 fq_0_0 rfl mw_2_95 dX0_waysFrom_51 (fun b_15 hb_15 mb_15 tb_15 => ?_)
        refine lv_iload hx hb dX0_waysFrom_54 (lv_at hl 0 rfl) ?_
        refine t_ai hx hb hK hB mb_15 tb_15 ai_20 (fun _ => rfl) (i_in (by omega) (by omega)) dX0_waysFrom_56 (fun x_16 ex_16 lx_16 ux_16 => ?_)
        refine lv_iload hx hb dX0_waysFrom_57 (lv_at hl 7 rfl) ?_
        refine lv_icmp_lt (tgt := 102) hx hb dX0_waysFrom_59 (by decide) (fun c_17 => ?_) (fun c_17 => ?_)
        · skip
          have uc_17 := j_lt c_17
          obtain ⟨x_18, ex_18⟩ : ∃ y : Int32, y = i_5 + 1 := ⟨_, rfl⟩
          have vx_18 := b_add (rfl : i_5.toInt = _) (by decide : (1 : Int32).toInt = 1) ex_18 (by omega) (by omega)
          refine lv_iinc (v := x_18) (lv' := [(6, .int x_18), (7, .int x_14), (5, .int i_4), (0, .ref h0), (1, .ref h1), (2, .int p2), (3, .int p3), (4, .int p4)]) hx hb dX0_waysFrom_102 hl (k := 1) rfl (by rw [ex_18]; rfl) (by decide) rfl (fun ls hl => ?_)
          refine lv_goto (tgt := 33) hx hb dX0_waysFrom_105 (by decide) ?_
          exact ih_8 ⟨i_4, x_18, σ_6, ρ_13⟩ _ _ _ ⟨(by omega), (by omega), k_9, hB, hS, lv_sub hl [0, 2, 3, 4, 5, 6, 7] rfl⟩ (by show (2 - x_18.toInt).toNat < (2 - i_5.toInt).toNat; omega)
        · skip
          have uc_17 := j_nlt c_17
          refine lv_aload_n hx hb dX0_waysFrom_62 rfl (lv_at hl 3 rfl) ?_
          refine t_gk hx hb hts hown hK hB mh0 th0 fq_0_0 hb_15 mw_2_95 dX0_waysFrom_63 ?_
          refine lv_iload hx hb dX0_waysFrom_66 (lv_at hl 0 rfl) ?_
          refine lv_dup2_11 hx hb dX0_waysFrom_68 rfl rfl ?_
          refine t_ai hx hb hK hB mb_15 tb_15 ai_20 (fun _ => rfl) (i_in (by omega) (by omega)) dX0_waysFrom_69 (fun x_19 ex_19 lx_19 ux_19 => ?_)
          have qx_19 : x_19 = x_16 := ex_19.trans ex_16.symm
          have qx_19 := qx_19.symm
          subst qx_19
          refine lv_iload hx hb dX0_waysFrom_70 (lv_at hl 7 rfl) ?_
          refine lv_isub hx hb dX0_waysFrom_72 ?_
          refine lv_topi (fun x_20 ex_20 => ?_)
          refine t_si hx hb hK hLA hB hS mb_15 tb_15 ai_20 (i_in (by omega) (by omega)) (i_lo _) (i_hi _) (Or.inr (by decide)) dX0_waysFrom_73 (fun H locs σ_21 eσ_21 hB hS => ?_)
          have k_22 : σ_21 b_15 x_14.toNatClampNeg = x_20 := by rw [eσ_21]; exact up2_same _ _ _ _
          refine lv_iload hx hb dX0_waysFrom_74 (lv_at hl 2 rfl) ?_
          refine lv_aload_n hx hb dX0_waysFrom_76 rfl (lv_at hl 3 rfl) ?_
          refine lv_aload_n hx hb dX0_waysFrom_77 rfl (lv_at hl 4 rfl) ?_
          refine lv_iload_n hx hb dX0_waysFrom_78 rfl (lv_at hl 5 rfl) ?_
          refine lv_iconst (v := 1) hx hb dX0_waysFrom_79 (by decide) ?_
          refine lv_iadd hx hb dX0_waysFrom_80 ?_
          refine lv_topi (fun x_23 ex_23 => ?_)
          have vx_23 := b_add (rfl : p2.toInt = _) (by decide : (1 : Int32).toInt = 1) ex_23 (by omega) (by omega)
          refine lv_iload_n hx hb dX0_waysFrom_81 rfl (lv_at hl 6 rfl) ?_
          refine lv_iload hx hb dX0_waysFrom_82 (lv_at hl 7 rfl) ?_
          refine t_ci (va_runV (As := [.ref h1, .int x_23, .int p3, .int p4]) (rest := [.int i_4]) ⟨hx, hb, hml, hown, hts⟩ (cy_X0_waysFrom_6 l D cA L T r hG hLA.1 σ_21 ρ_13 hB.2.1 _ h0 mh0 th0 h1 mh1 th1 x_23 p3 p4 (by first | omega | decide) (by first | omega | decide)) (cV hts mv_X0_waysFrom mw_5_13 rfl rfl ⟨Nat.le_of_ble_eq_true rfl, Nat.le_of_ble_eq_true rfl⟩) (pV hB.1 hK hN mh0 th0 (show shp cA 0 _ _ _ = .inr (0, Fs0 _ _ _) from rfl) rfl) rfl rfl hl.1 rfl (lv_room (Nat.le_of_ble_eq_true rfl)) dX0_waysFrom_84 ⟨Nat.le_of_ble_eq_true rfl, Nat.le_of_ble_eq_true rfl⟩) hLA hA hB hS (by decide) (fun x_26 σ_24 ρ_25 H locs hB fσ_24 pσ_24 hS => ?_)
          refine lv_iadd hx hb dX0_waysFrom_87 ?_
          refine lv_topi (fun x_27 ex_27 => ?_)
          refine lv_istore (lv' := [(5, .int x_27), (7, .int x_14), (6, .int i_5), (0, .ref h0), (1, .ref h1), (2, .int p2), (3, .int p3), (4, .int p4)]) hx hb dX0_waysFrom_88 hl (by decide) rfl (fun ls hl => ?_)
          refine lv_aload_n hx hb dX0_waysFrom_90 rfl (lv_at hl 3 rfl) ?_
          refine t_gk hx hb hts hown hK hB mh0 th0 fq_0_0 hb_15 mw_2_95 dX0_waysFrom_91 ?_
          refine lv_iload hx hb dX0_waysFrom_94 (lv_at hl 1 rfl) ?_
          refine lv_dup2_11 hx hb dX0_waysFrom_96 rfl rfl ?_
          refine t_ai hx hb hK hB mb_15 tb_15 ai_20 (fun _ => rfl) (i_in (by omega) (by omega)) dX0_waysFrom_97 (fun x_28 ex_28 lx_28 ux_28 => ?_)
          refine lv_iload hx hb dX0_waysFrom_98 (lv_at hl 7 rfl) ?_
          refine lv_iadd hx hb dX0_waysFrom_100 ?_
          refine lv_topi (fun x_29 ex_29 => ?_)
          refine t_si hx hb hK hLA hB hS mb_15 tb_15 ai_20 (i_in (by omega) (by omega)) (i_lo _) (i_hi _) (Or.inr (by decide)) dX0_waysFrom_101 (fun H locs σ_30 eσ_30 hB hS => ?_)
          have k_31 : σ_30 b_15 x_14.toNatClampNeg = x_29 := by rw [eσ_30]; exact up2_same _ _ _ _
          obtain ⟨x_32, ex_32⟩ : ∃ y : Int32, y = i_5 + 1 := ⟨_, rfl⟩
          have vx_32 := b_add (rfl : i_5.toInt = _) (by decide : (1 : Int32).toInt = 1) ex_32 (by omega) (by omega)
          refine lv_iinc (v := x_32) (lv' := [(6, .int x_32), (5, .int x_27), (7, .int x_14), (0, .ref h0), (1, .ref h1), (2, .int p2), (3, .int p3), (4, .int p4)]) hx hb dX0_waysFrom_102 hl (k := 2) rfl (by rw [ex_32]; rfl) (by decide) rfl (fun ls hl => ?_)
          refine lv_goto (tgt := 33) hx hb dX0_waysFrom_105 (by decide) ?_
          have k_33 : σ_21 h1 9 = x_1 := by rw [eσ_21, up2_nea _ _ (tg_ne th1 tb_15 (by decide))]; exact k_9
          have k_34 : σ_24 h1 9 = x_1 := (FR.at fσ_24 th1 (by decide)).trans k_33
          have k_35 : σ_30 h1 9 = x_1 := by rw [eσ_30, up2_nea _ _ (tg_ne th1 tb_15 (by decide))]; exact k_34
          exact ih_8 ⟨x_27, x_32, σ_30, ρ_25⟩ _ _ _ ⟨(by omega), (by omega), k_35, hB, hS, lv_sub hl [0, 1, 3, 4, 5, 6, 7] rfl⟩ (by show (2 - x_32.toInt).toNat < (2 - i_5.toInt).toNat; omega)
    · skip
      have uc_3 := j_eq c_3
      refine lv_aload_n hx hb dX0_waysFrom_15 rfl (lv_at hl 0 rfl) ?_
      refine lv_aload_n hx hb dX0_waysFrom_16 rfl (lv_at hl 1 rfl) ?_
      refine lv_iload_n hx hb dX0_waysFrom_17 rfl (lv_at hl 2 rfl) ?_
      refine lv_iconst (v := 1) hx hb dX0_waysFrom_18 (by decide) ?_
      refine lv_iadd hx hb dX0_waysFrom_19 ?_
      refine lv_topi (fun x_36 ex_36 => ?_)
      have vx_36 := b_add (rfl : p2.toInt = _) (by decide : (1 : Int32).toInt = 1) ex_36 (by omega) (by omega)
      refine lv_iload_n hx hb dX0_waysFrom_20 rfl (lv_at hl 3 rfl) ?_
      refine lv_iload hx hb dX0_waysFrom_21 (lv_at hl 4 rfl) ?_
      refine t_ci (va_runV (As := [.ref h1, .int x_36, .int p3, .int p4]) (rest := []) ⟨hx, hb, hml, hown, hts⟩ (cy_X0_waysFrom_6 l D cA L T r hG hLA.1 σ ρ hB.2.1 _ h0 mh0 th0 h1 mh1 th1 x_36 p3 p4 (by first | omega | decide) (by first | omega | decide)) (cV hts mv_X0_waysFrom mw_5_13 rfl rfl ⟨Nat.le_of_ble_eq_true rfl, Nat.le_of_ble_eq_true rfl⟩) (pV hB.1 hK hN mh0 th0 (show shp cA 0 _ _ _ = .inr (0, Fs0 _ _ _) from rfl) rfl) rfl rfl hl.1 rfl (lv_room (Nat.le_of_ble_eq_true rfl)) dX0_waysFrom_23 ⟨Nat.le_of_ble_eq_true rfl, Nat.le_of_ble_eq_true rfl⟩) hLA hA hB hS (by decide) (fun x_39 σ_37 ρ_38 H locs hB fσ_37 pσ_37 hS => ?_)
      exact W.iret (v := x_39) hx hb hr (fun t ht hW => ⟨⟨x_39, (σ_37, ρ_38), rfl, ⟨hB.2.1, hB.2.2, trivial⟩, (show TP D cA L T r σ_37 ρ_38 t.heap from by rw [ht]; exact hB.1)⟩, hS.F ht⟩) hS.2.2 dX0_waysFrom_26
  · skip
    have uc_2 := j_nlt c_2
    refine lv_iconst (v := 1) hx hb dX0_waysFrom_8 (by decide) ?_
    exact W.iret (v := 1) hx hb hr (fun t ht hW => ⟨⟨1, (σ, ρ), rfl, ⟨hB.2.1, hB.2.2, trivial⟩, (show TP D cA L T r σ ρ t.heap from by rw [ht]; exact hB.1)⟩, hS.F ht⟩) hS.2.2 dX0_waysFrom_9
set_option maxHeartbeats 4000000 in
set_option maxRecDepth 100000 in
theorem cy_X0_waysFrom_8 (l : Launch) (D : va_G) (cA : Nat → ClassId) (L : List Nat) (T : Nat → Nat) (r : Rg) (hG : GR L T r) (hL : L.Nodup) (σ : Sg) (ρ : Lg) (hW : WT L ry T σ) (sz : Nat) (h0 : Nat) (mh0 : h0 ∈ L) (th0 : T h0 = 0) (h1 : Nat) (mh1 : h1 ∈ L) (th1 : T h1 = 3) (p2 : Int32) (p3 : Int32) (p4 : Int32) (w0 : 0 ≤ p2.toInt) (w1 : p2.toInt ≤ 8) : Met l yX0_waysFrom (.code yX0_waysFrom cX0_waysFrom 8 (some .int) :: wsA) ({ frames := 8, cells := 0, slots := 0, locals := 216 }) (PR D cA L T r σ ρ sz [.ref h0, .ref h1, .int p2, .int p3, .int p4]) (QI D cA L T r ry [(20, 1000)] σ sz (fun x σ1 => True)) 0 0 (dm L sz) := by
  refine Met.ofW (cc := cX0_waysFrom) (maxL := 8) (ret := (some .int)) (by decide) rfl ?_
  intro p e s m args below meth c s₁ B hml hv
  obtain ⟨rfl, hsz, hP, hK, hN⟩ := hv
  have hx := B.exec
  have hb := B.bytes
  have hr := B.returns
  have hts : ∀ w ∈ wsA, w.before _ s = true := fun w h => atoms_spec (ws := .code yX0_waysFrom cX0_waysFrom 8 (some .int) :: wsA) B.pre w (List.mem_cons_of_mem _ h)
  have hown : s.vm.findClass RX0 = some m.cls := findClass_of_methodNamed B.named
  subst hsz
  have hLA : LA (dm L s.heap.size) L := ⟨hL, fun a h => Or.inl h⟩
  have hA : ∀ q : Nat, s.heap.size ≤ q → dm L s.heap.size q := fun q h => Or.inr h
  have hS : va_S (dm L s.heap.size) s.heap s.heap [] := va_S.rf
  have hB : TS D cA L T r ry [(20, 1000)] σ σ ρ s.heap := ⟨hP, hW, FR.rf⟩
  have hl := lv_entry ([.ref h0, .ref h1, .int p2, .int p3, .int p4]) (n := 8) (Nat.le_of_ble_eq_true rfl)
  rw [lg_entry_eq]
  generalize (lg_sl ([.ref h0, .ref h1, .int p2, .int p3, .int p4]) ++ List.replicate (8 - (lg_sl ([.ref h0, .ref h1, .int p2, .int p3, .int p4])).length) Slot.unset).toArray = ls at hl ⊢
  have hl : lv_has ls 8 [(0, .ref h0), (1, .ref h1), (2, .int p2), (3, .int p3), (4, .int p4)] := hl
  refine lv_iload_n hx hb dX0_waysFrom_0 rfl (lv_at hl 2 rfl) ?_
  refine lv_aload_n hx hb dX0_waysFrom_1 rfl (lv_at hl 1 rfl) ?_
  refine t_gi hx hb hts hown hK hB mh1 th1 fi_3_9 rfl mw_1_180 dX0_waysFrom_2 (fun x_1 ex_1 lx_1 ux_1 => ?_)
  refine lv_icmp_lt (tgt := 10) hx hb dX0_waysFrom_5 (by decide) (fun c_2 => ?_) (fun c_2 => ?_)
  · skip
    have uc_2 := j_lt c_2
    refine lv_iload_n hx hb dX0_waysFrom_10 rfl (lv_at hl 2 rfl) ?_
    refine lv_iload_n hx hb dX0_waysFrom_11 rfl (lv_at hl 3 rfl) ?_
    refine lv_icmp_ne (tgt := 27) hx hb dX0_waysFrom_12 (by decide) (fun c_3 => ?_) (fun c_3 => ?_)
    · skip
      have uc_3 := j_ne c_3
      refine lv_iconst (v := 0) hx hb dX0_waysFrom_27 (by decide) ?_
      refine lv_istore (lv' := [(5, .int 0), (0, .ref h0), (1, .ref h1), (2, .int p2), (3, .int p3), (4, .int p4)]) hx hb dX0_waysFrom_28 hl (by decide) rfl (fun ls hl => ?_)
      refine lv_iconst (v := 0) hx hb dX0_waysFrom_30 (by decide) ?_
      refine lv_istore (lv' := [(6, .int 0), (5, .int 0), (0, .ref h0), (1, .ref h1), (2, .int p2), (3, .int p3), (4, .int p4)]) hx hb dX0_waysFrom_31 hl (by decide) rfl (fun ls hl => ?_)
      refine w_loop (α := Int32 × Int32 × Sg × Lg) (fun (i_4, i_5, σ_6, ρ_7) H locs ls => 0 ≤ i_5.toInt ∧ i_5.toInt ≤ 2 ∧ σ_6 h1 9 = x_1 ∧ TS D cA L T r ry [(20, 1000)] σ σ_6 ρ_7 H ∧ va_S (dm L s.heap.size) s.heap H locs ∧ lv_has ls 8 [(6, .int i_5), (5, .int i_4), (0, .ref h0), (1, .ref h1), (2, .int p2), (3, .int p3), (4, .int p4)]) (fun (i_4, i_5, σ_6, ρ_7) => (2 - i_5.toInt).toNat) ?_ ⟨0, 0, σ, ρ⟩ ⟨(by decide), (by decide), ex_1.symm, hB, hS, lv_sub hl [0, 1, 2, 3, 4, 5, 6] rfl⟩
      rintro ⟨i_4, i_5, σ_6, ρ_7⟩ H locs ls ⟨li_5, ui_5, k_9, hB, hS, hl⟩ ih_8
      refine lv_iload hx hb dX0_waysFrom_33 (lv_at hl 0 rfl) ?_
      refine lv_iconst (v := 1) hx hb dX0_waysFrom_35 (by decide) ?_
      refine lv_icmp_gt (tgt := 108) hx hb dX0_waysFrom_36 (by decide) (fun c_10 => ?_) (fun c_10 => ?_)
      · skip
        have uc_10 := i_gt (n := 1) (by decide) c_10
        refine lv_iload hx hb dX0_waysFrom_108 (lv_at hl 1 rfl) ?_
        exact W.iret (v := i_4) hx hb hr (fun t ht hW => ⟨⟨i_4, (σ_6, ρ_7), rfl, ⟨hB.2.1, hB.2.2, trivial⟩, (show TP D cA L T r σ_6 ρ_7 t.heap from by rw [ht]; exact hB.1)⟩, hS.F ht⟩) hS.2.2 dX0_waysFrom_110
      · skip
        have uc_10 := i_ngt (n := 1) (by decide) c_10
        refine lv_aload_n hx hb dX0_waysFrom_39 rfl (lv_at hl 3 rfl) ?_
        refine lv_iload_n hx hb dX0_waysFrom_40 rfl (lv_at hl 4 rfl) ?_
        refine lv_iload hx hb dX0_waysFrom_41 (lv_at hl 0 rfl) ?_
        refine lv_iload_n hx hb dX0_waysFrom_43 rfl (lv_at hl 4 rfl) ?_
        refine lv_ishl hx hb dX0_waysFrom_44 ?_
        refine lv_topi (fun x_11 ex_11 => ?_)
        refine t_ci (va_runV (As := [.int p2, .int x_11]) (rest := []) ⟨hx, hb, hml, hown, hts⟩ (cy_X3_askedAt l D cA L T r hG hLA.1 σ_6 ρ_7 hB.2.1 _ h1 mh1 th1 p2 x_11 (by first | omega | decide) (by first | omega | decide)) (cV hts mv_X3_askedAt mw_4_223 rfl rfl ⟨Nat.le_of_ble_eq_true rfl, Nat.le_of_ble_eq_true rfl⟩) (pV hB.1 hK hN mh1 th1 (show shp cA 3 _ _ _ = .inr (3, Fs3 _ _ _) from rfl) rfl) rfl rfl hl.1 rfl (lv_room (Nat.le_of_ble_eq_true rfl)) dX0_waysFrom_45 ⟨Nat.le_of_ble_eq_true rfl, Nat.le_of_ble_eq_true rfl⟩) hLA hA hB hS (by decide) (fun x_14 σ_12 ρ_13 H locs hB fσ_12 pσ_12 hS => ?_)
        have qσ_12 := FR.nil fσ_12
        subst qσ_12
        obtain ⟨lx_14, ux_14⟩ := pσ_12
        refine lv_istore (lv' := [(7, .int x_14), (6, .int i_5), (5, .int i_4), (0, .ref h0), (1, .ref h1), (2, .int p2), (3, .int p3), (4, .int p4)]) hx hb dX0_waysFrom_48 hl (by decide) rfl (fun ls hl => ?_)
        refine lv_aload_n hx hb dX0_waysFrom_50 rfl (lv_at hl 3 rfl) ?_
        refine t_gr hx hb hts hown hK hG hB mh0 th0 fq_0_0 rfl mw_2_95 dX0_waysFrom_51 (fun b_15 hb_15 mb_15 tb_15 => ?_)
        refine lv_iload hx hb dX0_waysFrom_54 (lv_at hl 0 rfl) ?_
        refine t_ai hx hb hK hB mb_15 tb_15 ai_20 (fun _ => rfl) (i_in (by omega) (by omega)) dX0_waysFrom_56 (fun x_16 ex_16 lx_16 ux_16 => ?_)
        refine lv_iload hx hb dX0_waysFrom_57 (lv_at hl 7 rfl) ?_
        refine lv_icmp_lt (tgt := 102) hx hb dX0_waysFrom_59 (by decide) (fun c_17 => ?_) (fun c_17 => ?_)
        · skip
          have uc_17 := j_lt c_17
          obtain ⟨x_18, ex_18⟩ : ∃ y : Int32, y = i_5 + 1 := ⟨_, rfl⟩
          have vx_18 := b_add (rfl : i_5.toInt = _) (by decide : (1 : Int32).toInt = 1) ex_18 (by omega) (by omega)
          refine lv_iinc (v := x_18) (lv' := [(6, .int x_18), (7, .int x_14), (5, .int i_4), (0, .ref h0), (1, .ref h1), (2, .int p2), (3, .int p3), (4, .int p4)]) hx hb dX0_waysFrom_102 hl (k := 1) rfl (by rw [ex_18]; rfl) (by decide) rfl (fun ls hl => ?_)
          refine lv_goto (tgt := 33) hx hb dX0_waysFrom_105 (by decide) ?_
          exact ih_8 ⟨i_4, x_18, σ_6, ρ_13⟩ _ _ _ ⟨(by omega), (by omega), k_9, hB, hS, lv_sub hl [0, 2, 3, 4, 5, 6, 7] rfl⟩ (by show (2 - x_18.toInt).toNat < (2 - i_5.toInt).toNat; omega)
        · skip
          have uc_17 := j_nlt c_17
          refine lv_aload_n hx hb dX0_waysFrom_62 rfl (lv_at hl 3 rfl) ?_
          refine t_gk hx hb hts hown hK hB mh0 th0 fq_0_0 hb_15 mw_2_95 dX0_waysFrom_63 ?_
          refine lv_iload hx hb dX0_waysFrom_66 (lv_at hl 0 rfl) ?_
          refine lv_dup2_11 hx hb dX0_waysFrom_68 rfl rfl ?_
          refine t_ai hx hb hK hB mb_15 tb_15 ai_20 (fun _ => rfl) (i_in (by omega) (by omega)) dX0_waysFrom_69 (fun x_19 ex_19 lx_19 ux_19 => ?_)
          have qx_19 : x_19 = x_16 := ex_19.trans ex_16.symm
          have qx_19 := qx_19.symm
          subst qx_19
          refine lv_iload hx hb dX0_waysFrom_70 (lv_at hl 7 rfl) ?_
          refine lv_isub hx hb dX0_waysFrom_72 ?_
          refine lv_topi (fun x_20 ex_20 => ?_)
          refine t_si hx hb hK hLA hB hS mb_15 tb_15 ai_20 (i_in (by omega) (by omega)) (i_lo _) (i_hi _) (Or.inr (by decide)) dX0_waysFrom_73 (fun H locs σ_21 eσ_21 hB hS => ?_)
          have k_22 : σ_21 b_15 x_14.toNatClampNeg = x_20 := by rw [eσ_21]; exact up2_same _ _ _ _
          refine lv_iload hx hb dX0_waysFrom_74 (lv_at hl 2 rfl) ?_
          refine lv_aload_n hx hb dX0_waysFrom_76 rfl (lv_at hl 3 rfl) ?_
          refine lv_aload_n hx hb dX0_waysFrom_77 rfl (lv_at hl 4 rfl) ?_
          refine lv_iload_n hx hb dX0_waysFrom_78 rfl (lv_at hl 5 rfl) ?_
          refine lv_iconst (v := 1) hx hb dX0_waysFrom_79 (by decide) ?_
          refine lv_iadd hx hb dX0_waysFrom_80 ?_
          refine lv_topi (fun x_23 ex_23 => ?_)
          have vx_23 := b_add (rfl : p2.toInt = _) (by decide : (1 : Int32).toInt = 1) ex_23 (by omega) (by omega)
          refine lv_iload_n hx hb dX0_waysFrom_81 rfl (lv_at hl 6 rfl) ?_
          refine lv_iload hx hb dX0_waysFrom_82 (lv_at hl 7 rfl) ?_
          refine t_ci (va_runV (As := [.ref h1, .int x_23, .int p3, .int p4]) (rest := [.int i_4]) ⟨hx, hb, hml, hown, hts⟩ (cy_X0_waysFrom_7 l D cA L T r hG hLA.1 σ_21 ρ_13 hB.2.1 _ h0 mh0 th0 h1 mh1 th1 x_23 p3 p4 (by first | omega | decide) (by first | omega | decide)) (cV hts mv_X0_waysFrom mw_5_13 rfl rfl ⟨Nat.le_of_ble_eq_true rfl, Nat.le_of_ble_eq_true rfl⟩) (pV hB.1 hK hN mh0 th0 (show shp cA 0 _ _ _ = .inr (0, Fs0 _ _ _) from rfl) rfl) rfl rfl hl.1 rfl (lv_room (Nat.le_of_ble_eq_true rfl)) dX0_waysFrom_84 ⟨Nat.le_of_ble_eq_true rfl, Nat.le_of_ble_eq_true rfl⟩) hLA hA hB hS (by decide) (fun x_26 σ_24 ρ_25 H locs hB fσ_24 pσ_24 hS => ?_)
          refine lv_iadd hx hb dX0_waysFrom_87 ?_
          refine lv_topi (fun x_27 ex_27 => ?_)
          refine lv_istore (lv' := [(5, .int x_27), (7, .int x_14), (6, .int i_5), (0, .ref h0), (1, .ref h1), (2, .int p2), (3, .int p3), (4, .int p4)]) hx hb dX0_waysFrom_88 hl (by decide) rfl (fun ls hl => ?_)
          refine lv_aload_n hx hb dX0_waysFrom_90 rfl (lv_at hl 3 rfl) ?_
          refine t_gk hx hb hts hown hK hB mh0 th0 fq_0_0 hb_15 mw_2_95 dX0_waysFrom_91 ?_
          refine lv_iload hx hb dX0_waysFrom_94 (lv_at hl 1 rfl) ?_
          refine lv_dup2_11 hx hb dX0_waysFrom_96 rfl rfl ?_
          refine t_ai hx hb hK hB mb_15 tb_15 ai_20 (fun _ => rfl) (i_in (by omega) (by omega)) dX0_waysFrom_97 (fun x_28 ex_28 lx_28 ux_28 => ?_)
          refine lv_iload hx hb dX0_waysFrom_98 (lv_at hl 7 rfl) ?_
          refine lv_iadd hx hb dX0_waysFrom_100 ?_
          refine lv_topi (fun x_29 ex_29 => ?_)
          refine t_si hx hb hK hLA hB hS mb_15 tb_15 ai_20 (i_in (by omega) (by omega)) (i_lo _) (i_hi _) (Or.inr (by decide)) dX0_waysFrom_101 (fun H locs σ_30 eσ_30 hB hS => ?_)
          have k_31 : σ_30 b_15 x_14.toNatClampNeg = x_29 := by rw [eσ_30]; exact up2_same _ _ _ _
          obtain ⟨x_32, ex_32⟩ : ∃ y : Int32, y = i_5 + 1 := ⟨_, rfl⟩
          have vx_32 := b_add (rfl : i_5.toInt = _) (by decide : (1 : Int32).toInt = 1) ex_32 (by omega) (by omega)
          refine lv_iinc (v := x_32) (lv' := [(6, .int x_32), (5, .int x_27), (7, .int x_14), (0, .ref h0), (1, .ref h1), (2, .int p2), (3, .int p3), (4, .int p4)]) hx hb dX0_waysFrom_102 hl (k := 2) rfl (by rw [ex_32]; rfl) (by decide) rfl (fun ls hl => ?_)
          refine lv_goto (tgt := 33) hx hb dX0_waysFrom_105 (by decide) ?_
          have k_33 : σ_21 h1 9 = x_1 := by rw [eσ_21, up2_nea _ _ (tg_ne th1 tb_15 (by decide))]; exact k_9
          have k_34 : σ_24 h1 9 = x_1 := (FR.at fσ_24 th1 (by decide)).trans k_33
          have k_35 : σ_30 h1 9 = x_1 := by rw [eσ_30, up2_nea _ _ (tg_ne th1 tb_15 (by decide))]; exact k_34
          exact ih_8 ⟨x_27, x_32, σ_30, ρ_25⟩ _ _ _ ⟨(by omega), (by omega), k_35, hB, hS, lv_sub hl [0, 1, 3, 4, 5, 6, 7] rfl⟩ (by show (2 - x_32.toInt).toNat < (2 - i_5.toInt).toNat; omega)
    · skip
      have uc_3 := j_eq c_3
      refine lv_aload_n hx hb dX0_waysFrom_15 rfl (lv_at hl 0 rfl) ?_
      refine lv_aload_n hx hb dX0_waysFrom_16 rfl (lv_at hl 1 rfl) ?_
      refine lv_iload_n hx hb dX0_waysFrom_17 rfl (lv_at hl 2 rfl) ?_
      refine lv_iconst (v := 1) hx hb dX0_waysFrom_18 (by decide) ?_
      refine lv_iadd hx hb dX0_waysFrom_19 ?_
      refine lv_topi (fun x_36 ex_36 => ?_)
      have vx_36 := b_add (rfl : p2.toInt = _) (by decide : (1 : Int32).toInt = 1) ex_36 (by omega) (by omega)
      refine lv_iload_n hx hb dX0_waysFrom_20 rfl (lv_at hl 3 rfl) ?_
      refine lv_iload hx hb dX0_waysFrom_21 (lv_at hl 4 rfl) ?_
      refine t_ci (va_runV (As := [.ref h1, .int x_36, .int p3, .int p4]) (rest := []) ⟨hx, hb, hml, hown, hts⟩ (cy_X0_waysFrom_7 l D cA L T r hG hLA.1 σ ρ hB.2.1 _ h0 mh0 th0 h1 mh1 th1 x_36 p3 p4 (by first | omega | decide) (by first | omega | decide)) (cV hts mv_X0_waysFrom mw_5_13 rfl rfl ⟨Nat.le_of_ble_eq_true rfl, Nat.le_of_ble_eq_true rfl⟩) (pV hB.1 hK hN mh0 th0 (show shp cA 0 _ _ _ = .inr (0, Fs0 _ _ _) from rfl) rfl) rfl rfl hl.1 rfl (lv_room (Nat.le_of_ble_eq_true rfl)) dX0_waysFrom_23 ⟨Nat.le_of_ble_eq_true rfl, Nat.le_of_ble_eq_true rfl⟩) hLA hA hB hS (by decide) (fun x_39 σ_37 ρ_38 H locs hB fσ_37 pσ_37 hS => ?_)
      exact W.iret (v := x_39) hx hb hr (fun t ht hW => ⟨⟨x_39, (σ_37, ρ_38), rfl, ⟨hB.2.1, hB.2.2, trivial⟩, (show TP D cA L T r σ_37 ρ_38 t.heap from by rw [ht]; exact hB.1)⟩, hS.F ht⟩) hS.2.2 dX0_waysFrom_26
  · skip
    have uc_2 := j_nlt c_2
    refine lv_iconst (v := 1) hx hb dX0_waysFrom_8 (by decide) ?_
    exact W.iret (v := 1) hx hb hr (fun t ht hW => ⟨⟨1, (σ, ρ), rfl, ⟨hB.2.1, hB.2.2, trivial⟩, (show TP D cA L T r σ ρ t.heap from by rw [ht]; exact hB.1)⟩, hS.F ht⟩) hS.2.2 dX0_waysFrom_9
theorem dX0_waysUp_0 : decode cX0_waysUp 0 = .ok (.aload_n 0, 1) := by decide +kernel
theorem dX0_waysUp_1 : decode cX0_waysUp 1 = .ok (.aload_n 2, 1) := by decide +kernel
theorem dX0_waysUp_2 : decode cX0_waysUp 2 = .ok (.iload_n 3, 1) := by decide +kernel
theorem dX0_waysUp_3 : decode cX0_waysUp 3 = .ok (.invokevirtual 29, 3) := by decide +kernel
theorem dX0_waysUp_6 : decode cX0_waysUp 6 = .ok (.aload_n 0, 1) := by decide +kernel
theorem dX0_waysUp_7 : decode cX0_waysUp 7 = .ok (.aload_n 1, 1) := by decide +kernel
theorem dX0_waysUp_8 : decode cX0_waysUp 8 = .ok (.aload_n 2, 1) := by decide +kernel
theorem dX0_waysUp_9 : decode cX0_waysUp 9 = .ok (.getfield 33, 3) := by decide +kernel
theorem dX0_waysUp_12 : decode cX0_waysUp 12 = .ok (.iload_n 3, 1) := by decide +kernel
theorem dX0_waysUp_13 : decode cX0_waysUp 13 = .ok (.iaload, 1) := by decide +kernel
theorem dX0_waysUp_14 : decode cX0_waysUp 14 = .ok (.iload 4, 2) := by decide +kernel
theorem dX0_waysUp_16 : decode cX0_waysUp 16 = .ok (.iconst 1, 1) := by decide +kernel
theorem dX0_waysUp_17 : decode cX0_waysUp 17 = .ok (.invokevirtual 72, 3) := by decide +kernel
theorem dX0_waysUp_20 : decode cX0_waysUp 20 = .ok (.ireturn, 1) := by decide +kernel
set_option maxHeartbeats 4000000 in
set_option maxRecDepth 100000 in
theorem cy_X0_waysUp (l : Launch) (D : va_G) (cA : Nat → ClassId) (L : List Nat) (T : Nat → Nat) (r : Rg) (hG : GR L T r) (hL : L.Nodup) (σ : Sg) (ρ : Lg) (hW : WT L ry T σ) (sz : Nat) (h0 : Nat) (mh0 : h0 ∈ L) (th0 : T h0 = 0) (h1 : Nat) (mh1 : h1 ∈ L) (th1 : T h1 = 3) (h2 : Nat) (mh2 : h2 ∈ L) (th2 : T h2 = 8) (p3 : Int32) (p4 : Int32) (w0 : 0 ≤ p3.toInt) (w1 : p3.toInt ≤ 3) : Met l yX0_waysUp (.code yX0_waysUp cX0_waysUp 5 (some .int) :: wsA) ({ frames := 9, cells := 0, slots := 0, locals := 243 }) (PR D cA L T r σ ρ sz [.ref h0, .ref h1, .ref h2, .int p3, .int p4]) (QI D cA L T r ry [(20, 1000)] σ sz (fun x σ1 => True)) 0 0 (dm L sz) := by
  refine Met.ofW (cc := cX0_waysUp) (maxL := 5) (ret := (some .int)) (by decide) rfl ?_
  intro p e s m args below meth c s₁ B hml hv
  obtain ⟨rfl, hsz, hP, hK, hN⟩ := hv
  have hx := B.exec
  have hb := B.bytes
  have hr := B.returns
  have hts : ∀ w ∈ wsA, w.before _ s = true := fun w h => atoms_spec (ws := .code yX0_waysUp cX0_waysUp 5 (some .int) :: wsA) B.pre w (List.mem_cons_of_mem _ h)
  have hown : s.vm.findClass RX0 = some m.cls := findClass_of_methodNamed B.named
  subst hsz
  have hLA : LA (dm L s.heap.size) L := ⟨hL, fun a h => Or.inl h⟩
  have hA : ∀ q : Nat, s.heap.size ≤ q → dm L s.heap.size q := fun q h => Or.inr h
  have hS : va_S (dm L s.heap.size) s.heap s.heap [] := va_S.rf
  have hB : TS D cA L T r ry [(20, 1000)] σ σ ρ s.heap := ⟨hP, hW, FR.rf⟩
  have hl := lv_entry ([.ref h0, .ref h1, .ref h2, .int p3, .int p4]) (n := 5) (Nat.le_of_ble_eq_true rfl)
  rw [lg_entry_eq]
  generalize (lg_sl ([.ref h0, .ref h1, .ref h2, .int p3, .int p4]) ++ List.replicate (5 - (lg_sl ([.ref h0, .ref h1, .ref h2, .int p3, .int p4])).length) Slot.unset).toArray = ls at hl ⊢
  have hl : lv_has ls 5 [(0, .ref h0), (1, .ref h1), (2, .ref h2), (3, .int p3), (4, .int p4)] := hl
  refine lv_aload_n hx hb dX0_waysUp_0 rfl (lv_at hl 0 rfl) ?_
  refine lv_aload_n hx hb dX0_waysUp_1 rfl (lv_at hl 2 rfl) ?_
  refine lv_iload_n hx hb dX0_waysUp_2 rfl (lv_at hl 3 rfl) ?_
  refine t_cv (va_runV (As := [.ref h2, .int p3]) (rest := []) ⟨hx, hb, hml, hown, hts⟩ (cy_X0_stockUp l D cA L T r hG hLA.1 σ ρ hB.2.1 _ h0 mh0 th0 h2 mh2 th2 p3 (by first | omega | decide) (by first | omega | decide)) (cV hts mv_X0_stockUp mw_4_219 rfl rfl ⟨Nat.le_of_ble_eq_true rfl, Nat.le_of_ble_eq_true rfl⟩) (pV hB.1 hK hN mh0 th0 (show shp cA 0 _ _ _ = .inr (0, Fs0 _ _ _) from rfl) rfl) rfl rfl hl.1 rfl (lv_room (Nat.le_of_ble_eq_true rfl)) dX0_waysUp_3 ⟨Nat.le_of_ble_eq_true rfl, Nat.le_of_ble_eq_true rfl⟩) hLA hA hB hS (by decide) (fun σ_1 ρ_2 H locs hB fσ_1 pσ_1 hS => ?_)
  refine lv_aload_n hx hb dX0_waysUp_6 rfl (lv_at hl 0 rfl) ?_
  refine lv_aload_n hx hb dX0_waysUp_7 rfl (lv_at hl 1 rfl) ?_
  refine lv_aload_n hx hb dX0_waysUp_8 rfl (lv_at hl 2 rfl) ?_
  refine t_gr hx hb hts hown hK hG hB mh2 th2 fq_8_0 rfl mw_1_81 dX0_waysUp_9 (fun b_4 hb_4 mb_4 tb_4 => ?_)
  refine lv_iload_n hx hb dX0_waysUp_12 rfl (lv_at hl 3 rfl) ?_
  refine t_ai hx hb hK hB mb_4 tb_4 ai_45 (fun _ => rfl) (i_in (by omega) (by omega)) dX0_waysUp_13 (fun x_5 ex_5 lx_5 ux_5 => ?_)
  refine lv_iload hx hb dX0_waysUp_14 (lv_at hl 4 rfl) ?_
  refine lv_iconst (v := 1) hx hb dX0_waysUp_16 (by decide) ?_
  refine t_ci (va_runV (As := [.ref h1, .int x_5, .int p4, .int 1]) (rest := []) ⟨hx, hb, hml, hown, hts⟩ (cy_X0_waysFrom_8 l D cA L T r hG hLA.1 σ_1 ρ_2 hB.2.1 _ h0 mh0 th0 h1 mh1 th1 x_5 p4 1 (by first | omega | decide) (by first | omega | decide)) (cV hts mv_X0_waysFrom mw_5_13 rfl rfl ⟨Nat.le_of_ble_eq_true rfl, Nat.le_of_ble_eq_true rfl⟩) (pV hB.1 hK hN mh0 th0 (show shp cA 0 _ _ _ = .inr (0, Fs0 _ _ _) from rfl) rfl) rfl rfl hl.1 rfl (lv_room (Nat.le_of_ble_eq_true rfl)) dX0_waysUp_17 ⟨Nat.le_of_ble_eq_true rfl, Nat.le_of_ble_eq_true rfl⟩) hLA hA hB hS (by decide) (fun x_8 σ_6 ρ_7 H locs hB fσ_6 pσ_6 hS => ?_)
  exact W.iret (v := x_8) hx hb hr (fun t ht hW => ⟨⟨x_8, (σ_6, ρ_7), rfl, ⟨hB.2.1, hB.2.2, trivial⟩, (show TP D cA L T r σ_6 ρ_7 t.heap from by rw [ht]; exact hB.1)⟩, hS.F ht⟩) hS.2.2 dX0_waysUp_20
theorem dX0_waysOfTwo_0 : decode cX0_waysOfTwo 0 = .ok (.aload_n 0, 1) := by decide +kernel
theorem dX0_waysOfTwo_1 : decode cX0_waysOfTwo 1 = .ok (.aload_n 2, 1) := by decide +kernel
theorem dX0_waysOfTwo_2 : decode cX0_waysOfTwo 2 = .ok (.iload_n 3, 1) := by decide +kernel
theorem dX0_waysOfTwo_3 : decode cX0_waysOfTwo 3 = .ok (.invokevirtual 29, 3) := by decide +kernel
theorem dX0_waysOfTwo_6 : decode cX0_waysOfTwo 6 = .ok (.iconst 0, 1) := by decide +kernel
theorem dX0_waysOfTwo_7 : decode cX0_waysOfTwo 7 = .ok (.istore 5, 2) := by decide +kernel
theorem dX0_waysOfTwo_9 : decode cX0_waysOfTwo 9 = .ok (.iload 5, 2) := by decide +kernel
theorem dX0_waysOfTwo_11 : decode cX0_waysOfTwo 11 = .ok (.iconst 5, 1) := by decide +kernel
theorem dX0_waysOfTwo_12 : decode cX0_waysOfTwo 12 = .ok (.if_icmp .ge 31, 3) := by decide +kernel
theorem dX0_waysOfTwo_43 : decode cX0_waysOfTwo 43 = .ok (.aload_n 0, 1) := by decide +kernel
theorem dX0_waysOfTwo_44 : decode cX0_waysOfTwo 44 = .ok (.aload_n 1, 1) := by decide +kernel
theorem dX0_waysOfTwo_45 : decode cX0_waysOfTwo 45 = .ok (.aload_n 2, 1) := by decide +kernel
theorem dX0_waysOfTwo_46 : decode cX0_waysOfTwo 46 = .ok (.getfield 33, 3) := by decide +kernel
theorem dX0_waysOfTwo_49 : decode cX0_waysOfTwo 49 = .ok (.iload_n 3, 1) := by decide +kernel
theorem dX0_waysOfTwo_50 : decode cX0_waysOfTwo 50 = .ok (.iaload, 1) := by decide +kernel
theorem dX0_waysOfTwo_51 : decode cX0_waysOfTwo 51 = .ok (.iconst (-1), 1) := by decide +kernel
theorem dX0_waysOfTwo_52 : decode cX0_waysOfTwo 52 = .ok (.iconst 2, 1) := by decide +kernel
theorem dX0_waysOfTwo_53 : decode cX0_waysOfTwo 53 = .ok (.invokevirtual 72, 3) := by decide +kernel
theorem dX0_waysOfTwo_56 : decode cX0_waysOfTwo 56 = .ok (.ireturn, 1) := by decide +kernel
theorem dX0_waysOfTwo_15 : decode cX0_waysOfTwo 15 = .ok (.aload_n 0, 1) := by decide +kernel
theorem dX0_waysOfTwo_16 : decode cX0_waysOfTwo 16 = .ok (.getfield 9, 3) := by decide +kernel
theorem dX0_waysOfTwo_19 : decode cX0_waysOfTwo 19 = .ok (.iload 5, 2) := by decide +kernel
theorem dX0_waysOfTwo_21 : decode cX0_waysOfTwo 21 = .ok (.dup2, 1) := by decide +kernel
theorem dX0_waysOfTwo_22 : decode cX0_waysOfTwo 22 = .ok (.iaload, 1) := by decide +kernel
theorem dX0_waysOfTwo_23 : decode cX0_waysOfTwo 23 = .ok (.aload_n 2, 1) := by decide +kernel
theorem dX0_waysOfTwo_24 : decode cX0_waysOfTwo 24 = .ok (.getfield 24, 3) := by decide +kernel
theorem dX0_waysOfTwo_27 : decode cX0_waysOfTwo 27 = .ok (.iload 4, 2) := by decide +kernel
theorem dX0_waysOfTwo_29 : decode cX0_waysOfTwo 29 = .ok (.iconst 5, 1) := by decide +kernel
theorem dX0_waysOfTwo_30 : decode cX0_waysOfTwo 30 = .ok (.imul, 1) := by decide +kernel
theorem dX0_waysOfTwo_31 : decode cX0_waysOfTwo 31 = .ok (.iload 5, 2) := by decide +kernel
theorem dX0_waysOfTwo_33 : decode cX0_waysOfTwo 33 = .ok (.iadd, 1) := by decide +kernel
theorem dX0_waysOfTwo_34 : decode cX0_waysOfTwo 34 = .ok (.iaload, 1) := by decide +kernel
theorem dX0_waysOfTwo_35 : decode cX0_waysOfTwo 35 = .ok (.iadd, 1) := by decide +kernel
theorem dX0_waysOfTwo_36 : decode cX0_waysOfTwo 36 = .ok (.iastore, 1) := by decide +kernel
theorem dX0_waysOfTwo_37 : decode cX0_waysOfTwo 37 = .ok (.iinc 5 1, 3) := by decide +kernel
theorem dX0_waysOfTwo_40 : decode cX0_waysOfTwo 40 = .ok (.goto (-31), 3) := by decide +kernel
set_option maxHeartbeats 4000000 in
set_option maxRecDepth 100000 in
theorem cy_X0_waysOfTwo (l : Launch) (D : va_G) (cA : Nat → ClassId) (L : List Nat) (T : Nat → Nat) (r : Rg) (hG : GR L T r) (hL : L.Nodup) (σ : Sg) (ρ : Lg) (hW : WT L ry T σ) (sz : Nat) (h0 : Nat) (mh0 : h0 ∈ L) (th0 : T h0 = 0) (h1 : Nat) (mh1 : h1 ∈ L) (th1 : T h1 = 3) (h2 : Nat) (mh2 : h2 ∈ L) (th2 : T h2 = 8) (p3 : Int32) (p4 : Int32) (w0 : 0 ≤ p3.toInt) (w1 : p3.toInt ≤ 3) (w2 : 0 ≤ p4.toInt) (w3 : p4.toInt ≤ 3) : Met l yX0_waysOfTwo (.code yX0_waysOfTwo cX0_waysOfTwo 6 (some .int) :: wsA) ({ frames := 9, cells := 0, slots := 0, locals := 243 }) (PR D cA L T r σ ρ sz [.ref h0, .ref h1, .ref h2, .int p3, .int p4]) (QI D cA L T r ry [(20, 1000)] σ sz (fun x σ1 => True)) 0 0 (dm L sz) := by
  refine Met.ofW (cc := cX0_waysOfTwo) (maxL := 6) (ret := (some .int)) (by decide) rfl ?_
  intro p e s m args below meth c s₁ B hml hv
  obtain ⟨rfl, hsz, hP, hK, hN⟩ := hv
  have hx := B.exec
  have hb := B.bytes
  have hr := B.returns
  have hts : ∀ w ∈ wsA, w.before _ s = true := fun w h => atoms_spec (ws := .code yX0_waysOfTwo cX0_waysOfTwo 6 (some .int) :: wsA) B.pre w (List.mem_cons_of_mem _ h)
  have hown : s.vm.findClass RX0 = some m.cls := findClass_of_methodNamed B.named
  subst hsz
  have hLA : LA (dm L s.heap.size) L := ⟨hL, fun a h => Or.inl h⟩
  have hA : ∀ q : Nat, s.heap.size ≤ q → dm L s.heap.size q := fun q h => Or.inr h
  have hS : va_S (dm L s.heap.size) s.heap s.heap [] := va_S.rf
  have hB : TS D cA L T r ry [(20, 1000)] σ σ ρ s.heap := ⟨hP, hW, FR.rf⟩
  have hl := lv_entry ([.ref h0, .ref h1, .ref h2, .int p3, .int p4]) (n := 6) (Nat.le_of_ble_eq_true rfl)
  rw [lg_entry_eq]
  generalize (lg_sl ([.ref h0, .ref h1, .ref h2, .int p3, .int p4]) ++ List.replicate (6 - (lg_sl ([.ref h0, .ref h1, .ref h2, .int p3, .int p4])).length) Slot.unset).toArray = ls at hl ⊢
  have hl : lv_has ls 6 [(0, .ref h0), (1, .ref h1), (2, .ref h2), (3, .int p3), (4, .int p4)] := hl
  refine lv_aload_n hx hb dX0_waysOfTwo_0 rfl (lv_at hl 0 rfl) ?_
  refine lv_aload_n hx hb dX0_waysOfTwo_1 rfl (lv_at hl 2 rfl) ?_
  refine lv_iload_n hx hb dX0_waysOfTwo_2 rfl (lv_at hl 3 rfl) ?_
  refine t_cv (va_runV (As := [.ref h2, .int p3]) (rest := []) ⟨hx, hb, hml, hown, hts⟩ (cy_X0_stockUp l D cA L T r hG hLA.1 σ ρ hB.2.1 _ h0 mh0 th0 h2 mh2 th2 p3 (by first | omega | decide) (by first | omega | decide)) (cV hts mv_X0_stockUp mw_4_219 rfl rfl ⟨Nat.le_of_ble_eq_true rfl, Nat.le_of_ble_eq_true rfl⟩) (pV hB.1 hK hN mh0 th0 (show shp cA 0 _ _ _ = .inr (0, Fs0 _ _ _) from rfl) rfl) rfl rfl hl.1 rfl (lv_room (Nat.le_of_ble_eq_true rfl)) dX0_waysOfTwo_3 ⟨Nat.le_of_ble_eq_true rfl, Nat.le_of_ble_eq_true rfl⟩) hLA hA hB hS (by decide) (fun σ_1 ρ_2 H locs hB fσ_1 pσ_1 hS => ?_)
  refine lv_iconst (v := 0) hx hb dX0_waysOfTwo_6 (by decide) ?_
  refine lv_istore (lv' := [(5, .int 0), (0, .ref h0), (1, .ref h1), (2, .ref h2), (3, .int p3), (4, .int p4)]) hx hb dX0_waysOfTwo_7 hl (by decide) rfl (fun ls hl => ?_)
  refine w_loop (α := Int32 × Sg × Lg) (fun (i_4, σ_5, ρ_6) H locs ls => 0 ≤ i_4.toInt ∧ i_4.toInt ≤ 5 ∧ TS D cA L T r ry [(20, 1000)] σ σ_5 ρ_6 H ∧ va_S (dm L s.heap.size) s.heap H locs ∧ lv_has ls 6 [(5, .int i_4), (0, .ref h0), (1, .ref h1), (2, .ref h2), (3, .int p3), (4, .int p4)]) (fun (i_4, σ_5, ρ_6) => (5 - i_4.toInt).toNat) ?_ ⟨0, σ_1, ρ_2⟩ ⟨(by decide), (by decide), hB, hS, lv_sub hl [0, 1, 2, 3, 4, 5] rfl⟩
  rintro ⟨i_4, σ_5, ρ_6⟩ H locs ls ⟨li_4, ui_4, hB, hS, hl⟩ ih_7
  refine lv_iload hx hb dX0_waysOfTwo_9 (lv_at hl 0 rfl) ?_
  refine lv_iconst (v := 5) hx hb dX0_waysOfTwo_11 (by decide) ?_
  refine lv_icmp_ge (tgt := 43) hx hb dX0_waysOfTwo_12 (by decide) (fun c_8 => ?_) (fun c_8 => ?_)
  · skip
    have uc_8 := i_ge (n := 5) (by decide) c_8
    refine lv_aload_n hx hb dX0_waysOfTwo_43 rfl (lv_at hl 1 rfl) ?_
    refine lv_aload_n hx hb dX0_waysOfTwo_44 rfl (lv_at hl 2 rfl) ?_
    refine lv_aload_n hx hb dX0_waysOfTwo_45 rfl (lv_at hl 3 rfl) ?_
    refine t_gr hx hb hts hown hK hG hB mh2 th2 fq_8_0 rfl mw_1_81 dX0_waysOfTwo_46 (fun b_9 hb_9 mb_9 tb_9 => ?_)
    refine lv_iload_n hx hb dX0_waysOfTwo_49 rfl (lv_at hl 4 rfl) ?_
    refine t_ai hx hb hK hB mb_9 tb_9 ai_45 (fun _ => rfl) (i_in (by omega) (by omega)) dX0_waysOfTwo_50 (fun x_10 ex_10 lx_10 ux_10 => ?_)
    refine lv_iconst (v := (-1)) hx hb dX0_waysOfTwo_51 (by decide) ?_
    refine lv_iconst (v := 2) hx hb dX0_waysOfTwo_52 (by decide) ?_
    refine t_ci (va_runV (As := [.ref h1, .int x_10, .int (-1), .int 2]) (rest := []) ⟨hx, hb, hml, hown, hts⟩ (cy_X0_waysFrom_8 l D cA L T r hG hLA.1 σ_5 ρ_6 hB.2.1 _ h0 mh0 th0 h1 mh1 th1 x_10 ((-1)) 2 (by first | omega | decide) (by first | omega | decide)) (cV hts mv_X0_waysFrom mw_5_13 rfl rfl ⟨Nat.le_of_ble_eq_true rfl, Nat.le_of_ble_eq_true rfl⟩) (pV hB.1 hK hN mh0 th0 (show shp cA 0 _ _ _ = .inr (0, Fs0 _ _ _) from rfl) rfl) rfl rfl hl.1 rfl (lv_room (Nat.le_of_ble_eq_true rfl)) dX0_waysOfTwo_53 ⟨Nat.le_of_ble_eq_true rfl, Nat.le_of_ble_eq_true rfl⟩) hLA hA hB hS (by decide) (fun x_13 σ_11 ρ_12 H locs hB fσ_11 pσ_11 hS => ?_)
    exact W.iret (v := x_13) hx hb hr (fun t ht hW => ⟨⟨x_13, (σ_11, ρ_12), rfl, ⟨hB.2.1, hB.2.2, trivial⟩, (show TP D cA L T r σ_11 ρ_12 t.heap from by rw [ht]; exact hB.1)⟩, hS.F ht⟩) hS.2.2 dX0_waysOfTwo_56
  · skip
    have uc_8 := i_nge (n := 5) (by decide) c_8
    refine lv_aload_n hx hb dX0_waysOfTwo_15 rfl (lv_at hl 1 rfl) ?_
    refine t_gr hx hb hts hown hK hG hB mh0 th0 fq_0_0 rfl mw_2_95 dX0_waysOfTwo_16 (fun b_14 hb_14 mb_14 tb_14 => ?_)
    refine lv_iload hx hb dX0_waysOfTwo_19 (lv_at hl 0 rfl) ?_
    refine lv_dup2_11 hx hb dX0_waysOfTwo_21 rfl rfl ?_
    refine t_ai hx hb hK hB mb_14 tb_14 ai_20 (fun _ => rfl) (i_in (by omega) (by omega)) dX0_waysOfTwo_22 (fun x_15 ex_15 lx_15 ux_15 => ?_)
    refine lv_aload_n hx hb dX0_waysOfTwo_23 rfl (lv_at hl 3 rfl) ?_
    refine t_gr hx hb hts hown hK hG hB mh2 th2 fq_8_4 rfl mw_1_96 dX0_waysOfTwo_24 (fun b_16 hb_16 mb_16 tb_16 => ?_)
    refine lv_iload hx hb dX0_waysOfTwo_27 (lv_at hl 5 rfl) ?_
    refine lv_iconst (v := 5) hx hb dX0_waysOfTwo_29 (by decide) ?_
    refine lv_imul hx hb dX0_waysOfTwo_30 ?_
    refine lv_topi (fun x_17 ex_17 => ?_)
    have vx_17 := b_mul (rfl : p4.toInt = _) (by decide : (5 : Int32).toInt = 5) ex_17 (by omega) (by omega)
    refine lv_iload hx hb dX0_waysOfTwo_31 (lv_at hl 0 rfl) ?_
    refine lv_iadd hx hb dX0_waysOfTwo_33 ?_
    refine lv_topi (fun x_18 ex_18 => ?_)
    have vx_18 := b_add (rfl : x_17.toInt = _) (rfl : i_4.toInt = _) ex_18 (by omega) (by omega)
    refine t_ai hx hb hK hB mb_16 tb_16 ai_49 (fun _ => rfl) (i_in (by omega) (by omega)) dX0_waysOfTwo_34 (fun x_19 ex_19 lx_19 ux_19 => ?_)
    refine lv_iadd hx hb dX0_waysOfTwo_35 ?_
    refine lv_topi (fun x_20 ex_20 => ?_)
    refine t_si hx hb hK hLA hB hS mb_14 tb_14 ai_20 (i_in (by omega) (by omega)) (i_lo _) (i_hi _) (Or.inr (by decide)) dX0_waysOfTwo_36 (fun H locs σ_21 eσ_21 hB hS => ?_)
    have k_22 : σ_21 b_14 i_4.toNatClampNeg = x_20 := by rw [eσ_21]; exact up2_same _ _ _ _
    obtain ⟨x_23, ex_23⟩ : ∃ y : Int32, y = i_4 + 1 := ⟨_, rfl⟩
    have vx_23 := b_add (rfl : i_4.toInt = _) (by decide : (1 : Int32).toInt = 1) ex_23 (by omega) (by omega)
    refine lv_iinc (v := x_23) (lv' := [(5, .int x_23), (0, .ref h0), (1, .ref h1), (2, .ref h2), (3, .int p3), (4, .int p4)]) hx hb dX0_waysOfTwo_37 hl (k := 0) rfl (by rw [ex_23]; rfl) (by decide) rfl (fun ls hl => ?_)
    refine lv_goto (tgt := 9) hx hb dX0_waysOfTwo_40 (by decide) ?_
    exact ih_7 ⟨x_23, σ_21, ρ_6⟩ _ _ _ ⟨(by omega), (by omega), hB, hS, lv_sub hl [0, 1, 2, 3, 4, 5] rfl⟩ (by show (5 - x_23.toInt).toNat < (5 - i_4.toInt).toNat; omega)
theorem mw_2_214 : (.fieldLink RX11 57 "HillBends" "chances" "LHillBends$Chances;" : Cond) ∈ wsA := wsA_t (List.mem_append_right _ (List.mem_append_left _ (List.mem_of_getElem? (l := tables_1_2) (i := 214) rfl))) rfl
theorem mw_5_10 : (.instanceMethod yX0_waysUp : Cond) ∈ wsA := wsA_t (List.mem_append_right _ (List.mem_append_right _ (List.mem_append_right _ (List.mem_append_right _ (List.mem_append_left _ (List.mem_of_getElem? (l := tables_1_5) (i := 10) rfl)))))) rfl
theorem mw_5_11 : (.selects RX0 yX0_waysUp yX0_waysUp : Cond) ∈ wsA := wsA_t (List.mem_append_right _ (List.mem_append_right _ (List.mem_append_right _ (List.mem_append_right _ (List.mem_append_left _ (List.mem_of_getElem? (l := tables_1_5) (i := 11) rfl)))))) rfl
theorem mw_5_12 : (.code yX0_waysUp cX0_waysUp 5 (some .int) : Cond) ∈ wsA := wsA_t (List.mem_append_right _ (List.mem_append_right _ (List.mem_append_right _ (List.mem_append_right _ (List.mem_append_left _ (List.mem_of_getElem? (l := tables_1_5) (i := 12) rfl)))))) rfl
theorem mw_5_9 : (.methodLink RX11 259 yX0_waysUp : Cond) ∈ wsA := wsA_t (List.mem_append_right _ (List.mem_append_right _ (List.mem_append_right _ (List.mem_append_right _ (List.mem_append_left _ (List.mem_of_getElem? (l := tables_1_5) (i := 9) rfl)))))) rfl
theorem dX11_ways_0 : decode cX11_ways 0 = .ok (.aload_n 0, 1) := by decide +kernel
theorem dX11_ways_1 : decode cX11_ways 1 = .ok (.iload_n 1, 1) := by decide +kernel
theorem dX11_ways_2 : decode cX11_ways 2 = .ok (.invokevirtual 117, 3) := by decide +kernel
theorem dX11_ways_5 : decode cX11_ways 5 = .ok (.ifCond .eq 29, 3) := by decide +kernel
theorem dX11_ways_34 : decode cX11_ways 34 = .ok (.iconst (-1), 1) := by decide +kernel
theorem dX11_ways_35 : decode cX11_ways 35 = .ok (.ireturn, 1) := by decide +kernel
theorem dX11_ways_8 : decode cX11_ways 8 = .ok (.aload_n 0, 1) := by decide +kernel
theorem dX11_ways_9 : decode cX11_ways 9 = .ok (.getfield 57, 3) := by decide +kernel
theorem dX11_ways_12 : decode cX11_ways 12 = .ok (.aload_n 0, 1) := by decide +kernel
theorem dX11_ways_13 : decode cX11_ways 13 = .ok (.getfield 32, 3) := by decide +kernel
theorem dX11_ways_16 : decode cX11_ways 16 = .ok (.getfield 102, 3) := by decide +kernel
theorem dX11_ways_19 : decode cX11_ways 19 = .ok (.aload_n 0, 1) := by decide +kernel
theorem dX11_ways_20 : decode cX11_ways 20 = .ok (.getfield 32, 3) := by decide +kernel
theorem dX11_ways_23 : decode cX11_ways 23 = .ok (.getfield 121, 3) := by decide +kernel
theorem dX11_ways_26 : decode cX11_ways 26 = .ok (.iload_n 1, 1) := by decide +kernel
theorem dX11_ways_27 : decode cX11_ways 27 = .ok (.iconst (-1), 1) := by decide +kernel
theorem dX11_ways_28 : decode cX11_ways 28 = .ok (.invokevirtual 259, 3) := by decide +kernel
theorem dX11_ways_31 : decode cX11_ways 31 = .ok (.goto 4, 3) := by decide +kernel
theorem mv_X0_waysUp : MV RX0 yX0_waysUp cX0_waysUp 5 (some .int) 4 := ⟨mw_5_10, mw_5_11, mw_1_9, mw_5_12, ⟨rfl, by decide, by decide, by decide +kernel⟩⟩
set_option maxHeartbeats 4000000 in
set_option maxRecDepth 100000 in
theorem cy_X11_ways (l : Launch) (D : va_G) (cA : Nat → ClassId) (L : List Nat) (T : Nat → Nat) (r : Rg) (hG : GR L T r) (hL : L.Nodup) (σ : Sg) (ρ : Lg) (hW : WT L ry T σ) (sz : Nat) (h0 : Nat) (mh0 : h0 ∈ L) (th0 : T h0 = 11) (p1 : Int32) : Met l yX11_ways (.code yX11_ways cX11_ways 2 (some .int) :: wsA) ({ frames := 10, cells := 0, slots := 0, locals := 267 }) (PR D cA L T r σ ρ sz [.ref h0, .int p1]) (QI D cA L T r ry [(20, 1000)] σ sz (fun x σ1 => True)) 0 0 (dm L sz) := by
  refine Met.ofW (cc := cX11_ways) (maxL := 2) (ret := (some .int)) (by decide) rfl ?_
  intro p e s m args below meth c s₁ B hml hv
  obtain ⟨rfl, hsz, hP, hK, hN⟩ := hv
  have hx := B.exec
  have hb := B.bytes
  have hr := B.returns
  have hts : ∀ w ∈ wsA, w.before _ s = true := fun w h => atoms_spec (ws := .code yX11_ways cX11_ways 2 (some .int) :: wsA) B.pre w (List.mem_cons_of_mem _ h)
  have hown : s.vm.findClass RX11 = some m.cls := findClass_of_methodNamed B.named
  subst hsz
  have hLA : LA (dm L s.heap.size) L := ⟨hL, fun a h => Or.inl h⟩
  have hA : ∀ q : Nat, s.heap.size ≤ q → dm L s.heap.size q := fun q h => Or.inr h
  have hS : va_S (dm L s.heap.size) s.heap s.heap [] := va_S.rf
  have hB : TS D cA L T r ry [(20, 1000)] σ σ ρ s.heap := ⟨hP, hW, FR.rf⟩
  have hl := lv_entry ([.ref h0, .int p1]) (n := 2) (Nat.le_of_ble_eq_true rfl)
  rw [lg_entry_eq]
  generalize (lg_sl ([.ref h0, .int p1]) ++ List.replicate (2 - (lg_sl ([.ref h0, .int p1])).length) Slot.unset).toArray = ls at hl ⊢
  have hl : lv_has ls 2 [(0, .ref h0), (1, .int p1)] := hl
  refine lv_aload_n hx hb dX11_ways_0 rfl (lv_at hl 0 rfl) ?_
  refine lv_iload_n hx hb dX11_ways_1 rfl (lv_at hl 1 rfl) ?_
  refine t_ci (va_runV (As := [.int p1]) (rest := []) ⟨hx, hb, hml, hown, hts⟩ (cy_X11_isPilgrim l D cA L T r hG hLA.1 σ ρ hB.2.1 _ h0 mh0 th0 p1) (cV hts mv_X11_isPilgrim mw_4_70 rfl rfl ⟨Nat.le_of_ble_eq_true rfl, Nat.le_of_ble_eq_true rfl⟩) (pV hB.1 hK hN mh0 th0 (show shp cA 11 _ _ _ = .inr (11, Fs11 _ _ _) from rfl) rfl) rfl rfl hl.1 rfl (lv_room (Nat.le_of_ble_eq_true rfl)) dX11_ways_2 ⟨Nat.le_of_ble_eq_true rfl, Nat.le_of_ble_eq_true rfl⟩) hLA hA hB hS (by decide) (fun x_3 σ_1 ρ_2 H locs hB fσ_1 pσ_1 hS => ?_)
  have qσ_1 := FR.nil fσ_1
  subst qσ_1
  obtain ⟨ox_3, ix_3⟩ := pσ_1
  refine lv_if_eq (tgt := 34) hx hb dX11_ways_5 (by decide) (fun c_4 => ?_) (fun c_4 => ?_)
  · skip
    have uc_4 := i_eq (n := 0) (by decide) c_4
    refine lv_iconst (v := (-1)) hx hb dX11_ways_34 (by decide) ?_
    exact W.iret (v := (-1)) hx hb hr (fun t ht hW => ⟨⟨(-1), (σ, ρ_2), rfl, ⟨hB.2.1, hB.2.2, trivial⟩, (show TP D cA L T r σ ρ_2 t.heap from by rw [ht]; exact hB.1)⟩, hS.F ht⟩) hS.2.2 dX11_ways_35
  · skip
    have uc_4 := i_ne (n := 0) (by decide) c_4
    refine lv_aload_n hx hb dX11_ways_8 rfl (lv_at hl 0 rfl) ?_
    refine t_gr hx hb hts hown hK hG hB mh0 th0 fq_11_7 rfl mw_2_214 dX11_ways_9 (fun b_5 hb_5 mb_5 tb_5 => ?_)
    refine lv_aload_n hx hb dX11_ways_12 rfl (lv_at hl 0 rfl) ?_
    refine t_gr hx hb hts hown hK hG hB mh0 th0 fq_11_3 rfl mw_2_210 dX11_ways_13 (fun b_6 hb_6 mb_6 tb_6 => ?_)
    refine t_gr hx hb hts hown hK hG hB mb_6 tb_6 fq_10_0 rfl mw_1_236 dX11_ways_16 (fun b_7 hb_7 mb_7 tb_7 => ?_)
    refine lv_aload_n hx hb dX11_ways_19 rfl (lv_at hl 0 rfl) ?_
    refine t_gk hx hb hts hown hK hB mh0 th0 fq_11_3 hb_6 mw_2_210 dX11_ways_20 ?_
    refine t_gr hx hb hts hown hK hG hB mb_6 tb_6 fq_10_1 rfl mw_1_239 dX11_ways_23 (fun b_8 hb_8 mb_8 tb_8 => ?_)
    refine lv_iload_n hx hb dX11_ways_26 rfl (lv_at hl 1 rfl) ?_
    refine lv_iconst (v := (-1)) hx hb dX11_ways_27 (by decide) ?_
    refine t_ci (va_runV (As := [.ref b_7, .ref b_8, .int p1, .int (-1)]) (rest := []) ⟨hx, hb, hml, hown, hts⟩ (cy_X0_waysUp l D cA L T r hG hLA.1 σ ρ_2 hB.2.1 _ b_5 mb_5 tb_5 b_7 mb_7 tb_7 b_8 mb_8 tb_8 p1 ((-1)) (by first | omega | decide) (by first | omega | decide)) (cV hts mv_X0_waysUp mw_5_9 rfl rfl ⟨Nat.le_of_ble_eq_true rfl, Nat.le_of_ble_eq_true rfl⟩) (pV hB.1 hK hN mb_5 tb_5 (show shp cA 0 _ _ _ = .inr (0, Fs0 _ _ _) from rfl) rfl) rfl rfl hl.1 rfl (lv_room (Nat.le_of_ble_eq_true rfl)) dX11_ways_28 ⟨Nat.le_of_ble_eq_true rfl, Nat.le_of_ble_eq_true rfl⟩) hLA hA hB hS (by decide) (fun x_11 σ_9 ρ_10 H locs hB fσ_9 pσ_9 hS => ?_)
    refine lv_goto (tgt := 35) hx hb dX11_ways_31 (by decide) ?_
    exact W.iret (v := x_11) hx hb hr (fun t ht hW => ⟨⟨x_11, (σ_9, ρ_10), rfl, ⟨hB.2.1, hB.2.2, trivial⟩, (show TP D cA L T r σ_9 ρ_10 t.heap from by rw [ht]; exact hB.1)⟩, hS.F ht⟩) hS.2.2 dX11_ways_35
theorem dX11_less_0 : decode cX11_less 0 = .ok (.aload_n 0, 1) := by decide +kernel
theorem dX11_less_1 : decode cX11_less 1 = .ok (.iload_n 1, 1) := by decide +kernel
theorem dX11_less_2 : decode cX11_less 2 = .ok (.invokevirtual 117, 3) := by decide +kernel
theorem dX11_less_5 : decode cX11_less 5 = .ok (.ifCond .eq 12, 3) := by decide +kernel
theorem dX11_less_17 : decode cX11_less 17 = .ok (.iconst (-1), 1) := by decide +kernel
theorem dX11_less_18 : decode cX11_less 18 = .ok (.ireturn, 1) := by decide +kernel
theorem dX11_less_8 : decode cX11_less 8 = .ok (.iload_n 2, 1) := by decide +kernel
theorem dX11_less_9 : decode cX11_less 9 = .ok (.ifCond .lt 8, 3) := by decide +kernel
theorem dX11_less_12 : decode cX11_less 12 = .ok (.iload_n 2, 1) := by decide +kernel
theorem dX11_less_13 : decode cX11_less 13 = .ok (.iconst 1, 1) := by decide +kernel
theorem dX11_less_14 : decode cX11_less 14 = .ok (.if_icmp .le 5, 3) := by decide +kernel
theorem dX11_less_19 : decode cX11_less 19 = .ok (.bipush (-2), 2) := by decide +kernel
theorem dX11_less_21 : decode cX11_less 21 = .ok (.istore_n 3, 1) := by decide +kernel
theorem dX11_less_22 : decode cX11_less 22 = .ok (.bipush (-2), 2) := by decide +kernel
theorem dX11_less_24 : decode cX11_less 24 = .ok (.istore 4, 2) := by decide +kernel
theorem dX11_less_26 : decode cX11_less 26 = .ok (.aload_n 0, 1) := by decide +kernel
theorem dX11_less_27 : decode cX11_less 27 = .ok (.getfield 32, 3) := by decide +kernel
theorem dX11_less_30 : decode cX11_less 30 = .ok (.getfield 121, 3) := by decide +kernel
theorem dX11_less_33 : decode cX11_less 33 = .ok (.getfield 125, 3) := by decide +kernel
theorem dX11_less_36 : decode cX11_less 36 = .ok (.iload_n 1, 1) := by decide +kernel
theorem dX11_less_37 : decode cX11_less 37 = .ok (.iaload, 1) := by decide +kernel
theorem dX11_less_38 : decode cX11_less 38 = .ok (.istore 5, 2) := by decide +kernel
theorem dX11_less_40 : decode cX11_less 40 = .ok (.iload 5, 2) := by decide +kernel
theorem dX11_less_42 : decode cX11_less 42 = .ok (.aload_n 0, 1) := by decide +kernel
theorem dX11_less_43 : decode cX11_less 43 = .ok (.getfield 32, 3) := by decide +kernel
theorem dX11_less_46 : decode cX11_less 46 = .ok (.getfield 102, 3) := by decide +kernel
theorem dX11_less_49 : decode cX11_less 49 = .ok (.getfield 105, 3) := by decide +kernel
theorem dX11_less_52 : decode cX11_less 52 = .ok (.if_icmp .ge 49, 3) := by decide +kernel
theorem dX11_less_101 : decode cX11_less 101 = .ok (.iload_n 2, 1) := by decide +kernel
theorem dX11_less_102 : decode cX11_less 102 = .ok (.ifCond .ne 7, 3) := by decide +kernel
theorem dX11_less_109 : decode cX11_less 109 = .ok (.iload 4, 2) := by decide +kernel
theorem dX11_less_111 : decode cX11_less 111 = .ok (.ireturn, 1) := by decide +kernel
theorem dX11_less_105 : decode cX11_less 105 = .ok (.iload_n 3, 1) := by decide +kernel
theorem dX11_less_106 : decode cX11_less 106 = .ok (.goto 5, 3) := by decide +kernel
theorem dX11_less_55 : decode cX11_less 55 = .ok (.aload_n 0, 1) := by decide +kernel
theorem dX11_less_56 : decode cX11_less 56 = .ok (.getfield 57, 3) := by decide +kernel
theorem dX11_less_59 : decode cX11_less 59 = .ok (.aload_n 0, 1) := by decide +kernel
theorem dX11_less_60 : decode cX11_less 60 = .ok (.getfield 32, 3) := by decide +kernel
theorem dX11_less_63 : decode cX11_less 63 = .ok (.getfield 102, 3) := by decide +kernel
theorem dX11_less_66 : decode cX11_less 66 = .ok (.aload_n 0, 1) := by decide +kernel
theorem dX11_less_67 : decode cX11_less 67 = .ok (.getfield 32, 3) := by decide +kernel
theorem dX11_less_70 : decode cX11_less 70 = .ok (.getfield 121, 3) := by decide +kernel
theorem dX11_less_73 : decode cX11_less 73 = .ok (.iload_n 1, 1) := by decide +kernel
theorem dX11_less_74 : decode cX11_less 74 = .ok (.iload 5, 2) := by decide +kernel
theorem dX11_less_76 : decode cX11_less 76 = .ok (.invokevirtual 259, 3) := by decide +kernel
theorem dX11_less_79 : decode cX11_less 79 = .ok (.istore 6, 2) := by decide +kernel
theorem dX11_less_81 : decode cX11_less 81 = .ok (.iload 6, 2) := by decide +kernel
theorem dX11_less_83 : decode cX11_less 83 = .ok (.iload 4, 2) := by decide +kernel
theorem dX11_less_85 : decode cX11_less 85 = .ok (.if_icmp .le 10, 3) := by decide +kernel
theorem dX11_less_95 : decode cX11_less 95 = .ok (.iinc 5 1, 3) := by decide +kernel
theorem dX11_less_98 : decode cX11_less 98 = .ok (.goto (-58), 3) := by decide +kernel
theorem dX11_less_88 : decode cX11_less 88 = .ok (.iload 6, 2) := by decide +kernel
theorem dX11_less_90 : decode cX11_less 90 = .ok (.istore 4, 2) := by decide +kernel
theorem dX11_less_92 : decode cX11_less 92 = .ok (.iload 5, 2) := by decide +kernel
theorem dX11_less_94 : decode cX11_less 94 = .ok (.istore_n 3, 1) := by decide +kernel
set_option maxHeartbeats 4000000 in
set_option maxRecDepth 100000 in
theorem cy_X11_less (l : Launch) (D : va_G) (cA : Nat → ClassId) (L : List Nat) (T : Nat → Nat) (r : Rg) (hG : GR L T r) (hL : L.Nodup) (σ : Sg) (ρ : Lg) (hW : WT L ry T σ) (sz : Nat) (h0 : Nat) (mh0 : h0 ∈ L) (th0 : T h0 = 11) (p1 : Int32) (p2 : Int32) : Met l yX11_less (.code yX11_less cX11_less 7 (some .int) :: wsA) ({ frames := 10, cells := 0, slots := 0, locals := 267 }) (PR D cA L T r σ ρ sz [.ref h0, .int p1, .int p2]) (QI D cA L T r ry [(20, 1000)] σ sz (fun x σ1 => True)) 0 0 (dm L sz) := by
  refine Met.ofW (cc := cX11_less) (maxL := 7) (ret := (some .int)) (by decide) rfl ?_
  intro p e s m args below meth c s₁ B hml hv
  obtain ⟨rfl, hsz, hP, hK, hN⟩ := hv
  have hx := B.exec
  have hb := B.bytes
  have hr := B.returns
  have hts : ∀ w ∈ wsA, w.before _ s = true := fun w h => atoms_spec (ws := .code yX11_less cX11_less 7 (some .int) :: wsA) B.pre w (List.mem_cons_of_mem _ h)
  have hown : s.vm.findClass RX11 = some m.cls := findClass_of_methodNamed B.named
  subst hsz
  have hLA : LA (dm L s.heap.size) L := ⟨hL, fun a h => Or.inl h⟩
  have hA : ∀ q : Nat, s.heap.size ≤ q → dm L s.heap.size q := fun q h => Or.inr h
  have hS : va_S (dm L s.heap.size) s.heap s.heap [] := va_S.rf
  have hB : TS D cA L T r ry [(20, 1000)] σ σ ρ s.heap := ⟨hP, hW, FR.rf⟩
  have hl := lv_entry ([.ref h0, .int p1, .int p2]) (n := 7) (Nat.le_of_ble_eq_true rfl)
  rw [lg_entry_eq]
  generalize (lg_sl ([.ref h0, .int p1, .int p2]) ++ List.replicate (7 - (lg_sl ([.ref h0, .int p1, .int p2])).length) Slot.unset).toArray = ls at hl ⊢
  have hl : lv_has ls 7 [(0, .ref h0), (1, .int p1), (2, .int p2)] := hl
  refine lv_aload_n hx hb dX11_less_0 rfl (lv_at hl 0 rfl) ?_
  refine lv_iload_n hx hb dX11_less_1 rfl (lv_at hl 1 rfl) ?_
  refine t_ci (va_runV (As := [.int p1]) (rest := []) ⟨hx, hb, hml, hown, hts⟩ (cy_X11_isPilgrim l D cA L T r hG hLA.1 σ ρ hB.2.1 _ h0 mh0 th0 p1) (cV hts mv_X11_isPilgrim mw_4_70 rfl rfl ⟨Nat.le_of_ble_eq_true rfl, Nat.le_of_ble_eq_true rfl⟩) (pV hB.1 hK hN mh0 th0 (show shp cA 11 _ _ _ = .inr (11, Fs11 _ _ _) from rfl) rfl) rfl rfl hl.1 rfl (lv_room (Nat.le_of_ble_eq_true rfl)) dX11_less_2 ⟨Nat.le_of_ble_eq_true rfl, Nat.le_of_ble_eq_true rfl⟩) hLA hA hB hS (by decide) (fun x_3 σ_1 ρ_2 H locs hB fσ_1 pσ_1 hS => ?_)
  have qσ_1 := FR.nil fσ_1
  subst qσ_1
  obtain ⟨ox_3, ix_3⟩ := pσ_1
  refine lv_if_eq (tgt := 17) hx hb dX11_less_5 (by decide) (fun c_4 => ?_) (fun c_4 => ?_)
  · skip
    have uc_4 := i_eq (n := 0) (by decide) c_4
    refine lv_iconst (v := (-1)) hx hb dX11_less_17 (by decide) ?_
    exact W.iret (v := (-1)) hx hb hr (fun t ht hW => ⟨⟨(-1), (σ, ρ_2), rfl, ⟨hB.2.1, hB.2.2, trivial⟩, (show TP D cA L T r σ ρ_2 t.heap from by rw [ht]; exact hB.1)⟩, hS.F ht⟩) hS.2.2 dX11_less_18
  · skip
    have uc_4 := i_ne (n := 0) (by decide) c_4
    refine lv_iload_n hx hb dX11_less_8 rfl (lv_at hl 2 rfl) ?_
    refine lv_if_lt (tgt := 17) hx hb dX11_less_9 (by decide) (fun c_5 => ?_) (fun c_5 => ?_)
    · skip
      have uc_5 := i_lt (n := 0) (by decide) c_5
      refine lv_iconst (v := (-1)) hx hb dX11_less_17 (by decide) ?_
      exact W.iret (v := (-1)) hx hb hr (fun t ht hW => ⟨⟨(-1), (σ, ρ_2), rfl, ⟨hB.2.1, hB.2.2, trivial⟩, (show TP D cA L T r σ ρ_2 t.heap from by rw [ht]; exact hB.1)⟩, hS.F ht⟩) hS.2.2 dX11_less_18
    · skip
      have uc_5 := i_nlt (n := 0) (by decide) c_5
      refine lv_iload_n hx hb dX11_less_12 rfl (lv_at hl 2 rfl) ?_
      refine lv_iconst (v := 1) hx hb dX11_less_13 (by decide) ?_
      refine lv_icmp_le (tgt := 19) hx hb dX11_less_14 (by decide) (fun c_6 => ?_) (fun c_6 => ?_)
      · skip
        have uc_6 := i_le (n := 1) (by decide) c_6
        refine lv_bipush (v := (-2)) hx hb dX11_less_19 (by decide) ?_
        refine lv_istore_n (lv' := [(3, .int (-2)), (0, .ref h0), (1, .int p1), (2, .int p2)]) hx hb dX11_less_21 rfl hl (by decide) rfl (fun ls hl => ?_)
        refine lv_bipush (v := (-2)) hx hb dX11_less_22 (by decide) ?_
        refine lv_istore (lv' := [(4, .int (-2)), (3, .int (-2)), (0, .ref h0), (1, .int p1), (2, .int p2)]) hx hb dX11_less_24 hl (by decide) rfl (fun ls hl => ?_)
        refine lv_aload_n hx hb dX11_less_26 rfl (lv_at hl 2 rfl) ?_
        refine t_gr hx hb hts hown hK hG hB mh0 th0 fq_11_3 rfl mw_2_210 dX11_less_27 (fun b_7 hb_7 mb_7 tb_7 => ?_)
        refine t_gr hx hb hts hown hK hG hB mb_7 tb_7 fq_10_1 rfl mw_1_239 dX11_less_30 (fun b_8 hb_8 mb_8 tb_8 => ?_)
        refine t_gr hx hb hts hown hK hG hB mb_8 tb_8 fq_8_0 rfl mw_1_84 dX11_less_33 (fun b_9 hb_9 mb_9 tb_9 => ?_)
        refine lv_iload_n hx hb dX11_less_36 rfl (lv_at hl 3 rfl) ?_
        refine t_ai hx hb hK hB mb_9 tb_9 ai_45 (fun _ => rfl) (i_in (by omega) (by omega)) dX11_less_37 (fun x_10 ex_10 lx_10 ux_10 => ?_)
        refine lv_istore (lv' := [(5, .int x_10), (4, .int (-2)), (3, .int (-2)), (0, .ref h0), (1, .int p1), (2, .int p2)]) hx hb dX11_less_38 hl (by decide) rfl (fun ls hl => ?_)
        refine w_loop (α := Int32 × Int32 × Int32 × Sg × Lg) (fun (i_11, i_12, i_13, σ_14, ρ_15) H locs ls => 0 ≤ i_13.toInt ∧ i_13.toInt ≤ 8 ∧ TS D cA L T r ry [(20, 1000)] σ σ_14 ρ_15 H ∧ va_S (dm L s.heap.size) s.heap H locs ∧ lv_has ls 7 [(5, .int i_13), (4, .int i_12), (3, .int i_11), (0, .ref h0), (1, .int p1), (2, .int p2)]) (fun (i_11, i_12, i_13, σ_14, ρ_15) => (8 - i_13.toInt).toNat) ?_ ⟨(-2), (-2), x_10, σ, ρ_2⟩ ⟨(by omega), (by omega), hB, hS, lv_sub hl [0, 1, 2, 3, 4, 5] rfl⟩
        rintro ⟨i_11, i_12, i_13, σ_14, ρ_15⟩ H locs ls ⟨li_13, ui_13, hB, hS, hl⟩ ih_16
        refine lv_iload hx hb dX11_less_40 (lv_at hl 0 rfl) ?_
        refine lv_aload_n hx hb dX11_less_42 rfl (lv_at hl 3 rfl) ?_
        refine t_gk hx hb hts hown hK hB mh0 th0 fq_11_3 hb_7 mw_2_210 dX11_less_43 ?_
        refine t_gr hx hb hts hown hK hG hB mb_7 tb_7 fq_10_0 rfl mw_1_236 dX11_less_46 (fun b_17 hb_17 mb_17 tb_17 => ?_)
        refine t_gi hx hb hts hown hK hB mb_17 tb_17 fi_3_9 rfl mw_1_182 dX11_less_49 (fun x_18 ex_18 lx_18 ux_18 => ?_)
        refine lv_icmp_ge (tgt := 101) hx hb dX11_less_52 (by decide) (fun c_19 => ?_) (fun c_19 => ?_)
        · skip
          have uc_19 := j_le c_19
          refine lv_iload_n hx hb dX11_less_101 rfl (lv_at hl 5 rfl) ?_
          refine lv_if_ne (tgt := 109) hx hb dX11_less_102 (by decide) (fun c_20 => ?_) (fun c_20 => ?_)
          · skip
            have uc_20 := i_ne (n := 0) (by decide) c_20
            refine lv_iload hx hb dX11_less_109 (lv_at hl 1 rfl) ?_
            exact W.iret (v := i_12) hx hb hr (fun t ht hW => ⟨⟨i_12, (σ_14, ρ_15), rfl, ⟨hB.2.1, hB.2.2, trivial⟩, (show TP D cA L T r σ_14 ρ_15 t.heap from by rw [ht]; exact hB.1)⟩, hS.F ht⟩) hS.2.2 dX11_less_111
          · skip
            have uc_20 := i_eq (n := 0) (by decide) c_20
            refine lv_iload_n hx hb dX11_less_105 rfl (lv_at hl 2 rfl) ?_
            refine lv_goto (tgt := 111) hx hb dX11_less_106 (by decide) ?_
            exact W.iret (v := i_11) hx hb hr (fun t ht hW => ⟨⟨i_11, (σ_14, ρ_15), rfl, ⟨hB.2.1, hB.2.2, trivial⟩, (show TP D cA L T r σ_14 ρ_15 t.heap from by rw [ht]; exact hB.1)⟩, hS.F ht⟩) hS.2.2 dX11_less_111
        · skip
          have uc_19 := j_nle c_19
          refine lv_aload_n hx hb dX11_less_55 rfl (lv_at hl 3 rfl) ?_
          refine t_gr hx hb hts hown hK hG hB mh0 th0 fq_11_7 rfl mw_2_214 dX11_less_56 (fun b_21 hb_21 mb_21 tb_21 => ?_)
          refine lv_aload_n hx hb dX11_less_59 rfl (lv_at hl 3 rfl) ?_
          refine t_gk hx hb hts hown hK hB mh0 th0 fq_11_3 hb_7 mw_2_210 dX11_less_60 ?_
          refine t_gk hx hb hts hown hK hB mb_7 tb_7 fq_10_0 hb_17 mw_1_236 dX11_less_63 ?_
          refine lv_aload_n hx hb dX11_less_66 rfl (lv_at hl 3 rfl) ?_
          refine t_gk hx hb hts hown hK hB mh0 th0 fq_11_3 hb_7 mw_2_210 dX11_less_67 ?_
          refine t_gk hx hb hts hown hK hB mb_7 tb_7 fq_10_1 hb_8 mw_1_239 dX11_less_70 ?_
          refine lv_iload_n hx hb dX11_less_73 rfl (lv_at hl 4 rfl) ?_
          refine lv_iload hx hb dX11_less_74 (lv_at hl 0 rfl) ?_
          refine t_ci (va_runV (As := [.ref b_17, .ref b_8, .int p1, .int i_13]) (rest := []) ⟨hx, hb, hml, hown, hts⟩ (cy_X0_waysUp l D cA L T r hG hLA.1 σ_14 ρ_15 hB.2.1 _ b_21 mb_21 tb_21 b_17 mb_17 tb_17 b_8 mb_8 tb_8 p1 i_13 (by first | omega | decide) (by first | omega | decide)) (cV hts mv_X0_waysUp mw_5_9 rfl rfl ⟨Nat.le_of_ble_eq_true rfl, Nat.le_of_ble_eq_true rfl⟩) (pV hB.1 hK hN mb_21 tb_21 (show shp cA 0 _ _ _ = .inr (0, Fs0 _ _ _) from rfl) rfl) rfl rfl hl.1 rfl (lv_room (Nat.le_of_ble_eq_true rfl)) dX11_less_76 ⟨Nat.le_of_ble_eq_true rfl, Nat.le_of_ble_eq_true rfl⟩) hLA hA hB hS (by decide) (fun x_24 σ_22 ρ_23 H locs hB fσ_22 pσ_22 hS => ?_)
          refine lv_istore (lv' := [(6, .int x_24), (5, .int i_13), (4, .int i_12), (3, .int i_11), (0, .ref h0), (1, .int p1), (2, .int p2)]) hx hb dX11_less_79 hl (by decide) rfl (fun ls hl => ?_)
          refine lv_iload hx hb dX11_less_81 (lv_at hl 0 rfl) ?_
          refine lv_iload hx hb dX11_less_83 (lv_at hl 2 rfl) ?_
          refine lv_icmp_le (tgt := 95) hx hb dX11_less_85 (by decide) (fun c_25 => ?_) (fun c_25 => ?_)
          · skip
            have uc_25 := j_le c_25
            obtain ⟨x_26, ex_26⟩ : ∃ y : Int32, y = i_13 + 1 := ⟨_, rfl⟩
            have vx_26 := b_add (rfl : i_13.toInt = _) (by decide : (1 : Int32).toInt = 1) ex_26 (by omega) (by omega)
            refine lv_iinc (v := x_26) (lv' := [(5, .int x_26), (6, .int x_24), (4, .int i_12), (3, .int i_11), (0, .ref h0), (1, .int p1), (2, .int p2)]) hx hb dX11_less_95 hl (k := 1) rfl (by rw [ex_26]; rfl) (by decide) rfl (fun ls hl => ?_)
            refine lv_goto (tgt := 40) hx hb dX11_less_98 (by decide) ?_
            exact ih_16 ⟨i_11, i_12, x_26, σ_22, ρ_23⟩ _ _ _ ⟨(by omega), (by omega), hB, hS, lv_sub hl [0, 2, 3, 4, 5, 6] rfl⟩ (by show (8 - x_26.toInt).toNat < (8 - i_13.toInt).toNat; omega)
          · skip
            have uc_25 := j_nle c_25
            refine lv_iload hx hb dX11_less_88 (lv_at hl 0 rfl) ?_
            refine lv_istore (lv' := [(4, .int x_24), (6, .int x_24), (5, .int i_13), (3, .int i_11), (0, .ref h0), (1, .int p1), (2, .int p2)]) hx hb dX11_less_90 hl (by decide) rfl (fun ls hl => ?_)
            refine lv_iload hx hb dX11_less_92 (lv_at hl 2 rfl) ?_
            refine lv_istore_n (lv' := [(3, .int i_13), (4, .int x_24), (6, .int x_24), (5, .int i_13), (0, .ref h0), (1, .int p1), (2, .int p2)]) hx hb dX11_less_94 rfl hl (by decide) rfl (fun ls hl => ?_)
            obtain ⟨x_27, ex_27⟩ : ∃ y : Int32, y = i_13 + 1 := ⟨_, rfl⟩
            have vx_27 := b_add (rfl : i_13.toInt = _) (by decide : (1 : Int32).toInt = 1) ex_27 (by omega) (by omega)
            refine lv_iinc (v := x_27) (lv' := [(5, .int x_27), (3, .int i_13), (4, .int x_24), (6, .int x_24), (0, .ref h0), (1, .int p1), (2, .int p2)]) hx hb dX11_less_95 hl (k := 3) rfl (by rw [ex_27]; rfl) (by decide) rfl (fun ls hl => ?_)
            refine lv_goto (tgt := 40) hx hb dX11_less_98 (by decide) ?_
            exact ih_16 ⟨i_13, x_24, x_27, σ_22, ρ_23⟩ _ _ _ ⟨(by omega), (by omega), hB, hS, lv_sub hl [0, 2, 1, 4, 5, 6] rfl⟩ (by show (8 - x_27.toInt).toNat < (8 - i_13.toInt).toNat; omega)
      · skip
        have uc_6 := i_nle (n := 1) (by decide) c_6
        refine lv_iconst (v := (-1)) hx hb dX11_less_17 (by decide) ?_
        exact W.iret (v := (-1)) hx hb hr (fun t ht hW => ⟨⟨(-1), (σ, ρ_2), rfl, ⟨hB.2.1, hB.2.2, trivial⟩, (show TP D cA L T r σ ρ_2 t.heap from by rw [ht]; exact hB.1)⟩, hS.F ht⟩) hS.2.2 dX11_less_18
theorem mw_4_196 : (.instanceMethod yX11_areTogether : Cond) ∈ wsA := wsA_t (List.mem_append_right _ (List.mem_append_right _ (List.mem_append_right _ (List.mem_append_left _ (List.mem_of_getElem? (l := tables_1_4) (i := 196) rfl))))) rfl
theorem mp_2_12 : (.selects RX11 yX11_areTogether yX11_areTogether : Cond) ∈ wsA := wsA_p (q := (yX11_areTogether, 12)) (List.mem_append_right _ (List.mem_append_left _ (List.mem_of_getElem? (l := lw_privs_2) (i := 12) rfl)))
theorem mw_4_197 : (.code yX11_areTogether cX11_areTogether 3 (some .boolean) : Cond) ∈ wsA := wsA_t (List.mem_append_right _ (List.mem_append_right _ (List.mem_append_right _ (List.mem_append_left _ (List.mem_of_getElem? (l := tables_1_4) (i := 197) rfl))))) rfl
theorem mw_4_194 : (.methodLink RX11 227 yX11_areTogether : Cond) ∈ wsA := wsA_t (List.mem_append_right _ (List.mem_append_right _ (List.mem_append_right _ (List.mem_append_left _ (List.mem_of_getElem? (l := tables_1_4) (i := 194) rfl))))) rfl
theorem mw_5_60 : (.instanceMethod yX0_waysOfTwo : Cond) ∈ wsA := wsA_t (List.mem_append_right _ (List.mem_append_right _ (List.mem_append_right _ (List.mem_append_right _ (List.mem_append_left _ (List.mem_of_getElem? (l := tables_1_5) (i := 60) rfl)))))) rfl
theorem mw_5_61 : (.selects RX0 yX0_waysOfTwo yX0_waysOfTwo : Cond) ∈ wsA := wsA_t (List.mem_append_right _ (List.mem_append_right _ (List.mem_append_right _ (List.mem_append_right _ (List.mem_append_left _ (List.mem_of_getElem? (l := tables_1_5) (i := 61) rfl)))))) rfl
theorem mw_5_62 : (.code yX0_waysOfTwo cX0_waysOfTwo 6 (some .int) : Cond) ∈ wsA := wsA_t (List.mem_append_right _ (List.mem_append_right _ (List.mem_append_right _ (List.mem_append_right _ (List.mem_append_left _ (List.mem_of_getElem? (l := tables_1_5) (i := 62) rfl)))))) rfl
theorem mw_5_59 : (.methodLink RX11 278 yX0_waysOfTwo : Cond) ∈ wsA := wsA_t (List.mem_append_right _ (List.mem_append_right _ (List.mem_append_right _ (List.mem_append_right _ (List.mem_append_left _ (List.mem_of_getElem? (l := tables_1_5) (i := 59) rfl)))))) rfl
theorem dX11_both_0 : decode cX11_both 0 = .ok (.aload_n 0, 1) := by decide +kernel
theorem dX11_both_1 : decode cX11_both 1 = .ok (.iload_n 1, 1) := by decide +kernel
theorem dX11_both_2 : decode cX11_both 2 = .ok (.iload_n 2, 1) := by decide +kernel
theorem dX11_both_3 : decode cX11_both 3 = .ok (.invokevirtual 227, 3) := by decide +kernel
theorem dX11_both_6 : decode cX11_both 6 = .ok (.ifCond .eq 29, 3) := by decide +kernel
theorem dX11_both_35 : decode cX11_both 35 = .ok (.iconst (-1), 1) := by decide +kernel
theorem dX11_both_36 : decode cX11_both 36 = .ok (.ireturn, 1) := by decide +kernel
theorem dX11_both_9 : decode cX11_both 9 = .ok (.aload_n 0, 1) := by decide +kernel
theorem dX11_both_10 : decode cX11_both 10 = .ok (.getfield 57, 3) := by decide +kernel
theorem dX11_both_13 : decode cX11_both 13 = .ok (.aload_n 0, 1) := by decide +kernel
theorem dX11_both_14 : decode cX11_both 14 = .ok (.getfield 32, 3) := by decide +kernel
theorem dX11_both_17 : decode cX11_both 17 = .ok (.getfield 102, 3) := by decide +kernel
theorem dX11_both_20 : decode cX11_both 20 = .ok (.aload_n 0, 1) := by decide +kernel
theorem dX11_both_21 : decode cX11_both 21 = .ok (.getfield 32, 3) := by decide +kernel
theorem dX11_both_24 : decode cX11_both 24 = .ok (.getfield 121, 3) := by decide +kernel
theorem dX11_both_27 : decode cX11_both 27 = .ok (.iload_n 1, 1) := by decide +kernel
theorem dX11_both_28 : decode cX11_both 28 = .ok (.iload_n 2, 1) := by decide +kernel
theorem dX11_both_29 : decode cX11_both 29 = .ok (.invokevirtual 278, 3) := by decide +kernel
theorem dX11_both_32 : decode cX11_both 32 = .ok (.goto 4, 3) := by decide +kernel
theorem mv_X11_areTogether : MV RX11 yX11_areTogether cX11_areTogether 3 (some .boolean) 2 := ⟨mw_4_196, mp_2_12, mw_1_1, mw_4_197, ⟨rfl, by decide, by decide, by decide +kernel⟩⟩
theorem mv_X0_waysOfTwo : MV RX0 yX0_waysOfTwo cX0_waysOfTwo 6 (some .int) 4 := ⟨mw_5_60, mw_5_61, mw_1_9, mw_5_62, ⟨rfl, by decide, by decide, by decide +kernel⟩⟩
set_option maxHeartbeats 4000000 in
set_option maxRecDepth 100000 in
theorem cy_X11_both (l : Launch) (D : va_G) (cA : Nat → ClassId) (L : List Nat) (T : Nat → Nat) (r : Rg) (hG : GR L T r) (hL : L.Nodup) (σ : Sg) (ρ : Lg) (hW : WT L ry T σ) (sz : Nat) (h0 : Nat) (mh0 : h0 ∈ L) (th0 : T h0 = 11) (p1 : Int32) (p2 : Int32) : Met l yX11_both (.code yX11_both cX11_both 3 (some .int) :: wsA) ({ frames := 10, cells := 0, slots := 0, locals := 268 }) (PR D cA L T r σ ρ sz [.ref h0, .int p1, .int p2]) (QI D cA L T r ry [(20, 1000)] σ sz (fun x σ1 => True)) 0 0 (dm L sz) := by
  refine Met.ofW (cc := cX11_both) (maxL := 3) (ret := (some .int)) (by decide) rfl ?_
  intro p e s m args below meth c s₁ B hml hv
  obtain ⟨rfl, hsz, hP, hK, hN⟩ := hv
  have hx := B.exec
  have hb := B.bytes
  have hr := B.returns
  have hts : ∀ w ∈ wsA, w.before _ s = true := fun w h => atoms_spec (ws := .code yX11_both cX11_both 3 (some .int) :: wsA) B.pre w (List.mem_cons_of_mem _ h)
  have hown : s.vm.findClass RX11 = some m.cls := findClass_of_methodNamed B.named
  subst hsz
  have hLA : LA (dm L s.heap.size) L := ⟨hL, fun a h => Or.inl h⟩
  have hA : ∀ q : Nat, s.heap.size ≤ q → dm L s.heap.size q := fun q h => Or.inr h
  have hS : va_S (dm L s.heap.size) s.heap s.heap [] := va_S.rf
  have hB : TS D cA L T r ry [(20, 1000)] σ σ ρ s.heap := ⟨hP, hW, FR.rf⟩
  have hl := lv_entry ([.ref h0, .int p1, .int p2]) (n := 3) (Nat.le_of_ble_eq_true rfl)
  rw [lg_entry_eq]
  generalize (lg_sl ([.ref h0, .int p1, .int p2]) ++ List.replicate (3 - (lg_sl ([.ref h0, .int p1, .int p2])).length) Slot.unset).toArray = ls at hl ⊢
  have hl : lv_has ls 3 [(0, .ref h0), (1, .int p1), (2, .int p2)] := hl
  refine lv_aload_n hx hb dX11_both_0 rfl (lv_at hl 0 rfl) ?_
  refine lv_iload_n hx hb dX11_both_1 rfl (lv_at hl 1 rfl) ?_
  refine lv_iload_n hx hb dX11_both_2 rfl (lv_at hl 2 rfl) ?_
  refine t_ci (va_runV (As := [.int p1, .int p2]) (rest := []) ⟨hx, hb, hml, hown, hts⟩ (cy_X11_areTogether l D cA L T r hG hLA.1 σ ρ hB.2.1 _ h0 mh0 th0 p1 p2) (cV hts mv_X11_areTogether mw_4_194 rfl rfl ⟨Nat.le_of_ble_eq_true rfl, Nat.le_of_ble_eq_true rfl⟩) (pV hB.1 hK hN mh0 th0 (show shp cA 11 _ _ _ = .inr (11, Fs11 _ _ _) from rfl) rfl) rfl rfl hl.1 rfl (lv_room (Nat.le_of_ble_eq_true rfl)) dX11_both_3 ⟨Nat.le_of_ble_eq_true rfl, Nat.le_of_ble_eq_true rfl⟩) hLA hA hB hS (by decide) (fun x_3 σ_1 ρ_2 H locs hB fσ_1 pσ_1 hS => ?_)
  have qσ_1 := FR.nil fσ_1
  subst qσ_1
  obtain ⟨ox_3, ix_3⟩ := pσ_1
  refine lv_if_eq (tgt := 35) hx hb dX11_both_6 (by decide) (fun c_4 => ?_) (fun c_4 => ?_)
  · skip
    have uc_4 := i_eq (n := 0) (by decide) c_4
    refine lv_iconst (v := (-1)) hx hb dX11_both_35 (by decide) ?_
    exact W.iret (v := (-1)) hx hb hr (fun t ht hW => ⟨⟨(-1), (σ, ρ_2), rfl, ⟨hB.2.1, hB.2.2, trivial⟩, (show TP D cA L T r σ ρ_2 t.heap from by rw [ht]; exact hB.1)⟩, hS.F ht⟩) hS.2.2 dX11_both_36
  · skip
    have uc_4 := i_ne (n := 0) (by decide) c_4
    refine lv_aload_n hx hb dX11_both_9 rfl (lv_at hl 0 rfl) ?_
    refine t_gr hx hb hts hown hK hG hB mh0 th0 fq_11_7 rfl mw_2_214 dX11_both_10 (fun b_5 hb_5 mb_5 tb_5 => ?_)
    refine lv_aload_n hx hb dX11_both_13 rfl (lv_at hl 0 rfl) ?_
    refine t_gr hx hb hts hown hK hG hB mh0 th0 fq_11_3 rfl mw_2_210 dX11_both_14 (fun b_6 hb_6 mb_6 tb_6 => ?_)
    refine t_gr hx hb hts hown hK hG hB mb_6 tb_6 fq_10_0 rfl mw_1_236 dX11_both_17 (fun b_7 hb_7 mb_7 tb_7 => ?_)
    refine lv_aload_n hx hb dX11_both_20 rfl (lv_at hl 0 rfl) ?_
    refine t_gk hx hb hts hown hK hB mh0 th0 fq_11_3 hb_6 mw_2_210 dX11_both_21 ?_
    refine t_gr hx hb hts hown hK hG hB mb_6 tb_6 fq_10_1 rfl mw_1_239 dX11_both_24 (fun b_8 hb_8 mb_8 tb_8 => ?_)
    refine lv_iload_n hx hb dX11_both_27 rfl (lv_at hl 1 rfl) ?_
    refine lv_iload_n hx hb dX11_both_28 rfl (lv_at hl 2 rfl) ?_
    refine t_ci (va_runV (As := [.ref b_7, .ref b_8, .int p1, .int p2]) (rest := []) ⟨hx, hb, hml, hown, hts⟩ (cy_X0_waysOfTwo l D cA L T r hG hLA.1 σ ρ_2 hB.2.1 _ b_5 mb_5 tb_5 b_7 mb_7 tb_7 b_8 mb_8 tb_8 p1 p2 (by first | omega | decide) (by first | omega | decide) (by first | omega | decide) (by first | omega | decide)) (cV hts mv_X0_waysOfTwo mw_5_59 rfl rfl ⟨Nat.le_of_ble_eq_true rfl, Nat.le_of_ble_eq_true rfl⟩) (pV hB.1 hK hN mb_5 tb_5 (show shp cA 0 _ _ _ = .inr (0, Fs0 _ _ _) from rfl) rfl) rfl rfl hl.1 rfl (lv_room (Nat.le_of_ble_eq_true rfl)) dX11_both_29 ⟨Nat.le_of_ble_eq_true rfl, Nat.le_of_ble_eq_true rfl⟩) hLA hA hB hS (by decide) (fun x_11 σ_9 ρ_10 H locs hB fσ_9 pσ_9 hS => ?_)
    refine lv_goto (tgt := 36) hx hb dX11_both_32 (by decide) ?_
    exact W.iret (v := x_11) hx hb hr (fun t ht hW => ⟨⟨x_11, (σ_9, ρ_10), rfl, ⟨hB.2.1, hB.2.2, trivial⟩, (show TP D cA L T r σ_9 ρ_10 t.heap from by rw [ht]; exact hB.1)⟩, hS.F ht⟩) hS.2.2 dX11_both_36
theorem dX11_partner_0 : decode cX11_partner 0 = .ok (.aload_n 0, 1) := by decide +kernel
theorem dX11_partner_1 : decode cX11_partner 1 = .ok (.iload_n 1, 1) := by decide +kernel
theorem dX11_partner_2 : decode cX11_partner 2 = .ok (.invokevirtual 117, 3) := by decide +kernel
theorem dX11_partner_5 : decode cX11_partner 5 = .ok (.ifCond .eq 12, 3) := by decide +kernel
theorem dX11_partner_17 : decode cX11_partner 17 = .ok (.iconst (-1), 1) := by decide +kernel
theorem dX11_partner_18 : decode cX11_partner 18 = .ok (.ireturn, 1) := by decide +kernel
theorem dX11_partner_8 : decode cX11_partner 8 = .ok (.iload_n 2, 1) := by decide +kernel
theorem dX11_partner_9 : decode cX11_partner 9 = .ok (.ifCond .lt 8, 3) := by decide +kernel
theorem dX11_partner_12 : decode cX11_partner 12 = .ok (.iload_n 2, 1) := by decide +kernel
theorem dX11_partner_13 : decode cX11_partner 13 = .ok (.iconst 1, 1) := by decide +kernel
theorem dX11_partner_14 : decode cX11_partner 14 = .ok (.if_icmp .le 5, 3) := by decide +kernel
theorem dX11_partner_19 : decode cX11_partner 19 = .ok (.bipush (-2), 2) := by decide +kernel
theorem dX11_partner_21 : decode cX11_partner 21 = .ok (.istore_n 3, 1) := by decide +kernel
theorem dX11_partner_22 : decode cX11_partner 22 = .ok (.bipush (-2), 2) := by decide +kernel
theorem dX11_partner_24 : decode cX11_partner 24 = .ok (.istore 4, 2) := by decide +kernel
theorem dX11_partner_26 : decode cX11_partner 26 = .ok (.iconst 0, 1) := by decide +kernel
theorem dX11_partner_27 : decode cX11_partner 27 = .ok (.istore 5, 2) := by decide +kernel
theorem dX11_partner_29 : decode cX11_partner 29 = .ok (.iload 5, 2) := by decide +kernel
theorem dX11_partner_31 : decode cX11_partner 31 = .ok (.aload_n 0, 1) := by decide +kernel
theorem dX11_partner_32 : decode cX11_partner 32 = .ok (.getfield 32, 3) := by decide +kernel
theorem dX11_partner_35 : decode cX11_partner 35 = .ok (.getfield 102, 3) := by decide +kernel
theorem dX11_partner_38 : decode cX11_partner 38 = .ok (.getfield 281, 3) := by decide +kernel
theorem dX11_partner_41 : decode cX11_partner 41 = .ok (.if_icmp .ge 59, 3) := by decide +kernel
theorem dX11_partner_100 : decode cX11_partner 100 = .ok (.iload_n 2, 1) := by decide +kernel
theorem dX11_partner_101 : decode cX11_partner 101 = .ok (.ifCond .ne 7, 3) := by decide +kernel
theorem dX11_partner_108 : decode cX11_partner 108 = .ok (.iload 4, 2) := by decide +kernel
theorem dX11_partner_110 : decode cX11_partner 110 = .ok (.ireturn, 1) := by decide +kernel
theorem dX11_partner_104 : decode cX11_partner 104 = .ok (.iload_n 3, 1) := by decide +kernel
theorem dX11_partner_105 : decode cX11_partner 105 = .ok (.goto 5, 3) := by decide +kernel
theorem dX11_partner_44 : decode cX11_partner 44 = .ok (.aload_n 0, 1) := by decide +kernel
theorem dX11_partner_45 : decode cX11_partner 45 = .ok (.iload_n 1, 1) := by decide +kernel
theorem dX11_partner_46 : decode cX11_partner 46 = .ok (.iload 5, 2) := by decide +kernel
theorem dX11_partner_48 : decode cX11_partner 48 = .ok (.invokevirtual 227, 3) := by decide +kernel
theorem dX11_partner_51 : decode cX11_partner 51 = .ok (.ifCond .eq 43, 3) := by decide +kernel
theorem dX11_partner_94 : decode cX11_partner 94 = .ok (.iinc 5 1, 3) := by decide +kernel
theorem dX11_partner_97 : decode cX11_partner 97 = .ok (.goto (-68), 3) := by decide +kernel
theorem dX11_partner_54 : decode cX11_partner 54 = .ok (.aload_n 0, 1) := by decide +kernel
theorem dX11_partner_55 : decode cX11_partner 55 = .ok (.getfield 57, 3) := by decide +kernel
theorem dX11_partner_58 : decode cX11_partner 58 = .ok (.aload_n 0, 1) := by decide +kernel
theorem dX11_partner_59 : decode cX11_partner 59 = .ok (.getfield 32, 3) := by decide +kernel
theorem dX11_partner_62 : decode cX11_partner 62 = .ok (.getfield 102, 3) := by decide +kernel
theorem dX11_partner_65 : decode cX11_partner 65 = .ok (.aload_n 0, 1) := by decide +kernel
theorem dX11_partner_66 : decode cX11_partner 66 = .ok (.getfield 32, 3) := by decide +kernel
theorem dX11_partner_69 : decode cX11_partner 69 = .ok (.getfield 121, 3) := by decide +kernel
theorem dX11_partner_72 : decode cX11_partner 72 = .ok (.iload_n 1, 1) := by decide +kernel
theorem dX11_partner_73 : decode cX11_partner 73 = .ok (.iload 5, 2) := by decide +kernel
theorem dX11_partner_75 : decode cX11_partner 75 = .ok (.invokevirtual 278, 3) := by decide +kernel
theorem dX11_partner_78 : decode cX11_partner 78 = .ok (.istore 6, 2) := by decide +kernel
theorem dX11_partner_80 : decode cX11_partner 80 = .ok (.iload 6, 2) := by decide +kernel
theorem dX11_partner_82 : decode cX11_partner 82 = .ok (.iload 4, 2) := by decide +kernel
theorem dX11_partner_84 : decode cX11_partner 84 = .ok (.if_icmp .le 10, 3) := by decide +kernel
theorem dX11_partner_87 : decode cX11_partner 87 = .ok (.iload 6, 2) := by decide +kernel
theorem dX11_partner_89 : decode cX11_partner 89 = .ok (.istore 4, 2) := by decide +kernel
theorem dX11_partner_91 : decode cX11_partner 91 = .ok (.iload 5, 2) := by decide +kernel
theorem dX11_partner_93 : decode cX11_partner 93 = .ok (.istore_n 3, 1) := by decide +kernel
set_option maxHeartbeats 4000000 in
set_option maxRecDepth 100000 in
theorem cy_X11_partner (l : Launch) (D : va_G) (cA : Nat → ClassId) (L : List Nat) (T : Nat → Nat) (r : Rg) (hG : GR L T r) (hL : L.Nodup) (σ : Sg) (ρ : Lg) (hW : WT L ry T σ) (sz : Nat) (h0 : Nat) (mh0 : h0 ∈ L) (th0 : T h0 = 11) (p1 : Int32) (p2 : Int32) : Met l yX11_partner (.code yX11_partner cX11_partner 7 (some .int) :: wsA) ({ frames := 10, cells := 0, slots := 0, locals := 268 }) (PR D cA L T r σ ρ sz [.ref h0, .int p1, .int p2]) (QI D cA L T r ry [(20, 1000)] σ sz (fun x σ1 => True)) 0 0 (dm L sz) := by
  refine Met.ofW (cc := cX11_partner) (maxL := 7) (ret := (some .int)) (by decide) rfl ?_
  intro p e s m args below meth c s₁ B hml hv
  obtain ⟨rfl, hsz, hP, hK, hN⟩ := hv
  have hx := B.exec
  have hb := B.bytes
  have hr := B.returns
  have hts : ∀ w ∈ wsA, w.before _ s = true := fun w h => atoms_spec (ws := .code yX11_partner cX11_partner 7 (some .int) :: wsA) B.pre w (List.mem_cons_of_mem _ h)
  have hown : s.vm.findClass RX11 = some m.cls := findClass_of_methodNamed B.named
  subst hsz
  have hLA : LA (dm L s.heap.size) L := ⟨hL, fun a h => Or.inl h⟩
  have hA : ∀ q : Nat, s.heap.size ≤ q → dm L s.heap.size q := fun q h => Or.inr h
  have hS : va_S (dm L s.heap.size) s.heap s.heap [] := va_S.rf
  have hB : TS D cA L T r ry [(20, 1000)] σ σ ρ s.heap := ⟨hP, hW, FR.rf⟩
  have hl := lv_entry ([.ref h0, .int p1, .int p2]) (n := 7) (Nat.le_of_ble_eq_true rfl)
  rw [lg_entry_eq]
  generalize (lg_sl ([.ref h0, .int p1, .int p2]) ++ List.replicate (7 - (lg_sl ([.ref h0, .int p1, .int p2])).length) Slot.unset).toArray = ls at hl ⊢
  have hl : lv_has ls 7 [(0, .ref h0), (1, .int p1), (2, .int p2)] := hl
  refine lv_aload_n hx hb dX11_partner_0 rfl (lv_at hl 0 rfl) ?_
  refine lv_iload_n hx hb dX11_partner_1 rfl (lv_at hl 1 rfl) ?_
  refine t_ci (va_runV (As := [.int p1]) (rest := []) ⟨hx, hb, hml, hown, hts⟩ (cy_X11_isPilgrim l D cA L T r hG hLA.1 σ ρ hB.2.1 _ h0 mh0 th0 p1) (cV hts mv_X11_isPilgrim mw_4_70 rfl rfl ⟨Nat.le_of_ble_eq_true rfl, Nat.le_of_ble_eq_true rfl⟩) (pV hB.1 hK hN mh0 th0 (show shp cA 11 _ _ _ = .inr (11, Fs11 _ _ _) from rfl) rfl) rfl rfl hl.1 rfl (lv_room (Nat.le_of_ble_eq_true rfl)) dX11_partner_2 ⟨Nat.le_of_ble_eq_true rfl, Nat.le_of_ble_eq_true rfl⟩) hLA hA hB hS (by decide) (fun x_3 σ_1 ρ_2 H locs hB fσ_1 pσ_1 hS => ?_)
  have qσ_1 := FR.nil fσ_1
  subst qσ_1
  obtain ⟨ox_3, ix_3⟩ := pσ_1
  refine lv_if_eq (tgt := 17) hx hb dX11_partner_5 (by decide) (fun c_4 => ?_) (fun c_4 => ?_)
  · skip
    have uc_4 := i_eq (n := 0) (by decide) c_4
    refine lv_iconst (v := (-1)) hx hb dX11_partner_17 (by decide) ?_
    exact W.iret (v := (-1)) hx hb hr (fun t ht hW => ⟨⟨(-1), (σ, ρ_2), rfl, ⟨hB.2.1, hB.2.2, trivial⟩, (show TP D cA L T r σ ρ_2 t.heap from by rw [ht]; exact hB.1)⟩, hS.F ht⟩) hS.2.2 dX11_partner_18
  · skip
    have uc_4 := i_ne (n := 0) (by decide) c_4
    refine lv_iload_n hx hb dX11_partner_8 rfl (lv_at hl 2 rfl) ?_
    refine lv_if_lt (tgt := 17) hx hb dX11_partner_9 (by decide) (fun c_5 => ?_) (fun c_5 => ?_)
    · skip
      have uc_5 := i_lt (n := 0) (by decide) c_5
      refine lv_iconst (v := (-1)) hx hb dX11_partner_17 (by decide) ?_
      exact W.iret (v := (-1)) hx hb hr (fun t ht hW => ⟨⟨(-1), (σ, ρ_2), rfl, ⟨hB.2.1, hB.2.2, trivial⟩, (show TP D cA L T r σ ρ_2 t.heap from by rw [ht]; exact hB.1)⟩, hS.F ht⟩) hS.2.2 dX11_partner_18
    · skip
      have uc_5 := i_nlt (n := 0) (by decide) c_5
      refine lv_iload_n hx hb dX11_partner_12 rfl (lv_at hl 2 rfl) ?_
      refine lv_iconst (v := 1) hx hb dX11_partner_13 (by decide) ?_
      refine lv_icmp_le (tgt := 19) hx hb dX11_partner_14 (by decide) (fun c_6 => ?_) (fun c_6 => ?_)
      · skip
        have uc_6 := i_le (n := 1) (by decide) c_6
        refine lv_bipush (v := (-2)) hx hb dX11_partner_19 (by decide) ?_
        refine lv_istore_n (lv' := [(3, .int (-2)), (0, .ref h0), (1, .int p1), (2, .int p2)]) hx hb dX11_partner_21 rfl hl (by decide) rfl (fun ls hl => ?_)
        refine lv_bipush (v := (-2)) hx hb dX11_partner_22 (by decide) ?_
        refine lv_istore (lv' := [(4, .int (-2)), (3, .int (-2)), (0, .ref h0), (1, .int p1), (2, .int p2)]) hx hb dX11_partner_24 hl (by decide) rfl (fun ls hl => ?_)
        refine lv_iconst (v := 0) hx hb dX11_partner_26 (by decide) ?_
        refine lv_istore (lv' := [(5, .int 0), (4, .int (-2)), (3, .int (-2)), (0, .ref h0), (1, .int p1), (2, .int p2)]) hx hb dX11_partner_27 hl (by decide) rfl (fun ls hl => ?_)
        refine w_loop (α := Int32 × Int32 × Int32 × Sg × Lg) (fun (i_7, i_8, i_9, σ_10, ρ_11) H locs ls => 0 ≤ i_9.toInt ∧ i_9.toInt ≤ 4 ∧ TS D cA L T r ry [(20, 1000)] σ σ_10 ρ_11 H ∧ va_S (dm L s.heap.size) s.heap H locs ∧ lv_has ls 7 [(5, .int i_9), (4, .int i_8), (3, .int i_7), (0, .ref h0), (1, .int p1), (2, .int p2)]) (fun (i_7, i_8, i_9, σ_10, ρ_11) => (4 - i_9.toInt).toNat) ?_ ⟨(-2), (-2), 0, σ, ρ_2⟩ ⟨(by decide), (by decide), hB, hS, lv_sub hl [0, 1, 2, 3, 4, 5] rfl⟩
        rintro ⟨i_7, i_8, i_9, σ_10, ρ_11⟩ H locs ls ⟨li_9, ui_9, hB, hS, hl⟩ ih_12
        refine lv_iload hx hb dX11_partner_29 (lv_at hl 0 rfl) ?_
        refine lv_aload_n hx hb dX11_partner_31 rfl (lv_at hl 3 rfl) ?_
        refine t_gr hx hb hts hown hK hG hB mh0 th0 fq_11_3 rfl mw_2_210 dX11_partner_32 (fun b_13 hb_13 mb_13 tb_13 => ?_)
        refine t_gr hx hb hts hown hK hG hB mb_13 tb_13 fq_10_0 rfl mw_1_236 dX11_partner_35 (fun b_14 hb_14 mb_14 tb_14 => ?_)
        refine t_gi hx hb hts hown hK hB mb_14 tb_14 fi_3_10 rfl mw_1_189 dX11_partner_38 (fun x_15 ex_15 lx_15 ux_15 => ?_)
        refine lv_icmp_ge (tgt := 100) hx hb dX11_partner_41 (by decide) (fun c_16 => ?_) (fun c_16 => ?_)
        · skip
          have uc_16 := j_le c_16
          refine lv_iload_n hx hb dX11_partner_100 rfl (lv_at hl 5 rfl) ?_
          refine lv_if_ne (tgt := 108) hx hb dX11_partner_101 (by decide) (fun c_17 => ?_) (fun c_17 => ?_)
          · skip
            have uc_17 := i_ne (n := 0) (by decide) c_17
            refine lv_iload hx hb dX11_partner_108 (lv_at hl 1 rfl) ?_
            exact W.iret (v := i_8) hx hb hr (fun t ht hW => ⟨⟨i_8, (σ_10, ρ_11), rfl, ⟨hB.2.1, hB.2.2, trivial⟩, (show TP D cA L T r σ_10 ρ_11 t.heap from by rw [ht]; exact hB.1)⟩, hS.F ht⟩) hS.2.2 dX11_partner_110
          · skip
            have uc_17 := i_eq (n := 0) (by decide) c_17
            refine lv_iload_n hx hb dX11_partner_104 rfl (lv_at hl 2 rfl) ?_
            refine lv_goto (tgt := 110) hx hb dX11_partner_105 (by decide) ?_
            exact W.iret (v := i_7) hx hb hr (fun t ht hW => ⟨⟨i_7, (σ_10, ρ_11), rfl, ⟨hB.2.1, hB.2.2, trivial⟩, (show TP D cA L T r σ_10 ρ_11 t.heap from by rw [ht]; exact hB.1)⟩, hS.F ht⟩) hS.2.2 dX11_partner_110
        · skip
          have uc_16 := j_nle c_16
          refine lv_aload_n hx hb dX11_partner_44 rfl (lv_at hl 3 rfl) ?_
          refine lv_iload_n hx hb dX11_partner_45 rfl (lv_at hl 4 rfl) ?_
          refine lv_iload hx hb dX11_partner_46 (lv_at hl 0 rfl) ?_
          refine t_ci (va_runV (As := [.int p1, .int i_9]) (rest := []) ⟨hx, hb, hml, hown, hts⟩ (cy_X11_areTogether l D cA L T r hG hLA.1 σ_10 ρ_11 hB.2.1 _ h0 mh0 th0 p1 i_9) (cV hts mv_X11_areTogether mw_4_194 rfl rfl ⟨Nat.le_of_ble_eq_true rfl, Nat.le_of_ble_eq_true rfl⟩) (pV hB.1 hK hN mh0 th0 (show shp cA 11 _ _ _ = .inr (11, Fs11 _ _ _) from rfl) rfl) rfl rfl hl.1 rfl (lv_room (Nat.le_of_ble_eq_true rfl)) dX11_partner_48 ⟨Nat.le_of_ble_eq_true rfl, Nat.le_of_ble_eq_true rfl⟩) hLA hA hB hS (by decide) (fun x_20 σ_18 ρ_19 H locs hB fσ_18 pσ_18 hS => ?_)
          have qσ_18 := FR.nil fσ_18
          subst qσ_18
          obtain ⟨ox_20, ix_20⟩ := pσ_18
          refine lv_if_eq (tgt := 94) hx hb dX11_partner_51 (by decide) (fun c_21 => ?_) (fun c_21 => ?_)
          · skip
            have uc_21 := i_eq (n := 0) (by decide) c_21
            obtain ⟨x_22, ex_22⟩ : ∃ y : Int32, y = i_9 + 1 := ⟨_, rfl⟩
            have vx_22 := b_add (rfl : i_9.toInt = _) (by decide : (1 : Int32).toInt = 1) ex_22 (by omega) (by omega)
            refine lv_iinc (v := x_22) (lv' := [(5, .int x_22), (4, .int i_8), (3, .int i_7), (0, .ref h0), (1, .int p1), (2, .int p2)]) hx hb dX11_partner_94 hl (k := 0) rfl (by rw [ex_22]; rfl) (by decide) rfl (fun ls hl => ?_)
            refine lv_goto (tgt := 29) hx hb dX11_partner_97 (by decide) ?_
            exact ih_12 ⟨i_7, i_8, x_22, σ_10, ρ_19⟩ _ _ _ ⟨(by omega), (by omega), hB, hS, lv_sub hl [0, 1, 2, 3, 4, 5] rfl⟩ (by show (4 - x_22.toInt).toNat < (4 - i_9.toInt).toNat; omega)
          · skip
            have uc_21 := i_ne (n := 0) (by decide) c_21
            refine lv_aload_n hx hb dX11_partner_54 rfl (lv_at hl 3 rfl) ?_
            refine t_gr hx hb hts hown hK hG hB mh0 th0 fq_11_7 rfl mw_2_214 dX11_partner_55 (fun b_23 hb_23 mb_23 tb_23 => ?_)
            refine lv_aload_n hx hb dX11_partner_58 rfl (lv_at hl 3 rfl) ?_
            refine t_gk hx hb hts hown hK hB mh0 th0 fq_11_3 hb_13 mw_2_210 dX11_partner_59 ?_
            refine t_gk hx hb hts hown hK hB mb_13 tb_13 fq_10_0 hb_14 mw_1_236 dX11_partner_62 ?_
            refine lv_aload_n hx hb dX11_partner_65 rfl (lv_at hl 3 rfl) ?_
            refine t_gk hx hb hts hown hK hB mh0 th0 fq_11_3 hb_13 mw_2_210 dX11_partner_66 ?_
            refine t_gr hx hb hts hown hK hG hB mb_13 tb_13 fq_10_1 rfl mw_1_239 dX11_partner_69 (fun b_24 hb_24 mb_24 tb_24 => ?_)
            refine lv_iload_n hx hb dX11_partner_72 rfl (lv_at hl 4 rfl) ?_
            refine lv_iload hx hb dX11_partner_73 (lv_at hl 0 rfl) ?_
            refine t_ci (va_runV (As := [.ref b_14, .ref b_24, .int p1, .int i_9]) (rest := []) ⟨hx, hb, hml, hown, hts⟩ (cy_X0_waysOfTwo l D cA L T r hG hLA.1 σ_10 ρ_19 hB.2.1 _ b_23 mb_23 tb_23 b_14 mb_14 tb_14 b_24 mb_24 tb_24 p1 i_9 (by first | omega | decide) (by first | omega | decide) (by first | omega | decide) (by first | omega | decide)) (cV hts mv_X0_waysOfTwo mw_5_59 rfl rfl ⟨Nat.le_of_ble_eq_true rfl, Nat.le_of_ble_eq_true rfl⟩) (pV hB.1 hK hN mb_23 tb_23 (show shp cA 0 _ _ _ = .inr (0, Fs0 _ _ _) from rfl) rfl) rfl rfl hl.1 rfl (lv_room (Nat.le_of_ble_eq_true rfl)) dX11_partner_75 ⟨Nat.le_of_ble_eq_true rfl, Nat.le_of_ble_eq_true rfl⟩) hLA hA hB hS (by decide) (fun x_27 σ_25 ρ_26 H locs hB fσ_25 pσ_25 hS => ?_)
            refine lv_istore (lv' := [(6, .int x_27), (5, .int i_9), (4, .int i_8), (3, .int i_7), (0, .ref h0), (1, .int p1), (2, .int p2)]) hx hb dX11_partner_78 hl (by decide) rfl (fun ls hl => ?_)
            refine lv_iload hx hb dX11_partner_80 (lv_at hl 0 rfl) ?_
            refine lv_iload hx hb dX11_partner_82 (lv_at hl 2 rfl) ?_
            refine lv_icmp_le (tgt := 94) hx hb dX11_partner_84 (by decide) (fun c_28 => ?_) (fun c_28 => ?_)
            · skip
              have uc_28 := j_le c_28
              obtain ⟨x_29, ex_29⟩ : ∃ y : Int32, y = i_9 + 1 := ⟨_, rfl⟩
              have vx_29 := b_add (rfl : i_9.toInt = _) (by decide : (1 : Int32).toInt = 1) ex_29 (by omega) (by omega)
              refine lv_iinc (v := x_29) (lv' := [(5, .int x_29), (6, .int x_27), (4, .int i_8), (3, .int i_7), (0, .ref h0), (1, .int p1), (2, .int p2)]) hx hb dX11_partner_94 hl (k := 1) rfl (by rw [ex_29]; rfl) (by decide) rfl (fun ls hl => ?_)
              refine lv_goto (tgt := 29) hx hb dX11_partner_97 (by decide) ?_
              exact ih_12 ⟨i_7, i_8, x_29, σ_25, ρ_26⟩ _ _ _ ⟨(by omega), (by omega), hB, hS, lv_sub hl [0, 2, 3, 4, 5, 6] rfl⟩ (by show (4 - x_29.toInt).toNat < (4 - i_9.toInt).toNat; omega)
            · skip
              have uc_28 := j_nle c_28
              refine lv_iload hx hb dX11_partner_87 (lv_at hl 0 rfl) ?_
              refine lv_istore (lv' := [(4, .int x_27), (6, .int x_27), (5, .int i_9), (3, .int i_7), (0, .ref h0), (1, .int p1), (2, .int p2)]) hx hb dX11_partner_89 hl (by decide) rfl (fun ls hl => ?_)
              refine lv_iload hx hb dX11_partner_91 (lv_at hl 2 rfl) ?_
              refine lv_istore_n (lv' := [(3, .int i_9), (4, .int x_27), (6, .int x_27), (5, .int i_9), (0, .ref h0), (1, .int p1), (2, .int p2)]) hx hb dX11_partner_93 rfl hl (by decide) rfl (fun ls hl => ?_)
              obtain ⟨x_30, ex_30⟩ : ∃ y : Int32, y = i_9 + 1 := ⟨_, rfl⟩
              have vx_30 := b_add (rfl : i_9.toInt = _) (by decide : (1 : Int32).toInt = 1) ex_30 (by omega) (by omega)
              refine lv_iinc (v := x_30) (lv' := [(5, .int x_30), (3, .int i_9), (4, .int x_27), (6, .int x_27), (0, .ref h0), (1, .int p1), (2, .int p2)]) hx hb dX11_partner_94 hl (k := 3) rfl (by rw [ex_30]; rfl) (by decide) rfl (fun ls hl => ?_)
              refine lv_goto (tgt := 29) hx hb dX11_partner_97 (by decide) ?_
              exact ih_12 ⟨i_9, x_27, x_30, σ_25, ρ_26⟩ _ _ _ ⟨(by omega), (by omega), hB, hS, lv_sub hl [0, 2, 1, 4, 5, 6] rfl⟩ (by show (4 - x_30.toInt).toNat < (4 - i_9.toInt).toNat; omega)
      · skip
        have uc_6 := i_nle (n := 1) (by decide) c_6
        refine lv_iconst (v := (-1)) hx hb dX11_partner_17 (by decide) ?_
        exact W.iret (v := (-1)) hx hb hr (fun t ht hW => ⟨⟨(-1), (σ, ρ_2), rfl, ⟨hB.2.1, hB.2.2, trivial⟩, (show TP D cA L T r σ ρ_2 t.heap from by rw [ht]; exact hB.1)⟩, hS.F ht⟩) hS.2.2 dX11_partner_18
theorem mw_4_213 : (.instanceMethod yX11_isSortOrNone : Cond) ∈ wsA := wsA_t (List.mem_append_right _ (List.mem_append_right _ (List.mem_append_right _ (List.mem_append_left _ (List.mem_of_getElem? (l := tables_1_4) (i := 213) rfl))))) rfl
theorem mp_2_13 : (.selects RX11 yX11_isSortOrNone yX11_isSortOrNone : Cond) ∈ wsA := wsA_p (q := (yX11_isSortOrNone, 12)) (List.mem_append_right _ (List.mem_append_left _ (List.mem_of_getElem? (l := lw_privs_2) (i := 13) rfl)))
theorem mw_4_214 : (.code yX11_isSortOrNone cX11_isSortOrNone 2 (some .boolean) : Cond) ∈ wsA := wsA_t (List.mem_append_right _ (List.mem_append_right _ (List.mem_append_right _ (List.mem_append_left _ (List.mem_of_getElem? (l := tables_1_4) (i := 214) rfl))))) rfl
theorem mw_4_211 : (.methodLink RX11 238 yX11_isSortOrNone : Cond) ∈ wsA := wsA_t (List.mem_append_right _ (List.mem_append_right _ (List.mem_append_right _ (List.mem_append_left _ (List.mem_of_getElem? (l := tables_1_4) (i := 211) rfl))))) rfl
theorem mw_4_216 : (.instanceMethod yX0_reached : Cond) ∈ wsA := wsA_t (List.mem_append_right _ (List.mem_append_right _ (List.mem_append_right _ (List.mem_append_left _ (List.mem_of_getElem? (l := tables_1_4) (i := 216) rfl))))) rfl
theorem mw_4_217 : (.selects RX0 yX0_reached yX0_reached : Cond) ∈ wsA := wsA_t (List.mem_append_right _ (List.mem_append_right _ (List.mem_append_right _ (List.mem_append_left _ (List.mem_of_getElem? (l := tables_1_4) (i := 217) rfl))))) rfl
theorem mw_4_218 : (.code yX0_reached cX0_reached 5 (some .int) : Cond) ∈ wsA := wsA_t (List.mem_append_right _ (List.mem_append_right _ (List.mem_append_right _ (List.mem_append_left _ (List.mem_of_getElem? (l := tables_1_4) (i := 218) rfl))))) rfl
theorem mw_4_215 : (.methodLink RX11 241 yX0_reached : Cond) ∈ wsA := wsA_t (List.mem_append_right _ (List.mem_append_right _ (List.mem_append_right _ (List.mem_append_left _ (List.mem_of_getElem? (l := tables_1_4) (i := 215) rfl))))) rfl
theorem mw_2_96 : (.fieldLink RX11 245 "HillBends$Chances" "stock" "[I" : Cond) ∈ wsA := wsA_t (List.mem_append_right _ (List.mem_append_left _ (List.mem_of_getElem? (l := tables_1_2) (i := 96) rfl))) rfl
theorem dX11_reach_0 : decode cX11_reach 0 = .ok (.aload_n 0, 1) := by decide +kernel
theorem dX11_reach_1 : decode cX11_reach 1 = .ok (.iload_n 1, 1) := by decide +kernel
theorem dX11_reach_2 : decode cX11_reach 2 = .ok (.invokevirtual 117, 3) := by decide +kernel
theorem dX11_reach_5 : decode cX11_reach 5 = .ok (.ifCond .eq 11, 3) := by decide +kernel
theorem dX11_reach_16 : decode cX11_reach 16 = .ok (.bipush (-2), 2) := by decide +kernel
theorem dX11_reach_18 : decode cX11_reach 18 = .ok (.ireturn, 1) := by decide +kernel
theorem dX11_reach_8 : decode cX11_reach 8 = .ok (.aload_n 0, 1) := by decide +kernel
theorem dX11_reach_9 : decode cX11_reach 9 = .ok (.iload_n 2, 1) := by decide +kernel
theorem dX11_reach_10 : decode cX11_reach 10 = .ok (.invokevirtual 238, 3) := by decide +kernel
theorem dX11_reach_13 : decode cX11_reach 13 = .ok (.ifCond .ne 6, 3) := by decide +kernel
theorem dX11_reach_19 : decode cX11_reach 19 = .ok (.aload_n 0, 1) := by decide +kernel
theorem dX11_reach_20 : decode cX11_reach 20 = .ok (.getfield 57, 3) := by decide +kernel
theorem dX11_reach_23 : decode cX11_reach 23 = .ok (.aload_n 0, 1) := by decide +kernel
theorem dX11_reach_24 : decode cX11_reach 24 = .ok (.getfield 32, 3) := by decide +kernel
theorem dX11_reach_27 : decode cX11_reach 27 = .ok (.getfield 102, 3) := by decide +kernel
theorem dX11_reach_30 : decode cX11_reach 30 = .ok (.aload_n 0, 1) := by decide +kernel
theorem dX11_reach_31 : decode cX11_reach 31 = .ok (.getfield 32, 3) := by decide +kernel
theorem dX11_reach_34 : decode cX11_reach 34 = .ok (.getfield 121, 3) := by decide +kernel
theorem dX11_reach_37 : decode cX11_reach 37 = .ok (.iload_n 1, 1) := by decide +kernel
theorem dX11_reach_38 : decode cX11_reach 38 = .ok (.invokevirtual 241, 3) := by decide +kernel
theorem dX11_reach_41 : decode cX11_reach 41 = .ok (.istore_n 3, 1) := by decide +kernel
theorem dX11_reach_42 : decode cX11_reach 42 = .ok (.iload_n 2, 1) := by decide +kernel
theorem dX11_reach_43 : decode cX11_reach 43 = .ok (.iconst (-1), 1) := by decide +kernel
theorem dX11_reach_44 : decode cX11_reach 44 = .ok (.if_icmp .ne 7, 3) := by decide +kernel
theorem dX11_reach_51 : decode cX11_reach 51 = .ok (.aload_n 0, 1) := by decide +kernel
theorem dX11_reach_52 : decode cX11_reach 52 = .ok (.getfield 57, 3) := by decide +kernel
theorem dX11_reach_55 : decode cX11_reach 55 = .ok (.getfield 245, 3) := by decide +kernel
theorem dX11_reach_58 : decode cX11_reach 58 = .ok (.iload_n 2, 1) := by decide +kernel
theorem dX11_reach_59 : decode cX11_reach 59 = .ok (.iaload, 1) := by decide +kernel
theorem dX11_reach_60 : decode cX11_reach 60 = .ok (.ireturn, 1) := by decide +kernel
theorem dX11_reach_47 : decode cX11_reach 47 = .ok (.iload_n 3, 1) := by decide +kernel
theorem dX11_reach_48 : decode cX11_reach 48 = .ok (.goto 12, 3) := by decide +kernel
theorem mv_X11_isSortOrNone : MV RX11 yX11_isSortOrNone cX11_isSortOrNone 2 (some .boolean) 1 := ⟨mw_4_213, mp_2_13, mw_1_1, mw_4_214, ⟨rfl, by decide, by decide, by decide +kernel⟩⟩
theorem mv_X0_reached : MV RX0 yX0_reached cX0_reached 5 (some .int) 3 := ⟨mw_4_216, mw_4_217, mw_1_9, mw_4_218, ⟨rfl, by decide, by decide, by decide +kernel⟩⟩
set_option maxHeartbeats 4000000 in
set_option maxRecDepth 100000 in
theorem cy_X11_reach (l : Launch) (D : va_G) (cA : Nat → ClassId) (L : List Nat) (T : Nat → Nat) (r : Rg) (hG : GR L T r) (hL : L.Nodup) (σ : Sg) (ρ : Lg) (hW : WT L ry T σ) (sz : Nat) (h0 : Nat) (mh0 : h0 ∈ L) (th0 : T h0 = 11) (p1 : Int32) (p2 : Int32) : Met l yX11_reach (.code yX11_reach cX11_reach 4 (some .int) :: wsA) ({ frames := 2, cells := 0, slots := 0, locals := 47 }) (PR D cA L T r σ ρ sz [.ref h0, .int p1, .int p2]) (QI D cA L T r ry [(20, 1000)] σ sz (fun x σ1 => True)) 0 0 (dm L sz) := by
  refine Met.ofW (cc := cX11_reach) (maxL := 4) (ret := (some .int)) (by decide) rfl ?_
  intro p e s m args below meth c s₁ B hml hv
  obtain ⟨rfl, hsz, hP, hK, hN⟩ := hv
  have hx := B.exec
  have hb := B.bytes
  have hr := B.returns
  have hts : ∀ w ∈ wsA, w.before _ s = true := fun w h => atoms_spec (ws := .code yX11_reach cX11_reach 4 (some .int) :: wsA) B.pre w (List.mem_cons_of_mem _ h)
  have hown : s.vm.findClass RX11 = some m.cls := findClass_of_methodNamed B.named
  subst hsz
  have hLA : LA (dm L s.heap.size) L := ⟨hL, fun a h => Or.inl h⟩
  have hA : ∀ q : Nat, s.heap.size ≤ q → dm L s.heap.size q := fun q h => Or.inr h
  have hS : va_S (dm L s.heap.size) s.heap s.heap [] := va_S.rf
  have hB : TS D cA L T r ry [(20, 1000)] σ σ ρ s.heap := ⟨hP, hW, FR.rf⟩
  have hl := lv_entry ([.ref h0, .int p1, .int p2]) (n := 4) (Nat.le_of_ble_eq_true rfl)
  rw [lg_entry_eq]
  generalize (lg_sl ([.ref h0, .int p1, .int p2]) ++ List.replicate (4 - (lg_sl ([.ref h0, .int p1, .int p2])).length) Slot.unset).toArray = ls at hl ⊢
  have hl : lv_has ls 4 [(0, .ref h0), (1, .int p1), (2, .int p2)] := hl
  refine lv_aload_n hx hb dX11_reach_0 rfl (lv_at hl 0 rfl) ?_
  refine lv_iload_n hx hb dX11_reach_1 rfl (lv_at hl 1 rfl) ?_
  refine t_ci (va_runV (As := [.int p1]) (rest := []) ⟨hx, hb, hml, hown, hts⟩ (cy_X11_isPilgrim l D cA L T r hG hLA.1 σ ρ hB.2.1 _ h0 mh0 th0 p1) (cV hts mv_X11_isPilgrim mw_4_70 rfl rfl ⟨Nat.le_of_ble_eq_true rfl, Nat.le_of_ble_eq_true rfl⟩) (pV hB.1 hK hN mh0 th0 (show shp cA 11 _ _ _ = .inr (11, Fs11 _ _ _) from rfl) rfl) rfl rfl hl.1 rfl (lv_room (Nat.le_of_ble_eq_true rfl)) dX11_reach_2 ⟨Nat.le_of_ble_eq_true rfl, Nat.le_of_ble_eq_true rfl⟩) hLA hA hB hS (by decide) (fun x_3 σ_1 ρ_2 H locs hB fσ_1 pσ_1 hS => ?_)
  have qσ_1 := FR.nil fσ_1
  subst qσ_1
  obtain ⟨ox_3, ix_3⟩ := pσ_1
  refine lv_if_eq (tgt := 16) hx hb dX11_reach_5 (by decide) (fun c_4 => ?_) (fun c_4 => ?_)
  · skip
    have uc_4 := i_eq (n := 0) (by decide) c_4
    refine lv_bipush (v := (-2)) hx hb dX11_reach_16 (by decide) ?_
    exact W.iret (v := (-2)) hx hb hr (fun t ht hW => ⟨⟨(-2), (σ, ρ_2), rfl, ⟨hB.2.1, hB.2.2, trivial⟩, (show TP D cA L T r σ ρ_2 t.heap from by rw [ht]; exact hB.1)⟩, hS.F ht⟩) hS.2.2 dX11_reach_18
  · skip
    have uc_4 := i_ne (n := 0) (by decide) c_4
    refine lv_aload_n hx hb dX11_reach_8 rfl (lv_at hl 0 rfl) ?_
    refine lv_iload_n hx hb dX11_reach_9 rfl (lv_at hl 2 rfl) ?_
    refine t_ci (va_runV (As := [.int p2]) (rest := []) ⟨hx, hb, hml, hown, hts⟩ (cy_X11_isSortOrNone l D cA L T r hG hLA.1 σ ρ_2 hB.2.1 _ h0 mh0 th0 p2) (cV hts mv_X11_isSortOrNone mw_4_211 rfl rfl ⟨Nat.le_of_ble_eq_true rfl, Nat.le_of_ble_eq_true rfl⟩) (pV hB.1 hK hN mh0 th0 (show shp cA 11 _ _ _ = .inr (11, Fs11 _ _ _) from rfl) rfl) rfl rfl hl.1 rfl (lv_room (Nat.le_of_ble_eq_true rfl)) dX11_reach_10 ⟨Nat.le_of_ble_eq_true rfl, Nat.le_of_ble_eq_true rfl⟩) hLA hA hB hS (by decide) (fun x_7 σ_5 ρ_6 H locs hB fσ_5 pσ_5 hS => ?_)
    have qσ_5 := FR.nil fσ_5
    subst qσ_5
    obtain ⟨ox_7, ix_7⟩ := pσ_5
    refine lv_if_ne (tgt := 19) hx hb dX11_reach_13 (by decide) (fun c_8 => ?_) (fun c_8 => ?_)
    · skip
      have uc_8 := i_ne (n := 0) (by decide) c_8
      refine lv_aload_n hx hb dX11_reach_19 rfl (lv_at hl 0 rfl) ?_
      refine t_gr hx hb hts hown hK hG hB mh0 th0 fq_11_7 rfl mw_2_214 dX11_reach_20 (fun b_9 hb_9 mb_9 tb_9 => ?_)
      refine lv_aload_n hx hb dX11_reach_23 rfl (lv_at hl 0 rfl) ?_
      refine t_gr hx hb hts hown hK hG hB mh0 th0 fq_11_3 rfl mw_2_210 dX11_reach_24 (fun b_10 hb_10 mb_10 tb_10 => ?_)
      refine t_gr hx hb hts hown hK hG hB mb_10 tb_10 fq_10_0 rfl mw_1_236 dX11_reach_27 (fun b_11 hb_11 mb_11 tb_11 => ?_)
      refine lv_aload_n hx hb dX11_reach_30 rfl (lv_at hl 0 rfl) ?_
      refine t_gk hx hb hts hown hK hB mh0 th0 fq_11_3 hb_10 mw_2_210 dX11_reach_31 ?_
      refine t_gr hx hb hts hown hK hG hB mb_10 tb_10 fq_10_1 rfl mw_1_239 dX11_reach_34 (fun b_12 hb_12 mb_12 tb_12 => ?_)
      refine lv_iload_n hx hb dX11_reach_37 rfl (lv_at hl 1 rfl) ?_
      refine t_ci (va_runV (As := [.ref b_11, .ref b_12, .int p1]) (rest := []) ⟨hx, hb, hml, hown, hts⟩ (cy_X0_reached l D cA L T r hG hLA.1 σ ρ_6 hB.2.1 _ b_9 mb_9 tb_9 b_11 mb_11 tb_11 b_12 mb_12 tb_12 p1 (by first | omega | decide) (by first | omega | decide)) (cV hts mv_X0_reached mw_4_215 rfl rfl ⟨Nat.le_of_ble_eq_true rfl, Nat.le_of_ble_eq_true rfl⟩) (pV hB.1 hK hN mb_9 tb_9 (show shp cA 0 _ _ _ = .inr (0, Fs0 _ _ _) from rfl) rfl) rfl rfl hl.1 rfl (lv_room (Nat.le_of_ble_eq_true rfl)) dX11_reach_38 ⟨Nat.le_of_ble_eq_true rfl, Nat.le_of_ble_eq_true rfl⟩) hLA hA hB hS (by decide) (fun x_15 σ_13 ρ_14 H locs hB fσ_13 pσ_13 hS => ?_)
      refine lv_istore_n (lv' := [(3, .int x_15), (0, .ref h0), (1, .int p1), (2, .int p2)]) hx hb dX11_reach_41 rfl hl (by decide) rfl (fun ls hl => ?_)
      refine lv_iload_n hx hb dX11_reach_42 rfl (lv_at hl 3 rfl) ?_
      refine lv_iconst (v := (-1)) hx hb dX11_reach_43 (by decide) ?_
      refine lv_icmp_ne (tgt := 51) hx hb dX11_reach_44 (by decide) (fun c_16 => ?_) (fun c_16 => ?_)
      · skip
        have uc_16 := i_ne (n := (-1)) (by decide) c_16
        refine lv_aload_n hx hb dX11_reach_51 rfl (lv_at hl 1 rfl) ?_
        refine t_gk hx hb hts hown hK hB mh0 th0 fq_11_7 hb_9 mw_2_214 dX11_reach_52 ?_
        refine t_gr hx hb hts hown hK hG hB mb_9 tb_9 fq_0_0 rfl mw_2_96 dX11_reach_55 (fun b_17 hb_17 mb_17 tb_17 => ?_)
        refine lv_iload_n hx hb dX11_reach_58 rfl (lv_at hl 3 rfl) ?_
        refine t_ai hx hb hK hB mb_17 tb_17 ai_20 (fun _ => rfl) (i_in (by omega) (by omega)) dX11_reach_59 (fun x_18 ex_18 lx_18 ux_18 => ?_)
        exact W.iret (v := x_18) hx hb hr (fun t ht hW => ⟨⟨x_18, (σ_13, ρ_14), rfl, ⟨hB.2.1, hB.2.2, trivial⟩, (show TP D cA L T r σ_13 ρ_14 t.heap from by rw [ht]; exact hB.1)⟩, hS.F ht⟩) hS.2.2 dX11_reach_60
      · skip
        have uc_16 := i_eq (n := (-1)) (by decide) c_16
        refine lv_iload_n hx hb dX11_reach_47 rfl (lv_at hl 0 rfl) ?_
        refine lv_goto (tgt := 60) hx hb dX11_reach_48 (by decide) ?_
        exact W.iret (v := x_15) hx hb hr (fun t ht hW => ⟨⟨x_15, (σ_13, ρ_14), rfl, ⟨hB.2.1, hB.2.2, trivial⟩, (show TP D cA L T r σ_13 ρ_14 t.heap from by rw [ht]; exact hB.1)⟩, hS.F ht⟩) hS.2.2 dX11_reach_60
    · skip
      have uc_8 := i_eq (n := 0) (by decide) c_8
      refine lv_bipush (v := (-2)) hx hb dX11_reach_16 (by decide) ?_
      exact W.iret (v := (-2)) hx hb hr (fun t ht hW => ⟨⟨(-2), (σ, ρ_6), rfl, ⟨hB.2.1, hB.2.2, trivial⟩, (show TP D cA L T r σ ρ_6 t.heap from by rw [ht]; exact hB.1)⟩, hS.F ht⟩) hS.2.2 dX11_reach_18
theorem mw_4_229 : (.instanceMethod yX0_lackNow : Cond) ∈ wsA := wsA_t (List.mem_append_right _ (List.mem_append_right _ (List.mem_append_right _ (List.mem_append_left _ (List.mem_of_getElem? (l := tables_1_4) (i := 229) rfl))))) rfl
theorem mw_4_230 : (.selects RX0 yX0_lackNow yX0_lackNow : Cond) ∈ wsA := wsA_t (List.mem_append_right _ (List.mem_append_right _ (List.mem_append_right _ (List.mem_append_left _ (List.mem_of_getElem? (l := tables_1_4) (i := 230) rfl))))) rfl
theorem mw_4_231 : (.code yX0_lackNow cX0_lackNow 5 none : Cond) ∈ wsA := wsA_t (List.mem_append_right _ (List.mem_append_right _ (List.mem_append_right _ (List.mem_append_left _ (List.mem_of_getElem? (l := tables_1_4) (i := 231) rfl))))) rfl
theorem mw_4_228 : (.methodLink RX11 248 yX0_lackNow : Cond) ∈ wsA := wsA_t (List.mem_append_right _ (List.mem_append_right _ (List.mem_append_right _ (List.mem_append_left _ (List.mem_of_getElem? (l := tables_1_4) (i := 228) rfl))))) rfl
theorem mw_2_98 : (.fieldLink RX11 256 "HillBends$Chances" "need" "[I" : Cond) ∈ wsA := wsA_t (List.mem_append_right _ (List.mem_append_left _ (List.mem_of_getElem? (l := tables_1_2) (i := 98) rfl))) rfl
theorem mw_5_2 : (.instanceMethod yX0_priceOfNeed : Cond) ∈ wsA := wsA_t (List.mem_append_right _ (List.mem_append_right _ (List.mem_append_right _ (List.mem_append_right _ (List.mem_append_left _ (List.mem_of_getElem? (l := tables_1_5) (i := 2) rfl)))))) rfl
theorem mw_5_3 : (.selects RX0 yX0_priceOfNeed yX0_priceOfNeed : Cond) ∈ wsA := wsA_t (List.mem_append_right _ (List.mem_append_right _ (List.mem_append_right _ (List.mem_append_right _ (List.mem_append_left _ (List.mem_of_getElem? (l := tables_1_5) (i := 3) rfl)))))) rfl
theorem mw_5_4 : (.code yX0_priceOfNeed cX0_priceOfNeed 4 (some .int) : Cond) ∈ wsA := wsA_t (List.mem_append_right _ (List.mem_append_right _ (List.mem_append_right _ (List.mem_append_right _ (List.mem_append_left _ (List.mem_of_getElem? (l := tables_1_5) (i := 4) rfl)))))) rfl
theorem mw_5_1 : (.methodLink RX11 252 yX0_priceOfNeed : Cond) ∈ wsA := wsA_t (List.mem_append_right _ (List.mem_append_right _ (List.mem_append_right _ (List.mem_append_right _ (List.mem_append_left _ (List.mem_of_getElem? (l := tables_1_5) (i := 1) rfl)))))) rfl
theorem dX11_lacks_0 : decode cX11_lacks 0 = .ok (.aload_n 0, 1) := by decide +kernel
theorem dX11_lacks_1 : decode cX11_lacks 1 = .ok (.iload_n 1, 1) := by decide +kernel
theorem dX11_lacks_2 : decode cX11_lacks 2 = .ok (.invokevirtual 117, 3) := by decide +kernel
theorem dX11_lacks_5 : decode cX11_lacks 5 = .ok (.ifCond .eq 11, 3) := by decide +kernel
theorem dX11_lacks_16 : decode cX11_lacks 16 = .ok (.bipush (-2), 2) := by decide +kernel
theorem dX11_lacks_18 : decode cX11_lacks 18 = .ok (.ireturn, 1) := by decide +kernel
theorem dX11_lacks_8 : decode cX11_lacks 8 = .ok (.aload_n 0, 1) := by decide +kernel
theorem dX11_lacks_9 : decode cX11_lacks 9 = .ok (.iload_n 2, 1) := by decide +kernel
theorem dX11_lacks_10 : decode cX11_lacks 10 = .ok (.invokevirtual 238, 3) := by decide +kernel
theorem dX11_lacks_13 : decode cX11_lacks 13 = .ok (.ifCond .ne 6, 3) := by decide +kernel
theorem dX11_lacks_19 : decode cX11_lacks 19 = .ok (.aload_n 0, 1) := by decide +kernel
theorem dX11_lacks_20 : decode cX11_lacks 20 = .ok (.getfield 57, 3) := by decide +kernel
theorem dX11_lacks_23 : decode cX11_lacks 23 = .ok (.aload_n 0, 1) := by decide +kernel
theorem dX11_lacks_24 : decode cX11_lacks 24 = .ok (.getfield 32, 3) := by decide +kernel
theorem dX11_lacks_27 : decode cX11_lacks 27 = .ok (.getfield 102, 3) := by decide +kernel
theorem dX11_lacks_30 : decode cX11_lacks 30 = .ok (.aload_n 0, 1) := by decide +kernel
theorem dX11_lacks_31 : decode cX11_lacks 31 = .ok (.getfield 32, 3) := by decide +kernel
theorem dX11_lacks_34 : decode cX11_lacks 34 = .ok (.getfield 121, 3) := by decide +kernel
theorem dX11_lacks_37 : decode cX11_lacks 37 = .ok (.iload_n 1, 1) := by decide +kernel
theorem dX11_lacks_38 : decode cX11_lacks 38 = .ok (.invokevirtual 248, 3) := by decide +kernel
theorem dX11_lacks_41 : decode cX11_lacks 41 = .ok (.iload_n 2, 1) := by decide +kernel
theorem dX11_lacks_42 : decode cX11_lacks 42 = .ok (.iconst (-1), 1) := by decide +kernel
theorem dX11_lacks_43 : decode cX11_lacks 43 = .ok (.if_icmp .ne 20, 3) := by decide +kernel
theorem dX11_lacks_63 : decode cX11_lacks 63 = .ok (.aload_n 0, 1) := by decide +kernel
theorem dX11_lacks_64 : decode cX11_lacks 64 = .ok (.getfield 57, 3) := by decide +kernel
theorem dX11_lacks_67 : decode cX11_lacks 67 = .ok (.getfield 256, 3) := by decide +kernel
theorem dX11_lacks_70 : decode cX11_lacks 70 = .ok (.iload_n 2, 1) := by decide +kernel
theorem dX11_lacks_71 : decode cX11_lacks 71 = .ok (.iaload, 1) := by decide +kernel
theorem dX11_lacks_72 : decode cX11_lacks 72 = .ok (.ireturn, 1) := by decide +kernel
theorem dX11_lacks_46 : decode cX11_lacks 46 = .ok (.aload_n 0, 1) := by decide +kernel
theorem dX11_lacks_47 : decode cX11_lacks 47 = .ok (.getfield 57, 3) := by decide +kernel
theorem dX11_lacks_50 : decode cX11_lacks 50 = .ok (.aload_n 0, 1) := by decide +kernel
theorem dX11_lacks_51 : decode cX11_lacks 51 = .ok (.getfield 32, 3) := by decide +kernel
theorem dX11_lacks_54 : decode cX11_lacks 54 = .ok (.getfield 102, 3) := by decide +kernel
theorem dX11_lacks_57 : decode cX11_lacks 57 = .ok (.invokevirtual 252, 3) := by decide +kernel
theorem dX11_lacks_60 : decode cX11_lacks 60 = .ok (.goto 12, 3) := by decide +kernel
theorem mv_X0_lackNow : MV RX0 yX0_lackNow cX0_lackNow 5 none 3 := ⟨mw_4_229, mw_4_230, mw_1_9, mw_4_231, ⟨rfl, by decide, by decide, by decide +kernel⟩⟩
theorem mv_X0_priceOfNeed : MV RX0 yX0_priceOfNeed cX0_priceOfNeed 4 (some .int) 1 := ⟨mw_5_2, mw_5_3, mw_1_9, mw_5_4, ⟨rfl, by decide, by decide, by decide +kernel⟩⟩
set_option maxHeartbeats 4000000 in
set_option maxRecDepth 100000 in
theorem cy_X11_lacks (l : Launch) (D : va_G) (cA : Nat → ClassId) (L : List Nat) (T : Nat → Nat) (r : Rg) (hG : GR L T r) (hL : L.Nodup) (σ : Sg) (ρ : Lg) (hW : WT L ry T σ) (sz : Nat) (h0 : Nat) (mh0 : h0 ∈ L) (th0 : T h0 = 11) (p1 : Int32) (p2 : Int32) : Met l yX11_lacks (.code yX11_lacks cX11_lacks 3 (some .int) :: wsA) ({ frames := 3, cells := 0, slots := 0, locals := 87 }) (PR D cA L T r σ ρ sz [.ref h0, .int p1, .int p2]) (QI D cA L T r ry [(21, 1000)] σ sz (fun x σ1 => True)) 0 0 (dm L sz) := by
  refine Met.ofW (cc := cX11_lacks) (maxL := 3) (ret := (some .int)) (by decide) rfl ?_
  intro p e s m args below meth c s₁ B hml hv
  obtain ⟨rfl, hsz, hP, hK, hN⟩ := hv
  have hx := B.exec
  have hb := B.bytes
  have hr := B.returns
  have hts : ∀ w ∈ wsA, w.before _ s = true := fun w h => atoms_spec (ws := .code yX11_lacks cX11_lacks 3 (some .int) :: wsA) B.pre w (List.mem_cons_of_mem _ h)
  have hown : s.vm.findClass RX11 = some m.cls := findClass_of_methodNamed B.named
  subst hsz
  have hLA : LA (dm L s.heap.size) L := ⟨hL, fun a h => Or.inl h⟩
  have hA : ∀ q : Nat, s.heap.size ≤ q → dm L s.heap.size q := fun q h => Or.inr h
  have hS : va_S (dm L s.heap.size) s.heap s.heap [] := va_S.rf
  have hB : TS D cA L T r ry [(21, 1000)] σ σ ρ s.heap := ⟨hP, hW, FR.rf⟩
  have hl := lv_entry ([.ref h0, .int p1, .int p2]) (n := 3) (Nat.le_of_ble_eq_true rfl)
  rw [lg_entry_eq]
  generalize (lg_sl ([.ref h0, .int p1, .int p2]) ++ List.replicate (3 - (lg_sl ([.ref h0, .int p1, .int p2])).length) Slot.unset).toArray = ls at hl ⊢
  have hl : lv_has ls 3 [(0, .ref h0), (1, .int p1), (2, .int p2)] := hl
  refine lv_aload_n hx hb dX11_lacks_0 rfl (lv_at hl 0 rfl) ?_
  refine lv_iload_n hx hb dX11_lacks_1 rfl (lv_at hl 1 rfl) ?_
  refine t_ci (va_runV (As := [.int p1]) (rest := []) ⟨hx, hb, hml, hown, hts⟩ (cy_X11_isPilgrim l D cA L T r hG hLA.1 σ ρ hB.2.1 _ h0 mh0 th0 p1) (cV hts mv_X11_isPilgrim mw_4_70 rfl rfl ⟨Nat.le_of_ble_eq_true rfl, Nat.le_of_ble_eq_true rfl⟩) (pV hB.1 hK hN mh0 th0 (show shp cA 11 _ _ _ = .inr (11, Fs11 _ _ _) from rfl) rfl) rfl rfl hl.1 rfl (lv_room (Nat.le_of_ble_eq_true rfl)) dX11_lacks_2 ⟨Nat.le_of_ble_eq_true rfl, Nat.le_of_ble_eq_true rfl⟩) hLA hA hB hS (by decide) (fun x_3 σ_1 ρ_2 H locs hB fσ_1 pσ_1 hS => ?_)
  have qσ_1 := FR.nil fσ_1
  subst qσ_1
  obtain ⟨ox_3, ix_3⟩ := pσ_1
  refine lv_if_eq (tgt := 16) hx hb dX11_lacks_5 (by decide) (fun c_4 => ?_) (fun c_4 => ?_)
  · skip
    have uc_4 := i_eq (n := 0) (by decide) c_4
    refine lv_bipush (v := (-2)) hx hb dX11_lacks_16 (by decide) ?_
    exact W.iret (v := (-2)) hx hb hr (fun t ht hW => ⟨⟨(-2), (σ, ρ_2), rfl, ⟨hB.2.1, hB.2.2, trivial⟩, (show TP D cA L T r σ ρ_2 t.heap from by rw [ht]; exact hB.1)⟩, hS.F ht⟩) hS.2.2 dX11_lacks_18
  · skip
    have uc_4 := i_ne (n := 0) (by decide) c_4
    refine lv_aload_n hx hb dX11_lacks_8 rfl (lv_at hl 0 rfl) ?_
    refine lv_iload_n hx hb dX11_lacks_9 rfl (lv_at hl 2 rfl) ?_
    refine t_ci (va_runV (As := [.int p2]) (rest := []) ⟨hx, hb, hml, hown, hts⟩ (cy_X11_isSortOrNone l D cA L T r hG hLA.1 σ ρ_2 hB.2.1 _ h0 mh0 th0 p2) (cV hts mv_X11_isSortOrNone mw_4_211 rfl rfl ⟨Nat.le_of_ble_eq_true rfl, Nat.le_of_ble_eq_true rfl⟩) (pV hB.1 hK hN mh0 th0 (show shp cA 11 _ _ _ = .inr (11, Fs11 _ _ _) from rfl) rfl) rfl rfl hl.1 rfl (lv_room (Nat.le_of_ble_eq_true rfl)) dX11_lacks_10 ⟨Nat.le_of_ble_eq_true rfl, Nat.le_of_ble_eq_true rfl⟩) hLA hA hB hS (by decide) (fun x_7 σ_5 ρ_6 H locs hB fσ_5 pσ_5 hS => ?_)
    have qσ_5 := FR.nil fσ_5
    subst qσ_5
    obtain ⟨ox_7, ix_7⟩ := pσ_5
    refine lv_if_ne (tgt := 19) hx hb dX11_lacks_13 (by decide) (fun c_8 => ?_) (fun c_8 => ?_)
    · skip
      have uc_8 := i_ne (n := 0) (by decide) c_8
      refine lv_aload_n hx hb dX11_lacks_19 rfl (lv_at hl 0 rfl) ?_
      refine t_gr hx hb hts hown hK hG hB mh0 th0 fq_11_7 rfl mw_2_214 dX11_lacks_20 (fun b_9 hb_9 mb_9 tb_9 => ?_)
      refine lv_aload_n hx hb dX11_lacks_23 rfl (lv_at hl 0 rfl) ?_
      refine t_gr hx hb hts hown hK hG hB mh0 th0 fq_11_3 rfl mw_2_210 dX11_lacks_24 (fun b_10 hb_10 mb_10 tb_10 => ?_)
      refine t_gr hx hb hts hown hK hG hB mb_10 tb_10 fq_10_0 rfl mw_1_236 dX11_lacks_27 (fun b_11 hb_11 mb_11 tb_11 => ?_)
      refine lv_aload_n hx hb dX11_lacks_30 rfl (lv_at hl 0 rfl) ?_
      refine t_gk hx hb hts hown hK hB mh0 th0 fq_11_3 hb_10 mw_2_210 dX11_lacks_31 ?_
      refine t_gr hx hb hts hown hK hG hB mb_10 tb_10 fq_10_1 rfl mw_1_239 dX11_lacks_34 (fun b_12 hb_12 mb_12 tb_12 => ?_)
      refine lv_iload_n hx hb dX11_lacks_37 rfl (lv_at hl 1 rfl) ?_
      refine t_cv (va_runV (As := [.ref b_11, .ref b_12, .int p1]) (rest := []) ⟨hx, hb, hml, hown, hts⟩ (cy_X0_lackNow l D cA L T r hG hLA.1 σ ρ_6 hB.2.1 _ b_9 mb_9 tb_9 b_11 mb_11 tb_11 b_12 mb_12 tb_12 p1 (by first | omega | decide) (by first | omega | decide)) (cV hts mv_X0_lackNow mw_4_228 rfl rfl ⟨Nat.le_of_ble_eq_true rfl, Nat.le_of_ble_eq_true rfl⟩) (pV hB.1 hK hN mb_9 tb_9 (show shp cA 0 _ _ _ = .inr (0, Fs0 _ _ _) from rfl) rfl) rfl rfl hl.1 rfl (lv_room (Nat.le_of_ble_eq_true rfl)) dX11_lacks_38 ⟨Nat.le_of_ble_eq_true rfl, Nat.le_of_ble_eq_true rfl⟩) hLA hA hB hS (by decide) (fun σ_13 ρ_14 H locs hB fσ_13 pσ_13 hS => ?_)
      refine lv_iload_n hx hb dX11_lacks_41 rfl (lv_at hl 2 rfl) ?_
      refine lv_iconst (v := (-1)) hx hb dX11_lacks_42 (by decide) ?_
      refine lv_icmp_ne (tgt := 63) hx hb dX11_lacks_43 (by decide) (fun c_16 => ?_) (fun c_16 => ?_)
      · skip
        have uc_16 := i_ne (n := (-1)) (by decide) c_16
        refine lv_aload_n hx hb dX11_lacks_63 rfl (lv_at hl 0 rfl) ?_
        refine t_gk hx hb hts hown hK hB mh0 th0 fq_11_7 hb_9 mw_2_214 dX11_lacks_64 ?_
        refine t_gr hx hb hts hown hK hG hB mb_9 tb_9 fq_0_1 rfl mw_2_98 dX11_lacks_67 (fun b_17 hb_17 mb_17 tb_17 => ?_)
        refine lv_iload_n hx hb dX11_lacks_70 rfl (lv_at hl 2 rfl) ?_
        refine t_ai hx hb hK hB mb_17 tb_17 ai_21 (fun _ => rfl) (i_in (by omega) (by omega)) dX11_lacks_71 (fun x_18 ex_18 lx_18 ux_18 => ?_)
        exact W.iret (v := x_18) hx hb hr (fun t ht hW => ⟨⟨x_18, (σ_13, ρ_14), rfl, ⟨hB.2.1, hB.2.2, trivial⟩, (show TP D cA L T r σ_13 ρ_14 t.heap from by rw [ht]; exact hB.1)⟩, hS.F ht⟩) hS.2.2 dX11_lacks_72
      · skip
        have uc_16 := i_eq (n := (-1)) (by decide) c_16
        refine lv_aload_n hx hb dX11_lacks_46 rfl (lv_at hl 0 rfl) ?_
        refine t_gk hx hb hts hown hK hB mh0 th0 fq_11_7 hb_9 mw_2_214 dX11_lacks_47 ?_
        refine lv_aload_n hx hb dX11_lacks_50 rfl (lv_at hl 0 rfl) ?_
        refine t_gk hx hb hts hown hK hB mh0 th0 fq_11_3 hb_10 mw_2_210 dX11_lacks_51 ?_
        refine t_gk hx hb hts hown hK hB mb_10 tb_10 fq_10_0 hb_11 mw_1_236 dX11_lacks_54 ?_
        refine t_ci (va_runV (As := [.ref b_11]) (rest := []) ⟨hx, hb, hml, hown, hts⟩ (cy_X0_priceOfNeed l D cA L T r hG hLA.1 σ_13 ρ_14 hB.2.1 _ b_9 mb_9 tb_9 b_11 mb_11 tb_11) (cV hts mv_X0_priceOfNeed mw_5_1 rfl rfl ⟨Nat.le_of_ble_eq_true rfl, Nat.le_of_ble_eq_true rfl⟩) (pV hB.1 hK hN mb_9 tb_9 (show shp cA 0 _ _ _ = .inr (0, Fs0 _ _ _) from rfl) rfl) rfl rfl hl.1 rfl (lv_room (Nat.le_of_ble_eq_true rfl)) dX11_lacks_57 ⟨Nat.le_of_ble_eq_true rfl, Nat.le_of_ble_eq_true rfl⟩) hLA hA hB hS (by decide) (fun x_21 σ_19 ρ_20 H locs hB fσ_19 pσ_19 hS => ?_)
        have qσ_19 := FR.nil fσ_19
        subst qσ_19
        refine lv_goto (tgt := 72) hx hb dX11_lacks_60 (by decide) ?_
        exact W.iret (v := x_21) hx hb hr (fun t ht hW => ⟨⟨x_21, (σ_13, ρ_20), rfl, ⟨hB.2.1, hB.2.2, trivial⟩, (show TP D cA L T r σ_13 ρ_20 t.heap from by rw [ht]; exact hB.1)⟩, hS.F ht⟩) hS.2.2 dX11_lacks_72
    · skip
      have uc_8 := i_eq (n := 0) (by decide) c_8
      refine lv_bipush (v := (-2)) hx hb dX11_lacks_16 (by decide) ?_
      exact W.iret (v := (-2)) hx hb hr (fun t ht hW => ⟨⟨(-2), (σ, ρ_6), rfl, ⟨hB.2.1, hB.2.2, trivial⟩, (show TP D cA L T r σ ρ_6 t.heap from by rw [ht]; exact hB.1)⟩, hS.F ht⟩) hS.2.2 dX11_lacks_18
theorem mw_5_22 : (.instanceMethod yX0_lackEver : Cond) ∈ wsA := wsA_t (List.mem_append_right _ (List.mem_append_right _ (List.mem_append_right _ (List.mem_append_right _ (List.mem_append_left _ (List.mem_of_getElem? (l := tables_1_5) (i := 22) rfl)))))) rfl
theorem mw_5_23 : (.selects RX0 yX0_lackEver yX0_lackEver : Cond) ∈ wsA := wsA_t (List.mem_append_right _ (List.mem_append_right _ (List.mem_append_right _ (List.mem_append_right _ (List.mem_append_left _ (List.mem_of_getElem? (l := tables_1_5) (i := 23) rfl)))))) rfl
theorem mw_5_24 : (.code yX0_lackEver cX0_lackEver 5 none : Cond) ∈ wsA := wsA_t (List.mem_append_right _ (List.mem_append_right _ (List.mem_append_right _ (List.mem_append_right _ (List.mem_append_left _ (List.mem_of_getElem? (l := tables_1_5) (i := 24) rfl)))))) rfl
theorem mw_5_21 : (.methodLink RX11 263 yX0_lackEver : Cond) ∈ wsA := wsA_t (List.mem_append_right _ (List.mem_append_right _ (List.mem_append_right _ (List.mem_append_right _ (List.mem_append_left _ (List.mem_of_getElem? (l := tables_1_5) (i := 21) rfl)))))) rfl
theorem dX11_sure_0 : decode cX11_sure 0 = .ok (.aload_n 0, 1) := by decide +kernel
theorem dX11_sure_1 : decode cX11_sure 1 = .ok (.iload_n 1, 1) := by decide +kernel
theorem dX11_sure_2 : decode cX11_sure 2 = .ok (.invokevirtual 117, 3) := by decide +kernel
theorem dX11_sure_5 : decode cX11_sure 5 = .ok (.ifCond .eq 11, 3) := by decide +kernel
theorem dX11_sure_16 : decode cX11_sure 16 = .ok (.bipush (-2), 2) := by decide +kernel
theorem dX11_sure_18 : decode cX11_sure 18 = .ok (.ireturn, 1) := by decide +kernel
theorem dX11_sure_8 : decode cX11_sure 8 = .ok (.aload_n 0, 1) := by decide +kernel
theorem dX11_sure_9 : decode cX11_sure 9 = .ok (.iload_n 2, 1) := by decide +kernel
theorem dX11_sure_10 : decode cX11_sure 10 = .ok (.invokevirtual 238, 3) := by decide +kernel
theorem dX11_sure_13 : decode cX11_sure 13 = .ok (.ifCond .ne 6, 3) := by decide +kernel
theorem dX11_sure_19 : decode cX11_sure 19 = .ok (.aload_n 0, 1) := by decide +kernel
theorem dX11_sure_20 : decode cX11_sure 20 = .ok (.getfield 57, 3) := by decide +kernel
theorem dX11_sure_23 : decode cX11_sure 23 = .ok (.aload_n 0, 1) := by decide +kernel
theorem dX11_sure_24 : decode cX11_sure 24 = .ok (.getfield 32, 3) := by decide +kernel
theorem dX11_sure_27 : decode cX11_sure 27 = .ok (.getfield 102, 3) := by decide +kernel
theorem dX11_sure_30 : decode cX11_sure 30 = .ok (.aload_n 0, 1) := by decide +kernel
theorem dX11_sure_31 : decode cX11_sure 31 = .ok (.getfield 32, 3) := by decide +kernel
theorem dX11_sure_34 : decode cX11_sure 34 = .ok (.getfield 121, 3) := by decide +kernel
theorem dX11_sure_37 : decode cX11_sure 37 = .ok (.iload_n 1, 1) := by decide +kernel
theorem dX11_sure_38 : decode cX11_sure 38 = .ok (.invokevirtual 263, 3) := by decide +kernel
theorem dX11_sure_41 : decode cX11_sure 41 = .ok (.iload_n 2, 1) := by decide +kernel
theorem dX11_sure_42 : decode cX11_sure 42 = .ok (.iconst (-1), 1) := by decide +kernel
theorem dX11_sure_43 : decode cX11_sure 43 = .ok (.if_icmp .ne 20, 3) := by decide +kernel
theorem dX11_sure_63 : decode cX11_sure 63 = .ok (.aload_n 0, 1) := by decide +kernel
theorem dX11_sure_64 : decode cX11_sure 64 = .ok (.getfield 57, 3) := by decide +kernel
theorem dX11_sure_67 : decode cX11_sure 67 = .ok (.getfield 256, 3) := by decide +kernel
theorem dX11_sure_70 : decode cX11_sure 70 = .ok (.iload_n 2, 1) := by decide +kernel
theorem dX11_sure_71 : decode cX11_sure 71 = .ok (.iaload, 1) := by decide +kernel
theorem dX11_sure_72 : decode cX11_sure 72 = .ok (.ireturn, 1) := by decide +kernel
theorem dX11_sure_46 : decode cX11_sure 46 = .ok (.aload_n 0, 1) := by decide +kernel
theorem dX11_sure_47 : decode cX11_sure 47 = .ok (.getfield 57, 3) := by decide +kernel
theorem dX11_sure_50 : decode cX11_sure 50 = .ok (.aload_n 0, 1) := by decide +kernel
theorem dX11_sure_51 : decode cX11_sure 51 = .ok (.getfield 32, 3) := by decide +kernel
theorem dX11_sure_54 : decode cX11_sure 54 = .ok (.getfield 102, 3) := by decide +kernel
theorem dX11_sure_57 : decode cX11_sure 57 = .ok (.invokevirtual 252, 3) := by decide +kernel
theorem dX11_sure_60 : decode cX11_sure 60 = .ok (.goto 12, 3) := by decide +kernel
theorem mv_X0_lackEver : MV RX0 yX0_lackEver cX0_lackEver 5 none 3 := ⟨mw_5_22, mw_5_23, mw_1_9, mw_5_24, ⟨rfl, by decide, by decide, by decide +kernel⟩⟩
set_option maxHeartbeats 4000000 in
set_option maxRecDepth 100000 in
theorem cy_X11_sure (l : Launch) (D : va_G) (cA : Nat → ClassId) (L : List Nat) (T : Nat → Nat) (r : Rg) (hG : GR L T r) (hL : L.Nodup) (σ : Sg) (ρ : Lg) (hW : WT L ry T σ) (sz : Nat) (h0 : Nat) (mh0 : h0 ∈ L) (th0 : T h0 = 11) (p1 : Int32) (p2 : Int32) : Met l yX11_sure (.code yX11_sure cX11_sure 3 (some .int) :: wsA) ({ frames := 3, cells := 0, slots := 0, locals := 87 }) (PR D cA L T r σ ρ sz [.ref h0, .int p1, .int p2]) (QI D cA L T r ry [(21, 1000)] σ sz (fun x σ1 => True)) 0 0 (dm L sz) := by
  refine Met.ofW (cc := cX11_sure) (maxL := 3) (ret := (some .int)) (by decide) rfl ?_
  intro p e s m args below meth c s₁ B hml hv
  obtain ⟨rfl, hsz, hP, hK, hN⟩ := hv
  have hx := B.exec
  have hb := B.bytes
  have hr := B.returns
  have hts : ∀ w ∈ wsA, w.before _ s = true := fun w h => atoms_spec (ws := .code yX11_sure cX11_sure 3 (some .int) :: wsA) B.pre w (List.mem_cons_of_mem _ h)
  have hown : s.vm.findClass RX11 = some m.cls := findClass_of_methodNamed B.named
  subst hsz
  have hLA : LA (dm L s.heap.size) L := ⟨hL, fun a h => Or.inl h⟩
  have hA : ∀ q : Nat, s.heap.size ≤ q → dm L s.heap.size q := fun q h => Or.inr h
  have hS : va_S (dm L s.heap.size) s.heap s.heap [] := va_S.rf
  have hB : TS D cA L T r ry [(21, 1000)] σ σ ρ s.heap := ⟨hP, hW, FR.rf⟩
  have hl := lv_entry ([.ref h0, .int p1, .int p2]) (n := 3) (Nat.le_of_ble_eq_true rfl)
  rw [lg_entry_eq]
  generalize (lg_sl ([.ref h0, .int p1, .int p2]) ++ List.replicate (3 - (lg_sl ([.ref h0, .int p1, .int p2])).length) Slot.unset).toArray = ls at hl ⊢
  have hl : lv_has ls 3 [(0, .ref h0), (1, .int p1), (2, .int p2)] := hl
  refine lv_aload_n hx hb dX11_sure_0 rfl (lv_at hl 0 rfl) ?_
  refine lv_iload_n hx hb dX11_sure_1 rfl (lv_at hl 1 rfl) ?_
  refine t_ci (va_runV (As := [.int p1]) (rest := []) ⟨hx, hb, hml, hown, hts⟩ (cy_X11_isPilgrim l D cA L T r hG hLA.1 σ ρ hB.2.1 _ h0 mh0 th0 p1) (cV hts mv_X11_isPilgrim mw_4_70 rfl rfl ⟨Nat.le_of_ble_eq_true rfl, Nat.le_of_ble_eq_true rfl⟩) (pV hB.1 hK hN mh0 th0 (show shp cA 11 _ _ _ = .inr (11, Fs11 _ _ _) from rfl) rfl) rfl rfl hl.1 rfl (lv_room (Nat.le_of_ble_eq_true rfl)) dX11_sure_2 ⟨Nat.le_of_ble_eq_true rfl, Nat.le_of_ble_eq_true rfl⟩) hLA hA hB hS (by decide) (fun x_3 σ_1 ρ_2 H locs hB fσ_1 pσ_1 hS => ?_)
  have qσ_1 := FR.nil fσ_1
  subst qσ_1
  obtain ⟨ox_3, ix_3⟩ := pσ_1
  refine lv_if_eq (tgt := 16) hx hb dX11_sure_5 (by decide) (fun c_4 => ?_) (fun c_4 => ?_)
  · skip
    have uc_4 := i_eq (n := 0) (by decide) c_4
    refine lv_bipush (v := (-2)) hx hb dX11_sure_16 (by decide) ?_
    exact W.iret (v := (-2)) hx hb hr (fun t ht hW => ⟨⟨(-2), (σ, ρ_2), rfl, ⟨hB.2.1, hB.2.2, trivial⟩, (show TP D cA L T r σ ρ_2 t.heap from by rw [ht]; exact hB.1)⟩, hS.F ht⟩) hS.2.2 dX11_sure_18
  · skip
    have uc_4 := i_ne (n := 0) (by decide) c_4
    refine lv_aload_n hx hb dX11_sure_8 rfl (lv_at hl 0 rfl) ?_
    refine lv_iload_n hx hb dX11_sure_9 rfl (lv_at hl 2 rfl) ?_
    refine t_ci (va_runV (As := [.int p2]) (rest := []) ⟨hx, hb, hml, hown, hts⟩ (cy_X11_isSortOrNone l D cA L T r hG hLA.1 σ ρ_2 hB.2.1 _ h0 mh0 th0 p2) (cV hts mv_X11_isSortOrNone mw_4_211 rfl rfl ⟨Nat.le_of_ble_eq_true rfl, Nat.le_of_ble_eq_true rfl⟩) (pV hB.1 hK hN mh0 th0 (show shp cA 11 _ _ _ = .inr (11, Fs11 _ _ _) from rfl) rfl) rfl rfl hl.1 rfl (lv_room (Nat.le_of_ble_eq_true rfl)) dX11_sure_10 ⟨Nat.le_of_ble_eq_true rfl, Nat.le_of_ble_eq_true rfl⟩) hLA hA hB hS (by decide) (fun x_7 σ_5 ρ_6 H locs hB fσ_5 pσ_5 hS => ?_)
    have qσ_5 := FR.nil fσ_5
    subst qσ_5
    obtain ⟨ox_7, ix_7⟩ := pσ_5
    refine lv_if_ne (tgt := 19) hx hb dX11_sure_13 (by decide) (fun c_8 => ?_) (fun c_8 => ?_)
    · skip
      have uc_8 := i_ne (n := 0) (by decide) c_8
      refine lv_aload_n hx hb dX11_sure_19 rfl (lv_at hl 0 rfl) ?_
      refine t_gr hx hb hts hown hK hG hB mh0 th0 fq_11_7 rfl mw_2_214 dX11_sure_20 (fun b_9 hb_9 mb_9 tb_9 => ?_)
      refine lv_aload_n hx hb dX11_sure_23 rfl (lv_at hl 0 rfl) ?_
      refine t_gr hx hb hts hown hK hG hB mh0 th0 fq_11_3 rfl mw_2_210 dX11_sure_24 (fun b_10 hb_10 mb_10 tb_10 => ?_)
      refine t_gr hx hb hts hown hK hG hB mb_10 tb_10 fq_10_0 rfl mw_1_236 dX11_sure_27 (fun b_11 hb_11 mb_11 tb_11 => ?_)
      refine lv_aload_n hx hb dX11_sure_30 rfl (lv_at hl 0 rfl) ?_
      refine t_gk hx hb hts hown hK hB mh0 th0 fq_11_3 hb_10 mw_2_210 dX11_sure_31 ?_
      refine t_gr hx hb hts hown hK hG hB mb_10 tb_10 fq_10_1 rfl mw_1_239 dX11_sure_34 (fun b_12 hb_12 mb_12 tb_12 => ?_)
      refine lv_iload_n hx hb dX11_sure_37 rfl (lv_at hl 1 rfl) ?_
      refine t_cv (va_runV (As := [.ref b_11, .ref b_12, .int p1]) (rest := []) ⟨hx, hb, hml, hown, hts⟩ (cy_X0_lackEver l D cA L T r hG hLA.1 σ ρ_6 hB.2.1 _ b_9 mb_9 tb_9 b_11 mb_11 tb_11 b_12 mb_12 tb_12 p1 (by first | omega | decide) (by first | omega | decide)) (cV hts mv_X0_lackEver mw_5_21 rfl rfl ⟨Nat.le_of_ble_eq_true rfl, Nat.le_of_ble_eq_true rfl⟩) (pV hB.1 hK hN mb_9 tb_9 (show shp cA 0 _ _ _ = .inr (0, Fs0 _ _ _) from rfl) rfl) rfl rfl hl.1 rfl (lv_room (Nat.le_of_ble_eq_true rfl)) dX11_sure_38 ⟨Nat.le_of_ble_eq_true rfl, Nat.le_of_ble_eq_true rfl⟩) hLA hA hB hS (by decide) (fun σ_13 ρ_14 H locs hB fσ_13 pσ_13 hS => ?_)
      refine lv_iload_n hx hb dX11_sure_41 rfl (lv_at hl 2 rfl) ?_
      refine lv_iconst (v := (-1)) hx hb dX11_sure_42 (by decide) ?_
      refine lv_icmp_ne (tgt := 63) hx hb dX11_sure_43 (by decide) (fun c_16 => ?_) (fun c_16 => ?_)
      · skip
        have uc_16 := i_ne (n := (-1)) (by decide) c_16
        refine lv_aload_n hx hb dX11_sure_63 rfl (lv_at hl 0 rfl) ?_
        refine t_gk hx hb hts hown hK hB mh0 th0 fq_11_7 hb_9 mw_2_214 dX11_sure_64 ?_
        refine t_gr hx hb hts hown hK hG hB mb_9 tb_9 fq_0_1 rfl mw_2_98 dX11_sure_67 (fun b_17 hb_17 mb_17 tb_17 => ?_)
        refine lv_iload_n hx hb dX11_sure_70 rfl (lv_at hl 2 rfl) ?_
        refine t_ai hx hb hK hB mb_17 tb_17 ai_21 (fun _ => rfl) (i_in (by omega) (by omega)) dX11_sure_71 (fun x_18 ex_18 lx_18 ux_18 => ?_)
        exact W.iret (v := x_18) hx hb hr (fun t ht hW => ⟨⟨x_18, (σ_13, ρ_14), rfl, ⟨hB.2.1, hB.2.2, trivial⟩, (show TP D cA L T r σ_13 ρ_14 t.heap from by rw [ht]; exact hB.1)⟩, hS.F ht⟩) hS.2.2 dX11_sure_72
      · skip
        have uc_16 := i_eq (n := (-1)) (by decide) c_16
        refine lv_aload_n hx hb dX11_sure_46 rfl (lv_at hl 0 rfl) ?_
        refine t_gk hx hb hts hown hK hB mh0 th0 fq_11_7 hb_9 mw_2_214 dX11_sure_47 ?_
        refine lv_aload_n hx hb dX11_sure_50 rfl (lv_at hl 0 rfl) ?_
        refine t_gk hx hb hts hown hK hB mh0 th0 fq_11_3 hb_10 mw_2_210 dX11_sure_51 ?_
        refine t_gk hx hb hts hown hK hB mb_10 tb_10 fq_10_0 hb_11 mw_1_236 dX11_sure_54 ?_
        refine t_ci (va_runV (As := [.ref b_11]) (rest := []) ⟨hx, hb, hml, hown, hts⟩ (cy_X0_priceOfNeed l D cA L T r hG hLA.1 σ_13 ρ_14 hB.2.1 _ b_9 mb_9 tb_9 b_11 mb_11 tb_11) (cV hts mv_X0_priceOfNeed mw_5_1 rfl rfl ⟨Nat.le_of_ble_eq_true rfl, Nat.le_of_ble_eq_true rfl⟩) (pV hB.1 hK hN mb_9 tb_9 (show shp cA 0 _ _ _ = .inr (0, Fs0 _ _ _) from rfl) rfl) rfl rfl hl.1 rfl (lv_room (Nat.le_of_ble_eq_true rfl)) dX11_sure_57 ⟨Nat.le_of_ble_eq_true rfl, Nat.le_of_ble_eq_true rfl⟩) hLA hA hB hS (by decide) (fun x_21 σ_19 ρ_20 H locs hB fσ_19 pσ_19 hS => ?_)
        have qσ_19 := FR.nil fσ_19
        subst qσ_19
        refine lv_goto (tgt := 72) hx hb dX11_sure_60 (by decide) ?_
        exact W.iret (v := x_21) hx hb hr (fun t ht hW => ⟨⟨x_21, (σ_13, ρ_20), rfl, ⟨hB.2.1, hB.2.2, trivial⟩, (show TP D cA L T r σ_13 ρ_20 t.heap from by rw [ht]; exact hB.1)⟩, hS.F ht⟩) hS.2.2 dX11_sure_72
    · skip
      have uc_8 := i_eq (n := 0) (by decide) c_8
      refine lv_bipush (v := (-2)) hx hb dX11_sure_16 (by decide) ?_
      exact W.iret (v := (-2)) hx hb hr (fun t ht hW => ⟨⟨(-2), (σ, ρ_6), rfl, ⟨hB.2.1, hB.2.2, trivial⟩, (show TP D cA L T r σ ρ_6 t.heap from by rw [ht]; exact hB.1)⟩, hS.F ht⟩) hS.2.2 dX11_sure_18
