theorem dX12_canClimb_0 : decode cX12_canClimb 0 = .ok (.aload_n 0, 1) := by decide +kernel
theorem dX12_canClimb_1 : decode cX12_canClimb 1 = .ok (.iload_n 1, 1) := by decide +kernel
theorem dX12_canClimb_2 : decode cX12_canClimb 2 = .ok (.iconst 0, 1) := by decide +kernel
theorem dX12_canClimb_3 : decode cX12_canClimb 3 = .ok (.invokevirtual 324, 3) := by decide +kernel
theorem dX12_canClimb_6 : decode cX12_canClimb 6 = .ok (.istore_n 2, 1) := by decide +kernel
theorem dX12_canClimb_7 : decode cX12_canClimb 7 = .ok (.iload_n 2, 1) := by decide +kernel
theorem dX12_canClimb_8 : decode cX12_canClimb 8 = .ok (.aload_n 0, 1) := by decide +kernel
theorem dX12_canClimb_9 : decode cX12_canClimb 9 = .ok (.getfield 39, 3) := by decide +kernel
theorem dX12_canClimb_12 : decode cX12_canClimb 12 = .ok (.iconst 2, 1) := by decide +kernel
theorem dX12_canClimb_13 : decode cX12_canClimb 13 = .ok (.iaload, 1) := by decide +kernel
theorem dX12_canClimb_14 : decode cX12_canClimb 14 = .ok (.if_icmp .ge 20, 3) := by decide +kernel
theorem dX12_canClimb_34 : decode cX12_canClimb 34 = .ok (.iconst 0, 1) := by decide +kernel
theorem dX12_canClimb_35 : decode cX12_canClimb 35 = .ok (.ireturn, 1) := by decide +kernel
theorem dX12_canClimb_17 : decode cX12_canClimb 17 = .ok (.aload_n 0, 1) := by decide +kernel
theorem dX12_canClimb_18 : decode cX12_canClimb 18 = .ok (.iload_n 1, 1) := by decide +kernel
theorem dX12_canClimb_19 : decode cX12_canClimb 19 = .ok (.aload_n 0, 1) := by decide +kernel
theorem dX12_canClimb_20 : decode cX12_canClimb 20 = .ok (.iload_n 2, 1) := by decide +kernel
theorem dX12_canClimb_21 : decode cX12_canClimb 21 = .ok (.invokevirtual 332, 3) := by decide +kernel
theorem dX12_canClimb_24 : decode cX12_canClimb 24 = .ok (.invokevirtual 304, 3) := by decide +kernel
theorem dX12_canClimb_27 : decode cX12_canClimb 27 = .ok (.ifCond .le 7, 3) := by decide +kernel
theorem dX12_canClimb_30 : decode cX12_canClimb 30 = .ok (.iconst 1, 1) := by decide +kernel
theorem dX12_canClimb_31 : decode cX12_canClimb 31 = .ok (.goto 4, 3) := by decide +kernel
set_option maxHeartbeats 4000000 in
set_option maxRecDepth 100000 in
theorem cy_X12_canClimb (l : Launch) (D : va_G) (cA : Nat → ClassId) (L : List Nat) (T : Nat → Nat) (r : Rg) (hG : GR L T r) (hL : L.Nodup) (σ : Sg) (ρ : Lg) (hW : WT L ry T σ) (sz : Nat) (h0 : Nat) (mh0 : h0 ∈ L) (th0 : T h0 = 12) (p1 : Int32) (bs : Nat) (hbs : r h0 20 = some bs) (mbs : bs ∈ L) (tbs : T bs = 70) (w0 : 0 ≤ p1.toInt) (w1 : p1.toInt ≤ 3) : Met l yX12_canClimb (.code yX12_canClimb cX12_canClimb 3 (some .boolean) :: wsA) ({ frames := 2, cells := 0, slots := 0, locals := 43 }) (PR D cA L T r σ ρ sz [.ref h0, .int p1]) (QI D cA L T r ry ([] : List (Nat × Nat)) σ sz (fun x σ1 => (0 ≤ x.toInt ∧ x.toInt ≤ 1))) 0 0 (dm L sz) := by
  refine Met.ofW (cc := cX12_canClimb) (maxL := 3) (ret := (some .boolean)) (by decide) rfl ?_
  intro p e s m args below meth c s₁ B hml hv
  obtain ⟨rfl, hsz, hP, hK, hN⟩ := hv
  have hx := B.exec
  have hb := B.bytes
  have hr := B.returns
  have hts : ∀ w ∈ wsA, w.before _ s = true := fun w h => atoms_spec (ws := .code yX12_canClimb cX12_canClimb 3 (some .boolean) :: wsA) B.pre w (List.mem_cons_of_mem _ h)
  have hown : s.vm.findClass RX12 = some m.cls := findClass_of_methodNamed B.named
  subst hsz
  have hLA : LA (dm L s.heap.size) L := ⟨hL, fun a h => Or.inl h⟩
  have hA : ∀ q : Nat, s.heap.size ≤ q → dm L s.heap.size q := fun q h => Or.inr h
  have hS : va_S (dm L s.heap.size) s.heap s.heap [] := va_S.rf
  have hB : TS D cA L T r ry ([] : List (Nat × Nat)) σ σ ρ s.heap := ⟨hP, hW, FR.rf⟩
  have hl := lv_entry ([.ref h0, .int p1]) (n := 3) (Nat.le_of_ble_eq_true rfl)
  rw [lg_entry_eq]
  generalize (lg_sl ([.ref h0, .int p1]) ++ List.replicate (3 - (lg_sl ([.ref h0, .int p1])).length) Slot.unset).toArray = ls at hl ⊢
  have hl : lv_has ls 3 [(0, .ref h0), (1, .int p1)] := hl
  refine lv_aload_n hx hb dX12_canClimb_0 rfl (lv_at hl 0 rfl) ?_
  refine lv_iload_n hx hb dX12_canClimb_1 rfl (lv_at hl 1 rfl) ?_
  refine lv_iconst (v := 0) hx hb dX12_canClimb_2 (by decide) ?_
  refine t_ci (va_runV (As := [.int p1, .int 0]) (rest := []) ⟨hx, hb, hml, hown, hts⟩ (cy_X12_pilgrimOf_0 l D cA L T r hG hLA.1 σ ρ hB.2.1 _ h0 mh0 th0 p1 (by first | omega | decide) (by first | omega | decide)) (cV hts mv_X12_pilgrimOf mw_7_69 rfl rfl ⟨Nat.le_of_ble_eq_true rfl, Nat.le_of_ble_eq_true rfl⟩) (pV hB.1 hK hN mh0 th0 (show shp cA 12 _ _ _ = .inr (12, Fs12 _ _ _) from rfl) rfl) rfl rfl hl.1 rfl (lv_room (Nat.le_of_ble_eq_true rfl)) dX12_canClimb_3 ⟨Nat.le_of_ble_eq_true rfl, Nat.le_of_ble_eq_true rfl⟩) hLA hA hB hS (by decide) (fun x_3 σ_1 ρ_2 H locs hB fσ_1 pσ_1 hS => ?_)
  have qσ_1 := FR.nil fσ_1
  subst qσ_1
  obtain ⟨lx_3, ux_3⟩ := pσ_1
  refine lv_istore_n (lv' := [(2, .int x_3), (0, .ref h0), (1, .int p1)]) hx hb dX12_canClimb_6 rfl hl (by decide) rfl (fun ls hl => ?_)
  refine lv_iload_n hx hb dX12_canClimb_7 rfl (lv_at hl 0 rfl) ?_
  refine lv_aload_n hx hb dX12_canClimb_8 rfl (lv_at hl 1 rfl) ?_
  refine t_gk hx hb hts hown hK hB mh0 th0 fq_12_20 hbs mw_5_236 dX12_canClimb_9 ?_
  refine lv_iconst (v := 2) hx hb dX12_canClimb_12 (by decide) ?_
  refine t_aj hx hb hK hB mbs tbs ai_70 (i_in (by decide) (by decide)) dX12_canClimb_13 (fun x_4 ex_4 lx_4 ux_4 => ?_)
  have lx_4 : 0 ≤ x_4.toInt := lx_4
  have ux_4 : x_4.toInt ≤ 8 := ux_4
  have cx_4 := congrArg Int32.toInt ex_4
  refine lv_icmp_ge (tgt := 34) hx hb dX12_canClimb_14 (by decide) (fun c_5 => ?_) (fun c_5 => ?_)
  · skip
    have uc_5 := j_le c_5
    refine lv_iconst (v := 0) hx hb dX12_canClimb_34 (by decide) ?_
    exact W.zret (v := 0) hx hb hr rfl (fun t ht hW => ⟨⟨0, (σ, ρ_2), rfl, ⟨hB.2.1, hB.2.2, (show 0 ≤ (0 : Int32).toInt ∧ (0 : Int32).toInt ≤ 1 from ⟨by decide, by decide⟩)⟩, (show TP D cA L T r σ ρ_2 t.heap from by rw [ht]; exact hB.1)⟩, hS.F ht⟩) hS.2.2 dX12_canClimb_35
  · skip
    have uc_5 := j_nle c_5
    refine lv_aload_n hx hb dX12_canClimb_17 rfl (lv_at hl 1 rfl) ?_
    refine lv_iload_n hx hb dX12_canClimb_18 rfl (lv_at hl 2 rfl) ?_
    refine lv_aload_n hx hb dX12_canClimb_19 rfl (lv_at hl 1 rfl) ?_
    refine lv_iload_n hx hb dX12_canClimb_20 rfl (lv_at hl 0 rfl) ?_
    refine t_ci (va_runV (As := [.int x_3]) (rest := [.int p1, .ref h0]) ⟨hx, hb, hml, hown, hts⟩ (cy_X12_asksFor l D cA L T r hG hLA.1 σ ρ_2 hB.2.1 _ h0 mh0 th0 x_3 (by first | omega | decide) (by first | omega | decide)) (cV hts mv_X12_asksFor mw_7_98 rfl rfl ⟨Nat.le_of_ble_eq_true rfl, Nat.le_of_ble_eq_true rfl⟩) (pV hB.1 hK hN mh0 th0 (show shp cA 12 _ _ _ = .inr (12, Fs12 _ _ _) from rfl) rfl) rfl rfl hl.1 rfl (lv_room (Nat.le_of_ble_eq_true rfl)) dX12_canClimb_21 ⟨Nat.le_of_ble_eq_true rfl, Nat.le_of_ble_eq_true rfl⟩) hLA hA hB hS (by decide) (fun x_8 σ_6 ρ_7 H locs hB fσ_6 pσ_6 hS => ?_)
    have qσ_6 := FR.nil fσ_6
    subst qσ_6
    obtain ⟨lx_8, ux_8⟩ := pσ_6
    refine t_ci (va_runV (As := [.int p1, .int x_8]) (rest := []) ⟨hx, hb, hml, hown, hts⟩ (cy_X12_hasOf l D cA L T r hG hLA.1 σ ρ_7 hB.2.1 _ h0 mh0 th0 p1 x_8 (by first | omega | decide) (by first | omega | decide) (by first | omega | decide) (by first | omega | decide)) (cV hts mv_X12_hasOf mw_7_77 rfl rfl ⟨Nat.le_of_ble_eq_true rfl, Nat.le_of_ble_eq_true rfl⟩) (pV hB.1 hK hN mh0 th0 (show shp cA 12 _ _ _ = .inr (12, Fs12 _ _ _) from rfl) rfl) rfl rfl hl.1 rfl (lv_room (Nat.le_of_ble_eq_true rfl)) dX12_canClimb_24 ⟨Nat.le_of_ble_eq_true rfl, Nat.le_of_ble_eq_true rfl⟩) hLA hA hB hS (by decide) (fun x_11 σ_9 ρ_10 H locs hB fσ_9 pσ_9 hS => ?_)
    have qσ_9 := FR.nil fσ_9
    subst qσ_9
    refine lv_if_le (tgt := 34) hx hb dX12_canClimb_27 (by decide) (fun c_12 => ?_) (fun c_12 => ?_)
    · skip
      have uc_12 := i_le (n := 0) (by decide) c_12
      refine lv_iconst (v := 0) hx hb dX12_canClimb_34 (by decide) ?_
      exact W.zret (v := 0) hx hb hr rfl (fun t ht hW => ⟨⟨0, (σ, ρ_10), rfl, ⟨hB.2.1, hB.2.2, (show 0 ≤ (0 : Int32).toInt ∧ (0 : Int32).toInt ≤ 1 from ⟨by decide, by decide⟩)⟩, (show TP D cA L T r σ ρ_10 t.heap from by rw [ht]; exact hB.1)⟩, hS.F ht⟩) hS.2.2 dX12_canClimb_35
    · skip
      have uc_12 := i_nle (n := 0) (by decide) c_12
      refine lv_iconst (v := 1) hx hb dX12_canClimb_30 (by decide) ?_
      refine lv_goto (tgt := 35) hx hb dX12_canClimb_31 (by decide) ?_
      exact W.zret (v := 1) hx hb hr rfl (fun t ht hW => ⟨⟨1, (σ, ρ_10), rfl, ⟨hB.2.1, hB.2.2, (show 0 ≤ (1 : Int32).toInt ∧ (1 : Int32).toInt ≤ 1 from ⟨by decide, by decide⟩)⟩, (show TP D cA L T r σ ρ_10 t.heap from by rw [ht]; exact hB.1)⟩, hS.F ht⟩) hS.2.2 dX12_canClimb_35
theorem mw_6_15 : (.fieldLink RX12 463 "HillBendsModel" "drawX" "J" : Cond) ∈ wsA := wsA_t (List.mem_append_right _ (List.mem_append_right _ (List.mem_append_right _ (List.mem_append_right _ (List.mem_append_right _ (List.mem_append_left _ (List.mem_of_getElem? (l := tables_1_6) (i := 15) rfl))))))) rfl
theorem mw_8_126 : (.constantLong RX12 467 1103515245 : Cond) ∈ wsA := wsA_t (List.mem_append_right _ (List.mem_append_right _ (List.mem_append_right _ (List.mem_append_right _ (List.mem_append_right _ (List.mem_append_right _ (List.mem_append_right _ (List.mem_of_getElem? (l := tables_1_8) (i := 126) rfl)))))))) rfl
theorem mw_8_127 : (.constantLong RX12 469 12345 : Cond) ∈ wsA := wsA_t (List.mem_append_right _ (List.mem_append_right _ (List.mem_append_right _ (List.mem_append_right _ (List.mem_append_right _ (List.mem_append_right _ (List.mem_append_right _ (List.mem_of_getElem? (l := tables_1_8) (i := 127) rfl)))))))) rfl
theorem mw_8_128 : (.constantLong RX12 471 2147483648 : Cond) ∈ wsA := wsA_t (List.mem_append_right _ (List.mem_append_right _ (List.mem_append_right _ (List.mem_append_right _ (List.mem_append_right _ (List.mem_append_right _ (List.mem_append_right _ (List.mem_of_getElem? (l := tables_1_8) (i := 128) rfl)))))))) rfl
theorem mw_8_129 : (.constantLong RX12 473 65536 : Cond) ∈ wsA := wsA_t (List.mem_append_right _ (List.mem_append_right _ (List.mem_append_right _ (List.mem_append_right _ (List.mem_append_right _ (List.mem_append_right _ (List.mem_append_right _ (List.mem_of_getElem? (l := tables_1_8) (i := 129) rfl)))))))) rfl
theorem dX12_draw_0 : decode cX12_draw 0 = .ok (.aload_n 0, 1) := by decide +kernel
theorem dX12_draw_1 : decode cX12_draw 1 = .ok (.aload_n 0, 1) := by decide +kernel
theorem dX12_draw_2 : decode cX12_draw 2 = .ok (.getfield 463, 3) := by decide +kernel
theorem dX12_draw_5 : decode cX12_draw 5 = .ok (.ldc2_w 467, 3) := by decide +kernel
theorem dX12_draw_8 : decode cX12_draw 8 = .ok (.lmul, 1) := by decide +kernel
theorem dX12_draw_9 : decode cX12_draw 9 = .ok (.ldc2_w 469, 3) := by decide +kernel
theorem dX12_draw_12 : decode cX12_draw 12 = .ok (.ladd, 1) := by decide +kernel
theorem dX12_draw_13 : decode cX12_draw 13 = .ok (.ldc2_w 471, 3) := by decide +kernel
theorem dX12_draw_16 : decode cX12_draw 16 = .ok (.lrem, 1) := by decide +kernel
theorem dX12_draw_17 : decode cX12_draw 17 = .ok (.putfield 463, 3) := by decide +kernel
theorem dX12_draw_20 : decode cX12_draw 20 = .ok (.aload_n 0, 1) := by decide +kernel
theorem dX12_draw_21 : decode cX12_draw 21 = .ok (.getfield 463, 3) := by decide +kernel
theorem dX12_draw_24 : decode cX12_draw 24 = .ok (.ldc2_w 473, 3) := by decide +kernel
theorem dX12_draw_27 : decode cX12_draw 27 = .ok (.ldiv, 1) := by decide +kernel
theorem dX12_draw_28 : decode cX12_draw 28 = .ok (.iload_n 1, 1) := by decide +kernel
theorem dX12_draw_29 : decode cX12_draw 29 = .ok (.i2l, 1) := by decide +kernel
theorem dX12_draw_30 : decode cX12_draw 30 = .ok (.lrem, 1) := by decide +kernel
theorem dX12_draw_31 : decode cX12_draw 31 = .ok (.l2i, 1) := by decide +kernel
theorem dX12_draw_32 : decode cX12_draw 32 = .ok (.ireturn, 1) := by decide +kernel
set_option maxHeartbeats 4000000 in
set_option maxRecDepth 100000 in
theorem cy_X12_draw (l : Launch) (D : va_G) (cA : Nat → ClassId) (L : List Nat) (T : Nat → Nat) (r : Rg) (hG : GR L T r) (hL : L.Nodup) (σ : Sg) (ρ : Lg) (hW : WT L ry T σ) (sz : Nat) (h0 : Nat) (mh0 : h0 ∈ L) (th0 : T h0 = 12) : Met l yX12_draw (.code yX12_draw cX12_draw 2 (some .int) :: wsA) ({ frames := 0, cells := 0, slots := 0, locals := 0 }) (PR D cA L T r σ ρ sz [.ref h0, .int 4]) (QI D cA L T r ry ([] : List (Nat × Nat)) σ sz (fun x σ1 => True)) 0 0 (dm L sz) := by
  refine Met.ofW (cc := cX12_draw) (maxL := 2) (ret := (some .int)) (by decide) rfl ?_
  intro p e s m args below meth c s₁ B hml hv
  obtain ⟨rfl, hsz, hP, hK, hN⟩ := hv
  have hx := B.exec
  have hb := B.bytes
  have hr := B.returns
  have hts : ∀ w ∈ wsA, w.before _ s = true := fun w h => atoms_spec (ws := .code yX12_draw cX12_draw 2 (some .int) :: wsA) B.pre w (List.mem_cons_of_mem _ h)
  have hown : s.vm.findClass RX12 = some m.cls := findClass_of_methodNamed B.named
  subst hsz
  have hLA : LA (dm L s.heap.size) L := ⟨hL, fun a h => Or.inl h⟩
  have hA : ∀ q : Nat, s.heap.size ≤ q → dm L s.heap.size q := fun q h => Or.inr h
  have hS : va_S (dm L s.heap.size) s.heap s.heap [] := va_S.rf
  have hB : TS D cA L T r ry ([] : List (Nat × Nat)) σ σ ρ s.heap := ⟨hP, hW, FR.rf⟩
  have hl := lv_entry ([.ref h0, .int 4]) (n := 2) (Nat.le_of_ble_eq_true rfl)
  rw [lg_entry_eq]
  generalize (lg_sl ([.ref h0, .int 4]) ++ List.replicate (2 - (lg_sl ([.ref h0, .int 4])).length) Slot.unset).toArray = ls at hl ⊢
  have hl : lv_has ls 2 [(0, .ref h0), (1, .int 4)] := hl
  refine lv_aload_n hx hb dX12_draw_0 rfl (lv_at hl 0 rfl) ?_
  refine lv_aload_n hx hb dX12_draw_1 rfl (lv_at hl 0 rfl) ?_
  refine t_gl hx hb hts hown hK hB mh0 th0 fl_12_39 mw_6_15 dX12_draw_2 (fun y_1 ey_1 => ?_)
  refine lv_ldc2 (v := 1103515245) hx hb hown (hts _ mw_8_126) dX12_draw_5 ?_
  refine lv_lmul hx hb dX12_draw_8 ?_
  refine lv_topl (fun y_2 ey_2 => ?_)
  refine lv_ldc2 (v := 12345) hx hb hown (hts _ mw_8_127) dX12_draw_9 ?_
  refine lv_ladd hx hb dX12_draw_12 ?_
  refine lv_topl (fun y_3 ey_3 => ?_)
  refine lv_ldc2 (v := 2147483648) hx hb hown (hts _ mw_8_128) dX12_draw_13 ?_
  refine lv_lrem hx hb dX12_draw_16 (by decide) ?_
  refine lv_topl (fun y_4 ey_4 => ?_)
  refine t_pl hx hb hts hown hK hLA hB hS mh0 th0 fl_12_39 mw_6_15 dX12_draw_17 (fun H locs ρ_5 eρ_5 hB hS => ?_)
  refine lv_aload_n hx hb dX12_draw_20 rfl (lv_at hl 0 rfl) ?_
  refine t_gl hx hb hts hown hK hB mh0 th0 fl_12_39 mw_6_15 dX12_draw_21 (fun y_6 ey_6 => ?_)
  refine lv_ldc2 (v := 65536) hx hb hown (hts _ mw_8_129) dX12_draw_24 ?_
  refine lv_ldiv hx hb dX12_draw_27 (by decide) ?_
  refine lv_topl (fun y_7 ey_7 => ?_)
  refine lv_iload_n hx hb dX12_draw_28 rfl (lv_at hl 1 rfl) ?_
  refine lv_i2l (v := 4) hx hb dX12_draw_29 (by decide) ?_
  refine lv_lrem hx hb dX12_draw_30 (by decide) ?_
  refine lv_topl (fun y_8 ey_8 => ?_)
  refine lv_l2i hx hb dX12_draw_31 rfl ?_
  refine lv_topi (fun x_9 ex_9 => ?_)
  exact W.iret (v := x_9) hx hb hr (fun t ht hW => ⟨⟨x_9, (σ, ρ_5), rfl, ⟨hB.2.1, hB.2.2, trivial⟩, (show TP D cA L T r σ ρ_5 t.heap from by rw [ht]; exact hB.1)⟩, hS.F ht⟩) hS.2.2 dX12_draw_32
theorem mw_5_233 : (.fieldLink RX12 32 "HillBendsModel" "stack" "[J" : Cond) ∈ wsA := wsA_t (List.mem_append_right _ (List.mem_append_right _ (List.mem_append_right _ (List.mem_append_right _ (List.mem_append_left _ (List.mem_of_getElem? (l := tables_1_5) (i := 233) rfl)))))) rfl
theorem mw_5_234 : (.fieldLink RX12 285 "HillBendsModel" "top" "I" : Cond) ∈ wsA := wsA_t (List.mem_append_right _ (List.mem_append_right _ (List.mem_append_right _ (List.mem_append_right _ (List.mem_append_left _ (List.mem_of_getElem? (l := tables_1_5) (i := 234) rfl)))))) rfl
theorem dX12_push_0 : decode cX12_push 0 = .ok (.aload_n 0, 1) := by decide +kernel
theorem dX12_push_1 : decode cX12_push 1 = .ok (.getfield 32, 3) := by decide +kernel
theorem dX12_push_4 : decode cX12_push 4 = .ok (.aload_n 0, 1) := by decide +kernel
theorem dX12_push_5 : decode cX12_push 5 = .ok (.getfield 285, 3) := by decide +kernel
theorem dX12_push_8 : decode cX12_push 8 = .ok (.lload_n 1, 1) := by decide +kernel
theorem dX12_push_9 : decode cX12_push 9 = .ok (.lastore, 1) := by decide +kernel
theorem dX12_push_10 : decode cX12_push 10 = .ok (.aload_n 0, 1) := by decide +kernel
theorem dX12_push_11 : decode cX12_push 11 = .ok (.dup, 1) := by decide +kernel
theorem dX12_push_12 : decode cX12_push 12 = .ok (.getfield 285, 3) := by decide +kernel
theorem dX12_push_15 : decode cX12_push 15 = .ok (.iconst 1, 1) := by decide +kernel
theorem dX12_push_16 : decode cX12_push 16 = .ok (.iadd, 1) := by decide +kernel
theorem dX12_push_17 : decode cX12_push 17 = .ok (.putfield 285, 3) := by decide +kernel
theorem dX12_push_20 : decode cX12_push 20 = .ok (.return_, 1) := by decide +kernel
set_option maxHeartbeats 4000000 in
set_option maxRecDepth 100000 in
theorem cy_X12_push (l : Launch) (D : va_G) (cA : Nat → ClassId) (L : List Nat) (T : Nat → Nat) (r : Rg) (hG : GR L T r) (hL : L.Nodup) (σ : Sg) (ρ : Lg) (hW : WT L ry T σ) (sz : Nat) (h0 : Nat) (mh0 : h0 ∈ L) (th0 : T h0 = 12) (p1 : Int64) (w0 : (σ h0 18).toInt ≤ 63) : Met l yX12_push (.code yX12_push cX12_push 3 none :: wsA) ({ frames := 0, cells := 0, slots := 0, locals := 0 }) (PR D cA L T r σ ρ sz [.ref h0, .long p1]) (QV D cA L T r ry [(12, 18)] σ sz (fun σ1 => True)) 0 0 (dm L sz) := by
  refine Met.ofW (cc := cX12_push) (maxL := 3) (ret := none) (by decide) rfl ?_
  intro p e s m args below meth c s₁ B hml hv
  obtain ⟨rfl, hsz, hP, hK, hN⟩ := hv
  have hx := B.exec
  have hb := B.bytes
  have hr := B.returns
  have hts : ∀ w ∈ wsA, w.before _ s = true := fun w h => atoms_spec (ws := .code yX12_push cX12_push 3 none :: wsA) B.pre w (List.mem_cons_of_mem _ h)
  have hown : s.vm.findClass RX12 = some m.cls := findClass_of_methodNamed B.named
  subst hsz
  have hLA : LA (dm L s.heap.size) L := ⟨hL, fun a h => Or.inl h⟩
  have hA : ∀ q : Nat, s.heap.size ≤ q → dm L s.heap.size q := fun q h => Or.inr h
  have hS : va_S (dm L s.heap.size) s.heap s.heap [] := va_S.rf
  have hB : TS D cA L T r ry [(12, 18)] σ σ ρ s.heap := ⟨hP, hW, FR.rf⟩
  have hl := lv_entry ([.ref h0, .long p1]) (n := 3) (Nat.le_of_ble_eq_true rfl)
  rw [lg_entry_eq]
  generalize (lg_sl ([.ref h0, .long p1]) ++ List.replicate (3 - (lg_sl ([.ref h0, .long p1])).length) Slot.unset).toArray = ls at hl ⊢
  have hl : lv_has ls 3 [(0, .ref h0), (1, .long p1)] := hl
  have w_1 : 0 ≤ (σ h0 18).toInt ∧ (σ h0 18).toInt ≤ 64 := by have z := hB.2.1 h0 mh0 18; rw [th0] at z; exact z
  refine lv_aload_n hx hb dX12_push_0 rfl (lv_at hl 0 rfl) ?_
  refine t_gr hx hb hts hown hK hG hB mh0 th0 fq_12_17 rfl mw_5_233 dX12_push_1 (fun b_2 hb_2 mb_2 tb_2 => ?_)
  refine lv_aload_n hx hb dX12_push_4 rfl (lv_at hl 0 rfl) ?_
  refine t_gv hx hb hts hown hK hB mh0 th0 fi_12_18 rfl mw_5_234 dX12_push_5 ?_
  refine lv_lload_n hx hb dX12_push_8 rfl (lv_at hl 1 rfl) ?_
  refine t_sl hx hb hK hLA hB hS mb_2 tb_2 aj_68 (i_in (by omega) (by omega)) dX12_push_9 (fun H locs ρ_3 eρ_3 hB hS => ?_)
  refine lv_aload_n hx hb dX12_push_10 rfl (lv_at hl 0 rfl) ?_
  refine lv_dup hx hb dX12_push_11 rfl ?_
  refine t_gv hx hb hts hown hK hB mh0 th0 fi_12_18 rfl mw_5_234 dX12_push_12 ?_
  refine lv_iconst (v := 1) hx hb dX12_push_15 (by decide) ?_
  refine lv_iadd hx hb dX12_push_16 ?_
  refine lv_topi (fun x_4 ex_4 => ?_)
  have vx_4 := b_add (rfl : (σ h0 18).toInt = _) (by decide : (1 : Int32).toInt = 1) ex_4 (by omega) (by omega)
  refine t_pi hx hb hts hown hK hLA hB hS mh0 th0 fi_12_18 rfl rfl rfl (by first | omega | (subst_vars; omega)) (by first | omega | (subst_vars; omega)) (Or.inl (by decide)) mw_5_234 dX12_push_17 (fun H locs σ_5 eσ_5 hB hS => ?_)
  have k_6 : σ_5 h0 18 = x_4 := by rw [eσ_5]; exact up2_same _ _ _ _
  exact W.vret hx hb hr (fun t ht hW => ⟨⟨(σ_5, ρ_3), rfl, ⟨hB.2.1, hB.2.2, trivial⟩, (show TP D cA L T r σ_5 ρ_3 t.heap from by rw [ht]; exact hB.1)⟩, hS.F ht⟩) hS.2.2 dX12_push_20
theorem dX12_one_0 : decode cX12_one 0 = .ok (.iload_n 0, 1) := by decide +kernel
theorem dX12_one_1 : decode cX12_one 1 = .ok (.tableswitch 171 2 14 #[67, 71, 75, 79, 107, 119, 131, 143, 155, 171, 167, 171, 93], 67) := by decide +kernel
theorem dX12_one_172 : decode cX12_one 172 = .ok (.lload_n 1, 1) := by decide +kernel
theorem dX12_one_173 : decode cX12_one 173 = .ok (.lload_n 3, 1) := by decide +kernel
theorem dX12_one_174 : decode cX12_one 174 = .ok (.lor, 1) := by decide +kernel
theorem dX12_one_175 : decode cX12_one 175 = .ok (.lreturn, 1) := by decide +kernel
theorem dX12_one_68 : decode cX12_one 68 = .ok (.lload_n 1, 1) := by decide +kernel
theorem dX12_one_69 : decode cX12_one 69 = .ok (.lload_n 3, 1) := by decide +kernel
theorem dX12_one_70 : decode cX12_one 70 = .ok (.ladd, 1) := by decide +kernel
theorem dX12_one_71 : decode cX12_one 71 = .ok (.lreturn, 1) := by decide +kernel
theorem dX12_one_72 : decode cX12_one 72 = .ok (.lload_n 1, 1) := by decide +kernel
theorem dX12_one_73 : decode cX12_one 73 = .ok (.lload_n 3, 1) := by decide +kernel
theorem dX12_one_74 : decode cX12_one 74 = .ok (.lsub, 1) := by decide +kernel
theorem dX12_one_75 : decode cX12_one 75 = .ok (.lreturn, 1) := by decide +kernel
theorem dX12_one_76 : decode cX12_one 76 = .ok (.lload_n 1, 1) := by decide +kernel
theorem dX12_one_77 : decode cX12_one 77 = .ok (.lload_n 3, 1) := by decide +kernel
theorem dX12_one_78 : decode cX12_one 78 = .ok (.lmul, 1) := by decide +kernel
theorem dX12_one_79 : decode cX12_one 79 = .ok (.lreturn, 1) := by decide +kernel
theorem dX12_one_80 : decode cX12_one 80 = .ok (.lload_n 3, 1) := by decide +kernel
theorem dX12_one_81 : decode cX12_one 81 = .ok (.lconst 0, 1) := by decide +kernel
theorem dX12_one_82 : decode cX12_one 82 = .ok (.lcmp, 1) := by decide +kernel
theorem dX12_one_83 : decode cX12_one 83 = .ok (.ifCond .ne 7, 3) := by decide +kernel
theorem dX12_one_90 : decode cX12_one 90 = .ok (.lload_n 1, 1) := by decide +kernel
theorem dX12_one_91 : decode cX12_one 91 = .ok (.lload_n 3, 1) := by decide +kernel
theorem dX12_one_92 : decode cX12_one 92 = .ok (.ldiv, 1) := by decide +kernel
theorem dX12_one_93 : decode cX12_one 93 = .ok (.lreturn, 1) := by decide +kernel
theorem dX12_one_86 : decode cX12_one 86 = .ok (.lconst 0, 1) := by decide +kernel
theorem dX12_one_87 : decode cX12_one 87 = .ok (.goto 6, 3) := by decide +kernel
theorem dX12_one_108 : decode cX12_one 108 = .ok (.lload_n 1, 1) := by decide +kernel
theorem dX12_one_109 : decode cX12_one 109 = .ok (.lload_n 3, 1) := by decide +kernel
theorem dX12_one_110 : decode cX12_one 110 = .ok (.lcmp, 1) := by decide +kernel
theorem dX12_one_111 : decode cX12_one 111 = .ok (.ifCond .ge 7, 3) := by decide +kernel
theorem dX12_one_118 : decode cX12_one 118 = .ok (.lconst 0, 1) := by decide +kernel
theorem dX12_one_119 : decode cX12_one 119 = .ok (.lreturn, 1) := by decide +kernel
theorem dX12_one_114 : decode cX12_one 114 = .ok (.lconst 1, 1) := by decide +kernel
theorem dX12_one_115 : decode cX12_one 115 = .ok (.goto 4, 3) := by decide +kernel
theorem dX12_one_120 : decode cX12_one 120 = .ok (.lload_n 1, 1) := by decide +kernel
theorem dX12_one_121 : decode cX12_one 121 = .ok (.lload_n 3, 1) := by decide +kernel
theorem dX12_one_122 : decode cX12_one 122 = .ok (.lcmp, 1) := by decide +kernel
theorem dX12_one_123 : decode cX12_one 123 = .ok (.ifCond .gt 7, 3) := by decide +kernel
theorem dX12_one_130 : decode cX12_one 130 = .ok (.lconst 0, 1) := by decide +kernel
theorem dX12_one_131 : decode cX12_one 131 = .ok (.lreturn, 1) := by decide +kernel
theorem dX12_one_126 : decode cX12_one 126 = .ok (.lconst 1, 1) := by decide +kernel
theorem dX12_one_127 : decode cX12_one 127 = .ok (.goto 4, 3) := by decide +kernel
theorem dX12_one_132 : decode cX12_one 132 = .ok (.lload_n 1, 1) := by decide +kernel
theorem dX12_one_133 : decode cX12_one 133 = .ok (.lload_n 3, 1) := by decide +kernel
theorem dX12_one_134 : decode cX12_one 134 = .ok (.lcmp, 1) := by decide +kernel
theorem dX12_one_135 : decode cX12_one 135 = .ok (.ifCond .ne 7, 3) := by decide +kernel
theorem dX12_one_142 : decode cX12_one 142 = .ok (.lconst 0, 1) := by decide +kernel
theorem dX12_one_143 : decode cX12_one 143 = .ok (.lreturn, 1) := by decide +kernel
theorem dX12_one_138 : decode cX12_one 138 = .ok (.lconst 1, 1) := by decide +kernel
theorem dX12_one_139 : decode cX12_one 139 = .ok (.goto 4, 3) := by decide +kernel
theorem dX12_one_144 : decode cX12_one 144 = .ok (.lload_n 1, 1) := by decide +kernel
theorem dX12_one_145 : decode cX12_one 145 = .ok (.lload_n 3, 1) := by decide +kernel
theorem dX12_one_146 : decode cX12_one 146 = .ok (.lcmp, 1) := by decide +kernel
theorem dX12_one_147 : decode cX12_one 147 = .ok (.ifCond .lt 7, 3) := by decide +kernel
theorem dX12_one_154 : decode cX12_one 154 = .ok (.lconst 0, 1) := by decide +kernel
theorem dX12_one_155 : decode cX12_one 155 = .ok (.lreturn, 1) := by decide +kernel
theorem dX12_one_150 : decode cX12_one 150 = .ok (.lconst 1, 1) := by decide +kernel
theorem dX12_one_151 : decode cX12_one 151 = .ok (.goto 4, 3) := by decide +kernel
theorem dX12_one_156 : decode cX12_one 156 = .ok (.lload_n 1, 1) := by decide +kernel
theorem dX12_one_157 : decode cX12_one 157 = .ok (.lload_n 3, 1) := by decide +kernel
theorem dX12_one_158 : decode cX12_one 158 = .ok (.lcmp, 1) := by decide +kernel
theorem dX12_one_159 : decode cX12_one 159 = .ok (.ifCond .le 7, 3) := by decide +kernel
theorem dX12_one_166 : decode cX12_one 166 = .ok (.lconst 0, 1) := by decide +kernel
theorem dX12_one_167 : decode cX12_one 167 = .ok (.lreturn, 1) := by decide +kernel
theorem dX12_one_162 : decode cX12_one 162 = .ok (.lconst 1, 1) := by decide +kernel
theorem dX12_one_163 : decode cX12_one 163 = .ok (.goto 4, 3) := by decide +kernel
theorem dX12_one_168 : decode cX12_one 168 = .ok (.lload_n 1, 1) := by decide +kernel
theorem dX12_one_169 : decode cX12_one 169 = .ok (.lload_n 3, 1) := by decide +kernel
theorem dX12_one_170 : decode cX12_one 170 = .ok (.land, 1) := by decide +kernel
theorem dX12_one_171 : decode cX12_one 171 = .ok (.lreturn, 1) := by decide +kernel
theorem dX12_one_94 : decode cX12_one 94 = .ok (.lload_n 3, 1) := by decide +kernel
theorem dX12_one_95 : decode cX12_one 95 = .ok (.lconst 0, 1) := by decide +kernel
theorem dX12_one_96 : decode cX12_one 96 = .ok (.lcmp, 1) := by decide +kernel
theorem dX12_one_97 : decode cX12_one 97 = .ok (.ifCond .ne 7, 3) := by decide +kernel
theorem dX12_one_104 : decode cX12_one 104 = .ok (.lload_n 1, 1) := by decide +kernel
theorem dX12_one_105 : decode cX12_one 105 = .ok (.lload_n 3, 1) := by decide +kernel
theorem dX12_one_106 : decode cX12_one 106 = .ok (.lrem, 1) := by decide +kernel
theorem dX12_one_107 : decode cX12_one 107 = .ok (.lreturn, 1) := by decide +kernel
theorem dX12_one_100 : decode cX12_one 100 = .ok (.lconst 0, 1) := by decide +kernel
theorem dX12_one_101 : decode cX12_one 101 = .ok (.goto 6, 3) := by decide +kernel
set_option maxHeartbeats 4000000 in
set_option maxRecDepth 100000 in
theorem cy_X12_one (l : Launch) (D : va_G) (cA : Nat → ClassId) (L : List Nat) (T : Nat → Nat) (r : Rg) (hG : GR L T r) (hL : L.Nodup) (σ : Sg) (ρ : Lg) (hW : WT L ry T σ) (sz : Nat) (p1 : Int32) (p2 : Int64) (p3 : Int64) : Met l yX12_one (.code yX12_one cX12_one 5 (some .long) :: wsA) ({ frames := 0, cells := 0, slots := 0, locals := 0 }) (PR D cA L T r σ ρ sz [.int p1, .long p2, .long p3]) (QL D cA L T r ry ([] : List (Nat × Nat)) σ sz (fun x σ1 => True)) 0 0 (dm L sz) := by
  refine Met.ofW (cc := cX12_one) (maxL := 5) (ret := (some .long)) (by decide) rfl ?_
  intro p e s m args below meth c s₁ B hml hv
  obtain ⟨rfl, hsz, hP, hK, hN⟩ := hv
  have hx := B.exec
  have hb := B.bytes
  have hr := B.returns
  have hts : ∀ w ∈ wsA, w.before _ s = true := fun w h => atoms_spec (ws := .code yX12_one cX12_one 5 (some .long) :: wsA) B.pre w (List.mem_cons_of_mem _ h)
  have hown : s.vm.findClass RX12 = some m.cls := findClass_of_methodNamed B.named
  subst hsz
  have hLA : LA (dm L s.heap.size) L := ⟨hL, fun a h => Or.inl h⟩
  have hA : ∀ q : Nat, s.heap.size ≤ q → dm L s.heap.size q := fun q h => Or.inr h
  have hS : va_S (dm L s.heap.size) s.heap s.heap [] := va_S.rf
  have hB : TS D cA L T r ry ([] : List (Nat × Nat)) σ σ ρ s.heap := ⟨hP, hW, FR.rf⟩
  have hl := lv_entry ([.int p1, .long p2, .long p3]) (n := 5) (Nat.le_of_ble_eq_true rfl)
  rw [lg_entry_eq]
  generalize (lg_sl ([.int p1, .long p2, .long p3]) ++ List.replicate (5 - (lg_sl ([.int p1, .long p2, .long p3])).length) Slot.unset).toArray = ls at hl ⊢
  have hl : lv_has ls 5 [(0, .int p1), (1, .long p2), (3, .long p3)] := hl
  refine lv_iload_n hx hb dX12_one_0 rfl (lv_at hl 0 rfl) ?_
  by_cases c_1 : p1.toInt < 2 ∨ 14 < p1.toInt
  · skip
    refine lv_tableOut (tgt := 172) hx hb dX12_one_1 c_1 (by decide) ?_
    refine lv_lload_n hx hb dX12_one_172 rfl (lv_at hl 1 rfl) ?_
    refine lv_lload_n hx hb dX12_one_173 rfl (lv_at hl 2 rfl) ?_
    refine lv_lor hx hb dX12_one_174 ?_
    refine lv_topl (fun y_2 ey_2 => ?_)
    exact W.lret (v := y_2) hx hb hr (fun t ht hW => ⟨⟨y_2, (σ, ρ), rfl, ⟨hB.2.1, hB.2.2, trivial⟩, (show TP D cA L T r σ ρ t.heap from by rw [ht]; exact hB.1)⟩, hS.F ht⟩) hS.2.2 dX12_one_175
  · skip
    rcases (show p1.toInt = 2 ∨ p1.toInt = 3 ∨ p1.toInt = 4 ∨ p1.toInt = 5 ∨ p1.toInt = 6 ∨ p1.toInt = 7 ∨ p1.toInt = 8 ∨ p1.toInt = 9 ∨ p1.toInt = 10 ∨ p1.toInt = 11 ∨ p1.toInt = 12 ∨ p1.toInt = 13 ∨ p1.toInt = 14 by omega) with c_1j | c_1j | c_1j | c_1j | c_1j | c_1j | c_1j | c_1j | c_1j | c_1j | c_1j | c_1j | c_1j
    · skip
      have c_1x : p1 = 2 := i_is (by decide) c_1j
      subst c_1x
      have nnc_1 : (2 : Int32).toInt = 2 := by decide
      refine lv_tableIn (tgt := 68) hx hb dX12_one_1 (by decide) (by decide) rfl (by decide) ?_
      refine lv_lload_n hx hb dX12_one_68 rfl (lv_at hl 1 rfl) ?_
      refine lv_lload_n hx hb dX12_one_69 rfl (lv_at hl 2 rfl) ?_
      refine lv_ladd hx hb dX12_one_70 ?_
      refine lv_topl (fun y_3 ey_3 => ?_)
      exact W.lret (v := y_3) hx hb hr (fun t ht hW => ⟨⟨y_3, (σ, ρ), rfl, ⟨hB.2.1, hB.2.2, trivial⟩, (show TP D cA L T r σ ρ t.heap from by rw [ht]; exact hB.1)⟩, hS.F ht⟩) hS.2.2 dX12_one_71
    · skip
      have c_1x : p1 = 3 := i_is (by decide) c_1j
      subst c_1x
      have nnc_1 : (3 : Int32).toInt = 3 := by decide
      refine lv_tableIn (tgt := 72) hx hb dX12_one_1 (by decide) (by decide) rfl (by decide) ?_
      refine lv_lload_n hx hb dX12_one_72 rfl (lv_at hl 1 rfl) ?_
      refine lv_lload_n hx hb dX12_one_73 rfl (lv_at hl 2 rfl) ?_
      refine lv_lsub hx hb dX12_one_74 ?_
      refine lv_topl (fun y_4 ey_4 => ?_)
      exact W.lret (v := y_4) hx hb hr (fun t ht hW => ⟨⟨y_4, (σ, ρ), rfl, ⟨hB.2.1, hB.2.2, trivial⟩, (show TP D cA L T r σ ρ t.heap from by rw [ht]; exact hB.1)⟩, hS.F ht⟩) hS.2.2 dX12_one_75
    · skip
      have c_1x : p1 = 4 := i_is (by decide) c_1j
      subst c_1x
      have nnc_1 : (4 : Int32).toInt = 4 := by decide
      refine lv_tableIn (tgt := 76) hx hb dX12_one_1 (by decide) (by decide) rfl (by decide) ?_
      refine lv_lload_n hx hb dX12_one_76 rfl (lv_at hl 1 rfl) ?_
      refine lv_lload_n hx hb dX12_one_77 rfl (lv_at hl 2 rfl) ?_
      refine lv_lmul hx hb dX12_one_78 ?_
      refine lv_topl (fun y_5 ey_5 => ?_)
      exact W.lret (v := y_5) hx hb hr (fun t ht hW => ⟨⟨y_5, (σ, ρ), rfl, ⟨hB.2.1, hB.2.2, trivial⟩, (show TP D cA L T r σ ρ t.heap from by rw [ht]; exact hB.1)⟩, hS.F ht⟩) hS.2.2 dX12_one_79
    · skip
      have c_1x : p1 = 5 := i_is (by decide) c_1j
      subst c_1x
      have nnc_1 : (5 : Int32).toInt = 5 := by decide
      refine lv_tableIn (tgt := 80) hx hb dX12_one_1 (by decide) (by decide) rfl (by decide) ?_
      refine lv_lload_n hx hb dX12_one_80 rfl (lv_at hl 2 rfl) ?_
      refine lv_lconst (v := 0) hx hb dX12_one_81 (by decide) ?_
      refine W.lcmp hx hb dX12_one_82 ?_
      refine lv_if_ne (tgt := 90) hx hb dX12_one_83 (by decide) (fun c_6 => ?_) (fun c_6 => ?_)
      · skip
        have uc_6 := mt (lg_cmp_eq _ _).mpr c_6
        refine lv_lload_n hx hb dX12_one_90 rfl (lv_at hl 1 rfl) ?_
        refine lv_lload_n hx hb dX12_one_91 rfl (lv_at hl 2 rfl) ?_
        refine lv_ldiv hx hb dX12_one_92 uc_6 ?_
        refine lv_topl (fun y_7 ey_7 => ?_)
        exact W.lret (v := y_7) hx hb hr (fun t ht hW => ⟨⟨y_7, (σ, ρ), rfl, ⟨hB.2.1, hB.2.2, trivial⟩, (show TP D cA L T r σ ρ t.heap from by rw [ht]; exact hB.1)⟩, hS.F ht⟩) hS.2.2 dX12_one_93
      · skip
        have uc_6 := (lg_cmp_eq _ _).mp c_6
        refine lv_lconst (v := 0) hx hb dX12_one_86 (by decide) ?_
        refine lv_goto (tgt := 93) hx hb dX12_one_87 (by decide) ?_
        exact W.lret (v := 0) hx hb hr (fun t ht hW => ⟨⟨0, (σ, ρ), rfl, ⟨hB.2.1, hB.2.2, trivial⟩, (show TP D cA L T r σ ρ t.heap from by rw [ht]; exact hB.1)⟩, hS.F ht⟩) hS.2.2 dX12_one_93
    · skip
      have c_1x : p1 = 6 := i_is (by decide) c_1j
      subst c_1x
      have nnc_1 : (6 : Int32).toInt = 6 := by decide
      refine lv_tableIn (tgt := 108) hx hb dX12_one_1 (by decide) (by decide) rfl (by decide) ?_
      refine lv_lload_n hx hb dX12_one_108 rfl (lv_at hl 1 rfl) ?_
      refine lv_lload_n hx hb dX12_one_109 rfl (lv_at hl 2 rfl) ?_
      refine W.lcmp hx hb dX12_one_110 ?_
      refine lv_if_ge (tgt := 118) hx hb dX12_one_111 (by decide) (fun c_8 => ?_) (fun c_8 => ?_)
      · skip
        have uc_8 := l_le (rfl : p3.toInt = _) (rfl : p2.toInt = _) ((lg_cmp_ge _ _).mp c_8)
        refine lv_lconst (v := 0) hx hb dX12_one_118 (by decide) ?_
        exact W.lret (v := 0) hx hb hr (fun t ht hW => ⟨⟨0, (σ, ρ), rfl, ⟨hB.2.1, hB.2.2, trivial⟩, (show TP D cA L T r σ ρ t.heap from by rw [ht]; exact hB.1)⟩, hS.F ht⟩) hS.2.2 dX12_one_119
      · skip
        have uc_8 := l_nle (rfl : p3.toInt = _) (rfl : p2.toInt = _) (mt (lg_cmp_ge _ _).mpr c_8)
        refine lv_lconst (v := 1) hx hb dX12_one_114 (by decide) ?_
        refine lv_goto (tgt := 119) hx hb dX12_one_115 (by decide) ?_
        exact W.lret (v := 1) hx hb hr (fun t ht hW => ⟨⟨1, (σ, ρ), rfl, ⟨hB.2.1, hB.2.2, trivial⟩, (show TP D cA L T r σ ρ t.heap from by rw [ht]; exact hB.1)⟩, hS.F ht⟩) hS.2.2 dX12_one_119
    · skip
      have c_1x : p1 = 7 := i_is (by decide) c_1j
      subst c_1x
      have nnc_1 : (7 : Int32).toInt = 7 := by decide
      refine lv_tableIn (tgt := 120) hx hb dX12_one_1 (by decide) (by decide) rfl (by decide) ?_
      refine lv_lload_n hx hb dX12_one_120 rfl (lv_at hl 1 rfl) ?_
      refine lv_lload_n hx hb dX12_one_121 rfl (lv_at hl 2 rfl) ?_
      refine W.lcmp hx hb dX12_one_122 ?_
      refine lv_if_gt (tgt := 130) hx hb dX12_one_123 (by decide) (fun c_9 => ?_) (fun c_9 => ?_)
      · skip
        have uc_9 := l_lt (rfl : p3.toInt = _) (rfl : p2.toInt = _) ((lg_cmp_gt _ _).mp c_9)
        refine lv_lconst (v := 0) hx hb dX12_one_130 (by decide) ?_
        exact W.lret (v := 0) hx hb hr (fun t ht hW => ⟨⟨0, (σ, ρ), rfl, ⟨hB.2.1, hB.2.2, trivial⟩, (show TP D cA L T r σ ρ t.heap from by rw [ht]; exact hB.1)⟩, hS.F ht⟩) hS.2.2 dX12_one_131
      · skip
        have uc_9 := l_nlt (rfl : p3.toInt = _) (rfl : p2.toInt = _) (mt (lg_cmp_gt _ _).mpr c_9)
        refine lv_lconst (v := 1) hx hb dX12_one_126 (by decide) ?_
        refine lv_goto (tgt := 131) hx hb dX12_one_127 (by decide) ?_
        exact W.lret (v := 1) hx hb hr (fun t ht hW => ⟨⟨1, (σ, ρ), rfl, ⟨hB.2.1, hB.2.2, trivial⟩, (show TP D cA L T r σ ρ t.heap from by rw [ht]; exact hB.1)⟩, hS.F ht⟩) hS.2.2 dX12_one_131
    · skip
      have c_1x : p1 = 8 := i_is (by decide) c_1j
      subst c_1x
      have nnc_1 : (8 : Int32).toInt = 8 := by decide
      refine lv_tableIn (tgt := 132) hx hb dX12_one_1 (by decide) (by decide) rfl (by decide) ?_
      refine lv_lload_n hx hb dX12_one_132 rfl (lv_at hl 1 rfl) ?_
      refine lv_lload_n hx hb dX12_one_133 rfl (lv_at hl 2 rfl) ?_
      refine W.lcmp hx hb dX12_one_134 ?_
      refine lv_if_ne (tgt := 142) hx hb dX12_one_135 (by decide) (fun c_10 => ?_) (fun c_10 => ?_)
      · skip
        have uc_10 := mt (lg_cmp_eq _ _).mpr c_10
        refine lv_lconst (v := 0) hx hb dX12_one_142 (by decide) ?_
        exact W.lret (v := 0) hx hb hr (fun t ht hW => ⟨⟨0, (σ, ρ), rfl, ⟨hB.2.1, hB.2.2, trivial⟩, (show TP D cA L T r σ ρ t.heap from by rw [ht]; exact hB.1)⟩, hS.F ht⟩) hS.2.2 dX12_one_143
      · skip
        have uc_10 := (lg_cmp_eq _ _).mp c_10
        refine lv_lconst (v := 1) hx hb dX12_one_138 (by decide) ?_
        refine lv_goto (tgt := 143) hx hb dX12_one_139 (by decide) ?_
        exact W.lret (v := 1) hx hb hr (fun t ht hW => ⟨⟨1, (σ, ρ), rfl, ⟨hB.2.1, hB.2.2, trivial⟩, (show TP D cA L T r σ ρ t.heap from by rw [ht]; exact hB.1)⟩, hS.F ht⟩) hS.2.2 dX12_one_143
    · skip
      have c_1x : p1 = 9 := i_is (by decide) c_1j
      subst c_1x
      have nnc_1 : (9 : Int32).toInt = 9 := by decide
      refine lv_tableIn (tgt := 144) hx hb dX12_one_1 (by decide) (by decide) rfl (by decide) ?_
      refine lv_lload_n hx hb dX12_one_144 rfl (lv_at hl 1 rfl) ?_
      refine lv_lload_n hx hb dX12_one_145 rfl (lv_at hl 2 rfl) ?_
      refine W.lcmp hx hb dX12_one_146 ?_
      refine lv_if_lt (tgt := 154) hx hb dX12_one_147 (by decide) (fun c_11 => ?_) (fun c_11 => ?_)
      · skip
        have uc_11 := l_lt (rfl : p2.toInt = _) (rfl : p3.toInt = _) ((lg_cmp_lt _ _).mp c_11)
        refine lv_lconst (v := 0) hx hb dX12_one_154 (by decide) ?_
        exact W.lret (v := 0) hx hb hr (fun t ht hW => ⟨⟨0, (σ, ρ), rfl, ⟨hB.2.1, hB.2.2, trivial⟩, (show TP D cA L T r σ ρ t.heap from by rw [ht]; exact hB.1)⟩, hS.F ht⟩) hS.2.2 dX12_one_155
      · skip
        have uc_11 := l_nlt (rfl : p2.toInt = _) (rfl : p3.toInt = _) (mt (lg_cmp_lt _ _).mpr c_11)
        refine lv_lconst (v := 1) hx hb dX12_one_150 (by decide) ?_
        refine lv_goto (tgt := 155) hx hb dX12_one_151 (by decide) ?_
        exact W.lret (v := 1) hx hb hr (fun t ht hW => ⟨⟨1, (σ, ρ), rfl, ⟨hB.2.1, hB.2.2, trivial⟩, (show TP D cA L T r σ ρ t.heap from by rw [ht]; exact hB.1)⟩, hS.F ht⟩) hS.2.2 dX12_one_155
    · skip
      have c_1x : p1 = 10 := i_is (by decide) c_1j
      subst c_1x
      have nnc_1 : (10 : Int32).toInt = 10 := by decide
      refine lv_tableIn (tgt := 156) hx hb dX12_one_1 (by decide) (by decide) rfl (by decide) ?_
      refine lv_lload_n hx hb dX12_one_156 rfl (lv_at hl 1 rfl) ?_
      refine lv_lload_n hx hb dX12_one_157 rfl (lv_at hl 2 rfl) ?_
      refine W.lcmp hx hb dX12_one_158 ?_
      refine lv_if_le (tgt := 166) hx hb dX12_one_159 (by decide) (fun c_12 => ?_) (fun c_12 => ?_)
      · skip
        have uc_12 := l_le (rfl : p2.toInt = _) (rfl : p3.toInt = _) ((lg_cmp_le _ _).mp c_12)
        refine lv_lconst (v := 0) hx hb dX12_one_166 (by decide) ?_
        exact W.lret (v := 0) hx hb hr (fun t ht hW => ⟨⟨0, (σ, ρ), rfl, ⟨hB.2.1, hB.2.2, trivial⟩, (show TP D cA L T r σ ρ t.heap from by rw [ht]; exact hB.1)⟩, hS.F ht⟩) hS.2.2 dX12_one_167
      · skip
        have uc_12 := l_nle (rfl : p2.toInt = _) (rfl : p3.toInt = _) (mt (lg_cmp_le _ _).mpr c_12)
        refine lv_lconst (v := 1) hx hb dX12_one_162 (by decide) ?_
        refine lv_goto (tgt := 167) hx hb dX12_one_163 (by decide) ?_
        exact W.lret (v := 1) hx hb hr (fun t ht hW => ⟨⟨1, (σ, ρ), rfl, ⟨hB.2.1, hB.2.2, trivial⟩, (show TP D cA L T r σ ρ t.heap from by rw [ht]; exact hB.1)⟩, hS.F ht⟩) hS.2.2 dX12_one_167
    · skip
      have c_1x : p1 = 11 := i_is (by decide) c_1j
      subst c_1x
      have nnc_1 : (11 : Int32).toInt = 11 := by decide
      refine lv_tableIn (tgt := 172) hx hb dX12_one_1 (by decide) (by decide) rfl (by decide) ?_
      refine lv_lload_n hx hb dX12_one_172 rfl (lv_at hl 1 rfl) ?_
      refine lv_lload_n hx hb dX12_one_173 rfl (lv_at hl 2 rfl) ?_
      refine lv_lor hx hb dX12_one_174 ?_
      refine lv_topl (fun y_13 ey_13 => ?_)
      exact W.lret (v := y_13) hx hb hr (fun t ht hW => ⟨⟨y_13, (σ, ρ), rfl, ⟨hB.2.1, hB.2.2, trivial⟩, (show TP D cA L T r σ ρ t.heap from by rw [ht]; exact hB.1)⟩, hS.F ht⟩) hS.2.2 dX12_one_175
    · skip
      have c_1x : p1 = 12 := i_is (by decide) c_1j
      subst c_1x
      have nnc_1 : (12 : Int32).toInt = 12 := by decide
      refine lv_tableIn (tgt := 168) hx hb dX12_one_1 (by decide) (by decide) rfl (by decide) ?_
      refine lv_lload_n hx hb dX12_one_168 rfl (lv_at hl 1 rfl) ?_
      refine lv_lload_n hx hb dX12_one_169 rfl (lv_at hl 2 rfl) ?_
      refine lv_land hx hb dX12_one_170 ?_
      refine lv_topl (fun y_14 ey_14 => ?_)
      exact W.lret (v := y_14) hx hb hr (fun t ht hW => ⟨⟨y_14, (σ, ρ), rfl, ⟨hB.2.1, hB.2.2, trivial⟩, (show TP D cA L T r σ ρ t.heap from by rw [ht]; exact hB.1)⟩, hS.F ht⟩) hS.2.2 dX12_one_171
    · skip
      have c_1x : p1 = 13 := i_is (by decide) c_1j
      subst c_1x
      have nnc_1 : (13 : Int32).toInt = 13 := by decide
      refine lv_tableIn (tgt := 172) hx hb dX12_one_1 (by decide) (by decide) rfl (by decide) ?_
      refine lv_lload_n hx hb dX12_one_172 rfl (lv_at hl 1 rfl) ?_
      refine lv_lload_n hx hb dX12_one_173 rfl (lv_at hl 2 rfl) ?_
      refine lv_lor hx hb dX12_one_174 ?_
      refine lv_topl (fun y_15 ey_15 => ?_)
      exact W.lret (v := y_15) hx hb hr (fun t ht hW => ⟨⟨y_15, (σ, ρ), rfl, ⟨hB.2.1, hB.2.2, trivial⟩, (show TP D cA L T r σ ρ t.heap from by rw [ht]; exact hB.1)⟩, hS.F ht⟩) hS.2.2 dX12_one_175
    · skip
      have c_1x : p1 = 14 := i_is (by decide) c_1j
      subst c_1x
      have nnc_1 : (14 : Int32).toInt = 14 := by decide
      refine lv_tableIn (tgt := 94) hx hb dX12_one_1 (by decide) (by decide) rfl (by decide) ?_
      refine lv_lload_n hx hb dX12_one_94 rfl (lv_at hl 2 rfl) ?_
      refine lv_lconst (v := 0) hx hb dX12_one_95 (by decide) ?_
      refine W.lcmp hx hb dX12_one_96 ?_
      refine lv_if_ne (tgt := 104) hx hb dX12_one_97 (by decide) (fun c_16 => ?_) (fun c_16 => ?_)
      · skip
        have uc_16 := mt (lg_cmp_eq _ _).mpr c_16
        refine lv_lload_n hx hb dX12_one_104 rfl (lv_at hl 1 rfl) ?_
        refine lv_lload_n hx hb dX12_one_105 rfl (lv_at hl 2 rfl) ?_
        refine lv_lrem hx hb dX12_one_106 uc_16 ?_
        refine lv_topl (fun y_17 ey_17 => ?_)
        exact W.lret (v := y_17) hx hb hr (fun t ht hW => ⟨⟨y_17, (σ, ρ), rfl, ⟨hB.2.1, hB.2.2, trivial⟩, (show TP D cA L T r σ ρ t.heap from by rw [ht]; exact hB.1)⟩, hS.F ht⟩) hS.2.2 dX12_one_107
      · skip
        have uc_16 := (lg_cmp_eq _ _).mp c_16
        refine lv_lconst (v := 0) hx hb dX12_one_100 (by decide) ?_
        refine lv_goto (tgt := 107) hx hb dX12_one_101 (by decide) ?_
        exact W.lret (v := 0) hx hb hr (fun t ht hW => ⟨⟨0, (σ, ρ), rfl, ⟨hB.2.1, hB.2.2, trivial⟩, (show TP D cA L T r σ ρ t.heap from by rw [ht]; exact hB.1)⟩, hS.F ht⟩) hS.2.2 dX12_one_107
theorem dX12_strength_0 : decode cX12_strength 0 = .ok (.iload_n 0, 1) := by decide +kernel
theorem dX12_strength_1 : decode cX12_strength 1 = .ok (.bipush 13, 2) := by decide +kernel
theorem dX12_strength_3 : decode cX12_strength 3 = .ok (.if_icmp .ne 7, 3) := by decide +kernel
theorem dX12_strength_10 : decode cX12_strength 10 = .ok (.iload_n 0, 1) := by decide +kernel
theorem dX12_strength_11 : decode cX12_strength 11 = .ok (.bipush 12, 2) := by decide +kernel
theorem dX12_strength_13 : decode cX12_strength 13 = .ok (.if_icmp .ne 7, 3) := by decide +kernel
theorem dX12_strength_20 : decode cX12_strength 20 = .ok (.iload_n 0, 1) := by decide +kernel
theorem dX12_strength_21 : decode cX12_strength 21 = .ok (.bipush 11, 2) := by decide +kernel
theorem dX12_strength_23 : decode cX12_strength 23 = .ok (.if_icmp .ne 7, 3) := by decide +kernel
theorem dX12_strength_30 : decode cX12_strength 30 = .ok (.iconst 0, 1) := by decide +kernel
theorem dX12_strength_31 : decode cX12_strength 31 = .ok (.ireturn, 1) := by decide +kernel
theorem dX12_strength_26 : decode cX12_strength 26 = .ok (.iconst 3, 1) := by decide +kernel
theorem dX12_strength_27 : decode cX12_strength 27 = .ok (.goto 4, 3) := by decide +kernel
theorem dX12_strength_16 : decode cX12_strength 16 = .ok (.iconst 2, 1) := by decide +kernel
theorem dX12_strength_17 : decode cX12_strength 17 = .ok (.goto 14, 3) := by decide +kernel
theorem dX12_strength_6 : decode cX12_strength 6 = .ok (.iconst 1, 1) := by decide +kernel
theorem dX12_strength_7 : decode cX12_strength 7 = .ok (.goto 24, 3) := by decide +kernel
set_option maxHeartbeats 4000000 in
set_option maxRecDepth 100000 in
theorem cy_X12_strength (l : Launch) (D : va_G) (cA : Nat → ClassId) (L : List Nat) (T : Nat → Nat) (r : Rg) (hG : GR L T r) (hL : L.Nodup) (σ : Sg) (ρ : Lg) (hW : WT L ry T σ) (sz : Nat) (p1 : Int32) : Met l yX12_strength (.code yX12_strength cX12_strength 1 (some .int) :: wsA) ({ frames := 0, cells := 0, slots := 0, locals := 0 }) (PR D cA L T r σ ρ sz [.int p1]) (QI D cA L T r ry ([] : List (Nat × Nat)) σ sz (fun x σ1 => True)) 0 0 (dm L sz) := by
  refine Met.ofW (cc := cX12_strength) (maxL := 1) (ret := (some .int)) (by decide) rfl ?_
  intro p e s m args below meth c s₁ B hml hv
  obtain ⟨rfl, hsz, hP, hK, hN⟩ := hv
  have hx := B.exec
  have hb := B.bytes
  have hr := B.returns
  have hts : ∀ w ∈ wsA, w.before _ s = true := fun w h => atoms_spec (ws := .code yX12_strength cX12_strength 1 (some .int) :: wsA) B.pre w (List.mem_cons_of_mem _ h)
  have hown : s.vm.findClass RX12 = some m.cls := findClass_of_methodNamed B.named
  subst hsz
  have hLA : LA (dm L s.heap.size) L := ⟨hL, fun a h => Or.inl h⟩
  have hA : ∀ q : Nat, s.heap.size ≤ q → dm L s.heap.size q := fun q h => Or.inr h
  have hS : va_S (dm L s.heap.size) s.heap s.heap [] := va_S.rf
  have hB : TS D cA L T r ry ([] : List (Nat × Nat)) σ σ ρ s.heap := ⟨hP, hW, FR.rf⟩
  have hl := lv_entry ([.int p1]) (n := 1) (Nat.le_of_ble_eq_true rfl)
  rw [lg_entry_eq]
  generalize (lg_sl ([.int p1]) ++ List.replicate (1 - (lg_sl ([.int p1])).length) Slot.unset).toArray = ls at hl ⊢
  have hl : lv_has ls 1 [(0, .int p1)] := hl
  refine lv_iload_n hx hb dX12_strength_0 rfl (lv_at hl 0 rfl) ?_
  refine lv_bipush (v := 13) hx hb dX12_strength_1 (by decide) ?_
  refine lv_icmp_ne (tgt := 10) hx hb dX12_strength_3 (by decide) (fun c_1 => ?_) (fun c_1 => ?_)
  · skip
    have uc_1 := i_ne (n := 13) (by decide) c_1
    refine lv_iload_n hx hb dX12_strength_10 rfl (lv_at hl 0 rfl) ?_
    refine lv_bipush (v := 12) hx hb dX12_strength_11 (by decide) ?_
    refine lv_icmp_ne (tgt := 20) hx hb dX12_strength_13 (by decide) (fun c_2 => ?_) (fun c_2 => ?_)
    · skip
      have uc_2 := i_ne (n := 12) (by decide) c_2
      refine lv_iload_n hx hb dX12_strength_20 rfl (lv_at hl 0 rfl) ?_
      refine lv_bipush (v := 11) hx hb dX12_strength_21 (by decide) ?_
      refine lv_icmp_ne (tgt := 30) hx hb dX12_strength_23 (by decide) (fun c_3 => ?_) (fun c_3 => ?_)
      · skip
        have uc_3 := i_ne (n := 11) (by decide) c_3
        refine lv_iconst (v := 0) hx hb dX12_strength_30 (by decide) ?_
        exact W.iret (v := 0) hx hb hr (fun t ht hW => ⟨⟨0, (σ, ρ), rfl, ⟨hB.2.1, hB.2.2, trivial⟩, (show TP D cA L T r σ ρ t.heap from by rw [ht]; exact hB.1)⟩, hS.F ht⟩) hS.2.2 dX12_strength_31
      · skip
        have uc_3 := i_eq (n := 11) (by decide) c_3
        refine lv_iconst (v := 3) hx hb dX12_strength_26 (by decide) ?_
        refine lv_goto (tgt := 31) hx hb dX12_strength_27 (by decide) ?_
        exact W.iret (v := 3) hx hb hr (fun t ht hW => ⟨⟨3, (σ, ρ), rfl, ⟨hB.2.1, hB.2.2, trivial⟩, (show TP D cA L T r σ ρ t.heap from by rw [ht]; exact hB.1)⟩, hS.F ht⟩) hS.2.2 dX12_strength_31
    · skip
      have uc_2 := i_eq (n := 12) (by decide) c_2
      refine lv_iconst (v := 2) hx hb dX12_strength_16 (by decide) ?_
      refine lv_goto (tgt := 31) hx hb dX12_strength_17 (by decide) ?_
      exact W.iret (v := 2) hx hb hr (fun t ht hW => ⟨⟨2, (σ, ρ), rfl, ⟨hB.2.1, hB.2.2, trivial⟩, (show TP D cA L T r σ ρ t.heap from by rw [ht]; exact hB.1)⟩, hS.F ht⟩) hS.2.2 dX12_strength_31
  · skip
    have uc_1 := i_eq (n := 13) (by decide) c_1
    refine lv_iconst (v := 1) hx hb dX12_strength_6 (by decide) ?_
    refine lv_goto (tgt := 31) hx hb dX12_strength_7 (by decide) ?_
    exact W.iret (v := 1) hx hb hr (fun t ht hW => ⟨⟨1, (σ, ρ), rfl, ⟨hB.2.1, hB.2.2, trivial⟩, (show TP D cA L T r σ ρ t.heap from by rw [ht]; exact hB.1)⟩, hS.F ht⟩) hS.2.2 dX12_strength_31
theorem mw_5_232 : (.fieldLink RX12 163 "HillBendsModel" "opened" "I" : Cond) ∈ wsA := wsA_t (List.mem_append_right _ (List.mem_append_right _ (List.mem_append_right _ (List.mem_append_right _ (List.mem_append_left _ (List.mem_of_getElem? (l := tables_1_5) (i := 232) rfl)))))) rfl
theorem mw_5_231 : (.fieldLink RX12 29 "HillBendsModel" "open" "[I" : Cond) ∈ wsA := wsA_t (List.mem_append_right _ (List.mem_append_right _ (List.mem_append_right _ (List.mem_append_right _ (List.mem_append_left _ (List.mem_of_getElem? (l := tables_1_5) (i := 231) rfl)))))) rfl
theorem dX12_isInside_0 : decode cX12_isInside 0 = .ok (.iconst 0, 1) := by decide +kernel
theorem dX12_isInside_1 : decode cX12_isInside 1 = .ok (.istore_n 1, 1) := by decide +kernel
theorem dX12_isInside_2 : decode cX12_isInside 2 = .ok (.iload_n 1, 1) := by decide +kernel
theorem dX12_isInside_3 : decode cX12_isInside 3 = .ok (.aload_n 0, 1) := by decide +kernel
theorem dX12_isInside_4 : decode cX12_isInside 4 = .ok (.getfield 163, 3) := by decide +kernel
theorem dX12_isInside_7 : decode cX12_isInside 7 = .ok (.if_icmp .ge 22, 3) := by decide +kernel
theorem dX12_isInside_10 : decode cX12_isInside 10 = .ok (.aload_n 0, 1) := by decide +kernel
theorem dX12_isInside_11 : decode cX12_isInside 11 = .ok (.getfield 29, 3) := by decide +kernel
theorem dX12_isInside_14 : decode cX12_isInside 14 = .ok (.iload_n 1, 1) := by decide +kernel
theorem dX12_isInside_15 : decode cX12_isInside 15 = .ok (.iaload, 1) := by decide +kernel
theorem dX12_isInside_16 : decode cX12_isInside 16 = .ok (.bipush 91, 2) := by decide +kernel
theorem dX12_isInside_18 : decode cX12_isInside 18 = .ok (.if_icmp .ne 5, 3) := by decide +kernel
theorem dX12_isInside_23 : decode cX12_isInside 23 = .ok (.iinc 1 1, 3) := by decide +kernel
theorem dX12_isInside_26 : decode cX12_isInside 26 = .ok (.goto (-24), 3) := by decide +kernel
theorem dX12_isInside_21 : decode cX12_isInside 21 = .ok (.iconst 1, 1) := by decide +kernel
theorem dX12_isInside_22 : decode cX12_isInside 22 = .ok (.ireturn, 1) := by decide +kernel
theorem dX12_isInside_29 : decode cX12_isInside 29 = .ok (.iconst 0, 1) := by decide +kernel
theorem dX12_isInside_30 : decode cX12_isInside 30 = .ok (.ireturn, 1) := by decide +kernel
set_option maxHeartbeats 4000000 in
set_option maxRecDepth 100000 in
theorem cy_X12_isInside (l : Launch) (D : va_G) (cA : Nat → ClassId) (L : List Nat) (T : Nat → Nat) (r : Rg) (hG : GR L T r) (hL : L.Nodup) (σ : Sg) (ρ : Lg) (hW : WT L ry T σ) (sz : Nat) (h0 : Nat) (mh0 : h0 ∈ L) (th0 : T h0 = 12) : Met l yX12_isInside (.code yX12_isInside cX12_isInside 2 (some .boolean) :: wsA) ({ frames := 0, cells := 0, slots := 0, locals := 0 }) (PR D cA L T r σ ρ sz [.ref h0]) (QI D cA L T r ry ([] : List (Nat × Nat)) σ sz (fun x σ1 => (0 ≤ x.toInt ∧ x.toInt ≤ 1))) 0 0 (dm L sz) := by
  refine Met.ofW (cc := cX12_isInside) (maxL := 2) (ret := (some .boolean)) (by decide) rfl ?_
  intro p e s m args below meth c s₁ B hml hv
  obtain ⟨rfl, hsz, hP, hK, hN⟩ := hv
  have hx := B.exec
  have hb := B.bytes
  have hr := B.returns
  have hts : ∀ w ∈ wsA, w.before _ s = true := fun w h => atoms_spec (ws := .code yX12_isInside cX12_isInside 2 (some .boolean) :: wsA) B.pre w (List.mem_cons_of_mem _ h)
  have hown : s.vm.findClass RX12 = some m.cls := findClass_of_methodNamed B.named
  subst hsz
  have hLA : LA (dm L s.heap.size) L := ⟨hL, fun a h => Or.inl h⟩
  have hA : ∀ q : Nat, s.heap.size ≤ q → dm L s.heap.size q := fun q h => Or.inr h
  have hS : va_S (dm L s.heap.size) s.heap s.heap [] := va_S.rf
  have hB : TS D cA L T r ry ([] : List (Nat × Nat)) σ σ ρ s.heap := ⟨hP, hW, FR.rf⟩
  have hl := lv_entry ([.ref h0]) (n := 2) (Nat.le_of_ble_eq_true rfl)
  rw [lg_entry_eq]
  generalize (lg_sl ([.ref h0]) ++ List.replicate (2 - (lg_sl ([.ref h0])).length) Slot.unset).toArray = ls at hl ⊢
  have hl : lv_has ls 2 [(0, .ref h0)] := hl
  refine lv_iconst (v := 0) hx hb dX12_isInside_0 (by decide) ?_
  refine lv_istore_n (lv' := [(1, .int 0), (0, .ref h0)]) hx hb dX12_isInside_1 rfl hl (by decide) rfl (fun ls hl => ?_)
  refine w_loop (α := Int32 × Sg × Lg) (fun (i_1, σ_2, ρ_3) H locs ls => 0 ≤ i_1.toInt ∧ i_1.toInt ≤ 400 ∧ TS D cA L T r ry ([] : List (Nat × Nat)) σ σ_2 ρ_3 H ∧ va_S (dm L s.heap.size) s.heap H locs ∧ lv_has ls 2 [(1, .int i_1), (0, .ref h0)]) (fun (i_1, σ_2, ρ_3) => (400 - i_1.toInt).toNat) ?_ ⟨0, σ, ρ⟩ ⟨(by decide), (by decide), hB, hS, lv_sub hl [0, 1] rfl⟩
  rintro ⟨i_1, σ_2, ρ_3⟩ H locs ls ⟨li_1, ui_1, hB, hS, hl⟩ ih_4
  refine lv_iload_n hx hb dX12_isInside_2 rfl (lv_at hl 0 rfl) ?_
  refine lv_aload_n hx hb dX12_isInside_3 rfl (lv_at hl 1 rfl) ?_
  refine t_gi hx hb hts hown hK hB mh0 th0 fi_12_16 rfl mw_5_232 dX12_isInside_4 (fun x_5 ex_5 lx_5 ux_5 => ?_)
  have cx_5 := congrArg Int32.toInt ex_5
  refine lv_icmp_ge (tgt := 29) hx hb dX12_isInside_7 (by decide) (fun c_6 => ?_) (fun c_6 => ?_)
  · skip
    have uc_6 := j_le c_6
    refine lv_iconst (v := 0) hx hb dX12_isInside_29 (by decide) ?_
    exact W.zret (v := 0) hx hb hr rfl (fun t ht hW => ⟨⟨0, (σ_2, ρ_3), rfl, ⟨hB.2.1, hB.2.2, (show 0 ≤ (0 : Int32).toInt ∧ (0 : Int32).toInt ≤ 1 from ⟨by decide, by decide⟩)⟩, (show TP D cA L T r σ_2 ρ_3 t.heap from by rw [ht]; exact hB.1)⟩, hS.F ht⟩) hS.2.2 dX12_isInside_30
  · skip
    have uc_6 := j_nle c_6
    refine lv_aload_n hx hb dX12_isInside_10 rfl (lv_at hl 1 rfl) ?_
    refine t_gr hx hb hts hown hK hG hB mh0 th0 fq_12_15 rfl mw_5_231 dX12_isInside_11 (fun b_7 hb_7 mb_7 tb_7 => ?_)
    refine lv_iload_n hx hb dX12_isInside_14 rfl (lv_at hl 0 rfl) ?_
    refine t_ai hx hb hK hB mb_7 tb_7 ai_67 (fun _ => rfl) (i_in (by omega) (by omega)) dX12_isInside_15 (fun x_8 ex_8 lx_8 ux_8 => ?_)
    have cx_8 := congrArg Int32.toInt ex_8
    refine lv_bipush (v := 91) hx hb dX12_isInside_16 (by decide) ?_
    refine lv_icmp_ne (tgt := 23) hx hb dX12_isInside_18 (by decide) (fun c_9 => ?_) (fun c_9 => ?_)
    · skip
      have uc_9 := i_ne (n := 91) (by decide) c_9
      obtain ⟨x_10, ex_10⟩ : ∃ y : Int32, y = i_1 + 1 := ⟨_, rfl⟩
      have vx_10 := b_add (rfl : i_1.toInt = _) (by decide : (1 : Int32).toInt = 1) ex_10 (by omega) (by omega)
      refine lv_iinc (v := x_10) (lv' := [(1, .int x_10), (0, .ref h0)]) hx hb dX12_isInside_23 hl (k := 0) rfl (by rw [ex_10]; rfl) (by decide) rfl (fun ls hl => ?_)
      refine lv_goto (tgt := 2) hx hb dX12_isInside_26 (by decide) ?_
      exact ih_4 ⟨x_10, σ_2, ρ_3⟩ _ _ _ ⟨(by omega), (by omega), hB, hS, lv_sub hl [0, 1] rfl⟩ (by show (400 - x_10.toInt).toNat < (400 - i_1.toInt).toNat; omega)
    · skip
      have uc_9 := i_eq (n := 91) (by decide) c_9
      refine lv_iconst (v := 1) hx hb dX12_isInside_21 (by decide) ?_
      exact W.zret (v := 1) hx hb hr rfl (fun t ht hW => ⟨⟨1, (σ_2, ρ_3), rfl, ⟨hB.2.1, hB.2.2, (show 0 ≤ (1 : Int32).toInt ∧ (1 : Int32).toInt ≤ 1 from ⟨by decide, by decide⟩)⟩, (show TP D cA L T r σ_2 ρ_3 t.heap from by rw [ht]; exact hB.1)⟩, hS.F ht⟩) hS.2.2 dX12_isInside_22
theorem mw_5_225 : (.fieldLink RX12 99 "HillBendsModel" "wrong" "I" : Cond) ∈ wsA := wsA_t (List.mem_append_right _ (List.mem_append_right _ (List.mem_append_right _ (List.mem_append_right _ (List.mem_append_left _ (List.mem_of_getElem? (l := tables_1_5) (i := 225) rfl)))))) rfl
theorem dX12_fails_0 : decode cX12_fails 0 = .ok (.aload_n 0, 1) := by decide +kernel
theorem dX12_fails_1 : decode cX12_fails 1 = .ok (.getfield 99, 3) := by decide +kernel
theorem dX12_fails_4 : decode cX12_fails 4 = .ok (.ifCond .ne 15, 3) := by decide +kernel
theorem dX12_fails_19 : decode cX12_fails 19 = .ok (.iconst 0, 1) := by decide +kernel
theorem dX12_fails_20 : decode cX12_fails 20 = .ok (.ireturn, 1) := by decide +kernel
theorem dX12_fails_7 : decode cX12_fails 7 = .ok (.aload_n 0, 1) := by decide +kernel
theorem dX12_fails_8 : decode cX12_fails 8 = .ok (.iconst 1, 1) := by decide +kernel
theorem dX12_fails_9 : decode cX12_fails 9 = .ok (.bipush 8, 2) := by decide +kernel
theorem dX12_fails_11 : decode cX12_fails 11 = .ok (.iload_n 2, 1) := by decide +kernel
theorem dX12_fails_12 : decode cX12_fails 12 = .ok (.imul, 1) := by decide +kernel
theorem dX12_fails_13 : decode cX12_fails 13 = .ok (.iadd, 1) := by decide +kernel
theorem dX12_fails_14 : decode cX12_fails 14 = .ok (.iload_n 1, 1) := by decide +kernel
theorem dX12_fails_15 : decode cX12_fails 15 = .ok (.iadd, 1) := by decide +kernel
theorem dX12_fails_16 : decode cX12_fails 16 = .ok (.putfield 99, 3) := by decide +kernel
set_option maxHeartbeats 4000000 in
set_option maxRecDepth 100000 in
theorem cy_X12_fails (l : Launch) (D : va_G) (cA : Nat → ClassId) (L : List Nat) (T : Nat → Nat) (r : Rg) (hG : GR L T r) (hL : L.Nodup) (σ : Sg) (ρ : Lg) (hW : WT L ry T σ) (sz : Nat) (h0 : Nat) (mh0 : h0 ∈ L) (th0 : T h0 = 12) (p1 : Int32) (p2 : Int32) (w0 : 0 ≤ p1.toInt) (w1 : p1.toInt ≤ 4) (w2 : 0 ≤ p2.toInt) (w3 : p2.toInt ≤ 400) : Met l yX12_fails (.code yX12_fails cX12_fails 3 (some .boolean) :: wsA) ({ frames := 0, cells := 0, slots := 0, locals := 0 }) (PR D cA L T r σ ρ sz [.ref h0, .int p1, .int p2]) (QI D cA L T r ry [(12, 9)] σ sz (fun x σ1 => x = 0)) 0 0 (dm L sz) := by
  refine Met.ofW (cc := cX12_fails) (maxL := 3) (ret := (some .boolean)) (by decide) rfl ?_
  intro p e s m args below meth c s₁ B hml hv
  obtain ⟨rfl, hsz, hP, hK, hN⟩ := hv
  have hx := B.exec
  have hb := B.bytes
  have hr := B.returns
  have hts : ∀ w ∈ wsA, w.before _ s = true := fun w h => atoms_spec (ws := .code yX12_fails cX12_fails 3 (some .boolean) :: wsA) B.pre w (List.mem_cons_of_mem _ h)
  have hown : s.vm.findClass RX12 = some m.cls := findClass_of_methodNamed B.named
  subst hsz
  have hLA : LA (dm L s.heap.size) L := ⟨hL, fun a h => Or.inl h⟩
  have hA : ∀ q : Nat, s.heap.size ≤ q → dm L s.heap.size q := fun q h => Or.inr h
  have hS : va_S (dm L s.heap.size) s.heap s.heap [] := va_S.rf
  have hB : TS D cA L T r ry [(12, 9)] σ σ ρ s.heap := ⟨hP, hW, FR.rf⟩
  have hl := lv_entry ([.ref h0, .int p1, .int p2]) (n := 3) (Nat.le_of_ble_eq_true rfl)
  rw [lg_entry_eq]
  generalize (lg_sl ([.ref h0, .int p1, .int p2]) ++ List.replicate (3 - (lg_sl ([.ref h0, .int p1, .int p2])).length) Slot.unset).toArray = ls at hl ⊢
  have hl : lv_has ls 3 [(0, .ref h0), (1, .int p1), (2, .int p2)] := hl
  refine lv_aload_n hx hb dX12_fails_0 rfl (lv_at hl 0 rfl) ?_
  refine t_gi hx hb hts hown hK hB mh0 th0 fi_12_9 rfl mw_5_225 dX12_fails_1 (fun x_1 ex_1 lx_1 ux_1 => ?_)
  have cx_1 := congrArg Int32.toInt ex_1
  refine lv_if_ne (tgt := 19) hx hb dX12_fails_4 (by decide) (fun c_2 => ?_) (fun c_2 => ?_)
  · skip
    have uc_2 := i_ne (n := 0) (by decide) c_2
    refine lv_iconst (v := 0) hx hb dX12_fails_19 (by decide) ?_
    exact W.zret (v := 0) hx hb hr rfl (fun t ht hW => ⟨⟨0, (σ, ρ), rfl, ⟨hB.2.1, hB.2.2, rfl⟩, (show TP D cA L T r σ ρ t.heap from by rw [ht]; exact hB.1)⟩, hS.F ht⟩) hS.2.2 dX12_fails_20
  · skip
    have uc_2 := i_eq (n := 0) (by decide) c_2
    refine lv_aload_n hx hb dX12_fails_7 rfl (lv_at hl 0 rfl) ?_
    refine lv_iconst (v := 1) hx hb dX12_fails_8 (by decide) ?_
    refine lv_bipush (v := 8) hx hb dX12_fails_9 (by decide) ?_
    refine lv_iload_n hx hb dX12_fails_11 rfl (lv_at hl 2 rfl) ?_
    refine lv_imul hx hb dX12_fails_12 ?_
    refine lv_topi (fun x_3 ex_3 => ?_)
    have vx_3 := b_mul (by decide : (8 : Int32).toInt = 8) (rfl : p2.toInt = _) ex_3 (by omega) (by omega)
    refine lv_iadd hx hb dX12_fails_13 ?_
    refine lv_topi (fun x_4 ex_4 => ?_)
    have vx_4 := b_add (by decide : (1 : Int32).toInt = 1) (rfl : x_3.toInt = _) ex_4 (by omega) (by omega)
    refine lv_iload_n hx hb dX12_fails_14 rfl (lv_at hl 1 rfl) ?_
    refine lv_iadd hx hb dX12_fails_15 ?_
    refine lv_topi (fun x_5 ex_5 => ?_)
    have vx_5 := b_add (rfl : x_4.toInt = _) (rfl : p1.toInt = _) ex_5 (by omega) (by omega)
    refine t_pi hx hb hts hown hK hLA hB hS mh0 th0 fi_12_9 rfl rfl rfl (i_lo _) (i_hi _) (Or.inl (by decide)) mw_5_225 dX12_fails_16 (fun H locs σ_6 eσ_6 hB hS => ?_)
    have k_7 : σ_6 h0 9 = x_5 := by rw [eσ_6]; exact up2_same _ _ _ _
    refine lv_iconst (v := 0) hx hb dX12_fails_19 (by decide) ?_
    exact W.zret (v := 0) hx hb hr rfl (fun t ht hW => ⟨⟨0, (σ_6, ρ), rfl, ⟨hB.2.1, hB.2.2, rfl⟩, (show TP D cA L T r σ_6 ρ t.heap from by rw [ht]; exact hB.1)⟩, hS.F ht⟩) hS.2.2 dX12_fails_20
theorem mw_5_228 : (.fieldLink RX12 157 "HillBendsModel" "made" "I" : Cond) ∈ wsA := wsA_t (List.mem_append_right _ (List.mem_append_right _ (List.mem_append_right _ (List.mem_append_right _ (List.mem_append_left _ (List.mem_of_getElem? (l := tables_1_5) (i := 228) rfl)))))) rfl
theorem mw_6_159 : (.instanceMethod yX12_fails : Cond) ∈ wsA := wsA_t (List.mem_append_right _ (List.mem_append_right _ (List.mem_append_right _ (List.mem_append_right _ (List.mem_append_right _ (List.mem_append_left _ (List.mem_of_getElem? (l := tables_1_6) (i := 159) rfl))))))) rfl
theorem mp_4_1 : (.selects RX12 yX12_fails yX12_fails : Cond) ∈ wsA := wsA_p (q := (yX12_fails, 44)) (List.mem_append_right _ (List.mem_append_right _ (List.mem_append_right _ (List.mem_append_left _ (List.mem_of_getElem? (l := lw_privs_4) (i := 1) rfl)))))
theorem mw_6_160 : (.code yX12_fails cX12_fails 3 (some .boolean) : Cond) ∈ wsA := wsA_t (List.mem_append_right _ (List.mem_append_right _ (List.mem_append_right _ (List.mem_append_right _ (List.mem_append_right _ (List.mem_append_left _ (List.mem_of_getElem? (l := tables_1_6) (i := 160) rfl))))))) rfl
theorem mw_6_157 : (.methodLink RX12 123 yX12_fails : Cond) ∈ wsA := wsA_t (List.mem_append_right _ (List.mem_append_right _ (List.mem_append_right _ (List.mem_append_right _ (List.mem_append_right _ (List.mem_append_left _ (List.mem_of_getElem? (l := tables_1_6) (i := 157) rfl))))))) rfl
theorem dX12_makes_0 : decode cX12_makes 0 = .ok (.aload_n 0, 1) := by decide +kernel
theorem dX12_makes_1 : decode cX12_makes 1 = .ok (.getfield 157, 3) := by decide +kernel
theorem dX12_makes_4 : decode cX12_makes 4 = .ok (.bipush 60, 2) := by decide +kernel
theorem dX12_makes_6 : decode cX12_makes 6 = .ok (.if_icmp .ne 10, 3) := by decide +kernel
theorem dX12_makes_16 : decode cX12_makes 16 = .ok (.aload_n 0, 1) := by decide +kernel
theorem dX12_makes_17 : decode cX12_makes 17 = .ok (.dup, 1) := by decide +kernel
theorem dX12_makes_18 : decode cX12_makes 18 = .ok (.getfield 157, 3) := by decide +kernel
theorem dX12_makes_21 : decode cX12_makes 21 = .ok (.iconst 1, 1) := by decide +kernel
theorem dX12_makes_22 : decode cX12_makes 22 = .ok (.iadd, 1) := by decide +kernel
theorem dX12_makes_23 : decode cX12_makes 23 = .ok (.putfield 157, 3) := by decide +kernel
theorem dX12_makes_26 : decode cX12_makes 26 = .ok (.iconst 1, 1) := by decide +kernel
theorem dX12_makes_27 : decode cX12_makes 27 = .ok (.ireturn, 1) := by decide +kernel
theorem dX12_makes_9 : decode cX12_makes 9 = .ok (.aload_n 0, 1) := by decide +kernel
theorem dX12_makes_10 : decode cX12_makes 10 = .ok (.iconst 3, 1) := by decide +kernel
theorem dX12_makes_11 : decode cX12_makes 11 = .ok (.iload_n 1, 1) := by decide +kernel
theorem dX12_makes_12 : decode cX12_makes 12 = .ok (.invokevirtual 123, 3) := by decide +kernel
theorem dX12_makes_15 : decode cX12_makes 15 = .ok (.ireturn, 1) := by decide +kernel
theorem mv_X12_fails : MV RX12 yX12_fails cX12_fails 3 (some .boolean) 2 := ⟨mw_6_159, mp_4_1, mw_1_13, mw_6_160, ⟨rfl, by decide, by decide, by decide +kernel⟩⟩
set_option maxHeartbeats 4000000 in
set_option maxRecDepth 100000 in
theorem cy_X12_makes (l : Launch) (D : va_G) (cA : Nat → ClassId) (L : List Nat) (T : Nat → Nat) (r : Rg) (hG : GR L T r) (hL : L.Nodup) (σ : Sg) (ρ : Lg) (hW : WT L ry T σ) (sz : Nat) (h0 : Nat) (mh0 : h0 ∈ L) (th0 : T h0 = 12) (p1 : Int32) (w0 : 0 ≤ p1.toInt) (w1 : p1.toInt ≤ 400) : Met l yX12_makes (.code yX12_makes cX12_makes 2 (some .boolean) :: wsA) ({ frames := 1, cells := 0, slots := 0, locals := 22 }) (PR D cA L T r σ ρ sz [.ref h0, .int p1]) (QI D cA L T r ry [(12, 9), (12, 12)] σ sz (fun x σ1 => (0 ≤ x.toInt ∧ x.toInt ≤ 1))) 0 0 (dm L sz) := by
  refine Met.ofW (cc := cX12_makes) (maxL := 2) (ret := (some .boolean)) (by decide) rfl ?_
  intro p e s m args below meth c s₁ B hml hv
  obtain ⟨rfl, hsz, hP, hK, hN⟩ := hv
  have hx := B.exec
  have hb := B.bytes
  have hr := B.returns
  have hts : ∀ w ∈ wsA, w.before _ s = true := fun w h => atoms_spec (ws := .code yX12_makes cX12_makes 2 (some .boolean) :: wsA) B.pre w (List.mem_cons_of_mem _ h)
  have hown : s.vm.findClass RX12 = some m.cls := findClass_of_methodNamed B.named
  subst hsz
  have hLA : LA (dm L s.heap.size) L := ⟨hL, fun a h => Or.inl h⟩
  have hA : ∀ q : Nat, s.heap.size ≤ q → dm L s.heap.size q := fun q h => Or.inr h
  have hS : va_S (dm L s.heap.size) s.heap s.heap [] := va_S.rf
  have hB : TS D cA L T r ry [(12, 9), (12, 12)] σ σ ρ s.heap := ⟨hP, hW, FR.rf⟩
  have hl := lv_entry ([.ref h0, .int p1]) (n := 2) (Nat.le_of_ble_eq_true rfl)
  rw [lg_entry_eq]
  generalize (lg_sl ([.ref h0, .int p1]) ++ List.replicate (2 - (lg_sl ([.ref h0, .int p1])).length) Slot.unset).toArray = ls at hl ⊢
  have hl : lv_has ls 2 [(0, .ref h0), (1, .int p1)] := hl
  refine lv_aload_n hx hb dX12_makes_0 rfl (lv_at hl 0 rfl) ?_
  refine t_gi hx hb hts hown hK hB mh0 th0 fi_12_12 rfl mw_5_228 dX12_makes_1 (fun x_1 ex_1 lx_1 ux_1 => ?_)
  have cx_1 := congrArg Int32.toInt ex_1
  refine lv_bipush (v := 60) hx hb dX12_makes_4 (by decide) ?_
  refine lv_icmp_ne (tgt := 16) hx hb dX12_makes_6 (by decide) (fun c_2 => ?_) (fun c_2 => ?_)
  · skip
    have uc_2 := i_ne (n := 60) (by decide) c_2
    refine lv_aload_n hx hb dX12_makes_16 rfl (lv_at hl 0 rfl) ?_
    refine lv_dup hx hb dX12_makes_17 rfl ?_
    refine t_gv hx hb hts hown hK hB mh0 th0 fi_12_12 ex_1.symm mw_5_228 dX12_makes_18 ?_
    refine lv_iconst (v := 1) hx hb dX12_makes_21 (by decide) ?_
    refine lv_iadd hx hb dX12_makes_22 ?_
    refine lv_topi (fun x_3 ex_3 => ?_)
    have vx_3 := b_add (rfl : x_1.toInt = _) (by decide : (1 : Int32).toInt = 1) ex_3 (by omega) (by omega)
    refine t_pi hx hb hts hown hK hLA hB hS mh0 th0 fi_12_12 rfl rfl rfl (by first | omega | (subst_vars; omega)) (by first | omega | (subst_vars; omega)) (Or.inl (by decide)) mw_5_228 dX12_makes_23 (fun H locs σ_4 eσ_4 hB hS => ?_)
    have k_5 : σ_4 h0 12 = x_3 := by rw [eσ_4]; exact up2_same _ _ _ _
    refine lv_iconst (v := 1) hx hb dX12_makes_26 (by decide) ?_
    exact W.zret (v := 1) hx hb hr rfl (fun t ht hW => ⟨⟨1, (σ_4, ρ), rfl, ⟨hB.2.1, hB.2.2, (show 0 ≤ (1 : Int32).toInt ∧ (1 : Int32).toInt ≤ 1 from ⟨by decide, by decide⟩)⟩, (show TP D cA L T r σ_4 ρ t.heap from by rw [ht]; exact hB.1)⟩, hS.F ht⟩) hS.2.2 dX12_makes_27
  · skip
    have uc_2 := i_eq (n := 60) (by decide) c_2
    refine lv_aload_n hx hb dX12_makes_9 rfl (lv_at hl 0 rfl) ?_
    refine lv_iconst (v := 3) hx hb dX12_makes_10 (by decide) ?_
    refine lv_iload_n hx hb dX12_makes_11 rfl (lv_at hl 1 rfl) ?_
    refine t_ci (va_runV (As := [.int 3, .int p1]) (rest := []) ⟨hx, hb, hml, hown, hts⟩ (cy_X12_fails l D cA L T r hG hLA.1 σ ρ hB.2.1 _ h0 mh0 th0 3 p1 (by first | omega | decide) (by first | omega | decide) (by first | omega | decide) (by first | omega | decide)) (cV hts mv_X12_fails mw_6_157 rfl rfl ⟨Nat.le_of_ble_eq_true rfl, Nat.le_of_ble_eq_true rfl⟩) (pV hB.1 hK hN mh0 th0 (show shp cA 12 _ _ _ = .inr (12, Fs12 _ _ _) from rfl) rfl) rfl rfl hl.1 rfl (lv_room (Nat.le_of_ble_eq_true rfl)) dX12_makes_12 ⟨Nat.le_of_ble_eq_true rfl, Nat.le_of_ble_eq_true rfl⟩) hLA hA hB hS (by decide) (fun x_8 σ_6 ρ_7 H locs hB fσ_6 pσ_6 hS => ?_)
    subst pσ_6
    exact W.zret (v := 0) hx hb hr rfl (fun t ht hW => ⟨⟨0, (σ_6, ρ_7), rfl, ⟨hB.2.1, hB.2.2, (show 0 ≤ (0 : Int32).toInt ∧ (0 : Int32).toInt ≤ 1 from ⟨by decide, by decide⟩)⟩, (show TP D cA L T r σ_6 ρ_7 t.heap from by rw [ht]; exact hB.1)⟩, hS.F ht⟩) hS.2.2 dX12_makes_15
theorem dX12_end_0 : decode cX12_end 0 = .ok (.iload_n 1, 1) := by decide +kernel
theorem dX12_end_1 : decode cX12_end 1 = .ok (.ifCond .lt 11, 3) := by decide +kernel
theorem dX12_end_12 : decode cX12_end 12 = .ok (.iconst (-1), 1) := by decide +kernel
theorem dX12_end_13 : decode cX12_end 13 = .ok (.ireturn, 1) := by decide +kernel
theorem dX12_end_4 : decode cX12_end 4 = .ok (.iload_n 1, 1) := by decide +kernel
theorem dX12_end_5 : decode cX12_end 5 = .ok (.aload_n 0, 1) := by decide +kernel
theorem dX12_end_6 : decode cX12_end 6 = .ok (.getfield 92, 3) := by decide +kernel
theorem dX12_end_9 : decode cX12_end 9 = .ok (.if_icmp .le 5, 3) := by decide +kernel
theorem dX12_end_14 : decode cX12_end 14 = .ok (.aload_n 0, 1) := by decide +kernel
theorem dX12_end_15 : decode cX12_end 15 = .ok (.iload_n 1, 1) := by decide +kernel
theorem dX12_end_16 : decode cX12_end 16 = .ok (.putfield 92, 3) := by decide +kernel
theorem dX12_end_19 : decode cX12_end 19 = .ok (.iload_n 1, 1) := by decide +kernel
theorem dX12_end_20 : decode cX12_end 20 = .ok (.ireturn, 1) := by decide +kernel
set_option maxHeartbeats 4000000 in
set_option maxRecDepth 100000 in
theorem cy_X12_end (l : Launch) (D : va_G) (cA : Nat → ClassId) (L : List Nat) (T : Nat → Nat) (r : Rg) (hG : GR L T r) (hL : L.Nodup) (σ : Sg) (ρ : Lg) (hW : WT L ry T σ) (sz : Nat) (h0 : Nat) (mh0 : h0 ∈ L) (th0 : T h0 = 12) (p1 : Int32) : Met l yX12_end (.code yX12_end cX12_end 2 (some .int) :: wsA) ({ frames := 0, cells := 0, slots := 0, locals := 0 }) (PR D cA L T r σ ρ sz [.ref h0, .int p1]) (QI D cA L T r ry [(12, 1)] σ sz (fun x σ1 => True)) 0 0 (dm L sz) := by
  refine Met.ofW (cc := cX12_end) (maxL := 2) (ret := (some .int)) (by decide) rfl ?_
  intro p e s m args below meth c s₁ B hml hv
  obtain ⟨rfl, hsz, hP, hK, hN⟩ := hv
  have hx := B.exec
  have hb := B.bytes
  have hr := B.returns
  have hts : ∀ w ∈ wsA, w.before _ s = true := fun w h => atoms_spec (ws := .code yX12_end cX12_end 2 (some .int) :: wsA) B.pre w (List.mem_cons_of_mem _ h)
  have hown : s.vm.findClass RX12 = some m.cls := findClass_of_methodNamed B.named
  subst hsz
  have hLA : LA (dm L s.heap.size) L := ⟨hL, fun a h => Or.inl h⟩
  have hA : ∀ q : Nat, s.heap.size ≤ q → dm L s.heap.size q := fun q h => Or.inr h
  have hS : va_S (dm L s.heap.size) s.heap s.heap [] := va_S.rf
  have hB : TS D cA L T r ry [(12, 1)] σ σ ρ s.heap := ⟨hP, hW, FR.rf⟩
  have hl := lv_entry ([.ref h0, .int p1]) (n := 2) (Nat.le_of_ble_eq_true rfl)
  rw [lg_entry_eq]
  generalize (lg_sl ([.ref h0, .int p1]) ++ List.replicate (2 - (lg_sl ([.ref h0, .int p1])).length) Slot.unset).toArray = ls at hl ⊢
  have hl : lv_has ls 2 [(0, .ref h0), (1, .int p1)] := hl
  refine lv_iload_n hx hb dX12_end_0 rfl (lv_at hl 1 rfl) ?_
  refine lv_if_lt (tgt := 12) hx hb dX12_end_1 (by decide) (fun c_1 => ?_) (fun c_1 => ?_)
  · skip
    have uc_1 := i_lt (n := 0) (by decide) c_1
    refine lv_iconst (v := (-1)) hx hb dX12_end_12 (by decide) ?_
    exact W.iret (v := (-1)) hx hb hr (fun t ht hW => ⟨⟨(-1), (σ, ρ), rfl, ⟨hB.2.1, hB.2.2, trivial⟩, (show TP D cA L T r σ ρ t.heap from by rw [ht]; exact hB.1)⟩, hS.F ht⟩) hS.2.2 dX12_end_13
  · skip
    have uc_1 := i_nlt (n := 0) (by decide) c_1
    refine lv_iload_n hx hb dX12_end_4 rfl (lv_at hl 1 rfl) ?_
    refine lv_aload_n hx hb dX12_end_5 rfl (lv_at hl 0 rfl) ?_
    refine t_gi hx hb hts hown hK hB mh0 th0 fi_12_1 rfl mw_5_217 dX12_end_6 (fun x_2 ex_2 lx_2 ux_2 => ?_)
    have cx_2 := congrArg Int32.toInt ex_2
    refine lv_icmp_le (tgt := 14) hx hb dX12_end_9 (by decide) (fun c_3 => ?_) (fun c_3 => ?_)
    · skip
      have uc_3 := j_le c_3
      refine lv_aload_n hx hb dX12_end_14 rfl (lv_at hl 0 rfl) ?_
      refine lv_iload_n hx hb dX12_end_15 rfl (lv_at hl 1 rfl) ?_
      refine t_pi hx hb hts hown hK hLA hB hS mh0 th0 fi_12_1 rfl rfl rfl (by first | omega | (subst_vars; omega)) (by first | omega | (subst_vars; omega)) (Or.inl (by decide)) mw_5_217 dX12_end_16 (fun H locs σ_4 eσ_4 hB hS => ?_)
      have k_5 : σ_4 h0 1 = p1 := by rw [eσ_4]; exact up2_same _ _ _ _
      refine lv_iload_n hx hb dX12_end_19 rfl (lv_at hl 1 rfl) ?_
      exact W.iret (v := p1) hx hb hr (fun t ht hW => ⟨⟨p1, (σ_4, ρ), rfl, ⟨hB.2.1, hB.2.2, trivial⟩, (show TP D cA L T r σ_4 ρ t.heap from by rw [ht]; exact hB.1)⟩, hS.F ht⟩) hS.2.2 dX12_end_20
    · skip
      have uc_3 := j_nle c_3
      refine lv_iconst (v := (-1)) hx hb dX12_end_12 (by decide) ?_
      exact W.iret (v := (-1)) hx hb hr (fun t ht hW => ⟨⟨(-1), (σ, ρ), rfl, ⟨hB.2.1, hB.2.2, trivial⟩, (show TP D cA L T r σ ρ t.heap from by rw [ht]; exact hB.1)⟩, hS.F ht⟩) hS.2.2 dX12_end_13
theorem mw_5_216 : (.fieldLink RX12 7 "HillBendsModel" "tape" "[B" : Cond) ∈ wsA := wsA_t (List.mem_append_right _ (List.mem_append_right _ (List.mem_append_right _ (List.mem_append_right _ (List.mem_append_left _ (List.mem_of_getElem? (l := tables_1_5) (i := 216) rfl)))))) rfl
theorem dX12_isDigit_0 : decode cX12_isDigit 0 = .ok (.iload_n 1, 1) := by decide +kernel
theorem dX12_isDigit_1 : decode cX12_isDigit 1 = .ok (.aload_n 0, 1) := by decide +kernel
theorem dX12_isDigit_2 : decode cX12_isDigit 2 = .ok (.getfield 92, 3) := by decide +kernel
theorem dX12_isDigit_5 : decode cX12_isDigit 5 = .ok (.if_icmp .ge 29, 3) := by decide +kernel
theorem dX12_isDigit_34 : decode cX12_isDigit 34 = .ok (.iconst 0, 1) := by decide +kernel
theorem dX12_isDigit_35 : decode cX12_isDigit 35 = .ok (.ireturn, 1) := by decide +kernel
theorem dX12_isDigit_8 : decode cX12_isDigit 8 = .ok (.aload_n 0, 1) := by decide +kernel
theorem dX12_isDigit_9 : decode cX12_isDigit 9 = .ok (.getfield 7, 3) := by decide +kernel
theorem dX12_isDigit_12 : decode cX12_isDigit 12 = .ok (.iload_n 1, 1) := by decide +kernel
theorem dX12_isDigit_13 : decode cX12_isDigit 13 = .ok (.baload, 1) := by decide +kernel
theorem dX12_isDigit_14 : decode cX12_isDigit 14 = .ok (.bipush 48, 2) := by decide +kernel
theorem dX12_isDigit_16 : decode cX12_isDigit 16 = .ok (.if_icmp .lt 18, 3) := by decide +kernel
theorem dX12_isDigit_19 : decode cX12_isDigit 19 = .ok (.aload_n 0, 1) := by decide +kernel
theorem dX12_isDigit_20 : decode cX12_isDigit 20 = .ok (.getfield 7, 3) := by decide +kernel
theorem dX12_isDigit_23 : decode cX12_isDigit 23 = .ok (.iload_n 1, 1) := by decide +kernel
theorem dX12_isDigit_24 : decode cX12_isDigit 24 = .ok (.baload, 1) := by decide +kernel
theorem dX12_isDigit_25 : decode cX12_isDigit 25 = .ok (.bipush 57, 2) := by decide +kernel
theorem dX12_isDigit_27 : decode cX12_isDigit 27 = .ok (.if_icmp .gt 7, 3) := by decide +kernel
theorem dX12_isDigit_30 : decode cX12_isDigit 30 = .ok (.iconst 1, 1) := by decide +kernel
theorem dX12_isDigit_31 : decode cX12_isDigit 31 = .ok (.goto 4, 3) := by decide +kernel
set_option maxHeartbeats 4000000 in
set_option maxRecDepth 100000 in
theorem cy_X12_isDigit (l : Launch) (D : va_G) (cA : Nat → ClassId) (L : List Nat) (T : Nat → Nat) (r : Rg) (hG : GR L T r) (hL : L.Nodup) (σ : Sg) (ρ : Lg) (hW : WT L ry T σ) (sz : Nat) (h0 : Nat) (mh0 : h0 ∈ L) (th0 : T h0 = 12) (p1 : Int32) (w0 : 0 ≤ p1.toInt) : Met l yX12_isDigit (.code yX12_isDigit cX12_isDigit 2 (some .boolean) :: wsA) ({ frames := 0, cells := 0, slots := 0, locals := 0 }) (PR D cA L T r σ ρ sz [.ref h0, .int p1]) (QI D cA L T r ry ([] : List (Nat × Nat)) σ sz (fun x σ1 => ((x.toInt = 0 ∨ x.toInt = 1) ∧ (x.toInt = 1 → p1.toInt < (σ1 h0 1).toInt)))) 0 0 (dm L sz) := by
  refine Met.ofW (cc := cX12_isDigit) (maxL := 2) (ret := (some .boolean)) (by decide) rfl ?_
  intro p e s m args below meth c s₁ B hml hv
  obtain ⟨rfl, hsz, hP, hK, hN⟩ := hv
  have hx := B.exec
  have hb := B.bytes
  have hr := B.returns
  have hts : ∀ w ∈ wsA, w.before _ s = true := fun w h => atoms_spec (ws := .code yX12_isDigit cX12_isDigit 2 (some .boolean) :: wsA) B.pre w (List.mem_cons_of_mem _ h)
  have hown : s.vm.findClass RX12 = some m.cls := findClass_of_methodNamed B.named
  subst hsz
  have hLA : LA (dm L s.heap.size) L := ⟨hL, fun a h => Or.inl h⟩
  have hA : ∀ q : Nat, s.heap.size ≤ q → dm L s.heap.size q := fun q h => Or.inr h
  have hS : va_S (dm L s.heap.size) s.heap s.heap [] := va_S.rf
  have hB : TS D cA L T r ry ([] : List (Nat × Nat)) σ σ ρ s.heap := ⟨hP, hW, FR.rf⟩
  have hl := lv_entry ([.ref h0, .int p1]) (n := 2) (Nat.le_of_ble_eq_true rfl)
  rw [lg_entry_eq]
  generalize (lg_sl ([.ref h0, .int p1]) ++ List.replicate (2 - (lg_sl ([.ref h0, .int p1])).length) Slot.unset).toArray = ls at hl ⊢
  have hl : lv_has ls 2 [(0, .ref h0), (1, .int p1)] := hl
  have w_1 : 0 ≤ (σ h0 1).toInt ∧ (σ h0 1).toInt ≤ 400 := by have z := hB.2.1 h0 mh0 1; rw [th0] at z; exact z
  refine lv_iload_n hx hb dX12_isDigit_0 rfl (lv_at hl 1 rfl) ?_
  refine lv_aload_n hx hb dX12_isDigit_1 rfl (lv_at hl 0 rfl) ?_
  refine t_gv hx hb hts hown hK hB mh0 th0 fi_12_1 rfl mw_5_217 dX12_isDigit_2 ?_
  refine lv_icmp_ge (tgt := 34) hx hb dX12_isDigit_5 (by decide) (fun c_2 => ?_) (fun c_2 => ?_)
  · skip
    have uc_2 := j_le c_2
    refine lv_iconst (v := 0) hx hb dX12_isDigit_34 (by decide) ?_
    exact W.zret (v := 0) hx hb hr rfl (fun t ht hW => ⟨⟨0, (σ, ρ), rfl, ⟨hB.2.1, hB.2.2, (show ((0 : Int32).toInt = 0 ∨ (0 : Int32).toInt = 1) ∧ ((0 : Int32).toInt = 1 → p1.toInt < (σ h0 1).toInt) from ⟨Or.inl (by decide), fun h => absurd h (by decide)⟩)⟩, (show TP D cA L T r σ ρ t.heap from by rw [ht]; exact hB.1)⟩, hS.F ht⟩) hS.2.2 dX12_isDigit_35
  · skip
    have uc_2 := j_nle c_2
    refine lv_aload_n hx hb dX12_isDigit_8 rfl (lv_at hl 0 rfl) ?_
    refine t_gr hx hb hts hown hK hG hB mh0 th0 fq_12_0 rfl mw_5_216 dX12_isDigit_9 (fun b_3 hb_3 mb_3 tb_3 => ?_)
    refine lv_iload_n hx hb dX12_isDigit_12 rfl (lv_at hl 1 rfl) ?_
    refine t_ab hx hb hK hB mb_3 tb_3 ai_61 (fun _ => rfl) (i_in (by omega) (by omega)) dX12_isDigit_13 (fun x_4 ex_4 lx_4 ux_4 => ?_)
    have cx_4 := congrArg Int32.toInt ex_4
    refine lv_bipush (v := 48) hx hb dX12_isDigit_14 (by decide) ?_
    refine lv_icmp_lt (tgt := 34) hx hb dX12_isDigit_16 (by decide) (fun c_5 => ?_) (fun c_5 => ?_)
    · skip
      have uc_5 := i_lt (n := 48) (by decide) c_5
      refine lv_iconst (v := 0) hx hb dX12_isDigit_34 (by decide) ?_
      exact W.zret (v := 0) hx hb hr rfl (fun t ht hW => ⟨⟨0, (σ, ρ), rfl, ⟨hB.2.1, hB.2.2, (show ((0 : Int32).toInt = 0 ∨ (0 : Int32).toInt = 1) ∧ ((0 : Int32).toInt = 1 → p1.toInt < (σ h0 1).toInt) from ⟨Or.inl (by decide), fun h => absurd h (by decide)⟩)⟩, (show TP D cA L T r σ ρ t.heap from by rw [ht]; exact hB.1)⟩, hS.F ht⟩) hS.2.2 dX12_isDigit_35
    · skip
      have uc_5 := i_nlt (n := 48) (by decide) c_5
      refine lv_aload_n hx hb dX12_isDigit_19 rfl (lv_at hl 0 rfl) ?_
      refine t_gk hx hb hts hown hK hB mh0 th0 fq_12_0 hb_3 mw_5_216 dX12_isDigit_20 ?_
      refine lv_iload_n hx hb dX12_isDigit_23 rfl (lv_at hl 1 rfl) ?_
      refine t_ab hx hb hK hB mb_3 tb_3 ai_61 (fun _ => rfl) (i_in (by omega) (by omega)) dX12_isDigit_24 (fun x_6 ex_6 lx_6 ux_6 => ?_)
      have qx_6 : x_6 = x_4 := ex_6.trans ex_4.symm
      have qx_6 := qx_6.symm
      subst qx_6
      refine lv_bipush (v := 57) hx hb dX12_isDigit_25 (by decide) ?_
      refine lv_icmp_gt (tgt := 34) hx hb dX12_isDigit_27 (by decide) (fun c_7 => ?_) (fun c_7 => ?_)
      · skip
        have uc_7 := i_gt (n := 57) (by decide) c_7
        refine lv_iconst (v := 0) hx hb dX12_isDigit_34 (by decide) ?_
        exact W.zret (v := 0) hx hb hr rfl (fun t ht hW => ⟨⟨0, (σ, ρ), rfl, ⟨hB.2.1, hB.2.2, (show ((0 : Int32).toInt = 0 ∨ (0 : Int32).toInt = 1) ∧ ((0 : Int32).toInt = 1 → p1.toInt < (σ h0 1).toInt) from ⟨Or.inl (by decide), fun h => absurd h (by decide)⟩)⟩, (show TP D cA L T r σ ρ t.heap from by rw [ht]; exact hB.1)⟩, hS.F ht⟩) hS.2.2 dX12_isDigit_35
      · skip
        have uc_7 := i_ngt (n := 57) (by decide) c_7
        refine lv_iconst (v := 1) hx hb dX12_isDigit_30 (by decide) ?_
        refine lv_goto (tgt := 35) hx hb dX12_isDigit_31 (by decide) ?_
        exact W.zret (v := 1) hx hb hr rfl (fun t ht hW => ⟨⟨1, (σ, ρ), rfl, ⟨hB.2.1, hB.2.2, (show ((1 : Int32).toInt = 0 ∨ (1 : Int32).toInt = 1) ∧ ((1 : Int32).toInt = 1 → p1.toInt < (σ h0 1).toInt) from ⟨Or.inr (by decide), fun _ => by omega⟩)⟩, (show TP D cA L T r σ ρ t.heap from by rw [ht]; exact hB.1)⟩, hS.F ht⟩) hS.2.2 dX12_isDigit_35
theorem dX12_isLetter_0 : decode cX12_isLetter 0 = .ok (.iload_n 1, 1) := by decide +kernel
theorem dX12_isLetter_1 : decode cX12_isLetter 1 = .ok (.aload_n 0, 1) := by decide +kernel
theorem dX12_isLetter_2 : decode cX12_isLetter 2 = .ok (.getfield 92, 3) := by decide +kernel
theorem dX12_isLetter_5 : decode cX12_isLetter 5 = .ok (.if_icmp .ge 29, 3) := by decide +kernel
theorem dX12_isLetter_34 : decode cX12_isLetter 34 = .ok (.iconst 0, 1) := by decide +kernel
theorem dX12_isLetter_35 : decode cX12_isLetter 35 = .ok (.ireturn, 1) := by decide +kernel
theorem dX12_isLetter_8 : decode cX12_isLetter 8 = .ok (.aload_n 0, 1) := by decide +kernel
theorem dX12_isLetter_9 : decode cX12_isLetter 9 = .ok (.getfield 7, 3) := by decide +kernel
theorem dX12_isLetter_12 : decode cX12_isLetter 12 = .ok (.iload_n 1, 1) := by decide +kernel
theorem dX12_isLetter_13 : decode cX12_isLetter 13 = .ok (.baload, 1) := by decide +kernel
theorem dX12_isLetter_14 : decode cX12_isLetter 14 = .ok (.bipush 97, 2) := by decide +kernel
theorem dX12_isLetter_16 : decode cX12_isLetter 16 = .ok (.if_icmp .lt 18, 3) := by decide +kernel
theorem dX12_isLetter_19 : decode cX12_isLetter 19 = .ok (.aload_n 0, 1) := by decide +kernel
theorem dX12_isLetter_20 : decode cX12_isLetter 20 = .ok (.getfield 7, 3) := by decide +kernel
theorem dX12_isLetter_23 : decode cX12_isLetter 23 = .ok (.iload_n 1, 1) := by decide +kernel
theorem dX12_isLetter_24 : decode cX12_isLetter 24 = .ok (.baload, 1) := by decide +kernel
theorem dX12_isLetter_25 : decode cX12_isLetter 25 = .ok (.bipush 122, 2) := by decide +kernel
theorem dX12_isLetter_27 : decode cX12_isLetter 27 = .ok (.if_icmp .gt 7, 3) := by decide +kernel
theorem dX12_isLetter_30 : decode cX12_isLetter 30 = .ok (.iconst 1, 1) := by decide +kernel
theorem dX12_isLetter_31 : decode cX12_isLetter 31 = .ok (.goto 4, 3) := by decide +kernel
set_option maxHeartbeats 4000000 in
set_option maxRecDepth 100000 in
theorem cy_X12_isLetter (l : Launch) (D : va_G) (cA : Nat → ClassId) (L : List Nat) (T : Nat → Nat) (r : Rg) (hG : GR L T r) (hL : L.Nodup) (σ : Sg) (ρ : Lg) (hW : WT L ry T σ) (sz : Nat) (h0 : Nat) (mh0 : h0 ∈ L) (th0 : T h0 = 12) (p1 : Int32) (w0 : 0 ≤ p1.toInt) : Met l yX12_isLetter (.code yX12_isLetter cX12_isLetter 2 (some .boolean) :: wsA) ({ frames := 0, cells := 0, slots := 0, locals := 0 }) (PR D cA L T r σ ρ sz [.ref h0, .int p1]) (QI D cA L T r ry ([] : List (Nat × Nat)) σ sz (fun x σ1 => ((x.toInt = 0 ∨ x.toInt = 1) ∧ (x.toInt = 1 → p1.toInt < (σ1 h0 1).toInt)))) 0 0 (dm L sz) := by
  refine Met.ofW (cc := cX12_isLetter) (maxL := 2) (ret := (some .boolean)) (by decide) rfl ?_
  intro p e s m args below meth c s₁ B hml hv
  obtain ⟨rfl, hsz, hP, hK, hN⟩ := hv
  have hx := B.exec
  have hb := B.bytes
  have hr := B.returns
  have hts : ∀ w ∈ wsA, w.before _ s = true := fun w h => atoms_spec (ws := .code yX12_isLetter cX12_isLetter 2 (some .boolean) :: wsA) B.pre w (List.mem_cons_of_mem _ h)
  have hown : s.vm.findClass RX12 = some m.cls := findClass_of_methodNamed B.named
  subst hsz
  have hLA : LA (dm L s.heap.size) L := ⟨hL, fun a h => Or.inl h⟩
  have hA : ∀ q : Nat, s.heap.size ≤ q → dm L s.heap.size q := fun q h => Or.inr h
  have hS : va_S (dm L s.heap.size) s.heap s.heap [] := va_S.rf
  have hB : TS D cA L T r ry ([] : List (Nat × Nat)) σ σ ρ s.heap := ⟨hP, hW, FR.rf⟩
  have hl := lv_entry ([.ref h0, .int p1]) (n := 2) (Nat.le_of_ble_eq_true rfl)
  rw [lg_entry_eq]
  generalize (lg_sl ([.ref h0, .int p1]) ++ List.replicate (2 - (lg_sl ([.ref h0, .int p1])).length) Slot.unset).toArray = ls at hl ⊢
  have hl : lv_has ls 2 [(0, .ref h0), (1, .int p1)] := hl
  have w_1 : 0 ≤ (σ h0 1).toInt ∧ (σ h0 1).toInt ≤ 400 := by have z := hB.2.1 h0 mh0 1; rw [th0] at z; exact z
  refine lv_iload_n hx hb dX12_isLetter_0 rfl (lv_at hl 1 rfl) ?_
  refine lv_aload_n hx hb dX12_isLetter_1 rfl (lv_at hl 0 rfl) ?_
  refine t_gv hx hb hts hown hK hB mh0 th0 fi_12_1 rfl mw_5_217 dX12_isLetter_2 ?_
  refine lv_icmp_ge (tgt := 34) hx hb dX12_isLetter_5 (by decide) (fun c_2 => ?_) (fun c_2 => ?_)
  · skip
    have uc_2 := j_le c_2
    refine lv_iconst (v := 0) hx hb dX12_isLetter_34 (by decide) ?_
    exact W.zret (v := 0) hx hb hr rfl (fun t ht hW => ⟨⟨0, (σ, ρ), rfl, ⟨hB.2.1, hB.2.2, (show ((0 : Int32).toInt = 0 ∨ (0 : Int32).toInt = 1) ∧ ((0 : Int32).toInt = 1 → p1.toInt < (σ h0 1).toInt) from ⟨Or.inl (by decide), fun h => absurd h (by decide)⟩)⟩, (show TP D cA L T r σ ρ t.heap from by rw [ht]; exact hB.1)⟩, hS.F ht⟩) hS.2.2 dX12_isLetter_35
  · skip
    have uc_2 := j_nle c_2
    refine lv_aload_n hx hb dX12_isLetter_8 rfl (lv_at hl 0 rfl) ?_
    refine t_gr hx hb hts hown hK hG hB mh0 th0 fq_12_0 rfl mw_5_216 dX12_isLetter_9 (fun b_3 hb_3 mb_3 tb_3 => ?_)
    refine lv_iload_n hx hb dX12_isLetter_12 rfl (lv_at hl 1 rfl) ?_
    refine t_ab hx hb hK hB mb_3 tb_3 ai_61 (fun _ => rfl) (i_in (by omega) (by omega)) dX12_isLetter_13 (fun x_4 ex_4 lx_4 ux_4 => ?_)
    have cx_4 := congrArg Int32.toInt ex_4
    refine lv_bipush (v := 97) hx hb dX12_isLetter_14 (by decide) ?_
    refine lv_icmp_lt (tgt := 34) hx hb dX12_isLetter_16 (by decide) (fun c_5 => ?_) (fun c_5 => ?_)
    · skip
      have uc_5 := i_lt (n := 97) (by decide) c_5
      refine lv_iconst (v := 0) hx hb dX12_isLetter_34 (by decide) ?_
      exact W.zret (v := 0) hx hb hr rfl (fun t ht hW => ⟨⟨0, (σ, ρ), rfl, ⟨hB.2.1, hB.2.2, (show ((0 : Int32).toInt = 0 ∨ (0 : Int32).toInt = 1) ∧ ((0 : Int32).toInt = 1 → p1.toInt < (σ h0 1).toInt) from ⟨Or.inl (by decide), fun h => absurd h (by decide)⟩)⟩, (show TP D cA L T r σ ρ t.heap from by rw [ht]; exact hB.1)⟩, hS.F ht⟩) hS.2.2 dX12_isLetter_35
    · skip
      have uc_5 := i_nlt (n := 97) (by decide) c_5
      refine lv_aload_n hx hb dX12_isLetter_19 rfl (lv_at hl 0 rfl) ?_
      refine t_gk hx hb hts hown hK hB mh0 th0 fq_12_0 hb_3 mw_5_216 dX12_isLetter_20 ?_
      refine lv_iload_n hx hb dX12_isLetter_23 rfl (lv_at hl 1 rfl) ?_
      refine t_ab hx hb hK hB mb_3 tb_3 ai_61 (fun _ => rfl) (i_in (by omega) (by omega)) dX12_isLetter_24 (fun x_6 ex_6 lx_6 ux_6 => ?_)
      have qx_6 : x_6 = x_4 := ex_6.trans ex_4.symm
      have qx_6 := qx_6.symm
      subst qx_6
      refine lv_bipush (v := 122) hx hb dX12_isLetter_25 (by decide) ?_
      refine lv_icmp_gt (tgt := 34) hx hb dX12_isLetter_27 (by decide) (fun c_7 => ?_) (fun c_7 => ?_)
      · skip
        have uc_7 := i_gt (n := 122) (by decide) c_7
        refine lv_iconst (v := 0) hx hb dX12_isLetter_34 (by decide) ?_
        exact W.zret (v := 0) hx hb hr rfl (fun t ht hW => ⟨⟨0, (σ, ρ), rfl, ⟨hB.2.1, hB.2.2, (show ((0 : Int32).toInt = 0 ∨ (0 : Int32).toInt = 1) ∧ ((0 : Int32).toInt = 1 → p1.toInt < (σ h0 1).toInt) from ⟨Or.inl (by decide), fun h => absurd h (by decide)⟩)⟩, (show TP D cA L T r σ ρ t.heap from by rw [ht]; exact hB.1)⟩, hS.F ht⟩) hS.2.2 dX12_isLetter_35
      · skip
        have uc_7 := i_ngt (n := 122) (by decide) c_7
        refine lv_iconst (v := 1) hx hb dX12_isLetter_30 (by decide) ?_
        refine lv_goto (tgt := 35) hx hb dX12_isLetter_31 (by decide) ?_
        exact W.zret (v := 1) hx hb hr rfl (fun t ht hW => ⟨⟨1, (σ, ρ), rfl, ⟨hB.2.1, hB.2.2, (show ((1 : Int32).toInt = 0 ∨ (1 : Int32).toInt = 1) ∧ ((1 : Int32).toInt = 1 → p1.toInt < (σ h0 1).toInt) from ⟨Or.inr (by decide), fun _ => by omega⟩)⟩, (show TP D cA L T r σ ρ t.heap from by rw [ht]; exact hB.1)⟩, hS.F ht⟩) hS.2.2 dX12_isLetter_35
