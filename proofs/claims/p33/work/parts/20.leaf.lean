theorem mw_5_149 : (.constant RJ6 265 1431655765 : Cond) ∈ wsA := wsA_t (List.mem_append_right _ (List.mem_append_right _ (List.mem_append_right _ (List.mem_append_right _ (List.mem_append_left _ (List.mem_of_getElem? (l := tables_1_5) (i := 149) rfl)))))) rfl
theorem mw_5_150 : (.constant RJ6 266 858993459 : Cond) ∈ wsA := wsA_t (List.mem_append_right _ (List.mem_append_right _ (List.mem_append_right _ (List.mem_append_right _ (List.mem_append_left _ (List.mem_of_getElem? (l := tables_1_5) (i := 150) rfl)))))) rfl
theorem mw_5_151 : (.constant RJ6 267 252645135 : Cond) ∈ wsA := wsA_t (List.mem_append_right _ (List.mem_append_right _ (List.mem_append_right _ (List.mem_append_right _ (List.mem_append_left _ (List.mem_of_getElem? (l := tables_1_5) (i := 151) rfl)))))) rfl
theorem dJ6_bitCount_0f7a4_0 : decode cJ6_bitCount_0f7a4 0 = .ok (.iload_n 0, 1) := by decide +kernel
theorem dJ6_bitCount_0f7a4_1 : decode cJ6_bitCount_0f7a4 1 = .ok (.iload_n 0, 1) := by decide +kernel
theorem dJ6_bitCount_0f7a4_2 : decode cJ6_bitCount_0f7a4 2 = .ok (.iconst 1, 1) := by decide +kernel
theorem dJ6_bitCount_0f7a4_3 : decode cJ6_bitCount_0f7a4 3 = .ok (.iushr, 1) := by decide +kernel
theorem dJ6_bitCount_0f7a4_4 : decode cJ6_bitCount_0f7a4 4 = .ok (.ldc_w 265, 3) := by decide +kernel
theorem dJ6_bitCount_0f7a4_7 : decode cJ6_bitCount_0f7a4 7 = .ok (.iand, 1) := by decide +kernel
theorem dJ6_bitCount_0f7a4_8 : decode cJ6_bitCount_0f7a4 8 = .ok (.isub, 1) := by decide +kernel
theorem dJ6_bitCount_0f7a4_9 : decode cJ6_bitCount_0f7a4 9 = .ok (.istore_n 0, 1) := by decide +kernel
theorem dJ6_bitCount_0f7a4_10 : decode cJ6_bitCount_0f7a4 10 = .ok (.iload_n 0, 1) := by decide +kernel
theorem dJ6_bitCount_0f7a4_11 : decode cJ6_bitCount_0f7a4 11 = .ok (.ldc_w 266, 3) := by decide +kernel
theorem dJ6_bitCount_0f7a4_14 : decode cJ6_bitCount_0f7a4 14 = .ok (.iand, 1) := by decide +kernel
theorem dJ6_bitCount_0f7a4_15 : decode cJ6_bitCount_0f7a4 15 = .ok (.iload_n 0, 1) := by decide +kernel
theorem dJ6_bitCount_0f7a4_16 : decode cJ6_bitCount_0f7a4 16 = .ok (.iconst 2, 1) := by decide +kernel
theorem dJ6_bitCount_0f7a4_17 : decode cJ6_bitCount_0f7a4 17 = .ok (.iushr, 1) := by decide +kernel
theorem dJ6_bitCount_0f7a4_18 : decode cJ6_bitCount_0f7a4 18 = .ok (.ldc_w 266, 3) := by decide +kernel
theorem dJ6_bitCount_0f7a4_21 : decode cJ6_bitCount_0f7a4 21 = .ok (.iand, 1) := by decide +kernel
theorem dJ6_bitCount_0f7a4_22 : decode cJ6_bitCount_0f7a4 22 = .ok (.iadd, 1) := by decide +kernel
theorem dJ6_bitCount_0f7a4_23 : decode cJ6_bitCount_0f7a4 23 = .ok (.istore_n 0, 1) := by decide +kernel
theorem dJ6_bitCount_0f7a4_24 : decode cJ6_bitCount_0f7a4 24 = .ok (.iload_n 0, 1) := by decide +kernel
theorem dJ6_bitCount_0f7a4_25 : decode cJ6_bitCount_0f7a4 25 = .ok (.iload_n 0, 1) := by decide +kernel
theorem dJ6_bitCount_0f7a4_26 : decode cJ6_bitCount_0f7a4 26 = .ok (.iconst 4, 1) := by decide +kernel
theorem dJ6_bitCount_0f7a4_27 : decode cJ6_bitCount_0f7a4 27 = .ok (.iushr, 1) := by decide +kernel
theorem dJ6_bitCount_0f7a4_28 : decode cJ6_bitCount_0f7a4 28 = .ok (.iadd, 1) := by decide +kernel
theorem dJ6_bitCount_0f7a4_29 : decode cJ6_bitCount_0f7a4 29 = .ok (.ldc_w 267, 3) := by decide +kernel
theorem dJ6_bitCount_0f7a4_32 : decode cJ6_bitCount_0f7a4 32 = .ok (.iand, 1) := by decide +kernel
theorem dJ6_bitCount_0f7a4_33 : decode cJ6_bitCount_0f7a4 33 = .ok (.istore_n 0, 1) := by decide +kernel
theorem dJ6_bitCount_0f7a4_34 : decode cJ6_bitCount_0f7a4 34 = .ok (.iload_n 0, 1) := by decide +kernel
theorem dJ6_bitCount_0f7a4_35 : decode cJ6_bitCount_0f7a4 35 = .ok (.iload_n 0, 1) := by decide +kernel
theorem dJ6_bitCount_0f7a4_36 : decode cJ6_bitCount_0f7a4 36 = .ok (.bipush 8, 2) := by decide +kernel
theorem dJ6_bitCount_0f7a4_38 : decode cJ6_bitCount_0f7a4 38 = .ok (.iushr, 1) := by decide +kernel
theorem dJ6_bitCount_0f7a4_39 : decode cJ6_bitCount_0f7a4 39 = .ok (.iadd, 1) := by decide +kernel
theorem dJ6_bitCount_0f7a4_40 : decode cJ6_bitCount_0f7a4 40 = .ok (.istore_n 0, 1) := by decide +kernel
theorem dJ6_bitCount_0f7a4_41 : decode cJ6_bitCount_0f7a4 41 = .ok (.iload_n 0, 1) := by decide +kernel
theorem dJ6_bitCount_0f7a4_42 : decode cJ6_bitCount_0f7a4 42 = .ok (.iload_n 0, 1) := by decide +kernel
theorem dJ6_bitCount_0f7a4_43 : decode cJ6_bitCount_0f7a4 43 = .ok (.bipush 16, 2) := by decide +kernel
theorem dJ6_bitCount_0f7a4_45 : decode cJ6_bitCount_0f7a4 45 = .ok (.iushr, 1) := by decide +kernel
theorem dJ6_bitCount_0f7a4_46 : decode cJ6_bitCount_0f7a4 46 = .ok (.iadd, 1) := by decide +kernel
theorem dJ6_bitCount_0f7a4_47 : decode cJ6_bitCount_0f7a4 47 = .ok (.istore_n 0, 1) := by decide +kernel
theorem dJ6_bitCount_0f7a4_48 : decode cJ6_bitCount_0f7a4 48 = .ok (.iload_n 0, 1) := by decide +kernel
theorem dJ6_bitCount_0f7a4_49 : decode cJ6_bitCount_0f7a4 49 = .ok (.bipush 63, 2) := by decide +kernel
theorem dJ6_bitCount_0f7a4_51 : decode cJ6_bitCount_0f7a4 51 = .ok (.iand, 1) := by decide +kernel
theorem dJ6_bitCount_0f7a4_52 : decode cJ6_bitCount_0f7a4 52 = .ok (.ireturn, 1) := by decide +kernel
set_option maxHeartbeats 4000000 in
set_option maxRecDepth 100000 in
theorem cy_J6_bitCount_0f7a4 (l : Launch) (D : va_G) (cA : Nat → ClassId) (L : List Nat) (T : Nat → Nat) (r : Rg) (hG : GR L T r) (hL : L.Nodup) (σ : Sg) (ρ : Lg) (hW : WT L ry T σ) (sz : Nat) (p1 : Int32) : Met l yJ6_bitCount_0f7a4 (.code yJ6_bitCount_0f7a4 cJ6_bitCount_0f7a4 1 (some .int) :: wsA) ({ frames := 0, cells := 0, slots := 0, locals := 0 }) (PR D cA L T r σ ρ sz [.int p1]) (QI D cA L T r ry ([] : List (Nat × Nat)) σ sz (fun x σ1 => True)) 0 0 (dm L sz) := by
  refine Met.ofW (cc := cJ6_bitCount_0f7a4) (maxL := 1) (ret := (some .int)) (by decide) rfl ?_
  intro p e s m args below meth c s₁ B hml hv
  obtain ⟨rfl, hsz, hP, hK, hN⟩ := hv
  have hx := B.exec
  have hb := B.bytes
  have hr := B.returns
  have hts : ∀ w ∈ wsA, w.before _ s = true := fun w h => atoms_spec (ws := .code yJ6_bitCount_0f7a4 cJ6_bitCount_0f7a4 1 (some .int) :: wsA) B.pre w (List.mem_cons_of_mem _ h)
  have hown : s.vm.findClass RJ6 = some m.cls := findClass_of_methodNamed B.named
  subst hsz
  have hLA : LA (dm L s.heap.size) L := ⟨hL, fun a h => Or.inl h⟩
  have hA : ∀ q : Nat, s.heap.size ≤ q → dm L s.heap.size q := fun q h => Or.inr h
  have hS : va_S (dm L s.heap.size) s.heap s.heap [] := va_S.rf
  have hB : TS D cA L T r ry ([] : List (Nat × Nat)) σ σ ρ s.heap := ⟨hP, hW, FR.rf⟩
  have hl := lv_entry ([.int p1]) (n := 1) (Nat.le_of_ble_eq_true rfl)
  rw [lg_entry_eq]
  generalize (lg_sl ([.int p1]) ++ List.replicate (1 - (lg_sl ([.int p1])).length) Slot.unset).toArray = ls at hl ⊢
  have hl : lv_has ls 1 [(0, .int p1)] := hl
  refine lv_iload_n hx hb dJ6_bitCount_0f7a4_0 rfl (lv_at hl 0 rfl) ?_
  refine lv_iload_n hx hb dJ6_bitCount_0f7a4_1 rfl (lv_at hl 0 rfl) ?_
  refine lv_iconst (v := 1) hx hb dJ6_bitCount_0f7a4_2 (by decide) ?_
  refine lv_iushr hx hb dJ6_bitCount_0f7a4_3 rfl ?_
  refine lv_topi (fun x_1 ex_1 => ?_)
  refine lv_ldcw (v := 1431655765) hx hb hown (hts _ mw_5_149) dJ6_bitCount_0f7a4_4 ?_
  refine lv_iand hx hb dJ6_bitCount_0f7a4_7 ?_
  refine lv_topi (fun x_2 ex_2 => ?_)
  refine lv_isub hx hb dJ6_bitCount_0f7a4_8 ?_
  refine lv_topi (fun x_3 ex_3 => ?_)
  refine lv_istore_n (lv' := [(0, .int x_3)]) hx hb dJ6_bitCount_0f7a4_9 rfl hl (by decide) rfl (fun ls hl => ?_)
  refine lv_iload_n hx hb dJ6_bitCount_0f7a4_10 rfl (lv_at hl 0 rfl) ?_
  refine lv_ldcw (v := 858993459) hx hb hown (hts _ mw_5_150) dJ6_bitCount_0f7a4_11 ?_
  refine lv_iand hx hb dJ6_bitCount_0f7a4_14 ?_
  refine lv_topi (fun x_4 ex_4 => ?_)
  refine lv_iload_n hx hb dJ6_bitCount_0f7a4_15 rfl (lv_at hl 0 rfl) ?_
  refine lv_iconst (v := 2) hx hb dJ6_bitCount_0f7a4_16 (by decide) ?_
  refine lv_iushr hx hb dJ6_bitCount_0f7a4_17 rfl ?_
  refine lv_topi (fun x_5 ex_5 => ?_)
  refine lv_ldcw (v := 858993459) hx hb hown (hts _ mw_5_150) dJ6_bitCount_0f7a4_18 ?_
  refine lv_iand hx hb dJ6_bitCount_0f7a4_21 ?_
  refine lv_topi (fun x_6 ex_6 => ?_)
  refine lv_iadd hx hb dJ6_bitCount_0f7a4_22 ?_
  refine lv_topi (fun x_7 ex_7 => ?_)
  refine lv_istore_n (lv' := [(0, .int x_7)]) hx hb dJ6_bitCount_0f7a4_23 rfl hl (by decide) rfl (fun ls hl => ?_)
  refine lv_iload_n hx hb dJ6_bitCount_0f7a4_24 rfl (lv_at hl 0 rfl) ?_
  refine lv_iload_n hx hb dJ6_bitCount_0f7a4_25 rfl (lv_at hl 0 rfl) ?_
  refine lv_iconst (v := 4) hx hb dJ6_bitCount_0f7a4_26 (by decide) ?_
  refine lv_iushr hx hb dJ6_bitCount_0f7a4_27 rfl ?_
  refine lv_topi (fun x_8 ex_8 => ?_)
  refine lv_iadd hx hb dJ6_bitCount_0f7a4_28 ?_
  refine lv_topi (fun x_9 ex_9 => ?_)
  refine lv_ldcw (v := 252645135) hx hb hown (hts _ mw_5_151) dJ6_bitCount_0f7a4_29 ?_
  refine lv_iand hx hb dJ6_bitCount_0f7a4_32 ?_
  refine lv_topi (fun x_10 ex_10 => ?_)
  refine lv_istore_n (lv' := [(0, .int x_10)]) hx hb dJ6_bitCount_0f7a4_33 rfl hl (by decide) rfl (fun ls hl => ?_)
  refine lv_iload_n hx hb dJ6_bitCount_0f7a4_34 rfl (lv_at hl 0 rfl) ?_
  refine lv_iload_n hx hb dJ6_bitCount_0f7a4_35 rfl (lv_at hl 0 rfl) ?_
  refine lv_bipush (v := 8) hx hb dJ6_bitCount_0f7a4_36 (by decide) ?_
  refine lv_iushr hx hb dJ6_bitCount_0f7a4_38 rfl ?_
  refine lv_topi (fun x_11 ex_11 => ?_)
  refine lv_iadd hx hb dJ6_bitCount_0f7a4_39 ?_
  refine lv_topi (fun x_12 ex_12 => ?_)
  refine lv_istore_n (lv' := [(0, .int x_12)]) hx hb dJ6_bitCount_0f7a4_40 rfl hl (by decide) rfl (fun ls hl => ?_)
  refine lv_iload_n hx hb dJ6_bitCount_0f7a4_41 rfl (lv_at hl 0 rfl) ?_
  refine lv_iload_n hx hb dJ6_bitCount_0f7a4_42 rfl (lv_at hl 0 rfl) ?_
  refine lv_bipush (v := 16) hx hb dJ6_bitCount_0f7a4_43 (by decide) ?_
  refine lv_iushr hx hb dJ6_bitCount_0f7a4_45 rfl ?_
  refine lv_topi (fun x_13 ex_13 => ?_)
  refine lv_iadd hx hb dJ6_bitCount_0f7a4_46 ?_
  refine lv_topi (fun x_14 ex_14 => ?_)
  refine lv_istore_n (lv' := [(0, .int x_14)]) hx hb dJ6_bitCount_0f7a4_47 rfl hl (by decide) rfl (fun ls hl => ?_)
  refine lv_iload_n hx hb dJ6_bitCount_0f7a4_48 rfl (lv_at hl 0 rfl) ?_
  refine lv_bipush (v := 63) hx hb dJ6_bitCount_0f7a4_49 (by decide) ?_
  refine lv_iand hx hb dJ6_bitCount_0f7a4_51 ?_
  refine lv_topi (fun x_15 ex_15 => ?_)
  obtain ⟨lx_15, ux_15⟩ := and_m 6 (n := 63) (by decide) (by decide) (by decide) ex_15
  exact W.iret (v := x_15) hx hb hr (fun t ht hW => ⟨⟨x_15, (σ, ρ), rfl, ⟨hB.2.1, hB.2.2, trivial⟩, (show TP D cA L T r σ ρ t.heap from by rw [ht]; exact hB.1)⟩, hS.F ht⟩) hS.2.2 dJ6_bitCount_0f7a4_52
theorem mw_1_41 : (.fieldLink RX9 24 "HillBends$Tape" "size" "I" : Cond) ∈ wsA := wsA_t (List.mem_append_left _ (List.mem_of_getElem? (l := tables_1_1) (i := 41) rfl)) rfl
theorem mw_1_36 : (.fieldLink RX9 11 "HillBends$Tape" "bytes" "[I" : Cond) ∈ wsA := wsA_t (List.mem_append_left _ (List.mem_of_getElem? (l := tables_1_1) (i := 36) rfl)) rfl
theorem dX9_append_0 : decode cX9_append 0 = .ok (.bipush 24, 2) := by decide +kernel
theorem dX9_append_2 : decode cX9_append 2 = .ok (.istore_n 2, 1) := by decide +kernel
theorem dX9_append_3 : decode cX9_append 3 = .ok (.iload_n 2, 1) := by decide +kernel
theorem dX9_append_4 : decode cX9_append 4 = .ok (.ifCond .lt 45, 3) := by decide +kernel
theorem dX9_append_7 : decode cX9_append 7 = .ok (.aload_n 0, 1) := by decide +kernel
theorem dX9_append_8 : decode cX9_append 8 = .ok (.getfield 24, 3) := by decide +kernel
theorem dX9_append_11 : decode cX9_append 11 = .ok (.sipush 400, 3) := by decide +kernel
theorem dX9_append_14 : decode cX9_append 14 = .ok (.if_icmp .ge 35, 3) := by decide +kernel
theorem dX9_append_49 : decode cX9_append 49 = .ok (.return_, 1) := by decide +kernel
theorem dX9_append_17 : decode cX9_append 17 = .ok (.aload_n 0, 1) := by decide +kernel
theorem dX9_append_18 : decode cX9_append 18 = .ok (.getfield 11, 3) := by decide +kernel
theorem dX9_append_21 : decode cX9_append 21 = .ok (.aload_n 0, 1) := by decide +kernel
theorem dX9_append_22 : decode cX9_append 22 = .ok (.getfield 24, 3) := by decide +kernel
theorem dX9_append_25 : decode cX9_append 25 = .ok (.iload_n 1, 1) := by decide +kernel
theorem dX9_append_26 : decode cX9_append 26 = .ok (.iload_n 2, 1) := by decide +kernel
theorem dX9_append_27 : decode cX9_append 27 = .ok (.iushr, 1) := by decide +kernel
theorem dX9_append_28 : decode cX9_append 28 = .ok (.sipush 255, 3) := by decide +kernel
theorem dX9_append_31 : decode cX9_append 31 = .ok (.iand, 1) := by decide +kernel
theorem dX9_append_32 : decode cX9_append 32 = .ok (.iastore, 1) := by decide +kernel
theorem dX9_append_33 : decode cX9_append 33 = .ok (.aload_n 0, 1) := by decide +kernel
theorem dX9_append_34 : decode cX9_append 34 = .ok (.dup, 1) := by decide +kernel
theorem dX9_append_35 : decode cX9_append 35 = .ok (.getfield 24, 3) := by decide +kernel
theorem dX9_append_38 : decode cX9_append 38 = .ok (.iconst 1, 1) := by decide +kernel
theorem dX9_append_39 : decode cX9_append 39 = .ok (.iadd, 1) := by decide +kernel
theorem dX9_append_40 : decode cX9_append 40 = .ok (.putfield 24, 3) := by decide +kernel
theorem dX9_append_43 : decode cX9_append 43 = .ok (.iinc 2 (-8), 3) := by decide +kernel
theorem dX9_append_46 : decode cX9_append 46 = .ok (.goto (-43), 3) := by decide +kernel
set_option maxHeartbeats 4000000 in
set_option maxRecDepth 100000 in
theorem cy_X9_append (l : Launch) (D : va_G) (cA : Nat → ClassId) (L : List Nat) (T : Nat → Nat) (r : Rg) (hG : GR L T r) (hL : L.Nodup) (σ : Sg) (ρ : Lg) (hW : WT L ry T σ) (sz : Nat) (h0 : Nat) (mh0 : h0 ∈ L) (th0 : T h0 = 9) (p1 : Int32) : Met l yX9_append (.code yX9_append cX9_append 3 none :: wsA) ({ frames := 0, cells := 0, slots := 0, locals := 0 }) (PR D cA L T r σ ρ sz [.ref h0, .int p1]) (QV D cA L T r ry [(9, 4), (51, 1000)] σ sz (fun σ1 => True)) 0 0 (dm L sz) := by
  refine Met.ofW (cc := cX9_append) (maxL := 3) (ret := none) (by decide) rfl ?_
  intro p e s m args below meth c s₁ B hml hv
  obtain ⟨rfl, hsz, hP, hK, hN⟩ := hv
  have hx := B.exec
  have hb := B.bytes
  have hr := B.returns
  have hts : ∀ w ∈ wsA, w.before _ s = true := fun w h => atoms_spec (ws := .code yX9_append cX9_append 3 none :: wsA) B.pre w (List.mem_cons_of_mem _ h)
  have hown : s.vm.findClass RX9 = some m.cls := findClass_of_methodNamed B.named
  subst hsz
  have hLA : LA (dm L s.heap.size) L := ⟨hL, fun a h => Or.inl h⟩
  have hA : ∀ q : Nat, s.heap.size ≤ q → dm L s.heap.size q := fun q h => Or.inr h
  have hS : va_S (dm L s.heap.size) s.heap s.heap [] := va_S.rf
  have hB : TS D cA L T r ry [(9, 4), (51, 1000)] σ σ ρ s.heap := ⟨hP, hW, FR.rf⟩
  have hl := lv_entry ([.ref h0, .int p1]) (n := 3) (Nat.le_of_ble_eq_true rfl)
  rw [lg_entry_eq]
  generalize (lg_sl ([.ref h0, .int p1]) ++ List.replicate (3 - (lg_sl ([.ref h0, .int p1])).length) Slot.unset).toArray = ls at hl ⊢
  have hl : lv_has ls 3 [(0, .ref h0), (1, .int p1)] := hl
  refine lv_bipush (v := 24) hx hb dX9_append_0 (by decide) ?_
  refine lv_istore_n (lv' := [(2, .int 24), (0, .ref h0), (1, .int p1)]) hx hb dX9_append_2 rfl hl (by decide) rfl (fun ls hl => ?_)
  refine lv_iload_n hx hb dX9_append_3 rfl (lv_at hl 0 rfl) ?_
  refine lv_if_lt (tgt := 49) hx hb dX9_append_4 (by decide) (fun c9 => absurd c9 (by decide)) (fun _ => ?_)
  refine lv_aload_n hx hb dX9_append_7 rfl (lv_at hl 1 rfl) ?_
  refine t_gi hx hb hts hown hK hB mh0 th0 fi_9_4 rfl mw_1_41 dX9_append_8 (fun x_1 ex_1 lx_1 ux_1 => ?_)
  refine lv_sipush (v := 400) hx hb dX9_append_11 (by decide) ?_
  refine lv_icmp_ge (tgt := 49) hx hb dX9_append_14 (by decide) (fun c_2 => ?_) (fun c_2 => ?_)
  · skip
    have uc_2 := i_ge (n := 400) (by decide) c_2
    exact W.vret hx hb hr (fun t ht hW => ⟨⟨(σ, ρ), rfl, ⟨hB.2.1, hB.2.2, trivial⟩, (show TP D cA L T r σ ρ t.heap from by rw [ht]; exact hB.1)⟩, hS.F ht⟩) hS.2.2 dX9_append_49
  · skip
    have uc_2 := i_nge (n := 400) (by decide) c_2
    refine lv_aload_n hx hb dX9_append_17 rfl (lv_at hl 1 rfl) ?_
    refine t_gr hx hb hts hown hK hG hB mh0 th0 fq_9_0 rfl mw_1_36 dX9_append_18 (fun b_3 hb_3 mb_3 tb_3 => ?_)
    refine lv_aload_n hx hb dX9_append_21 rfl (lv_at hl 1 rfl) ?_
    refine t_gv hx hb hts hown hK hB mh0 th0 fi_9_4 ex_1.symm mw_1_41 dX9_append_22 ?_
    refine lv_iload_n hx hb dX9_append_25 rfl (lv_at hl 2 rfl) ?_
    refine lv_iload_n hx hb dX9_append_26 rfl (lv_at hl 0 rfl) ?_
    refine lv_iushr hx hb dX9_append_27 rfl ?_
    refine lv_topi (fun x_4 ex_4 => ?_)
    refine lv_sipush (v := 255) hx hb dX9_append_28 (by decide) ?_
    refine lv_iand hx hb dX9_append_31 ?_
    refine lv_topi (fun x_5 ex_5 => ?_)
    obtain ⟨lx_5, ux_5⟩ := and_m 8 (n := 255) (by decide) (by decide) (by decide) ex_5
    refine t_si hx hb hK hLA hB hS mb_3 tb_3 ai_51 (i_in (by omega) (by omega)) (by show 0 ≤ _; omega) (by show _ ≤ 255; omega) (Or.inr (by decide)) dX9_append_32 (fun H locs σ_6 eσ_6 hB hS => ?_)
    have k_7 : σ_6 b_3 x_1.toNatClampNeg = x_5 := by rw [eσ_6]; exact up2_same _ _ _ _
    refine lv_aload_n hx hb dX9_append_33 rfl (lv_at hl 1 rfl) ?_
    refine lv_dup hx hb dX9_append_34 rfl ?_
    have k_8 : σ_6 h0 4 = x_1 := by rw [eσ_6, up2_nea _ _ (tg_ne th0 tb_3 (by decide))]; exact ex_1.symm
    refine t_gv hx hb hts hown hK hB mh0 th0 fi_9_4 k_8 mw_1_41 dX9_append_35 ?_
    refine lv_iconst (v := 1) hx hb dX9_append_38 (by decide) ?_
    refine lv_iadd hx hb dX9_append_39 ?_
    refine lv_topi (fun x_9 ex_9 => ?_)
    have vx_9 := b_add (rfl : x_1.toInt = _) (by decide : (1 : Int32).toInt = 1) ex_9 (by omega) (by omega)
    refine t_pi hx hb hts hown hK hLA hB hS mh0 th0 fi_9_4 rfl rfl rfl (by omega) (by omega) (Or.inl (by decide)) mw_1_41 dX9_append_40 (fun H locs σ_10 eσ_10 hB hS => ?_)
    have k_11 : σ_10 h0 4 = x_9 := by rw [eσ_10]; exact up2_same _ _ _ _
    refine lv_iinc (v := 16) (lv' := [(2, .int 16), (0, .ref h0), (1, .int p1)]) hx hb dX9_append_43 hl (k := 0) rfl (by decide) (by decide) rfl (fun ls hl => ?_)
    refine lv_goto (tgt := 3) hx hb dX9_append_46 (by decide) ?_
    refine lv_iload_n hx hb dX9_append_3 rfl (lv_at hl 0 rfl) ?_
    refine lv_if_lt (tgt := 49) hx hb dX9_append_4 (by decide) (fun c9 => absurd c9 (by decide)) (fun _ => ?_)
    refine lv_aload_n hx hb dX9_append_7 rfl (lv_at hl 1 rfl) ?_
    refine t_gv hx hb hts hown hK hB mh0 th0 fi_9_4 k_11 mw_1_41 dX9_append_8 ?_
    refine lv_sipush (v := 400) hx hb dX9_append_11 (by decide) ?_
    refine lv_icmp_ge (tgt := 49) hx hb dX9_append_14 (by decide) (fun c_12 => ?_) (fun c_12 => ?_)
    · skip
      have uc_12 := i_ge (n := 400) (by decide) c_12
      exact W.vret hx hb hr (fun t ht hW => ⟨⟨(σ_10, ρ), rfl, ⟨hB.2.1, hB.2.2, trivial⟩, (show TP D cA L T r σ_10 ρ t.heap from by rw [ht]; exact hB.1)⟩, hS.F ht⟩) hS.2.2 dX9_append_49
    · skip
      have uc_12 := i_nge (n := 400) (by decide) c_12
      refine lv_aload_n hx hb dX9_append_17 rfl (lv_at hl 1 rfl) ?_
      refine t_gk hx hb hts hown hK hB mh0 th0 fq_9_0 hb_3 mw_1_36 dX9_append_18 ?_
      refine lv_aload_n hx hb dX9_append_21 rfl (lv_at hl 1 rfl) ?_
      refine t_gv hx hb hts hown hK hB mh0 th0 fi_9_4 k_11 mw_1_41 dX9_append_22 ?_
      refine lv_iload_n hx hb dX9_append_25 rfl (lv_at hl 2 rfl) ?_
      refine lv_iload_n hx hb dX9_append_26 rfl (lv_at hl 0 rfl) ?_
      refine lv_iushr hx hb dX9_append_27 rfl ?_
      refine lv_topi (fun x_13 ex_13 => ?_)
      refine lv_sipush (v := 255) hx hb dX9_append_28 (by decide) ?_
      refine lv_iand hx hb dX9_append_31 ?_
      refine lv_topi (fun x_14 ex_14 => ?_)
      obtain ⟨lx_14, ux_14⟩ := and_m 8 (n := 255) (by decide) (by decide) (by decide) ex_14
      refine t_si hx hb hK hLA hB hS mb_3 tb_3 ai_51 (i_in (by omega) (by omega)) (by show 0 ≤ _; omega) (by show _ ≤ 255; omega) (Or.inr (by decide)) dX9_append_32 (fun H locs σ_15 eσ_15 hB hS => ?_)
      have k_16 : σ_15 b_3 x_9.toNatClampNeg = x_14 := by rw [eσ_15]; exact up2_same _ _ _ _
      refine lv_aload_n hx hb dX9_append_33 rfl (lv_at hl 1 rfl) ?_
      refine lv_dup hx hb dX9_append_34 rfl ?_
      have k_17 : σ_15 h0 4 = x_9 := by rw [eσ_15, up2_nea _ _ (tg_ne th0 tb_3 (by decide))]; exact k_11
      refine t_gv hx hb hts hown hK hB mh0 th0 fi_9_4 k_17 mw_1_41 dX9_append_35 ?_
      refine lv_iconst (v := 1) hx hb dX9_append_38 (by decide) ?_
      refine lv_iadd hx hb dX9_append_39 ?_
      refine lv_topi (fun x_18 ex_18 => ?_)
      have vx_18 := b_add (rfl : x_9.toInt = _) (by decide : (1 : Int32).toInt = 1) ex_18 (by omega) (by omega)
      refine t_pi hx hb hts hown hK hLA hB hS mh0 th0 fi_9_4 rfl rfl rfl (by omega) (by omega) (Or.inl (by decide)) mw_1_41 dX9_append_40 (fun H locs σ_19 eσ_19 hB hS => ?_)
      have k_20 : σ_19 h0 4 = x_18 := by rw [eσ_19]; exact up2_same _ _ _ _
      refine lv_iinc (v := 8) (lv' := [(2, .int 8), (0, .ref h0), (1, .int p1)]) hx hb dX9_append_43 hl (k := 0) rfl (by decide) (by decide) rfl (fun ls hl => ?_)
      refine lv_goto (tgt := 3) hx hb dX9_append_46 (by decide) ?_
      refine lv_iload_n hx hb dX9_append_3 rfl (lv_at hl 0 rfl) ?_
      refine lv_if_lt (tgt := 49) hx hb dX9_append_4 (by decide) (fun c9 => absurd c9 (by decide)) (fun _ => ?_)
      refine lv_aload_n hx hb dX9_append_7 rfl (lv_at hl 1 rfl) ?_
      refine t_gv hx hb hts hown hK hB mh0 th0 fi_9_4 k_20 mw_1_41 dX9_append_8 ?_
      refine lv_sipush (v := 400) hx hb dX9_append_11 (by decide) ?_
      refine lv_icmp_ge (tgt := 49) hx hb dX9_append_14 (by decide) (fun c_21 => ?_) (fun c_21 => ?_)
      · skip
        have uc_21 := i_ge (n := 400) (by decide) c_21
        exact W.vret hx hb hr (fun t ht hW => ⟨⟨(σ_19, ρ), rfl, ⟨hB.2.1, hB.2.2, trivial⟩, (show TP D cA L T r σ_19 ρ t.heap from by rw [ht]; exact hB.1)⟩, hS.F ht⟩) hS.2.2 dX9_append_49
      · skip
        have uc_21 := i_nge (n := 400) (by decide) c_21
        refine lv_aload_n hx hb dX9_append_17 rfl (lv_at hl 1 rfl) ?_
        refine t_gk hx hb hts hown hK hB mh0 th0 fq_9_0 hb_3 mw_1_36 dX9_append_18 ?_
        refine lv_aload_n hx hb dX9_append_21 rfl (lv_at hl 1 rfl) ?_
        refine t_gv hx hb hts hown hK hB mh0 th0 fi_9_4 k_20 mw_1_41 dX9_append_22 ?_
        refine lv_iload_n hx hb dX9_append_25 rfl (lv_at hl 2 rfl) ?_
        refine lv_iload_n hx hb dX9_append_26 rfl (lv_at hl 0 rfl) ?_
        refine lv_iushr hx hb dX9_append_27 rfl ?_
        refine lv_topi (fun x_22 ex_22 => ?_)
        refine lv_sipush (v := 255) hx hb dX9_append_28 (by decide) ?_
        refine lv_iand hx hb dX9_append_31 ?_
        refine lv_topi (fun x_23 ex_23 => ?_)
        obtain ⟨lx_23, ux_23⟩ := and_m 8 (n := 255) (by decide) (by decide) (by decide) ex_23
        refine t_si hx hb hK hLA hB hS mb_3 tb_3 ai_51 (i_in (by omega) (by omega)) (by show 0 ≤ _; omega) (by show _ ≤ 255; omega) (Or.inr (by decide)) dX9_append_32 (fun H locs σ_24 eσ_24 hB hS => ?_)
        have k_25 : σ_24 b_3 x_18.toNatClampNeg = x_23 := by rw [eσ_24]; exact up2_same _ _ _ _
        refine lv_aload_n hx hb dX9_append_33 rfl (lv_at hl 1 rfl) ?_
        refine lv_dup hx hb dX9_append_34 rfl ?_
        have k_26 : σ_24 h0 4 = x_18 := by rw [eσ_24, up2_nea _ _ (tg_ne th0 tb_3 (by decide))]; exact k_20
        refine t_gv hx hb hts hown hK hB mh0 th0 fi_9_4 k_26 mw_1_41 dX9_append_35 ?_
        refine lv_iconst (v := 1) hx hb dX9_append_38 (by decide) ?_
        refine lv_iadd hx hb dX9_append_39 ?_
        refine lv_topi (fun x_27 ex_27 => ?_)
        have vx_27 := b_add (rfl : x_18.toInt = _) (by decide : (1 : Int32).toInt = 1) ex_27 (by omega) (by omega)
        refine t_pi hx hb hts hown hK hLA hB hS mh0 th0 fi_9_4 rfl rfl rfl (by omega) (by omega) (Or.inl (by decide)) mw_1_41 dX9_append_40 (fun H locs σ_28 eσ_28 hB hS => ?_)
        have k_29 : σ_28 h0 4 = x_27 := by rw [eσ_28]; exact up2_same _ _ _ _
        refine lv_iinc (v := 0) (lv' := [(2, .int 0), (0, .ref h0), (1, .int p1)]) hx hb dX9_append_43 hl (k := 0) rfl (by decide) (by decide) rfl (fun ls hl => ?_)
        refine lv_goto (tgt := 3) hx hb dX9_append_46 (by decide) ?_
        refine lv_iload_n hx hb dX9_append_3 rfl (lv_at hl 0 rfl) ?_
        refine lv_if_lt (tgt := 49) hx hb dX9_append_4 (by decide) (fun c9 => absurd c9 (by decide)) (fun _ => ?_)
        refine lv_aload_n hx hb dX9_append_7 rfl (lv_at hl 1 rfl) ?_
        refine t_gv hx hb hts hown hK hB mh0 th0 fi_9_4 k_29 mw_1_41 dX9_append_8 ?_
        refine lv_sipush (v := 400) hx hb dX9_append_11 (by decide) ?_
        refine lv_icmp_ge (tgt := 49) hx hb dX9_append_14 (by decide) (fun c_30 => ?_) (fun c_30 => ?_)
        · skip
          have uc_30 := i_ge (n := 400) (by decide) c_30
          exact W.vret hx hb hr (fun t ht hW => ⟨⟨(σ_28, ρ), rfl, ⟨hB.2.1, hB.2.2, trivial⟩, (show TP D cA L T r σ_28 ρ t.heap from by rw [ht]; exact hB.1)⟩, hS.F ht⟩) hS.2.2 dX9_append_49
        · skip
          have uc_30 := i_nge (n := 400) (by decide) c_30
          refine lv_aload_n hx hb dX9_append_17 rfl (lv_at hl 1 rfl) ?_
          refine t_gk hx hb hts hown hK hB mh0 th0 fq_9_0 hb_3 mw_1_36 dX9_append_18 ?_
          refine lv_aload_n hx hb dX9_append_21 rfl (lv_at hl 1 rfl) ?_
          refine t_gv hx hb hts hown hK hB mh0 th0 fi_9_4 k_29 mw_1_41 dX9_append_22 ?_
          refine lv_iload_n hx hb dX9_append_25 rfl (lv_at hl 2 rfl) ?_
          refine lv_iload_n hx hb dX9_append_26 rfl (lv_at hl 0 rfl) ?_
          refine lv_iushr hx hb dX9_append_27 rfl ?_
          refine lv_topi (fun x_31 ex_31 => ?_)
          refine lv_sipush (v := 255) hx hb dX9_append_28 (by decide) ?_
          refine lv_iand hx hb dX9_append_31 ?_
          refine lv_topi (fun x_32 ex_32 => ?_)
          obtain ⟨lx_32, ux_32⟩ := and_m 8 (n := 255) (by decide) (by decide) (by decide) ex_32
          refine t_si hx hb hK hLA hB hS mb_3 tb_3 ai_51 (i_in (by omega) (by omega)) (by show 0 ≤ _; omega) (by show _ ≤ 255; omega) (Or.inr (by decide)) dX9_append_32 (fun H locs σ_33 eσ_33 hB hS => ?_)
          have k_34 : σ_33 b_3 x_27.toNatClampNeg = x_32 := by rw [eσ_33]; exact up2_same _ _ _ _
          refine lv_aload_n hx hb dX9_append_33 rfl (lv_at hl 1 rfl) ?_
          refine lv_dup hx hb dX9_append_34 rfl ?_
          have k_35 : σ_33 h0 4 = x_27 := by rw [eσ_33, up2_nea _ _ (tg_ne th0 tb_3 (by decide))]; exact k_29
          refine t_gv hx hb hts hown hK hB mh0 th0 fi_9_4 k_35 mw_1_41 dX9_append_35 ?_
          refine lv_iconst (v := 1) hx hb dX9_append_38 (by decide) ?_
          refine lv_iadd hx hb dX9_append_39 ?_
          refine lv_topi (fun x_36 ex_36 => ?_)
          have vx_36 := b_add (rfl : x_27.toInt = _) (by decide : (1 : Int32).toInt = 1) ex_36 (by omega) (by omega)
          refine t_pi hx hb hts hown hK hLA hB hS mh0 th0 fi_9_4 rfl rfl rfl (by omega) (by omega) (Or.inl (by decide)) mw_1_41 dX9_append_40 (fun H locs σ_37 eσ_37 hB hS => ?_)
          have k_38 : σ_37 h0 4 = x_36 := by rw [eσ_37]; exact up2_same _ _ _ _
          refine lv_iinc (v := (-8)) (lv' := [(2, .int (-8)), (0, .ref h0), (1, .int p1)]) hx hb dX9_append_43 hl (k := 0) rfl (by decide) (by decide) rfl (fun ls hl => ?_)
          refine lv_goto (tgt := 3) hx hb dX9_append_46 (by decide) ?_
          refine lv_iload_n hx hb dX9_append_3 rfl (lv_at hl 0 rfl) ?_
          refine lv_if_lt (tgt := 49) hx hb dX9_append_4 (by decide) (fun _ => ?_) (fun c9 => absurd (by decide) c9)
          exact W.vret hx hb hr (fun t ht hW => ⟨⟨(σ_37, ρ), rfl, ⟨hB.2.1, hB.2.2, trivial⟩, (show TP D cA L T r σ_37 ρ t.heap from by rw [ht]; exact hB.1)⟩, hS.F ht⟩) hS.2.2 dX9_append_49
theorem mw_1_42 : (.fieldLink RX9 28 "HillBends$Tape" "tokens" "I" : Cond) ∈ wsA := wsA_t (List.mem_append_left _ (List.mem_of_getElem? (l := tables_1_1) (i := 42) rfl)) rfl
theorem mw_1_37 : (.fieldLink RX9 15 "HillBends$Tape" "kinds" "[I" : Cond) ∈ wsA := wsA_t (List.mem_append_left _ (List.mem_of_getElem? (l := tables_1_1) (i := 37) rfl)) rfl
theorem dX9_kindAt_0 : decode cX9_kindAt 0 = .ok (.iload_n 1, 1) := by decide +kernel
theorem dX9_kindAt_1 : decode cX9_kindAt 1 = .ok (.ifCond .lt 20, 3) := by decide +kernel
theorem dX9_kindAt_21 : decode cX9_kindAt 21 = .ok (.sipush 133, 3) := by decide +kernel
theorem dX9_kindAt_24 : decode cX9_kindAt 24 = .ok (.ireturn, 1) := by decide +kernel
theorem dX9_kindAt_4 : decode cX9_kindAt 4 = .ok (.iload_n 1, 1) := by decide +kernel
theorem dX9_kindAt_5 : decode cX9_kindAt 5 = .ok (.aload_n 0, 1) := by decide +kernel
theorem dX9_kindAt_6 : decode cX9_kindAt 6 = .ok (.getfield 28, 3) := by decide +kernel
theorem dX9_kindAt_9 : decode cX9_kindAt 9 = .ok (.if_icmp .ge 12, 3) := by decide +kernel
theorem dX9_kindAt_12 : decode cX9_kindAt 12 = .ok (.aload_n 0, 1) := by decide +kernel
theorem dX9_kindAt_13 : decode cX9_kindAt 13 = .ok (.getfield 15, 3) := by decide +kernel
theorem dX9_kindAt_16 : decode cX9_kindAt 16 = .ok (.iload_n 1, 1) := by decide +kernel
theorem dX9_kindAt_17 : decode cX9_kindAt 17 = .ok (.iaload, 1) := by decide +kernel
theorem dX9_kindAt_18 : decode cX9_kindAt 18 = .ok (.goto 6, 3) := by decide +kernel
set_option maxHeartbeats 4000000 in
set_option maxRecDepth 100000 in
theorem cy_X9_kindAt (l : Launch) (D : va_G) (cA : Nat → ClassId) (L : List Nat) (T : Nat → Nat) (r : Rg) (hG : GR L T r) (hL : L.Nodup) (σ : Sg) (ρ : Lg) (hW : WT L ry T σ) (sz : Nat) (h0 : Nat) (mh0 : h0 ∈ L) (th0 : T h0 = 9) (p1 : Int32) : Met l yX9_kindAt (.code yX9_kindAt cX9_kindAt 2 (some .int) :: wsA) ({ frames := 0, cells := 0, slots := 0, locals := 0 }) (PR D cA L T r σ ρ sz [.ref h0, .int p1]) (QI D cA L T r ry ([] : List (Nat × Nat)) σ sz (fun x σ1 => (0 ≤ x.toInt ∧ x.toInt ≤ 255))) 0 0 (dm L sz) := by
  refine Met.ofW (cc := cX9_kindAt) (maxL := 2) (ret := (some .int)) (by decide) rfl ?_
  intro p e s m args below meth c s₁ B hml hv
  obtain ⟨rfl, hsz, hP, hK, hN⟩ := hv
  have hx := B.exec
  have hb := B.bytes
  have hr := B.returns
  have hts : ∀ w ∈ wsA, w.before _ s = true := fun w h => atoms_spec (ws := .code yX9_kindAt cX9_kindAt 2 (some .int) :: wsA) B.pre w (List.mem_cons_of_mem _ h)
  have hown : s.vm.findClass RX9 = some m.cls := findClass_of_methodNamed B.named
  subst hsz
  have hLA : LA (dm L s.heap.size) L := ⟨hL, fun a h => Or.inl h⟩
  have hA : ∀ q : Nat, s.heap.size ≤ q → dm L s.heap.size q := fun q h => Or.inr h
  have hS : va_S (dm L s.heap.size) s.heap s.heap [] := va_S.rf
  have hB : TS D cA L T r ry ([] : List (Nat × Nat)) σ σ ρ s.heap := ⟨hP, hW, FR.rf⟩
  have hl := lv_entry ([.ref h0, .int p1]) (n := 2) (Nat.le_of_ble_eq_true rfl)
  rw [lg_entry_eq]
  generalize (lg_sl ([.ref h0, .int p1]) ++ List.replicate (2 - (lg_sl ([.ref h0, .int p1])).length) Slot.unset).toArray = ls at hl ⊢
  have hl : lv_has ls 2 [(0, .ref h0), (1, .int p1)] := hl
  refine lv_iload_n hx hb dX9_kindAt_0 rfl (lv_at hl 1 rfl) ?_
  refine lv_if_lt (tgt := 21) hx hb dX9_kindAt_1 (by decide) (fun c_1 => ?_) (fun c_1 => ?_)
  · skip
    have uc_1 := i_lt (n := 0) (by decide) c_1
    refine lv_sipush (v := 133) hx hb dX9_kindAt_21 (by decide) ?_
    exact W.iret (v := 133) hx hb hr (fun t ht hW => ⟨⟨133, (σ, ρ), rfl, ⟨hB.2.1, hB.2.2, (show 0 ≤ (133 : Int32).toInt ∧ (133 : Int32).toInt ≤ 255 from ⟨by decide, by decide⟩)⟩, (show TP D cA L T r σ ρ t.heap from by rw [ht]; exact hB.1)⟩, hS.F ht⟩) hS.2.2 dX9_kindAt_24
  · skip
    have uc_1 := i_nlt (n := 0) (by decide) c_1
    refine lv_iload_n hx hb dX9_kindAt_4 rfl (lv_at hl 1 rfl) ?_
    refine lv_aload_n hx hb dX9_kindAt_5 rfl (lv_at hl 0 rfl) ?_
    refine t_gi hx hb hts hown hK hB mh0 th0 fi_9_5 rfl mw_1_42 dX9_kindAt_6 (fun x_2 ex_2 lx_2 ux_2 => ?_)
    refine lv_icmp_ge (tgt := 21) hx hb dX9_kindAt_9 (by decide) (fun c_3 => ?_) (fun c_3 => ?_)
    · skip
      have uc_3 := j_le c_3
      refine lv_sipush (v := 133) hx hb dX9_kindAt_21 (by decide) ?_
      exact W.iret (v := 133) hx hb hr (fun t ht hW => ⟨⟨133, (σ, ρ), rfl, ⟨hB.2.1, hB.2.2, (show 0 ≤ (133 : Int32).toInt ∧ (133 : Int32).toInt ≤ 255 from ⟨by decide, by decide⟩)⟩, (show TP D cA L T r σ ρ t.heap from by rw [ht]; exact hB.1)⟩, hS.F ht⟩) hS.2.2 dX9_kindAt_24
    · skip
      have uc_3 := j_nle c_3
      refine lv_aload_n hx hb dX9_kindAt_12 rfl (lv_at hl 0 rfl) ?_
      refine t_gr hx hb hts hown hK hG hB mh0 th0 fq_9_1 rfl mw_1_37 dX9_kindAt_13 (fun b_4 hb_4 mb_4 tb_4 => ?_)
      refine lv_iload_n hx hb dX9_kindAt_16 rfl (lv_at hl 1 rfl) ?_
      refine t_ai hx hb hK hB mb_4 tb_4 ai_52 (fun _ => rfl) (i_in (by omega) (by omega)) dX9_kindAt_17 (fun x_5 ex_5 lx_5 ux_5 => ?_)
      refine lv_goto (tgt := 24) hx hb dX9_kindAt_18 (by decide) ?_
      exact W.iret (v := x_5) hx hb hr (fun t ht hW => ⟨⟨x_5, (σ, ρ), rfl, ⟨hB.2.1, hB.2.2, (show 0 ≤ (x_5 : Int32).toInt ∧ (x_5 : Int32).toInt ≤ 255 from ⟨by omega, by omega⟩)⟩, (show TP D cA L T r σ ρ t.heap from by rw [ht]; exact hB.1)⟩, hS.F ht⟩) hS.2.2 dX9_kindAt_24
theorem mw_1_39 : (.fieldLink RX9 21 "HillBends$Tape" "values" "[I" : Cond) ∈ wsA := wsA_t (List.mem_append_left _ (List.mem_of_getElem? (l := tables_1_1) (i := 39) rfl)) rfl
theorem dX9_valueAt_0 : decode cX9_valueAt 0 = .ok (.iload_n 1, 1) := by decide +kernel
theorem dX9_valueAt_1 : decode cX9_valueAt 1 = .ok (.ifCond .lt 20, 3) := by decide +kernel
theorem dX9_valueAt_21 : decode cX9_valueAt 21 = .ok (.iconst (-1), 1) := by decide +kernel
theorem dX9_valueAt_22 : decode cX9_valueAt 22 = .ok (.ireturn, 1) := by decide +kernel
theorem dX9_valueAt_4 : decode cX9_valueAt 4 = .ok (.iload_n 1, 1) := by decide +kernel
theorem dX9_valueAt_5 : decode cX9_valueAt 5 = .ok (.aload_n 0, 1) := by decide +kernel
theorem dX9_valueAt_6 : decode cX9_valueAt 6 = .ok (.getfield 28, 3) := by decide +kernel
theorem dX9_valueAt_9 : decode cX9_valueAt 9 = .ok (.if_icmp .ge 12, 3) := by decide +kernel
theorem dX9_valueAt_12 : decode cX9_valueAt 12 = .ok (.aload_n 0, 1) := by decide +kernel
theorem dX9_valueAt_13 : decode cX9_valueAt 13 = .ok (.getfield 21, 3) := by decide +kernel
theorem dX9_valueAt_16 : decode cX9_valueAt 16 = .ok (.iload_n 1, 1) := by decide +kernel
theorem dX9_valueAt_17 : decode cX9_valueAt 17 = .ok (.iaload, 1) := by decide +kernel
theorem dX9_valueAt_18 : decode cX9_valueAt 18 = .ok (.goto 4, 3) := by decide +kernel
set_option maxHeartbeats 4000000 in
set_option maxRecDepth 100000 in
theorem cy_X9_valueAt (l : Launch) (D : va_G) (cA : Nat → ClassId) (L : List Nat) (T : Nat → Nat) (r : Rg) (hG : GR L T r) (hL : L.Nodup) (σ : Sg) (ρ : Lg) (hW : WT L ry T σ) (sz : Nat) (h0 : Nat) (mh0 : h0 ∈ L) (th0 : T h0 = 9) (p1 : Int32) : Met l yX9_valueAt (.code yX9_valueAt cX9_valueAt 2 (some .int) :: wsA) ({ frames := 0, cells := 0, slots := 0, locals := 0 }) (PR D cA L T r σ ρ sz [.ref h0, .int p1]) (QI D cA L T r ry ([] : List (Nat × Nat)) σ sz (fun x σ1 => ((-1) ≤ x.toInt ∧ x.toInt ≤ 99999))) 0 0 (dm L sz) := by
  refine Met.ofW (cc := cX9_valueAt) (maxL := 2) (ret := (some .int)) (by decide) rfl ?_
  intro p e s m args below meth c s₁ B hml hv
  obtain ⟨rfl, hsz, hP, hK, hN⟩ := hv
  have hx := B.exec
  have hb := B.bytes
  have hr := B.returns
  have hts : ∀ w ∈ wsA, w.before _ s = true := fun w h => atoms_spec (ws := .code yX9_valueAt cX9_valueAt 2 (some .int) :: wsA) B.pre w (List.mem_cons_of_mem _ h)
  have hown : s.vm.findClass RX9 = some m.cls := findClass_of_methodNamed B.named
  subst hsz
  have hLA : LA (dm L s.heap.size) L := ⟨hL, fun a h => Or.inl h⟩
  have hA : ∀ q : Nat, s.heap.size ≤ q → dm L s.heap.size q := fun q h => Or.inr h
  have hS : va_S (dm L s.heap.size) s.heap s.heap [] := va_S.rf
  have hB : TS D cA L T r ry ([] : List (Nat × Nat)) σ σ ρ s.heap := ⟨hP, hW, FR.rf⟩
  have hl := lv_entry ([.ref h0, .int p1]) (n := 2) (Nat.le_of_ble_eq_true rfl)
  rw [lg_entry_eq]
  generalize (lg_sl ([.ref h0, .int p1]) ++ List.replicate (2 - (lg_sl ([.ref h0, .int p1])).length) Slot.unset).toArray = ls at hl ⊢
  have hl : lv_has ls 2 [(0, .ref h0), (1, .int p1)] := hl
  refine lv_iload_n hx hb dX9_valueAt_0 rfl (lv_at hl 1 rfl) ?_
  refine lv_if_lt (tgt := 21) hx hb dX9_valueAt_1 (by decide) (fun c_1 => ?_) (fun c_1 => ?_)
  · skip
    have uc_1 := i_lt (n := 0) (by decide) c_1
    refine lv_iconst (v := (-1)) hx hb dX9_valueAt_21 (by decide) ?_
    exact W.iret (v := (-1)) hx hb hr (fun t ht hW => ⟨⟨(-1), (σ, ρ), rfl, ⟨hB.2.1, hB.2.2, (show (-1) ≤ ((-1) : Int32).toInt ∧ ((-1) : Int32).toInt ≤ 99999 from ⟨by decide, by decide⟩)⟩, (show TP D cA L T r σ ρ t.heap from by rw [ht]; exact hB.1)⟩, hS.F ht⟩) hS.2.2 dX9_valueAt_22
  · skip
    have uc_1 := i_nlt (n := 0) (by decide) c_1
    refine lv_iload_n hx hb dX9_valueAt_4 rfl (lv_at hl 1 rfl) ?_
    refine lv_aload_n hx hb dX9_valueAt_5 rfl (lv_at hl 0 rfl) ?_
    refine t_gi hx hb hts hown hK hB mh0 th0 fi_9_5 rfl mw_1_42 dX9_valueAt_6 (fun x_2 ex_2 lx_2 ux_2 => ?_)
    refine lv_icmp_ge (tgt := 21) hx hb dX9_valueAt_9 (by decide) (fun c_3 => ?_) (fun c_3 => ?_)
    · skip
      have uc_3 := j_le c_3
      refine lv_iconst (v := (-1)) hx hb dX9_valueAt_21 (by decide) ?_
      exact W.iret (v := (-1)) hx hb hr (fun t ht hW => ⟨⟨(-1), (σ, ρ), rfl, ⟨hB.2.1, hB.2.2, (show (-1) ≤ ((-1) : Int32).toInt ∧ ((-1) : Int32).toInt ≤ 99999 from ⟨by decide, by decide⟩)⟩, (show TP D cA L T r σ ρ t.heap from by rw [ht]; exact hB.1)⟩, hS.F ht⟩) hS.2.2 dX9_valueAt_22
    · skip
      have uc_3 := j_nle c_3
      refine lv_aload_n hx hb dX9_valueAt_12 rfl (lv_at hl 0 rfl) ?_
      refine t_gr hx hb hts hown hK hG hB mh0 th0 fq_9_3 rfl mw_1_39 dX9_valueAt_13 (fun b_4 hb_4 mb_4 tb_4 => ?_)
      refine lv_iload_n hx hb dX9_valueAt_16 rfl (lv_at hl 1 rfl) ?_
      refine t_ai hx hb hK hB mb_4 tb_4 ai_54 (fun _ => rfl) (i_in (by omega) (by omega)) dX9_valueAt_17 (fun x_5 ex_5 lx_5 ux_5 => ?_)
      refine lv_goto (tgt := 22) hx hb dX9_valueAt_18 (by decide) ?_
      exact W.iret (v := x_5) hx hb hr (fun t ht hW => ⟨⟨x_5, (σ, ρ), rfl, ⟨hB.2.1, hB.2.2, (show (-1) ≤ (x_5 : Int32).toInt ∧ (x_5 : Int32).toInt ≤ 99999 from ⟨by omega, by omega⟩)⟩, (show TP D cA L T r σ ρ t.heap from by rw [ht]; exact hB.1)⟩, hS.F ht⟩) hS.2.2 dX9_valueAt_22
theorem dX9_isWord_0 : decode cX9_isWord 0 = .ok (.iload_n 1, 1) := by decide +kernel
theorem dX9_isWord_1 : decode cX9_isWord 1 = .ok (.ifCond .lt 37, 3) := by decide +kernel
theorem dX9_isWord_38 : decode cX9_isWord 38 = .ok (.iconst 0, 1) := by decide +kernel
theorem dX9_isWord_39 : decode cX9_isWord 39 = .ok (.ireturn, 1) := by decide +kernel
theorem dX9_isWord_4 : decode cX9_isWord 4 = .ok (.iload_n 1, 1) := by decide +kernel
theorem dX9_isWord_5 : decode cX9_isWord 5 = .ok (.aload_n 0, 1) := by decide +kernel
theorem dX9_isWord_6 : decode cX9_isWord 6 = .ok (.getfield 28, 3) := by decide +kernel
theorem dX9_isWord_9 : decode cX9_isWord 9 = .ok (.if_icmp .ge 29, 3) := by decide +kernel
theorem dX9_isWord_12 : decode cX9_isWord 12 = .ok (.aload_n 0, 1) := by decide +kernel
theorem dX9_isWord_13 : decode cX9_isWord 13 = .ok (.getfield 15, 3) := by decide +kernel
theorem dX9_isWord_16 : decode cX9_isWord 16 = .ok (.iload_n 1, 1) := by decide +kernel
theorem dX9_isWord_17 : decode cX9_isWord 17 = .ok (.iaload, 1) := by decide +kernel
theorem dX9_isWord_18 : decode cX9_isWord 18 = .ok (.sipush 131, 3) := by decide +kernel
theorem dX9_isWord_21 : decode cX9_isWord 21 = .ok (.if_icmp .ne 17, 3) := by decide +kernel
theorem dX9_isWord_24 : decode cX9_isWord 24 = .ok (.aload_n 0, 1) := by decide +kernel
theorem dX9_isWord_25 : decode cX9_isWord 25 = .ok (.getfield 21, 3) := by decide +kernel
theorem dX9_isWord_28 : decode cX9_isWord 28 = .ok (.iload_n 1, 1) := by decide +kernel
theorem dX9_isWord_29 : decode cX9_isWord 29 = .ok (.iaload, 1) := by decide +kernel
theorem dX9_isWord_30 : decode cX9_isWord 30 = .ok (.iload_n 2, 1) := by decide +kernel
theorem dX9_isWord_31 : decode cX9_isWord 31 = .ok (.if_icmp .ne 7, 3) := by decide +kernel
theorem dX9_isWord_34 : decode cX9_isWord 34 = .ok (.iconst 1, 1) := by decide +kernel
theorem dX9_isWord_35 : decode cX9_isWord 35 = .ok (.goto 4, 3) := by decide +kernel
set_option maxHeartbeats 4000000 in
set_option maxRecDepth 100000 in
theorem cy_X9_isWord (l : Launch) (D : va_G) (cA : Nat → ClassId) (L : List Nat) (T : Nat → Nat) (r : Rg) (hG : GR L T r) (hL : L.Nodup) (σ : Sg) (ρ : Lg) (hW : WT L ry T σ) (sz : Nat) (h0 : Nat) (mh0 : h0 ∈ L) (th0 : T h0 = 9) (p1 : Int32) (p2 : Int32) : Met l yX9_isWord (.code yX9_isWord cX9_isWord 3 (some .boolean) :: wsA) ({ frames := 0, cells := 0, slots := 0, locals := 0 }) (PR D cA L T r σ ρ sz [.ref h0, .int p1, .int p2]) (QI D cA L T r ry ([] : List (Nat × Nat)) σ sz (fun x σ1 => (0 ≤ x.toInt ∧ x.toInt ≤ 1))) 0 0 (dm L sz) := by
  refine Met.ofW (cc := cX9_isWord) (maxL := 3) (ret := (some .boolean)) (by decide) rfl ?_
  intro p e s m args below meth c s₁ B hml hv
  obtain ⟨rfl, hsz, hP, hK, hN⟩ := hv
  have hx := B.exec
  have hb := B.bytes
  have hr := B.returns
  have hts : ∀ w ∈ wsA, w.before _ s = true := fun w h => atoms_spec (ws := .code yX9_isWord cX9_isWord 3 (some .boolean) :: wsA) B.pre w (List.mem_cons_of_mem _ h)
  have hown : s.vm.findClass RX9 = some m.cls := findClass_of_methodNamed B.named
  subst hsz
  have hLA : LA (dm L s.heap.size) L := ⟨hL, fun a h => Or.inl h⟩
  have hA : ∀ q : Nat, s.heap.size ≤ q → dm L s.heap.size q := fun q h => Or.inr h
  have hS : va_S (dm L s.heap.size) s.heap s.heap [] := va_S.rf
  have hB : TS D cA L T r ry ([] : List (Nat × Nat)) σ σ ρ s.heap := ⟨hP, hW, FR.rf⟩
  have hl := lv_entry ([.ref h0, .int p1, .int p2]) (n := 3) (Nat.le_of_ble_eq_true rfl)
  rw [lg_entry_eq]
  generalize (lg_sl ([.ref h0, .int p1, .int p2]) ++ List.replicate (3 - (lg_sl ([.ref h0, .int p1, .int p2])).length) Slot.unset).toArray = ls at hl ⊢
  have hl : lv_has ls 3 [(0, .ref h0), (1, .int p1), (2, .int p2)] := hl
  refine lv_iload_n hx hb dX9_isWord_0 rfl (lv_at hl 1 rfl) ?_
  refine lv_if_lt (tgt := 38) hx hb dX9_isWord_1 (by decide) (fun c_1 => ?_) (fun c_1 => ?_)
  · skip
    have uc_1 := i_lt (n := 0) (by decide) c_1
    refine lv_iconst (v := 0) hx hb dX9_isWord_38 (by decide) ?_
    exact W.zret (v := 0) hx hb hr rfl (fun t ht hW => ⟨⟨0, (σ, ρ), rfl, ⟨hB.2.1, hB.2.2, (show 0 ≤ (0 : Int32).toInt ∧ (0 : Int32).toInt ≤ 1 from ⟨by decide, by decide⟩)⟩, (show TP D cA L T r σ ρ t.heap from by rw [ht]; exact hB.1)⟩, hS.F ht⟩) hS.2.2 dX9_isWord_39
  · skip
    have uc_1 := i_nlt (n := 0) (by decide) c_1
    refine lv_iload_n hx hb dX9_isWord_4 rfl (lv_at hl 1 rfl) ?_
    refine lv_aload_n hx hb dX9_isWord_5 rfl (lv_at hl 0 rfl) ?_
    refine t_gi hx hb hts hown hK hB mh0 th0 fi_9_5 rfl mw_1_42 dX9_isWord_6 (fun x_2 ex_2 lx_2 ux_2 => ?_)
    refine lv_icmp_ge (tgt := 38) hx hb dX9_isWord_9 (by decide) (fun c_3 => ?_) (fun c_3 => ?_)
    · skip
      have uc_3 := j_le c_3
      refine lv_iconst (v := 0) hx hb dX9_isWord_38 (by decide) ?_
      exact W.zret (v := 0) hx hb hr rfl (fun t ht hW => ⟨⟨0, (σ, ρ), rfl, ⟨hB.2.1, hB.2.2, (show 0 ≤ (0 : Int32).toInt ∧ (0 : Int32).toInt ≤ 1 from ⟨by decide, by decide⟩)⟩, (show TP D cA L T r σ ρ t.heap from by rw [ht]; exact hB.1)⟩, hS.F ht⟩) hS.2.2 dX9_isWord_39
    · skip
      have uc_3 := j_nle c_3
      refine lv_aload_n hx hb dX9_isWord_12 rfl (lv_at hl 0 rfl) ?_
      refine t_gr hx hb hts hown hK hG hB mh0 th0 fq_9_1 rfl mw_1_37 dX9_isWord_13 (fun b_4 hb_4 mb_4 tb_4 => ?_)
      refine lv_iload_n hx hb dX9_isWord_16 rfl (lv_at hl 1 rfl) ?_
      refine t_ai hx hb hK hB mb_4 tb_4 ai_52 (fun _ => rfl) (i_in (by omega) (by omega)) dX9_isWord_17 (fun x_5 ex_5 lx_5 ux_5 => ?_)
      refine lv_sipush (v := 131) hx hb dX9_isWord_18 (by decide) ?_
      refine lv_icmp_ne (tgt := 38) hx hb dX9_isWord_21 (by decide) (fun c_6 => ?_) (fun c_6 => ?_)
      · skip
        have uc_6 := i_ne (n := 131) (by decide) c_6
        refine lv_iconst (v := 0) hx hb dX9_isWord_38 (by decide) ?_
        exact W.zret (v := 0) hx hb hr rfl (fun t ht hW => ⟨⟨0, (σ, ρ), rfl, ⟨hB.2.1, hB.2.2, (show 0 ≤ (0 : Int32).toInt ∧ (0 : Int32).toInt ≤ 1 from ⟨by decide, by decide⟩)⟩, (show TP D cA L T r σ ρ t.heap from by rw [ht]; exact hB.1)⟩, hS.F ht⟩) hS.2.2 dX9_isWord_39
      · skip
        have uc_6 := i_eq (n := 131) (by decide) c_6
        refine lv_aload_n hx hb dX9_isWord_24 rfl (lv_at hl 0 rfl) ?_
        refine t_gr hx hb hts hown hK hG hB mh0 th0 fq_9_3 rfl mw_1_39 dX9_isWord_25 (fun b_7 hb_7 mb_7 tb_7 => ?_)
        refine lv_iload_n hx hb dX9_isWord_28 rfl (lv_at hl 1 rfl) ?_
        refine t_ai hx hb hK hB mb_7 tb_7 ai_54 (fun _ => rfl) (i_in (by omega) (by omega)) dX9_isWord_29 (fun x_8 ex_8 lx_8 ux_8 => ?_)
        refine lv_iload_n hx hb dX9_isWord_30 rfl (lv_at hl 2 rfl) ?_
        refine lv_icmp_ne (tgt := 38) hx hb dX9_isWord_31 (by decide) (fun c_9 => ?_) (fun c_9 => ?_)
        · skip
          have uc_9 := j_ne c_9
          refine lv_iconst (v := 0) hx hb dX9_isWord_38 (by decide) ?_
          exact W.zret (v := 0) hx hb hr rfl (fun t ht hW => ⟨⟨0, (σ, ρ), rfl, ⟨hB.2.1, hB.2.2, (show 0 ≤ (0 : Int32).toInt ∧ (0 : Int32).toInt ≤ 1 from ⟨by decide, by decide⟩)⟩, (show TP D cA L T r σ ρ t.heap from by rw [ht]; exact hB.1)⟩, hS.F ht⟩) hS.2.2 dX9_isWord_39
        · skip
          have uc_9 := j_eq c_9
          refine lv_iconst (v := 1) hx hb dX9_isWord_34 (by decide) ?_
          refine lv_goto (tgt := 39) hx hb dX9_isWord_35 (by decide) ?_
          exact W.zret (v := 1) hx hb hr rfl (fun t ht hW => ⟨⟨1, (σ, ρ), rfl, ⟨hB.2.1, hB.2.2, (show 0 ≤ (1 : Int32).toInt ∧ (1 : Int32).toInt ≤ 1 from ⟨by decide, by decide⟩)⟩, (show TP D cA L T r σ ρ t.heap from by rw [ht]; exact hB.1)⟩, hS.F ht⟩) hS.2.2 dX9_isWord_39
theorem mw_1_45 : (.fieldLink RX9 31 "HillBends$Tape" "fault" "I" : Cond) ∈ wsA := wsA_t (List.mem_append_left _ (List.mem_of_getElem? (l := tables_1_1) (i := 45) rfl)) rfl
theorem mw_1_38 : (.fieldLink RX9 18 "HillBends$Tape" "places" "[I" : Cond) ∈ wsA := wsA_t (List.mem_append_left _ (List.mem_of_getElem? (l := tables_1_1) (i := 38) rfl)) rfl
theorem dX9_wrong_0 : decode cX9_wrong 0 = .ok (.iload_n 1, 1) := by decide +kernel
theorem dX9_wrong_1 : decode cX9_wrong 1 = .ok (.ifCond .lt 20, 3) := by decide +kernel
theorem dX9_wrong_21 : decode cX9_wrong 21 = .ok (.aload_n 0, 1) := by decide +kernel
theorem dX9_wrong_22 : decode cX9_wrong 22 = .ok (.getfield 24, 3) := by decide +kernel
theorem dX9_wrong_25 : decode cX9_wrong 25 = .ok (.istore_n 3, 1) := by decide +kernel
theorem dX9_wrong_26 : decode cX9_wrong 26 = .ok (.aload_n 0, 1) := by decide +kernel
theorem dX9_wrong_27 : decode cX9_wrong 27 = .ok (.iconst 1, 1) := by decide +kernel
theorem dX9_wrong_28 : decode cX9_wrong 28 = .ok (.bipush 8, 2) := by decide +kernel
theorem dX9_wrong_30 : decode cX9_wrong 30 = .ok (.iload_n 3, 1) := by decide +kernel
theorem dX9_wrong_31 : decode cX9_wrong 31 = .ok (.imul, 1) := by decide +kernel
theorem dX9_wrong_32 : decode cX9_wrong 32 = .ok (.iadd, 1) := by decide +kernel
theorem dX9_wrong_33 : decode cX9_wrong 33 = .ok (.iload_n 2, 1) := by decide +kernel
theorem dX9_wrong_34 : decode cX9_wrong 34 = .ok (.iadd, 1) := by decide +kernel
theorem dX9_wrong_35 : decode cX9_wrong 35 = .ok (.putfield 31, 3) := by decide +kernel
theorem dX9_wrong_38 : decode cX9_wrong 38 = .ok (.iconst 0, 1) := by decide +kernel
theorem dX9_wrong_39 : decode cX9_wrong 39 = .ok (.ireturn, 1) := by decide +kernel
theorem dX9_wrong_4 : decode cX9_wrong 4 = .ok (.iload_n 1, 1) := by decide +kernel
theorem dX9_wrong_5 : decode cX9_wrong 5 = .ok (.aload_n 0, 1) := by decide +kernel
theorem dX9_wrong_6 : decode cX9_wrong 6 = .ok (.getfield 28, 3) := by decide +kernel
theorem dX9_wrong_9 : decode cX9_wrong 9 = .ok (.if_icmp .ge 12, 3) := by decide +kernel
theorem dX9_wrong_12 : decode cX9_wrong 12 = .ok (.aload_n 0, 1) := by decide +kernel
theorem dX9_wrong_13 : decode cX9_wrong 13 = .ok (.getfield 18, 3) := by decide +kernel
theorem dX9_wrong_16 : decode cX9_wrong 16 = .ok (.iload_n 1, 1) := by decide +kernel
theorem dX9_wrong_17 : decode cX9_wrong 17 = .ok (.iaload, 1) := by decide +kernel
theorem dX9_wrong_18 : decode cX9_wrong 18 = .ok (.goto 7, 3) := by decide +kernel
set_option maxHeartbeats 4000000 in
set_option maxRecDepth 100000 in
theorem cy_X9_wrong (l : Launch) (D : va_G) (cA : Nat → ClassId) (L : List Nat) (T : Nat → Nat) (r : Rg) (hG : GR L T r) (hL : L.Nodup) (σ : Sg) (ρ : Lg) (hW : WT L ry T σ) (sz : Nat) (h0 : Nat) (mh0 : h0 ∈ L) (th0 : T h0 = 9) (p1 : Int32) (p2 : Int32) (w0 : 0 ≤ p2.toInt) (w1 : p2.toInt ≤ 10) : Met l yX9_wrong (.code yX9_wrong cX9_wrong 4 (some .boolean) :: wsA) ({ frames := 0, cells := 0, slots := 0, locals := 0 }) (PR D cA L T r σ ρ sz [.ref h0, .int p1, .int p2]) (QI D cA L T r ry [(9, 6)] σ sz (fun x σ1 => x = 0 ∧ (1 ≤ (σ1 h0 6).toInt))) 0 0 (dm L sz) := by
  refine Met.ofW (cc := cX9_wrong) (maxL := 4) (ret := (some .boolean)) (by decide) rfl ?_
  intro p e s m args below meth c s₁ B hml hv
  obtain ⟨rfl, hsz, hP, hK, hN⟩ := hv
  have hx := B.exec
  have hb := B.bytes
  have hr := B.returns
  have hts : ∀ w ∈ wsA, w.before _ s = true := fun w h => atoms_spec (ws := .code yX9_wrong cX9_wrong 4 (some .boolean) :: wsA) B.pre w (List.mem_cons_of_mem _ h)
  have hown : s.vm.findClass RX9 = some m.cls := findClass_of_methodNamed B.named
  subst hsz
  have hLA : LA (dm L s.heap.size) L := ⟨hL, fun a h => Or.inl h⟩
  have hA : ∀ q : Nat, s.heap.size ≤ q → dm L s.heap.size q := fun q h => Or.inr h
  have hS : va_S (dm L s.heap.size) s.heap s.heap [] := va_S.rf
  have hB : TS D cA L T r ry [(9, 6)] σ σ ρ s.heap := ⟨hP, hW, FR.rf⟩
  have hl := lv_entry ([.ref h0, .int p1, .int p2]) (n := 4) (Nat.le_of_ble_eq_true rfl)
  rw [lg_entry_eq]
  generalize (lg_sl ([.ref h0, .int p1, .int p2]) ++ List.replicate (4 - (lg_sl ([.ref h0, .int p1, .int p2])).length) Slot.unset).toArray = ls at hl ⊢
  have hl : lv_has ls 4 [(0, .ref h0), (1, .int p1), (2, .int p2)] := hl
  refine lv_iload_n hx hb dX9_wrong_0 rfl (lv_at hl 1 rfl) ?_
  refine lv_if_lt (tgt := 21) hx hb dX9_wrong_1 (by decide) (fun c_1 => ?_) (fun c_1 => ?_)
  · skip
    have uc_1 := i_lt (n := 0) (by decide) c_1
    refine lv_aload_n hx hb dX9_wrong_21 rfl (lv_at hl 0 rfl) ?_
    refine t_gi hx hb hts hown hK hB mh0 th0 fi_9_4 rfl mw_1_41 dX9_wrong_22 (fun x_2 ex_2 lx_2 ux_2 => ?_)
    refine lv_istore_n (lv' := [(3, .int x_2), (0, .ref h0), (1, .int p1), (2, .int p2)]) hx hb dX9_wrong_25 rfl hl (by decide) rfl (fun ls hl => ?_)
    refine lv_aload_n hx hb dX9_wrong_26 rfl (lv_at hl 1 rfl) ?_
    refine lv_iconst (v := 1) hx hb dX9_wrong_27 (by decide) ?_
    refine lv_bipush (v := 8) hx hb dX9_wrong_28 (by decide) ?_
    refine lv_iload_n hx hb dX9_wrong_30 rfl (lv_at hl 0 rfl) ?_
    refine lv_imul hx hb dX9_wrong_31 ?_
    refine lv_topi (fun x_3 ex_3 => ?_)
    have vx_3 := b_mul (by decide : (8 : Int32).toInt = 8) (rfl : x_2.toInt = _) ex_3 (by omega) (by omega)
    refine lv_iadd hx hb dX9_wrong_32 ?_
    refine lv_topi (fun x_4 ex_4 => ?_)
    have vx_4 := b_add (by decide : (1 : Int32).toInt = 1) (rfl : x_3.toInt = _) ex_4 (by omega) (by omega)
    refine lv_iload_n hx hb dX9_wrong_33 rfl (lv_at hl 3 rfl) ?_
    refine lv_iadd hx hb dX9_wrong_34 ?_
    refine lv_topi (fun x_5 ex_5 => ?_)
    have vx_5 := b_add (rfl : x_4.toInt = _) (rfl : p2.toInt = _) ex_5 (by omega) (by omega)
    refine t_pi hx hb hts hown hK hLA hB hS mh0 th0 fi_9_6 rfl rfl rfl (i_lo _) (i_hi _) (Or.inl (by decide)) mw_1_45 dX9_wrong_35 (fun H locs σ_6 eσ_6 hB hS => ?_)
    have k_7 : σ_6 h0 6 = x_5 := by rw [eσ_6]; exact up2_same _ _ _ _
    refine lv_iconst (v := 0) hx hb dX9_wrong_38 (by decide) ?_
    exact W.zret (v := 0) hx hb hr rfl (fun t ht hW => ⟨⟨0, (σ_6, ρ), rfl, ⟨hB.2.1, hB.2.2, ⟨rfl, (show 1 ≤ (σ_6 h0 6).toInt from (by rw [k_7]; omega))⟩⟩, (show TP D cA L T r σ_6 ρ t.heap from by rw [ht]; exact hB.1)⟩, hS.F ht⟩) hS.2.2 dX9_wrong_39
  · skip
    have uc_1 := i_nlt (n := 0) (by decide) c_1
    refine lv_iload_n hx hb dX9_wrong_4 rfl (lv_at hl 1 rfl) ?_
    refine lv_aload_n hx hb dX9_wrong_5 rfl (lv_at hl 0 rfl) ?_
    refine t_gi hx hb hts hown hK hB mh0 th0 fi_9_5 rfl mw_1_42 dX9_wrong_6 (fun x_8 ex_8 lx_8 ux_8 => ?_)
    refine lv_icmp_ge (tgt := 21) hx hb dX9_wrong_9 (by decide) (fun c_9 => ?_) (fun c_9 => ?_)
    · skip
      have uc_9 := j_le c_9
      refine lv_aload_n hx hb dX9_wrong_21 rfl (lv_at hl 0 rfl) ?_
      refine t_gi hx hb hts hown hK hB mh0 th0 fi_9_4 rfl mw_1_41 dX9_wrong_22 (fun x_10 ex_10 lx_10 ux_10 => ?_)
      refine lv_istore_n (lv' := [(3, .int x_10), (0, .ref h0), (1, .int p1), (2, .int p2)]) hx hb dX9_wrong_25 rfl hl (by decide) rfl (fun ls hl => ?_)
      refine lv_aload_n hx hb dX9_wrong_26 rfl (lv_at hl 1 rfl) ?_
      refine lv_iconst (v := 1) hx hb dX9_wrong_27 (by decide) ?_
      refine lv_bipush (v := 8) hx hb dX9_wrong_28 (by decide) ?_
      refine lv_iload_n hx hb dX9_wrong_30 rfl (lv_at hl 0 rfl) ?_
      refine lv_imul hx hb dX9_wrong_31 ?_
      refine lv_topi (fun x_11 ex_11 => ?_)
      have vx_11 := b_mul (by decide : (8 : Int32).toInt = 8) (rfl : x_10.toInt = _) ex_11 (by omega) (by omega)
      refine lv_iadd hx hb dX9_wrong_32 ?_
      refine lv_topi (fun x_12 ex_12 => ?_)
      have vx_12 := b_add (by decide : (1 : Int32).toInt = 1) (rfl : x_11.toInt = _) ex_12 (by omega) (by omega)
      refine lv_iload_n hx hb dX9_wrong_33 rfl (lv_at hl 3 rfl) ?_
      refine lv_iadd hx hb dX9_wrong_34 ?_
      refine lv_topi (fun x_13 ex_13 => ?_)
      have vx_13 := b_add (rfl : x_12.toInt = _) (rfl : p2.toInt = _) ex_13 (by omega) (by omega)
      refine t_pi hx hb hts hown hK hLA hB hS mh0 th0 fi_9_6 rfl rfl rfl (i_lo _) (i_hi _) (Or.inl (by decide)) mw_1_45 dX9_wrong_35 (fun H locs σ_14 eσ_14 hB hS => ?_)
      have k_15 : σ_14 h0 6 = x_13 := by rw [eσ_14]; exact up2_same _ _ _ _
      refine lv_iconst (v := 0) hx hb dX9_wrong_38 (by decide) ?_
      exact W.zret (v := 0) hx hb hr rfl (fun t ht hW => ⟨⟨0, (σ_14, ρ), rfl, ⟨hB.2.1, hB.2.2, ⟨rfl, (show 1 ≤ (σ_14 h0 6).toInt from (by rw [k_15]; omega))⟩⟩, (show TP D cA L T r σ_14 ρ t.heap from by rw [ht]; exact hB.1)⟩, hS.F ht⟩) hS.2.2 dX9_wrong_39
    · skip
      have uc_9 := j_nle c_9
      refine lv_aload_n hx hb dX9_wrong_12 rfl (lv_at hl 0 rfl) ?_
      refine t_gr hx hb hts hown hK hG hB mh0 th0 fq_9_2 rfl mw_1_38 dX9_wrong_13 (fun b_16 hb_16 mb_16 tb_16 => ?_)
      refine lv_iload_n hx hb dX9_wrong_16 rfl (lv_at hl 1 rfl) ?_
      refine t_ai hx hb hK hB mb_16 tb_16 ai_53 (fun _ => rfl) (i_in (by omega) (by omega)) dX9_wrong_17 (fun x_17 ex_17 lx_17 ux_17 => ?_)
      refine lv_goto (tgt := 25) hx hb dX9_wrong_18 (by decide) ?_
      refine lv_istore_n (lv' := [(3, .int x_17), (0, .ref h0), (1, .int p1), (2, .int p2)]) hx hb dX9_wrong_25 rfl hl (by decide) rfl (fun ls hl => ?_)
      refine lv_aload_n hx hb dX9_wrong_26 rfl (lv_at hl 1 rfl) ?_
      refine lv_iconst (v := 1) hx hb dX9_wrong_27 (by decide) ?_
      refine lv_bipush (v := 8) hx hb dX9_wrong_28 (by decide) ?_
      refine lv_iload_n hx hb dX9_wrong_30 rfl (lv_at hl 0 rfl) ?_
      refine lv_imul hx hb dX9_wrong_31 ?_
      refine lv_topi (fun x_18 ex_18 => ?_)
      have vx_18 := b_mul (by decide : (8 : Int32).toInt = 8) (rfl : x_17.toInt = _) ex_18 (by omega) (by omega)
      refine lv_iadd hx hb dX9_wrong_32 ?_
      refine lv_topi (fun x_19 ex_19 => ?_)
      have vx_19 := b_add (by decide : (1 : Int32).toInt = 1) (rfl : x_18.toInt = _) ex_19 (by omega) (by omega)
      refine lv_iload_n hx hb dX9_wrong_33 rfl (lv_at hl 3 rfl) ?_
      refine lv_iadd hx hb dX9_wrong_34 ?_
      refine lv_topi (fun x_20 ex_20 => ?_)
      have vx_20 := b_add (rfl : x_19.toInt = _) (rfl : p2.toInt = _) ex_20 (by omega) (by omega)
      refine t_pi hx hb hts hown hK hLA hB hS mh0 th0 fi_9_6 rfl rfl rfl (i_lo _) (i_hi _) (Or.inl (by decide)) mw_1_45 dX9_wrong_35 (fun H locs σ_21 eσ_21 hB hS => ?_)
      have k_22 : σ_21 h0 6 = x_20 := by rw [eσ_21]; exact up2_same _ _ _ _
      refine lv_iconst (v := 0) hx hb dX9_wrong_38 (by decide) ?_
      exact W.zret (v := 0) hx hb hr rfl (fun t ht hW => ⟨⟨0, (σ_21, ρ), rfl, ⟨hB.2.1, hB.2.2, ⟨rfl, (show 1 ≤ (σ_21 h0 6).toInt from (by rw [k_22]; omega))⟩⟩, (show TP D cA L T r σ_21 ρ t.heap from by rw [ht]; exact hB.1)⟩, hS.F ht⟩) hS.2.2 dX9_wrong_39
theorem dX9_put_0 : decode cX9_put 0 = .ok (.aload_n 0, 1) := by decide +kernel
theorem dX9_put_1 : decode cX9_put 1 = .ok (.getfield 28, 3) := by decide +kernel
theorem dX9_put_4 : decode cX9_put 4 = .ok (.aload_n 0, 1) := by decide +kernel
theorem dX9_put_5 : decode cX9_put 5 = .ok (.getfield 15, 3) := by decide +kernel
theorem dX9_put_8 : decode cX9_put 8 = .ok (.arraylength, 1) := by decide +kernel
theorem dX9_put_9 : decode cX9_put 9 = .ok (.if_icmp .ge 43, 3) := by decide +kernel
theorem dX9_put_52 : decode cX9_put 52 = .ok (.return_, 1) := by decide +kernel
theorem dX9_put_12 : decode cX9_put 12 = .ok (.aload_n 0, 1) := by decide +kernel
theorem dX9_put_13 : decode cX9_put 13 = .ok (.getfield 15, 3) := by decide +kernel
theorem dX9_put_16 : decode cX9_put 16 = .ok (.aload_n 0, 1) := by decide +kernel
theorem dX9_put_17 : decode cX9_put 17 = .ok (.getfield 28, 3) := by decide +kernel
theorem dX9_put_20 : decode cX9_put 20 = .ok (.iload_n 1, 1) := by decide +kernel
theorem dX9_put_21 : decode cX9_put 21 = .ok (.iastore, 1) := by decide +kernel
theorem dX9_put_22 : decode cX9_put 22 = .ok (.aload_n 0, 1) := by decide +kernel
theorem dX9_put_23 : decode cX9_put 23 = .ok (.getfield 18, 3) := by decide +kernel
theorem dX9_put_26 : decode cX9_put 26 = .ok (.aload_n 0, 1) := by decide +kernel
theorem dX9_put_27 : decode cX9_put 27 = .ok (.getfield 28, 3) := by decide +kernel
theorem dX9_put_30 : decode cX9_put 30 = .ok (.iload_n 2, 1) := by decide +kernel
theorem dX9_put_31 : decode cX9_put 31 = .ok (.iastore, 1) := by decide +kernel
theorem dX9_put_32 : decode cX9_put 32 = .ok (.aload_n 0, 1) := by decide +kernel
theorem dX9_put_33 : decode cX9_put 33 = .ok (.getfield 21, 3) := by decide +kernel
theorem dX9_put_36 : decode cX9_put 36 = .ok (.aload_n 0, 1) := by decide +kernel
theorem dX9_put_37 : decode cX9_put 37 = .ok (.getfield 28, 3) := by decide +kernel
theorem dX9_put_40 : decode cX9_put 40 = .ok (.iload_n 3, 1) := by decide +kernel
theorem dX9_put_41 : decode cX9_put 41 = .ok (.iastore, 1) := by decide +kernel
theorem dX9_put_42 : decode cX9_put 42 = .ok (.aload_n 0, 1) := by decide +kernel
theorem dX9_put_43 : decode cX9_put 43 = .ok (.dup, 1) := by decide +kernel
theorem dX9_put_44 : decode cX9_put 44 = .ok (.getfield 28, 3) := by decide +kernel
theorem dX9_put_47 : decode cX9_put 47 = .ok (.iconst 1, 1) := by decide +kernel
theorem dX9_put_48 : decode cX9_put 48 = .ok (.iadd, 1) := by decide +kernel
theorem dX9_put_49 : decode cX9_put 49 = .ok (.putfield 28, 3) := by decide +kernel
set_option maxHeartbeats 4000000 in
set_option maxRecDepth 100000 in
theorem cy_X9_put (l : Launch) (D : va_G) (cA : Nat → ClassId) (L : List Nat) (T : Nat → Nat) (r : Rg) (hG : GR L T r) (hL : L.Nodup) (σ : Sg) (ρ : Lg) (hW : WT L ry T σ) (sz : Nat) (h0 : Nat) (mh0 : h0 ∈ L) (th0 : T h0 = 9) (p1 : Int32) (p2 : Int32) (p3 : Int32) (w0 : 0 ≤ p1.toInt) (w1 : p1.toInt ≤ 255) (w2 : 0 ≤ p2.toInt) (w3 : p2.toInt ≤ 400) (w4 : -1 ≤ p3.toInt) (w5 : p3.toInt ≤ 99999) : Met l yX9_put (.code yX9_put cX9_put 4 none :: wsA) ({ frames := 0, cells := 0, slots := 0, locals := 0 }) (PR D cA L T r σ ρ sz [.ref h0, .int p1, .int p2, .int p3]) (QV D cA L T r ry [(9, 5), (52, 1000), (53, 1000), (54, 1000)] σ sz (fun σ1 => True)) 0 0 (dm L sz) := by
  refine Met.ofW (cc := cX9_put) (maxL := 4) (ret := none) (by decide) rfl ?_
  intro p e s m args below meth c s₁ B hml hv
  obtain ⟨rfl, hsz, hP, hK, hN⟩ := hv
  have hx := B.exec
  have hb := B.bytes
  have hr := B.returns
  have hts : ∀ w ∈ wsA, w.before _ s = true := fun w h => atoms_spec (ws := .code yX9_put cX9_put 4 none :: wsA) B.pre w (List.mem_cons_of_mem _ h)
  have hown : s.vm.findClass RX9 = some m.cls := findClass_of_methodNamed B.named
  subst hsz
  have hLA : LA (dm L s.heap.size) L := ⟨hL, fun a h => Or.inl h⟩
  have hA : ∀ q : Nat, s.heap.size ≤ q → dm L s.heap.size q := fun q h => Or.inr h
  have hS : va_S (dm L s.heap.size) s.heap s.heap [] := va_S.rf
  have hB : TS D cA L T r ry [(9, 5), (52, 1000), (53, 1000), (54, 1000)] σ σ ρ s.heap := ⟨hP, hW, FR.rf⟩
  have hl := lv_entry ([.ref h0, .int p1, .int p2, .int p3]) (n := 4) (Nat.le_of_ble_eq_true rfl)
  rw [lg_entry_eq]
  generalize (lg_sl ([.ref h0, .int p1, .int p2, .int p3]) ++ List.replicate (4 - (lg_sl ([.ref h0, .int p1, .int p2, .int p3])).length) Slot.unset).toArray = ls at hl ⊢
  have hl : lv_has ls 4 [(0, .ref h0), (1, .int p1), (2, .int p2), (3, .int p3)] := hl
  refine lv_aload_n hx hb dX9_put_0 rfl (lv_at hl 0 rfl) ?_
  refine t_gi hx hb hts hown hK hB mh0 th0 fi_9_5 rfl mw_1_42 dX9_put_1 (fun x_1 ex_1 lx_1 ux_1 => ?_)
  refine lv_aload_n hx hb dX9_put_4 rfl (lv_at hl 0 rfl) ?_
  refine t_gr hx hb hts hown hK hG hB mh0 th0 fq_9_1 rfl mw_1_37 dX9_put_5 (fun b_2 hb_2 mb_2 tb_2 => ?_)
  refine t_len (n := 401) (v := 401) hx hb hK hB mb_2 tb_2 ((ai_52) _ _ _ _) rfl (show (tyA cA)[1]? = some (cA 1, _) from rfl) (by decide) dX9_put_8 ?_
  refine lv_icmp_ge (tgt := 52) hx hb dX9_put_9 (by decide) (fun c_3 => ?_) (fun c_3 => ?_)
  · skip
    have uc_3 := i_ge (n := 401) (by decide) c_3
    exact W.vret hx hb hr (fun t ht hW => ⟨⟨(σ, ρ), rfl, ⟨hB.2.1, hB.2.2, trivial⟩, (show TP D cA L T r σ ρ t.heap from by rw [ht]; exact hB.1)⟩, hS.F ht⟩) hS.2.2 dX9_put_52
  · skip
    have uc_3 := i_nge (n := 401) (by decide) c_3
    refine lv_aload_n hx hb dX9_put_12 rfl (lv_at hl 0 rfl) ?_
    refine t_gk hx hb hts hown hK hB mh0 th0 fq_9_1 hb_2 mw_1_37 dX9_put_13 ?_
    refine lv_aload_n hx hb dX9_put_16 rfl (lv_at hl 0 rfl) ?_
    refine t_gv hx hb hts hown hK hB mh0 th0 fi_9_5 ex_1.symm mw_1_42 dX9_put_17 ?_
    refine lv_iload_n hx hb dX9_put_20 rfl (lv_at hl 1 rfl) ?_
    refine t_si hx hb hK hLA hB hS mb_2 tb_2 ai_52 (i_in (by omega) (by omega)) (by show 0 ≤ _; omega) (by show _ ≤ 255; omega) (Or.inr (by decide)) dX9_put_21 (fun H locs σ_4 eσ_4 hB hS => ?_)
    have k_5 : σ_4 b_2 x_1.toNatClampNeg = p1 := by rw [eσ_4]; exact up2_same _ _ _ _
    refine lv_aload_n hx hb dX9_put_22 rfl (lv_at hl 0 rfl) ?_
    refine t_gr hx hb hts hown hK hG hB mh0 th0 fq_9_2 rfl mw_1_38 dX9_put_23 (fun b_6 hb_6 mb_6 tb_6 => ?_)
    refine lv_aload_n hx hb dX9_put_26 rfl (lv_at hl 0 rfl) ?_
    have k_7 : σ_4 h0 5 = x_1 := by rw [eσ_4, up2_nea _ _ (tg_ne th0 tb_2 (by decide))]; exact ex_1.symm
    refine t_gv hx hb hts hown hK hB mh0 th0 fi_9_5 k_7 mw_1_42 dX9_put_27 ?_
    refine lv_iload_n hx hb dX9_put_30 rfl (lv_at hl 2 rfl) ?_
    refine t_si hx hb hK hLA hB hS mb_6 tb_6 ai_53 (i_in (by omega) (by omega)) (by show 0 ≤ _; omega) (by show _ ≤ 400; omega) (Or.inr (by decide)) dX9_put_31 (fun H locs σ_8 eσ_8 hB hS => ?_)
    have k_9 : σ_8 b_6 x_1.toNatClampNeg = p2 := by rw [eσ_8]; exact up2_same _ _ _ _
    refine lv_aload_n hx hb dX9_put_32 rfl (lv_at hl 0 rfl) ?_
    refine t_gr hx hb hts hown hK hG hB mh0 th0 fq_9_3 rfl mw_1_39 dX9_put_33 (fun b_10 hb_10 mb_10 tb_10 => ?_)
    refine lv_aload_n hx hb dX9_put_36 rfl (lv_at hl 0 rfl) ?_
    have k_11 : σ_8 h0 5 = x_1 := by rw [eσ_8, up2_nea _ _ (tg_ne th0 tb_6 (by decide))]; exact k_7
    refine t_gv hx hb hts hown hK hB mh0 th0 fi_9_5 k_11 mw_1_42 dX9_put_37 ?_
    refine lv_iload_n hx hb dX9_put_40 rfl (lv_at hl 3 rfl) ?_
    refine t_si hx hb hK hLA hB hS mb_10 tb_10 ai_54 (i_in (by omega) (by omega)) (by show (-1) ≤ _; omega) (by show _ ≤ 99999; omega) (Or.inr (by decide)) dX9_put_41 (fun H locs σ_12 eσ_12 hB hS => ?_)
    have k_13 : σ_12 b_10 x_1.toNatClampNeg = p3 := by rw [eσ_12]; exact up2_same _ _ _ _
    refine lv_aload_n hx hb dX9_put_42 rfl (lv_at hl 0 rfl) ?_
    refine lv_dup hx hb dX9_put_43 rfl ?_
    have k_14 : σ_12 h0 5 = x_1 := by rw [eσ_12, up2_nea _ _ (tg_ne th0 tb_10 (by decide))]; exact k_11
    refine t_gv hx hb hts hown hK hB mh0 th0 fi_9_5 k_14 mw_1_42 dX9_put_44 ?_
    refine lv_iconst (v := 1) hx hb dX9_put_47 (by decide) ?_
    refine lv_iadd hx hb dX9_put_48 ?_
    refine lv_topi (fun x_15 ex_15 => ?_)
    have vx_15 := b_add (rfl : x_1.toInt = _) (by decide : (1 : Int32).toInt = 1) ex_15 (by omega) (by omega)
    refine t_pi hx hb hts hown hK hLA hB hS mh0 th0 fi_9_5 rfl rfl rfl (by omega) (by omega) (Or.inl (by decide)) mw_1_42 dX9_put_49 (fun H locs σ_16 eσ_16 hB hS => ?_)
    have k_17 : σ_16 h0 5 = x_15 := by rw [eσ_16]; exact up2_same _ _ _ _
    exact W.vret hx hb hr (fun t ht hW => ⟨⟨(σ_16, ρ), rfl, ⟨hB.2.1, hB.2.2, trivial⟩, (show TP D cA L T r σ_16 ρ t.heap from by rw [ht]; exact hB.1)⟩, hS.F ht⟩) hS.2.2 dX9_put_52
theorem dX9_isDigit_0 : decode cX9_isDigit 0 = .ok (.iload_n 0, 1) := by decide +kernel
theorem dX9_isDigit_1 : decode cX9_isDigit 1 = .ok (.bipush 48, 2) := by decide +kernel
theorem dX9_isDigit_3 : decode cX9_isDigit 3 = .ok (.if_icmp .lt 13, 3) := by decide +kernel
theorem dX9_isDigit_16 : decode cX9_isDigit 16 = .ok (.iconst 0, 1) := by decide +kernel
theorem dX9_isDigit_17 : decode cX9_isDigit 17 = .ok (.ireturn, 1) := by decide +kernel
theorem dX9_isDigit_6 : decode cX9_isDigit 6 = .ok (.iload_n 0, 1) := by decide +kernel
theorem dX9_isDigit_7 : decode cX9_isDigit 7 = .ok (.bipush 57, 2) := by decide +kernel
theorem dX9_isDigit_9 : decode cX9_isDigit 9 = .ok (.if_icmp .gt 7, 3) := by decide +kernel
theorem dX9_isDigit_12 : decode cX9_isDigit 12 = .ok (.iconst 1, 1) := by decide +kernel
theorem dX9_isDigit_13 : decode cX9_isDigit 13 = .ok (.goto 4, 3) := by decide +kernel
set_option maxHeartbeats 4000000 in
set_option maxRecDepth 100000 in
theorem cy_X9_isDigit (l : Launch) (D : va_G) (cA : Nat → ClassId) (L : List Nat) (T : Nat → Nat) (r : Rg) (hG : GR L T r) (hL : L.Nodup) (σ : Sg) (ρ : Lg) (hW : WT L ry T σ) (sz : Nat) (p1 : Int32) : Met l yX9_isDigit (.code yX9_isDigit cX9_isDigit 1 (some .boolean) :: wsA) ({ frames := 0, cells := 0, slots := 0, locals := 0 }) (PR D cA L T r σ ρ sz [.int p1]) (QI D cA L T r ry ([] : List (Nat × Nat)) σ sz (fun x σ1 => ((x.toInt = 0 ∨ x.toInt = 1) ∧ (x.toInt = 1 → 48 ≤ p1.toInt ∧ p1.toInt ≤ 57)))) 0 0 (dm L sz) := by
  refine Met.ofW (cc := cX9_isDigit) (maxL := 1) (ret := (some .boolean)) (by decide) rfl ?_
  intro p e s m args below meth c s₁ B hml hv
  obtain ⟨rfl, hsz, hP, hK, hN⟩ := hv
  have hx := B.exec
  have hb := B.bytes
  have hr := B.returns
  have hts : ∀ w ∈ wsA, w.before _ s = true := fun w h => atoms_spec (ws := .code yX9_isDigit cX9_isDigit 1 (some .boolean) :: wsA) B.pre w (List.mem_cons_of_mem _ h)
  have hown : s.vm.findClass RX9 = some m.cls := findClass_of_methodNamed B.named
  subst hsz
  have hLA : LA (dm L s.heap.size) L := ⟨hL, fun a h => Or.inl h⟩
  have hA : ∀ q : Nat, s.heap.size ≤ q → dm L s.heap.size q := fun q h => Or.inr h
  have hS : va_S (dm L s.heap.size) s.heap s.heap [] := va_S.rf
  have hB : TS D cA L T r ry ([] : List (Nat × Nat)) σ σ ρ s.heap := ⟨hP, hW, FR.rf⟩
  have hl := lv_entry ([.int p1]) (n := 1) (Nat.le_of_ble_eq_true rfl)
  rw [lg_entry_eq]
  generalize (lg_sl ([.int p1]) ++ List.replicate (1 - (lg_sl ([.int p1])).length) Slot.unset).toArray = ls at hl ⊢
  have hl : lv_has ls 1 [(0, .int p1)] := hl
  refine lv_iload_n hx hb dX9_isDigit_0 rfl (lv_at hl 0 rfl) ?_
  refine lv_bipush (v := 48) hx hb dX9_isDigit_1 (by decide) ?_
  refine lv_icmp_lt (tgt := 16) hx hb dX9_isDigit_3 (by decide) (fun c_1 => ?_) (fun c_1 => ?_)
  · skip
    have uc_1 := i_lt (n := 48) (by decide) c_1
    refine lv_iconst (v := 0) hx hb dX9_isDigit_16 (by decide) ?_
    exact W.zret (v := 0) hx hb hr rfl (fun t ht hW => ⟨⟨0, (σ, ρ), rfl, ⟨hB.2.1, hB.2.2, (show ((0 : Int32).toInt = 0 ∨ (0 : Int32).toInt = 1) ∧ ((0 : Int32).toInt = 1 → 48 ≤ p1.toInt ∧ p1.toInt ≤ 57) from ⟨Or.inl (by decide), fun h => absurd h (by decide)⟩)⟩, (show TP D cA L T r σ ρ t.heap from by rw [ht]; exact hB.1)⟩, hS.F ht⟩) hS.2.2 dX9_isDigit_17
  · skip
    have uc_1 := i_nlt (n := 48) (by decide) c_1
    refine lv_iload_n hx hb dX9_isDigit_6 rfl (lv_at hl 0 rfl) ?_
    refine lv_bipush (v := 57) hx hb dX9_isDigit_7 (by decide) ?_
    refine lv_icmp_gt (tgt := 16) hx hb dX9_isDigit_9 (by decide) (fun c_2 => ?_) (fun c_2 => ?_)
    · skip
      have uc_2 := i_gt (n := 57) (by decide) c_2
      refine lv_iconst (v := 0) hx hb dX9_isDigit_16 (by decide) ?_
      exact W.zret (v := 0) hx hb hr rfl (fun t ht hW => ⟨⟨0, (σ, ρ), rfl, ⟨hB.2.1, hB.2.2, (show ((0 : Int32).toInt = 0 ∨ (0 : Int32).toInt = 1) ∧ ((0 : Int32).toInt = 1 → 48 ≤ p1.toInt ∧ p1.toInt ≤ 57) from ⟨Or.inl (by decide), fun h => absurd h (by decide)⟩)⟩, (show TP D cA L T r σ ρ t.heap from by rw [ht]; exact hB.1)⟩, hS.F ht⟩) hS.2.2 dX9_isDigit_17
    · skip
      have uc_2 := i_ngt (n := 57) (by decide) c_2
      refine lv_iconst (v := 1) hx hb dX9_isDigit_12 (by decide) ?_
      refine lv_goto (tgt := 17) hx hb dX9_isDigit_13 (by decide) ?_
      exact W.zret (v := 1) hx hb hr rfl (fun t ht hW => ⟨⟨1, (σ, ρ), rfl, ⟨hB.2.1, hB.2.2, (show ((1 : Int32).toInt = 0 ∨ (1 : Int32).toInt = 1) ∧ ((1 : Int32).toInt = 1 → 48 ≤ p1.toInt ∧ p1.toInt ≤ 57) from ⟨Or.inr (by decide), fun _ => ⟨by omega, by omega⟩⟩)⟩, (show TP D cA L T r σ ρ t.heap from by rw [ht]; exact hB.1)⟩, hS.F ht⟩) hS.2.2 dX9_isDigit_17
theorem dX9_isLetter_0 : decode cX9_isLetter 0 = .ok (.iload_n 0, 1) := by decide +kernel
theorem dX9_isLetter_1 : decode cX9_isLetter 1 = .ok (.bipush 97, 2) := by decide +kernel
theorem dX9_isLetter_3 : decode cX9_isLetter 3 = .ok (.if_icmp .lt 13, 3) := by decide +kernel
theorem dX9_isLetter_16 : decode cX9_isLetter 16 = .ok (.iconst 0, 1) := by decide +kernel
theorem dX9_isLetter_17 : decode cX9_isLetter 17 = .ok (.ireturn, 1) := by decide +kernel
theorem dX9_isLetter_6 : decode cX9_isLetter 6 = .ok (.iload_n 0, 1) := by decide +kernel
theorem dX9_isLetter_7 : decode cX9_isLetter 7 = .ok (.bipush 122, 2) := by decide +kernel
theorem dX9_isLetter_9 : decode cX9_isLetter 9 = .ok (.if_icmp .gt 7, 3) := by decide +kernel
theorem dX9_isLetter_12 : decode cX9_isLetter 12 = .ok (.iconst 1, 1) := by decide +kernel
theorem dX9_isLetter_13 : decode cX9_isLetter 13 = .ok (.goto 4, 3) := by decide +kernel
set_option maxHeartbeats 4000000 in
set_option maxRecDepth 100000 in
theorem cy_X9_isLetter (l : Launch) (D : va_G) (cA : Nat → ClassId) (L : List Nat) (T : Nat → Nat) (r : Rg) (hG : GR L T r) (hL : L.Nodup) (σ : Sg) (ρ : Lg) (hW : WT L ry T σ) (sz : Nat) (p1 : Int32) : Met l yX9_isLetter (.code yX9_isLetter cX9_isLetter 1 (some .boolean) :: wsA) ({ frames := 0, cells := 0, slots := 0, locals := 0 }) (PR D cA L T r σ ρ sz [.int p1]) (QI D cA L T r ry ([] : List (Nat × Nat)) σ sz (fun x σ1 => ((x.toInt = 0 ∨ x.toInt = 1) ∧ (x.toInt = 1 → 97 ≤ p1.toInt ∧ p1.toInt ≤ 122)))) 0 0 (dm L sz) := by
  refine Met.ofW (cc := cX9_isLetter) (maxL := 1) (ret := (some .boolean)) (by decide) rfl ?_
  intro p e s m args below meth c s₁ B hml hv
  obtain ⟨rfl, hsz, hP, hK, hN⟩ := hv
  have hx := B.exec
  have hb := B.bytes
  have hr := B.returns
  have hts : ∀ w ∈ wsA, w.before _ s = true := fun w h => atoms_spec (ws := .code yX9_isLetter cX9_isLetter 1 (some .boolean) :: wsA) B.pre w (List.mem_cons_of_mem _ h)
  have hown : s.vm.findClass RX9 = some m.cls := findClass_of_methodNamed B.named
  subst hsz
  have hLA : LA (dm L s.heap.size) L := ⟨hL, fun a h => Or.inl h⟩
  have hA : ∀ q : Nat, s.heap.size ≤ q → dm L s.heap.size q := fun q h => Or.inr h
  have hS : va_S (dm L s.heap.size) s.heap s.heap [] := va_S.rf
  have hB : TS D cA L T r ry ([] : List (Nat × Nat)) σ σ ρ s.heap := ⟨hP, hW, FR.rf⟩
  have hl := lv_entry ([.int p1]) (n := 1) (Nat.le_of_ble_eq_true rfl)
  rw [lg_entry_eq]
  generalize (lg_sl ([.int p1]) ++ List.replicate (1 - (lg_sl ([.int p1])).length) Slot.unset).toArray = ls at hl ⊢
  have hl : lv_has ls 1 [(0, .int p1)] := hl
  refine lv_iload_n hx hb dX9_isLetter_0 rfl (lv_at hl 0 rfl) ?_
  refine lv_bipush (v := 97) hx hb dX9_isLetter_1 (by decide) ?_
  refine lv_icmp_lt (tgt := 16) hx hb dX9_isLetter_3 (by decide) (fun c_1 => ?_) (fun c_1 => ?_)
  · skip
    have uc_1 := i_lt (n := 97) (by decide) c_1
    refine lv_iconst (v := 0) hx hb dX9_isLetter_16 (by decide) ?_
    exact W.zret (v := 0) hx hb hr rfl (fun t ht hW => ⟨⟨0, (σ, ρ), rfl, ⟨hB.2.1, hB.2.2, (show ((0 : Int32).toInt = 0 ∨ (0 : Int32).toInt = 1) ∧ ((0 : Int32).toInt = 1 → 97 ≤ p1.toInt ∧ p1.toInt ≤ 122) from ⟨Or.inl (by decide), fun h => absurd h (by decide)⟩)⟩, (show TP D cA L T r σ ρ t.heap from by rw [ht]; exact hB.1)⟩, hS.F ht⟩) hS.2.2 dX9_isLetter_17
  · skip
    have uc_1 := i_nlt (n := 97) (by decide) c_1
    refine lv_iload_n hx hb dX9_isLetter_6 rfl (lv_at hl 0 rfl) ?_
    refine lv_bipush (v := 122) hx hb dX9_isLetter_7 (by decide) ?_
    refine lv_icmp_gt (tgt := 16) hx hb dX9_isLetter_9 (by decide) (fun c_2 => ?_) (fun c_2 => ?_)
    · skip
      have uc_2 := i_gt (n := 122) (by decide) c_2
      refine lv_iconst (v := 0) hx hb dX9_isLetter_16 (by decide) ?_
      exact W.zret (v := 0) hx hb hr rfl (fun t ht hW => ⟨⟨0, (σ, ρ), rfl, ⟨hB.2.1, hB.2.2, (show ((0 : Int32).toInt = 0 ∨ (0 : Int32).toInt = 1) ∧ ((0 : Int32).toInt = 1 → 97 ≤ p1.toInt ∧ p1.toInt ≤ 122) from ⟨Or.inl (by decide), fun h => absurd h (by decide)⟩)⟩, (show TP D cA L T r σ ρ t.heap from by rw [ht]; exact hB.1)⟩, hS.F ht⟩) hS.2.2 dX9_isLetter_17
    · skip
      have uc_2 := i_ngt (n := 122) (by decide) c_2
      refine lv_iconst (v := 1) hx hb dX9_isLetter_12 (by decide) ?_
      refine lv_goto (tgt := 17) hx hb dX9_isLetter_13 (by decide) ?_
      exact W.zret (v := 1) hx hb hr rfl (fun t ht hW => ⟨⟨1, (σ, ρ), rfl, ⟨hB.2.1, hB.2.2, (show ((1 : Int32).toInt = 0 ∨ (1 : Int32).toInt = 1) ∧ ((1 : Int32).toInt = 1 → 97 ≤ p1.toInt ∧ p1.toInt ≤ 122) from ⟨Or.inr (by decide), fun _ => ⟨by omega, by omega⟩⟩)⟩, (show TP D cA L T r σ ρ t.heap from by rw [ht]; exact hB.1)⟩, hS.F ht⟩) hS.2.2 dX9_isLetter_17
theorem mw_1_95 : (.fieldLink RX8 24 "HillBends$Scene" "has" "[I" : Cond) ∈ wsA := wsA_t (List.mem_append_left _ (List.mem_of_getElem? (l := tables_1_1) (i := 95) rfl)) rfl
theorem mw_1_100 : (.fieldLink RX8 27 "HillBends$Scene" "heap" "[I" : Cond) ∈ wsA := wsA_t (List.mem_append_left _ (List.mem_of_getElem? (l := tables_1_1) (i := 100) rfl)) rfl
theorem mw_1_106 : (.fieldLink RX8 30 "HillBends$Scene" "seconds" "I" : Cond) ∈ wsA := wsA_t (List.mem_append_left _ (List.mem_of_getElem? (l := tables_1_1) (i := 106) rfl)) rfl
theorem mw_1_110 : (.fieldLink RX8 34 "HillBends$Scene" "night" "I" : Cond) ∈ wsA := wsA_t (List.mem_append_left _ (List.mem_of_getElem? (l := tables_1_1) (i := 110) rfl)) rfl
theorem mw_1_80 : (.fieldLink RX8 9 "HillBends$Scene" "height" "[I" : Cond) ∈ wsA := wsA_t (List.mem_append_left _ (List.mem_of_getElem? (l := tables_1_1) (i := 80) rfl)) rfl
theorem mw_1_85 : (.fieldLink RX8 15 "HillBends$Scene" "money" "[I" : Cond) ∈ wsA := wsA_t (List.mem_append_left _ (List.mem_of_getElem? (l := tables_1_1) (i := 85) rfl)) rfl
theorem mw_1_89 : (.fieldLink RX8 18 "HillBends$Scene" "left" "[I" : Cond) ∈ wsA := wsA_t (List.mem_append_left _ (List.mem_of_getElem? (l := tables_1_1) (i := 89) rfl)) rfl
theorem mw_1_92 : (.fieldLink RX8 21 "HillBends$Scene" "taken" "[I" : Cond) ∈ wsA := wsA_t (List.mem_append_left _ (List.mem_of_getElem? (l := tables_1_1) (i := 92) rfl)) rfl
theorem dX8_clear_0 : decode cX8_clear 0 = .ok (.iconst 0, 1) := by decide +kernel
theorem dX8_clear_1 : decode cX8_clear 1 = .ok (.istore_n 1, 1) := by decide +kernel
theorem dX8_clear_2 : decode cX8_clear 2 = .ok (.iload_n 1, 1) := by decide +kernel
theorem dX8_clear_3 : decode cX8_clear 3 = .ok (.iconst 4, 1) := by decide +kernel
theorem dX8_clear_4 : decode cX8_clear 4 = .ok (.if_icmp .ge 37, 3) := by decide +kernel
theorem dX8_clear_41 : decode cX8_clear 41 = .ok (.iconst 0, 1) := by decide +kernel
theorem dX8_clear_42 : decode cX8_clear 42 = .ok (.istore_n 1, 1) := by decide +kernel
theorem dX8_clear_43 : decode cX8_clear 43 = .ok (.iload_n 1, 1) := by decide +kernel
theorem dX8_clear_44 : decode cX8_clear 44 = .ok (.aload_n 0, 1) := by decide +kernel
theorem dX8_clear_45 : decode cX8_clear 45 = .ok (.getfield 24, 3) := by decide +kernel
theorem dX8_clear_48 : decode cX8_clear 48 = .ok (.arraylength, 1) := by decide +kernel
theorem dX8_clear_49 : decode cX8_clear 49 = .ok (.if_icmp .ge 16, 3) := by decide +kernel
theorem dX8_clear_65 : decode cX8_clear 65 = .ok (.iconst 0, 1) := by decide +kernel
theorem dX8_clear_66 : decode cX8_clear 66 = .ok (.istore_n 1, 1) := by decide +kernel
theorem dX8_clear_67 : decode cX8_clear 67 = .ok (.iload_n 1, 1) := by decide +kernel
theorem dX8_clear_68 : decode cX8_clear 68 = .ok (.aload_n 0, 1) := by decide +kernel
theorem dX8_clear_69 : decode cX8_clear 69 = .ok (.getfield 27, 3) := by decide +kernel
theorem dX8_clear_72 : decode cX8_clear 72 = .ok (.arraylength, 1) := by decide +kernel
theorem dX8_clear_73 : decode cX8_clear 73 = .ok (.if_icmp .ge 16, 3) := by decide +kernel
theorem dX8_clear_89 : decode cX8_clear 89 = .ok (.aload_n 0, 1) := by decide +kernel
theorem dX8_clear_90 : decode cX8_clear 90 = .ok (.iconst 0, 1) := by decide +kernel
theorem dX8_clear_91 : decode cX8_clear 91 = .ok (.putfield 30, 3) := by decide +kernel
theorem dX8_clear_94 : decode cX8_clear 94 = .ok (.aload_n 0, 1) := by decide +kernel
theorem dX8_clear_95 : decode cX8_clear 95 = .ok (.iconst 0, 1) := by decide +kernel
theorem dX8_clear_96 : decode cX8_clear 96 = .ok (.putfield 34, 3) := by decide +kernel
theorem dX8_clear_99 : decode cX8_clear 99 = .ok (.return_, 1) := by decide +kernel
theorem dX8_clear_76 : decode cX8_clear 76 = .ok (.aload_n 0, 1) := by decide +kernel
theorem dX8_clear_77 : decode cX8_clear 77 = .ok (.getfield 27, 3) := by decide +kernel
theorem dX8_clear_80 : decode cX8_clear 80 = .ok (.iload_n 1, 1) := by decide +kernel
theorem dX8_clear_81 : decode cX8_clear 81 = .ok (.iconst 0, 1) := by decide +kernel
theorem dX8_clear_82 : decode cX8_clear 82 = .ok (.iastore, 1) := by decide +kernel
theorem dX8_clear_83 : decode cX8_clear 83 = .ok (.iinc 1 1, 3) := by decide +kernel
theorem dX8_clear_86 : decode cX8_clear 86 = .ok (.goto (-19), 3) := by decide +kernel
theorem dX8_clear_52 : decode cX8_clear 52 = .ok (.aload_n 0, 1) := by decide +kernel
theorem dX8_clear_53 : decode cX8_clear 53 = .ok (.getfield 24, 3) := by decide +kernel
theorem dX8_clear_56 : decode cX8_clear 56 = .ok (.iload_n 1, 1) := by decide +kernel
theorem dX8_clear_57 : decode cX8_clear 57 = .ok (.iconst 0, 1) := by decide +kernel
theorem dX8_clear_58 : decode cX8_clear 58 = .ok (.iastore, 1) := by decide +kernel
theorem dX8_clear_59 : decode cX8_clear 59 = .ok (.iinc 1 1, 3) := by decide +kernel
theorem dX8_clear_62 : decode cX8_clear 62 = .ok (.goto (-19), 3) := by decide +kernel
theorem dX8_clear_7 : decode cX8_clear 7 = .ok (.aload_n 0, 1) := by decide +kernel
theorem dX8_clear_8 : decode cX8_clear 8 = .ok (.getfield 9, 3) := by decide +kernel
theorem dX8_clear_11 : decode cX8_clear 11 = .ok (.iload_n 1, 1) := by decide +kernel
theorem dX8_clear_12 : decode cX8_clear 12 = .ok (.iconst 0, 1) := by decide +kernel
theorem dX8_clear_13 : decode cX8_clear 13 = .ok (.iastore, 1) := by decide +kernel
theorem dX8_clear_14 : decode cX8_clear 14 = .ok (.aload_n 0, 1) := by decide +kernel
theorem dX8_clear_15 : decode cX8_clear 15 = .ok (.getfield 15, 3) := by decide +kernel
theorem dX8_clear_18 : decode cX8_clear 18 = .ok (.iload_n 1, 1) := by decide +kernel
theorem dX8_clear_19 : decode cX8_clear 19 = .ok (.iconst 0, 1) := by decide +kernel
theorem dX8_clear_20 : decode cX8_clear 20 = .ok (.iastore, 1) := by decide +kernel
theorem dX8_clear_21 : decode cX8_clear 21 = .ok (.aload_n 0, 1) := by decide +kernel
theorem dX8_clear_22 : decode cX8_clear 22 = .ok (.getfield 18, 3) := by decide +kernel
theorem dX8_clear_25 : decode cX8_clear 25 = .ok (.iload_n 1, 1) := by decide +kernel
theorem dX8_clear_26 : decode cX8_clear 26 = .ok (.iconst 0, 1) := by decide +kernel
theorem dX8_clear_27 : decode cX8_clear 27 = .ok (.iastore, 1) := by decide +kernel
theorem dX8_clear_28 : decode cX8_clear 28 = .ok (.aload_n 0, 1) := by decide +kernel
theorem dX8_clear_29 : decode cX8_clear 29 = .ok (.getfield 21, 3) := by decide +kernel
theorem dX8_clear_32 : decode cX8_clear 32 = .ok (.iload_n 1, 1) := by decide +kernel
theorem dX8_clear_33 : decode cX8_clear 33 = .ok (.iconst 0, 1) := by decide +kernel
theorem dX8_clear_34 : decode cX8_clear 34 = .ok (.iastore, 1) := by decide +kernel
theorem dX8_clear_35 : decode cX8_clear 35 = .ok (.iinc 1 1, 3) := by decide +kernel
theorem dX8_clear_38 : decode cX8_clear 38 = .ok (.goto (-36), 3) := by decide +kernel
set_option maxHeartbeats 4000000 in
set_option maxRecDepth 100000 in
theorem cy_X8_clear (l : Launch) (D : va_G) (cA : Nat → ClassId) (L : List Nat) (T : Nat → Nat) (r : Rg) (hG : GR L T r) (hL : L.Nodup) (σ : Sg) (ρ : Lg) (hW : WT L ry T σ) (sz : Nat) (h0 : Nat) (mh0 : h0 ∈ L) (th0 : T h0 = 101) : Met l yX8_clear (.code yX8_clear cX8_clear 2 none :: wsA) ({ frames := 0, cells := 0, slots := 0, locals := 0 }) (PR D cA L T r σ ρ sz [.ref h0]) (QV D cA L T r ry [(101, 6), (101, 7), (113, 1000), (114, 1000), (115, 1000), (116, 1000), (117, 1000), (118, 1000)] σ sz (fun σ1 => True)) 0 0 (dm L sz) := by
  refine Met.ofW (cc := cX8_clear) (maxL := 2) (ret := none) (by decide) rfl ?_
  intro p e s m args below meth c s₁ B hml hv
  obtain ⟨rfl, hsz, hP, hK, hN⟩ := hv
  have hx := B.exec
  have hb := B.bytes
  have hr := B.returns
  have hts : ∀ w ∈ wsA, w.before _ s = true := fun w h => atoms_spec (ws := .code yX8_clear cX8_clear 2 none :: wsA) B.pre w (List.mem_cons_of_mem _ h)
  have hown : s.vm.findClass RX8 = some m.cls := findClass_of_methodNamed B.named
  subst hsz
  have hLA : LA (dm L s.heap.size) L := ⟨hL, fun a h => Or.inl h⟩
  have hA : ∀ q : Nat, s.heap.size ≤ q → dm L s.heap.size q := fun q h => Or.inr h
  have hS : va_S (dm L s.heap.size) s.heap s.heap [] := va_S.rf
  have hB : TS D cA L T r ry [(101, 6), (101, 7), (113, 1000), (114, 1000), (115, 1000), (116, 1000), (117, 1000), (118, 1000)] σ σ ρ s.heap := ⟨hP, hW, FR.rf⟩
  have hl := lv_entry ([.ref h0]) (n := 2) (Nat.le_of_ble_eq_true rfl)
  rw [lg_entry_eq]
  generalize (lg_sl ([.ref h0]) ++ List.replicate (2 - (lg_sl ([.ref h0])).length) Slot.unset).toArray = ls at hl ⊢
  have hl : lv_has ls 2 [(0, .ref h0)] := hl
  refine lv_iconst (v := 0) hx hb dX8_clear_0 (by decide) ?_
  refine lv_istore_n (lv' := [(1, .int 0), (0, .ref h0)]) hx hb dX8_clear_1 rfl hl (by decide) rfl (fun ls hl => ?_)
  refine w_loop (α := Int32 × Sg × Lg) (fun (i_1, σ_2, ρ_3) H locs ls => 0 ≤ i_1.toInt ∧ i_1.toInt ≤ 4 ∧ TS D cA L T r ry [(101, 6), (101, 7), (113, 1000), (114, 1000), (115, 1000), (116, 1000), (117, 1000), (118, 1000)] σ σ_2 ρ_3 H ∧ va_S (dm L s.heap.size) s.heap H locs ∧ lv_has ls 2 [(1, .int i_1), (0, .ref h0)]) (fun (i_1, σ_2, ρ_3) => (4 - i_1.toInt).toNat) ?_ ⟨0, σ, ρ⟩ ⟨(by decide), (by decide), hB, hS, lv_sub hl [0, 1] rfl⟩
  rintro ⟨i_1, σ_2, ρ_3⟩ H locs ls ⟨li_1, ui_1, hB, hS, hl⟩ ih_4
  refine lv_iload_n hx hb dX8_clear_2 rfl (lv_at hl 0 rfl) ?_
  refine lv_iconst (v := 4) hx hb dX8_clear_3 (by decide) ?_
  refine lv_icmp_ge (tgt := 41) hx hb dX8_clear_4 (by decide) (fun c_5 => ?_) (fun c_5 => ?_)
  · skip
    have uc_5 := i_ge (n := 4) (by decide) c_5
    refine lv_iconst (v := 0) hx hb dX8_clear_41 (by decide) ?_
    refine lv_istore_n (lv' := [(1, .int 0), (0, .ref h0)]) hx hb dX8_clear_42 rfl hl (by decide) rfl (fun ls hl => ?_)
    refine w_loop (α := Int32 × Sg × Lg) (fun (i_6, σ_7, ρ_8) H locs ls => 0 ≤ i_6.toInt ∧ i_6.toInt ≤ 20 ∧ TS D cA L T r ry [(101, 6), (101, 7), (113, 1000), (114, 1000), (115, 1000), (116, 1000), (117, 1000), (118, 1000)] σ σ_7 ρ_8 H ∧ va_S (dm L s.heap.size) s.heap H locs ∧ lv_has ls 2 [(1, .int i_6), (0, .ref h0)]) (fun (i_6, σ_7, ρ_8) => (20 - i_6.toInt).toNat) ?_ ⟨0, σ_2, ρ_3⟩ ⟨(by decide), (by decide), hB, hS, lv_sub hl [0, 1] rfl⟩
    rintro ⟨i_6, σ_7, ρ_8⟩ H locs ls ⟨li_6, ui_6, hB, hS, hl⟩ ih_9
    refine lv_iload_n hx hb dX8_clear_43 rfl (lv_at hl 0 rfl) ?_
    refine lv_aload_n hx hb dX8_clear_44 rfl (lv_at hl 1 rfl) ?_
    refine t_gr hx hb hts hown hK hG hB mh0 th0 fq_101_4 rfl mw_1_95 dX8_clear_45 (fun b_10 hb_10 mb_10 tb_10 => ?_)
    refine t_len (n := 20) (v := 20) hx hb hK hB mb_10 tb_10 ((ai_117) _ _ _ _) rfl (show (tyA cA)[1]? = some (cA 1, _) from rfl) (by decide) dX8_clear_48 ?_
    refine lv_icmp_ge (tgt := 65) hx hb dX8_clear_49 (by decide) (fun c_11 => ?_) (fun c_11 => ?_)
    · skip
      have uc_11 := i_ge (n := 20) (by decide) c_11
      refine lv_iconst (v := 0) hx hb dX8_clear_65 (by decide) ?_
      refine lv_istore_n (lv' := [(1, .int 0), (0, .ref h0)]) hx hb dX8_clear_66 rfl hl (by decide) rfl (fun ls hl => ?_)
      refine w_loop (α := Int32 × Sg × Lg) (fun (i_12, σ_13, ρ_14) H locs ls => 0 ≤ i_12.toInt ∧ i_12.toInt ≤ 40 ∧ TS D cA L T r ry [(101, 6), (101, 7), (113, 1000), (114, 1000), (115, 1000), (116, 1000), (117, 1000), (118, 1000)] σ σ_13 ρ_14 H ∧ va_S (dm L s.heap.size) s.heap H locs ∧ lv_has ls 2 [(1, .int i_12), (0, .ref h0)]) (fun (i_12, σ_13, ρ_14) => (40 - i_12.toInt).toNat) ?_ ⟨0, σ_7, ρ_8⟩ ⟨(by decide), (by decide), hB, hS, lv_sub hl [0, 1] rfl⟩
      rintro ⟨i_12, σ_13, ρ_14⟩ H locs ls ⟨li_12, ui_12, hB, hS, hl⟩ ih_15
      refine lv_iload_n hx hb dX8_clear_67 rfl (lv_at hl 0 rfl) ?_
      refine lv_aload_n hx hb dX8_clear_68 rfl (lv_at hl 1 rfl) ?_
      refine t_gr hx hb hts hown hK hG hB mh0 th0 fq_101_5 rfl mw_1_100 dX8_clear_69 (fun b_16 hb_16 mb_16 tb_16 => ?_)
      refine t_len (n := 40) (v := 40) hx hb hK hB mb_16 tb_16 ((ai_118) _ _ _ _) rfl (show (tyA cA)[1]? = some (cA 1, _) from rfl) (by decide) dX8_clear_72 ?_
      refine lv_icmp_ge (tgt := 89) hx hb dX8_clear_73 (by decide) (fun c_17 => ?_) (fun c_17 => ?_)
      · skip
        have uc_17 := i_ge (n := 40) (by decide) c_17
        refine lv_aload_n hx hb dX8_clear_89 rfl (lv_at hl 1 rfl) ?_
        refine lv_iconst (v := 0) hx hb dX8_clear_90 (by decide) ?_
        refine t_pi hx hb hts hown hK hLA hB hS mh0 th0 fi_101_6 rfl rfl rfl (i_lo _) (i_hi _) (Or.inl (by decide)) mw_1_106 dX8_clear_91 (fun H locs σ_18 eσ_18 hB hS => ?_)
        have k_19 : σ_18 h0 6 = 0 := by rw [eσ_18]; exact up2_same _ _ _ _
        refine lv_aload_n hx hb dX8_clear_94 rfl (lv_at hl 1 rfl) ?_
        refine lv_iconst (v := 0) hx hb dX8_clear_95 (by decide) ?_
        refine t_pi hx hb hts hown hK hLA hB hS mh0 th0 fi_101_7 rfl rfl rfl (i_lo _) (i_hi _) (Or.inl (by decide)) mw_1_110 dX8_clear_96 (fun H locs σ_20 eσ_20 hB hS => ?_)
        have k_21 : σ_20 h0 7 = 0 := by rw [eσ_20]; exact up2_same _ _ _ _
        exact W.vret hx hb hr (fun t ht hW => ⟨⟨(σ_20, ρ_14), rfl, ⟨hB.2.1, hB.2.2, trivial⟩, (show TP D cA L T r σ_20 ρ_14 t.heap from by rw [ht]; exact hB.1)⟩, hS.F ht⟩) hS.2.2 dX8_clear_99
      · skip
        have uc_17 := i_nge (n := 40) (by decide) c_17
        refine lv_aload_n hx hb dX8_clear_76 rfl (lv_at hl 1 rfl) ?_
        refine t_gk hx hb hts hown hK hB mh0 th0 fq_101_5 hb_16 mw_1_100 dX8_clear_77 ?_
        refine lv_iload_n hx hb dX8_clear_80 rfl (lv_at hl 0 rfl) ?_
        refine lv_iconst (v := 0) hx hb dX8_clear_81 (by decide) ?_
        refine t_si hx hb hK hLA hB hS mb_16 tb_16 ai_118 (i_in (by omega) (by omega)) (show 0 ≤ (0 : Int32).toInt by decide) (show (0 : Int32).toInt ≤ 99 by decide) (Or.inr (by decide)) dX8_clear_82 (fun H locs σ_22 eσ_22 hB hS => ?_)
        have k_23 : σ_22 b_16 i_12.toNatClampNeg = 0 := by rw [eσ_22]; exact up2_same _ _ _ _
        obtain ⟨x_24, ex_24⟩ : ∃ y : Int32, y = i_12 + 1 := ⟨_, rfl⟩
        have vx_24 := b_add (rfl : i_12.toInt = _) (by decide : (1 : Int32).toInt = 1) ex_24 (by omega) (by omega)
        refine lv_iinc (v := x_24) (lv' := [(1, .int x_24), (0, .ref h0)]) hx hb dX8_clear_83 hl (k := 0) rfl (by rw [ex_24]; rfl) (by decide) rfl (fun ls hl => ?_)
        refine lv_goto (tgt := 67) hx hb dX8_clear_86 (by decide) ?_
        exact ih_15 ⟨x_24, σ_22, ρ_14⟩ _ _ _ ⟨(by omega), (by omega), hB, hS, lv_sub hl [0, 1] rfl⟩ (by show (40 - x_24.toInt).toNat < (40 - i_12.toInt).toNat; omega)
    · skip
      have uc_11 := i_nge (n := 20) (by decide) c_11
      refine lv_aload_n hx hb dX8_clear_52 rfl (lv_at hl 1 rfl) ?_
      refine t_gk hx hb hts hown hK hB mh0 th0 fq_101_4 hb_10 mw_1_95 dX8_clear_53 ?_
      refine lv_iload_n hx hb dX8_clear_56 rfl (lv_at hl 0 rfl) ?_
      refine lv_iconst (v := 0) hx hb dX8_clear_57 (by decide) ?_
      refine t_si hx hb hK hLA hB hS mb_10 tb_10 ai_117 (i_in (by omega) (by omega)) (i_lo _) (i_hi _) (Or.inr (by decide)) dX8_clear_58 (fun H locs σ_25 eσ_25 hB hS => ?_)
      have k_26 : σ_25 b_10 i_6.toNatClampNeg = 0 := by rw [eσ_25]; exact up2_same _ _ _ _
      obtain ⟨x_27, ex_27⟩ : ∃ y : Int32, y = i_6 + 1 := ⟨_, rfl⟩
      have vx_27 := b_add (rfl : i_6.toInt = _) (by decide : (1 : Int32).toInt = 1) ex_27 (by omega) (by omega)
      refine lv_iinc (v := x_27) (lv' := [(1, .int x_27), (0, .ref h0)]) hx hb dX8_clear_59 hl (k := 0) rfl (by rw [ex_27]; rfl) (by decide) rfl (fun ls hl => ?_)
      refine lv_goto (tgt := 43) hx hb dX8_clear_62 (by decide) ?_
      exact ih_9 ⟨x_27, σ_25, ρ_8⟩ _ _ _ ⟨(by omega), (by omega), hB, hS, lv_sub hl [0, 1] rfl⟩ (by show (20 - x_27.toInt).toNat < (20 - i_6.toInt).toNat; omega)
  · skip
    have uc_5 := i_nge (n := 4) (by decide) c_5
    refine lv_aload_n hx hb dX8_clear_7 rfl (lv_at hl 1 rfl) ?_
    refine t_gr hx hb hts hown hK hG hB mh0 th0 fq_101_0 rfl mw_1_80 dX8_clear_8 (fun b_28 hb_28 mb_28 tb_28 => ?_)
    refine lv_iload_n hx hb dX8_clear_11 rfl (lv_at hl 0 rfl) ?_
    refine lv_iconst (v := 0) hx hb dX8_clear_12 (by decide) ?_
    refine t_si hx hb hK hLA hB hS mb_28 tb_28 ai_113 (i_in (by omega) (by omega)) (show 0 ≤ (0 : Int32).toInt by decide) (show (0 : Int32).toInt ≤ 8 by decide) (Or.inr (by decide)) dX8_clear_13 (fun H locs σ_29 eσ_29 hB hS => ?_)
    have k_30 : σ_29 b_28 i_1.toNatClampNeg = 0 := by rw [eσ_29]; exact up2_same _ _ _ _
    refine lv_aload_n hx hb dX8_clear_14 rfl (lv_at hl 1 rfl) ?_
    refine t_gr hx hb hts hown hK hG hB mh0 th0 fq_101_1 rfl mw_1_85 dX8_clear_15 (fun b_31 hb_31 mb_31 tb_31 => ?_)
    refine lv_iload_n hx hb dX8_clear_18 rfl (lv_at hl 0 rfl) ?_
    refine lv_iconst (v := 0) hx hb dX8_clear_19 (by decide) ?_
    refine t_si hx hb hK hLA hB hS mb_31 tb_31 ai_114 (i_in (by omega) (by omega)) (i_lo _) (i_hi _) (Or.inr (by decide)) dX8_clear_20 (fun H locs σ_32 eσ_32 hB hS => ?_)
    have k_33 : σ_32 b_31 i_1.toNatClampNeg = 0 := by rw [eσ_32]; exact up2_same _ _ _ _
    refine lv_aload_n hx hb dX8_clear_21 rfl (lv_at hl 1 rfl) ?_
    refine t_gr hx hb hts hown hK hG hB mh0 th0 fq_101_2 rfl mw_1_89 dX8_clear_22 (fun b_34 hb_34 mb_34 tb_34 => ?_)
    refine lv_iload_n hx hb dX8_clear_25 rfl (lv_at hl 0 rfl) ?_
    refine lv_iconst (v := 0) hx hb dX8_clear_26 (by decide) ?_
    refine t_si hx hb hK hLA hB hS mb_34 tb_34 ai_115 (i_in (by omega) (by omega)) (i_lo _) (i_hi _) (Or.inr (by decide)) dX8_clear_27 (fun H locs σ_35 eσ_35 hB hS => ?_)
    have k_36 : σ_35 b_34 i_1.toNatClampNeg = 0 := by rw [eσ_35]; exact up2_same _ _ _ _
    refine lv_aload_n hx hb dX8_clear_28 rfl (lv_at hl 1 rfl) ?_
    refine t_gr hx hb hts hown hK hG hB mh0 th0 fq_101_3 rfl mw_1_92 dX8_clear_29 (fun b_37 hb_37 mb_37 tb_37 => ?_)
    refine lv_iload_n hx hb dX8_clear_32 rfl (lv_at hl 0 rfl) ?_
    refine lv_iconst (v := 0) hx hb dX8_clear_33 (by decide) ?_
    refine t_si hx hb hK hLA hB hS mb_37 tb_37 ai_116 (i_in (by omega) (by omega)) (i_lo _) (i_hi _) (Or.inr (by decide)) dX8_clear_34 (fun H locs σ_38 eσ_38 hB hS => ?_)
    have k_39 : σ_38 b_37 i_1.toNatClampNeg = 0 := by rw [eσ_38]; exact up2_same _ _ _ _
    obtain ⟨x_40, ex_40⟩ : ∃ y : Int32, y = i_1 + 1 := ⟨_, rfl⟩
    have vx_40 := b_add (rfl : i_1.toInt = _) (by decide : (1 : Int32).toInt = 1) ex_40 (by omega) (by omega)
    refine lv_iinc (v := x_40) (lv' := [(1, .int x_40), (0, .ref h0)]) hx hb dX8_clear_35 hl (k := 0) rfl (by rw [ex_40]; rfl) (by decide) rfl (fun ls hl => ?_)
    refine lv_goto (tgt := 2) hx hb dX8_clear_38 (by decide) ?_
    exact ih_4 ⟨x_40, σ_38, ρ_3⟩ _ _ _ ⟨(by omega), (by omega), hB, hS, lv_sub hl [0, 1] rfl⟩ (by show (4 - x_40.toInt).toNat < (4 - i_1.toInt).toNat; omega)
theorem mw_3_239 : (.native arraycopyName : Cond) ∈ wsA := wsA_t (List.mem_append_right _ (List.mem_append_right _ (List.mem_append_left _ (List.mem_of_getElem? (l := tables_1_3) (i := 239) rfl)))) rfl
theorem mw_3_238 : (.static arraycopyName : Cond) ∈ wsA := wsA_t (List.mem_append_right _ (List.mem_append_right _ (List.mem_append_left _ (List.mem_of_getElem? (l := tables_1_3) (i := 238) rfl)))) rfl
theorem mw_1_20 : (.initialized "java/lang/System" : Cond) ∈ wsA := wsA_t (List.mem_append_left _ (List.mem_of_getElem? (l := tables_1_1) (i := 20) rfl)) rfl
theorem mw_4_4 : (.methodLink RX8 37 arraycopyName : Cond) ∈ wsA := wsA_t (List.mem_append_right _ (List.mem_append_right _ (List.mem_append_right _ (List.mem_append_left _ (List.mem_of_getElem? (l := tables_1_4) (i := 4) rfl))))) rfl
theorem dX8_copyFrom_0 : decode cX8_copyFrom 0 = .ok (.aload_n 1, 1) := by decide +kernel
theorem dX8_copyFrom_1 : decode cX8_copyFrom 1 = .ok (.getfield 9, 3) := by decide +kernel
theorem dX8_copyFrom_4 : decode cX8_copyFrom 4 = .ok (.iconst 0, 1) := by decide +kernel
theorem dX8_copyFrom_5 : decode cX8_copyFrom 5 = .ok (.aload_n 0, 1) := by decide +kernel
theorem dX8_copyFrom_6 : decode cX8_copyFrom 6 = .ok (.getfield 9, 3) := by decide +kernel
theorem dX8_copyFrom_9 : decode cX8_copyFrom 9 = .ok (.iconst 0, 1) := by decide +kernel
theorem dX8_copyFrom_10 : decode cX8_copyFrom 10 = .ok (.iconst 4, 1) := by decide +kernel
theorem dX8_copyFrom_11 : decode cX8_copyFrom 11 = .ok (.invokestatic 37, 3) := by decide +kernel
theorem dX8_copyFrom_14 : decode cX8_copyFrom 14 = .ok (.aload_n 1, 1) := by decide +kernel
theorem dX8_copyFrom_15 : decode cX8_copyFrom 15 = .ok (.getfield 15, 3) := by decide +kernel
theorem dX8_copyFrom_18 : decode cX8_copyFrom 18 = .ok (.iconst 0, 1) := by decide +kernel
theorem dX8_copyFrom_19 : decode cX8_copyFrom 19 = .ok (.aload_n 0, 1) := by decide +kernel
theorem dX8_copyFrom_20 : decode cX8_copyFrom 20 = .ok (.getfield 15, 3) := by decide +kernel
theorem dX8_copyFrom_23 : decode cX8_copyFrom 23 = .ok (.iconst 0, 1) := by decide +kernel
theorem dX8_copyFrom_24 : decode cX8_copyFrom 24 = .ok (.iconst 4, 1) := by decide +kernel
theorem dX8_copyFrom_25 : decode cX8_copyFrom 25 = .ok (.invokestatic 37, 3) := by decide +kernel
theorem dX8_copyFrom_28 : decode cX8_copyFrom 28 = .ok (.aload_n 1, 1) := by decide +kernel
theorem dX8_copyFrom_29 : decode cX8_copyFrom 29 = .ok (.getfield 18, 3) := by decide +kernel
theorem dX8_copyFrom_32 : decode cX8_copyFrom 32 = .ok (.iconst 0, 1) := by decide +kernel
theorem dX8_copyFrom_33 : decode cX8_copyFrom 33 = .ok (.aload_n 0, 1) := by decide +kernel
theorem dX8_copyFrom_34 : decode cX8_copyFrom 34 = .ok (.getfield 18, 3) := by decide +kernel
theorem dX8_copyFrom_37 : decode cX8_copyFrom 37 = .ok (.iconst 0, 1) := by decide +kernel
theorem dX8_copyFrom_38 : decode cX8_copyFrom 38 = .ok (.iconst 4, 1) := by decide +kernel
theorem dX8_copyFrom_39 : decode cX8_copyFrom 39 = .ok (.invokestatic 37, 3) := by decide +kernel
theorem dX8_copyFrom_42 : decode cX8_copyFrom 42 = .ok (.aload_n 1, 1) := by decide +kernel
theorem dX8_copyFrom_43 : decode cX8_copyFrom 43 = .ok (.getfield 21, 3) := by decide +kernel
theorem dX8_copyFrom_46 : decode cX8_copyFrom 46 = .ok (.iconst 0, 1) := by decide +kernel
theorem dX8_copyFrom_47 : decode cX8_copyFrom 47 = .ok (.aload_n 0, 1) := by decide +kernel
theorem dX8_copyFrom_48 : decode cX8_copyFrom 48 = .ok (.getfield 21, 3) := by decide +kernel
theorem dX8_copyFrom_51 : decode cX8_copyFrom 51 = .ok (.iconst 0, 1) := by decide +kernel
theorem dX8_copyFrom_52 : decode cX8_copyFrom 52 = .ok (.iconst 4, 1) := by decide +kernel
theorem dX8_copyFrom_53 : decode cX8_copyFrom 53 = .ok (.invokestatic 37, 3) := by decide +kernel
theorem dX8_copyFrom_56 : decode cX8_copyFrom 56 = .ok (.aload_n 1, 1) := by decide +kernel
theorem dX8_copyFrom_57 : decode cX8_copyFrom 57 = .ok (.getfield 24, 3) := by decide +kernel
theorem dX8_copyFrom_60 : decode cX8_copyFrom 60 = .ok (.iconst 0, 1) := by decide +kernel
theorem dX8_copyFrom_61 : decode cX8_copyFrom 61 = .ok (.aload_n 0, 1) := by decide +kernel
theorem dX8_copyFrom_62 : decode cX8_copyFrom 62 = .ok (.getfield 24, 3) := by decide +kernel
theorem dX8_copyFrom_65 : decode cX8_copyFrom 65 = .ok (.iconst 0, 1) := by decide +kernel
theorem dX8_copyFrom_66 : decode cX8_copyFrom 66 = .ok (.bipush 20, 2) := by decide +kernel
theorem dX8_copyFrom_68 : decode cX8_copyFrom 68 = .ok (.invokestatic 37, 3) := by decide +kernel
theorem dX8_copyFrom_71 : decode cX8_copyFrom 71 = .ok (.aload_n 1, 1) := by decide +kernel
theorem dX8_copyFrom_72 : decode cX8_copyFrom 72 = .ok (.getfield 27, 3) := by decide +kernel
theorem dX8_copyFrom_75 : decode cX8_copyFrom 75 = .ok (.iconst 0, 1) := by decide +kernel
theorem dX8_copyFrom_76 : decode cX8_copyFrom 76 = .ok (.aload_n 0, 1) := by decide +kernel
theorem dX8_copyFrom_77 : decode cX8_copyFrom 77 = .ok (.getfield 27, 3) := by decide +kernel
theorem dX8_copyFrom_80 : decode cX8_copyFrom 80 = .ok (.iconst 0, 1) := by decide +kernel
theorem dX8_copyFrom_81 : decode cX8_copyFrom 81 = .ok (.bipush 40, 2) := by decide +kernel
theorem dX8_copyFrom_83 : decode cX8_copyFrom 83 = .ok (.invokestatic 37, 3) := by decide +kernel
theorem dX8_copyFrom_86 : decode cX8_copyFrom 86 = .ok (.aload_n 0, 1) := by decide +kernel
theorem dX8_copyFrom_87 : decode cX8_copyFrom 87 = .ok (.aload_n 1, 1) := by decide +kernel
theorem dX8_copyFrom_88 : decode cX8_copyFrom 88 = .ok (.getfield 30, 3) := by decide +kernel
theorem dX8_copyFrom_91 : decode cX8_copyFrom 91 = .ok (.putfield 30, 3) := by decide +kernel
theorem dX8_copyFrom_94 : decode cX8_copyFrom 94 = .ok (.aload_n 0, 1) := by decide +kernel
theorem dX8_copyFrom_95 : decode cX8_copyFrom 95 = .ok (.aload_n 1, 1) := by decide +kernel
theorem dX8_copyFrom_96 : decode cX8_copyFrom 96 = .ok (.getfield 34, 3) := by decide +kernel
theorem dX8_copyFrom_99 : decode cX8_copyFrom 99 = .ok (.putfield 34, 3) := by decide +kernel
theorem dX8_copyFrom_102 : decode cX8_copyFrom 102 = .ok (.return_, 1) := by decide +kernel
set_option maxHeartbeats 4000000 in
set_option maxRecDepth 100000 in
theorem cy_X8_copyFrom_102_8 (l : Launch) (D : va_G) (cA : Nat → ClassId) (L : List Nat) (T : Nat → Nat) (r : Rg) (hG : GR L T r) (hL : L.Nodup) (σ : Sg) (ρ : Lg) (hW : WT L ry T σ) (sz : Nat) (h0 : Nat) (mh0 : h0 ∈ L) (th0 : T h0 = 102) (h1 : Nat) (mh1 : h1 ∈ L) (th1 : T h1 = 8) : Met l yX8_copyFrom (.code yX8_copyFrom cX8_copyFrom 2 none :: wsA) ({ frames := 1, cells := 0, slots := 0, locals := 100 }) (PR D cA L T r σ ρ sz [.ref h0, .ref h1]) (QV D cA L T r ry [(102, 6), (102, 7), (119, 1000), (120, 1000), (121, 1000), (122, 1000), (123, 1000), (124, 1000)] σ sz (fun σ1 => True)) 0 0 (dm L sz) := by
  refine Met.ofW (cc := cX8_copyFrom) (maxL := 2) (ret := none) (by decide) rfl ?_
  intro p e s m args below meth c s₁ B hml hv
  obtain ⟨rfl, hsz, hP, hK, hN⟩ := hv
  have hx := B.exec
  have hb := B.bytes
  have hr := B.returns
  have hts : ∀ w ∈ wsA, w.before _ s = true := fun w h => atoms_spec (ws := .code yX8_copyFrom cX8_copyFrom 2 none :: wsA) B.pre w (List.mem_cons_of_mem _ h)
  have hown : s.vm.findClass RX8 = some m.cls := findClass_of_methodNamed B.named
  subst hsz
  have hLA : LA (dm L s.heap.size) L := ⟨hL, fun a h => Or.inl h⟩
  have hA : ∀ q : Nat, s.heap.size ≤ q → dm L s.heap.size q := fun q h => Or.inr h
  have hS : va_S (dm L s.heap.size) s.heap s.heap [] := va_S.rf
  have hB : TS D cA L T r ry [(102, 6), (102, 7), (119, 1000), (120, 1000), (121, 1000), (122, 1000), (123, 1000), (124, 1000)] σ σ ρ s.heap := ⟨hP, hW, FR.rf⟩
  have hl := lv_entry ([.ref h0, .ref h1]) (n := 2) (Nat.le_of_ble_eq_true rfl)
  rw [lg_entry_eq]
  generalize (lg_sl ([.ref h0, .ref h1]) ++ List.replicate (2 - (lg_sl ([.ref h0, .ref h1])).length) Slot.unset).toArray = ls at hl ⊢
  have hl : lv_has ls 2 [(0, .ref h0), (1, .ref h1)] := hl
  refine lv_aload_n hx hb dX8_copyFrom_0 rfl (lv_at hl 1 rfl) ?_
  refine t_gr hx hb hts hown hK hG hB mh1 th1 fq_8_0 rfl mw_1_80 dX8_copyFrom_1 (fun b_1 hb_1 mb_1 tb_1 => ?_)
  refine lv_iconst (v := 0) hx hb dX8_copyFrom_4 (by decide) ?_
  refine lv_aload_n hx hb dX8_copyFrom_5 rfl (lv_at hl 0 rfl) ?_
  refine t_gr hx hb hts hown hK hG hB mh0 th0 fq_102_0 rfl mw_1_80 dX8_copyFrom_6 (fun b_2 hb_2 mb_2 tb_2 => ?_)
  refine lv_iconst (v := 0) hx hb dX8_copyFrom_9 (by decide) ?_
  refine lv_iconst (v := 4) hx hb dX8_copyFrom_10 (by decide) ?_
  refine t_cp (lo := 0) (hi := 8) hx hb (hml.trans hl.1.symm) hts hown mw_4_4 ⟨mw_3_239, mw_3_238, mw_1_20⟩ hK hLA hB hS mb_1 tb_1 ai_45 mb_2 tb_2 ai_119 (fun _ => ⟨show (0 : Int) ≤ 0 by decide, show (8 : Int) ≤ 8 by decide⟩) (fun _ => rfl) (by decide) (by decide) (by decide) (by decide) (by decide) (by decide) (Nat.le_of_ble_eq_true rfl) (Nat.le_of_ble_eq_true rfl) dX8_copyFrom_11 (fun H locs σ_3 eσ_3 hB hS => ?_)
  refine lv_aload_n hx hb dX8_copyFrom_14 rfl (lv_at hl 1 rfl) ?_
  refine t_gr hx hb hts hown hK hG hB mh1 th1 fq_8_1 rfl mw_1_85 dX8_copyFrom_15 (fun b_4 hb_4 mb_4 tb_4 => ?_)
  refine lv_iconst (v := 0) hx hb dX8_copyFrom_18 (by decide) ?_
  refine lv_aload_n hx hb dX8_copyFrom_19 rfl (lv_at hl 0 rfl) ?_
  refine t_gr hx hb hts hown hK hG hB mh0 th0 fq_102_1 rfl mw_1_85 dX8_copyFrom_20 (fun b_5 hb_5 mb_5 tb_5 => ?_)
  refine lv_iconst (v := 0) hx hb dX8_copyFrom_23 (by decide) ?_
  refine lv_iconst (v := 4) hx hb dX8_copyFrom_24 (by decide) ?_
  refine t_cp (lo := (-2147483648)) (hi := 2147483647) hx hb (hml.trans hl.1.symm) hts hown mw_4_4 ⟨mw_3_239, mw_3_238, mw_1_20⟩ hK hLA hB hS mb_4 tb_4 ai_46 mb_5 tb_5 ai_120 (fun _ => ⟨show ((-2147483648) : Int) ≤ (-2147483648) by decide, show (2147483647 : Int) ≤ 2147483647 by decide⟩) (fun _ => rfl) (by decide) (by decide) (by decide) (by decide) (by decide) (by decide) (Nat.le_of_ble_eq_true rfl) (Nat.le_of_ble_eq_true rfl) dX8_copyFrom_25 (fun H locs σ_6 eσ_6 hB hS => ?_)
  refine lv_aload_n hx hb dX8_copyFrom_28 rfl (lv_at hl 1 rfl) ?_
  refine t_gr hx hb hts hown hK hG hB mh1 th1 fq_8_2 rfl mw_1_89 dX8_copyFrom_29 (fun b_7 hb_7 mb_7 tb_7 => ?_)
  refine lv_iconst (v := 0) hx hb dX8_copyFrom_32 (by decide) ?_
  refine lv_aload_n hx hb dX8_copyFrom_33 rfl (lv_at hl 0 rfl) ?_
  refine t_gr hx hb hts hown hK hG hB mh0 th0 fq_102_2 rfl mw_1_89 dX8_copyFrom_34 (fun b_8 hb_8 mb_8 tb_8 => ?_)
  refine lv_iconst (v := 0) hx hb dX8_copyFrom_37 (by decide) ?_
  refine lv_iconst (v := 4) hx hb dX8_copyFrom_38 (by decide) ?_
  refine t_cp (lo := (-2147483648)) (hi := 2147483647) hx hb (hml.trans hl.1.symm) hts hown mw_4_4 ⟨mw_3_239, mw_3_238, mw_1_20⟩ hK hLA hB hS mb_7 tb_7 ai_47 mb_8 tb_8 ai_121 (fun _ => ⟨show ((-2147483648) : Int) ≤ (-2147483648) by decide, show (2147483647 : Int) ≤ 2147483647 by decide⟩) (fun _ => rfl) (by decide) (by decide) (by decide) (by decide) (by decide) (by decide) (Nat.le_of_ble_eq_true rfl) (Nat.le_of_ble_eq_true rfl) dX8_copyFrom_39 (fun H locs σ_9 eσ_9 hB hS => ?_)
  refine lv_aload_n hx hb dX8_copyFrom_42 rfl (lv_at hl 1 rfl) ?_
  refine t_gr hx hb hts hown hK hG hB mh1 th1 fq_8_3 rfl mw_1_92 dX8_copyFrom_43 (fun b_10 hb_10 mb_10 tb_10 => ?_)
  refine lv_iconst (v := 0) hx hb dX8_copyFrom_46 (by decide) ?_
  refine lv_aload_n hx hb dX8_copyFrom_47 rfl (lv_at hl 0 rfl) ?_
  refine t_gr hx hb hts hown hK hG hB mh0 th0 fq_102_3 rfl mw_1_92 dX8_copyFrom_48 (fun b_11 hb_11 mb_11 tb_11 => ?_)
  refine lv_iconst (v := 0) hx hb dX8_copyFrom_51 (by decide) ?_
  refine lv_iconst (v := 4) hx hb dX8_copyFrom_52 (by decide) ?_
  refine t_cp (lo := (-2147483648)) (hi := 2147483647) hx hb (hml.trans hl.1.symm) hts hown mw_4_4 ⟨mw_3_239, mw_3_238, mw_1_20⟩ hK hLA hB hS mb_10 tb_10 ai_48 mb_11 tb_11 ai_122 (fun _ => ⟨show ((-2147483648) : Int) ≤ (-2147483648) by decide, show (2147483647 : Int) ≤ 2147483647 by decide⟩) (fun _ => rfl) (by decide) (by decide) (by decide) (by decide) (by decide) (by decide) (Nat.le_of_ble_eq_true rfl) (Nat.le_of_ble_eq_true rfl) dX8_copyFrom_53 (fun H locs σ_12 eσ_12 hB hS => ?_)
  refine lv_aload_n hx hb dX8_copyFrom_56 rfl (lv_at hl 1 rfl) ?_
  refine t_gr hx hb hts hown hK hG hB mh1 th1 fq_8_4 rfl mw_1_95 dX8_copyFrom_57 (fun b_13 hb_13 mb_13 tb_13 => ?_)
  refine lv_iconst (v := 0) hx hb dX8_copyFrom_60 (by decide) ?_
  refine lv_aload_n hx hb dX8_copyFrom_61 rfl (lv_at hl 0 rfl) ?_
  refine t_gr hx hb hts hown hK hG hB mh0 th0 fq_102_4 rfl mw_1_95 dX8_copyFrom_62 (fun b_14 hb_14 mb_14 tb_14 => ?_)
  refine lv_iconst (v := 0) hx hb dX8_copyFrom_65 (by decide) ?_
  refine lv_bipush (v := 20) hx hb dX8_copyFrom_66 (by decide) ?_
  refine t_cp (lo := (-2147483648)) (hi := 2147483647) hx hb (hml.trans hl.1.symm) hts hown mw_4_4 ⟨mw_3_239, mw_3_238, mw_1_20⟩ hK hLA hB hS mb_13 tb_13 ai_49 mb_14 tb_14 ai_123 (fun _ => ⟨show ((-2147483648) : Int) ≤ (-2147483648) by decide, show (2147483647 : Int) ≤ 2147483647 by decide⟩) (fun _ => rfl) (by decide) (by decide) (by decide) (by decide) (by decide) (by decide) (Nat.le_of_ble_eq_true rfl) (Nat.le_of_ble_eq_true rfl) dX8_copyFrom_68 (fun H locs σ_15 eσ_15 hB hS => ?_)
  refine lv_aload_n hx hb dX8_copyFrom_71 rfl (lv_at hl 1 rfl) ?_
  refine t_gr hx hb hts hown hK hG hB mh1 th1 fq_8_5 rfl mw_1_100 dX8_copyFrom_72 (fun b_16 hb_16 mb_16 tb_16 => ?_)
  refine lv_iconst (v := 0) hx hb dX8_copyFrom_75 (by decide) ?_
  refine lv_aload_n hx hb dX8_copyFrom_76 rfl (lv_at hl 0 rfl) ?_
  refine t_gr hx hb hts hown hK hG hB mh0 th0 fq_102_5 rfl mw_1_100 dX8_copyFrom_77 (fun b_17 hb_17 mb_17 tb_17 => ?_)
  refine lv_iconst (v := 0) hx hb dX8_copyFrom_80 (by decide) ?_
  refine lv_bipush (v := 40) hx hb dX8_copyFrom_81 (by decide) ?_
  refine t_cp (lo := 0) (hi := 99) hx hb (hml.trans hl.1.symm) hts hown mw_4_4 ⟨mw_3_239, mw_3_238, mw_1_20⟩ hK hLA hB hS mb_16 tb_16 ai_50 mb_17 tb_17 ai_124 (fun _ => ⟨show (0 : Int) ≤ 0 by decide, show (99 : Int) ≤ 99 by decide⟩) (fun _ => rfl) (by decide) (by decide) (by decide) (by decide) (by decide) (by decide) (Nat.le_of_ble_eq_true rfl) (Nat.le_of_ble_eq_true rfl) dX8_copyFrom_83 (fun H locs σ_18 eσ_18 hB hS => ?_)
  refine lv_aload_n hx hb dX8_copyFrom_86 rfl (lv_at hl 0 rfl) ?_
  refine lv_aload_n hx hb dX8_copyFrom_87 rfl (lv_at hl 1 rfl) ?_
  refine t_gi hx hb hts hown hK hB mh1 th1 fi_8_6 rfl mw_1_106 dX8_copyFrom_88 (fun x_19 ex_19 lx_19 ux_19 => ?_)
  refine t_pi hx hb hts hown hK hLA hB hS mh0 th0 fi_102_6 rfl rfl rfl (i_lo _) (i_hi _) (Or.inl (by decide)) mw_1_106 dX8_copyFrom_91 (fun H locs σ_20 eσ_20 hB hS => ?_)
  have k_21 : σ_20 h0 6 = x_19 := by rw [eσ_20]; exact up2_same _ _ _ _
  refine lv_aload_n hx hb dX8_copyFrom_94 rfl (lv_at hl 0 rfl) ?_
  refine lv_aload_n hx hb dX8_copyFrom_95 rfl (lv_at hl 1 rfl) ?_
  refine t_gi hx hb hts hown hK hB mh1 th1 fi_8_7 rfl mw_1_110 dX8_copyFrom_96 (fun x_22 ex_22 lx_22 ux_22 => ?_)
  refine t_pi hx hb hts hown hK hLA hB hS mh0 th0 fi_102_7 rfl rfl rfl (i_lo _) (i_hi _) (Or.inl (by decide)) mw_1_110 dX8_copyFrom_99 (fun H locs σ_23 eσ_23 hB hS => ?_)
  have k_24 : σ_23 h0 7 = x_22 := by rw [eσ_23]; exact up2_same _ _ _ _
  exact W.vret hx hb hr (fun t ht hW => ⟨⟨(σ_23, ρ), rfl, ⟨hB.2.1, hB.2.2, trivial⟩, (show TP D cA L T r σ_23 ρ t.heap from by rw [ht]; exact hB.1)⟩, hS.F ht⟩) hS.2.2 dX8_copyFrom_102
set_option maxHeartbeats 4000000 in
set_option maxRecDepth 100000 in
theorem cy_X8_copyFrom_8_102 (l : Launch) (D : va_G) (cA : Nat → ClassId) (L : List Nat) (T : Nat → Nat) (r : Rg) (hG : GR L T r) (hL : L.Nodup) (σ : Sg) (ρ : Lg) (hW : WT L ry T σ) (sz : Nat) (h0 : Nat) (mh0 : h0 ∈ L) (th0 : T h0 = 8) (h1 : Nat) (mh1 : h1 ∈ L) (th1 : T h1 = 102) : Met l yX8_copyFrom (.code yX8_copyFrom cX8_copyFrom 2 none :: wsA) ({ frames := 1, cells := 0, slots := 0, locals := 100 }) (PR D cA L T r σ ρ sz [.ref h0, .ref h1]) (QV D cA L T r ry [(8, 6), (8, 7), (45, 1000), (46, 1000), (47, 1000), (48, 1000), (49, 1000), (50, 1000)] σ sz (fun σ1 => True)) 0 0 (dm L sz) := by
  refine Met.ofW (cc := cX8_copyFrom) (maxL := 2) (ret := none) (by decide) rfl ?_
  intro p e s m args below meth c s₁ B hml hv
  obtain ⟨rfl, hsz, hP, hK, hN⟩ := hv
  have hx := B.exec
  have hb := B.bytes
  have hr := B.returns
  have hts : ∀ w ∈ wsA, w.before _ s = true := fun w h => atoms_spec (ws := .code yX8_copyFrom cX8_copyFrom 2 none :: wsA) B.pre w (List.mem_cons_of_mem _ h)
  have hown : s.vm.findClass RX8 = some m.cls := findClass_of_methodNamed B.named
  subst hsz
  have hLA : LA (dm L s.heap.size) L := ⟨hL, fun a h => Or.inl h⟩
  have hA : ∀ q : Nat, s.heap.size ≤ q → dm L s.heap.size q := fun q h => Or.inr h
  have hS : va_S (dm L s.heap.size) s.heap s.heap [] := va_S.rf
  have hB : TS D cA L T r ry [(8, 6), (8, 7), (45, 1000), (46, 1000), (47, 1000), (48, 1000), (49, 1000), (50, 1000)] σ σ ρ s.heap := ⟨hP, hW, FR.rf⟩
  have hl := lv_entry ([.ref h0, .ref h1]) (n := 2) (Nat.le_of_ble_eq_true rfl)
  rw [lg_entry_eq]
  generalize (lg_sl ([.ref h0, .ref h1]) ++ List.replicate (2 - (lg_sl ([.ref h0, .ref h1])).length) Slot.unset).toArray = ls at hl ⊢
  have hl : lv_has ls 2 [(0, .ref h0), (1, .ref h1)] := hl
  refine lv_aload_n hx hb dX8_copyFrom_0 rfl (lv_at hl 1 rfl) ?_
  refine t_gr hx hb hts hown hK hG hB mh1 th1 fq_102_0 rfl mw_1_80 dX8_copyFrom_1 (fun b_1 hb_1 mb_1 tb_1 => ?_)
  refine lv_iconst (v := 0) hx hb dX8_copyFrom_4 (by decide) ?_
  refine lv_aload_n hx hb dX8_copyFrom_5 rfl (lv_at hl 0 rfl) ?_
  refine t_gr hx hb hts hown hK hG hB mh0 th0 fq_8_0 rfl mw_1_80 dX8_copyFrom_6 (fun b_2 hb_2 mb_2 tb_2 => ?_)
  refine lv_iconst (v := 0) hx hb dX8_copyFrom_9 (by decide) ?_
  refine lv_iconst (v := 4) hx hb dX8_copyFrom_10 (by decide) ?_
  refine t_cp (lo := 0) (hi := 8) hx hb (hml.trans hl.1.symm) hts hown mw_4_4 ⟨mw_3_239, mw_3_238, mw_1_20⟩ hK hLA hB hS mb_1 tb_1 ai_119 mb_2 tb_2 ai_45 (fun _ => ⟨show (0 : Int) ≤ 0 by decide, show (8 : Int) ≤ 8 by decide⟩) (fun _ => rfl) (by decide) (by decide) (by decide) (by decide) (by decide) (by decide) (Nat.le_of_ble_eq_true rfl) (Nat.le_of_ble_eq_true rfl) dX8_copyFrom_11 (fun H locs σ_3 eσ_3 hB hS => ?_)
  refine lv_aload_n hx hb dX8_copyFrom_14 rfl (lv_at hl 1 rfl) ?_
  refine t_gr hx hb hts hown hK hG hB mh1 th1 fq_102_1 rfl mw_1_85 dX8_copyFrom_15 (fun b_4 hb_4 mb_4 tb_4 => ?_)
  refine lv_iconst (v := 0) hx hb dX8_copyFrom_18 (by decide) ?_
  refine lv_aload_n hx hb dX8_copyFrom_19 rfl (lv_at hl 0 rfl) ?_
  refine t_gr hx hb hts hown hK hG hB mh0 th0 fq_8_1 rfl mw_1_85 dX8_copyFrom_20 (fun b_5 hb_5 mb_5 tb_5 => ?_)
  refine lv_iconst (v := 0) hx hb dX8_copyFrom_23 (by decide) ?_
  refine lv_iconst (v := 4) hx hb dX8_copyFrom_24 (by decide) ?_
  refine t_cp (lo := (-2147483648)) (hi := 2147483647) hx hb (hml.trans hl.1.symm) hts hown mw_4_4 ⟨mw_3_239, mw_3_238, mw_1_20⟩ hK hLA hB hS mb_4 tb_4 ai_120 mb_5 tb_5 ai_46 (fun _ => ⟨show ((-2147483648) : Int) ≤ (-2147483648) by decide, show (2147483647 : Int) ≤ 2147483647 by decide⟩) (fun _ => rfl) (by decide) (by decide) (by decide) (by decide) (by decide) (by decide) (Nat.le_of_ble_eq_true rfl) (Nat.le_of_ble_eq_true rfl) dX8_copyFrom_25 (fun H locs σ_6 eσ_6 hB hS => ?_)
  refine lv_aload_n hx hb dX8_copyFrom_28 rfl (lv_at hl 1 rfl) ?_
  refine t_gr hx hb hts hown hK hG hB mh1 th1 fq_102_2 rfl mw_1_89 dX8_copyFrom_29 (fun b_7 hb_7 mb_7 tb_7 => ?_)
  refine lv_iconst (v := 0) hx hb dX8_copyFrom_32 (by decide) ?_
  refine lv_aload_n hx hb dX8_copyFrom_33 rfl (lv_at hl 0 rfl) ?_
  refine t_gr hx hb hts hown hK hG hB mh0 th0 fq_8_2 rfl mw_1_89 dX8_copyFrom_34 (fun b_8 hb_8 mb_8 tb_8 => ?_)
  refine lv_iconst (v := 0) hx hb dX8_copyFrom_37 (by decide) ?_
  refine lv_iconst (v := 4) hx hb dX8_copyFrom_38 (by decide) ?_
  refine t_cp (lo := (-2147483648)) (hi := 2147483647) hx hb (hml.trans hl.1.symm) hts hown mw_4_4 ⟨mw_3_239, mw_3_238, mw_1_20⟩ hK hLA hB hS mb_7 tb_7 ai_121 mb_8 tb_8 ai_47 (fun _ => ⟨show ((-2147483648) : Int) ≤ (-2147483648) by decide, show (2147483647 : Int) ≤ 2147483647 by decide⟩) (fun _ => rfl) (by decide) (by decide) (by decide) (by decide) (by decide) (by decide) (Nat.le_of_ble_eq_true rfl) (Nat.le_of_ble_eq_true rfl) dX8_copyFrom_39 (fun H locs σ_9 eσ_9 hB hS => ?_)
  refine lv_aload_n hx hb dX8_copyFrom_42 rfl (lv_at hl 1 rfl) ?_
  refine t_gr hx hb hts hown hK hG hB mh1 th1 fq_102_3 rfl mw_1_92 dX8_copyFrom_43 (fun b_10 hb_10 mb_10 tb_10 => ?_)
  refine lv_iconst (v := 0) hx hb dX8_copyFrom_46 (by decide) ?_
  refine lv_aload_n hx hb dX8_copyFrom_47 rfl (lv_at hl 0 rfl) ?_
  refine t_gr hx hb hts hown hK hG hB mh0 th0 fq_8_3 rfl mw_1_92 dX8_copyFrom_48 (fun b_11 hb_11 mb_11 tb_11 => ?_)
  refine lv_iconst (v := 0) hx hb dX8_copyFrom_51 (by decide) ?_
  refine lv_iconst (v := 4) hx hb dX8_copyFrom_52 (by decide) ?_
  refine t_cp (lo := (-2147483648)) (hi := 2147483647) hx hb (hml.trans hl.1.symm) hts hown mw_4_4 ⟨mw_3_239, mw_3_238, mw_1_20⟩ hK hLA hB hS mb_10 tb_10 ai_122 mb_11 tb_11 ai_48 (fun _ => ⟨show ((-2147483648) : Int) ≤ (-2147483648) by decide, show (2147483647 : Int) ≤ 2147483647 by decide⟩) (fun _ => rfl) (by decide) (by decide) (by decide) (by decide) (by decide) (by decide) (Nat.le_of_ble_eq_true rfl) (Nat.le_of_ble_eq_true rfl) dX8_copyFrom_53 (fun H locs σ_12 eσ_12 hB hS => ?_)
  refine lv_aload_n hx hb dX8_copyFrom_56 rfl (lv_at hl 1 rfl) ?_
  refine t_gr hx hb hts hown hK hG hB mh1 th1 fq_102_4 rfl mw_1_95 dX8_copyFrom_57 (fun b_13 hb_13 mb_13 tb_13 => ?_)
  refine lv_iconst (v := 0) hx hb dX8_copyFrom_60 (by decide) ?_
  refine lv_aload_n hx hb dX8_copyFrom_61 rfl (lv_at hl 0 rfl) ?_
  refine t_gr hx hb hts hown hK hG hB mh0 th0 fq_8_4 rfl mw_1_95 dX8_copyFrom_62 (fun b_14 hb_14 mb_14 tb_14 => ?_)
  refine lv_iconst (v := 0) hx hb dX8_copyFrom_65 (by decide) ?_
  refine lv_bipush (v := 20) hx hb dX8_copyFrom_66 (by decide) ?_
  refine t_cp (lo := (-2147483648)) (hi := 2147483647) hx hb (hml.trans hl.1.symm) hts hown mw_4_4 ⟨mw_3_239, mw_3_238, mw_1_20⟩ hK hLA hB hS mb_13 tb_13 ai_123 mb_14 tb_14 ai_49 (fun _ => ⟨show ((-2147483648) : Int) ≤ (-2147483648) by decide, show (2147483647 : Int) ≤ 2147483647 by decide⟩) (fun _ => rfl) (by decide) (by decide) (by decide) (by decide) (by decide) (by decide) (Nat.le_of_ble_eq_true rfl) (Nat.le_of_ble_eq_true rfl) dX8_copyFrom_68 (fun H locs σ_15 eσ_15 hB hS => ?_)
  refine lv_aload_n hx hb dX8_copyFrom_71 rfl (lv_at hl 1 rfl) ?_
  refine t_gr hx hb hts hown hK hG hB mh1 th1 fq_102_5 rfl mw_1_100 dX8_copyFrom_72 (fun b_16 hb_16 mb_16 tb_16 => ?_)
  refine lv_iconst (v := 0) hx hb dX8_copyFrom_75 (by decide) ?_
  refine lv_aload_n hx hb dX8_copyFrom_76 rfl (lv_at hl 0 rfl) ?_
  refine t_gr hx hb hts hown hK hG hB mh0 th0 fq_8_5 rfl mw_1_100 dX8_copyFrom_77 (fun b_17 hb_17 mb_17 tb_17 => ?_)
  refine lv_iconst (v := 0) hx hb dX8_copyFrom_80 (by decide) ?_
  refine lv_bipush (v := 40) hx hb dX8_copyFrom_81 (by decide) ?_
  refine t_cp (lo := 0) (hi := 99) hx hb (hml.trans hl.1.symm) hts hown mw_4_4 ⟨mw_3_239, mw_3_238, mw_1_20⟩ hK hLA hB hS mb_16 tb_16 ai_124 mb_17 tb_17 ai_50 (fun _ => ⟨show (0 : Int) ≤ 0 by decide, show (99 : Int) ≤ 99 by decide⟩) (fun _ => rfl) (by decide) (by decide) (by decide) (by decide) (by decide) (by decide) (Nat.le_of_ble_eq_true rfl) (Nat.le_of_ble_eq_true rfl) dX8_copyFrom_83 (fun H locs σ_18 eσ_18 hB hS => ?_)
  refine lv_aload_n hx hb dX8_copyFrom_86 rfl (lv_at hl 0 rfl) ?_
  refine lv_aload_n hx hb dX8_copyFrom_87 rfl (lv_at hl 1 rfl) ?_
  refine t_gi hx hb hts hown hK hB mh1 th1 fi_102_6 rfl mw_1_106 dX8_copyFrom_88 (fun x_19 ex_19 lx_19 ux_19 => ?_)
  refine t_pi hx hb hts hown hK hLA hB hS mh0 th0 fi_8_6 rfl rfl rfl (i_lo _) (i_hi _) (Or.inl (by decide)) mw_1_106 dX8_copyFrom_91 (fun H locs σ_20 eσ_20 hB hS => ?_)
  have k_21 : σ_20 h0 6 = x_19 := by rw [eσ_20]; exact up2_same _ _ _ _
  refine lv_aload_n hx hb dX8_copyFrom_94 rfl (lv_at hl 0 rfl) ?_
  refine lv_aload_n hx hb dX8_copyFrom_95 rfl (lv_at hl 1 rfl) ?_
  refine t_gi hx hb hts hown hK hB mh1 th1 fi_102_7 rfl mw_1_110 dX8_copyFrom_96 (fun x_22 ex_22 lx_22 ux_22 => ?_)
  refine t_pi hx hb hts hown hK hLA hB hS mh0 th0 fi_8_7 rfl rfl rfl (i_lo _) (i_hi _) (Or.inl (by decide)) mw_1_110 dX8_copyFrom_99 (fun H locs σ_23 eσ_23 hB hS => ?_)
  have k_24 : σ_23 h0 7 = x_22 := by rw [eσ_23]; exact up2_same _ _ _ _
  exact W.vret hx hb hr (fun t ht hW => ⟨⟨(σ_23, ρ), rfl, ⟨hB.2.1, hB.2.2, trivial⟩, (show TP D cA L T r σ_23 ρ t.heap from by rw [ht]; exact hB.1)⟩, hS.F ht⟩) hS.2.2 dX8_copyFrom_102
set_option maxHeartbeats 4000000 in
set_option maxRecDepth 100000 in
theorem cy_X8_copyFrom_103_8 (l : Launch) (D : va_G) (cA : Nat → ClassId) (L : List Nat) (T : Nat → Nat) (r : Rg) (hG : GR L T r) (hL : L.Nodup) (σ : Sg) (ρ : Lg) (hW : WT L ry T σ) (sz : Nat) (h0 : Nat) (mh0 : h0 ∈ L) (th0 : T h0 = 103) (h1 : Nat) (mh1 : h1 ∈ L) (th1 : T h1 = 8) : Met l yX8_copyFrom (.code yX8_copyFrom cX8_copyFrom 2 none :: wsA) ({ frames := 1, cells := 0, slots := 0, locals := 100 }) (PR D cA L T r σ ρ sz [.ref h0, .ref h1]) (QV D cA L T r ry [(103, 6), (103, 7), (125, 1000), (126, 1000), (127, 1000), (128, 1000), (129, 1000), (130, 1000)] σ sz (fun σ1 => True)) 0 0 (dm L sz) := by
  refine Met.ofW (cc := cX8_copyFrom) (maxL := 2) (ret := none) (by decide) rfl ?_
  intro p e s m args below meth c s₁ B hml hv
  obtain ⟨rfl, hsz, hP, hK, hN⟩ := hv
  have hx := B.exec
  have hb := B.bytes
  have hr := B.returns
  have hts : ∀ w ∈ wsA, w.before _ s = true := fun w h => atoms_spec (ws := .code yX8_copyFrom cX8_copyFrom 2 none :: wsA) B.pre w (List.mem_cons_of_mem _ h)
  have hown : s.vm.findClass RX8 = some m.cls := findClass_of_methodNamed B.named
  subst hsz
  have hLA : LA (dm L s.heap.size) L := ⟨hL, fun a h => Or.inl h⟩
  have hA : ∀ q : Nat, s.heap.size ≤ q → dm L s.heap.size q := fun q h => Or.inr h
  have hS : va_S (dm L s.heap.size) s.heap s.heap [] := va_S.rf
  have hB : TS D cA L T r ry [(103, 6), (103, 7), (125, 1000), (126, 1000), (127, 1000), (128, 1000), (129, 1000), (130, 1000)] σ σ ρ s.heap := ⟨hP, hW, FR.rf⟩
  have hl := lv_entry ([.ref h0, .ref h1]) (n := 2) (Nat.le_of_ble_eq_true rfl)
  rw [lg_entry_eq]
  generalize (lg_sl ([.ref h0, .ref h1]) ++ List.replicate (2 - (lg_sl ([.ref h0, .ref h1])).length) Slot.unset).toArray = ls at hl ⊢
  have hl : lv_has ls 2 [(0, .ref h0), (1, .ref h1)] := hl
  refine lv_aload_n hx hb dX8_copyFrom_0 rfl (lv_at hl 1 rfl) ?_
  refine t_gr hx hb hts hown hK hG hB mh1 th1 fq_8_0 rfl mw_1_80 dX8_copyFrom_1 (fun b_1 hb_1 mb_1 tb_1 => ?_)
  refine lv_iconst (v := 0) hx hb dX8_copyFrom_4 (by decide) ?_
  refine lv_aload_n hx hb dX8_copyFrom_5 rfl (lv_at hl 0 rfl) ?_
  refine t_gr hx hb hts hown hK hG hB mh0 th0 fq_103_0 rfl mw_1_80 dX8_copyFrom_6 (fun b_2 hb_2 mb_2 tb_2 => ?_)
  refine lv_iconst (v := 0) hx hb dX8_copyFrom_9 (by decide) ?_
  refine lv_iconst (v := 4) hx hb dX8_copyFrom_10 (by decide) ?_
  refine t_cp (lo := 0) (hi := 8) hx hb (hml.trans hl.1.symm) hts hown mw_4_4 ⟨mw_3_239, mw_3_238, mw_1_20⟩ hK hLA hB hS mb_1 tb_1 ai_45 mb_2 tb_2 ai_125 (fun _ => ⟨show (0 : Int) ≤ 0 by decide, show (8 : Int) ≤ 8 by decide⟩) (fun _ => rfl) (by decide) (by decide) (by decide) (by decide) (by decide) (by decide) (Nat.le_of_ble_eq_true rfl) (Nat.le_of_ble_eq_true rfl) dX8_copyFrom_11 (fun H locs σ_3 eσ_3 hB hS => ?_)
  refine lv_aload_n hx hb dX8_copyFrom_14 rfl (lv_at hl 1 rfl) ?_
  refine t_gr hx hb hts hown hK hG hB mh1 th1 fq_8_1 rfl mw_1_85 dX8_copyFrom_15 (fun b_4 hb_4 mb_4 tb_4 => ?_)
  refine lv_iconst (v := 0) hx hb dX8_copyFrom_18 (by decide) ?_
  refine lv_aload_n hx hb dX8_copyFrom_19 rfl (lv_at hl 0 rfl) ?_
  refine t_gr hx hb hts hown hK hG hB mh0 th0 fq_103_1 rfl mw_1_85 dX8_copyFrom_20 (fun b_5 hb_5 mb_5 tb_5 => ?_)
  refine lv_iconst (v := 0) hx hb dX8_copyFrom_23 (by decide) ?_
  refine lv_iconst (v := 4) hx hb dX8_copyFrom_24 (by decide) ?_
  refine t_cp (lo := (-2147483648)) (hi := 2147483647) hx hb (hml.trans hl.1.symm) hts hown mw_4_4 ⟨mw_3_239, mw_3_238, mw_1_20⟩ hK hLA hB hS mb_4 tb_4 ai_46 mb_5 tb_5 ai_126 (fun _ => ⟨show ((-2147483648) : Int) ≤ (-2147483648) by decide, show (2147483647 : Int) ≤ 2147483647 by decide⟩) (fun _ => rfl) (by decide) (by decide) (by decide) (by decide) (by decide) (by decide) (Nat.le_of_ble_eq_true rfl) (Nat.le_of_ble_eq_true rfl) dX8_copyFrom_25 (fun H locs σ_6 eσ_6 hB hS => ?_)
  refine lv_aload_n hx hb dX8_copyFrom_28 rfl (lv_at hl 1 rfl) ?_
  refine t_gr hx hb hts hown hK hG hB mh1 th1 fq_8_2 rfl mw_1_89 dX8_copyFrom_29 (fun b_7 hb_7 mb_7 tb_7 => ?_)
  refine lv_iconst (v := 0) hx hb dX8_copyFrom_32 (by decide) ?_
  refine lv_aload_n hx hb dX8_copyFrom_33 rfl (lv_at hl 0 rfl) ?_
  refine t_gr hx hb hts hown hK hG hB mh0 th0 fq_103_2 rfl mw_1_89 dX8_copyFrom_34 (fun b_8 hb_8 mb_8 tb_8 => ?_)
  refine lv_iconst (v := 0) hx hb dX8_copyFrom_37 (by decide) ?_
  refine lv_iconst (v := 4) hx hb dX8_copyFrom_38 (by decide) ?_
  refine t_cp (lo := (-2147483648)) (hi := 2147483647) hx hb (hml.trans hl.1.symm) hts hown mw_4_4 ⟨mw_3_239, mw_3_238, mw_1_20⟩ hK hLA hB hS mb_7 tb_7 ai_47 mb_8 tb_8 ai_127 (fun _ => ⟨show ((-2147483648) : Int) ≤ (-2147483648) by decide, show (2147483647 : Int) ≤ 2147483647 by decide⟩) (fun _ => rfl) (by decide) (by decide) (by decide) (by decide) (by decide) (by decide) (Nat.le_of_ble_eq_true rfl) (Nat.le_of_ble_eq_true rfl) dX8_copyFrom_39 (fun H locs σ_9 eσ_9 hB hS => ?_)
  refine lv_aload_n hx hb dX8_copyFrom_42 rfl (lv_at hl 1 rfl) ?_
  refine t_gr hx hb hts hown hK hG hB mh1 th1 fq_8_3 rfl mw_1_92 dX8_copyFrom_43 (fun b_10 hb_10 mb_10 tb_10 => ?_)
  refine lv_iconst (v := 0) hx hb dX8_copyFrom_46 (by decide) ?_
  refine lv_aload_n hx hb dX8_copyFrom_47 rfl (lv_at hl 0 rfl) ?_
  refine t_gr hx hb hts hown hK hG hB mh0 th0 fq_103_3 rfl mw_1_92 dX8_copyFrom_48 (fun b_11 hb_11 mb_11 tb_11 => ?_)
  refine lv_iconst (v := 0) hx hb dX8_copyFrom_51 (by decide) ?_
  refine lv_iconst (v := 4) hx hb dX8_copyFrom_52 (by decide) ?_
  refine t_cp (lo := (-2147483648)) (hi := 2147483647) hx hb (hml.trans hl.1.symm) hts hown mw_4_4 ⟨mw_3_239, mw_3_238, mw_1_20⟩ hK hLA hB hS mb_10 tb_10 ai_48 mb_11 tb_11 ai_128 (fun _ => ⟨show ((-2147483648) : Int) ≤ (-2147483648) by decide, show (2147483647 : Int) ≤ 2147483647 by decide⟩) (fun _ => rfl) (by decide) (by decide) (by decide) (by decide) (by decide) (by decide) (Nat.le_of_ble_eq_true rfl) (Nat.le_of_ble_eq_true rfl) dX8_copyFrom_53 (fun H locs σ_12 eσ_12 hB hS => ?_)
  refine lv_aload_n hx hb dX8_copyFrom_56 rfl (lv_at hl 1 rfl) ?_
  refine t_gr hx hb hts hown hK hG hB mh1 th1 fq_8_4 rfl mw_1_95 dX8_copyFrom_57 (fun b_13 hb_13 mb_13 tb_13 => ?_)
  refine lv_iconst (v := 0) hx hb dX8_copyFrom_60 (by decide) ?_
  refine lv_aload_n hx hb dX8_copyFrom_61 rfl (lv_at hl 0 rfl) ?_
  refine t_gr hx hb hts hown hK hG hB mh0 th0 fq_103_4 rfl mw_1_95 dX8_copyFrom_62 (fun b_14 hb_14 mb_14 tb_14 => ?_)
  refine lv_iconst (v := 0) hx hb dX8_copyFrom_65 (by decide) ?_
  refine lv_bipush (v := 20) hx hb dX8_copyFrom_66 (by decide) ?_
  refine t_cp (lo := (-2147483648)) (hi := 2147483647) hx hb (hml.trans hl.1.symm) hts hown mw_4_4 ⟨mw_3_239, mw_3_238, mw_1_20⟩ hK hLA hB hS mb_13 tb_13 ai_49 mb_14 tb_14 ai_129 (fun _ => ⟨show ((-2147483648) : Int) ≤ (-2147483648) by decide, show (2147483647 : Int) ≤ 2147483647 by decide⟩) (fun _ => rfl) (by decide) (by decide) (by decide) (by decide) (by decide) (by decide) (Nat.le_of_ble_eq_true rfl) (Nat.le_of_ble_eq_true rfl) dX8_copyFrom_68 (fun H locs σ_15 eσ_15 hB hS => ?_)
  refine lv_aload_n hx hb dX8_copyFrom_71 rfl (lv_at hl 1 rfl) ?_
  refine t_gr hx hb hts hown hK hG hB mh1 th1 fq_8_5 rfl mw_1_100 dX8_copyFrom_72 (fun b_16 hb_16 mb_16 tb_16 => ?_)
  refine lv_iconst (v := 0) hx hb dX8_copyFrom_75 (by decide) ?_
  refine lv_aload_n hx hb dX8_copyFrom_76 rfl (lv_at hl 0 rfl) ?_
  refine t_gr hx hb hts hown hK hG hB mh0 th0 fq_103_5 rfl mw_1_100 dX8_copyFrom_77 (fun b_17 hb_17 mb_17 tb_17 => ?_)
  refine lv_iconst (v := 0) hx hb dX8_copyFrom_80 (by decide) ?_
  refine lv_bipush (v := 40) hx hb dX8_copyFrom_81 (by decide) ?_
  refine t_cp (lo := 0) (hi := 99) hx hb (hml.trans hl.1.symm) hts hown mw_4_4 ⟨mw_3_239, mw_3_238, mw_1_20⟩ hK hLA hB hS mb_16 tb_16 ai_50 mb_17 tb_17 ai_130 (fun _ => ⟨show (0 : Int) ≤ 0 by decide, show (99 : Int) ≤ 99 by decide⟩) (fun _ => rfl) (by decide) (by decide) (by decide) (by decide) (by decide) (by decide) (Nat.le_of_ble_eq_true rfl) (Nat.le_of_ble_eq_true rfl) dX8_copyFrom_83 (fun H locs σ_18 eσ_18 hB hS => ?_)
  refine lv_aload_n hx hb dX8_copyFrom_86 rfl (lv_at hl 0 rfl) ?_
  refine lv_aload_n hx hb dX8_copyFrom_87 rfl (lv_at hl 1 rfl) ?_
  refine t_gi hx hb hts hown hK hB mh1 th1 fi_8_6 rfl mw_1_106 dX8_copyFrom_88 (fun x_19 ex_19 lx_19 ux_19 => ?_)
  refine t_pi hx hb hts hown hK hLA hB hS mh0 th0 fi_103_6 rfl rfl rfl (i_lo _) (i_hi _) (Or.inl (by decide)) mw_1_106 dX8_copyFrom_91 (fun H locs σ_20 eσ_20 hB hS => ?_)
  have k_21 : σ_20 h0 6 = x_19 := by rw [eσ_20]; exact up2_same _ _ _ _
  refine lv_aload_n hx hb dX8_copyFrom_94 rfl (lv_at hl 0 rfl) ?_
  refine lv_aload_n hx hb dX8_copyFrom_95 rfl (lv_at hl 1 rfl) ?_
  refine t_gi hx hb hts hown hK hB mh1 th1 fi_8_7 rfl mw_1_110 dX8_copyFrom_96 (fun x_22 ex_22 lx_22 ux_22 => ?_)
  refine t_pi hx hb hts hown hK hLA hB hS mh0 th0 fi_103_7 rfl rfl rfl (i_lo _) (i_hi _) (Or.inl (by decide)) mw_1_110 dX8_copyFrom_99 (fun H locs σ_23 eσ_23 hB hS => ?_)
  have k_24 : σ_23 h0 7 = x_22 := by rw [eσ_23]; exact up2_same _ _ _ _
  exact W.vret hx hb hr (fun t ht hW => ⟨⟨(σ_23, ρ), rfl, ⟨hB.2.1, hB.2.2, trivial⟩, (show TP D cA L T r σ_23 ρ t.heap from by rw [ht]; exact hB.1)⟩, hS.F ht⟩) hS.2.2 dX8_copyFrom_102
set_option maxHeartbeats 4000000 in
set_option maxRecDepth 100000 in
theorem cy_X8_copyFrom_104_100 (l : Launch) (D : va_G) (cA : Nat → ClassId) (L : List Nat) (T : Nat → Nat) (r : Rg) (hG : GR L T r) (hL : L.Nodup) (σ : Sg) (ρ : Lg) (hW : WT L ry T σ) (sz : Nat) (h0 : Nat) (mh0 : h0 ∈ L) (th0 : T h0 = 104) (h1 : Nat) (mh1 : h1 ∈ L) (th1 : T h1 = 100) : Met l yX8_copyFrom (.code yX8_copyFrom cX8_copyFrom 2 none :: wsA) ({ frames := 1, cells := 0, slots := 0, locals := 100 }) (PR D cA L T r σ ρ sz [.ref h0, .ref h1]) (QV D cA L T r ry [(104, 6), (104, 7), (131, 1000), (132, 1000), (133, 1000), (134, 1000), (135, 1000), (136, 1000)] σ sz (fun σ1 => True)) 0 0 (dm L sz) := by
  refine Met.ofW (cc := cX8_copyFrom) (maxL := 2) (ret := none) (by decide) rfl ?_
  intro p e s m args below meth c s₁ B hml hv
  obtain ⟨rfl, hsz, hP, hK, hN⟩ := hv
  have hx := B.exec
  have hb := B.bytes
  have hr := B.returns
  have hts : ∀ w ∈ wsA, w.before _ s = true := fun w h => atoms_spec (ws := .code yX8_copyFrom cX8_copyFrom 2 none :: wsA) B.pre w (List.mem_cons_of_mem _ h)
  have hown : s.vm.findClass RX8 = some m.cls := findClass_of_methodNamed B.named
  subst hsz
  have hLA : LA (dm L s.heap.size) L := ⟨hL, fun a h => Or.inl h⟩
  have hA : ∀ q : Nat, s.heap.size ≤ q → dm L s.heap.size q := fun q h => Or.inr h
  have hS : va_S (dm L s.heap.size) s.heap s.heap [] := va_S.rf
  have hB : TS D cA L T r ry [(104, 6), (104, 7), (131, 1000), (132, 1000), (133, 1000), (134, 1000), (135, 1000), (136, 1000)] σ σ ρ s.heap := ⟨hP, hW, FR.rf⟩
  have hl := lv_entry ([.ref h0, .ref h1]) (n := 2) (Nat.le_of_ble_eq_true rfl)
  rw [lg_entry_eq]
  generalize (lg_sl ([.ref h0, .ref h1]) ++ List.replicate (2 - (lg_sl ([.ref h0, .ref h1])).length) Slot.unset).toArray = ls at hl ⊢
  have hl : lv_has ls 2 [(0, .ref h0), (1, .ref h1)] := hl
  refine lv_aload_n hx hb dX8_copyFrom_0 rfl (lv_at hl 1 rfl) ?_
  refine t_gr hx hb hts hown hK hG hB mh1 th1 fq_100_0 rfl mw_1_80 dX8_copyFrom_1 (fun b_1 hb_1 mb_1 tb_1 => ?_)
  refine lv_iconst (v := 0) hx hb dX8_copyFrom_4 (by decide) ?_
  refine lv_aload_n hx hb dX8_copyFrom_5 rfl (lv_at hl 0 rfl) ?_
  refine t_gr hx hb hts hown hK hG hB mh0 th0 fq_104_0 rfl mw_1_80 dX8_copyFrom_6 (fun b_2 hb_2 mb_2 tb_2 => ?_)
  refine lv_iconst (v := 0) hx hb dX8_copyFrom_9 (by decide) ?_
  refine lv_iconst (v := 4) hx hb dX8_copyFrom_10 (by decide) ?_
  refine t_cp (lo := 0) (hi := 8) hx hb (hml.trans hl.1.symm) hts hown mw_4_4 ⟨mw_3_239, mw_3_238, mw_1_20⟩ hK hLA hB hS mb_1 tb_1 ai_107 mb_2 tb_2 ai_131 (fun _ => ⟨show (0 : Int) ≤ 0 by decide, show (8 : Int) ≤ 8 by decide⟩) (fun _ => rfl) (by decide) (by decide) (by decide) (by decide) (by decide) (by decide) (Nat.le_of_ble_eq_true rfl) (Nat.le_of_ble_eq_true rfl) dX8_copyFrom_11 (fun H locs σ_3 eσ_3 hB hS => ?_)
  refine lv_aload_n hx hb dX8_copyFrom_14 rfl (lv_at hl 1 rfl) ?_
  refine t_gr hx hb hts hown hK hG hB mh1 th1 fq_100_1 rfl mw_1_85 dX8_copyFrom_15 (fun b_4 hb_4 mb_4 tb_4 => ?_)
  refine lv_iconst (v := 0) hx hb dX8_copyFrom_18 (by decide) ?_
  refine lv_aload_n hx hb dX8_copyFrom_19 rfl (lv_at hl 0 rfl) ?_
  refine t_gr hx hb hts hown hK hG hB mh0 th0 fq_104_1 rfl mw_1_85 dX8_copyFrom_20 (fun b_5 hb_5 mb_5 tb_5 => ?_)
  refine lv_iconst (v := 0) hx hb dX8_copyFrom_23 (by decide) ?_
  refine lv_iconst (v := 4) hx hb dX8_copyFrom_24 (by decide) ?_
  refine t_cp (lo := (-2147483648)) (hi := 2147483647) hx hb (hml.trans hl.1.symm) hts hown mw_4_4 ⟨mw_3_239, mw_3_238, mw_1_20⟩ hK hLA hB hS mb_4 tb_4 ai_108 mb_5 tb_5 ai_132 (fun _ => ⟨show ((-2147483648) : Int) ≤ (-2147483648) by decide, show (2147483647 : Int) ≤ 2147483647 by decide⟩) (fun _ => rfl) (by decide) (by decide) (by decide) (by decide) (by decide) (by decide) (Nat.le_of_ble_eq_true rfl) (Nat.le_of_ble_eq_true rfl) dX8_copyFrom_25 (fun H locs σ_6 eσ_6 hB hS => ?_)
  refine lv_aload_n hx hb dX8_copyFrom_28 rfl (lv_at hl 1 rfl) ?_
  refine t_gr hx hb hts hown hK hG hB mh1 th1 fq_100_2 rfl mw_1_89 dX8_copyFrom_29 (fun b_7 hb_7 mb_7 tb_7 => ?_)
  refine lv_iconst (v := 0) hx hb dX8_copyFrom_32 (by decide) ?_
  refine lv_aload_n hx hb dX8_copyFrom_33 rfl (lv_at hl 0 rfl) ?_
  refine t_gr hx hb hts hown hK hG hB mh0 th0 fq_104_2 rfl mw_1_89 dX8_copyFrom_34 (fun b_8 hb_8 mb_8 tb_8 => ?_)
  refine lv_iconst (v := 0) hx hb dX8_copyFrom_37 (by decide) ?_
  refine lv_iconst (v := 4) hx hb dX8_copyFrom_38 (by decide) ?_
  refine t_cp (lo := (-2147483648)) (hi := 2147483647) hx hb (hml.trans hl.1.symm) hts hown mw_4_4 ⟨mw_3_239, mw_3_238, mw_1_20⟩ hK hLA hB hS mb_7 tb_7 ai_109 mb_8 tb_8 ai_133 (fun _ => ⟨show ((-2147483648) : Int) ≤ (-2147483648) by decide, show (2147483647 : Int) ≤ 2147483647 by decide⟩) (fun _ => rfl) (by decide) (by decide) (by decide) (by decide) (by decide) (by decide) (Nat.le_of_ble_eq_true rfl) (Nat.le_of_ble_eq_true rfl) dX8_copyFrom_39 (fun H locs σ_9 eσ_9 hB hS => ?_)
  refine lv_aload_n hx hb dX8_copyFrom_42 rfl (lv_at hl 1 rfl) ?_
  refine t_gr hx hb hts hown hK hG hB mh1 th1 fq_100_3 rfl mw_1_92 dX8_copyFrom_43 (fun b_10 hb_10 mb_10 tb_10 => ?_)
  refine lv_iconst (v := 0) hx hb dX8_copyFrom_46 (by decide) ?_
  refine lv_aload_n hx hb dX8_copyFrom_47 rfl (lv_at hl 0 rfl) ?_
  refine t_gr hx hb hts hown hK hG hB mh0 th0 fq_104_3 rfl mw_1_92 dX8_copyFrom_48 (fun b_11 hb_11 mb_11 tb_11 => ?_)
  refine lv_iconst (v := 0) hx hb dX8_copyFrom_51 (by decide) ?_
  refine lv_iconst (v := 4) hx hb dX8_copyFrom_52 (by decide) ?_
  refine t_cp (lo := (-2147483648)) (hi := 2147483647) hx hb (hml.trans hl.1.symm) hts hown mw_4_4 ⟨mw_3_239, mw_3_238, mw_1_20⟩ hK hLA hB hS mb_10 tb_10 ai_110 mb_11 tb_11 ai_134 (fun _ => ⟨show ((-2147483648) : Int) ≤ (-2147483648) by decide, show (2147483647 : Int) ≤ 2147483647 by decide⟩) (fun _ => rfl) (by decide) (by decide) (by decide) (by decide) (by decide) (by decide) (Nat.le_of_ble_eq_true rfl) (Nat.le_of_ble_eq_true rfl) dX8_copyFrom_53 (fun H locs σ_12 eσ_12 hB hS => ?_)
  refine lv_aload_n hx hb dX8_copyFrom_56 rfl (lv_at hl 1 rfl) ?_
  refine t_gr hx hb hts hown hK hG hB mh1 th1 fq_100_4 rfl mw_1_95 dX8_copyFrom_57 (fun b_13 hb_13 mb_13 tb_13 => ?_)
  refine lv_iconst (v := 0) hx hb dX8_copyFrom_60 (by decide) ?_
  refine lv_aload_n hx hb dX8_copyFrom_61 rfl (lv_at hl 0 rfl) ?_
  refine t_gr hx hb hts hown hK hG hB mh0 th0 fq_104_4 rfl mw_1_95 dX8_copyFrom_62 (fun b_14 hb_14 mb_14 tb_14 => ?_)
  refine lv_iconst (v := 0) hx hb dX8_copyFrom_65 (by decide) ?_
  refine lv_bipush (v := 20) hx hb dX8_copyFrom_66 (by decide) ?_
  refine t_cp (lo := (-2147483648)) (hi := 2147483647) hx hb (hml.trans hl.1.symm) hts hown mw_4_4 ⟨mw_3_239, mw_3_238, mw_1_20⟩ hK hLA hB hS mb_13 tb_13 ai_111 mb_14 tb_14 ai_135 (fun _ => ⟨show ((-2147483648) : Int) ≤ (-2147483648) by decide, show (2147483647 : Int) ≤ 2147483647 by decide⟩) (fun _ => rfl) (by decide) (by decide) (by decide) (by decide) (by decide) (by decide) (Nat.le_of_ble_eq_true rfl) (Nat.le_of_ble_eq_true rfl) dX8_copyFrom_68 (fun H locs σ_15 eσ_15 hB hS => ?_)
  refine lv_aload_n hx hb dX8_copyFrom_71 rfl (lv_at hl 1 rfl) ?_
  refine t_gr hx hb hts hown hK hG hB mh1 th1 fq_100_5 rfl mw_1_100 dX8_copyFrom_72 (fun b_16 hb_16 mb_16 tb_16 => ?_)
  refine lv_iconst (v := 0) hx hb dX8_copyFrom_75 (by decide) ?_
  refine lv_aload_n hx hb dX8_copyFrom_76 rfl (lv_at hl 0 rfl) ?_
  refine t_gr hx hb hts hown hK hG hB mh0 th0 fq_104_5 rfl mw_1_100 dX8_copyFrom_77 (fun b_17 hb_17 mb_17 tb_17 => ?_)
  refine lv_iconst (v := 0) hx hb dX8_copyFrom_80 (by decide) ?_
  refine lv_bipush (v := 40) hx hb dX8_copyFrom_81 (by decide) ?_
  refine t_cp (lo := 0) (hi := 99) hx hb (hml.trans hl.1.symm) hts hown mw_4_4 ⟨mw_3_239, mw_3_238, mw_1_20⟩ hK hLA hB hS mb_16 tb_16 ai_112 mb_17 tb_17 ai_136 (fun _ => ⟨show (0 : Int) ≤ 0 by decide, show (99 : Int) ≤ 99 by decide⟩) (fun _ => rfl) (by decide) (by decide) (by decide) (by decide) (by decide) (by decide) (Nat.le_of_ble_eq_true rfl) (Nat.le_of_ble_eq_true rfl) dX8_copyFrom_83 (fun H locs σ_18 eσ_18 hB hS => ?_)
  refine lv_aload_n hx hb dX8_copyFrom_86 rfl (lv_at hl 0 rfl) ?_
  refine lv_aload_n hx hb dX8_copyFrom_87 rfl (lv_at hl 1 rfl) ?_
  refine t_gi hx hb hts hown hK hB mh1 th1 fi_100_6 rfl mw_1_106 dX8_copyFrom_88 (fun x_19 ex_19 lx_19 ux_19 => ?_)
  refine t_pi hx hb hts hown hK hLA hB hS mh0 th0 fi_104_6 rfl rfl rfl (i_lo _) (i_hi _) (Or.inl (by decide)) mw_1_106 dX8_copyFrom_91 (fun H locs σ_20 eσ_20 hB hS => ?_)
  have k_21 : σ_20 h0 6 = x_19 := by rw [eσ_20]; exact up2_same _ _ _ _
  refine lv_aload_n hx hb dX8_copyFrom_94 rfl (lv_at hl 0 rfl) ?_
  refine lv_aload_n hx hb dX8_copyFrom_95 rfl (lv_at hl 1 rfl) ?_
  refine t_gi hx hb hts hown hK hB mh1 th1 fi_100_7 rfl mw_1_110 dX8_copyFrom_96 (fun x_22 ex_22 lx_22 ux_22 => ?_)
  refine t_pi hx hb hts hown hK hLA hB hS mh0 th0 fi_104_7 rfl rfl rfl (i_lo _) (i_hi _) (Or.inl (by decide)) mw_1_110 dX8_copyFrom_99 (fun H locs σ_23 eσ_23 hB hS => ?_)
  have k_24 : σ_23 h0 7 = x_22 := by rw [eσ_23]; exact up2_same _ _ _ _
  exact W.vret hx hb hr (fun t ht hW => ⟨⟨(σ_23, ρ), rfl, ⟨hB.2.1, hB.2.2, trivial⟩, (show TP D cA L T r σ_23 ρ t.heap from by rw [ht]; exact hB.1)⟩, hS.F ht⟩) hS.2.2 dX8_copyFrom_102
set_option maxHeartbeats 4000000 in
set_option maxRecDepth 100000 in
theorem cy_X8_copyFrom_8_101 (l : Launch) (D : va_G) (cA : Nat → ClassId) (L : List Nat) (T : Nat → Nat) (r : Rg) (hG : GR L T r) (hL : L.Nodup) (σ : Sg) (ρ : Lg) (hW : WT L ry T σ) (sz : Nat) (h0 : Nat) (mh0 : h0 ∈ L) (th0 : T h0 = 8) (h1 : Nat) (mh1 : h1 ∈ L) (th1 : T h1 = 101) : Met l yX8_copyFrom (.code yX8_copyFrom cX8_copyFrom 2 none :: wsA) ({ frames := 1, cells := 0, slots := 0, locals := 100 }) (PR D cA L T r σ ρ sz [.ref h0, .ref h1]) (QV D cA L T r ry [(8, 6), (8, 7), (45, 1000), (46, 1000), (47, 1000), (48, 1000), (49, 1000), (50, 1000)] σ sz (fun σ1 => True)) 0 0 (dm L sz) := by
  refine Met.ofW (cc := cX8_copyFrom) (maxL := 2) (ret := none) (by decide) rfl ?_
  intro p e s m args below meth c s₁ B hml hv
  obtain ⟨rfl, hsz, hP, hK, hN⟩ := hv
  have hx := B.exec
  have hb := B.bytes
  have hr := B.returns
  have hts : ∀ w ∈ wsA, w.before _ s = true := fun w h => atoms_spec (ws := .code yX8_copyFrom cX8_copyFrom 2 none :: wsA) B.pre w (List.mem_cons_of_mem _ h)
  have hown : s.vm.findClass RX8 = some m.cls := findClass_of_methodNamed B.named
  subst hsz
  have hLA : LA (dm L s.heap.size) L := ⟨hL, fun a h => Or.inl h⟩
  have hA : ∀ q : Nat, s.heap.size ≤ q → dm L s.heap.size q := fun q h => Or.inr h
  have hS : va_S (dm L s.heap.size) s.heap s.heap [] := va_S.rf
  have hB : TS D cA L T r ry [(8, 6), (8, 7), (45, 1000), (46, 1000), (47, 1000), (48, 1000), (49, 1000), (50, 1000)] σ σ ρ s.heap := ⟨hP, hW, FR.rf⟩
  have hl := lv_entry ([.ref h0, .ref h1]) (n := 2) (Nat.le_of_ble_eq_true rfl)
  rw [lg_entry_eq]
  generalize (lg_sl ([.ref h0, .ref h1]) ++ List.replicate (2 - (lg_sl ([.ref h0, .ref h1])).length) Slot.unset).toArray = ls at hl ⊢
  have hl : lv_has ls 2 [(0, .ref h0), (1, .ref h1)] := hl
  refine lv_aload_n hx hb dX8_copyFrom_0 rfl (lv_at hl 1 rfl) ?_
  refine t_gr hx hb hts hown hK hG hB mh1 th1 fq_101_0 rfl mw_1_80 dX8_copyFrom_1 (fun b_1 hb_1 mb_1 tb_1 => ?_)
  refine lv_iconst (v := 0) hx hb dX8_copyFrom_4 (by decide) ?_
  refine lv_aload_n hx hb dX8_copyFrom_5 rfl (lv_at hl 0 rfl) ?_
  refine t_gr hx hb hts hown hK hG hB mh0 th0 fq_8_0 rfl mw_1_80 dX8_copyFrom_6 (fun b_2 hb_2 mb_2 tb_2 => ?_)
  refine lv_iconst (v := 0) hx hb dX8_copyFrom_9 (by decide) ?_
  refine lv_iconst (v := 4) hx hb dX8_copyFrom_10 (by decide) ?_
  refine t_cp (lo := 0) (hi := 8) hx hb (hml.trans hl.1.symm) hts hown mw_4_4 ⟨mw_3_239, mw_3_238, mw_1_20⟩ hK hLA hB hS mb_1 tb_1 ai_113 mb_2 tb_2 ai_45 (fun _ => ⟨show (0 : Int) ≤ 0 by decide, show (8 : Int) ≤ 8 by decide⟩) (fun _ => rfl) (by decide) (by decide) (by decide) (by decide) (by decide) (by decide) (Nat.le_of_ble_eq_true rfl) (Nat.le_of_ble_eq_true rfl) dX8_copyFrom_11 (fun H locs σ_3 eσ_3 hB hS => ?_)
  refine lv_aload_n hx hb dX8_copyFrom_14 rfl (lv_at hl 1 rfl) ?_
  refine t_gr hx hb hts hown hK hG hB mh1 th1 fq_101_1 rfl mw_1_85 dX8_copyFrom_15 (fun b_4 hb_4 mb_4 tb_4 => ?_)
  refine lv_iconst (v := 0) hx hb dX8_copyFrom_18 (by decide) ?_
  refine lv_aload_n hx hb dX8_copyFrom_19 rfl (lv_at hl 0 rfl) ?_
  refine t_gr hx hb hts hown hK hG hB mh0 th0 fq_8_1 rfl mw_1_85 dX8_copyFrom_20 (fun b_5 hb_5 mb_5 tb_5 => ?_)
  refine lv_iconst (v := 0) hx hb dX8_copyFrom_23 (by decide) ?_
  refine lv_iconst (v := 4) hx hb dX8_copyFrom_24 (by decide) ?_
  refine t_cp (lo := (-2147483648)) (hi := 2147483647) hx hb (hml.trans hl.1.symm) hts hown mw_4_4 ⟨mw_3_239, mw_3_238, mw_1_20⟩ hK hLA hB hS mb_4 tb_4 ai_114 mb_5 tb_5 ai_46 (fun _ => ⟨show ((-2147483648) : Int) ≤ (-2147483648) by decide, show (2147483647 : Int) ≤ 2147483647 by decide⟩) (fun _ => rfl) (by decide) (by decide) (by decide) (by decide) (by decide) (by decide) (Nat.le_of_ble_eq_true rfl) (Nat.le_of_ble_eq_true rfl) dX8_copyFrom_25 (fun H locs σ_6 eσ_6 hB hS => ?_)
  refine lv_aload_n hx hb dX8_copyFrom_28 rfl (lv_at hl 1 rfl) ?_
  refine t_gr hx hb hts hown hK hG hB mh1 th1 fq_101_2 rfl mw_1_89 dX8_copyFrom_29 (fun b_7 hb_7 mb_7 tb_7 => ?_)
  refine lv_iconst (v := 0) hx hb dX8_copyFrom_32 (by decide) ?_
  refine lv_aload_n hx hb dX8_copyFrom_33 rfl (lv_at hl 0 rfl) ?_
  refine t_gr hx hb hts hown hK hG hB mh0 th0 fq_8_2 rfl mw_1_89 dX8_copyFrom_34 (fun b_8 hb_8 mb_8 tb_8 => ?_)
  refine lv_iconst (v := 0) hx hb dX8_copyFrom_37 (by decide) ?_
  refine lv_iconst (v := 4) hx hb dX8_copyFrom_38 (by decide) ?_
  refine t_cp (lo := (-2147483648)) (hi := 2147483647) hx hb (hml.trans hl.1.symm) hts hown mw_4_4 ⟨mw_3_239, mw_3_238, mw_1_20⟩ hK hLA hB hS mb_7 tb_7 ai_115 mb_8 tb_8 ai_47 (fun _ => ⟨show ((-2147483648) : Int) ≤ (-2147483648) by decide, show (2147483647 : Int) ≤ 2147483647 by decide⟩) (fun _ => rfl) (by decide) (by decide) (by decide) (by decide) (by decide) (by decide) (Nat.le_of_ble_eq_true rfl) (Nat.le_of_ble_eq_true rfl) dX8_copyFrom_39 (fun H locs σ_9 eσ_9 hB hS => ?_)
  refine lv_aload_n hx hb dX8_copyFrom_42 rfl (lv_at hl 1 rfl) ?_
  refine t_gr hx hb hts hown hK hG hB mh1 th1 fq_101_3 rfl mw_1_92 dX8_copyFrom_43 (fun b_10 hb_10 mb_10 tb_10 => ?_)
  refine lv_iconst (v := 0) hx hb dX8_copyFrom_46 (by decide) ?_
  refine lv_aload_n hx hb dX8_copyFrom_47 rfl (lv_at hl 0 rfl) ?_
  refine t_gr hx hb hts hown hK hG hB mh0 th0 fq_8_3 rfl mw_1_92 dX8_copyFrom_48 (fun b_11 hb_11 mb_11 tb_11 => ?_)
  refine lv_iconst (v := 0) hx hb dX8_copyFrom_51 (by decide) ?_
  refine lv_iconst (v := 4) hx hb dX8_copyFrom_52 (by decide) ?_
  refine t_cp (lo := (-2147483648)) (hi := 2147483647) hx hb (hml.trans hl.1.symm) hts hown mw_4_4 ⟨mw_3_239, mw_3_238, mw_1_20⟩ hK hLA hB hS mb_10 tb_10 ai_116 mb_11 tb_11 ai_48 (fun _ => ⟨show ((-2147483648) : Int) ≤ (-2147483648) by decide, show (2147483647 : Int) ≤ 2147483647 by decide⟩) (fun _ => rfl) (by decide) (by decide) (by decide) (by decide) (by decide) (by decide) (Nat.le_of_ble_eq_true rfl) (Nat.le_of_ble_eq_true rfl) dX8_copyFrom_53 (fun H locs σ_12 eσ_12 hB hS => ?_)
  refine lv_aload_n hx hb dX8_copyFrom_56 rfl (lv_at hl 1 rfl) ?_
  refine t_gr hx hb hts hown hK hG hB mh1 th1 fq_101_4 rfl mw_1_95 dX8_copyFrom_57 (fun b_13 hb_13 mb_13 tb_13 => ?_)
  refine lv_iconst (v := 0) hx hb dX8_copyFrom_60 (by decide) ?_
  refine lv_aload_n hx hb dX8_copyFrom_61 rfl (lv_at hl 0 rfl) ?_
  refine t_gr hx hb hts hown hK hG hB mh0 th0 fq_8_4 rfl mw_1_95 dX8_copyFrom_62 (fun b_14 hb_14 mb_14 tb_14 => ?_)
  refine lv_iconst (v := 0) hx hb dX8_copyFrom_65 (by decide) ?_
  refine lv_bipush (v := 20) hx hb dX8_copyFrom_66 (by decide) ?_
  refine t_cp (lo := (-2147483648)) (hi := 2147483647) hx hb (hml.trans hl.1.symm) hts hown mw_4_4 ⟨mw_3_239, mw_3_238, mw_1_20⟩ hK hLA hB hS mb_13 tb_13 ai_117 mb_14 tb_14 ai_49 (fun _ => ⟨show ((-2147483648) : Int) ≤ (-2147483648) by decide, show (2147483647 : Int) ≤ 2147483647 by decide⟩) (fun _ => rfl) (by decide) (by decide) (by decide) (by decide) (by decide) (by decide) (Nat.le_of_ble_eq_true rfl) (Nat.le_of_ble_eq_true rfl) dX8_copyFrom_68 (fun H locs σ_15 eσ_15 hB hS => ?_)
  refine lv_aload_n hx hb dX8_copyFrom_71 rfl (lv_at hl 1 rfl) ?_
  refine t_gr hx hb hts hown hK hG hB mh1 th1 fq_101_5 rfl mw_1_100 dX8_copyFrom_72 (fun b_16 hb_16 mb_16 tb_16 => ?_)
  refine lv_iconst (v := 0) hx hb dX8_copyFrom_75 (by decide) ?_
  refine lv_aload_n hx hb dX8_copyFrom_76 rfl (lv_at hl 0 rfl) ?_
  refine t_gr hx hb hts hown hK hG hB mh0 th0 fq_8_5 rfl mw_1_100 dX8_copyFrom_77 (fun b_17 hb_17 mb_17 tb_17 => ?_)
  refine lv_iconst (v := 0) hx hb dX8_copyFrom_80 (by decide) ?_
  refine lv_bipush (v := 40) hx hb dX8_copyFrom_81 (by decide) ?_
  refine t_cp (lo := 0) (hi := 99) hx hb (hml.trans hl.1.symm) hts hown mw_4_4 ⟨mw_3_239, mw_3_238, mw_1_20⟩ hK hLA hB hS mb_16 tb_16 ai_118 mb_17 tb_17 ai_50 (fun _ => ⟨show (0 : Int) ≤ 0 by decide, show (99 : Int) ≤ 99 by decide⟩) (fun _ => rfl) (by decide) (by decide) (by decide) (by decide) (by decide) (by decide) (Nat.le_of_ble_eq_true rfl) (Nat.le_of_ble_eq_true rfl) dX8_copyFrom_83 (fun H locs σ_18 eσ_18 hB hS => ?_)
  refine lv_aload_n hx hb dX8_copyFrom_86 rfl (lv_at hl 0 rfl) ?_
  refine lv_aload_n hx hb dX8_copyFrom_87 rfl (lv_at hl 1 rfl) ?_
  refine t_gi hx hb hts hown hK hB mh1 th1 fi_101_6 rfl mw_1_106 dX8_copyFrom_88 (fun x_19 ex_19 lx_19 ux_19 => ?_)
  refine t_pi hx hb hts hown hK hLA hB hS mh0 th0 fi_8_6 rfl rfl rfl (i_lo _) (i_hi _) (Or.inl (by decide)) mw_1_106 dX8_copyFrom_91 (fun H locs σ_20 eσ_20 hB hS => ?_)
  have k_21 : σ_20 h0 6 = x_19 := by rw [eσ_20]; exact up2_same _ _ _ _
  refine lv_aload_n hx hb dX8_copyFrom_94 rfl (lv_at hl 0 rfl) ?_
  refine lv_aload_n hx hb dX8_copyFrom_95 rfl (lv_at hl 1 rfl) ?_
  refine t_gi hx hb hts hown hK hB mh1 th1 fi_101_7 rfl mw_1_110 dX8_copyFrom_96 (fun x_22 ex_22 lx_22 ux_22 => ?_)
  refine t_pi hx hb hts hown hK hLA hB hS mh0 th0 fi_8_7 rfl rfl rfl (i_lo _) (i_hi _) (Or.inl (by decide)) mw_1_110 dX8_copyFrom_99 (fun H locs σ_23 eσ_23 hB hS => ?_)
  have k_24 : σ_23 h0 7 = x_22 := by rw [eσ_23]; exact up2_same _ _ _ _
  exact W.vret hx hb hr (fun t ht hW => ⟨⟨(σ_23, ρ), rfl, ⟨hB.2.1, hB.2.2, trivial⟩, (show TP D cA L T r σ_23 ρ t.heap from by rw [ht]; exact hB.1)⟩, hS.F ht⟩) hS.2.2 dX8_copyFrom_102
set_option maxHeartbeats 4000000 in
set_option maxRecDepth 100000 in
theorem cy_X8_copyFrom_100_101 (l : Launch) (D : va_G) (cA : Nat → ClassId) (L : List Nat) (T : Nat → Nat) (r : Rg) (hG : GR L T r) (hL : L.Nodup) (σ : Sg) (ρ : Lg) (hW : WT L ry T σ) (sz : Nat) (h0 : Nat) (mh0 : h0 ∈ L) (th0 : T h0 = 100) (h1 : Nat) (mh1 : h1 ∈ L) (th1 : T h1 = 101) : Met l yX8_copyFrom (.code yX8_copyFrom cX8_copyFrom 2 none :: wsA) ({ frames := 1, cells := 0, slots := 0, locals := 100 }) (PR D cA L T r σ ρ sz [.ref h0, .ref h1]) (QV D cA L T r ry [(100, 6), (100, 7), (107, 1000), (108, 1000), (109, 1000), (110, 1000), (111, 1000), (112, 1000)] σ sz (fun σ1 => True)) 0 0 (dm L sz) := by
  refine Met.ofW (cc := cX8_copyFrom) (maxL := 2) (ret := none) (by decide) rfl ?_
  intro p e s m args below meth c s₁ B hml hv
  obtain ⟨rfl, hsz, hP, hK, hN⟩ := hv
  have hx := B.exec
  have hb := B.bytes
  have hr := B.returns
  have hts : ∀ w ∈ wsA, w.before _ s = true := fun w h => atoms_spec (ws := .code yX8_copyFrom cX8_copyFrom 2 none :: wsA) B.pre w (List.mem_cons_of_mem _ h)
  have hown : s.vm.findClass RX8 = some m.cls := findClass_of_methodNamed B.named
  subst hsz
  have hLA : LA (dm L s.heap.size) L := ⟨hL, fun a h => Or.inl h⟩
  have hA : ∀ q : Nat, s.heap.size ≤ q → dm L s.heap.size q := fun q h => Or.inr h
  have hS : va_S (dm L s.heap.size) s.heap s.heap [] := va_S.rf
  have hB : TS D cA L T r ry [(100, 6), (100, 7), (107, 1000), (108, 1000), (109, 1000), (110, 1000), (111, 1000), (112, 1000)] σ σ ρ s.heap := ⟨hP, hW, FR.rf⟩
  have hl := lv_entry ([.ref h0, .ref h1]) (n := 2) (Nat.le_of_ble_eq_true rfl)
  rw [lg_entry_eq]
  generalize (lg_sl ([.ref h0, .ref h1]) ++ List.replicate (2 - (lg_sl ([.ref h0, .ref h1])).length) Slot.unset).toArray = ls at hl ⊢
  have hl : lv_has ls 2 [(0, .ref h0), (1, .ref h1)] := hl
  refine lv_aload_n hx hb dX8_copyFrom_0 rfl (lv_at hl 1 rfl) ?_
  refine t_gr hx hb hts hown hK hG hB mh1 th1 fq_101_0 rfl mw_1_80 dX8_copyFrom_1 (fun b_1 hb_1 mb_1 tb_1 => ?_)
  refine lv_iconst (v := 0) hx hb dX8_copyFrom_4 (by decide) ?_
  refine lv_aload_n hx hb dX8_copyFrom_5 rfl (lv_at hl 0 rfl) ?_
  refine t_gr hx hb hts hown hK hG hB mh0 th0 fq_100_0 rfl mw_1_80 dX8_copyFrom_6 (fun b_2 hb_2 mb_2 tb_2 => ?_)
  refine lv_iconst (v := 0) hx hb dX8_copyFrom_9 (by decide) ?_
  refine lv_iconst (v := 4) hx hb dX8_copyFrom_10 (by decide) ?_
  refine t_cp (lo := 0) (hi := 8) hx hb (hml.trans hl.1.symm) hts hown mw_4_4 ⟨mw_3_239, mw_3_238, mw_1_20⟩ hK hLA hB hS mb_1 tb_1 ai_113 mb_2 tb_2 ai_107 (fun _ => ⟨show (0 : Int) ≤ 0 by decide, show (8 : Int) ≤ 8 by decide⟩) (fun _ => rfl) (by decide) (by decide) (by decide) (by decide) (by decide) (by decide) (Nat.le_of_ble_eq_true rfl) (Nat.le_of_ble_eq_true rfl) dX8_copyFrom_11 (fun H locs σ_3 eσ_3 hB hS => ?_)
  refine lv_aload_n hx hb dX8_copyFrom_14 rfl (lv_at hl 1 rfl) ?_
  refine t_gr hx hb hts hown hK hG hB mh1 th1 fq_101_1 rfl mw_1_85 dX8_copyFrom_15 (fun b_4 hb_4 mb_4 tb_4 => ?_)
  refine lv_iconst (v := 0) hx hb dX8_copyFrom_18 (by decide) ?_
  refine lv_aload_n hx hb dX8_copyFrom_19 rfl (lv_at hl 0 rfl) ?_
  refine t_gr hx hb hts hown hK hG hB mh0 th0 fq_100_1 rfl mw_1_85 dX8_copyFrom_20 (fun b_5 hb_5 mb_5 tb_5 => ?_)
  refine lv_iconst (v := 0) hx hb dX8_copyFrom_23 (by decide) ?_
  refine lv_iconst (v := 4) hx hb dX8_copyFrom_24 (by decide) ?_
  refine t_cp (lo := (-2147483648)) (hi := 2147483647) hx hb (hml.trans hl.1.symm) hts hown mw_4_4 ⟨mw_3_239, mw_3_238, mw_1_20⟩ hK hLA hB hS mb_4 tb_4 ai_114 mb_5 tb_5 ai_108 (fun _ => ⟨show ((-2147483648) : Int) ≤ (-2147483648) by decide, show (2147483647 : Int) ≤ 2147483647 by decide⟩) (fun _ => rfl) (by decide) (by decide) (by decide) (by decide) (by decide) (by decide) (Nat.le_of_ble_eq_true rfl) (Nat.le_of_ble_eq_true rfl) dX8_copyFrom_25 (fun H locs σ_6 eσ_6 hB hS => ?_)
  refine lv_aload_n hx hb dX8_copyFrom_28 rfl (lv_at hl 1 rfl) ?_
  refine t_gr hx hb hts hown hK hG hB mh1 th1 fq_101_2 rfl mw_1_89 dX8_copyFrom_29 (fun b_7 hb_7 mb_7 tb_7 => ?_)
  refine lv_iconst (v := 0) hx hb dX8_copyFrom_32 (by decide) ?_
  refine lv_aload_n hx hb dX8_copyFrom_33 rfl (lv_at hl 0 rfl) ?_
  refine t_gr hx hb hts hown hK hG hB mh0 th0 fq_100_2 rfl mw_1_89 dX8_copyFrom_34 (fun b_8 hb_8 mb_8 tb_8 => ?_)
  refine lv_iconst (v := 0) hx hb dX8_copyFrom_37 (by decide) ?_
  refine lv_iconst (v := 4) hx hb dX8_copyFrom_38 (by decide) ?_
  refine t_cp (lo := (-2147483648)) (hi := 2147483647) hx hb (hml.trans hl.1.symm) hts hown mw_4_4 ⟨mw_3_239, mw_3_238, mw_1_20⟩ hK hLA hB hS mb_7 tb_7 ai_115 mb_8 tb_8 ai_109 (fun _ => ⟨show ((-2147483648) : Int) ≤ (-2147483648) by decide, show (2147483647 : Int) ≤ 2147483647 by decide⟩) (fun _ => rfl) (by decide) (by decide) (by decide) (by decide) (by decide) (by decide) (Nat.le_of_ble_eq_true rfl) (Nat.le_of_ble_eq_true rfl) dX8_copyFrom_39 (fun H locs σ_9 eσ_9 hB hS => ?_)
  refine lv_aload_n hx hb dX8_copyFrom_42 rfl (lv_at hl 1 rfl) ?_
  refine t_gr hx hb hts hown hK hG hB mh1 th1 fq_101_3 rfl mw_1_92 dX8_copyFrom_43 (fun b_10 hb_10 mb_10 tb_10 => ?_)
  refine lv_iconst (v := 0) hx hb dX8_copyFrom_46 (by decide) ?_
  refine lv_aload_n hx hb dX8_copyFrom_47 rfl (lv_at hl 0 rfl) ?_
  refine t_gr hx hb hts hown hK hG hB mh0 th0 fq_100_3 rfl mw_1_92 dX8_copyFrom_48 (fun b_11 hb_11 mb_11 tb_11 => ?_)
  refine lv_iconst (v := 0) hx hb dX8_copyFrom_51 (by decide) ?_
  refine lv_iconst (v := 4) hx hb dX8_copyFrom_52 (by decide) ?_
  refine t_cp (lo := (-2147483648)) (hi := 2147483647) hx hb (hml.trans hl.1.symm) hts hown mw_4_4 ⟨mw_3_239, mw_3_238, mw_1_20⟩ hK hLA hB hS mb_10 tb_10 ai_116 mb_11 tb_11 ai_110 (fun _ => ⟨show ((-2147483648) : Int) ≤ (-2147483648) by decide, show (2147483647 : Int) ≤ 2147483647 by decide⟩) (fun _ => rfl) (by decide) (by decide) (by decide) (by decide) (by decide) (by decide) (Nat.le_of_ble_eq_true rfl) (Nat.le_of_ble_eq_true rfl) dX8_copyFrom_53 (fun H locs σ_12 eσ_12 hB hS => ?_)
  refine lv_aload_n hx hb dX8_copyFrom_56 rfl (lv_at hl 1 rfl) ?_
  refine t_gr hx hb hts hown hK hG hB mh1 th1 fq_101_4 rfl mw_1_95 dX8_copyFrom_57 (fun b_13 hb_13 mb_13 tb_13 => ?_)
  refine lv_iconst (v := 0) hx hb dX8_copyFrom_60 (by decide) ?_
  refine lv_aload_n hx hb dX8_copyFrom_61 rfl (lv_at hl 0 rfl) ?_
  refine t_gr hx hb hts hown hK hG hB mh0 th0 fq_100_4 rfl mw_1_95 dX8_copyFrom_62 (fun b_14 hb_14 mb_14 tb_14 => ?_)
  refine lv_iconst (v := 0) hx hb dX8_copyFrom_65 (by decide) ?_
  refine lv_bipush (v := 20) hx hb dX8_copyFrom_66 (by decide) ?_
  refine t_cp (lo := (-2147483648)) (hi := 2147483647) hx hb (hml.trans hl.1.symm) hts hown mw_4_4 ⟨mw_3_239, mw_3_238, mw_1_20⟩ hK hLA hB hS mb_13 tb_13 ai_117 mb_14 tb_14 ai_111 (fun _ => ⟨show ((-2147483648) : Int) ≤ (-2147483648) by decide, show (2147483647 : Int) ≤ 2147483647 by decide⟩) (fun _ => rfl) (by decide) (by decide) (by decide) (by decide) (by decide) (by decide) (Nat.le_of_ble_eq_true rfl) (Nat.le_of_ble_eq_true rfl) dX8_copyFrom_68 (fun H locs σ_15 eσ_15 hB hS => ?_)
  refine lv_aload_n hx hb dX8_copyFrom_71 rfl (lv_at hl 1 rfl) ?_
  refine t_gr hx hb hts hown hK hG hB mh1 th1 fq_101_5 rfl mw_1_100 dX8_copyFrom_72 (fun b_16 hb_16 mb_16 tb_16 => ?_)
  refine lv_iconst (v := 0) hx hb dX8_copyFrom_75 (by decide) ?_
  refine lv_aload_n hx hb dX8_copyFrom_76 rfl (lv_at hl 0 rfl) ?_
  refine t_gr hx hb hts hown hK hG hB mh0 th0 fq_100_5 rfl mw_1_100 dX8_copyFrom_77 (fun b_17 hb_17 mb_17 tb_17 => ?_)
  refine lv_iconst (v := 0) hx hb dX8_copyFrom_80 (by decide) ?_
  refine lv_bipush (v := 40) hx hb dX8_copyFrom_81 (by decide) ?_
  refine t_cp (lo := 0) (hi := 99) hx hb (hml.trans hl.1.symm) hts hown mw_4_4 ⟨mw_3_239, mw_3_238, mw_1_20⟩ hK hLA hB hS mb_16 tb_16 ai_118 mb_17 tb_17 ai_112 (fun _ => ⟨show (0 : Int) ≤ 0 by decide, show (99 : Int) ≤ 99 by decide⟩) (fun _ => rfl) (by decide) (by decide) (by decide) (by decide) (by decide) (by decide) (Nat.le_of_ble_eq_true rfl) (Nat.le_of_ble_eq_true rfl) dX8_copyFrom_83 (fun H locs σ_18 eσ_18 hB hS => ?_)
  refine lv_aload_n hx hb dX8_copyFrom_86 rfl (lv_at hl 0 rfl) ?_
  refine lv_aload_n hx hb dX8_copyFrom_87 rfl (lv_at hl 1 rfl) ?_
  refine t_gi hx hb hts hown hK hB mh1 th1 fi_101_6 rfl mw_1_106 dX8_copyFrom_88 (fun x_19 ex_19 lx_19 ux_19 => ?_)
  refine t_pi hx hb hts hown hK hLA hB hS mh0 th0 fi_100_6 rfl rfl rfl (i_lo _) (i_hi _) (Or.inl (by decide)) mw_1_106 dX8_copyFrom_91 (fun H locs σ_20 eσ_20 hB hS => ?_)
  have k_21 : σ_20 h0 6 = x_19 := by rw [eσ_20]; exact up2_same _ _ _ _
  refine lv_aload_n hx hb dX8_copyFrom_94 rfl (lv_at hl 0 rfl) ?_
  refine lv_aload_n hx hb dX8_copyFrom_95 rfl (lv_at hl 1 rfl) ?_
  refine t_gi hx hb hts hown hK hB mh1 th1 fi_101_7 rfl mw_1_110 dX8_copyFrom_96 (fun x_22 ex_22 lx_22 ux_22 => ?_)
  refine t_pi hx hb hts hown hK hLA hB hS mh0 th0 fi_100_7 rfl rfl rfl (i_lo _) (i_hi _) (Or.inl (by decide)) mw_1_110 dX8_copyFrom_99 (fun H locs σ_23 eσ_23 hB hS => ?_)
  have k_24 : σ_23 h0 7 = x_22 := by rw [eσ_23]; exact up2_same _ _ _ _
  exact W.vret hx hb hr (fun t ht hW => ⟨⟨(σ_23, ρ), rfl, ⟨hB.2.1, hB.2.2, trivial⟩, (show TP D cA L T r σ_23 ρ t.heap from by rw [ht]; exact hB.1)⟩, hS.F ht⟩) hS.2.2 dX8_copyFrom_102
set_option maxHeartbeats 4000000 in
set_option maxRecDepth 100000 in
theorem cy_X8_copyFrom_105_8 (l : Launch) (D : va_G) (cA : Nat → ClassId) (L : List Nat) (T : Nat → Nat) (r : Rg) (hG : GR L T r) (hL : L.Nodup) (σ : Sg) (ρ : Lg) (hW : WT L ry T σ) (sz : Nat) (h0 : Nat) (mh0 : h0 ∈ L) (th0 : T h0 = 105) (h1 : Nat) (mh1 : h1 ∈ L) (th1 : T h1 = 8) : Met l yX8_copyFrom (.code yX8_copyFrom cX8_copyFrom 2 none :: wsA) ({ frames := 1, cells := 0, slots := 0, locals := 100 }) (PR D cA L T r σ ρ sz [.ref h0, .ref h1]) (QV D cA L T r ry [(105, 6), (105, 7), (137, 1000), (138, 1000), (139, 1000), (140, 1000), (141, 1000), (142, 1000)] σ sz (fun σ1 => True)) 0 0 (dm L sz) := by
  refine Met.ofW (cc := cX8_copyFrom) (maxL := 2) (ret := none) (by decide) rfl ?_
  intro p e s m args below meth c s₁ B hml hv
  obtain ⟨rfl, hsz, hP, hK, hN⟩ := hv
  have hx := B.exec
  have hb := B.bytes
  have hr := B.returns
  have hts : ∀ w ∈ wsA, w.before _ s = true := fun w h => atoms_spec (ws := .code yX8_copyFrom cX8_copyFrom 2 none :: wsA) B.pre w (List.mem_cons_of_mem _ h)
  have hown : s.vm.findClass RX8 = some m.cls := findClass_of_methodNamed B.named
  subst hsz
  have hLA : LA (dm L s.heap.size) L := ⟨hL, fun a h => Or.inl h⟩
  have hA : ∀ q : Nat, s.heap.size ≤ q → dm L s.heap.size q := fun q h => Or.inr h
  have hS : va_S (dm L s.heap.size) s.heap s.heap [] := va_S.rf
  have hB : TS D cA L T r ry [(105, 6), (105, 7), (137, 1000), (138, 1000), (139, 1000), (140, 1000), (141, 1000), (142, 1000)] σ σ ρ s.heap := ⟨hP, hW, FR.rf⟩
  have hl := lv_entry ([.ref h0, .ref h1]) (n := 2) (Nat.le_of_ble_eq_true rfl)
  rw [lg_entry_eq]
  generalize (lg_sl ([.ref h0, .ref h1]) ++ List.replicate (2 - (lg_sl ([.ref h0, .ref h1])).length) Slot.unset).toArray = ls at hl ⊢
  have hl : lv_has ls 2 [(0, .ref h0), (1, .ref h1)] := hl
  refine lv_aload_n hx hb dX8_copyFrom_0 rfl (lv_at hl 1 rfl) ?_
  refine t_gr hx hb hts hown hK hG hB mh1 th1 fq_8_0 rfl mw_1_80 dX8_copyFrom_1 (fun b_1 hb_1 mb_1 tb_1 => ?_)
  refine lv_iconst (v := 0) hx hb dX8_copyFrom_4 (by decide) ?_
  refine lv_aload_n hx hb dX8_copyFrom_5 rfl (lv_at hl 0 rfl) ?_
  refine t_gr hx hb hts hown hK hG hB mh0 th0 fq_105_0 rfl mw_1_80 dX8_copyFrom_6 (fun b_2 hb_2 mb_2 tb_2 => ?_)
  refine lv_iconst (v := 0) hx hb dX8_copyFrom_9 (by decide) ?_
  refine lv_iconst (v := 4) hx hb dX8_copyFrom_10 (by decide) ?_
  refine t_cp (lo := 0) (hi := 8) hx hb (hml.trans hl.1.symm) hts hown mw_4_4 ⟨mw_3_239, mw_3_238, mw_1_20⟩ hK hLA hB hS mb_1 tb_1 ai_45 mb_2 tb_2 ai_137 (fun _ => ⟨show (0 : Int) ≤ 0 by decide, show (8 : Int) ≤ 8 by decide⟩) (fun _ => rfl) (by decide) (by decide) (by decide) (by decide) (by decide) (by decide) (Nat.le_of_ble_eq_true rfl) (Nat.le_of_ble_eq_true rfl) dX8_copyFrom_11 (fun H locs σ_3 eσ_3 hB hS => ?_)
  refine lv_aload_n hx hb dX8_copyFrom_14 rfl (lv_at hl 1 rfl) ?_
  refine t_gr hx hb hts hown hK hG hB mh1 th1 fq_8_1 rfl mw_1_85 dX8_copyFrom_15 (fun b_4 hb_4 mb_4 tb_4 => ?_)
  refine lv_iconst (v := 0) hx hb dX8_copyFrom_18 (by decide) ?_
  refine lv_aload_n hx hb dX8_copyFrom_19 rfl (lv_at hl 0 rfl) ?_
  refine t_gr hx hb hts hown hK hG hB mh0 th0 fq_105_1 rfl mw_1_85 dX8_copyFrom_20 (fun b_5 hb_5 mb_5 tb_5 => ?_)
  refine lv_iconst (v := 0) hx hb dX8_copyFrom_23 (by decide) ?_
  refine lv_iconst (v := 4) hx hb dX8_copyFrom_24 (by decide) ?_
  refine t_cp (lo := (-2147483648)) (hi := 2147483647) hx hb (hml.trans hl.1.symm) hts hown mw_4_4 ⟨mw_3_239, mw_3_238, mw_1_20⟩ hK hLA hB hS mb_4 tb_4 ai_46 mb_5 tb_5 ai_138 (fun _ => ⟨show ((-2147483648) : Int) ≤ (-2147483648) by decide, show (2147483647 : Int) ≤ 2147483647 by decide⟩) (fun _ => rfl) (by decide) (by decide) (by decide) (by decide) (by decide) (by decide) (Nat.le_of_ble_eq_true rfl) (Nat.le_of_ble_eq_true rfl) dX8_copyFrom_25 (fun H locs σ_6 eσ_6 hB hS => ?_)
  refine lv_aload_n hx hb dX8_copyFrom_28 rfl (lv_at hl 1 rfl) ?_
  refine t_gr hx hb hts hown hK hG hB mh1 th1 fq_8_2 rfl mw_1_89 dX8_copyFrom_29 (fun b_7 hb_7 mb_7 tb_7 => ?_)
  refine lv_iconst (v := 0) hx hb dX8_copyFrom_32 (by decide) ?_
  refine lv_aload_n hx hb dX8_copyFrom_33 rfl (lv_at hl 0 rfl) ?_
  refine t_gr hx hb hts hown hK hG hB mh0 th0 fq_105_2 rfl mw_1_89 dX8_copyFrom_34 (fun b_8 hb_8 mb_8 tb_8 => ?_)
  refine lv_iconst (v := 0) hx hb dX8_copyFrom_37 (by decide) ?_
  refine lv_iconst (v := 4) hx hb dX8_copyFrom_38 (by decide) ?_
  refine t_cp (lo := (-2147483648)) (hi := 2147483647) hx hb (hml.trans hl.1.symm) hts hown mw_4_4 ⟨mw_3_239, mw_3_238, mw_1_20⟩ hK hLA hB hS mb_7 tb_7 ai_47 mb_8 tb_8 ai_139 (fun _ => ⟨show ((-2147483648) : Int) ≤ (-2147483648) by decide, show (2147483647 : Int) ≤ 2147483647 by decide⟩) (fun _ => rfl) (by decide) (by decide) (by decide) (by decide) (by decide) (by decide) (Nat.le_of_ble_eq_true rfl) (Nat.le_of_ble_eq_true rfl) dX8_copyFrom_39 (fun H locs σ_9 eσ_9 hB hS => ?_)
  refine lv_aload_n hx hb dX8_copyFrom_42 rfl (lv_at hl 1 rfl) ?_
  refine t_gr hx hb hts hown hK hG hB mh1 th1 fq_8_3 rfl mw_1_92 dX8_copyFrom_43 (fun b_10 hb_10 mb_10 tb_10 => ?_)
  refine lv_iconst (v := 0) hx hb dX8_copyFrom_46 (by decide) ?_
  refine lv_aload_n hx hb dX8_copyFrom_47 rfl (lv_at hl 0 rfl) ?_
  refine t_gr hx hb hts hown hK hG hB mh0 th0 fq_105_3 rfl mw_1_92 dX8_copyFrom_48 (fun b_11 hb_11 mb_11 tb_11 => ?_)
  refine lv_iconst (v := 0) hx hb dX8_copyFrom_51 (by decide) ?_
  refine lv_iconst (v := 4) hx hb dX8_copyFrom_52 (by decide) ?_
  refine t_cp (lo := (-2147483648)) (hi := 2147483647) hx hb (hml.trans hl.1.symm) hts hown mw_4_4 ⟨mw_3_239, mw_3_238, mw_1_20⟩ hK hLA hB hS mb_10 tb_10 ai_48 mb_11 tb_11 ai_140 (fun _ => ⟨show ((-2147483648) : Int) ≤ (-2147483648) by decide, show (2147483647 : Int) ≤ 2147483647 by decide⟩) (fun _ => rfl) (by decide) (by decide) (by decide) (by decide) (by decide) (by decide) (Nat.le_of_ble_eq_true rfl) (Nat.le_of_ble_eq_true rfl) dX8_copyFrom_53 (fun H locs σ_12 eσ_12 hB hS => ?_)
  refine lv_aload_n hx hb dX8_copyFrom_56 rfl (lv_at hl 1 rfl) ?_
  refine t_gr hx hb hts hown hK hG hB mh1 th1 fq_8_4 rfl mw_1_95 dX8_copyFrom_57 (fun b_13 hb_13 mb_13 tb_13 => ?_)
  refine lv_iconst (v := 0) hx hb dX8_copyFrom_60 (by decide) ?_
  refine lv_aload_n hx hb dX8_copyFrom_61 rfl (lv_at hl 0 rfl) ?_
  refine t_gr hx hb hts hown hK hG hB mh0 th0 fq_105_4 rfl mw_1_95 dX8_copyFrom_62 (fun b_14 hb_14 mb_14 tb_14 => ?_)
  refine lv_iconst (v := 0) hx hb dX8_copyFrom_65 (by decide) ?_
  refine lv_bipush (v := 20) hx hb dX8_copyFrom_66 (by decide) ?_
  refine t_cp (lo := (-2147483648)) (hi := 2147483647) hx hb (hml.trans hl.1.symm) hts hown mw_4_4 ⟨mw_3_239, mw_3_238, mw_1_20⟩ hK hLA hB hS mb_13 tb_13 ai_49 mb_14 tb_14 ai_141 (fun _ => ⟨show ((-2147483648) : Int) ≤ (-2147483648) by decide, show (2147483647 : Int) ≤ 2147483647 by decide⟩) (fun _ => rfl) (by decide) (by decide) (by decide) (by decide) (by decide) (by decide) (Nat.le_of_ble_eq_true rfl) (Nat.le_of_ble_eq_true rfl) dX8_copyFrom_68 (fun H locs σ_15 eσ_15 hB hS => ?_)
  refine lv_aload_n hx hb dX8_copyFrom_71 rfl (lv_at hl 1 rfl) ?_
  refine t_gr hx hb hts hown hK hG hB mh1 th1 fq_8_5 rfl mw_1_100 dX8_copyFrom_72 (fun b_16 hb_16 mb_16 tb_16 => ?_)
  refine lv_iconst (v := 0) hx hb dX8_copyFrom_75 (by decide) ?_
  refine lv_aload_n hx hb dX8_copyFrom_76 rfl (lv_at hl 0 rfl) ?_
  refine t_gr hx hb hts hown hK hG hB mh0 th0 fq_105_5 rfl mw_1_100 dX8_copyFrom_77 (fun b_17 hb_17 mb_17 tb_17 => ?_)
  refine lv_iconst (v := 0) hx hb dX8_copyFrom_80 (by decide) ?_
  refine lv_bipush (v := 40) hx hb dX8_copyFrom_81 (by decide) ?_
  refine t_cp (lo := 0) (hi := 99) hx hb (hml.trans hl.1.symm) hts hown mw_4_4 ⟨mw_3_239, mw_3_238, mw_1_20⟩ hK hLA hB hS mb_16 tb_16 ai_50 mb_17 tb_17 ai_142 (fun _ => ⟨show (0 : Int) ≤ 0 by decide, show (99 : Int) ≤ 99 by decide⟩) (fun _ => rfl) (by decide) (by decide) (by decide) (by decide) (by decide) (by decide) (Nat.le_of_ble_eq_true rfl) (Nat.le_of_ble_eq_true rfl) dX8_copyFrom_83 (fun H locs σ_18 eσ_18 hB hS => ?_)
  refine lv_aload_n hx hb dX8_copyFrom_86 rfl (lv_at hl 0 rfl) ?_
  refine lv_aload_n hx hb dX8_copyFrom_87 rfl (lv_at hl 1 rfl) ?_
  refine t_gi hx hb hts hown hK hB mh1 th1 fi_8_6 rfl mw_1_106 dX8_copyFrom_88 (fun x_19 ex_19 lx_19 ux_19 => ?_)
  refine t_pi hx hb hts hown hK hLA hB hS mh0 th0 fi_105_6 rfl rfl rfl (i_lo _) (i_hi _) (Or.inl (by decide)) mw_1_106 dX8_copyFrom_91 (fun H locs σ_20 eσ_20 hB hS => ?_)
  have k_21 : σ_20 h0 6 = x_19 := by rw [eσ_20]; exact up2_same _ _ _ _
  refine lv_aload_n hx hb dX8_copyFrom_94 rfl (lv_at hl 0 rfl) ?_
  refine lv_aload_n hx hb dX8_copyFrom_95 rfl (lv_at hl 1 rfl) ?_
  refine t_gi hx hb hts hown hK hB mh1 th1 fi_8_7 rfl mw_1_110 dX8_copyFrom_96 (fun x_22 ex_22 lx_22 ux_22 => ?_)
  refine t_pi hx hb hts hown hK hLA hB hS mh0 th0 fi_105_7 rfl rfl rfl (i_lo _) (i_hi _) (Or.inl (by decide)) mw_1_110 dX8_copyFrom_99 (fun H locs σ_23 eσ_23 hB hS => ?_)
  have k_24 : σ_23 h0 7 = x_22 := by rw [eσ_23]; exact up2_same _ _ _ _
  exact W.vret hx hb hr (fun t ht hW => ⟨⟨(σ_23, ρ), rfl, ⟨hB.2.1, hB.2.2, trivial⟩, (show TP D cA L T r σ_23 ρ t.heap from by rw [ht]; exact hB.1)⟩, hS.F ht⟩) hS.2.2 dX8_copyFrom_102
set_option maxHeartbeats 4000000 in
set_option maxRecDepth 100000 in
theorem cy_X8_copyFrom_106_100 (l : Launch) (D : va_G) (cA : Nat → ClassId) (L : List Nat) (T : Nat → Nat) (r : Rg) (hG : GR L T r) (hL : L.Nodup) (σ : Sg) (ρ : Lg) (hW : WT L ry T σ) (sz : Nat) (h0 : Nat) (mh0 : h0 ∈ L) (th0 : T h0 = 106) (h1 : Nat) (mh1 : h1 ∈ L) (th1 : T h1 = 100) : Met l yX8_copyFrom (.code yX8_copyFrom cX8_copyFrom 2 none :: wsA) ({ frames := 1, cells := 0, slots := 0, locals := 100 }) (PR D cA L T r σ ρ sz [.ref h0, .ref h1]) (QV D cA L T r ry [(106, 6), (106, 7), (143, 1000), (144, 1000), (145, 1000), (146, 1000), (147, 1000), (148, 1000)] σ sz (fun σ1 => True)) 0 0 (dm L sz) := by
  refine Met.ofW (cc := cX8_copyFrom) (maxL := 2) (ret := none) (by decide) rfl ?_
  intro p e s m args below meth c s₁ B hml hv
  obtain ⟨rfl, hsz, hP, hK, hN⟩ := hv
  have hx := B.exec
  have hb := B.bytes
  have hr := B.returns
  have hts : ∀ w ∈ wsA, w.before _ s = true := fun w h => atoms_spec (ws := .code yX8_copyFrom cX8_copyFrom 2 none :: wsA) B.pre w (List.mem_cons_of_mem _ h)
  have hown : s.vm.findClass RX8 = some m.cls := findClass_of_methodNamed B.named
  subst hsz
  have hLA : LA (dm L s.heap.size) L := ⟨hL, fun a h => Or.inl h⟩
  have hA : ∀ q : Nat, s.heap.size ≤ q → dm L s.heap.size q := fun q h => Or.inr h
  have hS : va_S (dm L s.heap.size) s.heap s.heap [] := va_S.rf
  have hB : TS D cA L T r ry [(106, 6), (106, 7), (143, 1000), (144, 1000), (145, 1000), (146, 1000), (147, 1000), (148, 1000)] σ σ ρ s.heap := ⟨hP, hW, FR.rf⟩
  have hl := lv_entry ([.ref h0, .ref h1]) (n := 2) (Nat.le_of_ble_eq_true rfl)
  rw [lg_entry_eq]
  generalize (lg_sl ([.ref h0, .ref h1]) ++ List.replicate (2 - (lg_sl ([.ref h0, .ref h1])).length) Slot.unset).toArray = ls at hl ⊢
  have hl : lv_has ls 2 [(0, .ref h0), (1, .ref h1)] := hl
  refine lv_aload_n hx hb dX8_copyFrom_0 rfl (lv_at hl 1 rfl) ?_
  refine t_gr hx hb hts hown hK hG hB mh1 th1 fq_100_0 rfl mw_1_80 dX8_copyFrom_1 (fun b_1 hb_1 mb_1 tb_1 => ?_)
  refine lv_iconst (v := 0) hx hb dX8_copyFrom_4 (by decide) ?_
  refine lv_aload_n hx hb dX8_copyFrom_5 rfl (lv_at hl 0 rfl) ?_
  refine t_gr hx hb hts hown hK hG hB mh0 th0 fq_106_0 rfl mw_1_80 dX8_copyFrom_6 (fun b_2 hb_2 mb_2 tb_2 => ?_)
  refine lv_iconst (v := 0) hx hb dX8_copyFrom_9 (by decide) ?_
  refine lv_iconst (v := 4) hx hb dX8_copyFrom_10 (by decide) ?_
  refine t_cp (lo := 0) (hi := 8) hx hb (hml.trans hl.1.symm) hts hown mw_4_4 ⟨mw_3_239, mw_3_238, mw_1_20⟩ hK hLA hB hS mb_1 tb_1 ai_107 mb_2 tb_2 ai_143 (fun _ => ⟨show (0 : Int) ≤ 0 by decide, show (8 : Int) ≤ 8 by decide⟩) (fun _ => rfl) (by decide) (by decide) (by decide) (by decide) (by decide) (by decide) (Nat.le_of_ble_eq_true rfl) (Nat.le_of_ble_eq_true rfl) dX8_copyFrom_11 (fun H locs σ_3 eσ_3 hB hS => ?_)
  refine lv_aload_n hx hb dX8_copyFrom_14 rfl (lv_at hl 1 rfl) ?_
  refine t_gr hx hb hts hown hK hG hB mh1 th1 fq_100_1 rfl mw_1_85 dX8_copyFrom_15 (fun b_4 hb_4 mb_4 tb_4 => ?_)
  refine lv_iconst (v := 0) hx hb dX8_copyFrom_18 (by decide) ?_
  refine lv_aload_n hx hb dX8_copyFrom_19 rfl (lv_at hl 0 rfl) ?_
  refine t_gr hx hb hts hown hK hG hB mh0 th0 fq_106_1 rfl mw_1_85 dX8_copyFrom_20 (fun b_5 hb_5 mb_5 tb_5 => ?_)
  refine lv_iconst (v := 0) hx hb dX8_copyFrom_23 (by decide) ?_
  refine lv_iconst (v := 4) hx hb dX8_copyFrom_24 (by decide) ?_
  refine t_cp (lo := (-2147483648)) (hi := 2147483647) hx hb (hml.trans hl.1.symm) hts hown mw_4_4 ⟨mw_3_239, mw_3_238, mw_1_20⟩ hK hLA hB hS mb_4 tb_4 ai_108 mb_5 tb_5 ai_144 (fun _ => ⟨show ((-2147483648) : Int) ≤ (-2147483648) by decide, show (2147483647 : Int) ≤ 2147483647 by decide⟩) (fun _ => rfl) (by decide) (by decide) (by decide) (by decide) (by decide) (by decide) (Nat.le_of_ble_eq_true rfl) (Nat.le_of_ble_eq_true rfl) dX8_copyFrom_25 (fun H locs σ_6 eσ_6 hB hS => ?_)
  refine lv_aload_n hx hb dX8_copyFrom_28 rfl (lv_at hl 1 rfl) ?_
  refine t_gr hx hb hts hown hK hG hB mh1 th1 fq_100_2 rfl mw_1_89 dX8_copyFrom_29 (fun b_7 hb_7 mb_7 tb_7 => ?_)
  refine lv_iconst (v := 0) hx hb dX8_copyFrom_32 (by decide) ?_
  refine lv_aload_n hx hb dX8_copyFrom_33 rfl (lv_at hl 0 rfl) ?_
  refine t_gr hx hb hts hown hK hG hB mh0 th0 fq_106_2 rfl mw_1_89 dX8_copyFrom_34 (fun b_8 hb_8 mb_8 tb_8 => ?_)
  refine lv_iconst (v := 0) hx hb dX8_copyFrom_37 (by decide) ?_
  refine lv_iconst (v := 4) hx hb dX8_copyFrom_38 (by decide) ?_
  refine t_cp (lo := (-2147483648)) (hi := 2147483647) hx hb (hml.trans hl.1.symm) hts hown mw_4_4 ⟨mw_3_239, mw_3_238, mw_1_20⟩ hK hLA hB hS mb_7 tb_7 ai_109 mb_8 tb_8 ai_145 (fun _ => ⟨show ((-2147483648) : Int) ≤ (-2147483648) by decide, show (2147483647 : Int) ≤ 2147483647 by decide⟩) (fun _ => rfl) (by decide) (by decide) (by decide) (by decide) (by decide) (by decide) (Nat.le_of_ble_eq_true rfl) (Nat.le_of_ble_eq_true rfl) dX8_copyFrom_39 (fun H locs σ_9 eσ_9 hB hS => ?_)
  refine lv_aload_n hx hb dX8_copyFrom_42 rfl (lv_at hl 1 rfl) ?_
  refine t_gr hx hb hts hown hK hG hB mh1 th1 fq_100_3 rfl mw_1_92 dX8_copyFrom_43 (fun b_10 hb_10 mb_10 tb_10 => ?_)
  refine lv_iconst (v := 0) hx hb dX8_copyFrom_46 (by decide) ?_
  refine lv_aload_n hx hb dX8_copyFrom_47 rfl (lv_at hl 0 rfl) ?_
  refine t_gr hx hb hts hown hK hG hB mh0 th0 fq_106_3 rfl mw_1_92 dX8_copyFrom_48 (fun b_11 hb_11 mb_11 tb_11 => ?_)
  refine lv_iconst (v := 0) hx hb dX8_copyFrom_51 (by decide) ?_
  refine lv_iconst (v := 4) hx hb dX8_copyFrom_52 (by decide) ?_
  refine t_cp (lo := (-2147483648)) (hi := 2147483647) hx hb (hml.trans hl.1.symm) hts hown mw_4_4 ⟨mw_3_239, mw_3_238, mw_1_20⟩ hK hLA hB hS mb_10 tb_10 ai_110 mb_11 tb_11 ai_146 (fun _ => ⟨show ((-2147483648) : Int) ≤ (-2147483648) by decide, show (2147483647 : Int) ≤ 2147483647 by decide⟩) (fun _ => rfl) (by decide) (by decide) (by decide) (by decide) (by decide) (by decide) (Nat.le_of_ble_eq_true rfl) (Nat.le_of_ble_eq_true rfl) dX8_copyFrom_53 (fun H locs σ_12 eσ_12 hB hS => ?_)
  refine lv_aload_n hx hb dX8_copyFrom_56 rfl (lv_at hl 1 rfl) ?_
  refine t_gr hx hb hts hown hK hG hB mh1 th1 fq_100_4 rfl mw_1_95 dX8_copyFrom_57 (fun b_13 hb_13 mb_13 tb_13 => ?_)
  refine lv_iconst (v := 0) hx hb dX8_copyFrom_60 (by decide) ?_
  refine lv_aload_n hx hb dX8_copyFrom_61 rfl (lv_at hl 0 rfl) ?_
  refine t_gr hx hb hts hown hK hG hB mh0 th0 fq_106_4 rfl mw_1_95 dX8_copyFrom_62 (fun b_14 hb_14 mb_14 tb_14 => ?_)
  refine lv_iconst (v := 0) hx hb dX8_copyFrom_65 (by decide) ?_
  refine lv_bipush (v := 20) hx hb dX8_copyFrom_66 (by decide) ?_
  refine t_cp (lo := (-2147483648)) (hi := 2147483647) hx hb (hml.trans hl.1.symm) hts hown mw_4_4 ⟨mw_3_239, mw_3_238, mw_1_20⟩ hK hLA hB hS mb_13 tb_13 ai_111 mb_14 tb_14 ai_147 (fun _ => ⟨show ((-2147483648) : Int) ≤ (-2147483648) by decide, show (2147483647 : Int) ≤ 2147483647 by decide⟩) (fun _ => rfl) (by decide) (by decide) (by decide) (by decide) (by decide) (by decide) (Nat.le_of_ble_eq_true rfl) (Nat.le_of_ble_eq_true rfl) dX8_copyFrom_68 (fun H locs σ_15 eσ_15 hB hS => ?_)
  refine lv_aload_n hx hb dX8_copyFrom_71 rfl (lv_at hl 1 rfl) ?_
  refine t_gr hx hb hts hown hK hG hB mh1 th1 fq_100_5 rfl mw_1_100 dX8_copyFrom_72 (fun b_16 hb_16 mb_16 tb_16 => ?_)
  refine lv_iconst (v := 0) hx hb dX8_copyFrom_75 (by decide) ?_
  refine lv_aload_n hx hb dX8_copyFrom_76 rfl (lv_at hl 0 rfl) ?_
  refine t_gr hx hb hts hown hK hG hB mh0 th0 fq_106_5 rfl mw_1_100 dX8_copyFrom_77 (fun b_17 hb_17 mb_17 tb_17 => ?_)
  refine lv_iconst (v := 0) hx hb dX8_copyFrom_80 (by decide) ?_
  refine lv_bipush (v := 40) hx hb dX8_copyFrom_81 (by decide) ?_
  refine t_cp (lo := 0) (hi := 99) hx hb (hml.trans hl.1.symm) hts hown mw_4_4 ⟨mw_3_239, mw_3_238, mw_1_20⟩ hK hLA hB hS mb_16 tb_16 ai_112 mb_17 tb_17 ai_148 (fun _ => ⟨show (0 : Int) ≤ 0 by decide, show (99 : Int) ≤ 99 by decide⟩) (fun _ => rfl) (by decide) (by decide) (by decide) (by decide) (by decide) (by decide) (Nat.le_of_ble_eq_true rfl) (Nat.le_of_ble_eq_true rfl) dX8_copyFrom_83 (fun H locs σ_18 eσ_18 hB hS => ?_)
  refine lv_aload_n hx hb dX8_copyFrom_86 rfl (lv_at hl 0 rfl) ?_
  refine lv_aload_n hx hb dX8_copyFrom_87 rfl (lv_at hl 1 rfl) ?_
  refine t_gi hx hb hts hown hK hB mh1 th1 fi_100_6 rfl mw_1_106 dX8_copyFrom_88 (fun x_19 ex_19 lx_19 ux_19 => ?_)
  refine t_pi hx hb hts hown hK hLA hB hS mh0 th0 fi_106_6 rfl rfl rfl (i_lo _) (i_hi _) (Or.inl (by decide)) mw_1_106 dX8_copyFrom_91 (fun H locs σ_20 eσ_20 hB hS => ?_)
  have k_21 : σ_20 h0 6 = x_19 := by rw [eσ_20]; exact up2_same _ _ _ _
  refine lv_aload_n hx hb dX8_copyFrom_94 rfl (lv_at hl 0 rfl) ?_
  refine lv_aload_n hx hb dX8_copyFrom_95 rfl (lv_at hl 1 rfl) ?_
  refine t_gi hx hb hts hown hK hB mh1 th1 fi_100_7 rfl mw_1_110 dX8_copyFrom_96 (fun x_22 ex_22 lx_22 ux_22 => ?_)
  refine t_pi hx hb hts hown hK hLA hB hS mh0 th0 fi_106_7 rfl rfl rfl (i_lo _) (i_hi _) (Or.inl (by decide)) mw_1_110 dX8_copyFrom_99 (fun H locs σ_23 eσ_23 hB hS => ?_)
  have k_24 : σ_23 h0 7 = x_22 := by rw [eσ_23]; exact up2_same _ _ _ _
  exact W.vret hx hb hr (fun t ht hW => ⟨⟨(σ_23, ρ), rfl, ⟨hB.2.1, hB.2.2, trivial⟩, (show TP D cA L T r σ_23 ρ t.heap from by rw [ht]; exact hB.1)⟩, hS.F ht⟩) hS.2.2 dX8_copyFrom_102
set_option maxHeartbeats 4000000 in
set_option maxRecDepth 100000 in
theorem cy_X8_copyFrom_8_105 (l : Launch) (D : va_G) (cA : Nat → ClassId) (L : List Nat) (T : Nat → Nat) (r : Rg) (hG : GR L T r) (hL : L.Nodup) (σ : Sg) (ρ : Lg) (hW : WT L ry T σ) (sz : Nat) (h0 : Nat) (mh0 : h0 ∈ L) (th0 : T h0 = 8) (h1 : Nat) (mh1 : h1 ∈ L) (th1 : T h1 = 105) : Met l yX8_copyFrom (.code yX8_copyFrom cX8_copyFrom 2 none :: wsA) ({ frames := 1, cells := 0, slots := 0, locals := 100 }) (PR D cA L T r σ ρ sz [.ref h0, .ref h1]) (QV D cA L T r ry [(8, 6), (8, 7), (45, 1000), (46, 1000), (47, 1000), (48, 1000), (49, 1000), (50, 1000)] σ sz (fun σ1 => True)) 0 0 (dm L sz) := by
  refine Met.ofW (cc := cX8_copyFrom) (maxL := 2) (ret := none) (by decide) rfl ?_
  intro p e s m args below meth c s₁ B hml hv
  obtain ⟨rfl, hsz, hP, hK, hN⟩ := hv
  have hx := B.exec
  have hb := B.bytes
  have hr := B.returns
  have hts : ∀ w ∈ wsA, w.before _ s = true := fun w h => atoms_spec (ws := .code yX8_copyFrom cX8_copyFrom 2 none :: wsA) B.pre w (List.mem_cons_of_mem _ h)
  have hown : s.vm.findClass RX8 = some m.cls := findClass_of_methodNamed B.named
  subst hsz
  have hLA : LA (dm L s.heap.size) L := ⟨hL, fun a h => Or.inl h⟩
  have hA : ∀ q : Nat, s.heap.size ≤ q → dm L s.heap.size q := fun q h => Or.inr h
  have hS : va_S (dm L s.heap.size) s.heap s.heap [] := va_S.rf
  have hB : TS D cA L T r ry [(8, 6), (8, 7), (45, 1000), (46, 1000), (47, 1000), (48, 1000), (49, 1000), (50, 1000)] σ σ ρ s.heap := ⟨hP, hW, FR.rf⟩
  have hl := lv_entry ([.ref h0, .ref h1]) (n := 2) (Nat.le_of_ble_eq_true rfl)
  rw [lg_entry_eq]
  generalize (lg_sl ([.ref h0, .ref h1]) ++ List.replicate (2 - (lg_sl ([.ref h0, .ref h1])).length) Slot.unset).toArray = ls at hl ⊢
  have hl : lv_has ls 2 [(0, .ref h0), (1, .ref h1)] := hl
  refine lv_aload_n hx hb dX8_copyFrom_0 rfl (lv_at hl 1 rfl) ?_
  refine t_gr hx hb hts hown hK hG hB mh1 th1 fq_105_0 rfl mw_1_80 dX8_copyFrom_1 (fun b_1 hb_1 mb_1 tb_1 => ?_)
  refine lv_iconst (v := 0) hx hb dX8_copyFrom_4 (by decide) ?_
  refine lv_aload_n hx hb dX8_copyFrom_5 rfl (lv_at hl 0 rfl) ?_
  refine t_gr hx hb hts hown hK hG hB mh0 th0 fq_8_0 rfl mw_1_80 dX8_copyFrom_6 (fun b_2 hb_2 mb_2 tb_2 => ?_)
  refine lv_iconst (v := 0) hx hb dX8_copyFrom_9 (by decide) ?_
  refine lv_iconst (v := 4) hx hb dX8_copyFrom_10 (by decide) ?_
  refine t_cp (lo := 0) (hi := 8) hx hb (hml.trans hl.1.symm) hts hown mw_4_4 ⟨mw_3_239, mw_3_238, mw_1_20⟩ hK hLA hB hS mb_1 tb_1 ai_137 mb_2 tb_2 ai_45 (fun _ => ⟨show (0 : Int) ≤ 0 by decide, show (8 : Int) ≤ 8 by decide⟩) (fun _ => rfl) (by decide) (by decide) (by decide) (by decide) (by decide) (by decide) (Nat.le_of_ble_eq_true rfl) (Nat.le_of_ble_eq_true rfl) dX8_copyFrom_11 (fun H locs σ_3 eσ_3 hB hS => ?_)
  refine lv_aload_n hx hb dX8_copyFrom_14 rfl (lv_at hl 1 rfl) ?_
  refine t_gr hx hb hts hown hK hG hB mh1 th1 fq_105_1 rfl mw_1_85 dX8_copyFrom_15 (fun b_4 hb_4 mb_4 tb_4 => ?_)
  refine lv_iconst (v := 0) hx hb dX8_copyFrom_18 (by decide) ?_
  refine lv_aload_n hx hb dX8_copyFrom_19 rfl (lv_at hl 0 rfl) ?_
  refine t_gr hx hb hts hown hK hG hB mh0 th0 fq_8_1 rfl mw_1_85 dX8_copyFrom_20 (fun b_5 hb_5 mb_5 tb_5 => ?_)
  refine lv_iconst (v := 0) hx hb dX8_copyFrom_23 (by decide) ?_
  refine lv_iconst (v := 4) hx hb dX8_copyFrom_24 (by decide) ?_
  refine t_cp (lo := (-2147483648)) (hi := 2147483647) hx hb (hml.trans hl.1.symm) hts hown mw_4_4 ⟨mw_3_239, mw_3_238, mw_1_20⟩ hK hLA hB hS mb_4 tb_4 ai_138 mb_5 tb_5 ai_46 (fun _ => ⟨show ((-2147483648) : Int) ≤ (-2147483648) by decide, show (2147483647 : Int) ≤ 2147483647 by decide⟩) (fun _ => rfl) (by decide) (by decide) (by decide) (by decide) (by decide) (by decide) (Nat.le_of_ble_eq_true rfl) (Nat.le_of_ble_eq_true rfl) dX8_copyFrom_25 (fun H locs σ_6 eσ_6 hB hS => ?_)
  refine lv_aload_n hx hb dX8_copyFrom_28 rfl (lv_at hl 1 rfl) ?_
  refine t_gr hx hb hts hown hK hG hB mh1 th1 fq_105_2 rfl mw_1_89 dX8_copyFrom_29 (fun b_7 hb_7 mb_7 tb_7 => ?_)
  refine lv_iconst (v := 0) hx hb dX8_copyFrom_32 (by decide) ?_
  refine lv_aload_n hx hb dX8_copyFrom_33 rfl (lv_at hl 0 rfl) ?_
  refine t_gr hx hb hts hown hK hG hB mh0 th0 fq_8_2 rfl mw_1_89 dX8_copyFrom_34 (fun b_8 hb_8 mb_8 tb_8 => ?_)
  refine lv_iconst (v := 0) hx hb dX8_copyFrom_37 (by decide) ?_
  refine lv_iconst (v := 4) hx hb dX8_copyFrom_38 (by decide) ?_
  refine t_cp (lo := (-2147483648)) (hi := 2147483647) hx hb (hml.trans hl.1.symm) hts hown mw_4_4 ⟨mw_3_239, mw_3_238, mw_1_20⟩ hK hLA hB hS mb_7 tb_7 ai_139 mb_8 tb_8 ai_47 (fun _ => ⟨show ((-2147483648) : Int) ≤ (-2147483648) by decide, show (2147483647 : Int) ≤ 2147483647 by decide⟩) (fun _ => rfl) (by decide) (by decide) (by decide) (by decide) (by decide) (by decide) (Nat.le_of_ble_eq_true rfl) (Nat.le_of_ble_eq_true rfl) dX8_copyFrom_39 (fun H locs σ_9 eσ_9 hB hS => ?_)
  refine lv_aload_n hx hb dX8_copyFrom_42 rfl (lv_at hl 1 rfl) ?_
  refine t_gr hx hb hts hown hK hG hB mh1 th1 fq_105_3 rfl mw_1_92 dX8_copyFrom_43 (fun b_10 hb_10 mb_10 tb_10 => ?_)
  refine lv_iconst (v := 0) hx hb dX8_copyFrom_46 (by decide) ?_
  refine lv_aload_n hx hb dX8_copyFrom_47 rfl (lv_at hl 0 rfl) ?_
  refine t_gr hx hb hts hown hK hG hB mh0 th0 fq_8_3 rfl mw_1_92 dX8_copyFrom_48 (fun b_11 hb_11 mb_11 tb_11 => ?_)
  refine lv_iconst (v := 0) hx hb dX8_copyFrom_51 (by decide) ?_
  refine lv_iconst (v := 4) hx hb dX8_copyFrom_52 (by decide) ?_
  refine t_cp (lo := (-2147483648)) (hi := 2147483647) hx hb (hml.trans hl.1.symm) hts hown mw_4_4 ⟨mw_3_239, mw_3_238, mw_1_20⟩ hK hLA hB hS mb_10 tb_10 ai_140 mb_11 tb_11 ai_48 (fun _ => ⟨show ((-2147483648) : Int) ≤ (-2147483648) by decide, show (2147483647 : Int) ≤ 2147483647 by decide⟩) (fun _ => rfl) (by decide) (by decide) (by decide) (by decide) (by decide) (by decide) (Nat.le_of_ble_eq_true rfl) (Nat.le_of_ble_eq_true rfl) dX8_copyFrom_53 (fun H locs σ_12 eσ_12 hB hS => ?_)
  refine lv_aload_n hx hb dX8_copyFrom_56 rfl (lv_at hl 1 rfl) ?_
  refine t_gr hx hb hts hown hK hG hB mh1 th1 fq_105_4 rfl mw_1_95 dX8_copyFrom_57 (fun b_13 hb_13 mb_13 tb_13 => ?_)
  refine lv_iconst (v := 0) hx hb dX8_copyFrom_60 (by decide) ?_
  refine lv_aload_n hx hb dX8_copyFrom_61 rfl (lv_at hl 0 rfl) ?_
  refine t_gr hx hb hts hown hK hG hB mh0 th0 fq_8_4 rfl mw_1_95 dX8_copyFrom_62 (fun b_14 hb_14 mb_14 tb_14 => ?_)
  refine lv_iconst (v := 0) hx hb dX8_copyFrom_65 (by decide) ?_
  refine lv_bipush (v := 20) hx hb dX8_copyFrom_66 (by decide) ?_
  refine t_cp (lo := (-2147483648)) (hi := 2147483647) hx hb (hml.trans hl.1.symm) hts hown mw_4_4 ⟨mw_3_239, mw_3_238, mw_1_20⟩ hK hLA hB hS mb_13 tb_13 ai_141 mb_14 tb_14 ai_49 (fun _ => ⟨show ((-2147483648) : Int) ≤ (-2147483648) by decide, show (2147483647 : Int) ≤ 2147483647 by decide⟩) (fun _ => rfl) (by decide) (by decide) (by decide) (by decide) (by decide) (by decide) (Nat.le_of_ble_eq_true rfl) (Nat.le_of_ble_eq_true rfl) dX8_copyFrom_68 (fun H locs σ_15 eσ_15 hB hS => ?_)
  refine lv_aload_n hx hb dX8_copyFrom_71 rfl (lv_at hl 1 rfl) ?_
  refine t_gr hx hb hts hown hK hG hB mh1 th1 fq_105_5 rfl mw_1_100 dX8_copyFrom_72 (fun b_16 hb_16 mb_16 tb_16 => ?_)
  refine lv_iconst (v := 0) hx hb dX8_copyFrom_75 (by decide) ?_
  refine lv_aload_n hx hb dX8_copyFrom_76 rfl (lv_at hl 0 rfl) ?_
  refine t_gr hx hb hts hown hK hG hB mh0 th0 fq_8_5 rfl mw_1_100 dX8_copyFrom_77 (fun b_17 hb_17 mb_17 tb_17 => ?_)
  refine lv_iconst (v := 0) hx hb dX8_copyFrom_80 (by decide) ?_
  refine lv_bipush (v := 40) hx hb dX8_copyFrom_81 (by decide) ?_
  refine t_cp (lo := 0) (hi := 99) hx hb (hml.trans hl.1.symm) hts hown mw_4_4 ⟨mw_3_239, mw_3_238, mw_1_20⟩ hK hLA hB hS mb_16 tb_16 ai_142 mb_17 tb_17 ai_50 (fun _ => ⟨show (0 : Int) ≤ 0 by decide, show (99 : Int) ≤ 99 by decide⟩) (fun _ => rfl) (by decide) (by decide) (by decide) (by decide) (by decide) (by decide) (Nat.le_of_ble_eq_true rfl) (Nat.le_of_ble_eq_true rfl) dX8_copyFrom_83 (fun H locs σ_18 eσ_18 hB hS => ?_)
  refine lv_aload_n hx hb dX8_copyFrom_86 rfl (lv_at hl 0 rfl) ?_
  refine lv_aload_n hx hb dX8_copyFrom_87 rfl (lv_at hl 1 rfl) ?_
  refine t_gi hx hb hts hown hK hB mh1 th1 fi_105_6 rfl mw_1_106 dX8_copyFrom_88 (fun x_19 ex_19 lx_19 ux_19 => ?_)
  refine t_pi hx hb hts hown hK hLA hB hS mh0 th0 fi_8_6 rfl rfl rfl (i_lo _) (i_hi _) (Or.inl (by decide)) mw_1_106 dX8_copyFrom_91 (fun H locs σ_20 eσ_20 hB hS => ?_)
  have k_21 : σ_20 h0 6 = x_19 := by rw [eσ_20]; exact up2_same _ _ _ _
  refine lv_aload_n hx hb dX8_copyFrom_94 rfl (lv_at hl 0 rfl) ?_
  refine lv_aload_n hx hb dX8_copyFrom_95 rfl (lv_at hl 1 rfl) ?_
  refine t_gi hx hb hts hown hK hB mh1 th1 fi_105_7 rfl mw_1_110 dX8_copyFrom_96 (fun x_22 ex_22 lx_22 ux_22 => ?_)
  refine t_pi hx hb hts hown hK hLA hB hS mh0 th0 fi_8_7 rfl rfl rfl (i_lo _) (i_hi _) (Or.inl (by decide)) mw_1_110 dX8_copyFrom_99 (fun H locs σ_23 eσ_23 hB hS => ?_)
  have k_24 : σ_23 h0 7 = x_22 := by rw [eσ_23]; exact up2_same _ _ _ _
  exact W.vret hx hb hr (fun t ht hW => ⟨⟨(σ_23, ρ), rfl, ⟨hB.2.1, hB.2.2, trivial⟩, (show TP D cA L T r σ_23 ρ t.heap from by rw [ht]; exact hB.1)⟩, hS.F ht⟩) hS.2.2 dX8_copyFrom_102
set_option maxHeartbeats 4000000 in
set_option maxRecDepth 100000 in
theorem cy_X8_copyFrom_100_106 (l : Launch) (D : va_G) (cA : Nat → ClassId) (L : List Nat) (T : Nat → Nat) (r : Rg) (hG : GR L T r) (hL : L.Nodup) (σ : Sg) (ρ : Lg) (hW : WT L ry T σ) (sz : Nat) (h0 : Nat) (mh0 : h0 ∈ L) (th0 : T h0 = 100) (h1 : Nat) (mh1 : h1 ∈ L) (th1 : T h1 = 106) : Met l yX8_copyFrom (.code yX8_copyFrom cX8_copyFrom 2 none :: wsA) ({ frames := 1, cells := 0, slots := 0, locals := 100 }) (PR D cA L T r σ ρ sz [.ref h0, .ref h1]) (QV D cA L T r ry [(100, 6), (100, 7), (107, 1000), (108, 1000), (109, 1000), (110, 1000), (111, 1000), (112, 1000)] σ sz (fun σ1 => True)) 0 0 (dm L sz) := by
  refine Met.ofW (cc := cX8_copyFrom) (maxL := 2) (ret := none) (by decide) rfl ?_
  intro p e s m args below meth c s₁ B hml hv
  obtain ⟨rfl, hsz, hP, hK, hN⟩ := hv
  have hx := B.exec
  have hb := B.bytes
  have hr := B.returns
  have hts : ∀ w ∈ wsA, w.before _ s = true := fun w h => atoms_spec (ws := .code yX8_copyFrom cX8_copyFrom 2 none :: wsA) B.pre w (List.mem_cons_of_mem _ h)
  have hown : s.vm.findClass RX8 = some m.cls := findClass_of_methodNamed B.named
  subst hsz
  have hLA : LA (dm L s.heap.size) L := ⟨hL, fun a h => Or.inl h⟩
  have hA : ∀ q : Nat, s.heap.size ≤ q → dm L s.heap.size q := fun q h => Or.inr h
  have hS : va_S (dm L s.heap.size) s.heap s.heap [] := va_S.rf
  have hB : TS D cA L T r ry [(100, 6), (100, 7), (107, 1000), (108, 1000), (109, 1000), (110, 1000), (111, 1000), (112, 1000)] σ σ ρ s.heap := ⟨hP, hW, FR.rf⟩
  have hl := lv_entry ([.ref h0, .ref h1]) (n := 2) (Nat.le_of_ble_eq_true rfl)
  rw [lg_entry_eq]
  generalize (lg_sl ([.ref h0, .ref h1]) ++ List.replicate (2 - (lg_sl ([.ref h0, .ref h1])).length) Slot.unset).toArray = ls at hl ⊢
  have hl : lv_has ls 2 [(0, .ref h0), (1, .ref h1)] := hl
  refine lv_aload_n hx hb dX8_copyFrom_0 rfl (lv_at hl 1 rfl) ?_
  refine t_gr hx hb hts hown hK hG hB mh1 th1 fq_106_0 rfl mw_1_80 dX8_copyFrom_1 (fun b_1 hb_1 mb_1 tb_1 => ?_)
  refine lv_iconst (v := 0) hx hb dX8_copyFrom_4 (by decide) ?_
  refine lv_aload_n hx hb dX8_copyFrom_5 rfl (lv_at hl 0 rfl) ?_
  refine t_gr hx hb hts hown hK hG hB mh0 th0 fq_100_0 rfl mw_1_80 dX8_copyFrom_6 (fun b_2 hb_2 mb_2 tb_2 => ?_)
  refine lv_iconst (v := 0) hx hb dX8_copyFrom_9 (by decide) ?_
  refine lv_iconst (v := 4) hx hb dX8_copyFrom_10 (by decide) ?_
  refine t_cp (lo := 0) (hi := 8) hx hb (hml.trans hl.1.symm) hts hown mw_4_4 ⟨mw_3_239, mw_3_238, mw_1_20⟩ hK hLA hB hS mb_1 tb_1 ai_143 mb_2 tb_2 ai_107 (fun _ => ⟨show (0 : Int) ≤ 0 by decide, show (8 : Int) ≤ 8 by decide⟩) (fun _ => rfl) (by decide) (by decide) (by decide) (by decide) (by decide) (by decide) (Nat.le_of_ble_eq_true rfl) (Nat.le_of_ble_eq_true rfl) dX8_copyFrom_11 (fun H locs σ_3 eσ_3 hB hS => ?_)
  refine lv_aload_n hx hb dX8_copyFrom_14 rfl (lv_at hl 1 rfl) ?_
  refine t_gr hx hb hts hown hK hG hB mh1 th1 fq_106_1 rfl mw_1_85 dX8_copyFrom_15 (fun b_4 hb_4 mb_4 tb_4 => ?_)
  refine lv_iconst (v := 0) hx hb dX8_copyFrom_18 (by decide) ?_
  refine lv_aload_n hx hb dX8_copyFrom_19 rfl (lv_at hl 0 rfl) ?_
  refine t_gr hx hb hts hown hK hG hB mh0 th0 fq_100_1 rfl mw_1_85 dX8_copyFrom_20 (fun b_5 hb_5 mb_5 tb_5 => ?_)
  refine lv_iconst (v := 0) hx hb dX8_copyFrom_23 (by decide) ?_
  refine lv_iconst (v := 4) hx hb dX8_copyFrom_24 (by decide) ?_
  refine t_cp (lo := (-2147483648)) (hi := 2147483647) hx hb (hml.trans hl.1.symm) hts hown mw_4_4 ⟨mw_3_239, mw_3_238, mw_1_20⟩ hK hLA hB hS mb_4 tb_4 ai_144 mb_5 tb_5 ai_108 (fun _ => ⟨show ((-2147483648) : Int) ≤ (-2147483648) by decide, show (2147483647 : Int) ≤ 2147483647 by decide⟩) (fun _ => rfl) (by decide) (by decide) (by decide) (by decide) (by decide) (by decide) (Nat.le_of_ble_eq_true rfl) (Nat.le_of_ble_eq_true rfl) dX8_copyFrom_25 (fun H locs σ_6 eσ_6 hB hS => ?_)
  refine lv_aload_n hx hb dX8_copyFrom_28 rfl (lv_at hl 1 rfl) ?_
  refine t_gr hx hb hts hown hK hG hB mh1 th1 fq_106_2 rfl mw_1_89 dX8_copyFrom_29 (fun b_7 hb_7 mb_7 tb_7 => ?_)
  refine lv_iconst (v := 0) hx hb dX8_copyFrom_32 (by decide) ?_
  refine lv_aload_n hx hb dX8_copyFrom_33 rfl (lv_at hl 0 rfl) ?_
  refine t_gr hx hb hts hown hK hG hB mh0 th0 fq_100_2 rfl mw_1_89 dX8_copyFrom_34 (fun b_8 hb_8 mb_8 tb_8 => ?_)
  refine lv_iconst (v := 0) hx hb dX8_copyFrom_37 (by decide) ?_
  refine lv_iconst (v := 4) hx hb dX8_copyFrom_38 (by decide) ?_
  refine t_cp (lo := (-2147483648)) (hi := 2147483647) hx hb (hml.trans hl.1.symm) hts hown mw_4_4 ⟨mw_3_239, mw_3_238, mw_1_20⟩ hK hLA hB hS mb_7 tb_7 ai_145 mb_8 tb_8 ai_109 (fun _ => ⟨show ((-2147483648) : Int) ≤ (-2147483648) by decide, show (2147483647 : Int) ≤ 2147483647 by decide⟩) (fun _ => rfl) (by decide) (by decide) (by decide) (by decide) (by decide) (by decide) (Nat.le_of_ble_eq_true rfl) (Nat.le_of_ble_eq_true rfl) dX8_copyFrom_39 (fun H locs σ_9 eσ_9 hB hS => ?_)
  refine lv_aload_n hx hb dX8_copyFrom_42 rfl (lv_at hl 1 rfl) ?_
  refine t_gr hx hb hts hown hK hG hB mh1 th1 fq_106_3 rfl mw_1_92 dX8_copyFrom_43 (fun b_10 hb_10 mb_10 tb_10 => ?_)
  refine lv_iconst (v := 0) hx hb dX8_copyFrom_46 (by decide) ?_
  refine lv_aload_n hx hb dX8_copyFrom_47 rfl (lv_at hl 0 rfl) ?_
  refine t_gr hx hb hts hown hK hG hB mh0 th0 fq_100_3 rfl mw_1_92 dX8_copyFrom_48 (fun b_11 hb_11 mb_11 tb_11 => ?_)
  refine lv_iconst (v := 0) hx hb dX8_copyFrom_51 (by decide) ?_
  refine lv_iconst (v := 4) hx hb dX8_copyFrom_52 (by decide) ?_
  refine t_cp (lo := (-2147483648)) (hi := 2147483647) hx hb (hml.trans hl.1.symm) hts hown mw_4_4 ⟨mw_3_239, mw_3_238, mw_1_20⟩ hK hLA hB hS mb_10 tb_10 ai_146 mb_11 tb_11 ai_110 (fun _ => ⟨show ((-2147483648) : Int) ≤ (-2147483648) by decide, show (2147483647 : Int) ≤ 2147483647 by decide⟩) (fun _ => rfl) (by decide) (by decide) (by decide) (by decide) (by decide) (by decide) (Nat.le_of_ble_eq_true rfl) (Nat.le_of_ble_eq_true rfl) dX8_copyFrom_53 (fun H locs σ_12 eσ_12 hB hS => ?_)
  refine lv_aload_n hx hb dX8_copyFrom_56 rfl (lv_at hl 1 rfl) ?_
  refine t_gr hx hb hts hown hK hG hB mh1 th1 fq_106_4 rfl mw_1_95 dX8_copyFrom_57 (fun b_13 hb_13 mb_13 tb_13 => ?_)
  refine lv_iconst (v := 0) hx hb dX8_copyFrom_60 (by decide) ?_
  refine lv_aload_n hx hb dX8_copyFrom_61 rfl (lv_at hl 0 rfl) ?_
  refine t_gr hx hb hts hown hK hG hB mh0 th0 fq_100_4 rfl mw_1_95 dX8_copyFrom_62 (fun b_14 hb_14 mb_14 tb_14 => ?_)
  refine lv_iconst (v := 0) hx hb dX8_copyFrom_65 (by decide) ?_
  refine lv_bipush (v := 20) hx hb dX8_copyFrom_66 (by decide) ?_
  refine t_cp (lo := (-2147483648)) (hi := 2147483647) hx hb (hml.trans hl.1.symm) hts hown mw_4_4 ⟨mw_3_239, mw_3_238, mw_1_20⟩ hK hLA hB hS mb_13 tb_13 ai_147 mb_14 tb_14 ai_111 (fun _ => ⟨show ((-2147483648) : Int) ≤ (-2147483648) by decide, show (2147483647 : Int) ≤ 2147483647 by decide⟩) (fun _ => rfl) (by decide) (by decide) (by decide) (by decide) (by decide) (by decide) (Nat.le_of_ble_eq_true rfl) (Nat.le_of_ble_eq_true rfl) dX8_copyFrom_68 (fun H locs σ_15 eσ_15 hB hS => ?_)
  refine lv_aload_n hx hb dX8_copyFrom_71 rfl (lv_at hl 1 rfl) ?_
  refine t_gr hx hb hts hown hK hG hB mh1 th1 fq_106_5 rfl mw_1_100 dX8_copyFrom_72 (fun b_16 hb_16 mb_16 tb_16 => ?_)
  refine lv_iconst (v := 0) hx hb dX8_copyFrom_75 (by decide) ?_
  refine lv_aload_n hx hb dX8_copyFrom_76 rfl (lv_at hl 0 rfl) ?_
  refine t_gr hx hb hts hown hK hG hB mh0 th0 fq_100_5 rfl mw_1_100 dX8_copyFrom_77 (fun b_17 hb_17 mb_17 tb_17 => ?_)
  refine lv_iconst (v := 0) hx hb dX8_copyFrom_80 (by decide) ?_
  refine lv_bipush (v := 40) hx hb dX8_copyFrom_81 (by decide) ?_
  refine t_cp (lo := 0) (hi := 99) hx hb (hml.trans hl.1.symm) hts hown mw_4_4 ⟨mw_3_239, mw_3_238, mw_1_20⟩ hK hLA hB hS mb_16 tb_16 ai_148 mb_17 tb_17 ai_112 (fun _ => ⟨show (0 : Int) ≤ 0 by decide, show (99 : Int) ≤ 99 by decide⟩) (fun _ => rfl) (by decide) (by decide) (by decide) (by decide) (by decide) (by decide) (Nat.le_of_ble_eq_true rfl) (Nat.le_of_ble_eq_true rfl) dX8_copyFrom_83 (fun H locs σ_18 eσ_18 hB hS => ?_)
  refine lv_aload_n hx hb dX8_copyFrom_86 rfl (lv_at hl 0 rfl) ?_
  refine lv_aload_n hx hb dX8_copyFrom_87 rfl (lv_at hl 1 rfl) ?_
  refine t_gi hx hb hts hown hK hB mh1 th1 fi_106_6 rfl mw_1_106 dX8_copyFrom_88 (fun x_19 ex_19 lx_19 ux_19 => ?_)
  refine t_pi hx hb hts hown hK hLA hB hS mh0 th0 fi_100_6 rfl rfl rfl (i_lo _) (i_hi _) (Or.inl (by decide)) mw_1_106 dX8_copyFrom_91 (fun H locs σ_20 eσ_20 hB hS => ?_)
  have k_21 : σ_20 h0 6 = x_19 := by rw [eσ_20]; exact up2_same _ _ _ _
  refine lv_aload_n hx hb dX8_copyFrom_94 rfl (lv_at hl 0 rfl) ?_
  refine lv_aload_n hx hb dX8_copyFrom_95 rfl (lv_at hl 1 rfl) ?_
  refine t_gi hx hb hts hown hK hB mh1 th1 fi_106_7 rfl mw_1_110 dX8_copyFrom_96 (fun x_22 ex_22 lx_22 ux_22 => ?_)
  refine t_pi hx hb hts hown hK hLA hB hS mh0 th0 fi_100_7 rfl rfl rfl (i_lo _) (i_hi _) (Or.inl (by decide)) mw_1_110 dX8_copyFrom_99 (fun H locs σ_23 eσ_23 hB hS => ?_)
  have k_24 : σ_23 h0 7 = x_22 := by rw [eσ_23]; exact up2_same _ _ _ _
  exact W.vret hx hb hr (fun t ht hW => ⟨⟨(σ_23, ρ), rfl, ⟨hB.2.1, hB.2.2, trivial⟩, (show TP D cA L T r σ_23 ρ t.heap from by rw [ht]; exact hB.1)⟩, hS.F ht⟩) hS.2.2 dX8_copyFrom_102
theorem mw_1_174 : (.fieldLink RX8 43 "HillBends$Hill" "sorts" "I" : Cond) ∈ wsA := wsA_t (List.mem_append_left _ (List.mem_of_getElem? (l := tables_1_1) (i := 174) rfl)) rfl
theorem mw_1_131 : (.fieldLink RX8 48 "HillBends$Hill" "weight" "[I" : Cond) ∈ wsA := wsA_t (List.mem_append_left _ (List.mem_of_getElem? (l := tables_1_1) (i := 131) rfl)) rfl
theorem dX8_weightOf_0 : decode cX8_weightOf 0 = .ok (.iconst 0, 1) := by decide +kernel
theorem dX8_weightOf_1 : decode cX8_weightOf 1 = .ok (.istore_n 3, 1) := by decide +kernel
theorem dX8_weightOf_2 : decode cX8_weightOf 2 = .ok (.iconst 0, 1) := by decide +kernel
theorem dX8_weightOf_3 : decode cX8_weightOf 3 = .ok (.istore 4, 2) := by decide +kernel
theorem dX8_weightOf_5 : decode cX8_weightOf 5 = .ok (.iload 4, 2) := by decide +kernel
theorem dX8_weightOf_7 : decode cX8_weightOf 7 = .ok (.aload_n 1, 1) := by decide +kernel
theorem dX8_weightOf_8 : decode cX8_weightOf 8 = .ok (.getfield 43, 3) := by decide +kernel
theorem dX8_weightOf_11 : decode cX8_weightOf 11 = .ok (.if_icmp .ge 31, 3) := by decide +kernel
theorem dX8_weightOf_42 : decode cX8_weightOf 42 = .ok (.iload_n 3, 1) := by decide +kernel
theorem dX8_weightOf_43 : decode cX8_weightOf 43 = .ok (.ireturn, 1) := by decide +kernel
theorem dX8_weightOf_14 : decode cX8_weightOf 14 = .ok (.iload_n 3, 1) := by decide +kernel
theorem dX8_weightOf_15 : decode cX8_weightOf 15 = .ok (.aload_n 0, 1) := by decide +kernel
theorem dX8_weightOf_16 : decode cX8_weightOf 16 = .ok (.getfield 24, 3) := by decide +kernel
theorem dX8_weightOf_19 : decode cX8_weightOf 19 = .ok (.iload_n 2, 1) := by decide +kernel
theorem dX8_weightOf_20 : decode cX8_weightOf 20 = .ok (.iconst 5, 1) := by decide +kernel
theorem dX8_weightOf_21 : decode cX8_weightOf 21 = .ok (.imul, 1) := by decide +kernel
theorem dX8_weightOf_22 : decode cX8_weightOf 22 = .ok (.iload 4, 2) := by decide +kernel
theorem dX8_weightOf_24 : decode cX8_weightOf 24 = .ok (.iadd, 1) := by decide +kernel
theorem dX8_weightOf_25 : decode cX8_weightOf 25 = .ok (.iaload, 1) := by decide +kernel
theorem dX8_weightOf_26 : decode cX8_weightOf 26 = .ok (.aload_n 1, 1) := by decide +kernel
theorem dX8_weightOf_27 : decode cX8_weightOf 27 = .ok (.getfield 48, 3) := by decide +kernel
theorem dX8_weightOf_30 : decode cX8_weightOf 30 = .ok (.iload 4, 2) := by decide +kernel
theorem dX8_weightOf_32 : decode cX8_weightOf 32 = .ok (.iaload, 1) := by decide +kernel
theorem dX8_weightOf_33 : decode cX8_weightOf 33 = .ok (.imul, 1) := by decide +kernel
theorem dX8_weightOf_34 : decode cX8_weightOf 34 = .ok (.iadd, 1) := by decide +kernel
theorem dX8_weightOf_35 : decode cX8_weightOf 35 = .ok (.istore_n 3, 1) := by decide +kernel
theorem dX8_weightOf_36 : decode cX8_weightOf 36 = .ok (.iinc 4 1, 3) := by decide +kernel
theorem dX8_weightOf_39 : decode cX8_weightOf 39 = .ok (.goto (-34), 3) := by decide +kernel
set_option maxHeartbeats 4000000 in
set_option maxRecDepth 100000 in
theorem cy_X8_weightOf_8 (l : Launch) (D : va_G) (cA : Nat → ClassId) (L : List Nat) (T : Nat → Nat) (r : Rg) (hG : GR L T r) (hL : L.Nodup) (σ : Sg) (ρ : Lg) (hW : WT L ry T σ) (sz : Nat) (h0 : Nat) (mh0 : h0 ∈ L) (th0 : T h0 = 8) (h1 : Nat) (mh1 : h1 ∈ L) (th1 : T h1 = 3) (p2 : Int32) (w0 : 0 ≤ p2.toInt) (w1 : p2.toInt ≤ 3) : Met l yX8_weightOf (.code yX8_weightOf cX8_weightOf 5 (some .int) :: wsA) ({ frames := 0, cells := 0, slots := 0, locals := 0 }) (PR D cA L T r σ ρ sz [.ref h0, .ref h1, .int p2]) (QI D cA L T r ry ([] : List (Nat × Nat)) σ sz (fun x σ1 => True)) 0 0 (dm L sz) := by
  refine Met.ofW (cc := cX8_weightOf) (maxL := 5) (ret := (some .int)) (by decide) rfl ?_
  intro p e s m args below meth c s₁ B hml hv
  obtain ⟨rfl, hsz, hP, hK, hN⟩ := hv
  have hx := B.exec
  have hb := B.bytes
  have hr := B.returns
  have hts : ∀ w ∈ wsA, w.before _ s = true := fun w h => atoms_spec (ws := .code yX8_weightOf cX8_weightOf 5 (some .int) :: wsA) B.pre w (List.mem_cons_of_mem _ h)
  have hown : s.vm.findClass RX8 = some m.cls := findClass_of_methodNamed B.named
  subst hsz
  have hLA : LA (dm L s.heap.size) L := ⟨hL, fun a h => Or.inl h⟩
  have hA : ∀ q : Nat, s.heap.size ≤ q → dm L s.heap.size q := fun q h => Or.inr h
  have hS : va_S (dm L s.heap.size) s.heap s.heap [] := va_S.rf
  have hB : TS D cA L T r ry ([] : List (Nat × Nat)) σ σ ρ s.heap := ⟨hP, hW, FR.rf⟩
  have hl := lv_entry ([.ref h0, .ref h1, .int p2]) (n := 5) (Nat.le_of_ble_eq_true rfl)
  rw [lg_entry_eq]
  generalize (lg_sl ([.ref h0, .ref h1, .int p2]) ++ List.replicate (5 - (lg_sl ([.ref h0, .ref h1, .int p2])).length) Slot.unset).toArray = ls at hl ⊢
  have hl : lv_has ls 5 [(0, .ref h0), (1, .ref h1), (2, .int p2)] := hl
  refine lv_iconst (v := 0) hx hb dX8_weightOf_0 (by decide) ?_
  refine lv_istore_n (lv' := [(3, .int 0), (0, .ref h0), (1, .ref h1), (2, .int p2)]) hx hb dX8_weightOf_1 rfl hl (by decide) rfl (fun ls hl => ?_)
  refine lv_iconst (v := 0) hx hb dX8_weightOf_2 (by decide) ?_
  refine lv_istore (lv' := [(4, .int 0), (3, .int 0), (0, .ref h0), (1, .ref h1), (2, .int p2)]) hx hb dX8_weightOf_3 hl (by decide) rfl (fun ls hl => ?_)
  refine w_loop (α := Int32 × Int32 × Sg × Lg) (fun (i_1, i_2, σ_3, ρ_4) H locs ls => 0 ≤ i_2.toInt ∧ i_2.toInt ≤ 5 ∧ TS D cA L T r ry ([] : List (Nat × Nat)) σ σ_3 ρ_4 H ∧ va_S (dm L s.heap.size) s.heap H locs ∧ lv_has ls 5 [(4, .int i_2), (3, .int i_1), (0, .ref h0), (1, .ref h1), (2, .int p2)]) (fun (i_1, i_2, σ_3, ρ_4) => (5 - i_2.toInt).toNat) ?_ ⟨0, 0, σ, ρ⟩ ⟨(by decide), (by decide), hB, hS, lv_sub hl [0, 1, 2, 3, 4] rfl⟩
  rintro ⟨i_1, i_2, σ_3, ρ_4⟩ H locs ls ⟨li_2, ui_2, hB, hS, hl⟩ ih_5
  refine lv_iload hx hb dX8_weightOf_5 (lv_at hl 0 rfl) ?_
  refine lv_aload_n hx hb dX8_weightOf_7 rfl (lv_at hl 3 rfl) ?_
  refine t_gi hx hb hts hown hK hB mh1 th1 fi_3_8 rfl mw_1_174 dX8_weightOf_8 (fun x_6 ex_6 lx_6 ux_6 => ?_)
  refine lv_icmp_ge (tgt := 42) hx hb dX8_weightOf_11 (by decide) (fun c_7 => ?_) (fun c_7 => ?_)
  · skip
    have uc_7 := j_le c_7
    refine lv_iload_n hx hb dX8_weightOf_42 rfl (lv_at hl 1 rfl) ?_
    exact W.iret (v := i_1) hx hb hr (fun t ht hW => ⟨⟨i_1, (σ_3, ρ_4), rfl, ⟨hB.2.1, hB.2.2, trivial⟩, (show TP D cA L T r σ_3 ρ_4 t.heap from by rw [ht]; exact hB.1)⟩, hS.F ht⟩) hS.2.2 dX8_weightOf_43
  · skip
    have uc_7 := j_nle c_7
    refine lv_iload_n hx hb dX8_weightOf_14 rfl (lv_at hl 1 rfl) ?_
    refine lv_aload_n hx hb dX8_weightOf_15 rfl (lv_at hl 2 rfl) ?_
    refine t_gr hx hb hts hown hK hG hB mh0 th0 fq_8_4 rfl mw_1_95 dX8_weightOf_16 (fun b_8 hb_8 mb_8 tb_8 => ?_)
    refine lv_iload_n hx hb dX8_weightOf_19 rfl (lv_at hl 4 rfl) ?_
    refine lv_iconst (v := 5) hx hb dX8_weightOf_20 (by decide) ?_
    refine lv_imul hx hb dX8_weightOf_21 ?_
    refine lv_topi (fun x_9 ex_9 => ?_)
    have vx_9 := b_mul (rfl : p2.toInt = _) (by decide : (5 : Int32).toInt = 5) ex_9 (by omega) (by omega)
    refine lv_iload hx hb dX8_weightOf_22 (lv_at hl 0 rfl) ?_
    refine lv_iadd hx hb dX8_weightOf_24 ?_
    refine lv_topi (fun x_10 ex_10 => ?_)
    have vx_10 := b_add (rfl : x_9.toInt = _) (rfl : i_2.toInt = _) ex_10 (by omega) (by omega)
    refine t_ai hx hb hK hB mb_8 tb_8 ai_49 (fun _ => rfl) (i_in (by omega) (by omega)) dX8_weightOf_25 (fun x_11 ex_11 lx_11 ux_11 => ?_)
    refine lv_aload_n hx hb dX8_weightOf_26 rfl (lv_at hl 3 rfl) ?_
    refine t_gr hx hb hts hown hK hG hB mh1 th1 fq_3_0 rfl mw_1_131 dX8_weightOf_27 (fun b_12 hb_12 mb_12 tb_12 => ?_)
    refine lv_iload hx hb dX8_weightOf_30 (lv_at hl 0 rfl) ?_
    refine t_ai hx hb hK hB mb_12 tb_12 ai_33 (fun _ => rfl) (i_in (by omega) (by omega)) dX8_weightOf_32 (fun x_13 ex_13 lx_13 ux_13 => ?_)
    refine lv_imul hx hb dX8_weightOf_33 ?_
    refine lv_topi (fun x_14 ex_14 => ?_)
    refine lv_iadd hx hb dX8_weightOf_34 ?_
    refine lv_topi (fun x_15 ex_15 => ?_)
    refine lv_istore_n (lv' := [(3, .int x_15), (4, .int i_2), (0, .ref h0), (1, .ref h1), (2, .int p2)]) hx hb dX8_weightOf_35 rfl hl (by decide) rfl (fun ls hl => ?_)
    obtain ⟨x_16, ex_16⟩ : ∃ y : Int32, y = i_2 + 1 := ⟨_, rfl⟩
    have vx_16 := b_add (rfl : i_2.toInt = _) (by decide : (1 : Int32).toInt = 1) ex_16 (by omega) (by omega)
    refine lv_iinc (v := x_16) (lv' := [(4, .int x_16), (3, .int x_15), (0, .ref h0), (1, .ref h1), (2, .int p2)]) hx hb dX8_weightOf_36 hl (k := 1) rfl (by rw [ex_16]; rfl) (by decide) rfl (fun ls hl => ?_)
    refine lv_goto (tgt := 5) hx hb dX8_weightOf_39 (by decide) ?_
    exact ih_5 ⟨x_15, x_16, σ_3, ρ_4⟩ _ _ _ ⟨(by omega), (by omega), hB, hS, lv_sub hl [0, 1, 2, 3, 4] rfl⟩ (by show (5 - x_16.toInt).toNat < (5 - i_2.toInt).toNat; omega)
set_option maxHeartbeats 4000000 in
set_option maxRecDepth 100000 in
theorem cy_X8_weightOf_101 (l : Launch) (D : va_G) (cA : Nat → ClassId) (L : List Nat) (T : Nat → Nat) (r : Rg) (hG : GR L T r) (hL : L.Nodup) (σ : Sg) (ρ : Lg) (hW : WT L ry T σ) (sz : Nat) (h0 : Nat) (mh0 : h0 ∈ L) (th0 : T h0 = 101) (h1 : Nat) (mh1 : h1 ∈ L) (th1 : T h1 = 17) (p2 : Int32) (w0 : 0 ≤ p2.toInt) (w1 : p2.toInt ≤ 3) : Met l yX8_weightOf (.code yX8_weightOf cX8_weightOf 5 (some .int) :: wsA) ({ frames := 0, cells := 0, slots := 0, locals := 0 }) (PR D cA L T r σ ρ sz [.ref h0, .ref h1, .int p2]) (QI D cA L T r ry ([] : List (Nat × Nat)) σ sz (fun x σ1 => True)) 0 0 (dm L sz) := by
  refine Met.ofW (cc := cX8_weightOf) (maxL := 5) (ret := (some .int)) (by decide) rfl ?_
  intro p e s m args below meth c s₁ B hml hv
  obtain ⟨rfl, hsz, hP, hK, hN⟩ := hv
  have hx := B.exec
  have hb := B.bytes
  have hr := B.returns
  have hts : ∀ w ∈ wsA, w.before _ s = true := fun w h => atoms_spec (ws := .code yX8_weightOf cX8_weightOf 5 (some .int) :: wsA) B.pre w (List.mem_cons_of_mem _ h)
  have hown : s.vm.findClass RX8 = some m.cls := findClass_of_methodNamed B.named
  subst hsz
  have hLA : LA (dm L s.heap.size) L := ⟨hL, fun a h => Or.inl h⟩
  have hA : ∀ q : Nat, s.heap.size ≤ q → dm L s.heap.size q := fun q h => Or.inr h
  have hS : va_S (dm L s.heap.size) s.heap s.heap [] := va_S.rf
  have hB : TS D cA L T r ry ([] : List (Nat × Nat)) σ σ ρ s.heap := ⟨hP, hW, FR.rf⟩
  have hl := lv_entry ([.ref h0, .ref h1, .int p2]) (n := 5) (Nat.le_of_ble_eq_true rfl)
  rw [lg_entry_eq]
  generalize (lg_sl ([.ref h0, .ref h1, .int p2]) ++ List.replicate (5 - (lg_sl ([.ref h0, .ref h1, .int p2])).length) Slot.unset).toArray = ls at hl ⊢
  have hl : lv_has ls 5 [(0, .ref h0), (1, .ref h1), (2, .int p2)] := hl
  refine lv_iconst (v := 0) hx hb dX8_weightOf_0 (by decide) ?_
  refine lv_istore_n (lv' := [(3, .int 0), (0, .ref h0), (1, .ref h1), (2, .int p2)]) hx hb dX8_weightOf_1 rfl hl (by decide) rfl (fun ls hl => ?_)
  refine lv_iconst (v := 0) hx hb dX8_weightOf_2 (by decide) ?_
  refine lv_istore (lv' := [(4, .int 0), (3, .int 0), (0, .ref h0), (1, .ref h1), (2, .int p2)]) hx hb dX8_weightOf_3 hl (by decide) rfl (fun ls hl => ?_)
  refine w_loop (α := Int32 × Int32 × Sg × Lg) (fun (i_1, i_2, σ_3, ρ_4) H locs ls => 0 ≤ i_2.toInt ∧ i_2.toInt ≤ 5 ∧ TS D cA L T r ry ([] : List (Nat × Nat)) σ σ_3 ρ_4 H ∧ va_S (dm L s.heap.size) s.heap H locs ∧ lv_has ls 5 [(4, .int i_2), (3, .int i_1), (0, .ref h0), (1, .ref h1), (2, .int p2)]) (fun (i_1, i_2, σ_3, ρ_4) => (5 - i_2.toInt).toNat) ?_ ⟨0, 0, σ, ρ⟩ ⟨(by decide), (by decide), hB, hS, lv_sub hl [0, 1, 2, 3, 4] rfl⟩
  rintro ⟨i_1, i_2, σ_3, ρ_4⟩ H locs ls ⟨li_2, ui_2, hB, hS, hl⟩ ih_5
  refine lv_iload hx hb dX8_weightOf_5 (lv_at hl 0 rfl) ?_
  refine lv_aload_n hx hb dX8_weightOf_7 rfl (lv_at hl 3 rfl) ?_
  refine t_gi hx hb hts hown hK hB mh1 th1 fi_17_8 rfl mw_1_174 dX8_weightOf_8 (fun x_6 ex_6 lx_6 ux_6 => ?_)
  refine lv_icmp_ge (tgt := 42) hx hb dX8_weightOf_11 (by decide) (fun c_7 => ?_) (fun c_7 => ?_)
  · skip
    have uc_7 := j_le c_7
    refine lv_iload_n hx hb dX8_weightOf_42 rfl (lv_at hl 1 rfl) ?_
    exact W.iret (v := i_1) hx hb hr (fun t ht hW => ⟨⟨i_1, (σ_3, ρ_4), rfl, ⟨hB.2.1, hB.2.2, trivial⟩, (show TP D cA L T r σ_3 ρ_4 t.heap from by rw [ht]; exact hB.1)⟩, hS.F ht⟩) hS.2.2 dX8_weightOf_43
  · skip
    have uc_7 := j_nle c_7
    refine lv_iload_n hx hb dX8_weightOf_14 rfl (lv_at hl 1 rfl) ?_
    refine lv_aload_n hx hb dX8_weightOf_15 rfl (lv_at hl 2 rfl) ?_
    refine t_gr hx hb hts hown hK hG hB mh0 th0 fq_101_4 rfl mw_1_95 dX8_weightOf_16 (fun b_8 hb_8 mb_8 tb_8 => ?_)
    refine lv_iload_n hx hb dX8_weightOf_19 rfl (lv_at hl 4 rfl) ?_
    refine lv_iconst (v := 5) hx hb dX8_weightOf_20 (by decide) ?_
    refine lv_imul hx hb dX8_weightOf_21 ?_
    refine lv_topi (fun x_9 ex_9 => ?_)
    have vx_9 := b_mul (rfl : p2.toInt = _) (by decide : (5 : Int32).toInt = 5) ex_9 (by omega) (by omega)
    refine lv_iload hx hb dX8_weightOf_22 (lv_at hl 0 rfl) ?_
    refine lv_iadd hx hb dX8_weightOf_24 ?_
    refine lv_topi (fun x_10 ex_10 => ?_)
    have vx_10 := b_add (rfl : x_9.toInt = _) (rfl : i_2.toInt = _) ex_10 (by omega) (by omega)
    refine t_ai hx hb hK hB mb_8 tb_8 ai_117 (fun _ => rfl) (i_in (by omega) (by omega)) dX8_weightOf_25 (fun x_11 ex_11 lx_11 ux_11 => ?_)
    refine lv_aload_n hx hb dX8_weightOf_26 rfl (lv_at hl 3 rfl) ?_
    refine t_gr hx hb hts hown hK hG hB mh1 th1 fq_17_0 rfl mw_1_131 dX8_weightOf_27 (fun b_12 hb_12 mb_12 tb_12 => ?_)
    refine lv_iload hx hb dX8_weightOf_30 (lv_at hl 0 rfl) ?_
    refine t_ai hx hb hK hB mb_12 tb_12 ai_90 (fun _ => rfl) (i_in (by omega) (by omega)) dX8_weightOf_32 (fun x_13 ex_13 lx_13 ux_13 => ?_)
    refine lv_imul hx hb dX8_weightOf_33 ?_
    refine lv_topi (fun x_14 ex_14 => ?_)
    refine lv_iadd hx hb dX8_weightOf_34 ?_
    refine lv_topi (fun x_15 ex_15 => ?_)
    refine lv_istore_n (lv' := [(3, .int x_15), (4, .int i_2), (0, .ref h0), (1, .ref h1), (2, .int p2)]) hx hb dX8_weightOf_35 rfl hl (by decide) rfl (fun ls hl => ?_)
    obtain ⟨x_16, ex_16⟩ : ∃ y : Int32, y = i_2 + 1 := ⟨_, rfl⟩
    have vx_16 := b_add (rfl : i_2.toInt = _) (by decide : (1 : Int32).toInt = 1) ex_16 (by omega) (by omega)
    refine lv_iinc (v := x_16) (lv' := [(4, .int x_16), (3, .int x_15), (0, .ref h0), (1, .ref h1), (2, .int p2)]) hx hb dX8_weightOf_36 hl (k := 1) rfl (by rw [ex_16]; rfl) (by decide) rfl (fun ls hl => ?_)
    refine lv_goto (tgt := 5) hx hb dX8_weightOf_39 (by decide) ?_
    exact ih_5 ⟨x_15, x_16, σ_3, ρ_4⟩ _ _ _ ⟨(by omega), (by omega), hB, hS, lv_sub hl [0, 1, 2, 3, 4] rfl⟩ (by show (5 - x_16.toInt).toNat < (5 - i_2.toInt).toNat; omega)
theorem mw_1_138 : (.fieldLink RX8 51 "HillBends$Hill" "worth" "[I" : Cond) ∈ wsA := wsA_t (List.mem_append_left _ (List.mem_of_getElem? (l := tables_1_1) (i := 138) rfl)) rfl
theorem dX8_wealthOf_0 : decode cX8_wealthOf 0 = .ok (.aload_n 0, 1) := by decide +kernel
theorem dX8_wealthOf_1 : decode cX8_wealthOf 1 = .ok (.getfield 15, 3) := by decide +kernel
theorem dX8_wealthOf_4 : decode cX8_wealthOf 4 = .ok (.iload_n 2, 1) := by decide +kernel
theorem dX8_wealthOf_5 : decode cX8_wealthOf 5 = .ok (.iaload, 1) := by decide +kernel
theorem dX8_wealthOf_6 : decode cX8_wealthOf 6 = .ok (.istore_n 3, 1) := by decide +kernel
theorem dX8_wealthOf_7 : decode cX8_wealthOf 7 = .ok (.iconst 0, 1) := by decide +kernel
theorem dX8_wealthOf_8 : decode cX8_wealthOf 8 = .ok (.istore 4, 2) := by decide +kernel
theorem dX8_wealthOf_10 : decode cX8_wealthOf 10 = .ok (.iload 4, 2) := by decide +kernel
theorem dX8_wealthOf_12 : decode cX8_wealthOf 12 = .ok (.aload_n 1, 1) := by decide +kernel
theorem dX8_wealthOf_13 : decode cX8_wealthOf 13 = .ok (.getfield 43, 3) := by decide +kernel
theorem dX8_wealthOf_16 : decode cX8_wealthOf 16 = .ok (.if_icmp .ge 31, 3) := by decide +kernel
theorem dX8_wealthOf_47 : decode cX8_wealthOf 47 = .ok (.iload_n 3, 1) := by decide +kernel
theorem dX8_wealthOf_48 : decode cX8_wealthOf 48 = .ok (.ireturn, 1) := by decide +kernel
theorem dX8_wealthOf_19 : decode cX8_wealthOf 19 = .ok (.iload_n 3, 1) := by decide +kernel
theorem dX8_wealthOf_20 : decode cX8_wealthOf 20 = .ok (.aload_n 0, 1) := by decide +kernel
theorem dX8_wealthOf_21 : decode cX8_wealthOf 21 = .ok (.getfield 24, 3) := by decide +kernel
theorem dX8_wealthOf_24 : decode cX8_wealthOf 24 = .ok (.iload_n 2, 1) := by decide +kernel
theorem dX8_wealthOf_25 : decode cX8_wealthOf 25 = .ok (.iconst 5, 1) := by decide +kernel
theorem dX8_wealthOf_26 : decode cX8_wealthOf 26 = .ok (.imul, 1) := by decide +kernel
theorem dX8_wealthOf_27 : decode cX8_wealthOf 27 = .ok (.iload 4, 2) := by decide +kernel
theorem dX8_wealthOf_29 : decode cX8_wealthOf 29 = .ok (.iadd, 1) := by decide +kernel
theorem dX8_wealthOf_30 : decode cX8_wealthOf 30 = .ok (.iaload, 1) := by decide +kernel
theorem dX8_wealthOf_31 : decode cX8_wealthOf 31 = .ok (.aload_n 1, 1) := by decide +kernel
theorem dX8_wealthOf_32 : decode cX8_wealthOf 32 = .ok (.getfield 51, 3) := by decide +kernel
theorem dX8_wealthOf_35 : decode cX8_wealthOf 35 = .ok (.iload 4, 2) := by decide +kernel
theorem dX8_wealthOf_37 : decode cX8_wealthOf 37 = .ok (.iaload, 1) := by decide +kernel
theorem dX8_wealthOf_38 : decode cX8_wealthOf 38 = .ok (.imul, 1) := by decide +kernel
theorem dX8_wealthOf_39 : decode cX8_wealthOf 39 = .ok (.iadd, 1) := by decide +kernel
theorem dX8_wealthOf_40 : decode cX8_wealthOf 40 = .ok (.istore_n 3, 1) := by decide +kernel
theorem dX8_wealthOf_41 : decode cX8_wealthOf 41 = .ok (.iinc 4 1, 3) := by decide +kernel
theorem dX8_wealthOf_44 : decode cX8_wealthOf 44 = .ok (.goto (-34), 3) := by decide +kernel
set_option maxHeartbeats 4000000 in
set_option maxRecDepth 100000 in
theorem cy_X8_wealthOf (l : Launch) (D : va_G) (cA : Nat → ClassId) (L : List Nat) (T : Nat → Nat) (r : Rg) (hG : GR L T r) (hL : L.Nodup) (σ : Sg) (ρ : Lg) (hW : WT L ry T σ) (sz : Nat) (h0 : Nat) (mh0 : h0 ∈ L) (th0 : T h0 = 8) (h1 : Nat) (mh1 : h1 ∈ L) (th1 : T h1 = 3) (p2 : Int32) (w0 : 0 ≤ p2.toInt) (w1 : p2.toInt ≤ 3) : Met l yX8_wealthOf (.code yX8_wealthOf cX8_wealthOf 5 (some .int) :: wsA) ({ frames := 0, cells := 0, slots := 0, locals := 0 }) (PR D cA L T r σ ρ sz [.ref h0, .ref h1, .int p2]) (QI D cA L T r ry ([] : List (Nat × Nat)) σ sz (fun x σ1 => True)) 0 0 (dm L sz) := by
  refine Met.ofW (cc := cX8_wealthOf) (maxL := 5) (ret := (some .int)) (by decide) rfl ?_
  intro p e s m args below meth c s₁ B hml hv
  obtain ⟨rfl, hsz, hP, hK, hN⟩ := hv
  have hx := B.exec
  have hb := B.bytes
  have hr := B.returns
  have hts : ∀ w ∈ wsA, w.before _ s = true := fun w h => atoms_spec (ws := .code yX8_wealthOf cX8_wealthOf 5 (some .int) :: wsA) B.pre w (List.mem_cons_of_mem _ h)
  have hown : s.vm.findClass RX8 = some m.cls := findClass_of_methodNamed B.named
  subst hsz
  have hLA : LA (dm L s.heap.size) L := ⟨hL, fun a h => Or.inl h⟩
  have hA : ∀ q : Nat, s.heap.size ≤ q → dm L s.heap.size q := fun q h => Or.inr h
  have hS : va_S (dm L s.heap.size) s.heap s.heap [] := va_S.rf
  have hB : TS D cA L T r ry ([] : List (Nat × Nat)) σ σ ρ s.heap := ⟨hP, hW, FR.rf⟩
  have hl := lv_entry ([.ref h0, .ref h1, .int p2]) (n := 5) (Nat.le_of_ble_eq_true rfl)
  rw [lg_entry_eq]
  generalize (lg_sl ([.ref h0, .ref h1, .int p2]) ++ List.replicate (5 - (lg_sl ([.ref h0, .ref h1, .int p2])).length) Slot.unset).toArray = ls at hl ⊢
  have hl : lv_has ls 5 [(0, .ref h0), (1, .ref h1), (2, .int p2)] := hl
  refine lv_aload_n hx hb dX8_wealthOf_0 rfl (lv_at hl 0 rfl) ?_
  refine t_gr hx hb hts hown hK hG hB mh0 th0 fq_8_1 rfl mw_1_85 dX8_wealthOf_1 (fun b_1 hb_1 mb_1 tb_1 => ?_)
  refine lv_iload_n hx hb dX8_wealthOf_4 rfl (lv_at hl 2 rfl) ?_
  refine t_ai hx hb hK hB mb_1 tb_1 ai_46 (fun _ => rfl) (i_in (by omega) (by omega)) dX8_wealthOf_5 (fun x_2 ex_2 lx_2 ux_2 => ?_)
  refine lv_istore_n (lv' := [(3, .int x_2), (0, .ref h0), (1, .ref h1), (2, .int p2)]) hx hb dX8_wealthOf_6 rfl hl (by decide) rfl (fun ls hl => ?_)
  refine lv_iconst (v := 0) hx hb dX8_wealthOf_7 (by decide) ?_
  refine lv_istore (lv' := [(4, .int 0), (3, .int x_2), (0, .ref h0), (1, .ref h1), (2, .int p2)]) hx hb dX8_wealthOf_8 hl (by decide) rfl (fun ls hl => ?_)
  refine w_loop (α := Int32 × Int32 × Sg × Lg) (fun (i_3, i_4, σ_5, ρ_6) H locs ls => 0 ≤ i_4.toInt ∧ i_4.toInt ≤ 5 ∧ TS D cA L T r ry ([] : List (Nat × Nat)) σ σ_5 ρ_6 H ∧ va_S (dm L s.heap.size) s.heap H locs ∧ lv_has ls 5 [(4, .int i_4), (3, .int i_3), (0, .ref h0), (1, .ref h1), (2, .int p2)]) (fun (i_3, i_4, σ_5, ρ_6) => (5 - i_4.toInt).toNat) ?_ ⟨x_2, 0, σ, ρ⟩ ⟨(by decide), (by decide), hB, hS, lv_sub hl [0, 1, 2, 3, 4] rfl⟩
  rintro ⟨i_3, i_4, σ_5, ρ_6⟩ H locs ls ⟨li_4, ui_4, hB, hS, hl⟩ ih_7
  refine lv_iload hx hb dX8_wealthOf_10 (lv_at hl 0 rfl) ?_
  refine lv_aload_n hx hb dX8_wealthOf_12 rfl (lv_at hl 3 rfl) ?_
  refine t_gi hx hb hts hown hK hB mh1 th1 fi_3_8 rfl mw_1_174 dX8_wealthOf_13 (fun x_8 ex_8 lx_8 ux_8 => ?_)
  refine lv_icmp_ge (tgt := 47) hx hb dX8_wealthOf_16 (by decide) (fun c_9 => ?_) (fun c_9 => ?_)
  · skip
    have uc_9 := j_le c_9
    refine lv_iload_n hx hb dX8_wealthOf_47 rfl (lv_at hl 1 rfl) ?_
    exact W.iret (v := i_3) hx hb hr (fun t ht hW => ⟨⟨i_3, (σ_5, ρ_6), rfl, ⟨hB.2.1, hB.2.2, trivial⟩, (show TP D cA L T r σ_5 ρ_6 t.heap from by rw [ht]; exact hB.1)⟩, hS.F ht⟩) hS.2.2 dX8_wealthOf_48
  · skip
    have uc_9 := j_nle c_9
    refine lv_iload_n hx hb dX8_wealthOf_19 rfl (lv_at hl 1 rfl) ?_
    refine lv_aload_n hx hb dX8_wealthOf_20 rfl (lv_at hl 2 rfl) ?_
    refine t_gr hx hb hts hown hK hG hB mh0 th0 fq_8_4 rfl mw_1_95 dX8_wealthOf_21 (fun b_10 hb_10 mb_10 tb_10 => ?_)
    refine lv_iload_n hx hb dX8_wealthOf_24 rfl (lv_at hl 4 rfl) ?_
    refine lv_iconst (v := 5) hx hb dX8_wealthOf_25 (by decide) ?_
    refine lv_imul hx hb dX8_wealthOf_26 ?_
    refine lv_topi (fun x_11 ex_11 => ?_)
    have vx_11 := b_mul (rfl : p2.toInt = _) (by decide : (5 : Int32).toInt = 5) ex_11 (by omega) (by omega)
    refine lv_iload hx hb dX8_wealthOf_27 (lv_at hl 0 rfl) ?_
    refine lv_iadd hx hb dX8_wealthOf_29 ?_
    refine lv_topi (fun x_12 ex_12 => ?_)
    have vx_12 := b_add (rfl : x_11.toInt = _) (rfl : i_4.toInt = _) ex_12 (by omega) (by omega)
    refine t_ai hx hb hK hB mb_10 tb_10 ai_49 (fun _ => rfl) (i_in (by omega) (by omega)) dX8_wealthOf_30 (fun x_13 ex_13 lx_13 ux_13 => ?_)
    refine lv_aload_n hx hb dX8_wealthOf_31 rfl (lv_at hl 3 rfl) ?_
    refine t_gr hx hb hts hown hK hG hB mh1 th1 fq_3_1 rfl mw_1_138 dX8_wealthOf_32 (fun b_14 hb_14 mb_14 tb_14 => ?_)
    refine lv_iload hx hb dX8_wealthOf_35 (lv_at hl 0 rfl) ?_
    refine t_ai hx hb hK hB mb_14 tb_14 ai_34 (fun _ => rfl) (i_in (by omega) (by omega)) dX8_wealthOf_37 (fun x_15 ex_15 lx_15 ux_15 => ?_)
    refine lv_imul hx hb dX8_wealthOf_38 ?_
    refine lv_topi (fun x_16 ex_16 => ?_)
    refine lv_iadd hx hb dX8_wealthOf_39 ?_
    refine lv_topi (fun x_17 ex_17 => ?_)
    refine lv_istore_n (lv' := [(3, .int x_17), (4, .int i_4), (0, .ref h0), (1, .ref h1), (2, .int p2)]) hx hb dX8_wealthOf_40 rfl hl (by decide) rfl (fun ls hl => ?_)
    obtain ⟨x_18, ex_18⟩ : ∃ y : Int32, y = i_4 + 1 := ⟨_, rfl⟩
    have vx_18 := b_add (rfl : i_4.toInt = _) (by decide : (1 : Int32).toInt = 1) ex_18 (by omega) (by omega)
    refine lv_iinc (v := x_18) (lv' := [(4, .int x_18), (3, .int x_17), (0, .ref h0), (1, .ref h1), (2, .int p2)]) hx hb dX8_wealthOf_41 hl (k := 1) rfl (by rw [ex_18]; rfl) (by decide) rfl (fun ls hl => ?_)
    refine lv_goto (tgt := 10) hx hb dX8_wealthOf_44 (by decide) ?_
    exact ih_7 ⟨x_17, x_18, σ_5, ρ_6⟩ _ _ _ ⟨(by omega), (by omega), hB, hS, lv_sub hl [0, 1, 2, 3, 4] rfl⟩ (by show (5 - x_18.toInt).toNat < (5 - i_4.toInt).toNat; omega)
theorem mw_1_188 : (.fieldLink RX8 54 "HillBends$Hill" "pilgrims" "I" : Cond) ∈ wsA := wsA_t (List.mem_append_left _ (List.mem_of_getElem? (l := tables_1_1) (i := 188) rfl)) rfl
theorem mw_1_183 : (.fieldLink RX8 57 "HillBends$Hill" "bends" "I" : Cond) ∈ wsA := wsA_t (List.mem_append_left _ (List.mem_of_getElem? (l := tables_1_1) (i := 183) rfl)) rfl
theorem dX8_atTop_0 : decode cX8_atTop 0 = .ok (.iconst 0, 1) := by decide +kernel
theorem dX8_atTop_1 : decode cX8_atTop 1 = .ok (.istore_n 2, 1) := by decide +kernel
theorem dX8_atTop_2 : decode cX8_atTop 2 = .ok (.iconst 0, 1) := by decide +kernel
theorem dX8_atTop_3 : decode cX8_atTop 3 = .ok (.istore_n 3, 1) := by decide +kernel
theorem dX8_atTop_4 : decode cX8_atTop 4 = .ok (.iload_n 3, 1) := by decide +kernel
theorem dX8_atTop_5 : decode cX8_atTop 5 = .ok (.aload_n 1, 1) := by decide +kernel
theorem dX8_atTop_6 : decode cX8_atTop 6 = .ok (.getfield 54, 3) := by decide +kernel
theorem dX8_atTop_9 : decode cX8_atTop 9 = .ok (.if_icmp .ge 28, 3) := by decide +kernel
theorem dX8_atTop_37 : decode cX8_atTop 37 = .ok (.iload_n 2, 1) := by decide +kernel
theorem dX8_atTop_38 : decode cX8_atTop 38 = .ok (.ireturn, 1) := by decide +kernel
theorem dX8_atTop_12 : decode cX8_atTop 12 = .ok (.aload_n 0, 1) := by decide +kernel
theorem dX8_atTop_13 : decode cX8_atTop 13 = .ok (.getfield 9, 3) := by decide +kernel
theorem dX8_atTop_16 : decode cX8_atTop 16 = .ok (.iload_n 3, 1) := by decide +kernel
theorem dX8_atTop_17 : decode cX8_atTop 17 = .ok (.iaload, 1) := by decide +kernel
theorem dX8_atTop_18 : decode cX8_atTop 18 = .ok (.aload_n 1, 1) := by decide +kernel
theorem dX8_atTop_19 : decode cX8_atTop 19 = .ok (.getfield 57, 3) := by decide +kernel
theorem dX8_atTop_22 : decode cX8_atTop 22 = .ok (.if_icmp .lt 9, 3) := by decide +kernel
theorem dX8_atTop_31 : decode cX8_atTop 31 = .ok (.iinc 3 1, 3) := by decide +kernel
theorem dX8_atTop_34 : decode cX8_atTop 34 = .ok (.goto (-30), 3) := by decide +kernel
theorem dX8_atTop_25 : decode cX8_atTop 25 = .ok (.iload_n 2, 1) := by decide +kernel
theorem dX8_atTop_26 : decode cX8_atTop 26 = .ok (.iconst 1, 1) := by decide +kernel
theorem dX8_atTop_27 : decode cX8_atTop 27 = .ok (.iload_n 3, 1) := by decide +kernel
theorem dX8_atTop_28 : decode cX8_atTop 28 = .ok (.ishl, 1) := by decide +kernel
theorem dX8_atTop_29 : decode cX8_atTop 29 = .ok (.ior, 1) := by decide +kernel
theorem dX8_atTop_30 : decode cX8_atTop 30 = .ok (.istore_n 2, 1) := by decide +kernel
set_option maxHeartbeats 4000000 in
set_option maxRecDepth 100000 in
theorem cy_X8_atTop (l : Launch) (D : va_G) (cA : Nat → ClassId) (L : List Nat) (T : Nat → Nat) (r : Rg) (hG : GR L T r) (hL : L.Nodup) (σ : Sg) (ρ : Lg) (hW : WT L ry T σ) (sz : Nat) (h0 : Nat) (mh0 : h0 ∈ L) (th0 : T h0 = 8) (h1 : Nat) (mh1 : h1 ∈ L) (th1 : T h1 = 3) : Met l yX8_atTop (.code yX8_atTop cX8_atTop 4 (some .int) :: wsA) ({ frames := 0, cells := 0, slots := 0, locals := 0 }) (PR D cA L T r σ ρ sz [.ref h0, .ref h1]) (QI D cA L T r ry ([] : List (Nat × Nat)) σ sz (fun x σ1 => True)) 0 0 (dm L sz) := by
  refine Met.ofW (cc := cX8_atTop) (maxL := 4) (ret := (some .int)) (by decide) rfl ?_
  intro p e s m args below meth c s₁ B hml hv
  obtain ⟨rfl, hsz, hP, hK, hN⟩ := hv
  have hx := B.exec
  have hb := B.bytes
  have hr := B.returns
  have hts : ∀ w ∈ wsA, w.before _ s = true := fun w h => atoms_spec (ws := .code yX8_atTop cX8_atTop 4 (some .int) :: wsA) B.pre w (List.mem_cons_of_mem _ h)
  have hown : s.vm.findClass RX8 = some m.cls := findClass_of_methodNamed B.named
  subst hsz
  have hLA : LA (dm L s.heap.size) L := ⟨hL, fun a h => Or.inl h⟩
  have hA : ∀ q : Nat, s.heap.size ≤ q → dm L s.heap.size q := fun q h => Or.inr h
  have hS : va_S (dm L s.heap.size) s.heap s.heap [] := va_S.rf
  have hB : TS D cA L T r ry ([] : List (Nat × Nat)) σ σ ρ s.heap := ⟨hP, hW, FR.rf⟩
  have hl := lv_entry ([.ref h0, .ref h1]) (n := 4) (Nat.le_of_ble_eq_true rfl)
  rw [lg_entry_eq]
  generalize (lg_sl ([.ref h0, .ref h1]) ++ List.replicate (4 - (lg_sl ([.ref h0, .ref h1])).length) Slot.unset).toArray = ls at hl ⊢
  have hl : lv_has ls 4 [(0, .ref h0), (1, .ref h1)] := hl
  refine lv_iconst (v := 0) hx hb dX8_atTop_0 (by decide) ?_
  refine lv_istore_n (lv' := [(2, .int 0), (0, .ref h0), (1, .ref h1)]) hx hb dX8_atTop_1 rfl hl (by decide) rfl (fun ls hl => ?_)
  refine lv_iconst (v := 0) hx hb dX8_atTop_2 (by decide) ?_
  refine lv_istore_n (lv' := [(3, .int 0), (2, .int 0), (0, .ref h0), (1, .ref h1)]) hx hb dX8_atTop_3 rfl hl (by decide) rfl (fun ls hl => ?_)
  refine w_loop (α := Int32 × Int32 × Sg × Lg) (fun (i_1, i_2, σ_3, ρ_4) H locs ls => 0 ≤ i_2.toInt ∧ i_2.toInt ≤ 4 ∧ TS D cA L T r ry ([] : List (Nat × Nat)) σ σ_3 ρ_4 H ∧ va_S (dm L s.heap.size) s.heap H locs ∧ lv_has ls 4 [(3, .int i_2), (2, .int i_1), (0, .ref h0), (1, .ref h1)]) (fun (i_1, i_2, σ_3, ρ_4) => (4 - i_2.toInt).toNat) ?_ ⟨0, 0, σ, ρ⟩ ⟨(by decide), (by decide), hB, hS, lv_sub hl [0, 1, 2, 3] rfl⟩
  rintro ⟨i_1, i_2, σ_3, ρ_4⟩ H locs ls ⟨li_2, ui_2, hB, hS, hl⟩ ih_5
  refine lv_iload_n hx hb dX8_atTop_4 rfl (lv_at hl 0 rfl) ?_
  refine lv_aload_n hx hb dX8_atTop_5 rfl (lv_at hl 3 rfl) ?_
  refine t_gi hx hb hts hown hK hB mh1 th1 fi_3_10 rfl mw_1_188 dX8_atTop_6 (fun x_6 ex_6 lx_6 ux_6 => ?_)
  refine lv_icmp_ge (tgt := 37) hx hb dX8_atTop_9 (by decide) (fun c_7 => ?_) (fun c_7 => ?_)
  · skip
    have uc_7 := j_le c_7
    refine lv_iload_n hx hb dX8_atTop_37 rfl (lv_at hl 1 rfl) ?_
    exact W.iret (v := i_1) hx hb hr (fun t ht hW => ⟨⟨i_1, (σ_3, ρ_4), rfl, ⟨hB.2.1, hB.2.2, trivial⟩, (show TP D cA L T r σ_3 ρ_4 t.heap from by rw [ht]; exact hB.1)⟩, hS.F ht⟩) hS.2.2 dX8_atTop_38
  · skip
    have uc_7 := j_nle c_7
    refine lv_aload_n hx hb dX8_atTop_12 rfl (lv_at hl 2 rfl) ?_
    refine t_gr hx hb hts hown hK hG hB mh0 th0 fq_8_0 rfl mw_1_80 dX8_atTop_13 (fun b_8 hb_8 mb_8 tb_8 => ?_)
    refine lv_iload_n hx hb dX8_atTop_16 rfl (lv_at hl 0 rfl) ?_
    refine t_ai hx hb hK hB mb_8 tb_8 ai_45 (fun _ => rfl) (i_in (by omega) (by omega)) dX8_atTop_17 (fun x_9 ex_9 lx_9 ux_9 => ?_)
    refine lv_aload_n hx hb dX8_atTop_18 rfl (lv_at hl 3 rfl) ?_
    refine t_gi hx hb hts hown hK hB mh1 th1 fi_3_9 rfl mw_1_183 dX8_atTop_19 (fun x_10 ex_10 lx_10 ux_10 => ?_)
    refine lv_icmp_lt (tgt := 31) hx hb dX8_atTop_22 (by decide) (fun c_11 => ?_) (fun c_11 => ?_)
    · skip
      have uc_11 := j_lt c_11
      obtain ⟨x_12, ex_12⟩ : ∃ y : Int32, y = i_2 + 1 := ⟨_, rfl⟩
      have vx_12 := b_add (rfl : i_2.toInt = _) (by decide : (1 : Int32).toInt = 1) ex_12 (by omega) (by omega)
      refine lv_iinc (v := x_12) (lv' := [(3, .int x_12), (2, .int i_1), (0, .ref h0), (1, .ref h1)]) hx hb dX8_atTop_31 hl (k := 0) rfl (by rw [ex_12]; rfl) (by decide) rfl (fun ls hl => ?_)
      refine lv_goto (tgt := 4) hx hb dX8_atTop_34 (by decide) ?_
      exact ih_5 ⟨i_1, x_12, σ_3, ρ_4⟩ _ _ _ ⟨(by omega), (by omega), hB, hS, lv_sub hl [0, 1, 2, 3] rfl⟩ (by show (4 - x_12.toInt).toNat < (4 - i_2.toInt).toNat; omega)
    · skip
      have uc_11 := j_nlt c_11
      refine lv_iload_n hx hb dX8_atTop_25 rfl (lv_at hl 1 rfl) ?_
      refine lv_iconst (v := 1) hx hb dX8_atTop_26 (by decide) ?_
      refine lv_iload_n hx hb dX8_atTop_27 rfl (lv_at hl 0 rfl) ?_
      refine lv_ishl hx hb dX8_atTop_28 ?_
      refine lv_topi (fun x_13 ex_13 => ?_)
      refine lv_ior hx hb dX8_atTop_29 ?_
      refine lv_topi (fun x_14 ex_14 => ?_)
      refine lv_istore_n (lv' := [(2, .int x_14), (3, .int i_2), (0, .ref h0), (1, .ref h1)]) hx hb dX8_atTop_30 rfl hl (by decide) rfl (fun ls hl => ?_)
      obtain ⟨x_15, ex_15⟩ : ∃ y : Int32, y = i_2 + 1 := ⟨_, rfl⟩
      have vx_15 := b_add (rfl : i_2.toInt = _) (by decide : (1 : Int32).toInt = 1) ex_15 (by omega) (by omega)
      refine lv_iinc (v := x_15) (lv' := [(3, .int x_15), (2, .int x_14), (0, .ref h0), (1, .ref h1)]) hx hb dX8_atTop_31 hl (k := 1) rfl (by rw [ex_15]; rfl) (by decide) rfl (fun ls hl => ?_)
      refine lv_goto (tgt := 4) hx hb dX8_atTop_34 (by decide) ?_
      exact ih_5 ⟨x_14, x_15, σ_3, ρ_4⟩ _ _ _ ⟨(by omega), (by omega), hB, hS, lv_sub hl [0, 1, 2, 3] rfl⟩ (by show (4 - x_15.toInt).toNat < (4 - i_2.toInt).toNat; omega)
theorem dX8_lying_0 : decode cX8_lying 0 = .ok (.iconst 0, 1) := by decide +kernel
theorem dX8_lying_1 : decode cX8_lying 1 = .ok (.istore_n 1, 1) := by decide +kernel
theorem dX8_lying_2 : decode cX8_lying 2 = .ok (.iconst 0, 1) := by decide +kernel
theorem dX8_lying_3 : decode cX8_lying 3 = .ok (.istore_n 2, 1) := by decide +kernel
theorem dX8_lying_4 : decode cX8_lying 4 = .ok (.iload_n 2, 1) := by decide +kernel
theorem dX8_lying_5 : decode cX8_lying 5 = .ok (.aload_n 0, 1) := by decide +kernel
theorem dX8_lying_6 : decode cX8_lying 6 = .ok (.getfield 27, 3) := by decide +kernel
theorem dX8_lying_9 : decode cX8_lying 9 = .ok (.arraylength, 1) := by decide +kernel
theorem dX8_lying_10 : decode cX8_lying 10 = .ok (.if_icmp .ge 18, 3) := by decide +kernel
theorem dX8_lying_28 : decode cX8_lying 28 = .ok (.iload_n 1, 1) := by decide +kernel
theorem dX8_lying_29 : decode cX8_lying 29 = .ok (.ireturn, 1) := by decide +kernel
theorem dX8_lying_13 : decode cX8_lying 13 = .ok (.iload_n 1, 1) := by decide +kernel
theorem dX8_lying_14 : decode cX8_lying 14 = .ok (.aload_n 0, 1) := by decide +kernel
theorem dX8_lying_15 : decode cX8_lying 15 = .ok (.getfield 27, 3) := by decide +kernel
theorem dX8_lying_18 : decode cX8_lying 18 = .ok (.iload_n 2, 1) := by decide +kernel
theorem dX8_lying_19 : decode cX8_lying 19 = .ok (.iaload, 1) := by decide +kernel
theorem dX8_lying_20 : decode cX8_lying 20 = .ok (.iadd, 1) := by decide +kernel
theorem dX8_lying_21 : decode cX8_lying 21 = .ok (.istore_n 1, 1) := by decide +kernel
theorem dX8_lying_22 : decode cX8_lying 22 = .ok (.iinc 2 1, 3) := by decide +kernel
theorem dX8_lying_25 : decode cX8_lying 25 = .ok (.goto (-21), 3) := by decide +kernel
set_option maxHeartbeats 4000000 in
set_option maxRecDepth 100000 in
theorem cy_X8_lying (l : Launch) (D : va_G) (cA : Nat → ClassId) (L : List Nat) (T : Nat → Nat) (r : Rg) (hG : GR L T r) (hL : L.Nodup) (σ : Sg) (ρ : Lg) (hW : WT L ry T σ) (sz : Nat) (h0 : Nat) (mh0 : h0 ∈ L) (th0 : T h0 = 8) : Met l yX8_lying (.code yX8_lying cX8_lying 3 (some .int) :: wsA) ({ frames := 0, cells := 0, slots := 0, locals := 0 }) (PR D cA L T r σ ρ sz [.ref h0]) (QI D cA L T r ry ([] : List (Nat × Nat)) σ sz (fun x σ1 => True)) 0 0 (dm L sz) := by
  refine Met.ofW (cc := cX8_lying) (maxL := 3) (ret := (some .int)) (by decide) rfl ?_
  intro p e s m args below meth c s₁ B hml hv
  obtain ⟨rfl, hsz, hP, hK, hN⟩ := hv
  have hx := B.exec
  have hb := B.bytes
  have hr := B.returns
  have hts : ∀ w ∈ wsA, w.before _ s = true := fun w h => atoms_spec (ws := .code yX8_lying cX8_lying 3 (some .int) :: wsA) B.pre w (List.mem_cons_of_mem _ h)
  have hown : s.vm.findClass RX8 = some m.cls := findClass_of_methodNamed B.named
  subst hsz
  have hLA : LA (dm L s.heap.size) L := ⟨hL, fun a h => Or.inl h⟩
  have hA : ∀ q : Nat, s.heap.size ≤ q → dm L s.heap.size q := fun q h => Or.inr h
  have hS : va_S (dm L s.heap.size) s.heap s.heap [] := va_S.rf
  have hB : TS D cA L T r ry ([] : List (Nat × Nat)) σ σ ρ s.heap := ⟨hP, hW, FR.rf⟩
  have hl := lv_entry ([.ref h0]) (n := 3) (Nat.le_of_ble_eq_true rfl)
  rw [lg_entry_eq]
  generalize (lg_sl ([.ref h0]) ++ List.replicate (3 - (lg_sl ([.ref h0])).length) Slot.unset).toArray = ls at hl ⊢
  have hl : lv_has ls 3 [(0, .ref h0)] := hl
  refine lv_iconst (v := 0) hx hb dX8_lying_0 (by decide) ?_
  refine lv_istore_n (lv' := [(1, .int 0), (0, .ref h0)]) hx hb dX8_lying_1 rfl hl (by decide) rfl (fun ls hl => ?_)
  refine lv_iconst (v := 0) hx hb dX8_lying_2 (by decide) ?_
  refine lv_istore_n (lv' := [(2, .int 0), (1, .int 0), (0, .ref h0)]) hx hb dX8_lying_3 rfl hl (by decide) rfl (fun ls hl => ?_)
  refine w_loop (α := Int32 × Int32 × Sg × Lg) (fun (i_1, i_2, σ_3, ρ_4) H locs ls => 0 ≤ i_2.toInt ∧ i_2.toInt ≤ 40 ∧ TS D cA L T r ry ([] : List (Nat × Nat)) σ σ_3 ρ_4 H ∧ va_S (dm L s.heap.size) s.heap H locs ∧ lv_has ls 3 [(2, .int i_2), (1, .int i_1), (0, .ref h0)]) (fun (i_1, i_2, σ_3, ρ_4) => (40 - i_2.toInt).toNat) ?_ ⟨0, 0, σ, ρ⟩ ⟨(by decide), (by decide), hB, hS, lv_sub hl [0, 1, 2] rfl⟩
  rintro ⟨i_1, i_2, σ_3, ρ_4⟩ H locs ls ⟨li_2, ui_2, hB, hS, hl⟩ ih_5
  refine lv_iload_n hx hb dX8_lying_4 rfl (lv_at hl 0 rfl) ?_
  refine lv_aload_n hx hb dX8_lying_5 rfl (lv_at hl 2 rfl) ?_
  refine t_gr hx hb hts hown hK hG hB mh0 th0 fq_8_5 rfl mw_1_100 dX8_lying_6 (fun b_6 hb_6 mb_6 tb_6 => ?_)
  refine t_len (n := 40) (v := 40) hx hb hK hB mb_6 tb_6 ((ai_50) _ _ _ _) rfl (show (tyA cA)[1]? = some (cA 1, _) from rfl) (by decide) dX8_lying_9 ?_
  refine lv_icmp_ge (tgt := 28) hx hb dX8_lying_10 (by decide) (fun c_7 => ?_) (fun c_7 => ?_)
  · skip
    have uc_7 := i_ge (n := 40) (by decide) c_7
    refine lv_iload_n hx hb dX8_lying_28 rfl (lv_at hl 1 rfl) ?_
    exact W.iret (v := i_1) hx hb hr (fun t ht hW => ⟨⟨i_1, (σ_3, ρ_4), rfl, ⟨hB.2.1, hB.2.2, trivial⟩, (show TP D cA L T r σ_3 ρ_4 t.heap from by rw [ht]; exact hB.1)⟩, hS.F ht⟩) hS.2.2 dX8_lying_29
  · skip
    have uc_7 := i_nge (n := 40) (by decide) c_7
    refine lv_iload_n hx hb dX8_lying_13 rfl (lv_at hl 1 rfl) ?_
    refine lv_aload_n hx hb dX8_lying_14 rfl (lv_at hl 2 rfl) ?_
    refine t_gk hx hb hts hown hK hB mh0 th0 fq_8_5 hb_6 mw_1_100 dX8_lying_15 ?_
    refine lv_iload_n hx hb dX8_lying_18 rfl (lv_at hl 0 rfl) ?_
    refine t_ai hx hb hK hB mb_6 tb_6 ai_50 (fun _ => rfl) (i_in (by omega) (by omega)) dX8_lying_19 (fun x_8 ex_8 lx_8 ux_8 => ?_)
    refine lv_iadd hx hb dX8_lying_20 ?_
    refine lv_topi (fun x_9 ex_9 => ?_)
    refine lv_istore_n (lv' := [(1, .int x_9), (2, .int i_2), (0, .ref h0)]) hx hb dX8_lying_21 rfl hl (by decide) rfl (fun ls hl => ?_)
    obtain ⟨x_10, ex_10⟩ : ∃ y : Int32, y = i_2 + 1 := ⟨_, rfl⟩
    have vx_10 := b_add (rfl : i_2.toInt = _) (by decide : (1 : Int32).toInt = 1) ex_10 (by omega) (by omega)
    refine lv_iinc (v := x_10) (lv' := [(2, .int x_10), (1, .int x_9), (0, .ref h0)]) hx hb dX8_lying_22 hl (k := 1) rfl (by rw [ex_10]; rfl) (by decide) rfl (fun ls hl => ?_)
    refine lv_goto (tgt := 4) hx hb dX8_lying_25 (by decide) ?_
    exact ih_5 ⟨x_9, x_10, σ_3, ρ_4⟩ _ _ _ ⟨(by omega), (by omega), hB, hS, lv_sub hl [0, 1, 2] rfl⟩ (by show (40 - x_10.toInt).toNat < (40 - i_2.toInt).toNat; omega)
theorem mw_1_152 : (.fieldLink RX3 24 "HillBends$Hill" "second" "[I" : Cond) ∈ wsA := wsA_t (List.mem_append_left _ (List.mem_of_getElem? (l := tables_1_1) (i := 152) rfl)) rfl
theorem mw_1_146 : (.fieldLink RX3 21 "HillBends$Hill" "first" "[I" : Cond) ∈ wsA := wsA_t (List.mem_append_left _ (List.mem_of_getElem? (l := tables_1_1) (i := 146) rfl)) rfl
theorem dX3_askedAt_0 : decode cX3_askedAt 0 = .ok (.iload_n 2, 1) := by decide +kernel
theorem dX3_askedAt_1 : decode cX3_askedAt 1 = .ok (.iload_n 1, 1) := by decide +kernel
theorem dX3_askedAt_2 : decode cX3_askedAt 2 = .ok (.ishr, 1) := by decide +kernel
theorem dX3_askedAt_3 : decode cX3_askedAt 3 = .ok (.iconst 1, 1) := by decide +kernel
theorem dX3_askedAt_4 : decode cX3_askedAt 4 = .ok (.iand, 1) := by decide +kernel
theorem dX3_askedAt_5 : decode cX3_askedAt 5 = .ok (.ifCond .ne 12, 3) := by decide +kernel
theorem dX3_askedAt_17 : decode cX3_askedAt 17 = .ok (.aload_n 0, 1) := by decide +kernel
theorem dX3_askedAt_18 : decode cX3_askedAt 18 = .ok (.getfield 24, 3) := by decide +kernel
theorem dX3_askedAt_21 : decode cX3_askedAt 21 = .ok (.iload_n 1, 1) := by decide +kernel
theorem dX3_askedAt_22 : decode cX3_askedAt 22 = .ok (.iaload, 1) := by decide +kernel
theorem dX3_askedAt_23 : decode cX3_askedAt 23 = .ok (.ireturn, 1) := by decide +kernel
theorem dX3_askedAt_8 : decode cX3_askedAt 8 = .ok (.aload_n 0, 1) := by decide +kernel
theorem dX3_askedAt_9 : decode cX3_askedAt 9 = .ok (.getfield 21, 3) := by decide +kernel
theorem dX3_askedAt_12 : decode cX3_askedAt 12 = .ok (.iload_n 1, 1) := by decide +kernel
theorem dX3_askedAt_13 : decode cX3_askedAt 13 = .ok (.iaload, 1) := by decide +kernel
theorem dX3_askedAt_14 : decode cX3_askedAt 14 = .ok (.goto 9, 3) := by decide +kernel
set_option maxHeartbeats 4000000 in
set_option maxRecDepth 100000 in
theorem cy_X3_askedAt (l : Launch) (D : va_G) (cA : Nat → ClassId) (L : List Nat) (T : Nat → Nat) (r : Rg) (hG : GR L T r) (hL : L.Nodup) (σ : Sg) (ρ : Lg) (hW : WT L ry T σ) (sz : Nat) (h0 : Nat) (mh0 : h0 ∈ L) (th0 : T h0 = 3) (p1 : Int32) (p2 : Int32) (w0 : 0 ≤ p1.toInt) (w1 : p1.toInt ≤ 7) : Met l yX3_askedAt (.code yX3_askedAt cX3_askedAt 3 (some .int) :: wsA) ({ frames := 0, cells := 0, slots := 0, locals := 0 }) (PR D cA L T r σ ρ sz [.ref h0, .int p1, .int p2]) (QI D cA L T r ry ([] : List (Nat × Nat)) σ sz (fun x σ1 => (0 ≤ x.toInt ∧ x.toInt ≤ 4))) 0 0 (dm L sz) := by
  refine Met.ofW (cc := cX3_askedAt) (maxL := 3) (ret := (some .int)) (by decide) rfl ?_
  intro p e s m args below meth c s₁ B hml hv
  obtain ⟨rfl, hsz, hP, hK, hN⟩ := hv
  have hx := B.exec
  have hb := B.bytes
  have hr := B.returns
  have hts : ∀ w ∈ wsA, w.before _ s = true := fun w h => atoms_spec (ws := .code yX3_askedAt cX3_askedAt 3 (some .int) :: wsA) B.pre w (List.mem_cons_of_mem _ h)
  have hown : s.vm.findClass RX3 = some m.cls := findClass_of_methodNamed B.named
  subst hsz
  have hLA : LA (dm L s.heap.size) L := ⟨hL, fun a h => Or.inl h⟩
  have hA : ∀ q : Nat, s.heap.size ≤ q → dm L s.heap.size q := fun q h => Or.inr h
  have hS : va_S (dm L s.heap.size) s.heap s.heap [] := va_S.rf
  have hB : TS D cA L T r ry ([] : List (Nat × Nat)) σ σ ρ s.heap := ⟨hP, hW, FR.rf⟩
  have hl := lv_entry ([.ref h0, .int p1, .int p2]) (n := 3) (Nat.le_of_ble_eq_true rfl)
  rw [lg_entry_eq]
  generalize (lg_sl ([.ref h0, .int p1, .int p2]) ++ List.replicate (3 - (lg_sl ([.ref h0, .int p1, .int p2])).length) Slot.unset).toArray = ls at hl ⊢
  have hl : lv_has ls 3 [(0, .ref h0), (1, .int p1), (2, .int p2)] := hl
  refine lv_iload_n hx hb dX3_askedAt_0 rfl (lv_at hl 2 rfl) ?_
  refine lv_iload_n hx hb dX3_askedAt_1 rfl (lv_at hl 1 rfl) ?_
  refine lv_ishr hx hb dX3_askedAt_2 ?_
  refine lv_topi (fun x_1 ex_1 => ?_)
  refine lv_iconst (v := 1) hx hb dX3_askedAt_3 (by decide) ?_
  refine lv_iand hx hb dX3_askedAt_4 ?_
  refine lv_topi (fun x_2 ex_2 => ?_)
  obtain ⟨lx_2, ux_2⟩ := and_m 1 (n := 1) (by decide) (by decide) (by decide) ex_2
  refine lv_if_ne (tgt := 17) hx hb dX3_askedAt_5 (by decide) (fun c_3 => ?_) (fun c_3 => ?_)
  · skip
    have uc_3 := i_ne (n := 0) (by decide) c_3
    refine lv_aload_n hx hb dX3_askedAt_17 rfl (lv_at hl 0 rfl) ?_
    refine t_gr hx hb hts hown hK hG hB mh0 th0 fq_3_4 rfl mw_1_152 dX3_askedAt_18 (fun b_4 hb_4 mb_4 tb_4 => ?_)
    refine lv_iload_n hx hb dX3_askedAt_21 rfl (lv_at hl 1 rfl) ?_
    refine t_ai hx hb hK hB mb_4 tb_4 ai_37 (fun _ => rfl) (i_in (by omega) (by omega)) dX3_askedAt_22 (fun x_5 ex_5 lx_5 ux_5 => ?_)
    exact W.iret (v := x_5) hx hb hr (fun t ht hW => ⟨⟨x_5, (σ, ρ), rfl, ⟨hB.2.1, hB.2.2, (show 0 ≤ (x_5 : Int32).toInt ∧ (x_5 : Int32).toInt ≤ 4 from ⟨by omega, by omega⟩)⟩, (show TP D cA L T r σ ρ t.heap from by rw [ht]; exact hB.1)⟩, hS.F ht⟩) hS.2.2 dX3_askedAt_23
  · skip
    have uc_3 := i_eq (n := 0) (by decide) c_3
    refine lv_aload_n hx hb dX3_askedAt_8 rfl (lv_at hl 0 rfl) ?_
    refine t_gr hx hb hts hown hK hG hB mh0 th0 fq_3_3 rfl mw_1_146 dX3_askedAt_9 (fun b_6 hb_6 mb_6 tb_6 => ?_)
    refine lv_iload_n hx hb dX3_askedAt_12 rfl (lv_at hl 1 rfl) ?_
    refine t_ai hx hb hK hB mb_6 tb_6 ai_36 (fun _ => rfl) (i_in (by omega) (by omega)) dX3_askedAt_13 (fun x_7 ex_7 lx_7 ux_7 => ?_)
    refine lv_goto (tgt := 23) hx hb dX3_askedAt_14 (by decide) ?_
    exact W.iret (v := x_7) hx hb hr (fun t ht hW => ⟨⟨x_7, (σ, ρ), rfl, ⟨hB.2.1, hB.2.2, (show 0 ≤ (x_7 : Int32).toInt ∧ (x_7 : Int32).toInt ≤ 4 from ⟨by omega, by omega⟩)⟩, (show TP D cA L T r σ ρ t.heap from by rw [ht]; exact hB.1)⟩, hS.F ht⟩) hS.2.2 dX3_askedAt_23
theorem mw_1_179 : (.fieldLink RX3 45 "HillBends$Hill" "bends" "I" : Cond) ∈ wsA := wsA_t (List.mem_append_left _ (List.mem_of_getElem? (l := tables_1_1) (i := 179) rfl)) rfl
theorem mw_4_84 : (.instanceMethod yX3_askedAt : Cond) ∈ wsA := wsA_t (List.mem_append_right _ (List.mem_append_right _ (List.mem_append_right _ (List.mem_append_left _ (List.mem_of_getElem? (l := tables_1_4) (i := 84) rfl))))) rfl
theorem mw_4_85 : (.selects RX3 yX3_askedAt yX3_askedAt : Cond) ∈ wsA := wsA_t (List.mem_append_right _ (List.mem_append_right _ (List.mem_append_right _ (List.mem_append_left _ (List.mem_of_getElem? (l := tables_1_4) (i := 85) rfl))))) rfl
theorem mw_1_4 : (.initialized RX3 : Cond) ∈ wsA := wsA_t (List.mem_append_left _ (List.mem_of_getElem? (l := tables_1_1) (i := 4) rfl)) rfl
theorem mw_4_86 : (.code yX3_askedAt cX3_askedAt 3 (some .int) : Cond) ∈ wsA := wsA_t (List.mem_append_right _ (List.mem_append_right _ (List.mem_append_right _ (List.mem_append_left _ (List.mem_of_getElem? (l := tables_1_4) (i := 86) rfl))))) rfl
theorem mw_4_103 : (.methodLink RX3 64 yX3_askedAt : Cond) ∈ wsA := wsA_t (List.mem_append_right _ (List.mem_append_right _ (List.mem_append_right _ (List.mem_append_left _ (List.mem_of_getElem? (l := tables_1_4) (i := 103) rfl))))) rfl
theorem dX3_turned_0 : decode cX3_turned 0 = .ok (.iconst 0, 1) := by decide +kernel
theorem dX3_turned_1 : decode cX3_turned 1 = .ok (.istore_n 2, 1) := by decide +kernel
theorem dX3_turned_2 : decode cX3_turned 2 = .ok (.iconst 0, 1) := by decide +kernel
theorem dX3_turned_3 : decode cX3_turned 3 = .ok (.istore_n 3, 1) := by decide +kernel
theorem dX3_turned_4 : decode cX3_turned 4 = .ok (.iload_n 3, 1) := by decide +kernel
theorem dX3_turned_5 : decode cX3_turned 5 = .ok (.aload_n 0, 1) := by decide +kernel
theorem dX3_turned_6 : decode cX3_turned 6 = .ok (.getfield 45, 3) := by decide +kernel
theorem dX3_turned_9 : decode cX3_turned 9 = .ok (.if_icmp .ge 30, 3) := by decide +kernel
theorem dX3_turned_39 : decode cX3_turned 39 = .ok (.iload_n 2, 1) := by decide +kernel
theorem dX3_turned_40 : decode cX3_turned 40 = .ok (.ireturn, 1) := by decide +kernel
theorem dX3_turned_12 : decode cX3_turned 12 = .ok (.aload_n 0, 1) := by decide +kernel
theorem dX3_turned_13 : decode cX3_turned 13 = .ok (.iload_n 3, 1) := by decide +kernel
theorem dX3_turned_14 : decode cX3_turned 14 = .ok (.iload_n 1, 1) := by decide +kernel
theorem dX3_turned_15 : decode cX3_turned 15 = .ok (.invokevirtual 64, 3) := by decide +kernel
theorem dX3_turned_18 : decode cX3_turned 18 = .ok (.aload_n 0, 1) := by decide +kernel
theorem dX3_turned_19 : decode cX3_turned 19 = .ok (.getfield 21, 3) := by decide +kernel
theorem dX3_turned_22 : decode cX3_turned 22 = .ok (.iload_n 3, 1) := by decide +kernel
theorem dX3_turned_23 : decode cX3_turned 23 = .ok (.iaload, 1) := by decide +kernel
theorem dX3_turned_24 : decode cX3_turned 24 = .ok (.if_icmp .eq 9, 3) := by decide +kernel
theorem dX3_turned_33 : decode cX3_turned 33 = .ok (.iinc 3 1, 3) := by decide +kernel
theorem dX3_turned_36 : decode cX3_turned 36 = .ok (.goto (-32), 3) := by decide +kernel
theorem dX3_turned_27 : decode cX3_turned 27 = .ok (.iload_n 2, 1) := by decide +kernel
theorem dX3_turned_28 : decode cX3_turned 28 = .ok (.iconst 1, 1) := by decide +kernel
theorem dX3_turned_29 : decode cX3_turned 29 = .ok (.iload_n 3, 1) := by decide +kernel
theorem dX3_turned_30 : decode cX3_turned 30 = .ok (.ishl, 1) := by decide +kernel
theorem dX3_turned_31 : decode cX3_turned 31 = .ok (.ior, 1) := by decide +kernel
theorem dX3_turned_32 : decode cX3_turned 32 = .ok (.istore_n 2, 1) := by decide +kernel
theorem mv_X3_askedAt : MV RX3 yX3_askedAt cX3_askedAt 3 (some .int) 2 := ⟨mw_4_84, mw_4_85, mw_1_4, mw_4_86, ⟨rfl, by decide, by decide, by decide +kernel⟩⟩
set_option maxHeartbeats 4000000 in
set_option maxRecDepth 100000 in
theorem cy_X3_turned (l : Launch) (D : va_G) (cA : Nat → ClassId) (L : List Nat) (T : Nat → Nat) (r : Rg) (hG : GR L T r) (hL : L.Nodup) (σ : Sg) (ρ : Lg) (hW : WT L ry T σ) (sz : Nat) (h0 : Nat) (mh0 : h0 ∈ L) (th0 : T h0 = 3) (p1 : Int32) : Met l yX3_turned (.code yX3_turned cX3_turned 4 (some .int) :: wsA) ({ frames := 1, cells := 0, slots := 0, locals := 22 }) (PR D cA L T r σ ρ sz [.ref h0, .int p1]) (QI D cA L T r ry ([] : List (Nat × Nat)) σ sz (fun x σ1 => True)) 0 0 (dm L sz) := by
  refine Met.ofW (cc := cX3_turned) (maxL := 4) (ret := (some .int)) (by decide) rfl ?_
  intro p e s m args below meth c s₁ B hml hv
  obtain ⟨rfl, hsz, hP, hK, hN⟩ := hv
  have hx := B.exec
  have hb := B.bytes
  have hr := B.returns
  have hts : ∀ w ∈ wsA, w.before _ s = true := fun w h => atoms_spec (ws := .code yX3_turned cX3_turned 4 (some .int) :: wsA) B.pre w (List.mem_cons_of_mem _ h)
  have hown : s.vm.findClass RX3 = some m.cls := findClass_of_methodNamed B.named
  subst hsz
  have hLA : LA (dm L s.heap.size) L := ⟨hL, fun a h => Or.inl h⟩
  have hA : ∀ q : Nat, s.heap.size ≤ q → dm L s.heap.size q := fun q h => Or.inr h
  have hS : va_S (dm L s.heap.size) s.heap s.heap [] := va_S.rf
  have hB : TS D cA L T r ry ([] : List (Nat × Nat)) σ σ ρ s.heap := ⟨hP, hW, FR.rf⟩
  have hl := lv_entry ([.ref h0, .int p1]) (n := 4) (Nat.le_of_ble_eq_true rfl)
  rw [lg_entry_eq]
  generalize (lg_sl ([.ref h0, .int p1]) ++ List.replicate (4 - (lg_sl ([.ref h0, .int p1])).length) Slot.unset).toArray = ls at hl ⊢
  have hl : lv_has ls 4 [(0, .ref h0), (1, .int p1)] := hl
  refine lv_iconst (v := 0) hx hb dX3_turned_0 (by decide) ?_
  refine lv_istore_n (lv' := [(2, .int 0), (0, .ref h0), (1, .int p1)]) hx hb dX3_turned_1 rfl hl (by decide) rfl (fun ls hl => ?_)
  refine lv_iconst (v := 0) hx hb dX3_turned_2 (by decide) ?_
  refine lv_istore_n (lv' := [(3, .int 0), (2, .int 0), (0, .ref h0), (1, .int p1)]) hx hb dX3_turned_3 rfl hl (by decide) rfl (fun ls hl => ?_)
  refine w_loop (α := Int32 × Int32 × Sg × Lg) (fun (i_1, i_2, σ_3, ρ_4) H locs ls => 0 ≤ i_2.toInt ∧ i_2.toInt ≤ 8 ∧ TS D cA L T r ry ([] : List (Nat × Nat)) σ σ_3 ρ_4 H ∧ va_S (dm L s.heap.size) s.heap H locs ∧ lv_has ls 4 [(3, .int i_2), (2, .int i_1), (0, .ref h0), (1, .int p1)]) (fun (i_1, i_2, σ_3, ρ_4) => (8 - i_2.toInt).toNat) ?_ ⟨0, 0, σ, ρ⟩ ⟨(by decide), (by decide), hB, hS, lv_sub hl [0, 1, 2, 3] rfl⟩
  rintro ⟨i_1, i_2, σ_3, ρ_4⟩ H locs ls ⟨li_2, ui_2, hB, hS, hl⟩ ih_5
  refine lv_iload_n hx hb dX3_turned_4 rfl (lv_at hl 0 rfl) ?_
  refine lv_aload_n hx hb dX3_turned_5 rfl (lv_at hl 2 rfl) ?_
  refine t_gi hx hb hts hown hK hB mh0 th0 fi_3_9 rfl mw_1_179 dX3_turned_6 (fun x_6 ex_6 lx_6 ux_6 => ?_)
  refine lv_icmp_ge (tgt := 39) hx hb dX3_turned_9 (by decide) (fun c_7 => ?_) (fun c_7 => ?_)
  · skip
    have uc_7 := j_le c_7
    refine lv_iload_n hx hb dX3_turned_39 rfl (lv_at hl 1 rfl) ?_
    exact W.iret (v := i_1) hx hb hr (fun t ht hW => ⟨⟨i_1, (σ_3, ρ_4), rfl, ⟨hB.2.1, hB.2.2, trivial⟩, (show TP D cA L T r σ_3 ρ_4 t.heap from by rw [ht]; exact hB.1)⟩, hS.F ht⟩) hS.2.2 dX3_turned_40
  · skip
    have uc_7 := j_nle c_7
    refine lv_aload_n hx hb dX3_turned_12 rfl (lv_at hl 2 rfl) ?_
    refine lv_iload_n hx hb dX3_turned_13 rfl (lv_at hl 0 rfl) ?_
    refine lv_iload_n hx hb dX3_turned_14 rfl (lv_at hl 3 rfl) ?_
    refine t_ci (va_runV (As := [.int i_2, .int p1]) (rest := []) ⟨hx, hb, hml, hown, hts⟩ (cy_X3_askedAt l D cA L T r hG hLA.1 σ_3 ρ_4 hB.2.1 _ h0 mh0 th0 i_2 p1 (by first | omega | decide) (by first | omega | decide)) (cV hts mv_X3_askedAt mw_4_103 rfl rfl ⟨Nat.le_of_ble_eq_true rfl, Nat.le_of_ble_eq_true rfl⟩) (pV hB.1 hK hN mh0 th0 (show shp cA 3 _ _ _ = .inr (3, Fs3 _ _ _) from rfl) rfl) rfl rfl hl.1 rfl (lv_room (Nat.le_of_ble_eq_true rfl)) dX3_turned_15 ⟨Nat.le_of_ble_eq_true rfl, Nat.le_of_ble_eq_true rfl⟩) hLA hA hB hS (by decide) (fun x_10 σ_8 ρ_9 H locs hB fσ_8 pσ_8 hS => ?_)
    have qσ_8 := FR.nil fσ_8
    subst qσ_8
    obtain ⟨lx_10, ux_10⟩ := pσ_8
    refine lv_aload_n hx hb dX3_turned_18 rfl (lv_at hl 2 rfl) ?_
    refine t_gr hx hb hts hown hK hG hB mh0 th0 fq_3_3 rfl mw_1_146 dX3_turned_19 (fun b_11 hb_11 mb_11 tb_11 => ?_)
    refine lv_iload_n hx hb dX3_turned_22 rfl (lv_at hl 0 rfl) ?_
    refine t_ai hx hb hK hB mb_11 tb_11 ai_36 (fun _ => rfl) (i_in (by omega) (by omega)) dX3_turned_23 (fun x_12 ex_12 lx_12 ux_12 => ?_)
    refine lv_icmp_eq (tgt := 33) hx hb dX3_turned_24 (by decide) (fun c_13 => ?_) (fun c_13 => ?_)
    · skip
      have uc_13 := j_eq c_13
      obtain ⟨x_14, ex_14⟩ : ∃ y : Int32, y = i_2 + 1 := ⟨_, rfl⟩
      have vx_14 := b_add (rfl : i_2.toInt = _) (by decide : (1 : Int32).toInt = 1) ex_14 (by omega) (by omega)
      refine lv_iinc (v := x_14) (lv' := [(3, .int x_14), (2, .int i_1), (0, .ref h0), (1, .int p1)]) hx hb dX3_turned_33 hl (k := 0) rfl (by rw [ex_14]; rfl) (by decide) rfl (fun ls hl => ?_)
      refine lv_goto (tgt := 4) hx hb dX3_turned_36 (by decide) ?_
      exact ih_5 ⟨i_1, x_14, σ_3, ρ_9⟩ _ _ _ ⟨(by omega), (by omega), hB, hS, lv_sub hl [0, 1, 2, 3] rfl⟩ (by show (8 - x_14.toInt).toNat < (8 - i_2.toInt).toNat; omega)
    · skip
      have uc_13 := j_ne c_13
      refine lv_iload_n hx hb dX3_turned_27 rfl (lv_at hl 1 rfl) ?_
      refine lv_iconst (v := 1) hx hb dX3_turned_28 (by decide) ?_
      refine lv_iload_n hx hb dX3_turned_29 rfl (lv_at hl 0 rfl) ?_
      refine lv_ishl hx hb dX3_turned_30 ?_
      refine lv_topi (fun x_15 ex_15 => ?_)
      refine lv_ior hx hb dX3_turned_31 ?_
      refine lv_topi (fun x_16 ex_16 => ?_)
      refine lv_istore_n (lv' := [(2, .int x_16), (3, .int i_2), (0, .ref h0), (1, .int p1)]) hx hb dX3_turned_32 rfl hl (by decide) rfl (fun ls hl => ?_)
      obtain ⟨x_17, ex_17⟩ : ∃ y : Int32, y = i_2 + 1 := ⟨_, rfl⟩
      have vx_17 := b_add (rfl : i_2.toInt = _) (by decide : (1 : Int32).toInt = 1) ex_17 (by omega) (by omega)
      refine lv_iinc (v := x_17) (lv' := [(3, .int x_17), (2, .int x_16), (0, .ref h0), (1, .int p1)]) hx hb dX3_turned_33 hl (k := 1) rfl (by rw [ex_17]; rfl) (by decide) rfl (fun ls hl => ?_)
      refine lv_goto (tgt := 4) hx hb dX3_turned_36 (by decide) ?_
      exact ih_5 ⟨x_16, x_17, σ_3, ρ_9⟩ _ _ _ ⟨(by omega), (by omega), hB, hS, lv_sub hl [0, 1, 2, 3] rfl⟩ (by show (8 - x_17.toInt).toNat < (8 - i_2.toInt).toNat; omega)
theorem mw_1_162 : (.fieldLink RX3 34 "HillBends$Hill" "told" "Z" : Cond) ∈ wsA := wsA_t (List.mem_append_left _ (List.mem_of_getElem? (l := tables_1_1) (i := 162) rfl)) rfl
theorem mw_1_165 : (.fieldLink RX3 38 "HillBends$Hill" "burden" "I" : Cond) ∈ wsA := wsA_t (List.mem_append_left _ (List.mem_of_getElem? (l := tables_1_1) (i := 165) rfl)) rfl
theorem mw_1_171 : (.fieldLink RX3 42 "HillBends$Hill" "sorts" "I" : Cond) ∈ wsA := wsA_t (List.mem_append_left _ (List.mem_of_getElem? (l := tables_1_1) (i := 171) rfl)) rfl
theorem mw_1_185 : (.fieldLink RX3 48 "HillBends$Hill" "pilgrims" "I" : Cond) ∈ wsA := wsA_t (List.mem_append_left _ (List.mem_of_getElem? (l := tables_1_1) (i := 185) rfl)) rfl
theorem mw_1_158 : (.fieldLink RX3 30 "HillBends$Hill" "begin" "LHillBends$Scene;" : Cond) ∈ wsA := wsA_t (List.mem_append_left _ (List.mem_of_getElem? (l := tables_1_1) (i := 158) rfl)) rfl
theorem mw_3_168 : (.instanceMethod yX8_clear : Cond) ∈ wsA := wsA_t (List.mem_append_right _ (List.mem_append_right _ (List.mem_append_left _ (List.mem_of_getElem? (l := tables_1_3) (i := 168) rfl)))) rfl
theorem mw_3_169 : (.selects RX8 yX8_clear yX8_clear : Cond) ∈ wsA := wsA_t (List.mem_append_right _ (List.mem_append_right _ (List.mem_append_left _ (List.mem_of_getElem? (l := tables_1_3) (i := 169) rfl)))) rfl
theorem mw_1_5 : (.initialized RX8 : Cond) ∈ wsA := wsA_t (List.mem_append_left _ (List.mem_of_getElem? (l := tables_1_1) (i := 5) rfl)) rfl
theorem mw_3_170 : (.code yX8_clear cX8_clear 2 none : Cond) ∈ wsA := wsA_t (List.mem_append_right _ (List.mem_append_right _ (List.mem_append_left _ (List.mem_of_getElem? (l := tables_1_3) (i := 170) rfl)))) rfl
theorem mw_3_167 : (.methodLink RX3 51 yX8_clear : Cond) ∈ wsA := wsA_t (List.mem_append_right _ (List.mem_append_right _ (List.mem_append_left _ (List.mem_of_getElem? (l := tables_1_3) (i := 167) rfl)))) rfl
theorem dX3_clear_0 : decode cX3_clear 0 = .ok (.aload_n 0, 1) := by decide +kernel
theorem dX3_clear_1 : decode cX3_clear 1 = .ok (.iconst 0, 1) := by decide +kernel
theorem dX3_clear_2 : decode cX3_clear 2 = .ok (.putfield 34, 3) := by decide +kernel
theorem dX3_clear_5 : decode cX3_clear 5 = .ok (.aload_n 0, 1) := by decide +kernel
theorem dX3_clear_6 : decode cX3_clear 6 = .ok (.iconst 0, 1) := by decide +kernel
theorem dX3_clear_7 : decode cX3_clear 7 = .ok (.putfield 38, 3) := by decide +kernel
theorem dX3_clear_10 : decode cX3_clear 10 = .ok (.aload_n 0, 1) := by decide +kernel
theorem dX3_clear_11 : decode cX3_clear 11 = .ok (.iconst 0, 1) := by decide +kernel
theorem dX3_clear_12 : decode cX3_clear 12 = .ok (.putfield 42, 3) := by decide +kernel
theorem dX3_clear_15 : decode cX3_clear 15 = .ok (.aload_n 0, 1) := by decide +kernel
theorem dX3_clear_16 : decode cX3_clear 16 = .ok (.iconst 0, 1) := by decide +kernel
theorem dX3_clear_17 : decode cX3_clear 17 = .ok (.putfield 45, 3) := by decide +kernel
theorem dX3_clear_20 : decode cX3_clear 20 = .ok (.aload_n 0, 1) := by decide +kernel
theorem dX3_clear_21 : decode cX3_clear 21 = .ok (.iconst 0, 1) := by decide +kernel
theorem dX3_clear_22 : decode cX3_clear 22 = .ok (.putfield 48, 3) := by decide +kernel
theorem dX3_clear_25 : decode cX3_clear 25 = .ok (.aload_n 0, 1) := by decide +kernel
theorem dX3_clear_26 : decode cX3_clear 26 = .ok (.getfield 30, 3) := by decide +kernel
theorem dX3_clear_29 : decode cX3_clear 29 = .ok (.invokevirtual 51, 3) := by decide +kernel
theorem dX3_clear_32 : decode cX3_clear 32 = .ok (.return_, 1) := by decide +kernel
theorem mv_X8_clear : MV RX8 yX8_clear cX8_clear 2 none 0 := ⟨mw_3_168, mw_3_169, mw_1_5, mw_3_170, ⟨rfl, by decide, by decide, by decide +kernel⟩⟩
set_option maxHeartbeats 4000000 in
set_option maxRecDepth 100000 in
theorem cy_X3_clear (l : Launch) (D : va_G) (cA : Nat → ClassId) (L : List Nat) (T : Nat → Nat) (r : Rg) (hG : GR L T r) (hL : L.Nodup) (σ : Sg) (ρ : Lg) (hW : WT L ry T σ) (sz : Nat) (h0 : Nat) (mh0 : h0 ∈ L) (th0 : T h0 = 17) : Met l yX3_clear (.code yX3_clear cX3_clear 1 none :: wsA) ({ frames := 1, cells := 0, slots := 0, locals := 21 }) (PR D cA L T r σ ρ sz [.ref h0]) (QV D cA L T r ry [(17, 6), (17, 7), (17, 8), (17, 9), (17, 10), (101, 6), (101, 7), (113, 1000), (114, 1000), (115, 1000), (116, 1000), (117, 1000), (118, 1000)] σ sz (fun σ1 => True)) 0 0 (dm L sz) := by
  refine Met.ofW (cc := cX3_clear) (maxL := 1) (ret := none) (by decide) rfl ?_
  intro p e s m args below meth c s₁ B hml hv
  obtain ⟨rfl, hsz, hP, hK, hN⟩ := hv
  have hx := B.exec
  have hb := B.bytes
  have hr := B.returns
  have hts : ∀ w ∈ wsA, w.before _ s = true := fun w h => atoms_spec (ws := .code yX3_clear cX3_clear 1 none :: wsA) B.pre w (List.mem_cons_of_mem _ h)
  have hown : s.vm.findClass RX3 = some m.cls := findClass_of_methodNamed B.named
  subst hsz
  have hLA : LA (dm L s.heap.size) L := ⟨hL, fun a h => Or.inl h⟩
  have hA : ∀ q : Nat, s.heap.size ≤ q → dm L s.heap.size q := fun q h => Or.inr h
  have hS : va_S (dm L s.heap.size) s.heap s.heap [] := va_S.rf
  have hB : TS D cA L T r ry [(17, 6), (17, 7), (17, 8), (17, 9), (17, 10), (101, 6), (101, 7), (113, 1000), (114, 1000), (115, 1000), (116, 1000), (117, 1000), (118, 1000)] σ σ ρ s.heap := ⟨hP, hW, FR.rf⟩
  have hl := lv_entry ([.ref h0]) (n := 1) (Nat.le_of_ble_eq_true rfl)
  rw [lg_entry_eq]
  generalize (lg_sl ([.ref h0]) ++ List.replicate (1 - (lg_sl ([.ref h0])).length) Slot.unset).toArray = ls at hl ⊢
  have hl : lv_has ls 1 [(0, .ref h0)] := hl
  refine lv_aload_n hx hb dX3_clear_0 rfl (lv_at hl 0 rfl) ?_
  refine lv_iconst (v := 0) hx hb dX3_clear_1 (by decide) ?_
  refine t_pi hx hb hts hown hK hLA hB hS mh0 th0 fi_17_6 rfl rfl rfl (by decide) (by decide) (Or.inl (by decide)) mw_1_162 dX3_clear_2 (fun H locs σ_1 eσ_1 hB hS => ?_)
  have k_2 : σ_1 h0 6 = 0 := by rw [eσ_1]; exact up2_same _ _ _ _
  refine lv_aload_n hx hb dX3_clear_5 rfl (lv_at hl 0 rfl) ?_
  refine lv_iconst (v := 0) hx hb dX3_clear_6 (by decide) ?_
  refine t_pi hx hb hts hown hK hLA hB hS mh0 th0 fi_17_7 rfl rfl rfl (i_lo _) (i_hi _) (Or.inl (by decide)) mw_1_165 dX3_clear_7 (fun H locs σ_3 eσ_3 hB hS => ?_)
  have k_4 : σ_3 h0 7 = 0 := by rw [eσ_3]; exact up2_same _ _ _ _
  refine lv_aload_n hx hb dX3_clear_10 rfl (lv_at hl 0 rfl) ?_
  refine lv_iconst (v := 0) hx hb dX3_clear_11 (by decide) ?_
  refine t_pi hx hb hts hown hK hLA hB hS mh0 th0 fi_17_8 rfl rfl rfl (by decide) (by decide) (Or.inl (by decide)) mw_1_171 dX3_clear_12 (fun H locs σ_5 eσ_5 hB hS => ?_)
  have k_6 : σ_5 h0 8 = 0 := by rw [eσ_5]; exact up2_same _ _ _ _
  refine lv_aload_n hx hb dX3_clear_15 rfl (lv_at hl 0 rfl) ?_
  refine lv_iconst (v := 0) hx hb dX3_clear_16 (by decide) ?_
  refine t_pi hx hb hts hown hK hLA hB hS mh0 th0 fi_17_9 rfl rfl rfl (by decide) (by decide) (Or.inl (by decide)) mw_1_179 dX3_clear_17 (fun H locs σ_7 eσ_7 hB hS => ?_)
  have k_8 : σ_7 h0 9 = 0 := by rw [eσ_7]; exact up2_same _ _ _ _
  refine lv_aload_n hx hb dX3_clear_20 rfl (lv_at hl 0 rfl) ?_
  refine lv_iconst (v := 0) hx hb dX3_clear_21 (by decide) ?_
  refine t_pi hx hb hts hown hK hLA hB hS mh0 th0 fi_17_10 rfl rfl rfl (by decide) (by decide) (Or.inl (by decide)) mw_1_185 dX3_clear_22 (fun H locs σ_9 eσ_9 hB hS => ?_)
  have k_10 : σ_9 h0 10 = 0 := by rw [eσ_9]; exact up2_same _ _ _ _
  refine lv_aload_n hx hb dX3_clear_25 rfl (lv_at hl 0 rfl) ?_
  refine t_gr hx hb hts hown hK hG hB mh0 th0 fq_17_5 rfl mw_1_158 dX3_clear_26 (fun b_11 hb_11 mb_11 tb_11 => ?_)
  refine t_cv (va_runV (As := []) (rest := []) ⟨hx, hb, hml, hown, hts⟩ (cy_X8_clear l D cA L T r hG hLA.1 σ_9 ρ hB.2.1 _ b_11 mb_11 tb_11) (cV hts mv_X8_clear mw_3_167 rfl rfl ⟨Nat.le_of_ble_eq_true rfl, Nat.le_of_ble_eq_true rfl⟩) (pV hB.1 hK hN mb_11 tb_11 (show shp cA 101 _ _ _ = .inr (8, Fs8 _ _ _) from rfl) rfl) rfl rfl hl.1 rfl (lv_room (Nat.le_of_ble_eq_true rfl)) dX3_clear_29 ⟨Nat.le_of_ble_eq_true rfl, Nat.le_of_ble_eq_true rfl⟩) hLA hA hB hS (by decide) (fun σ_12 ρ_13 H locs hB fσ_12 pσ_12 hS => ?_)
  exact W.vret hx hb hr (fun t ht hW => ⟨⟨(σ_12, ρ_13), rfl, ⟨hB.2.1, hB.2.2, trivial⟩, (show TP D cA L T r σ_12 ρ_13 t.heap from by rw [ht]; exact hB.1)⟩, hS.F ht⟩) hS.2.2 dX3_clear_32
theorem mw_1_130 : (.fieldLink RX3 9 "HillBends$Hill" "weight" "[I" : Cond) ∈ wsA := wsA_t (List.mem_append_left _ (List.mem_of_getElem? (l := tables_1_1) (i := 130) rfl)) rfl
theorem mw_3_237 : (.methodLink RX3 54 arraycopyName : Cond) ∈ wsA := wsA_t (List.mem_append_right _ (List.mem_append_right _ (List.mem_append_left _ (List.mem_of_getElem? (l := tables_1_3) (i := 237) rfl)))) rfl
theorem mw_1_136 : (.fieldLink RX3 15 "HillBends$Hill" "worth" "[I" : Cond) ∈ wsA := wsA_t (List.mem_append_left _ (List.mem_of_getElem? (l := tables_1_1) (i := 136) rfl)) rfl
theorem mw_1_141 : (.fieldLink RX3 18 "HillBends$Hill" "price" "[I" : Cond) ∈ wsA := wsA_t (List.mem_append_left _ (List.mem_of_getElem? (l := tables_1_1) (i := 141) rfl)) rfl
theorem mw_4_1 : (.instanceMethod yX8_copyFrom : Cond) ∈ wsA := wsA_t (List.mem_append_right _ (List.mem_append_right _ (List.mem_append_right _ (List.mem_append_left _ (List.mem_of_getElem? (l := tables_1_4) (i := 1) rfl))))) rfl
theorem mw_4_2 : (.selects RX8 yX8_copyFrom yX8_copyFrom : Cond) ∈ wsA := wsA_t (List.mem_append_right _ (List.mem_append_right _ (List.mem_append_right _ (List.mem_append_left _ (List.mem_of_getElem? (l := tables_1_4) (i := 2) rfl))))) rfl
theorem mw_4_3 : (.code yX8_copyFrom cX8_copyFrom 2 none : Cond) ∈ wsA := wsA_t (List.mem_append_right _ (List.mem_append_right _ (List.mem_append_right _ (List.mem_append_left _ (List.mem_of_getElem? (l := tables_1_4) (i := 3) rfl))))) rfl
theorem mw_4_0 : (.methodLink RX3 60 yX8_copyFrom : Cond) ∈ wsA := wsA_t (List.mem_append_right _ (List.mem_append_right _ (List.mem_append_right _ (List.mem_append_left _ (List.mem_of_getElem? (l := tables_1_4) (i := 0) rfl))))) rfl
theorem dX3_copyFrom_0 : decode cX3_copyFrom 0 = .ok (.aload_n 1, 1) := by decide +kernel
theorem dX3_copyFrom_1 : decode cX3_copyFrom 1 = .ok (.getfield 9, 3) := by decide +kernel
theorem dX3_copyFrom_4 : decode cX3_copyFrom 4 = .ok (.iconst 0, 1) := by decide +kernel
theorem dX3_copyFrom_5 : decode cX3_copyFrom 5 = .ok (.aload_n 0, 1) := by decide +kernel
theorem dX3_copyFrom_6 : decode cX3_copyFrom 6 = .ok (.getfield 9, 3) := by decide +kernel
theorem dX3_copyFrom_9 : decode cX3_copyFrom 9 = .ok (.iconst 0, 1) := by decide +kernel
theorem dX3_copyFrom_10 : decode cX3_copyFrom 10 = .ok (.iconst 5, 1) := by decide +kernel
theorem dX3_copyFrom_11 : decode cX3_copyFrom 11 = .ok (.invokestatic 54, 3) := by decide +kernel
theorem dX3_copyFrom_14 : decode cX3_copyFrom 14 = .ok (.aload_n 1, 1) := by decide +kernel
theorem dX3_copyFrom_15 : decode cX3_copyFrom 15 = .ok (.getfield 15, 3) := by decide +kernel
theorem dX3_copyFrom_18 : decode cX3_copyFrom 18 = .ok (.iconst 0, 1) := by decide +kernel
theorem dX3_copyFrom_19 : decode cX3_copyFrom 19 = .ok (.aload_n 0, 1) := by decide +kernel
theorem dX3_copyFrom_20 : decode cX3_copyFrom 20 = .ok (.getfield 15, 3) := by decide +kernel
theorem dX3_copyFrom_23 : decode cX3_copyFrom 23 = .ok (.iconst 0, 1) := by decide +kernel
theorem dX3_copyFrom_24 : decode cX3_copyFrom 24 = .ok (.iconst 5, 1) := by decide +kernel
theorem dX3_copyFrom_25 : decode cX3_copyFrom 25 = .ok (.invokestatic 54, 3) := by decide +kernel
theorem dX3_copyFrom_28 : decode cX3_copyFrom 28 = .ok (.aload_n 1, 1) := by decide +kernel
theorem dX3_copyFrom_29 : decode cX3_copyFrom 29 = .ok (.getfield 18, 3) := by decide +kernel
theorem dX3_copyFrom_32 : decode cX3_copyFrom 32 = .ok (.iconst 0, 1) := by decide +kernel
theorem dX3_copyFrom_33 : decode cX3_copyFrom 33 = .ok (.aload_n 0, 1) := by decide +kernel
theorem dX3_copyFrom_34 : decode cX3_copyFrom 34 = .ok (.getfield 18, 3) := by decide +kernel
theorem dX3_copyFrom_37 : decode cX3_copyFrom 37 = .ok (.iconst 0, 1) := by decide +kernel
theorem dX3_copyFrom_38 : decode cX3_copyFrom 38 = .ok (.iconst 5, 1) := by decide +kernel
theorem dX3_copyFrom_39 : decode cX3_copyFrom 39 = .ok (.invokestatic 54, 3) := by decide +kernel
theorem dX3_copyFrom_42 : decode cX3_copyFrom 42 = .ok (.aload_n 1, 1) := by decide +kernel
theorem dX3_copyFrom_43 : decode cX3_copyFrom 43 = .ok (.getfield 21, 3) := by decide +kernel
theorem dX3_copyFrom_46 : decode cX3_copyFrom 46 = .ok (.iconst 0, 1) := by decide +kernel
theorem dX3_copyFrom_47 : decode cX3_copyFrom 47 = .ok (.aload_n 0, 1) := by decide +kernel
theorem dX3_copyFrom_48 : decode cX3_copyFrom 48 = .ok (.getfield 21, 3) := by decide +kernel
theorem dX3_copyFrom_51 : decode cX3_copyFrom 51 = .ok (.iconst 0, 1) := by decide +kernel
theorem dX3_copyFrom_52 : decode cX3_copyFrom 52 = .ok (.bipush 8, 2) := by decide +kernel
theorem dX3_copyFrom_54 : decode cX3_copyFrom 54 = .ok (.invokestatic 54, 3) := by decide +kernel
theorem dX3_copyFrom_57 : decode cX3_copyFrom 57 = .ok (.aload_n 1, 1) := by decide +kernel
theorem dX3_copyFrom_58 : decode cX3_copyFrom 58 = .ok (.getfield 24, 3) := by decide +kernel
theorem dX3_copyFrom_61 : decode cX3_copyFrom 61 = .ok (.iconst 0, 1) := by decide +kernel
theorem dX3_copyFrom_62 : decode cX3_copyFrom 62 = .ok (.aload_n 0, 1) := by decide +kernel
theorem dX3_copyFrom_63 : decode cX3_copyFrom 63 = .ok (.getfield 24, 3) := by decide +kernel
theorem dX3_copyFrom_66 : decode cX3_copyFrom 66 = .ok (.iconst 0, 1) := by decide +kernel
theorem dX3_copyFrom_67 : decode cX3_copyFrom 67 = .ok (.bipush 8, 2) := by decide +kernel
theorem dX3_copyFrom_69 : decode cX3_copyFrom 69 = .ok (.invokestatic 54, 3) := by decide +kernel
theorem dX3_copyFrom_72 : decode cX3_copyFrom 72 = .ok (.aload_n 0, 1) := by decide +kernel
theorem dX3_copyFrom_73 : decode cX3_copyFrom 73 = .ok (.getfield 30, 3) := by decide +kernel
theorem dX3_copyFrom_76 : decode cX3_copyFrom 76 = .ok (.aload_n 1, 1) := by decide +kernel
theorem dX3_copyFrom_77 : decode cX3_copyFrom 77 = .ok (.getfield 30, 3) := by decide +kernel
theorem dX3_copyFrom_80 : decode cX3_copyFrom 80 = .ok (.invokevirtual 60, 3) := by decide +kernel
theorem dX3_copyFrom_83 : decode cX3_copyFrom 83 = .ok (.aload_n 0, 1) := by decide +kernel
theorem dX3_copyFrom_84 : decode cX3_copyFrom 84 = .ok (.aload_n 1, 1) := by decide +kernel
theorem dX3_copyFrom_85 : decode cX3_copyFrom 85 = .ok (.getfield 34, 3) := by decide +kernel
theorem dX3_copyFrom_88 : decode cX3_copyFrom 88 = .ok (.putfield 34, 3) := by decide +kernel
theorem dX3_copyFrom_91 : decode cX3_copyFrom 91 = .ok (.aload_n 0, 1) := by decide +kernel
theorem dX3_copyFrom_92 : decode cX3_copyFrom 92 = .ok (.aload_n 1, 1) := by decide +kernel
theorem dX3_copyFrom_93 : decode cX3_copyFrom 93 = .ok (.getfield 38, 3) := by decide +kernel
theorem dX3_copyFrom_96 : decode cX3_copyFrom 96 = .ok (.putfield 38, 3) := by decide +kernel
theorem dX3_copyFrom_99 : decode cX3_copyFrom 99 = .ok (.aload_n 0, 1) := by decide +kernel
theorem dX3_copyFrom_100 : decode cX3_copyFrom 100 = .ok (.aload_n 1, 1) := by decide +kernel
theorem dX3_copyFrom_101 : decode cX3_copyFrom 101 = .ok (.getfield 42, 3) := by decide +kernel
theorem dX3_copyFrom_104 : decode cX3_copyFrom 104 = .ok (.putfield 42, 3) := by decide +kernel
theorem dX3_copyFrom_107 : decode cX3_copyFrom 107 = .ok (.aload_n 0, 1) := by decide +kernel
theorem dX3_copyFrom_108 : decode cX3_copyFrom 108 = .ok (.aload_n 1, 1) := by decide +kernel
theorem dX3_copyFrom_109 : decode cX3_copyFrom 109 = .ok (.getfield 45, 3) := by decide +kernel
theorem dX3_copyFrom_112 : decode cX3_copyFrom 112 = .ok (.putfield 45, 3) := by decide +kernel
theorem dX3_copyFrom_115 : decode cX3_copyFrom 115 = .ok (.aload_n 0, 1) := by decide +kernel
theorem dX3_copyFrom_116 : decode cX3_copyFrom 116 = .ok (.aload_n 1, 1) := by decide +kernel
theorem dX3_copyFrom_117 : decode cX3_copyFrom 117 = .ok (.getfield 48, 3) := by decide +kernel
theorem dX3_copyFrom_120 : decode cX3_copyFrom 120 = .ok (.putfield 48, 3) := by decide +kernel
theorem dX3_copyFrom_123 : decode cX3_copyFrom 123 = .ok (.return_, 1) := by decide +kernel
theorem mv_X8_copyFrom : MV RX8 yX8_copyFrom cX8_copyFrom 2 none 1 := ⟨mw_4_1, mw_4_2, mw_1_5, mw_4_3, ⟨rfl, by decide, by decide, by decide +kernel⟩⟩
set_option maxHeartbeats 4000000 in
set_option maxRecDepth 100000 in
theorem cy_X3_copyFrom_3_17 (l : Launch) (D : va_G) (cA : Nat → ClassId) (L : List Nat) (T : Nat → Nat) (r : Rg) (hG : GR L T r) (hL : L.Nodup) (σ : Sg) (ρ : Lg) (hW : WT L ry T σ) (sz : Nat) (h0 : Nat) (mh0 : h0 ∈ L) (th0 : T h0 = 3) (h1 : Nat) (mh1 : h1 ∈ L) (th1 : T h1 = 17) : Met l yX3_copyFrom (.code yX3_copyFrom cX3_copyFrom 2 none :: wsA) ({ frames := 2, cells := 0, slots := 0, locals := 121 }) (PR D cA L T r σ ρ sz [.ref h0, .ref h1]) (QV D cA L T r ry [(3, 6), (3, 7), (3, 8), (3, 9), (3, 10), (33, 1000), (34, 1000), (35, 1000), (36, 1000), (37, 1000), (100, 6), (100, 7), (107, 1000), (108, 1000), (109, 1000), (110, 1000), (111, 1000), (112, 1000)] σ sz (fun σ1 => True)) 0 0 (dm L sz) := by
  refine Met.ofW (cc := cX3_copyFrom) (maxL := 2) (ret := none) (by decide) rfl ?_
  intro p e s m args below meth c s₁ B hml hv
  obtain ⟨rfl, hsz, hP, hK, hN⟩ := hv
  have hx := B.exec
  have hb := B.bytes
  have hr := B.returns
  have hts : ∀ w ∈ wsA, w.before _ s = true := fun w h => atoms_spec (ws := .code yX3_copyFrom cX3_copyFrom 2 none :: wsA) B.pre w (List.mem_cons_of_mem _ h)
  have hown : s.vm.findClass RX3 = some m.cls := findClass_of_methodNamed B.named
  subst hsz
  have hLA : LA (dm L s.heap.size) L := ⟨hL, fun a h => Or.inl h⟩
  have hA : ∀ q : Nat, s.heap.size ≤ q → dm L s.heap.size q := fun q h => Or.inr h
  have hS : va_S (dm L s.heap.size) s.heap s.heap [] := va_S.rf
  have hB : TS D cA L T r ry [(3, 6), (3, 7), (3, 8), (3, 9), (3, 10), (33, 1000), (34, 1000), (35, 1000), (36, 1000), (37, 1000), (100, 6), (100, 7), (107, 1000), (108, 1000), (109, 1000), (110, 1000), (111, 1000), (112, 1000)] σ σ ρ s.heap := ⟨hP, hW, FR.rf⟩
  have hl := lv_entry ([.ref h0, .ref h1]) (n := 2) (Nat.le_of_ble_eq_true rfl)
  rw [lg_entry_eq]
  generalize (lg_sl ([.ref h0, .ref h1]) ++ List.replicate (2 - (lg_sl ([.ref h0, .ref h1])).length) Slot.unset).toArray = ls at hl ⊢
  have hl : lv_has ls 2 [(0, .ref h0), (1, .ref h1)] := hl
  refine lv_aload_n hx hb dX3_copyFrom_0 rfl (lv_at hl 1 rfl) ?_
  refine t_gr hx hb hts hown hK hG hB mh1 th1 fq_17_0 rfl mw_1_130 dX3_copyFrom_1 (fun b_1 hb_1 mb_1 tb_1 => ?_)
  refine lv_iconst (v := 0) hx hb dX3_copyFrom_4 (by decide) ?_
  refine lv_aload_n hx hb dX3_copyFrom_5 rfl (lv_at hl 0 rfl) ?_
  refine t_gr hx hb hts hown hK hG hB mh0 th0 fq_3_0 rfl mw_1_130 dX3_copyFrom_6 (fun b_2 hb_2 mb_2 tb_2 => ?_)
  refine lv_iconst (v := 0) hx hb dX3_copyFrom_9 (by decide) ?_
  refine lv_iconst (v := 5) hx hb dX3_copyFrom_10 (by decide) ?_
  refine t_cp (lo := (-2147483648)) (hi := 2147483647) hx hb (hml.trans hl.1.symm) hts hown mw_3_237 ⟨mw_3_239, mw_3_238, mw_1_20⟩ hK hLA hB hS mb_1 tb_1 ai_90 mb_2 tb_2 ai_33 (fun _ => ⟨show ((-2147483648) : Int) ≤ (-2147483648) by decide, show (2147483647 : Int) ≤ 2147483647 by decide⟩) (fun _ => rfl) (by decide) (by decide) (by decide) (by decide) (by decide) (by decide) (Nat.le_of_ble_eq_true rfl) (Nat.le_of_ble_eq_true rfl) dX3_copyFrom_11 (fun H locs σ_3 eσ_3 hB hS => ?_)
  refine lv_aload_n hx hb dX3_copyFrom_14 rfl (lv_at hl 1 rfl) ?_
  refine t_gr hx hb hts hown hK hG hB mh1 th1 fq_17_1 rfl mw_1_136 dX3_copyFrom_15 (fun b_4 hb_4 mb_4 tb_4 => ?_)
  refine lv_iconst (v := 0) hx hb dX3_copyFrom_18 (by decide) ?_
  refine lv_aload_n hx hb dX3_copyFrom_19 rfl (lv_at hl 0 rfl) ?_
  refine t_gr hx hb hts hown hK hG hB mh0 th0 fq_3_1 rfl mw_1_136 dX3_copyFrom_20 (fun b_5 hb_5 mb_5 tb_5 => ?_)
  refine lv_iconst (v := 0) hx hb dX3_copyFrom_23 (by decide) ?_
  refine lv_iconst (v := 5) hx hb dX3_copyFrom_24 (by decide) ?_
  refine t_cp (lo := (-2147483648)) (hi := 2147483647) hx hb (hml.trans hl.1.symm) hts hown mw_3_237 ⟨mw_3_239, mw_3_238, mw_1_20⟩ hK hLA hB hS mb_4 tb_4 ai_91 mb_5 tb_5 ai_34 (fun _ => ⟨show ((-2147483648) : Int) ≤ (-2147483648) by decide, show (2147483647 : Int) ≤ 2147483647 by decide⟩) (fun _ => rfl) (by decide) (by decide) (by decide) (by decide) (by decide) (by decide) (Nat.le_of_ble_eq_true rfl) (Nat.le_of_ble_eq_true rfl) dX3_copyFrom_25 (fun H locs σ_6 eσ_6 hB hS => ?_)
  refine lv_aload_n hx hb dX3_copyFrom_28 rfl (lv_at hl 1 rfl) ?_
  refine t_gr hx hb hts hown hK hG hB mh1 th1 fq_17_2 rfl mw_1_141 dX3_copyFrom_29 (fun b_7 hb_7 mb_7 tb_7 => ?_)
  refine lv_iconst (v := 0) hx hb dX3_copyFrom_32 (by decide) ?_
  refine lv_aload_n hx hb dX3_copyFrom_33 rfl (lv_at hl 0 rfl) ?_
  refine t_gr hx hb hts hown hK hG hB mh0 th0 fq_3_2 rfl mw_1_141 dX3_copyFrom_34 (fun b_8 hb_8 mb_8 tb_8 => ?_)
  refine lv_iconst (v := 0) hx hb dX3_copyFrom_37 (by decide) ?_
  refine lv_iconst (v := 5) hx hb dX3_copyFrom_38 (by decide) ?_
  refine t_cp (lo := (-2147483648)) (hi := 2147483647) hx hb (hml.trans hl.1.symm) hts hown mw_3_237 ⟨mw_3_239, mw_3_238, mw_1_20⟩ hK hLA hB hS mb_7 tb_7 ai_92 mb_8 tb_8 ai_35 (fun _ => ⟨show ((-2147483648) : Int) ≤ (-2147483648) by decide, show (2147483647 : Int) ≤ 2147483647 by decide⟩) (fun _ => rfl) (by decide) (by decide) (by decide) (by decide) (by decide) (by decide) (Nat.le_of_ble_eq_true rfl) (Nat.le_of_ble_eq_true rfl) dX3_copyFrom_39 (fun H locs σ_9 eσ_9 hB hS => ?_)
  refine lv_aload_n hx hb dX3_copyFrom_42 rfl (lv_at hl 1 rfl) ?_
  refine t_gr hx hb hts hown hK hG hB mh1 th1 fq_17_3 rfl mw_1_146 dX3_copyFrom_43 (fun b_10 hb_10 mb_10 tb_10 => ?_)
  refine lv_iconst (v := 0) hx hb dX3_copyFrom_46 (by decide) ?_
  refine lv_aload_n hx hb dX3_copyFrom_47 rfl (lv_at hl 0 rfl) ?_
  refine t_gr hx hb hts hown hK hG hB mh0 th0 fq_3_3 rfl mw_1_146 dX3_copyFrom_48 (fun b_11 hb_11 mb_11 tb_11 => ?_)
  refine lv_iconst (v := 0) hx hb dX3_copyFrom_51 (by decide) ?_
  refine lv_bipush (v := 8) hx hb dX3_copyFrom_52 (by decide) ?_
  refine t_cp (lo := 0) (hi := 4) hx hb (hml.trans hl.1.symm) hts hown mw_3_237 ⟨mw_3_239, mw_3_238, mw_1_20⟩ hK hLA hB hS mb_10 tb_10 ai_93 mb_11 tb_11 ai_36 (fun _ => ⟨show (0 : Int) ≤ 0 by decide, show (4 : Int) ≤ 4 by decide⟩) (fun _ => rfl) (by decide) (by decide) (by decide) (by decide) (by decide) (by decide) (Nat.le_of_ble_eq_true rfl) (Nat.le_of_ble_eq_true rfl) dX3_copyFrom_54 (fun H locs σ_12 eσ_12 hB hS => ?_)
  refine lv_aload_n hx hb dX3_copyFrom_57 rfl (lv_at hl 1 rfl) ?_
  refine t_gr hx hb hts hown hK hG hB mh1 th1 fq_17_4 rfl mw_1_152 dX3_copyFrom_58 (fun b_13 hb_13 mb_13 tb_13 => ?_)
  refine lv_iconst (v := 0) hx hb dX3_copyFrom_61 (by decide) ?_
  refine lv_aload_n hx hb dX3_copyFrom_62 rfl (lv_at hl 0 rfl) ?_
  refine t_gr hx hb hts hown hK hG hB mh0 th0 fq_3_4 rfl mw_1_152 dX3_copyFrom_63 (fun b_14 hb_14 mb_14 tb_14 => ?_)
  refine lv_iconst (v := 0) hx hb dX3_copyFrom_66 (by decide) ?_
  refine lv_bipush (v := 8) hx hb dX3_copyFrom_67 (by decide) ?_
  refine t_cp (lo := 0) (hi := 4) hx hb (hml.trans hl.1.symm) hts hown mw_3_237 ⟨mw_3_239, mw_3_238, mw_1_20⟩ hK hLA hB hS mb_13 tb_13 ai_94 mb_14 tb_14 ai_37 (fun _ => ⟨show (0 : Int) ≤ 0 by decide, show (4 : Int) ≤ 4 by decide⟩) (fun _ => rfl) (by decide) (by decide) (by decide) (by decide) (by decide) (by decide) (Nat.le_of_ble_eq_true rfl) (Nat.le_of_ble_eq_true rfl) dX3_copyFrom_69 (fun H locs σ_15 eσ_15 hB hS => ?_)
  refine lv_aload_n hx hb dX3_copyFrom_72 rfl (lv_at hl 0 rfl) ?_
  refine t_gr hx hb hts hown hK hG hB mh0 th0 fq_3_5 rfl mw_1_158 dX3_copyFrom_73 (fun b_16 hb_16 mb_16 tb_16 => ?_)
  refine lv_aload_n hx hb dX3_copyFrom_76 rfl (lv_at hl 1 rfl) ?_
  refine t_gr hx hb hts hown hK hG hB mh1 th1 fq_17_5 rfl mw_1_158 dX3_copyFrom_77 (fun b_17 hb_17 mb_17 tb_17 => ?_)
  refine t_cv (va_runV (As := [.ref b_17]) (rest := []) ⟨hx, hb, hml, hown, hts⟩ (cy_X8_copyFrom_100_101 l D cA L T r hG hLA.1 σ_15 ρ hB.2.1 _ b_16 mb_16 tb_16 b_17 mb_17 tb_17) (cV hts mv_X8_copyFrom mw_4_0 rfl rfl ⟨Nat.le_of_ble_eq_true rfl, Nat.le_of_ble_eq_true rfl⟩) (pV hB.1 hK hN mb_16 tb_16 (show shp cA 100 _ _ _ = .inr (8, Fs8 _ _ _) from rfl) rfl) rfl rfl hl.1 rfl (lv_room (Nat.le_of_ble_eq_true rfl)) dX3_copyFrom_80 ⟨Nat.le_of_ble_eq_true rfl, Nat.le_of_ble_eq_true rfl⟩) hLA hA hB hS (by decide) (fun σ_18 ρ_19 H locs hB fσ_18 pσ_18 hS => ?_)
  refine lv_aload_n hx hb dX3_copyFrom_83 rfl (lv_at hl 0 rfl) ?_
  refine lv_aload_n hx hb dX3_copyFrom_84 rfl (lv_at hl 1 rfl) ?_
  refine t_gi hx hb hts hown hK hB mh1 th1 fi_17_6 rfl mw_1_162 dX3_copyFrom_85 (fun x_21 ex_21 lx_21 ux_21 => ?_)
  refine t_pi hx hb hts hown hK hLA hB hS mh0 th0 fi_3_6 (n_bool (by omega) (by omega)) (f_bool (by omega) (by omega)) rfl (by omega) (by omega) (Or.inl (by decide)) mw_1_162 dX3_copyFrom_88 (fun H locs σ_22 eσ_22 hB hS => ?_)
  have k_23 : σ_22 h0 6 = x_21 := by rw [eσ_22]; exact up2_same _ _ _ _
  refine lv_aload_n hx hb dX3_copyFrom_91 rfl (lv_at hl 0 rfl) ?_
  refine lv_aload_n hx hb dX3_copyFrom_92 rfl (lv_at hl 1 rfl) ?_
  refine t_gi hx hb hts hown hK hB mh1 th1 fi_17_7 rfl mw_1_165 dX3_copyFrom_93 (fun x_24 ex_24 lx_24 ux_24 => ?_)
  refine t_pi hx hb hts hown hK hLA hB hS mh0 th0 fi_3_7 rfl rfl rfl (i_lo _) (i_hi _) (Or.inl (by decide)) mw_1_165 dX3_copyFrom_96 (fun H locs σ_25 eσ_25 hB hS => ?_)
  have k_26 : σ_25 h0 7 = x_24 := by rw [eσ_25]; exact up2_same _ _ _ _
  refine lv_aload_n hx hb dX3_copyFrom_99 rfl (lv_at hl 0 rfl) ?_
  refine lv_aload_n hx hb dX3_copyFrom_100 rfl (lv_at hl 1 rfl) ?_
  refine t_gi hx hb hts hown hK hB mh1 th1 fi_17_8 rfl mw_1_171 dX3_copyFrom_101 (fun x_27 ex_27 lx_27 ux_27 => ?_)
  refine t_pi hx hb hts hown hK hLA hB hS mh0 th0 fi_3_8 rfl rfl rfl (by omega) (by omega) (Or.inl (by decide)) mw_1_171 dX3_copyFrom_104 (fun H locs σ_28 eσ_28 hB hS => ?_)
  have k_29 : σ_28 h0 8 = x_27 := by rw [eσ_28]; exact up2_same _ _ _ _
  refine lv_aload_n hx hb dX3_copyFrom_107 rfl (lv_at hl 0 rfl) ?_
  refine lv_aload_n hx hb dX3_copyFrom_108 rfl (lv_at hl 1 rfl) ?_
  refine t_gi hx hb hts hown hK hB mh1 th1 fi_17_9 rfl mw_1_179 dX3_copyFrom_109 (fun x_30 ex_30 lx_30 ux_30 => ?_)
  refine t_pi hx hb hts hown hK hLA hB hS mh0 th0 fi_3_9 rfl rfl rfl (by omega) (by omega) (Or.inl (by decide)) mw_1_179 dX3_copyFrom_112 (fun H locs σ_31 eσ_31 hB hS => ?_)
  have k_32 : σ_31 h0 9 = x_30 := by rw [eσ_31]; exact up2_same _ _ _ _
  refine lv_aload_n hx hb dX3_copyFrom_115 rfl (lv_at hl 0 rfl) ?_
  refine lv_aload_n hx hb dX3_copyFrom_116 rfl (lv_at hl 1 rfl) ?_
  refine t_gi hx hb hts hown hK hB mh1 th1 fi_17_10 rfl mw_1_185 dX3_copyFrom_117 (fun x_33 ex_33 lx_33 ux_33 => ?_)
  refine t_pi hx hb hts hown hK hLA hB hS mh0 th0 fi_3_10 rfl rfl rfl (by omega) (by omega) (Or.inl (by decide)) mw_1_185 dX3_copyFrom_120 (fun H locs σ_34 eσ_34 hB hS => ?_)
  have k_35 : σ_34 h0 10 = x_33 := by rw [eσ_34]; exact up2_same _ _ _ _
  exact W.vret hx hb hr (fun t ht hW => ⟨⟨(σ_34, ρ_19), rfl, ⟨hB.2.1, hB.2.2, trivial⟩, (show TP D cA L T r σ_34 ρ_19 t.heap from by rw [ht]; exact hB.1)⟩, hS.F ht⟩) hS.2.2 dX3_copyFrom_123
set_option maxHeartbeats 4000000 in
set_option maxRecDepth 100000 in
theorem cy_X3_copyFrom_18_3 (l : Launch) (D : va_G) (cA : Nat → ClassId) (L : List Nat) (T : Nat → Nat) (r : Rg) (hG : GR L T r) (hL : L.Nodup) (σ : Sg) (ρ : Lg) (hW : WT L ry T σ) (sz : Nat) (h0 : Nat) (mh0 : h0 ∈ L) (th0 : T h0 = 18) (h1 : Nat) (mh1 : h1 ∈ L) (th1 : T h1 = 3) : Met l yX3_copyFrom (.code yX3_copyFrom cX3_copyFrom 2 none :: wsA) ({ frames := 2, cells := 0, slots := 0, locals := 121 }) (PR D cA L T r σ ρ sz [.ref h0, .ref h1]) (QV D cA L T r ry [(18, 6), (18, 7), (18, 8), (18, 9), (18, 10), (95, 1000), (96, 1000), (97, 1000), (98, 1000), (99, 1000), (106, 6), (106, 7), (143, 1000), (144, 1000), (145, 1000), (146, 1000), (147, 1000), (148, 1000)] σ sz (fun σ1 => True)) 0 0 (dm L sz) := by
  refine Met.ofW (cc := cX3_copyFrom) (maxL := 2) (ret := none) (by decide) rfl ?_
  intro p e s m args below meth c s₁ B hml hv
  obtain ⟨rfl, hsz, hP, hK, hN⟩ := hv
  have hx := B.exec
  have hb := B.bytes
  have hr := B.returns
  have hts : ∀ w ∈ wsA, w.before _ s = true := fun w h => atoms_spec (ws := .code yX3_copyFrom cX3_copyFrom 2 none :: wsA) B.pre w (List.mem_cons_of_mem _ h)
  have hown : s.vm.findClass RX3 = some m.cls := findClass_of_methodNamed B.named
  subst hsz
  have hLA : LA (dm L s.heap.size) L := ⟨hL, fun a h => Or.inl h⟩
  have hA : ∀ q : Nat, s.heap.size ≤ q → dm L s.heap.size q := fun q h => Or.inr h
  have hS : va_S (dm L s.heap.size) s.heap s.heap [] := va_S.rf
  have hB : TS D cA L T r ry [(18, 6), (18, 7), (18, 8), (18, 9), (18, 10), (95, 1000), (96, 1000), (97, 1000), (98, 1000), (99, 1000), (106, 6), (106, 7), (143, 1000), (144, 1000), (145, 1000), (146, 1000), (147, 1000), (148, 1000)] σ σ ρ s.heap := ⟨hP, hW, FR.rf⟩
  have hl := lv_entry ([.ref h0, .ref h1]) (n := 2) (Nat.le_of_ble_eq_true rfl)
  rw [lg_entry_eq]
  generalize (lg_sl ([.ref h0, .ref h1]) ++ List.replicate (2 - (lg_sl ([.ref h0, .ref h1])).length) Slot.unset).toArray = ls at hl ⊢
  have hl : lv_has ls 2 [(0, .ref h0), (1, .ref h1)] := hl
  refine lv_aload_n hx hb dX3_copyFrom_0 rfl (lv_at hl 1 rfl) ?_
  refine t_gr hx hb hts hown hK hG hB mh1 th1 fq_3_0 rfl mw_1_130 dX3_copyFrom_1 (fun b_1 hb_1 mb_1 tb_1 => ?_)
  refine lv_iconst (v := 0) hx hb dX3_copyFrom_4 (by decide) ?_
  refine lv_aload_n hx hb dX3_copyFrom_5 rfl (lv_at hl 0 rfl) ?_
  refine t_gr hx hb hts hown hK hG hB mh0 th0 fq_18_0 rfl mw_1_130 dX3_copyFrom_6 (fun b_2 hb_2 mb_2 tb_2 => ?_)
  refine lv_iconst (v := 0) hx hb dX3_copyFrom_9 (by decide) ?_
  refine lv_iconst (v := 5) hx hb dX3_copyFrom_10 (by decide) ?_
  refine t_cp (lo := (-2147483648)) (hi := 2147483647) hx hb (hml.trans hl.1.symm) hts hown mw_3_237 ⟨mw_3_239, mw_3_238, mw_1_20⟩ hK hLA hB hS mb_1 tb_1 ai_33 mb_2 tb_2 ai_95 (fun _ => ⟨show ((-2147483648) : Int) ≤ (-2147483648) by decide, show (2147483647 : Int) ≤ 2147483647 by decide⟩) (fun _ => rfl) (by decide) (by decide) (by decide) (by decide) (by decide) (by decide) (Nat.le_of_ble_eq_true rfl) (Nat.le_of_ble_eq_true rfl) dX3_copyFrom_11 (fun H locs σ_3 eσ_3 hB hS => ?_)
  refine lv_aload_n hx hb dX3_copyFrom_14 rfl (lv_at hl 1 rfl) ?_
  refine t_gr hx hb hts hown hK hG hB mh1 th1 fq_3_1 rfl mw_1_136 dX3_copyFrom_15 (fun b_4 hb_4 mb_4 tb_4 => ?_)
  refine lv_iconst (v := 0) hx hb dX3_copyFrom_18 (by decide) ?_
  refine lv_aload_n hx hb dX3_copyFrom_19 rfl (lv_at hl 0 rfl) ?_
  refine t_gr hx hb hts hown hK hG hB mh0 th0 fq_18_1 rfl mw_1_136 dX3_copyFrom_20 (fun b_5 hb_5 mb_5 tb_5 => ?_)
  refine lv_iconst (v := 0) hx hb dX3_copyFrom_23 (by decide) ?_
  refine lv_iconst (v := 5) hx hb dX3_copyFrom_24 (by decide) ?_
  refine t_cp (lo := (-2147483648)) (hi := 2147483647) hx hb (hml.trans hl.1.symm) hts hown mw_3_237 ⟨mw_3_239, mw_3_238, mw_1_20⟩ hK hLA hB hS mb_4 tb_4 ai_34 mb_5 tb_5 ai_96 (fun _ => ⟨show ((-2147483648) : Int) ≤ (-2147483648) by decide, show (2147483647 : Int) ≤ 2147483647 by decide⟩) (fun _ => rfl) (by decide) (by decide) (by decide) (by decide) (by decide) (by decide) (Nat.le_of_ble_eq_true rfl) (Nat.le_of_ble_eq_true rfl) dX3_copyFrom_25 (fun H locs σ_6 eσ_6 hB hS => ?_)
  refine lv_aload_n hx hb dX3_copyFrom_28 rfl (lv_at hl 1 rfl) ?_
  refine t_gr hx hb hts hown hK hG hB mh1 th1 fq_3_2 rfl mw_1_141 dX3_copyFrom_29 (fun b_7 hb_7 mb_7 tb_7 => ?_)
  refine lv_iconst (v := 0) hx hb dX3_copyFrom_32 (by decide) ?_
  refine lv_aload_n hx hb dX3_copyFrom_33 rfl (lv_at hl 0 rfl) ?_
  refine t_gr hx hb hts hown hK hG hB mh0 th0 fq_18_2 rfl mw_1_141 dX3_copyFrom_34 (fun b_8 hb_8 mb_8 tb_8 => ?_)
  refine lv_iconst (v := 0) hx hb dX3_copyFrom_37 (by decide) ?_
  refine lv_iconst (v := 5) hx hb dX3_copyFrom_38 (by decide) ?_
  refine t_cp (lo := (-2147483648)) (hi := 2147483647) hx hb (hml.trans hl.1.symm) hts hown mw_3_237 ⟨mw_3_239, mw_3_238, mw_1_20⟩ hK hLA hB hS mb_7 tb_7 ai_35 mb_8 tb_8 ai_97 (fun _ => ⟨show ((-2147483648) : Int) ≤ (-2147483648) by decide, show (2147483647 : Int) ≤ 2147483647 by decide⟩) (fun _ => rfl) (by decide) (by decide) (by decide) (by decide) (by decide) (by decide) (Nat.le_of_ble_eq_true rfl) (Nat.le_of_ble_eq_true rfl) dX3_copyFrom_39 (fun H locs σ_9 eσ_9 hB hS => ?_)
  refine lv_aload_n hx hb dX3_copyFrom_42 rfl (lv_at hl 1 rfl) ?_
  refine t_gr hx hb hts hown hK hG hB mh1 th1 fq_3_3 rfl mw_1_146 dX3_copyFrom_43 (fun b_10 hb_10 mb_10 tb_10 => ?_)
  refine lv_iconst (v := 0) hx hb dX3_copyFrom_46 (by decide) ?_
  refine lv_aload_n hx hb dX3_copyFrom_47 rfl (lv_at hl 0 rfl) ?_
  refine t_gr hx hb hts hown hK hG hB mh0 th0 fq_18_3 rfl mw_1_146 dX3_copyFrom_48 (fun b_11 hb_11 mb_11 tb_11 => ?_)
  refine lv_iconst (v := 0) hx hb dX3_copyFrom_51 (by decide) ?_
  refine lv_bipush (v := 8) hx hb dX3_copyFrom_52 (by decide) ?_
  refine t_cp (lo := 0) (hi := 4) hx hb (hml.trans hl.1.symm) hts hown mw_3_237 ⟨mw_3_239, mw_3_238, mw_1_20⟩ hK hLA hB hS mb_10 tb_10 ai_36 mb_11 tb_11 ai_98 (fun _ => ⟨show (0 : Int) ≤ 0 by decide, show (4 : Int) ≤ 4 by decide⟩) (fun _ => rfl) (by decide) (by decide) (by decide) (by decide) (by decide) (by decide) (Nat.le_of_ble_eq_true rfl) (Nat.le_of_ble_eq_true rfl) dX3_copyFrom_54 (fun H locs σ_12 eσ_12 hB hS => ?_)
  refine lv_aload_n hx hb dX3_copyFrom_57 rfl (lv_at hl 1 rfl) ?_
  refine t_gr hx hb hts hown hK hG hB mh1 th1 fq_3_4 rfl mw_1_152 dX3_copyFrom_58 (fun b_13 hb_13 mb_13 tb_13 => ?_)
  refine lv_iconst (v := 0) hx hb dX3_copyFrom_61 (by decide) ?_
  refine lv_aload_n hx hb dX3_copyFrom_62 rfl (lv_at hl 0 rfl) ?_
  refine t_gr hx hb hts hown hK hG hB mh0 th0 fq_18_4 rfl mw_1_152 dX3_copyFrom_63 (fun b_14 hb_14 mb_14 tb_14 => ?_)
  refine lv_iconst (v := 0) hx hb dX3_copyFrom_66 (by decide) ?_
  refine lv_bipush (v := 8) hx hb dX3_copyFrom_67 (by decide) ?_
  refine t_cp (lo := 0) (hi := 4) hx hb (hml.trans hl.1.symm) hts hown mw_3_237 ⟨mw_3_239, mw_3_238, mw_1_20⟩ hK hLA hB hS mb_13 tb_13 ai_37 mb_14 tb_14 ai_99 (fun _ => ⟨show (0 : Int) ≤ 0 by decide, show (4 : Int) ≤ 4 by decide⟩) (fun _ => rfl) (by decide) (by decide) (by decide) (by decide) (by decide) (by decide) (Nat.le_of_ble_eq_true rfl) (Nat.le_of_ble_eq_true rfl) dX3_copyFrom_69 (fun H locs σ_15 eσ_15 hB hS => ?_)
  refine lv_aload_n hx hb dX3_copyFrom_72 rfl (lv_at hl 0 rfl) ?_
  refine t_gr hx hb hts hown hK hG hB mh0 th0 fq_18_5 rfl mw_1_158 dX3_copyFrom_73 (fun b_16 hb_16 mb_16 tb_16 => ?_)
  refine lv_aload_n hx hb dX3_copyFrom_76 rfl (lv_at hl 1 rfl) ?_
  refine t_gr hx hb hts hown hK hG hB mh1 th1 fq_3_5 rfl mw_1_158 dX3_copyFrom_77 (fun b_17 hb_17 mb_17 tb_17 => ?_)
  refine t_cv (va_runV (As := [.ref b_17]) (rest := []) ⟨hx, hb, hml, hown, hts⟩ (cy_X8_copyFrom_106_100 l D cA L T r hG hLA.1 σ_15 ρ hB.2.1 _ b_16 mb_16 tb_16 b_17 mb_17 tb_17) (cV hts mv_X8_copyFrom mw_4_0 rfl rfl ⟨Nat.le_of_ble_eq_true rfl, Nat.le_of_ble_eq_true rfl⟩) (pV hB.1 hK hN mb_16 tb_16 (show shp cA 106 _ _ _ = .inr (8, Fs8 _ _ _) from rfl) rfl) rfl rfl hl.1 rfl (lv_room (Nat.le_of_ble_eq_true rfl)) dX3_copyFrom_80 ⟨Nat.le_of_ble_eq_true rfl, Nat.le_of_ble_eq_true rfl⟩) hLA hA hB hS (by decide) (fun σ_18 ρ_19 H locs hB fσ_18 pσ_18 hS => ?_)
  refine lv_aload_n hx hb dX3_copyFrom_83 rfl (lv_at hl 0 rfl) ?_
  refine lv_aload_n hx hb dX3_copyFrom_84 rfl (lv_at hl 1 rfl) ?_
  refine t_gi hx hb hts hown hK hB mh1 th1 fi_3_6 rfl mw_1_162 dX3_copyFrom_85 (fun x_21 ex_21 lx_21 ux_21 => ?_)
  refine t_pi hx hb hts hown hK hLA hB hS mh0 th0 fi_18_6 (n_bool (by omega) (by omega)) (f_bool (by omega) (by omega)) rfl (by omega) (by omega) (Or.inl (by decide)) mw_1_162 dX3_copyFrom_88 (fun H locs σ_22 eσ_22 hB hS => ?_)
  have k_23 : σ_22 h0 6 = x_21 := by rw [eσ_22]; exact up2_same _ _ _ _
  refine lv_aload_n hx hb dX3_copyFrom_91 rfl (lv_at hl 0 rfl) ?_
  refine lv_aload_n hx hb dX3_copyFrom_92 rfl (lv_at hl 1 rfl) ?_
  refine t_gi hx hb hts hown hK hB mh1 th1 fi_3_7 rfl mw_1_165 dX3_copyFrom_93 (fun x_24 ex_24 lx_24 ux_24 => ?_)
  refine t_pi hx hb hts hown hK hLA hB hS mh0 th0 fi_18_7 rfl rfl rfl (i_lo _) (i_hi _) (Or.inl (by decide)) mw_1_165 dX3_copyFrom_96 (fun H locs σ_25 eσ_25 hB hS => ?_)
  have k_26 : σ_25 h0 7 = x_24 := by rw [eσ_25]; exact up2_same _ _ _ _
  refine lv_aload_n hx hb dX3_copyFrom_99 rfl (lv_at hl 0 rfl) ?_
  refine lv_aload_n hx hb dX3_copyFrom_100 rfl (lv_at hl 1 rfl) ?_
  refine t_gi hx hb hts hown hK hB mh1 th1 fi_3_8 rfl mw_1_171 dX3_copyFrom_101 (fun x_27 ex_27 lx_27 ux_27 => ?_)
  refine t_pi hx hb hts hown hK hLA hB hS mh0 th0 fi_18_8 rfl rfl rfl (by omega) (by omega) (Or.inl (by decide)) mw_1_171 dX3_copyFrom_104 (fun H locs σ_28 eσ_28 hB hS => ?_)
  have k_29 : σ_28 h0 8 = x_27 := by rw [eσ_28]; exact up2_same _ _ _ _
  refine lv_aload_n hx hb dX3_copyFrom_107 rfl (lv_at hl 0 rfl) ?_
  refine lv_aload_n hx hb dX3_copyFrom_108 rfl (lv_at hl 1 rfl) ?_
  refine t_gi hx hb hts hown hK hB mh1 th1 fi_3_9 rfl mw_1_179 dX3_copyFrom_109 (fun x_30 ex_30 lx_30 ux_30 => ?_)
  refine t_pi hx hb hts hown hK hLA hB hS mh0 th0 fi_18_9 rfl rfl rfl (by omega) (by omega) (Or.inl (by decide)) mw_1_179 dX3_copyFrom_112 (fun H locs σ_31 eσ_31 hB hS => ?_)
  have k_32 : σ_31 h0 9 = x_30 := by rw [eσ_31]; exact up2_same _ _ _ _
  refine lv_aload_n hx hb dX3_copyFrom_115 rfl (lv_at hl 0 rfl) ?_
  refine lv_aload_n hx hb dX3_copyFrom_116 rfl (lv_at hl 1 rfl) ?_
  refine t_gi hx hb hts hown hK hB mh1 th1 fi_3_10 rfl mw_1_185 dX3_copyFrom_117 (fun x_33 ex_33 lx_33 ux_33 => ?_)
  refine t_pi hx hb hts hown hK hLA hB hS mh0 th0 fi_18_10 rfl rfl rfl (by omega) (by omega) (Or.inl (by decide)) mw_1_185 dX3_copyFrom_120 (fun H locs σ_34 eσ_34 hB hS => ?_)
  have k_35 : σ_34 h0 10 = x_33 := by rw [eσ_34]; exact up2_same _ _ _ _
  exact W.vret hx hb hr (fun t ht hW => ⟨⟨(σ_34, ρ_19), rfl, ⟨hB.2.1, hB.2.2, trivial⟩, (show TP D cA L T r σ_34 ρ_19 t.heap from by rw [ht]; exact hB.1)⟩, hS.F ht⟩) hS.2.2 dX3_copyFrom_123
set_option maxHeartbeats 4000000 in
set_option maxRecDepth 100000 in
theorem cy_X3_copyFrom_3_18 (l : Launch) (D : va_G) (cA : Nat → ClassId) (L : List Nat) (T : Nat → Nat) (r : Rg) (hG : GR L T r) (hL : L.Nodup) (σ : Sg) (ρ : Lg) (hW : WT L ry T σ) (sz : Nat) (h0 : Nat) (mh0 : h0 ∈ L) (th0 : T h0 = 3) (h1 : Nat) (mh1 : h1 ∈ L) (th1 : T h1 = 18) : Met l yX3_copyFrom (.code yX3_copyFrom cX3_copyFrom 2 none :: wsA) ({ frames := 2, cells := 0, slots := 0, locals := 121 }) (PR D cA L T r σ ρ sz [.ref h0, .ref h1]) (QV D cA L T r ry [(3, 6), (3, 7), (3, 8), (3, 9), (3, 10), (33, 1000), (34, 1000), (35, 1000), (36, 1000), (37, 1000), (100, 6), (100, 7), (107, 1000), (108, 1000), (109, 1000), (110, 1000), (111, 1000), (112, 1000)] σ sz (fun σ1 => True)) 0 0 (dm L sz) := by
  refine Met.ofW (cc := cX3_copyFrom) (maxL := 2) (ret := none) (by decide) rfl ?_
  intro p e s m args below meth c s₁ B hml hv
  obtain ⟨rfl, hsz, hP, hK, hN⟩ := hv
  have hx := B.exec
  have hb := B.bytes
  have hr := B.returns
  have hts : ∀ w ∈ wsA, w.before _ s = true := fun w h => atoms_spec (ws := .code yX3_copyFrom cX3_copyFrom 2 none :: wsA) B.pre w (List.mem_cons_of_mem _ h)
  have hown : s.vm.findClass RX3 = some m.cls := findClass_of_methodNamed B.named
  subst hsz
  have hLA : LA (dm L s.heap.size) L := ⟨hL, fun a h => Or.inl h⟩
  have hA : ∀ q : Nat, s.heap.size ≤ q → dm L s.heap.size q := fun q h => Or.inr h
  have hS : va_S (dm L s.heap.size) s.heap s.heap [] := va_S.rf
  have hB : TS D cA L T r ry [(3, 6), (3, 7), (3, 8), (3, 9), (3, 10), (33, 1000), (34, 1000), (35, 1000), (36, 1000), (37, 1000), (100, 6), (100, 7), (107, 1000), (108, 1000), (109, 1000), (110, 1000), (111, 1000), (112, 1000)] σ σ ρ s.heap := ⟨hP, hW, FR.rf⟩
  have hl := lv_entry ([.ref h0, .ref h1]) (n := 2) (Nat.le_of_ble_eq_true rfl)
  rw [lg_entry_eq]
  generalize (lg_sl ([.ref h0, .ref h1]) ++ List.replicate (2 - (lg_sl ([.ref h0, .ref h1])).length) Slot.unset).toArray = ls at hl ⊢
  have hl : lv_has ls 2 [(0, .ref h0), (1, .ref h1)] := hl
  refine lv_aload_n hx hb dX3_copyFrom_0 rfl (lv_at hl 1 rfl) ?_
  refine t_gr hx hb hts hown hK hG hB mh1 th1 fq_18_0 rfl mw_1_130 dX3_copyFrom_1 (fun b_1 hb_1 mb_1 tb_1 => ?_)
  refine lv_iconst (v := 0) hx hb dX3_copyFrom_4 (by decide) ?_
  refine lv_aload_n hx hb dX3_copyFrom_5 rfl (lv_at hl 0 rfl) ?_
  refine t_gr hx hb hts hown hK hG hB mh0 th0 fq_3_0 rfl mw_1_130 dX3_copyFrom_6 (fun b_2 hb_2 mb_2 tb_2 => ?_)
  refine lv_iconst (v := 0) hx hb dX3_copyFrom_9 (by decide) ?_
  refine lv_iconst (v := 5) hx hb dX3_copyFrom_10 (by decide) ?_
  refine t_cp (lo := (-2147483648)) (hi := 2147483647) hx hb (hml.trans hl.1.symm) hts hown mw_3_237 ⟨mw_3_239, mw_3_238, mw_1_20⟩ hK hLA hB hS mb_1 tb_1 ai_95 mb_2 tb_2 ai_33 (fun _ => ⟨show ((-2147483648) : Int) ≤ (-2147483648) by decide, show (2147483647 : Int) ≤ 2147483647 by decide⟩) (fun _ => rfl) (by decide) (by decide) (by decide) (by decide) (by decide) (by decide) (Nat.le_of_ble_eq_true rfl) (Nat.le_of_ble_eq_true rfl) dX3_copyFrom_11 (fun H locs σ_3 eσ_3 hB hS => ?_)
  refine lv_aload_n hx hb dX3_copyFrom_14 rfl (lv_at hl 1 rfl) ?_
  refine t_gr hx hb hts hown hK hG hB mh1 th1 fq_18_1 rfl mw_1_136 dX3_copyFrom_15 (fun b_4 hb_4 mb_4 tb_4 => ?_)
  refine lv_iconst (v := 0) hx hb dX3_copyFrom_18 (by decide) ?_
  refine lv_aload_n hx hb dX3_copyFrom_19 rfl (lv_at hl 0 rfl) ?_
  refine t_gr hx hb hts hown hK hG hB mh0 th0 fq_3_1 rfl mw_1_136 dX3_copyFrom_20 (fun b_5 hb_5 mb_5 tb_5 => ?_)
  refine lv_iconst (v := 0) hx hb dX3_copyFrom_23 (by decide) ?_
  refine lv_iconst (v := 5) hx hb dX3_copyFrom_24 (by decide) ?_
  refine t_cp (lo := (-2147483648)) (hi := 2147483647) hx hb (hml.trans hl.1.symm) hts hown mw_3_237 ⟨mw_3_239, mw_3_238, mw_1_20⟩ hK hLA hB hS mb_4 tb_4 ai_96 mb_5 tb_5 ai_34 (fun _ => ⟨show ((-2147483648) : Int) ≤ (-2147483648) by decide, show (2147483647 : Int) ≤ 2147483647 by decide⟩) (fun _ => rfl) (by decide) (by decide) (by decide) (by decide) (by decide) (by decide) (Nat.le_of_ble_eq_true rfl) (Nat.le_of_ble_eq_true rfl) dX3_copyFrom_25 (fun H locs σ_6 eσ_6 hB hS => ?_)
  refine lv_aload_n hx hb dX3_copyFrom_28 rfl (lv_at hl 1 rfl) ?_
  refine t_gr hx hb hts hown hK hG hB mh1 th1 fq_18_2 rfl mw_1_141 dX3_copyFrom_29 (fun b_7 hb_7 mb_7 tb_7 => ?_)
  refine lv_iconst (v := 0) hx hb dX3_copyFrom_32 (by decide) ?_
  refine lv_aload_n hx hb dX3_copyFrom_33 rfl (lv_at hl 0 rfl) ?_
  refine t_gr hx hb hts hown hK hG hB mh0 th0 fq_3_2 rfl mw_1_141 dX3_copyFrom_34 (fun b_8 hb_8 mb_8 tb_8 => ?_)
  refine lv_iconst (v := 0) hx hb dX3_copyFrom_37 (by decide) ?_
  refine lv_iconst (v := 5) hx hb dX3_copyFrom_38 (by decide) ?_
  refine t_cp (lo := (-2147483648)) (hi := 2147483647) hx hb (hml.trans hl.1.symm) hts hown mw_3_237 ⟨mw_3_239, mw_3_238, mw_1_20⟩ hK hLA hB hS mb_7 tb_7 ai_97 mb_8 tb_8 ai_35 (fun _ => ⟨show ((-2147483648) : Int) ≤ (-2147483648) by decide, show (2147483647 : Int) ≤ 2147483647 by decide⟩) (fun _ => rfl) (by decide) (by decide) (by decide) (by decide) (by decide) (by decide) (Nat.le_of_ble_eq_true rfl) (Nat.le_of_ble_eq_true rfl) dX3_copyFrom_39 (fun H locs σ_9 eσ_9 hB hS => ?_)
  refine lv_aload_n hx hb dX3_copyFrom_42 rfl (lv_at hl 1 rfl) ?_
  refine t_gr hx hb hts hown hK hG hB mh1 th1 fq_18_3 rfl mw_1_146 dX3_copyFrom_43 (fun b_10 hb_10 mb_10 tb_10 => ?_)
  refine lv_iconst (v := 0) hx hb dX3_copyFrom_46 (by decide) ?_
  refine lv_aload_n hx hb dX3_copyFrom_47 rfl (lv_at hl 0 rfl) ?_
  refine t_gr hx hb hts hown hK hG hB mh0 th0 fq_3_3 rfl mw_1_146 dX3_copyFrom_48 (fun b_11 hb_11 mb_11 tb_11 => ?_)
  refine lv_iconst (v := 0) hx hb dX3_copyFrom_51 (by decide) ?_
  refine lv_bipush (v := 8) hx hb dX3_copyFrom_52 (by decide) ?_
  refine t_cp (lo := 0) (hi := 4) hx hb (hml.trans hl.1.symm) hts hown mw_3_237 ⟨mw_3_239, mw_3_238, mw_1_20⟩ hK hLA hB hS mb_10 tb_10 ai_98 mb_11 tb_11 ai_36 (fun _ => ⟨show (0 : Int) ≤ 0 by decide, show (4 : Int) ≤ 4 by decide⟩) (fun _ => rfl) (by decide) (by decide) (by decide) (by decide) (by decide) (by decide) (Nat.le_of_ble_eq_true rfl) (Nat.le_of_ble_eq_true rfl) dX3_copyFrom_54 (fun H locs σ_12 eσ_12 hB hS => ?_)
  refine lv_aload_n hx hb dX3_copyFrom_57 rfl (lv_at hl 1 rfl) ?_
  refine t_gr hx hb hts hown hK hG hB mh1 th1 fq_18_4 rfl mw_1_152 dX3_copyFrom_58 (fun b_13 hb_13 mb_13 tb_13 => ?_)
  refine lv_iconst (v := 0) hx hb dX3_copyFrom_61 (by decide) ?_
  refine lv_aload_n hx hb dX3_copyFrom_62 rfl (lv_at hl 0 rfl) ?_
  refine t_gr hx hb hts hown hK hG hB mh0 th0 fq_3_4 rfl mw_1_152 dX3_copyFrom_63 (fun b_14 hb_14 mb_14 tb_14 => ?_)
  refine lv_iconst (v := 0) hx hb dX3_copyFrom_66 (by decide) ?_
  refine lv_bipush (v := 8) hx hb dX3_copyFrom_67 (by decide) ?_
  refine t_cp (lo := 0) (hi := 4) hx hb (hml.trans hl.1.symm) hts hown mw_3_237 ⟨mw_3_239, mw_3_238, mw_1_20⟩ hK hLA hB hS mb_13 tb_13 ai_99 mb_14 tb_14 ai_37 (fun _ => ⟨show (0 : Int) ≤ 0 by decide, show (4 : Int) ≤ 4 by decide⟩) (fun _ => rfl) (by decide) (by decide) (by decide) (by decide) (by decide) (by decide) (Nat.le_of_ble_eq_true rfl) (Nat.le_of_ble_eq_true rfl) dX3_copyFrom_69 (fun H locs σ_15 eσ_15 hB hS => ?_)
  refine lv_aload_n hx hb dX3_copyFrom_72 rfl (lv_at hl 0 rfl) ?_
  refine t_gr hx hb hts hown hK hG hB mh0 th0 fq_3_5 rfl mw_1_158 dX3_copyFrom_73 (fun b_16 hb_16 mb_16 tb_16 => ?_)
  refine lv_aload_n hx hb dX3_copyFrom_76 rfl (lv_at hl 1 rfl) ?_
  refine t_gr hx hb hts hown hK hG hB mh1 th1 fq_18_5 rfl mw_1_158 dX3_copyFrom_77 (fun b_17 hb_17 mb_17 tb_17 => ?_)
  refine t_cv (va_runV (As := [.ref b_17]) (rest := []) ⟨hx, hb, hml, hown, hts⟩ (cy_X8_copyFrom_100_106 l D cA L T r hG hLA.1 σ_15 ρ hB.2.1 _ b_16 mb_16 tb_16 b_17 mb_17 tb_17) (cV hts mv_X8_copyFrom mw_4_0 rfl rfl ⟨Nat.le_of_ble_eq_true rfl, Nat.le_of_ble_eq_true rfl⟩) (pV hB.1 hK hN mb_16 tb_16 (show shp cA 100 _ _ _ = .inr (8, Fs8 _ _ _) from rfl) rfl) rfl rfl hl.1 rfl (lv_room (Nat.le_of_ble_eq_true rfl)) dX3_copyFrom_80 ⟨Nat.le_of_ble_eq_true rfl, Nat.le_of_ble_eq_true rfl⟩) hLA hA hB hS (by decide) (fun σ_18 ρ_19 H locs hB fσ_18 pσ_18 hS => ?_)
  refine lv_aload_n hx hb dX3_copyFrom_83 rfl (lv_at hl 0 rfl) ?_
  refine lv_aload_n hx hb dX3_copyFrom_84 rfl (lv_at hl 1 rfl) ?_
  refine t_gi hx hb hts hown hK hB mh1 th1 fi_18_6 rfl mw_1_162 dX3_copyFrom_85 (fun x_21 ex_21 lx_21 ux_21 => ?_)
  refine t_pi hx hb hts hown hK hLA hB hS mh0 th0 fi_3_6 (n_bool (by omega) (by omega)) (f_bool (by omega) (by omega)) rfl (by omega) (by omega) (Or.inl (by decide)) mw_1_162 dX3_copyFrom_88 (fun H locs σ_22 eσ_22 hB hS => ?_)
  have k_23 : σ_22 h0 6 = x_21 := by rw [eσ_22]; exact up2_same _ _ _ _
  refine lv_aload_n hx hb dX3_copyFrom_91 rfl (lv_at hl 0 rfl) ?_
  refine lv_aload_n hx hb dX3_copyFrom_92 rfl (lv_at hl 1 rfl) ?_
  refine t_gi hx hb hts hown hK hB mh1 th1 fi_18_7 rfl mw_1_165 dX3_copyFrom_93 (fun x_24 ex_24 lx_24 ux_24 => ?_)
  refine t_pi hx hb hts hown hK hLA hB hS mh0 th0 fi_3_7 rfl rfl rfl (i_lo _) (i_hi _) (Or.inl (by decide)) mw_1_165 dX3_copyFrom_96 (fun H locs σ_25 eσ_25 hB hS => ?_)
  have k_26 : σ_25 h0 7 = x_24 := by rw [eσ_25]; exact up2_same _ _ _ _
  refine lv_aload_n hx hb dX3_copyFrom_99 rfl (lv_at hl 0 rfl) ?_
  refine lv_aload_n hx hb dX3_copyFrom_100 rfl (lv_at hl 1 rfl) ?_
  refine t_gi hx hb hts hown hK hB mh1 th1 fi_18_8 rfl mw_1_171 dX3_copyFrom_101 (fun x_27 ex_27 lx_27 ux_27 => ?_)
  refine t_pi hx hb hts hown hK hLA hB hS mh0 th0 fi_3_8 rfl rfl rfl (by omega) (by omega) (Or.inl (by decide)) mw_1_171 dX3_copyFrom_104 (fun H locs σ_28 eσ_28 hB hS => ?_)
  have k_29 : σ_28 h0 8 = x_27 := by rw [eσ_28]; exact up2_same _ _ _ _
  refine lv_aload_n hx hb dX3_copyFrom_107 rfl (lv_at hl 0 rfl) ?_
  refine lv_aload_n hx hb dX3_copyFrom_108 rfl (lv_at hl 1 rfl) ?_
  refine t_gi hx hb hts hown hK hB mh1 th1 fi_18_9 rfl mw_1_179 dX3_copyFrom_109 (fun x_30 ex_30 lx_30 ux_30 => ?_)
  refine t_pi hx hb hts hown hK hLA hB hS mh0 th0 fi_3_9 rfl rfl rfl (by omega) (by omega) (Or.inl (by decide)) mw_1_179 dX3_copyFrom_112 (fun H locs σ_31 eσ_31 hB hS => ?_)
  have k_32 : σ_31 h0 9 = x_30 := by rw [eσ_31]; exact up2_same _ _ _ _
  refine lv_aload_n hx hb dX3_copyFrom_115 rfl (lv_at hl 0 rfl) ?_
  refine lv_aload_n hx hb dX3_copyFrom_116 rfl (lv_at hl 1 rfl) ?_
  refine t_gi hx hb hts hown hK hB mh1 th1 fi_18_10 rfl mw_1_185 dX3_copyFrom_117 (fun x_33 ex_33 lx_33 ux_33 => ?_)
  refine t_pi hx hb hts hown hK hLA hB hS mh0 th0 fi_3_10 rfl rfl rfl (by omega) (by omega) (Or.inl (by decide)) mw_1_185 dX3_copyFrom_120 (fun H locs σ_34 eσ_34 hB hS => ?_)
  have k_35 : σ_34 h0 10 = x_33 := by rw [eσ_34]; exact up2_same _ _ _ _
  exact W.vret hx hb hr (fun t ht hW => ⟨⟨(σ_34, ρ_19), rfl, ⟨hB.2.1, hB.2.2, trivial⟩, (show TP D cA L T r σ_34 ρ_19 t.heap from by rw [ht]; exact hB.1)⟩, hS.F ht⟩) hS.2.2 dX3_copyFrom_123
theorem mw_3_221 : (.instanceMethod yX8_weightOf : Cond) ∈ wsA := wsA_t (List.mem_append_right _ (List.mem_append_right _ (List.mem_append_left _ (List.mem_of_getElem? (l := tables_1_3) (i := 221) rfl)))) rfl
theorem mw_3_222 : (.selects RX8 yX8_weightOf yX8_weightOf : Cond) ∈ wsA := wsA_t (List.mem_append_right _ (List.mem_append_right _ (List.mem_append_left _ (List.mem_of_getElem? (l := tables_1_3) (i := 222) rfl)))) rfl
theorem mw_3_223 : (.code yX8_weightOf cX8_weightOf 5 (some .int) : Cond) ∈ wsA := wsA_t (List.mem_append_right _ (List.mem_append_right _ (List.mem_append_left _ (List.mem_of_getElem? (l := tables_1_3) (i := 223) rfl)))) rfl
theorem mw_4_165 : (.methodLink RX8 60 yX8_weightOf : Cond) ∈ wsA := wsA_t (List.mem_append_right _ (List.mem_append_right _ (List.mem_append_right _ (List.mem_append_left _ (List.mem_of_getElem? (l := tables_1_4) (i := 165) rfl))))) rfl
theorem mw_1_168 : (.fieldLink RX8 64 "HillBends$Hill" "burden" "I" : Cond) ∈ wsA := wsA_t (List.mem_append_left _ (List.mem_of_getElem? (l := tables_1_1) (i := 168) rfl)) rfl
theorem dX8_canCarry_0 : decode cX8_canCarry 0 = .ok (.aload_n 0, 1) := by decide +kernel
theorem dX8_canCarry_1 : decode cX8_canCarry 1 = .ok (.getfield 24, 3) := by decide +kernel
theorem dX8_canCarry_4 : decode cX8_canCarry 4 = .ok (.iload_n 2, 1) := by decide +kernel
theorem dX8_canCarry_5 : decode cX8_canCarry 5 = .ok (.iconst 5, 1) := by decide +kernel
theorem dX8_canCarry_6 : decode cX8_canCarry 6 = .ok (.imul, 1) := by decide +kernel
theorem dX8_canCarry_7 : decode cX8_canCarry 7 = .ok (.iload_n 3, 1) := by decide +kernel
theorem dX8_canCarry_8 : decode cX8_canCarry 8 = .ok (.iadd, 1) := by decide +kernel
theorem dX8_canCarry_9 : decode cX8_canCarry 9 = .ok (.iaload, 1) := by decide +kernel
theorem dX8_canCarry_10 : decode cX8_canCarry 10 = .ok (.bipush 9, 2) := by decide +kernel
theorem dX8_canCarry_12 : decode cX8_canCarry 12 = .ok (.if_icmp .ge 27, 3) := by decide +kernel
theorem dX8_canCarry_39 : decode cX8_canCarry 39 = .ok (.iconst 0, 1) := by decide +kernel
theorem dX8_canCarry_40 : decode cX8_canCarry 40 = .ok (.ireturn, 1) := by decide +kernel
theorem dX8_canCarry_15 : decode cX8_canCarry 15 = .ok (.aload_n 0, 1) := by decide +kernel
theorem dX8_canCarry_16 : decode cX8_canCarry 16 = .ok (.aload_n 1, 1) := by decide +kernel
theorem dX8_canCarry_17 : decode cX8_canCarry 17 = .ok (.iload_n 2, 1) := by decide +kernel
theorem dX8_canCarry_18 : decode cX8_canCarry 18 = .ok (.invokevirtual 60, 3) := by decide +kernel
theorem dX8_canCarry_21 : decode cX8_canCarry 21 = .ok (.aload_n 1, 1) := by decide +kernel
theorem dX8_canCarry_22 : decode cX8_canCarry 22 = .ok (.getfield 48, 3) := by decide +kernel
theorem dX8_canCarry_25 : decode cX8_canCarry 25 = .ok (.iload_n 3, 1) := by decide +kernel
theorem dX8_canCarry_26 : decode cX8_canCarry 26 = .ok (.iaload, 1) := by decide +kernel
theorem dX8_canCarry_27 : decode cX8_canCarry 27 = .ok (.iadd, 1) := by decide +kernel
theorem dX8_canCarry_28 : decode cX8_canCarry 28 = .ok (.aload_n 1, 1) := by decide +kernel
theorem dX8_canCarry_29 : decode cX8_canCarry 29 = .ok (.getfield 64, 3) := by decide +kernel
theorem dX8_canCarry_32 : decode cX8_canCarry 32 = .ok (.if_icmp .gt 7, 3) := by decide +kernel
theorem dX8_canCarry_35 : decode cX8_canCarry 35 = .ok (.iconst 1, 1) := by decide +kernel
theorem dX8_canCarry_36 : decode cX8_canCarry 36 = .ok (.goto 4, 3) := by decide +kernel
theorem mv_X8_weightOf : MV RX8 yX8_weightOf cX8_weightOf 5 (some .int) 2 := ⟨mw_3_221, mw_3_222, mw_1_5, mw_3_223, ⟨rfl, by decide, by decide, by decide +kernel⟩⟩
set_option maxHeartbeats 4000000 in
set_option maxRecDepth 100000 in
theorem cy_X8_canCarry (l : Launch) (D : va_G) (cA : Nat → ClassId) (L : List Nat) (T : Nat → Nat) (r : Rg) (hG : GR L T r) (hL : L.Nodup) (σ : Sg) (ρ : Lg) (hW : WT L ry T σ) (sz : Nat) (h0 : Nat) (mh0 : h0 ∈ L) (th0 : T h0 = 8) (h1 : Nat) (mh1 : h1 ∈ L) (th1 : T h1 = 3) (p2 : Int32) (p3 : Int32) (w0 : 0 ≤ p2.toInt) (w1 : p2.toInt ≤ 3) (w2 : 0 ≤ p3.toInt) (w3 : p3.toInt ≤ 4) : Met l yX8_canCarry (.code yX8_canCarry cX8_canCarry 4 (some .boolean) :: wsA) ({ frames := 1, cells := 0, slots := 0, locals := 24 }) (PR D cA L T r σ ρ sz [.ref h0, .ref h1, .int p2, .int p3]) (QI D cA L T r ry ([] : List (Nat × Nat)) σ sz (fun x σ1 => (0 ≤ x.toInt ∧ x.toInt ≤ 1))) 0 0 (dm L sz) := by
  refine Met.ofW (cc := cX8_canCarry) (maxL := 4) (ret := (some .boolean)) (by decide) rfl ?_
  intro p e s m args below meth c s₁ B hml hv
  obtain ⟨rfl, hsz, hP, hK, hN⟩ := hv
  have hx := B.exec
  have hb := B.bytes
  have hr := B.returns
  have hts : ∀ w ∈ wsA, w.before _ s = true := fun w h => atoms_spec (ws := .code yX8_canCarry cX8_canCarry 4 (some .boolean) :: wsA) B.pre w (List.mem_cons_of_mem _ h)
  have hown : s.vm.findClass RX8 = some m.cls := findClass_of_methodNamed B.named
  subst hsz
  have hLA : LA (dm L s.heap.size) L := ⟨hL, fun a h => Or.inl h⟩
  have hA : ∀ q : Nat, s.heap.size ≤ q → dm L s.heap.size q := fun q h => Or.inr h
  have hS : va_S (dm L s.heap.size) s.heap s.heap [] := va_S.rf
  have hB : TS D cA L T r ry ([] : List (Nat × Nat)) σ σ ρ s.heap := ⟨hP, hW, FR.rf⟩
  have hl := lv_entry ([.ref h0, .ref h1, .int p2, .int p3]) (n := 4) (Nat.le_of_ble_eq_true rfl)
  rw [lg_entry_eq]
  generalize (lg_sl ([.ref h0, .ref h1, .int p2, .int p3]) ++ List.replicate (4 - (lg_sl ([.ref h0, .ref h1, .int p2, .int p3])).length) Slot.unset).toArray = ls at hl ⊢
  have hl : lv_has ls 4 [(0, .ref h0), (1, .ref h1), (2, .int p2), (3, .int p3)] := hl
  refine lv_aload_n hx hb dX8_canCarry_0 rfl (lv_at hl 0 rfl) ?_
  refine t_gr hx hb hts hown hK hG hB mh0 th0 fq_8_4 rfl mw_1_95 dX8_canCarry_1 (fun b_1 hb_1 mb_1 tb_1 => ?_)
  refine lv_iload_n hx hb dX8_canCarry_4 rfl (lv_at hl 2 rfl) ?_
  refine lv_iconst (v := 5) hx hb dX8_canCarry_5 (by decide) ?_
  refine lv_imul hx hb dX8_canCarry_6 ?_
  refine lv_topi (fun x_2 ex_2 => ?_)
  have vx_2 := b_mul (rfl : p2.toInt = _) (by decide : (5 : Int32).toInt = 5) ex_2 (by omega) (by omega)
  refine lv_iload_n hx hb dX8_canCarry_7 rfl (lv_at hl 3 rfl) ?_
  refine lv_iadd hx hb dX8_canCarry_8 ?_
  refine lv_topi (fun x_3 ex_3 => ?_)
  have vx_3 := b_add (rfl : x_2.toInt = _) (rfl : p3.toInt = _) ex_3 (by omega) (by omega)
  refine t_ai hx hb hK hB mb_1 tb_1 ai_49 (fun _ => rfl) (i_in (by omega) (by omega)) dX8_canCarry_9 (fun x_4 ex_4 lx_4 ux_4 => ?_)
  refine lv_bipush (v := 9) hx hb dX8_canCarry_10 (by decide) ?_
  refine lv_icmp_ge (tgt := 39) hx hb dX8_canCarry_12 (by decide) (fun c_5 => ?_) (fun c_5 => ?_)
  · skip
    have uc_5 := i_ge (n := 9) (by decide) c_5
    refine lv_iconst (v := 0) hx hb dX8_canCarry_39 (by decide) ?_
    exact W.zret (v := 0) hx hb hr rfl (fun t ht hW => ⟨⟨0, (σ, ρ), rfl, ⟨hB.2.1, hB.2.2, (show 0 ≤ (0 : Int32).toInt ∧ (0 : Int32).toInt ≤ 1 from ⟨by decide, by decide⟩)⟩, (show TP D cA L T r σ ρ t.heap from by rw [ht]; exact hB.1)⟩, hS.F ht⟩) hS.2.2 dX8_canCarry_40
  · skip
    have uc_5 := i_nge (n := 9) (by decide) c_5
    refine lv_aload_n hx hb dX8_canCarry_15 rfl (lv_at hl 0 rfl) ?_
    refine lv_aload_n hx hb dX8_canCarry_16 rfl (lv_at hl 1 rfl) ?_
    refine lv_iload_n hx hb dX8_canCarry_17 rfl (lv_at hl 2 rfl) ?_
    refine t_ci (va_runV (As := [.ref h1, .int p2]) (rest := []) ⟨hx, hb, hml, hown, hts⟩ (cy_X8_weightOf_8 l D cA L T r hG hLA.1 σ ρ hB.2.1 _ h0 mh0 th0 h1 mh1 th1 p2 (by first | omega | decide) (by first | omega | decide)) (cV hts mv_X8_weightOf mw_4_165 rfl rfl ⟨Nat.le_of_ble_eq_true rfl, Nat.le_of_ble_eq_true rfl⟩) (pV hB.1 hK hN mh0 th0 (show shp cA 8 _ _ _ = .inr (8, Fs8 _ _ _) from rfl) rfl) rfl rfl hl.1 rfl (lv_room (Nat.le_of_ble_eq_true rfl)) dX8_canCarry_18 ⟨Nat.le_of_ble_eq_true rfl, Nat.le_of_ble_eq_true rfl⟩) hLA hA hB hS (by decide) (fun x_8 σ_6 ρ_7 H locs hB fσ_6 pσ_6 hS => ?_)
    have qσ_6 := FR.nil fσ_6
    subst qσ_6
    refine lv_aload_n hx hb dX8_canCarry_21 rfl (lv_at hl 1 rfl) ?_
    refine t_gr hx hb hts hown hK hG hB mh1 th1 fq_3_0 rfl mw_1_131 dX8_canCarry_22 (fun b_9 hb_9 mb_9 tb_9 => ?_)
    refine lv_iload_n hx hb dX8_canCarry_25 rfl (lv_at hl 3 rfl) ?_
    refine t_ai hx hb hK hB mb_9 tb_9 ai_33 (fun _ => rfl) (i_in (by omega) (by omega)) dX8_canCarry_26 (fun x_10 ex_10 lx_10 ux_10 => ?_)
    refine lv_iadd hx hb dX8_canCarry_27 ?_
    refine lv_topi (fun x_11 ex_11 => ?_)
    refine lv_aload_n hx hb dX8_canCarry_28 rfl (lv_at hl 1 rfl) ?_
    refine t_gi hx hb hts hown hK hB mh1 th1 fi_3_7 rfl mw_1_168 dX8_canCarry_29 (fun x_12 ex_12 lx_12 ux_12 => ?_)
    refine lv_icmp_gt (tgt := 39) hx hb dX8_canCarry_32 (by decide) (fun c_13 => ?_) (fun c_13 => ?_)
    · skip
      have uc_13 := j_lt c_13
      refine lv_iconst (v := 0) hx hb dX8_canCarry_39 (by decide) ?_
      exact W.zret (v := 0) hx hb hr rfl (fun t ht hW => ⟨⟨0, (σ, ρ_7), rfl, ⟨hB.2.1, hB.2.2, (show 0 ≤ (0 : Int32).toInt ∧ (0 : Int32).toInt ≤ 1 from ⟨by decide, by decide⟩)⟩, (show TP D cA L T r σ ρ_7 t.heap from by rw [ht]; exact hB.1)⟩, hS.F ht⟩) hS.2.2 dX8_canCarry_40
    · skip
      have uc_13 := j_nlt c_13
      refine lv_iconst (v := 1) hx hb dX8_canCarry_35 (by decide) ?_
      refine lv_goto (tgt := 40) hx hb dX8_canCarry_36 (by decide) ?_
      exact W.zret (v := 1) hx hb hr rfl (fun t ht hW => ⟨⟨1, (σ, ρ_7), rfl, ⟨hB.2.1, hB.2.2, (show 0 ≤ (1 : Int32).toInt ∧ (1 : Int32).toInt ≤ 1 from ⟨by decide, by decide⟩)⟩, (show TP D cA L T r σ ρ_7 t.heap from by rw [ht]; exact hB.1)⟩, hS.F ht⟩) hS.2.2 dX8_canCarry_40
theorem mw_1_145 : (.fieldLink RX8 80 "HillBends$Hill" "price" "[I" : Cond) ∈ wsA := wsA_t (List.mem_append_left _ (List.mem_of_getElem? (l := tables_1_1) (i := 145) rfl)) rfl
theorem mw_4_162 : (.instanceMethod yX8_canCarry : Cond) ∈ wsA := wsA_t (List.mem_append_right _ (List.mem_append_right _ (List.mem_append_right _ (List.mem_append_left _ (List.mem_of_getElem? (l := tables_1_4) (i := 162) rfl))))) rfl
theorem mw_4_163 : (.selects RX8 yX8_canCarry yX8_canCarry : Cond) ∈ wsA := wsA_t (List.mem_append_right _ (List.mem_append_right _ (List.mem_append_right _ (List.mem_append_left _ (List.mem_of_getElem? (l := tables_1_4) (i := 163) rfl))))) rfl
theorem mw_4_164 : (.code yX8_canCarry cX8_canCarry 4 (some .boolean) : Cond) ∈ wsA := wsA_t (List.mem_append_right _ (List.mem_append_right _ (List.mem_append_right _ (List.mem_append_left _ (List.mem_of_getElem? (l := tables_1_4) (i := 164) rfl))))) rfl
theorem mw_4_161 : (.methodLink RX8 76 yX8_canCarry : Cond) ∈ wsA := wsA_t (List.mem_append_right _ (List.mem_append_right _ (List.mem_append_right _ (List.mem_append_left _ (List.mem_of_getElem? (l := tables_1_4) (i := 161) rfl))))) rfl
theorem dX8_canPay_0 : decode cX8_canPay 0 = .ok (.aload_n 0, 1) := by decide +kernel
theorem dX8_canPay_1 : decode cX8_canPay 1 = .ok (.getfield 9, 3) := by decide +kernel
theorem dX8_canPay_4 : decode cX8_canPay 4 = .ok (.iload_n 2, 1) := by decide +kernel
theorem dX8_canPay_5 : decode cX8_canPay 5 = .ok (.iaload, 1) := by decide +kernel
theorem dX8_canPay_6 : decode cX8_canPay 6 = .ok (.ifCond .ne 32, 3) := by decide +kernel
theorem dX8_canPay_38 : decode cX8_canPay 38 = .ok (.iconst 0, 1) := by decide +kernel
theorem dX8_canPay_39 : decode cX8_canPay 39 = .ok (.ireturn, 1) := by decide +kernel
theorem dX8_canPay_9 : decode cX8_canPay 9 = .ok (.aload_n 0, 1) := by decide +kernel
theorem dX8_canPay_10 : decode cX8_canPay 10 = .ok (.getfield 15, 3) := by decide +kernel
theorem dX8_canPay_13 : decode cX8_canPay 13 = .ok (.iload_n 2, 1) := by decide +kernel
theorem dX8_canPay_14 : decode cX8_canPay 14 = .ok (.iaload, 1) := by decide +kernel
theorem dX8_canPay_15 : decode cX8_canPay 15 = .ok (.aload_n 1, 1) := by decide +kernel
theorem dX8_canPay_16 : decode cX8_canPay 16 = .ok (.getfield 80, 3) := by decide +kernel
theorem dX8_canPay_19 : decode cX8_canPay 19 = .ok (.iload_n 3, 1) := by decide +kernel
theorem dX8_canPay_20 : decode cX8_canPay 20 = .ok (.iaload, 1) := by decide +kernel
theorem dX8_canPay_21 : decode cX8_canPay 21 = .ok (.if_icmp .lt 17, 3) := by decide +kernel
theorem dX8_canPay_24 : decode cX8_canPay 24 = .ok (.aload_n 0, 1) := by decide +kernel
theorem dX8_canPay_25 : decode cX8_canPay 25 = .ok (.aload_n 1, 1) := by decide +kernel
theorem dX8_canPay_26 : decode cX8_canPay 26 = .ok (.iload_n 2, 1) := by decide +kernel
theorem dX8_canPay_27 : decode cX8_canPay 27 = .ok (.iload_n 3, 1) := by decide +kernel
theorem dX8_canPay_28 : decode cX8_canPay 28 = .ok (.invokevirtual 76, 3) := by decide +kernel
theorem dX8_canPay_31 : decode cX8_canPay 31 = .ok (.ifCond .eq 7, 3) := by decide +kernel
theorem dX8_canPay_34 : decode cX8_canPay 34 = .ok (.iconst 1, 1) := by decide +kernel
theorem dX8_canPay_35 : decode cX8_canPay 35 = .ok (.goto 4, 3) := by decide +kernel
theorem mv_X8_canCarry : MV RX8 yX8_canCarry cX8_canCarry 4 (some .boolean) 3 := ⟨mw_4_162, mw_4_163, mw_1_5, mw_4_164, ⟨rfl, by decide, by decide, by decide +kernel⟩⟩
set_option maxHeartbeats 4000000 in
set_option maxRecDepth 100000 in
theorem cy_X8_canPay (l : Launch) (D : va_G) (cA : Nat → ClassId) (L : List Nat) (T : Nat → Nat) (r : Rg) (hG : GR L T r) (hL : L.Nodup) (σ : Sg) (ρ : Lg) (hW : WT L ry T σ) (sz : Nat) (h0 : Nat) (mh0 : h0 ∈ L) (th0 : T h0 = 8) (h1 : Nat) (mh1 : h1 ∈ L) (th1 : T h1 = 3) (p2 : Int32) (p3 : Int32) (w0 : 0 ≤ p2.toInt) (w1 : p2.toInt ≤ 3) (w2 : 0 ≤ p3.toInt) (w3 : p3.toInt ≤ 4) : Met l yX8_canPay (.code yX8_canPay cX8_canPay 4 (some .boolean) :: wsA) ({ frames := 2, cells := 0, slots := 0, locals := 47 }) (PR D cA L T r σ ρ sz [.ref h0, .ref h1, .int p2, .int p3]) (QI D cA L T r ry ([] : List (Nat × Nat)) σ sz (fun x σ1 => (0 ≤ x.toInt ∧ x.toInt ≤ 1))) 0 0 (dm L sz) := by
  refine Met.ofW (cc := cX8_canPay) (maxL := 4) (ret := (some .boolean)) (by decide) rfl ?_
  intro p e s m args below meth c s₁ B hml hv
  obtain ⟨rfl, hsz, hP, hK, hN⟩ := hv
  have hx := B.exec
  have hb := B.bytes
  have hr := B.returns
  have hts : ∀ w ∈ wsA, w.before _ s = true := fun w h => atoms_spec (ws := .code yX8_canPay cX8_canPay 4 (some .boolean) :: wsA) B.pre w (List.mem_cons_of_mem _ h)
  have hown : s.vm.findClass RX8 = some m.cls := findClass_of_methodNamed B.named
  subst hsz
  have hLA : LA (dm L s.heap.size) L := ⟨hL, fun a h => Or.inl h⟩
  have hA : ∀ q : Nat, s.heap.size ≤ q → dm L s.heap.size q := fun q h => Or.inr h
  have hS : va_S (dm L s.heap.size) s.heap s.heap [] := va_S.rf
  have hB : TS D cA L T r ry ([] : List (Nat × Nat)) σ σ ρ s.heap := ⟨hP, hW, FR.rf⟩
  have hl := lv_entry ([.ref h0, .ref h1, .int p2, .int p3]) (n := 4) (Nat.le_of_ble_eq_true rfl)
  rw [lg_entry_eq]
  generalize (lg_sl ([.ref h0, .ref h1, .int p2, .int p3]) ++ List.replicate (4 - (lg_sl ([.ref h0, .ref h1, .int p2, .int p3])).length) Slot.unset).toArray = ls at hl ⊢
  have hl : lv_has ls 4 [(0, .ref h0), (1, .ref h1), (2, .int p2), (3, .int p3)] := hl
  refine lv_aload_n hx hb dX8_canPay_0 rfl (lv_at hl 0 rfl) ?_
  refine t_gr hx hb hts hown hK hG hB mh0 th0 fq_8_0 rfl mw_1_80 dX8_canPay_1 (fun b_1 hb_1 mb_1 tb_1 => ?_)
  refine lv_iload_n hx hb dX8_canPay_4 rfl (lv_at hl 2 rfl) ?_
  refine t_ai hx hb hK hB mb_1 tb_1 ai_45 (fun _ => rfl) (i_in (by omega) (by omega)) dX8_canPay_5 (fun x_2 ex_2 lx_2 ux_2 => ?_)
  refine lv_if_ne (tgt := 38) hx hb dX8_canPay_6 (by decide) (fun c_3 => ?_) (fun c_3 => ?_)
  · skip
    have uc_3 := i_ne (n := 0) (by decide) c_3
    refine lv_iconst (v := 0) hx hb dX8_canPay_38 (by decide) ?_
    exact W.zret (v := 0) hx hb hr rfl (fun t ht hW => ⟨⟨0, (σ, ρ), rfl, ⟨hB.2.1, hB.2.2, (show 0 ≤ (0 : Int32).toInt ∧ (0 : Int32).toInt ≤ 1 from ⟨by decide, by decide⟩)⟩, (show TP D cA L T r σ ρ t.heap from by rw [ht]; exact hB.1)⟩, hS.F ht⟩) hS.2.2 dX8_canPay_39
  · skip
    have uc_3 := i_eq (n := 0) (by decide) c_3
    refine lv_aload_n hx hb dX8_canPay_9 rfl (lv_at hl 0 rfl) ?_
    refine t_gr hx hb hts hown hK hG hB mh0 th0 fq_8_1 rfl mw_1_85 dX8_canPay_10 (fun b_4 hb_4 mb_4 tb_4 => ?_)
    refine lv_iload_n hx hb dX8_canPay_13 rfl (lv_at hl 2 rfl) ?_
    refine t_ai hx hb hK hB mb_4 tb_4 ai_46 (fun _ => rfl) (i_in (by omega) (by omega)) dX8_canPay_14 (fun x_5 ex_5 lx_5 ux_5 => ?_)
    refine lv_aload_n hx hb dX8_canPay_15 rfl (lv_at hl 1 rfl) ?_
    refine t_gr hx hb hts hown hK hG hB mh1 th1 fq_3_2 rfl mw_1_145 dX8_canPay_16 (fun b_6 hb_6 mb_6 tb_6 => ?_)
    refine lv_iload_n hx hb dX8_canPay_19 rfl (lv_at hl 3 rfl) ?_
    refine t_ai hx hb hK hB mb_6 tb_6 ai_35 (fun _ => rfl) (i_in (by omega) (by omega)) dX8_canPay_20 (fun x_7 ex_7 lx_7 ux_7 => ?_)
    refine lv_icmp_lt (tgt := 38) hx hb dX8_canPay_21 (by decide) (fun c_8 => ?_) (fun c_8 => ?_)
    · skip
      have uc_8 := j_lt c_8
      refine lv_iconst (v := 0) hx hb dX8_canPay_38 (by decide) ?_
      exact W.zret (v := 0) hx hb hr rfl (fun t ht hW => ⟨⟨0, (σ, ρ), rfl, ⟨hB.2.1, hB.2.2, (show 0 ≤ (0 : Int32).toInt ∧ (0 : Int32).toInt ≤ 1 from ⟨by decide, by decide⟩)⟩, (show TP D cA L T r σ ρ t.heap from by rw [ht]; exact hB.1)⟩, hS.F ht⟩) hS.2.2 dX8_canPay_39
    · skip
      have uc_8 := j_nlt c_8
      refine lv_aload_n hx hb dX8_canPay_24 rfl (lv_at hl 0 rfl) ?_
      refine lv_aload_n hx hb dX8_canPay_25 rfl (lv_at hl 1 rfl) ?_
      refine lv_iload_n hx hb dX8_canPay_26 rfl (lv_at hl 2 rfl) ?_
      refine lv_iload_n hx hb dX8_canPay_27 rfl (lv_at hl 3 rfl) ?_
      refine t_ci (va_runV (As := [.ref h1, .int p2, .int p3]) (rest := []) ⟨hx, hb, hml, hown, hts⟩ (cy_X8_canCarry l D cA L T r hG hLA.1 σ ρ hB.2.1 _ h0 mh0 th0 h1 mh1 th1 p2 p3 (by first | omega | decide) (by first | omega | decide) (by first | omega | decide) (by first | omega | decide)) (cV hts mv_X8_canCarry mw_4_161 rfl rfl ⟨Nat.le_of_ble_eq_true rfl, Nat.le_of_ble_eq_true rfl⟩) (pV hB.1 hK hN mh0 th0 (show shp cA 8 _ _ _ = .inr (8, Fs8 _ _ _) from rfl) rfl) rfl rfl hl.1 rfl (lv_room (Nat.le_of_ble_eq_true rfl)) dX8_canPay_28 ⟨Nat.le_of_ble_eq_true rfl, Nat.le_of_ble_eq_true rfl⟩) hLA hA hB hS (by decide) (fun x_11 σ_9 ρ_10 H locs hB fσ_9 pσ_9 hS => ?_)
      have qσ_9 := FR.nil fσ_9
      subst qσ_9
      obtain ⟨lx_11, ux_11⟩ := pσ_9
      refine lv_if_eq (tgt := 38) hx hb dX8_canPay_31 (by decide) (fun c_12 => ?_) (fun c_12 => ?_)
      · skip
        have uc_12 := i_eq (n := 0) (by decide) c_12
        refine lv_iconst (v := 0) hx hb dX8_canPay_38 (by decide) ?_
        exact W.zret (v := 0) hx hb hr rfl (fun t ht hW => ⟨⟨0, (σ, ρ_10), rfl, ⟨hB.2.1, hB.2.2, (show 0 ≤ (0 : Int32).toInt ∧ (0 : Int32).toInt ≤ 1 from ⟨by decide, by decide⟩)⟩, (show TP D cA L T r σ ρ_10 t.heap from by rw [ht]; exact hB.1)⟩, hS.F ht⟩) hS.2.2 dX8_canPay_39
      · skip
        have uc_12 := i_ne (n := 0) (by decide) c_12
        refine lv_iconst (v := 1) hx hb dX8_canPay_34 (by decide) ?_
        refine lv_goto (tgt := 39) hx hb dX8_canPay_35 (by decide) ?_
        exact W.zret (v := 1) hx hb hr rfl (fun t ht hW => ⟨⟨1, (σ, ρ_10), rfl, ⟨hB.2.1, hB.2.2, (show 0 ≤ (1 : Int32).toInt ∧ (1 : Int32).toInt ≤ 1 from ⟨by decide, by decide⟩)⟩, (show TP D cA L T r σ ρ_10 t.heap from by rw [ht]; exact hB.1)⟩, hS.F ht⟩) hS.2.2 dX8_canPay_39
theorem dX8_canPart_0 : decode cX8_canPart 0 = .ok (.aload_n 0, 1) := by decide +kernel
theorem dX8_canPart_1 : decode cX8_canPart 1 = .ok (.getfield 9, 3) := by decide +kernel
theorem dX8_canPart_4 : decode cX8_canPart 4 = .ok (.iload_n 1, 1) := by decide +kernel
theorem dX8_canPart_5 : decode cX8_canPart 5 = .ok (.iaload, 1) := by decide +kernel
theorem dX8_canPart_6 : decode cX8_canPart 6 = .ok (.ifCond .ne 20, 3) := by decide +kernel
theorem dX8_canPart_26 : decode cX8_canPart 26 = .ok (.iconst 0, 1) := by decide +kernel
theorem dX8_canPart_27 : decode cX8_canPart 27 = .ok (.ireturn, 1) := by decide +kernel
theorem dX8_canPart_9 : decode cX8_canPart 9 = .ok (.aload_n 0, 1) := by decide +kernel
theorem dX8_canPart_10 : decode cX8_canPart 10 = .ok (.getfield 24, 3) := by decide +kernel
theorem dX8_canPart_13 : decode cX8_canPart 13 = .ok (.iload_n 1, 1) := by decide +kernel
theorem dX8_canPart_14 : decode cX8_canPart 14 = .ok (.iconst 5, 1) := by decide +kernel
theorem dX8_canPart_15 : decode cX8_canPart 15 = .ok (.imul, 1) := by decide +kernel
theorem dX8_canPart_16 : decode cX8_canPart 16 = .ok (.iload_n 2, 1) := by decide +kernel
theorem dX8_canPart_17 : decode cX8_canPart 17 = .ok (.iadd, 1) := by decide +kernel
theorem dX8_canPart_18 : decode cX8_canPart 18 = .ok (.iaload, 1) := by decide +kernel
theorem dX8_canPart_19 : decode cX8_canPart 19 = .ok (.ifCond .le 7, 3) := by decide +kernel
theorem dX8_canPart_22 : decode cX8_canPart 22 = .ok (.iconst 1, 1) := by decide +kernel
theorem dX8_canPart_23 : decode cX8_canPart 23 = .ok (.goto 4, 3) := by decide +kernel
set_option maxHeartbeats 4000000 in
set_option maxRecDepth 100000 in
theorem cy_X8_canPart (l : Launch) (D : va_G) (cA : Nat → ClassId) (L : List Nat) (T : Nat → Nat) (r : Rg) (hG : GR L T r) (hL : L.Nodup) (σ : Sg) (ρ : Lg) (hW : WT L ry T σ) (sz : Nat) (h0 : Nat) (mh0 : h0 ∈ L) (th0 : T h0 = 8) (p1 : Int32) (p2 : Int32) (w0 : 0 ≤ p1.toInt) (w1 : p1.toInt ≤ 3) (w2 : 0 ≤ p2.toInt) (w3 : p2.toInt ≤ 4) : Met l yX8_canPart (.code yX8_canPart cX8_canPart 3 (some .boolean) :: wsA) ({ frames := 0, cells := 0, slots := 0, locals := 0 }) (PR D cA L T r σ ρ sz [.ref h0, .int p1, .int p2]) (QI D cA L T r ry ([] : List (Nat × Nat)) σ sz (fun x σ1 => (0 ≤ x.toInt ∧ x.toInt ≤ 1))) 0 0 (dm L sz) := by
  refine Met.ofW (cc := cX8_canPart) (maxL := 3) (ret := (some .boolean)) (by decide) rfl ?_
  intro p e s m args below meth c s₁ B hml hv
  obtain ⟨rfl, hsz, hP, hK, hN⟩ := hv
  have hx := B.exec
  have hb := B.bytes
  have hr := B.returns
  have hts : ∀ w ∈ wsA, w.before _ s = true := fun w h => atoms_spec (ws := .code yX8_canPart cX8_canPart 3 (some .boolean) :: wsA) B.pre w (List.mem_cons_of_mem _ h)
  have hown : s.vm.findClass RX8 = some m.cls := findClass_of_methodNamed B.named
  subst hsz
  have hLA : LA (dm L s.heap.size) L := ⟨hL, fun a h => Or.inl h⟩
  have hA : ∀ q : Nat, s.heap.size ≤ q → dm L s.heap.size q := fun q h => Or.inr h
  have hS : va_S (dm L s.heap.size) s.heap s.heap [] := va_S.rf
  have hB : TS D cA L T r ry ([] : List (Nat × Nat)) σ σ ρ s.heap := ⟨hP, hW, FR.rf⟩
  have hl := lv_entry ([.ref h0, .int p1, .int p2]) (n := 3) (Nat.le_of_ble_eq_true rfl)
  rw [lg_entry_eq]
  generalize (lg_sl ([.ref h0, .int p1, .int p2]) ++ List.replicate (3 - (lg_sl ([.ref h0, .int p1, .int p2])).length) Slot.unset).toArray = ls at hl ⊢
  have hl : lv_has ls 3 [(0, .ref h0), (1, .int p1), (2, .int p2)] := hl
  refine lv_aload_n hx hb dX8_canPart_0 rfl (lv_at hl 0 rfl) ?_
  refine t_gr hx hb hts hown hK hG hB mh0 th0 fq_8_0 rfl mw_1_80 dX8_canPart_1 (fun b_1 hb_1 mb_1 tb_1 => ?_)
  refine lv_iload_n hx hb dX8_canPart_4 rfl (lv_at hl 1 rfl) ?_
  refine t_ai hx hb hK hB mb_1 tb_1 ai_45 (fun _ => rfl) (i_in (by omega) (by omega)) dX8_canPart_5 (fun x_2 ex_2 lx_2 ux_2 => ?_)
  refine lv_if_ne (tgt := 26) hx hb dX8_canPart_6 (by decide) (fun c_3 => ?_) (fun c_3 => ?_)
  · skip
    have uc_3 := i_ne (n := 0) (by decide) c_3
    refine lv_iconst (v := 0) hx hb dX8_canPart_26 (by decide) ?_
    exact W.zret (v := 0) hx hb hr rfl (fun t ht hW => ⟨⟨0, (σ, ρ), rfl, ⟨hB.2.1, hB.2.2, (show 0 ≤ (0 : Int32).toInt ∧ (0 : Int32).toInt ≤ 1 from ⟨by decide, by decide⟩)⟩, (show TP D cA L T r σ ρ t.heap from by rw [ht]; exact hB.1)⟩, hS.F ht⟩) hS.2.2 dX8_canPart_27
  · skip
    have uc_3 := i_eq (n := 0) (by decide) c_3
    refine lv_aload_n hx hb dX8_canPart_9 rfl (lv_at hl 0 rfl) ?_
    refine t_gr hx hb hts hown hK hG hB mh0 th0 fq_8_4 rfl mw_1_95 dX8_canPart_10 (fun b_4 hb_4 mb_4 tb_4 => ?_)
    refine lv_iload_n hx hb dX8_canPart_13 rfl (lv_at hl 1 rfl) ?_
    refine lv_iconst (v := 5) hx hb dX8_canPart_14 (by decide) ?_
    refine lv_imul hx hb dX8_canPart_15 ?_
    refine lv_topi (fun x_5 ex_5 => ?_)
    have vx_5 := b_mul (rfl : p1.toInt = _) (by decide : (5 : Int32).toInt = 5) ex_5 (by omega) (by omega)
    refine lv_iload_n hx hb dX8_canPart_16 rfl (lv_at hl 2 rfl) ?_
    refine lv_iadd hx hb dX8_canPart_17 ?_
    refine lv_topi (fun x_6 ex_6 => ?_)
    have vx_6 := b_add (rfl : x_5.toInt = _) (rfl : p2.toInt = _) ex_6 (by omega) (by omega)
    refine t_ai hx hb hK hB mb_4 tb_4 ai_49 (fun _ => rfl) (i_in (by omega) (by omega)) dX8_canPart_18 (fun x_7 ex_7 lx_7 ux_7 => ?_)
    refine lv_if_le (tgt := 26) hx hb dX8_canPart_19 (by decide) (fun c_8 => ?_) (fun c_8 => ?_)
    · skip
      have uc_8 := i_le (n := 0) (by decide) c_8
      refine lv_iconst (v := 0) hx hb dX8_canPart_26 (by decide) ?_
      exact W.zret (v := 0) hx hb hr rfl (fun t ht hW => ⟨⟨0, (σ, ρ), rfl, ⟨hB.2.1, hB.2.2, (show 0 ≤ (0 : Int32).toInt ∧ (0 : Int32).toInt ≤ 1 from ⟨by decide, by decide⟩)⟩, (show TP D cA L T r σ ρ t.heap from by rw [ht]; exact hB.1)⟩, hS.F ht⟩) hS.2.2 dX8_canPart_27
    · skip
      have uc_8 := i_nle (n := 0) (by decide) c_8
      refine lv_iconst (v := 1) hx hb dX8_canPart_22 (by decide) ?_
      refine lv_goto (tgt := 27) hx hb dX8_canPart_23 (by decide) ?_
      exact W.zret (v := 1) hx hb hr rfl (fun t ht hW => ⟨⟨1, (σ, ρ), rfl, ⟨hB.2.1, hB.2.2, (show 0 ≤ (1 : Int32).toInt ∧ (1 : Int32).toInt ≤ 1 from ⟨by decide, by decide⟩)⟩, (show TP D cA L T r σ ρ t.heap from by rw [ht]; exact hB.1)⟩, hS.F ht⟩) hS.2.2 dX8_canPart_27
theorem mw_4_148 : (.methodLink RX8 71 yJ9_min_7cf53 : Cond) ∈ wsA := wsA_t (List.mem_append_right _ (List.mem_append_right _ (List.mem_append_right _ (List.mem_append_left _ (List.mem_of_getElem? (l := tables_1_4) (i := 148) rfl))))) rfl
theorem mw_3_123 : (.static yJ9_min_7cf53 : Cond) ∈ wsA := wsA_t (List.mem_append_right _ (List.mem_append_right _ (List.mem_append_left _ (List.mem_of_getElem? (l := tables_1_3) (i := 123) rfl)))) rfl
theorem mw_1_18 : (.initialized RJ9 : Cond) ∈ wsA := wsA_t (List.mem_append_left _ (List.mem_of_getElem? (l := tables_1_1) (i := 18) rfl)) rfl
theorem mw_3_124 : (.code yJ9_min_7cf53 cJ9_min_7cf53 2 (some .int) : Cond) ∈ wsA := wsA_t (List.mem_append_right _ (List.mem_append_right _ (List.mem_append_left _ (List.mem_of_getElem? (l := tables_1_3) (i := 124) rfl)))) rfl
theorem dX8_part_0 : decode cX8_part 0 = .ok (.aload_n 0, 1) := by decide +kernel
theorem dX8_part_1 : decode cX8_part 1 = .ok (.getfield 24, 3) := by decide +kernel
theorem dX8_part_4 : decode cX8_part 4 = .ok (.iload_n 2, 1) := by decide +kernel
theorem dX8_part_5 : decode cX8_part 5 = .ok (.iconst 5, 1) := by decide +kernel
theorem dX8_part_6 : decode cX8_part 6 = .ok (.imul, 1) := by decide +kernel
theorem dX8_part_7 : decode cX8_part 7 = .ok (.iload_n 3, 1) := by decide +kernel
theorem dX8_part_8 : decode cX8_part 8 = .ok (.iadd, 1) := by decide +kernel
theorem dX8_part_9 : decode cX8_part 9 = .ok (.dup2, 1) := by decide +kernel
theorem dX8_part_10 : decode cX8_part 10 = .ok (.iaload, 1) := by decide +kernel
theorem dX8_part_11 : decode cX8_part 11 = .ok (.iconst 1, 1) := by decide +kernel
theorem dX8_part_12 : decode cX8_part 12 = .ok (.isub, 1) := by decide +kernel
theorem dX8_part_13 : decode cX8_part 13 = .ok (.iastore, 1) := by decide +kernel
theorem dX8_part_14 : decode cX8_part 14 = .ok (.aload_n 0, 1) := by decide +kernel
theorem dX8_part_15 : decode cX8_part 15 = .ok (.getfield 15, 3) := by decide +kernel
theorem dX8_part_18 : decode cX8_part 18 = .ok (.iload_n 2, 1) := by decide +kernel
theorem dX8_part_19 : decode cX8_part 19 = .ok (.sipush 999, 3) := by decide +kernel
theorem dX8_part_22 : decode cX8_part 22 = .ok (.aload_n 0, 1) := by decide +kernel
theorem dX8_part_23 : decode cX8_part 23 = .ok (.getfield 15, 3) := by decide +kernel
theorem dX8_part_26 : decode cX8_part 26 = .ok (.iload_n 2, 1) := by decide +kernel
theorem dX8_part_27 : decode cX8_part 27 = .ok (.iaload, 1) := by decide +kernel
theorem dX8_part_28 : decode cX8_part 28 = .ok (.aload_n 1, 1) := by decide +kernel
theorem dX8_part_29 : decode cX8_part 29 = .ok (.getfield 80, 3) := by decide +kernel
theorem dX8_part_32 : decode cX8_part 32 = .ok (.iload_n 3, 1) := by decide +kernel
theorem dX8_part_33 : decode cX8_part 33 = .ok (.iaload, 1) := by decide +kernel
theorem dX8_part_34 : decode cX8_part 34 = .ok (.iconst 2, 1) := by decide +kernel
theorem dX8_part_35 : decode cX8_part 35 = .ok (.idiv, 1) := by decide +kernel
theorem dX8_part_36 : decode cX8_part 36 = .ok (.iadd, 1) := by decide +kernel
theorem dX8_part_37 : decode cX8_part 37 = .ok (.invokestatic 71, 3) := by decide +kernel
theorem dX8_part_40 : decode cX8_part 40 = .ok (.iastore, 1) := by decide +kernel
theorem dX8_part_41 : decode cX8_part 41 = .ok (.return_, 1) := by decide +kernel
set_option maxHeartbeats 4000000 in
set_option maxRecDepth 100000 in
theorem cy_X8_part (l : Launch) (D : va_G) (cA : Nat → ClassId) (L : List Nat) (T : Nat → Nat) (r : Rg) (hG : GR L T r) (hL : L.Nodup) (σ : Sg) (ρ : Lg) (hW : WT L ry T σ) (sz : Nat) (h0 : Nat) (mh0 : h0 ∈ L) (th0 : T h0 = 8) (h1 : Nat) (mh1 : h1 ∈ L) (th1 : T h1 = 3) (p2 : Int32) (p3 : Int32) (w0 : 0 ≤ p2.toInt) (w1 : p2.toInt ≤ 3) (w2 : 0 ≤ p3.toInt) (w3 : p3.toInt ≤ 4) : Met l yX8_part (.code yX8_part cX8_part 4 none :: wsA) ({ frames := 1, cells := 0, slots := 0, locals := 40 }) (PR D cA L T r σ ρ sz [.ref h0, .ref h1, .int p2, .int p3]) (QV D cA L T r ry [(46, 1000), (49, 1000)] σ sz (fun σ1 => True)) 0 0 (dm L sz) := by
  refine Met.ofW (cc := cX8_part) (maxL := 4) (ret := none) (by decide) rfl ?_
  intro p e s m args below meth c s₁ B hml hv
  obtain ⟨rfl, hsz, hP, hK, hN⟩ := hv
  have hx := B.exec
  have hb := B.bytes
  have hr := B.returns
  have hts : ∀ w ∈ wsA, w.before _ s = true := fun w h => atoms_spec (ws := .code yX8_part cX8_part 4 none :: wsA) B.pre w (List.mem_cons_of_mem _ h)
  have hown : s.vm.findClass RX8 = some m.cls := findClass_of_methodNamed B.named
  subst hsz
  have hLA : LA (dm L s.heap.size) L := ⟨hL, fun a h => Or.inl h⟩
  have hA : ∀ q : Nat, s.heap.size ≤ q → dm L s.heap.size q := fun q h => Or.inr h
  have hS : va_S (dm L s.heap.size) s.heap s.heap [] := va_S.rf
  have hB : TS D cA L T r ry [(46, 1000), (49, 1000)] σ σ ρ s.heap := ⟨hP, hW, FR.rf⟩
  have hl := lv_entry ([.ref h0, .ref h1, .int p2, .int p3]) (n := 4) (Nat.le_of_ble_eq_true rfl)
  rw [lg_entry_eq]
  generalize (lg_sl ([.ref h0, .ref h1, .int p2, .int p3]) ++ List.replicate (4 - (lg_sl ([.ref h0, .ref h1, .int p2, .int p3])).length) Slot.unset).toArray = ls at hl ⊢
  have hl : lv_has ls 4 [(0, .ref h0), (1, .ref h1), (2, .int p2), (3, .int p3)] := hl
  refine lv_aload_n hx hb dX8_part_0 rfl (lv_at hl 0 rfl) ?_
  refine t_gr hx hb hts hown hK hG hB mh0 th0 fq_8_4 rfl mw_1_95 dX8_part_1 (fun b_1 hb_1 mb_1 tb_1 => ?_)
  refine lv_iload_n hx hb dX8_part_4 rfl (lv_at hl 2 rfl) ?_
  refine lv_iconst (v := 5) hx hb dX8_part_5 (by decide) ?_
  refine lv_imul hx hb dX8_part_6 ?_
  refine lv_topi (fun x_2 ex_2 => ?_)
  have vx_2 := b_mul (rfl : p2.toInt = _) (by decide : (5 : Int32).toInt = 5) ex_2 (by omega) (by omega)
  refine lv_iload_n hx hb dX8_part_7 rfl (lv_at hl 3 rfl) ?_
  refine lv_iadd hx hb dX8_part_8 ?_
  refine lv_topi (fun x_3 ex_3 => ?_)
  have vx_3 := b_add (rfl : x_2.toInt = _) (rfl : p3.toInt = _) ex_3 (by omega) (by omega)
  refine lv_dup2_11 hx hb dX8_part_9 rfl rfl ?_
  refine t_ai hx hb hK hB mb_1 tb_1 ai_49 (fun _ => rfl) (i_in (by omega) (by omega)) dX8_part_10 (fun x_4 ex_4 lx_4 ux_4 => ?_)
  refine lv_iconst (v := 1) hx hb dX8_part_11 (by decide) ?_
  refine lv_isub hx hb dX8_part_12 ?_
  refine lv_topi (fun x_5 ex_5 => ?_)
  refine t_si hx hb hK hLA hB hS mb_1 tb_1 ai_49 (i_in (by omega) (by omega)) (i_lo _) (i_hi _) (Or.inr (by decide)) dX8_part_13 (fun H locs σ_6 eσ_6 hB hS => ?_)
  have k_7 : σ_6 b_1 x_3.toNatClampNeg = x_5 := by rw [eσ_6]; exact up2_same _ _ _ _
  refine lv_aload_n hx hb dX8_part_14 rfl (lv_at hl 0 rfl) ?_
  refine t_gr hx hb hts hown hK hG hB mh0 th0 fq_8_1 rfl mw_1_85 dX8_part_15 (fun b_8 hb_8 mb_8 tb_8 => ?_)
  refine lv_iload_n hx hb dX8_part_18 rfl (lv_at hl 2 rfl) ?_
  refine lv_sipush (v := 999) hx hb dX8_part_19 (by decide) ?_
  refine lv_aload_n hx hb dX8_part_22 rfl (lv_at hl 0 rfl) ?_
  refine t_gk hx hb hts hown hK hB mh0 th0 fq_8_1 hb_8 mw_1_85 dX8_part_23 ?_
  refine lv_iload_n hx hb dX8_part_26 rfl (lv_at hl 2 rfl) ?_
  refine t_ai hx hb hK hB mb_8 tb_8 ai_46 (fun _ => rfl) (i_in (by omega) (by omega)) dX8_part_27 (fun x_9 ex_9 lx_9 ux_9 => ?_)
  refine lv_aload_n hx hb dX8_part_28 rfl (lv_at hl 1 rfl) ?_
  refine t_gr hx hb hts hown hK hG hB mh1 th1 fq_3_2 rfl mw_1_145 dX8_part_29 (fun b_10 hb_10 mb_10 tb_10 => ?_)
  refine lv_iload_n hx hb dX8_part_32 rfl (lv_at hl 3 rfl) ?_
  refine t_ai hx hb hK hB mb_10 tb_10 ai_35 (fun _ => rfl) (i_in (by omega) (by omega)) dX8_part_33 (fun x_11 ex_11 lx_11 ux_11 => ?_)
  refine lv_iconst (v := 2) hx hb dX8_part_34 (by decide) ?_
  refine lv_idiv hx hb dX8_part_35 (by decide) ?_
  refine lv_topi (fun x_12 ex_12 => ?_)
  refine lv_iadd hx hb dX8_part_36 ?_
  refine lv_topi (fun x_13 ex_13 => ?_)
  refine va_mmin hx hb (hml.trans hl.1.symm) hown (hts _ mw_4_148) (hts _ mw_3_123) (hts _ mw_1_18) (hts _ mw_3_124) (Nat.le_of_ble_eq_true rfl) (Nat.le_of_ble_eq_true rfl) (Nat.zero_le _) (Nat.zero_le _) dX8_part_37 ?_
  refine lv_topi (fun x_14 ex_14 => ?_)
  obtain ⟨lx_14, mx_14, ux_14⟩ := m_min (by decide : (999 : Int32).toInt = 999) (rfl : x_13.toInt = _) ex_14
  refine t_si hx hb hK hLA hB hS mb_8 tb_8 ai_46 (i_in (by omega) (by omega)) (i_lo _) (i_hi _) (Or.inr (by decide)) dX8_part_40 (fun H locs σ_15 eσ_15 hB hS => ?_)
  have k_16 : σ_15 b_8 p2.toNatClampNeg = x_14 := by rw [eσ_15]; exact up2_same _ _ _ _
  exact W.vret hx hb hr (fun t ht hW => ⟨⟨(σ_15, ρ), rfl, ⟨hB.2.1, hB.2.2, trivial⟩, (show TP D cA L T r σ_15 ρ t.heap from by rw [ht]; exact hB.1)⟩, hS.F ht⟩) hS.2.2 dX8_part_41
