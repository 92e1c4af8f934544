set_option maxHeartbeats 4000000 in
set_option maxRecDepth 100000 in
theorem cz_X12_four_0 (l : Launch) (D : va_G) (cA : Nat → ClassId) (L : List Nat) (T : Nat → Nat) (r : Rg) (hG : GR L T r) (hL : L.Nodup) (σ : Sg) (ρ : Lg) (hW : WT L rz T σ) (sz : Nat) (h0 : Nat) (mh0 : h0 ∈ L) (th0 : T h0 = 12) (p1 : Int32) (k0 : σ h0 1 = 0) : Met l yX12_four (.code yX12_four cX12_four 3 none :: wsA) ({ frames := 0, cells := 0, slots := 0, locals := 0 }) (PR D cA L T r σ ρ sz [.ref h0, .int p1]) (QV D cA L T r rz [(12, 1), (61, 1000)] σ sz (fun σ1 => σ1 h0 1 = 4)) 0 0 (dm L sz) := by
  refine Met.ofW (cc := cX12_four) (maxL := 3) (ret := none) (by decide) rfl ?_
  intro p e s m args below meth c s₁ B hml hv
  obtain ⟨rfl, hsz, hP, hK, hN⟩ := hv
  have hx := B.exec
  have hb := B.bytes
  have hr := B.returns
  have hts : ∀ w ∈ wsA, w.before _ s = true := fun w h => atoms_spec (ws := .code yX12_four cX12_four 3 none :: wsA) B.pre w (List.mem_cons_of_mem _ h)
  have hown : s.vm.findClass RX12 = some m.cls := findClass_of_methodNamed B.named
  subst hsz
  have hLA : LA (dm L s.heap.size) L := ⟨hL, fun a h => Or.inl h⟩
  have hA : ∀ q : Nat, s.heap.size ≤ q → dm L s.heap.size q := fun q h => Or.inr h
  have hS : va_S (dm L s.heap.size) s.heap s.heap [] := va_S.rf
  have hB : TS D cA L T r rz [(12, 1), (61, 1000)] σ σ ρ s.heap := ⟨hP, hW, FR.rf⟩
  have hl := lv_entry ([.ref h0, .int p1]) (n := 3) (Nat.le_of_ble_eq_true rfl)
  rw [lg_entry_eq]
  generalize (lg_sl ([.ref h0, .int p1]) ++ List.replicate (3 - (lg_sl ([.ref h0, .int p1])).length) Slot.unset).toArray = ls at hl ⊢
  have hl : lv_has ls 3 [(0, .ref h0), (1, .int p1)] := hl
  refine lv_bipush (v := 24) hx hb dX12_four_0 (by decide) ?_
  refine lv_istore_n (lv' := [(2, .int 24), (0, .ref h0), (1, .int p1)]) hx hb dX12_four_2 rfl hl (by decide) rfl (fun ls hl => ?_)
  refine lv_iload_n hx hb dX12_four_3 rfl (lv_at hl 0 rfl) ?_
  refine lv_if_lt (tgt := 36) hx hb dX12_four_4 (by decide) (fun c9 => absurd c9 (by decide)) (fun _ => ?_)
  refine lv_aload_n hx hb dX12_four_7 rfl (lv_at hl 1 rfl) ?_
  refine t_gr hx hb hts hown hK hG hB mh0 th0 fq_12_0 rfl mw_5_216 dX12_four_8 (fun b_1 hb_1 mb_1 tb_1 => ?_)
  refine lv_aload_n hx hb dX12_four_11 rfl (lv_at hl 1 rfl) ?_
  refine t_gv hx hb hts hown hK hB mh0 th0 fi_12_1 k0 mw_5_217 dX12_four_12 ?_
  refine lv_iload_n hx hb dX12_four_15 rfl (lv_at hl 2 rfl) ?_
  refine lv_iload_n hx hb dX12_four_16 rfl (lv_at hl 0 rfl) ?_
  refine lv_ishr hx hb dX12_four_17 ?_
  refine lv_topi (fun x_2 ex_2 => ?_)
  refine lv_i2b hx hb dX12_four_18 rfl ?_
  refine lv_topi (fun x_3 ex_3 => ?_)
  refine t_sb hx hb hK hLA hB hS mb_1 tb_1 ai_61 (i_in (by decide) (by decide)) (i_lo _) (i_hi _) (Or.inr (by decide)) dX12_four_19 (fun H locs σ_4 eσ_4 hB hS => ?_)
  refine lv_aload_n hx hb dX12_four_20 rfl (lv_at hl 1 rfl) ?_
  refine lv_dup hx hb dX12_four_21 rfl ?_
  have k_5 : σ_4 h0 1 = 0 := by rw [eσ_4, up2_nej _ _ (by decide)]; exact k0
  refine t_gv hx hb hts hown hK hB mh0 th0 fi_12_1 k_5 mw_5_217 dX12_four_22 ?_
  refine lv_iconst (v := 1) hx hb dX12_four_25 (by decide) ?_
  refine lv_iadd hx hb dX12_four_26 ?_
  refine tp_i (w := 1) (by decide) ?_
  refine t_pi hx hb hts hown hK hLA hB hS mh0 th0 fi_12_1 rfl rfl rfl (i_lo _) (i_hi _) (Or.inl (by decide)) mw_5_217 dX12_four_27 (fun H locs σ_6 eσ_6 hB hS => ?_)
  have k_7 : σ_6 h0 1 = 1 := by rw [eσ_6]; exact up2_same _ _ _ _
  refine lv_iinc (v := 16) (lv' := [(2, .int 16), (0, .ref h0), (1, .int p1)]) hx hb dX12_four_30 hl (k := 0) rfl (by decide) (by decide) rfl (fun ls hl => ?_)
  refine lv_goto (tgt := 3) hx hb dX12_four_33 (by decide) ?_
  refine lv_iload_n hx hb dX12_four_3 rfl (lv_at hl 0 rfl) ?_
  refine lv_if_lt (tgt := 36) hx hb dX12_four_4 (by decide) (fun c9 => absurd c9 (by decide)) (fun _ => ?_)
  refine lv_aload_n hx hb dX12_four_7 rfl (lv_at hl 1 rfl) ?_
  refine t_gk hx hb hts hown hK hB mh0 th0 fq_12_0 hb_1 mw_5_216 dX12_four_8 ?_
  refine lv_aload_n hx hb dX12_four_11 rfl (lv_at hl 1 rfl) ?_
  refine t_gv hx hb hts hown hK hB mh0 th0 fi_12_1 k_7 mw_5_217 dX12_four_12 ?_
  refine lv_iload_n hx hb dX12_four_15 rfl (lv_at hl 2 rfl) ?_
  refine lv_iload_n hx hb dX12_four_16 rfl (lv_at hl 0 rfl) ?_
  refine lv_ishr hx hb dX12_four_17 ?_
  refine lv_topi (fun x_8 ex_8 => ?_)
  refine lv_i2b hx hb dX12_four_18 rfl ?_
  refine lv_topi (fun x_9 ex_9 => ?_)
  refine t_sb hx hb hK hLA hB hS mb_1 tb_1 ai_61 (i_in (by decide) (by decide)) (i_lo _) (i_hi _) (Or.inr (by decide)) dX12_four_19 (fun H locs σ_10 eσ_10 hB hS => ?_)
  refine lv_aload_n hx hb dX12_four_20 rfl (lv_at hl 1 rfl) ?_
  refine lv_dup hx hb dX12_four_21 rfl ?_
  have k_11 : σ_10 h0 1 = 1 := by rw [eσ_10, up2_nea _ _ (tg_ne th0 tb_1 (by decide))]; exact k_7
  refine t_gv hx hb hts hown hK hB mh0 th0 fi_12_1 k_11 mw_5_217 dX12_four_22 ?_
  refine lv_iconst (v := 1) hx hb dX12_four_25 (by decide) ?_
  refine lv_iadd hx hb dX12_four_26 ?_
  refine tp_i (w := 2) (by decide) ?_
  refine t_pi hx hb hts hown hK hLA hB hS mh0 th0 fi_12_1 rfl rfl rfl (i_lo _) (i_hi _) (Or.inl (by decide)) mw_5_217 dX12_four_27 (fun H locs σ_12 eσ_12 hB hS => ?_)
  have k_13 : σ_12 h0 1 = 2 := by rw [eσ_12]; exact up2_same _ _ _ _
  refine lv_iinc (v := 8) (lv' := [(2, .int 8), (0, .ref h0), (1, .int p1)]) hx hb dX12_four_30 hl (k := 0) rfl (by decide) (by decide) rfl (fun ls hl => ?_)
  refine lv_goto (tgt := 3) hx hb dX12_four_33 (by decide) ?_
  refine lv_iload_n hx hb dX12_four_3 rfl (lv_at hl 0 rfl) ?_
  refine lv_if_lt (tgt := 36) hx hb dX12_four_4 (by decide) (fun c9 => absurd c9 (by decide)) (fun _ => ?_)
  refine lv_aload_n hx hb dX12_four_7 rfl (lv_at hl 1 rfl) ?_
  refine t_gk hx hb hts hown hK hB mh0 th0 fq_12_0 hb_1 mw_5_216 dX12_four_8 ?_
  refine lv_aload_n hx hb dX12_four_11 rfl (lv_at hl 1 rfl) ?_
  refine t_gv hx hb hts hown hK hB mh0 th0 fi_12_1 k_13 mw_5_217 dX12_four_12 ?_
  refine lv_iload_n hx hb dX12_four_15 rfl (lv_at hl 2 rfl) ?_
  refine lv_iload_n hx hb dX12_four_16 rfl (lv_at hl 0 rfl) ?_
  refine lv_ishr hx hb dX12_four_17 ?_
  refine lv_topi (fun x_14 ex_14 => ?_)
  refine lv_i2b hx hb dX12_four_18 rfl ?_
  refine lv_topi (fun x_15 ex_15 => ?_)
  refine t_sb hx hb hK hLA hB hS mb_1 tb_1 ai_61 (i_in (by decide) (by decide)) (i_lo _) (i_hi _) (Or.inr (by decide)) dX12_four_19 (fun H locs σ_16 eσ_16 hB hS => ?_)
  refine lv_aload_n hx hb dX12_four_20 rfl (lv_at hl 1 rfl) ?_
  refine lv_dup hx hb dX12_four_21 rfl ?_
  have k_17 : σ_16 h0 1 = 2 := by rw [eσ_16, up2_nej _ _ (by decide)]; exact k_13
  refine t_gv hx hb hts hown hK hB mh0 th0 fi_12_1 k_17 mw_5_217 dX12_four_22 ?_
  refine lv_iconst (v := 1) hx hb dX12_four_25 (by decide) ?_
  refine lv_iadd hx hb dX12_four_26 ?_
  refine tp_i (w := 3) (by decide) ?_
  refine t_pi hx hb hts hown hK hLA hB hS mh0 th0 fi_12_1 rfl rfl rfl (i_lo _) (i_hi _) (Or.inl (by decide)) mw_5_217 dX12_four_27 (fun H locs σ_18 eσ_18 hB hS => ?_)
  have k_19 : σ_18 h0 1 = 3 := by rw [eσ_18]; exact up2_same _ _ _ _
  refine lv_iinc (v := 0) (lv' := [(2, .int 0), (0, .ref h0), (1, .int p1)]) hx hb dX12_four_30 hl (k := 0) rfl (by decide) (by decide) rfl (fun ls hl => ?_)
  refine lv_goto (tgt := 3) hx hb dX12_four_33 (by decide) ?_
  refine lv_iload_n hx hb dX12_four_3 rfl (lv_at hl 0 rfl) ?_
  refine lv_if_lt (tgt := 36) hx hb dX12_four_4 (by decide) (fun c9 => absurd c9 (by decide)) (fun _ => ?_)
  refine lv_aload_n hx hb dX12_four_7 rfl (lv_at hl 1 rfl) ?_
  refine t_gk hx hb hts hown hK hB mh0 th0 fq_12_0 hb_1 mw_5_216 dX12_four_8 ?_
  refine lv_aload_n hx hb dX12_four_11 rfl (lv_at hl 1 rfl) ?_
  refine t_gv hx hb hts hown hK hB mh0 th0 fi_12_1 k_19 mw_5_217 dX12_four_12 ?_
  refine lv_iload_n hx hb dX12_four_15 rfl (lv_at hl 2 rfl) ?_
  refine lv_iload_n hx hb dX12_four_16 rfl (lv_at hl 0 rfl) ?_
  refine lv_ishr hx hb dX12_four_17 ?_
  refine lv_topi (fun x_20 ex_20 => ?_)
  refine lv_i2b hx hb dX12_four_18 rfl ?_
  refine lv_topi (fun x_21 ex_21 => ?_)
  refine t_sb hx hb hK hLA hB hS mb_1 tb_1 ai_61 (i_in (by decide) (by decide)) (i_lo _) (i_hi _) (Or.inr (by decide)) dX12_four_19 (fun H locs σ_22 eσ_22 hB hS => ?_)
  refine lv_aload_n hx hb dX12_four_20 rfl (lv_at hl 1 rfl) ?_
  refine lv_dup hx hb dX12_four_21 rfl ?_
  have k_23 : σ_22 h0 1 = 3 := by rw [eσ_22, up2_nej _ _ (by decide)]; exact k_19
  refine t_gv hx hb hts hown hK hB mh0 th0 fi_12_1 k_23 mw_5_217 dX12_four_22 ?_
  refine lv_iconst (v := 1) hx hb dX12_four_25 (by decide) ?_
  refine lv_iadd hx hb dX12_four_26 ?_
  refine tp_i (w := 4) (by decide) ?_
  refine t_pi hx hb hts hown hK hLA hB hS mh0 th0 fi_12_1 rfl rfl rfl (i_lo _) (i_hi _) (Or.inl (by decide)) mw_5_217 dX12_four_27 (fun H locs σ_24 eσ_24 hB hS => ?_)
  have k_25 : σ_24 h0 1 = 4 := by rw [eσ_24]; exact up2_same _ _ _ _
  refine lv_iinc (v := (-8)) (lv' := [(2, .int (-8)), (0, .ref h0), (1, .int p1)]) hx hb dX12_four_30 hl (k := 0) rfl (by decide) (by decide) rfl (fun ls hl => ?_)
  refine lv_goto (tgt := 3) hx hb dX12_four_33 (by decide) ?_
  refine lv_iload_n hx hb dX12_four_3 rfl (lv_at hl 0 rfl) ?_
  refine lv_if_lt (tgt := 36) hx hb dX12_four_4 (by decide) (fun _ => ?_) (fun c9 => absurd (by decide) c9)
  exact W.vret hx hb hr (fun t ht hW => ⟨⟨(σ_24, ρ), rfl, ⟨hB.2.1, hB.2.2, k_25⟩, (show TP D cA L T r σ_24 ρ t.heap from by rw [ht]; exact hB.1)⟩, hS.F ht⟩) hS.2.2 dX12_four_36
set_option maxHeartbeats 4000000 in
set_option maxRecDepth 100000 in
theorem cz_X12_four_4 (l : Launch) (D : va_G) (cA : Nat → ClassId) (L : List Nat) (T : Nat → Nat) (r : Rg) (hG : GR L T r) (hL : L.Nodup) (σ : Sg) (ρ : Lg) (hW : WT L rz T σ) (sz : Nat) (h0 : Nat) (mh0 : h0 ∈ L) (th0 : T h0 = 12) (p1 : Int32) (k0 : σ h0 1 = 4) : Met l yX12_four (.code yX12_four cX12_four 3 none :: wsA) ({ frames := 0, cells := 0, slots := 0, locals := 0 }) (PR D cA L T r σ ρ sz [.ref h0, .int p1]) (QV D cA L T r rz [(12, 1), (61, 1000)] σ sz (fun σ1 => σ1 h0 1 = 8)) 0 0 (dm L sz) := by
  refine Met.ofW (cc := cX12_four) (maxL := 3) (ret := none) (by decide) rfl ?_
  intro p e s m args below meth c s₁ B hml hv
  obtain ⟨rfl, hsz, hP, hK, hN⟩ := hv
  have hx := B.exec
  have hb := B.bytes
  have hr := B.returns
  have hts : ∀ w ∈ wsA, w.before _ s = true := fun w h => atoms_spec (ws := .code yX12_four cX12_four 3 none :: wsA) B.pre w (List.mem_cons_of_mem _ h)
  have hown : s.vm.findClass RX12 = some m.cls := findClass_of_methodNamed B.named
  subst hsz
  have hLA : LA (dm L s.heap.size) L := ⟨hL, fun a h => Or.inl h⟩
  have hA : ∀ q : Nat, s.heap.size ≤ q → dm L s.heap.size q := fun q h => Or.inr h
  have hS : va_S (dm L s.heap.size) s.heap s.heap [] := va_S.rf
  have hB : TS D cA L T r rz [(12, 1), (61, 1000)] σ σ ρ s.heap := ⟨hP, hW, FR.rf⟩
  have hl := lv_entry ([.ref h0, .int p1]) (n := 3) (Nat.le_of_ble_eq_true rfl)
  rw [lg_entry_eq]
  generalize (lg_sl ([.ref h0, .int p1]) ++ List.replicate (3 - (lg_sl ([.ref h0, .int p1])).length) Slot.unset).toArray = ls at hl ⊢
  have hl : lv_has ls 3 [(0, .ref h0), (1, .int p1)] := hl
  refine lv_bipush (v := 24) hx hb dX12_four_0 (by decide) ?_
  refine lv_istore_n (lv' := [(2, .int 24), (0, .ref h0), (1, .int p1)]) hx hb dX12_four_2 rfl hl (by decide) rfl (fun ls hl => ?_)
  refine lv_iload_n hx hb dX12_four_3 rfl (lv_at hl 0 rfl) ?_
  refine lv_if_lt (tgt := 36) hx hb dX12_four_4 (by decide) (fun c9 => absurd c9 (by decide)) (fun _ => ?_)
  refine lv_aload_n hx hb dX12_four_7 rfl (lv_at hl 1 rfl) ?_
  refine t_gr hx hb hts hown hK hG hB mh0 th0 fq_12_0 rfl mw_5_216 dX12_four_8 (fun b_1 hb_1 mb_1 tb_1 => ?_)
  refine lv_aload_n hx hb dX12_four_11 rfl (lv_at hl 1 rfl) ?_
  refine t_gv hx hb hts hown hK hB mh0 th0 fi_12_1 k0 mw_5_217 dX12_four_12 ?_
  refine lv_iload_n hx hb dX12_four_15 rfl (lv_at hl 2 rfl) ?_
  refine lv_iload_n hx hb dX12_four_16 rfl (lv_at hl 0 rfl) ?_
  refine lv_ishr hx hb dX12_four_17 ?_
  refine lv_topi (fun x_2 ex_2 => ?_)
  refine lv_i2b hx hb dX12_four_18 rfl ?_
  refine lv_topi (fun x_3 ex_3 => ?_)
  refine t_sb hx hb hK hLA hB hS mb_1 tb_1 ai_61 (i_in (by decide) (by decide)) (i_lo _) (i_hi _) (Or.inr (by decide)) dX12_four_19 (fun H locs σ_4 eσ_4 hB hS => ?_)
  refine lv_aload_n hx hb dX12_four_20 rfl (lv_at hl 1 rfl) ?_
  refine lv_dup hx hb dX12_four_21 rfl ?_
  have k_5 : σ_4 h0 1 = 4 := by rw [eσ_4, up2_nej _ _ (by decide)]; exact k0
  refine t_gv hx hb hts hown hK hB mh0 th0 fi_12_1 k_5 mw_5_217 dX12_four_22 ?_
  refine lv_iconst (v := 1) hx hb dX12_four_25 (by decide) ?_
  refine lv_iadd hx hb dX12_four_26 ?_
  refine tp_i (w := 5) (by decide) ?_
  refine t_pi hx hb hts hown hK hLA hB hS mh0 th0 fi_12_1 rfl rfl rfl (i_lo _) (i_hi _) (Or.inl (by decide)) mw_5_217 dX12_four_27 (fun H locs σ_6 eσ_6 hB hS => ?_)
  have k_7 : σ_6 h0 1 = 5 := by rw [eσ_6]; exact up2_same _ _ _ _
  refine lv_iinc (v := 16) (lv' := [(2, .int 16), (0, .ref h0), (1, .int p1)]) hx hb dX12_four_30 hl (k := 0) rfl (by decide) (by decide) rfl (fun ls hl => ?_)
  refine lv_goto (tgt := 3) hx hb dX12_four_33 (by decide) ?_
  refine lv_iload_n hx hb dX12_four_3 rfl (lv_at hl 0 rfl) ?_
  refine lv_if_lt (tgt := 36) hx hb dX12_four_4 (by decide) (fun c9 => absurd c9 (by decide)) (fun _ => ?_)
  refine lv_aload_n hx hb dX12_four_7 rfl (lv_at hl 1 rfl) ?_
  refine t_gk hx hb hts hown hK hB mh0 th0 fq_12_0 hb_1 mw_5_216 dX12_four_8 ?_
  refine lv_aload_n hx hb dX12_four_11 rfl (lv_at hl 1 rfl) ?_
  refine t_gv hx hb hts hown hK hB mh0 th0 fi_12_1 k_7 mw_5_217 dX12_four_12 ?_
  refine lv_iload_n hx hb dX12_four_15 rfl (lv_at hl 2 rfl) ?_
  refine lv_iload_n hx hb dX12_four_16 rfl (lv_at hl 0 rfl) ?_
  refine lv_ishr hx hb dX12_four_17 ?_
  refine lv_topi (fun x_8 ex_8 => ?_)
  refine lv_i2b hx hb dX12_four_18 rfl ?_
  refine lv_topi (fun x_9 ex_9 => ?_)
  refine t_sb hx hb hK hLA hB hS mb_1 tb_1 ai_61 (i_in (by decide) (by decide)) (i_lo _) (i_hi _) (Or.inr (by decide)) dX12_four_19 (fun H locs σ_10 eσ_10 hB hS => ?_)
  refine lv_aload_n hx hb dX12_four_20 rfl (lv_at hl 1 rfl) ?_
  refine lv_dup hx hb dX12_four_21 rfl ?_
  have k_11 : σ_10 h0 1 = 5 := by rw [eσ_10, up2_nej _ _ (by decide)]; exact k_7
  refine t_gv hx hb hts hown hK hB mh0 th0 fi_12_1 k_11 mw_5_217 dX12_four_22 ?_
  refine lv_iconst (v := 1) hx hb dX12_four_25 (by decide) ?_
  refine lv_iadd hx hb dX12_four_26 ?_
  refine tp_i (w := 6) (by decide) ?_
  refine t_pi hx hb hts hown hK hLA hB hS mh0 th0 fi_12_1 rfl rfl rfl (i_lo _) (i_hi _) (Or.inl (by decide)) mw_5_217 dX12_four_27 (fun H locs σ_12 eσ_12 hB hS => ?_)
  have k_13 : σ_12 h0 1 = 6 := by rw [eσ_12]; exact up2_same _ _ _ _
  refine lv_iinc (v := 8) (lv' := [(2, .int 8), (0, .ref h0), (1, .int p1)]) hx hb dX12_four_30 hl (k := 0) rfl (by decide) (by decide) rfl (fun ls hl => ?_)
  refine lv_goto (tgt := 3) hx hb dX12_four_33 (by decide) ?_
  refine lv_iload_n hx hb dX12_four_3 rfl (lv_at hl 0 rfl) ?_
  refine lv_if_lt (tgt := 36) hx hb dX12_four_4 (by decide) (fun c9 => absurd c9 (by decide)) (fun _ => ?_)
  refine lv_aload_n hx hb dX12_four_7 rfl (lv_at hl 1 rfl) ?_
  refine t_gk hx hb hts hown hK hB mh0 th0 fq_12_0 hb_1 mw_5_216 dX12_four_8 ?_
  refine lv_aload_n hx hb dX12_four_11 rfl (lv_at hl 1 rfl) ?_
  refine t_gv hx hb hts hown hK hB mh0 th0 fi_12_1 k_13 mw_5_217 dX12_four_12 ?_
  refine lv_iload_n hx hb dX12_four_15 rfl (lv_at hl 2 rfl) ?_
  refine lv_iload_n hx hb dX12_four_16 rfl (lv_at hl 0 rfl) ?_
  refine lv_ishr hx hb dX12_four_17 ?_
  refine lv_topi (fun x_14 ex_14 => ?_)
  refine lv_i2b hx hb dX12_four_18 rfl ?_
  refine lv_topi (fun x_15 ex_15 => ?_)
  refine t_sb hx hb hK hLA hB hS mb_1 tb_1 ai_61 (i_in (by decide) (by decide)) (i_lo _) (i_hi _) (Or.inr (by decide)) dX12_four_19 (fun H locs σ_16 eσ_16 hB hS => ?_)
  refine lv_aload_n hx hb dX12_four_20 rfl (lv_at hl 1 rfl) ?_
  refine lv_dup hx hb dX12_four_21 rfl ?_
  have k_17 : σ_16 h0 1 = 6 := by rw [eσ_16, up2_nej _ _ (by decide)]; exact k_13
  refine t_gv hx hb hts hown hK hB mh0 th0 fi_12_1 k_17 mw_5_217 dX12_four_22 ?_
  refine lv_iconst (v := 1) hx hb dX12_four_25 (by decide) ?_
  refine lv_iadd hx hb dX12_four_26 ?_
  refine tp_i (w := 7) (by decide) ?_
  refine t_pi hx hb hts hown hK hLA hB hS mh0 th0 fi_12_1 rfl rfl rfl (i_lo _) (i_hi _) (Or.inl (by decide)) mw_5_217 dX12_four_27 (fun H locs σ_18 eσ_18 hB hS => ?_)
  have k_19 : σ_18 h0 1 = 7 := by rw [eσ_18]; exact up2_same _ _ _ _
  refine lv_iinc (v := 0) (lv' := [(2, .int 0), (0, .ref h0), (1, .int p1)]) hx hb dX12_four_30 hl (k := 0) rfl (by decide) (by decide) rfl (fun ls hl => ?_)
  refine lv_goto (tgt := 3) hx hb dX12_four_33 (by decide) ?_
  refine lv_iload_n hx hb dX12_four_3 rfl (lv_at hl 0 rfl) ?_
  refine lv_if_lt (tgt := 36) hx hb dX12_four_4 (by decide) (fun c9 => absurd c9 (by decide)) (fun _ => ?_)
  refine lv_aload_n hx hb dX12_four_7 rfl (lv_at hl 1 rfl) ?_
  refine t_gk hx hb hts hown hK hB mh0 th0 fq_12_0 hb_1 mw_5_216 dX12_four_8 ?_
  refine lv_aload_n hx hb dX12_four_11 rfl (lv_at hl 1 rfl) ?_
  refine t_gv hx hb hts hown hK hB mh0 th0 fi_12_1 k_19 mw_5_217 dX12_four_12 ?_
  refine lv_iload_n hx hb dX12_four_15 rfl (lv_at hl 2 rfl) ?_
  refine lv_iload_n hx hb dX12_four_16 rfl (lv_at hl 0 rfl) ?_
  refine lv_ishr hx hb dX12_four_17 ?_
  refine lv_topi (fun x_20 ex_20 => ?_)
  refine lv_i2b hx hb dX12_four_18 rfl ?_
  refine lv_topi (fun x_21 ex_21 => ?_)
  refine t_sb hx hb hK hLA hB hS mb_1 tb_1 ai_61 (i_in (by decide) (by decide)) (i_lo _) (i_hi _) (Or.inr (by decide)) dX12_four_19 (fun H locs σ_22 eσ_22 hB hS => ?_)
  refine lv_aload_n hx hb dX12_four_20 rfl (lv_at hl 1 rfl) ?_
  refine lv_dup hx hb dX12_four_21 rfl ?_
  have k_23 : σ_22 h0 1 = 7 := by rw [eσ_22, up2_nej _ _ (by decide)]; exact k_19
  refine t_gv hx hb hts hown hK hB mh0 th0 fi_12_1 k_23 mw_5_217 dX12_four_22 ?_
  refine lv_iconst (v := 1) hx hb dX12_four_25 (by decide) ?_
  refine lv_iadd hx hb dX12_four_26 ?_
  refine tp_i (w := 8) (by decide) ?_
  refine t_pi hx hb hts hown hK hLA hB hS mh0 th0 fi_12_1 rfl rfl rfl (i_lo _) (i_hi _) (Or.inl (by decide)) mw_5_217 dX12_four_27 (fun H locs σ_24 eσ_24 hB hS => ?_)
  have k_25 : σ_24 h0 1 = 8 := by rw [eσ_24]; exact up2_same _ _ _ _
  refine lv_iinc (v := (-8)) (lv' := [(2, .int (-8)), (0, .ref h0), (1, .int p1)]) hx hb dX12_four_30 hl (k := 0) rfl (by decide) (by decide) rfl (fun ls hl => ?_)
  refine lv_goto (tgt := 3) hx hb dX12_four_33 (by decide) ?_
  refine lv_iload_n hx hb dX12_four_3 rfl (lv_at hl 0 rfl) ?_
  refine lv_if_lt (tgt := 36) hx hb dX12_four_4 (by decide) (fun _ => ?_) (fun c9 => absurd (by decide) c9)
  exact W.vret hx hb hr (fun t ht hW => ⟨⟨(σ_24, ρ), rfl, ⟨hB.2.1, hB.2.2, k_25⟩, (show TP D cA L T r σ_24 ρ t.heap from by rw [ht]; exact hB.1)⟩, hS.F ht⟩) hS.2.2 dX12_four_36
set_option maxHeartbeats 4000000 in
set_option maxRecDepth 100000 in
theorem cz_X12_four_8 (l : Launch) (D : va_G) (cA : Nat → ClassId) (L : List Nat) (T : Nat → Nat) (r : Rg) (hG : GR L T r) (hL : L.Nodup) (σ : Sg) (ρ : Lg) (hW : WT L rz T σ) (sz : Nat) (h0 : Nat) (mh0 : h0 ∈ L) (th0 : T h0 = 12) (p1 : Int32) (k0 : σ h0 1 = 8) : Met l yX12_four (.code yX12_four cX12_four 3 none :: wsA) ({ frames := 0, cells := 0, slots := 0, locals := 0 }) (PR D cA L T r σ ρ sz [.ref h0, .int p1]) (QV D cA L T r rz [(12, 1), (61, 1000)] σ sz (fun σ1 => σ1 h0 1 = 12)) 0 0 (dm L sz) := by
  refine Met.ofW (cc := cX12_four) (maxL := 3) (ret := none) (by decide) rfl ?_
  intro p e s m args below meth c s₁ B hml hv
  obtain ⟨rfl, hsz, hP, hK, hN⟩ := hv
  have hx := B.exec
  have hb := B.bytes
  have hr := B.returns
  have hts : ∀ w ∈ wsA, w.before _ s = true := fun w h => atoms_spec (ws := .code yX12_four cX12_four 3 none :: wsA) B.pre w (List.mem_cons_of_mem _ h)
  have hown : s.vm.findClass RX12 = some m.cls := findClass_of_methodNamed B.named
  subst hsz
  have hLA : LA (dm L s.heap.size) L := ⟨hL, fun a h => Or.inl h⟩
  have hA : ∀ q : Nat, s.heap.size ≤ q → dm L s.heap.size q := fun q h => Or.inr h
  have hS : va_S (dm L s.heap.size) s.heap s.heap [] := va_S.rf
  have hB : TS D cA L T r rz [(12, 1), (61, 1000)] σ σ ρ s.heap := ⟨hP, hW, FR.rf⟩
  have hl := lv_entry ([.ref h0, .int p1]) (n := 3) (Nat.le_of_ble_eq_true rfl)
  rw [lg_entry_eq]
  generalize (lg_sl ([.ref h0, .int p1]) ++ List.replicate (3 - (lg_sl ([.ref h0, .int p1])).length) Slot.unset).toArray = ls at hl ⊢
  have hl : lv_has ls 3 [(0, .ref h0), (1, .int p1)] := hl
  refine lv_bipush (v := 24) hx hb dX12_four_0 (by decide) ?_
  refine lv_istore_n (lv' := [(2, .int 24), (0, .ref h0), (1, .int p1)]) hx hb dX12_four_2 rfl hl (by decide) rfl (fun ls hl => ?_)
  refine lv_iload_n hx hb dX12_four_3 rfl (lv_at hl 0 rfl) ?_
  refine lv_if_lt (tgt := 36) hx hb dX12_four_4 (by decide) (fun c9 => absurd c9 (by decide)) (fun _ => ?_)
  refine lv_aload_n hx hb dX12_four_7 rfl (lv_at hl 1 rfl) ?_
  refine t_gr hx hb hts hown hK hG hB mh0 th0 fq_12_0 rfl mw_5_216 dX12_four_8 (fun b_1 hb_1 mb_1 tb_1 => ?_)
  refine lv_aload_n hx hb dX12_four_11 rfl (lv_at hl 1 rfl) ?_
  refine t_gv hx hb hts hown hK hB mh0 th0 fi_12_1 k0 mw_5_217 dX12_four_12 ?_
  refine lv_iload_n hx hb dX12_four_15 rfl (lv_at hl 2 rfl) ?_
  refine lv_iload_n hx hb dX12_four_16 rfl (lv_at hl 0 rfl) ?_
  refine lv_ishr hx hb dX12_four_17 ?_
  refine lv_topi (fun x_2 ex_2 => ?_)
  refine lv_i2b hx hb dX12_four_18 rfl ?_
  refine lv_topi (fun x_3 ex_3 => ?_)
  refine t_sb hx hb hK hLA hB hS mb_1 tb_1 ai_61 (i_in (by decide) (by decide)) (i_lo _) (i_hi _) (Or.inr (by decide)) dX12_four_19 (fun H locs σ_4 eσ_4 hB hS => ?_)
  refine lv_aload_n hx hb dX12_four_20 rfl (lv_at hl 1 rfl) ?_
  refine lv_dup hx hb dX12_four_21 rfl ?_
  have k_5 : σ_4 h0 1 = 8 := by rw [eσ_4, up2_nej _ _ (by decide)]; exact k0
  refine t_gv hx hb hts hown hK hB mh0 th0 fi_12_1 k_5 mw_5_217 dX12_four_22 ?_
  refine lv_iconst (v := 1) hx hb dX12_four_25 (by decide) ?_
  refine lv_iadd hx hb dX12_four_26 ?_
  refine tp_i (w := 9) (by decide) ?_
  refine t_pi hx hb hts hown hK hLA hB hS mh0 th0 fi_12_1 rfl rfl rfl (i_lo _) (i_hi _) (Or.inl (by decide)) mw_5_217 dX12_four_27 (fun H locs σ_6 eσ_6 hB hS => ?_)
  have k_7 : σ_6 h0 1 = 9 := by rw [eσ_6]; exact up2_same _ _ _ _
  refine lv_iinc (v := 16) (lv' := [(2, .int 16), (0, .ref h0), (1, .int p1)]) hx hb dX12_four_30 hl (k := 0) rfl (by decide) (by decide) rfl (fun ls hl => ?_)
  refine lv_goto (tgt := 3) hx hb dX12_four_33 (by decide) ?_
  refine lv_iload_n hx hb dX12_four_3 rfl (lv_at hl 0 rfl) ?_
  refine lv_if_lt (tgt := 36) hx hb dX12_four_4 (by decide) (fun c9 => absurd c9 (by decide)) (fun _ => ?_)
  refine lv_aload_n hx hb dX12_four_7 rfl (lv_at hl 1 rfl) ?_
  refine t_gk hx hb hts hown hK hB mh0 th0 fq_12_0 hb_1 mw_5_216 dX12_four_8 ?_
  refine lv_aload_n hx hb dX12_four_11 rfl (lv_at hl 1 rfl) ?_
  refine t_gv hx hb hts hown hK hB mh0 th0 fi_12_1 k_7 mw_5_217 dX12_four_12 ?_
  refine lv_iload_n hx hb dX12_four_15 rfl (lv_at hl 2 rfl) ?_
  refine lv_iload_n hx hb dX12_four_16 rfl (lv_at hl 0 rfl) ?_
  refine lv_ishr hx hb dX12_four_17 ?_
  refine lv_topi (fun x_8 ex_8 => ?_)
  refine lv_i2b hx hb dX12_four_18 rfl ?_
  refine lv_topi (fun x_9 ex_9 => ?_)
  refine t_sb hx hb hK hLA hB hS mb_1 tb_1 ai_61 (i_in (by decide) (by decide)) (i_lo _) (i_hi _) (Or.inr (by decide)) dX12_four_19 (fun H locs σ_10 eσ_10 hB hS => ?_)
  refine lv_aload_n hx hb dX12_four_20 rfl (lv_at hl 1 rfl) ?_
  refine lv_dup hx hb dX12_four_21 rfl ?_
  have k_11 : σ_10 h0 1 = 9 := by rw [eσ_10, up2_nej _ _ (by decide)]; exact k_7
  refine t_gv hx hb hts hown hK hB mh0 th0 fi_12_1 k_11 mw_5_217 dX12_four_22 ?_
  refine lv_iconst (v := 1) hx hb dX12_four_25 (by decide) ?_
  refine lv_iadd hx hb dX12_four_26 ?_
  refine tp_i (w := 10) (by decide) ?_
  refine t_pi hx hb hts hown hK hLA hB hS mh0 th0 fi_12_1 rfl rfl rfl (i_lo _) (i_hi _) (Or.inl (by decide)) mw_5_217 dX12_four_27 (fun H locs σ_12 eσ_12 hB hS => ?_)
  have k_13 : σ_12 h0 1 = 10 := by rw [eσ_12]; exact up2_same _ _ _ _
  refine lv_iinc (v := 8) (lv' := [(2, .int 8), (0, .ref h0), (1, .int p1)]) hx hb dX12_four_30 hl (k := 0) rfl (by decide) (by decide) rfl (fun ls hl => ?_)
  refine lv_goto (tgt := 3) hx hb dX12_four_33 (by decide) ?_
  refine lv_iload_n hx hb dX12_four_3 rfl (lv_at hl 0 rfl) ?_
  refine lv_if_lt (tgt := 36) hx hb dX12_four_4 (by decide) (fun c9 => absurd c9 (by decide)) (fun _ => ?_)
  refine lv_aload_n hx hb dX12_four_7 rfl (lv_at hl 1 rfl) ?_
  refine t_gk hx hb hts hown hK hB mh0 th0 fq_12_0 hb_1 mw_5_216 dX12_four_8 ?_
  refine lv_aload_n hx hb dX12_four_11 rfl (lv_at hl 1 rfl) ?_
  refine t_gv hx hb hts hown hK hB mh0 th0 fi_12_1 k_13 mw_5_217 dX12_four_12 ?_
  refine lv_iload_n hx hb dX12_four_15 rfl (lv_at hl 2 rfl) ?_
  refine lv_iload_n hx hb dX12_four_16 rfl (lv_at hl 0 rfl) ?_
  refine lv_ishr hx hb dX12_four_17 ?_
  refine lv_topi (fun x_14 ex_14 => ?_)
  refine lv_i2b hx hb dX12_four_18 rfl ?_
  refine lv_topi (fun x_15 ex_15 => ?_)
  refine t_sb hx hb hK hLA hB hS mb_1 tb_1 ai_61 (i_in (by decide) (by decide)) (i_lo _) (i_hi _) (Or.inr (by decide)) dX12_four_19 (fun H locs σ_16 eσ_16 hB hS => ?_)
  refine lv_aload_n hx hb dX12_four_20 rfl (lv_at hl 1 rfl) ?_
  refine lv_dup hx hb dX12_four_21 rfl ?_
  have k_17 : σ_16 h0 1 = 10 := by rw [eσ_16, up2_nej _ _ (by decide)]; exact k_13
  refine t_gv hx hb hts hown hK hB mh0 th0 fi_12_1 k_17 mw_5_217 dX12_four_22 ?_
  refine lv_iconst (v := 1) hx hb dX12_four_25 (by decide) ?_
  refine lv_iadd hx hb dX12_four_26 ?_
  refine tp_i (w := 11) (by decide) ?_
  refine t_pi hx hb hts hown hK hLA hB hS mh0 th0 fi_12_1 rfl rfl rfl (i_lo _) (i_hi _) (Or.inl (by decide)) mw_5_217 dX12_four_27 (fun H locs σ_18 eσ_18 hB hS => ?_)
  have k_19 : σ_18 h0 1 = 11 := by rw [eσ_18]; exact up2_same _ _ _ _
  refine lv_iinc (v := 0) (lv' := [(2, .int 0), (0, .ref h0), (1, .int p1)]) hx hb dX12_four_30 hl (k := 0) rfl (by decide) (by decide) rfl (fun ls hl => ?_)
  refine lv_goto (tgt := 3) hx hb dX12_four_33 (by decide) ?_
  refine lv_iload_n hx hb dX12_four_3 rfl (lv_at hl 0 rfl) ?_
  refine lv_if_lt (tgt := 36) hx hb dX12_four_4 (by decide) (fun c9 => absurd c9 (by decide)) (fun _ => ?_)
  refine lv_aload_n hx hb dX12_four_7 rfl (lv_at hl 1 rfl) ?_
  refine t_gk hx hb hts hown hK hB mh0 th0 fq_12_0 hb_1 mw_5_216 dX12_four_8 ?_
  refine lv_aload_n hx hb dX12_four_11 rfl (lv_at hl 1 rfl) ?_
  refine t_gv hx hb hts hown hK hB mh0 th0 fi_12_1 k_19 mw_5_217 dX12_four_12 ?_
  refine lv_iload_n hx hb dX12_four_15 rfl (lv_at hl 2 rfl) ?_
  refine lv_iload_n hx hb dX12_four_16 rfl (lv_at hl 0 rfl) ?_
  refine lv_ishr hx hb dX12_four_17 ?_
  refine lv_topi (fun x_20 ex_20 => ?_)
  refine lv_i2b hx hb dX12_four_18 rfl ?_
  refine lv_topi (fun x_21 ex_21 => ?_)
  refine t_sb hx hb hK hLA hB hS mb_1 tb_1 ai_61 (i_in (by decide) (by decide)) (i_lo _) (i_hi _) (Or.inr (by decide)) dX12_four_19 (fun H locs σ_22 eσ_22 hB hS => ?_)
  refine lv_aload_n hx hb dX12_four_20 rfl (lv_at hl 1 rfl) ?_
  refine lv_dup hx hb dX12_four_21 rfl ?_
  have k_23 : σ_22 h0 1 = 11 := by rw [eσ_22, up2_nej _ _ (by decide)]; exact k_19
  refine t_gv hx hb hts hown hK hB mh0 th0 fi_12_1 k_23 mw_5_217 dX12_four_22 ?_
  refine lv_iconst (v := 1) hx hb dX12_four_25 (by decide) ?_
  refine lv_iadd hx hb dX12_four_26 ?_
  refine tp_i (w := 12) (by decide) ?_
  refine t_pi hx hb hts hown hK hLA hB hS mh0 th0 fi_12_1 rfl rfl rfl (i_lo _) (i_hi _) (Or.inl (by decide)) mw_5_217 dX12_four_27 (fun H locs σ_24 eσ_24 hB hS => ?_)
  have k_25 : σ_24 h0 1 = 12 := by rw [eσ_24]; exact up2_same _ _ _ _
  refine lv_iinc (v := (-8)) (lv' := [(2, .int (-8)), (0, .ref h0), (1, .int p1)]) hx hb dX12_four_30 hl (k := 0) rfl (by decide) (by decide) rfl (fun ls hl => ?_)
  refine lv_goto (tgt := 3) hx hb dX12_four_33 (by decide) ?_
  refine lv_iload_n hx hb dX12_four_3 rfl (lv_at hl 0 rfl) ?_
  refine lv_if_lt (tgt := 36) hx hb dX12_four_4 (by decide) (fun _ => ?_) (fun c9 => absurd (by decide) c9)
  exact W.vret hx hb hr (fun t ht hW => ⟨⟨(σ_24, ρ), rfl, ⟨hB.2.1, hB.2.2, k_25⟩, (show TP D cA L T r σ_24 ρ t.heap from by rw [ht]; exact hB.1)⟩, hS.F ht⟩) hS.2.2 dX12_four_36
set_option maxHeartbeats 4000000 in
set_option maxRecDepth 100000 in
theorem cz_X12_four_12 (l : Launch) (D : va_G) (cA : Nat → ClassId) (L : List Nat) (T : Nat → Nat) (r : Rg) (hG : GR L T r) (hL : L.Nodup) (σ : Sg) (ρ : Lg) (hW : WT L rz T σ) (sz : Nat) (h0 : Nat) (mh0 : h0 ∈ L) (th0 : T h0 = 12) (p1 : Int32) (k0 : σ h0 1 = 12) : Met l yX12_four (.code yX12_four cX12_four 3 none :: wsA) ({ frames := 0, cells := 0, slots := 0, locals := 0 }) (PR D cA L T r σ ρ sz [.ref h0, .int p1]) (QV D cA L T r rz [(12, 1), (61, 1000)] σ sz (fun σ1 => σ1 h0 1 = 16)) 0 0 (dm L sz) := by
  refine Met.ofW (cc := cX12_four) (maxL := 3) (ret := none) (by decide) rfl ?_
  intro p e s m args below meth c s₁ B hml hv
  obtain ⟨rfl, hsz, hP, hK, hN⟩ := hv
  have hx := B.exec
  have hb := B.bytes
  have hr := B.returns
  have hts : ∀ w ∈ wsA, w.before _ s = true := fun w h => atoms_spec (ws := .code yX12_four cX12_four 3 none :: wsA) B.pre w (List.mem_cons_of_mem _ h)
  have hown : s.vm.findClass RX12 = some m.cls := findClass_of_methodNamed B.named
  subst hsz
  have hLA : LA (dm L s.heap.size) L := ⟨hL, fun a h => Or.inl h⟩
  have hA : ∀ q : Nat, s.heap.size ≤ q → dm L s.heap.size q := fun q h => Or.inr h
  have hS : va_S (dm L s.heap.size) s.heap s.heap [] := va_S.rf
  have hB : TS D cA L T r rz [(12, 1), (61, 1000)] σ σ ρ s.heap := ⟨hP, hW, FR.rf⟩
  have hl := lv_entry ([.ref h0, .int p1]) (n := 3) (Nat.le_of_ble_eq_true rfl)
  rw [lg_entry_eq]
  generalize (lg_sl ([.ref h0, .int p1]) ++ List.replicate (3 - (lg_sl ([.ref h0, .int p1])).length) Slot.unset).toArray = ls at hl ⊢
  have hl : lv_has ls 3 [(0, .ref h0), (1, .int p1)] := hl
  refine lv_bipush (v := 24) hx hb dX12_four_0 (by decide) ?_
  refine lv_istore_n (lv' := [(2, .int 24), (0, .ref h0), (1, .int p1)]) hx hb dX12_four_2 rfl hl (by decide) rfl (fun ls hl => ?_)
  refine lv_iload_n hx hb dX12_four_3 rfl (lv_at hl 0 rfl) ?_
  refine lv_if_lt (tgt := 36) hx hb dX12_four_4 (by decide) (fun c9 => absurd c9 (by decide)) (fun _ => ?_)
  refine lv_aload_n hx hb dX12_four_7 rfl (lv_at hl 1 rfl) ?_
  refine t_gr hx hb hts hown hK hG hB mh0 th0 fq_12_0 rfl mw_5_216 dX12_four_8 (fun b_1 hb_1 mb_1 tb_1 => ?_)
  refine lv_aload_n hx hb dX12_four_11 rfl (lv_at hl 1 rfl) ?_
  refine t_gv hx hb hts hown hK hB mh0 th0 fi_12_1 k0 mw_5_217 dX12_four_12 ?_
  refine lv_iload_n hx hb dX12_four_15 rfl (lv_at hl 2 rfl) ?_
  refine lv_iload_n hx hb dX12_four_16 rfl (lv_at hl 0 rfl) ?_
  refine lv_ishr hx hb dX12_four_17 ?_
  refine lv_topi (fun x_2 ex_2 => ?_)
  refine lv_i2b hx hb dX12_four_18 rfl ?_
  refine lv_topi (fun x_3 ex_3 => ?_)
  refine t_sb hx hb hK hLA hB hS mb_1 tb_1 ai_61 (i_in (by decide) (by decide)) (i_lo _) (i_hi _) (Or.inr (by decide)) dX12_four_19 (fun H locs σ_4 eσ_4 hB hS => ?_)
  refine lv_aload_n hx hb dX12_four_20 rfl (lv_at hl 1 rfl) ?_
  refine lv_dup hx hb dX12_four_21 rfl ?_
  have k_5 : σ_4 h0 1 = 12 := by rw [eσ_4, up2_nej _ _ (by decide)]; exact k0
  refine t_gv hx hb hts hown hK hB mh0 th0 fi_12_1 k_5 mw_5_217 dX12_four_22 ?_
  refine lv_iconst (v := 1) hx hb dX12_four_25 (by decide) ?_
  refine lv_iadd hx hb dX12_four_26 ?_
  refine tp_i (w := 13) (by decide) ?_
  refine t_pi hx hb hts hown hK hLA hB hS mh0 th0 fi_12_1 rfl rfl rfl (i_lo _) (i_hi _) (Or.inl (by decide)) mw_5_217 dX12_four_27 (fun H locs σ_6 eσ_6 hB hS => ?_)
  have k_7 : σ_6 h0 1 = 13 := by rw [eσ_6]; exact up2_same _ _ _ _
  refine lv_iinc (v := 16) (lv' := [(2, .int 16), (0, .ref h0), (1, .int p1)]) hx hb dX12_four_30 hl (k := 0) rfl (by decide) (by decide) rfl (fun ls hl => ?_)
  refine lv_goto (tgt := 3) hx hb dX12_four_33 (by decide) ?_
  refine lv_iload_n hx hb dX12_four_3 rfl (lv_at hl 0 rfl) ?_
  refine lv_if_lt (tgt := 36) hx hb dX12_four_4 (by decide) (fun c9 => absurd c9 (by decide)) (fun _ => ?_)
  refine lv_aload_n hx hb dX12_four_7 rfl (lv_at hl 1 rfl) ?_
  refine t_gk hx hb hts hown hK hB mh0 th0 fq_12_0 hb_1 mw_5_216 dX12_four_8 ?_
  refine lv_aload_n hx hb dX12_four_11 rfl (lv_at hl 1 rfl) ?_
  refine t_gv hx hb hts hown hK hB mh0 th0 fi_12_1 k_7 mw_5_217 dX12_four_12 ?_
  refine lv_iload_n hx hb dX12_four_15 rfl (lv_at hl 2 rfl) ?_
  refine lv_iload_n hx hb dX12_four_16 rfl (lv_at hl 0 rfl) ?_
  refine lv_ishr hx hb dX12_four_17 ?_
  refine lv_topi (fun x_8 ex_8 => ?_)
  refine lv_i2b hx hb dX12_four_18 rfl ?_
  refine lv_topi (fun x_9 ex_9 => ?_)
  refine t_sb hx hb hK hLA hB hS mb_1 tb_1 ai_61 (i_in (by decide) (by decide)) (i_lo _) (i_hi _) (Or.inr (by decide)) dX12_four_19 (fun H locs σ_10 eσ_10 hB hS => ?_)
  refine lv_aload_n hx hb dX12_four_20 rfl (lv_at hl 1 rfl) ?_
  refine lv_dup hx hb dX12_four_21 rfl ?_
  have k_11 : σ_10 h0 1 = 13 := by rw [eσ_10, up2_nej _ _ (by decide)]; exact k_7
  refine t_gv hx hb hts hown hK hB mh0 th0 fi_12_1 k_11 mw_5_217 dX12_four_22 ?_
  refine lv_iconst (v := 1) hx hb dX12_four_25 (by decide) ?_
  refine lv_iadd hx hb dX12_four_26 ?_
  refine tp_i (w := 14) (by decide) ?_
  refine t_pi hx hb hts hown hK hLA hB hS mh0 th0 fi_12_1 rfl rfl rfl (i_lo _) (i_hi _) (Or.inl (by decide)) mw_5_217 dX12_four_27 (fun H locs σ_12 eσ_12 hB hS => ?_)
  have k_13 : σ_12 h0 1 = 14 := by rw [eσ_12]; exact up2_same _ _ _ _
  refine lv_iinc (v := 8) (lv' := [(2, .int 8), (0, .ref h0), (1, .int p1)]) hx hb dX12_four_30 hl (k := 0) rfl (by decide) (by decide) rfl (fun ls hl => ?_)
  refine lv_goto (tgt := 3) hx hb dX12_four_33 (by decide) ?_
  refine lv_iload_n hx hb dX12_four_3 rfl (lv_at hl 0 rfl) ?_
  refine lv_if_lt (tgt := 36) hx hb dX12_four_4 (by decide) (fun c9 => absurd c9 (by decide)) (fun _ => ?_)
  refine lv_aload_n hx hb dX12_four_7 rfl (lv_at hl 1 rfl) ?_
  refine t_gk hx hb hts hown hK hB mh0 th0 fq_12_0 hb_1 mw_5_216 dX12_four_8 ?_
  refine lv_aload_n hx hb dX12_four_11 rfl (lv_at hl 1 rfl) ?_
  refine t_gv hx hb hts hown hK hB mh0 th0 fi_12_1 k_13 mw_5_217 dX12_four_12 ?_
  refine lv_iload_n hx hb dX12_four_15 rfl (lv_at hl 2 rfl) ?_
  refine lv_iload_n hx hb dX12_four_16 rfl (lv_at hl 0 rfl) ?_
  refine lv_ishr hx hb dX12_four_17 ?_
  refine lv_topi (fun x_14 ex_14 => ?_)
  refine lv_i2b hx hb dX12_four_18 rfl ?_
  refine lv_topi (fun x_15 ex_15 => ?_)
  refine t_sb hx hb hK hLA hB hS mb_1 tb_1 ai_61 (i_in (by decide) (by decide)) (i_lo _) (i_hi _) (Or.inr (by decide)) dX12_four_19 (fun H locs σ_16 eσ_16 hB hS => ?_)
  refine lv_aload_n hx hb dX12_four_20 rfl (lv_at hl 1 rfl) ?_
  refine lv_dup hx hb dX12_four_21 rfl ?_
  have k_17 : σ_16 h0 1 = 14 := by rw [eσ_16, up2_nej _ _ (by decide)]; exact k_13
  refine t_gv hx hb hts hown hK hB mh0 th0 fi_12_1 k_17 mw_5_217 dX12_four_22 ?_
  refine lv_iconst (v := 1) hx hb dX12_four_25 (by decide) ?_
  refine lv_iadd hx hb dX12_four_26 ?_
  refine tp_i (w := 15) (by decide) ?_
  refine t_pi hx hb hts hown hK hLA hB hS mh0 th0 fi_12_1 rfl rfl rfl (i_lo _) (i_hi _) (Or.inl (by decide)) mw_5_217 dX12_four_27 (fun H locs σ_18 eσ_18 hB hS => ?_)
  have k_19 : σ_18 h0 1 = 15 := by rw [eσ_18]; exact up2_same _ _ _ _
  refine lv_iinc (v := 0) (lv' := [(2, .int 0), (0, .ref h0), (1, .int p1)]) hx hb dX12_four_30 hl (k := 0) rfl (by decide) (by decide) rfl (fun ls hl => ?_)
  refine lv_goto (tgt := 3) hx hb dX12_four_33 (by decide) ?_
  refine lv_iload_n hx hb dX12_four_3 rfl (lv_at hl 0 rfl) ?_
  refine lv_if_lt (tgt := 36) hx hb dX12_four_4 (by decide) (fun c9 => absurd c9 (by decide)) (fun _ => ?_)
  refine lv_aload_n hx hb dX12_four_7 rfl (lv_at hl 1 rfl) ?_
  refine t_gk hx hb hts hown hK hB mh0 th0 fq_12_0 hb_1 mw_5_216 dX12_four_8 ?_
  refine lv_aload_n hx hb dX12_four_11 rfl (lv_at hl 1 rfl) ?_
  refine t_gv hx hb hts hown hK hB mh0 th0 fi_12_1 k_19 mw_5_217 dX12_four_12 ?_
  refine lv_iload_n hx hb dX12_four_15 rfl (lv_at hl 2 rfl) ?_
  refine lv_iload_n hx hb dX12_four_16 rfl (lv_at hl 0 rfl) ?_
  refine lv_ishr hx hb dX12_four_17 ?_
  refine lv_topi (fun x_20 ex_20 => ?_)
  refine lv_i2b hx hb dX12_four_18 rfl ?_
  refine lv_topi (fun x_21 ex_21 => ?_)
  refine t_sb hx hb hK hLA hB hS mb_1 tb_1 ai_61 (i_in (by decide) (by decide)) (i_lo _) (i_hi _) (Or.inr (by decide)) dX12_four_19 (fun H locs σ_22 eσ_22 hB hS => ?_)
  refine lv_aload_n hx hb dX12_four_20 rfl (lv_at hl 1 rfl) ?_
  refine lv_dup hx hb dX12_four_21 rfl ?_
  have k_23 : σ_22 h0 1 = 15 := by rw [eσ_22, up2_nej _ _ (by decide)]; exact k_19
  refine t_gv hx hb hts hown hK hB mh0 th0 fi_12_1 k_23 mw_5_217 dX12_four_22 ?_
  refine lv_iconst (v := 1) hx hb dX12_four_25 (by decide) ?_
  refine lv_iadd hx hb dX12_four_26 ?_
  refine tp_i (w := 16) (by decide) ?_
  refine t_pi hx hb hts hown hK hLA hB hS mh0 th0 fi_12_1 rfl rfl rfl (i_lo _) (i_hi _) (Or.inl (by decide)) mw_5_217 dX12_four_27 (fun H locs σ_24 eσ_24 hB hS => ?_)
  have k_25 : σ_24 h0 1 = 16 := by rw [eσ_24]; exact up2_same _ _ _ _
  refine lv_iinc (v := (-8)) (lv' := [(2, .int (-8)), (0, .ref h0), (1, .int p1)]) hx hb dX12_four_30 hl (k := 0) rfl (by decide) (by decide) rfl (fun ls hl => ?_)
  refine lv_goto (tgt := 3) hx hb dX12_four_33 (by decide) ?_
  refine lv_iload_n hx hb dX12_four_3 rfl (lv_at hl 0 rfl) ?_
  refine lv_if_lt (tgt := 36) hx hb dX12_four_4 (by decide) (fun _ => ?_) (fun c9 => absurd (by decide) c9)
  exact W.vret hx hb hr (fun t ht hW => ⟨⟨(σ_24, ρ), rfl, ⟨hB.2.1, hB.2.2, k_25⟩, (show TP D cA L T r σ_24 ρ t.heap from by rw [ht]; exact hB.1)⟩, hS.F ht⟩) hS.2.2 dX12_four_36
set_option maxHeartbeats 4000000 in
set_option maxRecDepth 100000 in
theorem cz_X12_four_16 (l : Launch) (D : va_G) (cA : Nat → ClassId) (L : List Nat) (T : Nat → Nat) (r : Rg) (hG : GR L T r) (hL : L.Nodup) (σ : Sg) (ρ : Lg) (hW : WT L rz T σ) (sz : Nat) (h0 : Nat) (mh0 : h0 ∈ L) (th0 : T h0 = 12) (p1 : Int32) (k0 : σ h0 1 = 16) : Met l yX12_four (.code yX12_four cX12_four 3 none :: wsA) ({ frames := 0, cells := 0, slots := 0, locals := 0 }) (PR D cA L T r σ ρ sz [.ref h0, .int p1]) (QV D cA L T r rz [(12, 1), (61, 1000)] σ sz (fun σ1 => σ1 h0 1 = 20)) 0 0 (dm L sz) := by
  refine Met.ofW (cc := cX12_four) (maxL := 3) (ret := none) (by decide) rfl ?_
  intro p e s m args below meth c s₁ B hml hv
  obtain ⟨rfl, hsz, hP, hK, hN⟩ := hv
  have hx := B.exec
  have hb := B.bytes
  have hr := B.returns
  have hts : ∀ w ∈ wsA, w.before _ s = true := fun w h => atoms_spec (ws := .code yX12_four cX12_four 3 none :: wsA) B.pre w (List.mem_cons_of_mem _ h)
  have hown : s.vm.findClass RX12 = some m.cls := findClass_of_methodNamed B.named
  subst hsz
  have hLA : LA (dm L s.heap.size) L := ⟨hL, fun a h => Or.inl h⟩
  have hA : ∀ q : Nat, s.heap.size ≤ q → dm L s.heap.size q := fun q h => Or.inr h
  have hS : va_S (dm L s.heap.size) s.heap s.heap [] := va_S.rf
  have hB : TS D cA L T r rz [(12, 1), (61, 1000)] σ σ ρ s.heap := ⟨hP, hW, FR.rf⟩
  have hl := lv_entry ([.ref h0, .int p1]) (n := 3) (Nat.le_of_ble_eq_true rfl)
  rw [lg_entry_eq]
  generalize (lg_sl ([.ref h0, .int p1]) ++ List.replicate (3 - (lg_sl ([.ref h0, .int p1])).length) Slot.unset).toArray = ls at hl ⊢
  have hl : lv_has ls 3 [(0, .ref h0), (1, .int p1)] := hl
  refine lv_bipush (v := 24) hx hb dX12_four_0 (by decide) ?_
  refine lv_istore_n (lv' := [(2, .int 24), (0, .ref h0), (1, .int p1)]) hx hb dX12_four_2 rfl hl (by decide) rfl (fun ls hl => ?_)
  refine lv_iload_n hx hb dX12_four_3 rfl (lv_at hl 0 rfl) ?_
  refine lv_if_lt (tgt := 36) hx hb dX12_four_4 (by decide) (fun c9 => absurd c9 (by decide)) (fun _ => ?_)
  refine lv_aload_n hx hb dX12_four_7 rfl (lv_at hl 1 rfl) ?_
  refine t_gr hx hb hts hown hK hG hB mh0 th0 fq_12_0 rfl mw_5_216 dX12_four_8 (fun b_1 hb_1 mb_1 tb_1 => ?_)
  refine lv_aload_n hx hb dX12_four_11 rfl (lv_at hl 1 rfl) ?_
  refine t_gv hx hb hts hown hK hB mh0 th0 fi_12_1 k0 mw_5_217 dX12_four_12 ?_
  refine lv_iload_n hx hb dX12_four_15 rfl (lv_at hl 2 rfl) ?_
  refine lv_iload_n hx hb dX12_four_16 rfl (lv_at hl 0 rfl) ?_
  refine lv_ishr hx hb dX12_four_17 ?_
  refine lv_topi (fun x_2 ex_2 => ?_)
  refine lv_i2b hx hb dX12_four_18 rfl ?_
  refine lv_topi (fun x_3 ex_3 => ?_)
  refine t_sb hx hb hK hLA hB hS mb_1 tb_1 ai_61 (i_in (by decide) (by decide)) (i_lo _) (i_hi _) (Or.inr (by decide)) dX12_four_19 (fun H locs σ_4 eσ_4 hB hS => ?_)
  refine lv_aload_n hx hb dX12_four_20 rfl (lv_at hl 1 rfl) ?_
  refine lv_dup hx hb dX12_four_21 rfl ?_
  have k_5 : σ_4 h0 1 = 16 := by rw [eσ_4, up2_nej _ _ (by decide)]; exact k0
  refine t_gv hx hb hts hown hK hB mh0 th0 fi_12_1 k_5 mw_5_217 dX12_four_22 ?_
  refine lv_iconst (v := 1) hx hb dX12_four_25 (by decide) ?_
  refine lv_iadd hx hb dX12_four_26 ?_
  refine tp_i (w := 17) (by decide) ?_
  refine t_pi hx hb hts hown hK hLA hB hS mh0 th0 fi_12_1 rfl rfl rfl (i_lo _) (i_hi _) (Or.inl (by decide)) mw_5_217 dX12_four_27 (fun H locs σ_6 eσ_6 hB hS => ?_)
  have k_7 : σ_6 h0 1 = 17 := by rw [eσ_6]; exact up2_same _ _ _ _
  refine lv_iinc (v := 16) (lv' := [(2, .int 16), (0, .ref h0), (1, .int p1)]) hx hb dX12_four_30 hl (k := 0) rfl (by decide) (by decide) rfl (fun ls hl => ?_)
  refine lv_goto (tgt := 3) hx hb dX12_four_33 (by decide) ?_
  refine lv_iload_n hx hb dX12_four_3 rfl (lv_at hl 0 rfl) ?_
  refine lv_if_lt (tgt := 36) hx hb dX12_four_4 (by decide) (fun c9 => absurd c9 (by decide)) (fun _ => ?_)
  refine lv_aload_n hx hb dX12_four_7 rfl (lv_at hl 1 rfl) ?_
  refine t_gk hx hb hts hown hK hB mh0 th0 fq_12_0 hb_1 mw_5_216 dX12_four_8 ?_
  refine lv_aload_n hx hb dX12_four_11 rfl (lv_at hl 1 rfl) ?_
  refine t_gv hx hb hts hown hK hB mh0 th0 fi_12_1 k_7 mw_5_217 dX12_four_12 ?_
  refine lv_iload_n hx hb dX12_four_15 rfl (lv_at hl 2 rfl) ?_
  refine lv_iload_n hx hb dX12_four_16 rfl (lv_at hl 0 rfl) ?_
  refine lv_ishr hx hb dX12_four_17 ?_
  refine lv_topi (fun x_8 ex_8 => ?_)
  refine lv_i2b hx hb dX12_four_18 rfl ?_
  refine lv_topi (fun x_9 ex_9 => ?_)
  refine t_sb hx hb hK hLA hB hS mb_1 tb_1 ai_61 (i_in (by decide) (by decide)) (i_lo _) (i_hi _) (Or.inr (by decide)) dX12_four_19 (fun H locs σ_10 eσ_10 hB hS => ?_)
  refine lv_aload_n hx hb dX12_four_20 rfl (lv_at hl 1 rfl) ?_
  refine lv_dup hx hb dX12_four_21 rfl ?_
  have k_11 : σ_10 h0 1 = 17 := by rw [eσ_10, up2_nej _ _ (by decide)]; exact k_7
  refine t_gv hx hb hts hown hK hB mh0 th0 fi_12_1 k_11 mw_5_217 dX12_four_22 ?_
  refine lv_iconst (v := 1) hx hb dX12_four_25 (by decide) ?_
  refine lv_iadd hx hb dX12_four_26 ?_
  refine tp_i (w := 18) (by decide) ?_
  refine t_pi hx hb hts hown hK hLA hB hS mh0 th0 fi_12_1 rfl rfl rfl (i_lo _) (i_hi _) (Or.inl (by decide)) mw_5_217 dX12_four_27 (fun H locs σ_12 eσ_12 hB hS => ?_)
  have k_13 : σ_12 h0 1 = 18 := by rw [eσ_12]; exact up2_same _ _ _ _
  refine lv_iinc (v := 8) (lv' := [(2, .int 8), (0, .ref h0), (1, .int p1)]) hx hb dX12_four_30 hl (k := 0) rfl (by decide) (by decide) rfl (fun ls hl => ?_)
  refine lv_goto (tgt := 3) hx hb dX12_four_33 (by decide) ?_
  refine lv_iload_n hx hb dX12_four_3 rfl (lv_at hl 0 rfl) ?_
  refine lv_if_lt (tgt := 36) hx hb dX12_four_4 (by decide) (fun c9 => absurd c9 (by decide)) (fun _ => ?_)
  refine lv_aload_n hx hb dX12_four_7 rfl (lv_at hl 1 rfl) ?_
  refine t_gk hx hb hts hown hK hB mh0 th0 fq_12_0 hb_1 mw_5_216 dX12_four_8 ?_
  refine lv_aload_n hx hb dX12_four_11 rfl (lv_at hl 1 rfl) ?_
  refine t_gv hx hb hts hown hK hB mh0 th0 fi_12_1 k_13 mw_5_217 dX12_four_12 ?_
  refine lv_iload_n hx hb dX12_four_15 rfl (lv_at hl 2 rfl) ?_
  refine lv_iload_n hx hb dX12_four_16 rfl (lv_at hl 0 rfl) ?_
  refine lv_ishr hx hb dX12_four_17 ?_
  refine lv_topi (fun x_14 ex_14 => ?_)
  refine lv_i2b hx hb dX12_four_18 rfl ?_
  refine lv_topi (fun x_15 ex_15 => ?_)
  refine t_sb hx hb hK hLA hB hS mb_1 tb_1 ai_61 (i_in (by decide) (by decide)) (i_lo _) (i_hi _) (Or.inr (by decide)) dX12_four_19 (fun H locs σ_16 eσ_16 hB hS => ?_)
  refine lv_aload_n hx hb dX12_four_20 rfl (lv_at hl 1 rfl) ?_
  refine lv_dup hx hb dX12_four_21 rfl ?_
  have k_17 : σ_16 h0 1 = 18 := by rw [eσ_16, up2_nej _ _ (by decide)]; exact k_13
  refine t_gv hx hb hts hown hK hB mh0 th0 fi_12_1 k_17 mw_5_217 dX12_four_22 ?_
  refine lv_iconst (v := 1) hx hb dX12_four_25 (by decide) ?_
  refine lv_iadd hx hb dX12_four_26 ?_
  refine tp_i (w := 19) (by decide) ?_
  refine t_pi hx hb hts hown hK hLA hB hS mh0 th0 fi_12_1 rfl rfl rfl (i_lo _) (i_hi _) (Or.inl (by decide)) mw_5_217 dX12_four_27 (fun H locs σ_18 eσ_18 hB hS => ?_)
  have k_19 : σ_18 h0 1 = 19 := by rw [eσ_18]; exact up2_same _ _ _ _
  refine lv_iinc (v := 0) (lv' := [(2, .int 0), (0, .ref h0), (1, .int p1)]) hx hb dX12_four_30 hl (k := 0) rfl (by decide) (by decide) rfl (fun ls hl => ?_)
  refine lv_goto (tgt := 3) hx hb dX12_four_33 (by decide) ?_
  refine lv_iload_n hx hb dX12_four_3 rfl (lv_at hl 0 rfl) ?_
  refine lv_if_lt (tgt := 36) hx hb dX12_four_4 (by decide) (fun c9 => absurd c9 (by decide)) (fun _ => ?_)
  refine lv_aload_n hx hb dX12_four_7 rfl (lv_at hl 1 rfl) ?_
  refine t_gk hx hb hts hown hK hB mh0 th0 fq_12_0 hb_1 mw_5_216 dX12_four_8 ?_
  refine lv_aload_n hx hb dX12_four_11 rfl (lv_at hl 1 rfl) ?_
  refine t_gv hx hb hts hown hK hB mh0 th0 fi_12_1 k_19 mw_5_217 dX12_four_12 ?_
  refine lv_iload_n hx hb dX12_four_15 rfl (lv_at hl 2 rfl) ?_
  refine lv_iload_n hx hb dX12_four_16 rfl (lv_at hl 0 rfl) ?_
  refine lv_ishr hx hb dX12_four_17 ?_
  refine lv_topi (fun x_20 ex_20 => ?_)
  refine lv_i2b hx hb dX12_four_18 rfl ?_
  refine lv_topi (fun x_21 ex_21 => ?_)
  refine t_sb hx hb hK hLA hB hS mb_1 tb_1 ai_61 (i_in (by decide) (by decide)) (i_lo _) (i_hi _) (Or.inr (by decide)) dX12_four_19 (fun H locs σ_22 eσ_22 hB hS => ?_)
  refine lv_aload_n hx hb dX12_four_20 rfl (lv_at hl 1 rfl) ?_
  refine lv_dup hx hb dX12_four_21 rfl ?_
  have k_23 : σ_22 h0 1 = 19 := by rw [eσ_22, up2_nej _ _ (by decide)]; exact k_19
  refine t_gv hx hb hts hown hK hB mh0 th0 fi_12_1 k_23 mw_5_217 dX12_four_22 ?_
  refine lv_iconst (v := 1) hx hb dX12_four_25 (by decide) ?_
  refine lv_iadd hx hb dX12_four_26 ?_
  refine tp_i (w := 20) (by decide) ?_
  refine t_pi hx hb hts hown hK hLA hB hS mh0 th0 fi_12_1 rfl rfl rfl (i_lo _) (i_hi _) (Or.inl (by decide)) mw_5_217 dX12_four_27 (fun H locs σ_24 eσ_24 hB hS => ?_)
  have k_25 : σ_24 h0 1 = 20 := by rw [eσ_24]; exact up2_same _ _ _ _
  refine lv_iinc (v := (-8)) (lv' := [(2, .int (-8)), (0, .ref h0), (1, .int p1)]) hx hb dX12_four_30 hl (k := 0) rfl (by decide) (by decide) rfl (fun ls hl => ?_)
  refine lv_goto (tgt := 3) hx hb dX12_four_33 (by decide) ?_
  refine lv_iload_n hx hb dX12_four_3 rfl (lv_at hl 0 rfl) ?_
  refine lv_if_lt (tgt := 36) hx hb dX12_four_4 (by decide) (fun _ => ?_) (fun c9 => absurd (by decide) c9)
  exact W.vret hx hb hr (fun t ht hW => ⟨⟨(σ_24, ρ), rfl, ⟨hB.2.1, hB.2.2, k_25⟩, (show TP D cA L T r σ_24 ρ t.heap from by rw [ht]; exact hB.1)⟩, hS.F ht⟩) hS.2.2 dX12_four_36
set_option maxHeartbeats 4000000 in
set_option maxRecDepth 100000 in
theorem cz_X12_see (l : Launch) (D : va_G) (cA : Nat → ClassId) (L : List Nat) (T : Nat → Nat) (r : Rg) (hG : GR L T r) (hL : L.Nodup) (σ : Sg) (ρ : Lg) (hW : WT L rz T σ) (sz : Nat) (h0 : Nat) (mh0 : h0 ∈ L) (th0 : T h0 = 12) (k0 : σ h0 8 = 0) (k1 : σ h0 1 = 0) : Met l yX12_see (.code yX12_see cX12_see 1 (some .int) :: wsA) ({ frames := 0, cells := 0, slots := 0, locals := 0 }) (PR D cA L T r σ ρ sz [.ref h0]) (QI D cA L T r rz ([] : List (Nat × Nat)) σ sz (fun x σ1 => x = (-1))) 0 0 (dm L sz) := by
  refine Met.ofW (cc := cX12_see) (maxL := 1) (ret := (some .int)) (by decide) rfl ?_
  intro p e s m args below meth c s₁ B hml hv
  obtain ⟨rfl, hsz, hP, hK, hN⟩ := hv
  have hx := B.exec
  have hb := B.bytes
  have hr := B.returns
  have hts : ∀ w ∈ wsA, w.before _ s = true := fun w h => atoms_spec (ws := .code yX12_see cX12_see 1 (some .int) :: wsA) B.pre w (List.mem_cons_of_mem _ h)
  have hown : s.vm.findClass RX12 = some m.cls := findClass_of_methodNamed B.named
  subst hsz
  have hLA : LA (dm L s.heap.size) L := ⟨hL, fun a h => Or.inl h⟩
  have hA : ∀ q : Nat, s.heap.size ≤ q → dm L s.heap.size q := fun q h => Or.inr h
  have hS : va_S (dm L s.heap.size) s.heap s.heap [] := va_S.rf
  have hB : TS D cA L T r rz ([] : List (Nat × Nat)) σ σ ρ s.heap := ⟨hP, hW, FR.rf⟩
  have hl := lv_entry ([.ref h0]) (n := 1) (Nat.le_of_ble_eq_true rfl)
  rw [lg_entry_eq]
  generalize (lg_sl ([.ref h0]) ++ List.replicate (1 - (lg_sl ([.ref h0])).length) Slot.unset).toArray = ls at hl ⊢
  have hl : lv_has ls 1 [(0, .ref h0)] := hl
  refine lv_aload_n hx hb dX12_see_0 rfl (lv_at hl 0 rfl) ?_
  refine t_gv hx hb hts hown hK hB mh0 th0 fi_12_8 k0 mw_5_224 dX12_see_1 ?_
  refine lv_aload_n hx hb dX12_see_4 rfl (lv_at hl 0 rfl) ?_
  refine t_gv hx hb hts hown hK hB mh0 th0 fi_12_1 k1 mw_5_217 dX12_see_5 ?_
  refine lv_icmp_ge (tgt := 38) hx hb dX12_see_8 (by decide) (fun _ => ?_) (fun c9 => absurd (by decide) c9)
  refine lv_aload_n hx hb dX12_see_38 rfl (lv_at hl 0 rfl) ?_
  refine t_gv hx hb hts hown hK hB mh0 th0 fi_12_8 k0 mw_5_224 dX12_see_39 ?_
  refine lv_aload_n hx hb dX12_see_42 rfl (lv_at hl 0 rfl) ?_
  refine t_gv hx hb hts hown hK hB mh0 th0 fi_12_1 k1 mw_5_217 dX12_see_43 ?_
  refine lv_icmp_ge (tgt := 65) hx hb dX12_see_46 (by decide) (fun _ => ?_) (fun c9 => absurd (by decide) c9)
  refine lv_iconst (v := (-1)) hx hb dX12_see_65 (by decide) ?_
  exact W.iret (v := (-1)) hx hb hr (fun t ht hW => ⟨⟨(-1), (σ, ρ), rfl, ⟨hB.2.1, hB.2.2, rfl⟩, (show TP D cA L T r σ ρ t.heap from by rw [ht]; exact hB.1)⟩, hS.F ht⟩) hS.2.2 dX12_see_66
set_option maxHeartbeats 4000000 in
set_option maxRecDepth 100000 in
theorem cz_X12_isLetter (l : Launch) (D : va_G) (cA : Nat → ClassId) (L : List Nat) (T : Nat → Nat) (r : Rg) (hG : GR L T r) (hL : L.Nodup) (σ : Sg) (ρ : Lg) (hW : WT L rz T σ) (sz : Nat) (h0 : Nat) (mh0 : h0 ∈ L) (th0 : T h0 = 12) (k0 : σ h0 1 = 0) : Met l yX12_isLetter (.code yX12_isLetter cX12_isLetter 2 (some .boolean) :: wsA) ({ frames := 0, cells := 0, slots := 0, locals := 0 }) (PR D cA L T r σ ρ sz [.ref h0, .int 0]) (QI D cA L T r rz ([] : List (Nat × Nat)) σ sz (fun x σ1 => x = 0)) 0 0 (dm L sz) := by
  refine Met.ofW (cc := cX12_isLetter) (maxL := 2) (ret := (some .boolean)) (by decide) rfl ?_
  intro p e s m args below meth c s₁ B hml hv
  obtain ⟨rfl, hsz, hP, hK, hN⟩ := hv
  have hx := B.exec
  have hb := B.bytes
  have hr := B.returns
  have hts : ∀ w ∈ wsA, w.before _ s = true := fun w h => atoms_spec (ws := .code yX12_isLetter cX12_isLetter 2 (some .boolean) :: wsA) B.pre w (List.mem_cons_of_mem _ h)
  have hown : s.vm.findClass RX12 = some m.cls := findClass_of_methodNamed B.named
  subst hsz
  have hLA : LA (dm L s.heap.size) L := ⟨hL, fun a h => Or.inl h⟩
  have hA : ∀ q : Nat, s.heap.size ≤ q → dm L s.heap.size q := fun q h => Or.inr h
  have hS : va_S (dm L s.heap.size) s.heap s.heap [] := va_S.rf
  have hB : TS D cA L T r rz ([] : List (Nat × Nat)) σ σ ρ s.heap := ⟨hP, hW, FR.rf⟩
  have hl := lv_entry ([.ref h0, .int 0]) (n := 2) (Nat.le_of_ble_eq_true rfl)
  rw [lg_entry_eq]
  generalize (lg_sl ([.ref h0, .int 0]) ++ List.replicate (2 - (lg_sl ([.ref h0, .int 0])).length) Slot.unset).toArray = ls at hl ⊢
  have hl : lv_has ls 2 [(0, .ref h0), (1, .int 0)] := hl
  refine lv_iload_n hx hb dX12_isLetter_0 rfl (lv_at hl 1 rfl) ?_
  refine lv_aload_n hx hb dX12_isLetter_1 rfl (lv_at hl 0 rfl) ?_
  refine t_gv hx hb hts hown hK hB mh0 th0 fi_12_1 k0 mw_5_217 dX12_isLetter_2 ?_
  refine lv_icmp_ge (tgt := 34) hx hb dX12_isLetter_5 (by decide) (fun _ => ?_) (fun c9 => absurd (by decide) c9)
  refine lv_iconst (v := 0) hx hb dX12_isLetter_34 (by decide) ?_
  exact W.zret (v := 0) hx hb hr rfl (fun t ht hW => ⟨⟨0, (σ, ρ), rfl, ⟨hB.2.1, hB.2.2, rfl⟩, (show TP D cA L T r σ ρ t.heap from by rw [ht]; exact hB.1)⟩, hS.F ht⟩) hS.2.2 dX12_isLetter_35
set_option maxHeartbeats 4000000 in
set_option maxRecDepth 100000 in
theorem cz_X12_isWord (l : Launch) (D : va_G) (cA : Nat → ClassId) (L : List Nat) (T : Nat → Nat) (r : Rg) (hG : GR L T r) (hL : L.Nodup) (σ : Sg) (ρ : Lg) (hW : WT L rz T σ) (sz : Nat) (h0 : Nat) (mh0 : h0 ∈ L) (th0 : T h0 = 12) (p1 : Int64) (k0 : σ h0 8 = 0) (k1 : σ h0 1 = 0) : Met l yX12_isWord (.code yX12_isWord cX12_isWord 6 (some .boolean) :: wsA) ({ frames := 1, cells := 0, slots := 0, locals := 21 }) (PR D cA L T r σ ρ sz [.ref h0, .long p1]) (QI D cA L T r rz ([] : List (Nat × Nat)) σ sz (fun x σ1 => x = 0)) 0 0 (dm L sz) := by
  refine Met.ofW (cc := cX12_isWord) (maxL := 6) (ret := (some .boolean)) (by decide) rfl ?_
  intro p e s m args below meth c s₁ B hml hv
  obtain ⟨rfl, hsz, hP, hK, hN⟩ := hv
  have hx := B.exec
  have hb := B.bytes
  have hr := B.returns
  have hts : ∀ w ∈ wsA, w.before _ s = true := fun w h => atoms_spec (ws := .code yX12_isWord cX12_isWord 6 (some .boolean) :: wsA) B.pre w (List.mem_cons_of_mem _ h)
  have hown : s.vm.findClass RX12 = some m.cls := findClass_of_methodNamed B.named
  subst hsz
  have hLA : LA (dm L s.heap.size) L := ⟨hL, fun a h => Or.inl h⟩
  have hA : ∀ q : Nat, s.heap.size ≤ q → dm L s.heap.size q := fun q h => Or.inr h
  have hS : va_S (dm L s.heap.size) s.heap s.heap [] := va_S.rf
  have hB : TS D cA L T r rz ([] : List (Nat × Nat)) σ σ ρ s.heap := ⟨hP, hW, FR.rf⟩
  have hl := lv_entry ([.ref h0, .long p1]) (n := 6) (Nat.le_of_ble_eq_true rfl)
  rw [lg_entry_eq]
  generalize (lg_sl ([.ref h0, .long p1]) ++ List.replicate (6 - (lg_sl ([.ref h0, .long p1])).length) Slot.unset).toArray = ls at hl ⊢
  have hl : lv_has ls 6 [(0, .ref h0), (1, .long p1)] := hl
  refine lv_aload_n hx hb dX12_isWord_0 rfl (lv_at hl 0 rfl) ?_
  refine t_ci (va_runV (As := []) (rest := []) ⟨hx, hb, hml, hown, hts⟩ (cz_X12_see l D cA L T r hG hLA.1 σ ρ hB.2.1 _ h0 mh0 th0 k0 k1) (cV hts mv_X12_see mw_6_134 rfl rfl ⟨Nat.le_of_ble_eq_true rfl, Nat.le_of_ble_eq_true rfl⟩) (pV hB.1 hK hN mh0 th0 (show shp cA 12 _ _ _ = .inr (12, Fs12 _ _ _) from rfl) rfl) rfl rfl hl.1 rfl (lv_room (Nat.le_of_ble_eq_true rfl)) dX12_isWord_1 ⟨Nat.le_of_ble_eq_true rfl, Nat.le_of_ble_eq_true rfl⟩) hLA hA hB hS (by decide) (fun x_3 σ_1 ρ_2 H locs hB fσ_1 pσ_1 hS => ?_)
  subst pσ_1
  refine lv_pop hx hb dX12_isWord_4 rfl ?_
  refine lv_lconst (v := 0) hx hb dX12_isWord_5 (by decide) ?_
  refine lv_lstore_n (lv' := [(3, .long 0), (0, .ref h0), (1, .long p1)]) hx hb dX12_isWord_6 rfl hl (by decide) rfl (fun ls hl => ?_)
  refine lv_iconst (v := 0) hx hb dX12_isWord_7 (by decide) ?_
  refine lv_istore (lv' := [(5, .int 0), (3, .long 0), (0, .ref h0), (1, .long p1)]) hx hb dX12_isWord_8 hl (by decide) rfl (fun ls hl => ?_)
  refine lv_aload_n hx hb dX12_isWord_10 rfl (lv_at hl 2 rfl) ?_
  refine lv_aload_n hx hb dX12_isWord_11 rfl (lv_at hl 2 rfl) ?_
  have k_4 : σ_1 h0 8 = 0 := (FR.at fσ_1 th0 (by decide)).trans k0
  refine t_gv hx hb hts hown hK hB mh0 th0 fi_12_8 k_4 mw_5_224 dX12_isWord_12 ?_
  refine lv_iload hx hb dX12_isWord_15 (lv_at hl 0 rfl) ?_
  refine lv_iadd hx hb dX12_isWord_17 ?_
  refine tp_i (w := 0) (by decide) ?_
  have k_5 : σ_1 h0 1 = 0 := (FR.at fσ_1 th0 (by decide)).trans k1
  refine t_ci (va_runV (As := [.int 0]) (rest := []) ⟨hx, hb, hml, hown, hts⟩ (cz_X12_isLetter l D cA L T r hG hLA.1 σ_1 ρ_2 hB.2.1 _ h0 mh0 th0 k_5) (cV hts mv_X12_isLetter mw_6_147 rfl rfl ⟨Nat.le_of_ble_eq_true rfl, Nat.le_of_ble_eq_true rfl⟩) (pV hB.1 hK hN mh0 th0 (show shp cA 12 _ _ _ = .inr (12, Fs12 _ _ _) from rfl) rfl) rfl rfl hl.1 rfl (lv_room (Nat.le_of_ble_eq_true rfl)) dX12_isWord_18 ⟨Nat.le_of_ble_eq_true rfl, Nat.le_of_ble_eq_true rfl⟩) hLA hA hB hS (by decide) (fun x_8 σ_6 ρ_7 H locs hB fσ_6 pσ_6 hS => ?_)
  subst pσ_6
  refine lv_if_eq (tgt := 56) hx hb dX12_isWord_21 (by decide) (fun _ => ?_) (fun c9 => absurd (by decide) c9)
  refine lv_iload hx hb dX12_isWord_56 (lv_at hl 0 rfl) ?_
  refine lv_if_le (tgt := 78) hx hb dX12_isWord_58 (by decide) (fun _ => ?_) (fun c9 => absurd (by decide) c9)
  refine lv_iconst (v := 0) hx hb dX12_isWord_78 (by decide) ?_
  exact W.zret (v := 0) hx hb hr rfl (fun t ht hW => ⟨⟨0, (σ_6, ρ_7), rfl, ⟨hB.2.1, hB.2.2, rfl⟩, (show TP D cA L T r σ_6 ρ_7 t.heap from by rw [ht]; exact hB.1)⟩, hS.F ht⟩) hS.2.2 dX12_isWord_79
set_option maxHeartbeats 4000000 in
set_option maxRecDepth 100000 in
theorem cz_X12_isHillWord (l : Launch) (D : va_G) (cA : Nat → ClassId) (L : List Nat) (T : Nat → Nat) (r : Rg) (hG : GR L T r) (hL : L.Nodup) (σ : Sg) (ρ : Lg) (hW : WT L rz T σ) (sz : Nat) (h0 : Nat) (mh0 : h0 ∈ L) (th0 : T h0 = 12) (k0 : σ h0 8 = 0) (k1 : σ h0 1 = 0) : Met l yX12_isHillWord (.code yX12_isHillWord cX12_isHillWord 2 (some .boolean) :: wsA) ({ frames := 2, cells := 0, slots := 0, locals := 46 }) (PR D cA L T r σ ρ sz [.ref h0]) (QI D cA L T r rz ([] : List (Nat × Nat)) σ sz (fun x σ1 => x = 0)) 0 0 (dm L sz) := by
  refine Met.ofW (cc := cX12_isHillWord) (maxL := 2) (ret := (some .boolean)) (by decide) rfl ?_
  intro p e s m args below meth c s₁ B hml hv
  obtain ⟨rfl, hsz, hP, hK, hN⟩ := hv
  have hx := B.exec
  have hb := B.bytes
  have hr := B.returns
  have hts : ∀ w ∈ wsA, w.before _ s = true := fun w h => atoms_spec (ws := .code yX12_isHillWord cX12_isHillWord 2 (some .boolean) :: wsA) B.pre w (List.mem_cons_of_mem _ h)
  have hown : s.vm.findClass RX12 = some m.cls := findClass_of_methodNamed B.named
  subst hsz
  have hLA : LA (dm L s.heap.size) L := ⟨hL, fun a h => Or.inl h⟩
  have hA : ∀ q : Nat, s.heap.size ≤ q → dm L s.heap.size q := fun q h => Or.inr h
  have hS : va_S (dm L s.heap.size) s.heap s.heap [] := va_S.rf
  have hB : TS D cA L T r rz ([] : List (Nat × Nat)) σ σ ρ s.heap := ⟨hP, hW, FR.rf⟩
  have hl := lv_entry ([.ref h0]) (n := 2) (Nat.le_of_ble_eq_true rfl)
  rw [lg_entry_eq]
  generalize (lg_sl ([.ref h0]) ++ List.replicate (2 - (lg_sl ([.ref h0])).length) Slot.unset).toArray = ls at hl ⊢
  have hl : lv_has ls 2 [(0, .ref h0)] := hl
  refine lv_aload_n hx hb dX12_isHillWord_0 rfl (lv_at hl 0 rfl) ?_
  refine lv_ldc2 (v := 1751739500) hx hb hown (hts _ mw_6_142) dX12_isHillWord_1 ?_
  refine t_ci (va_runV (As := [.long 1751739500]) (rest := []) ⟨hx, hb, hml, hown, hts⟩ (cz_X12_isWord l D cA L T r hG hLA.1 σ ρ hB.2.1 _ h0 mh0 th0 1751739500 k0 k1) (cV hts mv_X12_isWord mw_6_143 rfl rfl ⟨Nat.le_of_ble_eq_true rfl, Nat.le_of_ble_eq_true rfl⟩) (pV hB.1 hK hN mh0 th0 (show shp cA 12 _ _ _ = .inr (12, Fs12 _ _ _) from rfl) rfl) rfl rfl hl.1 rfl (lv_room (Nat.le_of_ble_eq_true rfl)) dX12_isHillWord_4 ⟨Nat.le_of_ble_eq_true rfl, Nat.le_of_ble_eq_true rfl⟩) hLA hA hB hS (by decide) (fun x_3 σ_1 ρ_2 H locs hB fσ_1 pσ_1 hS => ?_)
  subst pσ_1
  refine lv_if_ne (tgt := 30) hx hb dX12_isHillWord_7 (by decide) (fun c9 => absurd (by decide) c9) (fun _ => ?_)
  refine lv_aload_n hx hb dX12_isHillWord_10 rfl (lv_at hl 0 rfl) ?_
  refine lv_ldc2 (v := 1936683636) hx hb hown (hts _ mw_6_151) dX12_isHillWord_11 ?_
  have k_4 : σ_1 h0 8 = 0 := (FR.at fσ_1 th0 (by decide)).trans k0
  have k_5 : σ_1 h0 1 = 0 := (FR.at fσ_1 th0 (by decide)).trans k1
  refine t_ci (va_runV (As := [.long 1936683636]) (rest := []) ⟨hx, hb, hml, hown, hts⟩ (cz_X12_isWord l D cA L T r hG hLA.1 σ_1 ρ_2 hB.2.1 _ h0 mh0 th0 1936683636 k_4 k_5) (cV hts mv_X12_isWord mw_6_143 rfl rfl ⟨Nat.le_of_ble_eq_true rfl, Nat.le_of_ble_eq_true rfl⟩) (pV hB.1 hK hN mh0 th0 (show shp cA 12 _ _ _ = .inr (12, Fs12 _ _ _) from rfl) rfl) rfl rfl hl.1 rfl (lv_room (Nat.le_of_ble_eq_true rfl)) dX12_isHillWord_14 ⟨Nat.le_of_ble_eq_true rfl, Nat.le_of_ble_eq_true rfl⟩) hLA hA hB hS (by decide) (fun x_8 σ_6 ρ_7 H locs hB fσ_6 pσ_6 hS => ?_)
  subst pσ_6
  refine lv_if_ne (tgt := 30) hx hb dX12_isHillWord_17 (by decide) (fun c9 => absurd (by decide) c9) (fun _ => ?_)
  refine lv_aload_n hx hb dX12_isHillWord_20 rfl (lv_at hl 0 rfl) ?_
  refine lv_ldc2 (v := 1650814564) hx hb hown (hts _ mw_6_152) dX12_isHillWord_21 ?_
  have k_9 : σ_6 h0 8 = 0 := (FR.at fσ_6 th0 (by decide)).trans k_4
  have k_10 : σ_6 h0 1 = 0 := (FR.at fσ_6 th0 (by decide)).trans k_5
  refine t_ci (va_runV (As := [.long 1650814564]) (rest := []) ⟨hx, hb, hml, hown, hts⟩ (cz_X12_isWord l D cA L T r hG hLA.1 σ_6 ρ_7 hB.2.1 _ h0 mh0 th0 1650814564 k_9 k_10) (cV hts mv_X12_isWord mw_6_143 rfl rfl ⟨Nat.le_of_ble_eq_true rfl, Nat.le_of_ble_eq_true rfl⟩) (pV hB.1 hK hN mh0 th0 (show shp cA 12 _ _ _ = .inr (12, Fs12 _ _ _) from rfl) rfl) rfl rfl hl.1 rfl (lv_room (Nat.le_of_ble_eq_true rfl)) dX12_isHillWord_24 ⟨Nat.le_of_ble_eq_true rfl, Nat.le_of_ble_eq_true rfl⟩) hLA hA hB hS (by decide) (fun x_13 σ_11 ρ_12 H locs hB fσ_11 pσ_11 hS => ?_)
  subst pσ_11
  refine lv_if_eq (tgt := 34) hx hb dX12_isHillWord_27 (by decide) (fun _ => ?_) (fun c9 => absurd (by decide) c9)
  refine lv_iconst (v := 0) hx hb dX12_isHillWord_34 (by decide) ?_
  refine lv_istore_n (lv' := [(1, .int 0), (0, .ref h0)]) hx hb dX12_isHillWord_35 rfl hl (by decide) rfl (fun ls hl => ?_)
  refine lv_iload_n hx hb dX12_isHillWord_36 rfl (lv_at hl 0 rfl) ?_
  refine lv_if_ne (tgt := 70) hx hb dX12_isHillWord_37 (by decide) (fun c9 => absurd (by decide) c9) (fun _ => ?_)
  refine lv_aload_n hx hb dX12_isHillWord_40 rfl (lv_at hl 1 rfl) ?_
  refine lv_ldc2 (v := 31641111704529261) hx hb hown (hts _ mw_6_153) dX12_isHillWord_41 ?_
  have k_14 : σ_11 h0 8 = 0 := (FR.at fσ_11 th0 (by decide)).trans k_9
  have k_15 : σ_11 h0 1 = 0 := (FR.at fσ_11 th0 (by decide)).trans k_10
  refine t_ci (va_runV (As := [.long 31641111704529261]) (rest := []) ⟨hx, hb, hml, hown, hts⟩ (cz_X12_isWord l D cA L T r hG hLA.1 σ_11 ρ_12 hB.2.1 _ h0 mh0 th0 31641111704529261 k_14 k_15) (cV hts mv_X12_isWord mw_6_143 rfl rfl ⟨Nat.le_of_ble_eq_true rfl, Nat.le_of_ble_eq_true rfl⟩) (pV hB.1 hK hN mh0 th0 (show shp cA 12 _ _ _ = .inr (12, Fs12 _ _ _) from rfl) rfl) rfl rfl hl.1 rfl (lv_room (Nat.le_of_ble_eq_true rfl)) dX12_isHillWord_44 ⟨Nat.le_of_ble_eq_true rfl, Nat.le_of_ble_eq_true rfl⟩) hLA hA hB hS (by decide) (fun x_18 σ_16 ρ_17 H locs hB fσ_16 pσ_16 hS => ?_)
  subst pσ_16
  refine lv_if_ne (tgt := 70) hx hb dX12_isHillWord_47 (by decide) (fun c9 => absurd (by decide) c9) (fun _ => ?_)
  refine lv_aload_n hx hb dX12_isHillWord_50 rfl (lv_at hl 1 rfl) ?_
  refine lv_ldc2 (v := 6840691) hx hb hown (hts _ mw_6_154) dX12_isHillWord_51 ?_
  have k_19 : σ_16 h0 8 = 0 := (FR.at fσ_16 th0 (by decide)).trans k_14
  have k_20 : σ_16 h0 1 = 0 := (FR.at fσ_16 th0 (by decide)).trans k_15
  refine t_ci (va_runV (As := [.long 6840691]) (rest := []) ⟨hx, hb, hml, hown, hts⟩ (cz_X12_isWord l D cA L T r hG hLA.1 σ_16 ρ_17 hB.2.1 _ h0 mh0 th0 6840691 k_19 k_20) (cV hts mv_X12_isWord mw_6_143 rfl rfl ⟨Nat.le_of_ble_eq_true rfl, Nat.le_of_ble_eq_true rfl⟩) (pV hB.1 hK hN mh0 th0 (show shp cA 12 _ _ _ = .inr (12, Fs12 _ _ _) from rfl) rfl) rfl rfl hl.1 rfl (lv_room (Nat.le_of_ble_eq_true rfl)) dX12_isHillWord_54 ⟨Nat.le_of_ble_eq_true rfl, Nat.le_of_ble_eq_true rfl⟩) hLA hA hB hS (by decide) (fun x_23 σ_21 ρ_22 H locs hB fσ_21 pσ_21 hS => ?_)
  subst pσ_21
  refine lv_if_ne (tgt := 70) hx hb dX12_isHillWord_57 (by decide) (fun c9 => absurd (by decide) c9) (fun _ => ?_)
  refine lv_aload_n hx hb dX12_isHillWord_60 rfl (lv_at hl 1 rfl) ?_
  refine lv_ldc2 (v := 1751474544) hx hb hown (hts _ mw_6_155) dX12_isHillWord_61 ?_
  have k_24 : σ_21 h0 8 = 0 := (FR.at fσ_21 th0 (by decide)).trans k_19
  have k_25 : σ_21 h0 1 = 0 := (FR.at fσ_21 th0 (by decide)).trans k_20
  refine t_ci (va_runV (As := [.long 1751474544]) (rest := []) ⟨hx, hb, hml, hown, hts⟩ (cz_X12_isWord l D cA L T r hG hLA.1 σ_21 ρ_22 hB.2.1 _ h0 mh0 th0 1751474544 k_24 k_25) (cV hts mv_X12_isWord mw_6_143 rfl rfl ⟨Nat.le_of_ble_eq_true rfl, Nat.le_of_ble_eq_true rfl⟩) (pV hB.1 hK hN mh0 th0 (show shp cA 12 _ _ _ = .inr (12, Fs12 _ _ _) from rfl) rfl) rfl rfl hl.1 rfl (lv_room (Nat.le_of_ble_eq_true rfl)) dX12_isHillWord_64 ⟨Nat.le_of_ble_eq_true rfl, Nat.le_of_ble_eq_true rfl⟩) hLA hA hB hS (by decide) (fun x_28 σ_26 ρ_27 H locs hB fσ_26 pσ_26 hS => ?_)
  subst pσ_26
  refine lv_if_eq (tgt := 74) hx hb dX12_isHillWord_67 (by decide) (fun _ => ?_) (fun c9 => absurd (by decide) c9)
  refine lv_iconst (v := 0) hx hb dX12_isHillWord_74 (by decide) ?_
  exact W.zret (v := 0) hx hb hr rfl (fun t ht hW => ⟨⟨0, (σ_26, ρ_27), rfl, ⟨hB.2.1, hB.2.2, rfl⟩, (show TP D cA L T r σ_26 ρ_27 t.heap from by rw [ht]; exact hB.1)⟩, hS.F ht⟩) hS.2.2 dX12_isHillWord_75
set_option maxHeartbeats 4000000 in
set_option maxRecDepth 100000 in
theorem cz_X12_fails (l : Launch) (D : va_G) (cA : Nat → ClassId) (L : List Nat) (T : Nat → Nat) (r : Rg) (hG : GR L T r) (hL : L.Nodup) (σ : Sg) (ρ : Lg) (hW : WT L rz T σ) (sz : Nat) (h0 : Nat) (mh0 : h0 ∈ L) (th0 : T h0 = 12) (k0 : σ h0 9 = 0) : Met l yX12_fails (.code yX12_fails cX12_fails 3 (some .boolean) :: wsA) ({ frames := 0, cells := 0, slots := 0, locals := 0 }) (PR D cA L T r σ ρ sz [.ref h0, .int 0, .int 0]) (QI D cA L T r rz [(12, 9)] σ sz (fun x σ1 => x = 0 ∧ σ1 h0 9 = 1)) 0 0 (dm L sz) := by
  refine Met.ofW (cc := cX12_fails) (maxL := 3) (ret := (some .boolean)) (by decide) rfl ?_
  intro p e s m args below meth c s₁ B hml hv
  obtain ⟨rfl, hsz, hP, hK, hN⟩ := hv
  have hx := B.exec
  have hb := B.bytes
  have hr := B.returns
  have hts : ∀ w ∈ wsA, w.before _ s = true := fun w h => atoms_spec (ws := .code yX12_fails cX12_fails 3 (some .boolean) :: wsA) B.pre w (List.mem_cons_of_mem _ h)
  have hown : s.vm.findClass RX12 = some m.cls := findClass_of_methodNamed B.named
  subst hsz
  have hLA : LA (dm L s.heap.size) L := ⟨hL, fun a h => Or.inl h⟩
  have hA : ∀ q : Nat, s.heap.size ≤ q → dm L s.heap.size q := fun q h => Or.inr h
  have hS : va_S (dm L s.heap.size) s.heap s.heap [] := va_S.rf
  have hB : TS D cA L T r rz [(12, 9)] σ σ ρ s.heap := ⟨hP, hW, FR.rf⟩
  have hl := lv_entry ([.ref h0, .int 0, .int 0]) (n := 3) (Nat.le_of_ble_eq_true rfl)
  rw [lg_entry_eq]
  generalize (lg_sl ([.ref h0, .int 0, .int 0]) ++ List.replicate (3 - (lg_sl ([.ref h0, .int 0, .int 0])).length) Slot.unset).toArray = ls at hl ⊢
  have hl : lv_has ls 3 [(0, .ref h0), (1, .int 0), (2, .int 0)] := hl
  refine lv_aload_n hx hb dX12_fails_0 rfl (lv_at hl 0 rfl) ?_
  refine t_gv hx hb hts hown hK hB mh0 th0 fi_12_9 k0 mw_5_225 dX12_fails_1 ?_
  refine lv_if_ne (tgt := 19) hx hb dX12_fails_4 (by decide) (fun c9 => absurd (by decide) c9) (fun _ => ?_)
  refine lv_aload_n hx hb dX12_fails_7 rfl (lv_at hl 0 rfl) ?_
  refine lv_iconst (v := 1) hx hb dX12_fails_8 (by decide) ?_
  refine lv_bipush (v := 8) hx hb dX12_fails_9 (by decide) ?_
  refine lv_iload_n hx hb dX12_fails_11 rfl (lv_at hl 2 rfl) ?_
  refine lv_imul hx hb dX12_fails_12 ?_
  refine tp_i (w := 0) (by decide) ?_
  refine lv_iadd hx hb dX12_fails_13 ?_
  refine tp_i (w := 1) (by decide) ?_
  refine lv_iload_n hx hb dX12_fails_14 rfl (lv_at hl 1 rfl) ?_
  refine lv_iadd hx hb dX12_fails_15 ?_
  refine tp_i (w := 1) (by decide) ?_
  refine t_pi hx hb hts hown hK hLA hB hS mh0 th0 fi_12_9 rfl rfl rfl (i_lo _) (i_hi _) (Or.inl (by decide)) mw_5_225 dX12_fails_16 (fun H locs σ_1 eσ_1 hB hS => ?_)
  have k_2 : σ_1 h0 9 = 1 := by rw [eσ_1]; exact up2_same _ _ _ _
  refine lv_iconst (v := 0) hx hb dX12_fails_19 (by decide) ?_
  exact W.zret (v := 0) hx hb hr rfl (fun t ht hW => ⟨⟨0, (σ_1, ρ), rfl, ⟨hB.2.1, hB.2.2, ⟨rfl, k_2⟩⟩, (show TP D cA L T r σ_1 ρ t.heap from by rw [ht]; exact hB.1)⟩, hS.F ht⟩) hS.2.2 dX12_fails_20
set_option maxHeartbeats 4000000 in
set_option maxRecDepth 100000 in
theorem cz_X12_clauseHere_0 (l : Launch) (D : va_G) (cA : Nat → ClassId) (L : List Nat) (T : Nat → Nat) (r : Rg) (hG : GR L T r) (hL : L.Nodup) (σ : Sg) (ρ : Lg) (hW : WT L rz T σ) (sz : Nat) (h0 : Nat) (mh0 : h0 ∈ L) (th0 : T h0 = 12) (k0 : σ h0 11 = 0) (k1 : σ h0 1 = 0) (k2 : σ h0 8 = 0) (k3 : σ h0 9 = 0) : Met l yX12_clauseHere (.code yX12_clauseHere cX12_clauseHere 3 (some .boolean) :: wsA) ({ frames := 2, cells := 0, slots := 0, locals := 46 }) (PR D cA L T r σ ρ sz [.ref h0]) (QI D cA L T r rz [(12, 9)] σ sz (fun x σ1 => x = 0 ∧ σ1 h0 9 = 1)) 0 0 (dm L sz) := by
  refine Met.ofW (cc := cX12_clauseHere) (maxL := 3) (ret := (some .boolean)) (by decide) rfl ?_
  intro p e s m args below meth c s₁ B hml hv
  obtain ⟨rfl, hsz, hP, hK, hN⟩ := hv
  have hx := B.exec
  have hb := B.bytes
  have hr := B.returns
  have hts : ∀ w ∈ wsA, w.before _ s = true := fun w h => atoms_spec (ws := .code yX12_clauseHere cX12_clauseHere 3 (some .boolean) :: wsA) B.pre w (List.mem_cons_of_mem _ h)
  have hown : s.vm.findClass RX12 = some m.cls := findClass_of_methodNamed B.named
  subst hsz
  have hLA : LA (dm L s.heap.size) L := ⟨hL, fun a h => Or.inl h⟩
  have hA : ∀ q : Nat, s.heap.size ≤ q → dm L s.heap.size q := fun q h => Or.inr h
  have hS : va_S (dm L s.heap.size) s.heap s.heap [] := va_S.rf
  have hB : TS D cA L T r rz [(12, 9)] σ σ ρ s.heap := ⟨hP, hW, FR.rf⟩
  have hl := lv_entry ([.ref h0]) (n := 3) (Nat.le_of_ble_eq_true rfl)
  rw [lg_entry_eq]
  generalize (lg_sl ([.ref h0]) ++ List.replicate (3 - (lg_sl ([.ref h0])).length) Slot.unset).toArray = ls at hl ⊢
  have hl : lv_has ls 3 [(0, .ref h0)] := hl
  refine lv_aload_n hx hb dX12_clauseHere_0 rfl (lv_at hl 0 rfl) ?_
  refine t_ci (va_runV (As := []) (rest := []) ⟨hx, hb, hml, hown, hts⟩ (cz_X12_see l D cA L T r hG hLA.1 σ ρ hB.2.1 _ h0 mh0 th0 k2 k1) (cV hts mv_X12_see mw_6_134 rfl rfl ⟨Nat.le_of_ble_eq_true rfl, Nat.le_of_ble_eq_true rfl⟩) (pV hB.1 hK hN mh0 th0 (show shp cA 12 _ _ _ = .inr (12, Fs12 _ _ _) from rfl) rfl) rfl rfl hl.1 rfl (lv_room (Nat.le_of_ble_eq_true rfl)) dX12_clauseHere_1 ⟨Nat.le_of_ble_eq_true rfl, Nat.le_of_ble_eq_true rfl⟩) hLA hA hB hS (by decide) (fun x_3 σ_1 ρ_2 H locs hB fσ_1 pσ_1 hS => ?_)
  subst pσ_1
  refine lv_pop hx hb dX12_clauseHere_4 rfl ?_
  refine lv_aload_n hx hb dX12_clauseHere_5 rfl (lv_at hl 0 rfl) ?_
  have k_4 : σ_1 h0 8 = 0 := (FR.at fσ_1 th0 (by decide)).trans k2
  refine t_gv hx hb hts hown hK hB mh0 th0 fi_12_8 k_4 mw_5_224 dX12_clauseHere_6 ?_
  refine lv_istore_n (lv' := [(1, .int 0), (0, .ref h0)]) hx hb dX12_clauseHere_9 rfl hl (by decide) rfl (fun ls hl => ?_)
  refine lv_aload_n hx hb dX12_clauseHere_10 rfl (lv_at hl 1 rfl) ?_
  have k_5 : σ_1 h0 11 = 0 := (FR.at fσ_1 th0 (by decide)).trans k0
  refine t_gv hx hb hts hown hK hB mh0 th0 fi_12_11 k_5 mw_5_227 dX12_clauseHere_11 ?_
  refine lv_bipush (v := 6) hx hb dX12_clauseHere_14 (by decide) ?_
  refine lv_icmp_ne (tgt := 23) hx hb dX12_clauseHere_16 (by decide) (fun _ => ?_) (fun c9 => absurd c9 (by decide))
  refine lv_iconst (v := 0) hx hb dX12_clauseHere_23 (by decide) ?_
  refine lv_istore_n (lv' := [(2, .int 0), (1, .int 0), (0, .ref h0)]) hx hb dX12_clauseHere_24 rfl hl (by decide) rfl (fun ls hl => ?_)
  refine lv_iload_n hx hb dX12_clauseHere_25 rfl (lv_at hl 0 rfl) ?_
  refine lv_if_eq (tgt := 39) hx hb dX12_clauseHere_26 (by decide) (fun _ => ?_) (fun c9 => absurd (by decide) c9)
  refine lv_aload_n hx hb dX12_clauseHere_39 rfl (lv_at hl 2 rfl) ?_
  refine lv_ldc2 (v := 6386539) hx hb hown (hts _ mw_6_156) dX12_clauseHere_40 ?_
  have k_6 : σ_1 h0 1 = 0 := (FR.at fσ_1 th0 (by decide)).trans k1
  refine t_ci (va_runV (As := [.long 6386539]) (rest := []) ⟨hx, hb, hml, hown, hts⟩ (cz_X12_isWord l D cA L T r hG hLA.1 σ_1 ρ_2 hB.2.1 _ h0 mh0 th0 6386539 k_4 k_6) (cV hts mv_X12_isWord mw_6_143 rfl rfl ⟨Nat.le_of_ble_eq_true rfl, Nat.le_of_ble_eq_true rfl⟩) (pV hB.1 hK hN mh0 th0 (show shp cA 12 _ _ _ = .inr (12, Fs12 _ _ _) from rfl) rfl) rfl rfl hl.1 rfl (lv_room (Nat.le_of_ble_eq_true rfl)) dX12_clauseHere_43 ⟨Nat.le_of_ble_eq_true rfl, Nat.le_of_ble_eq_true rfl⟩) hLA hA hB hS (by decide) (fun x_9 σ_7 ρ_8 H locs hB fσ_7 pσ_7 hS => ?_)
  subst pσ_7
  refine lv_if_ne (tgt := 56) hx hb dX12_clauseHere_46 (by decide) (fun c9 => absurd (by decide) c9) (fun _ => ?_)
  refine lv_aload_n hx hb dX12_clauseHere_49 rfl (lv_at hl 2 rfl) ?_
  refine lv_iconst (v := 0) hx hb dX12_clauseHere_50 (by decide) ?_
  refine lv_iload_n hx hb dX12_clauseHere_51 rfl (lv_at hl 1 rfl) ?_
  have k_10 : σ_1 h0 9 = 0 := (FR.at fσ_1 th0 (by decide)).trans k3
  have k_11 : σ_7 h0 9 = 0 := (FR.at fσ_7 th0 (by decide)).trans k_10
  refine t_ci (va_runV (As := [.int 0, .int 0]) (rest := []) ⟨hx, hb, hml, hown, hts⟩ (cz_X12_fails l D cA L T r hG hLA.1 σ_7 ρ_8 hB.2.1 _ h0 mh0 th0 k_11) (cV hts mv_X12_fails mw_6_157 rfl rfl ⟨Nat.le_of_ble_eq_true rfl, Nat.le_of_ble_eq_true rfl⟩) (pV hB.1 hK hN mh0 th0 (show shp cA 12 _ _ _ = .inr (12, Fs12 _ _ _) from rfl) rfl) rfl rfl hl.1 rfl (lv_room (Nat.le_of_ble_eq_true rfl)) dX12_clauseHere_52 ⟨Nat.le_of_ble_eq_true rfl, Nat.le_of_ble_eq_true rfl⟩) hLA hA hB hS (by decide) (fun x_14 σ_12 ρ_13 H locs hB fσ_12 pσ_12 hS => ?_)
  obtain ⟨g_15, g_16⟩ := pσ_12
  subst g_15
  exact W.zret (v := 0) hx hb hr rfl (fun t ht hW => ⟨⟨0, (σ_12, ρ_13), rfl, ⟨hB.2.1, hB.2.2, ⟨rfl, g_16⟩⟩, (show TP D cA L T r σ_12 ρ_13 t.heap from by rw [ht]; exact hB.1)⟩, hS.F ht⟩) hS.2.2 dX12_clauseHere_55
set_option maxHeartbeats 4000000 in
set_option maxRecDepth 100000 in
theorem cz_X12_clauseHere_6 (l : Launch) (D : va_G) (cA : Nat → ClassId) (L : List Nat) (T : Nat → Nat) (r : Rg) (hG : GR L T r) (hL : L.Nodup) (σ : Sg) (ρ : Lg) (hW : WT L rz T σ) (sz : Nat) (h0 : Nat) (mh0 : h0 ∈ L) (th0 : T h0 = 12) (k0 : σ h0 11 = 6) (k1 : σ h0 1 = 0) (k2 : σ h0 8 = 0) (k3 : σ h0 9 = 0) : Met l yX12_clauseHere (.code yX12_clauseHere cX12_clauseHere 3 (some .boolean) :: wsA) ({ frames := 3, cells := 0, slots := 0, locals := 67 }) (PR D cA L T r σ ρ sz [.ref h0]) (QI D cA L T r rz [(12, 9)] σ sz (fun x σ1 => x = 0 ∧ σ1 h0 9 = 1)) 0 0 (dm L sz) := by
  refine Met.ofW (cc := cX12_clauseHere) (maxL := 3) (ret := (some .boolean)) (by decide) rfl ?_
  intro p e s m args below meth c s₁ B hml hv
  obtain ⟨rfl, hsz, hP, hK, hN⟩ := hv
  have hx := B.exec
  have hb := B.bytes
  have hr := B.returns
  have hts : ∀ w ∈ wsA, w.before _ s = true := fun w h => atoms_spec (ws := .code yX12_clauseHere cX12_clauseHere 3 (some .boolean) :: wsA) B.pre w (List.mem_cons_of_mem _ h)
  have hown : s.vm.findClass RX12 = some m.cls := findClass_of_methodNamed B.named
  subst hsz
  have hLA : LA (dm L s.heap.size) L := ⟨hL, fun a h => Or.inl h⟩
  have hA : ∀ q : Nat, s.heap.size ≤ q → dm L s.heap.size q := fun q h => Or.inr h
  have hS : va_S (dm L s.heap.size) s.heap s.heap [] := va_S.rf
  have hB : TS D cA L T r rz [(12, 9)] σ σ ρ s.heap := ⟨hP, hW, FR.rf⟩
  have hl := lv_entry ([.ref h0]) (n := 3) (Nat.le_of_ble_eq_true rfl)
  rw [lg_entry_eq]
  generalize (lg_sl ([.ref h0]) ++ List.replicate (3 - (lg_sl ([.ref h0])).length) Slot.unset).toArray = ls at hl ⊢
  have hl : lv_has ls 3 [(0, .ref h0)] := hl
  refine lv_aload_n hx hb dX12_clauseHere_0 rfl (lv_at hl 0 rfl) ?_
  refine t_ci (va_runV (As := []) (rest := []) ⟨hx, hb, hml, hown, hts⟩ (cz_X12_see l D cA L T r hG hLA.1 σ ρ hB.2.1 _ h0 mh0 th0 k2 k1) (cV hts mv_X12_see mw_6_134 rfl rfl ⟨Nat.le_of_ble_eq_true rfl, Nat.le_of_ble_eq_true rfl⟩) (pV hB.1 hK hN mh0 th0 (show shp cA 12 _ _ _ = .inr (12, Fs12 _ _ _) from rfl) rfl) rfl rfl hl.1 rfl (lv_room (Nat.le_of_ble_eq_true rfl)) dX12_clauseHere_1 ⟨Nat.le_of_ble_eq_true rfl, Nat.le_of_ble_eq_true rfl⟩) hLA hA hB hS (by decide) (fun x_3 σ_1 ρ_2 H locs hB fσ_1 pσ_1 hS => ?_)
  subst pσ_1
  refine lv_pop hx hb dX12_clauseHere_4 rfl ?_
  refine lv_aload_n hx hb dX12_clauseHere_5 rfl (lv_at hl 0 rfl) ?_
  have k_4 : σ_1 h0 8 = 0 := (FR.at fσ_1 th0 (by decide)).trans k2
  refine t_gv hx hb hts hown hK hB mh0 th0 fi_12_8 k_4 mw_5_224 dX12_clauseHere_6 ?_
  refine lv_istore_n (lv' := [(1, .int 0), (0, .ref h0)]) hx hb dX12_clauseHere_9 rfl hl (by decide) rfl (fun ls hl => ?_)
  refine lv_aload_n hx hb dX12_clauseHere_10 rfl (lv_at hl 1 rfl) ?_
  have k_5 : σ_1 h0 11 = 6 := (FR.at fσ_1 th0 (by decide)).trans k0
  refine t_gv hx hb hts hown hK hB mh0 th0 fi_12_11 k_5 mw_5_227 dX12_clauseHere_11 ?_
  refine lv_bipush (v := 6) hx hb dX12_clauseHere_14 (by decide) ?_
  refine lv_icmp_ne (tgt := 23) hx hb dX12_clauseHere_16 (by decide) (fun c9 => absurd (by decide) c9) (fun _ => ?_)
  refine lv_iconst (v := 1) hx hb dX12_clauseHere_19 (by decide) ?_
  refine lv_goto (tgt := 24) hx hb dX12_clauseHere_20 (by decide) ?_
  refine lv_istore_n (lv' := [(2, .int 1), (1, .int 0), (0, .ref h0)]) hx hb dX12_clauseHere_24 rfl hl (by decide) rfl (fun ls hl => ?_)
  refine lv_iload_n hx hb dX12_clauseHere_25 rfl (lv_at hl 0 rfl) ?_
  refine lv_if_eq (tgt := 39) hx hb dX12_clauseHere_26 (by decide) (fun c9 => absurd c9 (by decide)) (fun _ => ?_)
  refine lv_aload_n hx hb dX12_clauseHere_29 rfl (lv_at hl 2 rfl) ?_
  have k_6 : σ_1 h0 1 = 0 := (FR.at fσ_1 th0 (by decide)).trans k1
  refine t_ci (va_runV (As := []) (rest := []) ⟨hx, hb, hml, hown, hts⟩ (cz_X12_isHillWord l D cA L T r hG hLA.1 σ_1 ρ_2 hB.2.1 _ h0 mh0 th0 k_4 k_6) (cV hts mv_X12_isHillWord mw_6_138 rfl rfl ⟨Nat.le_of_ble_eq_true rfl, Nat.le_of_ble_eq_true rfl⟩) (pV hB.1 hK hN mh0 th0 (show shp cA 12 _ _ _ = .inr (12, Fs12 _ _ _) from rfl) rfl) rfl rfl hl.1 rfl (lv_room (Nat.le_of_ble_eq_true rfl)) dX12_clauseHere_30 ⟨Nat.le_of_ble_eq_true rfl, Nat.le_of_ble_eq_true rfl⟩) hLA hA hB hS (by decide) (fun x_9 σ_7 ρ_8 H locs hB fσ_7 pσ_7 hS => ?_)
  subst pσ_7
  refine lv_if_ne (tgt := 56) hx hb dX12_clauseHere_33 (by decide) (fun c9 => absurd (by decide) c9) (fun _ => ?_)
  refine lv_goto (tgt := 49) hx hb dX12_clauseHere_36 (by decide) ?_
  refine lv_aload_n hx hb dX12_clauseHere_49 rfl (lv_at hl 2 rfl) ?_
  refine lv_iconst (v := 0) hx hb dX12_clauseHere_50 (by decide) ?_
  refine lv_iload_n hx hb dX12_clauseHere_51 rfl (lv_at hl 1 rfl) ?_
  have k_10 : σ_1 h0 9 = 0 := (FR.at fσ_1 th0 (by decide)).trans k3
  have k_11 : σ_7 h0 9 = 0 := (FR.at fσ_7 th0 (by decide)).trans k_10
  refine t_ci (va_runV (As := [.int 0, .int 0]) (rest := []) ⟨hx, hb, hml, hown, hts⟩ (cz_X12_fails l D cA L T r hG hLA.1 σ_7 ρ_8 hB.2.1 _ h0 mh0 th0 k_11) (cV hts mv_X12_fails mw_6_157 rfl rfl ⟨Nat.le_of_ble_eq_true rfl, Nat.le_of_ble_eq_true rfl⟩) (pV hB.1 hK hN mh0 th0 (show shp cA 12 _ _ _ = .inr (12, Fs12 _ _ _) from rfl) rfl) rfl rfl hl.1 rfl (lv_room (Nat.le_of_ble_eq_true rfl)) dX12_clauseHere_52 ⟨Nat.le_of_ble_eq_true rfl, Nat.le_of_ble_eq_true rfl⟩) hLA hA hB hS (by decide) (fun x_14 σ_12 ρ_13 H locs hB fσ_12 pσ_12 hS => ?_)
  obtain ⟨g_15, g_16⟩ := pσ_12
  subst g_15
  exact W.zret (v := 0) hx hb hr rfl (fun t ht hW => ⟨⟨0, (σ_12, ρ_13), rfl, ⟨hB.2.1, hB.2.2, ⟨rfl, g_16⟩⟩, (show TP D cA L T r σ_12 ρ_13 t.heap from by rw [ht]; exact hB.1)⟩, hS.F ht⟩) hS.2.2 dX12_clauseHere_55
set_option maxHeartbeats 4000000 in
set_option maxRecDepth 100000 in
theorem cz_X12_readsAll_0 (l : Launch) (D : va_G) (cA : Nat → ClassId) (L : List Nat) (T : Nat → Nat) (r : Rg) (hG : GR L T r) (hL : L.Nodup) (σ : Sg) (ρ : Lg) (hW : WT L rz T σ) (sz : Nat) (h0 : Nat) (mh0 : h0 ∈ L) (th0 : T h0 = 12) (k0 : σ h0 11 = 0) (k1 : σ h0 1 = 0) : Met l yX12_readsAll (.code yX12_readsAll cX12_readsAll 2 (some .boolean) :: wsA) ({ frames := 3, cells := 0, slots := 0, locals := 68 }) (PR D cA L T r σ ρ sz [.ref h0]) (QI D cA L T r rz [(12, 1), (12, 8), (12, 9), (12, 12), (12, 14), (63, 1000)] σ sz (fun x σ1 => x = 0 ∧ σ1 h0 9 = 1)) 0 0 (dm L sz) := by
  refine Met.ofW (cc := cX12_readsAll) (maxL := 2) (ret := (some .boolean)) (by decide) rfl ?_
  intro p e s m args below meth c s₁ B hml hv
  obtain ⟨rfl, hsz, hP, hK, hN⟩ := hv
  have hx := B.exec
  have hb := B.bytes
  have hr := B.returns
  have hts : ∀ w ∈ wsA, w.before _ s = true := fun w h => atoms_spec (ws := .code yX12_readsAll cX12_readsAll 2 (some .boolean) :: wsA) B.pre w (List.mem_cons_of_mem _ h)
  have hown : s.vm.findClass RX12 = some m.cls := findClass_of_methodNamed B.named
  subst hsz
  have hLA : LA (dm L s.heap.size) L := ⟨hL, fun a h => Or.inl h⟩
  have hA : ∀ q : Nat, s.heap.size ≤ q → dm L s.heap.size q := fun q h => Or.inr h
  have hS : va_S (dm L s.heap.size) s.heap s.heap [] := va_S.rf
  have hB : TS D cA L T r rz [(12, 1), (12, 8), (12, 9), (12, 12), (12, 14), (63, 1000)] σ σ ρ s.heap := ⟨hP, hW, FR.rf⟩
  have hl := lv_entry ([.ref h0]) (n := 2) (Nat.le_of_ble_eq_true rfl)
  rw [lg_entry_eq]
  generalize (lg_sl ([.ref h0]) ++ List.replicate (2 - (lg_sl ([.ref h0])).length) Slot.unset).toArray = ls at hl ⊢
  have hl : lv_has ls 2 [(0, .ref h0)] := hl
  refine lv_aload_n hx hb dX12_readsAll_0 rfl (lv_at hl 0 rfl) ?_
  refine t_gr hx hb hts hown hK hG hB mh0 th0 fq_12_4 rfl mw_5_220 dX12_readsAll_1 (fun b_1 hb_1 mb_1 tb_1 => ?_)
  refine lv_aload_n hx hb dX12_readsAll_4 rfl (lv_at hl 0 rfl) ?_
  refine t_gv hx hb hts hown hK hB mh0 th0 fi_12_11 k0 mw_5_227 dX12_readsAll_5 ?_
  refine lv_iconst (v := 0) hx hb dX12_readsAll_8 (by decide) ?_
  refine t_si hx hb hK hLA hB hS mb_1 tb_1 ai_63 (i_in (by decide) (by decide)) (show 0 ≤ (0 : Int32).toInt by decide) (show (0 : Int32).toInt ≤ 0 by decide) (Or.inr (by decide)) dX12_readsAll_9 (fun H locs σ_2 eσ_2 hB hS => ?_)
  have k_3 : σ_2 b_1 0 = 0 := by rw [eσ_2]; exact up2_same _ _ _ _
  refine lv_aload_n hx hb dX12_readsAll_10 rfl (lv_at hl 0 rfl) ?_
  refine lv_iconst (v := 0) hx hb dX12_readsAll_11 (by decide) ?_
  refine t_pi hx hb hts hown hK hLA hB hS mh0 th0 fi_12_14 rfl rfl rfl (by decide) (by decide) (Or.inl (by decide)) mw_5_230 dX12_readsAll_12 (fun H locs σ_4 eσ_4 hB hS => ?_)
  have k_5 : σ_4 h0 14 = 0 := by rw [eσ_4]; exact up2_same _ _ _ _
  refine lv_aload_n hx hb dX12_readsAll_15 rfl (lv_at hl 0 rfl) ?_
  refine lv_iconst (v := 0) hx hb dX12_readsAll_16 (by decide) ?_
  refine t_pi hx hb hts hown hK hLA hB hS mh0 th0 fi_12_8 rfl rfl rfl (i_lo _) (i_hi _) (Or.inl (by decide)) mw_5_224 dX12_readsAll_17 (fun H locs σ_6 eσ_6 hB hS => ?_)
  have k_7 : σ_6 h0 8 = 0 := by rw [eσ_6]; exact up2_same _ _ _ _
  refine lv_aload_n hx hb dX12_readsAll_20 rfl (lv_at hl 0 rfl) ?_
  refine lv_iconst (v := 0) hx hb dX12_readsAll_21 (by decide) ?_
  refine t_pi hx hb hts hown hK hLA hB hS mh0 th0 fi_12_9 rfl rfl rfl (i_lo _) (i_hi _) (Or.inl (by decide)) mw_5_225 dX12_readsAll_22 (fun H locs σ_8 eσ_8 hB hS => ?_)
  have k_9 : σ_8 h0 9 = 0 := by rw [eσ_8]; exact up2_same _ _ _ _
  refine lv_aload_n hx hb dX12_readsAll_25 rfl (lv_at hl 0 rfl) ?_
  refine lv_iconst (v := 0) hx hb dX12_readsAll_26 (by decide) ?_
  refine t_pi hx hb hts hown hK hLA hB hS mh0 th0 fi_12_12 rfl rfl rfl (by decide) (by decide) (Or.inl (by decide)) mw_5_228 dX12_readsAll_27 (fun H locs σ_10 eσ_10 hB hS => ?_)
  have k_11 : σ_10 h0 12 = 0 := by rw [eσ_10]; exact up2_same _ _ _ _
  refine lv_aload_n hx hb dX12_readsAll_30 rfl (lv_at hl 0 rfl) ?_
  have k_12 : σ_2 h0 11 = 0 := by rw [eσ_2, up2_nej _ _ (by decide)]; exact k0
  have k_13 : σ_4 h0 11 = 0 := by rw [eσ_4, up2_nej _ _ (by decide)]; exact k_12
  have k_14 : σ_6 h0 11 = 0 := by rw [eσ_6, up2_nej _ _ (by decide)]; exact k_13
  have k_15 : σ_8 h0 11 = 0 := by rw [eσ_8, up2_nej _ _ (by decide)]; exact k_14
  have k_16 : σ_10 h0 11 = 0 := by rw [eσ_10, up2_nej _ _ (by decide)]; exact k_15
  have k_17 : σ_2 h0 1 = 0 := by rw [eσ_2, up2_nej _ _ (by decide)]; exact k1
  have k_18 : σ_4 h0 1 = 0 := by rw [eσ_4, up2_nej _ _ (by decide)]; exact k_17
  have k_19 : σ_6 h0 1 = 0 := by rw [eσ_6, up2_nej _ _ (by decide)]; exact k_18
  have k_20 : σ_8 h0 1 = 0 := by rw [eσ_8, up2_nej _ _ (by decide)]; exact k_19
  have k_21 : σ_10 h0 1 = 0 := by rw [eσ_10, up2_nej _ _ (by decide)]; exact k_20
  have k_22 : σ_8 h0 8 = 0 := by rw [eσ_8, up2_nej _ _ (by decide)]; exact k_7
  have k_23 : σ_10 h0 8 = 0 := by rw [eσ_10, up2_nej _ _ (by decide)]; exact k_22
  have k_24 : σ_10 h0 9 = 0 := by rw [eσ_10, up2_nej _ _ (by decide)]; exact k_9
  refine t_ci (va_runV (As := []) (rest := []) ⟨hx, hb, hml, hown, hts⟩ (cz_X12_clauseHere_0 l D cA L T r hG hLA.1 σ_10 ρ hB.2.1 _ h0 mh0 th0 k_16 k_21 k_23 k_24) (cV hts mv_X12_clauseHere mw_6_130 rfl rfl ⟨Nat.le_of_ble_eq_true rfl, Nat.le_of_ble_eq_true rfl⟩) (pV hB.1 hK hN mh0 th0 (show shp cA 12 _ _ _ = .inr (12, Fs12 _ _ _) from rfl) rfl) rfl rfl hl.1 rfl (lv_room (Nat.le_of_ble_eq_true rfl)) dX12_readsAll_31 ⟨Nat.le_of_ble_eq_true rfl, Nat.le_of_ble_eq_true rfl⟩) hLA hA hB hS (by decide) (fun x_27 σ_25 ρ_26 H locs hB fσ_25 pσ_25 hS => ?_)
  obtain ⟨g_28, g_29⟩ := pσ_25
  subst g_28
  refine lv_istore_n (lv' := [(1, .int 0), (0, .ref h0)]) hx hb dX12_readsAll_34 rfl hl (by decide) rfl (fun ls hl => ?_)
  refine lv_iload_n hx hb dX12_readsAll_35 rfl (lv_at hl 0 rfl) ?_
  refine lv_if_eq (tgt := 66) hx hb dX12_readsAll_36 (by decide) (fun _ => ?_) (fun c9 => absurd (by decide) c9)
  refine lv_iload_n hx hb dX12_readsAll_66 rfl (lv_at hl 0 rfl) ?_
  refine lv_if_eq (tgt := 88) hx hb dX12_readsAll_67 (by decide) (fun _ => ?_) (fun c9 => absurd (by decide) c9)
  refine lv_aload_n hx hb dX12_readsAll_88 rfl (lv_at hl 1 rfl) ?_
  refine lv_iconst (v := 0) hx hb dX12_readsAll_89 (by decide) ?_
  refine t_pi hx hb hts hown hK hLA hB hS mh0 th0 fi_12_1 rfl rfl rfl (i_lo _) (i_hi _) (Or.inl (by decide)) mw_5_217 dX12_readsAll_90 (fun H locs σ_30 eσ_30 hB hS => ?_)
  have k_31 : σ_30 h0 1 = 0 := by rw [eσ_30]; exact up2_same _ _ _ _
  refine lv_aload_n hx hb dX12_readsAll_93 rfl (lv_at hl 1 rfl) ?_
  have k_32 : σ_30 h0 9 = 1 := by rw [eσ_30, up2_nej _ _ (by decide)]; exact g_29
  refine t_gv hx hb hts hown hK hB mh0 th0 fi_12_9 k_32 mw_5_225 dX12_readsAll_94 ?_
  refine lv_if_ne (tgt := 104) hx hb dX12_readsAll_97 (by decide) (fun _ => ?_) (fun c9 => absurd c9 (by decide))
  refine lv_iconst (v := 0) hx hb dX12_readsAll_104 (by decide) ?_
  exact W.zret (v := 0) hx hb hr rfl (fun t ht hW => ⟨⟨0, (σ_30, ρ_26), rfl, ⟨hB.2.1, hB.2.2, ⟨rfl, k_32⟩⟩, (show TP D cA L T r σ_30 ρ_26 t.heap from by rw [ht]; exact hB.1)⟩, hS.F ht⟩) hS.2.2 dX12_readsAll_105
set_option maxHeartbeats 4000000 in
set_option maxRecDepth 100000 in
theorem cz_X12_readsAll_6 (l : Launch) (D : va_G) (cA : Nat → ClassId) (L : List Nat) (T : Nat → Nat) (r : Rg) (hG : GR L T r) (hL : L.Nodup) (σ : Sg) (ρ : Lg) (hW : WT L rz T σ) (sz : Nat) (h0 : Nat) (mh0 : h0 ∈ L) (th0 : T h0 = 12) (k0 : σ h0 11 = 6) (k1 : σ h0 1 = 0) : Met l yX12_readsAll (.code yX12_readsAll cX12_readsAll 2 (some .boolean) :: wsA) ({ frames := 4, cells := 0, slots := 0, locals := 89 }) (PR D cA L T r σ ρ sz [.ref h0]) (QI D cA L T r rz [(12, 1), (12, 8), (12, 9), (12, 12), (12, 14), (63, 1000)] σ sz (fun x σ1 => x = 0 ∧ σ1 h0 9 = 1)) 0 0 (dm L sz) := by
  refine Met.ofW (cc := cX12_readsAll) (maxL := 2) (ret := (some .boolean)) (by decide) rfl ?_
  intro p e s m args below meth c s₁ B hml hv
  obtain ⟨rfl, hsz, hP, hK, hN⟩ := hv
  have hx := B.exec
  have hb := B.bytes
  have hr := B.returns
  have hts : ∀ w ∈ wsA, w.before _ s = true := fun w h => atoms_spec (ws := .code yX12_readsAll cX12_readsAll 2 (some .boolean) :: wsA) B.pre w (List.mem_cons_of_mem _ h)
  have hown : s.vm.findClass RX12 = some m.cls := findClass_of_methodNamed B.named
  subst hsz
  have hLA : LA (dm L s.heap.size) L := ⟨hL, fun a h => Or.inl h⟩
  have hA : ∀ q : Nat, s.heap.size ≤ q → dm L s.heap.size q := fun q h => Or.inr h
  have hS : va_S (dm L s.heap.size) s.heap s.heap [] := va_S.rf
  have hB : TS D cA L T r rz [(12, 1), (12, 8), (12, 9), (12, 12), (12, 14), (63, 1000)] σ σ ρ s.heap := ⟨hP, hW, FR.rf⟩
  have hl := lv_entry ([.ref h0]) (n := 2) (Nat.le_of_ble_eq_true rfl)
  rw [lg_entry_eq]
  generalize (lg_sl ([.ref h0]) ++ List.replicate (2 - (lg_sl ([.ref h0])).length) Slot.unset).toArray = ls at hl ⊢
  have hl : lv_has ls 2 [(0, .ref h0)] := hl
  refine lv_aload_n hx hb dX12_readsAll_0 rfl (lv_at hl 0 rfl) ?_
  refine t_gr hx hb hts hown hK hG hB mh0 th0 fq_12_4 rfl mw_5_220 dX12_readsAll_1 (fun b_1 hb_1 mb_1 tb_1 => ?_)
  refine lv_aload_n hx hb dX12_readsAll_4 rfl (lv_at hl 0 rfl) ?_
  refine t_gv hx hb hts hown hK hB mh0 th0 fi_12_11 k0 mw_5_227 dX12_readsAll_5 ?_
  refine lv_iconst (v := 0) hx hb dX12_readsAll_8 (by decide) ?_
  refine t_si hx hb hK hLA hB hS mb_1 tb_1 ai_63 (i_in (by decide) (by decide)) (show 0 ≤ (0 : Int32).toInt by decide) (show (0 : Int32).toInt ≤ 0 by decide) (Or.inr (by decide)) dX12_readsAll_9 (fun H locs σ_2 eσ_2 hB hS => ?_)
  have k_3 : σ_2 b_1 6 = 0 := by rw [eσ_2]; exact up2_same _ _ _ _
  refine lv_aload_n hx hb dX12_readsAll_10 rfl (lv_at hl 0 rfl) ?_
  refine lv_iconst (v := 0) hx hb dX12_readsAll_11 (by decide) ?_
  refine t_pi hx hb hts hown hK hLA hB hS mh0 th0 fi_12_14 rfl rfl rfl (by decide) (by decide) (Or.inl (by decide)) mw_5_230 dX12_readsAll_12 (fun H locs σ_4 eσ_4 hB hS => ?_)
  have k_5 : σ_4 h0 14 = 0 := by rw [eσ_4]; exact up2_same _ _ _ _
  refine lv_aload_n hx hb dX12_readsAll_15 rfl (lv_at hl 0 rfl) ?_
  refine lv_iconst (v := 0) hx hb dX12_readsAll_16 (by decide) ?_
  refine t_pi hx hb hts hown hK hLA hB hS mh0 th0 fi_12_8 rfl rfl rfl (i_lo _) (i_hi _) (Or.inl (by decide)) mw_5_224 dX12_readsAll_17 (fun H locs σ_6 eσ_6 hB hS => ?_)
  have k_7 : σ_6 h0 8 = 0 := by rw [eσ_6]; exact up2_same _ _ _ _
  refine lv_aload_n hx hb dX12_readsAll_20 rfl (lv_at hl 0 rfl) ?_
  refine lv_iconst (v := 0) hx hb dX12_readsAll_21 (by decide) ?_
  refine t_pi hx hb hts hown hK hLA hB hS mh0 th0 fi_12_9 rfl rfl rfl (i_lo _) (i_hi _) (Or.inl (by decide)) mw_5_225 dX12_readsAll_22 (fun H locs σ_8 eσ_8 hB hS => ?_)
  have k_9 : σ_8 h0 9 = 0 := by rw [eσ_8]; exact up2_same _ _ _ _
  refine lv_aload_n hx hb dX12_readsAll_25 rfl (lv_at hl 0 rfl) ?_
  refine lv_iconst (v := 0) hx hb dX12_readsAll_26 (by decide) ?_
  refine t_pi hx hb hts hown hK hLA hB hS mh0 th0 fi_12_12 rfl rfl rfl (by decide) (by decide) (Or.inl (by decide)) mw_5_228 dX12_readsAll_27 (fun H locs σ_10 eσ_10 hB hS => ?_)
  have k_11 : σ_10 h0 12 = 0 := by rw [eσ_10]; exact up2_same _ _ _ _
  refine lv_aload_n hx hb dX12_readsAll_30 rfl (lv_at hl 0 rfl) ?_
  have k_12 : σ_2 h0 11 = 6 := by rw [eσ_2, up2_nej _ _ (by decide)]; exact k0
  have k_13 : σ_4 h0 11 = 6 := by rw [eσ_4, up2_nej _ _ (by decide)]; exact k_12
  have k_14 : σ_6 h0 11 = 6 := by rw [eσ_6, up2_nej _ _ (by decide)]; exact k_13
  have k_15 : σ_8 h0 11 = 6 := by rw [eσ_8, up2_nej _ _ (by decide)]; exact k_14
  have k_16 : σ_10 h0 11 = 6 := by rw [eσ_10, up2_nej _ _ (by decide)]; exact k_15
  have k_17 : σ_2 h0 1 = 0 := by rw [eσ_2, up2_nej _ _ (by decide)]; exact k1
  have k_18 : σ_4 h0 1 = 0 := by rw [eσ_4, up2_nej _ _ (by decide)]; exact k_17
  have k_19 : σ_6 h0 1 = 0 := by rw [eσ_6, up2_nej _ _ (by decide)]; exact k_18
  have k_20 : σ_8 h0 1 = 0 := by rw [eσ_8, up2_nej _ _ (by decide)]; exact k_19
  have k_21 : σ_10 h0 1 = 0 := by rw [eσ_10, up2_nej _ _ (by decide)]; exact k_20
  have k_22 : σ_8 h0 8 = 0 := by rw [eσ_8, up2_nej _ _ (by decide)]; exact k_7
  have k_23 : σ_10 h0 8 = 0 := by rw [eσ_10, up2_nej _ _ (by decide)]; exact k_22
  have k_24 : σ_10 h0 9 = 0 := by rw [eσ_10, up2_nej _ _ (by decide)]; exact k_9
  refine t_ci (va_runV (As := []) (rest := []) ⟨hx, hb, hml, hown, hts⟩ (cz_X12_clauseHere_6 l D cA L T r hG hLA.1 σ_10 ρ hB.2.1 _ h0 mh0 th0 k_16 k_21 k_23 k_24) (cV hts mv_X12_clauseHere mw_6_130 rfl rfl ⟨Nat.le_of_ble_eq_true rfl, Nat.le_of_ble_eq_true rfl⟩) (pV hB.1 hK hN mh0 th0 (show shp cA 12 _ _ _ = .inr (12, Fs12 _ _ _) from rfl) rfl) rfl rfl hl.1 rfl (lv_room (Nat.le_of_ble_eq_true rfl)) dX12_readsAll_31 ⟨Nat.le_of_ble_eq_true rfl, Nat.le_of_ble_eq_true rfl⟩) hLA hA hB hS (by decide) (fun x_27 σ_25 ρ_26 H locs hB fσ_25 pσ_25 hS => ?_)
  obtain ⟨g_28, g_29⟩ := pσ_25
  subst g_28
  refine lv_istore_n (lv' := [(1, .int 0), (0, .ref h0)]) hx hb dX12_readsAll_34 rfl hl (by decide) rfl (fun ls hl => ?_)
  refine lv_iload_n hx hb dX12_readsAll_35 rfl (lv_at hl 0 rfl) ?_
  refine lv_if_eq (tgt := 66) hx hb dX12_readsAll_36 (by decide) (fun _ => ?_) (fun c9 => absurd (by decide) c9)
  refine lv_iload_n hx hb dX12_readsAll_66 rfl (lv_at hl 0 rfl) ?_
  refine lv_if_eq (tgt := 88) hx hb dX12_readsAll_67 (by decide) (fun _ => ?_) (fun c9 => absurd (by decide) c9)
  refine lv_aload_n hx hb dX12_readsAll_88 rfl (lv_at hl 1 rfl) ?_
  refine lv_iconst (v := 0) hx hb dX12_readsAll_89 (by decide) ?_
  refine t_pi hx hb hts hown hK hLA hB hS mh0 th0 fi_12_1 rfl rfl rfl (i_lo _) (i_hi _) (Or.inl (by decide)) mw_5_217 dX12_readsAll_90 (fun H locs σ_30 eσ_30 hB hS => ?_)
  have k_31 : σ_30 h0 1 = 0 := by rw [eσ_30]; exact up2_same _ _ _ _
  refine lv_aload_n hx hb dX12_readsAll_93 rfl (lv_at hl 1 rfl) ?_
  have k_32 : σ_30 h0 9 = 1 := by rw [eσ_30, up2_nej _ _ (by decide)]; exact g_29
  refine t_gv hx hb hts hown hK hB mh0 th0 fi_12_9 k_32 mw_5_225 dX12_readsAll_94 ?_
  refine lv_if_ne (tgt := 104) hx hb dX12_readsAll_97 (by decide) (fun _ => ?_) (fun c9 => absurd c9 (by decide))
  refine lv_iconst (v := 0) hx hb dX12_readsAll_104 (by decide) ?_
  exact W.zret (v := 0) hx hb hr rfl (fun t ht hW => ⟨⟨0, (σ_30, ρ_26), rfl, ⟨hB.2.1, hB.2.2, ⟨rfl, k_32⟩⟩, (show TP D cA L T r σ_30 ρ_26 t.heap from by rw [ht]; exact hB.1)⟩, hS.F ht⟩) hS.2.2 dX12_readsAll_105
set_option maxHeartbeats 4000000 in
set_option maxRecDepth 100000 in
theorem cz_X12_isRule (l : Launch) (D : va_G) (cA : Nat → ClassId) (L : List Nat) (T : Nat → Nat) (r : Rg) (hG : GR L T r) (hL : L.Nodup) (σ : Sg) (ρ : Lg) (hW : WT L rz T σ) (sz : Nat) (h0 : Nat) (mh0 : h0 ∈ L) (th0 : T h0 = 12) (p1 : Int32) : Met l yX12_isRule (.code yX12_isRule cX12_isRule 2 (some .boolean) :: wsA) ({ frames := 0, cells := 0, slots := 0, locals := 0 }) (PR D cA L T r σ ρ sz [.ref h0, .int p1]) (QI D cA L T r rz ([] : List (Nat × Nat)) σ sz (fun x σ1 => x = 0)) 0 0 (dm L sz) := by
  refine Met.ofW (cc := cX12_isRule) (maxL := 2) (ret := (some .boolean)) (by decide) rfl ?_
  intro p e s m args below meth c s₁ B hml hv
  obtain ⟨rfl, hsz, hP, hK, hN⟩ := hv
  have hx := B.exec
  have hb := B.bytes
  have hr := B.returns
  have hts : ∀ w ∈ wsA, w.before _ s = true := fun w h => atoms_spec (ws := .code yX12_isRule cX12_isRule 2 (some .boolean) :: wsA) B.pre w (List.mem_cons_of_mem _ h)
  have hown : s.vm.findClass RX12 = some m.cls := findClass_of_methodNamed B.named
  subst hsz
  have hLA : LA (dm L s.heap.size) L := ⟨hL, fun a h => Or.inl h⟩
  have hA : ∀ q : Nat, s.heap.size ≤ q → dm L s.heap.size q := fun q h => Or.inr h
  have hS : va_S (dm L s.heap.size) s.heap s.heap [] := va_S.rf
  have hB : TS D cA L T r rz ([] : List (Nat × Nat)) σ σ ρ s.heap := ⟨hP, hW, FR.rf⟩
  have hl := lv_entry ([.ref h0, .int p1]) (n := 2) (Nat.le_of_ble_eq_true rfl)
  rw [lg_entry_eq]
  generalize (lg_sl ([.ref h0, .int p1]) ++ List.replicate (2 - (lg_sl ([.ref h0, .int p1])).length) Slot.unset).toArray = ls at hl ⊢
  have hl : lv_has ls 2 [(0, .ref h0), (1, .int p1)] := hl
  refine lv_iload_n hx hb dX12_isRule_0 rfl (lv_at hl 1 rfl) ?_
  refine lv_if_lt (tgt := 16) hx hb dX12_isRule_1 (by decide) (fun c_1 => ?_) (fun c_1 => ?_)
  · skip
    have uc_1 := i_lt (n := 0) (by decide) c_1
    refine lv_iconst (v := 0) hx hb dX12_isRule_16 (by decide) ?_
    exact W.zret (v := 0) hx hb hr rfl (fun t ht hW => ⟨⟨0, (σ, ρ), rfl, ⟨hB.2.1, hB.2.2, rfl⟩, (show TP D cA L T r σ ρ t.heap from by rw [ht]; exact hB.1)⟩, hS.F ht⟩) hS.2.2 dX12_isRule_17
  · skip
    have uc_1 := i_nlt (n := 0) (by decide) c_1
    refine lv_iload_n hx hb dX12_isRule_4 rfl (lv_at hl 1 rfl) ?_
    refine lv_aload_n hx hb dX12_isRule_5 rfl (lv_at hl 0 rfl) ?_
    refine t_gi hx hb hts hown hK hB mh0 th0 fi_12_2 rfl mw_5_218 dX12_isRule_6 (fun x_2 ex_2 lx_2 ux_2 => ?_)
    obtain rfl : x_2 = 0 := i_is (n := 0) (by decide) (by omega)
    refine lv_icmp_ge (tgt := 16) hx hb dX12_isRule_9 (by decide) (fun c_3 => ?_) (fun c_3 => ?_)
    · skip
      have uc_3 := i_ge (n := 0) (by decide) c_3
      refine lv_iconst (v := 0) hx hb dX12_isRule_16 (by decide) ?_
      exact W.zret (v := 0) hx hb hr rfl (fun t ht hW => ⟨⟨0, (σ, ρ), rfl, ⟨hB.2.1, hB.2.2, rfl⟩, (show TP D cA L T r σ ρ t.heap from by rw [ht]; exact hB.1)⟩, hS.F ht⟩) hS.2.2 dX12_isRule_17
    · skip
      have uc_3 := i_nge (n := 0) (by decide) c_3
      exfalso; omega
set_option maxHeartbeats 4000000 in
set_option maxRecDepth 100000 in
theorem cz_X12_isHill (l : Launch) (D : va_G) (cA : Nat → ClassId) (L : List Nat) (T : Nat → Nat) (r : Rg) (hG : GR L T r) (hL : L.Nodup) (σ : Sg) (ρ : Lg) (hW : WT L rz T σ) (sz : Nat) (h0 : Nat) (mh0 : h0 ∈ L) (th0 : T h0 = 12) : Met l yX12_isHill (.code yX12_isHill cX12_isHill 1 (some .boolean) :: wsA) ({ frames := 0, cells := 0, slots := 0, locals := 0 }) (PR D cA L T r σ ρ sz [.ref h0]) (QI D cA L T r rz ([] : List (Nat × Nat)) σ sz (fun x σ1 => x = 0)) 0 0 (dm L sz) := by
  refine Met.ofW (cc := cX12_isHill) (maxL := 1) (ret := (some .boolean)) (by decide) rfl ?_
  intro p e s m args below meth c s₁ B hml hv
  obtain ⟨rfl, hsz, hP, hK, hN⟩ := hv
  have hx := B.exec
  have hb := B.bytes
  have hr := B.returns
  have hts : ∀ w ∈ wsA, w.before _ s = true := fun w h => atoms_spec (ws := .code yX12_isHill cX12_isHill 1 (some .boolean) :: wsA) B.pre w (List.mem_cons_of_mem _ h)
  have hown : s.vm.findClass RX12 = some m.cls := findClass_of_methodNamed B.named
  subst hsz
  have hLA : LA (dm L s.heap.size) L := ⟨hL, fun a h => Or.inl h⟩
  have hA : ∀ q : Nat, s.heap.size ≤ q → dm L s.heap.size q := fun q h => Or.inr h
  have hS : va_S (dm L s.heap.size) s.heap s.heap [] := va_S.rf
  have hB : TS D cA L T r rz ([] : List (Nat × Nat)) σ σ ρ s.heap := ⟨hP, hW, FR.rf⟩
  have hl := lv_entry ([.ref h0]) (n := 1) (Nat.le_of_ble_eq_true rfl)
  rw [lg_entry_eq]
  generalize (lg_sl ([.ref h0]) ++ List.replicate (1 - (lg_sl ([.ref h0])).length) Slot.unset).toArray = ls at hl ⊢
  have hl : lv_has ls 1 [(0, .ref h0)] := hl
  refine lv_aload_n hx hb dX12_isHill_0 rfl (lv_at hl 0 rfl) ?_
  refine t_gr hx hb hts hown hK hG hB mh0 th0 fq_12_20 rfl mw_5_236 dX12_isHill_1 (fun b_1 hb_1 mb_1 tb_1 => ?_)
  refine lv_iconst (v := 0) hx hb dX12_isHill_4 (by decide) ?_
  refine t_ai hx hb hK hB mb_1 tb_1 ai_70 (fun _ => rfl) (i_in (by decide) (by decide)) dX12_isHill_5 (fun x_2 ex_2 lx_2 ux_2 => ?_)
  obtain rfl : x_2 = 0 := i_is (n := 0) (by decide) (by omega)
  refine lv_if_le (tgt := 13) hx hb dX12_isHill_6 (by decide) (fun _ => ?_) (fun c9 => absurd (by decide) c9)
  refine lv_iconst (v := 0) hx hb dX12_isHill_13 (by decide) ?_
  exact W.zret (v := 0) hx hb hr rfl (fun t ht hW => ⟨⟨0, (σ, ρ), rfl, ⟨hB.2.1, hB.2.2, rfl⟩, (show TP D cA L T r σ ρ t.heap from by rw [ht]; exact hB.1)⟩, hS.F ht⟩) hS.2.2 dX12_isHill_14
set_option maxHeartbeats 4000000 in
set_option maxRecDepth 100000 in
theorem cz_X12_isSort (l : Launch) (D : va_G) (cA : Nat → ClassId) (L : List Nat) (T : Nat → Nat) (r : Rg) (hG : GR L T r) (hL : L.Nodup) (σ : Sg) (ρ : Lg) (hW : WT L rz T σ) (sz : Nat) (h0 : Nat) (mh0 : h0 ∈ L) (th0 : T h0 = 12) (p1 : Int32) : Met l yX12_isSort (.code yX12_isSort cX12_isSort 2 (some .boolean) :: wsA) ({ frames := 0, cells := 0, slots := 0, locals := 0 }) (PR D cA L T r σ ρ sz [.ref h0, .int p1]) (QI D cA L T r rz ([] : List (Nat × Nat)) σ sz (fun x σ1 => x = 0)) 0 0 (dm L sz) := by
  refine Met.ofW (cc := cX12_isSort) (maxL := 2) (ret := (some .boolean)) (by decide) rfl ?_
  intro p e s m args below meth c s₁ B hml hv
  obtain ⟨rfl, hsz, hP, hK, hN⟩ := hv
  have hx := B.exec
  have hb := B.bytes
  have hr := B.returns
  have hts : ∀ w ∈ wsA, w.before _ s = true := fun w h => atoms_spec (ws := .code yX12_isSort cX12_isSort 2 (some .boolean) :: wsA) B.pre w (List.mem_cons_of_mem _ h)
  have hown : s.vm.findClass RX12 = some m.cls := findClass_of_methodNamed B.named
  subst hsz
  have hLA : LA (dm L s.heap.size) L := ⟨hL, fun a h => Or.inl h⟩
  have hA : ∀ q : Nat, s.heap.size ≤ q → dm L s.heap.size q := fun q h => Or.inr h
  have hS : va_S (dm L s.heap.size) s.heap s.heap [] := va_S.rf
  have hB : TS D cA L T r rz ([] : List (Nat × Nat)) σ σ ρ s.heap := ⟨hP, hW, FR.rf⟩
  have hl := lv_entry ([.ref h0, .int p1]) (n := 2) (Nat.le_of_ble_eq_true rfl)
  rw [lg_entry_eq]
  generalize (lg_sl ([.ref h0, .int p1]) ++ List.replicate (2 - (lg_sl ([.ref h0, .int p1])).length) Slot.unset).toArray = ls at hl ⊢
  have hl : lv_has ls 2 [(0, .ref h0), (1, .int p1)] := hl
  refine lv_iload_n hx hb dX12_isSort_0 rfl (lv_at hl 1 rfl) ?_
  refine lv_if_lt (tgt := 18) hx hb dX12_isSort_1 (by decide) (fun c_1 => ?_) (fun c_1 => ?_)
  · skip
    have uc_1 := i_lt (n := 0) (by decide) c_1
    refine lv_iconst (v := 0) hx hb dX12_isSort_18 (by decide) ?_
    exact W.zret (v := 0) hx hb hr rfl (fun t ht hW => ⟨⟨0, (σ, ρ), rfl, ⟨hB.2.1, hB.2.2, rfl⟩, (show TP D cA L T r σ ρ t.heap from by rw [ht]; exact hB.1)⟩, hS.F ht⟩) hS.2.2 dX12_isSort_19
  · skip
    have uc_1 := i_nlt (n := 0) (by decide) c_1
    refine lv_iload_n hx hb dX12_isSort_4 rfl (lv_at hl 1 rfl) ?_
    refine lv_aload_n hx hb dX12_isSort_5 rfl (lv_at hl 0 rfl) ?_
    refine t_gr hx hb hts hown hK hG hB mh0 th0 fq_12_20 rfl mw_5_236 dX12_isSort_6 (fun b_2 hb_2 mb_2 tb_2 => ?_)
    refine lv_iconst (v := 1) hx hb dX12_isSort_9 (by decide) ?_
    refine t_ai hx hb hK hB mb_2 tb_2 ai_70 (fun _ => rfl) (i_in (by decide) (by decide)) dX12_isSort_10 (fun x_3 ex_3 lx_3 ux_3 => ?_)
    obtain rfl : x_3 = 0 := i_is (n := 0) (by decide) (by omega)
    refine lv_icmp_ge (tgt := 18) hx hb dX12_isSort_11 (by decide) (fun c_4 => ?_) (fun c_4 => ?_)
    · skip
      have uc_4 := i_ge (n := 0) (by decide) c_4
      refine lv_iconst (v := 0) hx hb dX12_isSort_18 (by decide) ?_
      exact W.zret (v := 0) hx hb hr rfl (fun t ht hW => ⟨⟨0, (σ, ρ), rfl, ⟨hB.2.1, hB.2.2, rfl⟩, (show TP D cA L T r σ ρ t.heap from by rw [ht]; exact hB.1)⟩, hS.F ht⟩) hS.2.2 dX12_isSort_19
    · skip
      have uc_4 := i_nge (n := 0) (by decide) c_4
      exfalso; omega
set_option maxHeartbeats 4000000 in
set_option maxRecDepth 100000 in
theorem cz_X12_isBend (l : Launch) (D : va_G) (cA : Nat → ClassId) (L : List Nat) (T : Nat → Nat) (r : Rg) (hG : GR L T r) (hL : L.Nodup) (σ : Sg) (ρ : Lg) (hW : WT L rz T σ) (sz : Nat) (h0 : Nat) (mh0 : h0 ∈ L) (th0 : T h0 = 12) (p1 : Int32) : Met l yX12_isBend (.code yX12_isBend cX12_isBend 2 (some .boolean) :: wsA) ({ frames := 0, cells := 0, slots := 0, locals := 0 }) (PR D cA L T r σ ρ sz [.ref h0, .int p1]) (QI D cA L T r rz ([] : List (Nat × Nat)) σ sz (fun x σ1 => x = 0)) 0 0 (dm L sz) := by
  refine Met.ofW (cc := cX12_isBend) (maxL := 2) (ret := (some .boolean)) (by decide) rfl ?_
  intro p e s m args below meth c s₁ B hml hv
  obtain ⟨rfl, hsz, hP, hK, hN⟩ := hv
  have hx := B.exec
  have hb := B.bytes
  have hr := B.returns
  have hts : ∀ w ∈ wsA, w.before _ s = true := fun w h => atoms_spec (ws := .code yX12_isBend cX12_isBend 2 (some .boolean) :: wsA) B.pre w (List.mem_cons_of_mem _ h)
  have hown : s.vm.findClass RX12 = some m.cls := findClass_of_methodNamed B.named
  subst hsz
  have hLA : LA (dm L s.heap.size) L := ⟨hL, fun a h => Or.inl h⟩
  have hA : ∀ q : Nat, s.heap.size ≤ q → dm L s.heap.size q := fun q h => Or.inr h
  have hS : va_S (dm L s.heap.size) s.heap s.heap [] := va_S.rf
  have hB : TS D cA L T r rz ([] : List (Nat × Nat)) σ σ ρ s.heap := ⟨hP, hW, FR.rf⟩
  have hl := lv_entry ([.ref h0, .int p1]) (n := 2) (Nat.le_of_ble_eq_true rfl)
  rw [lg_entry_eq]
  generalize (lg_sl ([.ref h0, .int p1]) ++ List.replicate (2 - (lg_sl ([.ref h0, .int p1])).length) Slot.unset).toArray = ls at hl ⊢
  have hl : lv_has ls 2 [(0, .ref h0), (1, .int p1)] := hl
  refine lv_iload_n hx hb dX12_isBend_0 rfl (lv_at hl 1 rfl) ?_
  refine lv_if_lt (tgt := 18) hx hb dX12_isBend_1 (by decide) (fun c_1 => ?_) (fun c_1 => ?_)
  · skip
    have uc_1 := i_lt (n := 0) (by decide) c_1
    refine lv_iconst (v := 0) hx hb dX12_isBend_18 (by decide) ?_
    exact W.zret (v := 0) hx hb hr rfl (fun t ht hW => ⟨⟨0, (σ, ρ), rfl, ⟨hB.2.1, hB.2.2, rfl⟩, (show TP D cA L T r σ ρ t.heap from by rw [ht]; exact hB.1)⟩, hS.F ht⟩) hS.2.2 dX12_isBend_19
  · skip
    have uc_1 := i_nlt (n := 0) (by decide) c_1
    refine lv_iload_n hx hb dX12_isBend_4 rfl (lv_at hl 1 rfl) ?_
    refine lv_aload_n hx hb dX12_isBend_5 rfl (lv_at hl 0 rfl) ?_
    refine t_gr hx hb hts hown hK hG hB mh0 th0 fq_12_20 rfl mw_5_236 dX12_isBend_6 (fun b_2 hb_2 mb_2 tb_2 => ?_)
    refine lv_iconst (v := 2) hx hb dX12_isBend_9 (by decide) ?_
    refine t_ai hx hb hK hB mb_2 tb_2 ai_70 (fun _ => rfl) (i_in (by decide) (by decide)) dX12_isBend_10 (fun x_3 ex_3 lx_3 ux_3 => ?_)
    obtain rfl : x_3 = 0 := i_is (n := 0) (by decide) (by omega)
    refine lv_icmp_ge (tgt := 18) hx hb dX12_isBend_11 (by decide) (fun c_4 => ?_) (fun c_4 => ?_)
    · skip
      have uc_4 := i_ge (n := 0) (by decide) c_4
      refine lv_iconst (v := 0) hx hb dX12_isBend_18 (by decide) ?_
      exact W.zret (v := 0) hx hb hr rfl (fun t ht hW => ⟨⟨0, (σ, ρ), rfl, ⟨hB.2.1, hB.2.2, rfl⟩, (show TP D cA L T r σ ρ t.heap from by rw [ht]; exact hB.1)⟩, hS.F ht⟩) hS.2.2 dX12_isBend_19
    · skip
      have uc_4 := i_nge (n := 0) (by decide) c_4
      exfalso; omega
set_option maxHeartbeats 4000000 in
set_option maxRecDepth 100000 in
theorem cz_X12_isPilgrim (l : Launch) (D : va_G) (cA : Nat → ClassId) (L : List Nat) (T : Nat → Nat) (r : Rg) (hG : GR L T r) (hL : L.Nodup) (σ : Sg) (ρ : Lg) (hW : WT L rz T σ) (sz : Nat) (h0 : Nat) (mh0 : h0 ∈ L) (th0 : T h0 = 12) (p1 : Int32) : Met l yX12_isPilgrim (.code yX12_isPilgrim cX12_isPilgrim 2 (some .boolean) :: wsA) ({ frames := 0, cells := 0, slots := 0, locals := 0 }) (PR D cA L T r σ ρ sz [.ref h0, .int p1]) (QI D cA L T r rz ([] : List (Nat × Nat)) σ sz (fun x σ1 => x = 0)) 0 0 (dm L sz) := by
  refine Met.ofW (cc := cX12_isPilgrim) (maxL := 2) (ret := (some .boolean)) (by decide) rfl ?_
  intro p e s m args below meth c s₁ B hml hv
  obtain ⟨rfl, hsz, hP, hK, hN⟩ := hv
  have hx := B.exec
  have hb := B.bytes
  have hr := B.returns
  have hts : ∀ w ∈ wsA, w.before _ s = true := fun w h => atoms_spec (ws := .code yX12_isPilgrim cX12_isPilgrim 2 (some .boolean) :: wsA) B.pre w (List.mem_cons_of_mem _ h)
  have hown : s.vm.findClass RX12 = some m.cls := findClass_of_methodNamed B.named
  subst hsz
  have hLA : LA (dm L s.heap.size) L := ⟨hL, fun a h => Or.inl h⟩
  have hA : ∀ q : Nat, s.heap.size ≤ q → dm L s.heap.size q := fun q h => Or.inr h
  have hS : va_S (dm L s.heap.size) s.heap s.heap [] := va_S.rf
  have hB : TS D cA L T r rz ([] : List (Nat × Nat)) σ σ ρ s.heap := ⟨hP, hW, FR.rf⟩
  have hl := lv_entry ([.ref h0, .int p1]) (n := 2) (Nat.le_of_ble_eq_true rfl)
  rw [lg_entry_eq]
  generalize (lg_sl ([.ref h0, .int p1]) ++ List.replicate (2 - (lg_sl ([.ref h0, .int p1])).length) Slot.unset).toArray = ls at hl ⊢
  have hl : lv_has ls 2 [(0, .ref h0), (1, .int p1)] := hl
  refine lv_iload_n hx hb dX12_isPilgrim_0 rfl (lv_at hl 1 rfl) ?_
  refine lv_if_lt (tgt := 18) hx hb dX12_isPilgrim_1 (by decide) (fun c_1 => ?_) (fun c_1 => ?_)
  · skip
    have uc_1 := i_lt (n := 0) (by decide) c_1
    refine lv_iconst (v := 0) hx hb dX12_isPilgrim_18 (by decide) ?_
    exact W.zret (v := 0) hx hb hr rfl (fun t ht hW => ⟨⟨0, (σ, ρ), rfl, ⟨hB.2.1, hB.2.2, rfl⟩, (show TP D cA L T r σ ρ t.heap from by rw [ht]; exact hB.1)⟩, hS.F ht⟩) hS.2.2 dX12_isPilgrim_19
  · skip
    have uc_1 := i_nlt (n := 0) (by decide) c_1
    refine lv_iload_n hx hb dX12_isPilgrim_4 rfl (lv_at hl 1 rfl) ?_
    refine lv_aload_n hx hb dX12_isPilgrim_5 rfl (lv_at hl 0 rfl) ?_
    refine t_gr hx hb hts hown hK hG hB mh0 th0 fq_12_20 rfl mw_5_236 dX12_isPilgrim_6 (fun b_2 hb_2 mb_2 tb_2 => ?_)
    refine lv_iconst (v := 3) hx hb dX12_isPilgrim_9 (by decide) ?_
    refine t_ai hx hb hK hB mb_2 tb_2 ai_70 (fun _ => rfl) (i_in (by decide) (by decide)) dX12_isPilgrim_10 (fun x_3 ex_3 lx_3 ux_3 => ?_)
    obtain rfl : x_3 = 0 := i_is (n := 0) (by decide) (by omega)
    refine lv_icmp_ge (tgt := 18) hx hb dX12_isPilgrim_11 (by decide) (fun c_4 => ?_) (fun c_4 => ?_)
    · skip
      have uc_4 := i_ge (n := 0) (by decide) c_4
      refine lv_iconst (v := 0) hx hb dX12_isPilgrim_18 (by decide) ?_
      exact W.zret (v := 0) hx hb hr rfl (fun t ht hW => ⟨⟨0, (σ, ρ), rfl, ⟨hB.2.1, hB.2.2, rfl⟩, (show TP D cA L T r σ ρ t.heap from by rw [ht]; exact hB.1)⟩, hS.F ht⟩) hS.2.2 dX12_isPilgrim_19
    · skip
      have uc_4 := i_nge (n := 0) (by decide) c_4
      exfalso; omega
set_option maxHeartbeats 4000000 in
set_option maxRecDepth 100000 in
theorem cz_X12_in_60 (l : Launch) (D : va_G) (cA : Nat → ClassId) (L : List Nat) (T : Nat → Nat) (r : Rg) (hG : GR L T r) (hL : L.Nodup) (σ : Sg) (ρ : Lg) (hW : WT L rz T σ) (sz : Nat) (p1 : Int32) : Met l yX12_in (.code yX12_in cX12_in 6 (some .boolean) :: wsA) ({ frames := 0, cells := 0, slots := 0, locals := 0 }) (PR D cA L T r σ ρ sz [.long p1.toInt64, .long 0, .long 60]) (QI D cA L T r rz ([] : List (Nat × Nat)) σ sz (fun x σ1 => x = if 0 ≤ p1.toInt ∧ p1.toInt ≤ 60 then 1 else 0)) 0 0 (dm L sz) := by
  refine Met.ofW (cc := cX12_in) (maxL := 6) (ret := (some .boolean)) (by decide) rfl ?_
  intro p e s m args below meth c s₁ B hml hv
  obtain ⟨rfl, hsz, hP, hK, hN⟩ := hv
  have hx := B.exec
  have hb := B.bytes
  have hr := B.returns
  have hts : ∀ w ∈ wsA, w.before _ s = true := fun w h => atoms_spec (ws := .code yX12_in cX12_in 6 (some .boolean) :: wsA) B.pre w (List.mem_cons_of_mem _ h)
  have hown : s.vm.findClass RX12 = some m.cls := findClass_of_methodNamed B.named
  subst hsz
  have hLA : LA (dm L s.heap.size) L := ⟨hL, fun a h => Or.inl h⟩
  have hA : ∀ q : Nat, s.heap.size ≤ q → dm L s.heap.size q := fun q h => Or.inr h
  have hS : va_S (dm L s.heap.size) s.heap s.heap [] := va_S.rf
  have hB : TS D cA L T r rz ([] : List (Nat × Nat)) σ σ ρ s.heap := ⟨hP, hW, FR.rf⟩
  have hl := lv_entry ([.long p1.toInt64, .long 0, .long 60]) (n := 6) (Nat.le_of_ble_eq_true rfl)
  rw [lg_entry_eq]
  generalize (lg_sl ([.long p1.toInt64, .long 0, .long 60]) ++ List.replicate (6 - (lg_sl ([.long p1.toInt64, .long 0, .long 60])).length) Slot.unset).toArray = ls at hl ⊢
  have hl : lv_has ls 6 [(0, .long p1.toInt64), (2, .long 0), (4, .long 60)] := hl
  refine lv_lload_n hx hb dX12_in_0 rfl (lv_at hl 0 rfl) ?_
  refine lv_lload_n hx hb dX12_in_1 rfl (lv_at hl 1 rfl) ?_
  refine W.lcmp hx hb dX12_in_2 ?_
  refine lv_if_lt (tgt := 17) hx hb dX12_in_3 (by decide) (fun c_1 => ?_) (fun c_1 => ?_)
  · skip
    have uc_1 := l_lt (l_i p1) (by decide : (0 : Int64).toInt = 0) ((lg_cmp_lt _ _).mp c_1)
    refine lv_iconst (v := 0) hx hb dX12_in_17 (by decide) ?_
    exact W.zret (v := 0) hx hb hr rfl (fun t ht hW => ⟨⟨0, (σ, ρ), rfl, ⟨hB.2.1, hB.2.2, (if_neg (by omega)).symm⟩, (show TP D cA L T r σ ρ t.heap from by rw [ht]; exact hB.1)⟩, hS.F ht⟩) hS.2.2 dX12_in_18
  · skip
    have uc_1 := l_nlt (l_i p1) (by decide : (0 : Int64).toInt = 0) (mt (lg_cmp_lt _ _).mpr c_1)
    refine lv_lload_n hx hb dX12_in_6 rfl (lv_at hl 0 rfl) ?_
    refine lv_lload hx hb dX12_in_7 (lv_at hl 2 rfl) ?_
    refine W.lcmp hx hb dX12_in_9 ?_
    refine lv_if_gt (tgt := 17) hx hb dX12_in_10 (by decide) (fun c_2 => ?_) (fun c_2 => ?_)
    · skip
      have uc_2 := l_lt (by decide : (60 : Int64).toInt = 60) (l_i p1) ((lg_cmp_gt _ _).mp c_2)
      refine lv_iconst (v := 0) hx hb dX12_in_17 (by decide) ?_
      exact W.zret (v := 0) hx hb hr rfl (fun t ht hW => ⟨⟨0, (σ, ρ), rfl, ⟨hB.2.1, hB.2.2, (if_neg (by omega)).symm⟩, (show TP D cA L T r σ ρ t.heap from by rw [ht]; exact hB.1)⟩, hS.F ht⟩) hS.2.2 dX12_in_18
    · skip
      have uc_2 := l_nlt (by decide : (60 : Int64).toInt = 60) (l_i p1) (mt (lg_cmp_gt _ _).mpr c_2)
      refine lv_iconst (v := 1) hx hb dX12_in_13 (by decide) ?_
      refine lv_goto (tgt := 18) hx hb dX12_in_14 (by decide) ?_
      exact W.zret (v := 1) hx hb hr rfl (fun t ht hW => ⟨⟨1, (σ, ρ), rfl, ⟨hB.2.1, hB.2.2, (if_pos ⟨by omega, by omega⟩).symm⟩, (show TP D cA L T r σ ρ t.heap from by rw [ht]; exact hB.1)⟩, hS.F ht⟩) hS.2.2 dX12_in_18
set_option maxHeartbeats 4000000 in
set_option maxRecDepth 100000 in
theorem cz_X12_in_3 (l : Launch) (D : va_G) (cA : Nat → ClassId) (L : List Nat) (T : Nat → Nat) (r : Rg) (hG : GR L T r) (hL : L.Nodup) (σ : Sg) (ρ : Lg) (hW : WT L rz T σ) (sz : Nat) (p1 : Int32) : Met l yX12_in (.code yX12_in cX12_in 6 (some .boolean) :: wsA) ({ frames := 0, cells := 0, slots := 0, locals := 0 }) (PR D cA L T r σ ρ sz [.long p1.toInt64, .long 0, .long 3]) (QI D cA L T r rz ([] : List (Nat × Nat)) σ sz (fun x σ1 => x = if 0 ≤ p1.toInt ∧ p1.toInt ≤ 3 then 1 else 0)) 0 0 (dm L sz) := by
  refine Met.ofW (cc := cX12_in) (maxL := 6) (ret := (some .boolean)) (by decide) rfl ?_
  intro p e s m args below meth c s₁ B hml hv
  obtain ⟨rfl, hsz, hP, hK, hN⟩ := hv
  have hx := B.exec
  have hb := B.bytes
  have hr := B.returns
  have hts : ∀ w ∈ wsA, w.before _ s = true := fun w h => atoms_spec (ws := .code yX12_in cX12_in 6 (some .boolean) :: wsA) B.pre w (List.mem_cons_of_mem _ h)
  have hown : s.vm.findClass RX12 = some m.cls := findClass_of_methodNamed B.named
  subst hsz
  have hLA : LA (dm L s.heap.size) L := ⟨hL, fun a h => Or.inl h⟩
  have hA : ∀ q : Nat, s.heap.size ≤ q → dm L s.heap.size q := fun q h => Or.inr h
  have hS : va_S (dm L s.heap.size) s.heap s.heap [] := va_S.rf
  have hB : TS D cA L T r rz ([] : List (Nat × Nat)) σ σ ρ s.heap := ⟨hP, hW, FR.rf⟩
  have hl := lv_entry ([.long p1.toInt64, .long 0, .long 3]) (n := 6) (Nat.le_of_ble_eq_true rfl)
  rw [lg_entry_eq]
  generalize (lg_sl ([.long p1.toInt64, .long 0, .long 3]) ++ List.replicate (6 - (lg_sl ([.long p1.toInt64, .long 0, .long 3])).length) Slot.unset).toArray = ls at hl ⊢
  have hl : lv_has ls 6 [(0, .long p1.toInt64), (2, .long 0), (4, .long 3)] := hl
  refine lv_lload_n hx hb dX12_in_0 rfl (lv_at hl 0 rfl) ?_
  refine lv_lload_n hx hb dX12_in_1 rfl (lv_at hl 1 rfl) ?_
  refine W.lcmp hx hb dX12_in_2 ?_
  refine lv_if_lt (tgt := 17) hx hb dX12_in_3 (by decide) (fun c_1 => ?_) (fun c_1 => ?_)
  · skip
    have uc_1 := l_lt (l_i p1) (by decide : (0 : Int64).toInt = 0) ((lg_cmp_lt _ _).mp c_1)
    refine lv_iconst (v := 0) hx hb dX12_in_17 (by decide) ?_
    exact W.zret (v := 0) hx hb hr rfl (fun t ht hW => ⟨⟨0, (σ, ρ), rfl, ⟨hB.2.1, hB.2.2, (if_neg (by omega)).symm⟩, (show TP D cA L T r σ ρ t.heap from by rw [ht]; exact hB.1)⟩, hS.F ht⟩) hS.2.2 dX12_in_18
  · skip
    have uc_1 := l_nlt (l_i p1) (by decide : (0 : Int64).toInt = 0) (mt (lg_cmp_lt _ _).mpr c_1)
    refine lv_lload_n hx hb dX12_in_6 rfl (lv_at hl 0 rfl) ?_
    refine lv_lload hx hb dX12_in_7 (lv_at hl 2 rfl) ?_
    refine W.lcmp hx hb dX12_in_9 ?_
    refine lv_if_gt (tgt := 17) hx hb dX12_in_10 (by decide) (fun c_2 => ?_) (fun c_2 => ?_)
    · skip
      have uc_2 := l_lt (by decide : (3 : Int64).toInt = 3) (l_i p1) ((lg_cmp_gt _ _).mp c_2)
      refine lv_iconst (v := 0) hx hb dX12_in_17 (by decide) ?_
      exact W.zret (v := 0) hx hb hr rfl (fun t ht hW => ⟨⟨0, (σ, ρ), rfl, ⟨hB.2.1, hB.2.2, (if_neg (by omega)).symm⟩, (show TP D cA L T r σ ρ t.heap from by rw [ht]; exact hB.1)⟩, hS.F ht⟩) hS.2.2 dX12_in_18
    · skip
      have uc_2 := l_nlt (by decide : (3 : Int64).toInt = 3) (l_i p1) (mt (lg_cmp_gt _ _).mpr c_2)
      refine lv_iconst (v := 1) hx hb dX12_in_13 (by decide) ?_
      refine lv_goto (tgt := 18) hx hb dX12_in_14 (by decide) ?_
      exact W.zret (v := 1) hx hb hr rfl (fun t ht hW => ⟨⟨1, (σ, ρ), rfl, ⟨hB.2.1, hB.2.2, (if_pos ⟨by omega, by omega⟩).symm⟩, (show TP D cA L T r σ ρ t.heap from by rw [ht]; exact hB.1)⟩, hS.F ht⟩) hS.2.2 dX12_in_18
set_option maxHeartbeats 4000000 in
set_option maxRecDepth 100000 in
theorem cz_X12_feed (l : Launch) (D : va_G) (cA : Nat → ClassId) (L : List Nat) (T : Nat → Nat) (r : Rg) (hG : GR L T r) (hL : L.Nodup) (σ : Sg) (ρ : Lg) (hW : WT L rz T σ) (sz : Nat) (h0 : Nat) (mh0 : h0 ∈ L) (th0 : T h0 = 12) (p1 : Int32) (p2 : Int32) (p3 : Int32) (p4 : Int32) (p5 : Int32) (hZ : ZM L T σ) : Met l yX12_feed (.code yX12_feed cX12_feed 6 (some .int) :: wsA) ({ frames := 1, cells := 0, slots := 0, locals := 22 }) (PR D cA L T r σ ρ sz [.ref h0, .int p1, .int p2, .int p3, .int p4, .int p5]) (QI D cA L T r rz [(12, 1), (61, 1000)] σ sz (fun x σ1 => x = 20)) 0 0 (dm L sz) := by
  refine Met.ofW (cc := cX12_feed) (maxL := 6) (ret := (some .int)) (by decide) rfl ?_
  intro p e s m args below meth c s₁ B hml hv
  obtain ⟨rfl, hsz, hP, hK, hN⟩ := hv
  have hx := B.exec
  have hb := B.bytes
  have hr := B.returns
  have hts : ∀ w ∈ wsA, w.before _ s = true := fun w h => atoms_spec (ws := .code yX12_feed cX12_feed 6 (some .int) :: wsA) B.pre w (List.mem_cons_of_mem _ h)
  have hown : s.vm.findClass RX12 = some m.cls := findClass_of_methodNamed B.named
  subst hsz
  have hLA : LA (dm L s.heap.size) L := ⟨hL, fun a h => Or.inl h⟩
  have hA : ∀ q : Nat, s.heap.size ≤ q → dm L s.heap.size q := fun q h => Or.inr h
  have hS : va_S (dm L s.heap.size) s.heap s.heap [] := va_S.rf
  have hB : TS D cA L T r rz [(12, 1), (61, 1000)] σ σ ρ s.heap := ⟨hP, hW, FR.rf⟩
  have hl := lv_entry ([.ref h0, .int p1, .int p2, .int p3, .int p4, .int p5]) (n := 6) (Nat.le_of_ble_eq_true rfl)
  rw [lg_entry_eq]
  generalize (lg_sl ([.ref h0, .int p1, .int p2, .int p3, .int p4, .int p5]) ++ List.replicate (6 - (lg_sl ([.ref h0, .int p1, .int p2, .int p3, .int p4, .int p5])).length) Slot.unset).toArray = ls at hl ⊢
  have hl : lv_has ls 6 [(0, .ref h0), (1, .int p1), (2, .int p2), (3, .int p3), (4, .int p4), (5, .int p5)] := hl
  refine lv_aload_n hx hb dX12_feed_0 rfl (lv_at hl 0 rfl) ?_
  refine t_gv hx hb hts hown hK hB mh0 th0 fi_12_1 (hZ.at (j := 1) mh0 th0 (by decide : ini 12 1 = 0)) mw_5_217 dX12_feed_1 ?_
  refine lv_bipush (v := 20) hx hb dX12_feed_4 (by decide) ?_
  refine lv_iadd hx hb dX12_feed_6 ?_
  refine tp_i (w := 20) (by decide) ?_
  refine lv_sipush (v := 400) hx hb dX12_feed_7 (by decide) ?_
  refine lv_icmp_le (tgt := 15) hx hb dX12_feed_10 (by decide) (fun _ => ?_) (fun c9 => absurd (by decide) c9)
  refine lv_aload_n hx hb dX12_feed_15 rfl (lv_at hl 0 rfl) ?_
  refine lv_iload_n hx hb dX12_feed_16 rfl (lv_at hl 1 rfl) ?_
  refine t_cv (va_runV (As := [.int p1]) (rest := []) ⟨hx, hb, hml, hown, hts⟩ (cz_X12_four_0 l D cA L T r hG hLA.1 σ ρ hB.2.1 _ h0 mh0 th0 p1 (hZ.at (j := 1) mh0 th0 (by decide : ini 12 1 = 0))) (cV hts mv_X12_four mw_6_114 rfl rfl ⟨Nat.le_of_ble_eq_true rfl, Nat.le_of_ble_eq_true rfl⟩) (pV hB.1 hK hN mh0 th0 (show shp cA 12 _ _ _ = .inr (12, Fs12 _ _ _) from rfl) rfl) rfl rfl hl.1 rfl (lv_room (Nat.le_of_ble_eq_true rfl)) dX12_feed_17 ⟨Nat.le_of_ble_eq_true rfl, Nat.le_of_ble_eq_true rfl⟩) hLA hA hB hS (by decide) (fun σ_1 ρ_2 H locs hB fσ_1 pσ_1 hS => ?_)
  refine lv_aload_n hx hb dX12_feed_20 rfl (lv_at hl 0 rfl) ?_
  refine lv_iload_n hx hb dX12_feed_21 rfl (lv_at hl 2 rfl) ?_
  refine t_cv (va_runV (As := [.int p2]) (rest := []) ⟨hx, hb, hml, hown, hts⟩ (cz_X12_four_4 l D cA L T r hG hLA.1 σ_1 ρ_2 hB.2.1 _ h0 mh0 th0 p2 pσ_1) (cV hts mv_X12_four mw_6_114 rfl rfl ⟨Nat.le_of_ble_eq_true rfl, Nat.le_of_ble_eq_true rfl⟩) (pV hB.1 hK hN mh0 th0 (show shp cA 12 _ _ _ = .inr (12, Fs12 _ _ _) from rfl) rfl) rfl rfl hl.1 rfl (lv_room (Nat.le_of_ble_eq_true rfl)) dX12_feed_22 ⟨Nat.le_of_ble_eq_true rfl, Nat.le_of_ble_eq_true rfl⟩) hLA hA hB hS (by decide) (fun σ_4 ρ_5 H locs hB fσ_4 pσ_4 hS => ?_)
  refine lv_aload_n hx hb dX12_feed_25 rfl (lv_at hl 0 rfl) ?_
  refine lv_iload_n hx hb dX12_feed_26 rfl (lv_at hl 3 rfl) ?_
  refine t_cv (va_runV (As := [.int p3]) (rest := []) ⟨hx, hb, hml, hown, hts⟩ (cz_X12_four_8 l D cA L T r hG hLA.1 σ_4 ρ_5 hB.2.1 _ h0 mh0 th0 p3 pσ_4) (cV hts mv_X12_four mw_6_114 rfl rfl ⟨Nat.le_of_ble_eq_true rfl, Nat.le_of_ble_eq_true rfl⟩) (pV hB.1 hK hN mh0 th0 (show shp cA 12 _ _ _ = .inr (12, Fs12 _ _ _) from rfl) rfl) rfl rfl hl.1 rfl (lv_room (Nat.le_of_ble_eq_true rfl)) dX12_feed_27 ⟨Nat.le_of_ble_eq_true rfl, Nat.le_of_ble_eq_true rfl⟩) hLA hA hB hS (by decide) (fun σ_7 ρ_8 H locs hB fσ_7 pσ_7 hS => ?_)
  refine lv_aload_n hx hb dX12_feed_30 rfl (lv_at hl 0 rfl) ?_
  refine lv_iload hx hb dX12_feed_31 (lv_at hl 4 rfl) ?_
  refine t_cv (va_runV (As := [.int p4]) (rest := []) ⟨hx, hb, hml, hown, hts⟩ (cz_X12_four_12 l D cA L T r hG hLA.1 σ_7 ρ_8 hB.2.1 _ h0 mh0 th0 p4 pσ_7) (cV hts mv_X12_four mw_6_114 rfl rfl ⟨Nat.le_of_ble_eq_true rfl, Nat.le_of_ble_eq_true rfl⟩) (pV hB.1 hK hN mh0 th0 (show shp cA 12 _ _ _ = .inr (12, Fs12 _ _ _) from rfl) rfl) rfl rfl hl.1 rfl (lv_room (Nat.le_of_ble_eq_true rfl)) dX12_feed_33 ⟨Nat.le_of_ble_eq_true rfl, Nat.le_of_ble_eq_true rfl⟩) hLA hA hB hS (by decide) (fun σ_10 ρ_11 H locs hB fσ_10 pσ_10 hS => ?_)
  refine lv_aload_n hx hb dX12_feed_36 rfl (lv_at hl 0 rfl) ?_
  refine lv_iload hx hb dX12_feed_37 (lv_at hl 5 rfl) ?_
  refine t_cv (va_runV (As := [.int p5]) (rest := []) ⟨hx, hb, hml, hown, hts⟩ (cz_X12_four_16 l D cA L T r hG hLA.1 σ_10 ρ_11 hB.2.1 _ h0 mh0 th0 p5 pσ_10) (cV hts mv_X12_four mw_6_114 rfl rfl ⟨Nat.le_of_ble_eq_true rfl, Nat.le_of_ble_eq_true rfl⟩) (pV hB.1 hK hN mh0 th0 (show shp cA 12 _ _ _ = .inr (12, Fs12 _ _ _) from rfl) rfl) rfl rfl hl.1 rfl (lv_room (Nat.le_of_ble_eq_true rfl)) dX12_feed_39 ⟨Nat.le_of_ble_eq_true rfl, Nat.le_of_ble_eq_true rfl⟩) hLA hA hB hS (by decide) (fun σ_13 ρ_14 H locs hB fσ_13 pσ_13 hS => ?_)
  refine lv_aload_n hx hb dX12_feed_42 rfl (lv_at hl 0 rfl) ?_
  refine t_gv hx hb hts hown hK hB mh0 th0 fi_12_1 pσ_13 mw_5_217 dX12_feed_43 ?_
  exact W.iret (v := 20) hx hb hr (fun t ht hW => ⟨⟨20, (σ_13, ρ_14), rfl, ⟨hB.2.1, hB.2.2, rfl⟩, (show TP D cA L T r σ_13 ρ_14 t.heap from by rw [ht]; exact hB.1)⟩, hS.F ht⟩) hS.2.2 dX12_feed_46
set_option maxHeartbeats 4000000 in
set_option maxRecDepth 100000 in
theorem cz_X12_end (l : Launch) (D : va_G) (cA : Nat → ClassId) (L : List Nat) (T : Nat → Nat) (r : Rg) (hG : GR L T r) (hL : L.Nodup) (σ : Sg) (ρ : Lg) (hW : WT L rz T σ) (sz : Nat) (h0 : Nat) (mh0 : h0 ∈ L) (th0 : T h0 = 12) (p1 : Int32) (hZ : ZM L T σ) : Met l yX12_end (.code yX12_end cX12_end 2 (some .int) :: wsA) ({ frames := 0, cells := 0, slots := 0, locals := 0 }) (PR D cA L T r σ ρ sz [.ref h0, .int p1]) (QI D cA L T r rz [(12, 1)] σ sz (fun x σ1 => x = if p1.toInt = 0 then 0 else (-1))) 0 0 (dm L sz) := by
  refine Met.ofW (cc := cX12_end) (maxL := 2) (ret := (some .int)) (by decide) rfl ?_
  intro p e s m args below meth c s₁ B hml hv
  obtain ⟨rfl, hsz, hP, hK, hN⟩ := hv
  have hx := B.exec
  have hb := B.bytes
  have hr := B.returns
  have hts : ∀ w ∈ wsA, w.before _ s = true := fun w h => atoms_spec (ws := .code yX12_end cX12_end 2 (some .int) :: wsA) B.pre w (List.mem_cons_of_mem _ h)
  have hown : s.vm.findClass RX12 = some m.cls := findClass_of_methodNamed B.named
  subst hsz
  have hLA : LA (dm L s.heap.size) L := ⟨hL, fun a h => Or.inl h⟩
  have hA : ∀ q : Nat, s.heap.size ≤ q → dm L s.heap.size q := fun q h => Or.inr h
  have hS : va_S (dm L s.heap.size) s.heap s.heap [] := va_S.rf
  have hB : TS D cA L T r rz [(12, 1)] σ σ ρ s.heap := ⟨hP, hW, FR.rf⟩
  have hl := lv_entry ([.ref h0, .int p1]) (n := 2) (Nat.le_of_ble_eq_true rfl)
  rw [lg_entry_eq]
  generalize (lg_sl ([.ref h0, .int p1]) ++ List.replicate (2 - (lg_sl ([.ref h0, .int p1])).length) Slot.unset).toArray = ls at hl ⊢
  have hl : lv_has ls 2 [(0, .ref h0), (1, .int p1)] := hl
  refine lv_iload_n hx hb dX12_end_0 rfl (lv_at hl 1 rfl) ?_
  refine lv_if_lt (tgt := 12) hx hb dX12_end_1 (by decide) (fun c_1 => ?_) (fun c_1 => ?_)
  · skip
    have uc_1 := i_lt (n := 0) (by decide) c_1
    refine lv_iconst (v := (-1)) hx hb dX12_end_12 (by decide) ?_
    exact W.iret (v := (-1)) hx hb hr (fun t ht hW => ⟨⟨(-1), (σ, ρ), rfl, ⟨hB.2.1, hB.2.2, (if_neg (by omega)).symm⟩, (show TP D cA L T r σ ρ t.heap from by rw [ht]; exact hB.1)⟩, hS.F ht⟩) hS.2.2 dX12_end_13
  · skip
    have uc_1 := i_nlt (n := 0) (by decide) c_1
    refine lv_iload_n hx hb dX12_end_4 rfl (lv_at hl 1 rfl) ?_
    refine lv_aload_n hx hb dX12_end_5 rfl (lv_at hl 0 rfl) ?_
    refine t_gv hx hb hts hown hK hB mh0 th0 fi_12_1 (hZ.at (j := 1) mh0 th0 (by decide : ini 12 1 = 0)) mw_5_217 dX12_end_6 ?_
    refine lv_icmp_le (tgt := 14) hx hb dX12_end_9 (by decide) (fun c_2 => ?_) (fun c_2 => ?_)
    · skip
      have uc_2 := i_le (n := 0) (by decide) c_2
      refine lv_aload_n hx hb dX12_end_14 rfl (lv_at hl 0 rfl) ?_
      refine lv_iload_n hx hb dX12_end_15 rfl (lv_at hl 1 rfl) ?_
      refine t_pi hx hb hts hown hK hLA hB hS mh0 th0 fi_12_1 rfl rfl rfl (i_lo _) (i_hi _) (Or.inl (by decide)) mw_5_217 dX12_end_16 (fun H locs σ_3 eσ_3 hB hS => ?_)
      have k_4 : σ_3 h0 1 = p1 := by rw [eσ_3]; exact up2_same _ _ _ _
      refine lv_iload_n hx hb dX12_end_19 rfl (lv_at hl 1 rfl) ?_
      exact W.iret (v := p1) hx hb hr (fun t ht hW => ⟨⟨p1, (σ_3, ρ), rfl, ⟨hB.2.1, hB.2.2, (by rw [if_pos (by omega)]; exact i_is (n := 0) (by decide) (by omega))⟩, (show TP D cA L T r σ_3 ρ t.heap from by rw [ht]; exact hB.1)⟩, hS.F ht⟩) hS.2.2 dX12_end_20
    · skip
      have uc_2 := i_nle (n := 0) (by decide) c_2
      refine lv_iconst (v := (-1)) hx hb dX12_end_12 (by decide) ?_
      exact W.iret (v := (-1)) hx hb hr (fun t ht hW => ⟨⟨(-1), (σ, ρ), rfl, ⟨hB.2.1, hB.2.2, (if_neg (by omega)).symm⟩, (show TP D cA L T r σ ρ t.heap from by rw [ht]; exact hB.1)⟩, hS.F ht⟩) hS.2.2 dX12_end_13
set_option maxHeartbeats 4000000 in
set_option maxRecDepth 100000 in
theorem cz_X12_hill (l : Launch) (D : va_G) (cA : Nat → ClassId) (L : List Nat) (T : Nat → Nat) (r : Rg) (hG : GR L T r) (hL : L.Nodup) (σ : Sg) (ρ : Lg) (hW : WT L rz T σ) (sz : Nat) (h0 : Nat) (mh0 : h0 ∈ L) (th0 : T h0 = 12) (hZ : ZM L T σ) : Met l yX12_hill (.code yX12_hill cX12_hill 2 (some .int) :: wsA) ({ frames := 5, cells := 0, slots := 0, locals := 110 }) (PR D cA L T r σ ρ sz [.ref h0]) (QI D cA L T r rz [(12, 1), (12, 8), (12, 9), (12, 11), (12, 12), (12, 14), (63, 1000), (66, 1000)] σ sz (fun x σ1 => x = (-3))) 0 0 (dm L sz) := by
  refine Met.ofW (cc := cX12_hill) (maxL := 2) (ret := (some .int)) (by decide) rfl ?_
  intro p e s m args below meth c s₁ B hml hv
  obtain ⟨rfl, hsz, hP, hK, hN⟩ := hv
  have hx := B.exec
  have hb := B.bytes
  have hr := B.returns
  have hts : ∀ w ∈ wsA, w.before _ s = true := fun w h => atoms_spec (ws := .code yX12_hill cX12_hill 2 (some .int) :: wsA) B.pre w (List.mem_cons_of_mem _ h)
  have hown : s.vm.findClass RX12 = some m.cls := findClass_of_methodNamed B.named
  subst hsz
  have hLA : LA (dm L s.heap.size) L := ⟨hL, fun a h => Or.inl h⟩
  have hA : ∀ q : Nat, s.heap.size ≤ q → dm L s.heap.size q := fun q h => Or.inr h
  have hS : va_S (dm L s.heap.size) s.heap s.heap [] := va_S.rf
  have hB : TS D cA L T r rz [(12, 1), (12, 8), (12, 9), (12, 11), (12, 12), (12, 14), (63, 1000), (66, 1000)] σ σ ρ s.heap := ⟨hP, hW, FR.rf⟩
  have hl := lv_entry ([.ref h0]) (n := 2) (Nat.le_of_ble_eq_true rfl)
  rw [lg_entry_eq]
  generalize (lg_sl ([.ref h0]) ++ List.replicate (2 - (lg_sl ([.ref h0])).length) Slot.unset).toArray = ls at hl ⊢
  have hl : lv_has ls 2 [(0, .ref h0)] := hl
  refine lv_aload_n hx hb dX12_hill_0 rfl (lv_at hl 0 rfl) ?_
  refine lv_bipush (v := 6) hx hb dX12_hill_1 (by decide) ?_
  refine t_pi hx hb hts hown hK hLA hB hS mh0 th0 fi_12_11 rfl rfl rfl (i_lo _) (i_hi _) (Or.inl (by decide)) mw_5_227 dX12_hill_3 (fun H locs σ_1 eσ_1 hB hS => ?_)
  have k_2 : σ_1 h0 11 = 6 := by rw [eσ_1]; exact up2_same _ _ _ _
  refine lv_iconst (v := 0) hx hb dX12_hill_6 (by decide) ?_
  refine lv_istore_n (lv' := [(1, .int 0), (0, .ref h0)]) hx hb dX12_hill_7 rfl hl (by decide) rfl (fun ls hl => ?_)
  have k_3 : σ_1 h0 1 = 0 := by rw [eσ_1, up2_nej _ _ (by decide)]; exact (hZ.at (j := 1) mh0 th0 (by decide : ini 12 1 = 0))
  refine w_loop (α := Int32 × Sg × Lg) (fun (i_4, σ_5, ρ_6) H locs ls => 0 ≤ i_4.toInt ∧ i_4.toInt ≤ 165 ∧ σ_5 h0 11 = 6 ∧ σ_5 h0 1 = 0 ∧ TS D cA L T r rz [(12, 1), (12, 8), (12, 9), (12, 11), (12, 12), (12, 14), (63, 1000), (66, 1000)] σ σ_5 ρ_6 H ∧ va_S (dm L s.heap.size) s.heap H locs ∧ lv_has ls 2 [(1, .int i_4), (0, .ref h0)]) (fun (i_4, σ_5, ρ_6) => (165 - i_4.toInt).toNat) ?_ ⟨0, σ_1, ρ⟩ ⟨(by decide), (by decide), k_2, k_3, hB, hS, lv_sub hl [0, 1] rfl⟩
  rintro ⟨i_4, σ_5, ρ_6⟩ H locs ls ⟨li_4, ui_4, k_8, k_9, hB, hS, hl⟩ ih_7
  refine lv_iload_n hx hb dX12_hill_8 rfl (lv_at hl 0 rfl) ?_
  refine lv_sipush (v := 165) hx hb dX12_hill_9 (by decide) ?_
  refine lv_icmp_ge (tgt := 28) hx hb dX12_hill_12 (by decide) (fun c_10 => ?_) (fun c_10 => ?_)
  · skip
    have uc_10 := i_ge (n := 165) (by decide) c_10
    refine lv_aload_n hx hb dX12_hill_28 rfl (lv_at hl 1 rfl) ?_
    refine t_ci (va_runV (As := []) (rest := []) ⟨hx, hb, hml, hown, hts⟩ (cz_X12_readsAll_6 l D cA L T r hG hLA.1 σ_5 ρ_6 hB.2.1 _ h0 mh0 th0 k_8 k_9) (cV hts mv_X12_readsAll mw_6_126 rfl rfl ⟨Nat.le_of_ble_eq_true rfl, Nat.le_of_ble_eq_true rfl⟩) (pV hB.1 hK hN mh0 th0 (show shp cA 12 _ _ _ = .inr (12, Fs12 _ _ _) from rfl) rfl) rfl rfl hl.1 rfl (lv_room (Nat.le_of_ble_eq_true rfl)) dX12_hill_29 ⟨Nat.le_of_ble_eq_true rfl, Nat.le_of_ble_eq_true rfl⟩) hLA hA hB hS (by decide) (fun x_13 σ_11 ρ_12 H locs hB fσ_11 pσ_11 hS => ?_)
    obtain ⟨g_14, g_15⟩ := pσ_11
    subst g_14
    refine lv_if_ne (tgt := 43) hx hb dX12_hill_32 (by decide) (fun c9 => absurd (by decide) c9) (fun _ => ?_)
    refine lv_bipush (v := (-2)) hx hb dX12_hill_35 (by decide) ?_
    refine lv_aload_n hx hb dX12_hill_37 rfl (lv_at hl 1 rfl) ?_
    refine t_gv hx hb hts hown hK hB mh0 th0 fi_12_9 g_15 mw_5_225 dX12_hill_38 ?_
    refine lv_isub hx hb dX12_hill_41 ?_
    refine tp_i (w := (-3)) (by decide) ?_
    exact W.iret (v := (-3)) hx hb hr (fun t ht hW => ⟨⟨(-3), (σ_11, ρ_12), rfl, ⟨hB.2.1, hB.2.2, rfl⟩, (show TP D cA L T r σ_11 ρ_12 t.heap from by rw [ht]; exact hB.1)⟩, hS.F ht⟩) hS.2.2 dX12_hill_42
  · skip
    have uc_10 := i_nge (n := 165) (by decide) c_10
    refine lv_aload_n hx hb dX12_hill_15 rfl (lv_at hl 1 rfl) ?_
    refine t_gr hx hb hts hown hK hG hB mh0 th0 fq_12_7 rfl mw_5_223 dX12_hill_16 (fun b_16 hb_16 mb_16 tb_16 => ?_)
    refine lv_iload_n hx hb dX12_hill_19 rfl (lv_at hl 0 rfl) ?_
    refine lv_iconst (v := 0) hx hb dX12_hill_20 (by decide) ?_
    refine t_si hx hb hK hLA hB hS mb_16 tb_16 ai_66 (i_in (by omega) (by omega)) (show 0 ≤ (0 : Int32).toInt by decide) (show (0 : Int32).toInt ≤ 0 by decide) (Or.inr (by decide)) dX12_hill_21 (fun H locs σ_17 eσ_17 hB hS => ?_)
    obtain ⟨x_18, ex_18⟩ : ∃ y : Int32, y = i_4 + 1 := ⟨_, rfl⟩
    have vx_18 := b_add (rfl : i_4.toInt = _) (by decide : (1 : Int32).toInt = 1) ex_18 (by omega) (by omega)
    refine lv_iinc (v := x_18) (lv' := [(1, .int x_18), (0, .ref h0)]) hx hb dX12_hill_22 hl (k := 0) rfl (by rw [ex_18]; rfl) (by decide) rfl (fun ls hl => ?_)
    refine lv_goto (tgt := 8) hx hb dX12_hill_25 (by decide) ?_
    have k_19 : σ_17 h0 11 = 6 := by rw [eσ_17, up2_nea _ _ (tg_ne th0 tb_16 (by decide))]; exact k_8
    have k_20 : σ_17 h0 1 = 0 := by rw [eσ_17, up2_nea _ _ (tg_ne th0 tb_16 (by decide))]; exact k_9
    exact ih_7 ⟨x_18, σ_17, ρ_6⟩ _ _ _ ⟨(by omega), (by omega), k_19, k_20, hB, hS, lv_sub hl [0, 1] rfl⟩ (by show (165 - x_18.toInt).toNat < (165 - i_4.toInt).toNat; omega)
set_option maxHeartbeats 4000000 in
set_option maxRecDepth 100000 in
theorem cz_X12_rule (l : Launch) (D : va_G) (cA : Nat → ClassId) (L : List Nat) (T : Nat → Nat) (r : Rg) (hG : GR L T r) (hL : L.Nodup) (σ : Sg) (ρ : Lg) (hW : WT L rz T σ) (sz : Nat) (h0 : Nat) (mh0 : h0 ∈ L) (th0 : T h0 = 12) (hZ : ZM L T σ) : Met l yX12_rule (.code yX12_rule cX12_rule 1 (some .int) :: wsA) ({ frames := 4, cells := 0, slots := 0, locals := 89 }) (PR D cA L T r σ ρ sz [.ref h0]) (QI D cA L T r rz [(12, 1), (12, 8), (12, 9), (12, 11), (12, 12), (12, 14), (63, 1000), (65, 1000)] σ sz (fun x σ1 => x = (-3))) 0 0 (dm L sz) := by
  refine Met.ofW (cc := cX12_rule) (maxL := 1) (ret := (some .int)) (by decide) rfl ?_
  intro p e s m args below meth c s₁ B hml hv
  obtain ⟨rfl, hsz, hP, hK, hN⟩ := hv
  have hx := B.exec
  have hb := B.bytes
  have hr := B.returns
  have hts : ∀ w ∈ wsA, w.before _ s = true := fun w h => atoms_spec (ws := .code yX12_rule cX12_rule 1 (some .int) :: wsA) B.pre w (List.mem_cons_of_mem _ h)
  have hown : s.vm.findClass RX12 = some m.cls := findClass_of_methodNamed B.named
  subst hsz
  have hLA : LA (dm L s.heap.size) L := ⟨hL, fun a h => Or.inl h⟩
  have hA : ∀ q : Nat, s.heap.size ≤ q → dm L s.heap.size q := fun q h => Or.inr h
  have hS : va_S (dm L s.heap.size) s.heap s.heap [] := va_S.rf
  have hB : TS D cA L T r rz [(12, 1), (12, 8), (12, 9), (12, 11), (12, 12), (12, 14), (63, 1000), (65, 1000)] σ σ ρ s.heap := ⟨hP, hW, FR.rf⟩
  have hl := lv_entry ([.ref h0]) (n := 1) (Nat.le_of_ble_eq_true rfl)
  rw [lg_entry_eq]
  generalize (lg_sl ([.ref h0]) ++ List.replicate (1 - (lg_sl ([.ref h0])).length) Slot.unset).toArray = ls at hl ⊢
  have hl : lv_has ls 1 [(0, .ref h0)] := hl
  refine lv_aload_n hx hb dX12_rule_0 rfl (lv_at hl 0 rfl) ?_
  refine t_gi hx hb hts hown hK hB mh0 th0 fi_12_2 rfl mw_5_218 dX12_rule_1 (fun x_1 ex_1 lx_1 ux_1 => ?_)
  obtain rfl : x_1 = 0 := i_is (n := 0) (by decide) (by omega)
  refine lv_bipush (v := 6) hx hb dX12_rule_4 (by decide) ?_
  refine lv_icmp_ne (tgt := 11) hx hb dX12_rule_6 (by decide) (fun _ => ?_) (fun c9 => absurd c9 (by decide))
  refine lv_aload_n hx hb dX12_rule_11 rfl (lv_at hl 0 rfl) ?_
  refine lv_aload_n hx hb dX12_rule_12 rfl (lv_at hl 0 rfl) ?_
  refine t_gi hx hb hts hown hK hB mh0 th0 fi_12_2 rfl mw_5_218 dX12_rule_13 (fun x_2 ex_2 lx_2 ux_2 => ?_)
  obtain rfl : x_2 = 0 := i_is (n := 0) (by decide) (by omega)
  refine t_pi hx hb hts hown hK hLA hB hS mh0 th0 fi_12_11 rfl rfl rfl (i_lo _) (i_hi _) (Or.inl (by decide)) mw_5_227 dX12_rule_16 (fun H locs σ_3 eσ_3 hB hS => ?_)
  have k_4 : σ_3 h0 11 = 0 := by rw [eσ_3]; exact up2_same _ _ _ _
  refine lv_aload_n hx hb dX12_rule_19 rfl (lv_at hl 0 rfl) ?_
  refine t_gr hx hb hts hown hK hG hB mh0 th0 fq_12_6 rfl mw_5_222 dX12_rule_20 (fun b_5 hb_5 mb_5 tb_5 => ?_)
  refine lv_aload_n hx hb dX12_rule_23 rfl (lv_at hl 0 rfl) ?_
  refine t_gv hx hb hts hown hK hB mh0 th0 fi_12_11 k_4 mw_5_227 dX12_rule_24 ?_
  refine lv_iconst (v := 0) hx hb dX12_rule_27 (by decide) ?_
  refine t_si hx hb hK hLA hB hS mb_5 tb_5 ai_65 (i_in (by decide) (by decide)) (show 0 ≤ (0 : Int32).toInt by decide) (show (0 : Int32).toInt ≤ 0 by decide) (Or.inr (by decide)) dX12_rule_28 (fun H locs σ_6 eσ_6 hB hS => ?_)
  have k_7 : σ_6 b_5 0 = 0 := by rw [eσ_6]; exact up2_same _ _ _ _
  refine lv_aload_n hx hb dX12_rule_29 rfl (lv_at hl 0 rfl) ?_
  have k_8 : σ_6 h0 11 = 0 := by rw [eσ_6, up2_nej _ _ (by decide)]; exact k_4
  have k_9 : σ_3 h0 1 = 0 := by rw [eσ_3, up2_nej _ _ (by decide)]; exact (hZ.at (j := 1) mh0 th0 (by decide : ini 12 1 = 0))
  have k_10 : σ_6 h0 1 = 0 := by rw [eσ_6, up2_nej _ _ (by decide)]; exact k_9
  refine t_ci (va_runV (As := []) (rest := []) ⟨hx, hb, hml, hown, hts⟩ (cz_X12_readsAll_0 l D cA L T r hG hLA.1 σ_6 ρ hB.2.1 _ h0 mh0 th0 k_8 k_10) (cV hts mv_X12_readsAll mw_6_126 rfl rfl ⟨Nat.le_of_ble_eq_true rfl, Nat.le_of_ble_eq_true rfl⟩) (pV hB.1 hK hN mh0 th0 (show shp cA 12 _ _ _ = .inr (12, Fs12 _ _ _) from rfl) rfl) rfl rfl hl.1 rfl (lv_room (Nat.le_of_ble_eq_true rfl)) dX12_rule_30 ⟨Nat.le_of_ble_eq_true rfl, Nat.le_of_ble_eq_true rfl⟩) hLA hA hB hS (by decide) (fun x_13 σ_11 ρ_12 H locs hB fσ_11 pσ_11 hS => ?_)
  obtain ⟨g_14, g_15⟩ := pσ_11
  subst g_14
  refine lv_if_ne (tgt := 44) hx hb dX12_rule_33 (by decide) (fun c9 => absurd (by decide) c9) (fun _ => ?_)
  refine lv_bipush (v := (-2)) hx hb dX12_rule_36 (by decide) ?_
  refine lv_aload_n hx hb dX12_rule_38 rfl (lv_at hl 0 rfl) ?_
  refine t_gv hx hb hts hown hK hB mh0 th0 fi_12_9 g_15 mw_5_225 dX12_rule_39 ?_
  refine lv_isub hx hb dX12_rule_42 ?_
  refine tp_i (w := (-3)) (by decide) ?_
  exact W.iret (v := (-3)) hx hb hr (fun t ht hW => ⟨⟨(-3), (σ_11, ρ_12), rfl, ⟨hB.2.1, hB.2.2, rfl⟩, (show TP D cA L T r σ_11 ρ_12 t.heap from by rw [ht]; exact hB.1)⟩, hS.F ht⟩) hS.2.2 dX12_rule_43
set_option maxHeartbeats 4000000 in
set_option maxRecDepth 100000 in
theorem cz_X12_force (l : Launch) (D : va_G) (cA : Nat → ClassId) (L : List Nat) (T : Nat → Nat) (r : Rg) (hG : GR L T r) (hL : L.Nodup) (σ : Sg) (ρ : Lg) (hW : WT L rz T σ) (sz : Nat) (h0 : Nat) (mh0 : h0 ∈ L) (th0 : T h0 = 12) (p1 : Int32) (hZ : ZM L T σ) : Met l yX12_force (.code yX12_force cX12_force 3 (some .int) :: wsA) ({ frames := 1, cells := 0, slots := 0, locals := 21 }) (PR D cA L T r σ ρ sz [.ref h0, .int p1]) (QI D cA L T r rz [(12, 21)] σ sz (fun x σ1 => x = if p1.toInt = -1 then (-1) else (-2))) 0 0 (dm L sz) := by
  refine Met.ofW (cc := cX12_force) (maxL := 3) (ret := (some .int)) (by decide) rfl ?_
  intro p e s m args below meth c s₁ B hml hv
  obtain ⟨rfl, hsz, hP, hK, hN⟩ := hv
  have hx := B.exec
  have hb := B.bytes
  have hr := B.returns
  have hts : ∀ w ∈ wsA, w.before _ s = true := fun w h => atoms_spec (ws := .code yX12_force cX12_force 3 (some .int) :: wsA) B.pre w (List.mem_cons_of_mem _ h)
  have hown : s.vm.findClass RX12 = some m.cls := findClass_of_methodNamed B.named
  subst hsz
  have hLA : LA (dm L s.heap.size) L := ⟨hL, fun a h => Or.inl h⟩
  have hA : ∀ q : Nat, s.heap.size ≤ q → dm L s.heap.size q := fun q h => Or.inr h
  have hS : va_S (dm L s.heap.size) s.heap s.heap [] := va_S.rf
  have hB : TS D cA L T r rz [(12, 21)] σ σ ρ s.heap := ⟨hP, hW, FR.rf⟩
  have hl := lv_entry ([.ref h0, .int p1]) (n := 3) (Nat.le_of_ble_eq_true rfl)
  rw [lg_entry_eq]
  generalize (lg_sl ([.ref h0, .int p1]) ++ List.replicate (3 - (lg_sl ([.ref h0, .int p1])).length) Slot.unset).toArray = ls at hl ⊢
  have hl : lv_has ls 3 [(0, .ref h0), (1, .int p1)] := hl
  refine lv_iload_n hx hb dX12_force_0 rfl (lv_at hl 1 rfl) ?_
  refine lv_iconst (v := (-1)) hx hb dX12_force_1 (by decide) ?_
  refine lv_icmp_eq (tgt := 16) hx hb dX12_force_2 (by decide) (fun c_1 => ?_) (fun c_1 => ?_)
  · skip
    have uc_1 := i_eq (n := (-1)) (by decide) c_1
    refine lv_aload_n hx hb dX12_force_16 rfl (lv_at hl 0 rfl) ?_
    refine t_gi hx hb hts hown hK hB mh0 th0 fi_12_21 rfl mw_5_237 dX12_force_17 (fun x_2 ex_2 lx_2 ux_2 => ?_)
    obtain rfl : x_2 = (-1) := i_is (n := (-1)) (by decide) (by omega)
    refine lv_istore_n (lv' := [(2, .int (-1)), (0, .ref h0), (1, .int p1)]) hx hb dX12_force_20 rfl hl (by decide) rfl (fun ls hl => ?_)
    refine lv_aload_n hx hb dX12_force_21 rfl (lv_at hl 1 rfl) ?_
    refine lv_iload_n hx hb dX12_force_22 rfl (lv_at hl 2 rfl) ?_
    refine t_pi hx hb hts hown hK hLA hB hS mh0 th0 fi_12_21 rfl rfl rfl (by omega) (by omega) (Or.inl (by decide)) mw_5_237 dX12_force_23 (fun H locs σ_3 eσ_3 hB hS => ?_)
    have k_4 : σ_3 h0 21 = p1 := by rw [eσ_3]; exact up2_same _ _ _ _
    refine lv_iload_n hx hb dX12_force_26 rfl (lv_at hl 0 rfl) ?_
    exact W.iret (v := (-1)) hx hb hr (fun t ht hW => ⟨⟨(-1), (σ_3, ρ), rfl, ⟨hB.2.1, hB.2.2, (if_pos (by omega)).symm⟩, (show TP D cA L T r σ_3 ρ t.heap from by rw [ht]; exact hB.1)⟩, hS.F ht⟩) hS.2.2 dX12_force_27
  · skip
    have uc_1 := i_ne (n := (-1)) (by decide) c_1
    refine lv_aload_n hx hb dX12_force_5 rfl (lv_at hl 0 rfl) ?_
    refine lv_iload_n hx hb dX12_force_6 rfl (lv_at hl 1 rfl) ?_
    refine t_ci (va_runV (As := [.int p1]) (rest := []) ⟨hx, hb, hml, hown, hts⟩ (cz_X12_isRule l D cA L T r hG hLA.1 σ ρ hB.2.1 _ h0 mh0 th0 p1) (cV hts mv_X12_isRule mw_7_56 rfl rfl ⟨Nat.le_of_ble_eq_true rfl, Nat.le_of_ble_eq_true rfl⟩) (pV hB.1 hK hN mh0 th0 (show shp cA 12 _ _ _ = .inr (12, Fs12 _ _ _) from rfl) rfl) rfl rfl hl.1 rfl (lv_room (Nat.le_of_ble_eq_true rfl)) dX12_force_7 ⟨Nat.le_of_ble_eq_true rfl, Nat.le_of_ble_eq_true rfl⟩) hLA hA hB hS (by decide) (fun x_7 σ_5 ρ_6 H locs hB fσ_5 pσ_5 hS => ?_)
    subst pσ_5
    refine lv_if_ne (tgt := 16) hx hb dX12_force_10 (by decide) (fun c9 => absurd (by decide) c9) (fun _ => ?_)
    refine lv_bipush (v := (-2)) hx hb dX12_force_13 (by decide) ?_
    exact W.iret (v := (-2)) hx hb hr (fun t ht hW => ⟨⟨(-2), (σ_5, ρ_6), rfl, ⟨hB.2.1, hB.2.2, (if_neg (by omega)).symm⟩, (show TP D cA L T r σ_5 ρ_6 t.heap from by rw [ht]; exact hB.1)⟩, hS.F ht⟩) hS.2.2 dX12_force_15
set_option maxHeartbeats 4000000 in
set_option maxRecDepth 100000 in
theorem cz_X12_pilgrim (l : Launch) (D : va_G) (cA : Nat → ClassId) (L : List Nat) (T : Nat → Nat) (r : Rg) (hG : GR L T r) (hL : L.Nodup) (σ : Sg) (ρ : Lg) (hW : WT L rz T σ) (sz : Nat) (h0 : Nat) (mh0 : h0 ∈ L) (th0 : T h0 = 12) (p1 : Int32) (p2 : Int32) (hZ : ZM L T σ) : Met l yX12_pilgrim (.code yX12_pilgrim cX12_pilgrim 3 (some .int) :: wsA) ({ frames := 1, cells := 0, slots := 0, locals := 21 }) (PR D cA L T r σ ρ sz [.ref h0, .int p1, .int p2]) (QI D cA L T r rz ([] : List (Nat × Nat)) σ sz (fun x σ1 => x = (-1))) 0 0 (dm L sz) := by
  refine Met.ofW (cc := cX12_pilgrim) (maxL := 3) (ret := (some .int)) (by decide) rfl ?_
  intro p e s m args below meth c s₁ B hml hv
  obtain ⟨rfl, hsz, hP, hK, hN⟩ := hv
  have hx := B.exec
  have hb := B.bytes
  have hr := B.returns
  have hts : ∀ w ∈ wsA, w.before _ s = true := fun w h => atoms_spec (ws := .code yX12_pilgrim cX12_pilgrim 3 (some .int) :: wsA) B.pre w (List.mem_cons_of_mem _ h)
  have hown : s.vm.findClass RX12 = some m.cls := findClass_of_methodNamed B.named
  subst hsz
  have hLA : LA (dm L s.heap.size) L := ⟨hL, fun a h => Or.inl h⟩
  have hA : ∀ q : Nat, s.heap.size ≤ q → dm L s.heap.size q := fun q h => Or.inr h
  have hS : va_S (dm L s.heap.size) s.heap s.heap [] := va_S.rf
  have hB : TS D cA L T r rz ([] : List (Nat × Nat)) σ σ ρ s.heap := ⟨hP, hW, FR.rf⟩
  have hl := lv_entry ([.ref h0, .int p1, .int p2]) (n := 3) (Nat.le_of_ble_eq_true rfl)
  rw [lg_entry_eq]
  generalize (lg_sl ([.ref h0, .int p1, .int p2]) ++ List.replicate (3 - (lg_sl ([.ref h0, .int p1, .int p2])).length) Slot.unset).toArray = ls at hl ⊢
  have hl : lv_has ls 3 [(0, .ref h0), (1, .int p1), (2, .int p2)] := hl
  refine lv_aload_n hx hb dX12_pilgrim_0 rfl (lv_at hl 0 rfl) ?_
  refine lv_iload_n hx hb dX12_pilgrim_1 rfl (lv_at hl 1 rfl) ?_
  refine t_ci (va_runV (As := [.int p1]) (rest := []) ⟨hx, hb, hml, hown, hts⟩ (cz_X12_isPilgrim l D cA L T r hG hLA.1 σ ρ hB.2.1 _ h0 mh0 th0 p1) (cV hts mv_X12_isPilgrim mw_7_64 rfl rfl ⟨Nat.le_of_ble_eq_true rfl, Nat.le_of_ble_eq_true rfl⟩) (pV hB.1 hK hN mh0 th0 (show shp cA 12 _ _ _ = .inr (12, Fs12 _ _ _) from rfl) rfl) rfl rfl hl.1 rfl (lv_room (Nat.le_of_ble_eq_true rfl)) dX12_pilgrim_2 ⟨Nat.le_of_ble_eq_true rfl, Nat.le_of_ble_eq_true rfl⟩) hLA hA hB hS (by decide) (fun x_3 σ_1 ρ_2 H locs hB fσ_1 pσ_1 hS => ?_)
  subst pσ_1
  refine lv_if_eq (tgt := 20) hx hb dX12_pilgrim_5 (by decide) (fun _ => ?_) (fun c9 => absurd (by decide) c9)
  refine lv_iconst (v := (-1)) hx hb dX12_pilgrim_20 (by decide) ?_
  exact W.iret (v := (-1)) hx hb hr (fun t ht hW => ⟨⟨(-1), (σ_1, ρ_2), rfl, ⟨hB.2.1, hB.2.2, rfl⟩, (show TP D cA L T r σ_1 ρ_2 t.heap from by rw [ht]; exact hB.1)⟩, hS.F ht⟩) hS.2.2 dX12_pilgrim_21
set_option maxHeartbeats 4000000 in
set_option maxRecDepth 100000 in
theorem cz_X12_bend (l : Launch) (D : va_G) (cA : Nat → ClassId) (L : List Nat) (T : Nat → Nat) (r : Rg) (hG : GR L T r) (hL : L.Nodup) (σ : Sg) (ρ : Lg) (hW : WT L rz T σ) (sz : Nat) (h0 : Nat) (mh0 : h0 ∈ L) (th0 : T h0 = 12) (p1 : Int32) (p2 : Int32) (hZ : ZM L T σ) : Met l yX12_bend (.code yX12_bend cX12_bend 3 (some .int) :: wsA) ({ frames := 1, cells := 0, slots := 0, locals := 21 }) (PR D cA L T r σ ρ sz [.ref h0, .int p1, .int p2]) (QI D cA L T r rz ([] : List (Nat × Nat)) σ sz (fun x σ1 => x = (-1))) 0 0 (dm L sz) := by
  refine Met.ofW (cc := cX12_bend) (maxL := 3) (ret := (some .int)) (by decide) rfl ?_
  intro p e s m args below meth c s₁ B hml hv
  obtain ⟨rfl, hsz, hP, hK, hN⟩ := hv
  have hx := B.exec
  have hb := B.bytes
  have hr := B.returns
  have hts : ∀ w ∈ wsA, w.before _ s = true := fun w h => atoms_spec (ws := .code yX12_bend cX12_bend 3 (some .int) :: wsA) B.pre w (List.mem_cons_of_mem _ h)
  have hown : s.vm.findClass RX12 = some m.cls := findClass_of_methodNamed B.named
  subst hsz
  have hLA : LA (dm L s.heap.size) L := ⟨hL, fun a h => Or.inl h⟩
  have hA : ∀ q : Nat, s.heap.size ≤ q → dm L s.heap.size q := fun q h => Or.inr h
  have hS : va_S (dm L s.heap.size) s.heap s.heap [] := va_S.rf
  have hB : TS D cA L T r rz ([] : List (Nat × Nat)) σ σ ρ s.heap := ⟨hP, hW, FR.rf⟩
  have hl := lv_entry ([.ref h0, .int p1, .int p2]) (n := 3) (Nat.le_of_ble_eq_true rfl)
  rw [lg_entry_eq]
  generalize (lg_sl ([.ref h0, .int p1, .int p2]) ++ List.replicate (3 - (lg_sl ([.ref h0, .int p1, .int p2])).length) Slot.unset).toArray = ls at hl ⊢
  have hl : lv_has ls 3 [(0, .ref h0), (1, .int p1), (2, .int p2)] := hl
  refine lv_aload_n hx hb dX12_bend_0 rfl (lv_at hl 0 rfl) ?_
  refine lv_iload_n hx hb dX12_bend_1 rfl (lv_at hl 1 rfl) ?_
  refine t_ci (va_runV (As := [.int p1]) (rest := []) ⟨hx, hb, hml, hown, hts⟩ (cz_X12_isBend l D cA L T r hG hLA.1 σ ρ hB.2.1 _ h0 mh0 th0 p1) (cV hts mv_X12_isBend mw_7_89 rfl rfl ⟨Nat.le_of_ble_eq_true rfl, Nat.le_of_ble_eq_true rfl⟩) (pV hB.1 hK hN mh0 th0 (show shp cA 12 _ _ _ = .inr (12, Fs12 _ _ _) from rfl) rfl) rfl rfl hl.1 rfl (lv_room (Nat.le_of_ble_eq_true rfl)) dX12_bend_2 ⟨Nat.le_of_ble_eq_true rfl, Nat.le_of_ble_eq_true rfl⟩) hLA hA hB hS (by decide) (fun x_3 σ_1 ρ_2 H locs hB fσ_1 pσ_1 hS => ?_)
  subst pσ_1
  refine lv_if_eq (tgt := 20) hx hb dX12_bend_5 (by decide) (fun _ => ?_) (fun c9 => absurd (by decide) c9)
  refine lv_iconst (v := (-1)) hx hb dX12_bend_20 (by decide) ?_
  exact W.iret (v := (-1)) hx hb hr (fun t ht hW => ⟨⟨(-1), (σ_1, ρ_2), rfl, ⟨hB.2.1, hB.2.2, rfl⟩, (show TP D cA L T r σ_1 ρ_2 t.heap from by rw [ht]; exact hB.1)⟩, hS.F ht⟩) hS.2.2 dX12_bend_21
set_option maxHeartbeats 4000000 in
set_option maxRecDepth 100000 in
theorem cz_X12_sort (l : Launch) (D : va_G) (cA : Nat → ClassId) (L : List Nat) (T : Nat → Nat) (r : Rg) (hG : GR L T r) (hL : L.Nodup) (σ : Sg) (ρ : Lg) (hW : WT L rz T σ) (sz : Nat) (h0 : Nat) (mh0 : h0 ∈ L) (th0 : T h0 = 12) (p1 : Int32) (p2 : Int32) (hZ : ZM L T σ) : Met l yX12_sort (.code yX12_sort cX12_sort 3 (some .int) :: wsA) ({ frames := 1, cells := 0, slots := 0, locals := 21 }) (PR D cA L T r σ ρ sz [.ref h0, .int p1, .int p2]) (QI D cA L T r rz ([] : List (Nat × Nat)) σ sz (fun x σ1 => x = (-1))) 0 0 (dm L sz) := by
  refine Met.ofW (cc := cX12_sort) (maxL := 3) (ret := (some .int)) (by decide) rfl ?_
  intro p e s m args below meth c s₁ B hml hv
  obtain ⟨rfl, hsz, hP, hK, hN⟩ := hv
  have hx := B.exec
  have hb := B.bytes
  have hr := B.returns
  have hts : ∀ w ∈ wsA, w.before _ s = true := fun w h => atoms_spec (ws := .code yX12_sort cX12_sort 3 (some .int) :: wsA) B.pre w (List.mem_cons_of_mem _ h)
  have hown : s.vm.findClass RX12 = some m.cls := findClass_of_methodNamed B.named
  subst hsz
  have hLA : LA (dm L s.heap.size) L := ⟨hL, fun a h => Or.inl h⟩
  have hA : ∀ q : Nat, s.heap.size ≤ q → dm L s.heap.size q := fun q h => Or.inr h
  have hS : va_S (dm L s.heap.size) s.heap s.heap [] := va_S.rf
  have hB : TS D cA L T r rz ([] : List (Nat × Nat)) σ σ ρ s.heap := ⟨hP, hW, FR.rf⟩
  have hl := lv_entry ([.ref h0, .int p1, .int p2]) (n := 3) (Nat.le_of_ble_eq_true rfl)
  rw [lg_entry_eq]
  generalize (lg_sl ([.ref h0, .int p1, .int p2]) ++ List.replicate (3 - (lg_sl ([.ref h0, .int p1, .int p2])).length) Slot.unset).toArray = ls at hl ⊢
  have hl : lv_has ls 3 [(0, .ref h0), (1, .int p1), (2, .int p2)] := hl
  refine lv_aload_n hx hb dX12_sort_0 rfl (lv_at hl 0 rfl) ?_
  refine lv_iload_n hx hb dX12_sort_1 rfl (lv_at hl 1 rfl) ?_
  refine t_ci (va_runV (As := [.int p1]) (rest := []) ⟨hx, hb, hml, hown, hts⟩ (cz_X12_isSort l D cA L T r hG hLA.1 σ ρ hB.2.1 _ h0 mh0 th0 p1) (cV hts mv_X12_isSort mw_7_110 rfl rfl ⟨Nat.le_of_ble_eq_true rfl, Nat.le_of_ble_eq_true rfl⟩) (pV hB.1 hK hN mh0 th0 (show shp cA 12 _ _ _ = .inr (12, Fs12 _ _ _) from rfl) rfl) rfl rfl hl.1 rfl (lv_room (Nat.le_of_ble_eq_true rfl)) dX12_sort_2 ⟨Nat.le_of_ble_eq_true rfl, Nat.le_of_ble_eq_true rfl⟩) hLA hA hB hS (by decide) (fun x_3 σ_1 ρ_2 H locs hB fσ_1 pσ_1 hS => ?_)
  subst pσ_1
  refine lv_if_eq (tgt := 36) hx hb dX12_sort_5 (by decide) (fun _ => ?_) (fun c9 => absurd (by decide) c9)
  refine lv_iconst (v := (-1)) hx hb dX12_sort_36 (by decide) ?_
  exact W.iret (v := (-1)) hx hb hr (fun t ht hW => ⟨⟨(-1), (σ_1, ρ_2), rfl, ⟨hB.2.1, hB.2.2, rfl⟩, (show TP D cA L T r σ_1 ρ_2 t.heap from by rw [ht]; exact hB.1)⟩, hS.F ht⟩) hS.2.2 dX12_sort_37
set_option maxHeartbeats 4000000 in
set_option maxRecDepth 100000 in
theorem cz_X12_night (l : Launch) (D : va_G) (cA : Nat → ClassId) (L : List Nat) (T : Nat → Nat) (r : Rg) (hG : GR L T r) (hL : L.Nodup) (σ : Sg) (ρ : Lg) (hW : WT L rz T σ) (sz : Nat) (h0 : Nat) (mh0 : h0 ∈ L) (th0 : T h0 = 12) (hZ : ZM L T σ) : Met l yX12_night (.code yX12_night cX12_night 1 (some .int) :: wsA) ({ frames := 1, cells := 0, slots := 0, locals := 20 }) (PR D cA L T r σ ρ sz [.ref h0]) (QI D cA L T r rz ([] : List (Nat × Nat)) σ sz (fun x σ1 => x = (-1))) 0 0 (dm L sz) := by
  refine Met.ofW (cc := cX12_night) (maxL := 1) (ret := (some .int)) (by decide) rfl ?_
  intro p e s m args below meth c s₁ B hml hv
  obtain ⟨rfl, hsz, hP, hK, hN⟩ := hv
  have hx := B.exec
  have hb := B.bytes
  have hr := B.returns
  have hts : ∀ w ∈ wsA, w.before _ s = true := fun w h => atoms_spec (ws := .code yX12_night cX12_night 1 (some .int) :: wsA) B.pre w (List.mem_cons_of_mem _ h)
  have hown : s.vm.findClass RX12 = some m.cls := findClass_of_methodNamed B.named
  subst hsz
  have hLA : LA (dm L s.heap.size) L := ⟨hL, fun a h => Or.inl h⟩
  have hA : ∀ q : Nat, s.heap.size ≤ q → dm L s.heap.size q := fun q h => Or.inr h
  have hS : va_S (dm L s.heap.size) s.heap s.heap [] := va_S.rf
  have hB : TS D cA L T r rz ([] : List (Nat × Nat)) σ σ ρ s.heap := ⟨hP, hW, FR.rf⟩
  have hl := lv_entry ([.ref h0]) (n := 1) (Nat.le_of_ble_eq_true rfl)
  rw [lg_entry_eq]
  generalize (lg_sl ([.ref h0]) ++ List.replicate (1 - (lg_sl ([.ref h0])).length) Slot.unset).toArray = ls at hl ⊢
  have hl : lv_has ls 1 [(0, .ref h0)] := hl
  refine lv_aload_n hx hb dX12_night_0 rfl (lv_at hl 0 rfl) ?_
  refine t_ci (va_runV (As := []) (rest := []) ⟨hx, hb, hml, hown, hts⟩ (cz_X12_isHill l D cA L T r hG hLA.1 σ ρ hB.2.1 _ h0 mh0 th0) (cV hts mv_X12_isHill mw_7_123 rfl rfl ⟨Nat.le_of_ble_eq_true rfl, Nat.le_of_ble_eq_true rfl⟩) (pV hB.1 hK hN mh0 th0 (show shp cA 12 _ _ _ = .inr (12, Fs12 _ _ _) from rfl) rfl) rfl rfl hl.1 rfl (lv_room (Nat.le_of_ble_eq_true rfl)) dX12_night_1 ⟨Nat.le_of_ble_eq_true rfl, Nat.le_of_ble_eq_true rfl⟩) hLA hA hB hS (by decide) (fun x_3 σ_1 ρ_2 H locs hB fσ_1 pσ_1 hS => ?_)
  subst pσ_1
  refine lv_if_eq (tgt := 19) hx hb dX12_night_4 (by decide) (fun _ => ?_) (fun c9 => absurd (by decide) c9)
  refine lv_iconst (v := (-1)) hx hb dX12_night_19 (by decide) ?_
  exact W.iret (v := (-1)) hx hb hr (fun t ht hW => ⟨⟨(-1), (σ_1, ρ_2), rfl, ⟨hB.2.1, hB.2.2, rfl⟩, (show TP D cA L T r σ_1 ρ_2 t.heap from by rw [ht]; exact hB.1)⟩, hS.F ht⟩) hS.2.2 dX12_night_20
set_option maxHeartbeats 4000000 in
set_option maxRecDepth 100000 in
theorem cz_X12_climb (l : Launch) (D : va_G) (cA : Nat → ClassId) (L : List Nat) (T : Nat → Nat) (r : Rg) (hG : GR L T r) (hL : L.Nodup) (σ : Sg) (ρ : Lg) (hW : WT L rz T σ) (sz : Nat) (h0 : Nat) (mh0 : h0 ∈ L) (th0 : T h0 = 12) (p1 : Int32) (hZ : ZM L T σ) : Met l yX12_climb (.code yX12_climb cX12_climb 2 (some .int) :: wsA) ({ frames := 1, cells := 0, slots := 0, locals := 21 }) (PR D cA L T r σ ρ sz [.ref h0, .int p1]) (QI D cA L T r rz ([] : List (Nat × Nat)) σ sz (fun x σ1 => x = (-1))) 0 0 (dm L sz) := by
  refine Met.ofW (cc := cX12_climb) (maxL := 2) (ret := (some .int)) (by decide) rfl ?_
  intro p e s m args below meth c s₁ B hml hv
  obtain ⟨rfl, hsz, hP, hK, hN⟩ := hv
  have hx := B.exec
  have hb := B.bytes
  have hr := B.returns
  have hts : ∀ w ∈ wsA, w.before _ s = true := fun w h => atoms_spec (ws := .code yX12_climb cX12_climb 2 (some .int) :: wsA) B.pre w (List.mem_cons_of_mem _ h)
  have hown : s.vm.findClass RX12 = some m.cls := findClass_of_methodNamed B.named
  subst hsz
  have hLA : LA (dm L s.heap.size) L := ⟨hL, fun a h => Or.inl h⟩
  have hA : ∀ q : Nat, s.heap.size ≤ q → dm L s.heap.size q := fun q h => Or.inr h
  have hS : va_S (dm L s.heap.size) s.heap s.heap [] := va_S.rf
  have hB : TS D cA L T r rz ([] : List (Nat × Nat)) σ σ ρ s.heap := ⟨hP, hW, FR.rf⟩
  have hl := lv_entry ([.ref h0, .int p1]) (n := 2) (Nat.le_of_ble_eq_true rfl)
  rw [lg_entry_eq]
  generalize (lg_sl ([.ref h0, .int p1]) ++ List.replicate (2 - (lg_sl ([.ref h0, .int p1])).length) Slot.unset).toArray = ls at hl ⊢
  have hl : lv_has ls 2 [(0, .ref h0), (1, .int p1)] := hl
  refine lv_aload_n hx hb dX12_climb_0 rfl (lv_at hl 0 rfl) ?_
  refine lv_iload_n hx hb dX12_climb_1 rfl (lv_at hl 1 rfl) ?_
  refine t_ci (va_runV (As := [.int p1]) (rest := []) ⟨hx, hb, hml, hown, hts⟩ (cz_X12_isPilgrim l D cA L T r hG hLA.1 σ ρ hB.2.1 _ h0 mh0 th0 p1) (cV hts mv_X12_isPilgrim mw_7_64 rfl rfl ⟨Nat.le_of_ble_eq_true rfl, Nat.le_of_ble_eq_true rfl⟩) (pV hB.1 hK hN mh0 th0 (show shp cA 12 _ _ _ = .inr (12, Fs12 _ _ _) from rfl) rfl) rfl rfl hl.1 rfl (lv_room (Nat.le_of_ble_eq_true rfl)) dX12_climb_2 ⟨Nat.le_of_ble_eq_true rfl, Nat.le_of_ble_eq_true rfl⟩) hLA hA hB hS (by decide) (fun x_3 σ_1 ρ_2 H locs hB fσ_1 pσ_1 hS => ?_)
  subst pσ_1
  refine lv_if_eq (tgt := 16) hx hb dX12_climb_5 (by decide) (fun _ => ?_) (fun c9 => absurd (by decide) c9)
  refine lv_iconst (v := (-1)) hx hb dX12_climb_16 (by decide) ?_
  exact W.iret (v := (-1)) hx hb hr (fun t ht hW => ⟨⟨(-1), (σ_1, ρ_2), rfl, ⟨hB.2.1, hB.2.2, rfl⟩, (show TP D cA L T r σ_1 ρ_2 t.heap from by rw [ht]; exact hB.1)⟩, hS.F ht⟩) hS.2.2 dX12_climb_17
set_option maxHeartbeats 4000000 in
set_option maxRecDepth 100000 in
theorem cz_X12_down (l : Launch) (D : va_G) (cA : Nat → ClassId) (L : List Nat) (T : Nat → Nat) (r : Rg) (hG : GR L T r) (hL : L.Nodup) (σ : Sg) (ρ : Lg) (hW : WT L rz T σ) (sz : Nat) (h0 : Nat) (mh0 : h0 ∈ L) (th0 : T h0 = 12) (p1 : Int32) (hZ : ZM L T σ) : Met l yX12_down (.code yX12_down cX12_down 2 (some .int) :: wsA) ({ frames := 1, cells := 0, slots := 0, locals := 21 }) (PR D cA L T r σ ρ sz [.ref h0, .int p1]) (QI D cA L T r rz ([] : List (Nat × Nat)) σ sz (fun x σ1 => x = (-1))) 0 0 (dm L sz) := by
  refine Met.ofW (cc := cX12_down) (maxL := 2) (ret := (some .int)) (by decide) rfl ?_
  intro p e s m args below meth c s₁ B hml hv
  obtain ⟨rfl, hsz, hP, hK, hN⟩ := hv
  have hx := B.exec
  have hb := B.bytes
  have hr := B.returns
  have hts : ∀ w ∈ wsA, w.before _ s = true := fun w h => atoms_spec (ws := .code yX12_down cX12_down 2 (some .int) :: wsA) B.pre w (List.mem_cons_of_mem _ h)
  have hown : s.vm.findClass RX12 = some m.cls := findClass_of_methodNamed B.named
  subst hsz
  have hLA : LA (dm L s.heap.size) L := ⟨hL, fun a h => Or.inl h⟩
  have hA : ∀ q : Nat, s.heap.size ≤ q → dm L s.heap.size q := fun q h => Or.inr h
  have hS : va_S (dm L s.heap.size) s.heap s.heap [] := va_S.rf
  have hB : TS D cA L T r rz ([] : List (Nat × Nat)) σ σ ρ s.heap := ⟨hP, hW, FR.rf⟩
  have hl := lv_entry ([.ref h0, .int p1]) (n := 2) (Nat.le_of_ble_eq_true rfl)
  rw [lg_entry_eq]
  generalize (lg_sl ([.ref h0, .int p1]) ++ List.replicate (2 - (lg_sl ([.ref h0, .int p1])).length) Slot.unset).toArray = ls at hl ⊢
  have hl : lv_has ls 2 [(0, .ref h0), (1, .int p1)] := hl
  refine lv_aload_n hx hb dX12_down_0 rfl (lv_at hl 0 rfl) ?_
  refine lv_iload_n hx hb dX12_down_1 rfl (lv_at hl 1 rfl) ?_
  refine t_ci (va_runV (As := [.int p1]) (rest := []) ⟨hx, hb, hml, hown, hts⟩ (cz_X12_isPilgrim l D cA L T r hG hLA.1 σ ρ hB.2.1 _ h0 mh0 th0 p1) (cV hts mv_X12_isPilgrim mw_7_64 rfl rfl ⟨Nat.le_of_ble_eq_true rfl, Nat.le_of_ble_eq_true rfl⟩) (pV hB.1 hK hN mh0 th0 (show shp cA 12 _ _ _ = .inr (12, Fs12 _ _ _) from rfl) rfl) rfl rfl hl.1 rfl (lv_room (Nat.le_of_ble_eq_true rfl)) dX12_down_2 ⟨Nat.le_of_ble_eq_true rfl, Nat.le_of_ble_eq_true rfl⟩) hLA hA hB hS (by decide) (fun x_3 σ_1 ρ_2 H locs hB fσ_1 pσ_1 hS => ?_)
  subst pσ_1
  refine lv_if_eq (tgt := 17) hx hb dX12_down_5 (by decide) (fun _ => ?_) (fun c9 => absurd (by decide) c9)
  refine lv_iconst (v := (-1)) hx hb dX12_down_17 (by decide) ?_
  exact W.iret (v := (-1)) hx hb hr (fun t ht hW => ⟨⟨(-1), (σ_1, ρ_2), rfl, ⟨hB.2.1, hB.2.2, rfl⟩, (show TP D cA L T r σ_1 ρ_2 t.heap from by rw [ht]; exact hB.1)⟩, hS.F ht⟩) hS.2.2 dX12_down_18
set_option maxHeartbeats 4000000 in
set_option maxRecDepth 100000 in
theorem cz_X12_take (l : Launch) (D : va_G) (cA : Nat → ClassId) (L : List Nat) (T : Nat → Nat) (r : Rg) (hG : GR L T r) (hL : L.Nodup) (σ : Sg) (ρ : Lg) (hW : WT L rz T σ) (sz : Nat) (h0 : Nat) (mh0 : h0 ∈ L) (th0 : T h0 = 12) (p1 : Int32) (p2 : Int32) (hZ : ZM L T σ) : Met l yX12_take (.code yX12_take cX12_take 4 (some .int) :: wsA) ({ frames := 1, cells := 0, slots := 0, locals := 21 }) (PR D cA L T r σ ρ sz [.ref h0, .int p1, .int p2]) (QI D cA L T r rz ([] : List (Nat × Nat)) σ sz (fun x σ1 => x = (-1))) 0 0 (dm L sz) := by
  refine Met.ofW (cc := cX12_take) (maxL := 4) (ret := (some .int)) (by decide) rfl ?_
  intro p e s m args below meth c s₁ B hml hv
  obtain ⟨rfl, hsz, hP, hK, hN⟩ := hv
  have hx := B.exec
  have hb := B.bytes
  have hr := B.returns
  have hts : ∀ w ∈ wsA, w.before _ s = true := fun w h => atoms_spec (ws := .code yX12_take cX12_take 4 (some .int) :: wsA) B.pre w (List.mem_cons_of_mem _ h)
  have hown : s.vm.findClass RX12 = some m.cls := findClass_of_methodNamed B.named
  subst hsz
  have hLA : LA (dm L s.heap.size) L := ⟨hL, fun a h => Or.inl h⟩
  have hA : ∀ q : Nat, s.heap.size ≤ q → dm L s.heap.size q := fun q h => Or.inr h
  have hS : va_S (dm L s.heap.size) s.heap s.heap [] := va_S.rf
  have hB : TS D cA L T r rz ([] : List (Nat × Nat)) σ σ ρ s.heap := ⟨hP, hW, FR.rf⟩
  have hl := lv_entry ([.ref h0, .int p1, .int p2]) (n := 4) (Nat.le_of_ble_eq_true rfl)
  rw [lg_entry_eq]
  generalize (lg_sl ([.ref h0, .int p1, .int p2]) ++ List.replicate (4 - (lg_sl ([.ref h0, .int p1, .int p2])).length) Slot.unset).toArray = ls at hl ⊢
  have hl : lv_has ls 4 [(0, .ref h0), (1, .int p1), (2, .int p2)] := hl
  refine lv_aload_n hx hb dX12_take_0 rfl (lv_at hl 0 rfl) ?_
  refine lv_iload_n hx hb dX12_take_1 rfl (lv_at hl 1 rfl) ?_
  refine t_ci (va_runV (As := [.int p1]) (rest := []) ⟨hx, hb, hml, hown, hts⟩ (cz_X12_isPilgrim l D cA L T r hG hLA.1 σ ρ hB.2.1 _ h0 mh0 th0 p1) (cV hts mv_X12_isPilgrim mw_7_64 rfl rfl ⟨Nat.le_of_ble_eq_true rfl, Nat.le_of_ble_eq_true rfl⟩) (pV hB.1 hK hN mh0 th0 (show shp cA 12 _ _ _ = .inr (12, Fs12 _ _ _) from rfl) rfl) rfl rfl hl.1 rfl (lv_room (Nat.le_of_ble_eq_true rfl)) dX12_take_2 ⟨Nat.le_of_ble_eq_true rfl, Nat.le_of_ble_eq_true rfl⟩) hLA hA hB hS (by decide) (fun x_3 σ_1 ρ_2 H locs hB fσ_1 pσ_1 hS => ?_)
  subst pσ_1
  refine lv_if_eq (tgt := 25) hx hb dX12_take_5 (by decide) (fun _ => ?_) (fun c9 => absurd (by decide) c9)
  refine lv_iconst (v := (-1)) hx hb dX12_take_25 (by decide) ?_
  exact W.iret (v := (-1)) hx hb hr (fun t ht hW => ⟨⟨(-1), (σ_1, ρ_2), rfl, ⟨hB.2.1, hB.2.2, rfl⟩, (show TP D cA L T r σ_1 ρ_2 t.heap from by rw [ht]; exact hB.1)⟩, hS.F ht⟩) hS.2.2 dX12_take_26
set_option maxHeartbeats 4000000 in
set_option maxRecDepth 100000 in
theorem cz_X12_buy (l : Launch) (D : va_G) (cA : Nat → ClassId) (L : List Nat) (T : Nat → Nat) (r : Rg) (hG : GR L T r) (hL : L.Nodup) (σ : Sg) (ρ : Lg) (hW : WT L rz T σ) (sz : Nat) (h0 : Nat) (mh0 : h0 ∈ L) (th0 : T h0 = 12) (p1 : Int32) (p2 : Int32) (hZ : ZM L T σ) : Met l yX12_buy (.code yX12_buy cX12_buy 3 (some .int) :: wsA) ({ frames := 1, cells := 0, slots := 0, locals := 21 }) (PR D cA L T r σ ρ sz [.ref h0, .int p1, .int p2]) (QI D cA L T r rz ([] : List (Nat × Nat)) σ sz (fun x σ1 => x = (-1))) 0 0 (dm L sz) := by
  refine Met.ofW (cc := cX12_buy) (maxL := 3) (ret := (some .int)) (by decide) rfl ?_
  intro p e s m args below meth c s₁ B hml hv
  obtain ⟨rfl, hsz, hP, hK, hN⟩ := hv
  have hx := B.exec
  have hb := B.bytes
  have hr := B.returns
  have hts : ∀ w ∈ wsA, w.before _ s = true := fun w h => atoms_spec (ws := .code yX12_buy cX12_buy 3 (some .int) :: wsA) B.pre w (List.mem_cons_of_mem _ h)
  have hown : s.vm.findClass RX12 = some m.cls := findClass_of_methodNamed B.named
  subst hsz
  have hLA : LA (dm L s.heap.size) L := ⟨hL, fun a h => Or.inl h⟩
  have hA : ∀ q : Nat, s.heap.size ≤ q → dm L s.heap.size q := fun q h => Or.inr h
  have hS : va_S (dm L s.heap.size) s.heap s.heap [] := va_S.rf
  have hB : TS D cA L T r rz ([] : List (Nat × Nat)) σ σ ρ s.heap := ⟨hP, hW, FR.rf⟩
  have hl := lv_entry ([.ref h0, .int p1, .int p2]) (n := 3) (Nat.le_of_ble_eq_true rfl)
  rw [lg_entry_eq]
  generalize (lg_sl ([.ref h0, .int p1, .int p2]) ++ List.replicate (3 - (lg_sl ([.ref h0, .int p1, .int p2])).length) Slot.unset).toArray = ls at hl ⊢
  have hl : lv_has ls 3 [(0, .ref h0), (1, .int p1), (2, .int p2)] := hl
  refine lv_aload_n hx hb dX12_buy_0 rfl (lv_at hl 0 rfl) ?_
  refine lv_iload_n hx hb dX12_buy_1 rfl (lv_at hl 1 rfl) ?_
  refine t_ci (va_runV (As := [.int p1]) (rest := []) ⟨hx, hb, hml, hown, hts⟩ (cz_X12_isPilgrim l D cA L T r hG hLA.1 σ ρ hB.2.1 _ h0 mh0 th0 p1) (cV hts mv_X12_isPilgrim mw_7_64 rfl rfl ⟨Nat.le_of_ble_eq_true rfl, Nat.le_of_ble_eq_true rfl⟩) (pV hB.1 hK hN mh0 th0 (show shp cA 12 _ _ _ = .inr (12, Fs12 _ _ _) from rfl) rfl) rfl rfl hl.1 rfl (lv_room (Nat.le_of_ble_eq_true rfl)) dX12_buy_2 ⟨Nat.le_of_ble_eq_true rfl, Nat.le_of_ble_eq_true rfl⟩) hLA hA hB hS (by decide) (fun x_3 σ_1 ρ_2 H locs hB fσ_1 pσ_1 hS => ?_)
  subst pσ_1
  refine lv_if_eq (tgt := 25) hx hb dX12_buy_5 (by decide) (fun _ => ?_) (fun c9 => absurd (by decide) c9)
  refine lv_iconst (v := (-1)) hx hb dX12_buy_25 (by decide) ?_
  exact W.iret (v := (-1)) hx hb hr (fun t ht hW => ⟨⟨(-1), (σ_1, ρ_2), rfl, ⟨hB.2.1, hB.2.2, rfl⟩, (show TP D cA L T r σ_1 ρ_2 t.heap from by rw [ht]; exact hB.1)⟩, hS.F ht⟩) hS.2.2 dX12_buy_26
set_option maxHeartbeats 4000000 in
set_option maxRecDepth 100000 in
theorem cz_X12_sell (l : Launch) (D : va_G) (cA : Nat → ClassId) (L : List Nat) (T : Nat → Nat) (r : Rg) (hG : GR L T r) (hL : L.Nodup) (σ : Sg) (ρ : Lg) (hW : WT L rz T σ) (sz : Nat) (h0 : Nat) (mh0 : h0 ∈ L) (th0 : T h0 = 12) (p1 : Int32) (p2 : Int32) (hZ : ZM L T σ) : Met l yX12_sell (.code yX12_sell cX12_sell 3 (some .int) :: wsA) ({ frames := 1, cells := 0, slots := 0, locals := 21 }) (PR D cA L T r σ ρ sz [.ref h0, .int p1, .int p2]) (QI D cA L T r rz ([] : List (Nat × Nat)) σ sz (fun x σ1 => x = (-1))) 0 0 (dm L sz) := by
  refine Met.ofW (cc := cX12_sell) (maxL := 3) (ret := (some .int)) (by decide) rfl ?_
  intro p e s m args below meth c s₁ B hml hv
  obtain ⟨rfl, hsz, hP, hK, hN⟩ := hv
  have hx := B.exec
  have hb := B.bytes
  have hr := B.returns
  have hts : ∀ w ∈ wsA, w.before _ s = true := fun w h => atoms_spec (ws := .code yX12_sell cX12_sell 3 (some .int) :: wsA) B.pre w (List.mem_cons_of_mem _ h)
  have hown : s.vm.findClass RX12 = some m.cls := findClass_of_methodNamed B.named
  subst hsz
  have hLA : LA (dm L s.heap.size) L := ⟨hL, fun a h => Or.inl h⟩
  have hA : ∀ q : Nat, s.heap.size ≤ q → dm L s.heap.size q := fun q h => Or.inr h
  have hS : va_S (dm L s.heap.size) s.heap s.heap [] := va_S.rf
  have hB : TS D cA L T r rz ([] : List (Nat × Nat)) σ σ ρ s.heap := ⟨hP, hW, FR.rf⟩
  have hl := lv_entry ([.ref h0, .int p1, .int p2]) (n := 3) (Nat.le_of_ble_eq_true rfl)
  rw [lg_entry_eq]
  generalize (lg_sl ([.ref h0, .int p1, .int p2]) ++ List.replicate (3 - (lg_sl ([.ref h0, .int p1, .int p2])).length) Slot.unset).toArray = ls at hl ⊢
  have hl : lv_has ls 3 [(0, .ref h0), (1, .int p1), (2, .int p2)] := hl
  refine lv_aload_n hx hb dX12_sell_0 rfl (lv_at hl 0 rfl) ?_
  refine lv_iload_n hx hb dX12_sell_1 rfl (lv_at hl 1 rfl) ?_
  refine t_ci (va_runV (As := [.int p1]) (rest := []) ⟨hx, hb, hml, hown, hts⟩ (cz_X12_isPilgrim l D cA L T r hG hLA.1 σ ρ hB.2.1 _ h0 mh0 th0 p1) (cV hts mv_X12_isPilgrim mw_7_64 rfl rfl ⟨Nat.le_of_ble_eq_true rfl, Nat.le_of_ble_eq_true rfl⟩) (pV hB.1 hK hN mh0 th0 (show shp cA 12 _ _ _ = .inr (12, Fs12 _ _ _) from rfl) rfl) rfl rfl hl.1 rfl (lv_room (Nat.le_of_ble_eq_true rfl)) dX12_sell_2 ⟨Nat.le_of_ble_eq_true rfl, Nat.le_of_ble_eq_true rfl⟩) hLA hA hB hS (by decide) (fun x_3 σ_1 ρ_2 H locs hB fσ_1 pσ_1 hS => ?_)
  subst pσ_1
  refine lv_if_eq (tgt := 34) hx hb dX12_sell_5 (by decide) (fun _ => ?_) (fun c9 => absurd (by decide) c9)
  refine lv_iconst (v := (-1)) hx hb dX12_sell_34 (by decide) ?_
  exact W.iret (v := (-1)) hx hb hr (fun t ht hW => ⟨⟨(-1), (σ_1, ρ_2), rfl, ⟨hB.2.1, hB.2.2, rfl⟩, (show TP D cA L T r σ_1 ρ_2 t.heap from by rw [ht]; exact hB.1)⟩, hS.F ht⟩) hS.2.2 dX12_sell_35
set_option maxHeartbeats 4000000 in
set_option maxRecDepth 100000 in
theorem cz_X12_hand (l : Launch) (D : va_G) (cA : Nat → ClassId) (L : List Nat) (T : Nat → Nat) (r : Rg) (hG : GR L T r) (hL : L.Nodup) (σ : Sg) (ρ : Lg) (hW : WT L rz T σ) (sz : Nat) (h0 : Nat) (mh0 : h0 ∈ L) (th0 : T h0 = 12) (p1 : Int32) (p2 : Int32) (p3 : Int32) (hZ : ZM L T σ) : Met l yX12_hand (.code yX12_hand cX12_hand 4 (some .int) :: wsA) ({ frames := 1, cells := 0, slots := 0, locals := 21 }) (PR D cA L T r σ ρ sz [.ref h0, .int p1, .int p2, .int p3]) (QI D cA L T r rz ([] : List (Nat × Nat)) σ sz (fun x σ1 => x = (-1))) 0 0 (dm L sz) := by
  refine Met.ofW (cc := cX12_hand) (maxL := 4) (ret := (some .int)) (by decide) rfl ?_
  intro p e s m args below meth c s₁ B hml hv
  obtain ⟨rfl, hsz, hP, hK, hN⟩ := hv
  have hx := B.exec
  have hb := B.bytes
  have hr := B.returns
  have hts : ∀ w ∈ wsA, w.before _ s = true := fun w h => atoms_spec (ws := .code yX12_hand cX12_hand 4 (some .int) :: wsA) B.pre w (List.mem_cons_of_mem _ h)
  have hown : s.vm.findClass RX12 = some m.cls := findClass_of_methodNamed B.named
  subst hsz
  have hLA : LA (dm L s.heap.size) L := ⟨hL, fun a h => Or.inl h⟩
  have hA : ∀ q : Nat, s.heap.size ≤ q → dm L s.heap.size q := fun q h => Or.inr h
  have hS : va_S (dm L s.heap.size) s.heap s.heap [] := va_S.rf
  have hB : TS D cA L T r rz ([] : List (Nat × Nat)) σ σ ρ s.heap := ⟨hP, hW, FR.rf⟩
  have hl := lv_entry ([.ref h0, .int p1, .int p2, .int p3]) (n := 4) (Nat.le_of_ble_eq_true rfl)
  rw [lg_entry_eq]
  generalize (lg_sl ([.ref h0, .int p1, .int p2, .int p3]) ++ List.replicate (4 - (lg_sl ([.ref h0, .int p1, .int p2, .int p3])).length) Slot.unset).toArray = ls at hl ⊢
  have hl : lv_has ls 4 [(0, .ref h0), (1, .int p1), (2, .int p2), (3, .int p3)] := hl
  refine lv_aload_n hx hb dX12_hand_0 rfl (lv_at hl 0 rfl) ?_
  refine lv_iload_n hx hb dX12_hand_1 rfl (lv_at hl 1 rfl) ?_
  refine t_ci (va_runV (As := [.int p1]) (rest := []) ⟨hx, hb, hml, hown, hts⟩ (cz_X12_isPilgrim l D cA L T r hG hLA.1 σ ρ hB.2.1 _ h0 mh0 th0 p1) (cV hts mv_X12_isPilgrim mw_7_64 rfl rfl ⟨Nat.le_of_ble_eq_true rfl, Nat.le_of_ble_eq_true rfl⟩) (pV hB.1 hK hN mh0 th0 (show shp cA 12 _ _ _ = .inr (12, Fs12 _ _ _) from rfl) rfl) rfl rfl hl.1 rfl (lv_room (Nat.le_of_ble_eq_true rfl)) dX12_hand_2 ⟨Nat.le_of_ble_eq_true rfl, Nat.le_of_ble_eq_true rfl⟩) hLA hA hB hS (by decide) (fun x_3 σ_1 ρ_2 H locs hB fσ_1 pσ_1 hS => ?_)
  subst pσ_1
  refine lv_if_eq (tgt := 29) hx hb dX12_hand_5 (by decide) (fun _ => ?_) (fun c9 => absurd (by decide) c9)
  refine lv_iconst (v := (-1)) hx hb dX12_hand_29 (by decide) ?_
  exact W.iret (v := (-1)) hx hb hr (fun t ht hW => ⟨⟨(-1), (σ_1, ρ_2), rfl, ⟨hB.2.1, hB.2.2, rfl⟩, (show TP D cA L T r σ_1 ρ_2 t.heap from by rw [ht]; exact hB.1)⟩, hS.F ht⟩) hS.2.2 dX12_hand_30
set_option maxHeartbeats 4000000 in
set_option maxRecDepth 100000 in
theorem cz_X12_undo (l : Launch) (D : va_G) (cA : Nat → ClassId) (L : List Nat) (T : Nat → Nat) (r : Rg) (hG : GR L T r) (hL : L.Nodup) (σ : Sg) (ρ : Lg) (hW : WT L rz T σ) (sz : Nat) (h0 : Nat) (mh0 : h0 ∈ L) (th0 : T h0 = 12) (hZ : ZM L T σ) : Met l yX12_undo (.code yX12_undo cX12_undo 2 (some .int) :: wsA) ({ frames := 0, cells := 0, slots := 0, locals := 0 }) (PR D cA L T r σ ρ sz [.ref h0]) (QI D cA L T r rz ([] : List (Nat × Nat)) σ sz (fun x σ1 => x = (-1))) 0 0 (dm L sz) := by
  refine Met.ofW (cc := cX12_undo) (maxL := 2) (ret := (some .int)) (by decide) rfl ?_
  intro p e s m args below meth c s₁ B hml hv
  obtain ⟨rfl, hsz, hP, hK, hN⟩ := hv
  have hx := B.exec
  have hb := B.bytes
  have hr := B.returns
  have hts : ∀ w ∈ wsA, w.before _ s = true := fun w h => atoms_spec (ws := .code yX12_undo cX12_undo 2 (some .int) :: wsA) B.pre w (List.mem_cons_of_mem _ h)
  have hown : s.vm.findClass RX12 = some m.cls := findClass_of_methodNamed B.named
  subst hsz
  have hLA : LA (dm L s.heap.size) L := ⟨hL, fun a h => Or.inl h⟩
  have hA : ∀ q : Nat, s.heap.size ≤ q → dm L s.heap.size q := fun q h => Or.inr h
  have hS : va_S (dm L s.heap.size) s.heap s.heap [] := va_S.rf
  have hB : TS D cA L T r rz ([] : List (Nat × Nat)) σ σ ρ s.heap := ⟨hP, hW, FR.rf⟩
  have hl := lv_entry ([.ref h0]) (n := 2) (Nat.le_of_ble_eq_true rfl)
  rw [lg_entry_eq]
  generalize (lg_sl ([.ref h0]) ++ List.replicate (2 - (lg_sl ([.ref h0])).length) Slot.unset).toArray = ls at hl ⊢
  have hl : lv_has ls 2 [(0, .ref h0)] := hl
  refine lv_aload_n hx hb dX12_undo_0 rfl (lv_at hl 0 rfl) ?_
  refine t_gi hx hb hts hown hK hB mh0 th0 fi_12_25 rfl mw_6_1 dX12_undo_1 (fun x_1 ex_1 lx_1 ux_1 => ?_)
  obtain rfl : x_1 = 0 := i_is (n := 0) (by decide) (by omega)
  refine lv_if_ne (tgt := 9) hx hb dX12_undo_4 (by decide) (fun c9 => absurd (by decide) c9) (fun _ => ?_)
  refine lv_iconst (v := (-1)) hx hb dX12_undo_7 (by decide) ?_
  exact W.iret (v := (-1)) hx hb hr (fun t ht hW => ⟨⟨(-1), (σ, ρ), rfl, ⟨hB.2.1, hB.2.2, rfl⟩, (show TP D cA L T r σ ρ t.heap from by rw [ht]; exact hB.1)⟩, hS.F ht⟩) hS.2.2 dX12_undo_8
set_option maxHeartbeats 4000000 in
set_option maxRecDepth 100000 in
theorem cz_X12_reach (l : Launch) (D : va_G) (cA : Nat → ClassId) (L : List Nat) (T : Nat → Nat) (r : Rg) (hG : GR L T r) (hL : L.Nodup) (σ : Sg) (ρ : Lg) (hW : WT L rz T σ) (sz : Nat) (h0 : Nat) (mh0 : h0 ∈ L) (th0 : T h0 = 12) (p1 : Int32) (p2 : Int32) (hZ : ZM L T σ) : Met l yX12_reach (.code yX12_reach cX12_reach 4 (some .int) :: wsA) ({ frames := 1, cells := 0, slots := 0, locals := 21 }) (PR D cA L T r σ ρ sz [.ref h0, .int p1, .int p2]) (QI D cA L T r rz ([] : List (Nat × Nat)) σ sz (fun x σ1 => x = (-2))) 0 0 (dm L sz) := by
  refine Met.ofW (cc := cX12_reach) (maxL := 4) (ret := (some .int)) (by decide) rfl ?_
  intro p e s m args below meth c s₁ B hml hv
  obtain ⟨rfl, hsz, hP, hK, hN⟩ := hv
  have hx := B.exec
  have hb := B.bytes
  have hr := B.returns
  have hts : ∀ w ∈ wsA, w.before _ s = true := fun w h => atoms_spec (ws := .code yX12_reach cX12_reach 4 (some .int) :: wsA) B.pre w (List.mem_cons_of_mem _ h)
  have hown : s.vm.findClass RX12 = some m.cls := findClass_of_methodNamed B.named
  subst hsz
  have hLA : LA (dm L s.heap.size) L := ⟨hL, fun a h => Or.inl h⟩
  have hA : ∀ q : Nat, s.heap.size ≤ q → dm L s.heap.size q := fun q h => Or.inr h
  have hS : va_S (dm L s.heap.size) s.heap s.heap [] := va_S.rf
  have hB : TS D cA L T r rz ([] : List (Nat × Nat)) σ σ ρ s.heap := ⟨hP, hW, FR.rf⟩
  have hl := lv_entry ([.ref h0, .int p1, .int p2]) (n := 4) (Nat.le_of_ble_eq_true rfl)
  rw [lg_entry_eq]
  generalize (lg_sl ([.ref h0, .int p1, .int p2]) ++ List.replicate (4 - (lg_sl ([.ref h0, .int p1, .int p2])).length) Slot.unset).toArray = ls at hl ⊢
  have hl : lv_has ls 4 [(0, .ref h0), (1, .int p1), (2, .int p2)] := hl
  refine lv_aload_n hx hb dX12_reach_0 rfl (lv_at hl 0 rfl) ?_
  refine lv_iload_n hx hb dX12_reach_1 rfl (lv_at hl 1 rfl) ?_
  refine t_ci (va_runV (As := [.int p1]) (rest := []) ⟨hx, hb, hml, hown, hts⟩ (cz_X12_isPilgrim l D cA L T r hG hLA.1 σ ρ hB.2.1 _ h0 mh0 th0 p1) (cV hts mv_X12_isPilgrim mw_7_64 rfl rfl ⟨Nat.le_of_ble_eq_true rfl, Nat.le_of_ble_eq_true rfl⟩) (pV hB.1 hK hN mh0 th0 (show shp cA 12 _ _ _ = .inr (12, Fs12 _ _ _) from rfl) rfl) rfl rfl hl.1 rfl (lv_room (Nat.le_of_ble_eq_true rfl)) dX12_reach_2 ⟨Nat.le_of_ble_eq_true rfl, Nat.le_of_ble_eq_true rfl⟩) hLA hA hB hS (by decide) (fun x_3 σ_1 ρ_2 H locs hB fσ_1 pσ_1 hS => ?_)
  subst pσ_1
  refine lv_if_eq (tgt := 21) hx hb dX12_reach_5 (by decide) (fun _ => ?_) (fun c9 => absurd (by decide) c9)
  refine lv_bipush (v := (-2)) hx hb dX12_reach_21 (by decide) ?_
  exact W.iret (v := (-2)) hx hb hr (fun t ht hW => ⟨⟨(-2), (σ_1, ρ_2), rfl, ⟨hB.2.1, hB.2.2, rfl⟩, (show TP D cA L T r σ_1 ρ_2 t.heap from by rw [ht]; exact hB.1)⟩, hS.F ht⟩) hS.2.2 dX12_reach_23
set_option maxHeartbeats 4000000 in
set_option maxRecDepth 100000 in
theorem cz_X12_lacks (l : Launch) (D : va_G) (cA : Nat → ClassId) (L : List Nat) (T : Nat → Nat) (r : Rg) (hG : GR L T r) (hL : L.Nodup) (σ : Sg) (ρ : Lg) (hW : WT L rz T σ) (sz : Nat) (h0 : Nat) (mh0 : h0 ∈ L) (th0 : T h0 = 12) (p1 : Int32) (p2 : Int32) (hZ : ZM L T σ) : Met l yX12_lacks (.code yX12_lacks cX12_lacks 4 (some .int) :: wsA) ({ frames := 1, cells := 0, slots := 0, locals := 21 }) (PR D cA L T r σ ρ sz [.ref h0, .int p1, .int p2]) (QI D cA L T r rz ([] : List (Nat × Nat)) σ sz (fun x σ1 => x = (-2))) 0 0 (dm L sz) := by
  refine Met.ofW (cc := cX12_lacks) (maxL := 4) (ret := (some .int)) (by decide) rfl ?_
  intro p e s m args below meth c s₁ B hml hv
  obtain ⟨rfl, hsz, hP, hK, hN⟩ := hv
  have hx := B.exec
  have hb := B.bytes
  have hr := B.returns
  have hts : ∀ w ∈ wsA, w.before _ s = true := fun w h => atoms_spec (ws := .code yX12_lacks cX12_lacks 4 (some .int) :: wsA) B.pre w (List.mem_cons_of_mem _ h)
  have hown : s.vm.findClass RX12 = some m.cls := findClass_of_methodNamed B.named
  subst hsz
  have hLA : LA (dm L s.heap.size) L := ⟨hL, fun a h => Or.inl h⟩
  have hA : ∀ q : Nat, s.heap.size ≤ q → dm L s.heap.size q := fun q h => Or.inr h
  have hS : va_S (dm L s.heap.size) s.heap s.heap [] := va_S.rf
  have hB : TS D cA L T r rz ([] : List (Nat × Nat)) σ σ ρ s.heap := ⟨hP, hW, FR.rf⟩
  have hl := lv_entry ([.ref h0, .int p1, .int p2]) (n := 4) (Nat.le_of_ble_eq_true rfl)
  rw [lg_entry_eq]
  generalize (lg_sl ([.ref h0, .int p1, .int p2]) ++ List.replicate (4 - (lg_sl ([.ref h0, .int p1, .int p2])).length) Slot.unset).toArray = ls at hl ⊢
  have hl : lv_has ls 4 [(0, .ref h0), (1, .int p1), (2, .int p2)] := hl
  refine lv_aload_n hx hb dX12_lacks_0 rfl (lv_at hl 0 rfl) ?_
  refine lv_iload_n hx hb dX12_lacks_1 rfl (lv_at hl 1 rfl) ?_
  refine t_ci (va_runV (As := [.int p1]) (rest := []) ⟨hx, hb, hml, hown, hts⟩ (cz_X12_isPilgrim l D cA L T r hG hLA.1 σ ρ hB.2.1 _ h0 mh0 th0 p1) (cV hts mv_X12_isPilgrim mw_7_64 rfl rfl ⟨Nat.le_of_ble_eq_true rfl, Nat.le_of_ble_eq_true rfl⟩) (pV hB.1 hK hN mh0 th0 (show shp cA 12 _ _ _ = .inr (12, Fs12 _ _ _) from rfl) rfl) rfl rfl hl.1 rfl (lv_room (Nat.le_of_ble_eq_true rfl)) dX12_lacks_2 ⟨Nat.le_of_ble_eq_true rfl, Nat.le_of_ble_eq_true rfl⟩) hLA hA hB hS (by decide) (fun x_3 σ_1 ρ_2 H locs hB fσ_1 pσ_1 hS => ?_)
  subst pσ_1
  refine lv_if_eq (tgt := 21) hx hb dX12_lacks_5 (by decide) (fun _ => ?_) (fun c9 => absurd (by decide) c9)
  refine lv_bipush (v := (-2)) hx hb dX12_lacks_21 (by decide) ?_
  exact W.iret (v := (-2)) hx hb hr (fun t ht hW => ⟨⟨(-2), (σ_1, ρ_2), rfl, ⟨hB.2.1, hB.2.2, rfl⟩, (show TP D cA L T r σ_1 ρ_2 t.heap from by rw [ht]; exact hB.1)⟩, hS.F ht⟩) hS.2.2 dX12_lacks_23
set_option maxHeartbeats 4000000 in
set_option maxRecDepth 100000 in
theorem cz_X12_ways (l : Launch) (D : va_G) (cA : Nat → ClassId) (L : List Nat) (T : Nat → Nat) (r : Rg) (hG : GR L T r) (hL : L.Nodup) (σ : Sg) (ρ : Lg) (hW : WT L rz T σ) (sz : Nat) (h0 : Nat) (mh0 : h0 ∈ L) (th0 : T h0 = 12) (p1 : Int32) (hZ : ZM L T σ) : Met l yX12_ways (.code yX12_ways cX12_ways 2 (some .int) :: wsA) ({ frames := 1, cells := 0, slots := 0, locals := 21 }) (PR D cA L T r σ ρ sz [.ref h0, .int p1]) (QI D cA L T r rz ([] : List (Nat × Nat)) σ sz (fun x σ1 => x = (-1))) 0 0 (dm L sz) := by
  refine Met.ofW (cc := cX12_ways) (maxL := 2) (ret := (some .int)) (by decide) rfl ?_
  intro p e s m args below meth c s₁ B hml hv
  obtain ⟨rfl, hsz, hP, hK, hN⟩ := hv
  have hx := B.exec
  have hb := B.bytes
  have hr := B.returns
  have hts : ∀ w ∈ wsA, w.before _ s = true := fun w h => atoms_spec (ws := .code yX12_ways cX12_ways 2 (some .int) :: wsA) B.pre w (List.mem_cons_of_mem _ h)
  have hown : s.vm.findClass RX12 = some m.cls := findClass_of_methodNamed B.named
  subst hsz
  have hLA : LA (dm L s.heap.size) L := ⟨hL, fun a h => Or.inl h⟩
  have hA : ∀ q : Nat, s.heap.size ≤ q → dm L s.heap.size q := fun q h => Or.inr h
  have hS : va_S (dm L s.heap.size) s.heap s.heap [] := va_S.rf
  have hB : TS D cA L T r rz ([] : List (Nat × Nat)) σ σ ρ s.heap := ⟨hP, hW, FR.rf⟩
  have hl := lv_entry ([.ref h0, .int p1]) (n := 2) (Nat.le_of_ble_eq_true rfl)
  rw [lg_entry_eq]
  generalize (lg_sl ([.ref h0, .int p1]) ++ List.replicate (2 - (lg_sl ([.ref h0, .int p1])).length) Slot.unset).toArray = ls at hl ⊢
  have hl : lv_has ls 2 [(0, .ref h0), (1, .int p1)] := hl
  refine lv_aload_n hx hb dX12_ways_0 rfl (lv_at hl 0 rfl) ?_
  refine lv_iload_n hx hb dX12_ways_1 rfl (lv_at hl 1 rfl) ?_
  refine t_ci (va_runV (As := [.int p1]) (rest := []) ⟨hx, hb, hml, hown, hts⟩ (cz_X12_isPilgrim l D cA L T r hG hLA.1 σ ρ hB.2.1 _ h0 mh0 th0 p1) (cV hts mv_X12_isPilgrim mw_7_64 rfl rfl ⟨Nat.le_of_ble_eq_true rfl, Nat.le_of_ble_eq_true rfl⟩) (pV hB.1 hK hN mh0 th0 (show shp cA 12 _ _ _ = .inr (12, Fs12 _ _ _) from rfl) rfl) rfl rfl hl.1 rfl (lv_room (Nat.le_of_ble_eq_true rfl)) dX12_ways_2 ⟨Nat.le_of_ble_eq_true rfl, Nat.le_of_ble_eq_true rfl⟩) hLA hA hB hS (by decide) (fun x_3 σ_1 ρ_2 H locs hB fσ_1 pσ_1 hS => ?_)
  subst pσ_1
  refine lv_if_ne (tgt := 10) hx hb dX12_ways_5 (by decide) (fun c9 => absurd (by decide) c9) (fun _ => ?_)
  refine lv_iconst (v := (-1)) hx hb dX12_ways_8 (by decide) ?_
  exact W.iret (v := (-1)) hx hb hr (fun t ht hW => ⟨⟨(-1), (σ_1, ρ_2), rfl, ⟨hB.2.1, hB.2.2, rfl⟩, (show TP D cA L T r σ_1 ρ_2 t.heap from by rw [ht]; exact hB.1)⟩, hS.F ht⟩) hS.2.2 dX12_ways_9
set_option maxHeartbeats 4000000 in
set_option maxRecDepth 100000 in
theorem cz_X12_sure (l : Launch) (D : va_G) (cA : Nat → ClassId) (L : List Nat) (T : Nat → Nat) (r : Rg) (hG : GR L T r) (hL : L.Nodup) (σ : Sg) (ρ : Lg) (hW : WT L rz T σ) (sz : Nat) (h0 : Nat) (mh0 : h0 ∈ L) (th0 : T h0 = 12) (p1 : Int32) (p2 : Int32) (hZ : ZM L T σ) : Met l yX12_sure (.code yX12_sure cX12_sure 5 (some .int) :: wsA) ({ frames := 1, cells := 0, slots := 0, locals := 21 }) (PR D cA L T r σ ρ sz [.ref h0, .int p1, .int p2]) (QI D cA L T r rz ([] : List (Nat × Nat)) σ sz (fun x σ1 => x = (-2))) 0 0 (dm L sz) := by
  refine Met.ofW (cc := cX12_sure) (maxL := 5) (ret := (some .int)) (by decide) rfl ?_
  intro p e s m args below meth c s₁ B hml hv
  obtain ⟨rfl, hsz, hP, hK, hN⟩ := hv
  have hx := B.exec
  have hb := B.bytes
  have hr := B.returns
  have hts : ∀ w ∈ wsA, w.before _ s = true := fun w h => atoms_spec (ws := .code yX12_sure cX12_sure 5 (some .int) :: wsA) B.pre w (List.mem_cons_of_mem _ h)
  have hown : s.vm.findClass RX12 = some m.cls := findClass_of_methodNamed B.named
  subst hsz
  have hLA : LA (dm L s.heap.size) L := ⟨hL, fun a h => Or.inl h⟩
  have hA : ∀ q : Nat, s.heap.size ≤ q → dm L s.heap.size q := fun q h => Or.inr h
  have hS : va_S (dm L s.heap.size) s.heap s.heap [] := va_S.rf
  have hB : TS D cA L T r rz ([] : List (Nat × Nat)) σ σ ρ s.heap := ⟨hP, hW, FR.rf⟩
  have hl := lv_entry ([.ref h0, .int p1, .int p2]) (n := 5) (Nat.le_of_ble_eq_true rfl)
  rw [lg_entry_eq]
  generalize (lg_sl ([.ref h0, .int p1, .int p2]) ++ List.replicate (5 - (lg_sl ([.ref h0, .int p1, .int p2])).length) Slot.unset).toArray = ls at hl ⊢
  have hl : lv_has ls 5 [(0, .ref h0), (1, .int p1), (2, .int p2)] := hl
  refine lv_aload_n hx hb dX12_sure_0 rfl (lv_at hl 0 rfl) ?_
  refine lv_iload_n hx hb dX12_sure_1 rfl (lv_at hl 1 rfl) ?_
  refine t_ci (va_runV (As := [.int p1]) (rest := []) ⟨hx, hb, hml, hown, hts⟩ (cz_X12_isPilgrim l D cA L T r hG hLA.1 σ ρ hB.2.1 _ h0 mh0 th0 p1) (cV hts mv_X12_isPilgrim mw_7_64 rfl rfl ⟨Nat.le_of_ble_eq_true rfl, Nat.le_of_ble_eq_true rfl⟩) (pV hB.1 hK hN mh0 th0 (show shp cA 12 _ _ _ = .inr (12, Fs12 _ _ _) from rfl) rfl) rfl rfl hl.1 rfl (lv_room (Nat.le_of_ble_eq_true rfl)) dX12_sure_2 ⟨Nat.le_of_ble_eq_true rfl, Nat.le_of_ble_eq_true rfl⟩) hLA hA hB hS (by decide) (fun x_3 σ_1 ρ_2 H locs hB fσ_1 pσ_1 hS => ?_)
  subst pσ_1
  refine lv_if_eq (tgt := 21) hx hb dX12_sure_5 (by decide) (fun _ => ?_) (fun c9 => absurd (by decide) c9)
  refine lv_bipush (v := (-2)) hx hb dX12_sure_21 (by decide) ?_
  exact W.iret (v := (-2)) hx hb hr (fun t ht hW => ⟨⟨(-2), (σ_1, ρ_2), rfl, ⟨hB.2.1, hB.2.2, rfl⟩, (show TP D cA L T r σ_1 ρ_2 t.heap from by rw [ht]; exact hB.1)⟩, hS.F ht⟩) hS.2.2 dX12_sure_23
set_option maxHeartbeats 4000000 in
set_option maxRecDepth 100000 in
theorem cz_X12_bag (l : Launch) (D : va_G) (cA : Nat → ClassId) (L : List Nat) (T : Nat → Nat) (r : Rg) (hG : GR L T r) (hL : L.Nodup) (σ : Sg) (ρ : Lg) (hW : WT L rz T σ) (sz : Nat) (h0 : Nat) (mh0 : h0 ∈ L) (th0 : T h0 = 12) (p1 : Int32) (p2 : Int32) (hZ : ZM L T σ) : Met l yX12_bag (.code yX12_bag cX12_bag 3 (some .int) :: wsA) ({ frames := 1, cells := 0, slots := 0, locals := 21 }) (PR D cA L T r σ ρ sz [.ref h0, .int p1, .int p2]) (QI D cA L T r rz ([] : List (Nat × Nat)) σ sz (fun x σ1 => x = (-3))) 0 0 (dm L sz) := by
  refine Met.ofW (cc := cX12_bag) (maxL := 3) (ret := (some .int)) (by decide) rfl ?_
  intro p e s m args below meth c s₁ B hml hv
  obtain ⟨rfl, hsz, hP, hK, hN⟩ := hv
  have hx := B.exec
  have hb := B.bytes
  have hr := B.returns
  have hts : ∀ w ∈ wsA, w.before _ s = true := fun w h => atoms_spec (ws := .code yX12_bag cX12_bag 3 (some .int) :: wsA) B.pre w (List.mem_cons_of_mem _ h)
  have hown : s.vm.findClass RX12 = some m.cls := findClass_of_methodNamed B.named
  subst hsz
  have hLA : LA (dm L s.heap.size) L := ⟨hL, fun a h => Or.inl h⟩
  have hA : ∀ q : Nat, s.heap.size ≤ q → dm L s.heap.size q := fun q h => Or.inr h
  have hS : va_S (dm L s.heap.size) s.heap s.heap [] := va_S.rf
  have hB : TS D cA L T r rz ([] : List (Nat × Nat)) σ σ ρ s.heap := ⟨hP, hW, FR.rf⟩
  have hl := lv_entry ([.ref h0, .int p1, .int p2]) (n := 3) (Nat.le_of_ble_eq_true rfl)
  rw [lg_entry_eq]
  generalize (lg_sl ([.ref h0, .int p1, .int p2]) ++ List.replicate (3 - (lg_sl ([.ref h0, .int p1, .int p2])).length) Slot.unset).toArray = ls at hl ⊢
  have hl : lv_has ls 3 [(0, .ref h0), (1, .int p1), (2, .int p2)] := hl
  refine lv_aload_n hx hb dX12_bag_0 rfl (lv_at hl 0 rfl) ?_
  refine lv_iload_n hx hb dX12_bag_1 rfl (lv_at hl 1 rfl) ?_
  refine t_ci (va_runV (As := [.int p1]) (rest := []) ⟨hx, hb, hml, hown, hts⟩ (cz_X12_isPilgrim l D cA L T r hG hLA.1 σ ρ hB.2.1 _ h0 mh0 th0 p1) (cV hts mv_X12_isPilgrim mw_7_64 rfl rfl ⟨Nat.le_of_ble_eq_true rfl, Nat.le_of_ble_eq_true rfl⟩) (pV hB.1 hK hN mh0 th0 (show shp cA 12 _ _ _ = .inr (12, Fs12 _ _ _) from rfl) rfl) rfl rfl hl.1 rfl (lv_room (Nat.le_of_ble_eq_true rfl)) dX12_bag_2 ⟨Nat.le_of_ble_eq_true rfl, Nat.le_of_ble_eq_true rfl⟩) hLA hA hB hS (by decide) (fun x_3 σ_1 ρ_2 H locs hB fσ_1 pσ_1 hS => ?_)
  subst pσ_1
  refine lv_if_eq (tgt := 36) hx hb dX12_bag_5 (by decide) (fun _ => ?_) (fun c9 => absurd (by decide) c9)
  refine lv_bipush (v := (-3)) hx hb dX12_bag_36 (by decide) ?_
  exact W.iret (v := (-3)) hx hb hr (fun t ht hW => ⟨⟨(-3), (σ_1, ρ_2), rfl, ⟨hB.2.1, hB.2.2, rfl⟩, (show TP D cA L T r σ_1 ρ_2 t.heap from by rw [ht]; exact hB.1)⟩, hS.F ht⟩) hS.2.2 dX12_bag_38
set_option maxHeartbeats 4000000 in
set_option maxRecDepth 100000 in
theorem cz_X12_both (l : Launch) (D : va_G) (cA : Nat → ClassId) (L : List Nat) (T : Nat → Nat) (r : Rg) (hG : GR L T r) (hL : L.Nodup) (σ : Sg) (ρ : Lg) (hW : WT L rz T σ) (sz : Nat) (h0 : Nat) (mh0 : h0 ∈ L) (th0 : T h0 = 12) (p1 : Int32) (p2 : Int32) (hZ : ZM L T σ) : Met l yX12_both (.code yX12_both cX12_both 3 (some .int) :: wsA) ({ frames := 1, cells := 0, slots := 0, locals := 21 }) (PR D cA L T r σ ρ sz [.ref h0, .int p1, .int p2]) (QI D cA L T r rz ([] : List (Nat × Nat)) σ sz (fun x σ1 => x = (-1))) 0 0 (dm L sz) := by
  refine Met.ofW (cc := cX12_both) (maxL := 3) (ret := (some .int)) (by decide) rfl ?_
  intro p e s m args below meth c s₁ B hml hv
  obtain ⟨rfl, hsz, hP, hK, hN⟩ := hv
  have hx := B.exec
  have hb := B.bytes
  have hr := B.returns
  have hts : ∀ w ∈ wsA, w.before _ s = true := fun w h => atoms_spec (ws := .code yX12_both cX12_both 3 (some .int) :: wsA) B.pre w (List.mem_cons_of_mem _ h)
  have hown : s.vm.findClass RX12 = some m.cls := findClass_of_methodNamed B.named
  subst hsz
  have hLA : LA (dm L s.heap.size) L := ⟨hL, fun a h => Or.inl h⟩
  have hA : ∀ q : Nat, s.heap.size ≤ q → dm L s.heap.size q := fun q h => Or.inr h
  have hS : va_S (dm L s.heap.size) s.heap s.heap [] := va_S.rf
  have hB : TS D cA L T r rz ([] : List (Nat × Nat)) σ σ ρ s.heap := ⟨hP, hW, FR.rf⟩
  have hl := lv_entry ([.ref h0, .int p1, .int p2]) (n := 3) (Nat.le_of_ble_eq_true rfl)
  rw [lg_entry_eq]
  generalize (lg_sl ([.ref h0, .int p1, .int p2]) ++ List.replicate (3 - (lg_sl ([.ref h0, .int p1, .int p2])).length) Slot.unset).toArray = ls at hl ⊢
  have hl : lv_has ls 3 [(0, .ref h0), (1, .int p1), (2, .int p2)] := hl
  refine lv_aload_n hx hb dX12_both_0 rfl (lv_at hl 0 rfl) ?_
  refine lv_iload_n hx hb dX12_both_1 rfl (lv_at hl 1 rfl) ?_
  refine t_ci (va_runV (As := [.int p1]) (rest := []) ⟨hx, hb, hml, hown, hts⟩ (cz_X12_isPilgrim l D cA L T r hG hLA.1 σ ρ hB.2.1 _ h0 mh0 th0 p1) (cV hts mv_X12_isPilgrim mw_7_64 rfl rfl ⟨Nat.le_of_ble_eq_true rfl, Nat.le_of_ble_eq_true rfl⟩) (pV hB.1 hK hN mh0 th0 (show shp cA 12 _ _ _ = .inr (12, Fs12 _ _ _) from rfl) rfl) rfl rfl hl.1 rfl (lv_room (Nat.le_of_ble_eq_true rfl)) dX12_both_2 ⟨Nat.le_of_ble_eq_true rfl, Nat.le_of_ble_eq_true rfl⟩) hLA hA hB hS (by decide) (fun x_3 σ_1 ρ_2 H locs hB fσ_1 pσ_1 hS => ?_)
  subst pσ_1
  refine lv_if_eq (tgt := 36) hx hb dX12_both_5 (by decide) (fun _ => ?_) (fun c9 => absurd (by decide) c9)
  refine lv_iconst (v := (-1)) hx hb dX12_both_36 (by decide) ?_
  exact W.iret (v := (-1)) hx hb hr (fun t ht hW => ⟨⟨(-1), (σ_1, ρ_2), rfl, ⟨hB.2.1, hB.2.2, rfl⟩, (show TP D cA L T r σ_1 ρ_2 t.heap from by rw [ht]; exact hB.1)⟩, hS.F ht⟩) hS.2.2 dX12_both_37
set_option maxHeartbeats 4000000 in
set_option maxRecDepth 100000 in
theorem cz_X12_partner (l : Launch) (D : va_G) (cA : Nat → ClassId) (L : List Nat) (T : Nat → Nat) (r : Rg) (hG : GR L T r) (hL : L.Nodup) (σ : Sg) (ρ : Lg) (hW : WT L rz T σ) (sz : Nat) (h0 : Nat) (mh0 : h0 ∈ L) (th0 : T h0 = 12) (p1 : Int32) (p2 : Int32) (hZ : ZM L T σ) : Met l yX12_partner (.code yX12_partner cX12_partner 7 (some .int) :: wsA) ({ frames := 1, cells := 0, slots := 0, locals := 21 }) (PR D cA L T r σ ρ sz [.ref h0, .int p1, .int p2]) (QI D cA L T r rz ([] : List (Nat × Nat)) σ sz (fun x σ1 => x = (-1))) 0 0 (dm L sz) := by
  refine Met.ofW (cc := cX12_partner) (maxL := 7) (ret := (some .int)) (by decide) rfl ?_
  intro p e s m args below meth c s₁ B hml hv
  obtain ⟨rfl, hsz, hP, hK, hN⟩ := hv
  have hx := B.exec
  have hb := B.bytes
  have hr := B.returns
  have hts : ∀ w ∈ wsA, w.before _ s = true := fun w h => atoms_spec (ws := .code yX12_partner cX12_partner 7 (some .int) :: wsA) B.pre w (List.mem_cons_of_mem _ h)
  have hown : s.vm.findClass RX12 = some m.cls := findClass_of_methodNamed B.named
  subst hsz
  have hLA : LA (dm L s.heap.size) L := ⟨hL, fun a h => Or.inl h⟩
  have hA : ∀ q : Nat, s.heap.size ≤ q → dm L s.heap.size q := fun q h => Or.inr h
  have hS : va_S (dm L s.heap.size) s.heap s.heap [] := va_S.rf
  have hB : TS D cA L T r rz ([] : List (Nat × Nat)) σ σ ρ s.heap := ⟨hP, hW, FR.rf⟩
  have hl := lv_entry ([.ref h0, .int p1, .int p2]) (n := 7) (Nat.le_of_ble_eq_true rfl)
  rw [lg_entry_eq]
  generalize (lg_sl ([.ref h0, .int p1, .int p2]) ++ List.replicate (7 - (lg_sl ([.ref h0, .int p1, .int p2])).length) Slot.unset).toArray = ls at hl ⊢
  have hl : lv_has ls 7 [(0, .ref h0), (1, .int p1), (2, .int p2)] := hl
  refine lv_aload_n hx hb dX12_partner_0 rfl (lv_at hl 0 rfl) ?_
  refine lv_iload_n hx hb dX12_partner_1 rfl (lv_at hl 1 rfl) ?_
  refine t_ci (va_runV (As := [.int p1]) (rest := []) ⟨hx, hb, hml, hown, hts⟩ (cz_X12_isPilgrim l D cA L T r hG hLA.1 σ ρ hB.2.1 _ h0 mh0 th0 p1) (cV hts mv_X12_isPilgrim mw_7_64 rfl rfl ⟨Nat.le_of_ble_eq_true rfl, Nat.le_of_ble_eq_true rfl⟩) (pV hB.1 hK hN mh0 th0 (show shp cA 12 _ _ _ = .inr (12, Fs12 _ _ _) from rfl) rfl) rfl rfl hl.1 rfl (lv_room (Nat.le_of_ble_eq_true rfl)) dX12_partner_2 ⟨Nat.le_of_ble_eq_true rfl, Nat.le_of_ble_eq_true rfl⟩) hLA hA hB hS (by decide) (fun x_3 σ_1 ρ_2 H locs hB fσ_1 pσ_1 hS => ?_)
  subst pσ_1
  refine lv_if_eq (tgt := 18) hx hb dX12_partner_5 (by decide) (fun _ => ?_) (fun c9 => absurd (by decide) c9)
  refine lv_iconst (v := (-1)) hx hb dX12_partner_18 (by decide) ?_
  exact W.iret (v := (-1)) hx hb hr (fun t ht hW => ⟨⟨(-1), (σ_1, ρ_2), rfl, ⟨hB.2.1, hB.2.2, rfl⟩, (show TP D cA L T r σ_1 ρ_2 t.heap from by rw [ht]; exact hB.1)⟩, hS.F ht⟩) hS.2.2 dX12_partner_19
set_option maxHeartbeats 4000000 in
set_option maxRecDepth 100000 in
theorem cz_X12_downwards (l : Launch) (D : va_G) (cA : Nat → ClassId) (L : List Nat) (T : Nat → Nat) (r : Rg) (hG : GR L T r) (hL : L.Nodup) (σ : Sg) (ρ : Lg) (hW : WT L rz T σ) (sz : Nat) (h0 : Nat) (mh0 : h0 ∈ L) (th0 : T h0 = 12) (p1 : Int32) (p2 : Int32) (hZ : ZM L T σ) : Met l yX12_downwards (.code yX12_downwards cX12_downwards 3 (some .int) :: wsA) ({ frames := 1, cells := 0, slots := 0, locals := 21 }) (PR D cA L T r σ ρ sz [.ref h0, .int p1, .int p2]) (QI D cA L T r rz ([] : List (Nat × Nat)) σ sz (fun x σ1 => x = (-2))) 0 0 (dm L sz) := by
  refine Met.ofW (cc := cX12_downwards) (maxL := 3) (ret := (some .int)) (by decide) rfl ?_
  intro p e s m args below meth c s₁ B hml hv
  obtain ⟨rfl, hsz, hP, hK, hN⟩ := hv
  have hx := B.exec
  have hb := B.bytes
  have hr := B.returns
  have hts : ∀ w ∈ wsA, w.before _ s = true := fun w h => atoms_spec (ws := .code yX12_downwards cX12_downwards 3 (some .int) :: wsA) B.pre w (List.mem_cons_of_mem _ h)
  have hown : s.vm.findClass RX12 = some m.cls := findClass_of_methodNamed B.named
  subst hsz
  have hLA : LA (dm L s.heap.size) L := ⟨hL, fun a h => Or.inl h⟩
  have hA : ∀ q : Nat, s.heap.size ≤ q → dm L s.heap.size q := fun q h => Or.inr h
  have hS : va_S (dm L s.heap.size) s.heap s.heap [] := va_S.rf
  have hB : TS D cA L T r rz ([] : List (Nat × Nat)) σ σ ρ s.heap := ⟨hP, hW, FR.rf⟩
  have hl := lv_entry ([.ref h0, .int p1, .int p2]) (n := 3) (Nat.le_of_ble_eq_true rfl)
  rw [lg_entry_eq]
  generalize (lg_sl ([.ref h0, .int p1, .int p2]) ++ List.replicate (3 - (lg_sl ([.ref h0, .int p1, .int p2])).length) Slot.unset).toArray = ls at hl ⊢
  have hl : lv_has ls 3 [(0, .ref h0), (1, .int p1), (2, .int p2)] := hl
  refine lv_aload_n hx hb dX12_downwards_0 rfl (lv_at hl 0 rfl) ?_
  refine lv_iload_n hx hb dX12_downwards_1 rfl (lv_at hl 1 rfl) ?_
  refine t_ci (va_runV (As := [.int p1]) (rest := []) ⟨hx, hb, hml, hown, hts⟩ (cz_X12_isPilgrim l D cA L T r hG hLA.1 σ ρ hB.2.1 _ h0 mh0 th0 p1) (cV hts mv_X12_isPilgrim mw_7_64 rfl rfl ⟨Nat.le_of_ble_eq_true rfl, Nat.le_of_ble_eq_true rfl⟩) (pV hB.1 hK hN mh0 th0 (show shp cA 12 _ _ _ = .inr (12, Fs12 _ _ _) from rfl) rfl) rfl rfl hl.1 rfl (lv_room (Nat.le_of_ble_eq_true rfl)) dX12_downwards_2 ⟨Nat.le_of_ble_eq_true rfl, Nat.le_of_ble_eq_true rfl⟩) hLA hA hB hS (by decide) (fun x_3 σ_1 ρ_2 H locs hB fσ_1 pσ_1 hS => ?_)
  subst pσ_1
  refine lv_if_eq (tgt := 21) hx hb dX12_downwards_5 (by decide) (fun _ => ?_) (fun c9 => absurd (by decide) c9)
  refine lv_bipush (v := (-2)) hx hb dX12_downwards_21 (by decide) ?_
  exact W.iret (v := (-2)) hx hb hr (fun t ht hW => ⟨⟨(-2), (σ_1, ρ_2), rfl, ⟨hB.2.1, hB.2.2, rfl⟩, (show TP D cA L T r σ_1 ρ_2 t.heap from by rw [ht]; exact hB.1)⟩, hS.F ht⟩) hS.2.2 dX12_downwards_23
set_option maxHeartbeats 4000000 in
set_option maxRecDepth 100000 in
theorem cz_X12_less (l : Launch) (D : va_G) (cA : Nat → ClassId) (L : List Nat) (T : Nat → Nat) (r : Rg) (hG : GR L T r) (hL : L.Nodup) (σ : Sg) (ρ : Lg) (hW : WT L rz T σ) (sz : Nat) (h0 : Nat) (mh0 : h0 ∈ L) (th0 : T h0 = 12) (p1 : Int32) (p2 : Int32) (hZ : ZM L T σ) : Met l yX12_less (.code yX12_less cX12_less 7 (some .int) :: wsA) ({ frames := 1, cells := 0, slots := 0, locals := 21 }) (PR D cA L T r σ ρ sz [.ref h0, .int p1, .int p2]) (QI D cA L T r rz ([] : List (Nat × Nat)) σ sz (fun x σ1 => x = (-1))) 0 0 (dm L sz) := by
  refine Met.ofW (cc := cX12_less) (maxL := 7) (ret := (some .int)) (by decide) rfl ?_
  intro p e s m args below meth c s₁ B hml hv
  obtain ⟨rfl, hsz, hP, hK, hN⟩ := hv
  have hx := B.exec
  have hb := B.bytes
  have hr := B.returns
  have hts : ∀ w ∈ wsA, w.before _ s = true := fun w h => atoms_spec (ws := .code yX12_less cX12_less 7 (some .int) :: wsA) B.pre w (List.mem_cons_of_mem _ h)
  have hown : s.vm.findClass RX12 = some m.cls := findClass_of_methodNamed B.named
  subst hsz
  have hLA : LA (dm L s.heap.size) L := ⟨hL, fun a h => Or.inl h⟩
  have hA : ∀ q : Nat, s.heap.size ≤ q → dm L s.heap.size q := fun q h => Or.inr h
  have hS : va_S (dm L s.heap.size) s.heap s.heap [] := va_S.rf
  have hB : TS D cA L T r rz ([] : List (Nat × Nat)) σ σ ρ s.heap := ⟨hP, hW, FR.rf⟩
  have hl := lv_entry ([.ref h0, .int p1, .int p2]) (n := 7) (Nat.le_of_ble_eq_true rfl)
  rw [lg_entry_eq]
  generalize (lg_sl ([.ref h0, .int p1, .int p2]) ++ List.replicate (7 - (lg_sl ([.ref h0, .int p1, .int p2])).length) Slot.unset).toArray = ls at hl ⊢
  have hl : lv_has ls 7 [(0, .ref h0), (1, .int p1), (2, .int p2)] := hl
  refine lv_aload_n hx hb dX12_less_0 rfl (lv_at hl 0 rfl) ?_
  refine lv_iload_n hx hb dX12_less_1 rfl (lv_at hl 1 rfl) ?_
  refine t_ci (va_runV (As := [.int p1]) (rest := []) ⟨hx, hb, hml, hown, hts⟩ (cz_X12_isPilgrim l D cA L T r hG hLA.1 σ ρ hB.2.1 _ h0 mh0 th0 p1) (cV hts mv_X12_isPilgrim mw_7_64 rfl rfl ⟨Nat.le_of_ble_eq_true rfl, Nat.le_of_ble_eq_true rfl⟩) (pV hB.1 hK hN mh0 th0 (show shp cA 12 _ _ _ = .inr (12, Fs12 _ _ _) from rfl) rfl) rfl rfl hl.1 rfl (lv_room (Nat.le_of_ble_eq_true rfl)) dX12_less_2 ⟨Nat.le_of_ble_eq_true rfl, Nat.le_of_ble_eq_true rfl⟩) hLA hA hB hS (by decide) (fun x_3 σ_1 ρ_2 H locs hB fσ_1 pσ_1 hS => ?_)
  subst pσ_1
  refine lv_if_eq (tgt := 18) hx hb dX12_less_5 (by decide) (fun _ => ?_) (fun c9 => absurd (by decide) c9)
  refine lv_iconst (v := (-1)) hx hb dX12_less_18 (by decide) ?_
  exact W.iret (v := (-1)) hx hb hr (fun t ht hW => ⟨⟨(-1), (σ_1, ρ_2), rfl, ⟨hB.2.1, hB.2.2, rfl⟩, (show TP D cA L T r σ_1 ρ_2 t.heap from by rw [ht]; exact hB.1)⟩, hS.F ht⟩) hS.2.2 dX12_less_19
set_option maxHeartbeats 4000000 in
set_option maxRecDepth 100000 in
theorem cz_X12_rich (l : Launch) (D : va_G) (cA : Nat → ClassId) (L : List Nat) (T : Nat → Nat) (r : Rg) (hG : GR L T r) (hL : L.Nodup) (σ : Sg) (ρ : Lg) (hW : WT L rz T σ) (sz : Nat) (h0 : Nat) (mh0 : h0 ∈ L) (th0 : T h0 = 12) (p1 : Int32) (hZ : ZM L T σ) : Met l yX12_rich (.code yX12_rich cX12_rich 7 (some .int) :: wsA) ({ frames := 1, cells := 0, slots := 0, locals := 20 }) (PR D cA L T r σ ρ sz [.ref h0, .int p1]) (QI D cA L T r rz ([] : List (Nat × Nat)) σ sz (fun x σ1 => x = (-1))) 0 0 (dm L sz) := by
  refine Met.ofW (cc := cX12_rich) (maxL := 7) (ret := (some .int)) (by decide) rfl ?_
  intro p e s m args below meth c s₁ B hml hv
  obtain ⟨rfl, hsz, hP, hK, hN⟩ := hv
  have hx := B.exec
  have hb := B.bytes
  have hr := B.returns
  have hts : ∀ w ∈ wsA, w.before _ s = true := fun w h => atoms_spec (ws := .code yX12_rich cX12_rich 7 (some .int) :: wsA) B.pre w (List.mem_cons_of_mem _ h)
  have hown : s.vm.findClass RX12 = some m.cls := findClass_of_methodNamed B.named
  subst hsz
  have hLA : LA (dm L s.heap.size) L := ⟨hL, fun a h => Or.inl h⟩
  have hA : ∀ q : Nat, s.heap.size ≤ q → dm L s.heap.size q := fun q h => Or.inr h
  have hS : va_S (dm L s.heap.size) s.heap s.heap [] := va_S.rf
  have hB : TS D cA L T r rz ([] : List (Nat × Nat)) σ σ ρ s.heap := ⟨hP, hW, FR.rf⟩
  have hl := lv_entry ([.ref h0, .int p1]) (n := 7) (Nat.le_of_ble_eq_true rfl)
  rw [lg_entry_eq]
  generalize (lg_sl ([.ref h0, .int p1]) ++ List.replicate (7 - (lg_sl ([.ref h0, .int p1])).length) Slot.unset).toArray = ls at hl ⊢
  have hl : lv_has ls 7 [(0, .ref h0), (1, .int p1)] := hl
  refine lv_aload_n hx hb dX12_rich_0 rfl (lv_at hl 0 rfl) ?_
  refine t_ci (va_runV (As := []) (rest := []) ⟨hx, hb, hml, hown, hts⟩ (cz_X12_isHill l D cA L T r hG hLA.1 σ ρ hB.2.1 _ h0 mh0 th0) (cV hts mv_X12_isHill mw_7_123 rfl rfl ⟨Nat.le_of_ble_eq_true rfl, Nat.le_of_ble_eq_true rfl⟩) (pV hB.1 hK hN mh0 th0 (show shp cA 12 _ _ _ = .inr (12, Fs12 _ _ _) from rfl) rfl) rfl rfl hl.1 rfl (lv_room (Nat.le_of_ble_eq_true rfl)) dX12_rich_1 ⟨Nat.le_of_ble_eq_true rfl, Nat.le_of_ble_eq_true rfl⟩) hLA hA hB hS (by decide) (fun x_3 σ_1 ρ_2 H locs hB fσ_1 pσ_1 hS => ?_)
  subst pσ_1
  refine lv_if_eq (tgt := 17) hx hb dX12_rich_4 (by decide) (fun _ => ?_) (fun c9 => absurd (by decide) c9)
  refine lv_iconst (v := (-1)) hx hb dX12_rich_17 (by decide) ?_
  exact W.iret (v := (-1)) hx hb hr (fun t ht hW => ⟨⟨(-1), (σ_1, ρ_2), rfl, ⟨hB.2.1, hB.2.2, rfl⟩, (show TP D cA L T r σ_1 ρ_2 t.heap from by rw [ht]; exact hB.1)⟩, hS.F ht⟩) hS.2.2 dX12_rich_18
set_option maxHeartbeats 4000000 in
set_option maxRecDepth 100000 in
theorem cz_X12_leaves (l : Launch) (D : va_G) (cA : Nat → ClassId) (L : List Nat) (T : Nat → Nat) (r : Rg) (hG : GR L T r) (hL : L.Nodup) (σ : Sg) (ρ : Lg) (hW : WT L rz T σ) (sz : Nat) (h0 : Nat) (mh0 : h0 ∈ L) (th0 : T h0 = 12) (p1 : Int32) (p2 : Int32) (hZ : ZM L T σ) : Met l yX12_leaves (.code yX12_leaves cX12_leaves 4 (some .int) :: wsA) ({ frames := 1, cells := 0, slots := 0, locals := 21 }) (PR D cA L T r σ ρ sz [.ref h0, .int p1, .int p2]) (QI D cA L T r rz ([] : List (Nat × Nat)) σ sz (fun x σ1 => x = (-1))) 0 0 (dm L sz) := by
  refine Met.ofW (cc := cX12_leaves) (maxL := 4) (ret := (some .int)) (by decide) rfl ?_
  intro p e s m args below meth c s₁ B hml hv
  obtain ⟨rfl, hsz, hP, hK, hN⟩ := hv
  have hx := B.exec
  have hb := B.bytes
  have hr := B.returns
  have hts : ∀ w ∈ wsA, w.before _ s = true := fun w h => atoms_spec (ws := .code yX12_leaves cX12_leaves 4 (some .int) :: wsA) B.pre w (List.mem_cons_of_mem _ h)
  have hown : s.vm.findClass RX12 = some m.cls := findClass_of_methodNamed B.named
  subst hsz
  have hLA : LA (dm L s.heap.size) L := ⟨hL, fun a h => Or.inl h⟩
  have hA : ∀ q : Nat, s.heap.size ≤ q → dm L s.heap.size q := fun q h => Or.inr h
  have hS : va_S (dm L s.heap.size) s.heap s.heap [] := va_S.rf
  have hB : TS D cA L T r rz ([] : List (Nat × Nat)) σ σ ρ s.heap := ⟨hP, hW, FR.rf⟩
  have hl := lv_entry ([.ref h0, .int p1, .int p2]) (n := 4) (Nat.le_of_ble_eq_true rfl)
  rw [lg_entry_eq]
  generalize (lg_sl ([.ref h0, .int p1, .int p2]) ++ List.replicate (4 - (lg_sl ([.ref h0, .int p1, .int p2])).length) Slot.unset).toArray = ls at hl ⊢
  have hl : lv_has ls 4 [(0, .ref h0), (1, .int p1), (2, .int p2)] := hl
  refine lv_aload_n hx hb dX12_leaves_0 rfl (lv_at hl 0 rfl) ?_
  refine lv_iload_n hx hb dX12_leaves_1 rfl (lv_at hl 1 rfl) ?_
  refine t_ci (va_runV (As := [.int p1]) (rest := []) ⟨hx, hb, hml, hown, hts⟩ (cz_X12_isSort l D cA L T r hG hLA.1 σ ρ hB.2.1 _ h0 mh0 th0 p1) (cV hts mv_X12_isSort mw_7_110 rfl rfl ⟨Nat.le_of_ble_eq_true rfl, Nat.le_of_ble_eq_true rfl⟩) (pV hB.1 hK hN mh0 th0 (show shp cA 12 _ _ _ = .inr (12, Fs12 _ _ _) from rfl) rfl) rfl rfl hl.1 rfl (lv_room (Nat.le_of_ble_eq_true rfl)) dX12_leaves_2 ⟨Nat.le_of_ble_eq_true rfl, Nat.le_of_ble_eq_true rfl⟩) hLA hA hB hS (by decide) (fun x_3 σ_1 ρ_2 H locs hB fσ_1 pσ_1 hS => ?_)
  subst pσ_1
  refine lv_if_eq (tgt := 20) hx hb dX12_leaves_5 (by decide) (fun _ => ?_) (fun c9 => absurd (by decide) c9)
  refine lv_iconst (v := (-1)) hx hb dX12_leaves_20 (by decide) ?_
  exact W.iret (v := (-1)) hx hb hr (fun t ht hW => ⟨⟨(-1), (σ_1, ρ_2), rfl, ⟨hB.2.1, hB.2.2, rfl⟩, (show TP D cA L T r σ_1 ρ_2 t.heap from by rw [ht]; exact hB.1)⟩, hS.F ht⟩) hS.2.2 dX12_leaves_21
set_option maxHeartbeats 4000000 in
set_option maxRecDepth 100000 in
theorem cz_X12_gifts (l : Launch) (D : va_G) (cA : Nat → ClassId) (L : List Nat) (T : Nat → Nat) (r : Rg) (hG : GR L T r) (hL : L.Nodup) (σ : Sg) (ρ : Lg) (hW : WT L rz T σ) (sz : Nat) (h0 : Nat) (mh0 : h0 ∈ L) (th0 : T h0 = 12) (p1 : Int32) (hZ : ZM L T σ) : Met l yX12_gifts (.code yX12_gifts cX12_gifts 4 (some .int) :: wsA) ({ frames := 1, cells := 0, slots := 0, locals := 20 }) (PR D cA L T r σ ρ sz [.ref h0, .int p1]) (QI D cA L T r rz ([] : List (Nat × Nat)) σ sz (fun x σ1 => x = (-3))) 0 0 (dm L sz) := by
  refine Met.ofW (cc := cX12_gifts) (maxL := 4) (ret := (some .int)) (by decide) rfl ?_
  intro p e s m args below meth c s₁ B hml hv
  obtain ⟨rfl, hsz, hP, hK, hN⟩ := hv
  have hx := B.exec
  have hb := B.bytes
  have hr := B.returns
  have hts : ∀ w ∈ wsA, w.before _ s = true := fun w h => atoms_spec (ws := .code yX12_gifts cX12_gifts 4 (some .int) :: wsA) B.pre w (List.mem_cons_of_mem _ h)
  have hown : s.vm.findClass RX12 = some m.cls := findClass_of_methodNamed B.named
  subst hsz
  have hLA : LA (dm L s.heap.size) L := ⟨hL, fun a h => Or.inl h⟩
  have hA : ∀ q : Nat, s.heap.size ≤ q → dm L s.heap.size q := fun q h => Or.inr h
  have hS : va_S (dm L s.heap.size) s.heap s.heap [] := va_S.rf
  have hB : TS D cA L T r rz ([] : List (Nat × Nat)) σ σ ρ s.heap := ⟨hP, hW, FR.rf⟩
  have hl := lv_entry ([.ref h0, .int p1]) (n := 4) (Nat.le_of_ble_eq_true rfl)
  rw [lg_entry_eq]
  generalize (lg_sl ([.ref h0, .int p1]) ++ List.replicate (4 - (lg_sl ([.ref h0, .int p1])).length) Slot.unset).toArray = ls at hl ⊢
  have hl : lv_has ls 4 [(0, .ref h0), (1, .int p1)] := hl
  refine lv_aload_n hx hb dX12_gifts_0 rfl (lv_at hl 0 rfl) ?_
  refine t_ci (va_runV (As := []) (rest := []) ⟨hx, hb, hml, hown, hts⟩ (cz_X12_isHill l D cA L T r hG hLA.1 σ ρ hB.2.1 _ h0 mh0 th0) (cV hts mv_X12_isHill mw_7_123 rfl rfl ⟨Nat.le_of_ble_eq_true rfl, Nat.le_of_ble_eq_true rfl⟩) (pV hB.1 hK hN mh0 th0 (show shp cA 12 _ _ _ = .inr (12, Fs12 _ _ _) from rfl) rfl) rfl rfl hl.1 rfl (lv_room (Nat.le_of_ble_eq_true rfl)) dX12_gifts_1 ⟨Nat.le_of_ble_eq_true rfl, Nat.le_of_ble_eq_true rfl⟩) hLA hA hB hS (by decide) (fun x_3 σ_1 ρ_2 H locs hB fσ_1 pσ_1 hS => ?_)
  subst pσ_1
  refine lv_if_eq (tgt := 35) hx hb dX12_gifts_4 (by decide) (fun _ => ?_) (fun c9 => absurd (by decide) c9)
  refine lv_bipush (v := (-3)) hx hb dX12_gifts_35 (by decide) ?_
  exact W.iret (v := (-3)) hx hb hr (fun t ht hW => ⟨⟨(-3), (σ_1, ρ_2), rfl, ⟨hB.2.1, hB.2.2, rfl⟩, (show TP D cA L T r σ_1 ρ_2 t.heap from by rw [ht]; exact hB.1)⟩, hS.F ht⟩) hS.2.2 dX12_gifts_37
set_option maxHeartbeats 4000000 in
set_option maxRecDepth 100000 in
theorem cz_X12_ruled (l : Launch) (D : va_G) (cA : Nat → ClassId) (L : List Nat) (T : Nat → Nat) (r : Rg) (hG : GR L T r) (hL : L.Nodup) (σ : Sg) (ρ : Lg) (hW : WT L rz T σ) (sz : Nat) (h0 : Nat) (mh0 : h0 ∈ L) (th0 : T h0 = 12) (p1 : Int32) (hZ : ZM L T σ) : Met l yX12_ruled (.code yX12_ruled cX12_ruled 5 (some .int) :: wsA) ({ frames := 1, cells := 0, slots := 0, locals := 20 }) (PR D cA L T r σ ρ sz [.ref h0, .int p1]) (QI D cA L T r rz ([] : List (Nat × Nat)) σ sz (fun x σ1 => x = (-3))) 0 0 (dm L sz) := by
  refine Met.ofW (cc := cX12_ruled) (maxL := 5) (ret := (some .int)) (by decide) rfl ?_
  intro p e s m args below meth c s₁ B hml hv
  obtain ⟨rfl, hsz, hP, hK, hN⟩ := hv
  have hx := B.exec
  have hb := B.bytes
  have hr := B.returns
  have hts : ∀ w ∈ wsA, w.before _ s = true := fun w h => atoms_spec (ws := .code yX12_ruled cX12_ruled 5 (some .int) :: wsA) B.pre w (List.mem_cons_of_mem _ h)
  have hown : s.vm.findClass RX12 = some m.cls := findClass_of_methodNamed B.named
  subst hsz
  have hLA : LA (dm L s.heap.size) L := ⟨hL, fun a h => Or.inl h⟩
  have hA : ∀ q : Nat, s.heap.size ≤ q → dm L s.heap.size q := fun q h => Or.inr h
  have hS : va_S (dm L s.heap.size) s.heap s.heap [] := va_S.rf
  have hB : TS D cA L T r rz ([] : List (Nat × Nat)) σ σ ρ s.heap := ⟨hP, hW, FR.rf⟩
  have hl := lv_entry ([.ref h0, .int p1]) (n := 5) (Nat.le_of_ble_eq_true rfl)
  rw [lg_entry_eq]
  generalize (lg_sl ([.ref h0, .int p1]) ++ List.replicate (5 - (lg_sl ([.ref h0, .int p1])).length) Slot.unset).toArray = ls at hl ⊢
  have hl : lv_has ls 5 [(0, .ref h0), (1, .int p1)] := hl
  refine lv_aload_n hx hb dX12_ruled_0 rfl (lv_at hl 0 rfl) ?_
  refine t_ci (va_runV (As := []) (rest := []) ⟨hx, hb, hml, hown, hts⟩ (cz_X12_isHill l D cA L T r hG hLA.1 σ ρ hB.2.1 _ h0 mh0 th0) (cV hts mv_X12_isHill mw_7_123 rfl rfl ⟨Nat.le_of_ble_eq_true rfl, Nat.le_of_ble_eq_true rfl⟩) (pV hB.1 hK hN mh0 th0 (show shp cA 12 _ _ _ = .inr (12, Fs12 _ _ _) from rfl) rfl) rfl rfl hl.1 rfl (lv_room (Nat.le_of_ble_eq_true rfl)) dX12_ruled_1 ⟨Nat.le_of_ble_eq_true rfl, Nat.le_of_ble_eq_true rfl⟩) hLA hA hB hS (by decide) (fun x_3 σ_1 ρ_2 H locs hB fσ_1 pσ_1 hS => ?_)
  subst pσ_1
  refine lv_if_eq (tgt := 17) hx hb dX12_ruled_4 (by decide) (fun _ => ?_) (fun c9 => absurd (by decide) c9)
  refine lv_bipush (v := (-3)) hx hb dX12_ruled_17 (by decide) ?_
  exact W.iret (v := (-3)) hx hb hr (fun t ht hW => ⟨⟨(-3), (σ_1, ρ_2), rfl, ⟨hB.2.1, hB.2.2, rfl⟩, (show TP D cA L T r σ_1 ρ_2 t.heap from by rw [ht]; exact hB.1)⟩, hS.F ht⟩) hS.2.2 dX12_ruled_19
set_option maxHeartbeats 4000000 in
set_option maxRecDepth 100000 in
theorem cz_X12_look (l : Launch) (D : va_G) (cA : Nat → ClassId) (L : List Nat) (T : Nat → Nat) (r : Rg) (hG : GR L T r) (hL : L.Nodup) (σ : Sg) (ρ : Lg) (hW : WT L rz T σ) (sz : Nat) (h0 : Nat) (mh0 : h0 ∈ L) (th0 : T h0 = 12) (p1 : Int32) (p2 : Int32) (hZ : ZM L T σ) : Met l yX12_look (.code yX12_look cX12_look 7 (some .int) :: wsA) ({ frames := 1, cells := 0, slots := 0, locals := 20 }) (PR D cA L T r σ ρ sz [.ref h0, .int p1, .int p2]) (QI D cA L T r rz ([] : List (Nat × Nat)) σ sz (fun x σ1 => x = (-1))) 0 0 (dm L sz) := by
  refine Met.ofW (cc := cX12_look) (maxL := 7) (ret := (some .int)) (by decide) rfl ?_
  intro p e s m args below meth c s₁ B hml hv
  obtain ⟨rfl, hsz, hP, hK, hN⟩ := hv
  have hx := B.exec
  have hb := B.bytes
  have hr := B.returns
  have hts : ∀ w ∈ wsA, w.before _ s = true := fun w h => atoms_spec (ws := .code yX12_look cX12_look 7 (some .int) :: wsA) B.pre w (List.mem_cons_of_mem _ h)
  have hown : s.vm.findClass RX12 = some m.cls := findClass_of_methodNamed B.named
  subst hsz
  have hLA : LA (dm L s.heap.size) L := ⟨hL, fun a h => Or.inl h⟩
  have hA : ∀ q : Nat, s.heap.size ≤ q → dm L s.heap.size q := fun q h => Or.inr h
  have hS : va_S (dm L s.heap.size) s.heap s.heap [] := va_S.rf
  have hB : TS D cA L T r rz ([] : List (Nat × Nat)) σ σ ρ s.heap := ⟨hP, hW, FR.rf⟩
  have hl := lv_entry ([.ref h0, .int p1, .int p2]) (n := 7) (Nat.le_of_ble_eq_true rfl)
  rw [lg_entry_eq]
  generalize (lg_sl ([.ref h0, .int p1, .int p2]) ++ List.replicate (7 - (lg_sl ([.ref h0, .int p1, .int p2])).length) Slot.unset).toArray = ls at hl ⊢
  have hl : lv_has ls 7 [(0, .ref h0), (1, .int p1), (2, .int p2)] := hl
  refine lv_aload_n hx hb dX12_look_0 rfl (lv_at hl 0 rfl) ?_
  refine t_ci (va_runV (As := []) (rest := []) ⟨hx, hb, hml, hown, hts⟩ (cz_X12_isHill l D cA L T r hG hLA.1 σ ρ hB.2.1 _ h0 mh0 th0) (cV hts mv_X12_isHill mw_7_123 rfl rfl ⟨Nat.le_of_ble_eq_true rfl, Nat.le_of_ble_eq_true rfl⟩) (pV hB.1 hK hN mh0 th0 (show shp cA 12 _ _ _ = .inr (12, Fs12 _ _ _) from rfl) rfl) rfl rfl hl.1 rfl (lv_room (Nat.le_of_ble_eq_true rfl)) dX12_look_1 ⟨Nat.le_of_ble_eq_true rfl, Nat.le_of_ble_eq_true rfl⟩) hLA hA hB hS (by decide) (fun x_3 σ_1 ρ_2 H locs hB fσ_1 pσ_1 hS => ?_)
  subst pσ_1
  refine lv_if_eq (tgt := 29) hx hb dX12_look_4 (by decide) (fun _ => ?_) (fun c9 => absurd (by decide) c9)
  refine lv_iconst (v := (-1)) hx hb dX12_look_29 (by decide) ?_
  exact W.iret (v := (-1)) hx hb hr (fun t ht hW => ⟨⟨(-1), (σ_1, ρ_2), rfl, ⟨hB.2.1, hB.2.2, rfl⟩, (show TP D cA L T r σ_1 ρ_2 t.heap from by rw [ht]; exact hB.1)⟩, hS.F ht⟩) hS.2.2 dX12_look_30
set_option maxHeartbeats 4000000 in
set_option maxRecDepth 100000 in
theorem cz_X12_years (l : Launch) (D : va_G) (cA : Nat → ClassId) (L : List Nat) (T : Nat → Nat) (r : Rg) (hG : GR L T r) (hL : L.Nodup) (σ : Sg) (ρ : Lg) (hW : WT L rz T σ) (sz : Nat) (h0 : Nat) (mh0 : h0 ∈ L) (th0 : T h0 = 12) (p1 : Int32) (p2 : Int32) (p3 : Int32) (hZ : ZM L T σ) : Met l yX12_years (.code yX12_years cX12_years 8 (some .int) :: wsA) ({ frames := 1, cells := 0, slots := 0, locals := 20 }) (PR D cA L T r σ ρ sz [.ref h0, .int p1, .int p2, .int p3]) (QI D cA L T r rz ([] : List (Nat × Nat)) σ sz (fun x σ1 => x = (-1))) 0 0 (dm L sz) := by
  refine Met.ofW (cc := cX12_years) (maxL := 8) (ret := (some .int)) (by decide) rfl ?_
  intro p e s m args below meth c s₁ B hml hv
  obtain ⟨rfl, hsz, hP, hK, hN⟩ := hv
  have hx := B.exec
  have hb := B.bytes
  have hr := B.returns
  have hts : ∀ w ∈ wsA, w.before _ s = true := fun w h => atoms_spec (ws := .code yX12_years cX12_years 8 (some .int) :: wsA) B.pre w (List.mem_cons_of_mem _ h)
  have hown : s.vm.findClass RX12 = some m.cls := findClass_of_methodNamed B.named
  subst hsz
  have hLA : LA (dm L s.heap.size) L := ⟨hL, fun a h => Or.inl h⟩
  have hA : ∀ q : Nat, s.heap.size ≤ q → dm L s.heap.size q := fun q h => Or.inr h
  have hS : va_S (dm L s.heap.size) s.heap s.heap [] := va_S.rf
  have hB : TS D cA L T r rz ([] : List (Nat × Nat)) σ σ ρ s.heap := ⟨hP, hW, FR.rf⟩
  have hl := lv_entry ([.ref h0, .int p1, .int p2, .int p3]) (n := 8) (Nat.le_of_ble_eq_true rfl)
  rw [lg_entry_eq]
  generalize (lg_sl ([.ref h0, .int p1, .int p2, .int p3]) ++ List.replicate (8 - (lg_sl ([.ref h0, .int p1, .int p2, .int p3])).length) Slot.unset).toArray = ls at hl ⊢
  have hl : lv_has ls 8 [(0, .ref h0), (1, .int p1), (2, .int p2), (3, .int p3)] := hl
  refine lv_aload_n hx hb dX12_years_0 rfl (lv_at hl 0 rfl) ?_
  refine t_ci (va_runV (As := []) (rest := []) ⟨hx, hb, hml, hown, hts⟩ (cz_X12_isHill l D cA L T r hG hLA.1 σ ρ hB.2.1 _ h0 mh0 th0) (cV hts mv_X12_isHill mw_7_123 rfl rfl ⟨Nat.le_of_ble_eq_true rfl, Nat.le_of_ble_eq_true rfl⟩) (pV hB.1 hK hN mh0 th0 (show shp cA 12 _ _ _ = .inr (12, Fs12 _ _ _) from rfl) rfl) rfl rfl hl.1 rfl (lv_room (Nat.le_of_ble_eq_true rfl)) dX12_years_1 ⟨Nat.le_of_ble_eq_true rfl, Nat.le_of_ble_eq_true rfl⟩) hLA hA hB hS (by decide) (fun x_3 σ_1 ρ_2 H locs hB fσ_1 pσ_1 hS => ?_)
  subst pσ_1
  refine lv_if_eq (tgt := 41) hx hb dX12_years_4 (by decide) (fun _ => ?_) (fun c9 => absurd (by decide) c9)
  refine lv_iconst (v := (-1)) hx hb dX12_years_41 (by decide) ?_
  exact W.iret (v := (-1)) hx hb hr (fun t ht hW => ⟨⟨(-1), (σ_1, ρ_2), rfl, ⟨hB.2.1, hB.2.2, rfl⟩, (show TP D cA L T r σ_1 ρ_2 t.heap from by rw [ht]; exact hB.1)⟩, hS.F ht⟩) hS.2.2 dX12_years_42
set_option maxHeartbeats 4000000 in
set_option maxRecDepth 100000 in
theorem cz_X12_back (l : Launch) (D : va_G) (cA : Nat → ClassId) (L : List Nat) (T : Nat → Nat) (r : Rg) (hG : GR L T r) (hL : L.Nodup) (σ : Sg) (ρ : Lg) (hW : WT L rz T σ) (sz : Nat) (h0 : Nat) (mh0 : h0 ∈ L) (th0 : T h0 = 12) (p1 : Int32) (hZ : ZM L T σ) : Met l yX12_back (.code yX12_back cX12_back 3 (some .int) :: wsA) ({ frames := 1, cells := 0, slots := 0, locals := 25 }) (PR D cA L T r σ ρ sz [.ref h0, .int p1]) (QI D cA L T r rz ([] : List (Nat × Nat)) σ sz (fun x σ1 => x = (-1))) 0 0 (dm L sz) := by
  refine Met.ofW (cc := cX12_back) (maxL := 3) (ret := (some .int)) (by decide) rfl ?_
  intro p e s m args below meth c s₁ B hml hv
  obtain ⟨rfl, hsz, hP, hK, hN⟩ := hv
  have hx := B.exec
  have hb := B.bytes
  have hr := B.returns
  have hts : ∀ w ∈ wsA, w.before _ s = true := fun w h => atoms_spec (ws := .code yX12_back cX12_back 3 (some .int) :: wsA) B.pre w (List.mem_cons_of_mem _ h)
  have hown : s.vm.findClass RX12 = some m.cls := findClass_of_methodNamed B.named
  subst hsz
  have hLA : LA (dm L s.heap.size) L := ⟨hL, fun a h => Or.inl h⟩
  have hA : ∀ q : Nat, s.heap.size ≤ q → dm L s.heap.size q := fun q h => Or.inr h
  have hS : va_S (dm L s.heap.size) s.heap s.heap [] := va_S.rf
  have hB : TS D cA L T r rz ([] : List (Nat × Nat)) σ σ ρ s.heap := ⟨hP, hW, FR.rf⟩
  have hl := lv_entry ([.ref h0, .int p1]) (n := 3) (Nat.le_of_ble_eq_true rfl)
  rw [lg_entry_eq]
  generalize (lg_sl ([.ref h0, .int p1]) ++ List.replicate (3 - (lg_sl ([.ref h0, .int p1])).length) Slot.unset).toArray = ls at hl ⊢
  have hl : lv_has ls 3 [(0, .ref h0), (1, .int p1)] := hl
  refine lv_iload_n hx hb dX12_back_0 rfl (lv_at hl 1 rfl) ?_
  refine lv_i2l (v := p1.toInt64) hx hb dX12_back_1 rfl ?_
  refine lv_lconst (v := 0) hx hb dX12_back_2 (by decide) ?_
  refine lv_ldc2 (v := 3) hx hb hown (hts _ mw_8_138) dX12_back_3 ?_
  refine t_ci (va_runS (As := [.long p1.toInt64, .long 0, .long 3]) (rest := []) ⟨hx, hb, hml, hown, hts⟩ (cz_X12_in_3 l D cA L T r hG hLA.1 σ ρ hB.2.1 _ p1) (cS hts ms_X12_in mw_6_185 rfl rfl ⟨Nat.le_of_ble_eq_true rfl, Nat.le_of_ble_eq_true rfl⟩) (pS hB.1 hK hN) rfl rfl hl.1 rfl (lv_room (Nat.le_of_ble_eq_true rfl)) dX12_back_6 ⟨Nat.le_of_ble_eq_true rfl, Nat.le_of_ble_eq_true rfl⟩) hLA hA hB hS (by decide) (fun x_3 σ_1 ρ_2 H locs hB fσ_1 pσ_1 hS => ?_)
  by_cases c_4 : 0 ≤ p1.toInt ∧ p1.toInt ≤ 3
  · skip
    rw [if_pos c_4] at pσ_1
    subst pσ_1
    refine lv_if_eq (tgt := 21) hx hb dX12_back_9 (by decide) (fun c9 => absurd c9 (by decide)) (fun _ => ?_)
    refine lv_aload_n hx hb dX12_back_12 rfl (lv_at hl 0 rfl) ?_
    refine t_gr hx hb hts hown hK hG hB mh0 th0 fq_12_43 rfl mw_6_19 dX12_back_13 (fun b_5 hb_5 mb_5 tb_5 => ?_)
    refine lv_iload_n hx hb dX12_back_16 rfl (lv_at hl 1 rfl) ?_
    refine t_az hx hb hK hB mb_5 tb_5 ai_85 (fun _ => rfl) (i_in (by omega) (by omega)) dX12_back_17 (fun x_6 ex_6 lx_6 ux_6 => ?_)
    have qx_6 : x_6 = 0 := ex_6.trans ((FR.at fσ_1 tb_5 (by simp)).trans (hZ.at mb_5 tb_5 rfl))
    clear lx_6 ux_6
    subst qx_6
    refine lv_if_ne (tgt := 23) hx hb dX12_back_18 (by decide) (fun c9 => absurd (by decide) c9) (fun _ => ?_)
    refine lv_iconst (v := (-1)) hx hb dX12_back_21 (by decide) ?_
    exact W.iret (v := (-1)) hx hb hr (fun t ht hW => ⟨⟨(-1), (σ_1, ρ_2), rfl, ⟨hB.2.1, hB.2.2, rfl⟩, (show TP D cA L T r σ_1 ρ_2 t.heap from by rw [ht]; exact hB.1)⟩, hS.F ht⟩) hS.2.2 dX12_back_22
  · skip
    rw [if_neg c_4] at pσ_1
    subst pσ_1
    refine lv_if_eq (tgt := 21) hx hb dX12_back_9 (by decide) (fun _ => ?_) (fun c9 => absurd (by decide) c9)
    refine lv_iconst (v := (-1)) hx hb dX12_back_21 (by decide) ?_
    exact W.iret (v := (-1)) hx hb hr (fun t ht hW => ⟨⟨(-1), (σ_1, ρ_2), rfl, ⟨hB.2.1, hB.2.2, rfl⟩, (show TP D cA L T r σ_1 ρ_2 t.heap from by rw [ht]; exact hB.1)⟩, hS.F ht⟩) hS.2.2 dX12_back_22
set_option maxHeartbeats 4000000 in
set_option maxRecDepth 100000 in
theorem cz_X12_note (l : Launch) (D : va_G) (cA : Nat → ClassId) (L : List Nat) (T : Nat → Nat) (r : Rg) (hG : GR L T r) (hL : L.Nodup) (σ : Sg) (ρ : Lg) (hW : WT L rz T σ) (sz : Nat) (h0 : Nat) (mh0 : h0 ∈ L) (th0 : T h0 = 12) (p1 : Int32) (p2 : Int32) (p3 : Int32) (hZ : ZM L T σ) : Met l yX12_note (.code yX12_note cX12_note 5 (some .int) :: wsA) ({ frames := 1, cells := 0, slots := 0, locals := 25 }) (PR D cA L T r σ ρ sz [.ref h0, .int p1, .int p2, .int p3]) (QI D cA L T r rz [(70, 1000)] σ sz (fun x σ1 => x = if p1.toInt = -1 then 0 else (-2))) 0 0 (dm L sz) := by
  refine Met.ofW (cc := cX12_note) (maxL := 5) (ret := (some .int)) (by decide) rfl ?_
  intro p e s m args below meth c s₁ B hml hv
  obtain ⟨rfl, hsz, hP, hK, hN⟩ := hv
  have hx := B.exec
  have hb := B.bytes
  have hr := B.returns
  have hts : ∀ w ∈ wsA, w.before _ s = true := fun w h => atoms_spec (ws := .code yX12_note cX12_note 5 (some .int) :: wsA) B.pre w (List.mem_cons_of_mem _ h)
  have hown : s.vm.findClass RX12 = some m.cls := findClass_of_methodNamed B.named
  subst hsz
  have hLA : LA (dm L s.heap.size) L := ⟨hL, fun a h => Or.inl h⟩
  have hA : ∀ q : Nat, s.heap.size ≤ q → dm L s.heap.size q := fun q h => Or.inr h
  have hS : va_S (dm L s.heap.size) s.heap s.heap [] := va_S.rf
  have hB : TS D cA L T r rz [(70, 1000)] σ σ ρ s.heap := ⟨hP, hW, FR.rf⟩
  have hl := lv_entry ([.ref h0, .int p1, .int p2, .int p3]) (n := 5) (Nat.le_of_ble_eq_true rfl)
  rw [lg_entry_eq]
  generalize (lg_sl ([.ref h0, .int p1, .int p2, .int p3]) ++ List.replicate (5 - (lg_sl ([.ref h0, .int p1, .int p2, .int p3])).length) Slot.unset).toArray = ls at hl ⊢
  have hl : lv_has ls 5 [(0, .ref h0), (1, .int p1), (2, .int p2), (3, .int p3)] := hl
  refine lv_iload_n hx hb dX12_note_0 rfl (lv_at hl 1 rfl) ?_
  refine lv_iconst (v := (-1)) hx hb dX12_note_1 (by decide) ?_
  refine lv_icmp_ne (tgt := 16) hx hb dX12_note_2 (by decide) (fun c_1 => ?_) (fun c_1 => ?_)
  · skip
    have uc_1 := i_ne (n := (-1)) (by decide) c_1
    refine lv_iload_n hx hb dX12_note_16 rfl (lv_at hl 1 rfl) ?_
    refine lv_i2l (v := p1.toInt64) hx hb dX12_note_17 rfl ?_
    refine lv_lconst (v := 0) hx hb dX12_note_18 (by decide) ?_
    refine lv_ldc2 (v := 60) hx hb hown (hts _ mw_8_77) dX12_note_19 ?_
    refine t_ci (va_runS (As := [.long p1.toInt64, .long 0, .long 60]) (rest := []) ⟨hx, hb, hml, hown, hts⟩ (cz_X12_in_60 l D cA L T r hG hLA.1 σ ρ hB.2.1 _ p1) (cS hts ms_X12_in mw_6_185 rfl rfl ⟨Nat.le_of_ble_eq_true rfl, Nat.le_of_ble_eq_true rfl⟩) (pS hB.1 hK hN) rfl rfl hl.1 rfl (lv_room (Nat.le_of_ble_eq_true rfl)) dX12_note_22 ⟨Nat.le_of_ble_eq_true rfl, Nat.le_of_ble_eq_true rfl⟩) hLA hA hB hS (by decide) (fun x_4 σ_2 ρ_3 H locs hB fσ_2 pσ_2 hS => ?_)
    by_cases c_5 : 0 ≤ p1.toInt ∧ p1.toInt ≤ 60
    · skip
      rw [if_pos c_5] at pσ_2
      subst pσ_2
      refine lv_if_eq (tgt := 57) hx hb dX12_note_25 (by decide) (fun c9 => absurd c9 (by decide)) (fun _ => ?_)
      refine lv_aload_n hx hb dX12_note_28 rfl (lv_at hl 0 rfl) ?_
      refine lv_iload_n hx hb dX12_note_29 rfl (lv_at hl 2 rfl) ?_
      refine t_ci (va_runV (As := [.int p2]) (rest := []) ⟨hx, hb, hml, hown, hts⟩ (cz_X12_isBend l D cA L T r hG hLA.1 σ_2 ρ_3 hB.2.1 _ h0 mh0 th0 p2) (cV hts mv_X12_isBend mw_7_89 rfl rfl ⟨Nat.le_of_ble_eq_true rfl, Nat.le_of_ble_eq_true rfl⟩) (pV hB.1 hK hN mh0 th0 (show shp cA 12 _ _ _ = .inr (12, Fs12 _ _ _) from rfl) rfl) rfl rfl hl.1 rfl (lv_room (Nat.le_of_ble_eq_true rfl)) dX12_note_30 ⟨Nat.le_of_ble_eq_true rfl, Nat.le_of_ble_eq_true rfl⟩) hLA hA hB hS (by decide) (fun x_8 σ_6 ρ_7 H locs hB fσ_6 pσ_6 hS => ?_)
      subst pσ_6
      refine lv_if_eq (tgt := 57) hx hb dX12_note_33 (by decide) (fun _ => ?_) (fun c9 => absurd (by decide) c9)
      refine lv_bipush (v := (-2)) hx hb dX12_note_57 (by decide) ?_
      exact W.iret (v := (-2)) hx hb hr (fun t ht hW => ⟨⟨(-2), (σ_6, ρ_7), rfl, ⟨hB.2.1, hB.2.2, (if_neg (by omega)).symm⟩, (show TP D cA L T r σ_6 ρ_7 t.heap from by rw [ht]; exact hB.1)⟩, hS.F ht⟩) hS.2.2 dX12_note_59
    · skip
      rw [if_neg c_5] at pσ_2
      subst pσ_2
      refine lv_if_eq (tgt := 57) hx hb dX12_note_25 (by decide) (fun _ => ?_) (fun c9 => absurd (by decide) c9)
      refine lv_bipush (v := (-2)) hx hb dX12_note_57 (by decide) ?_
      exact W.iret (v := (-2)) hx hb hr (fun t ht hW => ⟨⟨(-2), (σ_2, ρ_3), rfl, ⟨hB.2.1, hB.2.2, (if_neg (by omega)).symm⟩, (show TP D cA L T r σ_2 ρ_3 t.heap from by rw [ht]; exact hB.1)⟩, hS.F ht⟩) hS.2.2 dX12_note_59
  · skip
    have uc_1 := i_eq (n := (-1)) (by decide) c_1
    refine lv_aload_n hx hb dX12_note_5 rfl (lv_at hl 0 rfl) ?_
    refine t_gr hx hb hts hown hK hG hB mh0 th0 fq_12_20 rfl mw_5_236 dX12_note_6 (fun b_9 hb_9 mb_9 tb_9 => ?_)
    refine lv_sipush (v := 200) hx hb dX12_note_9 (by decide) ?_
    refine lv_iconst (v := 0) hx hb dX12_note_12 (by decide) ?_
    refine t_si hx hb hK hLA hB hS mb_9 tb_9 ai_70 (i_in (by decide) (by decide)) (show 0 ≤ (0 : Int32).toInt by decide) (show (0 : Int32).toInt ≤ 0 by decide) (Or.inr (by decide)) dX12_note_13 (fun H locs σ_10 eσ_10 hB hS => ?_)
    have k_11 : σ_10 b_9 200 = 0 := by rw [eσ_10]; exact up2_same _ _ _ _
    refine lv_iconst (v := 0) hx hb dX12_note_14 (by decide) ?_
    exact W.iret (v := 0) hx hb hr (fun t ht hW => ⟨⟨0, (σ_10, ρ), rfl, ⟨hB.2.1, hB.2.2, (if_pos (by omega)).symm⟩, (show TP D cA L T r σ_10 ρ t.heap from by rw [ht]; exact hB.1)⟩, hS.F ht⟩) hS.2.2 dX12_note_15
set_option maxHeartbeats 4000000 in
set_option maxRecDepth 100000 in
theorem cz_X12_seed (l : Launch) (D : va_G) (cA : Nat → ClassId) (L : List Nat) (T : Nat → Nat) (r : Rg) (hG : GR L T r) (hL : L.Nodup) (σ : Sg) (ρ : Lg) (hW : WT L rz T σ) (sz : Nat) (h0 : Nat) (mh0 : h0 ∈ L) (th0 : T h0 = 12) (p1 : Int32) (hZ : ZM L T σ) : Met l yX12_seed (.code yX12_seed cX12_seed 3 (some .int) :: wsA) ({ frames := 0, cells := 0, slots := 0, locals := 0 }) (PR D cA L T r σ ρ sz [.ref h0, .int p1]) (QI D cA L T r rz [(12, 22)] σ sz (fun x σ1 => x = if p1.toInt < 0 then (-1) else 0)) 0 0 (dm L sz) := by
  refine Met.ofW (cc := cX12_seed) (maxL := 3) (ret := (some .int)) (by decide) rfl ?_
  intro p e s m args below meth c s₁ B hml hv
  obtain ⟨rfl, hsz, hP, hK, hN⟩ := hv
  have hx := B.exec
  have hb := B.bytes
  have hr := B.returns
  have hts : ∀ w ∈ wsA, w.before _ s = true := fun w h => atoms_spec (ws := .code yX12_seed cX12_seed 3 (some .int) :: wsA) B.pre w (List.mem_cons_of_mem _ h)
  have hown : s.vm.findClass RX12 = some m.cls := findClass_of_methodNamed B.named
  subst hsz
  have hLA : LA (dm L s.heap.size) L := ⟨hL, fun a h => Or.inl h⟩
  have hA : ∀ q : Nat, s.heap.size ≤ q → dm L s.heap.size q := fun q h => Or.inr h
  have hS : va_S (dm L s.heap.size) s.heap s.heap [] := va_S.rf
  have hB : TS D cA L T r rz [(12, 22)] σ σ ρ s.heap := ⟨hP, hW, FR.rf⟩
  have hl := lv_entry ([.ref h0, .int p1]) (n := 3) (Nat.le_of_ble_eq_true rfl)
  rw [lg_entry_eq]
  generalize (lg_sl ([.ref h0, .int p1]) ++ List.replicate (3 - (lg_sl ([.ref h0, .int p1])).length) Slot.unset).toArray = ls at hl ⊢
  have hl : lv_has ls 3 [(0, .ref h0), (1, .int p1)] := hl
  refine lv_iload_n hx hb dX12_seed_0 rfl (lv_at hl 1 rfl) ?_
  refine lv_if_ge (tgt := 6) hx hb dX12_seed_1 (by decide) (fun c_1 => ?_) (fun c_1 => ?_)
  · skip
    have uc_1 := i_ge (n := 0) (by decide) c_1
    refine lv_aload_n hx hb dX12_seed_6 rfl (lv_at hl 0 rfl) ?_
    refine t_gv hx hb hts hown hK hB mh0 th0 fi_12_22 (hZ.at (j := 22) mh0 th0 (by decide : ini 12 22 = 0)) mw_5_238 dX12_seed_7 ?_
    refine lv_istore_n (lv' := [(2, .int 0), (0, .ref h0), (1, .int p1)]) hx hb dX12_seed_10 rfl hl (by decide) rfl (fun ls hl => ?_)
    refine lv_aload_n hx hb dX12_seed_11 rfl (lv_at hl 1 rfl) ?_
    refine lv_iload_n hx hb dX12_seed_12 rfl (lv_at hl 2 rfl) ?_
    refine t_pi hx hb hts hown hK hLA hB hS mh0 th0 fi_12_22 rfl rfl rfl (i_lo _) (i_hi _) (Or.inl (by decide)) mw_5_238 dX12_seed_13 (fun H locs σ_2 eσ_2 hB hS => ?_)
    have k_3 : σ_2 h0 22 = p1 := by rw [eσ_2]; exact up2_same _ _ _ _
    refine lv_iload_n hx hb dX12_seed_16 rfl (lv_at hl 0 rfl) ?_
    exact W.iret (v := 0) hx hb hr (fun t ht hW => ⟨⟨0, (σ_2, ρ), rfl, ⟨hB.2.1, hB.2.2, (if_neg (by omega)).symm⟩, (show TP D cA L T r σ_2 ρ t.heap from by rw [ht]; exact hB.1)⟩, hS.F ht⟩) hS.2.2 dX12_seed_17
  · skip
    have uc_1 := i_nge (n := 0) (by decide) c_1
    refine lv_iconst (v := (-1)) hx hb dX12_seed_4 (by decide) ?_
    exact W.iret (v := (-1)) hx hb hr (fun t ht hW => ⟨⟨(-1), (σ, ρ), rfl, ⟨hB.2.1, hB.2.2, (if_pos (by omega)).symm⟩, (show TP D cA L T r σ ρ t.heap from by rw [ht]; exact hB.1)⟩, hS.F ht⟩) hS.2.2 dX12_seed_5
set_option maxHeartbeats 4000000 in
set_option maxRecDepth 100000 in
theorem cz_X12_count (l : Launch) (D : va_G) (cA : Nat → ClassId) (L : List Nat) (T : Nat → Nat) (r : Rg) (hG : GR L T r) (hL : L.Nodup) (σ : Sg) (ρ : Lg) (hW : WT L rz T σ) (sz : Nat) (h0 : Nat) (mh0 : h0 ∈ L) (th0 : T h0 = 12) (p1 : Int32) (hZ : ZM L T σ) : Met l yX12_count (.code yX12_count cX12_count 4 (some .int) :: wsA) ({ frames := 0, cells := 0, slots := 0, locals := 0 }) (PR D cA L T r σ ρ sz [.ref h0, .int p1]) (QI D cA L T r rz ([] : List (Nat × Nat)) σ sz (fun x σ1 => x = if 0 ≤ p1.toInt ∧ p1.toInt ≤ 13 ∧ p1.toInt ≠ 5 then 0 else (-1))) 0 0 (dm L sz) := by
  refine Met.ofW (cc := cX12_count) (maxL := 4) (ret := (some .int)) (by decide) rfl ?_
  intro p e s m args below meth c s₁ B hml hv
  obtain ⟨rfl, hsz, hP, hK, hN⟩ := hv
  have hx := B.exec
  have hb := B.bytes
  have hr := B.returns
  have hts : ∀ w ∈ wsA, w.before _ s = true := fun w h => atoms_spec (ws := .code yX12_count cX12_count 4 (some .int) :: wsA) B.pre w (List.mem_cons_of_mem _ h)
  have hown : s.vm.findClass RX12 = some m.cls := findClass_of_methodNamed B.named
  subst hsz
  have hLA : LA (dm L s.heap.size) L := ⟨hL, fun a h => Or.inl h⟩
  have hA : ∀ q : Nat, s.heap.size ≤ q → dm L s.heap.size q := fun q h => Or.inr h
  have hS : va_S (dm L s.heap.size) s.heap s.heap [] := va_S.rf
  have hB : TS D cA L T r rz ([] : List (Nat × Nat)) σ σ ρ s.heap := ⟨hP, hW, FR.rf⟩
  have hl := lv_entry ([.ref h0, .int p1]) (n := 4) (Nat.le_of_ble_eq_true rfl)
  rw [lg_entry_eq]
  generalize (lg_sl ([.ref h0, .int p1]) ++ List.replicate (4 - (lg_sl ([.ref h0, .int p1])).length) Slot.unset).toArray = ls at hl ⊢
  have hl : lv_has ls 4 [(0, .ref h0), (1, .int p1)] := hl
  refine lv_iconst (v := 0) hx hb dX12_count_0 (by decide) ?_
  refine lv_istore_n (lv' := [(2, .int 0), (0, .ref h0), (1, .int p1)]) hx hb dX12_count_1 rfl hl (by decide) rfl (fun ls hl => ?_)
  refine lv_iload_n hx hb dX12_count_2 rfl (lv_at hl 2 rfl) ?_
  by_cases c_1 : p1.toInt < 0 ∨ 13 < p1.toInt
  · skip
    refine lv_tableOut (tgt := 237) hx hb dX12_count_3 c_1 (by decide) ?_
    refine lv_iconst (v := (-1)) hx hb dX12_count_237 (by decide) ?_
    exact W.iret (v := (-1)) hx hb hr (fun t ht hW => ⟨⟨(-1), (σ, ρ), rfl, ⟨hB.2.1, hB.2.2, (if_neg (by omega)).symm⟩, (show TP D cA L T r σ ρ t.heap from by rw [ht]; exact hB.1)⟩, hS.F ht⟩) hS.2.2 dX12_count_238
  · skip
    rcases (show p1.toInt = 0 ∨ p1.toInt = 1 ∨ p1.toInt = 2 ∨ p1.toInt = 3 ∨ p1.toInt = 4 ∨ p1.toInt = 5 ∨ p1.toInt = 6 ∨ p1.toInt = 7 ∨ p1.toInt = 8 ∨ p1.toInt = 9 ∨ p1.toInt = 10 ∨ p1.toInt = 11 ∨ p1.toInt = 12 ∨ p1.toInt = 13 by omega) with c_1j | c_1j | c_1j | c_1j | c_1j | c_1j | c_1j | c_1j | c_1j | c_1j | c_1j | c_1j | c_1j | c_1j
    · skip
      have c_1x : p1 = 0 := i_is (by decide) c_1j
      subst c_1x
      refine lv_tableIn (tgt := 72) hx hb dX12_count_3 (by decide) (by decide) rfl (by decide) ?_
      refine lv_aload_n hx hb dX12_count_72 rfl (lv_at hl 1 rfl) ?_
      refine t_gr hx hb hts hown hK hG hB mh0 th0 fq_12_20 rfl mw_5_236 dX12_count_73 (fun b_2 hb_2 mb_2 tb_2 => ?_)
      refine lv_iload_n hx hb dX12_count_76 rfl (lv_at hl 2 rfl) ?_
      refine t_ai hx hb hK hB mb_2 tb_2 ai_70 (fun _ => rfl) (i_in (by decide) (by decide)) dX12_count_77 (fun x_3 ex_3 lx_3 ux_3 => ?_)
      obtain rfl : x_3 = 0 := i_is (n := 0) (by decide) (by omega)
      exact W.iret (v := 0) hx hb hr (fun t ht hW => ⟨⟨0, (σ, ρ), rfl, ⟨hB.2.1, hB.2.2, (show (0 : Int32) = if 0 ≤ (0 : Int32).toInt ∧ (0 : Int32).toInt ≤ 13 ∧ (0 : Int32).toInt ≠ 5 then 0 else (-1) by decide)⟩, (show TP D cA L T r σ ρ t.heap from by rw [ht]; exact hB.1)⟩, hS.F ht⟩) hS.2.2 dX12_count_78
    · skip
      have c_1x : p1 = 1 := i_is (by decide) c_1j
      subst c_1x
      refine lv_tableIn (tgt := 72) hx hb dX12_count_3 (by decide) (by decide) rfl (by decide) ?_
      refine lv_aload_n hx hb dX12_count_72 rfl (lv_at hl 1 rfl) ?_
      refine t_gr hx hb hts hown hK hG hB mh0 th0 fq_12_20 rfl mw_5_236 dX12_count_73 (fun b_4 hb_4 mb_4 tb_4 => ?_)
      refine lv_iload_n hx hb dX12_count_76 rfl (lv_at hl 2 rfl) ?_
      refine t_ai hx hb hK hB mb_4 tb_4 ai_70 (fun _ => rfl) (i_in (by decide) (by decide)) dX12_count_77 (fun x_5 ex_5 lx_5 ux_5 => ?_)
      obtain rfl : x_5 = 0 := i_is (n := 0) (by decide) (by omega)
      exact W.iret (v := 0) hx hb hr (fun t ht hW => ⟨⟨0, (σ, ρ), rfl, ⟨hB.2.1, hB.2.2, (show (0 : Int32) = if 0 ≤ (1 : Int32).toInt ∧ (1 : Int32).toInt ≤ 13 ∧ (1 : Int32).toInt ≠ 5 then 0 else (-1) by decide)⟩, (show TP D cA L T r σ ρ t.heap from by rw [ht]; exact hB.1)⟩, hS.F ht⟩) hS.2.2 dX12_count_78
    · skip
      have c_1x : p1 = 2 := i_is (by decide) c_1j
      subst c_1x
      refine lv_tableIn (tgt := 72) hx hb dX12_count_3 (by decide) (by decide) rfl (by decide) ?_
      refine lv_aload_n hx hb dX12_count_72 rfl (lv_at hl 1 rfl) ?_
      refine t_gr hx hb hts hown hK hG hB mh0 th0 fq_12_20 rfl mw_5_236 dX12_count_73 (fun b_6 hb_6 mb_6 tb_6 => ?_)
      refine lv_iload_n hx hb dX12_count_76 rfl (lv_at hl 2 rfl) ?_
      refine t_ai hx hb hK hB mb_6 tb_6 ai_70 (fun _ => rfl) (i_in (by decide) (by decide)) dX12_count_77 (fun x_7 ex_7 lx_7 ux_7 => ?_)
      obtain rfl : x_7 = 0 := i_is (n := 0) (by decide) (by omega)
      exact W.iret (v := 0) hx hb hr (fun t ht hW => ⟨⟨0, (σ, ρ), rfl, ⟨hB.2.1, hB.2.2, (show (0 : Int32) = if 0 ≤ (2 : Int32).toInt ∧ (2 : Int32).toInt ≤ 13 ∧ (2 : Int32).toInt ≠ 5 then 0 else (-1) by decide)⟩, (show TP D cA L T r σ ρ t.heap from by rw [ht]; exact hB.1)⟩, hS.F ht⟩) hS.2.2 dX12_count_78
    · skip
      have c_1x : p1 = 3 := i_is (by decide) c_1j
      subst c_1x
      refine lv_tableIn (tgt := 72) hx hb dX12_count_3 (by decide) (by decide) rfl (by decide) ?_
      refine lv_aload_n hx hb dX12_count_72 rfl (lv_at hl 1 rfl) ?_
      refine t_gr hx hb hts hown hK hG hB mh0 th0 fq_12_20 rfl mw_5_236 dX12_count_73 (fun b_8 hb_8 mb_8 tb_8 => ?_)
      refine lv_iload_n hx hb dX12_count_76 rfl (lv_at hl 2 rfl) ?_
      refine t_ai hx hb hK hB mb_8 tb_8 ai_70 (fun _ => rfl) (i_in (by decide) (by decide)) dX12_count_77 (fun x_9 ex_9 lx_9 ux_9 => ?_)
      obtain rfl : x_9 = 0 := i_is (n := 0) (by decide) (by omega)
      exact W.iret (v := 0) hx hb hr (fun t ht hW => ⟨⟨0, (σ, ρ), rfl, ⟨hB.2.1, hB.2.2, (show (0 : Int32) = if 0 ≤ (3 : Int32).toInt ∧ (3 : Int32).toInt ≤ 13 ∧ (3 : Int32).toInt ≠ 5 then 0 else (-1) by decide)⟩, (show TP D cA L T r σ ρ t.heap from by rw [ht]; exact hB.1)⟩, hS.F ht⟩) hS.2.2 dX12_count_78
    · skip
      have c_1x : p1 = 4 := i_is (by decide) c_1j
      subst c_1x
      refine lv_tableIn (tgt := 79) hx hb dX12_count_3 (by decide) (by decide) rfl (by decide) ?_
      refine lv_aload_n hx hb dX12_count_79 rfl (lv_at hl 1 rfl) ?_
      refine t_gi hx hb hts hown hK hB mh0 th0 fi_12_2 rfl mw_5_218 dX12_count_80 (fun x_10 ex_10 lx_10 ux_10 => ?_)
      obtain rfl : x_10 = 0 := i_is (n := 0) (by decide) (by omega)
      exact W.iret (v := 0) hx hb hr (fun t ht hW => ⟨⟨0, (σ, ρ), rfl, ⟨hB.2.1, hB.2.2, (show (0 : Int32) = if 0 ≤ (4 : Int32).toInt ∧ (4 : Int32).toInt ≤ 13 ∧ (4 : Int32).toInt ≠ 5 then 0 else (-1) by decide)⟩, (show TP D cA L T r σ ρ t.heap from by rw [ht]; exact hB.1)⟩, hS.F ht⟩) hS.2.2 dX12_count_83
    · skip
      have c_1x : p1 = 5 := i_is (by decide) c_1j
      subst c_1x
      refine lv_tableIn (tgt := 84) hx hb dX12_count_3 (by decide) (by decide) rfl (by decide) ?_
      refine lv_aload_n hx hb dX12_count_84 rfl (lv_at hl 1 rfl) ?_
      refine t_gi hx hb hts hown hK hB mh0 th0 fi_12_21 rfl mw_5_237 dX12_count_85 (fun x_11 ex_11 lx_11 ux_11 => ?_)
      obtain rfl : x_11 = (-1) := i_is (n := (-1)) (by decide) (by omega)
      exact W.iret (v := (-1)) hx hb hr (fun t ht hW => ⟨⟨(-1), (σ, ρ), rfl, ⟨hB.2.1, hB.2.2, (show ((-1) : Int32) = if 0 ≤ (5 : Int32).toInt ∧ (5 : Int32).toInt ≤ 13 ∧ (5 : Int32).toInt ≠ 5 then 0 else (-1) by decide)⟩, (show TP D cA L T r σ ρ t.heap from by rw [ht]; exact hB.1)⟩, hS.F ht⟩) hS.2.2 dX12_count_88
    · skip
      have c_1x : p1 = 6 := i_is (by decide) c_1j
      subst c_1x
      refine lv_tableIn (tgt := 89) hx hb dX12_count_3 (by decide) (by decide) rfl (by decide) ?_
      refine lv_aload_n hx hb dX12_count_89 rfl (lv_at hl 1 rfl) ?_
      refine t_gr hx hb hts hown hK hG hB mh0 th0 fq_12_20 rfl mw_5_236 dX12_count_90 (fun b_12 hb_12 mb_12 tb_12 => ?_)
      refine lv_iconst (v := 4) hx hb dX12_count_93 (by decide) ?_
      refine t_ai hx hb hK hB mb_12 tb_12 ai_70 (fun _ => rfl) (i_in (by decide) (by decide)) dX12_count_94 (fun x_13 ex_13 lx_13 ux_13 => ?_)
      obtain rfl : x_13 = 0 := i_is (n := 0) (by decide) (by omega)
      exact W.iret (v := 0) hx hb hr (fun t ht hW => ⟨⟨0, (σ, ρ), rfl, ⟨hB.2.1, hB.2.2, (show (0 : Int32) = if 0 ≤ (6 : Int32).toInt ∧ (6 : Int32).toInt ≤ 13 ∧ (6 : Int32).toInt ≠ 5 then 0 else (-1) by decide)⟩, (show TP D cA L T r σ ρ t.heap from by rw [ht]; exact hB.1)⟩, hS.F ht⟩) hS.2.2 dX12_count_95
    · skip
      have c_1x : p1 = 7 := i_is (by decide) c_1j
      subst c_1x
      refine lv_tableIn (tgt := 96) hx hb dX12_count_3 (by decide) (by decide) rfl (by decide) ?_
      refine lv_iconst (v := 0) hx hb dX12_count_96 (by decide) ?_
      refine lv_istore_n (lv' := [(3, .int 0), (2, .int 0), (0, .ref h0), (1, .int 7)]) hx hb dX12_count_97 rfl hl (by decide) rfl (fun ls hl => ?_)
      refine lv_iload_n hx hb dX12_count_98 rfl (lv_at hl 0 rfl) ?_
      refine lv_aload_n hx hb dX12_count_99 rfl (lv_at hl 2 rfl) ?_
      refine t_gr hx hb hts hown hK hG hB mh0 th0 fq_12_20 rfl mw_5_236 dX12_count_100 (fun b_14 hb_14 mb_14 tb_14 => ?_)
      refine lv_iconst (v := 2) hx hb dX12_count_103 (by decide) ?_
      refine t_ai hx hb hK hB mb_14 tb_14 ai_70 (fun _ => rfl) (i_in (by decide) (by decide)) dX12_count_104 (fun x_15 ex_15 lx_15 ux_15 => ?_)
      obtain rfl : x_15 = 0 := i_is (n := 0) (by decide) (by omega)
      refine lv_icmp_ge (tgt := 138) hx hb dX12_count_105 (by decide) (fun _ => ?_) (fun c9 => absurd (by decide) c9)
      refine lv_iload_n hx hb dX12_count_138 rfl (lv_at hl 1 rfl) ?_
      exact W.iret (v := 0) hx hb hr (fun t ht hW => ⟨⟨0, (σ, ρ), rfl, ⟨hB.2.1, hB.2.2, (show (0 : Int32) = if 0 ≤ (7 : Int32).toInt ∧ (7 : Int32).toInt ≤ 13 ∧ (7 : Int32).toInt ≠ 5 then 0 else (-1) by decide)⟩, (show TP D cA L T r σ ρ t.heap from by rw [ht]; exact hB.1)⟩, hS.F ht⟩) hS.2.2 dX12_count_139
    · skip
      have c_1x : p1 = 8 := i_is (by decide) c_1j
      subst c_1x
      refine lv_tableIn (tgt := 140) hx hb dX12_count_3 (by decide) (by decide) rfl (by decide) ?_
      refine lv_iconst (v := 0) hx hb dX12_count_140 (by decide) ?_
      refine lv_istore_n (lv' := [(3, .int 0), (2, .int 0), (0, .ref h0), (1, .int 8)]) hx hb dX12_count_141 rfl hl (by decide) rfl (fun ls hl => ?_)
      refine lv_iload_n hx hb dX12_count_142 rfl (lv_at hl 0 rfl) ?_
      refine lv_aload_n hx hb dX12_count_143 rfl (lv_at hl 2 rfl) ?_
      refine t_gr hx hb hts hown hK hG hB mh0 th0 fq_12_20 rfl mw_5_236 dX12_count_144 (fun b_16 hb_16 mb_16 tb_16 => ?_)
      refine lv_iconst (v := 3) hx hb dX12_count_147 (by decide) ?_
      refine t_ai hx hb hK hB mb_16 tb_16 ai_70 (fun _ => rfl) (i_in (by decide) (by decide)) dX12_count_148 (fun x_17 ex_17 lx_17 ux_17 => ?_)
      obtain rfl : x_17 = 0 := i_is (n := 0) (by decide) (by omega)
      refine lv_icmp_ge (tgt := 183) hx hb dX12_count_149 (by decide) (fun _ => ?_) (fun c9 => absurd (by decide) c9)
      refine lv_iload_n hx hb dX12_count_183 rfl (lv_at hl 1 rfl) ?_
      exact W.iret (v := 0) hx hb hr (fun t ht hW => ⟨⟨0, (σ, ρ), rfl, ⟨hB.2.1, hB.2.2, (show (0 : Int32) = if 0 ≤ (8 : Int32).toInt ∧ (8 : Int32).toInt ≤ 13 ∧ (8 : Int32).toInt ≠ 5 then 0 else (-1) by decide)⟩, (show TP D cA L T r σ ρ t.heap from by rw [ht]; exact hB.1)⟩, hS.F ht⟩) hS.2.2 dX12_count_184
    · skip
      have c_1x : p1 = 9 := i_is (by decide) c_1j
      subst c_1x
      refine lv_tableIn (tgt := 185) hx hb dX12_count_3 (by decide) (by decide) rfl (by decide) ?_
      refine lv_iconst (v := 0) hx hb dX12_count_185 (by decide) ?_
      refine lv_istore_n (lv' := [(3, .int 0), (2, .int 0), (0, .ref h0), (1, .int 9)]) hx hb dX12_count_186 rfl hl (by decide) rfl (fun ls hl => ?_)
      refine lv_iload_n hx hb dX12_count_187 rfl (lv_at hl 0 rfl) ?_
      refine lv_aload_n hx hb dX12_count_188 rfl (lv_at hl 2 rfl) ?_
      refine t_gr hx hb hts hown hK hG hB mh0 th0 fq_12_20 rfl mw_5_236 dX12_count_189 (fun b_18 hb_18 mb_18 tb_18 => ?_)
      refine lv_iconst (v := 2) hx hb dX12_count_192 (by decide) ?_
      refine t_ai hx hb hK hB mb_18 tb_18 ai_70 (fun _ => rfl) (i_in (by decide) (by decide)) dX12_count_193 (fun x_19 ex_19 lx_19 ux_19 => ?_)
      obtain rfl : x_19 = 0 := i_is (n := 0) (by decide) (by omega)
      refine lv_icmp_ge (tgt := 211) hx hb dX12_count_194 (by decide) (fun _ => ?_) (fun c9 => absurd (by decide) c9)
      refine lv_iload_n hx hb dX12_count_211 rfl (lv_at hl 1 rfl) ?_
      exact W.iret (v := 0) hx hb hr (fun t ht hW => ⟨⟨0, (σ, ρ), rfl, ⟨hB.2.1, hB.2.2, (show (0 : Int32) = if 0 ≤ (9 : Int32).toInt ∧ (9 : Int32).toInt ≤ 13 ∧ (9 : Int32).toInt ≠ 5 then 0 else (-1) by decide)⟩, (show TP D cA L T r σ ρ t.heap from by rw [ht]; exact hB.1)⟩, hS.F ht⟩) hS.2.2 dX12_count_212
    · skip
      have c_1x : p1 = 10 := i_is (by decide) c_1j
      subst c_1x
      refine lv_tableIn (tgt := 213) hx hb dX12_count_3 (by decide) (by decide) rfl (by decide) ?_
      refine lv_aload_n hx hb dX12_count_213 rfl (lv_at hl 1 rfl) ?_
      refine t_gr hx hb hts hown hK hG hB mh0 th0 fq_12_20 rfl mw_5_236 dX12_count_214 (fun b_20 hb_20 mb_20 tb_20 => ?_)
      refine lv_sipush (v := 200) hx hb dX12_count_217 (by decide) ?_
      refine t_ai hx hb hK hB mb_20 tb_20 ai_70 (fun _ => rfl) (i_in (by decide) (by decide)) dX12_count_220 (fun x_21 ex_21 lx_21 ux_21 => ?_)
      obtain rfl : x_21 = 0 := i_is (n := 0) (by decide) (by omega)
      exact W.iret (v := 0) hx hb hr (fun t ht hW => ⟨⟨0, (σ, ρ), rfl, ⟨hB.2.1, hB.2.2, (show (0 : Int32) = if 0 ≤ (10 : Int32).toInt ∧ (10 : Int32).toInt ≤ 13 ∧ (10 : Int32).toInt ≠ 5 then 0 else (-1) by decide)⟩, (show TP D cA L T r σ ρ t.heap from by rw [ht]; exact hB.1)⟩, hS.F ht⟩) hS.2.2 dX12_count_221
    · skip
      have c_1x : p1 = 11 := i_is (by decide) c_1j
      subst c_1x
      refine lv_tableIn (tgt := 222) hx hb dX12_count_3 (by decide) (by decide) rfl (by decide) ?_
      refine lv_aload_n hx hb dX12_count_222 rfl (lv_at hl 1 rfl) ?_
      refine t_gi hx hb hts hown hK hB mh0 th0 fi_12_25 rfl mw_6_1 dX12_count_223 (fun x_22 ex_22 lx_22 ux_22 => ?_)
      obtain rfl : x_22 = 0 := i_is (n := 0) (by decide) (by omega)
      exact W.iret (v := 0) hx hb hr (fun t ht hW => ⟨⟨0, (σ, ρ), rfl, ⟨hB.2.1, hB.2.2, (show (0 : Int32) = if 0 ≤ (11 : Int32).toInt ∧ (11 : Int32).toInt ≤ 13 ∧ (11 : Int32).toInt ≠ 5 then 0 else (-1) by decide)⟩, (show TP D cA L T r σ ρ t.heap from by rw [ht]; exact hB.1)⟩, hS.F ht⟩) hS.2.2 dX12_count_226
    · skip
      have c_1x : p1 = 12 := i_is (by decide) c_1j
      subst c_1x
      refine lv_tableIn (tgt := 227) hx hb dX12_count_3 (by decide) (by decide) rfl (by decide) ?_
      refine lv_aload_n hx hb dX12_count_227 rfl (lv_at hl 1 rfl) ?_
      refine t_gv hx hb hts hown hK hB mh0 th0 fi_12_22 (hZ.at (j := 22) mh0 th0 (by decide : ini 12 22 = 0)) mw_5_238 dX12_count_228 ?_
      exact W.iret (v := 0) hx hb hr (fun t ht hW => ⟨⟨0, (σ, ρ), rfl, ⟨hB.2.1, hB.2.2, (show (0 : Int32) = if 0 ≤ (12 : Int32).toInt ∧ (12 : Int32).toInt ≤ 13 ∧ (12 : Int32).toInt ≠ 5 then 0 else (-1) by decide)⟩, (show TP D cA L T r σ ρ t.heap from by rw [ht]; exact hB.1)⟩, hS.F ht⟩) hS.2.2 dX12_count_231
    · skip
      have c_1x : p1 = 13 := i_is (by decide) c_1j
      subst c_1x
      refine lv_tableIn (tgt := 232) hx hb dX12_count_3 (by decide) (by decide) rfl (by decide) ?_
      refine lv_aload_n hx hb dX12_count_232 rfl (lv_at hl 1 rfl) ?_
      refine t_gv hx hb hts hown hK hB mh0 th0 fi_12_1 (hZ.at (j := 1) mh0 th0 (by decide : ini 12 1 = 0)) mw_5_217 dX12_count_233 ?_
      exact W.iret (v := 0) hx hb hr (fun t ht hW => ⟨⟨0, (σ, ρ), rfl, ⟨hB.2.1, hB.2.2, (show (0 : Int32) = if 0 ≤ (13 : Int32).toInt ∧ (13 : Int32).toInt ≤ 13 ∧ (13 : Int32).toInt ≠ 5 then 0 else (-1) by decide)⟩, (show TP D cA L T r σ ρ t.heap from by rw [ht]; exact hB.1)⟩, hS.F ht⟩) hS.2.2 dX12_count_236
set_option maxHeartbeats 4000000 in
set_option maxRecDepth 100000 in
theorem cz_X12_image (l : Launch) (D : va_G) (cA : Nat → ClassId) (L : List Nat) (T : Nat → Nat) (r : Rg) (hG : GR L T r) (hL : L.Nodup) (σ : Sg) (ρ : Lg) (hW : WT L rz T σ) (sz : Nat) (h0 : Nat) (mh0 : h0 ∈ L) (th0 : T h0 = 12) (p1 : Int32) (hZ : ZM L T σ) : Met l yX12_image (.code yX12_image cX12_image 3 (some .int) :: wsA) ({ frames := 1, cells := 0, slots := 0, locals := 25 }) (PR D cA L T r σ ρ sz [.ref h0, .int p1]) (QI D cA L T r rz [(82, 1000), (83, 1000), (84, 1000), (85, 1000)] σ sz (fun x σ1 => x = if 0 ≤ p1.toInt ∧ p1.toInt ≤ 3 then 0 else (-1))) 0 0 (dm L sz) := by
  refine Met.ofW (cc := cX12_image) (maxL := 3) (ret := (some .int)) (by decide) rfl ?_
  intro p e s m args below meth c s₁ B hml hv
  obtain ⟨rfl, hsz, hP, hK, hN⟩ := hv
  have hx := B.exec
  have hb := B.bytes
  have hr := B.returns
  have hts : ∀ w ∈ wsA, w.before _ s = true := fun w h => atoms_spec (ws := .code yX12_image cX12_image 3 (some .int) :: wsA) B.pre w (List.mem_cons_of_mem _ h)
  have hown : s.vm.findClass RX12 = some m.cls := findClass_of_methodNamed B.named
  subst hsz
  have hLA : LA (dm L s.heap.size) L := ⟨hL, fun a h => Or.inl h⟩
  have hA : ∀ q : Nat, s.heap.size ≤ q → dm L s.heap.size q := fun q h => Or.inr h
  have hS : va_S (dm L s.heap.size) s.heap s.heap [] := va_S.rf
  have hB : TS D cA L T r rz [(82, 1000), (83, 1000), (84, 1000), (85, 1000)] σ σ ρ s.heap := ⟨hP, hW, FR.rf⟩
  have hl := lv_entry ([.ref h0, .int p1]) (n := 3) (Nat.le_of_ble_eq_true rfl)
  rw [lg_entry_eq]
  generalize (lg_sl ([.ref h0, .int p1]) ++ List.replicate (3 - (lg_sl ([.ref h0, .int p1])).length) Slot.unset).toArray = ls at hl ⊢
  have hl : lv_has ls 3 [(0, .ref h0), (1, .int p1)] := hl
  refine lv_iload_n hx hb dX12_image_0 rfl (lv_at hl 1 rfl) ?_
  refine lv_i2l (v := p1.toInt64) hx hb dX12_image_1 rfl ?_
  refine lv_lconst (v := 0) hx hb dX12_image_2 (by decide) ?_
  refine lv_ldc2 (v := 3) hx hb hown (hts _ mw_8_138) dX12_image_3 ?_
  refine t_ci (va_runS (As := [.long p1.toInt64, .long 0, .long 3]) (rest := []) ⟨hx, hb, hml, hown, hts⟩ (cz_X12_in_3 l D cA L T r hG hLA.1 σ ρ hB.2.1 _ p1) (cS hts ms_X12_in mw_6_185 rfl rfl ⟨Nat.le_of_ble_eq_true rfl, Nat.le_of_ble_eq_true rfl⟩) (pS hB.1 hK hN) rfl rfl hl.1 rfl (lv_room (Nat.le_of_ble_eq_true rfl)) dX12_image_6 ⟨Nat.le_of_ble_eq_true rfl, Nat.le_of_ble_eq_true rfl⟩) hLA hA hB hS (by decide) (fun x_3 σ_1 ρ_2 H locs hB fσ_1 pσ_1 hS => ?_)
  by_cases c_4 : 0 ≤ p1.toInt ∧ p1.toInt ≤ 3
  · skip
    rw [if_pos c_4] at pσ_1
    subst pσ_1
    refine lv_if_ne (tgt := 14) hx hb dX12_image_9 (by decide) (fun _ => ?_) (fun c9 => absurd c9 (by decide))
    refine lv_aload_n hx hb dX12_image_14 rfl (lv_at hl 0 rfl) ?_
    refine t_gr hx hb hts hown hK hG hB mh0 th0 fq_12_43 rfl mw_6_19 dX12_image_15 (fun b_5 hb_5 mb_5 tb_5 => ?_)
    refine lv_iload_n hx hb dX12_image_18 rfl (lv_at hl 1 rfl) ?_
    refine lv_iconst (v := 1) hx hb dX12_image_19 (by decide) ?_
    refine t_sz hx hb hK hLA hB hS mb_5 tb_5 ai_85 (i_in (by omega) (by omega)) (i_lo _) (i_hi _) (Or.inr (by decide)) dX12_image_20 (fun H locs σ_6 eσ_6 hB hS => ?_)
    refine lv_aload_n hx hb dX12_image_21 rfl (lv_at hl 0 rfl) ?_
    refine t_gr hx hb hts hown hK hG hB mh0 th0 fq_12_41 rfl mw_6_17 dX12_image_22 (fun b_7 hb_7 mb_7 tb_7 => ?_)
    refine lv_iload_n hx hb dX12_image_25 rfl (lv_at hl 1 rfl) ?_
    refine lv_aload_n hx hb dX12_image_26 rfl (lv_at hl 0 rfl) ?_
    refine t_gi hx hb hts hown hK hB mh0 th0 fi_12_21 rfl mw_5_237 dX12_image_27 (fun x_8 ex_8 lx_8 ux_8 => ?_)
    obtain rfl : x_8 = (-1) := i_is (n := (-1)) (by decide) (by omega)
    refine t_si hx hb hK hLA hB hS mb_7 tb_7 ai_83 (i_in (by omega) (by omega)) (i_lo _) (i_hi _) (Or.inr (by decide)) dX12_image_30 (fun H locs σ_9 eσ_9 hB hS => ?_)
    refine lv_aload_n hx hb dX12_image_31 rfl (lv_at hl 0 rfl) ?_
    refine t_gr hx hb hts hown hK hG hB mh0 th0 fq_12_42 rfl mw_6_18 dX12_image_32 (fun b_10 hb_10 mb_10 tb_10 => ?_)
    refine lv_iload_n hx hb dX12_image_35 rfl (lv_at hl 1 rfl) ?_
    refine lv_aload_n hx hb dX12_image_36 rfl (lv_at hl 0 rfl) ?_
    have k_11 : σ_1 h0 22 = 0 := (FR.at fσ_1 th0 (by decide)).trans (hZ.at (j := 22) mh0 th0 (by decide : ini 12 22 = 0))
    have k_12 : σ_6 h0 22 = 0 := by rw [eσ_6, up2_nea _ _ (tg_ne th0 tb_5 (by decide))]; exact k_11
    have k_13 : σ_9 h0 22 = 0 := by rw [eσ_9, up2_nea _ _ (tg_ne th0 tb_7 (by decide))]; exact k_12
    refine t_gv hx hb hts hown hK hB mh0 th0 fi_12_22 k_13 mw_5_238 dX12_image_37 ?_
    refine t_si hx hb hK hLA hB hS mb_10 tb_10 ai_84 (i_in (by omega) (by omega)) (show 0 ≤ (0 : Int32).toInt by decide) (show (0 : Int32).toInt ≤ 0 by decide) (Or.inr (by decide)) dX12_image_40 (fun H locs σ_14 eσ_14 hB hS => ?_)
    refine lv_iconst (v := 0) hx hb dX12_image_41 (by decide) ?_
    refine lv_istore_n (lv' := [(2, .int 0), (0, .ref h0), (1, .int p1)]) hx hb dX12_image_42 rfl hl (by decide) rfl (fun ls hl => ?_)
    refine w_loop (α := Int32 × Sg × Lg) (fun (i_15, σ_16, ρ_17) H locs ls => 0 ≤ i_15.toInt ∧ i_15.toInt ≤ 201 ∧ TS D cA L T r rz [(82, 1000), (83, 1000), (84, 1000), (85, 1000)] σ σ_16 ρ_17 H ∧ va_S (dm L s.heap.size) s.heap H locs ∧ lv_has ls 3 [(2, .int i_15), (0, .ref h0), (1, .int p1)]) (fun (i_15, σ_16, ρ_17) => (201 - i_15.toInt).toNat) ?_ ⟨0, σ_14, ρ_2⟩ ⟨(by decide), (by decide), hB, hS, lv_sub hl [0, 1, 2] rfl⟩
    rintro ⟨i_15, σ_16, ρ_17⟩ H locs ls ⟨li_15, ui_15, hB, hS, hl⟩ ih_18
    refine lv_iload_n hx hb dX12_image_43 rfl (lv_at hl 0 rfl) ?_
    refine lv_sipush (v := 201) hx hb dX12_image_44 (by decide) ?_
    refine lv_icmp_ge (tgt := 74) hx hb dX12_image_47 (by decide) (fun c_19 => ?_) (fun c_19 => ?_)
    · skip
      have uc_19 := i_ge (n := 201) (by decide) c_19
      refine lv_aload_n hx hb dX12_image_74 rfl (lv_at hl 1 rfl) ?_
      refine t_gr hx hb hts hown hK hG hB mh0 th0 fq_12_20 rfl mw_5_236 dX12_image_75 (fun b_20 hb_20 mb_20 tb_20 => ?_)
      refine lv_iconst (v := 4) hx hb dX12_image_78 (by decide) ?_
      refine t_ai hx hb hK hB mb_20 tb_20 ai_70 (fun _ => rfl) (i_in (by decide) (by decide)) dX12_image_79 (fun x_21 ex_21 lx_21 ux_21 => ?_)
      obtain rfl : x_21 = 0 := i_is (n := 0) (by decide) (by omega)
      exact W.iret (v := 0) hx hb hr (fun t ht hW => ⟨⟨0, (σ_16, ρ_17), rfl, ⟨hB.2.1, hB.2.2, (if_pos (by omega)).symm⟩, (show TP D cA L T r σ_16 ρ_17 t.heap from by rw [ht]; exact hB.1)⟩, hS.F ht⟩) hS.2.2 dX12_image_80
    · skip
      have uc_19 := i_nge (n := 201) (by decide) c_19
      refine lv_aload_n hx hb dX12_image_50 rfl (lv_at hl 1 rfl) ?_
      refine t_gr hx hb hts hown hK hG hB mh0 th0 fq_12_40 rfl mw_6_16 dX12_image_51 (fun b_22 hb_22 mb_22 tb_22 => ?_)
      refine lv_sipush (v := 201) hx hb dX12_image_54 (by decide) ?_
      refine lv_iload_n hx hb dX12_image_57 rfl (lv_at hl 2 rfl) ?_
      refine lv_imul hx hb dX12_image_58 ?_
      refine lv_topi (fun x_23 ex_23 => ?_)
      have vx_23 := b_mul (by decide : (201 : Int32).toInt = 201) (rfl : p1.toInt = _) ex_23 (by omega) (by omega)
      refine lv_iload_n hx hb dX12_image_59 rfl (lv_at hl 0 rfl) ?_
      refine lv_iadd hx hb dX12_image_60 ?_
      refine lv_topi (fun x_24 ex_24 => ?_)
      have vx_24 := b_add (rfl : x_23.toInt = _) (rfl : i_15.toInt = _) ex_24 (by omega) (by omega)
      refine lv_aload_n hx hb dX12_image_61 rfl (lv_at hl 1 rfl) ?_
      refine t_gr hx hb hts hown hK hG hB mh0 th0 fq_12_20 rfl mw_5_236 dX12_image_62 (fun b_25 hb_25 mb_25 tb_25 => ?_)
      refine lv_iload_n hx hb dX12_image_65 rfl (lv_at hl 0 rfl) ?_
      refine t_ai hx hb hK hB mb_25 tb_25 ai_70 (fun _ => rfl) (i_in (by omega) (by omega)) dX12_image_66 (fun x_26 ex_26 lx_26 ux_26 => ?_)
      obtain rfl : x_26 = 0 := i_is (n := 0) (by decide) (by omega)
      refine t_si hx hb hK hLA hB hS mb_22 tb_22 ai_82 (i_in (by omega) (by omega)) (show 0 ≤ (0 : Int32).toInt by decide) (show (0 : Int32).toInt ≤ 0 by decide) (Or.inr (by decide)) dX12_image_67 (fun H locs σ_27 eσ_27 hB hS => ?_)
      obtain ⟨x_28, ex_28⟩ : ∃ y : Int32, y = i_15 + 1 := ⟨_, rfl⟩
      have vx_28 := b_add (rfl : i_15.toInt = _) (by decide : (1 : Int32).toInt = 1) ex_28 (by omega) (by omega)
      refine lv_iinc (v := x_28) (lv' := [(2, .int x_28), (0, .ref h0), (1, .int p1)]) hx hb dX12_image_68 hl (k := 0) rfl (by rw [ex_28]; rfl) (by decide) rfl (fun ls hl => ?_)
      refine lv_goto (tgt := 43) hx hb dX12_image_71 (by decide) ?_
      exact ih_18 ⟨x_28, σ_27, ρ_17⟩ _ _ _ ⟨(by omega), (by omega), hB, hS, lv_sub hl [0, 1, 2] rfl⟩ (by show (201 - x_28.toInt).toNat < (201 - i_15.toInt).toNat; omega)
  · skip
    rw [if_neg c_4] at pσ_1
    subst pσ_1
    refine lv_if_ne (tgt := 14) hx hb dX12_image_9 (by decide) (fun c9 => absurd (by decide) c9) (fun _ => ?_)
    refine lv_iconst (v := (-1)) hx hb dX12_image_12 (by decide) ?_
    exact W.iret (v := (-1)) hx hb hr (fun t ht hW => ⟨⟨(-1), (σ_1, ρ_2), rfl, ⟨hB.2.1, hB.2.2, (if_neg (by omega)).symm⟩, (show TP D cA L T r σ_1 ρ_2 t.heap from by rw [ht]; exact hB.1)⟩, hS.F ht⟩) hS.2.2 dX12_image_13
