set_option maxHeartbeats 4000000 in
set_option maxRecDepth 100000 in
theorem cz_X9_append_0 (l : Launch) (D : va_G) (cA : Nat → ClassId) (L : List Nat) (T : Nat → Nat) (r : Rg) (hG : GR L T r) (hL : L.Nodup) (σ : Sg) (ρ : Lg) (hW : WT L rz T σ) (sz : Nat) (h0 : Nat) (mh0 : h0 ∈ L) (th0 : T h0 = 9) (p1 : Int32) (k0 : σ h0 4 = 0) : Met l yX9_append (.code yX9_append cX9_append 3 none :: wsA) ({ frames := 0, cells := 0, slots := 0, locals := 0 }) (PR D cA L T r σ ρ sz [.ref h0, .int p1]) (QV D cA L T r rz [(9, 4), (51, 1000)] σ sz (fun σ1 => σ1 h0 4 = 4)) 0 0 (dm L sz) := by
  refine Met.ofW (cc := cX9_append) (maxL := 3) (ret := none) (by decide) rfl ?_
  intro p e s m args below meth c s₁ B hml hv
  obtain ⟨rfl, hsz, hP, hK, hN⟩ := hv
  have hx := B.exec
  have hb := B.bytes
  have hr := B.returns
  have hts : ∀ w ∈ wsA, w.before _ s = true := fun w h => atoms_spec (ws := .code yX9_append cX9_append 3 none :: wsA) B.pre w (List.mem_cons_of_mem _ h)
  have hown : s.vm.findClass RX9 = some m.cls := findClass_of_methodNamed B.named
  subst hsz
  have hLA : LA (dm L s.heap.size) L := ⟨hL, fun a h => Or.inl h⟩
  have hA : ∀ q : Nat, s.heap.size ≤ q → dm L s.heap.size q := fun q h => Or.inr h
  have hS : va_S (dm L s.heap.size) s.heap s.heap [] := va_S.rf
  have hB : TS D cA L T r rz [(9, 4), (51, 1000)] σ σ ρ s.heap := ⟨hP, hW, FR.rf⟩
  have hl := lv_entry ([.ref h0, .int p1]) (n := 3) (Nat.le_of_ble_eq_true rfl)
  rw [lg_entry_eq]
  generalize (lg_sl ([.ref h0, .int p1]) ++ List.replicate (3 - (lg_sl ([.ref h0, .int p1])).length) Slot.unset).toArray = ls at hl ⊢
  have hl : lv_has ls 3 [(0, .ref h0), (1, .int p1)] := hl
  refine lv_bipush (v := 24) hx hb dX9_append_0 (by decide) ?_
  refine lv_istore_n (lv' := [(2, .int 24), (0, .ref h0), (1, .int p1)]) hx hb dX9_append_2 rfl hl (by decide) rfl (fun ls hl => ?_)
  refine lv_iload_n hx hb dX9_append_3 rfl (lv_at hl 0 rfl) ?_
  refine lv_if_lt (tgt := 49) hx hb dX9_append_4 (by decide) (fun c9 => absurd c9 (by decide)) (fun _ => ?_)
  refine lv_aload_n hx hb dX9_append_7 rfl (lv_at hl 1 rfl) ?_
  refine t_gv hx hb hts hown hK hB mh0 th0 fi_9_4 k0 mw_1_41 dX9_append_8 ?_
  refine lv_sipush (v := 400) hx hb dX9_append_11 (by decide) ?_
  refine lv_icmp_ge (tgt := 49) hx hb dX9_append_14 (by decide) (fun c9 => absurd c9 (by decide)) (fun _ => ?_)
  refine lv_aload_n hx hb dX9_append_17 rfl (lv_at hl 1 rfl) ?_
  refine t_gr hx hb hts hown hK hG hB mh0 th0 fq_9_0 rfl mw_1_36 dX9_append_18 (fun b_1 hb_1 mb_1 tb_1 => ?_)
  refine lv_aload_n hx hb dX9_append_21 rfl (lv_at hl 1 rfl) ?_
  refine t_gv hx hb hts hown hK hB mh0 th0 fi_9_4 k0 mw_1_41 dX9_append_22 ?_
  refine lv_iload_n hx hb dX9_append_25 rfl (lv_at hl 2 rfl) ?_
  refine lv_iload_n hx hb dX9_append_26 rfl (lv_at hl 0 rfl) ?_
  refine lv_iushr hx hb dX9_append_27 rfl ?_
  refine lv_topi (fun x_2 ex_2 => ?_)
  refine lv_sipush (v := 255) hx hb dX9_append_28 (by decide) ?_
  refine lv_iand hx hb dX9_append_31 ?_
  refine lv_topi (fun x_3 ex_3 => ?_)
  refine t_si hx hb hK hLA hB hS mb_1 tb_1 ai_51 (i_in (by decide) (by decide)) (i_lo _) (i_hi _) (Or.inr (by decide)) dX9_append_32 (fun H locs σ_4 eσ_4 hB hS => ?_)
  have k_5 : σ_4 b_1 0 = x_3 := by rw [eσ_4]; exact up2_same _ _ _ _
  refine lv_aload_n hx hb dX9_append_33 rfl (lv_at hl 1 rfl) ?_
  refine lv_dup hx hb dX9_append_34 rfl ?_
  have k_6 : σ_4 h0 4 = 0 := by rw [eσ_4, up2_nej _ _ (by decide)]; exact k0
  refine t_gv hx hb hts hown hK hB mh0 th0 fi_9_4 k_6 mw_1_41 dX9_append_35 ?_
  refine lv_iconst (v := 1) hx hb dX9_append_38 (by decide) ?_
  refine lv_iadd hx hb dX9_append_39 ?_
  refine tp_i (w := 1) (by decide) ?_
  refine t_pi hx hb hts hown hK hLA hB hS mh0 th0 fi_9_4 rfl rfl rfl (i_lo _) (i_hi _) (Or.inl (by decide)) mw_1_41 dX9_append_40 (fun H locs σ_7 eσ_7 hB hS => ?_)
  have k_8 : σ_7 h0 4 = 1 := by rw [eσ_7]; exact up2_same _ _ _ _
  refine lv_iinc (v := 16) (lv' := [(2, .int 16), (0, .ref h0), (1, .int p1)]) hx hb dX9_append_43 hl (k := 0) rfl (by decide) (by decide) rfl (fun ls hl => ?_)
  refine lv_goto (tgt := 3) hx hb dX9_append_46 (by decide) ?_
  refine lv_iload_n hx hb dX9_append_3 rfl (lv_at hl 0 rfl) ?_
  refine lv_if_lt (tgt := 49) hx hb dX9_append_4 (by decide) (fun c9 => absurd c9 (by decide)) (fun _ => ?_)
  refine lv_aload_n hx hb dX9_append_7 rfl (lv_at hl 1 rfl) ?_
  refine t_gv hx hb hts hown hK hB mh0 th0 fi_9_4 k_8 mw_1_41 dX9_append_8 ?_
  refine lv_sipush (v := 400) hx hb dX9_append_11 (by decide) ?_
  refine lv_icmp_ge (tgt := 49) hx hb dX9_append_14 (by decide) (fun c9 => absurd c9 (by decide)) (fun _ => ?_)
  refine lv_aload_n hx hb dX9_append_17 rfl (lv_at hl 1 rfl) ?_
  refine t_gk hx hb hts hown hK hB mh0 th0 fq_9_0 hb_1 mw_1_36 dX9_append_18 ?_
  refine lv_aload_n hx hb dX9_append_21 rfl (lv_at hl 1 rfl) ?_
  refine t_gv hx hb hts hown hK hB mh0 th0 fi_9_4 k_8 mw_1_41 dX9_append_22 ?_
  refine lv_iload_n hx hb dX9_append_25 rfl (lv_at hl 2 rfl) ?_
  refine lv_iload_n hx hb dX9_append_26 rfl (lv_at hl 0 rfl) ?_
  refine lv_iushr hx hb dX9_append_27 rfl ?_
  refine lv_topi (fun x_9 ex_9 => ?_)
  refine lv_sipush (v := 255) hx hb dX9_append_28 (by decide) ?_
  refine lv_iand hx hb dX9_append_31 ?_
  refine lv_topi (fun x_10 ex_10 => ?_)
  refine t_si hx hb hK hLA hB hS mb_1 tb_1 ai_51 (i_in (by decide) (by decide)) (i_lo _) (i_hi _) (Or.inr (by decide)) dX9_append_32 (fun H locs σ_11 eσ_11 hB hS => ?_)
  have k_12 : σ_11 b_1 1 = x_10 := by rw [eσ_11]; exact up2_same _ _ _ _
  refine lv_aload_n hx hb dX9_append_33 rfl (lv_at hl 1 rfl) ?_
  refine lv_dup hx hb dX9_append_34 rfl ?_
  have k_13 : σ_11 h0 4 = 1 := by rw [eσ_11, up2_nej _ _ (by decide)]; exact k_8
  refine t_gv hx hb hts hown hK hB mh0 th0 fi_9_4 k_13 mw_1_41 dX9_append_35 ?_
  refine lv_iconst (v := 1) hx hb dX9_append_38 (by decide) ?_
  refine lv_iadd hx hb dX9_append_39 ?_
  refine tp_i (w := 2) (by decide) ?_
  refine t_pi hx hb hts hown hK hLA hB hS mh0 th0 fi_9_4 rfl rfl rfl (i_lo _) (i_hi _) (Or.inl (by decide)) mw_1_41 dX9_append_40 (fun H locs σ_14 eσ_14 hB hS => ?_)
  have k_15 : σ_14 h0 4 = 2 := by rw [eσ_14]; exact up2_same _ _ _ _
  refine lv_iinc (v := 8) (lv' := [(2, .int 8), (0, .ref h0), (1, .int p1)]) hx hb dX9_append_43 hl (k := 0) rfl (by decide) (by decide) rfl (fun ls hl => ?_)
  refine lv_goto (tgt := 3) hx hb dX9_append_46 (by decide) ?_
  refine lv_iload_n hx hb dX9_append_3 rfl (lv_at hl 0 rfl) ?_
  refine lv_if_lt (tgt := 49) hx hb dX9_append_4 (by decide) (fun c9 => absurd c9 (by decide)) (fun _ => ?_)
  refine lv_aload_n hx hb dX9_append_7 rfl (lv_at hl 1 rfl) ?_
  refine t_gv hx hb hts hown hK hB mh0 th0 fi_9_4 k_15 mw_1_41 dX9_append_8 ?_
  refine lv_sipush (v := 400) hx hb dX9_append_11 (by decide) ?_
  refine lv_icmp_ge (tgt := 49) hx hb dX9_append_14 (by decide) (fun c9 => absurd c9 (by decide)) (fun _ => ?_)
  refine lv_aload_n hx hb dX9_append_17 rfl (lv_at hl 1 rfl) ?_
  refine t_gk hx hb hts hown hK hB mh0 th0 fq_9_0 hb_1 mw_1_36 dX9_append_18 ?_
  refine lv_aload_n hx hb dX9_append_21 rfl (lv_at hl 1 rfl) ?_
  refine t_gv hx hb hts hown hK hB mh0 th0 fi_9_4 k_15 mw_1_41 dX9_append_22 ?_
  refine lv_iload_n hx hb dX9_append_25 rfl (lv_at hl 2 rfl) ?_
  refine lv_iload_n hx hb dX9_append_26 rfl (lv_at hl 0 rfl) ?_
  refine lv_iushr hx hb dX9_append_27 rfl ?_
  refine lv_topi (fun x_16 ex_16 => ?_)
  refine lv_sipush (v := 255) hx hb dX9_append_28 (by decide) ?_
  refine lv_iand hx hb dX9_append_31 ?_
  refine lv_topi (fun x_17 ex_17 => ?_)
  refine t_si hx hb hK hLA hB hS mb_1 tb_1 ai_51 (i_in (by decide) (by decide)) (i_lo _) (i_hi _) (Or.inr (by decide)) dX9_append_32 (fun H locs σ_18 eσ_18 hB hS => ?_)
  have k_19 : σ_18 b_1 2 = x_17 := by rw [eσ_18]; exact up2_same _ _ _ _
  refine lv_aload_n hx hb dX9_append_33 rfl (lv_at hl 1 rfl) ?_
  refine lv_dup hx hb dX9_append_34 rfl ?_
  have k_20 : σ_18 h0 4 = 2 := by rw [eσ_18, up2_nej _ _ (by decide)]; exact k_15
  refine t_gv hx hb hts hown hK hB mh0 th0 fi_9_4 k_20 mw_1_41 dX9_append_35 ?_
  refine lv_iconst (v := 1) hx hb dX9_append_38 (by decide) ?_
  refine lv_iadd hx hb dX9_append_39 ?_
  refine tp_i (w := 3) (by decide) ?_
  refine t_pi hx hb hts hown hK hLA hB hS mh0 th0 fi_9_4 rfl rfl rfl (i_lo _) (i_hi _) (Or.inl (by decide)) mw_1_41 dX9_append_40 (fun H locs σ_21 eσ_21 hB hS => ?_)
  have k_22 : σ_21 h0 4 = 3 := by rw [eσ_21]; exact up2_same _ _ _ _
  refine lv_iinc (v := 0) (lv' := [(2, .int 0), (0, .ref h0), (1, .int p1)]) hx hb dX9_append_43 hl (k := 0) rfl (by decide) (by decide) rfl (fun ls hl => ?_)
  refine lv_goto (tgt := 3) hx hb dX9_append_46 (by decide) ?_
  refine lv_iload_n hx hb dX9_append_3 rfl (lv_at hl 0 rfl) ?_
  refine lv_if_lt (tgt := 49) hx hb dX9_append_4 (by decide) (fun c9 => absurd c9 (by decide)) (fun _ => ?_)
  refine lv_aload_n hx hb dX9_append_7 rfl (lv_at hl 1 rfl) ?_
  refine t_gv hx hb hts hown hK hB mh0 th0 fi_9_4 k_22 mw_1_41 dX9_append_8 ?_
  refine lv_sipush (v := 400) hx hb dX9_append_11 (by decide) ?_
  refine lv_icmp_ge (tgt := 49) hx hb dX9_append_14 (by decide) (fun c9 => absurd c9 (by decide)) (fun _ => ?_)
  refine lv_aload_n hx hb dX9_append_17 rfl (lv_at hl 1 rfl) ?_
  refine t_gk hx hb hts hown hK hB mh0 th0 fq_9_0 hb_1 mw_1_36 dX9_append_18 ?_
  refine lv_aload_n hx hb dX9_append_21 rfl (lv_at hl 1 rfl) ?_
  refine t_gv hx hb hts hown hK hB mh0 th0 fi_9_4 k_22 mw_1_41 dX9_append_22 ?_
  refine lv_iload_n hx hb dX9_append_25 rfl (lv_at hl 2 rfl) ?_
  refine lv_iload_n hx hb dX9_append_26 rfl (lv_at hl 0 rfl) ?_
  refine lv_iushr hx hb dX9_append_27 rfl ?_
  refine lv_topi (fun x_23 ex_23 => ?_)
  refine lv_sipush (v := 255) hx hb dX9_append_28 (by decide) ?_
  refine lv_iand hx hb dX9_append_31 ?_
  refine lv_topi (fun x_24 ex_24 => ?_)
  refine t_si hx hb hK hLA hB hS mb_1 tb_1 ai_51 (i_in (by decide) (by decide)) (i_lo _) (i_hi _) (Or.inr (by decide)) dX9_append_32 (fun H locs σ_25 eσ_25 hB hS => ?_)
  have k_26 : σ_25 b_1 3 = x_24 := by rw [eσ_25]; exact up2_same _ _ _ _
  refine lv_aload_n hx hb dX9_append_33 rfl (lv_at hl 1 rfl) ?_
  refine lv_dup hx hb dX9_append_34 rfl ?_
  have k_27 : σ_25 h0 4 = 3 := by rw [eσ_25, up2_nej _ _ (by decide)]; exact k_22
  refine t_gv hx hb hts hown hK hB mh0 th0 fi_9_4 k_27 mw_1_41 dX9_append_35 ?_
  refine lv_iconst (v := 1) hx hb dX9_append_38 (by decide) ?_
  refine lv_iadd hx hb dX9_append_39 ?_
  refine tp_i (w := 4) (by decide) ?_
  refine t_pi hx hb hts hown hK hLA hB hS mh0 th0 fi_9_4 rfl rfl rfl (i_lo _) (i_hi _) (Or.inl (by decide)) mw_1_41 dX9_append_40 (fun H locs σ_28 eσ_28 hB hS => ?_)
  have k_29 : σ_28 h0 4 = 4 := by rw [eσ_28]; exact up2_same _ _ _ _
  refine lv_iinc (v := (-8)) (lv' := [(2, .int (-8)), (0, .ref h0), (1, .int p1)]) hx hb dX9_append_43 hl (k := 0) rfl (by decide) (by decide) rfl (fun ls hl => ?_)
  refine lv_goto (tgt := 3) hx hb dX9_append_46 (by decide) ?_
  refine lv_iload_n hx hb dX9_append_3 rfl (lv_at hl 0 rfl) ?_
  refine lv_if_lt (tgt := 49) hx hb dX9_append_4 (by decide) (fun _ => ?_) (fun c9 => absurd (by decide) c9)
  exact W.vret hx hb hr (fun t ht hW => ⟨⟨(σ_28, ρ), rfl, ⟨hB.2.1, hB.2.2, k_29⟩, (show TP D cA L T r σ_28 ρ t.heap from by rw [ht]; exact hB.1)⟩, hS.F ht⟩) hS.2.2 dX9_append_49
set_option maxHeartbeats 4000000 in
set_option maxRecDepth 100000 in
theorem cz_X9_append_4 (l : Launch) (D : va_G) (cA : Nat → ClassId) (L : List Nat) (T : Nat → Nat) (r : Rg) (hG : GR L T r) (hL : L.Nodup) (σ : Sg) (ρ : Lg) (hW : WT L rz T σ) (sz : Nat) (h0 : Nat) (mh0 : h0 ∈ L) (th0 : T h0 = 9) (p1 : Int32) (k0 : σ h0 4 = 4) : Met l yX9_append (.code yX9_append cX9_append 3 none :: wsA) ({ frames := 0, cells := 0, slots := 0, locals := 0 }) (PR D cA L T r σ ρ sz [.ref h0, .int p1]) (QV D cA L T r rz [(9, 4), (51, 1000)] σ sz (fun σ1 => σ1 h0 4 = 8)) 0 0 (dm L sz) := by
  refine Met.ofW (cc := cX9_append) (maxL := 3) (ret := none) (by decide) rfl ?_
  intro p e s m args below meth c s₁ B hml hv
  obtain ⟨rfl, hsz, hP, hK, hN⟩ := hv
  have hx := B.exec
  have hb := B.bytes
  have hr := B.returns
  have hts : ∀ w ∈ wsA, w.before _ s = true := fun w h => atoms_spec (ws := .code yX9_append cX9_append 3 none :: wsA) B.pre w (List.mem_cons_of_mem _ h)
  have hown : s.vm.findClass RX9 = some m.cls := findClass_of_methodNamed B.named
  subst hsz
  have hLA : LA (dm L s.heap.size) L := ⟨hL, fun a h => Or.inl h⟩
  have hA : ∀ q : Nat, s.heap.size ≤ q → dm L s.heap.size q := fun q h => Or.inr h
  have hS : va_S (dm L s.heap.size) s.heap s.heap [] := va_S.rf
  have hB : TS D cA L T r rz [(9, 4), (51, 1000)] σ σ ρ s.heap := ⟨hP, hW, FR.rf⟩
  have hl := lv_entry ([.ref h0, .int p1]) (n := 3) (Nat.le_of_ble_eq_true rfl)
  rw [lg_entry_eq]
  generalize (lg_sl ([.ref h0, .int p1]) ++ List.replicate (3 - (lg_sl ([.ref h0, .int p1])).length) Slot.unset).toArray = ls at hl ⊢
  have hl : lv_has ls 3 [(0, .ref h0), (1, .int p1)] := hl
  refine lv_bipush (v := 24) hx hb dX9_append_0 (by decide) ?_
  refine lv_istore_n (lv' := [(2, .int 24), (0, .ref h0), (1, .int p1)]) hx hb dX9_append_2 rfl hl (by decide) rfl (fun ls hl => ?_)
  refine lv_iload_n hx hb dX9_append_3 rfl (lv_at hl 0 rfl) ?_
  refine lv_if_lt (tgt := 49) hx hb dX9_append_4 (by decide) (fun c9 => absurd c9 (by decide)) (fun _ => ?_)
  refine lv_aload_n hx hb dX9_append_7 rfl (lv_at hl 1 rfl) ?_
  refine t_gv hx hb hts hown hK hB mh0 th0 fi_9_4 k0 mw_1_41 dX9_append_8 ?_
  refine lv_sipush (v := 400) hx hb dX9_append_11 (by decide) ?_
  refine lv_icmp_ge (tgt := 49) hx hb dX9_append_14 (by decide) (fun c9 => absurd c9 (by decide)) (fun _ => ?_)
  refine lv_aload_n hx hb dX9_append_17 rfl (lv_at hl 1 rfl) ?_
  refine t_gr hx hb hts hown hK hG hB mh0 th0 fq_9_0 rfl mw_1_36 dX9_append_18 (fun b_1 hb_1 mb_1 tb_1 => ?_)
  refine lv_aload_n hx hb dX9_append_21 rfl (lv_at hl 1 rfl) ?_
  refine t_gv hx hb hts hown hK hB mh0 th0 fi_9_4 k0 mw_1_41 dX9_append_22 ?_
  refine lv_iload_n hx hb dX9_append_25 rfl (lv_at hl 2 rfl) ?_
  refine lv_iload_n hx hb dX9_append_26 rfl (lv_at hl 0 rfl) ?_
  refine lv_iushr hx hb dX9_append_27 rfl ?_
  refine lv_topi (fun x_2 ex_2 => ?_)
  refine lv_sipush (v := 255) hx hb dX9_append_28 (by decide) ?_
  refine lv_iand hx hb dX9_append_31 ?_
  refine lv_topi (fun x_3 ex_3 => ?_)
  refine t_si hx hb hK hLA hB hS mb_1 tb_1 ai_51 (i_in (by decide) (by decide)) (i_lo _) (i_hi _) (Or.inr (by decide)) dX9_append_32 (fun H locs σ_4 eσ_4 hB hS => ?_)
  have k_5 : σ_4 b_1 4 = x_3 := by rw [eσ_4]; exact up2_same _ _ _ _
  refine lv_aload_n hx hb dX9_append_33 rfl (lv_at hl 1 rfl) ?_
  refine lv_dup hx hb dX9_append_34 rfl ?_
  have k_6 : σ_4 h0 4 = 4 := by rw [eσ_4, up2_nea _ _ (tg_ne th0 tb_1 (by decide))]; exact k0
  refine t_gv hx hb hts hown hK hB mh0 th0 fi_9_4 k_6 mw_1_41 dX9_append_35 ?_
  refine lv_iconst (v := 1) hx hb dX9_append_38 (by decide) ?_
  refine lv_iadd hx hb dX9_append_39 ?_
  refine tp_i (w := 5) (by decide) ?_
  refine t_pi hx hb hts hown hK hLA hB hS mh0 th0 fi_9_4 rfl rfl rfl (i_lo _) (i_hi _) (Or.inl (by decide)) mw_1_41 dX9_append_40 (fun H locs σ_7 eσ_7 hB hS => ?_)
  have k_8 : σ_7 h0 4 = 5 := by rw [eσ_7]; exact up2_same _ _ _ _
  refine lv_iinc (v := 16) (lv' := [(2, .int 16), (0, .ref h0), (1, .int p1)]) hx hb dX9_append_43 hl (k := 0) rfl (by decide) (by decide) rfl (fun ls hl => ?_)
  refine lv_goto (tgt := 3) hx hb dX9_append_46 (by decide) ?_
  refine lv_iload_n hx hb dX9_append_3 rfl (lv_at hl 0 rfl) ?_
  refine lv_if_lt (tgt := 49) hx hb dX9_append_4 (by decide) (fun c9 => absurd c9 (by decide)) (fun _ => ?_)
  refine lv_aload_n hx hb dX9_append_7 rfl (lv_at hl 1 rfl) ?_
  refine t_gv hx hb hts hown hK hB mh0 th0 fi_9_4 k_8 mw_1_41 dX9_append_8 ?_
  refine lv_sipush (v := 400) hx hb dX9_append_11 (by decide) ?_
  refine lv_icmp_ge (tgt := 49) hx hb dX9_append_14 (by decide) (fun c9 => absurd c9 (by decide)) (fun _ => ?_)
  refine lv_aload_n hx hb dX9_append_17 rfl (lv_at hl 1 rfl) ?_
  refine t_gk hx hb hts hown hK hB mh0 th0 fq_9_0 hb_1 mw_1_36 dX9_append_18 ?_
  refine lv_aload_n hx hb dX9_append_21 rfl (lv_at hl 1 rfl) ?_
  refine t_gv hx hb hts hown hK hB mh0 th0 fi_9_4 k_8 mw_1_41 dX9_append_22 ?_
  refine lv_iload_n hx hb dX9_append_25 rfl (lv_at hl 2 rfl) ?_
  refine lv_iload_n hx hb dX9_append_26 rfl (lv_at hl 0 rfl) ?_
  refine lv_iushr hx hb dX9_append_27 rfl ?_
  refine lv_topi (fun x_9 ex_9 => ?_)
  refine lv_sipush (v := 255) hx hb dX9_append_28 (by decide) ?_
  refine lv_iand hx hb dX9_append_31 ?_
  refine lv_topi (fun x_10 ex_10 => ?_)
  refine t_si hx hb hK hLA hB hS mb_1 tb_1 ai_51 (i_in (by decide) (by decide)) (i_lo _) (i_hi _) (Or.inr (by decide)) dX9_append_32 (fun H locs σ_11 eσ_11 hB hS => ?_)
  have k_12 : σ_11 b_1 5 = x_10 := by rw [eσ_11]; exact up2_same _ _ _ _
  refine lv_aload_n hx hb dX9_append_33 rfl (lv_at hl 1 rfl) ?_
  refine lv_dup hx hb dX9_append_34 rfl ?_
  have k_13 : σ_11 h0 4 = 5 := by rw [eσ_11, up2_nej _ _ (by decide)]; exact k_8
  refine t_gv hx hb hts hown hK hB mh0 th0 fi_9_4 k_13 mw_1_41 dX9_append_35 ?_
  refine lv_iconst (v := 1) hx hb dX9_append_38 (by decide) ?_
  refine lv_iadd hx hb dX9_append_39 ?_
  refine tp_i (w := 6) (by decide) ?_
  refine t_pi hx hb hts hown hK hLA hB hS mh0 th0 fi_9_4 rfl rfl rfl (i_lo _) (i_hi _) (Or.inl (by decide)) mw_1_41 dX9_append_40 (fun H locs σ_14 eσ_14 hB hS => ?_)
  have k_15 : σ_14 h0 4 = 6 := by rw [eσ_14]; exact up2_same _ _ _ _
  refine lv_iinc (v := 8) (lv' := [(2, .int 8), (0, .ref h0), (1, .int p1)]) hx hb dX9_append_43 hl (k := 0) rfl (by decide) (by decide) rfl (fun ls hl => ?_)
  refine lv_goto (tgt := 3) hx hb dX9_append_46 (by decide) ?_
  refine lv_iload_n hx hb dX9_append_3 rfl (lv_at hl 0 rfl) ?_
  refine lv_if_lt (tgt := 49) hx hb dX9_append_4 (by decide) (fun c9 => absurd c9 (by decide)) (fun _ => ?_)
  refine lv_aload_n hx hb dX9_append_7 rfl (lv_at hl 1 rfl) ?_
  refine t_gv hx hb hts hown hK hB mh0 th0 fi_9_4 k_15 mw_1_41 dX9_append_8 ?_
  refine lv_sipush (v := 400) hx hb dX9_append_11 (by decide) ?_
  refine lv_icmp_ge (tgt := 49) hx hb dX9_append_14 (by decide) (fun c9 => absurd c9 (by decide)) (fun _ => ?_)
  refine lv_aload_n hx hb dX9_append_17 rfl (lv_at hl 1 rfl) ?_
  refine t_gk hx hb hts hown hK hB mh0 th0 fq_9_0 hb_1 mw_1_36 dX9_append_18 ?_
  refine lv_aload_n hx hb dX9_append_21 rfl (lv_at hl 1 rfl) ?_
  refine t_gv hx hb hts hown hK hB mh0 th0 fi_9_4 k_15 mw_1_41 dX9_append_22 ?_
  refine lv_iload_n hx hb dX9_append_25 rfl (lv_at hl 2 rfl) ?_
  refine lv_iload_n hx hb dX9_append_26 rfl (lv_at hl 0 rfl) ?_
  refine lv_iushr hx hb dX9_append_27 rfl ?_
  refine lv_topi (fun x_16 ex_16 => ?_)
  refine lv_sipush (v := 255) hx hb dX9_append_28 (by decide) ?_
  refine lv_iand hx hb dX9_append_31 ?_
  refine lv_topi (fun x_17 ex_17 => ?_)
  refine t_si hx hb hK hLA hB hS mb_1 tb_1 ai_51 (i_in (by decide) (by decide)) (i_lo _) (i_hi _) (Or.inr (by decide)) dX9_append_32 (fun H locs σ_18 eσ_18 hB hS => ?_)
  have k_19 : σ_18 b_1 6 = x_17 := by rw [eσ_18]; exact up2_same _ _ _ _
  refine lv_aload_n hx hb dX9_append_33 rfl (lv_at hl 1 rfl) ?_
  refine lv_dup hx hb dX9_append_34 rfl ?_
  have k_20 : σ_18 h0 4 = 6 := by rw [eσ_18, up2_nej _ _ (by decide)]; exact k_15
  refine t_gv hx hb hts hown hK hB mh0 th0 fi_9_4 k_20 mw_1_41 dX9_append_35 ?_
  refine lv_iconst (v := 1) hx hb dX9_append_38 (by decide) ?_
  refine lv_iadd hx hb dX9_append_39 ?_
  refine tp_i (w := 7) (by decide) ?_
  refine t_pi hx hb hts hown hK hLA hB hS mh0 th0 fi_9_4 rfl rfl rfl (i_lo _) (i_hi _) (Or.inl (by decide)) mw_1_41 dX9_append_40 (fun H locs σ_21 eσ_21 hB hS => ?_)
  have k_22 : σ_21 h0 4 = 7 := by rw [eσ_21]; exact up2_same _ _ _ _
  refine lv_iinc (v := 0) (lv' := [(2, .int 0), (0, .ref h0), (1, .int p1)]) hx hb dX9_append_43 hl (k := 0) rfl (by decide) (by decide) rfl (fun ls hl => ?_)
  refine lv_goto (tgt := 3) hx hb dX9_append_46 (by decide) ?_
  refine lv_iload_n hx hb dX9_append_3 rfl (lv_at hl 0 rfl) ?_
  refine lv_if_lt (tgt := 49) hx hb dX9_append_4 (by decide) (fun c9 => absurd c9 (by decide)) (fun _ => ?_)
  refine lv_aload_n hx hb dX9_append_7 rfl (lv_at hl 1 rfl) ?_
  refine t_gv hx hb hts hown hK hB mh0 th0 fi_9_4 k_22 mw_1_41 dX9_append_8 ?_
  refine lv_sipush (v := 400) hx hb dX9_append_11 (by decide) ?_
  refine lv_icmp_ge (tgt := 49) hx hb dX9_append_14 (by decide) (fun c9 => absurd c9 (by decide)) (fun _ => ?_)
  refine lv_aload_n hx hb dX9_append_17 rfl (lv_at hl 1 rfl) ?_
  refine t_gk hx hb hts hown hK hB mh0 th0 fq_9_0 hb_1 mw_1_36 dX9_append_18 ?_
  refine lv_aload_n hx hb dX9_append_21 rfl (lv_at hl 1 rfl) ?_
  refine t_gv hx hb hts hown hK hB mh0 th0 fi_9_4 k_22 mw_1_41 dX9_append_22 ?_
  refine lv_iload_n hx hb dX9_append_25 rfl (lv_at hl 2 rfl) ?_
  refine lv_iload_n hx hb dX9_append_26 rfl (lv_at hl 0 rfl) ?_
  refine lv_iushr hx hb dX9_append_27 rfl ?_
  refine lv_topi (fun x_23 ex_23 => ?_)
  refine lv_sipush (v := 255) hx hb dX9_append_28 (by decide) ?_
  refine lv_iand hx hb dX9_append_31 ?_
  refine lv_topi (fun x_24 ex_24 => ?_)
  refine t_si hx hb hK hLA hB hS mb_1 tb_1 ai_51 (i_in (by decide) (by decide)) (i_lo _) (i_hi _) (Or.inr (by decide)) dX9_append_32 (fun H locs σ_25 eσ_25 hB hS => ?_)
  have k_26 : σ_25 b_1 7 = x_24 := by rw [eσ_25]; exact up2_same _ _ _ _
  refine lv_aload_n hx hb dX9_append_33 rfl (lv_at hl 1 rfl) ?_
  refine lv_dup hx hb dX9_append_34 rfl ?_
  have k_27 : σ_25 h0 4 = 7 := by rw [eσ_25, up2_nej _ _ (by decide)]; exact k_22
  refine t_gv hx hb hts hown hK hB mh0 th0 fi_9_4 k_27 mw_1_41 dX9_append_35 ?_
  refine lv_iconst (v := 1) hx hb dX9_append_38 (by decide) ?_
  refine lv_iadd hx hb dX9_append_39 ?_
  refine tp_i (w := 8) (by decide) ?_
  refine t_pi hx hb hts hown hK hLA hB hS mh0 th0 fi_9_4 rfl rfl rfl (i_lo _) (i_hi _) (Or.inl (by decide)) mw_1_41 dX9_append_40 (fun H locs σ_28 eσ_28 hB hS => ?_)
  have k_29 : σ_28 h0 4 = 8 := by rw [eσ_28]; exact up2_same _ _ _ _
  refine lv_iinc (v := (-8)) (lv' := [(2, .int (-8)), (0, .ref h0), (1, .int p1)]) hx hb dX9_append_43 hl (k := 0) rfl (by decide) (by decide) rfl (fun ls hl => ?_)
  refine lv_goto (tgt := 3) hx hb dX9_append_46 (by decide) ?_
  refine lv_iload_n hx hb dX9_append_3 rfl (lv_at hl 0 rfl) ?_
  refine lv_if_lt (tgt := 49) hx hb dX9_append_4 (by decide) (fun _ => ?_) (fun c9 => absurd (by decide) c9)
  exact W.vret hx hb hr (fun t ht hW => ⟨⟨(σ_28, ρ), rfl, ⟨hB.2.1, hB.2.2, k_29⟩, (show TP D cA L T r σ_28 ρ t.heap from by rw [ht]; exact hB.1)⟩, hS.F ht⟩) hS.2.2 dX9_append_49
set_option maxHeartbeats 4000000 in
set_option maxRecDepth 100000 in
theorem cz_X9_append_8 (l : Launch) (D : va_G) (cA : Nat → ClassId) (L : List Nat) (T : Nat → Nat) (r : Rg) (hG : GR L T r) (hL : L.Nodup) (σ : Sg) (ρ : Lg) (hW : WT L rz T σ) (sz : Nat) (h0 : Nat) (mh0 : h0 ∈ L) (th0 : T h0 = 9) (p1 : Int32) (k0 : σ h0 4 = 8) : Met l yX9_append (.code yX9_append cX9_append 3 none :: wsA) ({ frames := 0, cells := 0, slots := 0, locals := 0 }) (PR D cA L T r σ ρ sz [.ref h0, .int p1]) (QV D cA L T r rz [(9, 4), (51, 1000)] σ sz (fun σ1 => σ1 h0 4 = 12)) 0 0 (dm L sz) := by
  refine Met.ofW (cc := cX9_append) (maxL := 3) (ret := none) (by decide) rfl ?_
  intro p e s m args below meth c s₁ B hml hv
  obtain ⟨rfl, hsz, hP, hK, hN⟩ := hv
  have hx := B.exec
  have hb := B.bytes
  have hr := B.returns
  have hts : ∀ w ∈ wsA, w.before _ s = true := fun w h => atoms_spec (ws := .code yX9_append cX9_append 3 none :: wsA) B.pre w (List.mem_cons_of_mem _ h)
  have hown : s.vm.findClass RX9 = some m.cls := findClass_of_methodNamed B.named
  subst hsz
  have hLA : LA (dm L s.heap.size) L := ⟨hL, fun a h => Or.inl h⟩
  have hA : ∀ q : Nat, s.heap.size ≤ q → dm L s.heap.size q := fun q h => Or.inr h
  have hS : va_S (dm L s.heap.size) s.heap s.heap [] := va_S.rf
  have hB : TS D cA L T r rz [(9, 4), (51, 1000)] σ σ ρ s.heap := ⟨hP, hW, FR.rf⟩
  have hl := lv_entry ([.ref h0, .int p1]) (n := 3) (Nat.le_of_ble_eq_true rfl)
  rw [lg_entry_eq]
  generalize (lg_sl ([.ref h0, .int p1]) ++ List.replicate (3 - (lg_sl ([.ref h0, .int p1])).length) Slot.unset).toArray = ls at hl ⊢
  have hl : lv_has ls 3 [(0, .ref h0), (1, .int p1)] := hl
  refine lv_bipush (v := 24) hx hb dX9_append_0 (by decide) ?_
  refine lv_istore_n (lv' := [(2, .int 24), (0, .ref h0), (1, .int p1)]) hx hb dX9_append_2 rfl hl (by decide) rfl (fun ls hl => ?_)
  refine lv_iload_n hx hb dX9_append_3 rfl (lv_at hl 0 rfl) ?_
  refine lv_if_lt (tgt := 49) hx hb dX9_append_4 (by decide) (fun c9 => absurd c9 (by decide)) (fun _ => ?_)
  refine lv_aload_n hx hb dX9_append_7 rfl (lv_at hl 1 rfl) ?_
  refine t_gv hx hb hts hown hK hB mh0 th0 fi_9_4 k0 mw_1_41 dX9_append_8 ?_
  refine lv_sipush (v := 400) hx hb dX9_append_11 (by decide) ?_
  refine lv_icmp_ge (tgt := 49) hx hb dX9_append_14 (by decide) (fun c9 => absurd c9 (by decide)) (fun _ => ?_)
  refine lv_aload_n hx hb dX9_append_17 rfl (lv_at hl 1 rfl) ?_
  refine t_gr hx hb hts hown hK hG hB mh0 th0 fq_9_0 rfl mw_1_36 dX9_append_18 (fun b_1 hb_1 mb_1 tb_1 => ?_)
  refine lv_aload_n hx hb dX9_append_21 rfl (lv_at hl 1 rfl) ?_
  refine t_gv hx hb hts hown hK hB mh0 th0 fi_9_4 k0 mw_1_41 dX9_append_22 ?_
  refine lv_iload_n hx hb dX9_append_25 rfl (lv_at hl 2 rfl) ?_
  refine lv_iload_n hx hb dX9_append_26 rfl (lv_at hl 0 rfl) ?_
  refine lv_iushr hx hb dX9_append_27 rfl ?_
  refine lv_topi (fun x_2 ex_2 => ?_)
  refine lv_sipush (v := 255) hx hb dX9_append_28 (by decide) ?_
  refine lv_iand hx hb dX9_append_31 ?_
  refine lv_topi (fun x_3 ex_3 => ?_)
  refine t_si hx hb hK hLA hB hS mb_1 tb_1 ai_51 (i_in (by decide) (by decide)) (i_lo _) (i_hi _) (Or.inr (by decide)) dX9_append_32 (fun H locs σ_4 eσ_4 hB hS => ?_)
  have k_5 : σ_4 b_1 8 = x_3 := by rw [eσ_4]; exact up2_same _ _ _ _
  refine lv_aload_n hx hb dX9_append_33 rfl (lv_at hl 1 rfl) ?_
  refine lv_dup hx hb dX9_append_34 rfl ?_
  have k_6 : σ_4 h0 4 = 8 := by rw [eσ_4, up2_nej _ _ (by decide)]; exact k0
  refine t_gv hx hb hts hown hK hB mh0 th0 fi_9_4 k_6 mw_1_41 dX9_append_35 ?_
  refine lv_iconst (v := 1) hx hb dX9_append_38 (by decide) ?_
  refine lv_iadd hx hb dX9_append_39 ?_
  refine tp_i (w := 9) (by decide) ?_
  refine t_pi hx hb hts hown hK hLA hB hS mh0 th0 fi_9_4 rfl rfl rfl (i_lo _) (i_hi _) (Or.inl (by decide)) mw_1_41 dX9_append_40 (fun H locs σ_7 eσ_7 hB hS => ?_)
  have k_8 : σ_7 h0 4 = 9 := by rw [eσ_7]; exact up2_same _ _ _ _
  refine lv_iinc (v := 16) (lv' := [(2, .int 16), (0, .ref h0), (1, .int p1)]) hx hb dX9_append_43 hl (k := 0) rfl (by decide) (by decide) rfl (fun ls hl => ?_)
  refine lv_goto (tgt := 3) hx hb dX9_append_46 (by decide) ?_
  refine lv_iload_n hx hb dX9_append_3 rfl (lv_at hl 0 rfl) ?_
  refine lv_if_lt (tgt := 49) hx hb dX9_append_4 (by decide) (fun c9 => absurd c9 (by decide)) (fun _ => ?_)
  refine lv_aload_n hx hb dX9_append_7 rfl (lv_at hl 1 rfl) ?_
  refine t_gv hx hb hts hown hK hB mh0 th0 fi_9_4 k_8 mw_1_41 dX9_append_8 ?_
  refine lv_sipush (v := 400) hx hb dX9_append_11 (by decide) ?_
  refine lv_icmp_ge (tgt := 49) hx hb dX9_append_14 (by decide) (fun c9 => absurd c9 (by decide)) (fun _ => ?_)
  refine lv_aload_n hx hb dX9_append_17 rfl (lv_at hl 1 rfl) ?_
  refine t_gk hx hb hts hown hK hB mh0 th0 fq_9_0 hb_1 mw_1_36 dX9_append_18 ?_
  refine lv_aload_n hx hb dX9_append_21 rfl (lv_at hl 1 rfl) ?_
  refine t_gv hx hb hts hown hK hB mh0 th0 fi_9_4 k_8 mw_1_41 dX9_append_22 ?_
  refine lv_iload_n hx hb dX9_append_25 rfl (lv_at hl 2 rfl) ?_
  refine lv_iload_n hx hb dX9_append_26 rfl (lv_at hl 0 rfl) ?_
  refine lv_iushr hx hb dX9_append_27 rfl ?_
  refine lv_topi (fun x_9 ex_9 => ?_)
  refine lv_sipush (v := 255) hx hb dX9_append_28 (by decide) ?_
  refine lv_iand hx hb dX9_append_31 ?_
  refine lv_topi (fun x_10 ex_10 => ?_)
  refine t_si hx hb hK hLA hB hS mb_1 tb_1 ai_51 (i_in (by decide) (by decide)) (i_lo _) (i_hi _) (Or.inr (by decide)) dX9_append_32 (fun H locs σ_11 eσ_11 hB hS => ?_)
  have k_12 : σ_11 b_1 9 = x_10 := by rw [eσ_11]; exact up2_same _ _ _ _
  refine lv_aload_n hx hb dX9_append_33 rfl (lv_at hl 1 rfl) ?_
  refine lv_dup hx hb dX9_append_34 rfl ?_
  have k_13 : σ_11 h0 4 = 9 := by rw [eσ_11, up2_nej _ _ (by decide)]; exact k_8
  refine t_gv hx hb hts hown hK hB mh0 th0 fi_9_4 k_13 mw_1_41 dX9_append_35 ?_
  refine lv_iconst (v := 1) hx hb dX9_append_38 (by decide) ?_
  refine lv_iadd hx hb dX9_append_39 ?_
  refine tp_i (w := 10) (by decide) ?_
  refine t_pi hx hb hts hown hK hLA hB hS mh0 th0 fi_9_4 rfl rfl rfl (i_lo _) (i_hi _) (Or.inl (by decide)) mw_1_41 dX9_append_40 (fun H locs σ_14 eσ_14 hB hS => ?_)
  have k_15 : σ_14 h0 4 = 10 := by rw [eσ_14]; exact up2_same _ _ _ _
  refine lv_iinc (v := 8) (lv' := [(2, .int 8), (0, .ref h0), (1, .int p1)]) hx hb dX9_append_43 hl (k := 0) rfl (by decide) (by decide) rfl (fun ls hl => ?_)
  refine lv_goto (tgt := 3) hx hb dX9_append_46 (by decide) ?_
  refine lv_iload_n hx hb dX9_append_3 rfl (lv_at hl 0 rfl) ?_
  refine lv_if_lt (tgt := 49) hx hb dX9_append_4 (by decide) (fun c9 => absurd c9 (by decide)) (fun _ => ?_)
  refine lv_aload_n hx hb dX9_append_7 rfl (lv_at hl 1 rfl) ?_
  refine t_gv hx hb hts hown hK hB mh0 th0 fi_9_4 k_15 mw_1_41 dX9_append_8 ?_
  refine lv_sipush (v := 400) hx hb dX9_append_11 (by decide) ?_
  refine lv_icmp_ge (tgt := 49) hx hb dX9_append_14 (by decide) (fun c9 => absurd c9 (by decide)) (fun _ => ?_)
  refine lv_aload_n hx hb dX9_append_17 rfl (lv_at hl 1 rfl) ?_
  refine t_gk hx hb hts hown hK hB mh0 th0 fq_9_0 hb_1 mw_1_36 dX9_append_18 ?_
  refine lv_aload_n hx hb dX9_append_21 rfl (lv_at hl 1 rfl) ?_
  refine t_gv hx hb hts hown hK hB mh0 th0 fi_9_4 k_15 mw_1_41 dX9_append_22 ?_
  refine lv_iload_n hx hb dX9_append_25 rfl (lv_at hl 2 rfl) ?_
  refine lv_iload_n hx hb dX9_append_26 rfl (lv_at hl 0 rfl) ?_
  refine lv_iushr hx hb dX9_append_27 rfl ?_
  refine lv_topi (fun x_16 ex_16 => ?_)
  refine lv_sipush (v := 255) hx hb dX9_append_28 (by decide) ?_
  refine lv_iand hx hb dX9_append_31 ?_
  refine lv_topi (fun x_17 ex_17 => ?_)
  refine t_si hx hb hK hLA hB hS mb_1 tb_1 ai_51 (i_in (by decide) (by decide)) (i_lo _) (i_hi _) (Or.inr (by decide)) dX9_append_32 (fun H locs σ_18 eσ_18 hB hS => ?_)
  have k_19 : σ_18 b_1 10 = x_17 := by rw [eσ_18]; exact up2_same _ _ _ _
  refine lv_aload_n hx hb dX9_append_33 rfl (lv_at hl 1 rfl) ?_
  refine lv_dup hx hb dX9_append_34 rfl ?_
  have k_20 : σ_18 h0 4 = 10 := by rw [eσ_18, up2_nej _ _ (by decide)]; exact k_15
  refine t_gv hx hb hts hown hK hB mh0 th0 fi_9_4 k_20 mw_1_41 dX9_append_35 ?_
  refine lv_iconst (v := 1) hx hb dX9_append_38 (by decide) ?_
  refine lv_iadd hx hb dX9_append_39 ?_
  refine tp_i (w := 11) (by decide) ?_
  refine t_pi hx hb hts hown hK hLA hB hS mh0 th0 fi_9_4 rfl rfl rfl (i_lo _) (i_hi _) (Or.inl (by decide)) mw_1_41 dX9_append_40 (fun H locs σ_21 eσ_21 hB hS => ?_)
  have k_22 : σ_21 h0 4 = 11 := by rw [eσ_21]; exact up2_same _ _ _ _
  refine lv_iinc (v := 0) (lv' := [(2, .int 0), (0, .ref h0), (1, .int p1)]) hx hb dX9_append_43 hl (k := 0) rfl (by decide) (by decide) rfl (fun ls hl => ?_)
  refine lv_goto (tgt := 3) hx hb dX9_append_46 (by decide) ?_
  refine lv_iload_n hx hb dX9_append_3 rfl (lv_at hl 0 rfl) ?_
  refine lv_if_lt (tgt := 49) hx hb dX9_append_4 (by decide) (fun c9 => absurd c9 (by decide)) (fun _ => ?_)
  refine lv_aload_n hx hb dX9_append_7 rfl (lv_at hl 1 rfl) ?_
  refine t_gv hx hb hts hown hK hB mh0 th0 fi_9_4 k_22 mw_1_41 dX9_append_8 ?_
  refine lv_sipush (v := 400) hx hb dX9_append_11 (by decide) ?_
  refine lv_icmp_ge (tgt := 49) hx hb dX9_append_14 (by decide) (fun c9 => absurd c9 (by decide)) (fun _ => ?_)
  refine lv_aload_n hx hb dX9_append_17 rfl (lv_at hl 1 rfl) ?_
  refine t_gk hx hb hts hown hK hB mh0 th0 fq_9_0 hb_1 mw_1_36 dX9_append_18 ?_
  refine lv_aload_n hx hb dX9_append_21 rfl (lv_at hl 1 rfl) ?_
  refine t_gv hx hb hts hown hK hB mh0 th0 fi_9_4 k_22 mw_1_41 dX9_append_22 ?_
  refine lv_iload_n hx hb dX9_append_25 rfl (lv_at hl 2 rfl) ?_
  refine lv_iload_n hx hb dX9_append_26 rfl (lv_at hl 0 rfl) ?_
  refine lv_iushr hx hb dX9_append_27 rfl ?_
  refine lv_topi (fun x_23 ex_23 => ?_)
  refine lv_sipush (v := 255) hx hb dX9_append_28 (by decide) ?_
  refine lv_iand hx hb dX9_append_31 ?_
  refine lv_topi (fun x_24 ex_24 => ?_)
  refine t_si hx hb hK hLA hB hS mb_1 tb_1 ai_51 (i_in (by decide) (by decide)) (i_lo _) (i_hi _) (Or.inr (by decide)) dX9_append_32 (fun H locs σ_25 eσ_25 hB hS => ?_)
  have k_26 : σ_25 b_1 11 = x_24 := by rw [eσ_25]; exact up2_same _ _ _ _
  refine lv_aload_n hx hb dX9_append_33 rfl (lv_at hl 1 rfl) ?_
  refine lv_dup hx hb dX9_append_34 rfl ?_
  have k_27 : σ_25 h0 4 = 11 := by rw [eσ_25, up2_nej _ _ (by decide)]; exact k_22
  refine t_gv hx hb hts hown hK hB mh0 th0 fi_9_4 k_27 mw_1_41 dX9_append_35 ?_
  refine lv_iconst (v := 1) hx hb dX9_append_38 (by decide) ?_
  refine lv_iadd hx hb dX9_append_39 ?_
  refine tp_i (w := 12) (by decide) ?_
  refine t_pi hx hb hts hown hK hLA hB hS mh0 th0 fi_9_4 rfl rfl rfl (i_lo _) (i_hi _) (Or.inl (by decide)) mw_1_41 dX9_append_40 (fun H locs σ_28 eσ_28 hB hS => ?_)
  have k_29 : σ_28 h0 4 = 12 := by rw [eσ_28]; exact up2_same _ _ _ _
  refine lv_iinc (v := (-8)) (lv' := [(2, .int (-8)), (0, .ref h0), (1, .int p1)]) hx hb dX9_append_43 hl (k := 0) rfl (by decide) (by decide) rfl (fun ls hl => ?_)
  refine lv_goto (tgt := 3) hx hb dX9_append_46 (by decide) ?_
  refine lv_iload_n hx hb dX9_append_3 rfl (lv_at hl 0 rfl) ?_
  refine lv_if_lt (tgt := 49) hx hb dX9_append_4 (by decide) (fun _ => ?_) (fun c9 => absurd (by decide) c9)
  exact W.vret hx hb hr (fun t ht hW => ⟨⟨(σ_28, ρ), rfl, ⟨hB.2.1, hB.2.2, k_29⟩, (show TP D cA L T r σ_28 ρ t.heap from by rw [ht]; exact hB.1)⟩, hS.F ht⟩) hS.2.2 dX9_append_49
set_option maxHeartbeats 4000000 in
set_option maxRecDepth 100000 in
theorem cz_X9_append_12 (l : Launch) (D : va_G) (cA : Nat → ClassId) (L : List Nat) (T : Nat → Nat) (r : Rg) (hG : GR L T r) (hL : L.Nodup) (σ : Sg) (ρ : Lg) (hW : WT L rz T σ) (sz : Nat) (h0 : Nat) (mh0 : h0 ∈ L) (th0 : T h0 = 9) (p1 : Int32) (k0 : σ h0 4 = 12) : Met l yX9_append (.code yX9_append cX9_append 3 none :: wsA) ({ frames := 0, cells := 0, slots := 0, locals := 0 }) (PR D cA L T r σ ρ sz [.ref h0, .int p1]) (QV D cA L T r rz [(9, 4), (51, 1000)] σ sz (fun σ1 => σ1 h0 4 = 16)) 0 0 (dm L sz) := by
  refine Met.ofW (cc := cX9_append) (maxL := 3) (ret := none) (by decide) rfl ?_
  intro p e s m args below meth c s₁ B hml hv
  obtain ⟨rfl, hsz, hP, hK, hN⟩ := hv
  have hx := B.exec
  have hb := B.bytes
  have hr := B.returns
  have hts : ∀ w ∈ wsA, w.before _ s = true := fun w h => atoms_spec (ws := .code yX9_append cX9_append 3 none :: wsA) B.pre w (List.mem_cons_of_mem _ h)
  have hown : s.vm.findClass RX9 = some m.cls := findClass_of_methodNamed B.named
  subst hsz
  have hLA : LA (dm L s.heap.size) L := ⟨hL, fun a h => Or.inl h⟩
  have hA : ∀ q : Nat, s.heap.size ≤ q → dm L s.heap.size q := fun q h => Or.inr h
  have hS : va_S (dm L s.heap.size) s.heap s.heap [] := va_S.rf
  have hB : TS D cA L T r rz [(9, 4), (51, 1000)] σ σ ρ s.heap := ⟨hP, hW, FR.rf⟩
  have hl := lv_entry ([.ref h0, .int p1]) (n := 3) (Nat.le_of_ble_eq_true rfl)
  rw [lg_entry_eq]
  generalize (lg_sl ([.ref h0, .int p1]) ++ List.replicate (3 - (lg_sl ([.ref h0, .int p1])).length) Slot.unset).toArray = ls at hl ⊢
  have hl : lv_has ls 3 [(0, .ref h0), (1, .int p1)] := hl
  refine lv_bipush (v := 24) hx hb dX9_append_0 (by decide) ?_
  refine lv_istore_n (lv' := [(2, .int 24), (0, .ref h0), (1, .int p1)]) hx hb dX9_append_2 rfl hl (by decide) rfl (fun ls hl => ?_)
  refine lv_iload_n hx hb dX9_append_3 rfl (lv_at hl 0 rfl) ?_
  refine lv_if_lt (tgt := 49) hx hb dX9_append_4 (by decide) (fun c9 => absurd c9 (by decide)) (fun _ => ?_)
  refine lv_aload_n hx hb dX9_append_7 rfl (lv_at hl 1 rfl) ?_
  refine t_gv hx hb hts hown hK hB mh0 th0 fi_9_4 k0 mw_1_41 dX9_append_8 ?_
  refine lv_sipush (v := 400) hx hb dX9_append_11 (by decide) ?_
  refine lv_icmp_ge (tgt := 49) hx hb dX9_append_14 (by decide) (fun c9 => absurd c9 (by decide)) (fun _ => ?_)
  refine lv_aload_n hx hb dX9_append_17 rfl (lv_at hl 1 rfl) ?_
  refine t_gr hx hb hts hown hK hG hB mh0 th0 fq_9_0 rfl mw_1_36 dX9_append_18 (fun b_1 hb_1 mb_1 tb_1 => ?_)
  refine lv_aload_n hx hb dX9_append_21 rfl (lv_at hl 1 rfl) ?_
  refine t_gv hx hb hts hown hK hB mh0 th0 fi_9_4 k0 mw_1_41 dX9_append_22 ?_
  refine lv_iload_n hx hb dX9_append_25 rfl (lv_at hl 2 rfl) ?_
  refine lv_iload_n hx hb dX9_append_26 rfl (lv_at hl 0 rfl) ?_
  refine lv_iushr hx hb dX9_append_27 rfl ?_
  refine lv_topi (fun x_2 ex_2 => ?_)
  refine lv_sipush (v := 255) hx hb dX9_append_28 (by decide) ?_
  refine lv_iand hx hb dX9_append_31 ?_
  refine lv_topi (fun x_3 ex_3 => ?_)
  refine t_si hx hb hK hLA hB hS mb_1 tb_1 ai_51 (i_in (by decide) (by decide)) (i_lo _) (i_hi _) (Or.inr (by decide)) dX9_append_32 (fun H locs σ_4 eσ_4 hB hS => ?_)
  have k_5 : σ_4 b_1 12 = x_3 := by rw [eσ_4]; exact up2_same _ _ _ _
  refine lv_aload_n hx hb dX9_append_33 rfl (lv_at hl 1 rfl) ?_
  refine lv_dup hx hb dX9_append_34 rfl ?_
  have k_6 : σ_4 h0 4 = 12 := by rw [eσ_4, up2_nej _ _ (by decide)]; exact k0
  refine t_gv hx hb hts hown hK hB mh0 th0 fi_9_4 k_6 mw_1_41 dX9_append_35 ?_
  refine lv_iconst (v := 1) hx hb dX9_append_38 (by decide) ?_
  refine lv_iadd hx hb dX9_append_39 ?_
  refine tp_i (w := 13) (by decide) ?_
  refine t_pi hx hb hts hown hK hLA hB hS mh0 th0 fi_9_4 rfl rfl rfl (i_lo _) (i_hi _) (Or.inl (by decide)) mw_1_41 dX9_append_40 (fun H locs σ_7 eσ_7 hB hS => ?_)
  have k_8 : σ_7 h0 4 = 13 := by rw [eσ_7]; exact up2_same _ _ _ _
  refine lv_iinc (v := 16) (lv' := [(2, .int 16), (0, .ref h0), (1, .int p1)]) hx hb dX9_append_43 hl (k := 0) rfl (by decide) (by decide) rfl (fun ls hl => ?_)
  refine lv_goto (tgt := 3) hx hb dX9_append_46 (by decide) ?_
  refine lv_iload_n hx hb dX9_append_3 rfl (lv_at hl 0 rfl) ?_
  refine lv_if_lt (tgt := 49) hx hb dX9_append_4 (by decide) (fun c9 => absurd c9 (by decide)) (fun _ => ?_)
  refine lv_aload_n hx hb dX9_append_7 rfl (lv_at hl 1 rfl) ?_
  refine t_gv hx hb hts hown hK hB mh0 th0 fi_9_4 k_8 mw_1_41 dX9_append_8 ?_
  refine lv_sipush (v := 400) hx hb dX9_append_11 (by decide) ?_
  refine lv_icmp_ge (tgt := 49) hx hb dX9_append_14 (by decide) (fun c9 => absurd c9 (by decide)) (fun _ => ?_)
  refine lv_aload_n hx hb dX9_append_17 rfl (lv_at hl 1 rfl) ?_
  refine t_gk hx hb hts hown hK hB mh0 th0 fq_9_0 hb_1 mw_1_36 dX9_append_18 ?_
  refine lv_aload_n hx hb dX9_append_21 rfl (lv_at hl 1 rfl) ?_
  refine t_gv hx hb hts hown hK hB mh0 th0 fi_9_4 k_8 mw_1_41 dX9_append_22 ?_
  refine lv_iload_n hx hb dX9_append_25 rfl (lv_at hl 2 rfl) ?_
  refine lv_iload_n hx hb dX9_append_26 rfl (lv_at hl 0 rfl) ?_
  refine lv_iushr hx hb dX9_append_27 rfl ?_
  refine lv_topi (fun x_9 ex_9 => ?_)
  refine lv_sipush (v := 255) hx hb dX9_append_28 (by decide) ?_
  refine lv_iand hx hb dX9_append_31 ?_
  refine lv_topi (fun x_10 ex_10 => ?_)
  refine t_si hx hb hK hLA hB hS mb_1 tb_1 ai_51 (i_in (by decide) (by decide)) (i_lo _) (i_hi _) (Or.inr (by decide)) dX9_append_32 (fun H locs σ_11 eσ_11 hB hS => ?_)
  have k_12 : σ_11 b_1 13 = x_10 := by rw [eσ_11]; exact up2_same _ _ _ _
  refine lv_aload_n hx hb dX9_append_33 rfl (lv_at hl 1 rfl) ?_
  refine lv_dup hx hb dX9_append_34 rfl ?_
  have k_13 : σ_11 h0 4 = 13 := by rw [eσ_11, up2_nej _ _ (by decide)]; exact k_8
  refine t_gv hx hb hts hown hK hB mh0 th0 fi_9_4 k_13 mw_1_41 dX9_append_35 ?_
  refine lv_iconst (v := 1) hx hb dX9_append_38 (by decide) ?_
  refine lv_iadd hx hb dX9_append_39 ?_
  refine tp_i (w := 14) (by decide) ?_
  refine t_pi hx hb hts hown hK hLA hB hS mh0 th0 fi_9_4 rfl rfl rfl (i_lo _) (i_hi _) (Or.inl (by decide)) mw_1_41 dX9_append_40 (fun H locs σ_14 eσ_14 hB hS => ?_)
  have k_15 : σ_14 h0 4 = 14 := by rw [eσ_14]; exact up2_same _ _ _ _
  refine lv_iinc (v := 8) (lv' := [(2, .int 8), (0, .ref h0), (1, .int p1)]) hx hb dX9_append_43 hl (k := 0) rfl (by decide) (by decide) rfl (fun ls hl => ?_)
  refine lv_goto (tgt := 3) hx hb dX9_append_46 (by decide) ?_
  refine lv_iload_n hx hb dX9_append_3 rfl (lv_at hl 0 rfl) ?_
  refine lv_if_lt (tgt := 49) hx hb dX9_append_4 (by decide) (fun c9 => absurd c9 (by decide)) (fun _ => ?_)
  refine lv_aload_n hx hb dX9_append_7 rfl (lv_at hl 1 rfl) ?_
  refine t_gv hx hb hts hown hK hB mh0 th0 fi_9_4 k_15 mw_1_41 dX9_append_8 ?_
  refine lv_sipush (v := 400) hx hb dX9_append_11 (by decide) ?_
  refine lv_icmp_ge (tgt := 49) hx hb dX9_append_14 (by decide) (fun c9 => absurd c9 (by decide)) (fun _ => ?_)
  refine lv_aload_n hx hb dX9_append_17 rfl (lv_at hl 1 rfl) ?_
  refine t_gk hx hb hts hown hK hB mh0 th0 fq_9_0 hb_1 mw_1_36 dX9_append_18 ?_
  refine lv_aload_n hx hb dX9_append_21 rfl (lv_at hl 1 rfl) ?_
  refine t_gv hx hb hts hown hK hB mh0 th0 fi_9_4 k_15 mw_1_41 dX9_append_22 ?_
  refine lv_iload_n hx hb dX9_append_25 rfl (lv_at hl 2 rfl) ?_
  refine lv_iload_n hx hb dX9_append_26 rfl (lv_at hl 0 rfl) ?_
  refine lv_iushr hx hb dX9_append_27 rfl ?_
  refine lv_topi (fun x_16 ex_16 => ?_)
  refine lv_sipush (v := 255) hx hb dX9_append_28 (by decide) ?_
  refine lv_iand hx hb dX9_append_31 ?_
  refine lv_topi (fun x_17 ex_17 => ?_)
  refine t_si hx hb hK hLA hB hS mb_1 tb_1 ai_51 (i_in (by decide) (by decide)) (i_lo _) (i_hi _) (Or.inr (by decide)) dX9_append_32 (fun H locs σ_18 eσ_18 hB hS => ?_)
  have k_19 : σ_18 b_1 14 = x_17 := by rw [eσ_18]; exact up2_same _ _ _ _
  refine lv_aload_n hx hb dX9_append_33 rfl (lv_at hl 1 rfl) ?_
  refine lv_dup hx hb dX9_append_34 rfl ?_
  have k_20 : σ_18 h0 4 = 14 := by rw [eσ_18, up2_nej _ _ (by decide)]; exact k_15
  refine t_gv hx hb hts hown hK hB mh0 th0 fi_9_4 k_20 mw_1_41 dX9_append_35 ?_
  refine lv_iconst (v := 1) hx hb dX9_append_38 (by decide) ?_
  refine lv_iadd hx hb dX9_append_39 ?_
  refine tp_i (w := 15) (by decide) ?_
  refine t_pi hx hb hts hown hK hLA hB hS mh0 th0 fi_9_4 rfl rfl rfl (i_lo _) (i_hi _) (Or.inl (by decide)) mw_1_41 dX9_append_40 (fun H locs σ_21 eσ_21 hB hS => ?_)
  have k_22 : σ_21 h0 4 = 15 := by rw [eσ_21]; exact up2_same _ _ _ _
  refine lv_iinc (v := 0) (lv' := [(2, .int 0), (0, .ref h0), (1, .int p1)]) hx hb dX9_append_43 hl (k := 0) rfl (by decide) (by decide) rfl (fun ls hl => ?_)
  refine lv_goto (tgt := 3) hx hb dX9_append_46 (by decide) ?_
  refine lv_iload_n hx hb dX9_append_3 rfl (lv_at hl 0 rfl) ?_
  refine lv_if_lt (tgt := 49) hx hb dX9_append_4 (by decide) (fun c9 => absurd c9 (by decide)) (fun _ => ?_)
  refine lv_aload_n hx hb dX9_append_7 rfl (lv_at hl 1 rfl) ?_
  refine t_gv hx hb hts hown hK hB mh0 th0 fi_9_4 k_22 mw_1_41 dX9_append_8 ?_
  refine lv_sipush (v := 400) hx hb dX9_append_11 (by decide) ?_
  refine lv_icmp_ge (tgt := 49) hx hb dX9_append_14 (by decide) (fun c9 => absurd c9 (by decide)) (fun _ => ?_)
  refine lv_aload_n hx hb dX9_append_17 rfl (lv_at hl 1 rfl) ?_
  refine t_gk hx hb hts hown hK hB mh0 th0 fq_9_0 hb_1 mw_1_36 dX9_append_18 ?_
  refine lv_aload_n hx hb dX9_append_21 rfl (lv_at hl 1 rfl) ?_
  refine t_gv hx hb hts hown hK hB mh0 th0 fi_9_4 k_22 mw_1_41 dX9_append_22 ?_
  refine lv_iload_n hx hb dX9_append_25 rfl (lv_at hl 2 rfl) ?_
  refine lv_iload_n hx hb dX9_append_26 rfl (lv_at hl 0 rfl) ?_
  refine lv_iushr hx hb dX9_append_27 rfl ?_
  refine lv_topi (fun x_23 ex_23 => ?_)
  refine lv_sipush (v := 255) hx hb dX9_append_28 (by decide) ?_
  refine lv_iand hx hb dX9_append_31 ?_
  refine lv_topi (fun x_24 ex_24 => ?_)
  refine t_si hx hb hK hLA hB hS mb_1 tb_1 ai_51 (i_in (by decide) (by decide)) (i_lo _) (i_hi _) (Or.inr (by decide)) dX9_append_32 (fun H locs σ_25 eσ_25 hB hS => ?_)
  have k_26 : σ_25 b_1 15 = x_24 := by rw [eσ_25]; exact up2_same _ _ _ _
  refine lv_aload_n hx hb dX9_append_33 rfl (lv_at hl 1 rfl) ?_
  refine lv_dup hx hb dX9_append_34 rfl ?_
  have k_27 : σ_25 h0 4 = 15 := by rw [eσ_25, up2_nej _ _ (by decide)]; exact k_22
  refine t_gv hx hb hts hown hK hB mh0 th0 fi_9_4 k_27 mw_1_41 dX9_append_35 ?_
  refine lv_iconst (v := 1) hx hb dX9_append_38 (by decide) ?_
  refine lv_iadd hx hb dX9_append_39 ?_
  refine tp_i (w := 16) (by decide) ?_
  refine t_pi hx hb hts hown hK hLA hB hS mh0 th0 fi_9_4 rfl rfl rfl (i_lo _) (i_hi _) (Or.inl (by decide)) mw_1_41 dX9_append_40 (fun H locs σ_28 eσ_28 hB hS => ?_)
  have k_29 : σ_28 h0 4 = 16 := by rw [eσ_28]; exact up2_same _ _ _ _
  refine lv_iinc (v := (-8)) (lv' := [(2, .int (-8)), (0, .ref h0), (1, .int p1)]) hx hb dX9_append_43 hl (k := 0) rfl (by decide) (by decide) rfl (fun ls hl => ?_)
  refine lv_goto (tgt := 3) hx hb dX9_append_46 (by decide) ?_
  refine lv_iload_n hx hb dX9_append_3 rfl (lv_at hl 0 rfl) ?_
  refine lv_if_lt (tgt := 49) hx hb dX9_append_4 (by decide) (fun _ => ?_) (fun c9 => absurd (by decide) c9)
  exact W.vret hx hb hr (fun t ht hW => ⟨⟨(σ_28, ρ), rfl, ⟨hB.2.1, hB.2.2, k_29⟩, (show TP D cA L T r σ_28 ρ t.heap from by rw [ht]; exact hB.1)⟩, hS.F ht⟩) hS.2.2 dX9_append_49
set_option maxHeartbeats 4000000 in
set_option maxRecDepth 100000 in
theorem cz_X9_append_16 (l : Launch) (D : va_G) (cA : Nat → ClassId) (L : List Nat) (T : Nat → Nat) (r : Rg) (hG : GR L T r) (hL : L.Nodup) (σ : Sg) (ρ : Lg) (hW : WT L rz T σ) (sz : Nat) (h0 : Nat) (mh0 : h0 ∈ L) (th0 : T h0 = 9) (p1 : Int32) (k0 : σ h0 4 = 16) : Met l yX9_append (.code yX9_append cX9_append 3 none :: wsA) ({ frames := 0, cells := 0, slots := 0, locals := 0 }) (PR D cA L T r σ ρ sz [.ref h0, .int p1]) (QV D cA L T r rz [(9, 4), (51, 1000)] σ sz (fun σ1 => σ1 h0 4 = 20)) 0 0 (dm L sz) := by
  refine Met.ofW (cc := cX9_append) (maxL := 3) (ret := none) (by decide) rfl ?_
  intro p e s m args below meth c s₁ B hml hv
  obtain ⟨rfl, hsz, hP, hK, hN⟩ := hv
  have hx := B.exec
  have hb := B.bytes
  have hr := B.returns
  have hts : ∀ w ∈ wsA, w.before _ s = true := fun w h => atoms_spec (ws := .code yX9_append cX9_append 3 none :: wsA) B.pre w (List.mem_cons_of_mem _ h)
  have hown : s.vm.findClass RX9 = some m.cls := findClass_of_methodNamed B.named
  subst hsz
  have hLA : LA (dm L s.heap.size) L := ⟨hL, fun a h => Or.inl h⟩
  have hA : ∀ q : Nat, s.heap.size ≤ q → dm L s.heap.size q := fun q h => Or.inr h
  have hS : va_S (dm L s.heap.size) s.heap s.heap [] := va_S.rf
  have hB : TS D cA L T r rz [(9, 4), (51, 1000)] σ σ ρ s.heap := ⟨hP, hW, FR.rf⟩
  have hl := lv_entry ([.ref h0, .int p1]) (n := 3) (Nat.le_of_ble_eq_true rfl)
  rw [lg_entry_eq]
  generalize (lg_sl ([.ref h0, .int p1]) ++ List.replicate (3 - (lg_sl ([.ref h0, .int p1])).length) Slot.unset).toArray = ls at hl ⊢
  have hl : lv_has ls 3 [(0, .ref h0), (1, .int p1)] := hl
  refine lv_bipush (v := 24) hx hb dX9_append_0 (by decide) ?_
  refine lv_istore_n (lv' := [(2, .int 24), (0, .ref h0), (1, .int p1)]) hx hb dX9_append_2 rfl hl (by decide) rfl (fun ls hl => ?_)
  refine lv_iload_n hx hb dX9_append_3 rfl (lv_at hl 0 rfl) ?_
  refine lv_if_lt (tgt := 49) hx hb dX9_append_4 (by decide) (fun c9 => absurd c9 (by decide)) (fun _ => ?_)
  refine lv_aload_n hx hb dX9_append_7 rfl (lv_at hl 1 rfl) ?_
  refine t_gv hx hb hts hown hK hB mh0 th0 fi_9_4 k0 mw_1_41 dX9_append_8 ?_
  refine lv_sipush (v := 400) hx hb dX9_append_11 (by decide) ?_
  refine lv_icmp_ge (tgt := 49) hx hb dX9_append_14 (by decide) (fun c9 => absurd c9 (by decide)) (fun _ => ?_)
  refine lv_aload_n hx hb dX9_append_17 rfl (lv_at hl 1 rfl) ?_
  refine t_gr hx hb hts hown hK hG hB mh0 th0 fq_9_0 rfl mw_1_36 dX9_append_18 (fun b_1 hb_1 mb_1 tb_1 => ?_)
  refine lv_aload_n hx hb dX9_append_21 rfl (lv_at hl 1 rfl) ?_
  refine t_gv hx hb hts hown hK hB mh0 th0 fi_9_4 k0 mw_1_41 dX9_append_22 ?_
  refine lv_iload_n hx hb dX9_append_25 rfl (lv_at hl 2 rfl) ?_
  refine lv_iload_n hx hb dX9_append_26 rfl (lv_at hl 0 rfl) ?_
  refine lv_iushr hx hb dX9_append_27 rfl ?_
  refine lv_topi (fun x_2 ex_2 => ?_)
  refine lv_sipush (v := 255) hx hb dX9_append_28 (by decide) ?_
  refine lv_iand hx hb dX9_append_31 ?_
  refine lv_topi (fun x_3 ex_3 => ?_)
  refine t_si hx hb hK hLA hB hS mb_1 tb_1 ai_51 (i_in (by decide) (by decide)) (i_lo _) (i_hi _) (Or.inr (by decide)) dX9_append_32 (fun H locs σ_4 eσ_4 hB hS => ?_)
  have k_5 : σ_4 b_1 16 = x_3 := by rw [eσ_4]; exact up2_same _ _ _ _
  refine lv_aload_n hx hb dX9_append_33 rfl (lv_at hl 1 rfl) ?_
  refine lv_dup hx hb dX9_append_34 rfl ?_
  have k_6 : σ_4 h0 4 = 16 := by rw [eσ_4, up2_nej _ _ (by decide)]; exact k0
  refine t_gv hx hb hts hown hK hB mh0 th0 fi_9_4 k_6 mw_1_41 dX9_append_35 ?_
  refine lv_iconst (v := 1) hx hb dX9_append_38 (by decide) ?_
  refine lv_iadd hx hb dX9_append_39 ?_
  refine tp_i (w := 17) (by decide) ?_
  refine t_pi hx hb hts hown hK hLA hB hS mh0 th0 fi_9_4 rfl rfl rfl (i_lo _) (i_hi _) (Or.inl (by decide)) mw_1_41 dX9_append_40 (fun H locs σ_7 eσ_7 hB hS => ?_)
  have k_8 : σ_7 h0 4 = 17 := by rw [eσ_7]; exact up2_same _ _ _ _
  refine lv_iinc (v := 16) (lv' := [(2, .int 16), (0, .ref h0), (1, .int p1)]) hx hb dX9_append_43 hl (k := 0) rfl (by decide) (by decide) rfl (fun ls hl => ?_)
  refine lv_goto (tgt := 3) hx hb dX9_append_46 (by decide) ?_
  refine lv_iload_n hx hb dX9_append_3 rfl (lv_at hl 0 rfl) ?_
  refine lv_if_lt (tgt := 49) hx hb dX9_append_4 (by decide) (fun c9 => absurd c9 (by decide)) (fun _ => ?_)
  refine lv_aload_n hx hb dX9_append_7 rfl (lv_at hl 1 rfl) ?_
  refine t_gv hx hb hts hown hK hB mh0 th0 fi_9_4 k_8 mw_1_41 dX9_append_8 ?_
  refine lv_sipush (v := 400) hx hb dX9_append_11 (by decide) ?_
  refine lv_icmp_ge (tgt := 49) hx hb dX9_append_14 (by decide) (fun c9 => absurd c9 (by decide)) (fun _ => ?_)
  refine lv_aload_n hx hb dX9_append_17 rfl (lv_at hl 1 rfl) ?_
  refine t_gk hx hb hts hown hK hB mh0 th0 fq_9_0 hb_1 mw_1_36 dX9_append_18 ?_
  refine lv_aload_n hx hb dX9_append_21 rfl (lv_at hl 1 rfl) ?_
  refine t_gv hx hb hts hown hK hB mh0 th0 fi_9_4 k_8 mw_1_41 dX9_append_22 ?_
  refine lv_iload_n hx hb dX9_append_25 rfl (lv_at hl 2 rfl) ?_
  refine lv_iload_n hx hb dX9_append_26 rfl (lv_at hl 0 rfl) ?_
  refine lv_iushr hx hb dX9_append_27 rfl ?_
  refine lv_topi (fun x_9 ex_9 => ?_)
  refine lv_sipush (v := 255) hx hb dX9_append_28 (by decide) ?_
  refine lv_iand hx hb dX9_append_31 ?_
  refine lv_topi (fun x_10 ex_10 => ?_)
  refine t_si hx hb hK hLA hB hS mb_1 tb_1 ai_51 (i_in (by decide) (by decide)) (i_lo _) (i_hi _) (Or.inr (by decide)) dX9_append_32 (fun H locs σ_11 eσ_11 hB hS => ?_)
  have k_12 : σ_11 b_1 17 = x_10 := by rw [eσ_11]; exact up2_same _ _ _ _
  refine lv_aload_n hx hb dX9_append_33 rfl (lv_at hl 1 rfl) ?_
  refine lv_dup hx hb dX9_append_34 rfl ?_
  have k_13 : σ_11 h0 4 = 17 := by rw [eσ_11, up2_nej _ _ (by decide)]; exact k_8
  refine t_gv hx hb hts hown hK hB mh0 th0 fi_9_4 k_13 mw_1_41 dX9_append_35 ?_
  refine lv_iconst (v := 1) hx hb dX9_append_38 (by decide) ?_
  refine lv_iadd hx hb dX9_append_39 ?_
  refine tp_i (w := 18) (by decide) ?_
  refine t_pi hx hb hts hown hK hLA hB hS mh0 th0 fi_9_4 rfl rfl rfl (i_lo _) (i_hi _) (Or.inl (by decide)) mw_1_41 dX9_append_40 (fun H locs σ_14 eσ_14 hB hS => ?_)
  have k_15 : σ_14 h0 4 = 18 := by rw [eσ_14]; exact up2_same _ _ _ _
  refine lv_iinc (v := 8) (lv' := [(2, .int 8), (0, .ref h0), (1, .int p1)]) hx hb dX9_append_43 hl (k := 0) rfl (by decide) (by decide) rfl (fun ls hl => ?_)
  refine lv_goto (tgt := 3) hx hb dX9_append_46 (by decide) ?_
  refine lv_iload_n hx hb dX9_append_3 rfl (lv_at hl 0 rfl) ?_
  refine lv_if_lt (tgt := 49) hx hb dX9_append_4 (by decide) (fun c9 => absurd c9 (by decide)) (fun _ => ?_)
  refine lv_aload_n hx hb dX9_append_7 rfl (lv_at hl 1 rfl) ?_
  refine t_gv hx hb hts hown hK hB mh0 th0 fi_9_4 k_15 mw_1_41 dX9_append_8 ?_
  refine lv_sipush (v := 400) hx hb dX9_append_11 (by decide) ?_
  refine lv_icmp_ge (tgt := 49) hx hb dX9_append_14 (by decide) (fun c9 => absurd c9 (by decide)) (fun _ => ?_)
  refine lv_aload_n hx hb dX9_append_17 rfl (lv_at hl 1 rfl) ?_
  refine t_gk hx hb hts hown hK hB mh0 th0 fq_9_0 hb_1 mw_1_36 dX9_append_18 ?_
  refine lv_aload_n hx hb dX9_append_21 rfl (lv_at hl 1 rfl) ?_
  refine t_gv hx hb hts hown hK hB mh0 th0 fi_9_4 k_15 mw_1_41 dX9_append_22 ?_
  refine lv_iload_n hx hb dX9_append_25 rfl (lv_at hl 2 rfl) ?_
  refine lv_iload_n hx hb dX9_append_26 rfl (lv_at hl 0 rfl) ?_
  refine lv_iushr hx hb dX9_append_27 rfl ?_
  refine lv_topi (fun x_16 ex_16 => ?_)
  refine lv_sipush (v := 255) hx hb dX9_append_28 (by decide) ?_
  refine lv_iand hx hb dX9_append_31 ?_
  refine lv_topi (fun x_17 ex_17 => ?_)
  refine t_si hx hb hK hLA hB hS mb_1 tb_1 ai_51 (i_in (by decide) (by decide)) (i_lo _) (i_hi _) (Or.inr (by decide)) dX9_append_32 (fun H locs σ_18 eσ_18 hB hS => ?_)
  have k_19 : σ_18 b_1 18 = x_17 := by rw [eσ_18]; exact up2_same _ _ _ _
  refine lv_aload_n hx hb dX9_append_33 rfl (lv_at hl 1 rfl) ?_
  refine lv_dup hx hb dX9_append_34 rfl ?_
  have k_20 : σ_18 h0 4 = 18 := by rw [eσ_18, up2_nej _ _ (by decide)]; exact k_15
  refine t_gv hx hb hts hown hK hB mh0 th0 fi_9_4 k_20 mw_1_41 dX9_append_35 ?_
  refine lv_iconst (v := 1) hx hb dX9_append_38 (by decide) ?_
  refine lv_iadd hx hb dX9_append_39 ?_
  refine tp_i (w := 19) (by decide) ?_
  refine t_pi hx hb hts hown hK hLA hB hS mh0 th0 fi_9_4 rfl rfl rfl (i_lo _) (i_hi _) (Or.inl (by decide)) mw_1_41 dX9_append_40 (fun H locs σ_21 eσ_21 hB hS => ?_)
  have k_22 : σ_21 h0 4 = 19 := by rw [eσ_21]; exact up2_same _ _ _ _
  refine lv_iinc (v := 0) (lv' := [(2, .int 0), (0, .ref h0), (1, .int p1)]) hx hb dX9_append_43 hl (k := 0) rfl (by decide) (by decide) rfl (fun ls hl => ?_)
  refine lv_goto (tgt := 3) hx hb dX9_append_46 (by decide) ?_
  refine lv_iload_n hx hb dX9_append_3 rfl (lv_at hl 0 rfl) ?_
  refine lv_if_lt (tgt := 49) hx hb dX9_append_4 (by decide) (fun c9 => absurd c9 (by decide)) (fun _ => ?_)
  refine lv_aload_n hx hb dX9_append_7 rfl (lv_at hl 1 rfl) ?_
  refine t_gv hx hb hts hown hK hB mh0 th0 fi_9_4 k_22 mw_1_41 dX9_append_8 ?_
  refine lv_sipush (v := 400) hx hb dX9_append_11 (by decide) ?_
  refine lv_icmp_ge (tgt := 49) hx hb dX9_append_14 (by decide) (fun c9 => absurd c9 (by decide)) (fun _ => ?_)
  refine lv_aload_n hx hb dX9_append_17 rfl (lv_at hl 1 rfl) ?_
  refine t_gk hx hb hts hown hK hB mh0 th0 fq_9_0 hb_1 mw_1_36 dX9_append_18 ?_
  refine lv_aload_n hx hb dX9_append_21 rfl (lv_at hl 1 rfl) ?_
  refine t_gv hx hb hts hown hK hB mh0 th0 fi_9_4 k_22 mw_1_41 dX9_append_22 ?_
  refine lv_iload_n hx hb dX9_append_25 rfl (lv_at hl 2 rfl) ?_
  refine lv_iload_n hx hb dX9_append_26 rfl (lv_at hl 0 rfl) ?_
  refine lv_iushr hx hb dX9_append_27 rfl ?_
  refine lv_topi (fun x_23 ex_23 => ?_)
  refine lv_sipush (v := 255) hx hb dX9_append_28 (by decide) ?_
  refine lv_iand hx hb dX9_append_31 ?_
  refine lv_topi (fun x_24 ex_24 => ?_)
  refine t_si hx hb hK hLA hB hS mb_1 tb_1 ai_51 (i_in (by decide) (by decide)) (i_lo _) (i_hi _) (Or.inr (by decide)) dX9_append_32 (fun H locs σ_25 eσ_25 hB hS => ?_)
  have k_26 : σ_25 b_1 19 = x_24 := by rw [eσ_25]; exact up2_same _ _ _ _
  refine lv_aload_n hx hb dX9_append_33 rfl (lv_at hl 1 rfl) ?_
  refine lv_dup hx hb dX9_append_34 rfl ?_
  have k_27 : σ_25 h0 4 = 19 := by rw [eσ_25, up2_nej _ _ (by decide)]; exact k_22
  refine t_gv hx hb hts hown hK hB mh0 th0 fi_9_4 k_27 mw_1_41 dX9_append_35 ?_
  refine lv_iconst (v := 1) hx hb dX9_append_38 (by decide) ?_
  refine lv_iadd hx hb dX9_append_39 ?_
  refine tp_i (w := 20) (by decide) ?_
  refine t_pi hx hb hts hown hK hLA hB hS mh0 th0 fi_9_4 rfl rfl rfl (i_lo _) (i_hi _) (Or.inl (by decide)) mw_1_41 dX9_append_40 (fun H locs σ_28 eσ_28 hB hS => ?_)
  have k_29 : σ_28 h0 4 = 20 := by rw [eσ_28]; exact up2_same _ _ _ _
  refine lv_iinc (v := (-8)) (lv' := [(2, .int (-8)), (0, .ref h0), (1, .int p1)]) hx hb dX9_append_43 hl (k := 0) rfl (by decide) (by decide) rfl (fun ls hl => ?_)
  refine lv_goto (tgt := 3) hx hb dX9_append_46 (by decide) ?_
  refine lv_iload_n hx hb dX9_append_3 rfl (lv_at hl 0 rfl) ?_
  refine lv_if_lt (tgt := 49) hx hb dX9_append_4 (by decide) (fun _ => ?_) (fun c9 => absurd (by decide) c9)
  exact W.vret hx hb hr (fun t ht hW => ⟨⟨(σ_28, ρ), rfl, ⟨hB.2.1, hB.2.2, k_29⟩, (show TP D cA L T r σ_28 ρ t.heap from by rw [ht]; exact hB.1)⟩, hS.F ht⟩) hS.2.2 dX9_append_49
set_option maxHeartbeats 4000000 in
set_option maxRecDepth 100000 in
theorem cz_X9_put (l : Launch) (D : va_G) (cA : Nat → ClassId) (L : List Nat) (T : Nat → Nat) (r : Rg) (hG : GR L T r) (hL : L.Nodup) (σ : Sg) (ρ : Lg) (hW : WT L rz T σ) (sz : Nat) (h0 : Nat) (mh0 : h0 ∈ L) (th0 : T h0 = 9) (p1 : Int32) (p2 : Int32) (p3 : Int32) (bk : Nat) (hbk : r h0 1 = some bk) (mbk : bk ∈ L) (tbk : T bk = 52) (bp : Nat) (hbp : r h0 2 = some bp) (mbp : bp ∈ L) (tbp : T bp = 53) (k0 : σ h0 5 = 0) : Met l yX9_put (.code yX9_put cX9_put 4 none :: wsA) ({ frames := 0, cells := 0, slots := 0, locals := 0 }) (PR D cA L T r σ ρ sz [.ref h0, .int p1, .int p2, .int p3]) (QV D cA L T r rz [(9, 5), (52, 1000), (53, 1000), (54, 1000)] σ sz (fun σ1 => σ1 h0 5 = 1 ∧ σ1 bk 0 = p1 ∧ σ1 bp 0 = p2)) 0 0 (dm L sz) := by
  refine Met.ofW (cc := cX9_put) (maxL := 4) (ret := none) (by decide) rfl ?_
  intro p e s m args below meth c s₁ B hml hv
  obtain ⟨rfl, hsz, hP, hK, hN⟩ := hv
  have hx := B.exec
  have hb := B.bytes
  have hr := B.returns
  have hts : ∀ w ∈ wsA, w.before _ s = true := fun w h => atoms_spec (ws := .code yX9_put cX9_put 4 none :: wsA) B.pre w (List.mem_cons_of_mem _ h)
  have hown : s.vm.findClass RX9 = some m.cls := findClass_of_methodNamed B.named
  subst hsz
  have hLA : LA (dm L s.heap.size) L := ⟨hL, fun a h => Or.inl h⟩
  have hA : ∀ q : Nat, s.heap.size ≤ q → dm L s.heap.size q := fun q h => Or.inr h
  have hS : va_S (dm L s.heap.size) s.heap s.heap [] := va_S.rf
  have hB : TS D cA L T r rz [(9, 5), (52, 1000), (53, 1000), (54, 1000)] σ σ ρ s.heap := ⟨hP, hW, FR.rf⟩
  have hl := lv_entry ([.ref h0, .int p1, .int p2, .int p3]) (n := 4) (Nat.le_of_ble_eq_true rfl)
  rw [lg_entry_eq]
  generalize (lg_sl ([.ref h0, .int p1, .int p2, .int p3]) ++ List.replicate (4 - (lg_sl ([.ref h0, .int p1, .int p2, .int p3])).length) Slot.unset).toArray = ls at hl ⊢
  have hl : lv_has ls 4 [(0, .ref h0), (1, .int p1), (2, .int p2), (3, .int p3)] := hl
  refine lv_aload_n hx hb dX9_put_0 rfl (lv_at hl 0 rfl) ?_
  refine t_gv hx hb hts hown hK hB mh0 th0 fi_9_5 k0 mw_1_42 dX9_put_1 ?_
  refine lv_aload_n hx hb dX9_put_4 rfl (lv_at hl 0 rfl) ?_
  refine t_gk hx hb hts hown hK hB mh0 th0 fq_9_1 hbk mw_1_37 dX9_put_5 ?_
  refine t_len (n := 401) (v := 401) hx hb hK hB mbk tbk ((ai_52) _ _ _ _) rfl (show (tyA cA)[1]? = some (cA 1, _) from rfl) (by decide) dX9_put_8 ?_
  refine lv_icmp_ge (tgt := 52) hx hb dX9_put_9 (by decide) (fun c9 => absurd c9 (by decide)) (fun _ => ?_)
  refine lv_aload_n hx hb dX9_put_12 rfl (lv_at hl 0 rfl) ?_
  refine t_gk hx hb hts hown hK hB mh0 th0 fq_9_1 hbk mw_1_37 dX9_put_13 ?_
  refine lv_aload_n hx hb dX9_put_16 rfl (lv_at hl 0 rfl) ?_
  refine t_gv hx hb hts hown hK hB mh0 th0 fi_9_5 k0 mw_1_42 dX9_put_17 ?_
  refine lv_iload_n hx hb dX9_put_20 rfl (lv_at hl 1 rfl) ?_
  refine t_si hx hb hK hLA hB hS mbk tbk ai_52 (i_in (by decide) (by decide)) (i_lo _) (i_hi _) (Or.inr (by decide)) dX9_put_21 (fun H locs σ_1 eσ_1 hB hS => ?_)
  have k_2 : σ_1 bk 0 = p1 := by rw [eσ_1]; exact up2_same _ _ _ _
  refine lv_aload_n hx hb dX9_put_22 rfl (lv_at hl 0 rfl) ?_
  refine t_gk hx hb hts hown hK hB mh0 th0 fq_9_2 hbp mw_1_38 dX9_put_23 ?_
  refine lv_aload_n hx hb dX9_put_26 rfl (lv_at hl 0 rfl) ?_
  have k_3 : σ_1 h0 5 = 0 := by rw [eσ_1, up2_nej _ _ (by decide)]; exact k0
  refine t_gv hx hb hts hown hK hB mh0 th0 fi_9_5 k_3 mw_1_42 dX9_put_27 ?_
  refine lv_iload_n hx hb dX9_put_30 rfl (lv_at hl 2 rfl) ?_
  refine t_si hx hb hK hLA hB hS mbp tbp ai_53 (i_in (by decide) (by decide)) (i_lo _) (i_hi _) (Or.inr (by decide)) dX9_put_31 (fun H locs σ_4 eσ_4 hB hS => ?_)
  have k_5 : σ_4 bp 0 = p2 := by rw [eσ_4]; exact up2_same _ _ _ _
  refine lv_aload_n hx hb dX9_put_32 rfl (lv_at hl 0 rfl) ?_
  refine t_gr hx hb hts hown hK hG hB mh0 th0 fq_9_3 rfl mw_1_39 dX9_put_33 (fun b_6 hb_6 mb_6 tb_6 => ?_)
  refine lv_aload_n hx hb dX9_put_36 rfl (lv_at hl 0 rfl) ?_
  have k_7 : σ_4 h0 5 = 0 := by rw [eσ_4, up2_nej _ _ (by decide)]; exact k_3
  refine t_gv hx hb hts hown hK hB mh0 th0 fi_9_5 k_7 mw_1_42 dX9_put_37 ?_
  refine lv_iload_n hx hb dX9_put_40 rfl (lv_at hl 3 rfl) ?_
  refine t_si hx hb hK hLA hB hS mb_6 tb_6 ai_54 (i_in (by decide) (by decide)) (i_lo _) (i_hi _) (Or.inr (by decide)) dX9_put_41 (fun H locs σ_8 eσ_8 hB hS => ?_)
  have k_9 : σ_8 b_6 0 = p3 := by rw [eσ_8]; exact up2_same _ _ _ _
  refine lv_aload_n hx hb dX9_put_42 rfl (lv_at hl 0 rfl) ?_
  refine lv_dup hx hb dX9_put_43 rfl ?_
  have k_10 : σ_8 h0 5 = 0 := by rw [eσ_8, up2_nej _ _ (by decide)]; exact k_7
  refine t_gv hx hb hts hown hK hB mh0 th0 fi_9_5 k_10 mw_1_42 dX9_put_44 ?_
  refine lv_iconst (v := 1) hx hb dX9_put_47 (by decide) ?_
  refine lv_iadd hx hb dX9_put_48 ?_
  refine tp_i (w := 1) (by decide) ?_
  refine t_pi hx hb hts hown hK hLA hB hS mh0 th0 fi_9_5 rfl rfl rfl (i_lo _) (i_hi _) (Or.inl (by decide)) mw_1_42 dX9_put_49 (fun H locs σ_11 eσ_11 hB hS => ?_)
  have k_12 : σ_11 h0 5 = 1 := by rw [eσ_11]; exact up2_same _ _ _ _
  have k_13 : σ_4 bk 0 = p1 := by rw [eσ_4, up2_nea _ _ (tg_ne tbk tbp (by decide))]; exact k_2
  have k_14 : σ_8 bk 0 = p1 := by rw [eσ_8, up2_nea _ _ (tg_ne tbk tb_6 (by decide))]; exact k_13
  have k_15 : σ_11 bk 0 = p1 := by rw [eσ_11, up2_nej _ _ (by decide)]; exact k_14
  have k_16 : σ_8 bp 0 = p2 := by rw [eσ_8, up2_nea _ _ (tg_ne tbp tb_6 (by decide))]; exact k_5
  have k_17 : σ_11 bp 0 = p2 := by rw [eσ_11, up2_nej _ _ (by decide)]; exact k_16
  exact W.vret hx hb hr (fun t ht hW => ⟨⟨(σ_11, ρ), rfl, ⟨hB.2.1, hB.2.2, ⟨k_12, k_15, k_17⟩⟩, (show TP D cA L T r σ_11 ρ t.heap from by rw [ht]; exact hB.1)⟩, hS.F ht⟩) hS.2.2 dX9_put_52
set_option maxHeartbeats 4000000 in
set_option maxRecDepth 100000 in
theorem cz_X9_scan (l : Launch) (D : va_G) (cA : Nat → ClassId) (L : List Nat) (T : Nat → Nat) (r : Rg) (hG : GR L T r) (hL : L.Nodup) (σ : Sg) (ρ : Lg) (hW : WT L rz T σ) (sz : Nat) (h0 : Nat) (mh0 : h0 ∈ L) (th0 : T h0 = 9) (bk : Nat) (hbk : r h0 1 = some bk) (mbk : bk ∈ L) (tbk : T bk = 52) (bp : Nat) (hbp : r h0 2 = some bp) (mbp : bp ∈ L) (tbp : T bp = 53) (k0 : σ h0 4 = 0) : Met l yX9_scan (.code yX9_scan cX9_scan 3 none :: wsA) ({ frames := 1, cells := 0, slots := 0, locals := 23 }) (PR D cA L T r σ ρ sz [.ref h0]) (QV D cA L T r rz [(9, 5), (9, 6), (52, 1000), (53, 1000), (54, 1000)] σ sz (fun σ1 => σ1 h0 5 = 1 ∧ σ1 h0 6 = 0 ∧ σ1 bk 0 = 133 ∧ σ1 bp 0 = 0)) 0 0 (dm L sz) := by
  refine Met.ofW (cc := cX9_scan) (maxL := 3) (ret := none) (by decide) rfl ?_
  intro p e s m args below meth c s₁ B hml hv
  obtain ⟨rfl, hsz, hP, hK, hN⟩ := hv
  have hx := B.exec
  have hb := B.bytes
  have hr := B.returns
  have hts : ∀ w ∈ wsA, w.before _ s = true := fun w h => atoms_spec (ws := .code yX9_scan cX9_scan 3 none :: wsA) B.pre w (List.mem_cons_of_mem _ h)
  have hown : s.vm.findClass RX9 = some m.cls := findClass_of_methodNamed B.named
  subst hsz
  have hLA : LA (dm L s.heap.size) L := ⟨hL, fun a h => Or.inl h⟩
  have hA : ∀ q : Nat, s.heap.size ≤ q → dm L s.heap.size q := fun q h => Or.inr h
  have hS : va_S (dm L s.heap.size) s.heap s.heap [] := va_S.rf
  have hB : TS D cA L T r rz [(9, 5), (9, 6), (52, 1000), (53, 1000), (54, 1000)] σ σ ρ s.heap := ⟨hP, hW, FR.rf⟩
  have hl := lv_entry ([.ref h0]) (n := 3) (Nat.le_of_ble_eq_true rfl)
  rw [lg_entry_eq]
  generalize (lg_sl ([.ref h0]) ++ List.replicate (3 - (lg_sl ([.ref h0])).length) Slot.unset).toArray = ls at hl ⊢
  have hl : lv_has ls 3 [(0, .ref h0)] := hl
  refine lv_aload_n hx hb dX9_scan_0 rfl (lv_at hl 0 rfl) ?_
  refine lv_iconst (v := 0) hx hb dX9_scan_1 (by decide) ?_
  refine t_pi hx hb hts hown hK hLA hB hS mh0 th0 fi_9_5 rfl rfl rfl (i_lo _) (i_hi _) (Or.inl (by decide)) mw_1_42 dX9_scan_2 (fun H locs σ_1 eσ_1 hB hS => ?_)
  have k_2 : σ_1 h0 5 = 0 := by rw [eσ_1]; exact up2_same _ _ _ _
  refine lv_aload_n hx hb dX9_scan_5 rfl (lv_at hl 0 rfl) ?_
  refine lv_iconst (v := 0) hx hb dX9_scan_6 (by decide) ?_
  refine t_pi hx hb hts hown hK hLA hB hS mh0 th0 fi_9_6 rfl rfl rfl (i_lo _) (i_hi _) (Or.inl (by decide)) mw_1_45 dX9_scan_7 (fun H locs σ_3 eσ_3 hB hS => ?_)
  have k_4 : σ_3 h0 6 = 0 := by rw [eσ_3]; exact up2_same _ _ _ _
  refine lv_iconst (v := 0) hx hb dX9_scan_10 (by decide) ?_
  refine lv_istore_n (lv' := [(1, .int 0), (0, .ref h0)]) hx hb dX9_scan_11 rfl hl (by decide) rfl (fun ls hl => ?_)
  refine lv_iconst (v := 0) hx hb dX9_scan_12 (by decide) ?_
  refine lv_istore_n (lv' := [(2, .int 0), (1, .int 0), (0, .ref h0)]) hx hb dX9_scan_13 rfl hl (by decide) rfl (fun ls hl => ?_)
  refine lv_iload_n hx hb dX9_scan_14 rfl (lv_at hl 1 rfl) ?_
  refine lv_aload_n hx hb dX9_scan_15 rfl (lv_at hl 2 rfl) ?_
  have k_5 : σ_1 h0 4 = 0 := by rw [eσ_1, up2_nej _ _ (by decide)]; exact k0
  have k_6 : σ_3 h0 4 = 0 := by rw [eσ_3, up2_nej _ _ (by decide)]; exact k_5
  refine t_gv hx hb hts hown hK hB mh0 th0 fi_9_4 k_6 mw_1_41 dX9_scan_16 ?_
  refine lv_icmp_ge (tgt := 100) hx hb dX9_scan_19 (by decide) (fun _ => ?_) (fun c9 => absurd (by decide) c9)
  refine lv_aload_n hx hb dX9_scan_100 rfl (lv_at hl 2 rfl) ?_
  refine lv_sipush (v := 133) hx hb dX9_scan_101 (by decide) ?_
  refine lv_aload_n hx hb dX9_scan_104 rfl (lv_at hl 2 rfl) ?_
  refine t_gv hx hb hts hown hK hB mh0 th0 fi_9_4 k_6 mw_1_41 dX9_scan_105 ?_
  refine lv_iconst (v := 0) hx hb dX9_scan_108 (by decide) ?_
  have k_7 : σ_3 h0 5 = 0 := by rw [eσ_3, up2_nej _ _ (by decide)]; exact k_2
  refine t_cv (va_runV (As := [.int 133, .int 0, .int 0]) (rest := []) ⟨hx, hb, hml, hown, hts⟩ (cz_X9_put l D cA L T r hG hLA.1 σ_3 ρ hB.2.1 _ h0 mh0 th0 133 0 0 bk hbk mbk tbk bp hbp mbp tbp k_7) (cV hts mv_X9_put mw_3_35 rfl rfl ⟨Nat.le_of_ble_eq_true rfl, Nat.le_of_ble_eq_true rfl⟩) (pV hB.1 hK hN mh0 th0 (show shp cA 9 _ _ _ = .inr (9, Fs9 _ _ _) from rfl) rfl) rfl rfl hl.1 rfl (lv_room (Nat.le_of_ble_eq_true rfl)) dX9_scan_109 ⟨Nat.le_of_ble_eq_true rfl, Nat.le_of_ble_eq_true rfl⟩) hLA hA hB hS (by decide) (fun σ_8 ρ_9 H locs hB fσ_8 pσ_8 hS => ?_)
  obtain ⟨g_11, g_12, g_13⟩ := pσ_8
  have k_14 : σ_8 h0 6 = 0 := (FR.at fσ_8 th0 (by decide)).trans k_4
  exact W.vret hx hb hr (fun t ht hW => ⟨⟨(σ_8, ρ_9), rfl, ⟨hB.2.1, hB.2.2, ⟨g_11, k_14, g_12, g_13⟩⟩, (show TP D cA L T r σ_8 ρ_9 t.heap from by rw [ht]; exact hB.1)⟩, hS.F ht⟩) hS.2.2 dX9_scan_112
set_option maxHeartbeats 4000000 in
set_option maxRecDepth 100000 in
theorem cz_X9_kindAt (l : Launch) (D : va_G) (cA : Nat → ClassId) (L : List Nat) (T : Nat → Nat) (r : Rg) (hG : GR L T r) (hL : L.Nodup) (σ : Sg) (ρ : Lg) (hW : WT L rz T σ) (sz : Nat) (h0 : Nat) (mh0 : h0 ∈ L) (th0 : T h0 = 9) (bk : Nat) (hbk : r h0 1 = some bk) (mbk : bk ∈ L) (tbk : T bk = 52) (k0 : σ h0 5 = 1) (k1 : σ bk 0 = 133) : Met l yX9_kindAt (.code yX9_kindAt cX9_kindAt 2 (some .int) :: wsA) ({ frames := 0, cells := 0, slots := 0, locals := 0 }) (PR D cA L T r σ ρ sz [.ref h0, .int 0]) (QI D cA L T r rz ([] : List (Nat × Nat)) σ sz (fun x σ1 => x = 133)) 0 0 (dm L sz) := by
  refine Met.ofW (cc := cX9_kindAt) (maxL := 2) (ret := (some .int)) (by decide) rfl ?_
  intro p e s m args below meth c s₁ B hml hv
  obtain ⟨rfl, hsz, hP, hK, hN⟩ := hv
  have hx := B.exec
  have hb := B.bytes
  have hr := B.returns
  have hts : ∀ w ∈ wsA, w.before _ s = true := fun w h => atoms_spec (ws := .code yX9_kindAt cX9_kindAt 2 (some .int) :: wsA) B.pre w (List.mem_cons_of_mem _ h)
  have hown : s.vm.findClass RX9 = some m.cls := findClass_of_methodNamed B.named
  subst hsz
  have hLA : LA (dm L s.heap.size) L := ⟨hL, fun a h => Or.inl h⟩
  have hA : ∀ q : Nat, s.heap.size ≤ q → dm L s.heap.size q := fun q h => Or.inr h
  have hS : va_S (dm L s.heap.size) s.heap s.heap [] := va_S.rf
  have hB : TS D cA L T r rz ([] : List (Nat × Nat)) σ σ ρ s.heap := ⟨hP, hW, FR.rf⟩
  have hl := lv_entry ([.ref h0, .int 0]) (n := 2) (Nat.le_of_ble_eq_true rfl)
  rw [lg_entry_eq]
  generalize (lg_sl ([.ref h0, .int 0]) ++ List.replicate (2 - (lg_sl ([.ref h0, .int 0])).length) Slot.unset).toArray = ls at hl ⊢
  have hl : lv_has ls 2 [(0, .ref h0), (1, .int 0)] := hl
  refine lv_iload_n hx hb dX9_kindAt_0 rfl (lv_at hl 1 rfl) ?_
  refine lv_if_lt (tgt := 21) hx hb dX9_kindAt_1 (by decide) (fun c9 => absurd c9 (by decide)) (fun _ => ?_)
  refine lv_iload_n hx hb dX9_kindAt_4 rfl (lv_at hl 1 rfl) ?_
  refine lv_aload_n hx hb dX9_kindAt_5 rfl (lv_at hl 0 rfl) ?_
  refine t_gv hx hb hts hown hK hB mh0 th0 fi_9_5 k0 mw_1_42 dX9_kindAt_6 ?_
  refine lv_icmp_ge (tgt := 21) hx hb dX9_kindAt_9 (by decide) (fun c9 => absurd c9 (by decide)) (fun _ => ?_)
  refine lv_aload_n hx hb dX9_kindAt_12 rfl (lv_at hl 0 rfl) ?_
  refine t_gk hx hb hts hown hK hB mh0 th0 fq_9_1 hbk mw_1_37 dX9_kindAt_13 ?_
  refine lv_iload_n hx hb dX9_kindAt_16 rfl (lv_at hl 1 rfl) ?_
  refine t_ai hx hb hK hB mbk tbk ai_52 (fun _ => rfl) (i_in (by decide) (by decide)) dX9_kindAt_17 (fun x_1 ex_1 lx_1 ux_1 => ?_)
  have qx_1 : x_1 = 133 := ex_1.trans k1
  clear lx_1 ux_1
  subst qx_1
  refine lv_goto (tgt := 24) hx hb dX9_kindAt_18 (by decide) ?_
  exact W.iret (v := 133) hx hb hr (fun t ht hW => ⟨⟨133, (σ, ρ), rfl, ⟨hB.2.1, hB.2.2, rfl⟩, (show TP D cA L T r σ ρ t.heap from by rw [ht]; exact hB.1)⟩, hS.F ht⟩) hS.2.2 dX9_kindAt_24
set_option maxHeartbeats 4000000 in
set_option maxRecDepth 100000 in
theorem cz_X9_isWord (l : Launch) (D : va_G) (cA : Nat → ClassId) (L : List Nat) (T : Nat → Nat) (r : Rg) (hG : GR L T r) (hL : L.Nodup) (σ : Sg) (ρ : Lg) (hW : WT L rz T σ) (sz : Nat) (h0 : Nat) (mh0 : h0 ∈ L) (th0 : T h0 = 9) (bk : Nat) (hbk : r h0 1 = some bk) (mbk : bk ∈ L) (tbk : T bk = 52) (k0 : σ h0 5 = 1) (k1 : σ bk 0 = 133) : Met l yX9_isWord (.code yX9_isWord cX9_isWord 3 (some .boolean) :: wsA) ({ frames := 0, cells := 0, slots := 0, locals := 0 }) (PR D cA L T r σ ρ sz [.ref h0, .int 0, .int 6]) (QI D cA L T r rz ([] : List (Nat × Nat)) σ sz (fun x σ1 => x = 0)) 0 0 (dm L sz) := by
  refine Met.ofW (cc := cX9_isWord) (maxL := 3) (ret := (some .boolean)) (by decide) rfl ?_
  intro p e s m args below meth c s₁ B hml hv
  obtain ⟨rfl, hsz, hP, hK, hN⟩ := hv
  have hx := B.exec
  have hb := B.bytes
  have hr := B.returns
  have hts : ∀ w ∈ wsA, w.before _ s = true := fun w h => atoms_spec (ws := .code yX9_isWord cX9_isWord 3 (some .boolean) :: wsA) B.pre w (List.mem_cons_of_mem _ h)
  have hown : s.vm.findClass RX9 = some m.cls := findClass_of_methodNamed B.named
  subst hsz
  have hLA : LA (dm L s.heap.size) L := ⟨hL, fun a h => Or.inl h⟩
  have hA : ∀ q : Nat, s.heap.size ≤ q → dm L s.heap.size q := fun q h => Or.inr h
  have hS : va_S (dm L s.heap.size) s.heap s.heap [] := va_S.rf
  have hB : TS D cA L T r rz ([] : List (Nat × Nat)) σ σ ρ s.heap := ⟨hP, hW, FR.rf⟩
  have hl := lv_entry ([.ref h0, .int 0, .int 6]) (n := 3) (Nat.le_of_ble_eq_true rfl)
  rw [lg_entry_eq]
  generalize (lg_sl ([.ref h0, .int 0, .int 6]) ++ List.replicate (3 - (lg_sl ([.ref h0, .int 0, .int 6])).length) Slot.unset).toArray = ls at hl ⊢
  have hl : lv_has ls 3 [(0, .ref h0), (1, .int 0), (2, .int 6)] := hl
  refine lv_iload_n hx hb dX9_isWord_0 rfl (lv_at hl 1 rfl) ?_
  refine lv_if_lt (tgt := 38) hx hb dX9_isWord_1 (by decide) (fun c9 => absurd c9 (by decide)) (fun _ => ?_)
  refine lv_iload_n hx hb dX9_isWord_4 rfl (lv_at hl 1 rfl) ?_
  refine lv_aload_n hx hb dX9_isWord_5 rfl (lv_at hl 0 rfl) ?_
  refine t_gv hx hb hts hown hK hB mh0 th0 fi_9_5 k0 mw_1_42 dX9_isWord_6 ?_
  refine lv_icmp_ge (tgt := 38) hx hb dX9_isWord_9 (by decide) (fun c9 => absurd c9 (by decide)) (fun _ => ?_)
  refine lv_aload_n hx hb dX9_isWord_12 rfl (lv_at hl 0 rfl) ?_
  refine t_gk hx hb hts hown hK hB mh0 th0 fq_9_1 hbk mw_1_37 dX9_isWord_13 ?_
  refine lv_iload_n hx hb dX9_isWord_16 rfl (lv_at hl 1 rfl) ?_
  refine t_ai hx hb hK hB mbk tbk ai_52 (fun _ => rfl) (i_in (by decide) (by decide)) dX9_isWord_17 (fun x_1 ex_1 lx_1 ux_1 => ?_)
  have qx_1 : x_1 = 133 := ex_1.trans k1
  clear lx_1 ux_1
  subst qx_1
  refine lv_sipush (v := 131) hx hb dX9_isWord_18 (by decide) ?_
  refine lv_icmp_ne (tgt := 38) hx hb dX9_isWord_21 (by decide) (fun _ => ?_) (fun c9 => absurd c9 (by decide))
  refine lv_iconst (v := 0) hx hb dX9_isWord_38 (by decide) ?_
  exact W.zret (v := 0) hx hb hr rfl (fun t ht hW => ⟨⟨0, (σ, ρ), rfl, ⟨hB.2.1, hB.2.2, rfl⟩, (show TP D cA L T r σ ρ t.heap from by rw [ht]; exact hB.1)⟩, hS.F ht⟩) hS.2.2 dX9_isWord_39
set_option maxHeartbeats 4000000 in
set_option maxRecDepth 100000 in
theorem cz_X9_wrong (l : Launch) (D : va_G) (cA : Nat → ClassId) (L : List Nat) (T : Nat → Nat) (r : Rg) (hG : GR L T r) (hL : L.Nodup) (σ : Sg) (ρ : Lg) (hW : WT L rz T σ) (sz : Nat) (h0 : Nat) (mh0 : h0 ∈ L) (th0 : T h0 = 9) (bp : Nat) (hbp : r h0 2 = some bp) (mbp : bp ∈ L) (tbp : T bp = 53) (k0 : σ h0 5 = 1) (k1 : σ bp 0 = 0) : Met l yX9_wrong (.code yX9_wrong cX9_wrong 4 (some .boolean) :: wsA) ({ frames := 0, cells := 0, slots := 0, locals := 0 }) (PR D cA L T r σ ρ sz [.ref h0, .int 0, .int 0]) (QI D cA L T r rz [(9, 6)] σ sz (fun x σ1 => x = 0 ∧ σ1 h0 6 = 1)) 0 0 (dm L sz) := by
  refine Met.ofW (cc := cX9_wrong) (maxL := 4) (ret := (some .boolean)) (by decide) rfl ?_
  intro p e s m args below meth c s₁ B hml hv
  obtain ⟨rfl, hsz, hP, hK, hN⟩ := hv
  have hx := B.exec
  have hb := B.bytes
  have hr := B.returns
  have hts : ∀ w ∈ wsA, w.before _ s = true := fun w h => atoms_spec (ws := .code yX9_wrong cX9_wrong 4 (some .boolean) :: wsA) B.pre w (List.mem_cons_of_mem _ h)
  have hown : s.vm.findClass RX9 = some m.cls := findClass_of_methodNamed B.named
  subst hsz
  have hLA : LA (dm L s.heap.size) L := ⟨hL, fun a h => Or.inl h⟩
  have hA : ∀ q : Nat, s.heap.size ≤ q → dm L s.heap.size q := fun q h => Or.inr h
  have hS : va_S (dm L s.heap.size) s.heap s.heap [] := va_S.rf
  have hB : TS D cA L T r rz [(9, 6)] σ σ ρ s.heap := ⟨hP, hW, FR.rf⟩
  have hl := lv_entry ([.ref h0, .int 0, .int 0]) (n := 4) (Nat.le_of_ble_eq_true rfl)
  rw [lg_entry_eq]
  generalize (lg_sl ([.ref h0, .int 0, .int 0]) ++ List.replicate (4 - (lg_sl ([.ref h0, .int 0, .int 0])).length) Slot.unset).toArray = ls at hl ⊢
  have hl : lv_has ls 4 [(0, .ref h0), (1, .int 0), (2, .int 0)] := hl
  refine lv_iload_n hx hb dX9_wrong_0 rfl (lv_at hl 1 rfl) ?_
  refine lv_if_lt (tgt := 21) hx hb dX9_wrong_1 (by decide) (fun c9 => absurd c9 (by decide)) (fun _ => ?_)
  refine lv_iload_n hx hb dX9_wrong_4 rfl (lv_at hl 1 rfl) ?_
  refine lv_aload_n hx hb dX9_wrong_5 rfl (lv_at hl 0 rfl) ?_
  refine t_gv hx hb hts hown hK hB mh0 th0 fi_9_5 k0 mw_1_42 dX9_wrong_6 ?_
  refine lv_icmp_ge (tgt := 21) hx hb dX9_wrong_9 (by decide) (fun c9 => absurd c9 (by decide)) (fun _ => ?_)
  refine lv_aload_n hx hb dX9_wrong_12 rfl (lv_at hl 0 rfl) ?_
  refine t_gk hx hb hts hown hK hB mh0 th0 fq_9_2 hbp mw_1_38 dX9_wrong_13 ?_
  refine lv_iload_n hx hb dX9_wrong_16 rfl (lv_at hl 1 rfl) ?_
  refine t_ai hx hb hK hB mbp tbp ai_53 (fun _ => rfl) (i_in (by decide) (by decide)) dX9_wrong_17 (fun x_1 ex_1 lx_1 ux_1 => ?_)
  have qx_1 : x_1 = 0 := ex_1.trans k1
  clear lx_1 ux_1
  subst qx_1
  refine lv_goto (tgt := 25) hx hb dX9_wrong_18 (by decide) ?_
  refine lv_istore_n (lv' := [(3, .int 0), (0, .ref h0), (1, .int 0), (2, .int 0)]) hx hb dX9_wrong_25 rfl hl (by decide) rfl (fun ls hl => ?_)
  refine lv_aload_n hx hb dX9_wrong_26 rfl (lv_at hl 1 rfl) ?_
  refine lv_iconst (v := 1) hx hb dX9_wrong_27 (by decide) ?_
  refine lv_bipush (v := 8) hx hb dX9_wrong_28 (by decide) ?_
  refine lv_iload_n hx hb dX9_wrong_30 rfl (lv_at hl 0 rfl) ?_
  refine lv_imul hx hb dX9_wrong_31 ?_
  refine tp_i (w := 0) (by decide) ?_
  refine lv_iadd hx hb dX9_wrong_32 ?_
  refine tp_i (w := 1) (by decide) ?_
  refine lv_iload_n hx hb dX9_wrong_33 rfl (lv_at hl 3 rfl) ?_
  refine lv_iadd hx hb dX9_wrong_34 ?_
  refine tp_i (w := 1) (by decide) ?_
  refine t_pi hx hb hts hown hK hLA hB hS mh0 th0 fi_9_6 rfl rfl rfl (i_lo _) (i_hi _) (Or.inl (by decide)) mw_1_45 dX9_wrong_35 (fun H locs σ_2 eσ_2 hB hS => ?_)
  have k_3 : σ_2 h0 6 = 1 := by rw [eσ_2]; exact up2_same _ _ _ _
  refine lv_iconst (v := 0) hx hb dX9_wrong_38 (by decide) ?_
  exact W.zret (v := 0) hx hb hr rfl (fun t ht hW => ⟨⟨0, (σ_2, ρ), rfl, ⟨hB.2.1, hB.2.2, ⟨rfl, k_3⟩⟩, (show TP D cA L T r σ_2 ρ t.heap from by rw [ht]; exact hB.1)⟩, hS.F ht⟩) hS.2.2 dX9_wrong_39
set_option maxHeartbeats 4000000 in
set_option maxRecDepth 100000 in
theorem cz_X8_clear (l : Launch) (D : va_G) (cA : Nat → ClassId) (L : List Nat) (T : Nat → Nat) (r : Rg) (hG : GR L T r) (hL : L.Nodup) (σ : Sg) (ρ : Lg) (hW : WT L rz T σ) (sz : Nat) (h0 : Nat) (mh0 : h0 ∈ L) (th0 : T h0 = 8) : Met l yX8_clear (.code yX8_clear cX8_clear 2 none :: wsA) ({ frames := 0, cells := 0, slots := 0, locals := 0 }) (PR D cA L T r σ ρ sz [.ref h0]) (QV D cA L T r rz [(8, 6), (8, 7), (45, 1000), (46, 1000), (47, 1000), (48, 1000), (49, 1000), (50, 1000)] σ sz (fun σ1 => True)) 0 0 (dm L sz) := by
  refine Met.ofW (cc := cX8_clear) (maxL := 2) (ret := none) (by decide) rfl ?_
  intro p e s m args below meth c s₁ B hml hv
  obtain ⟨rfl, hsz, hP, hK, hN⟩ := hv
  have hx := B.exec
  have hb := B.bytes
  have hr := B.returns
  have hts : ∀ w ∈ wsA, w.before _ s = true := fun w h => atoms_spec (ws := .code yX8_clear cX8_clear 2 none :: wsA) B.pre w (List.mem_cons_of_mem _ h)
  have hown : s.vm.findClass RX8 = some m.cls := findClass_of_methodNamed B.named
  subst hsz
  have hLA : LA (dm L s.heap.size) L := ⟨hL, fun a h => Or.inl h⟩
  have hA : ∀ q : Nat, s.heap.size ≤ q → dm L s.heap.size q := fun q h => Or.inr h
  have hS : va_S (dm L s.heap.size) s.heap s.heap [] := va_S.rf
  have hB : TS D cA L T r rz [(8, 6), (8, 7), (45, 1000), (46, 1000), (47, 1000), (48, 1000), (49, 1000), (50, 1000)] σ σ ρ s.heap := ⟨hP, hW, FR.rf⟩
  have hl := lv_entry ([.ref h0]) (n := 2) (Nat.le_of_ble_eq_true rfl)
  rw [lg_entry_eq]
  generalize (lg_sl ([.ref h0]) ++ List.replicate (2 - (lg_sl ([.ref h0])).length) Slot.unset).toArray = ls at hl ⊢
  have hl : lv_has ls 2 [(0, .ref h0)] := hl
  refine lv_iconst (v := 0) hx hb dX8_clear_0 (by decide) ?_
  refine lv_istore_n (lv' := [(1, .int 0), (0, .ref h0)]) hx hb dX8_clear_1 rfl hl (by decide) rfl (fun ls hl => ?_)
  refine w_loop (α := Int32 × Sg × Lg) (fun (i_1, σ_2, ρ_3) H locs ls => 0 ≤ i_1.toInt ∧ i_1.toInt ≤ 4 ∧ TS D cA L T r rz [(8, 6), (8, 7), (45, 1000), (46, 1000), (47, 1000), (48, 1000), (49, 1000), (50, 1000)] σ σ_2 ρ_3 H ∧ va_S (dm L s.heap.size) s.heap H locs ∧ lv_has ls 2 [(1, .int i_1), (0, .ref h0)]) (fun (i_1, σ_2, ρ_3) => (4 - i_1.toInt).toNat) ?_ ⟨0, σ, ρ⟩ ⟨(by decide), (by decide), hB, hS, lv_sub hl [0, 1] rfl⟩
  rintro ⟨i_1, σ_2, ρ_3⟩ H locs ls ⟨li_1, ui_1, hB, hS, hl⟩ ih_4
  refine lv_iload_n hx hb dX8_clear_2 rfl (lv_at hl 0 rfl) ?_
  refine lv_iconst (v := 4) hx hb dX8_clear_3 (by decide) ?_
  refine lv_icmp_ge (tgt := 41) hx hb dX8_clear_4 (by decide) (fun c_5 => ?_) (fun c_5 => ?_)
  · skip
    have uc_5 := i_ge (n := 4) (by decide) c_5
    refine lv_iconst (v := 0) hx hb dX8_clear_41 (by decide) ?_
    refine lv_istore_n (lv' := [(1, .int 0), (0, .ref h0)]) hx hb dX8_clear_42 rfl hl (by decide) rfl (fun ls hl => ?_)
    refine w_loop (α := Int32 × Sg × Lg) (fun (i_6, σ_7, ρ_8) H locs ls => 0 ≤ i_6.toInt ∧ i_6.toInt ≤ 20 ∧ TS D cA L T r rz [(8, 6), (8, 7), (45, 1000), (46, 1000), (47, 1000), (48, 1000), (49, 1000), (50, 1000)] σ σ_7 ρ_8 H ∧ va_S (dm L s.heap.size) s.heap H locs ∧ lv_has ls 2 [(1, .int i_6), (0, .ref h0)]) (fun (i_6, σ_7, ρ_8) => (20 - i_6.toInt).toNat) ?_ ⟨0, σ_2, ρ_3⟩ ⟨(by decide), (by decide), hB, hS, lv_sub hl [0, 1] rfl⟩
    rintro ⟨i_6, σ_7, ρ_8⟩ H locs ls ⟨li_6, ui_6, hB, hS, hl⟩ ih_9
    refine lv_iload_n hx hb dX8_clear_43 rfl (lv_at hl 0 rfl) ?_
    refine lv_aload_n hx hb dX8_clear_44 rfl (lv_at hl 1 rfl) ?_
    refine t_gr hx hb hts hown hK hG hB mh0 th0 fq_8_4 rfl mw_1_95 dX8_clear_45 (fun b_10 hb_10 mb_10 tb_10 => ?_)
    refine t_len (n := 20) (v := 20) hx hb hK hB mb_10 tb_10 ((ai_49) _ _ _ _) rfl (show (tyA cA)[1]? = some (cA 1, _) from rfl) (by decide) dX8_clear_48 ?_
    refine lv_icmp_ge (tgt := 65) hx hb dX8_clear_49 (by decide) (fun c_11 => ?_) (fun c_11 => ?_)
    · skip
      have uc_11 := i_ge (n := 20) (by decide) c_11
      refine lv_iconst (v := 0) hx hb dX8_clear_65 (by decide) ?_
      refine lv_istore_n (lv' := [(1, .int 0), (0, .ref h0)]) hx hb dX8_clear_66 rfl hl (by decide) rfl (fun ls hl => ?_)
      refine w_loop (α := Int32 × Sg × Lg) (fun (i_12, σ_13, ρ_14) H locs ls => 0 ≤ i_12.toInt ∧ i_12.toInt ≤ 40 ∧ TS D cA L T r rz [(8, 6), (8, 7), (45, 1000), (46, 1000), (47, 1000), (48, 1000), (49, 1000), (50, 1000)] σ σ_13 ρ_14 H ∧ va_S (dm L s.heap.size) s.heap H locs ∧ lv_has ls 2 [(1, .int i_12), (0, .ref h0)]) (fun (i_12, σ_13, ρ_14) => (40 - i_12.toInt).toNat) ?_ ⟨0, σ_7, ρ_8⟩ ⟨(by decide), (by decide), hB, hS, lv_sub hl [0, 1] rfl⟩
      rintro ⟨i_12, σ_13, ρ_14⟩ H locs ls ⟨li_12, ui_12, hB, hS, hl⟩ ih_15
      refine lv_iload_n hx hb dX8_clear_67 rfl (lv_at hl 0 rfl) ?_
      refine lv_aload_n hx hb dX8_clear_68 rfl (lv_at hl 1 rfl) ?_
      refine t_gr hx hb hts hown hK hG hB mh0 th0 fq_8_5 rfl mw_1_100 dX8_clear_69 (fun b_16 hb_16 mb_16 tb_16 => ?_)
      refine t_len (n := 40) (v := 40) hx hb hK hB mb_16 tb_16 ((ai_50) _ _ _ _) rfl (show (tyA cA)[1]? = some (cA 1, _) from rfl) (by decide) dX8_clear_72 ?_
      refine lv_icmp_ge (tgt := 89) hx hb dX8_clear_73 (by decide) (fun c_17 => ?_) (fun c_17 => ?_)
      · skip
        have uc_17 := i_ge (n := 40) (by decide) c_17
        refine lv_aload_n hx hb dX8_clear_89 rfl (lv_at hl 1 rfl) ?_
        refine lv_iconst (v := 0) hx hb dX8_clear_90 (by decide) ?_
        refine t_pi hx hb hts hown hK hLA hB hS mh0 th0 fi_8_6 rfl rfl rfl (by decide) (by decide) (Or.inl (by decide)) mw_1_106 dX8_clear_91 (fun H locs σ_18 eσ_18 hB hS => ?_)
        have k_19 : σ_18 h0 6 = 0 := by rw [eσ_18]; exact up2_same _ _ _ _
        refine lv_aload_n hx hb dX8_clear_94 rfl (lv_at hl 1 rfl) ?_
        refine lv_iconst (v := 0) hx hb dX8_clear_95 (by decide) ?_
        refine t_pi hx hb hts hown hK hLA hB hS mh0 th0 fi_8_7 rfl rfl rfl (by decide) (by decide) (Or.inl (by decide)) mw_1_110 dX8_clear_96 (fun H locs σ_20 eσ_20 hB hS => ?_)
        have k_21 : σ_20 h0 7 = 0 := by rw [eσ_20]; exact up2_same _ _ _ _
        exact W.vret hx hb hr (fun t ht hW => ⟨⟨(σ_20, ρ_14), rfl, ⟨hB.2.1, hB.2.2, trivial⟩, (show TP D cA L T r σ_20 ρ_14 t.heap from by rw [ht]; exact hB.1)⟩, hS.F ht⟩) hS.2.2 dX8_clear_99
      · skip
        have uc_17 := i_nge (n := 40) (by decide) c_17
        refine lv_aload_n hx hb dX8_clear_76 rfl (lv_at hl 1 rfl) ?_
        refine t_gk hx hb hts hown hK hB mh0 th0 fq_8_5 hb_16 mw_1_100 dX8_clear_77 ?_
        refine lv_iload_n hx hb dX8_clear_80 rfl (lv_at hl 0 rfl) ?_
        refine lv_iconst (v := 0) hx hb dX8_clear_81 (by decide) ?_
        refine t_si hx hb hK hLA hB hS mb_16 tb_16 ai_50 (i_in (by omega) (by omega)) (show 0 ≤ (0 : Int32).toInt by decide) (show (0 : Int32).toInt ≤ 0 by decide) (Or.inr (by decide)) dX8_clear_82 (fun H locs σ_22 eσ_22 hB hS => ?_)
        obtain ⟨x_23, ex_23⟩ : ∃ y : Int32, y = i_12 + 1 := ⟨_, rfl⟩
        have vx_23 := b_add (rfl : i_12.toInt = _) (by decide : (1 : Int32).toInt = 1) ex_23 (by omega) (by omega)
        refine lv_iinc (v := x_23) (lv' := [(1, .int x_23), (0, .ref h0)]) hx hb dX8_clear_83 hl (k := 0) rfl (by rw [ex_23]; rfl) (by decide) rfl (fun ls hl => ?_)
        refine lv_goto (tgt := 67) hx hb dX8_clear_86 (by decide) ?_
        exact ih_15 ⟨x_23, σ_22, ρ_14⟩ _ _ _ ⟨(by omega), (by omega), hB, hS, lv_sub hl [0, 1] rfl⟩ (by show (40 - x_23.toInt).toNat < (40 - i_12.toInt).toNat; omega)
    · skip
      have uc_11 := i_nge (n := 20) (by decide) c_11
      refine lv_aload_n hx hb dX8_clear_52 rfl (lv_at hl 1 rfl) ?_
      refine t_gk hx hb hts hown hK hB mh0 th0 fq_8_4 hb_10 mw_1_95 dX8_clear_53 ?_
      refine lv_iload_n hx hb dX8_clear_56 rfl (lv_at hl 0 rfl) ?_
      refine lv_iconst (v := 0) hx hb dX8_clear_57 (by decide) ?_
      refine t_si hx hb hK hLA hB hS mb_10 tb_10 ai_49 (i_in (by omega) (by omega)) (show 0 ≤ (0 : Int32).toInt by decide) (show (0 : Int32).toInt ≤ 0 by decide) (Or.inr (by decide)) dX8_clear_58 (fun H locs σ_24 eσ_24 hB hS => ?_)
      obtain ⟨x_25, ex_25⟩ : ∃ y : Int32, y = i_6 + 1 := ⟨_, rfl⟩
      have vx_25 := b_add (rfl : i_6.toInt = _) (by decide : (1 : Int32).toInt = 1) ex_25 (by omega) (by omega)
      refine lv_iinc (v := x_25) (lv' := [(1, .int x_25), (0, .ref h0)]) hx hb dX8_clear_59 hl (k := 0) rfl (by rw [ex_25]; rfl) (by decide) rfl (fun ls hl => ?_)
      refine lv_goto (tgt := 43) hx hb dX8_clear_62 (by decide) ?_
      exact ih_9 ⟨x_25, σ_24, ρ_8⟩ _ _ _ ⟨(by omega), (by omega), hB, hS, lv_sub hl [0, 1] rfl⟩ (by show (20 - x_25.toInt).toNat < (20 - i_6.toInt).toNat; omega)
  · skip
    have uc_5 := i_nge (n := 4) (by decide) c_5
    refine lv_aload_n hx hb dX8_clear_7 rfl (lv_at hl 1 rfl) ?_
    refine t_gr hx hb hts hown hK hG hB mh0 th0 fq_8_0 rfl mw_1_80 dX8_clear_8 (fun b_26 hb_26 mb_26 tb_26 => ?_)
    refine lv_iload_n hx hb dX8_clear_11 rfl (lv_at hl 0 rfl) ?_
    refine lv_iconst (v := 0) hx hb dX8_clear_12 (by decide) ?_
    refine t_si hx hb hK hLA hB hS mb_26 tb_26 ai_45 (i_in (by omega) (by omega)) (show 0 ≤ (0 : Int32).toInt by decide) (show (0 : Int32).toInt ≤ 0 by decide) (Or.inr (by decide)) dX8_clear_13 (fun H locs σ_27 eσ_27 hB hS => ?_)
    refine lv_aload_n hx hb dX8_clear_14 rfl (lv_at hl 1 rfl) ?_
    refine t_gr hx hb hts hown hK hG hB mh0 th0 fq_8_1 rfl mw_1_85 dX8_clear_15 (fun b_28 hb_28 mb_28 tb_28 => ?_)
    refine lv_iload_n hx hb dX8_clear_18 rfl (lv_at hl 0 rfl) ?_
    refine lv_iconst (v := 0) hx hb dX8_clear_19 (by decide) ?_
    refine t_si hx hb hK hLA hB hS mb_28 tb_28 ai_46 (i_in (by omega) (by omega)) (show 0 ≤ (0 : Int32).toInt by decide) (show (0 : Int32).toInt ≤ 0 by decide) (Or.inr (by decide)) dX8_clear_20 (fun H locs σ_29 eσ_29 hB hS => ?_)
    refine lv_aload_n hx hb dX8_clear_21 rfl (lv_at hl 1 rfl) ?_
    refine t_gr hx hb hts hown hK hG hB mh0 th0 fq_8_2 rfl mw_1_89 dX8_clear_22 (fun b_30 hb_30 mb_30 tb_30 => ?_)
    refine lv_iload_n hx hb dX8_clear_25 rfl (lv_at hl 0 rfl) ?_
    refine lv_iconst (v := 0) hx hb dX8_clear_26 (by decide) ?_
    refine t_si hx hb hK hLA hB hS mb_30 tb_30 ai_47 (i_in (by omega) (by omega)) (show 0 ≤ (0 : Int32).toInt by decide) (show (0 : Int32).toInt ≤ 0 by decide) (Or.inr (by decide)) dX8_clear_27 (fun H locs σ_31 eσ_31 hB hS => ?_)
    refine lv_aload_n hx hb dX8_clear_28 rfl (lv_at hl 1 rfl) ?_
    refine t_gr hx hb hts hown hK hG hB mh0 th0 fq_8_3 rfl mw_1_92 dX8_clear_29 (fun b_32 hb_32 mb_32 tb_32 => ?_)
    refine lv_iload_n hx hb dX8_clear_32 rfl (lv_at hl 0 rfl) ?_
    refine lv_iconst (v := 0) hx hb dX8_clear_33 (by decide) ?_
    refine t_si hx hb hK hLA hB hS mb_32 tb_32 ai_48 (i_in (by omega) (by omega)) (show 0 ≤ (0 : Int32).toInt by decide) (show (0 : Int32).toInt ≤ 0 by decide) (Or.inr (by decide)) dX8_clear_34 (fun H locs σ_33 eσ_33 hB hS => ?_)
    obtain ⟨x_34, ex_34⟩ : ∃ y : Int32, y = i_1 + 1 := ⟨_, rfl⟩
    have vx_34 := b_add (rfl : i_1.toInt = _) (by decide : (1 : Int32).toInt = 1) ex_34 (by omega) (by omega)
    refine lv_iinc (v := x_34) (lv' := [(1, .int x_34), (0, .ref h0)]) hx hb dX8_clear_35 hl (k := 0) rfl (by rw [ex_34]; rfl) (by decide) rfl (fun ls hl => ?_)
    refine lv_goto (tgt := 2) hx hb dX8_clear_38 (by decide) ?_
    exact ih_4 ⟨x_34, σ_33, ρ_3⟩ _ _ _ ⟨(by omega), (by omega), hB, hS, lv_sub hl [0, 1] rfl⟩ (by show (4 - x_34.toInt).toNat < (4 - i_1.toInt).toNat; omega)
set_option maxHeartbeats 4000000 in
set_option maxRecDepth 100000 in
theorem cz_X8_copyFrom (l : Launch) (D : va_G) (cA : Nat → ClassId) (L : List Nat) (T : Nat → Nat) (r : Rg) (hG : GR L T r) (hL : L.Nodup) (σ : Sg) (ρ : Lg) (hW : WT L rz T σ) (sz : Nat) (h0 : Nat) (mh0 : h0 ∈ L) (th0 : T h0 = 8) (h1 : Nat) (mh1 : h1 ∈ L) (th1 : T h1 = 8) : Met l yX8_copyFrom (.code yX8_copyFrom cX8_copyFrom 2 none :: wsA) ({ frames := 1, cells := 0, slots := 0, locals := 100 }) (PR D cA L T r σ ρ sz [.ref h0, .ref h1]) (QV D cA L T r rz [(8, 6), (8, 7), (45, 1000), (46, 1000), (47, 1000), (48, 1000), (49, 1000), (50, 1000)] σ sz (fun σ1 => True)) 0 0 (dm L sz) := by
  refine Met.ofW (cc := cX8_copyFrom) (maxL := 2) (ret := none) (by decide) rfl ?_
  intro p e s m args below meth c s₁ B hml hv
  obtain ⟨rfl, hsz, hP, hK, hN⟩ := hv
  have hx := B.exec
  have hb := B.bytes
  have hr := B.returns
  have hts : ∀ w ∈ wsA, w.before _ s = true := fun w h => atoms_spec (ws := .code yX8_copyFrom cX8_copyFrom 2 none :: wsA) B.pre w (List.mem_cons_of_mem _ h)
  have hown : s.vm.findClass RX8 = some m.cls := findClass_of_methodNamed B.named
  subst hsz
  have hLA : LA (dm L s.heap.size) L := ⟨hL, fun a h => Or.inl h⟩
  have hA : ∀ q : Nat, s.heap.size ≤ q → dm L s.heap.size q := fun q h => Or.inr h
  have hS : va_S (dm L s.heap.size) s.heap s.heap [] := va_S.rf
  have hB : TS D cA L T r rz [(8, 6), (8, 7), (45, 1000), (46, 1000), (47, 1000), (48, 1000), (49, 1000), (50, 1000)] σ σ ρ s.heap := ⟨hP, hW, FR.rf⟩
  have hl := lv_entry ([.ref h0, .ref h1]) (n := 2) (Nat.le_of_ble_eq_true rfl)
  rw [lg_entry_eq]
  generalize (lg_sl ([.ref h0, .ref h1]) ++ List.replicate (2 - (lg_sl ([.ref h0, .ref h1])).length) Slot.unset).toArray = ls at hl ⊢
  have hl : lv_has ls 2 [(0, .ref h0), (1, .ref h1)] := hl
  refine lv_aload_n hx hb dX8_copyFrom_0 rfl (lv_at hl 1 rfl) ?_
  refine t_gr hx hb hts hown hK hG hB mh1 th1 fq_8_0 rfl mw_1_80 dX8_copyFrom_1 (fun b_1 hb_1 mb_1 tb_1 => ?_)
  refine lv_iconst (v := 0) hx hb dX8_copyFrom_4 (by decide) ?_
  refine lv_aload_n hx hb dX8_copyFrom_5 rfl (lv_at hl 0 rfl) ?_
  refine t_gr hx hb hts hown hK hG hB mh0 th0 fq_8_0 rfl mw_1_80 dX8_copyFrom_6 (fun b_2 hb_2 mb_2 tb_2 => ?_)
  refine lv_iconst (v := 0) hx hb dX8_copyFrom_9 (by decide) ?_
  refine lv_iconst (v := 4) hx hb dX8_copyFrom_10 (by decide) ?_
  refine t_cp (lo := 0) (hi := 0) hx hb (hml.trans hl.1.symm) hts hown mw_4_4 ⟨mw_3_239, mw_3_238, mw_1_20⟩ hK hLA hB hS mb_1 tb_1 ai_45 mb_2 tb_2 ai_45 (fun _ => ⟨show (0 : Int) ≤ 0 by decide, show (0 : Int) ≤ 0 by decide⟩) (fun _ => rfl) (by decide) (by decide) (by decide) (by decide) (by decide) (by decide) (Nat.le_of_ble_eq_true rfl) (Nat.le_of_ble_eq_true rfl) dX8_copyFrom_11 (fun H locs σ_3 eσ_3 hB hS => ?_)
  refine lv_aload_n hx hb dX8_copyFrom_14 rfl (lv_at hl 1 rfl) ?_
  refine t_gr hx hb hts hown hK hG hB mh1 th1 fq_8_1 rfl mw_1_85 dX8_copyFrom_15 (fun b_4 hb_4 mb_4 tb_4 => ?_)
  refine lv_iconst (v := 0) hx hb dX8_copyFrom_18 (by decide) ?_
  refine lv_aload_n hx hb dX8_copyFrom_19 rfl (lv_at hl 0 rfl) ?_
  refine t_gr hx hb hts hown hK hG hB mh0 th0 fq_8_1 rfl mw_1_85 dX8_copyFrom_20 (fun b_5 hb_5 mb_5 tb_5 => ?_)
  refine lv_iconst (v := 0) hx hb dX8_copyFrom_23 (by decide) ?_
  refine lv_iconst (v := 4) hx hb dX8_copyFrom_24 (by decide) ?_
  refine t_cp (lo := 0) (hi := 0) hx hb (hml.trans hl.1.symm) hts hown mw_4_4 ⟨mw_3_239, mw_3_238, mw_1_20⟩ hK hLA hB hS mb_4 tb_4 ai_46 mb_5 tb_5 ai_46 (fun _ => ⟨show (0 : Int) ≤ 0 by decide, show (0 : Int) ≤ 0 by decide⟩) (fun _ => rfl) (by decide) (by decide) (by decide) (by decide) (by decide) (by decide) (Nat.le_of_ble_eq_true rfl) (Nat.le_of_ble_eq_true rfl) dX8_copyFrom_25 (fun H locs σ_6 eσ_6 hB hS => ?_)
  refine lv_aload_n hx hb dX8_copyFrom_28 rfl (lv_at hl 1 rfl) ?_
  refine t_gr hx hb hts hown hK hG hB mh1 th1 fq_8_2 rfl mw_1_89 dX8_copyFrom_29 (fun b_7 hb_7 mb_7 tb_7 => ?_)
  refine lv_iconst (v := 0) hx hb dX8_copyFrom_32 (by decide) ?_
  refine lv_aload_n hx hb dX8_copyFrom_33 rfl (lv_at hl 0 rfl) ?_
  refine t_gr hx hb hts hown hK hG hB mh0 th0 fq_8_2 rfl mw_1_89 dX8_copyFrom_34 (fun b_8 hb_8 mb_8 tb_8 => ?_)
  refine lv_iconst (v := 0) hx hb dX8_copyFrom_37 (by decide) ?_
  refine lv_iconst (v := 4) hx hb dX8_copyFrom_38 (by decide) ?_
  refine t_cp (lo := 0) (hi := 0) hx hb (hml.trans hl.1.symm) hts hown mw_4_4 ⟨mw_3_239, mw_3_238, mw_1_20⟩ hK hLA hB hS mb_7 tb_7 ai_47 mb_8 tb_8 ai_47 (fun _ => ⟨show (0 : Int) ≤ 0 by decide, show (0 : Int) ≤ 0 by decide⟩) (fun _ => rfl) (by decide) (by decide) (by decide) (by decide) (by decide) (by decide) (Nat.le_of_ble_eq_true rfl) (Nat.le_of_ble_eq_true rfl) dX8_copyFrom_39 (fun H locs σ_9 eσ_9 hB hS => ?_)
  refine lv_aload_n hx hb dX8_copyFrom_42 rfl (lv_at hl 1 rfl) ?_
  refine t_gr hx hb hts hown hK hG hB mh1 th1 fq_8_3 rfl mw_1_92 dX8_copyFrom_43 (fun b_10 hb_10 mb_10 tb_10 => ?_)
  refine lv_iconst (v := 0) hx hb dX8_copyFrom_46 (by decide) ?_
  refine lv_aload_n hx hb dX8_copyFrom_47 rfl (lv_at hl 0 rfl) ?_
  refine t_gr hx hb hts hown hK hG hB mh0 th0 fq_8_3 rfl mw_1_92 dX8_copyFrom_48 (fun b_11 hb_11 mb_11 tb_11 => ?_)
  refine lv_iconst (v := 0) hx hb dX8_copyFrom_51 (by decide) ?_
  refine lv_iconst (v := 4) hx hb dX8_copyFrom_52 (by decide) ?_
  refine t_cp (lo := 0) (hi := 0) hx hb (hml.trans hl.1.symm) hts hown mw_4_4 ⟨mw_3_239, mw_3_238, mw_1_20⟩ hK hLA hB hS mb_10 tb_10 ai_48 mb_11 tb_11 ai_48 (fun _ => ⟨show (0 : Int) ≤ 0 by decide, show (0 : Int) ≤ 0 by decide⟩) (fun _ => rfl) (by decide) (by decide) (by decide) (by decide) (by decide) (by decide) (Nat.le_of_ble_eq_true rfl) (Nat.le_of_ble_eq_true rfl) dX8_copyFrom_53 (fun H locs σ_12 eσ_12 hB hS => ?_)
  refine lv_aload_n hx hb dX8_copyFrom_56 rfl (lv_at hl 1 rfl) ?_
  refine t_gr hx hb hts hown hK hG hB mh1 th1 fq_8_4 rfl mw_1_95 dX8_copyFrom_57 (fun b_13 hb_13 mb_13 tb_13 => ?_)
  refine lv_iconst (v := 0) hx hb dX8_copyFrom_60 (by decide) ?_
  refine lv_aload_n hx hb dX8_copyFrom_61 rfl (lv_at hl 0 rfl) ?_
  refine t_gr hx hb hts hown hK hG hB mh0 th0 fq_8_4 rfl mw_1_95 dX8_copyFrom_62 (fun b_14 hb_14 mb_14 tb_14 => ?_)
  refine lv_iconst (v := 0) hx hb dX8_copyFrom_65 (by decide) ?_
  refine lv_bipush (v := 20) hx hb dX8_copyFrom_66 (by decide) ?_
  refine t_cp (lo := 0) (hi := 0) hx hb (hml.trans hl.1.symm) hts hown mw_4_4 ⟨mw_3_239, mw_3_238, mw_1_20⟩ hK hLA hB hS mb_13 tb_13 ai_49 mb_14 tb_14 ai_49 (fun _ => ⟨show (0 : Int) ≤ 0 by decide, show (0 : Int) ≤ 0 by decide⟩) (fun _ => rfl) (by decide) (by decide) (by decide) (by decide) (by decide) (by decide) (Nat.le_of_ble_eq_true rfl) (Nat.le_of_ble_eq_true rfl) dX8_copyFrom_68 (fun H locs σ_15 eσ_15 hB hS => ?_)
  refine lv_aload_n hx hb dX8_copyFrom_71 rfl (lv_at hl 1 rfl) ?_
  refine t_gr hx hb hts hown hK hG hB mh1 th1 fq_8_5 rfl mw_1_100 dX8_copyFrom_72 (fun b_16 hb_16 mb_16 tb_16 => ?_)
  refine lv_iconst (v := 0) hx hb dX8_copyFrom_75 (by decide) ?_
  refine lv_aload_n hx hb dX8_copyFrom_76 rfl (lv_at hl 0 rfl) ?_
  refine t_gr hx hb hts hown hK hG hB mh0 th0 fq_8_5 rfl mw_1_100 dX8_copyFrom_77 (fun b_17 hb_17 mb_17 tb_17 => ?_)
  refine lv_iconst (v := 0) hx hb dX8_copyFrom_80 (by decide) ?_
  refine lv_bipush (v := 40) hx hb dX8_copyFrom_81 (by decide) ?_
  refine t_cp (lo := 0) (hi := 0) hx hb (hml.trans hl.1.symm) hts hown mw_4_4 ⟨mw_3_239, mw_3_238, mw_1_20⟩ hK hLA hB hS mb_16 tb_16 ai_50 mb_17 tb_17 ai_50 (fun _ => ⟨show (0 : Int) ≤ 0 by decide, show (0 : Int) ≤ 0 by decide⟩) (fun _ => rfl) (by decide) (by decide) (by decide) (by decide) (by decide) (by decide) (Nat.le_of_ble_eq_true rfl) (Nat.le_of_ble_eq_true rfl) dX8_copyFrom_83 (fun H locs σ_18 eσ_18 hB hS => ?_)
  refine lv_aload_n hx hb dX8_copyFrom_86 rfl (lv_at hl 0 rfl) ?_
  refine lv_aload_n hx hb dX8_copyFrom_87 rfl (lv_at hl 1 rfl) ?_
  refine t_gi hx hb hts hown hK hB mh1 th1 fi_8_6 rfl mw_1_106 dX8_copyFrom_88 (fun x_19 ex_19 lx_19 ux_19 => ?_)
  obtain rfl : x_19 = 0 := i_is (n := 0) (by decide) (by omega)
  refine t_pi hx hb hts hown hK hLA hB hS mh0 th0 fi_8_6 rfl rfl rfl (by decide) (by decide) (Or.inl (by decide)) mw_1_106 dX8_copyFrom_91 (fun H locs σ_20 eσ_20 hB hS => ?_)
  have k_21 : σ_20 h0 6 = 0 := by rw [eσ_20]; exact up2_same _ _ _ _
  refine lv_aload_n hx hb dX8_copyFrom_94 rfl (lv_at hl 0 rfl) ?_
  refine lv_aload_n hx hb dX8_copyFrom_95 rfl (lv_at hl 1 rfl) ?_
  refine t_gi hx hb hts hown hK hB mh1 th1 fi_8_7 rfl mw_1_110 dX8_copyFrom_96 (fun x_22 ex_22 lx_22 ux_22 => ?_)
  obtain rfl : x_22 = 0 := i_is (n := 0) (by decide) (by omega)
  refine t_pi hx hb hts hown hK hLA hB hS mh0 th0 fi_8_7 rfl rfl rfl (by decide) (by decide) (Or.inl (by decide)) mw_1_110 dX8_copyFrom_99 (fun H locs σ_23 eσ_23 hB hS => ?_)
  have k_24 : σ_23 h0 7 = 0 := by rw [eσ_23]; exact up2_same _ _ _ _
  exact W.vret hx hb hr (fun t ht hW => ⟨⟨(σ_23, ρ), rfl, ⟨hB.2.1, hB.2.2, trivial⟩, (show TP D cA L T r σ_23 ρ t.heap from by rw [ht]; exact hB.1)⟩, hS.F ht⟩) hS.2.2 dX8_copyFrom_102
set_option maxHeartbeats 4000000 in
set_option maxRecDepth 100000 in
theorem cz_X8_lying (l : Launch) (D : va_G) (cA : Nat → ClassId) (L : List Nat) (T : Nat → Nat) (r : Rg) (hG : GR L T r) (hL : L.Nodup) (σ : Sg) (ρ : Lg) (hW : WT L rz T σ) (sz : Nat) (h0 : Nat) (mh0 : h0 ∈ L) (th0 : T h0 = 8) : Met l yX8_lying (.code yX8_lying cX8_lying 3 (some .int) :: wsA) ({ frames := 0, cells := 0, slots := 0, locals := 0 }) (PR D cA L T r σ ρ sz [.ref h0]) (QI D cA L T r rz ([] : List (Nat × Nat)) σ sz (fun x σ1 => x = 0)) 0 0 (dm L sz) := by
  refine Met.ofW (cc := cX8_lying) (maxL := 3) (ret := (some .int)) (by decide) rfl ?_
  intro p e s m args below meth c s₁ B hml hv
  obtain ⟨rfl, hsz, hP, hK, hN⟩ := hv
  have hx := B.exec
  have hb := B.bytes
  have hr := B.returns
  have hts : ∀ w ∈ wsA, w.before _ s = true := fun w h => atoms_spec (ws := .code yX8_lying cX8_lying 3 (some .int) :: wsA) B.pre w (List.mem_cons_of_mem _ h)
  have hown : s.vm.findClass RX8 = some m.cls := findClass_of_methodNamed B.named
  subst hsz
  have hLA : LA (dm L s.heap.size) L := ⟨hL, fun a h => Or.inl h⟩
  have hA : ∀ q : Nat, s.heap.size ≤ q → dm L s.heap.size q := fun q h => Or.inr h
  have hS : va_S (dm L s.heap.size) s.heap s.heap [] := va_S.rf
  have hB : TS D cA L T r rz ([] : List (Nat × Nat)) σ σ ρ s.heap := ⟨hP, hW, FR.rf⟩
  have hl := lv_entry ([.ref h0]) (n := 3) (Nat.le_of_ble_eq_true rfl)
  rw [lg_entry_eq]
  generalize (lg_sl ([.ref h0]) ++ List.replicate (3 - (lg_sl ([.ref h0])).length) Slot.unset).toArray = ls at hl ⊢
  have hl : lv_has ls 3 [(0, .ref h0)] := hl
  refine lv_iconst (v := 0) hx hb dX8_lying_0 (by decide) ?_
  refine lv_istore_n (lv' := [(1, .int 0), (0, .ref h0)]) hx hb dX8_lying_1 rfl hl (by decide) rfl (fun ls hl => ?_)
  refine lv_iconst (v := 0) hx hb dX8_lying_2 (by decide) ?_
  refine lv_istore_n (lv' := [(2, .int 0), (1, .int 0), (0, .ref h0)]) hx hb dX8_lying_3 rfl hl (by decide) rfl (fun ls hl => ?_)
  refine w_loop (α := Int32 × Sg × Lg) (fun (i_1, σ_2, ρ_3) H locs ls => 0 ≤ i_1.toInt ∧ i_1.toInt ≤ 40 ∧ TS D cA L T r rz ([] : List (Nat × Nat)) σ σ_2 ρ_3 H ∧ va_S (dm L s.heap.size) s.heap H locs ∧ lv_has ls 3 [(2, .int i_1), (1, .int 0), (0, .ref h0)]) (fun (i_1, σ_2, ρ_3) => (40 - i_1.toInt).toNat) ?_ ⟨0, σ, ρ⟩ ⟨(by decide), (by decide), hB, hS, lv_sub hl [0, 1, 2] rfl⟩
  rintro ⟨i_1, σ_2, ρ_3⟩ H locs ls ⟨li_1, ui_1, hB, hS, hl⟩ ih_4
  refine lv_iload_n hx hb dX8_lying_4 rfl (lv_at hl 0 rfl) ?_
  refine lv_aload_n hx hb dX8_lying_5 rfl (lv_at hl 2 rfl) ?_
  refine t_gr hx hb hts hown hK hG hB mh0 th0 fq_8_5 rfl mw_1_100 dX8_lying_6 (fun b_5 hb_5 mb_5 tb_5 => ?_)
  refine t_len (n := 40) (v := 40) hx hb hK hB mb_5 tb_5 ((ai_50) _ _ _ _) rfl (show (tyA cA)[1]? = some (cA 1, _) from rfl) (by decide) dX8_lying_9 ?_
  refine lv_icmp_ge (tgt := 28) hx hb dX8_lying_10 (by decide) (fun c_6 => ?_) (fun c_6 => ?_)
  · skip
    have uc_6 := i_ge (n := 40) (by decide) c_6
    refine lv_iload_n hx hb dX8_lying_28 rfl (lv_at hl 1 rfl) ?_
    exact W.iret (v := 0) hx hb hr (fun t ht hW => ⟨⟨0, (σ_2, ρ_3), rfl, ⟨hB.2.1, hB.2.2, rfl⟩, (show TP D cA L T r σ_2 ρ_3 t.heap from by rw [ht]; exact hB.1)⟩, hS.F ht⟩) hS.2.2 dX8_lying_29
  · skip
    have uc_6 := i_nge (n := 40) (by decide) c_6
    refine lv_iload_n hx hb dX8_lying_13 rfl (lv_at hl 1 rfl) ?_
    refine lv_aload_n hx hb dX8_lying_14 rfl (lv_at hl 2 rfl) ?_
    refine t_gk hx hb hts hown hK hB mh0 th0 fq_8_5 hb_5 mw_1_100 dX8_lying_15 ?_
    refine lv_iload_n hx hb dX8_lying_18 rfl (lv_at hl 0 rfl) ?_
    refine t_ai hx hb hK hB mb_5 tb_5 ai_50 (fun _ => rfl) (i_in (by omega) (by omega)) dX8_lying_19 (fun x_7 ex_7 lx_7 ux_7 => ?_)
    obtain rfl : x_7 = 0 := i_is (n := 0) (by decide) (by omega)
    refine lv_iadd hx hb dX8_lying_20 ?_
    refine tp_i (w := 0) (by decide) ?_
    refine lv_istore_n (lv' := [(1, .int 0), (2, .int i_1), (0, .ref h0)]) hx hb dX8_lying_21 rfl hl (by decide) rfl (fun ls hl => ?_)
    obtain ⟨x_8, ex_8⟩ : ∃ y : Int32, y = i_1 + 1 := ⟨_, rfl⟩
    have vx_8 := b_add (rfl : i_1.toInt = _) (by decide : (1 : Int32).toInt = 1) ex_8 (by omega) (by omega)
    refine lv_iinc (v := x_8) (lv' := [(2, .int x_8), (1, .int 0), (0, .ref h0)]) hx hb dX8_lying_22 hl (k := 1) rfl (by rw [ex_8]; rfl) (by decide) rfl (fun ls hl => ?_)
    refine lv_goto (tgt := 4) hx hb dX8_lying_25 (by decide) ?_
    exact ih_4 ⟨x_8, σ_2, ρ_3⟩ _ _ _ ⟨(by omega), (by omega), hB, hS, lv_sub hl [0, 1, 2] rfl⟩ (by show (40 - x_8.toInt).toNat < (40 - i_1.toInt).toNat; omega)
set_option maxHeartbeats 4000000 in
set_option maxRecDepth 100000 in
theorem cz_X8_atTop (l : Launch) (D : va_G) (cA : Nat → ClassId) (L : List Nat) (T : Nat → Nat) (r : Rg) (hG : GR L T r) (hL : L.Nodup) (σ : Sg) (ρ : Lg) (hW : WT L rz T σ) (sz : Nat) (h0 : Nat) (mh0 : h0 ∈ L) (th0 : T h0 = 8) (h1 : Nat) (mh1 : h1 ∈ L) (th1 : T h1 = 3) : Met l yX8_atTop (.code yX8_atTop cX8_atTop 4 (some .int) :: wsA) ({ frames := 0, cells := 0, slots := 0, locals := 0 }) (PR D cA L T r σ ρ sz [.ref h0, .ref h1]) (QI D cA L T r rz ([] : List (Nat × Nat)) σ sz (fun x σ1 => x = 0)) 0 0 (dm L sz) := by
  refine Met.ofW (cc := cX8_atTop) (maxL := 4) (ret := (some .int)) (by decide) rfl ?_
  intro p e s m args below meth c s₁ B hml hv
  obtain ⟨rfl, hsz, hP, hK, hN⟩ := hv
  have hx := B.exec
  have hb := B.bytes
  have hr := B.returns
  have hts : ∀ w ∈ wsA, w.before _ s = true := fun w h => atoms_spec (ws := .code yX8_atTop cX8_atTop 4 (some .int) :: wsA) B.pre w (List.mem_cons_of_mem _ h)
  have hown : s.vm.findClass RX8 = some m.cls := findClass_of_methodNamed B.named
  subst hsz
  have hLA : LA (dm L s.heap.size) L := ⟨hL, fun a h => Or.inl h⟩
  have hA : ∀ q : Nat, s.heap.size ≤ q → dm L s.heap.size q := fun q h => Or.inr h
  have hS : va_S (dm L s.heap.size) s.heap s.heap [] := va_S.rf
  have hB : TS D cA L T r rz ([] : List (Nat × Nat)) σ σ ρ s.heap := ⟨hP, hW, FR.rf⟩
  have hl := lv_entry ([.ref h0, .ref h1]) (n := 4) (Nat.le_of_ble_eq_true rfl)
  rw [lg_entry_eq]
  generalize (lg_sl ([.ref h0, .ref h1]) ++ List.replicate (4 - (lg_sl ([.ref h0, .ref h1])).length) Slot.unset).toArray = ls at hl ⊢
  have hl : lv_has ls 4 [(0, .ref h0), (1, .ref h1)] := hl
  refine lv_iconst (v := 0) hx hb dX8_atTop_0 (by decide) ?_
  refine lv_istore_n (lv' := [(2, .int 0), (0, .ref h0), (1, .ref h1)]) hx hb dX8_atTop_1 rfl hl (by decide) rfl (fun ls hl => ?_)
  refine lv_iconst (v := 0) hx hb dX8_atTop_2 (by decide) ?_
  refine lv_istore_n (lv' := [(3, .int 0), (2, .int 0), (0, .ref h0), (1, .ref h1)]) hx hb dX8_atTop_3 rfl hl (by decide) rfl (fun ls hl => ?_)
  refine lv_iload_n hx hb dX8_atTop_4 rfl (lv_at hl 0 rfl) ?_
  refine lv_aload_n hx hb dX8_atTop_5 rfl (lv_at hl 3 rfl) ?_
  refine t_gi hx hb hts hown hK hB mh1 th1 fi_3_10 rfl mw_1_188 dX8_atTop_6 (fun x_1 ex_1 lx_1 ux_1 => ?_)
  obtain rfl : x_1 = 0 := i_is (n := 0) (by decide) (by omega)
  refine lv_icmp_ge (tgt := 37) hx hb dX8_atTop_9 (by decide) (fun _ => ?_) (fun c9 => absurd (by decide) c9)
  refine lv_iload_n hx hb dX8_atTop_37 rfl (lv_at hl 1 rfl) ?_
  exact W.iret (v := 0) hx hb hr (fun t ht hW => ⟨⟨0, (σ, ρ), rfl, ⟨hB.2.1, hB.2.2, rfl⟩, (show TP D cA L T r σ ρ t.heap from by rw [ht]; exact hB.1)⟩, hS.F ht⟩) hS.2.2 dX8_atTop_38
set_option maxHeartbeats 4000000 in
set_option maxRecDepth 100000 in
theorem cz_X3_clear (l : Launch) (D : va_G) (cA : Nat → ClassId) (L : List Nat) (T : Nat → Nat) (r : Rg) (hG : GR L T r) (hL : L.Nodup) (σ : Sg) (ρ : Lg) (hW : WT L rz T σ) (sz : Nat) (h0 : Nat) (mh0 : h0 ∈ L) (th0 : T h0 = 3) : Met l yX3_clear (.code yX3_clear cX3_clear 1 none :: wsA) ({ frames := 1, cells := 0, slots := 0, locals := 21 }) (PR D cA L T r σ ρ sz [.ref h0]) (QV D cA L T r rz [(3, 6), (3, 7), (3, 8), (3, 9), (3, 10), (8, 6), (8, 7), (45, 1000), (46, 1000), (47, 1000), (48, 1000), (49, 1000), (50, 1000)] σ sz (fun σ1 => True)) 0 0 (dm L sz) := by
  refine Met.ofW (cc := cX3_clear) (maxL := 1) (ret := none) (by decide) rfl ?_
  intro p e s m args below meth c s₁ B hml hv
  obtain ⟨rfl, hsz, hP, hK, hN⟩ := hv
  have hx := B.exec
  have hb := B.bytes
  have hr := B.returns
  have hts : ∀ w ∈ wsA, w.before _ s = true := fun w h => atoms_spec (ws := .code yX3_clear cX3_clear 1 none :: wsA) B.pre w (List.mem_cons_of_mem _ h)
  have hown : s.vm.findClass RX3 = some m.cls := findClass_of_methodNamed B.named
  subst hsz
  have hLA : LA (dm L s.heap.size) L := ⟨hL, fun a h => Or.inl h⟩
  have hA : ∀ q : Nat, s.heap.size ≤ q → dm L s.heap.size q := fun q h => Or.inr h
  have hS : va_S (dm L s.heap.size) s.heap s.heap [] := va_S.rf
  have hB : TS D cA L T r rz [(3, 6), (3, 7), (3, 8), (3, 9), (3, 10), (8, 6), (8, 7), (45, 1000), (46, 1000), (47, 1000), (48, 1000), (49, 1000), (50, 1000)] σ σ ρ s.heap := ⟨hP, hW, FR.rf⟩
  have hl := lv_entry ([.ref h0]) (n := 1) (Nat.le_of_ble_eq_true rfl)
  rw [lg_entry_eq]
  generalize (lg_sl ([.ref h0]) ++ List.replicate (1 - (lg_sl ([.ref h0])).length) Slot.unset).toArray = ls at hl ⊢
  have hl : lv_has ls 1 [(0, .ref h0)] := hl
  refine lv_aload_n hx hb dX3_clear_0 rfl (lv_at hl 0 rfl) ?_
  refine lv_iconst (v := 0) hx hb dX3_clear_1 (by decide) ?_
  refine t_pi hx hb hts hown hK hLA hB hS mh0 th0 fi_3_6 rfl rfl rfl (by decide) (by decide) (Or.inl (by decide)) mw_1_162 dX3_clear_2 (fun H locs σ_1 eσ_1 hB hS => ?_)
  have k_2 : σ_1 h0 6 = 0 := by rw [eσ_1]; exact up2_same _ _ _ _
  refine lv_aload_n hx hb dX3_clear_5 rfl (lv_at hl 0 rfl) ?_
  refine lv_iconst (v := 0) hx hb dX3_clear_6 (by decide) ?_
  refine t_pi hx hb hts hown hK hLA hB hS mh0 th0 fi_3_7 rfl rfl rfl (by decide) (by decide) (Or.inl (by decide)) mw_1_165 dX3_clear_7 (fun H locs σ_3 eσ_3 hB hS => ?_)
  have k_4 : σ_3 h0 7 = 0 := by rw [eσ_3]; exact up2_same _ _ _ _
  refine lv_aload_n hx hb dX3_clear_10 rfl (lv_at hl 0 rfl) ?_
  refine lv_iconst (v := 0) hx hb dX3_clear_11 (by decide) ?_
  refine t_pi hx hb hts hown hK hLA hB hS mh0 th0 fi_3_8 rfl rfl rfl (by decide) (by decide) (Or.inl (by decide)) mw_1_171 dX3_clear_12 (fun H locs σ_5 eσ_5 hB hS => ?_)
  have k_6 : σ_5 h0 8 = 0 := by rw [eσ_5]; exact up2_same _ _ _ _
  refine lv_aload_n hx hb dX3_clear_15 rfl (lv_at hl 0 rfl) ?_
  refine lv_iconst (v := 0) hx hb dX3_clear_16 (by decide) ?_
  refine t_pi hx hb hts hown hK hLA hB hS mh0 th0 fi_3_9 rfl rfl rfl (by decide) (by decide) (Or.inl (by decide)) mw_1_179 dX3_clear_17 (fun H locs σ_7 eσ_7 hB hS => ?_)
  have k_8 : σ_7 h0 9 = 0 := by rw [eσ_7]; exact up2_same _ _ _ _
  refine lv_aload_n hx hb dX3_clear_20 rfl (lv_at hl 0 rfl) ?_
  refine lv_iconst (v := 0) hx hb dX3_clear_21 (by decide) ?_
  refine t_pi hx hb hts hown hK hLA hB hS mh0 th0 fi_3_10 rfl rfl rfl (by decide) (by decide) (Or.inl (by decide)) mw_1_185 dX3_clear_22 (fun H locs σ_9 eσ_9 hB hS => ?_)
  have k_10 : σ_9 h0 10 = 0 := by rw [eσ_9]; exact up2_same _ _ _ _
  refine lv_aload_n hx hb dX3_clear_25 rfl (lv_at hl 0 rfl) ?_
  refine t_gr hx hb hts hown hK hG hB mh0 th0 fq_3_5 rfl mw_1_158 dX3_clear_26 (fun b_11 hb_11 mb_11 tb_11 => ?_)
  refine t_cv (va_runV (As := []) (rest := []) ⟨hx, hb, hml, hown, hts⟩ (cz_X8_clear l D cA L T r hG hLA.1 σ_9 ρ hB.2.1 _ b_11 mb_11 tb_11) (cV hts mv_X8_clear mw_3_167 rfl rfl ⟨Nat.le_of_ble_eq_true rfl, Nat.le_of_ble_eq_true rfl⟩) (pV hB.1 hK hN mb_11 tb_11 (show shp cA 8 _ _ _ = .inr (8, Fs8 _ _ _) from rfl) rfl) rfl rfl hl.1 rfl (lv_room (Nat.le_of_ble_eq_true rfl)) dX3_clear_29 ⟨Nat.le_of_ble_eq_true rfl, Nat.le_of_ble_eq_true rfl⟩) hLA hA hB hS (by decide) (fun σ_12 ρ_13 H locs hB fσ_12 pσ_12 hS => ?_)
  exact W.vret hx hb hr (fun t ht hW => ⟨⟨(σ_12, ρ_13), rfl, ⟨hB.2.1, hB.2.2, trivial⟩, (show TP D cA L T r σ_12 ρ_13 t.heap from by rw [ht]; exact hB.1)⟩, hS.F ht⟩) hS.2.2 dX3_clear_32
set_option maxHeartbeats 4000000 in
set_option maxRecDepth 100000 in
theorem cz_X3_copyFrom (l : Launch) (D : va_G) (cA : Nat → ClassId) (L : List Nat) (T : Nat → Nat) (r : Rg) (hG : GR L T r) (hL : L.Nodup) (σ : Sg) (ρ : Lg) (hW : WT L rz T σ) (sz : Nat) (h0 : Nat) (mh0 : h0 ∈ L) (th0 : T h0 = 3) (h1 : Nat) (mh1 : h1 ∈ L) (th1 : T h1 = 3) : Met l yX3_copyFrom (.code yX3_copyFrom cX3_copyFrom 2 none :: wsA) ({ frames := 2, cells := 0, slots := 0, locals := 121 }) (PR D cA L T r σ ρ sz [.ref h0, .ref h1]) (QV D cA L T r rz [(3, 6), (3, 7), (3, 8), (3, 9), (3, 10), (8, 6), (8, 7), (33, 1000), (34, 1000), (35, 1000), (36, 1000), (37, 1000), (45, 1000), (46, 1000), (47, 1000), (48, 1000), (49, 1000), (50, 1000)] σ sz (fun σ1 => True)) 0 0 (dm L sz) := by
  refine Met.ofW (cc := cX3_copyFrom) (maxL := 2) (ret := none) (by decide) rfl ?_
  intro p e s m args below meth c s₁ B hml hv
  obtain ⟨rfl, hsz, hP, hK, hN⟩ := hv
  have hx := B.exec
  have hb := B.bytes
  have hr := B.returns
  have hts : ∀ w ∈ wsA, w.before _ s = true := fun w h => atoms_spec (ws := .code yX3_copyFrom cX3_copyFrom 2 none :: wsA) B.pre w (List.mem_cons_of_mem _ h)
  have hown : s.vm.findClass RX3 = some m.cls := findClass_of_methodNamed B.named
  subst hsz
  have hLA : LA (dm L s.heap.size) L := ⟨hL, fun a h => Or.inl h⟩
  have hA : ∀ q : Nat, s.heap.size ≤ q → dm L s.heap.size q := fun q h => Or.inr h
  have hS : va_S (dm L s.heap.size) s.heap s.heap [] := va_S.rf
  have hB : TS D cA L T r rz [(3, 6), (3, 7), (3, 8), (3, 9), (3, 10), (8, 6), (8, 7), (33, 1000), (34, 1000), (35, 1000), (36, 1000), (37, 1000), (45, 1000), (46, 1000), (47, 1000), (48, 1000), (49, 1000), (50, 1000)] σ σ ρ s.heap := ⟨hP, hW, FR.rf⟩
  have hl := lv_entry ([.ref h0, .ref h1]) (n := 2) (Nat.le_of_ble_eq_true rfl)
  rw [lg_entry_eq]
  generalize (lg_sl ([.ref h0, .ref h1]) ++ List.replicate (2 - (lg_sl ([.ref h0, .ref h1])).length) Slot.unset).toArray = ls at hl ⊢
  have hl : lv_has ls 2 [(0, .ref h0), (1, .ref h1)] := hl
  refine lv_aload_n hx hb dX3_copyFrom_0 rfl (lv_at hl 1 rfl) ?_
  refine t_gr hx hb hts hown hK hG hB mh1 th1 fq_3_0 rfl mw_1_130 dX3_copyFrom_1 (fun b_1 hb_1 mb_1 tb_1 => ?_)
  refine lv_iconst (v := 0) hx hb dX3_copyFrom_4 (by decide) ?_
  refine lv_aload_n hx hb dX3_copyFrom_5 rfl (lv_at hl 0 rfl) ?_
  refine t_gr hx hb hts hown hK hG hB mh0 th0 fq_3_0 rfl mw_1_130 dX3_copyFrom_6 (fun b_2 hb_2 mb_2 tb_2 => ?_)
  refine lv_iconst (v := 0) hx hb dX3_copyFrom_9 (by decide) ?_
  refine lv_iconst (v := 5) hx hb dX3_copyFrom_10 (by decide) ?_
  refine t_cp (lo := 0) (hi := 0) hx hb (hml.trans hl.1.symm) hts hown mw_3_237 ⟨mw_3_239, mw_3_238, mw_1_20⟩ hK hLA hB hS mb_1 tb_1 ai_33 mb_2 tb_2 ai_33 (fun _ => ⟨show (0 : Int) ≤ 0 by decide, show (0 : Int) ≤ 0 by decide⟩) (fun _ => rfl) (by decide) (by decide) (by decide) (by decide) (by decide) (by decide) (Nat.le_of_ble_eq_true rfl) (Nat.le_of_ble_eq_true rfl) dX3_copyFrom_11 (fun H locs σ_3 eσ_3 hB hS => ?_)
  refine lv_aload_n hx hb dX3_copyFrom_14 rfl (lv_at hl 1 rfl) ?_
  refine t_gr hx hb hts hown hK hG hB mh1 th1 fq_3_1 rfl mw_1_136 dX3_copyFrom_15 (fun b_4 hb_4 mb_4 tb_4 => ?_)
  refine lv_iconst (v := 0) hx hb dX3_copyFrom_18 (by decide) ?_
  refine lv_aload_n hx hb dX3_copyFrom_19 rfl (lv_at hl 0 rfl) ?_
  refine t_gr hx hb hts hown hK hG hB mh0 th0 fq_3_1 rfl mw_1_136 dX3_copyFrom_20 (fun b_5 hb_5 mb_5 tb_5 => ?_)
  refine lv_iconst (v := 0) hx hb dX3_copyFrom_23 (by decide) ?_
  refine lv_iconst (v := 5) hx hb dX3_copyFrom_24 (by decide) ?_
  refine t_cp (lo := 0) (hi := 0) hx hb (hml.trans hl.1.symm) hts hown mw_3_237 ⟨mw_3_239, mw_3_238, mw_1_20⟩ hK hLA hB hS mb_4 tb_4 ai_34 mb_5 tb_5 ai_34 (fun _ => ⟨show (0 : Int) ≤ 0 by decide, show (0 : Int) ≤ 0 by decide⟩) (fun _ => rfl) (by decide) (by decide) (by decide) (by decide) (by decide) (by decide) (Nat.le_of_ble_eq_true rfl) (Nat.le_of_ble_eq_true rfl) dX3_copyFrom_25 (fun H locs σ_6 eσ_6 hB hS => ?_)
  refine lv_aload_n hx hb dX3_copyFrom_28 rfl (lv_at hl 1 rfl) ?_
  refine t_gr hx hb hts hown hK hG hB mh1 th1 fq_3_2 rfl mw_1_141 dX3_copyFrom_29 (fun b_7 hb_7 mb_7 tb_7 => ?_)
  refine lv_iconst (v := 0) hx hb dX3_copyFrom_32 (by decide) ?_
  refine lv_aload_n hx hb dX3_copyFrom_33 rfl (lv_at hl 0 rfl) ?_
  refine t_gr hx hb hts hown hK hG hB mh0 th0 fq_3_2 rfl mw_1_141 dX3_copyFrom_34 (fun b_8 hb_8 mb_8 tb_8 => ?_)
  refine lv_iconst (v := 0) hx hb dX3_copyFrom_37 (by decide) ?_
  refine lv_iconst (v := 5) hx hb dX3_copyFrom_38 (by decide) ?_
  refine t_cp (lo := 0) (hi := 0) hx hb (hml.trans hl.1.symm) hts hown mw_3_237 ⟨mw_3_239, mw_3_238, mw_1_20⟩ hK hLA hB hS mb_7 tb_7 ai_35 mb_8 tb_8 ai_35 (fun _ => ⟨show (0 : Int) ≤ 0 by decide, show (0 : Int) ≤ 0 by decide⟩) (fun _ => rfl) (by decide) (by decide) (by decide) (by decide) (by decide) (by decide) (Nat.le_of_ble_eq_true rfl) (Nat.le_of_ble_eq_true rfl) dX3_copyFrom_39 (fun H locs σ_9 eσ_9 hB hS => ?_)
  refine lv_aload_n hx hb dX3_copyFrom_42 rfl (lv_at hl 1 rfl) ?_
  refine t_gr hx hb hts hown hK hG hB mh1 th1 fq_3_3 rfl mw_1_146 dX3_copyFrom_43 (fun b_10 hb_10 mb_10 tb_10 => ?_)
  refine lv_iconst (v := 0) hx hb dX3_copyFrom_46 (by decide) ?_
  refine lv_aload_n hx hb dX3_copyFrom_47 rfl (lv_at hl 0 rfl) ?_
  refine t_gr hx hb hts hown hK hG hB mh0 th0 fq_3_3 rfl mw_1_146 dX3_copyFrom_48 (fun b_11 hb_11 mb_11 tb_11 => ?_)
  refine lv_iconst (v := 0) hx hb dX3_copyFrom_51 (by decide) ?_
  refine lv_bipush (v := 8) hx hb dX3_copyFrom_52 (by decide) ?_
  refine t_cp (lo := 0) (hi := 0) hx hb (hml.trans hl.1.symm) hts hown mw_3_237 ⟨mw_3_239, mw_3_238, mw_1_20⟩ hK hLA hB hS mb_10 tb_10 ai_36 mb_11 tb_11 ai_36 (fun _ => ⟨show (0 : Int) ≤ 0 by decide, show (0 : Int) ≤ 0 by decide⟩) (fun _ => rfl) (by decide) (by decide) (by decide) (by decide) (by decide) (by decide) (Nat.le_of_ble_eq_true rfl) (Nat.le_of_ble_eq_true rfl) dX3_copyFrom_54 (fun H locs σ_12 eσ_12 hB hS => ?_)
  refine lv_aload_n hx hb dX3_copyFrom_57 rfl (lv_at hl 1 rfl) ?_
  refine t_gr hx hb hts hown hK hG hB mh1 th1 fq_3_4 rfl mw_1_152 dX3_copyFrom_58 (fun b_13 hb_13 mb_13 tb_13 => ?_)
  refine lv_iconst (v := 0) hx hb dX3_copyFrom_61 (by decide) ?_
  refine lv_aload_n hx hb dX3_copyFrom_62 rfl (lv_at hl 0 rfl) ?_
  refine t_gr hx hb hts hown hK hG hB mh0 th0 fq_3_4 rfl mw_1_152 dX3_copyFrom_63 (fun b_14 hb_14 mb_14 tb_14 => ?_)
  refine lv_iconst (v := 0) hx hb dX3_copyFrom_66 (by decide) ?_
  refine lv_bipush (v := 8) hx hb dX3_copyFrom_67 (by decide) ?_
  refine t_cp (lo := 0) (hi := 0) hx hb (hml.trans hl.1.symm) hts hown mw_3_237 ⟨mw_3_239, mw_3_238, mw_1_20⟩ hK hLA hB hS mb_13 tb_13 ai_37 mb_14 tb_14 ai_37 (fun _ => ⟨show (0 : Int) ≤ 0 by decide, show (0 : Int) ≤ 0 by decide⟩) (fun _ => rfl) (by decide) (by decide) (by decide) (by decide) (by decide) (by decide) (Nat.le_of_ble_eq_true rfl) (Nat.le_of_ble_eq_true rfl) dX3_copyFrom_69 (fun H locs σ_15 eσ_15 hB hS => ?_)
  refine lv_aload_n hx hb dX3_copyFrom_72 rfl (lv_at hl 0 rfl) ?_
  refine t_gr hx hb hts hown hK hG hB mh0 th0 fq_3_5 rfl mw_1_158 dX3_copyFrom_73 (fun b_16 hb_16 mb_16 tb_16 => ?_)
  refine lv_aload_n hx hb dX3_copyFrom_76 rfl (lv_at hl 1 rfl) ?_
  refine t_gr hx hb hts hown hK hG hB mh1 th1 fq_3_5 rfl mw_1_158 dX3_copyFrom_77 (fun b_17 hb_17 mb_17 tb_17 => ?_)
  refine t_cv (va_runV (As := [.ref b_17]) (rest := []) ⟨hx, hb, hml, hown, hts⟩ (cz_X8_copyFrom l D cA L T r hG hLA.1 σ_15 ρ hB.2.1 _ b_16 mb_16 tb_16 b_17 mb_17 tb_17) (cV hts mv_X8_copyFrom mw_4_0 rfl rfl ⟨Nat.le_of_ble_eq_true rfl, Nat.le_of_ble_eq_true rfl⟩) (pV hB.1 hK hN mb_16 tb_16 (show shp cA 8 _ _ _ = .inr (8, Fs8 _ _ _) from rfl) rfl) rfl rfl hl.1 rfl (lv_room (Nat.le_of_ble_eq_true rfl)) dX3_copyFrom_80 ⟨Nat.le_of_ble_eq_true rfl, Nat.le_of_ble_eq_true rfl⟩) hLA hA hB hS (by decide) (fun σ_18 ρ_19 H locs hB fσ_18 pσ_18 hS => ?_)
  refine lv_aload_n hx hb dX3_copyFrom_83 rfl (lv_at hl 0 rfl) ?_
  refine lv_aload_n hx hb dX3_copyFrom_84 rfl (lv_at hl 1 rfl) ?_
  refine t_gi hx hb hts hown hK hB mh1 th1 fi_3_6 rfl mw_1_162 dX3_copyFrom_85 (fun x_21 ex_21 lx_21 ux_21 => ?_)
  refine t_pi hx hb hts hown hK hLA hB hS mh0 th0 fi_3_6 (n_bool (by omega) (by omega)) (f_bool (by omega) (by omega)) rfl (by omega) (by omega) (Or.inl (by decide)) mw_1_162 dX3_copyFrom_88 (fun H locs σ_22 eσ_22 hB hS => ?_)
  have k_23 : σ_22 h0 6 = x_21 := by rw [eσ_22]; exact up2_same _ _ _ _
  refine lv_aload_n hx hb dX3_copyFrom_91 rfl (lv_at hl 0 rfl) ?_
  refine lv_aload_n hx hb dX3_copyFrom_92 rfl (lv_at hl 1 rfl) ?_
  refine t_gi hx hb hts hown hK hB mh1 th1 fi_3_7 rfl mw_1_165 dX3_copyFrom_93 (fun x_24 ex_24 lx_24 ux_24 => ?_)
  obtain rfl : x_24 = 0 := i_is (n := 0) (by decide) (by omega)
  refine t_pi hx hb hts hown hK hLA hB hS mh0 th0 fi_3_7 rfl rfl rfl (by decide) (by decide) (Or.inl (by decide)) mw_1_165 dX3_copyFrom_96 (fun H locs σ_25 eσ_25 hB hS => ?_)
  have k_26 : σ_25 h0 7 = 0 := by rw [eσ_25]; exact up2_same _ _ _ _
  refine lv_aload_n hx hb dX3_copyFrom_99 rfl (lv_at hl 0 rfl) ?_
  refine lv_aload_n hx hb dX3_copyFrom_100 rfl (lv_at hl 1 rfl) ?_
  refine t_gi hx hb hts hown hK hB mh1 th1 fi_3_8 rfl mw_1_171 dX3_copyFrom_101 (fun x_27 ex_27 lx_27 ux_27 => ?_)
  obtain rfl : x_27 = 0 := i_is (n := 0) (by decide) (by omega)
  refine t_pi hx hb hts hown hK hLA hB hS mh0 th0 fi_3_8 rfl rfl rfl (by decide) (by decide) (Or.inl (by decide)) mw_1_171 dX3_copyFrom_104 (fun H locs σ_28 eσ_28 hB hS => ?_)
  have k_29 : σ_28 h0 8 = 0 := by rw [eσ_28]; exact up2_same _ _ _ _
  refine lv_aload_n hx hb dX3_copyFrom_107 rfl (lv_at hl 0 rfl) ?_
  refine lv_aload_n hx hb dX3_copyFrom_108 rfl (lv_at hl 1 rfl) ?_
  refine t_gi hx hb hts hown hK hB mh1 th1 fi_3_9 rfl mw_1_179 dX3_copyFrom_109 (fun x_30 ex_30 lx_30 ux_30 => ?_)
  obtain rfl : x_30 = 0 := i_is (n := 0) (by decide) (by omega)
  refine t_pi hx hb hts hown hK hLA hB hS mh0 th0 fi_3_9 rfl rfl rfl (by decide) (by decide) (Or.inl (by decide)) mw_1_179 dX3_copyFrom_112 (fun H locs σ_31 eσ_31 hB hS => ?_)
  have k_32 : σ_31 h0 9 = 0 := by rw [eσ_31]; exact up2_same _ _ _ _
  refine lv_aload_n hx hb dX3_copyFrom_115 rfl (lv_at hl 0 rfl) ?_
  refine lv_aload_n hx hb dX3_copyFrom_116 rfl (lv_at hl 1 rfl) ?_
  refine t_gi hx hb hts hown hK hB mh1 th1 fi_3_10 rfl mw_1_185 dX3_copyFrom_117 (fun x_33 ex_33 lx_33 ux_33 => ?_)
  obtain rfl : x_33 = 0 := i_is (n := 0) (by decide) (by omega)
  refine t_pi hx hb hts hown hK hLA hB hS mh0 th0 fi_3_10 rfl rfl rfl (by decide) (by decide) (Or.inl (by decide)) mw_1_185 dX3_copyFrom_120 (fun H locs σ_34 eσ_34 hB hS => ?_)
  have k_35 : σ_34 h0 10 = 0 := by rw [eσ_34]; exact up2_same _ _ _ _
  exact W.vret hx hb hr (fun t ht hW => ⟨⟨(σ_34, ρ_19), rfl, ⟨hB.2.1, hB.2.2, trivial⟩, (show TP D cA L T r σ_34 ρ_19 t.heap from by rw [ht]; exact hB.1)⟩, hS.F ht⟩) hS.2.2 dX3_copyFrom_123
set_option maxHeartbeats 4000000 in
set_option maxRecDepth 100000 in
theorem cz_X3_turned (l : Launch) (D : va_G) (cA : Nat → ClassId) (L : List Nat) (T : Nat → Nat) (r : Rg) (hG : GR L T r) (hL : L.Nodup) (σ : Sg) (ρ : Lg) (hW : WT L rz T σ) (sz : Nat) (h0 : Nat) (mh0 : h0 ∈ L) (th0 : T h0 = 3) (p1 : Int32) : Met l yX3_turned (.code yX3_turned cX3_turned 4 (some .int) :: wsA) ({ frames := 0, cells := 0, slots := 0, locals := 0 }) (PR D cA L T r σ ρ sz [.ref h0, .int p1]) (QI D cA L T r rz ([] : List (Nat × Nat)) σ sz (fun x σ1 => x = 0)) 0 0 (dm L sz) := by
  refine Met.ofW (cc := cX3_turned) (maxL := 4) (ret := (some .int)) (by decide) rfl ?_
  intro p e s m args below meth c s₁ B hml hv
  obtain ⟨rfl, hsz, hP, hK, hN⟩ := hv
  have hx := B.exec
  have hb := B.bytes
  have hr := B.returns
  have hts : ∀ w ∈ wsA, w.before _ s = true := fun w h => atoms_spec (ws := .code yX3_turned cX3_turned 4 (some .int) :: wsA) B.pre w (List.mem_cons_of_mem _ h)
  have hown : s.vm.findClass RX3 = some m.cls := findClass_of_methodNamed B.named
  subst hsz
  have hLA : LA (dm L s.heap.size) L := ⟨hL, fun a h => Or.inl h⟩
  have hA : ∀ q : Nat, s.heap.size ≤ q → dm L s.heap.size q := fun q h => Or.inr h
  have hS : va_S (dm L s.heap.size) s.heap s.heap [] := va_S.rf
  have hB : TS D cA L T r rz ([] : List (Nat × Nat)) σ σ ρ s.heap := ⟨hP, hW, FR.rf⟩
  have hl := lv_entry ([.ref h0, .int p1]) (n := 4) (Nat.le_of_ble_eq_true rfl)
  rw [lg_entry_eq]
  generalize (lg_sl ([.ref h0, .int p1]) ++ List.replicate (4 - (lg_sl ([.ref h0, .int p1])).length) Slot.unset).toArray = ls at hl ⊢
  have hl : lv_has ls 4 [(0, .ref h0), (1, .int p1)] := hl
  refine lv_iconst (v := 0) hx hb dX3_turned_0 (by decide) ?_
  refine lv_istore_n (lv' := [(2, .int 0), (0, .ref h0), (1, .int p1)]) hx hb dX3_turned_1 rfl hl (by decide) rfl (fun ls hl => ?_)
  refine lv_iconst (v := 0) hx hb dX3_turned_2 (by decide) ?_
  refine lv_istore_n (lv' := [(3, .int 0), (2, .int 0), (0, .ref h0), (1, .int p1)]) hx hb dX3_turned_3 rfl hl (by decide) rfl (fun ls hl => ?_)
  refine lv_iload_n hx hb dX3_turned_4 rfl (lv_at hl 0 rfl) ?_
  refine lv_aload_n hx hb dX3_turned_5 rfl (lv_at hl 2 rfl) ?_
  refine t_gi hx hb hts hown hK hB mh0 th0 fi_3_9 rfl mw_1_179 dX3_turned_6 (fun x_1 ex_1 lx_1 ux_1 => ?_)
  obtain rfl : x_1 = 0 := i_is (n := 0) (by decide) (by omega)
  refine lv_icmp_ge (tgt := 39) hx hb dX3_turned_9 (by decide) (fun _ => ?_) (fun c9 => absurd (by decide) c9)
  refine lv_iload_n hx hb dX3_turned_39 rfl (lv_at hl 1 rfl) ?_
  exact W.iret (v := 0) hx hb hr (fun t ht hW => ⟨⟨0, (σ, ρ), rfl, ⟨hB.2.1, hB.2.2, rfl⟩, (show TP D cA L T r σ ρ t.heap from by rw [ht]; exact hB.1)⟩, hS.F ht⟩) hS.2.2 dX3_turned_40
set_option maxHeartbeats 4000000 in
set_option maxRecDepth 100000 in
theorem cz_X10_copyFrom (l : Launch) (D : va_G) (cA : Nat → ClassId) (L : List Nat) (T : Nat → Nat) (r : Rg) (hG : GR L T r) (hL : L.Nodup) (σ : Sg) (ρ : Lg) (hW : WT L rz T σ) (sz : Nat) (h0 : Nat) (mh0 : h0 ∈ L) (th0 : T h0 = 10) (h1 : Nat) (mh1 : h1 ∈ L) (th1 : T h1 = 10) : Met l yX10_copyFrom (.code yX10_copyFrom cX10_copyFrom 2 none :: wsA) ({ frames := 3, cells := 0, slots := 0, locals := 142 }) (PR D cA L T r σ ρ sz [.ref h0, .ref h1]) (QV D cA L T r rz [(3, 6), (3, 7), (3, 8), (3, 9), (3, 10), (8, 6), (8, 7), (10, 6), (10, 7), (10, 8), (33, 1000), (34, 1000), (35, 1000), (36, 1000), (37, 1000), (45, 1000), (46, 1000), (47, 1000), (48, 1000), (49, 1000), (50, 1000), (55, 1000), (56, 1000), (57, 1000), (58, 1000)] σ sz (fun σ1 => True)) 0 0 (dm L sz) := by
  refine Met.ofW (cc := cX10_copyFrom) (maxL := 2) (ret := none) (by decide) rfl ?_
  intro p e s m args below meth c s₁ B hml hv
  obtain ⟨rfl, hsz, hP, hK, hN⟩ := hv
  have hx := B.exec
  have hb := B.bytes
  have hr := B.returns
  have hts : ∀ w ∈ wsA, w.before _ s = true := fun w h => atoms_spec (ws := .code yX10_copyFrom cX10_copyFrom 2 none :: wsA) B.pre w (List.mem_cons_of_mem _ h)
  have hown : s.vm.findClass RX10 = some m.cls := findClass_of_methodNamed B.named
  subst hsz
  have hLA : LA (dm L s.heap.size) L := ⟨hL, fun a h => Or.inl h⟩
  have hA : ∀ q : Nat, s.heap.size ≤ q → dm L s.heap.size q := fun q h => Or.inr h
  have hS : va_S (dm L s.heap.size) s.heap s.heap [] := va_S.rf
  have hB : TS D cA L T r rz [(3, 6), (3, 7), (3, 8), (3, 9), (3, 10), (8, 6), (8, 7), (10, 6), (10, 7), (10, 8), (33, 1000), (34, 1000), (35, 1000), (36, 1000), (37, 1000), (45, 1000), (46, 1000), (47, 1000), (48, 1000), (49, 1000), (50, 1000), (55, 1000), (56, 1000), (57, 1000), (58, 1000)] σ σ ρ s.heap := ⟨hP, hW, FR.rf⟩
  have hl := lv_entry ([.ref h0, .ref h1]) (n := 2) (Nat.le_of_ble_eq_true rfl)
  rw [lg_entry_eq]
  generalize (lg_sl ([.ref h0, .ref h1]) ++ List.replicate (2 - (lg_sl ([.ref h0, .ref h1])).length) Slot.unset).toArray = ls at hl ⊢
  have hl : lv_has ls 2 [(0, .ref h0), (1, .ref h1)] := hl
  refine lv_aload_n hx hb dX10_copyFrom_0 rfl (lv_at hl 0 rfl) ?_
  refine t_gr hx hb hts hown hK hG hB mh0 th0 fq_10_0 rfl mw_1_233 dX10_copyFrom_1 (fun b_1 hb_1 mb_1 tb_1 => ?_)
  refine lv_aload_n hx hb dX10_copyFrom_4 rfl (lv_at hl 1 rfl) ?_
  refine t_gr hx hb hts hown hK hG hB mh1 th1 fq_10_0 rfl mw_1_233 dX10_copyFrom_5 (fun b_2 hb_2 mb_2 tb_2 => ?_)
  refine t_cv (va_runV (As := [.ref b_2]) (rest := []) ⟨hx, hb, hml, hown, hts⟩ (cz_X3_copyFrom l D cA L T r hG hLA.1 σ ρ hB.2.1 _ b_1 mb_1 tb_1 b_2 mb_2 tb_2) (cV hts mv_X3_copyFrom mw_3_233 rfl rfl ⟨Nat.le_of_ble_eq_true rfl, Nat.le_of_ble_eq_true rfl⟩) (pV hB.1 hK hN mb_1 tb_1 (show shp cA 3 _ _ _ = .inr (3, Fs3 _ _ _) from rfl) rfl) rfl rfl hl.1 rfl (lv_room (Nat.le_of_ble_eq_true rfl)) dX10_copyFrom_8 ⟨Nat.le_of_ble_eq_true rfl, Nat.le_of_ble_eq_true rfl⟩) hLA hA hB hS (by decide) (fun σ_3 ρ_4 H locs hB fσ_3 pσ_3 hS => ?_)
  refine lv_aload_n hx hb dX10_copyFrom_11 rfl (lv_at hl 0 rfl) ?_
  refine t_gr hx hb hts hown hK hG hB mh0 th0 fq_10_1 rfl mw_1_237 dX10_copyFrom_12 (fun b_6 hb_6 mb_6 tb_6 => ?_)
  refine lv_aload_n hx hb dX10_copyFrom_15 rfl (lv_at hl 1 rfl) ?_
  refine t_gr hx hb hts hown hK hG hB mh1 th1 fq_10_1 rfl mw_1_237 dX10_copyFrom_16 (fun b_7 hb_7 mb_7 tb_7 => ?_)
  refine t_cv (va_runV (As := [.ref b_7]) (rest := []) ⟨hx, hb, hml, hown, hts⟩ (cz_X8_copyFrom l D cA L T r hG hLA.1 σ_3 ρ_4 hB.2.1 _ b_6 mb_6 tb_6 b_7 mb_7 tb_7) (cV hts mv_X8_copyFrom mw_4_5 rfl rfl ⟨Nat.le_of_ble_eq_true rfl, Nat.le_of_ble_eq_true rfl⟩) (pV hB.1 hK hN mb_6 tb_6 (show shp cA 8 _ _ _ = .inr (8, Fs8 _ _ _) from rfl) rfl) rfl rfl hl.1 rfl (lv_room (Nat.le_of_ble_eq_true rfl)) dX10_copyFrom_19 ⟨Nat.le_of_ble_eq_true rfl, Nat.le_of_ble_eq_true rfl⟩) hLA hA hB hS (by decide) (fun σ_8 ρ_9 H locs hB fσ_8 pσ_8 hS => ?_)
  refine lv_aload_n hx hb dX10_copyFrom_22 rfl (lv_at hl 1 rfl) ?_
  refine t_gr hx hb hts hown hK hG hB mh1 th1 fq_10_2 rfl mw_2_0 dX10_copyFrom_23 (fun b_11 hb_11 mb_11 tb_11 => ?_)
  refine lv_iconst (v := 0) hx hb dX10_copyFrom_26 (by decide) ?_
  refine lv_aload_n hx hb dX10_copyFrom_27 rfl (lv_at hl 0 rfl) ?_
  refine t_gr hx hb hts hown hK hG hB mh0 th0 fq_10_2 rfl mw_2_0 dX10_copyFrom_28 (fun b_12 hb_12 mb_12 tb_12 => ?_)
  refine lv_iconst (v := 0) hx hb dX10_copyFrom_31 (by decide) ?_
  refine lv_iconst (v := 5) hx hb dX10_copyFrom_32 (by decide) ?_
  refine t_cp (lo := 0) (hi := 0) hx hb (hml.trans hl.1.symm) hts hown mw_5_205 ⟨mw_3_239, mw_3_238, mw_1_20⟩ hK hLA hB hS mb_11 tb_11 ai_55 mb_12 tb_12 ai_55 (fun _ => ⟨show (0 : Int) ≤ 0 by decide, show (0 : Int) ≤ 0 by decide⟩) (fun _ => rfl) (by decide) (by decide) (by decide) (by decide) (by decide) (by decide) (Nat.le_of_ble_eq_true rfl) (Nat.le_of_ble_eq_true rfl) dX10_copyFrom_33 (fun H locs σ_13 eσ_13 hB hS => ?_)
  refine lv_aload_n hx hb dX10_copyFrom_36 rfl (lv_at hl 1 rfl) ?_
  refine t_gr hx hb hts hown hK hG hB mh1 th1 fq_10_3 rfl mw_2_2 dX10_copyFrom_37 (fun b_14 hb_14 mb_14 tb_14 => ?_)
  refine lv_iconst (v := 0) hx hb dX10_copyFrom_40 (by decide) ?_
  refine lv_aload_n hx hb dX10_copyFrom_41 rfl (lv_at hl 0 rfl) ?_
  refine t_gr hx hb hts hown hK hG hB mh0 th0 fq_10_3 rfl mw_2_2 dX10_copyFrom_42 (fun b_15 hb_15 mb_15 tb_15 => ?_)
  refine lv_iconst (v := 0) hx hb dX10_copyFrom_45 (by decide) ?_
  refine lv_bipush (v := 10) hx hb dX10_copyFrom_46 (by decide) ?_
  refine t_cp (lo := 0) (hi := 0) hx hb (hml.trans hl.1.symm) hts hown mw_5_205 ⟨mw_3_239, mw_3_238, mw_1_20⟩ hK hLA hB hS mb_14 tb_14 ai_56 mb_15 tb_15 ai_56 (fun _ => ⟨show (0 : Int) ≤ 0 by decide, show (0 : Int) ≤ 0 by decide⟩) (fun _ => rfl) (by decide) (by decide) (by decide) (by decide) (by decide) (by decide) (Nat.le_of_ble_eq_true rfl) (Nat.le_of_ble_eq_true rfl) dX10_copyFrom_48 (fun H locs σ_16 eσ_16 hB hS => ?_)
  refine lv_aload_n hx hb dX10_copyFrom_51 rfl (lv_at hl 1 rfl) ?_
  refine t_gr hx hb hts hown hK hG hB mh1 th1 fq_10_4 rfl mw_2_5 dX10_copyFrom_52 (fun b_17 hb_17 mb_17 tb_17 => ?_)
  refine lv_iconst (v := 0) hx hb dX10_copyFrom_55 (by decide) ?_
  refine lv_aload_n hx hb dX10_copyFrom_56 rfl (lv_at hl 0 rfl) ?_
  refine t_gr hx hb hts hown hK hG hB mh0 th0 fq_10_4 rfl mw_2_5 dX10_copyFrom_57 (fun b_18 hb_18 mb_18 tb_18 => ?_)
  refine lv_iconst (v := 0) hx hb dX10_copyFrom_60 (by decide) ?_
  refine lv_bipush (v := 10) hx hb dX10_copyFrom_61 (by decide) ?_
  refine t_cp (lo := 0) (hi := 0) hx hb (hml.trans hl.1.symm) hts hown mw_5_205 ⟨mw_3_239, mw_3_238, mw_1_20⟩ hK hLA hB hS mb_17 tb_17 ai_57 mb_18 tb_18 ai_57 (fun _ => ⟨show (0 : Int) ≤ 0 by decide, show (0 : Int) ≤ 0 by decide⟩) (fun _ => rfl) (by decide) (by decide) (by decide) (by decide) (by decide) (by decide) (Nat.le_of_ble_eq_true rfl) (Nat.le_of_ble_eq_true rfl) dX10_copyFrom_63 (fun H locs σ_19 eσ_19 hB hS => ?_)
  refine lv_aload_n hx hb dX10_copyFrom_66 rfl (lv_at hl 1 rfl) ?_
  refine t_gr hx hb hts hown hK hG hB mh1 th1 fq_10_5 rfl mw_2_8 dX10_copyFrom_67 (fun b_20 hb_20 mb_20 tb_20 => ?_)
  refine lv_iconst (v := 0) hx hb dX10_copyFrom_70 (by decide) ?_
  refine lv_aload_n hx hb dX10_copyFrom_71 rfl (lv_at hl 0 rfl) ?_
  refine t_gr hx hb hts hown hK hG hB mh0 th0 fq_10_5 rfl mw_2_8 dX10_copyFrom_72 (fun b_21 hb_21 mb_21 tb_21 => ?_)
  refine lv_iconst (v := 0) hx hb dX10_copyFrom_75 (by decide) ?_
  refine lv_bipush (v := 10) hx hb dX10_copyFrom_76 (by decide) ?_
  refine t_cp (lo := 0) (hi := 0) hx hb (hml.trans hl.1.symm) hts hown mw_5_205 ⟨mw_3_239, mw_3_238, mw_1_20⟩ hK hLA hB hS mb_20 tb_20 ai_58 mb_21 tb_21 ai_58 (fun _ => ⟨show (0 : Int) ≤ 0 by decide, show (0 : Int) ≤ 0 by decide⟩) (fun _ => rfl) (by decide) (by decide) (by decide) (by decide) (by decide) (by decide) (Nat.le_of_ble_eq_true rfl) (Nat.le_of_ble_eq_true rfl) dX10_copyFrom_78 (fun H locs σ_22 eσ_22 hB hS => ?_)
  refine lv_aload_n hx hb dX10_copyFrom_81 rfl (lv_at hl 0 rfl) ?_
  refine lv_aload_n hx hb dX10_copyFrom_82 rfl (lv_at hl 1 rfl) ?_
  refine t_gi hx hb hts hown hK hB mh1 th1 fi_10_6 rfl mw_2_11 dX10_copyFrom_83 (fun x_23 ex_23 lx_23 ux_23 => ?_)
  obtain rfl : x_23 = 0 := i_is (n := 0) (by decide) (by omega)
  refine t_pi hx hb hts hown hK hLA hB hS mh0 th0 fi_10_6 rfl rfl rfl (by decide) (by decide) (Or.inl (by decide)) mw_2_11 dX10_copyFrom_86 (fun H locs σ_24 eσ_24 hB hS => ?_)
  have k_25 : σ_24 h0 6 = 0 := by rw [eσ_24]; exact up2_same _ _ _ _
  refine lv_aload_n hx hb dX10_copyFrom_89 rfl (lv_at hl 0 rfl) ?_
  refine lv_aload_n hx hb dX10_copyFrom_90 rfl (lv_at hl 1 rfl) ?_
  refine t_gi hx hb hts hown hK hB mh1 th1 fi_10_7 rfl mw_2_14 dX10_copyFrom_91 (fun x_26 ex_26 lx_26 ux_26 => ?_)
  obtain rfl : x_26 = (-1) := i_is (n := (-1)) (by decide) (by omega)
  refine t_pi hx hb hts hown hK hLA hB hS mh0 th0 fi_10_7 rfl rfl rfl (by decide) (by decide) (Or.inl (by decide)) mw_2_14 dX10_copyFrom_94 (fun H locs σ_27 eσ_27 hB hS => ?_)
  have k_28 : σ_27 h0 7 = (-1) := by rw [eσ_27]; exact up2_same _ _ _ _
  refine lv_aload_n hx hb dX10_copyFrom_97 rfl (lv_at hl 0 rfl) ?_
  refine lv_aload_n hx hb dX10_copyFrom_98 rfl (lv_at hl 1 rfl) ?_
  refine t_gi hx hb hts hown hK hB mh1 th1 fi_10_8 rfl mw_2_16 dX10_copyFrom_99 (fun x_29 ex_29 lx_29 ux_29 => ?_)
  refine t_pi hx hb hts hown hK hLA hB hS mh0 th0 fi_10_8 rfl rfl rfl (i_lo _) (i_hi _) (Or.inl (by decide)) mw_2_16 dX10_copyFrom_102 (fun H locs σ_30 eσ_30 hB hS => ?_)
  have k_31 : σ_30 h0 8 = x_29 := by rw [eσ_30]; exact up2_same _ _ _ _
  exact W.vret hx hb hr (fun t ht hW => ⟨⟨(σ_30, ρ_9), rfl, ⟨hB.2.1, hB.2.2, trivial⟩, (show TP D cA L T r σ_30 ρ_9 t.heap from by rw [ht]; exact hB.1)⟩, hS.F ht⟩) hS.2.2 dX10_copyFrom_105
set_option maxHeartbeats 4000000 in
set_option maxRecDepth 100000 in
theorem cz_X5_restore (l : Launch) (D : va_G) (cA : Nat → ClassId) (L : List Nat) (T : Nat → Nat) (r : Rg) (hG : GR L T r) (hL : L.Nodup) (σ : Sg) (ρ : Lg) (hW : WT L rz T σ) (sz : Nat) (h0 : Nat) (mh0 : h0 ∈ L) (th0 : T h0 = 5) (h1 : Nat) (mh1 : h1 ∈ L) (th1 : T h1 = 8) : Met l yX5_restore (.code yX5_restore cX5_restore 2 (some .boolean) :: wsA) ({ frames := 0, cells := 0, slots := 0, locals := 0 }) (PR D cA L T r σ ρ sz [.ref h0, .ref h1]) (QI D cA L T r rz ([] : List (Nat × Nat)) σ sz (fun x σ1 => x = 0)) 0 0 (dm L sz) := by
  refine Met.ofW (cc := cX5_restore) (maxL := 2) (ret := (some .boolean)) (by decide) rfl ?_
  intro p e s m args below meth c s₁ B hml hv
  obtain ⟨rfl, hsz, hP, hK, hN⟩ := hv
  have hx := B.exec
  have hb := B.bytes
  have hr := B.returns
  have hts : ∀ w ∈ wsA, w.before _ s = true := fun w h => atoms_spec (ws := .code yX5_restore cX5_restore 2 (some .boolean) :: wsA) B.pre w (List.mem_cons_of_mem _ h)
  have hown : s.vm.findClass RX5 = some m.cls := findClass_of_methodNamed B.named
  subst hsz
  have hLA : LA (dm L s.heap.size) L := ⟨hL, fun a h => Or.inl h⟩
  have hA : ∀ q : Nat, s.heap.size ≤ q → dm L s.heap.size q := fun q h => Or.inr h
  have hS : va_S (dm L s.heap.size) s.heap s.heap [] := va_S.rf
  have hB : TS D cA L T r rz ([] : List (Nat × Nat)) σ σ ρ s.heap := ⟨hP, hW, FR.rf⟩
  have hl := lv_entry ([.ref h0, .ref h1]) (n := 2) (Nat.le_of_ble_eq_true rfl)
  rw [lg_entry_eq]
  generalize (lg_sl ([.ref h0, .ref h1]) ++ List.replicate (2 - (lg_sl ([.ref h0, .ref h1])).length) Slot.unset).toArray = ls at hl ⊢
  have hl : lv_has ls 2 [(0, .ref h0), (1, .ref h1)] := hl
  refine lv_aload_n hx hb dX5_restore_0 rfl (lv_at hl 0 rfl) ?_
  refine t_gi hx hb hts hown hK hB mh0 th0 fi_5_1 rfl mw_2_49 dX5_restore_1 (fun x_1 ex_1 lx_1 ux_1 => ?_)
  obtain rfl : x_1 = 0 := i_is (n := 0) (by decide) (by omega)
  refine lv_if_ne (tgt := 9) hx hb dX5_restore_4 (by decide) (fun c9 => absurd (by decide) c9) (fun _ => ?_)
  refine lv_iconst (v := 0) hx hb dX5_restore_7 (by decide) ?_
  exact W.zret (v := 0) hx hb hr rfl (fun t ht hW => ⟨⟨0, (σ, ρ), rfl, ⟨hB.2.1, hB.2.2, rfl⟩, (show TP D cA L T r σ ρ t.heap from by rw [ht]; exact hB.1)⟩, hS.F ht⟩) hS.2.2 dX5_restore_8
set_option maxHeartbeats 4000000 in
set_option maxRecDepth 100000 in
theorem cz_X4_clause (l : Launch) (D : va_G) (cA : Nat → ClassId) (L : List Nat) (T : Nat → Nat) (r : Rg) (hG : GR L T r) (hL : L.Nodup) (σ : Sg) (ρ : Lg) (hW : WT L rz T σ) (sz : Nat) (h0 : Nat) (mh0 : h0 ∈ L) (th0 : T h0 = 4) (h1 : Nat) (mh1 : h1 ∈ L) (th1 : T h1 = 9) (bk : Nat) (hbk : r h1 1 = some bk) (mbk : bk ∈ L) (tbk : T bk = 52) (bp : Nat) (hbp : r h1 2 = some bp) (mbp : bp ∈ L) (tbp : T bp = 53) (k0 : σ h0 1 = 0) (k1 : σ h1 5 = 1) (k2 : σ bk 0 = 133) (k3 : σ bp 0 = 0) : Met l yX4_clause (.code yX4_clause cX4_clause 5 (some .boolean) :: wsA) ({ frames := 1, cells := 0, slots := 0, locals := 23 }) (PR D cA L T r σ ρ sz [.ref h0, .ref h1, .int 0]) (QI D cA L T r rz [(9, 6)] σ sz (fun x σ1 => x = 0 ∧ σ1 h1 6 = 1)) 0 0 (dm L sz) := by
  refine Met.ofW (cc := cX4_clause) (maxL := 5) (ret := (some .boolean)) (by decide) rfl ?_
  intro p e s m args below meth c s₁ B hml hv
  obtain ⟨rfl, hsz, hP, hK, hN⟩ := hv
  have hx := B.exec
  have hb := B.bytes
  have hr := B.returns
  have hts : ∀ w ∈ wsA, w.before _ s = true := fun w h => atoms_spec (ws := .code yX4_clause cX4_clause 5 (some .boolean) :: wsA) B.pre w (List.mem_cons_of_mem _ h)
  have hown : s.vm.findClass RX4 = some m.cls := findClass_of_methodNamed B.named
  subst hsz
  have hLA : LA (dm L s.heap.size) L := ⟨hL, fun a h => Or.inl h⟩
  have hA : ∀ q : Nat, s.heap.size ≤ q → dm L s.heap.size q := fun q h => Or.inr h
  have hS : va_S (dm L s.heap.size) s.heap s.heap [] := va_S.rf
  have hB : TS D cA L T r rz [(9, 6)] σ σ ρ s.heap := ⟨hP, hW, FR.rf⟩
  have hl := lv_entry ([.ref h0, .ref h1, .int 0]) (n := 5) (Nat.le_of_ble_eq_true rfl)
  rw [lg_entry_eq]
  generalize (lg_sl ([.ref h0, .ref h1, .int 0]) ++ List.replicate (5 - (lg_sl ([.ref h0, .ref h1, .int 0])).length) Slot.unset).toArray = ls at hl ⊢
  have hl : lv_has ls 5 [(0, .ref h0), (1, .ref h1), (2, .int 0)] := hl
  refine lv_aload_n hx hb dX4_clause_0 rfl (lv_at hl 1 rfl) ?_
  refine lv_aload_n hx hb dX4_clause_1 rfl (lv_at hl 0 rfl) ?_
  refine t_gv hx hb hts hown hK hB mh0 th0 fi_4_1 k0 mw_1_215 dX4_clause_2 ?_
  refine t_ci (va_runV (As := [.int 0]) (rest := []) ⟨hx, hb, hml, hown, hts⟩ (cz_X9_kindAt l D cA L T r hG hLA.1 σ ρ hB.2.1 _ h1 mh1 th1 bk hbk mbk tbk k1 k2) (cV hts mv_X9_kindAt mw_3_175 rfl rfl ⟨Nat.le_of_ble_eq_true rfl, Nat.le_of_ble_eq_true rfl⟩) (pV hB.1 hK hN mh1 th1 (show shp cA 9 _ _ _ = .inr (9, Fs9 _ _ _) from rfl) rfl) rfl rfl hl.1 rfl (lv_room (Nat.le_of_ble_eq_true rfl)) dX4_clause_5 ⟨Nat.le_of_ble_eq_true rfl, Nat.le_of_ble_eq_true rfl⟩) hLA hA hB hS (by decide) (fun x_3 σ_1 ρ_2 H locs hB fσ_1 pσ_1 hS => ?_)
  subst pσ_1
  refine lv_sipush (v := 131) hx hb dX4_clause_8 (by decide) ?_
  refine lv_icmp_ne (tgt := 25) hx hb dX4_clause_11 (by decide) (fun _ => ?_) (fun c9 => absurd c9 (by decide))
  refine lv_iconst (v := (-1)) hx hb dX4_clause_25 (by decide) ?_
  refine lv_istore_n (lv' := [(3, .int (-1)), (0, .ref h0), (1, .ref h1), (2, .int 0)]) hx hb dX4_clause_26 rfl hl (by decide) rfl (fun ls hl => ?_)
  refine lv_iload_n hx hb dX4_clause_27 rfl (lv_at hl 0 rfl) ?_
  refine lv_if_lt (tgt := 36) hx hb dX4_clause_28 (by decide) (fun _ => ?_) (fun c9 => absurd (by decide) c9)
  refine lv_aload_n hx hb dX4_clause_36 rfl (lv_at hl 2 rfl) ?_
  refine lv_aload_n hx hb dX4_clause_37 rfl (lv_at hl 1 rfl) ?_
  have k_4 : σ_1 h0 1 = 0 := (FR.at fσ_1 th0 (by decide)).trans k0
  refine t_gv hx hb hts hown hK hB mh0 th0 fi_4_1 k_4 mw_1_215 dX4_clause_38 ?_
  refine lv_iconst (v := 0) hx hb dX4_clause_41 (by decide) ?_
  have k_5 : σ_1 h1 5 = 1 := (FR.at fσ_1 th1 (by decide)).trans k1
  have k_6 : σ_1 bp 0 = 0 := (FR.at fσ_1 tbp (by decide)).trans k3
  refine t_ci (va_runV (As := [.int 0, .int 0]) (rest := []) ⟨hx, hb, hml, hown, hts⟩ (cz_X9_wrong l D cA L T r hG hLA.1 σ_1 ρ_2 hB.2.1 _ h1 mh1 th1 bp hbp mbp tbp k_5 k_6) (cV hts mv_X9_wrong mw_3_183 rfl rfl ⟨Nat.le_of_ble_eq_true rfl, Nat.le_of_ble_eq_true rfl⟩) (pV hB.1 hK hN mh1 th1 (show shp cA 9 _ _ _ = .inr (9, Fs9 _ _ _) from rfl) rfl) rfl rfl hl.1 rfl (lv_room (Nat.le_of_ble_eq_true rfl)) dX4_clause_42 ⟨Nat.le_of_ble_eq_true rfl, Nat.le_of_ble_eq_true rfl⟩) hLA hA hB hS (by decide) (fun x_9 σ_7 ρ_8 H locs hB fσ_7 pσ_7 hS => ?_)
  obtain ⟨g_10, g_11⟩ := pσ_7
  subst g_10
  exact W.zret (v := 0) hx hb hr rfl (fun t ht hW => ⟨⟨0, (σ_7, ρ_8), rfl, ⟨hB.2.1, hB.2.2, ⟨rfl, g_11⟩⟩, (show TP D cA L T r σ_7 ρ_8 t.heap from by rw [ht]; exact hB.1)⟩, hS.F ht⟩) hS.2.2 dX4_clause_45
set_option maxHeartbeats 4000000 in
set_option maxRecDepth 100000 in
theorem cz_X4_read (l : Launch) (D : va_G) (cA : Nat → ClassId) (L : List Nat) (T : Nat → Nat) (r : Rg) (hG : GR L T r) (hL : L.Nodup) (σ : Sg) (ρ : Lg) (hW : WT L rz T σ) (sz : Nat) (h0 : Nat) (mh0 : h0 ∈ L) (th0 : T h0 = 4) (h1 : Nat) (mh1 : h1 ∈ L) (th1 : T h1 = 9) (bk : Nat) (hbk : r h1 1 = some bk) (mbk : bk ∈ L) (tbk : T bk = 52) (bp : Nat) (hbp : r h1 2 = some bp) (mbp : bp ∈ L) (tbp : T bp = 53) (k0 : σ h1 4 = 0) : Met l yX4_read (.code yX4_read cX4_read 4 (some .int) :: wsA) ({ frames := 2, cells := 0, slots := 0, locals := 47 }) (PR D cA L T r σ ρ sz [.ref h0, .ref h1]) (QI D cA L T r rz [(3, 6), (3, 7), (3, 8), (3, 9), (3, 10), (4, 1), (8, 6), (8, 7), (9, 5), (9, 6), (45, 1000), (46, 1000), (47, 1000), (48, 1000), (49, 1000), (50, 1000), (52, 1000), (53, 1000), (54, 1000)] σ sz (fun x σ1 => x = 1)) 0 0 (dm L sz) := by
  refine Met.ofW (cc := cX4_read) (maxL := 4) (ret := (some .int)) (by decide) rfl ?_
  intro p e s m args below meth c s₁ B hml hv
  obtain ⟨rfl, hsz, hP, hK, hN⟩ := hv
  have hx := B.exec
  have hb := B.bytes
  have hr := B.returns
  have hts : ∀ w ∈ wsA, w.before _ s = true := fun w h => atoms_spec (ws := .code yX4_read cX4_read 4 (some .int) :: wsA) B.pre w (List.mem_cons_of_mem _ h)
  have hown : s.vm.findClass RX4 = some m.cls := findClass_of_methodNamed B.named
  subst hsz
  have hLA : LA (dm L s.heap.size) L := ⟨hL, fun a h => Or.inl h⟩
  have hA : ∀ q : Nat, s.heap.size ≤ q → dm L s.heap.size q := fun q h => Or.inr h
  have hS : va_S (dm L s.heap.size) s.heap s.heap [] := va_S.rf
  have hB : TS D cA L T r rz [(3, 6), (3, 7), (3, 8), (3, 9), (3, 10), (4, 1), (8, 6), (8, 7), (9, 5), (9, 6), (45, 1000), (46, 1000), (47, 1000), (48, 1000), (49, 1000), (50, 1000), (52, 1000), (53, 1000), (54, 1000)] σ σ ρ s.heap := ⟨hP, hW, FR.rf⟩
  have hl := lv_entry ([.ref h0, .ref h1]) (n := 4) (Nat.le_of_ble_eq_true rfl)
  rw [lg_entry_eq]
  generalize (lg_sl ([.ref h0, .ref h1]) ++ List.replicate (4 - (lg_sl ([.ref h0, .ref h1])).length) Slot.unset).toArray = ls at hl ⊢
  have hl : lv_has ls 4 [(0, .ref h0), (1, .ref h1)] := hl
  refine lv_aload_n hx hb dX4_read_0 rfl (lv_at hl 1 rfl) ?_
  refine t_cv (va_runV (As := []) (rest := []) ⟨hx, hb, hml, hown, hts⟩ (cz_X9_scan l D cA L T r hG hLA.1 σ ρ hB.2.1 _ h1 mh1 th1 bk hbk mbk tbk bp hbp mbp tbp k0) (cV hts mv_X9_scan mw_3_24 rfl rfl ⟨Nat.le_of_ble_eq_true rfl, Nat.le_of_ble_eq_true rfl⟩) (pV hB.1 hK hN mh1 th1 (show shp cA 9 _ _ _ = .inr (9, Fs9 _ _ _) from rfl) rfl) rfl rfl hl.1 rfl (lv_room (Nat.le_of_ble_eq_true rfl)) dX4_read_1 ⟨Nat.le_of_ble_eq_true rfl, Nat.le_of_ble_eq_true rfl⟩) hLA hA hB hS (by decide) (fun σ_1 ρ_2 H locs hB fσ_1 pσ_1 hS => ?_)
  obtain ⟨g_4, g_5, g_6, g_7⟩ := pσ_1
  refine lv_aload_n hx hb dX4_read_4 rfl (lv_at hl 0 rfl) ?_
  refine t_gr hx hb hts hown hK hG hB mh0 th0 fq_4_0 rfl mw_1_213 dX4_read_5 (fun b_8 hb_8 mb_8 tb_8 => ?_)
  refine t_cv (va_runV (As := []) (rest := []) ⟨hx, hb, hml, hown, hts⟩ (cz_X3_clear l D cA L T r hG hLA.1 σ_1 ρ_2 hB.2.1 _ b_8 mb_8 tb_8) (cV hts mv_X3_clear mw_3_163 rfl rfl ⟨Nat.le_of_ble_eq_true rfl, Nat.le_of_ble_eq_true rfl⟩) (pV hB.1 hK hN mb_8 tb_8 (show shp cA 3 _ _ _ = .inr (3, Fs3 _ _ _) from rfl) rfl) rfl rfl hl.1 rfl (lv_room (Nat.le_of_ble_eq_true rfl)) dX4_read_8 ⟨Nat.le_of_ble_eq_true rfl, Nat.le_of_ble_eq_true rfl⟩) hLA hA hB hS (by decide) (fun σ_9 ρ_10 H locs hB fσ_9 pσ_9 hS => ?_)
  refine lv_aload_n hx hb dX4_read_11 rfl (lv_at hl 0 rfl) ?_
  refine t_gk hx hb hts hown hK hB mh0 th0 fq_4_0 hb_8 mw_1_213 dX4_read_12 ?_
  refine lv_iconst (v := 1) hx hb dX4_read_15 (by decide) ?_
  refine t_pi hx hb hts hown hK hLA hB hS mb_8 tb_8 fi_3_6 rfl rfl rfl (by decide) (by decide) (Or.inl (by decide)) mw_1_163 dX4_read_16 (fun H locs σ_12 eσ_12 hB hS => ?_)
  have k_13 : σ_12 b_8 6 = 1 := by rw [eσ_12]; exact up2_same _ _ _ _
  refine lv_aload_n hx hb dX4_read_19 rfl (lv_at hl 0 rfl) ?_
  refine lv_iconst (v := 0) hx hb dX4_read_20 (by decide) ?_
  refine t_pi hx hb hts hown hK hLA hB hS mh0 th0 fi_4_1 rfl rfl rfl (i_lo _) (i_hi _) (Or.inl (by decide)) mw_1_215 dX4_read_21 (fun H locs σ_14 eσ_14 hB hS => ?_)
  have k_15 : σ_14 h0 1 = 0 := by rw [eσ_14]; exact up2_same _ _ _ _
  refine lv_iconst (v := 1) hx hb dX4_read_24 (by decide) ?_
  refine lv_istore_n (lv' := [(2, .int 1), (0, .ref h0), (1, .ref h1)]) hx hb dX4_read_25 rfl hl (by decide) rfl (fun ls hl => ?_)
  refine lv_iconst (v := 0) hx hb dX4_read_26 (by decide) ?_
  refine lv_istore_n (lv' := [(3, .int 0), (2, .int 1), (0, .ref h0), (1, .ref h1)]) hx hb dX4_read_27 rfl hl (by decide) rfl (fun ls hl => ?_)
  refine lv_iload_n hx hb dX4_read_28 rfl (lv_at hl 0 rfl) ?_
  refine lv_bipush (v := 40) hx hb dX4_read_29 (by decide) ?_
  refine lv_icmp_gt (tgt := 113) hx hb dX4_read_31 (by decide) (fun c9 => absurd c9 (by decide)) (fun _ => ?_)
  refine lv_iload_n hx hb dX4_read_34 rfl (lv_at hl 1 rfl) ?_
  refine lv_if_eq (tgt := 113) hx hb dX4_read_35 (by decide) (fun c9 => absurd c9 (by decide)) (fun _ => ?_)
  refine lv_aload_n hx hb dX4_read_38 rfl (lv_at hl 2 rfl) ?_
  refine lv_aload_n hx hb dX4_read_39 rfl (lv_at hl 3 rfl) ?_
  refine lv_iload_n hx hb dX4_read_40 rfl (lv_at hl 0 rfl) ?_
  have k_16 : σ_9 h1 5 = 1 := (FR.at fσ_9 th1 (by decide)).trans g_4
  have k_17 : σ_12 h1 5 = 1 := by rw [eσ_12, up2_nej _ _ (by decide)]; exact k_16
  have k_18 : σ_14 h1 5 = 1 := by rw [eσ_14, up2_nej _ _ (by decide)]; exact k_17
  have k_19 : σ_9 bk 0 = 133 := (FR.at fσ_9 tbk (by decide)).trans g_6
  have k_20 : σ_12 bk 0 = 133 := by rw [eσ_12, up2_nej _ _ (by decide)]; exact k_19
  have k_21 : σ_14 bk 0 = 133 := by rw [eσ_14, up2_nej _ _ (by decide)]; exact k_20
  have k_22 : σ_9 bp 0 = 0 := (FR.at fσ_9 tbp (by decide)).trans g_7
  have k_23 : σ_12 bp 0 = 0 := by rw [eσ_12, up2_nej _ _ (by decide)]; exact k_22
  have k_24 : σ_14 bp 0 = 0 := by rw [eσ_14, up2_nej _ _ (by decide)]; exact k_23
  refine t_ci (va_runV (As := [.ref h1, .int 0]) (rest := []) ⟨hx, hb, hml, hown, hts⟩ (cz_X4_clause l D cA L T r hG hLA.1 σ_14 ρ_10 hB.2.1 _ h0 mh0 th0 h1 mh1 th1 bk hbk mbk tbk bp hbp mbp tbp k_15 k_18 k_21 k_24) (cV hts mv_X4_clause mw_3_171 rfl rfl ⟨Nat.le_of_ble_eq_true rfl, Nat.le_of_ble_eq_true rfl⟩) (pV hB.1 hK hN mh0 th0 (show shp cA 4 _ _ _ = .inr (4, Fs4 _ _ _) from rfl) rfl) rfl rfl hl.1 rfl (lv_room (Nat.le_of_ble_eq_true rfl)) dX4_read_41 ⟨Nat.le_of_ble_eq_true rfl, Nat.le_of_ble_eq_true rfl⟩) hLA hA hB hS (by decide) (fun x_27 σ_25 ρ_26 H locs hB fσ_25 pσ_25 hS => ?_)
  obtain ⟨g_28, g_29⟩ := pσ_25
  subst g_28
  refine lv_if_eq (tgt := 113) hx hb dX4_read_44 (by decide) (fun _ => ?_) (fun c9 => absurd (by decide) c9)
  refine lv_aload_n hx hb dX4_read_113 rfl (lv_at hl 3 rfl) ?_
  refine t_gv hx hb hts hown hK hB mh1 th1 fi_9_6 g_29 mw_1_44 dX4_read_114 ?_
  exact W.iret (v := 1) hx hb hr (fun t ht hW => ⟨⟨1, (σ_25, ρ_26), rfl, ⟨hB.2.1, hB.2.2, rfl⟩, (show TP D cA L T r σ_25 ρ_26 t.heap from by rw [ht]; exact hB.1)⟩, hS.F ht⟩) hS.2.2 dX4_read_117
set_option maxHeartbeats 4000000 in
set_option maxRecDepth 100000 in
theorem cz_X7_beginsClause (l : Launch) (D : va_G) (cA : Nat → ClassId) (L : List Nat) (T : Nat → Nat) (r : Rg) (hG : GR L T r) (hL : L.Nodup) (σ : Sg) (ρ : Lg) (hW : WT L rz T σ) (sz : Nat) (h0 : Nat) (mh0 : h0 ∈ L) (th0 : T h0 = 7) (h1 : Nat) (mh1 : h1 ∈ L) (th1 : T h1 = 9) (bk : Nat) (hbk : r h1 1 = some bk) (mbk : bk ∈ L) (tbk : T bk = 52) (bp : Nat) (hbp : r h1 2 = some bp) (mbp : bp ∈ L) (tbp : T bp = 53) (k0 : σ h1 5 = 1) (k1 : σ bk 0 = 133) (k2 : σ bp 0 = 0) : Met l yX7_beginsClause (.code yX7_beginsClause cX7_beginsClause 2 (some .boolean) :: wsA) ({ frames := 1, cells := 0, slots := 0, locals := 23 }) (PR D cA L T r σ ρ sz [.ref h0, .ref h1]) (QI D cA L T r rz [(9, 6)] σ sz (fun x σ1 => x = 0 ∧ σ1 h1 6 = 1)) 0 0 (dm L sz) := by
  refine Met.ofW (cc := cX7_beginsClause) (maxL := 2) (ret := (some .boolean)) (by decide) rfl ?_
  intro p e s m args below meth c s₁ B hml hv
  obtain ⟨rfl, hsz, hP, hK, hN⟩ := hv
  have hx := B.exec
  have hb := B.bytes
  have hr := B.returns
  have hts : ∀ w ∈ wsA, w.before _ s = true := fun w h => atoms_spec (ws := .code yX7_beginsClause cX7_beginsClause 2 (some .boolean) :: wsA) B.pre w (List.mem_cons_of_mem _ h)
  have hown : s.vm.findClass RX7 = some m.cls := findClass_of_methodNamed B.named
  subst hsz
  have hLA : LA (dm L s.heap.size) L := ⟨hL, fun a h => Or.inl h⟩
  have hA : ∀ q : Nat, s.heap.size ≤ q → dm L s.heap.size q := fun q h => Or.inr h
  have hS : va_S (dm L s.heap.size) s.heap s.heap [] := va_S.rf
  have hB : TS D cA L T r rz [(9, 6)] σ σ ρ s.heap := ⟨hP, hW, FR.rf⟩
  have hl := lv_entry ([.ref h0, .ref h1]) (n := 2) (Nat.le_of_ble_eq_true rfl)
  rw [lg_entry_eq]
  generalize (lg_sl ([.ref h0, .ref h1]) ++ List.replicate (2 - (lg_sl ([.ref h0, .ref h1])).length) Slot.unset).toArray = ls at hl ⊢
  have hl : lv_has ls 2 [(0, .ref h0), (1, .ref h1)] := hl
  refine lv_aload_n hx hb dX7_beginsClause_0 rfl (lv_at hl 1 rfl) ?_
  refine lv_aload_n hx hb dX7_beginsClause_1 rfl (lv_at hl 0 rfl) ?_
  refine t_gi hx hb hts hown hK hB mh0 th0 fi_7_6 rfl mw_2_188 dX7_beginsClause_2 (fun x_1 ex_1 lx_1 ux_1 => ?_)
  obtain rfl : x_1 = 0 := i_is (n := 0) (by decide) (by omega)
  refine lv_bipush (v := 6) hx hb dX7_beginsClause_5 (by decide) ?_
  refine t_ci (va_runV (As := [.int 0, .int 6]) (rest := []) ⟨hx, hb, hml, hown, hts⟩ (cz_X9_isWord l D cA L T r hG hLA.1 σ ρ hB.2.1 _ h1 mh1 th1 bk hbk mbk tbk k0 k1) (cV hts mv_X9_isWord mw_4_28 rfl rfl ⟨Nat.le_of_ble_eq_true rfl, Nat.le_of_ble_eq_true rfl⟩) (pV hB.1 hK hN mh1 th1 (show shp cA 9 _ _ _ = .inr (9, Fs9 _ _ _) from rfl) rfl) rfl rfl hl.1 rfl (lv_room (Nat.le_of_ble_eq_true rfl)) dX7_beginsClause_7 ⟨Nat.le_of_ble_eq_true rfl, Nat.le_of_ble_eq_true rfl⟩) hLA hA hB hS (by decide) (fun x_4 σ_2 ρ_3 H locs hB fσ_2 pσ_2 hS => ?_)
  subst pσ_2
  refine lv_if_ne (tgt := 23) hx hb dX7_beginsClause_10 (by decide) (fun c9 => absurd (by decide) c9) (fun _ => ?_)
  refine lv_aload_n hx hb dX7_beginsClause_13 rfl (lv_at hl 1 rfl) ?_
  refine lv_aload_n hx hb dX7_beginsClause_14 rfl (lv_at hl 0 rfl) ?_
  refine t_gi hx hb hts hown hK hB mh0 th0 fi_7_6 rfl mw_2_188 dX7_beginsClause_15 (fun x_5 ex_5 lx_5 ux_5 => ?_)
  obtain rfl : x_5 = 0 := i_is (n := 0) (by decide) (by omega)
  refine lv_iconst (v := 0) hx hb dX7_beginsClause_18 (by decide) ?_
  have k_6 : σ_2 h1 5 = 1 := (FR.at fσ_2 th1 (by decide)).trans k0
  have k_7 : σ_2 bp 0 = 0 := (FR.at fσ_2 tbp (by decide)).trans k2
  refine t_ci (va_runV (As := [.int 0, .int 0]) (rest := []) ⟨hx, hb, hml, hown, hts⟩ (cz_X9_wrong l D cA L T r hG hLA.1 σ_2 ρ_3 hB.2.1 _ h1 mh1 th1 bp hbp mbp tbp k_6 k_7) (cV hts mv_X9_wrong mw_4_32 rfl rfl ⟨Nat.le_of_ble_eq_true rfl, Nat.le_of_ble_eq_true rfl⟩) (pV hB.1 hK hN mh1 th1 (show shp cA 9 _ _ _ = .inr (9, Fs9 _ _ _) from rfl) rfl) rfl rfl hl.1 rfl (lv_room (Nat.le_of_ble_eq_true rfl)) dX7_beginsClause_19 ⟨Nat.le_of_ble_eq_true rfl, Nat.le_of_ble_eq_true rfl⟩) hLA hA hB hS (by decide) (fun x_10 σ_8 ρ_9 H locs hB fσ_8 pσ_8 hS => ?_)
  obtain ⟨g_11, g_12⟩ := pσ_8
  subst g_11
  exact W.zret (v := 0) hx hb hr rfl (fun t ht hW => ⟨⟨0, (σ_8, ρ_9), rfl, ⟨hB.2.1, hB.2.2, ⟨rfl, g_12⟩⟩, (show TP D cA L T r σ_8 ρ_9 t.heap from by rw [ht]; exact hB.1)⟩, hS.F ht⟩) hS.2.2 dX7_beginsClause_22
set_option maxHeartbeats 4000000 in
set_option maxRecDepth 100000 in
theorem cz_X7_read (l : Launch) (D : va_G) (cA : Nat → ClassId) (L : List Nat) (T : Nat → Nat) (r : Rg) (hG : GR L T r) (hL : L.Nodup) (σ : Sg) (ρ : Lg) (hW : WT L rz T σ) (sz : Nat) (h0 : Nat) (mh0 : h0 ∈ L) (th0 : T h0 = 7) (h1 : Nat) (mh1 : h1 ∈ L) (th1 : T h1 = 9) (bk : Nat) (hbk : r h1 1 = some bk) (mbk : bk ∈ L) (tbk : T bk = 52) (bp : Nat) (hbp : r h1 2 = some bp) (mbp : bp ∈ L) (tbp : T bp = 53) (k0 : σ h1 4 = 0) : Met l yX7_read (.code yX7_read cX7_read 4 (some .int) :: wsA) ({ frames := 2, cells := 0, slots := 0, locals := 45 }) (PR D cA L T r σ ρ sz [.ref h0, .ref h1]) (QI D cA L T r rz [(7, 4), (7, 5), (7, 6), (7, 7), (9, 5), (9, 6), (52, 1000), (53, 1000), (54, 1000)] σ sz (fun x σ1 => x = 1)) 0 0 (dm L sz) := by
  refine Met.ofW (cc := cX7_read) (maxL := 4) (ret := (some .int)) (by decide) rfl ?_
  intro p e s m args below meth c s₁ B hml hv
  obtain ⟨rfl, hsz, hP, hK, hN⟩ := hv
  have hx := B.exec
  have hb := B.bytes
  have hr := B.returns
  have hts : ∀ w ∈ wsA, w.before _ s = true := fun w h => atoms_spec (ws := .code yX7_read cX7_read 4 (some .int) :: wsA) B.pre w (List.mem_cons_of_mem _ h)
  have hown : s.vm.findClass RX7 = some m.cls := findClass_of_methodNamed B.named
  subst hsz
  have hLA : LA (dm L s.heap.size) L := ⟨hL, fun a h => Or.inl h⟩
  have hA : ∀ q : Nat, s.heap.size ≤ q → dm L s.heap.size q := fun q h => Or.inr h
  have hS : va_S (dm L s.heap.size) s.heap s.heap [] := va_S.rf
  have hB : TS D cA L T r rz [(7, 4), (7, 5), (7, 6), (7, 7), (9, 5), (9, 6), (52, 1000), (53, 1000), (54, 1000)] σ σ ρ s.heap := ⟨hP, hW, FR.rf⟩
  have hl := lv_entry ([.ref h0, .ref h1]) (n := 4) (Nat.le_of_ble_eq_true rfl)
  rw [lg_entry_eq]
  generalize (lg_sl ([.ref h0, .ref h1]) ++ List.replicate (4 - (lg_sl ([.ref h0, .ref h1])).length) Slot.unset).toArray = ls at hl ⊢
  have hl : lv_has ls 4 [(0, .ref h0), (1, .ref h1)] := hl
  refine lv_aload_n hx hb dX7_read_0 rfl (lv_at hl 1 rfl) ?_
  refine t_cv (va_runV (As := []) (rest := []) ⟨hx, hb, hml, hown, hts⟩ (cz_X9_scan l D cA L T r hG hLA.1 σ ρ hB.2.1 _ h1 mh1 th1 bk hbk mbk tbk bp hbp mbp tbp k0) (cV hts mv_X9_scan mw_4_23 rfl rfl ⟨Nat.le_of_ble_eq_true rfl, Nat.le_of_ble_eq_true rfl⟩) (pV hB.1 hK hN mh1 th1 (show shp cA 9 _ _ _ = .inr (9, Fs9 _ _ _) from rfl) rfl) rfl rfl hl.1 rfl (lv_room (Nat.le_of_ble_eq_true rfl)) dX7_read_1 ⟨Nat.le_of_ble_eq_true rfl, Nat.le_of_ble_eq_true rfl⟩) hLA hA hB hS (by decide) (fun σ_1 ρ_2 H locs hB fσ_1 pσ_1 hS => ?_)
  obtain ⟨g_4, g_5, g_6, g_7⟩ := pσ_1
  refine lv_aload_n hx hb dX7_read_4 rfl (lv_at hl 0 rfl) ?_
  refine lv_iconst (v := 0) hx hb dX7_read_5 (by decide) ?_
  refine t_pi hx hb hts hown hK hLA hB hS mh0 th0 fi_7_4 rfl rfl rfl (by decide) (by decide) (Or.inl (by decide)) mw_2_186 dX7_read_6 (fun H locs σ_8 eσ_8 hB hS => ?_)
  have k_9 : σ_8 h0 4 = 0 := by rw [eσ_8]; exact up2_same _ _ _ _
  refine lv_aload_n hx hb dX7_read_9 rfl (lv_at hl 0 rfl) ?_
  refine lv_iconst (v := 0) hx hb dX7_read_10 (by decide) ?_
  refine t_pi hx hb hts hown hK hLA hB hS mh0 th0 fi_7_5 rfl rfl rfl (by decide) (by decide) (Or.inl (by decide)) mw_2_187 dX7_read_11 (fun H locs σ_10 eσ_10 hB hS => ?_)
  have k_11 : σ_10 h0 5 = 0 := by rw [eσ_10]; exact up2_same _ _ _ _
  refine lv_aload_n hx hb dX7_read_14 rfl (lv_at hl 0 rfl) ?_
  refine lv_iconst (v := 0) hx hb dX7_read_15 (by decide) ?_
  refine t_pi hx hb hts hown hK hLA hB hS mh0 th0 fi_7_6 rfl rfl rfl (by decide) (by decide) (Or.inl (by decide)) mw_2_188 dX7_read_16 (fun H locs σ_12 eσ_12 hB hS => ?_)
  have k_13 : σ_12 h0 6 = 0 := by rw [eσ_12]; exact up2_same _ _ _ _
  refine lv_aload_n hx hb dX7_read_19 rfl (lv_at hl 0 rfl) ?_
  refine lv_iconst (v := 0) hx hb dX7_read_20 (by decide) ?_
  refine t_pi hx hb hts hown hK hLA hB hS mh0 th0 fi_7_7 rfl rfl rfl (by decide) (by decide) (Or.inl (by decide)) mw_2_189 dX7_read_21 (fun H locs σ_14 eσ_14 hB hS => ?_)
  have k_15 : σ_14 h0 7 = 0 := by rw [eσ_14]; exact up2_same _ _ _ _
  refine lv_iconst (v := 1) hx hb dX7_read_24 (by decide) ?_
  refine lv_istore_n (lv' := [(2, .int 1), (0, .ref h0), (1, .ref h1)]) hx hb dX7_read_25 rfl hl (by decide) rfl (fun ls hl => ?_)
  refine lv_iconst (v := 0) hx hb dX7_read_26 (by decide) ?_
  refine lv_istore_n (lv' := [(3, .int 0), (2, .int 1), (0, .ref h0), (1, .ref h1)]) hx hb dX7_read_27 rfl hl (by decide) rfl (fun ls hl => ?_)
  refine lv_iload_n hx hb dX7_read_28 rfl (lv_at hl 0 rfl) ?_
  refine lv_bipush (v := 12) hx hb dX7_read_29 (by decide) ?_
  refine lv_icmp_gt (tgt := 193) hx hb dX7_read_31 (by decide) (fun c9 => absurd c9 (by decide)) (fun _ => ?_)
  refine lv_iload_n hx hb dX7_read_34 rfl (lv_at hl 1 rfl) ?_
  refine lv_if_eq (tgt := 193) hx hb dX7_read_35 (by decide) (fun c9 => absurd c9 (by decide)) (fun _ => ?_)
  refine lv_aload_n hx hb dX7_read_38 rfl (lv_at hl 2 rfl) ?_
  refine lv_aload_n hx hb dX7_read_39 rfl (lv_at hl 3 rfl) ?_
  have k_16 : σ_8 h1 5 = 1 := by rw [eσ_8, up2_nej _ _ (by decide)]; exact g_4
  have k_17 : σ_10 h1 5 = 1 := by rw [eσ_10, up2_nea _ _ (tg_ne th1 th0 (by decide))]; exact k_16
  have k_18 : σ_12 h1 5 = 1 := by rw [eσ_12, up2_nej _ _ (by decide)]; exact k_17
  have k_19 : σ_14 h1 5 = 1 := by rw [eσ_14, up2_nej _ _ (by decide)]; exact k_18
  have k_20 : σ_8 bk 0 = 133 := by rw [eσ_8, up2_nej _ _ (by decide)]; exact g_6
  have k_21 : σ_10 bk 0 = 133 := by rw [eσ_10, up2_nej _ _ (by decide)]; exact k_20
  have k_22 : σ_12 bk 0 = 133 := by rw [eσ_12, up2_nej _ _ (by decide)]; exact k_21
  have k_23 : σ_14 bk 0 = 133 := by rw [eσ_14, up2_nej _ _ (by decide)]; exact k_22
  have k_24 : σ_8 bp 0 = 0 := by rw [eσ_8, up2_nej _ _ (by decide)]; exact g_7
  have k_25 : σ_10 bp 0 = 0 := by rw [eσ_10, up2_nej _ _ (by decide)]; exact k_24
  have k_26 : σ_12 bp 0 = 0 := by rw [eσ_12, up2_nej _ _ (by decide)]; exact k_25
  have k_27 : σ_14 bp 0 = 0 := by rw [eσ_14, up2_nej _ _ (by decide)]; exact k_26
  refine t_ci (va_runV (As := [.ref h1]) (rest := []) ⟨hx, hb, hml, hown, hts⟩ (cz_X7_beginsClause l D cA L T r hG hLA.1 σ_14 ρ_2 hB.2.1 _ h0 mh0 th0 h1 mh1 th1 bk hbk mbk tbk bp hbp mbp tbp k_19 k_23 k_27) (cV hts mv_X7_beginsClause mw_4_24 rfl rfl ⟨Nat.le_of_ble_eq_true rfl, Nat.le_of_ble_eq_true rfl⟩) (pV hB.1 hK hN mh0 th0 (show shp cA 7 _ _ _ = .inr (7, Fs7 _ _ _) from rfl) rfl) rfl rfl hl.1 rfl (lv_room (Nat.le_of_ble_eq_true rfl)) dX7_read_40 ⟨Nat.le_of_ble_eq_true rfl, Nat.le_of_ble_eq_true rfl⟩) hLA hA hB hS (by decide) (fun x_30 σ_28 ρ_29 H locs hB fσ_28 pσ_28 hS => ?_)
  obtain ⟨g_31, g_32⟩ := pσ_28
  subst g_31
  refine lv_if_eq (tgt := 193) hx hb dX7_read_43 (by decide) (fun _ => ?_) (fun c9 => absurd (by decide) c9)
  refine lv_aload_n hx hb dX7_read_193 rfl (lv_at hl 3 rfl) ?_
  refine t_gv hx hb hts hown hK hB mh1 th1 fi_9_6 g_32 mw_1_43 dX7_read_194 ?_
  exact W.iret (v := 1) hx hb hr (fun t ht hW => ⟨⟨1, (σ_28, ρ_29), rfl, ⟨hB.2.1, hB.2.2, rfl⟩, (show TP D cA L T r σ_28 ρ_29 t.heap from by rw [ht]; exact hB.1)⟩, hS.F ht⟩) hS.2.2 dX7_read_197
set_option maxHeartbeats 4000000 in
set_option maxRecDepth 100000 in
theorem cz_X11_isPilgrim (l : Launch) (D : va_G) (cA : Nat → ClassId) (L : List Nat) (T : Nat → Nat) (r : Rg) (hG : GR L T r) (hL : L.Nodup) (σ : Sg) (ρ : Lg) (hW : WT L rz T σ) (sz : Nat) (h0 : Nat) (mh0 : h0 ∈ L) (th0 : T h0 = 11) (p1 : Int32) : Met l yX11_isPilgrim (.code yX11_isPilgrim cX11_isPilgrim 2 (some .boolean) :: wsA) ({ frames := 0, cells := 0, slots := 0, locals := 0 }) (PR D cA L T r σ ρ sz [.ref h0, .int p1]) (QI D cA L T r rz ([] : List (Nat × Nat)) σ sz (fun x σ1 => x = 0)) 0 0 (dm L sz) := by
  refine Met.ofW (cc := cX11_isPilgrim) (maxL := 2) (ret := (some .boolean)) (by decide) rfl ?_
  intro p e s m args below meth c s₁ B hml hv
  obtain ⟨rfl, hsz, hP, hK, hN⟩ := hv
  have hx := B.exec
  have hb := B.bytes
  have hr := B.returns
  have hts : ∀ w ∈ wsA, w.before _ s = true := fun w h => atoms_spec (ws := .code yX11_isPilgrim cX11_isPilgrim 2 (some .boolean) :: wsA) B.pre w (List.mem_cons_of_mem _ h)
  have hown : s.vm.findClass RX11 = some m.cls := findClass_of_methodNamed B.named
  subst hsz
  have hLA : LA (dm L s.heap.size) L := ⟨hL, fun a h => Or.inl h⟩
  have hA : ∀ q : Nat, s.heap.size ≤ q → dm L s.heap.size q := fun q h => Or.inr h
  have hS : va_S (dm L s.heap.size) s.heap s.heap [] := va_S.rf
  have hB : TS D cA L T r rz ([] : List (Nat × Nat)) σ σ ρ s.heap := ⟨hP, hW, FR.rf⟩
  have hl := lv_entry ([.ref h0, .int p1]) (n := 2) (Nat.le_of_ble_eq_true rfl)
  rw [lg_entry_eq]
  generalize (lg_sl ([.ref h0, .int p1]) ++ List.replicate (2 - (lg_sl ([.ref h0, .int p1])).length) Slot.unset).toArray = ls at hl ⊢
  have hl : lv_has ls 2 [(0, .ref h0), (1, .int p1)] := hl
  refine lv_iload_n hx hb dX11_isPilgrim_0 rfl (lv_at hl 1 rfl) ?_
  refine lv_if_lt (tgt := 22) hx hb dX11_isPilgrim_1 (by decide) (fun c_1 => ?_) (fun c_1 => ?_)
  · skip
    have uc_1 := i_lt (n := 0) (by decide) c_1
    refine lv_iconst (v := 0) hx hb dX11_isPilgrim_22 (by decide) ?_
    exact W.zret (v := 0) hx hb hr rfl (fun t ht hW => ⟨⟨0, (σ, ρ), rfl, ⟨hB.2.1, hB.2.2, rfl⟩, (show TP D cA L T r σ ρ t.heap from by rw [ht]; exact hB.1)⟩, hS.F ht⟩) hS.2.2 dX11_isPilgrim_23
  · skip
    have uc_1 := i_nlt (n := 0) (by decide) c_1
    refine lv_iload_n hx hb dX11_isPilgrim_4 rfl (lv_at hl 1 rfl) ?_
    refine lv_aload_n hx hb dX11_isPilgrim_5 rfl (lv_at hl 0 rfl) ?_
    refine t_gr hx hb hts hown hK hG hB mh0 th0 fq_11_3 rfl mw_2_210 dX11_isPilgrim_6 (fun b_2 hb_2 mb_2 tb_2 => ?_)
    refine t_gr hx hb hts hown hK hG hB mb_2 tb_2 fq_10_0 rfl mw_1_236 dX11_isPilgrim_9 (fun b_3 hb_3 mb_3 tb_3 => ?_)
    refine t_gi hx hb hts hown hK hB mb_3 tb_3 fi_3_10 rfl mw_1_189 dX11_isPilgrim_12 (fun x_4 ex_4 lx_4 ux_4 => ?_)
    obtain rfl : x_4 = 0 := i_is (n := 0) (by decide) (by omega)
    refine lv_icmp_ge (tgt := 22) hx hb dX11_isPilgrim_15 (by decide) (fun c_5 => ?_) (fun c_5 => ?_)
    · skip
      have uc_5 := i_ge (n := 0) (by decide) c_5
      refine lv_iconst (v := 0) hx hb dX11_isPilgrim_22 (by decide) ?_
      exact W.zret (v := 0) hx hb hr rfl (fun t ht hW => ⟨⟨0, (σ, ρ), rfl, ⟨hB.2.1, hB.2.2, rfl⟩, (show TP D cA L T r σ ρ t.heap from by rw [ht]; exact hB.1)⟩, hS.F ht⟩) hS.2.2 dX11_isPilgrim_23
    · skip
      have uc_5 := i_nge (n := 0) (by decide) c_5
      exfalso; omega
set_option maxHeartbeats 4000000 in
set_option maxRecDepth 100000 in
theorem cz_X11_isBend (l : Launch) (D : va_G) (cA : Nat → ClassId) (L : List Nat) (T : Nat → Nat) (r : Rg) (hG : GR L T r) (hL : L.Nodup) (σ : Sg) (ρ : Lg) (hW : WT L rz T σ) (sz : Nat) (h0 : Nat) (mh0 : h0 ∈ L) (th0 : T h0 = 11) (p1 : Int32) : Met l yX11_isBend (.code yX11_isBend cX11_isBend 2 (some .boolean) :: wsA) ({ frames := 0, cells := 0, slots := 0, locals := 0 }) (PR D cA L T r σ ρ sz [.ref h0, .int p1]) (QI D cA L T r rz ([] : List (Nat × Nat)) σ sz (fun x σ1 => x = 0)) 0 0 (dm L sz) := by
  refine Met.ofW (cc := cX11_isBend) (maxL := 2) (ret := (some .boolean)) (by decide) rfl ?_
  intro p e s m args below meth c s₁ B hml hv
  obtain ⟨rfl, hsz, hP, hK, hN⟩ := hv
  have hx := B.exec
  have hb := B.bytes
  have hr := B.returns
  have hts : ∀ w ∈ wsA, w.before _ s = true := fun w h => atoms_spec (ws := .code yX11_isBend cX11_isBend 2 (some .boolean) :: wsA) B.pre w (List.mem_cons_of_mem _ h)
  have hown : s.vm.findClass RX11 = some m.cls := findClass_of_methodNamed B.named
  subst hsz
  have hLA : LA (dm L s.heap.size) L := ⟨hL, fun a h => Or.inl h⟩
  have hA : ∀ q : Nat, s.heap.size ≤ q → dm L s.heap.size q := fun q h => Or.inr h
  have hS : va_S (dm L s.heap.size) s.heap s.heap [] := va_S.rf
  have hB : TS D cA L T r rz ([] : List (Nat × Nat)) σ σ ρ s.heap := ⟨hP, hW, FR.rf⟩
  have hl := lv_entry ([.ref h0, .int p1]) (n := 2) (Nat.le_of_ble_eq_true rfl)
  rw [lg_entry_eq]
  generalize (lg_sl ([.ref h0, .int p1]) ++ List.replicate (2 - (lg_sl ([.ref h0, .int p1])).length) Slot.unset).toArray = ls at hl ⊢
  have hl : lv_has ls 2 [(0, .ref h0), (1, .int p1)] := hl
  refine lv_iload_n hx hb dX11_isBend_0 rfl (lv_at hl 1 rfl) ?_
  refine lv_if_lt (tgt := 22) hx hb dX11_isBend_1 (by decide) (fun c_1 => ?_) (fun c_1 => ?_)
  · skip
    have uc_1 := i_lt (n := 0) (by decide) c_1
    refine lv_iconst (v := 0) hx hb dX11_isBend_22 (by decide) ?_
    exact W.zret (v := 0) hx hb hr rfl (fun t ht hW => ⟨⟨0, (σ, ρ), rfl, ⟨hB.2.1, hB.2.2, rfl⟩, (show TP D cA L T r σ ρ t.heap from by rw [ht]; exact hB.1)⟩, hS.F ht⟩) hS.2.2 dX11_isBend_23
  · skip
    have uc_1 := i_nlt (n := 0) (by decide) c_1
    refine lv_iload_n hx hb dX11_isBend_4 rfl (lv_at hl 1 rfl) ?_
    refine lv_aload_n hx hb dX11_isBend_5 rfl (lv_at hl 0 rfl) ?_
    refine t_gr hx hb hts hown hK hG hB mh0 th0 fq_11_3 rfl mw_2_210 dX11_isBend_6 (fun b_2 hb_2 mb_2 tb_2 => ?_)
    refine t_gr hx hb hts hown hK hG hB mb_2 tb_2 fq_10_0 rfl mw_1_236 dX11_isBend_9 (fun b_3 hb_3 mb_3 tb_3 => ?_)
    refine t_gi hx hb hts hown hK hB mb_3 tb_3 fi_3_9 rfl mw_1_182 dX11_isBend_12 (fun x_4 ex_4 lx_4 ux_4 => ?_)
    obtain rfl : x_4 = 0 := i_is (n := 0) (by decide) (by omega)
    refine lv_icmp_ge (tgt := 22) hx hb dX11_isBend_15 (by decide) (fun c_5 => ?_) (fun c_5 => ?_)
    · skip
      have uc_5 := i_ge (n := 0) (by decide) c_5
      refine lv_iconst (v := 0) hx hb dX11_isBend_22 (by decide) ?_
      exact W.zret (v := 0) hx hb hr rfl (fun t ht hW => ⟨⟨0, (σ, ρ), rfl, ⟨hB.2.1, hB.2.2, rfl⟩, (show TP D cA L T r σ ρ t.heap from by rw [ht]; exact hB.1)⟩, hS.F ht⟩) hS.2.2 dX11_isBend_23
    · skip
      have uc_5 := i_nge (n := 0) (by decide) c_5
      exfalso; omega
set_option maxHeartbeats 4000000 in
set_option maxRecDepth 100000 in
theorem cz_X11_isSort (l : Launch) (D : va_G) (cA : Nat → ClassId) (L : List Nat) (T : Nat → Nat) (r : Rg) (hG : GR L T r) (hL : L.Nodup) (σ : Sg) (ρ : Lg) (hW : WT L rz T σ) (sz : Nat) (h0 : Nat) (mh0 : h0 ∈ L) (th0 : T h0 = 11) (p1 : Int32) : Met l yX11_isSort (.code yX11_isSort cX11_isSort 2 (some .boolean) :: wsA) ({ frames := 0, cells := 0, slots := 0, locals := 0 }) (PR D cA L T r σ ρ sz [.ref h0, .int p1]) (QI D cA L T r rz ([] : List (Nat × Nat)) σ sz (fun x σ1 => x = 0)) 0 0 (dm L sz) := by
  refine Met.ofW (cc := cX11_isSort) (maxL := 2) (ret := (some .boolean)) (by decide) rfl ?_
  intro p e s m args below meth c s₁ B hml hv
  obtain ⟨rfl, hsz, hP, hK, hN⟩ := hv
  have hx := B.exec
  have hb := B.bytes
  have hr := B.returns
  have hts : ∀ w ∈ wsA, w.before _ s = true := fun w h => atoms_spec (ws := .code yX11_isSort cX11_isSort 2 (some .boolean) :: wsA) B.pre w (List.mem_cons_of_mem _ h)
  have hown : s.vm.findClass RX11 = some m.cls := findClass_of_methodNamed B.named
  subst hsz
  have hLA : LA (dm L s.heap.size) L := ⟨hL, fun a h => Or.inl h⟩
  have hA : ∀ q : Nat, s.heap.size ≤ q → dm L s.heap.size q := fun q h => Or.inr h
  have hS : va_S (dm L s.heap.size) s.heap s.heap [] := va_S.rf
  have hB : TS D cA L T r rz ([] : List (Nat × Nat)) σ σ ρ s.heap := ⟨hP, hW, FR.rf⟩
  have hl := lv_entry ([.ref h0, .int p1]) (n := 2) (Nat.le_of_ble_eq_true rfl)
  rw [lg_entry_eq]
  generalize (lg_sl ([.ref h0, .int p1]) ++ List.replicate (2 - (lg_sl ([.ref h0, .int p1])).length) Slot.unset).toArray = ls at hl ⊢
  have hl : lv_has ls 2 [(0, .ref h0), (1, .int p1)] := hl
  refine lv_iload_n hx hb dX11_isSort_0 rfl (lv_at hl 1 rfl) ?_
  refine lv_if_lt (tgt := 22) hx hb dX11_isSort_1 (by decide) (fun c_1 => ?_) (fun c_1 => ?_)
  · skip
    have uc_1 := i_lt (n := 0) (by decide) c_1
    refine lv_iconst (v := 0) hx hb dX11_isSort_22 (by decide) ?_
    exact W.zret (v := 0) hx hb hr rfl (fun t ht hW => ⟨⟨0, (σ, ρ), rfl, ⟨hB.2.1, hB.2.2, rfl⟩, (show TP D cA L T r σ ρ t.heap from by rw [ht]; exact hB.1)⟩, hS.F ht⟩) hS.2.2 dX11_isSort_23
  · skip
    have uc_1 := i_nlt (n := 0) (by decide) c_1
    refine lv_iload_n hx hb dX11_isSort_4 rfl (lv_at hl 1 rfl) ?_
    refine lv_aload_n hx hb dX11_isSort_5 rfl (lv_at hl 0 rfl) ?_
    refine t_gr hx hb hts hown hK hG hB mh0 th0 fq_11_3 rfl mw_2_210 dX11_isSort_6 (fun b_2 hb_2 mb_2 tb_2 => ?_)
    refine t_gr hx hb hts hown hK hG hB mb_2 tb_2 fq_10_0 rfl mw_1_236 dX11_isSort_9 (fun b_3 hb_3 mb_3 tb_3 => ?_)
    refine t_gi hx hb hts hown hK hB mb_3 tb_3 fi_3_8 rfl mw_1_177 dX11_isSort_12 (fun x_4 ex_4 lx_4 ux_4 => ?_)
    obtain rfl : x_4 = 0 := i_is (n := 0) (by decide) (by omega)
    refine lv_icmp_ge (tgt := 22) hx hb dX11_isSort_15 (by decide) (fun c_5 => ?_) (fun c_5 => ?_)
    · skip
      have uc_5 := i_ge (n := 0) (by decide) c_5
      refine lv_iconst (v := 0) hx hb dX11_isSort_22 (by decide) ?_
      exact W.zret (v := 0) hx hb hr rfl (fun t ht hW => ⟨⟨0, (σ, ρ), rfl, ⟨hB.2.1, hB.2.2, rfl⟩, (show TP D cA L T r σ ρ t.heap from by rw [ht]; exact hB.1)⟩, hS.F ht⟩) hS.2.2 dX11_isSort_23
    · skip
      have uc_5 := i_nge (n := 0) (by decide) c_5
      exfalso; omega
set_option maxHeartbeats 4000000 in
set_option maxRecDepth 100000 in
theorem cz_X11_areTogether (l : Launch) (D : va_G) (cA : Nat → ClassId) (L : List Nat) (T : Nat → Nat) (r : Rg) (hG : GR L T r) (hL : L.Nodup) (σ : Sg) (ρ : Lg) (hW : WT L rz T σ) (sz : Nat) (h0 : Nat) (mh0 : h0 ∈ L) (th0 : T h0 = 11) (p1 : Int32) (p2 : Int32) : Met l yX11_areTogether (.code yX11_areTogether cX11_areTogether 3 (some .boolean) :: wsA) ({ frames := 1, cells := 0, slots := 0, locals := 21 }) (PR D cA L T r σ ρ sz [.ref h0, .int p1, .int p2]) (QI D cA L T r rz ([] : List (Nat × Nat)) σ sz (fun x σ1 => x = 0)) 0 0 (dm L sz) := by
  refine Met.ofW (cc := cX11_areTogether) (maxL := 3) (ret := (some .boolean)) (by decide) rfl ?_
  intro p e s m args below meth c s₁ B hml hv
  obtain ⟨rfl, hsz, hP, hK, hN⟩ := hv
  have hx := B.exec
  have hb := B.bytes
  have hr := B.returns
  have hts : ∀ w ∈ wsA, w.before _ s = true := fun w h => atoms_spec (ws := .code yX11_areTogether cX11_areTogether 3 (some .boolean) :: wsA) B.pre w (List.mem_cons_of_mem _ h)
  have hown : s.vm.findClass RX11 = some m.cls := findClass_of_methodNamed B.named
  subst hsz
  have hLA : LA (dm L s.heap.size) L := ⟨hL, fun a h => Or.inl h⟩
  have hA : ∀ q : Nat, s.heap.size ≤ q → dm L s.heap.size q := fun q h => Or.inr h
  have hS : va_S (dm L s.heap.size) s.heap s.heap [] := va_S.rf
  have hB : TS D cA L T r rz ([] : List (Nat × Nat)) σ σ ρ s.heap := ⟨hP, hW, FR.rf⟩
  have hl := lv_entry ([.ref h0, .int p1, .int p2]) (n := 3) (Nat.le_of_ble_eq_true rfl)
  rw [lg_entry_eq]
  generalize (lg_sl ([.ref h0, .int p1, .int p2]) ++ List.replicate (3 - (lg_sl ([.ref h0, .int p1, .int p2])).length) Slot.unset).toArray = ls at hl ⊢
  have hl : lv_has ls 3 [(0, .ref h0), (1, .int p1), (2, .int p2)] := hl
  refine lv_aload_n hx hb dX11_areTogether_0 rfl (lv_at hl 0 rfl) ?_
  refine lv_iload_n hx hb dX11_areTogether_1 rfl (lv_at hl 1 rfl) ?_
  refine t_ci (va_runV (As := [.int p1]) (rest := []) ⟨hx, hb, hml, hown, hts⟩ (cz_X11_isPilgrim l D cA L T r hG hLA.1 σ ρ hB.2.1 _ h0 mh0 th0 p1) (cV hts mv_X11_isPilgrim mw_4_70 rfl rfl ⟨Nat.le_of_ble_eq_true rfl, Nat.le_of_ble_eq_true rfl⟩) (pV hB.1 hK hN mh0 th0 (show shp cA 11 _ _ _ = .inr (11, Fs11 _ _ _) from rfl) rfl) rfl rfl hl.1 rfl (lv_room (Nat.le_of_ble_eq_true rfl)) dX11_areTogether_2 ⟨Nat.le_of_ble_eq_true rfl, Nat.le_of_ble_eq_true rfl⟩) hLA hA hB hS (by decide) (fun x_3 σ_1 ρ_2 H locs hB fσ_1 pσ_1 hS => ?_)
  subst pσ_1
  refine lv_if_eq (tgt := 52) hx hb dX11_areTogether_5 (by decide) (fun _ => ?_) (fun c9 => absurd (by decide) c9)
  refine lv_iconst (v := 0) hx hb dX11_areTogether_52 (by decide) ?_
  exact W.zret (v := 0) hx hb hr rfl (fun t ht hW => ⟨⟨0, (σ_1, ρ_2), rfl, ⟨hB.2.1, hB.2.2, rfl⟩, (show TP D cA L T r σ_1 ρ_2 t.heap from by rw [ht]; exact hB.1)⟩, hS.F ht⟩) hS.2.2 dX11_areTogether_53
