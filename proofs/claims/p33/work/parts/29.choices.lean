set_option maxHeartbeats 4000000 in
set_option maxRecDepth 100000 in
theorem cy_X1_mostOf_b (l : Launch) (D : va_G) (cA : Nat → ClassId) (L : List Nat) (T : Nat → Nat) (r : Rg) (hG : GR L T r) (hL : L.Nodup) (σ : Sg) (ρ : Lg) (hW : WT L ry T σ) (sz : Nat) (h1 : Nat) (mh1 : h1 ∈ L) (th1 : T h1 = 8) (p2 : Int32) (p3 : Int32) (w0 : 0 ≤ p2.toInt) (w1 : p2.toInt ≤ 3) (w2 : 0 ≤ p3.toInt) (w3 : p3.toInt ≤ 4) : Met l yX1_mostOf (.code yX1_mostOf cX1_mostOf 5 (some .int) :: wsA) ({ frames := 1, cells := 0, slots := 0, locals := 40 }) (PR D cA L T r σ ρ sz [.ref h1, .int p2, .int p3]) (QI D cA L T r ry ([] : List (Nat × Nat)) σ sz (fun x σ1 => ((-2147483648) ≤ x.toInt ∧ x.toInt ≤ 1000))) 0 0 (dm L sz) := by
  refine Met.ofW (cc := cX1_mostOf) (maxL := 5) (ret := (some .int)) (by decide) rfl ?_
  intro p e s m args below meth c s₁ B hml hv
  obtain ⟨rfl, hsz, hP, hK, hN⟩ := hv
  have hx := B.exec
  have hb := B.bytes
  have hr := B.returns
  have hts : ∀ w ∈ wsA, w.before _ s = true := fun w h => atoms_spec (ws := .code yX1_mostOf cX1_mostOf 5 (some .int) :: wsA) B.pre w (List.mem_cons_of_mem _ h)
  have hown : s.vm.findClass RX1 = some m.cls := findClass_of_methodNamed B.named
  subst hsz
  have hLA : LA (dm L s.heap.size) L := ⟨hL, fun a h => Or.inl h⟩
  have hA : ∀ q : Nat, s.heap.size ≤ q → dm L s.heap.size q := fun q h => Or.inr h
  have hS : va_S (dm L s.heap.size) s.heap s.heap [] := va_S.rf
  have hB : TS D cA L T r ry ([] : List (Nat × Nat)) σ σ ρ s.heap := ⟨hP, hW, FR.rf⟩
  have hl := lv_entry ([.ref h1, .int p2, .int p3]) (n := 5) (Nat.le_of_ble_eq_true rfl)
  rw [lg_entry_eq]
  generalize (lg_sl ([.ref h1, .int p2, .int p3]) ++ List.replicate (5 - (lg_sl ([.ref h1, .int p2, .int p3])).length) Slot.unset).toArray = ls at hl ⊢
  have hl : lv_has ls 5 [(0, .ref h1), (1, .int p2), (2, .int p3)] := hl
  refine lv_iconst (v := 0) hx hb dX1_mostOf_0 (by decide) ?_
  refine lv_istore_n (lv' := [(3, .int 0), (0, .ref h1), (1, .int p2), (2, .int p3)]) hx hb dX1_mostOf_1 rfl hl (by decide) rfl (fun ls hl => ?_)
  refine lv_iconst (v := 0) hx hb dX1_mostOf_2 (by decide) ?_
  refine lv_istore (lv' := [(4, .int 0), (3, .int 0), (0, .ref h1), (1, .int p2), (2, .int p3)]) hx hb dX1_mostOf_3 hl (by decide) rfl (fun ls hl => ?_)
  refine w_loop (α := Int32 × Int32 × Sg × Lg) (fun (i_1, i_2, σ_3, ρ_4) H locs ls => 0 ≤ i_1.toInt ∧ i_1.toInt ≤ 792 ∧ 0 ≤ i_2.toInt ∧ i_2.toInt ≤ 8 ∧ (i_1.toInt ≤ 99 * i_2.toInt) ∧ TS D cA L T r ry ([] : List (Nat × Nat)) σ σ_3 ρ_4 H ∧ va_S (dm L s.heap.size) s.heap H locs ∧ lv_has ls 5 [(4, .int i_2), (3, .int i_1), (0, .ref h1), (1, .int p2), (2, .int p3)]) (fun (i_1, i_2, σ_3, ρ_4) => (8 - i_2.toInt).toNat) ?_ ⟨0, 0, σ, ρ⟩ ⟨(by decide), (by decide), (by decide), (by decide), (by first | decide | omega), hB, hS, lv_sub hl [0, 1, 2, 3, 4] rfl⟩
  rintro ⟨i_1, i_2, σ_3, ρ_4⟩ H locs ls ⟨li_1, ui_1, li_2, ui_2, g_6, hB, hS, hl⟩ ih_5
  refine lv_iload hx hb dX1_mostOf_5 (lv_at hl 0 rfl) ?_
  refine lv_aload_n hx hb dX1_mostOf_7 rfl (lv_at hl 2 rfl) ?_
  refine t_gr hx hb hts hown hK hG hB mh1 th1 fq_8_0 rfl mw_1_82 dX1_mostOf_8 (fun b_7 hb_7 mb_7 tb_7 => ?_)
  refine lv_iload_n hx hb dX1_mostOf_11 rfl (lv_at hl 3 rfl) ?_
  refine t_ai hx hb hK hB mb_7 tb_7 ai_45 (fun _ => rfl) (i_in (by omega) (by omega)) dX1_mostOf_12 (fun x_8 ex_8 lx_8 ux_8 => ?_)
  have cx_8 := congrArg Int32.toInt ex_8
  refine lv_icmp_ge (tgt := 36) hx hb dX1_mostOf_13 (by decide) (fun c_9 => ?_) (fun c_9 => ?_)
  · skip
    have uc_9 := j_le c_9
    refine lv_iload_n hx hb dX1_mostOf_36 rfl (lv_at hl 1 rfl) ?_
    refine lv_bipush (v := 9) hx hb dX1_mostOf_37 (by decide) ?_
    refine lv_aload_n hx hb dX1_mostOf_39 rfl (lv_at hl 2 rfl) ?_
    refine t_gr hx hb hts hown hK hG hB mh1 th1 fq_8_4 rfl mw_1_97 dX1_mostOf_40 (fun b_10 hb_10 mb_10 tb_10 => ?_)
    refine lv_iload_n hx hb dX1_mostOf_43 rfl (lv_at hl 3 rfl) ?_
    refine lv_iconst (v := 5) hx hb dX1_mostOf_44 (by decide) ?_
    refine lv_imul hx hb dX1_mostOf_45 ?_
    refine lv_topi (fun x_11 ex_11 => ?_)
    have vx_11 := b_mul (rfl : p2.toInt = _) (by decide : (5 : Int32).toInt = 5) ex_11 (by omega) (by omega)
    refine lv_iload_n hx hb dX1_mostOf_46 rfl (lv_at hl 4 rfl) ?_
    refine lv_iadd hx hb dX1_mostOf_47 ?_
    refine lv_topi (fun x_12 ex_12 => ?_)
    have vx_12 := b_add (rfl : x_11.toInt = _) (rfl : p3.toInt = _) ex_12 (by omega) (by omega)
    refine t_ai hx hb hK hB mb_10 tb_10 ai_49 (fun _ => rfl) (i_in (by omega) (by omega)) dX1_mostOf_48 (fun x_13 ex_13 lx_13 ux_13 => ?_)
    have cx_13 := congrArg Int32.toInt ex_13
    refine lv_isub hx hb dX1_mostOf_49 ?_
    refine lv_topi (fun x_14 ex_14 => ?_)
    try have vx_14 := b_sub (by decide : (9 : Int32).toInt = 9) (rfl : x_13.toInt = _) ex_14 (by omega) (by omega)
    refine va_mmin hx hb (hml.trans hl.1.symm) hown (hts _ mw_5_78) (hts _ mw_3_123) (hts _ mw_1_18) (hts _ mw_3_124) (Nat.le_of_ble_eq_true rfl) (Nat.le_of_ble_eq_true rfl) (Nat.zero_le _) (Nat.zero_le _) dX1_mostOf_50 ?_
    refine lv_topi (fun x_15 ex_15 => ?_)
    obtain ⟨lx_15, mx_15, ux_15⟩ := m_min (rfl : i_1.toInt = _) (rfl : x_14.toInt = _) ex_15
    exact W.iret (v := x_15) hx hb hr (fun t ht hW => ⟨⟨x_15, (σ_3, ρ_4), rfl, ⟨hB.2.1, hB.2.2, (show (-2147483648) ≤ (x_15 : Int32).toInt ∧ (x_15 : Int32).toInt ≤ 1000 from ⟨i_lo _, by omega⟩)⟩, (show TP D cA L T r σ_3 ρ_4 t.heap from by rw [ht]; exact hB.1)⟩, hS.F ht⟩) hS.2.2 dX1_mostOf_53
  · skip
    have uc_9 := j_nle c_9
    refine lv_iload_n hx hb dX1_mostOf_16 rfl (lv_at hl 1 rfl) ?_
    refine lv_aload_n hx hb dX1_mostOf_17 rfl (lv_at hl 2 rfl) ?_
    refine t_gr hx hb hts hown hK hG hB mh1 th1 fq_8_5 rfl mw_1_101 dX1_mostOf_18 (fun b_16 hb_16 mb_16 tb_16 => ?_)
    refine lv_iload hx hb dX1_mostOf_21 (lv_at hl 0 rfl) ?_
    refine lv_iconst (v := 5) hx hb dX1_mostOf_23 (by decide) ?_
    refine lv_imul hx hb dX1_mostOf_24 ?_
    refine lv_topi (fun x_17 ex_17 => ?_)
    have vx_17 := b_mul (rfl : i_2.toInt = _) (by decide : (5 : Int32).toInt = 5) ex_17 (by omega) (by omega)
    refine lv_iload_n hx hb dX1_mostOf_25 rfl (lv_at hl 4 rfl) ?_
    refine lv_iadd hx hb dX1_mostOf_26 ?_
    refine lv_topi (fun x_18 ex_18 => ?_)
    have vx_18 := b_add (rfl : x_17.toInt = _) (rfl : p3.toInt = _) ex_18 (by omega) (by omega)
    refine t_ai hx hb hK hB mb_16 tb_16 ai_50 (fun _ => rfl) (i_in (by omega) (by omega)) dX1_mostOf_27 (fun x_19 ex_19 lx_19 ux_19 => ?_)
    have cx_19 := congrArg Int32.toInt ex_19
    refine lv_iadd hx hb dX1_mostOf_28 ?_
    refine lv_topi (fun x_20 ex_20 => ?_)
    have vx_20 := b_add (rfl : i_1.toInt = _) (rfl : x_19.toInt = _) ex_20 (by omega) (by omega)
    refine lv_istore_n (lv' := [(3, .int x_20), (4, .int i_2), (0, .ref h1), (1, .int p2), (2, .int p3)]) hx hb dX1_mostOf_29 rfl hl (by decide) rfl (fun ls hl => ?_)
    obtain ⟨x_21, ex_21⟩ : ∃ y : Int32, y = i_2 + 1 := ⟨_, rfl⟩
    have vx_21 := b_add (rfl : i_2.toInt = _) (by decide : (1 : Int32).toInt = 1) ex_21 (by omega) (by omega)
    refine lv_iinc (v := x_21) (lv' := [(4, .int x_21), (3, .int x_20), (0, .ref h1), (1, .int p2), (2, .int p3)]) hx hb dX1_mostOf_30 hl (k := 1) rfl (by rw [ex_21]; rfl) (by decide) rfl (fun ls hl => ?_)
    refine lv_goto (tgt := 5) hx hb dX1_mostOf_33 (by decide) ?_
    exact ih_5 ⟨x_20, x_21, σ_3, ρ_4⟩ _ _ _ ⟨(by omega), (by omega), (by omega), (by omega), (by first | decide | omega), hB, hS, lv_sub hl [0, 1, 2, 3, 4] rfl⟩ (by show (8 - x_21.toInt).toNat < (8 - i_2.toInt).toNat; omega)
theorem mw_2_130 : (.fieldLink RX1 46 "HillBends$Choices" "bestScore" "I" : Cond) ∈ wsA := wsA_t (List.mem_append_right _ (List.mem_append_left _ (List.mem_of_getElem? (l := tables_1_2) (i := 130) rfl))) rfl
theorem mw_2_127 : (.fieldLink RX1 18 "HillBends$Choices" "row" "[I" : Cond) ∈ wsA := wsA_t (List.mem_append_right _ (List.mem_append_left _ (List.mem_of_getElem? (l := tables_1_2) (i := 127) rfl))) rfl
theorem mw_5_84 : (.methodLink RX1 83 arraycopyName : Cond) ∈ wsA := wsA_t (List.mem_append_right _ (List.mem_append_right _ (List.mem_append_right _ (List.mem_append_right _ (List.mem_append_left _ (List.mem_of_getElem? (l := tables_1_5) (i := 84) rfl)))))) rfl
theorem dX1_pickFrom_0 : decode cX1_pickFrom 0 = .ok (.iload_n 2, 1) := by decide +kernel
theorem dX1_pickFrom_1 : decode cX1_pickFrom 1 = .ok (.aload_n 1, 1) := by decide +kernel
theorem dX1_pickFrom_2 : decode cX1_pickFrom 2 = .ok (.getfield 33, 3) := by decide +kernel
theorem dX1_pickFrom_5 : decode cX1_pickFrom 5 = .ok (.if_icmp .lt 33, 3) := by decide +kernel
theorem dX1_pickFrom_8 : decode cX1_pickFrom 8 = .ok (.iload 5, 2) := by decide +kernel
theorem dX1_pickFrom_10 : decode cX1_pickFrom 10 = .ok (.aload_n 0, 1) := by decide +kernel
theorem dX1_pickFrom_11 : decode cX1_pickFrom 11 = .ok (.getfield 46, 3) := by decide +kernel
theorem dX1_pickFrom_14 : decode cX1_pickFrom 14 = .ok (.if_icmp .le 23, 3) := by decide +kernel
theorem dX1_pickFrom_37 : decode cX1_pickFrom 37 = .ok (.return_, 1) := by decide +kernel
theorem dX1_pickFrom_17 : decode cX1_pickFrom 17 = .ok (.aload_n 0, 1) := by decide +kernel
theorem dX1_pickFrom_18 : decode cX1_pickFrom 18 = .ok (.iload 5, 2) := by decide +kernel
theorem dX1_pickFrom_20 : decode cX1_pickFrom 20 = .ok (.putfield 46, 3) := by decide +kernel
theorem dX1_pickFrom_23 : decode cX1_pickFrom 23 = .ok (.aload_n 0, 1) := by decide +kernel
theorem dX1_pickFrom_24 : decode cX1_pickFrom 24 = .ok (.getfield 18, 3) := by decide +kernel
theorem dX1_pickFrom_27 : decode cX1_pickFrom 27 = .ok (.iconst 0, 1) := by decide +kernel
theorem dX1_pickFrom_28 : decode cX1_pickFrom 28 = .ok (.aload_n 0, 1) := by decide +kernel
theorem dX1_pickFrom_29 : decode cX1_pickFrom 29 = .ok (.getfield 21, 3) := by decide +kernel
theorem dX1_pickFrom_32 : decode cX1_pickFrom 32 = .ok (.iconst 0, 1) := by decide +kernel
theorem dX1_pickFrom_33 : decode cX1_pickFrom 33 = .ok (.iconst 5, 1) := by decide +kernel
theorem dX1_pickFrom_34 : decode cX1_pickFrom 34 = .ok (.invokestatic 83, 3) := by decide +kernel
set_option maxHeartbeats 4000000 in
set_option maxRecDepth 100000 in
theorem cy_X1_pickFrom_0 (l : Launch) (D : va_G) (cA : Nat → ClassId) (L : List Nat) (T : Nat → Nat) (r : Rg) (hG : GR L T r) (hL : L.Nodup) (σ : Sg) (ρ : Lg) (hW : WT L ry T σ) (sz : Nat) (h0 : Nat) (mh0 : h0 ∈ L) (th0 : T h0 = 1) (h1 : Nat) (mh1 : h1 ∈ L) (th1 : T h1 = 3) (p2 : Int32) (p3 : Int32) (p4 : Int32) (p5 : Int32) (w0 : 5 ≤ p2.toInt) (w1 : p2.toInt ≤ 5) : Met l yX1_pickFrom (.code yX1_pickFrom cX1_pickFrom 8 none :: wsA) ({ frames := 1, cells := 0, slots := 0, locals := 100 }) (PR D cA L T r σ ρ sz [.ref h0, .ref h1, .int p2, .int p3, .int p4, .int p5]) (QV D cA L T r ry [(1, 4), (27, 1000)] σ sz (fun σ1 => True)) 0 0 (dm L sz) := by
  refine Met.ofW (cc := cX1_pickFrom) (maxL := 8) (ret := none) (by decide) rfl ?_
  intro p e s m args below meth c s₁ B hml hv
  obtain ⟨rfl, hsz, hP, hK, hN⟩ := hv
  have hx := B.exec
  have hb := B.bytes
  have hr := B.returns
  have hts : ∀ w ∈ wsA, w.before _ s = true := fun w h => atoms_spec (ws := .code yX1_pickFrom cX1_pickFrom 8 none :: wsA) B.pre w (List.mem_cons_of_mem _ h)
  have hown : s.vm.findClass RX1 = some m.cls := findClass_of_methodNamed B.named
  subst hsz
  have hLA : LA (dm L s.heap.size) L := ⟨hL, fun a h => Or.inl h⟩
  have hA : ∀ q : Nat, s.heap.size ≤ q → dm L s.heap.size q := fun q h => Or.inr h
  have hS : va_S (dm L s.heap.size) s.heap s.heap [] := va_S.rf
  have hB : TS D cA L T r ry [(1, 4), (27, 1000)] σ σ ρ s.heap := ⟨hP, hW, FR.rf⟩
  have hl := lv_entry ([.ref h0, .ref h1, .int p2, .int p3, .int p4, .int p5]) (n := 8) (Nat.le_of_ble_eq_true rfl)
  rw [lg_entry_eq]
  generalize (lg_sl ([.ref h0, .ref h1, .int p2, .int p3, .int p4, .int p5]) ++ List.replicate (8 - (lg_sl ([.ref h0, .ref h1, .int p2, .int p3, .int p4, .int p5])).length) Slot.unset).toArray = ls at hl ⊢
  have hl : lv_has ls 8 [(0, .ref h0), (1, .ref h1), (2, .int p2), (3, .int p3), (4, .int p4), (5, .int p5)] := hl
  have zp3 := i_lo p3
  have yp3 := i_hi p3
  have zp4 := i_lo p4
  have yp4 := i_hi p4
  have zp5 := i_lo p5
  have yp5 := i_hi p5
  refine lv_iload_n hx hb dX1_pickFrom_0 rfl (lv_at hl 2 rfl) ?_
  refine lv_aload_n hx hb dX1_pickFrom_1 rfl (lv_at hl 1 rfl) ?_
  refine t_gi hx hb hts hown hK hB mh1 th1 fi_3_8 rfl mw_1_172 dX1_pickFrom_2 (fun x_1 ex_1 lx_1 ux_1 => ?_)
  refine lv_icmp_lt (tgt := 38) hx hb dX1_pickFrom_5 (by decide) (fun c_2 => ?_) (fun c_2 => ?_)
  · skip
    have uc_2 := j_lt c_2
    exfalso; omega
  · skip
    have uc_2 := j_nlt c_2
    refine lv_iload hx hb dX1_pickFrom_8 (lv_at hl 5 rfl) ?_
    refine lv_aload_n hx hb dX1_pickFrom_10 rfl (lv_at hl 0 rfl) ?_
    refine t_gi hx hb hts hown hK hB mh0 th0 fi_1_4 rfl mw_2_130 dX1_pickFrom_11 (fun x_3 ex_3 lx_3 ux_3 => ?_)
    refine lv_icmp_le (tgt := 37) hx hb dX1_pickFrom_14 (by decide) (fun c_4 => ?_) (fun c_4 => ?_)
    · skip
      have uc_4 := j_le c_4
      exact W.vret hx hb hr (fun t ht hW => ⟨⟨(σ, ρ), rfl, ⟨hB.2.1, hB.2.2, trivial⟩, (show TP D cA L T r σ ρ t.heap from by rw [ht]; exact hB.1)⟩, hS.F ht⟩) hS.2.2 dX1_pickFrom_37
    · skip
      have uc_4 := j_nle c_4
      refine lv_aload_n hx hb dX1_pickFrom_17 rfl (lv_at hl 0 rfl) ?_
      refine lv_iload hx hb dX1_pickFrom_18 (lv_at hl 5 rfl) ?_
      refine t_pi hx hb hts hown hK hLA hB hS mh0 th0 fi_1_4 rfl rfl rfl (i_lo _) (i_hi _) (Or.inl (by decide)) mw_2_130 dX1_pickFrom_20 (fun H locs σ_5 eσ_5 hB hS => ?_)
      have k_6 : σ_5 h0 4 = p5 := by rw [eσ_5]; exact up2_same _ _ _ _
      refine lv_aload_n hx hb dX1_pickFrom_23 rfl (lv_at hl 0 rfl) ?_
      refine t_gr hx hb hts hown hK hG hB mh0 th0 fq_1_2 rfl mw_2_127 dX1_pickFrom_24 (fun b_7 hb_7 mb_7 tb_7 => ?_)
      refine lv_iconst (v := 0) hx hb dX1_pickFrom_27 (by decide) ?_
      refine lv_aload_n hx hb dX1_pickFrom_28 rfl (lv_at hl 0 rfl) ?_
      refine t_gr hx hb hts hown hK hG hB mh0 th0 fq_1_3 rfl mw_2_128 dX1_pickFrom_29 (fun b_8 hb_8 mb_8 tb_8 => ?_)
      refine lv_iconst (v := 0) hx hb dX1_pickFrom_32 (by decide) ?_
      refine lv_iconst (v := 5) hx hb dX1_pickFrom_33 (by decide) ?_
      refine t_cp (lo := (-2147483648)) (hi := 2147483647) hx hb (hml.trans hl.1.symm) hts hown mw_5_84 ⟨mw_3_239, mw_3_238, mw_1_20⟩ hK hLA hB hS mb_7 tb_7 ai_26 mb_8 tb_8 ai_27 (fun _ => ⟨show ((-2147483648) : Int) ≤ (-2147483648) by decide, show (2147483647 : Int) ≤ 2147483647 by decide⟩) (fun _ => rfl) (by decide) (by decide) (by decide) (by decide) (by decide) (by decide) (Nat.le_of_ble_eq_true rfl) (Nat.le_of_ble_eq_true rfl) dX1_pickFrom_34 (fun H locs σ_9 eσ_9 hB hS => ?_)
      exact W.vret hx hb hr (fun t ht hW => ⟨⟨(σ_9, ρ), rfl, ⟨hB.2.1, hB.2.2, trivial⟩, (show TP D cA L T r σ_9 ρ t.heap from by rw [ht]; exact hB.1)⟩, hS.F ht⟩) hS.2.2 dX1_pickFrom_37
theorem mw_5_87 : (.instanceMethod yX1_mostGainFrom : Cond) ∈ wsA := wsA_t (List.mem_append_right _ (List.mem_append_right _ (List.mem_append_right _ (List.mem_append_right _ (List.mem_append_left _ (List.mem_of_getElem? (l := tables_1_5) (i := 87) rfl)))))) rfl
theorem mp_3_6 : (.selects RX1 yX1_mostGainFrom yX1_mostGainFrom : Cond) ∈ wsA := wsA_p (q := (yX1_mostGainFrom, 9)) (List.mem_append_right _ (List.mem_append_right _ (List.mem_append_left _ (List.mem_of_getElem? (l := lw_privs_3) (i := 6) rfl))))
theorem mw_1_10 : (.initialized RX1 : Cond) ∈ wsA := wsA_t (List.mem_append_left _ (List.mem_of_getElem? (l := tables_1_1) (i := 10) rfl)) rfl
theorem mw_5_88 : (.code yX1_mostGainFrom cX1_mostGainFrom 5 (some .int) : Cond) ∈ wsA := wsA_t (List.mem_append_right _ (List.mem_append_right _ (List.mem_append_right _ (List.mem_append_right _ (List.mem_append_left _ (List.mem_of_getElem? (l := tables_1_5) (i := 88) rfl)))))) rfl
theorem mw_5_85 : (.methodLink RX1 89 yX1_mostGainFrom : Cond) ∈ wsA := wsA_t (List.mem_append_right _ (List.mem_append_right _ (List.mem_append_right _ (List.mem_append_right _ (List.mem_append_left _ (List.mem_of_getElem? (l := tables_1_5) (i := 85) rfl)))))) rfl
theorem mw_1_132 : (.fieldLink RX1 92 "HillBends$Hill" "weight" "[I" : Cond) ∈ wsA := wsA_t (List.mem_append_left _ (List.mem_of_getElem? (l := tables_1_1) (i := 132) rfl)) rfl
theorem mw_5_82 : (.instanceMethod yX1_pickFrom : Cond) ∈ wsA := wsA_t (List.mem_append_right _ (List.mem_append_right _ (List.mem_append_right _ (List.mem_append_right _ (List.mem_append_left _ (List.mem_of_getElem? (l := tables_1_5) (i := 82) rfl)))))) rfl
theorem mp_3_5 : (.selects RX1 yX1_pickFrom yX1_pickFrom : Cond) ∈ wsA := wsA_p (q := (yX1_pickFrom, 9)) (List.mem_append_right _ (List.mem_append_right _ (List.mem_append_left _ (List.mem_of_getElem? (l := lw_privs_3) (i := 5) rfl))))
theorem mw_5_83 : (.code yX1_pickFrom cX1_pickFrom 8 none : Cond) ∈ wsA := wsA_t (List.mem_append_right _ (List.mem_append_right _ (List.mem_append_right _ (List.mem_append_right _ (List.mem_append_left _ (List.mem_of_getElem? (l := tables_1_5) (i := 83) rfl)))))) rfl
theorem mw_5_80 : (.methodLink RX1 64 yX1_pickFrom : Cond) ∈ wsA := wsA_t (List.mem_append_right _ (List.mem_append_right _ (List.mem_append_right _ (List.mem_append_right _ (List.mem_append_left _ (List.mem_of_getElem? (l := tables_1_5) (i := 80) rfl)))))) rfl
theorem dX1_pickFrom_38 : decode cX1_pickFrom 38 = .ok (.iload 5, 2) := by decide +kernel
theorem dX1_pickFrom_40 : decode cX1_pickFrom 40 = .ok (.iload 4, 2) := by decide +kernel
theorem dX1_pickFrom_42 : decode cX1_pickFrom 42 = .ok (.iload_n 3, 1) := by decide +kernel
theorem dX1_pickFrom_43 : decode cX1_pickFrom 43 = .ok (.invokestatic 77, 3) := by decide +kernel
theorem dX1_pickFrom_46 : decode cX1_pickFrom 46 = .ok (.aload_n 0, 1) := by decide +kernel
theorem dX1_pickFrom_47 : decode cX1_pickFrom 47 = .ok (.aload_n 1, 1) := by decide +kernel
theorem dX1_pickFrom_48 : decode cX1_pickFrom 48 = .ok (.iload_n 2, 1) := by decide +kernel
theorem dX1_pickFrom_49 : decode cX1_pickFrom 49 = .ok (.invokevirtual 89, 3) := by decide +kernel
theorem dX1_pickFrom_52 : decode cX1_pickFrom 52 = .ok (.imul, 1) := by decide +kernel
theorem dX1_pickFrom_53 : decode cX1_pickFrom 53 = .ok (.iadd, 1) := by decide +kernel
theorem dX1_pickFrom_54 : decode cX1_pickFrom 54 = .ok (.aload_n 0, 1) := by decide +kernel
theorem dX1_pickFrom_55 : decode cX1_pickFrom 55 = .ok (.getfield 46, 3) := by decide +kernel
theorem dX1_pickFrom_58 : decode cX1_pickFrom 58 = .ok (.if_icmp .gt 4, 3) := by decide +kernel
theorem dX1_pickFrom_62 : decode cX1_pickFrom 62 = .ok (.aload_n 1, 1) := by decide +kernel
theorem dX1_pickFrom_63 : decode cX1_pickFrom 63 = .ok (.getfield 92, 3) := by decide +kernel
theorem dX1_pickFrom_66 : decode cX1_pickFrom 66 = .ok (.iload_n 2, 1) := by decide +kernel
theorem dX1_pickFrom_67 : decode cX1_pickFrom 67 = .ok (.iaload, 1) := by decide +kernel
theorem dX1_pickFrom_68 : decode cX1_pickFrom 68 = .ok (.istore 6, 2) := by decide +kernel
theorem dX1_pickFrom_70 : decode cX1_pickFrom 70 = .ok (.iconst 0, 1) := by decide +kernel
theorem dX1_pickFrom_71 : decode cX1_pickFrom 71 = .ok (.istore 7, 2) := by decide +kernel
theorem dX1_pickFrom_73 : decode cX1_pickFrom 73 = .ok (.iload 7, 2) := by decide +kernel
theorem dX1_pickFrom_75 : decode cX1_pickFrom 75 = .ok (.aload_n 0, 1) := by decide +kernel
theorem dX1_pickFrom_76 : decode cX1_pickFrom 76 = .ok (.getfield 9, 3) := by decide +kernel
theorem dX1_pickFrom_79 : decode cX1_pickFrom 79 = .ok (.iload_n 2, 1) := by decide +kernel
theorem dX1_pickFrom_80 : decode cX1_pickFrom 80 = .ok (.iaload, 1) := by decide +kernel
theorem dX1_pickFrom_81 : decode cX1_pickFrom 81 = .ok (.if_icmp .gt 65, 3) := by decide +kernel
theorem dX1_pickFrom_146 : decode cX1_pickFrom 146 = .ok (.return_, 1) := by decide +kernel
theorem dX1_pickFrom_84 : decode cX1_pickFrom 84 = .ok (.iload 7, 2) := by decide +kernel
theorem dX1_pickFrom_86 : decode cX1_pickFrom 86 = .ok (.iload 4, 2) := by decide +kernel
theorem dX1_pickFrom_88 : decode cX1_pickFrom 88 = .ok (.if_icmp .gt 58, 3) := by decide +kernel
theorem dX1_pickFrom_91 : decode cX1_pickFrom 91 = .ok (.iload 7, 2) := by decide +kernel
theorem dX1_pickFrom_93 : decode cX1_pickFrom 93 = .ok (.iload 6, 2) := by decide +kernel
theorem dX1_pickFrom_95 : decode cX1_pickFrom 95 = .ok (.imul, 1) := by decide +kernel
theorem dX1_pickFrom_96 : decode cX1_pickFrom 96 = .ok (.iload_n 3, 1) := by decide +kernel
theorem dX1_pickFrom_97 : decode cX1_pickFrom 97 = .ok (.if_icmp .gt 49, 3) := by decide +kernel
theorem dX1_pickFrom_100 : decode cX1_pickFrom 100 = .ok (.aload_n 0, 1) := by decide +kernel
theorem dX1_pickFrom_101 : decode cX1_pickFrom 101 = .ok (.getfield 18, 3) := by decide +kernel
theorem dX1_pickFrom_104 : decode cX1_pickFrom 104 = .ok (.iload_n 2, 1) := by decide +kernel
theorem dX1_pickFrom_105 : decode cX1_pickFrom 105 = .ok (.iload 7, 2) := by decide +kernel
theorem dX1_pickFrom_107 : decode cX1_pickFrom 107 = .ok (.iastore, 1) := by decide +kernel
theorem dX1_pickFrom_108 : decode cX1_pickFrom 108 = .ok (.aload_n 0, 1) := by decide +kernel
theorem dX1_pickFrom_109 : decode cX1_pickFrom 109 = .ok (.aload_n 1, 1) := by decide +kernel
theorem dX1_pickFrom_110 : decode cX1_pickFrom 110 = .ok (.iload_n 2, 1) := by decide +kernel
theorem dX1_pickFrom_111 : decode cX1_pickFrom 111 = .ok (.iconst 1, 1) := by decide +kernel
theorem dX1_pickFrom_112 : decode cX1_pickFrom 112 = .ok (.iadd, 1) := by decide +kernel
theorem dX1_pickFrom_113 : decode cX1_pickFrom 113 = .ok (.iload_n 3, 1) := by decide +kernel
theorem dX1_pickFrom_114 : decode cX1_pickFrom 114 = .ok (.iload 7, 2) := by decide +kernel
theorem dX1_pickFrom_116 : decode cX1_pickFrom 116 = .ok (.iload 6, 2) := by decide +kernel
theorem dX1_pickFrom_118 : decode cX1_pickFrom 118 = .ok (.imul, 1) := by decide +kernel
theorem dX1_pickFrom_119 : decode cX1_pickFrom 119 = .ok (.isub, 1) := by decide +kernel
theorem dX1_pickFrom_120 : decode cX1_pickFrom 120 = .ok (.iload 4, 2) := by decide +kernel
theorem dX1_pickFrom_122 : decode cX1_pickFrom 122 = .ok (.iload 7, 2) := by decide +kernel
theorem dX1_pickFrom_124 : decode cX1_pickFrom 124 = .ok (.isub, 1) := by decide +kernel
theorem dX1_pickFrom_125 : decode cX1_pickFrom 125 = .ok (.iload 5, 2) := by decide +kernel
theorem dX1_pickFrom_127 : decode cX1_pickFrom 127 = .ok (.iload 7, 2) := by decide +kernel
theorem dX1_pickFrom_129 : decode cX1_pickFrom 129 = .ok (.aload_n 0, 1) := by decide +kernel
theorem dX1_pickFrom_130 : decode cX1_pickFrom 130 = .ok (.getfield 15, 3) := by decide +kernel
theorem dX1_pickFrom_133 : decode cX1_pickFrom 133 = .ok (.iload_n 2, 1) := by decide +kernel
theorem dX1_pickFrom_134 : decode cX1_pickFrom 134 = .ok (.iaload, 1) := by decide +kernel
theorem dX1_pickFrom_135 : decode cX1_pickFrom 135 = .ok (.imul, 1) := by decide +kernel
theorem dX1_pickFrom_136 : decode cX1_pickFrom 136 = .ok (.iadd, 1) := by decide +kernel
theorem dX1_pickFrom_137 : decode cX1_pickFrom 137 = .ok (.invokevirtual 64, 3) := by decide +kernel
theorem dX1_pickFrom_140 : decode cX1_pickFrom 140 = .ok (.iinc 7 1, 3) := by decide +kernel
theorem dX1_pickFrom_143 : decode cX1_pickFrom 143 = .ok (.goto (-70), 3) := by decide +kernel
theorem dX1_pickFrom_61 : decode cX1_pickFrom 61 = .ok (.return_, 1) := by decide +kernel
theorem mv_X1_mostGainFrom : MV RX1 yX1_mostGainFrom cX1_mostGainFrom 5 (some .int) 2 := ⟨mw_5_87, mp_3_6, mw_1_10, mw_5_88, ⟨rfl, by decide, by decide, by decide +kernel⟩⟩
theorem mv_X1_pickFrom : MV RX1 yX1_pickFrom cX1_pickFrom 8 none 5 := ⟨mw_5_82, mp_3_5, mw_1_10, mw_5_83, ⟨rfl, by decide, by decide, by decide +kernel⟩⟩
set_option maxHeartbeats 4000000 in
set_option maxRecDepth 100000 in
theorem cy_X1_pickFrom_1 (l : Launch) (D : va_G) (cA : Nat → ClassId) (L : List Nat) (T : Nat → Nat) (r : Rg) (hG : GR L T r) (hL : L.Nodup) (σ : Sg) (ρ : Lg) (hW : WT L ry T σ) (sz : Nat) (h0 : Nat) (mh0 : h0 ∈ L) (th0 : T h0 = 1) (h1 : Nat) (mh1 : h1 ∈ L) (th1 : T h1 = 3) (p2 : Int32) (p3 : Int32) (p4 : Int32) (p5 : Int32) (w0 : 4 ≤ p2.toInt) (w1 : p2.toInt ≤ 5) : Met l yX1_pickFrom (.code yX1_pickFrom cX1_pickFrom 8 none :: wsA) ({ frames := 2, cells := 0, slots := 0, locals := 127 }) (PR D cA L T r σ ρ sz [.ref h0, .ref h1, .int p2, .int p3, .int p4, .int p5]) (QV D cA L T r ry [(1, 4), (26, 1000), (27, 1000)] σ sz (fun σ1 => True)) 0 0 (dm L sz) := by
  refine Met.ofW (cc := cX1_pickFrom) (maxL := 8) (ret := none) (by decide) rfl ?_
  intro p e s m args below meth c s₁ B hml hv
  obtain ⟨rfl, hsz, hP, hK, hN⟩ := hv
  have hx := B.exec
  have hb := B.bytes
  have hr := B.returns
  have hts : ∀ w ∈ wsA, w.before _ s = true := fun w h => atoms_spec (ws := .code yX1_pickFrom cX1_pickFrom 8 none :: wsA) B.pre w (List.mem_cons_of_mem _ h)
  have hown : s.vm.findClass RX1 = some m.cls := findClass_of_methodNamed B.named
  subst hsz
  have hLA : LA (dm L s.heap.size) L := ⟨hL, fun a h => Or.inl h⟩
  have hA : ∀ q : Nat, s.heap.size ≤ q → dm L s.heap.size q := fun q h => Or.inr h
  have hS : va_S (dm L s.heap.size) s.heap s.heap [] := va_S.rf
  have hB : TS D cA L T r ry [(1, 4), (26, 1000), (27, 1000)] σ σ ρ s.heap := ⟨hP, hW, FR.rf⟩
  have hl := lv_entry ([.ref h0, .ref h1, .int p2, .int p3, .int p4, .int p5]) (n := 8) (Nat.le_of_ble_eq_true rfl)
  rw [lg_entry_eq]
  generalize (lg_sl ([.ref h0, .ref h1, .int p2, .int p3, .int p4, .int p5]) ++ List.replicate (8 - (lg_sl ([.ref h0, .ref h1, .int p2, .int p3, .int p4, .int p5])).length) Slot.unset).toArray = ls at hl ⊢
  have hl : lv_has ls 8 [(0, .ref h0), (1, .ref h1), (2, .int p2), (3, .int p3), (4, .int p4), (5, .int p5)] := hl
  have zp3 := i_lo p3
  have yp3 := i_hi p3
  have zp4 := i_lo p4
  have yp4 := i_hi p4
  have zp5 := i_lo p5
  have yp5 := i_hi p5
  refine lv_iload_n hx hb dX1_pickFrom_0 rfl (lv_at hl 2 rfl) ?_
  refine lv_aload_n hx hb dX1_pickFrom_1 rfl (lv_at hl 1 rfl) ?_
  refine t_gi hx hb hts hown hK hB mh1 th1 fi_3_8 rfl mw_1_172 dX1_pickFrom_2 (fun x_1 ex_1 lx_1 ux_1 => ?_)
  refine lv_icmp_lt (tgt := 38) hx hb dX1_pickFrom_5 (by decide) (fun c_2 => ?_) (fun c_2 => ?_)
  · skip
    have uc_2 := j_lt c_2
    refine lv_iload hx hb dX1_pickFrom_38 (lv_at hl 5 rfl) ?_
    refine lv_iload hx hb dX1_pickFrom_40 (lv_at hl 4 rfl) ?_
    refine lv_iload_n hx hb dX1_pickFrom_42 rfl (lv_at hl 3 rfl) ?_
    refine va_mmin hx hb (hml.trans hl.1.symm) hown (hts _ mw_5_78) (hts _ mw_3_123) (hts _ mw_1_18) (hts _ mw_3_124) (Nat.le_of_ble_eq_true rfl) (Nat.le_of_ble_eq_true rfl) (Nat.zero_le _) (Nat.zero_le _) dX1_pickFrom_43 ?_
    refine lv_topi (fun x_3 ex_3 => ?_)
    obtain ⟨lx_3, mx_3, ux_3⟩ := m_min (rfl : p4.toInt = _) (rfl : p3.toInt = _) ex_3
    refine lv_aload_n hx hb dX1_pickFrom_46 rfl (lv_at hl 0 rfl) ?_
    refine lv_aload_n hx hb dX1_pickFrom_47 rfl (lv_at hl 1 rfl) ?_
    refine lv_iload_n hx hb dX1_pickFrom_48 rfl (lv_at hl 2 rfl) ?_
    refine t_ci (va_runV (As := [.ref h1, .int p2]) (rest := [.int x_3, .int p5]) ⟨hx, hb, hml, hown, hts⟩ (cy_X1_mostGainFrom l D cA L T r hG hLA.1 σ ρ hB.2.1 _ h0 mh0 th0 h1 mh1 th1 p2 (by first | omega | decide) (by first | omega | decide)) (cV hts mv_X1_mostGainFrom mw_5_85 rfl rfl ⟨Nat.le_of_ble_eq_true rfl, Nat.le_of_ble_eq_true rfl⟩) (pV hB.1 hK hN mh0 th0 (show shp cA 1 _ _ _ = .inr (1, Fs1 _ _ _) from rfl) rfl) rfl rfl hl.1 rfl (lv_room (Nat.le_of_ble_eq_true rfl)) dX1_pickFrom_49 ⟨Nat.le_of_ble_eq_true rfl, Nat.le_of_ble_eq_true rfl⟩) hLA hA hB hS (by decide) (fun x_6 σ_4 ρ_5 H locs hB fσ_4 pσ_4 hS => ?_)
    have qσ_4 := FR.nil fσ_4
    subst qσ_4
    refine lv_imul hx hb dX1_pickFrom_52 ?_
    refine lv_topi (fun x_7 ex_7 => ?_)
    refine lv_iadd hx hb dX1_pickFrom_53 ?_
    refine lv_topi (fun x_8 ex_8 => ?_)
    refine lv_aload_n hx hb dX1_pickFrom_54 rfl (lv_at hl 0 rfl) ?_
    refine t_gi hx hb hts hown hK hB mh0 th0 fi_1_4 rfl mw_2_130 dX1_pickFrom_55 (fun x_9 ex_9 lx_9 ux_9 => ?_)
    refine lv_icmp_gt (tgt := 62) hx hb dX1_pickFrom_58 (by decide) (fun c_10 => ?_) (fun c_10 => ?_)
    · skip
      have uc_10 := j_lt c_10
      refine lv_aload_n hx hb dX1_pickFrom_62 rfl (lv_at hl 1 rfl) ?_
      refine t_gr hx hb hts hown hK hG hB mh1 th1 fq_3_0 rfl mw_1_132 dX1_pickFrom_63 (fun b_11 hb_11 mb_11 tb_11 => ?_)
      refine lv_iload_n hx hb dX1_pickFrom_66 rfl (lv_at hl 2 rfl) ?_
      refine t_ai hx hb hK hB mb_11 tb_11 ai_33 (fun _ => rfl) (i_in (by omega) (by omega)) dX1_pickFrom_67 (fun x_12 ex_12 lx_12 ux_12 => ?_)
      refine lv_istore (lv' := [(6, .int x_12), (0, .ref h0), (1, .ref h1), (2, .int p2), (3, .int p3), (4, .int p4), (5, .int p5)]) hx hb dX1_pickFrom_68 hl (by decide) rfl (fun ls hl => ?_)
      refine lv_iconst (v := 0) hx hb dX1_pickFrom_70 (by decide) ?_
      refine lv_istore (lv' := [(7, .int 0), (6, .int x_12), (0, .ref h0), (1, .ref h1), (2, .int p2), (3, .int p3), (4, .int p4), (5, .int p5)]) hx hb dX1_pickFrom_71 hl (by decide) rfl (fun ls hl => ?_)
      refine w_loop (α := Int32 × Sg × Lg) (fun (i_13, σ_14, ρ_15) H locs ls => 0 ≤ i_13.toInt ∧ i_13.toInt ≤ 1001 ∧ σ_14 h1 8 = x_1 ∧ TS D cA L T r ry [(1, 4), (26, 1000), (27, 1000)] σ σ_14 ρ_15 H ∧ va_S (dm L s.heap.size) s.heap H locs ∧ lv_has ls 8 [(7, .int i_13), (6, .int x_12), (0, .ref h0), (1, .ref h1), (2, .int p2), (3, .int p3), (4, .int p4), (5, .int p5)]) (fun (i_13, σ_14, ρ_15) => (1001 - i_13.toInt).toNat) ?_ ⟨0, σ, ρ_5⟩ ⟨(by decide), (by decide), ex_1.symm, hB, hS, lv_sub hl [0, 1, 2, 3, 4, 5, 6, 7] rfl⟩
      rintro ⟨i_13, σ_14, ρ_15⟩ H locs ls ⟨li_13, ui_13, k_17, hB, hS, hl⟩ ih_16
      refine lv_iload hx hb dX1_pickFrom_73 (lv_at hl 0 rfl) ?_
      refine lv_aload_n hx hb dX1_pickFrom_75 rfl (lv_at hl 2 rfl) ?_
      refine t_gr hx hb hts hown hK hG hB mh0 th0 fq_1_0 rfl mw_2_125 dX1_pickFrom_76 (fun b_18 hb_18 mb_18 tb_18 => ?_)
      refine lv_iload_n hx hb dX1_pickFrom_79 rfl (lv_at hl 4 rfl) ?_
      refine t_ai hx hb hK hB mb_18 tb_18 ai_24 (fun _ => rfl) (i_in (by omega) (by omega)) dX1_pickFrom_80 (fun x_19 ex_19 lx_19 ux_19 => ?_)
      refine lv_icmp_gt (tgt := 146) hx hb dX1_pickFrom_81 (by decide) (fun c_20 => ?_) (fun c_20 => ?_)
      · skip
        have uc_20 := j_lt c_20
        exact W.vret hx hb hr (fun t ht hW => ⟨⟨(σ_14, ρ_15), rfl, ⟨hB.2.1, hB.2.2, trivial⟩, (show TP D cA L T r σ_14 ρ_15 t.heap from by rw [ht]; exact hB.1)⟩, hS.F ht⟩) hS.2.2 dX1_pickFrom_146
      · skip
        have uc_20 := j_nlt c_20
        refine lv_iload hx hb dX1_pickFrom_84 (lv_at hl 0 rfl) ?_
        refine lv_iload hx hb dX1_pickFrom_86 (lv_at hl 6 rfl) ?_
        refine lv_icmp_gt (tgt := 146) hx hb dX1_pickFrom_88 (by decide) (fun c_21 => ?_) (fun c_21 => ?_)
        · skip
          have uc_21 := j_lt c_21
          exact W.vret hx hb hr (fun t ht hW => ⟨⟨(σ_14, ρ_15), rfl, ⟨hB.2.1, hB.2.2, trivial⟩, (show TP D cA L T r σ_14 ρ_15 t.heap from by rw [ht]; exact hB.1)⟩, hS.F ht⟩) hS.2.2 dX1_pickFrom_146
        · skip
          have uc_21 := j_nlt c_21
          refine lv_iload hx hb dX1_pickFrom_91 (lv_at hl 0 rfl) ?_
          refine lv_iload hx hb dX1_pickFrom_93 (lv_at hl 1 rfl) ?_
          refine lv_imul hx hb dX1_pickFrom_95 ?_
          refine lv_topi (fun x_22 ex_22 => ?_)
          refine lv_iload_n hx hb dX1_pickFrom_96 rfl (lv_at hl 5 rfl) ?_
          refine lv_icmp_gt (tgt := 146) hx hb dX1_pickFrom_97 (by decide) (fun c_23 => ?_) (fun c_23 => ?_)
          · skip
            have uc_23 := j_lt c_23
            exact W.vret hx hb hr (fun t ht hW => ⟨⟨(σ_14, ρ_15), rfl, ⟨hB.2.1, hB.2.2, trivial⟩, (show TP D cA L T r σ_14 ρ_15 t.heap from by rw [ht]; exact hB.1)⟩, hS.F ht⟩) hS.2.2 dX1_pickFrom_146
          · skip
            have uc_23 := j_nlt c_23
            refine lv_aload_n hx hb dX1_pickFrom_100 rfl (lv_at hl 2 rfl) ?_
            refine t_gr hx hb hts hown hK hG hB mh0 th0 fq_1_2 rfl mw_2_127 dX1_pickFrom_101 (fun b_24 hb_24 mb_24 tb_24 => ?_)
            refine lv_iload_n hx hb dX1_pickFrom_104 rfl (lv_at hl 4 rfl) ?_
            refine lv_iload hx hb dX1_pickFrom_105 (lv_at hl 0 rfl) ?_
            refine t_si hx hb hK hLA hB hS mb_24 tb_24 ai_26 (i_in (by omega) (by omega)) (i_lo _) (i_hi _) (Or.inr (by decide)) dX1_pickFrom_107 (fun H locs σ_25 eσ_25 hB hS => ?_)
            have k_26 : σ_25 b_24 p2.toNatClampNeg = i_13 := by rw [eσ_25]; exact up2_same _ _ _ _
            refine lv_aload_n hx hb dX1_pickFrom_108 rfl (lv_at hl 2 rfl) ?_
            refine lv_aload_n hx hb dX1_pickFrom_109 rfl (lv_at hl 3 rfl) ?_
            refine lv_iload_n hx hb dX1_pickFrom_110 rfl (lv_at hl 4 rfl) ?_
            refine lv_iconst (v := 1) hx hb dX1_pickFrom_111 (by decide) ?_
            refine lv_iadd hx hb dX1_pickFrom_112 ?_
            refine lv_topi (fun x_27 ex_27 => ?_)
            have vx_27 := b_add (rfl : p2.toInt = _) (by decide : (1 : Int32).toInt = 1) ex_27 (by omega) (by omega)
            refine lv_iload_n hx hb dX1_pickFrom_113 rfl (lv_at hl 5 rfl) ?_
            refine lv_iload hx hb dX1_pickFrom_114 (lv_at hl 0 rfl) ?_
            refine lv_iload hx hb dX1_pickFrom_116 (lv_at hl 1 rfl) ?_
            refine lv_imul hx hb dX1_pickFrom_118 ?_
            refine lv_topi (fun x_28 ex_28 => ?_)
            refine lv_isub hx hb dX1_pickFrom_119 ?_
            refine lv_topi (fun x_29 ex_29 => ?_)
            refine lv_iload hx hb dX1_pickFrom_120 (lv_at hl 6 rfl) ?_
            refine lv_iload hx hb dX1_pickFrom_122 (lv_at hl 0 rfl) ?_
            refine lv_isub hx hb dX1_pickFrom_124 ?_
            refine lv_topi (fun x_30 ex_30 => ?_)
            have vx_30 := b_sub (rfl : p4.toInt = _) (rfl : i_13.toInt = _) ex_30 (by omega) (by omega)
            refine lv_iload hx hb dX1_pickFrom_125 (lv_at hl 7 rfl) ?_
            refine lv_iload hx hb dX1_pickFrom_127 (lv_at hl 0 rfl) ?_
            refine lv_aload_n hx hb dX1_pickFrom_129 rfl (lv_at hl 2 rfl) ?_
            refine t_gr hx hb hts hown hK hG hB mh0 th0 fq_1_1 rfl mw_2_126 dX1_pickFrom_130 (fun b_31 hb_31 mb_31 tb_31 => ?_)
            refine lv_iload_n hx hb dX1_pickFrom_133 rfl (lv_at hl 4 rfl) ?_
            refine t_ai hx hb hK hB mb_31 tb_31 ai_25 (fun _ => rfl) (i_in (by omega) (by omega)) dX1_pickFrom_134 (fun x_32 ex_32 lx_32 ux_32 => ?_)
            refine lv_imul hx hb dX1_pickFrom_135 ?_
            refine lv_topi (fun x_33 ex_33 => ?_)
            refine lv_iadd hx hb dX1_pickFrom_136 ?_
            refine lv_topi (fun x_34 ex_34 => ?_)
            refine t_cv (va_runV (As := [.ref h1, .int x_27, .int x_29, .int x_30, .int x_34]) (rest := []) ⟨hx, hb, hml, hown, hts⟩ (cy_X1_pickFrom_0 l D cA L T r hG hLA.1 σ_25 ρ_15 hB.2.1 _ h0 mh0 th0 h1 mh1 th1 x_27 x_29 x_30 x_34 (by first | omega | decide) (by first | omega | decide)) (cV hts mv_X1_pickFrom mw_5_80 rfl rfl ⟨Nat.le_of_ble_eq_true rfl, Nat.le_of_ble_eq_true rfl⟩) (pV hB.1 hK hN mh0 th0 (show shp cA 1 _ _ _ = .inr (1, Fs1 _ _ _) from rfl) rfl) rfl rfl hl.1 rfl (lv_room (Nat.le_of_ble_eq_true rfl)) dX1_pickFrom_137 ⟨Nat.le_of_ble_eq_true rfl, Nat.le_of_ble_eq_true rfl⟩) hLA hA hB hS (by decide) (fun σ_35 ρ_36 H locs hB fσ_35 pσ_35 hS => ?_)
            obtain ⟨x_38, ex_38⟩ : ∃ y : Int32, y = i_13 + 1 := ⟨_, rfl⟩
            have vx_38 := b_add (rfl : i_13.toInt = _) (by decide : (1 : Int32).toInt = 1) ex_38 (by omega) (by omega)
            refine lv_iinc (v := x_38) (lv' := [(7, .int x_38), (6, .int x_12), (0, .ref h0), (1, .ref h1), (2, .int p2), (3, .int p3), (4, .int p4), (5, .int p5)]) hx hb dX1_pickFrom_140 hl (k := 0) rfl (by rw [ex_38]; rfl) (by decide) rfl (fun ls hl => ?_)
            refine lv_goto (tgt := 73) hx hb dX1_pickFrom_143 (by decide) ?_
            have k_39 : σ_25 h1 8 = x_1 := by rw [eσ_25, up2_nea _ _ (tg_ne th1 tb_24 (by decide))]; exact k_17
            have k_40 : σ_35 h1 8 = x_1 := (FR.at fσ_35 th1 (by decide)).trans k_39
            exact ih_16 ⟨x_38, σ_35, ρ_36⟩ _ _ _ ⟨(by omega), (by omega), k_40, hB, hS, lv_sub hl [0, 1, 2, 3, 4, 5, 6, 7] rfl⟩ (by show (1001 - x_38.toInt).toNat < (1001 - i_13.toInt).toNat; omega)
    · skip
      have uc_10 := j_nlt c_10
      exact W.vret hx hb hr (fun t ht hW => ⟨⟨(σ, ρ_5), rfl, ⟨hB.2.1, hB.2.2, trivial⟩, (show TP D cA L T r σ ρ_5 t.heap from by rw [ht]; exact hB.1)⟩, hS.F ht⟩) hS.2.2 dX1_pickFrom_61
  · skip
    have uc_2 := j_nlt c_2
    refine lv_iload hx hb dX1_pickFrom_8 (lv_at hl 5 rfl) ?_
    refine lv_aload_n hx hb dX1_pickFrom_10 rfl (lv_at hl 0 rfl) ?_
    refine t_gi hx hb hts hown hK hB mh0 th0 fi_1_4 rfl mw_2_130 dX1_pickFrom_11 (fun x_41 ex_41 lx_41 ux_41 => ?_)
    refine lv_icmp_le (tgt := 37) hx hb dX1_pickFrom_14 (by decide) (fun c_42 => ?_) (fun c_42 => ?_)
    · skip
      have uc_42 := j_le c_42
      exact W.vret hx hb hr (fun t ht hW => ⟨⟨(σ, ρ), rfl, ⟨hB.2.1, hB.2.2, trivial⟩, (show TP D cA L T r σ ρ t.heap from by rw [ht]; exact hB.1)⟩, hS.F ht⟩) hS.2.2 dX1_pickFrom_37
    · skip
      have uc_42 := j_nle c_42
      refine lv_aload_n hx hb dX1_pickFrom_17 rfl (lv_at hl 0 rfl) ?_
      refine lv_iload hx hb dX1_pickFrom_18 (lv_at hl 5 rfl) ?_
      refine t_pi hx hb hts hown hK hLA hB hS mh0 th0 fi_1_4 rfl rfl rfl (i_lo _) (i_hi _) (Or.inl (by decide)) mw_2_130 dX1_pickFrom_20 (fun H locs σ_43 eσ_43 hB hS => ?_)
      have k_44 : σ_43 h0 4 = p5 := by rw [eσ_43]; exact up2_same _ _ _ _
      refine lv_aload_n hx hb dX1_pickFrom_23 rfl (lv_at hl 0 rfl) ?_
      refine t_gr hx hb hts hown hK hG hB mh0 th0 fq_1_2 rfl mw_2_127 dX1_pickFrom_24 (fun b_45 hb_45 mb_45 tb_45 => ?_)
      refine lv_iconst (v := 0) hx hb dX1_pickFrom_27 (by decide) ?_
      refine lv_aload_n hx hb dX1_pickFrom_28 rfl (lv_at hl 0 rfl) ?_
      refine t_gr hx hb hts hown hK hG hB mh0 th0 fq_1_3 rfl mw_2_128 dX1_pickFrom_29 (fun b_46 hb_46 mb_46 tb_46 => ?_)
      refine lv_iconst (v := 0) hx hb dX1_pickFrom_32 (by decide) ?_
      refine lv_iconst (v := 5) hx hb dX1_pickFrom_33 (by decide) ?_
      refine t_cp (lo := (-2147483648)) (hi := 2147483647) hx hb (hml.trans hl.1.symm) hts hown mw_5_84 ⟨mw_3_239, mw_3_238, mw_1_20⟩ hK hLA hB hS mb_45 tb_45 ai_26 mb_46 tb_46 ai_27 (fun _ => ⟨show ((-2147483648) : Int) ≤ (-2147483648) by decide, show (2147483647 : Int) ≤ 2147483647 by decide⟩) (fun _ => rfl) (by decide) (by decide) (by decide) (by decide) (by decide) (by decide) (Nat.le_of_ble_eq_true rfl) (Nat.le_of_ble_eq_true rfl) dX1_pickFrom_34 (fun H locs σ_47 eσ_47 hB hS => ?_)
      exact W.vret hx hb hr (fun t ht hW => ⟨⟨(σ_47, ρ), rfl, ⟨hB.2.1, hB.2.2, trivial⟩, (show TP D cA L T r σ_47 ρ t.heap from by rw [ht]; exact hB.1)⟩, hS.F ht⟩) hS.2.2 dX1_pickFrom_37
set_option maxHeartbeats 4000000 in
set_option maxRecDepth 100000 in
theorem cy_X1_pickFrom_2 (l : Launch) (D : va_G) (cA : Nat → ClassId) (L : List Nat) (T : Nat → Nat) (r : Rg) (hG : GR L T r) (hL : L.Nodup) (σ : Sg) (ρ : Lg) (hW : WT L ry T σ) (sz : Nat) (h0 : Nat) (mh0 : h0 ∈ L) (th0 : T h0 = 1) (h1 : Nat) (mh1 : h1 ∈ L) (th1 : T h1 = 3) (p2 : Int32) (p3 : Int32) (p4 : Int32) (p5 : Int32) (w0 : 3 ≤ p2.toInt) (w1 : p2.toInt ≤ 5) : Met l yX1_pickFrom (.code yX1_pickFrom cX1_pickFrom 8 none :: wsA) ({ frames := 3, cells := 0, slots := 0, locals := 154 }) (PR D cA L T r σ ρ sz [.ref h0, .ref h1, .int p2, .int p3, .int p4, .int p5]) (QV D cA L T r ry [(1, 4), (26, 1000), (27, 1000)] σ sz (fun σ1 => True)) 0 0 (dm L sz) := by
  refine Met.ofW (cc := cX1_pickFrom) (maxL := 8) (ret := none) (by decide) rfl ?_
  intro p e s m args below meth c s₁ B hml hv
  obtain ⟨rfl, hsz, hP, hK, hN⟩ := hv
  have hx := B.exec
  have hb := B.bytes
  have hr := B.returns
  have hts : ∀ w ∈ wsA, w.before _ s = true := fun w h => atoms_spec (ws := .code yX1_pickFrom cX1_pickFrom 8 none :: wsA) B.pre w (List.mem_cons_of_mem _ h)
  have hown : s.vm.findClass RX1 = some m.cls := findClass_of_methodNamed B.named
  subst hsz
  have hLA : LA (dm L s.heap.size) L := ⟨hL, fun a h => Or.inl h⟩
  have hA : ∀ q : Nat, s.heap.size ≤ q → dm L s.heap.size q := fun q h => Or.inr h
  have hS : va_S (dm L s.heap.size) s.heap s.heap [] := va_S.rf
  have hB : TS D cA L T r ry [(1, 4), (26, 1000), (27, 1000)] σ σ ρ s.heap := ⟨hP, hW, FR.rf⟩
  have hl := lv_entry ([.ref h0, .ref h1, .int p2, .int p3, .int p4, .int p5]) (n := 8) (Nat.le_of_ble_eq_true rfl)
  rw [lg_entry_eq]
  generalize (lg_sl ([.ref h0, .ref h1, .int p2, .int p3, .int p4, .int p5]) ++ List.replicate (8 - (lg_sl ([.ref h0, .ref h1, .int p2, .int p3, .int p4, .int p5])).length) Slot.unset).toArray = ls at hl ⊢
  have hl : lv_has ls 8 [(0, .ref h0), (1, .ref h1), (2, .int p2), (3, .int p3), (4, .int p4), (5, .int p5)] := hl
  have zp3 := i_lo p3
  have yp3 := i_hi p3
  have zp4 := i_lo p4
  have yp4 := i_hi p4
  have zp5 := i_lo p5
  have yp5 := i_hi p5
  refine lv_iload_n hx hb dX1_pickFrom_0 rfl (lv_at hl 2 rfl) ?_
  refine lv_aload_n hx hb dX1_pickFrom_1 rfl (lv_at hl 1 rfl) ?_
  refine t_gi hx hb hts hown hK hB mh1 th1 fi_3_8 rfl mw_1_172 dX1_pickFrom_2 (fun x_1 ex_1 lx_1 ux_1 => ?_)
  refine lv_icmp_lt (tgt := 38) hx hb dX1_pickFrom_5 (by decide) (fun c_2 => ?_) (fun c_2 => ?_)
  · skip
    have uc_2 := j_lt c_2
    refine lv_iload hx hb dX1_pickFrom_38 (lv_at hl 5 rfl) ?_
    refine lv_iload hx hb dX1_pickFrom_40 (lv_at hl 4 rfl) ?_
    refine lv_iload_n hx hb dX1_pickFrom_42 rfl (lv_at hl 3 rfl) ?_
    refine va_mmin hx hb (hml.trans hl.1.symm) hown (hts _ mw_5_78) (hts _ mw_3_123) (hts _ mw_1_18) (hts _ mw_3_124) (Nat.le_of_ble_eq_true rfl) (Nat.le_of_ble_eq_true rfl) (Nat.zero_le _) (Nat.zero_le _) dX1_pickFrom_43 ?_
    refine lv_topi (fun x_3 ex_3 => ?_)
    obtain ⟨lx_3, mx_3, ux_3⟩ := m_min (rfl : p4.toInt = _) (rfl : p3.toInt = _) ex_3
    refine lv_aload_n hx hb dX1_pickFrom_46 rfl (lv_at hl 0 rfl) ?_
    refine lv_aload_n hx hb dX1_pickFrom_47 rfl (lv_at hl 1 rfl) ?_
    refine lv_iload_n hx hb dX1_pickFrom_48 rfl (lv_at hl 2 rfl) ?_
    refine t_ci (va_runV (As := [.ref h1, .int p2]) (rest := [.int x_3, .int p5]) ⟨hx, hb, hml, hown, hts⟩ (cy_X1_mostGainFrom l D cA L T r hG hLA.1 σ ρ hB.2.1 _ h0 mh0 th0 h1 mh1 th1 p2 (by first | omega | decide) (by first | omega | decide)) (cV hts mv_X1_mostGainFrom mw_5_85 rfl rfl ⟨Nat.le_of_ble_eq_true rfl, Nat.le_of_ble_eq_true rfl⟩) (pV hB.1 hK hN mh0 th0 (show shp cA 1 _ _ _ = .inr (1, Fs1 _ _ _) from rfl) rfl) rfl rfl hl.1 rfl (lv_room (Nat.le_of_ble_eq_true rfl)) dX1_pickFrom_49 ⟨Nat.le_of_ble_eq_true rfl, Nat.le_of_ble_eq_true rfl⟩) hLA hA hB hS (by decide) (fun x_6 σ_4 ρ_5 H locs hB fσ_4 pσ_4 hS => ?_)
    have qσ_4 := FR.nil fσ_4
    subst qσ_4
    refine lv_imul hx hb dX1_pickFrom_52 ?_
    refine lv_topi (fun x_7 ex_7 => ?_)
    refine lv_iadd hx hb dX1_pickFrom_53 ?_
    refine lv_topi (fun x_8 ex_8 => ?_)
    refine lv_aload_n hx hb dX1_pickFrom_54 rfl (lv_at hl 0 rfl) ?_
    refine t_gi hx hb hts hown hK hB mh0 th0 fi_1_4 rfl mw_2_130 dX1_pickFrom_55 (fun x_9 ex_9 lx_9 ux_9 => ?_)
    refine lv_icmp_gt (tgt := 62) hx hb dX1_pickFrom_58 (by decide) (fun c_10 => ?_) (fun c_10 => ?_)
    · skip
      have uc_10 := j_lt c_10
      refine lv_aload_n hx hb dX1_pickFrom_62 rfl (lv_at hl 1 rfl) ?_
      refine t_gr hx hb hts hown hK hG hB mh1 th1 fq_3_0 rfl mw_1_132 dX1_pickFrom_63 (fun b_11 hb_11 mb_11 tb_11 => ?_)
      refine lv_iload_n hx hb dX1_pickFrom_66 rfl (lv_at hl 2 rfl) ?_
      refine t_ai hx hb hK hB mb_11 tb_11 ai_33 (fun _ => rfl) (i_in (by omega) (by omega)) dX1_pickFrom_67 (fun x_12 ex_12 lx_12 ux_12 => ?_)
      refine lv_istore (lv' := [(6, .int x_12), (0, .ref h0), (1, .ref h1), (2, .int p2), (3, .int p3), (4, .int p4), (5, .int p5)]) hx hb dX1_pickFrom_68 hl (by decide) rfl (fun ls hl => ?_)
      refine lv_iconst (v := 0) hx hb dX1_pickFrom_70 (by decide) ?_
      refine lv_istore (lv' := [(7, .int 0), (6, .int x_12), (0, .ref h0), (1, .ref h1), (2, .int p2), (3, .int p3), (4, .int p4), (5, .int p5)]) hx hb dX1_pickFrom_71 hl (by decide) rfl (fun ls hl => ?_)
      refine w_loop (α := Int32 × Sg × Lg) (fun (i_13, σ_14, ρ_15) H locs ls => 0 ≤ i_13.toInt ∧ i_13.toInt ≤ 1001 ∧ σ_14 h1 8 = x_1 ∧ TS D cA L T r ry [(1, 4), (26, 1000), (27, 1000)] σ σ_14 ρ_15 H ∧ va_S (dm L s.heap.size) s.heap H locs ∧ lv_has ls 8 [(7, .int i_13), (6, .int x_12), (0, .ref h0), (1, .ref h1), (2, .int p2), (3, .int p3), (4, .int p4), (5, .int p5)]) (fun (i_13, σ_14, ρ_15) => (1001 - i_13.toInt).toNat) ?_ ⟨0, σ, ρ_5⟩ ⟨(by decide), (by decide), ex_1.symm, hB, hS, lv_sub hl [0, 1, 2, 3, 4, 5, 6, 7] rfl⟩
      rintro ⟨i_13, σ_14, ρ_15⟩ H locs ls ⟨li_13, ui_13, k_17, hB, hS, hl⟩ ih_16
      refine lv_iload hx hb dX1_pickFrom_73 (lv_at hl 0 rfl) ?_
      refine lv_aload_n hx hb dX1_pickFrom_75 rfl (lv_at hl 2 rfl) ?_
      refine t_gr hx hb hts hown hK hG hB mh0 th0 fq_1_0 rfl mw_2_125 dX1_pickFrom_76 (fun b_18 hb_18 mb_18 tb_18 => ?_)
      refine lv_iload_n hx hb dX1_pickFrom_79 rfl (lv_at hl 4 rfl) ?_
      refine t_ai hx hb hK hB mb_18 tb_18 ai_24 (fun _ => rfl) (i_in (by omega) (by omega)) dX1_pickFrom_80 (fun x_19 ex_19 lx_19 ux_19 => ?_)
      refine lv_icmp_gt (tgt := 146) hx hb dX1_pickFrom_81 (by decide) (fun c_20 => ?_) (fun c_20 => ?_)
      · skip
        have uc_20 := j_lt c_20
        exact W.vret hx hb hr (fun t ht hW => ⟨⟨(σ_14, ρ_15), rfl, ⟨hB.2.1, hB.2.2, trivial⟩, (show TP D cA L T r σ_14 ρ_15 t.heap from by rw [ht]; exact hB.1)⟩, hS.F ht⟩) hS.2.2 dX1_pickFrom_146
      · skip
        have uc_20 := j_nlt c_20
        refine lv_iload hx hb dX1_pickFrom_84 (lv_at hl 0 rfl) ?_
        refine lv_iload hx hb dX1_pickFrom_86 (lv_at hl 6 rfl) ?_
        refine lv_icmp_gt (tgt := 146) hx hb dX1_pickFrom_88 (by decide) (fun c_21 => ?_) (fun c_21 => ?_)
        · skip
          have uc_21 := j_lt c_21
          exact W.vret hx hb hr (fun t ht hW => ⟨⟨(σ_14, ρ_15), rfl, ⟨hB.2.1, hB.2.2, trivial⟩, (show TP D cA L T r σ_14 ρ_15 t.heap from by rw [ht]; exact hB.1)⟩, hS.F ht⟩) hS.2.2 dX1_pickFrom_146
        · skip
          have uc_21 := j_nlt c_21
          refine lv_iload hx hb dX1_pickFrom_91 (lv_at hl 0 rfl) ?_
          refine lv_iload hx hb dX1_pickFrom_93 (lv_at hl 1 rfl) ?_
          refine lv_imul hx hb dX1_pickFrom_95 ?_
          refine lv_topi (fun x_22 ex_22 => ?_)
          refine lv_iload_n hx hb dX1_pickFrom_96 rfl (lv_at hl 5 rfl) ?_
          refine lv_icmp_gt (tgt := 146) hx hb dX1_pickFrom_97 (by decide) (fun c_23 => ?_) (fun c_23 => ?_)
          · skip
            have uc_23 := j_lt c_23
            exact W.vret hx hb hr (fun t ht hW => ⟨⟨(σ_14, ρ_15), rfl, ⟨hB.2.1, hB.2.2, trivial⟩, (show TP D cA L T r σ_14 ρ_15 t.heap from by rw [ht]; exact hB.1)⟩, hS.F ht⟩) hS.2.2 dX1_pickFrom_146
          · skip
            have uc_23 := j_nlt c_23
            refine lv_aload_n hx hb dX1_pickFrom_100 rfl (lv_at hl 2 rfl) ?_
            refine t_gr hx hb hts hown hK hG hB mh0 th0 fq_1_2 rfl mw_2_127 dX1_pickFrom_101 (fun b_24 hb_24 mb_24 tb_24 => ?_)
            refine lv_iload_n hx hb dX1_pickFrom_104 rfl (lv_at hl 4 rfl) ?_
            refine lv_iload hx hb dX1_pickFrom_105 (lv_at hl 0 rfl) ?_
            refine t_si hx hb hK hLA hB hS mb_24 tb_24 ai_26 (i_in (by omega) (by omega)) (i_lo _) (i_hi _) (Or.inr (by decide)) dX1_pickFrom_107 (fun H locs σ_25 eσ_25 hB hS => ?_)
            have k_26 : σ_25 b_24 p2.toNatClampNeg = i_13 := by rw [eσ_25]; exact up2_same _ _ _ _
            refine lv_aload_n hx hb dX1_pickFrom_108 rfl (lv_at hl 2 rfl) ?_
            refine lv_aload_n hx hb dX1_pickFrom_109 rfl (lv_at hl 3 rfl) ?_
            refine lv_iload_n hx hb dX1_pickFrom_110 rfl (lv_at hl 4 rfl) ?_
            refine lv_iconst (v := 1) hx hb dX1_pickFrom_111 (by decide) ?_
            refine lv_iadd hx hb dX1_pickFrom_112 ?_
            refine lv_topi (fun x_27 ex_27 => ?_)
            have vx_27 := b_add (rfl : p2.toInt = _) (by decide : (1 : Int32).toInt = 1) ex_27 (by omega) (by omega)
            refine lv_iload_n hx hb dX1_pickFrom_113 rfl (lv_at hl 5 rfl) ?_
            refine lv_iload hx hb dX1_pickFrom_114 (lv_at hl 0 rfl) ?_
            refine lv_iload hx hb dX1_pickFrom_116 (lv_at hl 1 rfl) ?_
            refine lv_imul hx hb dX1_pickFrom_118 ?_
            refine lv_topi (fun x_28 ex_28 => ?_)
            refine lv_isub hx hb dX1_pickFrom_119 ?_
            refine lv_topi (fun x_29 ex_29 => ?_)
            refine lv_iload hx hb dX1_pickFrom_120 (lv_at hl 6 rfl) ?_
            refine lv_iload hx hb dX1_pickFrom_122 (lv_at hl 0 rfl) ?_
            refine lv_isub hx hb dX1_pickFrom_124 ?_
            refine lv_topi (fun x_30 ex_30 => ?_)
            have vx_30 := b_sub (rfl : p4.toInt = _) (rfl : i_13.toInt = _) ex_30 (by omega) (by omega)
            refine lv_iload hx hb dX1_pickFrom_125 (lv_at hl 7 rfl) ?_
            refine lv_iload hx hb dX1_pickFrom_127 (lv_at hl 0 rfl) ?_
            refine lv_aload_n hx hb dX1_pickFrom_129 rfl (lv_at hl 2 rfl) ?_
            refine t_gr hx hb hts hown hK hG hB mh0 th0 fq_1_1 rfl mw_2_126 dX1_pickFrom_130 (fun b_31 hb_31 mb_31 tb_31 => ?_)
            refine lv_iload_n hx hb dX1_pickFrom_133 rfl (lv_at hl 4 rfl) ?_
            refine t_ai hx hb hK hB mb_31 tb_31 ai_25 (fun _ => rfl) (i_in (by omega) (by omega)) dX1_pickFrom_134 (fun x_32 ex_32 lx_32 ux_32 => ?_)
            refine lv_imul hx hb dX1_pickFrom_135 ?_
            refine lv_topi (fun x_33 ex_33 => ?_)
            refine lv_iadd hx hb dX1_pickFrom_136 ?_
            refine lv_topi (fun x_34 ex_34 => ?_)
            refine t_cv (va_runV (As := [.ref h1, .int x_27, .int x_29, .int x_30, .int x_34]) (rest := []) ⟨hx, hb, hml, hown, hts⟩ (cy_X1_pickFrom_1 l D cA L T r hG hLA.1 σ_25 ρ_15 hB.2.1 _ h0 mh0 th0 h1 mh1 th1 x_27 x_29 x_30 x_34 (by first | omega | decide) (by first | omega | decide)) (cV hts mv_X1_pickFrom mw_5_80 rfl rfl ⟨Nat.le_of_ble_eq_true rfl, Nat.le_of_ble_eq_true rfl⟩) (pV hB.1 hK hN mh0 th0 (show shp cA 1 _ _ _ = .inr (1, Fs1 _ _ _) from rfl) rfl) rfl rfl hl.1 rfl (lv_room (Nat.le_of_ble_eq_true rfl)) dX1_pickFrom_137 ⟨Nat.le_of_ble_eq_true rfl, Nat.le_of_ble_eq_true rfl⟩) hLA hA hB hS (by decide) (fun σ_35 ρ_36 H locs hB fσ_35 pσ_35 hS => ?_)
            obtain ⟨x_38, ex_38⟩ : ∃ y : Int32, y = i_13 + 1 := ⟨_, rfl⟩
            have vx_38 := b_add (rfl : i_13.toInt = _) (by decide : (1 : Int32).toInt = 1) ex_38 (by omega) (by omega)
            refine lv_iinc (v := x_38) (lv' := [(7, .int x_38), (6, .int x_12), (0, .ref h0), (1, .ref h1), (2, .int p2), (3, .int p3), (4, .int p4), (5, .int p5)]) hx hb dX1_pickFrom_140 hl (k := 0) rfl (by rw [ex_38]; rfl) (by decide) rfl (fun ls hl => ?_)
            refine lv_goto (tgt := 73) hx hb dX1_pickFrom_143 (by decide) ?_
            have k_39 : σ_25 h1 8 = x_1 := by rw [eσ_25, up2_nea _ _ (tg_ne th1 tb_24 (by decide))]; exact k_17
            have k_40 : σ_35 h1 8 = x_1 := (FR.at fσ_35 th1 (by decide)).trans k_39
            exact ih_16 ⟨x_38, σ_35, ρ_36⟩ _ _ _ ⟨(by omega), (by omega), k_40, hB, hS, lv_sub hl [0, 1, 2, 3, 4, 5, 6, 7] rfl⟩ (by show (1001 - x_38.toInt).toNat < (1001 - i_13.toInt).toNat; omega)
    · skip
      have uc_10 := j_nlt c_10
      exact W.vret hx hb hr (fun t ht hW => ⟨⟨(σ, ρ_5), rfl, ⟨hB.2.1, hB.2.2, trivial⟩, (show TP D cA L T r σ ρ_5 t.heap from by rw [ht]; exact hB.1)⟩, hS.F ht⟩) hS.2.2 dX1_pickFrom_61
  · skip
    have uc_2 := j_nlt c_2
    refine lv_iload hx hb dX1_pickFrom_8 (lv_at hl 5 rfl) ?_
    refine lv_aload_n hx hb dX1_pickFrom_10 rfl (lv_at hl 0 rfl) ?_
    refine t_gi hx hb hts hown hK hB mh0 th0 fi_1_4 rfl mw_2_130 dX1_pickFrom_11 (fun x_41 ex_41 lx_41 ux_41 => ?_)
    refine lv_icmp_le (tgt := 37) hx hb dX1_pickFrom_14 (by decide) (fun c_42 => ?_) (fun c_42 => ?_)
    · skip
      have uc_42 := j_le c_42
      exact W.vret hx hb hr (fun t ht hW => ⟨⟨(σ, ρ), rfl, ⟨hB.2.1, hB.2.2, trivial⟩, (show TP D cA L T r σ ρ t.heap from by rw [ht]; exact hB.1)⟩, hS.F ht⟩) hS.2.2 dX1_pickFrom_37
    · skip
      have uc_42 := j_nle c_42
      refine lv_aload_n hx hb dX1_pickFrom_17 rfl (lv_at hl 0 rfl) ?_
      refine lv_iload hx hb dX1_pickFrom_18 (lv_at hl 5 rfl) ?_
      refine t_pi hx hb hts hown hK hLA hB hS mh0 th0 fi_1_4 rfl rfl rfl (i_lo _) (i_hi _) (Or.inl (by decide)) mw_2_130 dX1_pickFrom_20 (fun H locs σ_43 eσ_43 hB hS => ?_)
      have k_44 : σ_43 h0 4 = p5 := by rw [eσ_43]; exact up2_same _ _ _ _
      refine lv_aload_n hx hb dX1_pickFrom_23 rfl (lv_at hl 0 rfl) ?_
      refine t_gr hx hb hts hown hK hG hB mh0 th0 fq_1_2 rfl mw_2_127 dX1_pickFrom_24 (fun b_45 hb_45 mb_45 tb_45 => ?_)
      refine lv_iconst (v := 0) hx hb dX1_pickFrom_27 (by decide) ?_
      refine lv_aload_n hx hb dX1_pickFrom_28 rfl (lv_at hl 0 rfl) ?_
      refine t_gr hx hb hts hown hK hG hB mh0 th0 fq_1_3 rfl mw_2_128 dX1_pickFrom_29 (fun b_46 hb_46 mb_46 tb_46 => ?_)
      refine lv_iconst (v := 0) hx hb dX1_pickFrom_32 (by decide) ?_
      refine lv_iconst (v := 5) hx hb dX1_pickFrom_33 (by decide) ?_
      refine t_cp (lo := (-2147483648)) (hi := 2147483647) hx hb (hml.trans hl.1.symm) hts hown mw_5_84 ⟨mw_3_239, mw_3_238, mw_1_20⟩ hK hLA hB hS mb_45 tb_45 ai_26 mb_46 tb_46 ai_27 (fun _ => ⟨show ((-2147483648) : Int) ≤ (-2147483648) by decide, show (2147483647 : Int) ≤ 2147483647 by decide⟩) (fun _ => rfl) (by decide) (by decide) (by decide) (by decide) (by decide) (by decide) (Nat.le_of_ble_eq_true rfl) (Nat.le_of_ble_eq_true rfl) dX1_pickFrom_34 (fun H locs σ_47 eσ_47 hB hS => ?_)
      exact W.vret hx hb hr (fun t ht hW => ⟨⟨(σ_47, ρ), rfl, ⟨hB.2.1, hB.2.2, trivial⟩, (show TP D cA L T r σ_47 ρ t.heap from by rw [ht]; exact hB.1)⟩, hS.F ht⟩) hS.2.2 dX1_pickFrom_37
set_option maxHeartbeats 4000000 in
set_option maxRecDepth 100000 in
theorem cy_X1_pickFrom_3 (l : Launch) (D : va_G) (cA : Nat → ClassId) (L : List Nat) (T : Nat → Nat) (r : Rg) (hG : GR L T r) (hL : L.Nodup) (σ : Sg) (ρ : Lg) (hW : WT L ry T σ) (sz : Nat) (h0 : Nat) (mh0 : h0 ∈ L) (th0 : T h0 = 1) (h1 : Nat) (mh1 : h1 ∈ L) (th1 : T h1 = 3) (p2 : Int32) (p3 : Int32) (p4 : Int32) (p5 : Int32) (w0 : 2 ≤ p2.toInt) (w1 : p2.toInt ≤ 5) : Met l yX1_pickFrom (.code yX1_pickFrom cX1_pickFrom 8 none :: wsA) ({ frames := 4, cells := 0, slots := 0, locals := 181 }) (PR D cA L T r σ ρ sz [.ref h0, .ref h1, .int p2, .int p3, .int p4, .int p5]) (QV D cA L T r ry [(1, 4), (26, 1000), (27, 1000)] σ sz (fun σ1 => True)) 0 0 (dm L sz) := by
  refine Met.ofW (cc := cX1_pickFrom) (maxL := 8) (ret := none) (by decide) rfl ?_
  intro p e s m args below meth c s₁ B hml hv
  obtain ⟨rfl, hsz, hP, hK, hN⟩ := hv
  have hx := B.exec
  have hb := B.bytes
  have hr := B.returns
  have hts : ∀ w ∈ wsA, w.before _ s = true := fun w h => atoms_spec (ws := .code yX1_pickFrom cX1_pickFrom 8 none :: wsA) B.pre w (List.mem_cons_of_mem _ h)
  have hown : s.vm.findClass RX1 = some m.cls := findClass_of_methodNamed B.named
  subst hsz
  have hLA : LA (dm L s.heap.size) L := ⟨hL, fun a h => Or.inl h⟩
  have hA : ∀ q : Nat, s.heap.size ≤ q → dm L s.heap.size q := fun q h => Or.inr h
  have hS : va_S (dm L s.heap.size) s.heap s.heap [] := va_S.rf
  have hB : TS D cA L T r ry [(1, 4), (26, 1000), (27, 1000)] σ σ ρ s.heap := ⟨hP, hW, FR.rf⟩
  have hl := lv_entry ([.ref h0, .ref h1, .int p2, .int p3, .int p4, .int p5]) (n := 8) (Nat.le_of_ble_eq_true rfl)
  rw [lg_entry_eq]
  generalize (lg_sl ([.ref h0, .ref h1, .int p2, .int p3, .int p4, .int p5]) ++ List.replicate (8 - (lg_sl ([.ref h0, .ref h1, .int p2, .int p3, .int p4, .int p5])).length) Slot.unset).toArray = ls at hl ⊢
  have hl : lv_has ls 8 [(0, .ref h0), (1, .ref h1), (2, .int p2), (3, .int p3), (4, .int p4), (5, .int p5)] := hl
  have zp3 := i_lo p3
  have yp3 := i_hi p3
  have zp4 := i_lo p4
  have yp4 := i_hi p4
  have zp5 := i_lo p5
  have yp5 := i_hi p5
  refine lv_iload_n hx hb dX1_pickFrom_0 rfl (lv_at hl 2 rfl) ?_
  refine lv_aload_n hx hb dX1_pickFrom_1 rfl (lv_at hl 1 rfl) ?_
  refine t_gi hx hb hts hown hK hB mh1 th1 fi_3_8 rfl mw_1_172 dX1_pickFrom_2 (fun x_1 ex_1 lx_1 ux_1 => ?_)
  refine lv_icmp_lt (tgt := 38) hx hb dX1_pickFrom_5 (by decide) (fun c_2 => ?_) (fun c_2 => ?_)
  · skip
    have uc_2 := j_lt c_2
    refine lv_iload hx hb dX1_pickFrom_38 (lv_at hl 5 rfl) ?_
    refine lv_iload hx hb dX1_pickFrom_40 (lv_at hl 4 rfl) ?_
    refine lv_iload_n hx hb dX1_pickFrom_42 rfl (lv_at hl 3 rfl) ?_
    refine va_mmin hx hb (hml.trans hl.1.symm) hown (hts _ mw_5_78) (hts _ mw_3_123) (hts _ mw_1_18) (hts _ mw_3_124) (Nat.le_of_ble_eq_true rfl) (Nat.le_of_ble_eq_true rfl) (Nat.zero_le _) (Nat.zero_le _) dX1_pickFrom_43 ?_
    refine lv_topi (fun x_3 ex_3 => ?_)
    obtain ⟨lx_3, mx_3, ux_3⟩ := m_min (rfl : p4.toInt = _) (rfl : p3.toInt = _) ex_3
    refine lv_aload_n hx hb dX1_pickFrom_46 rfl (lv_at hl 0 rfl) ?_
    refine lv_aload_n hx hb dX1_pickFrom_47 rfl (lv_at hl 1 rfl) ?_
    refine lv_iload_n hx hb dX1_pickFrom_48 rfl (lv_at hl 2 rfl) ?_
    refine t_ci (va_runV (As := [.ref h1, .int p2]) (rest := [.int x_3, .int p5]) ⟨hx, hb, hml, hown, hts⟩ (cy_X1_mostGainFrom l D cA L T r hG hLA.1 σ ρ hB.2.1 _ h0 mh0 th0 h1 mh1 th1 p2 (by first | omega | decide) (by first | omega | decide)) (cV hts mv_X1_mostGainFrom mw_5_85 rfl rfl ⟨Nat.le_of_ble_eq_true rfl, Nat.le_of_ble_eq_true rfl⟩) (pV hB.1 hK hN mh0 th0 (show shp cA 1 _ _ _ = .inr (1, Fs1 _ _ _) from rfl) rfl) rfl rfl hl.1 rfl (lv_room (Nat.le_of_ble_eq_true rfl)) dX1_pickFrom_49 ⟨Nat.le_of_ble_eq_true rfl, Nat.le_of_ble_eq_true rfl⟩) hLA hA hB hS (by decide) (fun x_6 σ_4 ρ_5 H locs hB fσ_4 pσ_4 hS => ?_)
    have qσ_4 := FR.nil fσ_4
    subst qσ_4
    refine lv_imul hx hb dX1_pickFrom_52 ?_
    refine lv_topi (fun x_7 ex_7 => ?_)
    refine lv_iadd hx hb dX1_pickFrom_53 ?_
    refine lv_topi (fun x_8 ex_8 => ?_)
    refine lv_aload_n hx hb dX1_pickFrom_54 rfl (lv_at hl 0 rfl) ?_
    refine t_gi hx hb hts hown hK hB mh0 th0 fi_1_4 rfl mw_2_130 dX1_pickFrom_55 (fun x_9 ex_9 lx_9 ux_9 => ?_)
    refine lv_icmp_gt (tgt := 62) hx hb dX1_pickFrom_58 (by decide) (fun c_10 => ?_) (fun c_10 => ?_)
    · skip
      have uc_10 := j_lt c_10
      refine lv_aload_n hx hb dX1_pickFrom_62 rfl (lv_at hl 1 rfl) ?_
      refine t_gr hx hb hts hown hK hG hB mh1 th1 fq_3_0 rfl mw_1_132 dX1_pickFrom_63 (fun b_11 hb_11 mb_11 tb_11 => ?_)
      refine lv_iload_n hx hb dX1_pickFrom_66 rfl (lv_at hl 2 rfl) ?_
      refine t_ai hx hb hK hB mb_11 tb_11 ai_33 (fun _ => rfl) (i_in (by omega) (by omega)) dX1_pickFrom_67 (fun x_12 ex_12 lx_12 ux_12 => ?_)
      refine lv_istore (lv' := [(6, .int x_12), (0, .ref h0), (1, .ref h1), (2, .int p2), (3, .int p3), (4, .int p4), (5, .int p5)]) hx hb dX1_pickFrom_68 hl (by decide) rfl (fun ls hl => ?_)
      refine lv_iconst (v := 0) hx hb dX1_pickFrom_70 (by decide) ?_
      refine lv_istore (lv' := [(7, .int 0), (6, .int x_12), (0, .ref h0), (1, .ref h1), (2, .int p2), (3, .int p3), (4, .int p4), (5, .int p5)]) hx hb dX1_pickFrom_71 hl (by decide) rfl (fun ls hl => ?_)
      refine w_loop (α := Int32 × Sg × Lg) (fun (i_13, σ_14, ρ_15) H locs ls => 0 ≤ i_13.toInt ∧ i_13.toInt ≤ 1001 ∧ σ_14 h1 8 = x_1 ∧ TS D cA L T r ry [(1, 4), (26, 1000), (27, 1000)] σ σ_14 ρ_15 H ∧ va_S (dm L s.heap.size) s.heap H locs ∧ lv_has ls 8 [(7, .int i_13), (6, .int x_12), (0, .ref h0), (1, .ref h1), (2, .int p2), (3, .int p3), (4, .int p4), (5, .int p5)]) (fun (i_13, σ_14, ρ_15) => (1001 - i_13.toInt).toNat) ?_ ⟨0, σ, ρ_5⟩ ⟨(by decide), (by decide), ex_1.symm, hB, hS, lv_sub hl [0, 1, 2, 3, 4, 5, 6, 7] rfl⟩
      rintro ⟨i_13, σ_14, ρ_15⟩ H locs ls ⟨li_13, ui_13, k_17, hB, hS, hl⟩ ih_16
      refine lv_iload hx hb dX1_pickFrom_73 (lv_at hl 0 rfl) ?_
      refine lv_aload_n hx hb dX1_pickFrom_75 rfl (lv_at hl 2 rfl) ?_
      refine t_gr hx hb hts hown hK hG hB mh0 th0 fq_1_0 rfl mw_2_125 dX1_pickFrom_76 (fun b_18 hb_18 mb_18 tb_18 => ?_)
      refine lv_iload_n hx hb dX1_pickFrom_79 rfl (lv_at hl 4 rfl) ?_
      refine t_ai hx hb hK hB mb_18 tb_18 ai_24 (fun _ => rfl) (i_in (by omega) (by omega)) dX1_pickFrom_80 (fun x_19 ex_19 lx_19 ux_19 => ?_)
      refine lv_icmp_gt (tgt := 146) hx hb dX1_pickFrom_81 (by decide) (fun c_20 => ?_) (fun c_20 => ?_)
      · skip
        have uc_20 := j_lt c_20
        exact W.vret hx hb hr (fun t ht hW => ⟨⟨(σ_14, ρ_15), rfl, ⟨hB.2.1, hB.2.2, trivial⟩, (show TP D cA L T r σ_14 ρ_15 t.heap from by rw [ht]; exact hB.1)⟩, hS.F ht⟩) hS.2.2 dX1_pickFrom_146
      · skip
        have uc_20 := j_nlt c_20
        refine lv_iload hx hb dX1_pickFrom_84 (lv_at hl 0 rfl) ?_
        refine lv_iload hx hb dX1_pickFrom_86 (lv_at hl 6 rfl) ?_
        refine lv_icmp_gt (tgt := 146) hx hb dX1_pickFrom_88 (by decide) (fun c_21 => ?_) (fun c_21 => ?_)
        · skip
          have uc_21 := j_lt c_21
          exact W.vret hx hb hr (fun t ht hW => ⟨⟨(σ_14, ρ_15), rfl, ⟨hB.2.1, hB.2.2, trivial⟩, (show TP D cA L T r σ_14 ρ_15 t.heap from by rw [ht]; exact hB.1)⟩, hS.F ht⟩) hS.2.2 dX1_pickFrom_146
        · skip
          have uc_21 := j_nlt c_21
          refine lv_iload hx hb dX1_pickFrom_91 (lv_at hl 0 rfl) ?_
          refine lv_iload hx hb dX1_pickFrom_93 (lv_at hl 1 rfl) ?_
          refine lv_imul hx hb dX1_pickFrom_95 ?_
          refine lv_topi (fun x_22 ex_22 => ?_)
          refine lv_iload_n hx hb dX1_pickFrom_96 rfl (lv_at hl 5 rfl) ?_
          refine lv_icmp_gt (tgt := 146) hx hb dX1_pickFrom_97 (by decide) (fun c_23 => ?_) (fun c_23 => ?_)
          · skip
            have uc_23 := j_lt c_23
            exact W.vret hx hb hr (fun t ht hW => ⟨⟨(σ_14, ρ_15), rfl, ⟨hB.2.1, hB.2.2, trivial⟩, (show TP D cA L T r σ_14 ρ_15 t.heap from by rw [ht]; exact hB.1)⟩, hS.F ht⟩) hS.2.2 dX1_pickFrom_146
          · skip
            have uc_23 := j_nlt c_23
            refine lv_aload_n hx hb dX1_pickFrom_100 rfl (lv_at hl 2 rfl) ?_
            refine t_gr hx hb hts hown hK hG hB mh0 th0 fq_1_2 rfl mw_2_127 dX1_pickFrom_101 (fun b_24 hb_24 mb_24 tb_24 => ?_)
            refine lv_iload_n hx hb dX1_pickFrom_104 rfl (lv_at hl 4 rfl) ?_
            refine lv_iload hx hb dX1_pickFrom_105 (lv_at hl 0 rfl) ?_
            refine t_si hx hb hK hLA hB hS mb_24 tb_24 ai_26 (i_in (by omega) (by omega)) (i_lo _) (i_hi _) (Or.inr (by decide)) dX1_pickFrom_107 (fun H locs σ_25 eσ_25 hB hS => ?_)
            have k_26 : σ_25 b_24 p2.toNatClampNeg = i_13 := by rw [eσ_25]; exact up2_same _ _ _ _
            refine lv_aload_n hx hb dX1_pickFrom_108 rfl (lv_at hl 2 rfl) ?_
            refine lv_aload_n hx hb dX1_pickFrom_109 rfl (lv_at hl 3 rfl) ?_
            refine lv_iload_n hx hb dX1_pickFrom_110 rfl (lv_at hl 4 rfl) ?_
            refine lv_iconst (v := 1) hx hb dX1_pickFrom_111 (by decide) ?_
            refine lv_iadd hx hb dX1_pickFrom_112 ?_
            refine lv_topi (fun x_27 ex_27 => ?_)
            have vx_27 := b_add (rfl : p2.toInt = _) (by decide : (1 : Int32).toInt = 1) ex_27 (by omega) (by omega)
            refine lv_iload_n hx hb dX1_pickFrom_113 rfl (lv_at hl 5 rfl) ?_
            refine lv_iload hx hb dX1_pickFrom_114 (lv_at hl 0 rfl) ?_
            refine lv_iload hx hb dX1_pickFrom_116 (lv_at hl 1 rfl) ?_
            refine lv_imul hx hb dX1_pickFrom_118 ?_
            refine lv_topi (fun x_28 ex_28 => ?_)
            refine lv_isub hx hb dX1_pickFrom_119 ?_
            refine lv_topi (fun x_29 ex_29 => ?_)
            refine lv_iload hx hb dX1_pickFrom_120 (lv_at hl 6 rfl) ?_
            refine lv_iload hx hb dX1_pickFrom_122 (lv_at hl 0 rfl) ?_
            refine lv_isub hx hb dX1_pickFrom_124 ?_
            refine lv_topi (fun x_30 ex_30 => ?_)
            have vx_30 := b_sub (rfl : p4.toInt = _) (rfl : i_13.toInt = _) ex_30 (by omega) (by omega)
            refine lv_iload hx hb dX1_pickFrom_125 (lv_at hl 7 rfl) ?_
            refine lv_iload hx hb dX1_pickFrom_127 (lv_at hl 0 rfl) ?_
            refine lv_aload_n hx hb dX1_pickFrom_129 rfl (lv_at hl 2 rfl) ?_
            refine t_gr hx hb hts hown hK hG hB mh0 th0 fq_1_1 rfl mw_2_126 dX1_pickFrom_130 (fun b_31 hb_31 mb_31 tb_31 => ?_)
            refine lv_iload_n hx hb dX1_pickFrom_133 rfl (lv_at hl 4 rfl) ?_
            refine t_ai hx hb hK hB mb_31 tb_31 ai_25 (fun _ => rfl) (i_in (by omega) (by omega)) dX1_pickFrom_134 (fun x_32 ex_32 lx_32 ux_32 => ?_)
            refine lv_imul hx hb dX1_pickFrom_135 ?_
            refine lv_topi (fun x_33 ex_33 => ?_)
            refine lv_iadd hx hb dX1_pickFrom_136 ?_
            refine lv_topi (fun x_34 ex_34 => ?_)
            refine t_cv (va_runV (As := [.ref h1, .int x_27, .int x_29, .int x_30, .int x_34]) (rest := []) ⟨hx, hb, hml, hown, hts⟩ (cy_X1_pickFrom_2 l D cA L T r hG hLA.1 σ_25 ρ_15 hB.2.1 _ h0 mh0 th0 h1 mh1 th1 x_27 x_29 x_30 x_34 (by first | omega | decide) (by first | omega | decide)) (cV hts mv_X1_pickFrom mw_5_80 rfl rfl ⟨Nat.le_of_ble_eq_true rfl, Nat.le_of_ble_eq_true rfl⟩) (pV hB.1 hK hN mh0 th0 (show shp cA 1 _ _ _ = .inr (1, Fs1 _ _ _) from rfl) rfl) rfl rfl hl.1 rfl (lv_room (Nat.le_of_ble_eq_true rfl)) dX1_pickFrom_137 ⟨Nat.le_of_ble_eq_true rfl, Nat.le_of_ble_eq_true rfl⟩) hLA hA hB hS (by decide) (fun σ_35 ρ_36 H locs hB fσ_35 pσ_35 hS => ?_)
            obtain ⟨x_38, ex_38⟩ : ∃ y : Int32, y = i_13 + 1 := ⟨_, rfl⟩
            have vx_38 := b_add (rfl : i_13.toInt = _) (by decide : (1 : Int32).toInt = 1) ex_38 (by omega) (by omega)
            refine lv_iinc (v := x_38) (lv' := [(7, .int x_38), (6, .int x_12), (0, .ref h0), (1, .ref h1), (2, .int p2), (3, .int p3), (4, .int p4), (5, .int p5)]) hx hb dX1_pickFrom_140 hl (k := 0) rfl (by rw [ex_38]; rfl) (by decide) rfl (fun ls hl => ?_)
            refine lv_goto (tgt := 73) hx hb dX1_pickFrom_143 (by decide) ?_
            have k_39 : σ_25 h1 8 = x_1 := by rw [eσ_25, up2_nea _ _ (tg_ne th1 tb_24 (by decide))]; exact k_17
            have k_40 : σ_35 h1 8 = x_1 := (FR.at fσ_35 th1 (by decide)).trans k_39
            exact ih_16 ⟨x_38, σ_35, ρ_36⟩ _ _ _ ⟨(by omega), (by omega), k_40, hB, hS, lv_sub hl [0, 1, 2, 3, 4, 5, 6, 7] rfl⟩ (by show (1001 - x_38.toInt).toNat < (1001 - i_13.toInt).toNat; omega)
    · skip
      have uc_10 := j_nlt c_10
      exact W.vret hx hb hr (fun t ht hW => ⟨⟨(σ, ρ_5), rfl, ⟨hB.2.1, hB.2.2, trivial⟩, (show TP D cA L T r σ ρ_5 t.heap from by rw [ht]; exact hB.1)⟩, hS.F ht⟩) hS.2.2 dX1_pickFrom_61
  · skip
    have uc_2 := j_nlt c_2
    refine lv_iload hx hb dX1_pickFrom_8 (lv_at hl 5 rfl) ?_
    refine lv_aload_n hx hb dX1_pickFrom_10 rfl (lv_at hl 0 rfl) ?_
    refine t_gi hx hb hts hown hK hB mh0 th0 fi_1_4 rfl mw_2_130 dX1_pickFrom_11 (fun x_41 ex_41 lx_41 ux_41 => ?_)
    refine lv_icmp_le (tgt := 37) hx hb dX1_pickFrom_14 (by decide) (fun c_42 => ?_) (fun c_42 => ?_)
    · skip
      have uc_42 := j_le c_42
      exact W.vret hx hb hr (fun t ht hW => ⟨⟨(σ, ρ), rfl, ⟨hB.2.1, hB.2.2, trivial⟩, (show TP D cA L T r σ ρ t.heap from by rw [ht]; exact hB.1)⟩, hS.F ht⟩) hS.2.2 dX1_pickFrom_37
    · skip
      have uc_42 := j_nle c_42
      refine lv_aload_n hx hb dX1_pickFrom_17 rfl (lv_at hl 0 rfl) ?_
      refine lv_iload hx hb dX1_pickFrom_18 (lv_at hl 5 rfl) ?_
      refine t_pi hx hb hts hown hK hLA hB hS mh0 th0 fi_1_4 rfl rfl rfl (i_lo _) (i_hi _) (Or.inl (by decide)) mw_2_130 dX1_pickFrom_20 (fun H locs σ_43 eσ_43 hB hS => ?_)
      have k_44 : σ_43 h0 4 = p5 := by rw [eσ_43]; exact up2_same _ _ _ _
      refine lv_aload_n hx hb dX1_pickFrom_23 rfl (lv_at hl 0 rfl) ?_
      refine t_gr hx hb hts hown hK hG hB mh0 th0 fq_1_2 rfl mw_2_127 dX1_pickFrom_24 (fun b_45 hb_45 mb_45 tb_45 => ?_)
      refine lv_iconst (v := 0) hx hb dX1_pickFrom_27 (by decide) ?_
      refine lv_aload_n hx hb dX1_pickFrom_28 rfl (lv_at hl 0 rfl) ?_
      refine t_gr hx hb hts hown hK hG hB mh0 th0 fq_1_3 rfl mw_2_128 dX1_pickFrom_29 (fun b_46 hb_46 mb_46 tb_46 => ?_)
      refine lv_iconst (v := 0) hx hb dX1_pickFrom_32 (by decide) ?_
      refine lv_iconst (v := 5) hx hb dX1_pickFrom_33 (by decide) ?_
      refine t_cp (lo := (-2147483648)) (hi := 2147483647) hx hb (hml.trans hl.1.symm) hts hown mw_5_84 ⟨mw_3_239, mw_3_238, mw_1_20⟩ hK hLA hB hS mb_45 tb_45 ai_26 mb_46 tb_46 ai_27 (fun _ => ⟨show ((-2147483648) : Int) ≤ (-2147483648) by decide, show (2147483647 : Int) ≤ 2147483647 by decide⟩) (fun _ => rfl) (by decide) (by decide) (by decide) (by decide) (by decide) (by decide) (Nat.le_of_ble_eq_true rfl) (Nat.le_of_ble_eq_true rfl) dX1_pickFrom_34 (fun H locs σ_47 eσ_47 hB hS => ?_)
      exact W.vret hx hb hr (fun t ht hW => ⟨⟨(σ_47, ρ), rfl, ⟨hB.2.1, hB.2.2, trivial⟩, (show TP D cA L T r σ_47 ρ t.heap from by rw [ht]; exact hB.1)⟩, hS.F ht⟩) hS.2.2 dX1_pickFrom_37
set_option maxHeartbeats 4000000 in
set_option maxRecDepth 100000 in
theorem cy_X1_pickFrom_4 (l : Launch) (D : va_G) (cA : Nat → ClassId) (L : List Nat) (T : Nat → Nat) (r : Rg) (hG : GR L T r) (hL : L.Nodup) (σ : Sg) (ρ : Lg) (hW : WT L ry T σ) (sz : Nat) (h0 : Nat) (mh0 : h0 ∈ L) (th0 : T h0 = 1) (h1 : Nat) (mh1 : h1 ∈ L) (th1 : T h1 = 3) (p2 : Int32) (p3 : Int32) (p4 : Int32) (p5 : Int32) (w0 : 1 ≤ p2.toInt) (w1 : p2.toInt ≤ 5) : Met l yX1_pickFrom (.code yX1_pickFrom cX1_pickFrom 8 none :: wsA) ({ frames := 5, cells := 0, slots := 0, locals := 208 }) (PR D cA L T r σ ρ sz [.ref h0, .ref h1, .int p2, .int p3, .int p4, .int p5]) (QV D cA L T r ry [(1, 4), (26, 1000), (27, 1000)] σ sz (fun σ1 => True)) 0 0 (dm L sz) := by
  refine Met.ofW (cc := cX1_pickFrom) (maxL := 8) (ret := none) (by decide) rfl ?_
  intro p e s m args below meth c s₁ B hml hv
  obtain ⟨rfl, hsz, hP, hK, hN⟩ := hv
  have hx := B.exec
  have hb := B.bytes
  have hr := B.returns
  have hts : ∀ w ∈ wsA, w.before _ s = true := fun w h => atoms_spec (ws := .code yX1_pickFrom cX1_pickFrom 8 none :: wsA) B.pre w (List.mem_cons_of_mem _ h)
  have hown : s.vm.findClass RX1 = some m.cls := findClass_of_methodNamed B.named
  subst hsz
  have hLA : LA (dm L s.heap.size) L := ⟨hL, fun a h => Or.inl h⟩
  have hA : ∀ q : Nat, s.heap.size ≤ q → dm L s.heap.size q := fun q h => Or.inr h
  have hS : va_S (dm L s.heap.size) s.heap s.heap [] := va_S.rf
  have hB : TS D cA L T r ry [(1, 4), (26, 1000), (27, 1000)] σ σ ρ s.heap := ⟨hP, hW, FR.rf⟩
  have hl := lv_entry ([.ref h0, .ref h1, .int p2, .int p3, .int p4, .int p5]) (n := 8) (Nat.le_of_ble_eq_true rfl)
  rw [lg_entry_eq]
  generalize (lg_sl ([.ref h0, .ref h1, .int p2, .int p3, .int p4, .int p5]) ++ List.replicate (8 - (lg_sl ([.ref h0, .ref h1, .int p2, .int p3, .int p4, .int p5])).length) Slot.unset).toArray = ls at hl ⊢
  have hl : lv_has ls 8 [(0, .ref h0), (1, .ref h1), (2, .int p2), (3, .int p3), (4, .int p4), (5, .int p5)] := hl
  have zp3 := i_lo p3
  have yp3 := i_hi p3
  have zp4 := i_lo p4
  have yp4 := i_hi p4
  have zp5 := i_lo p5
  have yp5 := i_hi p5
  refine lv_iload_n hx hb dX1_pickFrom_0 rfl (lv_at hl 2 rfl) ?_
  refine lv_aload_n hx hb dX1_pickFrom_1 rfl (lv_at hl 1 rfl) ?_
  refine t_gi hx hb hts hown hK hB mh1 th1 fi_3_8 rfl mw_1_172 dX1_pickFrom_2 (fun x_1 ex_1 lx_1 ux_1 => ?_)
  refine lv_icmp_lt (tgt := 38) hx hb dX1_pickFrom_5 (by decide) (fun c_2 => ?_) (fun c_2 => ?_)
  · skip
    have uc_2 := j_lt c_2
    refine lv_iload hx hb dX1_pickFrom_38 (lv_at hl 5 rfl) ?_
    refine lv_iload hx hb dX1_pickFrom_40 (lv_at hl 4 rfl) ?_
    refine lv_iload_n hx hb dX1_pickFrom_42 rfl (lv_at hl 3 rfl) ?_
    refine va_mmin hx hb (hml.trans hl.1.symm) hown (hts _ mw_5_78) (hts _ mw_3_123) (hts _ mw_1_18) (hts _ mw_3_124) (Nat.le_of_ble_eq_true rfl) (Nat.le_of_ble_eq_true rfl) (Nat.zero_le _) (Nat.zero_le _) dX1_pickFrom_43 ?_
    refine lv_topi (fun x_3 ex_3 => ?_)
    obtain ⟨lx_3, mx_3, ux_3⟩ := m_min (rfl : p4.toInt = _) (rfl : p3.toInt = _) ex_3
    refine lv_aload_n hx hb dX1_pickFrom_46 rfl (lv_at hl 0 rfl) ?_
    refine lv_aload_n hx hb dX1_pickFrom_47 rfl (lv_at hl 1 rfl) ?_
    refine lv_iload_n hx hb dX1_pickFrom_48 rfl (lv_at hl 2 rfl) ?_
    refine t_ci (va_runV (As := [.ref h1, .int p2]) (rest := [.int x_3, .int p5]) ⟨hx, hb, hml, hown, hts⟩ (cy_X1_mostGainFrom l D cA L T r hG hLA.1 σ ρ hB.2.1 _ h0 mh0 th0 h1 mh1 th1 p2 (by first | omega | decide) (by first | omega | decide)) (cV hts mv_X1_mostGainFrom mw_5_85 rfl rfl ⟨Nat.le_of_ble_eq_true rfl, Nat.le_of_ble_eq_true rfl⟩) (pV hB.1 hK hN mh0 th0 (show shp cA 1 _ _ _ = .inr (1, Fs1 _ _ _) from rfl) rfl) rfl rfl hl.1 rfl (lv_room (Nat.le_of_ble_eq_true rfl)) dX1_pickFrom_49 ⟨Nat.le_of_ble_eq_true rfl, Nat.le_of_ble_eq_true rfl⟩) hLA hA hB hS (by decide) (fun x_6 σ_4 ρ_5 H locs hB fσ_4 pσ_4 hS => ?_)
    have qσ_4 := FR.nil fσ_4
    subst qσ_4
    refine lv_imul hx hb dX1_pickFrom_52 ?_
    refine lv_topi (fun x_7 ex_7 => ?_)
    refine lv_iadd hx hb dX1_pickFrom_53 ?_
    refine lv_topi (fun x_8 ex_8 => ?_)
    refine lv_aload_n hx hb dX1_pickFrom_54 rfl (lv_at hl 0 rfl) ?_
    refine t_gi hx hb hts hown hK hB mh0 th0 fi_1_4 rfl mw_2_130 dX1_pickFrom_55 (fun x_9 ex_9 lx_9 ux_9 => ?_)
    refine lv_icmp_gt (tgt := 62) hx hb dX1_pickFrom_58 (by decide) (fun c_10 => ?_) (fun c_10 => ?_)
    · skip
      have uc_10 := j_lt c_10
      refine lv_aload_n hx hb dX1_pickFrom_62 rfl (lv_at hl 1 rfl) ?_
      refine t_gr hx hb hts hown hK hG hB mh1 th1 fq_3_0 rfl mw_1_132 dX1_pickFrom_63 (fun b_11 hb_11 mb_11 tb_11 => ?_)
      refine lv_iload_n hx hb dX1_pickFrom_66 rfl (lv_at hl 2 rfl) ?_
      refine t_ai hx hb hK hB mb_11 tb_11 ai_33 (fun _ => rfl) (i_in (by omega) (by omega)) dX1_pickFrom_67 (fun x_12 ex_12 lx_12 ux_12 => ?_)
      refine lv_istore (lv' := [(6, .int x_12), (0, .ref h0), (1, .ref h1), (2, .int p2), (3, .int p3), (4, .int p4), (5, .int p5)]) hx hb dX1_pickFrom_68 hl (by decide) rfl (fun ls hl => ?_)
      refine lv_iconst (v := 0) hx hb dX1_pickFrom_70 (by decide) ?_
      refine lv_istore (lv' := [(7, .int 0), (6, .int x_12), (0, .ref h0), (1, .ref h1), (2, .int p2), (3, .int p3), (4, .int p4), (5, .int p5)]) hx hb dX1_pickFrom_71 hl (by decide) rfl (fun ls hl => ?_)
      refine w_loop (α := Int32 × Sg × Lg) (fun (i_13, σ_14, ρ_15) H locs ls => 0 ≤ i_13.toInt ∧ i_13.toInt ≤ 1001 ∧ σ_14 h1 8 = x_1 ∧ TS D cA L T r ry [(1, 4), (26, 1000), (27, 1000)] σ σ_14 ρ_15 H ∧ va_S (dm L s.heap.size) s.heap H locs ∧ lv_has ls 8 [(7, .int i_13), (6, .int x_12), (0, .ref h0), (1, .ref h1), (2, .int p2), (3, .int p3), (4, .int p4), (5, .int p5)]) (fun (i_13, σ_14, ρ_15) => (1001 - i_13.toInt).toNat) ?_ ⟨0, σ, ρ_5⟩ ⟨(by decide), (by decide), ex_1.symm, hB, hS, lv_sub hl [0, 1, 2, 3, 4, 5, 6, 7] rfl⟩
      rintro ⟨i_13, σ_14, ρ_15⟩ H locs ls ⟨li_13, ui_13, k_17, hB, hS, hl⟩ ih_16
      refine lv_iload hx hb dX1_pickFrom_73 (lv_at hl 0 rfl) ?_
      refine lv_aload_n hx hb dX1_pickFrom_75 rfl (lv_at hl 2 rfl) ?_
      refine t_gr hx hb hts hown hK hG hB mh0 th0 fq_1_0 rfl mw_2_125 dX1_pickFrom_76 (fun b_18 hb_18 mb_18 tb_18 => ?_)
      refine lv_iload_n hx hb dX1_pickFrom_79 rfl (lv_at hl 4 rfl) ?_
      refine t_ai hx hb hK hB mb_18 tb_18 ai_24 (fun _ => rfl) (i_in (by omega) (by omega)) dX1_pickFrom_80 (fun x_19 ex_19 lx_19 ux_19 => ?_)
      refine lv_icmp_gt (tgt := 146) hx hb dX1_pickFrom_81 (by decide) (fun c_20 => ?_) (fun c_20 => ?_)
      · skip
        have uc_20 := j_lt c_20
        exact W.vret hx hb hr (fun t ht hW => ⟨⟨(σ_14, ρ_15), rfl, ⟨hB.2.1, hB.2.2, trivial⟩, (show TP D cA L T r σ_14 ρ_15 t.heap from by rw [ht]; exact hB.1)⟩, hS.F ht⟩) hS.2.2 dX1_pickFrom_146
      · skip
        have uc_20 := j_nlt c_20
        refine lv_iload hx hb dX1_pickFrom_84 (lv_at hl 0 rfl) ?_
        refine lv_iload hx hb dX1_pickFrom_86 (lv_at hl 6 rfl) ?_
        refine lv_icmp_gt (tgt := 146) hx hb dX1_pickFrom_88 (by decide) (fun c_21 => ?_) (fun c_21 => ?_)
        · skip
          have uc_21 := j_lt c_21
          exact W.vret hx hb hr (fun t ht hW => ⟨⟨(σ_14, ρ_15), rfl, ⟨hB.2.1, hB.2.2, trivial⟩, (show TP D cA L T r σ_14 ρ_15 t.heap from by rw [ht]; exact hB.1)⟩, hS.F ht⟩) hS.2.2 dX1_pickFrom_146
        · skip
          have uc_21 := j_nlt c_21
          refine lv_iload hx hb dX1_pickFrom_91 (lv_at hl 0 rfl) ?_
          refine lv_iload hx hb dX1_pickFrom_93 (lv_at hl 1 rfl) ?_
          refine lv_imul hx hb dX1_pickFrom_95 ?_
          refine lv_topi (fun x_22 ex_22 => ?_)
          refine lv_iload_n hx hb dX1_pickFrom_96 rfl (lv_at hl 5 rfl) ?_
          refine lv_icmp_gt (tgt := 146) hx hb dX1_pickFrom_97 (by decide) (fun c_23 => ?_) (fun c_23 => ?_)
          · skip
            have uc_23 := j_lt c_23
            exact W.vret hx hb hr (fun t ht hW => ⟨⟨(σ_14, ρ_15), rfl, ⟨hB.2.1, hB.2.2, trivial⟩, (show TP D cA L T r σ_14 ρ_15 t.heap from by rw [ht]; exact hB.1)⟩, hS.F ht⟩) hS.2.2 dX1_pickFrom_146
          · skip
            have uc_23 := j_nlt c_23
            refine lv_aload_n hx hb dX1_pickFrom_100 rfl (lv_at hl 2 rfl) ?_
            refine t_gr hx hb hts hown hK hG hB mh0 th0 fq_1_2 rfl mw_2_127 dX1_pickFrom_101 (fun b_24 hb_24 mb_24 tb_24 => ?_)
            refine lv_iload_n hx hb dX1_pickFrom_104 rfl (lv_at hl 4 rfl) ?_
            refine lv_iload hx hb dX1_pickFrom_105 (lv_at hl 0 rfl) ?_
            refine t_si hx hb hK hLA hB hS mb_24 tb_24 ai_26 (i_in (by omega) (by omega)) (i_lo _) (i_hi _) (Or.inr (by decide)) dX1_pickFrom_107 (fun H locs σ_25 eσ_25 hB hS => ?_)
            have k_26 : σ_25 b_24 p2.toNatClampNeg = i_13 := by rw [eσ_25]; exact up2_same _ _ _ _
            refine lv_aload_n hx hb dX1_pickFrom_108 rfl (lv_at hl 2 rfl) ?_
            refine lv_aload_n hx hb dX1_pickFrom_109 rfl (lv_at hl 3 rfl) ?_
            refine lv_iload_n hx hb dX1_pickFrom_110 rfl (lv_at hl 4 rfl) ?_
            refine lv_iconst (v := 1) hx hb dX1_pickFrom_111 (by decide) ?_
            refine lv_iadd hx hb dX1_pickFrom_112 ?_
            refine lv_topi (fun x_27 ex_27 => ?_)
            have vx_27 := b_add (rfl : p2.toInt = _) (by decide : (1 : Int32).toInt = 1) ex_27 (by omega) (by omega)
            refine lv_iload_n hx hb dX1_pickFrom_113 rfl (lv_at hl 5 rfl) ?_
            refine lv_iload hx hb dX1_pickFrom_114 (lv_at hl 0 rfl) ?_
            refine lv_iload hx hb dX1_pickFrom_116 (lv_at hl 1 rfl) ?_
            refine lv_imul hx hb dX1_pickFrom_118 ?_
            refine lv_topi (fun x_28 ex_28 => ?_)
            refine lv_isub hx hb dX1_pickFrom_119 ?_
            refine lv_topi (fun x_29 ex_29 => ?_)
            refine lv_iload hx hb dX1_pickFrom_120 (lv_at hl 6 rfl) ?_
            refine lv_iload hx hb dX1_pickFrom_122 (lv_at hl 0 rfl) ?_
            refine lv_isub hx hb dX1_pickFrom_124 ?_
            refine lv_topi (fun x_30 ex_30 => ?_)
            have vx_30 := b_sub (rfl : p4.toInt = _) (rfl : i_13.toInt = _) ex_30 (by omega) (by omega)
            refine lv_iload hx hb dX1_pickFrom_125 (lv_at hl 7 rfl) ?_
            refine lv_iload hx hb dX1_pickFrom_127 (lv_at hl 0 rfl) ?_
            refine lv_aload_n hx hb dX1_pickFrom_129 rfl (lv_at hl 2 rfl) ?_
            refine t_gr hx hb hts hown hK hG hB mh0 th0 fq_1_1 rfl mw_2_126 dX1_pickFrom_130 (fun b_31 hb_31 mb_31 tb_31 => ?_)
            refine lv_iload_n hx hb dX1_pickFrom_133 rfl (lv_at hl 4 rfl) ?_
            refine t_ai hx hb hK hB mb_31 tb_31 ai_25 (fun _ => rfl) (i_in (by omega) (by omega)) dX1_pickFrom_134 (fun x_32 ex_32 lx_32 ux_32 => ?_)
            refine lv_imul hx hb dX1_pickFrom_135 ?_
            refine lv_topi (fun x_33 ex_33 => ?_)
            refine lv_iadd hx hb dX1_pickFrom_136 ?_
            refine lv_topi (fun x_34 ex_34 => ?_)
            refine t_cv (va_runV (As := [.ref h1, .int x_27, .int x_29, .int x_30, .int x_34]) (rest := []) ⟨hx, hb, hml, hown, hts⟩ (cy_X1_pickFrom_3 l D cA L T r hG hLA.1 σ_25 ρ_15 hB.2.1 _ h0 mh0 th0 h1 mh1 th1 x_27 x_29 x_30 x_34 (by first | omega | decide) (by first | omega | decide)) (cV hts mv_X1_pickFrom mw_5_80 rfl rfl ⟨Nat.le_of_ble_eq_true rfl, Nat.le_of_ble_eq_true rfl⟩) (pV hB.1 hK hN mh0 th0 (show shp cA 1 _ _ _ = .inr (1, Fs1 _ _ _) from rfl) rfl) rfl rfl hl.1 rfl (lv_room (Nat.le_of_ble_eq_true rfl)) dX1_pickFrom_137 ⟨Nat.le_of_ble_eq_true rfl, Nat.le_of_ble_eq_true rfl⟩) hLA hA hB hS (by decide) (fun σ_35 ρ_36 H locs hB fσ_35 pσ_35 hS => ?_)
            obtain ⟨x_38, ex_38⟩ : ∃ y : Int32, y = i_13 + 1 := ⟨_, rfl⟩
            have vx_38 := b_add (rfl : i_13.toInt = _) (by decide : (1 : Int32).toInt = 1) ex_38 (by omega) (by omega)
            refine lv_iinc (v := x_38) (lv' := [(7, .int x_38), (6, .int x_12), (0, .ref h0), (1, .ref h1), (2, .int p2), (3, .int p3), (4, .int p4), (5, .int p5)]) hx hb dX1_pickFrom_140 hl (k := 0) rfl (by rw [ex_38]; rfl) (by decide) rfl (fun ls hl => ?_)
            refine lv_goto (tgt := 73) hx hb dX1_pickFrom_143 (by decide) ?_
            have k_39 : σ_25 h1 8 = x_1 := by rw [eσ_25, up2_nea _ _ (tg_ne th1 tb_24 (by decide))]; exact k_17
            have k_40 : σ_35 h1 8 = x_1 := (FR.at fσ_35 th1 (by decide)).trans k_39
            exact ih_16 ⟨x_38, σ_35, ρ_36⟩ _ _ _ ⟨(by omega), (by omega), k_40, hB, hS, lv_sub hl [0, 1, 2, 3, 4, 5, 6, 7] rfl⟩ (by show (1001 - x_38.toInt).toNat < (1001 - i_13.toInt).toNat; omega)
    · skip
      have uc_10 := j_nlt c_10
      exact W.vret hx hb hr (fun t ht hW => ⟨⟨(σ, ρ_5), rfl, ⟨hB.2.1, hB.2.2, trivial⟩, (show TP D cA L T r σ ρ_5 t.heap from by rw [ht]; exact hB.1)⟩, hS.F ht⟩) hS.2.2 dX1_pickFrom_61
  · skip
    have uc_2 := j_nlt c_2
    refine lv_iload hx hb dX1_pickFrom_8 (lv_at hl 5 rfl) ?_
    refine lv_aload_n hx hb dX1_pickFrom_10 rfl (lv_at hl 0 rfl) ?_
    refine t_gi hx hb hts hown hK hB mh0 th0 fi_1_4 rfl mw_2_130 dX1_pickFrom_11 (fun x_41 ex_41 lx_41 ux_41 => ?_)
    refine lv_icmp_le (tgt := 37) hx hb dX1_pickFrom_14 (by decide) (fun c_42 => ?_) (fun c_42 => ?_)
    · skip
      have uc_42 := j_le c_42
      exact W.vret hx hb hr (fun t ht hW => ⟨⟨(σ, ρ), rfl, ⟨hB.2.1, hB.2.2, trivial⟩, (show TP D cA L T r σ ρ t.heap from by rw [ht]; exact hB.1)⟩, hS.F ht⟩) hS.2.2 dX1_pickFrom_37
    · skip
      have uc_42 := j_nle c_42
      refine lv_aload_n hx hb dX1_pickFrom_17 rfl (lv_at hl 0 rfl) ?_
      refine lv_iload hx hb dX1_pickFrom_18 (lv_at hl 5 rfl) ?_
      refine t_pi hx hb hts hown hK hLA hB hS mh0 th0 fi_1_4 rfl rfl rfl (i_lo _) (i_hi _) (Or.inl (by decide)) mw_2_130 dX1_pickFrom_20 (fun H locs σ_43 eσ_43 hB hS => ?_)
      have k_44 : σ_43 h0 4 = p5 := by rw [eσ_43]; exact up2_same _ _ _ _
      refine lv_aload_n hx hb dX1_pickFrom_23 rfl (lv_at hl 0 rfl) ?_
      refine t_gr hx hb hts hown hK hG hB mh0 th0 fq_1_2 rfl mw_2_127 dX1_pickFrom_24 (fun b_45 hb_45 mb_45 tb_45 => ?_)
      refine lv_iconst (v := 0) hx hb dX1_pickFrom_27 (by decide) ?_
      refine lv_aload_n hx hb dX1_pickFrom_28 rfl (lv_at hl 0 rfl) ?_
      refine t_gr hx hb hts hown hK hG hB mh0 th0 fq_1_3 rfl mw_2_128 dX1_pickFrom_29 (fun b_46 hb_46 mb_46 tb_46 => ?_)
      refine lv_iconst (v := 0) hx hb dX1_pickFrom_32 (by decide) ?_
      refine lv_iconst (v := 5) hx hb dX1_pickFrom_33 (by decide) ?_
      refine t_cp (lo := (-2147483648)) (hi := 2147483647) hx hb (hml.trans hl.1.symm) hts hown mw_5_84 ⟨mw_3_239, mw_3_238, mw_1_20⟩ hK hLA hB hS mb_45 tb_45 ai_26 mb_46 tb_46 ai_27 (fun _ => ⟨show ((-2147483648) : Int) ≤ (-2147483648) by decide, show (2147483647 : Int) ≤ 2147483647 by decide⟩) (fun _ => rfl) (by decide) (by decide) (by decide) (by decide) (by decide) (by decide) (Nat.le_of_ble_eq_true rfl) (Nat.le_of_ble_eq_true rfl) dX1_pickFrom_34 (fun H locs σ_47 eσ_47 hB hS => ?_)
      exact W.vret hx hb hr (fun t ht hW => ⟨⟨(σ_47, ρ), rfl, ⟨hB.2.1, hB.2.2, trivial⟩, (show TP D cA L T r σ_47 ρ t.heap from by rw [ht]; exact hB.1)⟩, hS.F ht⟩) hS.2.2 dX1_pickFrom_37
set_option maxHeartbeats 4000000 in
set_option maxRecDepth 100000 in
theorem cy_X1_pickFrom_5 (l : Launch) (D : va_G) (cA : Nat → ClassId) (L : List Nat) (T : Nat → Nat) (r : Rg) (hG : GR L T r) (hL : L.Nodup) (σ : Sg) (ρ : Lg) (hW : WT L ry T σ) (sz : Nat) (h0 : Nat) (mh0 : h0 ∈ L) (th0 : T h0 = 1) (h1 : Nat) (mh1 : h1 ∈ L) (th1 : T h1 = 3) (p2 : Int32) (p3 : Int32) (p4 : Int32) (p5 : Int32) (w0 : 0 ≤ p2.toInt) (w1 : p2.toInt ≤ 5) : Met l yX1_pickFrom (.code yX1_pickFrom cX1_pickFrom 8 none :: wsA) ({ frames := 6, cells := 0, slots := 0, locals := 235 }) (PR D cA L T r σ ρ sz [.ref h0, .ref h1, .int p2, .int p3, .int p4, .int p5]) (QV D cA L T r ry [(1, 4), (26, 1000), (27, 1000)] σ sz (fun σ1 => True)) 0 0 (dm L sz) := by
  refine Met.ofW (cc := cX1_pickFrom) (maxL := 8) (ret := none) (by decide) rfl ?_
  intro p e s m args below meth c s₁ B hml hv
  obtain ⟨rfl, hsz, hP, hK, hN⟩ := hv
  have hx := B.exec
  have hb := B.bytes
  have hr := B.returns
  have hts : ∀ w ∈ wsA, w.before _ s = true := fun w h => atoms_spec (ws := .code yX1_pickFrom cX1_pickFrom 8 none :: wsA) B.pre w (List.mem_cons_of_mem _ h)
  have hown : s.vm.findClass RX1 = some m.cls := findClass_of_methodNamed B.named
  subst hsz
  have hLA : LA (dm L s.heap.size) L := ⟨hL, fun a h => Or.inl h⟩
  have hA : ∀ q : Nat, s.heap.size ≤ q → dm L s.heap.size q := fun q h => Or.inr h
  have hS : va_S (dm L s.heap.size) s.heap s.heap [] := va_S.rf
  have hB : TS D cA L T r ry [(1, 4), (26, 1000), (27, 1000)] σ σ ρ s.heap := ⟨hP, hW, FR.rf⟩
  have hl := lv_entry ([.ref h0, .ref h1, .int p2, .int p3, .int p4, .int p5]) (n := 8) (Nat.le_of_ble_eq_true rfl)
  rw [lg_entry_eq]
  generalize (lg_sl ([.ref h0, .ref h1, .int p2, .int p3, .int p4, .int p5]) ++ List.replicate (8 - (lg_sl ([.ref h0, .ref h1, .int p2, .int p3, .int p4, .int p5])).length) Slot.unset).toArray = ls at hl ⊢
  have hl : lv_has ls 8 [(0, .ref h0), (1, .ref h1), (2, .int p2), (3, .int p3), (4, .int p4), (5, .int p5)] := hl
  have zp3 := i_lo p3
  have yp3 := i_hi p3
  have zp4 := i_lo p4
  have yp4 := i_hi p4
  have zp5 := i_lo p5
  have yp5 := i_hi p5
  refine lv_iload_n hx hb dX1_pickFrom_0 rfl (lv_at hl 2 rfl) ?_
  refine lv_aload_n hx hb dX1_pickFrom_1 rfl (lv_at hl 1 rfl) ?_
  refine t_gi hx hb hts hown hK hB mh1 th1 fi_3_8 rfl mw_1_172 dX1_pickFrom_2 (fun x_1 ex_1 lx_1 ux_1 => ?_)
  refine lv_icmp_lt (tgt := 38) hx hb dX1_pickFrom_5 (by decide) (fun c_2 => ?_) (fun c_2 => ?_)
  · skip
    have uc_2 := j_lt c_2
    refine lv_iload hx hb dX1_pickFrom_38 (lv_at hl 5 rfl) ?_
    refine lv_iload hx hb dX1_pickFrom_40 (lv_at hl 4 rfl) ?_
    refine lv_iload_n hx hb dX1_pickFrom_42 rfl (lv_at hl 3 rfl) ?_
    refine va_mmin hx hb (hml.trans hl.1.symm) hown (hts _ mw_5_78) (hts _ mw_3_123) (hts _ mw_1_18) (hts _ mw_3_124) (Nat.le_of_ble_eq_true rfl) (Nat.le_of_ble_eq_true rfl) (Nat.zero_le _) (Nat.zero_le _) dX1_pickFrom_43 ?_
    refine lv_topi (fun x_3 ex_3 => ?_)
    obtain ⟨lx_3, mx_3, ux_3⟩ := m_min (rfl : p4.toInt = _) (rfl : p3.toInt = _) ex_3
    refine lv_aload_n hx hb dX1_pickFrom_46 rfl (lv_at hl 0 rfl) ?_
    refine lv_aload_n hx hb dX1_pickFrom_47 rfl (lv_at hl 1 rfl) ?_
    refine lv_iload_n hx hb dX1_pickFrom_48 rfl (lv_at hl 2 rfl) ?_
    refine t_ci (va_runV (As := [.ref h1, .int p2]) (rest := [.int x_3, .int p5]) ⟨hx, hb, hml, hown, hts⟩ (cy_X1_mostGainFrom l D cA L T r hG hLA.1 σ ρ hB.2.1 _ h0 mh0 th0 h1 mh1 th1 p2 (by first | omega | decide) (by first | omega | decide)) (cV hts mv_X1_mostGainFrom mw_5_85 rfl rfl ⟨Nat.le_of_ble_eq_true rfl, Nat.le_of_ble_eq_true rfl⟩) (pV hB.1 hK hN mh0 th0 (show shp cA 1 _ _ _ = .inr (1, Fs1 _ _ _) from rfl) rfl) rfl rfl hl.1 rfl (lv_room (Nat.le_of_ble_eq_true rfl)) dX1_pickFrom_49 ⟨Nat.le_of_ble_eq_true rfl, Nat.le_of_ble_eq_true rfl⟩) hLA hA hB hS (by decide) (fun x_6 σ_4 ρ_5 H locs hB fσ_4 pσ_4 hS => ?_)
    have qσ_4 := FR.nil fσ_4
    subst qσ_4
    refine lv_imul hx hb dX1_pickFrom_52 ?_
    refine lv_topi (fun x_7 ex_7 => ?_)
    refine lv_iadd hx hb dX1_pickFrom_53 ?_
    refine lv_topi (fun x_8 ex_8 => ?_)
    refine lv_aload_n hx hb dX1_pickFrom_54 rfl (lv_at hl 0 rfl) ?_
    refine t_gi hx hb hts hown hK hB mh0 th0 fi_1_4 rfl mw_2_130 dX1_pickFrom_55 (fun x_9 ex_9 lx_9 ux_9 => ?_)
    refine lv_icmp_gt (tgt := 62) hx hb dX1_pickFrom_58 (by decide) (fun c_10 => ?_) (fun c_10 => ?_)
    · skip
      have uc_10 := j_lt c_10
      refine lv_aload_n hx hb dX1_pickFrom_62 rfl (lv_at hl 1 rfl) ?_
      refine t_gr hx hb hts hown hK hG hB mh1 th1 fq_3_0 rfl mw_1_132 dX1_pickFrom_63 (fun b_11 hb_11 mb_11 tb_11 => ?_)
      refine lv_iload_n hx hb dX1_pickFrom_66 rfl (lv_at hl 2 rfl) ?_
      refine t_ai hx hb hK hB mb_11 tb_11 ai_33 (fun _ => rfl) (i_in (by omega) (by omega)) dX1_pickFrom_67 (fun x_12 ex_12 lx_12 ux_12 => ?_)
      refine lv_istore (lv' := [(6, .int x_12), (0, .ref h0), (1, .ref h1), (2, .int p2), (3, .int p3), (4, .int p4), (5, .int p5)]) hx hb dX1_pickFrom_68 hl (by decide) rfl (fun ls hl => ?_)
      refine lv_iconst (v := 0) hx hb dX1_pickFrom_70 (by decide) ?_
      refine lv_istore (lv' := [(7, .int 0), (6, .int x_12), (0, .ref h0), (1, .ref h1), (2, .int p2), (3, .int p3), (4, .int p4), (5, .int p5)]) hx hb dX1_pickFrom_71 hl (by decide) rfl (fun ls hl => ?_)
      refine w_loop (α := Int32 × Sg × Lg) (fun (i_13, σ_14, ρ_15) H locs ls => 0 ≤ i_13.toInt ∧ i_13.toInt ≤ 1001 ∧ σ_14 h1 8 = x_1 ∧ TS D cA L T r ry [(1, 4), (26, 1000), (27, 1000)] σ σ_14 ρ_15 H ∧ va_S (dm L s.heap.size) s.heap H locs ∧ lv_has ls 8 [(7, .int i_13), (6, .int x_12), (0, .ref h0), (1, .ref h1), (2, .int p2), (3, .int p3), (4, .int p4), (5, .int p5)]) (fun (i_13, σ_14, ρ_15) => (1001 - i_13.toInt).toNat) ?_ ⟨0, σ, ρ_5⟩ ⟨(by decide), (by decide), ex_1.symm, hB, hS, lv_sub hl [0, 1, 2, 3, 4, 5, 6, 7] rfl⟩
      rintro ⟨i_13, σ_14, ρ_15⟩ H locs ls ⟨li_13, ui_13, k_17, hB, hS, hl⟩ ih_16
      refine lv_iload hx hb dX1_pickFrom_73 (lv_at hl 0 rfl) ?_
      refine lv_aload_n hx hb dX1_pickFrom_75 rfl (lv_at hl 2 rfl) ?_
      refine t_gr hx hb hts hown hK hG hB mh0 th0 fq_1_0 rfl mw_2_125 dX1_pickFrom_76 (fun b_18 hb_18 mb_18 tb_18 => ?_)
      refine lv_iload_n hx hb dX1_pickFrom_79 rfl (lv_at hl 4 rfl) ?_
      refine t_ai hx hb hK hB mb_18 tb_18 ai_24 (fun _ => rfl) (i_in (by omega) (by omega)) dX1_pickFrom_80 (fun x_19 ex_19 lx_19 ux_19 => ?_)
      refine lv_icmp_gt (tgt := 146) hx hb dX1_pickFrom_81 (by decide) (fun c_20 => ?_) (fun c_20 => ?_)
      · skip
        have uc_20 := j_lt c_20
        exact W.vret hx hb hr (fun t ht hW => ⟨⟨(σ_14, ρ_15), rfl, ⟨hB.2.1, hB.2.2, trivial⟩, (show TP D cA L T r σ_14 ρ_15 t.heap from by rw [ht]; exact hB.1)⟩, hS.F ht⟩) hS.2.2 dX1_pickFrom_146
      · skip
        have uc_20 := j_nlt c_20
        refine lv_iload hx hb dX1_pickFrom_84 (lv_at hl 0 rfl) ?_
        refine lv_iload hx hb dX1_pickFrom_86 (lv_at hl 6 rfl) ?_
        refine lv_icmp_gt (tgt := 146) hx hb dX1_pickFrom_88 (by decide) (fun c_21 => ?_) (fun c_21 => ?_)
        · skip
          have uc_21 := j_lt c_21
          exact W.vret hx hb hr (fun t ht hW => ⟨⟨(σ_14, ρ_15), rfl, ⟨hB.2.1, hB.2.2, trivial⟩, (show TP D cA L T r σ_14 ρ_15 t.heap from by rw [ht]; exact hB.1)⟩, hS.F ht⟩) hS.2.2 dX1_pickFrom_146
        · skip
          have uc_21 := j_nlt c_21
          refine lv_iload hx hb dX1_pickFrom_91 (lv_at hl 0 rfl) ?_
          refine lv_iload hx hb dX1_pickFrom_93 (lv_at hl 1 rfl) ?_
          refine lv_imul hx hb dX1_pickFrom_95 ?_
          refine lv_topi (fun x_22 ex_22 => ?_)
          refine lv_iload_n hx hb dX1_pickFrom_96 rfl (lv_at hl 5 rfl) ?_
          refine lv_icmp_gt (tgt := 146) hx hb dX1_pickFrom_97 (by decide) (fun c_23 => ?_) (fun c_23 => ?_)
          · skip
            have uc_23 := j_lt c_23
            exact W.vret hx hb hr (fun t ht hW => ⟨⟨(σ_14, ρ_15), rfl, ⟨hB.2.1, hB.2.2, trivial⟩, (show TP D cA L T r σ_14 ρ_15 t.heap from by rw [ht]; exact hB.1)⟩, hS.F ht⟩) hS.2.2 dX1_pickFrom_146
          · skip
            have uc_23 := j_nlt c_23
            refine lv_aload_n hx hb dX1_pickFrom_100 rfl (lv_at hl 2 rfl) ?_
            refine t_gr hx hb hts hown hK hG hB mh0 th0 fq_1_2 rfl mw_2_127 dX1_pickFrom_101 (fun b_24 hb_24 mb_24 tb_24 => ?_)
            refine lv_iload_n hx hb dX1_pickFrom_104 rfl (lv_at hl 4 rfl) ?_
            refine lv_iload hx hb dX1_pickFrom_105 (lv_at hl 0 rfl) ?_
            refine t_si hx hb hK hLA hB hS mb_24 tb_24 ai_26 (i_in (by omega) (by omega)) (i_lo _) (i_hi _) (Or.inr (by decide)) dX1_pickFrom_107 (fun H locs σ_25 eσ_25 hB hS => ?_)
            have k_26 : σ_25 b_24 p2.toNatClampNeg = i_13 := by rw [eσ_25]; exact up2_same _ _ _ _
            refine lv_aload_n hx hb dX1_pickFrom_108 rfl (lv_at hl 2 rfl) ?_
            refine lv_aload_n hx hb dX1_pickFrom_109 rfl (lv_at hl 3 rfl) ?_
            refine lv_iload_n hx hb dX1_pickFrom_110 rfl (lv_at hl 4 rfl) ?_
            refine lv_iconst (v := 1) hx hb dX1_pickFrom_111 (by decide) ?_
            refine lv_iadd hx hb dX1_pickFrom_112 ?_
            refine lv_topi (fun x_27 ex_27 => ?_)
            have vx_27 := b_add (rfl : p2.toInt = _) (by decide : (1 : Int32).toInt = 1) ex_27 (by omega) (by omega)
            refine lv_iload_n hx hb dX1_pickFrom_113 rfl (lv_at hl 5 rfl) ?_
            refine lv_iload hx hb dX1_pickFrom_114 (lv_at hl 0 rfl) ?_
            refine lv_iload hx hb dX1_pickFrom_116 (lv_at hl 1 rfl) ?_
            refine lv_imul hx hb dX1_pickFrom_118 ?_
            refine lv_topi (fun x_28 ex_28 => ?_)
            refine lv_isub hx hb dX1_pickFrom_119 ?_
            refine lv_topi (fun x_29 ex_29 => ?_)
            refine lv_iload hx hb dX1_pickFrom_120 (lv_at hl 6 rfl) ?_
            refine lv_iload hx hb dX1_pickFrom_122 (lv_at hl 0 rfl) ?_
            refine lv_isub hx hb dX1_pickFrom_124 ?_
            refine lv_topi (fun x_30 ex_30 => ?_)
            have vx_30 := b_sub (rfl : p4.toInt = _) (rfl : i_13.toInt = _) ex_30 (by omega) (by omega)
            refine lv_iload hx hb dX1_pickFrom_125 (lv_at hl 7 rfl) ?_
            refine lv_iload hx hb dX1_pickFrom_127 (lv_at hl 0 rfl) ?_
            refine lv_aload_n hx hb dX1_pickFrom_129 rfl (lv_at hl 2 rfl) ?_
            refine t_gr hx hb hts hown hK hG hB mh0 th0 fq_1_1 rfl mw_2_126 dX1_pickFrom_130 (fun b_31 hb_31 mb_31 tb_31 => ?_)
            refine lv_iload_n hx hb dX1_pickFrom_133 rfl (lv_at hl 4 rfl) ?_
            refine t_ai hx hb hK hB mb_31 tb_31 ai_25 (fun _ => rfl) (i_in (by omega) (by omega)) dX1_pickFrom_134 (fun x_32 ex_32 lx_32 ux_32 => ?_)
            refine lv_imul hx hb dX1_pickFrom_135 ?_
            refine lv_topi (fun x_33 ex_33 => ?_)
            refine lv_iadd hx hb dX1_pickFrom_136 ?_
            refine lv_topi (fun x_34 ex_34 => ?_)
            refine t_cv (va_runV (As := [.ref h1, .int x_27, .int x_29, .int x_30, .int x_34]) (rest := []) ⟨hx, hb, hml, hown, hts⟩ (cy_X1_pickFrom_4 l D cA L T r hG hLA.1 σ_25 ρ_15 hB.2.1 _ h0 mh0 th0 h1 mh1 th1 x_27 x_29 x_30 x_34 (by first | omega | decide) (by first | omega | decide)) (cV hts mv_X1_pickFrom mw_5_80 rfl rfl ⟨Nat.le_of_ble_eq_true rfl, Nat.le_of_ble_eq_true rfl⟩) (pV hB.1 hK hN mh0 th0 (show shp cA 1 _ _ _ = .inr (1, Fs1 _ _ _) from rfl) rfl) rfl rfl hl.1 rfl (lv_room (Nat.le_of_ble_eq_true rfl)) dX1_pickFrom_137 ⟨Nat.le_of_ble_eq_true rfl, Nat.le_of_ble_eq_true rfl⟩) hLA hA hB hS (by decide) (fun σ_35 ρ_36 H locs hB fσ_35 pσ_35 hS => ?_)
            obtain ⟨x_38, ex_38⟩ : ∃ y : Int32, y = i_13 + 1 := ⟨_, rfl⟩
            have vx_38 := b_add (rfl : i_13.toInt = _) (by decide : (1 : Int32).toInt = 1) ex_38 (by omega) (by omega)
            refine lv_iinc (v := x_38) (lv' := [(7, .int x_38), (6, .int x_12), (0, .ref h0), (1, .ref h1), (2, .int p2), (3, .int p3), (4, .int p4), (5, .int p5)]) hx hb dX1_pickFrom_140 hl (k := 0) rfl (by rw [ex_38]; rfl) (by decide) rfl (fun ls hl => ?_)
            refine lv_goto (tgt := 73) hx hb dX1_pickFrom_143 (by decide) ?_
            have k_39 : σ_25 h1 8 = x_1 := by rw [eσ_25, up2_nea _ _ (tg_ne th1 tb_24 (by decide))]; exact k_17
            have k_40 : σ_35 h1 8 = x_1 := (FR.at fσ_35 th1 (by decide)).trans k_39
            exact ih_16 ⟨x_38, σ_35, ρ_36⟩ _ _ _ ⟨(by omega), (by omega), k_40, hB, hS, lv_sub hl [0, 1, 2, 3, 4, 5, 6, 7] rfl⟩ (by show (1001 - x_38.toInt).toNat < (1001 - i_13.toInt).toNat; omega)
    · skip
      have uc_10 := j_nlt c_10
      exact W.vret hx hb hr (fun t ht hW => ⟨⟨(σ, ρ_5), rfl, ⟨hB.2.1, hB.2.2, trivial⟩, (show TP D cA L T r σ ρ_5 t.heap from by rw [ht]; exact hB.1)⟩, hS.F ht⟩) hS.2.2 dX1_pickFrom_61
  · skip
    have uc_2 := j_nlt c_2
    refine lv_iload hx hb dX1_pickFrom_8 (lv_at hl 5 rfl) ?_
    refine lv_aload_n hx hb dX1_pickFrom_10 rfl (lv_at hl 0 rfl) ?_
    refine t_gi hx hb hts hown hK hB mh0 th0 fi_1_4 rfl mw_2_130 dX1_pickFrom_11 (fun x_41 ex_41 lx_41 ux_41 => ?_)
    refine lv_icmp_le (tgt := 37) hx hb dX1_pickFrom_14 (by decide) (fun c_42 => ?_) (fun c_42 => ?_)
    · skip
      have uc_42 := j_le c_42
      exact W.vret hx hb hr (fun t ht hW => ⟨⟨(σ, ρ), rfl, ⟨hB.2.1, hB.2.2, trivial⟩, (show TP D cA L T r σ ρ t.heap from by rw [ht]; exact hB.1)⟩, hS.F ht⟩) hS.2.2 dX1_pickFrom_37
    · skip
      have uc_42 := j_nle c_42
      refine lv_aload_n hx hb dX1_pickFrom_17 rfl (lv_at hl 0 rfl) ?_
      refine lv_iload hx hb dX1_pickFrom_18 (lv_at hl 5 rfl) ?_
      refine t_pi hx hb hts hown hK hLA hB hS mh0 th0 fi_1_4 rfl rfl rfl (i_lo _) (i_hi _) (Or.inl (by decide)) mw_2_130 dX1_pickFrom_20 (fun H locs σ_43 eσ_43 hB hS => ?_)
      have k_44 : σ_43 h0 4 = p5 := by rw [eσ_43]; exact up2_same _ _ _ _
      refine lv_aload_n hx hb dX1_pickFrom_23 rfl (lv_at hl 0 rfl) ?_
      refine t_gr hx hb hts hown hK hG hB mh0 th0 fq_1_2 rfl mw_2_127 dX1_pickFrom_24 (fun b_45 hb_45 mb_45 tb_45 => ?_)
      refine lv_iconst (v := 0) hx hb dX1_pickFrom_27 (by decide) ?_
      refine lv_aload_n hx hb dX1_pickFrom_28 rfl (lv_at hl 0 rfl) ?_
      refine t_gr hx hb hts hown hK hG hB mh0 th0 fq_1_3 rfl mw_2_128 dX1_pickFrom_29 (fun b_46 hb_46 mb_46 tb_46 => ?_)
      refine lv_iconst (v := 0) hx hb dX1_pickFrom_32 (by decide) ?_
      refine lv_iconst (v := 5) hx hb dX1_pickFrom_33 (by decide) ?_
      refine t_cp (lo := (-2147483648)) (hi := 2147483647) hx hb (hml.trans hl.1.symm) hts hown mw_5_84 ⟨mw_3_239, mw_3_238, mw_1_20⟩ hK hLA hB hS mb_45 tb_45 ai_26 mb_46 tb_46 ai_27 (fun _ => ⟨show ((-2147483648) : Int) ≤ (-2147483648) by decide, show (2147483647 : Int) ≤ 2147483647 by decide⟩) (fun _ => rfl) (by decide) (by decide) (by decide) (by decide) (by decide) (by decide) (Nat.le_of_ble_eq_true rfl) (Nat.le_of_ble_eq_true rfl) dX1_pickFrom_34 (fun H locs σ_47 eσ_47 hB hS => ?_)
      exact W.vret hx hb hr (fun t ht hW => ⟨⟨(σ_47, ρ), rfl, ⟨hB.2.1, hB.2.2, trivial⟩, (show TP D cA L T r σ_47 ρ t.heap from by rw [ht]; exact hB.1)⟩, hS.F ht⟩) hS.2.2 dX1_pickFrom_37
theorem mw_1_90 : (.fieldLink RX1 49 "HillBends$Scene" "left" "[I" : Cond) ∈ wsA := wsA_t (List.mem_append_left _ (List.mem_of_getElem? (l := tables_1_1) (i := 90) rfl)) rfl
theorem mw_1_93 : (.fieldLink RX1 54 "HillBends$Scene" "taken" "[I" : Cond) ∈ wsA := wsA_t (List.mem_append_left _ (List.mem_of_getElem? (l := tables_1_1) (i := 93) rfl)) rfl
theorem mw_1_166 : (.fieldLink RX1 57 "HillBends$Hill" "burden" "I" : Cond) ∈ wsA := wsA_t (List.mem_append_left _ (List.mem_of_getElem? (l := tables_1_1) (i := 166) rfl)) rfl
theorem mw_5_79 : (.methodLink RX1 60 yX8_weightOf : Cond) ∈ wsA := wsA_t (List.mem_append_right _ (List.mem_append_right _ (List.mem_append_right _ (List.mem_append_right _ (List.mem_append_left _ (List.mem_of_getElem? (l := tables_1_5) (i := 79) rfl)))))) rfl
theorem mw_5_76 : (.static yX1_mostOf : Cond) ∈ wsA := wsA_t (List.mem_append_right _ (List.mem_append_right _ (List.mem_append_right _ (List.mem_append_right _ (List.mem_append_left _ (List.mem_of_getElem? (l := tables_1_5) (i := 76) rfl)))))) rfl
theorem mw_5_77 : (.code yX1_mostOf cX1_mostOf 5 (some .int) : Cond) ∈ wsA := wsA_t (List.mem_append_right _ (List.mem_append_right _ (List.mem_append_right _ (List.mem_append_right _ (List.mem_append_left _ (List.mem_of_getElem? (l := tables_1_5) (i := 77) rfl)))))) rfl
theorem mw_5_75 : (.methodLink RX1 42 yX1_mostOf : Cond) ∈ wsA := wsA_t (List.mem_append_right _ (List.mem_append_right _ (List.mem_append_right _ (List.mem_append_right _ (List.mem_append_left _ (List.mem_of_getElem? (l := tables_1_5) (i := 75) rfl)))))) rfl
theorem dX1_pickDownwards_0 : decode cX1_pickDownwards 0 = .ok (.iconst 0, 1) := by decide +kernel
theorem dX1_pickDownwards_1 : decode cX1_pickDownwards 1 = .ok (.istore 4, 2) := by decide +kernel
theorem dX1_pickDownwards_3 : decode cX1_pickDownwards 3 = .ok (.iload 4, 2) := by decide +kernel
theorem dX1_pickDownwards_5 : decode cX1_pickDownwards 5 = .ok (.iconst 5, 1) := by decide +kernel
theorem dX1_pickDownwards_6 : decode cX1_pickDownwards 6 = .ok (.if_icmp .ge 25, 3) := by decide +kernel
theorem dX1_pickDownwards_31 : decode cX1_pickDownwards 31 = .ok (.iconst 0, 1) := by decide +kernel
theorem dX1_pickDownwards_32 : decode cX1_pickDownwards 32 = .ok (.istore 4, 2) := by decide +kernel
theorem dX1_pickDownwards_34 : decode cX1_pickDownwards 34 = .ok (.iload 4, 2) := by decide +kernel
theorem dX1_pickDownwards_36 : decode cX1_pickDownwards 36 = .ok (.aload_n 1, 1) := by decide +kernel
theorem dX1_pickDownwards_37 : decode cX1_pickDownwards 37 = .ok (.getfield 33, 3) := by decide +kernel
theorem dX1_pickDownwards_40 : decode cX1_pickDownwards 40 = .ok (.if_icmp .ge 56, 3) := by decide +kernel
theorem dX1_pickDownwards_96 : decode cX1_pickDownwards 96 = .ok (.aload_n 0, 1) := by decide +kernel
theorem dX1_pickDownwards_97 : decode cX1_pickDownwards 97 = .ok (.iconst 0, 1) := by decide +kernel
theorem dX1_pickDownwards_98 : decode cX1_pickDownwards 98 = .ok (.putfield 46, 3) := by decide +kernel
theorem dX1_pickDownwards_101 : decode cX1_pickDownwards 101 = .ok (.aload_n 2, 1) := by decide +kernel
theorem dX1_pickDownwards_102 : decode cX1_pickDownwards 102 = .ok (.getfield 49, 3) := by decide +kernel
theorem dX1_pickDownwards_105 : decode cX1_pickDownwards 105 = .ok (.iload_n 3, 1) := by decide +kernel
theorem dX1_pickDownwards_106 : decode cX1_pickDownwards 106 = .ok (.iaload, 1) := by decide +kernel
theorem dX1_pickDownwards_107 : decode cX1_pickDownwards 107 = .ok (.aload_n 2, 1) := by decide +kernel
theorem dX1_pickDownwards_108 : decode cX1_pickDownwards 108 = .ok (.getfield 54, 3) := by decide +kernel
theorem dX1_pickDownwards_111 : decode cX1_pickDownwards 111 = .ok (.iload_n 3, 1) := by decide +kernel
theorem dX1_pickDownwards_112 : decode cX1_pickDownwards 112 = .ok (.iaload, 1) := by decide +kernel
theorem dX1_pickDownwards_113 : decode cX1_pickDownwards 113 = .ok (.isub, 1) := by decide +kernel
theorem dX1_pickDownwards_114 : decode cX1_pickDownwards 114 = .ok (.istore 4, 2) := by decide +kernel
theorem dX1_pickDownwards_116 : decode cX1_pickDownwards 116 = .ok (.aload_n 0, 1) := by decide +kernel
theorem dX1_pickDownwards_117 : decode cX1_pickDownwards 117 = .ok (.aload_n 1, 1) := by decide +kernel
theorem dX1_pickDownwards_118 : decode cX1_pickDownwards 118 = .ok (.iconst 0, 1) := by decide +kernel
theorem dX1_pickDownwards_119 : decode cX1_pickDownwards 119 = .ok (.aload_n 1, 1) := by decide +kernel
theorem dX1_pickDownwards_120 : decode cX1_pickDownwards 120 = .ok (.getfield 57, 3) := by decide +kernel
theorem dX1_pickDownwards_123 : decode cX1_pickDownwards 123 = .ok (.aload_n 2, 1) := by decide +kernel
theorem dX1_pickDownwards_124 : decode cX1_pickDownwards 124 = .ok (.aload_n 1, 1) := by decide +kernel
theorem dX1_pickDownwards_125 : decode cX1_pickDownwards 125 = .ok (.iload_n 3, 1) := by decide +kernel
theorem dX1_pickDownwards_126 : decode cX1_pickDownwards 126 = .ok (.invokevirtual 60, 3) := by decide +kernel
theorem dX1_pickDownwards_129 : decode cX1_pickDownwards 129 = .ok (.isub, 1) := by decide +kernel
theorem dX1_pickDownwards_130 : decode cX1_pickDownwards 130 = .ok (.iload 4, 2) := by decide +kernel
theorem dX1_pickDownwards_132 : decode cX1_pickDownwards 132 = .ok (.iconst 0, 1) := by decide +kernel
theorem dX1_pickDownwards_133 : decode cX1_pickDownwards 133 = .ok (.invokevirtual 64, 3) := by decide +kernel
theorem dX1_pickDownwards_136 : decode cX1_pickDownwards 136 = .ok (.return_, 1) := by decide +kernel
theorem dX1_pickDownwards_43 : decode cX1_pickDownwards 43 = .ok (.aload_n 0, 1) := by decide +kernel
theorem dX1_pickDownwards_44 : decode cX1_pickDownwards 44 = .ok (.getfield 15, 3) := by decide +kernel
theorem dX1_pickDownwards_47 : decode cX1_pickDownwards 47 = .ok (.iload 4, 2) := by decide +kernel
theorem dX1_pickDownwards_49 : decode cX1_pickDownwards 49 = .ok (.aload_n 1, 1) := by decide +kernel
theorem dX1_pickDownwards_50 : decode cX1_pickDownwards 50 = .ok (.getfield 39, 3) := by decide +kernel
theorem dX1_pickDownwards_53 : decode cX1_pickDownwards 53 = .ok (.iload 4, 2) := by decide +kernel
theorem dX1_pickDownwards_55 : decode cX1_pickDownwards 55 = .ok (.iaload, 1) := by decide +kernel
theorem dX1_pickDownwards_56 : decode cX1_pickDownwards 56 = .ok (.bipush 64, 2) := by decide +kernel
theorem dX1_pickDownwards_58 : decode cX1_pickDownwards 58 = .ok (.imul, 1) := by decide +kernel
theorem dX1_pickDownwards_59 : decode cX1_pickDownwards 59 = .ok (.iconst 1, 1) := by decide +kernel
theorem dX1_pickDownwards_60 : decode cX1_pickDownwards 60 = .ok (.isub, 1) := by decide +kernel
theorem dX1_pickDownwards_61 : decode cX1_pickDownwards 61 = .ok (.iastore, 1) := by decide +kernel
theorem dX1_pickDownwards_62 : decode cX1_pickDownwards 62 = .ok (.aload_n 0, 1) := by decide +kernel
theorem dX1_pickDownwards_63 : decode cX1_pickDownwards 63 = .ok (.getfield 9, 3) := by decide +kernel
theorem dX1_pickDownwards_66 : decode cX1_pickDownwards 66 = .ok (.iload 4, 2) := by decide +kernel
theorem dX1_pickDownwards_68 : decode cX1_pickDownwards 68 = .ok (.aload_n 1, 1) := by decide +kernel
theorem dX1_pickDownwards_69 : decode cX1_pickDownwards 69 = .ok (.getfield 39, 3) := by decide +kernel
theorem dX1_pickDownwards_72 : decode cX1_pickDownwards 72 = .ok (.iload 4, 2) := by decide +kernel
theorem dX1_pickDownwards_74 : decode cX1_pickDownwards 74 = .ok (.iaload, 1) := by decide +kernel
theorem dX1_pickDownwards_75 : decode cX1_pickDownwards 75 = .ok (.ifCond .le 13, 3) := by decide +kernel
theorem dX1_pickDownwards_88 : decode cX1_pickDownwards 88 = .ok (.iconst 0, 1) := by decide +kernel
theorem dX1_pickDownwards_89 : decode cX1_pickDownwards 89 = .ok (.iastore, 1) := by decide +kernel
theorem dX1_pickDownwards_90 : decode cX1_pickDownwards 90 = .ok (.iinc 4 1, 3) := by decide +kernel
theorem dX1_pickDownwards_93 : decode cX1_pickDownwards 93 = .ok (.goto (-59), 3) := by decide +kernel
theorem dX1_pickDownwards_78 : decode cX1_pickDownwards 78 = .ok (.aload_n 2, 1) := by decide +kernel
theorem dX1_pickDownwards_79 : decode cX1_pickDownwards 79 = .ok (.iload_n 3, 1) := by decide +kernel
theorem dX1_pickDownwards_80 : decode cX1_pickDownwards 80 = .ok (.iload 4, 2) := by decide +kernel
theorem dX1_pickDownwards_82 : decode cX1_pickDownwards 82 = .ok (.invokestatic 42, 3) := by decide +kernel
theorem dX1_pickDownwards_85 : decode cX1_pickDownwards 85 = .ok (.goto 4, 3) := by decide +kernel
theorem dX1_pickDownwards_9 : decode cX1_pickDownwards 9 = .ok (.aload_n 0, 1) := by decide +kernel
theorem dX1_pickDownwards_10 : decode cX1_pickDownwards 10 = .ok (.getfield 21, 3) := by decide +kernel
theorem dX1_pickDownwards_13 : decode cX1_pickDownwards 13 = .ok (.iload 4, 2) := by decide +kernel
theorem dX1_pickDownwards_15 : decode cX1_pickDownwards 15 = .ok (.iconst 0, 1) := by decide +kernel
theorem dX1_pickDownwards_16 : decode cX1_pickDownwards 16 = .ok (.iastore, 1) := by decide +kernel
theorem dX1_pickDownwards_17 : decode cX1_pickDownwards 17 = .ok (.aload_n 0, 1) := by decide +kernel
theorem dX1_pickDownwards_18 : decode cX1_pickDownwards 18 = .ok (.getfield 18, 3) := by decide +kernel
theorem dX1_pickDownwards_21 : decode cX1_pickDownwards 21 = .ok (.iload 4, 2) := by decide +kernel
theorem dX1_pickDownwards_23 : decode cX1_pickDownwards 23 = .ok (.iconst 0, 1) := by decide +kernel
theorem dX1_pickDownwards_24 : decode cX1_pickDownwards 24 = .ok (.iastore, 1) := by decide +kernel
theorem dX1_pickDownwards_25 : decode cX1_pickDownwards 25 = .ok (.iinc 4 1, 3) := by decide +kernel
theorem dX1_pickDownwards_28 : decode cX1_pickDownwards 28 = .ok (.goto (-25), 3) := by decide +kernel
theorem ms_X1_mostOf : MS RX1 yX1_mostOf cX1_mostOf 5 (some .int) 3 := ⟨mw_5_76, mw_1_10, mw_5_77, ⟨rfl, by decide, by decide, by decide +kernel⟩⟩
set_option maxHeartbeats 4000000 in
set_option maxRecDepth 100000 in
theorem cy_X1_pickDownwards (l : Launch) (D : va_G) (cA : Nat → ClassId) (L : List Nat) (T : Nat → Nat) (r : Rg) (hG : GR L T r) (hL : L.Nodup) (σ : Sg) (ρ : Lg) (hW : WT L ry T σ) (sz : Nat) (h0 : Nat) (mh0 : h0 ∈ L) (th0 : T h0 = 1) (h1 : Nat) (mh1 : h1 ∈ L) (th1 : T h1 = 3) (h2 : Nat) (mh2 : h2 ∈ L) (th2 : T h2 = 8) (p3 : Int32) (w0 : 0 ≤ p3.toInt) (w1 : p3.toInt ≤ 3) : Met l yX1_pickDownwards (.code yX1_pickDownwards cX1_pickDownwards 5 none :: wsA) ({ frames := 7, cells := 0, slots := 0, locals := 262 }) (PR D cA L T r σ ρ sz [.ref h0, .ref h1, .ref h2, .int p3]) (QV D cA L T r ry [(1, 4), (24, 1000), (25, 1000), (26, 1000), (27, 1000)] σ sz (fun σ1 => True)) 0 0 (dm L sz) := by
  refine Met.ofW (cc := cX1_pickDownwards) (maxL := 5) (ret := none) (by decide) rfl ?_
  intro p e s m args below meth c s₁ B hml hv
  obtain ⟨rfl, hsz, hP, hK, hN⟩ := hv
  have hx := B.exec
  have hb := B.bytes
  have hr := B.returns
  have hts : ∀ w ∈ wsA, w.before _ s = true := fun w h => atoms_spec (ws := .code yX1_pickDownwards cX1_pickDownwards 5 none :: wsA) B.pre w (List.mem_cons_of_mem _ h)
  have hown : s.vm.findClass RX1 = some m.cls := findClass_of_methodNamed B.named
  subst hsz
  have hLA : LA (dm L s.heap.size) L := ⟨hL, fun a h => Or.inl h⟩
  have hA : ∀ q : Nat, s.heap.size ≤ q → dm L s.heap.size q := fun q h => Or.inr h
  have hS : va_S (dm L s.heap.size) s.heap s.heap [] := va_S.rf
  have hB : TS D cA L T r ry [(1, 4), (24, 1000), (25, 1000), (26, 1000), (27, 1000)] σ σ ρ s.heap := ⟨hP, hW, FR.rf⟩
  have hl := lv_entry ([.ref h0, .ref h1, .ref h2, .int p3]) (n := 5) (Nat.le_of_ble_eq_true rfl)
  rw [lg_entry_eq]
  generalize (lg_sl ([.ref h0, .ref h1, .ref h2, .int p3]) ++ List.replicate (5 - (lg_sl ([.ref h0, .ref h1, .ref h2, .int p3])).length) Slot.unset).toArray = ls at hl ⊢
  have hl : lv_has ls 5 [(0, .ref h0), (1, .ref h1), (2, .ref h2), (3, .int p3)] := hl
  refine lv_iconst (v := 0) hx hb dX1_pickDownwards_0 (by decide) ?_
  refine lv_istore (lv' := [(4, .int 0), (0, .ref h0), (1, .ref h1), (2, .ref h2), (3, .int p3)]) hx hb dX1_pickDownwards_1 hl (by decide) rfl (fun ls hl => ?_)
  refine w_loop (α := Int32 × Sg × Lg) (fun (i_1, σ_2, ρ_3) H locs ls => 0 ≤ i_1.toInt ∧ i_1.toInt ≤ 5 ∧ TS D cA L T r ry [(1, 4), (24, 1000), (25, 1000), (26, 1000), (27, 1000)] σ σ_2 ρ_3 H ∧ va_S (dm L s.heap.size) s.heap H locs ∧ lv_has ls 5 [(4, .int i_1), (0, .ref h0), (1, .ref h1), (2, .ref h2), (3, .int p3)]) (fun (i_1, σ_2, ρ_3) => (5 - i_1.toInt).toNat) ?_ ⟨0, σ, ρ⟩ ⟨(by decide), (by decide), hB, hS, lv_sub hl [0, 1, 2, 3, 4] rfl⟩
  rintro ⟨i_1, σ_2, ρ_3⟩ H locs ls ⟨li_1, ui_1, hB, hS, hl⟩ ih_4
  refine lv_iload hx hb dX1_pickDownwards_3 (lv_at hl 0 rfl) ?_
  refine lv_iconst (v := 5) hx hb dX1_pickDownwards_5 (by decide) ?_
  refine lv_icmp_ge (tgt := 31) hx hb dX1_pickDownwards_6 (by decide) (fun c_5 => ?_) (fun c_5 => ?_)
  · skip
    have uc_5 := i_ge (n := 5) (by decide) c_5
    refine lv_iconst (v := 0) hx hb dX1_pickDownwards_31 (by decide) ?_
    refine lv_istore (lv' := [(4, .int 0), (0, .ref h0), (1, .ref h1), (2, .ref h2), (3, .int p3)]) hx hb dX1_pickDownwards_32 hl (by decide) rfl (fun ls hl => ?_)
    refine w_loop (α := Int32 × Sg × Lg) (fun (i_6, σ_7, ρ_8) H locs ls => 0 ≤ i_6.toInt ∧ i_6.toInt ≤ 5 ∧ TS D cA L T r ry [(1, 4), (24, 1000), (25, 1000), (26, 1000), (27, 1000)] σ σ_7 ρ_8 H ∧ va_S (dm L s.heap.size) s.heap H locs ∧ lv_has ls 5 [(4, .int i_6), (0, .ref h0), (1, .ref h1), (2, .ref h2), (3, .int p3)]) (fun (i_6, σ_7, ρ_8) => (5 - i_6.toInt).toNat) ?_ ⟨0, σ_2, ρ_3⟩ ⟨(by decide), (by decide), hB, hS, lv_sub hl [0, 1, 2, 3, 4] rfl⟩
    rintro ⟨i_6, σ_7, ρ_8⟩ H locs ls ⟨li_6, ui_6, hB, hS, hl⟩ ih_9
    refine lv_iload hx hb dX1_pickDownwards_34 (lv_at hl 0 rfl) ?_
    refine lv_aload_n hx hb dX1_pickDownwards_36 rfl (lv_at hl 2 rfl) ?_
    refine t_gi hx hb hts hown hK hB mh1 th1 fi_3_8 rfl mw_1_172 dX1_pickDownwards_37 (fun x_10 ex_10 lx_10 ux_10 => ?_)
    have cx_10 := congrArg Int32.toInt ex_10
    refine lv_icmp_ge (tgt := 96) hx hb dX1_pickDownwards_40 (by decide) (fun c_11 => ?_) (fun c_11 => ?_)
    · skip
      have uc_11 := j_le c_11
      refine lv_aload_n hx hb dX1_pickDownwards_96 rfl (lv_at hl 1 rfl) ?_
      refine lv_iconst (v := 0) hx hb dX1_pickDownwards_97 (by decide) ?_
      refine t_pi hx hb hts hown hK hLA hB hS mh0 th0 fi_1_4 rfl rfl rfl (i_lo _) (i_hi _) (Or.inl (by decide)) mw_2_130 dX1_pickDownwards_98 (fun H locs σ_12 eσ_12 hB hS => ?_)
      have k_13 : σ_12 h0 4 = 0 := by rw [eσ_12]; exact up2_same _ _ _ _
      refine lv_aload_n hx hb dX1_pickDownwards_101 rfl (lv_at hl 3 rfl) ?_
      refine t_gr hx hb hts hown hK hG hB mh2 th2 fq_8_2 rfl mw_1_90 dX1_pickDownwards_102 (fun b_14 hb_14 mb_14 tb_14 => ?_)
      refine lv_iload_n hx hb dX1_pickDownwards_105 rfl (lv_at hl 4 rfl) ?_
      refine t_ai hx hb hK hB mb_14 tb_14 ai_47 (fun _ => rfl) (i_in (by omega) (by omega)) dX1_pickDownwards_106 (fun x_15 ex_15 lx_15 ux_15 => ?_)
      have cx_15 := congrArg Int32.toInt ex_15
      refine lv_aload_n hx hb dX1_pickDownwards_107 rfl (lv_at hl 3 rfl) ?_
      refine t_gr hx hb hts hown hK hG hB mh2 th2 fq_8_3 rfl mw_1_93 dX1_pickDownwards_108 (fun b_16 hb_16 mb_16 tb_16 => ?_)
      refine lv_iload_n hx hb dX1_pickDownwards_111 rfl (lv_at hl 4 rfl) ?_
      refine t_ai hx hb hK hB mb_16 tb_16 ai_48 (fun _ => rfl) (i_in (by omega) (by omega)) dX1_pickDownwards_112 (fun x_17 ex_17 lx_17 ux_17 => ?_)
      have cx_17 := congrArg Int32.toInt ex_17
      refine lv_isub hx hb dX1_pickDownwards_113 ?_
      refine lv_topi (fun x_18 ex_18 => ?_)
      try have vx_18 := b_sub (rfl : x_15.toInt = _) (rfl : x_17.toInt = _) ex_18 (by omega) (by omega)
      refine lv_istore (lv' := [(4, .int x_18), (0, .ref h0), (1, .ref h1), (2, .ref h2), (3, .int p3)]) hx hb dX1_pickDownwards_114 hl (by decide) rfl (fun ls hl => ?_)
      refine lv_aload_n hx hb dX1_pickDownwards_116 rfl (lv_at hl 1 rfl) ?_
      refine lv_aload_n hx hb dX1_pickDownwards_117 rfl (lv_at hl 2 rfl) ?_
      refine lv_iconst (v := 0) hx hb dX1_pickDownwards_118 (by decide) ?_
      refine lv_aload_n hx hb dX1_pickDownwards_119 rfl (lv_at hl 2 rfl) ?_
      refine t_gi hx hb hts hown hK hB mh1 th1 fi_3_7 rfl mw_1_166 dX1_pickDownwards_120 (fun x_19 ex_19 lx_19 ux_19 => ?_)
      have cx_19 := congrArg Int32.toInt ex_19
      refine lv_aload_n hx hb dX1_pickDownwards_123 rfl (lv_at hl 3 rfl) ?_
      refine lv_aload_n hx hb dX1_pickDownwards_124 rfl (lv_at hl 2 rfl) ?_
      refine lv_iload_n hx hb dX1_pickDownwards_125 rfl (lv_at hl 4 rfl) ?_
      refine t_ci (va_runV (As := [.ref h1, .int p3]) (rest := [.int x_19, .int 0, .ref h1, .ref h0]) ⟨hx, hb, hml, hown, hts⟩ (cy_X8_weightOf_8 l D cA L T r hG hLA.1 σ_12 ρ_8 hB.2.1 _ h2 mh2 th2 h1 mh1 th1 p3 (by first | omega | decide) (by first | omega | decide)) (cV hts mv_X8_weightOf mw_5_79 rfl rfl ⟨Nat.le_of_ble_eq_true rfl, Nat.le_of_ble_eq_true rfl⟩) (pV hB.1 hK hN mh2 th2 (show shp cA 8 _ _ _ = .inr (8, Fs8 _ _ _) from rfl) rfl) rfl rfl hl.1 rfl (lv_room (Nat.le_of_ble_eq_true rfl)) dX1_pickDownwards_126 ⟨Nat.le_of_ble_eq_true rfl, Nat.le_of_ble_eq_true rfl⟩) hLA hA hB hS (by decide) (fun x_22 σ_20 ρ_21 H locs hB fσ_20 pσ_20 hS => ?_)
      have qσ_20 := FR.nil fσ_20
      subst qσ_20
      refine lv_isub hx hb dX1_pickDownwards_129 ?_
      refine lv_topi (fun x_23 ex_23 => ?_)
      try have vx_23 := b_sub (rfl : x_19.toInt = _) (rfl : x_22.toInt = _) ex_23 (by omega) (by omega)
      refine lv_iload hx hb dX1_pickDownwards_130 (lv_at hl 0 rfl) ?_
      refine lv_iconst (v := 0) hx hb dX1_pickDownwards_132 (by decide) ?_
      refine t_cv (va_runV (As := [.ref h1, .int 0, .int x_23, .int x_18, .int 0]) (rest := []) ⟨hx, hb, hml, hown, hts⟩ (cy_X1_pickFrom_5 l D cA L T r hG hLA.1 σ_12 ρ_21 hB.2.1 _ h0 mh0 th0 h1 mh1 th1 0 x_23 x_18 0 (by first | omega | decide) (by first | omega | decide)) (cV hts mv_X1_pickFrom mw_5_80 rfl rfl ⟨Nat.le_of_ble_eq_true rfl, Nat.le_of_ble_eq_true rfl⟩) (pV hB.1 hK hN mh0 th0 (show shp cA 1 _ _ _ = .inr (1, Fs1 _ _ _) from rfl) rfl) rfl rfl hl.1 rfl (lv_room (Nat.le_of_ble_eq_true rfl)) dX1_pickDownwards_133 ⟨Nat.le_of_ble_eq_true rfl, Nat.le_of_ble_eq_true rfl⟩) hLA hA hB hS (by decide) (fun σ_24 ρ_25 H locs hB fσ_24 pσ_24 hS => ?_)
      exact W.vret hx hb hr (fun t ht hW => ⟨⟨(σ_24, ρ_25), rfl, ⟨hB.2.1, hB.2.2, trivial⟩, (show TP D cA L T r σ_24 ρ_25 t.heap from by rw [ht]; exact hB.1)⟩, hS.F ht⟩) hS.2.2 dX1_pickDownwards_136
    · skip
      have uc_11 := j_nle c_11
      refine lv_aload_n hx hb dX1_pickDownwards_43 rfl (lv_at hl 1 rfl) ?_
      refine t_gr hx hb hts hown hK hG hB mh0 th0 fq_1_1 rfl mw_2_126 dX1_pickDownwards_44 (fun b_27 hb_27 mb_27 tb_27 => ?_)
      refine lv_iload hx hb dX1_pickDownwards_47 (lv_at hl 0 rfl) ?_
      refine lv_aload_n hx hb dX1_pickDownwards_49 rfl (lv_at hl 2 rfl) ?_
      refine t_gr hx hb hts hown hK hG hB mh1 th1 fq_3_1 rfl mw_1_137 dX1_pickDownwards_50 (fun b_28 hb_28 mb_28 tb_28 => ?_)
      refine lv_iload hx hb dX1_pickDownwards_53 (lv_at hl 0 rfl) ?_
      refine t_ai hx hb hK hB mb_28 tb_28 ai_34 (fun _ => rfl) (i_in (by omega) (by omega)) dX1_pickDownwards_55 (fun x_29 ex_29 lx_29 ux_29 => ?_)
      have cx_29 := congrArg Int32.toInt ex_29
      refine lv_bipush (v := 64) hx hb dX1_pickDownwards_56 (by decide) ?_
      refine lv_imul hx hb dX1_pickDownwards_58 ?_
      refine lv_topi (fun x_30 ex_30 => ?_)
      try have vx_30 := b_mul (rfl : x_29.toInt = _) (by decide : (64 : Int32).toInt = 64) ex_30 (by omega) (by omega)
      refine lv_iconst (v := 1) hx hb dX1_pickDownwards_59 (by decide) ?_
      refine lv_isub hx hb dX1_pickDownwards_60 ?_
      refine lv_topi (fun x_31 ex_31 => ?_)
      try have vx_31 := b_sub (rfl : x_30.toInt = _) (by decide : (1 : Int32).toInt = 1) ex_31 (by omega) (by omega)
      refine t_si hx hb hK hLA hB hS mb_27 tb_27 ai_25 (i_in (by omega) (by omega)) (i_lo _) (i_hi _) (Or.inr (by decide)) dX1_pickDownwards_61 (fun H locs σ_32 eσ_32 hB hS => ?_)
      have k_33 : σ_32 b_27 i_6.toNatClampNeg = x_31 := by rw [eσ_32]; exact up2_same _ _ _ _
      refine lv_aload_n hx hb dX1_pickDownwards_62 rfl (lv_at hl 1 rfl) ?_
      refine t_gr hx hb hts hown hK hG hB mh0 th0 fq_1_0 rfl mw_2_125 dX1_pickDownwards_63 (fun b_34 hb_34 mb_34 tb_34 => ?_)
      refine lv_iload hx hb dX1_pickDownwards_66 (lv_at hl 0 rfl) ?_
      refine lv_aload_n hx hb dX1_pickDownwards_68 rfl (lv_at hl 2 rfl) ?_
      refine t_gk hx hb hts hown hK hB mh1 th1 fq_3_1 hb_28 mw_1_137 dX1_pickDownwards_69 ?_
      refine lv_iload hx hb dX1_pickDownwards_72 (lv_at hl 0 rfl) ?_
      have k_35 : σ_32 b_28 i_6.toNatClampNeg = x_29 := by rw [eσ_32, up2_nea _ _ (tg_ne tb_28 tb_27 (by decide))]; exact ex_29.symm
      refine t_ai hx hb hK hB mb_28 tb_28 ai_34 (fun _ => rfl) (i_in (by omega) (by omega)) dX1_pickDownwards_74 (fun x_36 ex_36 lx_36 ux_36 => ?_)
      have qx_36 : x_36 = x_29 := ex_36.trans k_35
      have qx_36 := qx_36.symm
      subst qx_36
      refine lv_if_le (tgt := 88) hx hb dX1_pickDownwards_75 (by decide) (fun c_37 => ?_) (fun c_37 => ?_)
      · skip
        have uc_37 := i_le (n := 0) (by decide) c_37
        refine lv_iconst (v := 0) hx hb dX1_pickDownwards_88 (by decide) ?_
        refine t_si hx hb hK hLA hB hS mb_34 tb_34 ai_24 (i_in (by omega) (by omega)) (show (-2147483648) ≤ (0 : Int32).toInt by decide) (show (0 : Int32).toInt ≤ 1000 by decide) (Or.inr (by decide)) dX1_pickDownwards_89 (fun H locs σ_38 eσ_38 hB hS => ?_)
        have k_39 : σ_38 b_34 i_6.toNatClampNeg = 0 := by rw [eσ_38]; exact up2_same _ _ _ _
        obtain ⟨x_40, ex_40⟩ : ∃ y : Int32, y = i_6 + 1 := ⟨_, rfl⟩
        have vx_40 := b_add (rfl : i_6.toInt = _) (by decide : (1 : Int32).toInt = 1) ex_40 (by omega) (by omega)
        refine lv_iinc (v := x_40) (lv' := [(4, .int x_40), (0, .ref h0), (1, .ref h1), (2, .ref h2), (3, .int p3)]) hx hb dX1_pickDownwards_90 hl (k := 0) rfl (by rw [ex_40]; rfl) (by decide) rfl (fun ls hl => ?_)
        refine lv_goto (tgt := 34) hx hb dX1_pickDownwards_93 (by decide) ?_
        exact ih_9 ⟨x_40, σ_38, ρ_8⟩ _ _ _ ⟨(by omega), (by omega), hB, hS, lv_sub hl [0, 1, 2, 3, 4] rfl⟩ (by show (5 - x_40.toInt).toNat < (5 - i_6.toInt).toNat; omega)
      · skip
        have uc_37 := i_nle (n := 0) (by decide) c_37
        refine lv_aload_n hx hb dX1_pickDownwards_78 rfl (lv_at hl 3 rfl) ?_
        refine lv_iload_n hx hb dX1_pickDownwards_79 rfl (lv_at hl 4 rfl) ?_
        refine lv_iload hx hb dX1_pickDownwards_80 (lv_at hl 0 rfl) ?_
        refine t_ci (va_runS (As := [.ref h2, .int p3, .int i_6]) (rest := [.int i_6, .ref b_34]) ⟨hx, hb, hml, hown, hts⟩ (cy_X1_mostOf_b l D cA L T r hG hLA.1 σ_32 ρ_8 hB.2.1 _ h2 mh2 th2 p3 i_6 (by first | omega | decide) (by first | omega | decide) (by first | omega | decide) (by first | omega | decide)) (cS hts ms_X1_mostOf mw_5_75 rfl rfl ⟨Nat.le_of_ble_eq_true rfl, Nat.le_of_ble_eq_true rfl⟩) (pS hB.1 hK hN) rfl rfl hl.1 rfl (lv_room (Nat.le_of_ble_eq_true rfl)) dX1_pickDownwards_82 ⟨Nat.le_of_ble_eq_true rfl, Nat.le_of_ble_eq_true rfl⟩) hLA hA hB hS (by decide) (fun x_43 σ_41 ρ_42 H locs hB fσ_41 pσ_41 hS => ?_)
        have qσ_41 := FR.nil fσ_41
        subst qσ_41
        obtain ⟨lx_43, ux_43⟩ := pσ_41
        refine lv_goto (tgt := 89) hx hb dX1_pickDownwards_85 (by decide) ?_
        refine t_si hx hb hK hLA hB hS mb_34 tb_34 ai_24 (i_in (by omega) (by omega)) (by show (-2147483648) ≤ _; (first | omega | (subst_vars; omega))) (by show _ ≤ 1000; (first | omega | (subst_vars; omega))) (Or.inr (by decide)) dX1_pickDownwards_89 (fun H locs σ_44 eσ_44 hB hS => ?_)
        have k_45 : σ_44 b_34 i_6.toNatClampNeg = x_43 := by rw [eσ_44]; exact up2_same _ _ _ _
        obtain ⟨x_46, ex_46⟩ : ∃ y : Int32, y = i_6 + 1 := ⟨_, rfl⟩
        have vx_46 := b_add (rfl : i_6.toInt = _) (by decide : (1 : Int32).toInt = 1) ex_46 (by omega) (by omega)
        refine lv_iinc (v := x_46) (lv' := [(4, .int x_46), (0, .ref h0), (1, .ref h1), (2, .ref h2), (3, .int p3)]) hx hb dX1_pickDownwards_90 hl (k := 0) rfl (by rw [ex_46]; rfl) (by decide) rfl (fun ls hl => ?_)
        refine lv_goto (tgt := 34) hx hb dX1_pickDownwards_93 (by decide) ?_
        exact ih_9 ⟨x_46, σ_44, ρ_42⟩ _ _ _ ⟨(by omega), (by omega), hB, hS, lv_sub hl [0, 1, 2, 3, 4] rfl⟩ (by show (5 - x_46.toInt).toNat < (5 - i_6.toInt).toNat; omega)
  · skip
    have uc_5 := i_nge (n := 5) (by decide) c_5
    refine lv_aload_n hx hb dX1_pickDownwards_9 rfl (lv_at hl 1 rfl) ?_
    refine t_gr hx hb hts hown hK hG hB mh0 th0 fq_1_3 rfl mw_2_128 dX1_pickDownwards_10 (fun b_47 hb_47 mb_47 tb_47 => ?_)
    refine lv_iload hx hb dX1_pickDownwards_13 (lv_at hl 0 rfl) ?_
    refine lv_iconst (v := 0) hx hb dX1_pickDownwards_15 (by decide) ?_
    refine t_si hx hb hK hLA hB hS mb_47 tb_47 ai_27 (i_in (by omega) (by omega)) (i_lo _) (i_hi _) (Or.inr (by decide)) dX1_pickDownwards_16 (fun H locs σ_48 eσ_48 hB hS => ?_)
    have k_49 : σ_48 b_47 i_1.toNatClampNeg = 0 := by rw [eσ_48]; exact up2_same _ _ _ _
    refine lv_aload_n hx hb dX1_pickDownwards_17 rfl (lv_at hl 1 rfl) ?_
    refine t_gr hx hb hts hown hK hG hB mh0 th0 fq_1_2 rfl mw_2_127 dX1_pickDownwards_18 (fun b_50 hb_50 mb_50 tb_50 => ?_)
    refine lv_iload hx hb dX1_pickDownwards_21 (lv_at hl 0 rfl) ?_
    refine lv_iconst (v := 0) hx hb dX1_pickDownwards_23 (by decide) ?_
    refine t_si hx hb hK hLA hB hS mb_50 tb_50 ai_26 (i_in (by omega) (by omega)) (i_lo _) (i_hi _) (Or.inr (by decide)) dX1_pickDownwards_24 (fun H locs σ_51 eσ_51 hB hS => ?_)
    have k_52 : σ_51 b_50 i_1.toNatClampNeg = 0 := by rw [eσ_51]; exact up2_same _ _ _ _
    obtain ⟨x_53, ex_53⟩ : ∃ y : Int32, y = i_1 + 1 := ⟨_, rfl⟩
    have vx_53 := b_add (rfl : i_1.toInt = _) (by decide : (1 : Int32).toInt = 1) ex_53 (by omega) (by omega)
    refine lv_iinc (v := x_53) (lv' := [(4, .int x_53), (0, .ref h0), (1, .ref h1), (2, .ref h2), (3, .int p3)]) hx hb dX1_pickDownwards_25 hl (k := 0) rfl (by rw [ex_53]; rfl) (by decide) rfl (fun ls hl => ?_)
    refine lv_goto (tgt := 3) hx hb dX1_pickDownwards_28 (by decide) ?_
    exact ih_4 ⟨x_53, σ_51, ρ_3⟩ _ _ _ ⟨(by omega), (by omega), hB, hS, lv_sub hl [0, 1, 2, 3, 4] rfl⟩ (by show (5 - x_53.toInt).toNat < (5 - i_1.toInt).toNat; omega)
theorem mw_2_215 : (.fieldLink RX11 64 "HillBends" "choices" "LHillBends$Choices;" : Cond) ∈ wsA := wsA_t (List.mem_append_right _ (List.mem_append_left _ (List.mem_of_getElem? (l := tables_1_2) (i := 215) rfl))) rfl
theorem mw_5_72 : (.instanceMethod yX1_pickDownwards : Cond) ∈ wsA := wsA_t (List.mem_append_right _ (List.mem_append_right _ (List.mem_append_right _ (List.mem_append_right _ (List.mem_append_left _ (List.mem_of_getElem? (l := tables_1_5) (i := 72) rfl)))))) rfl
theorem mw_5_73 : (.selects RX1 yX1_pickDownwards yX1_pickDownwards : Cond) ∈ wsA := wsA_t (List.mem_append_right _ (List.mem_append_right _ (List.mem_append_right _ (List.mem_append_right _ (List.mem_append_left _ (List.mem_of_getElem? (l := tables_1_5) (i := 73) rfl)))))) rfl
theorem mw_5_74 : (.code yX1_pickDownwards cX1_pickDownwards 5 none : Cond) ∈ wsA := wsA_t (List.mem_append_right _ (List.mem_append_right _ (List.mem_append_right _ (List.mem_append_right _ (List.mem_append_left _ (List.mem_of_getElem? (l := tables_1_5) (i := 74) rfl)))))) rfl
theorem mw_5_71 : (.methodLink RX11 284 yX1_pickDownwards : Cond) ∈ wsA := wsA_t (List.mem_append_right _ (List.mem_append_right _ (List.mem_append_right _ (List.mem_append_right _ (List.mem_append_left _ (List.mem_of_getElem? (l := tables_1_5) (i := 71) rfl)))))) rfl
theorem mw_2_129 : (.fieldLink RX11 290 "HillBends$Choices" "best" "[I" : Cond) ∈ wsA := wsA_t (List.mem_append_right _ (List.mem_append_left _ (List.mem_of_getElem? (l := tables_1_2) (i := 129) rfl))) rfl
theorem mw_5_91 : (.instanceMethod yX1_worthOfBest : Cond) ∈ wsA := wsA_t (List.mem_append_right _ (List.mem_append_right _ (List.mem_append_right _ (List.mem_append_right _ (List.mem_append_left _ (List.mem_of_getElem? (l := tables_1_5) (i := 91) rfl)))))) rfl
theorem mw_5_92 : (.selects RX1 yX1_worthOfBest yX1_worthOfBest : Cond) ∈ wsA := wsA_t (List.mem_append_right _ (List.mem_append_right _ (List.mem_append_right _ (List.mem_append_right _ (List.mem_append_left _ (List.mem_of_getElem? (l := tables_1_5) (i := 92) rfl)))))) rfl
theorem mw_5_93 : (.code yX1_worthOfBest cX1_worthOfBest 4 (some .int) : Cond) ∈ wsA := wsA_t (List.mem_append_right _ (List.mem_append_right _ (List.mem_append_right _ (List.mem_append_right _ (List.mem_append_left _ (List.mem_of_getElem? (l := tables_1_5) (i := 93) rfl)))))) rfl
theorem mw_5_90 : (.methodLink RX11 287 yX1_worthOfBest : Cond) ∈ wsA := wsA_t (List.mem_append_right _ (List.mem_append_right _ (List.mem_append_right _ (List.mem_append_right _ (List.mem_append_left _ (List.mem_of_getElem? (l := tables_1_5) (i := 90) rfl)))))) rfl
theorem dX11_downwards_0 : decode cX11_downwards 0 = .ok (.aload_n 0, 1) := by decide +kernel
theorem dX11_downwards_1 : decode cX11_downwards 1 = .ok (.iload_n 1, 1) := by decide +kernel
theorem dX11_downwards_2 : decode cX11_downwards 2 = .ok (.invokevirtual 117, 3) := by decide +kernel
theorem dX11_downwards_5 : decode cX11_downwards 5 = .ok (.ifCond .eq 11, 3) := by decide +kernel
theorem dX11_downwards_16 : decode cX11_downwards 16 = .ok (.bipush (-2), 2) := by decide +kernel
theorem dX11_downwards_18 : decode cX11_downwards 18 = .ok (.ireturn, 1) := by decide +kernel
theorem dX11_downwards_8 : decode cX11_downwards 8 = .ok (.aload_n 0, 1) := by decide +kernel
theorem dX11_downwards_9 : decode cX11_downwards 9 = .ok (.iload_n 2, 1) := by decide +kernel
theorem dX11_downwards_10 : decode cX11_downwards 10 = .ok (.invokevirtual 238, 3) := by decide +kernel
theorem dX11_downwards_13 : decode cX11_downwards 13 = .ok (.ifCond .ne 6, 3) := by decide +kernel
theorem dX11_downwards_19 : decode cX11_downwards 19 = .ok (.aload_n 0, 1) := by decide +kernel
theorem dX11_downwards_20 : decode cX11_downwards 20 = .ok (.getfield 64, 3) := by decide +kernel
theorem dX11_downwards_23 : decode cX11_downwards 23 = .ok (.aload_n 0, 1) := by decide +kernel
theorem dX11_downwards_24 : decode cX11_downwards 24 = .ok (.getfield 32, 3) := by decide +kernel
theorem dX11_downwards_27 : decode cX11_downwards 27 = .ok (.getfield 102, 3) := by decide +kernel
theorem dX11_downwards_30 : decode cX11_downwards 30 = .ok (.aload_n 0, 1) := by decide +kernel
theorem dX11_downwards_31 : decode cX11_downwards 31 = .ok (.getfield 32, 3) := by decide +kernel
theorem dX11_downwards_34 : decode cX11_downwards 34 = .ok (.getfield 121, 3) := by decide +kernel
theorem dX11_downwards_37 : decode cX11_downwards 37 = .ok (.iload_n 1, 1) := by decide +kernel
theorem dX11_downwards_38 : decode cX11_downwards 38 = .ok (.invokevirtual 284, 3) := by decide +kernel
theorem dX11_downwards_41 : decode cX11_downwards 41 = .ok (.iload_n 2, 1) := by decide +kernel
theorem dX11_downwards_42 : decode cX11_downwards 42 = .ok (.iconst (-1), 1) := by decide +kernel
theorem dX11_downwards_43 : decode cX11_downwards 43 = .ok (.if_icmp .ne 20, 3) := by decide +kernel
theorem dX11_downwards_63 : decode cX11_downwards 63 = .ok (.aload_n 0, 1) := by decide +kernel
theorem dX11_downwards_64 : decode cX11_downwards 64 = .ok (.getfield 64, 3) := by decide +kernel
theorem dX11_downwards_67 : decode cX11_downwards 67 = .ok (.getfield 290, 3) := by decide +kernel
theorem dX11_downwards_70 : decode cX11_downwards 70 = .ok (.iload_n 2, 1) := by decide +kernel
theorem dX11_downwards_71 : decode cX11_downwards 71 = .ok (.iaload, 1) := by decide +kernel
theorem dX11_downwards_72 : decode cX11_downwards 72 = .ok (.ireturn, 1) := by decide +kernel
theorem dX11_downwards_46 : decode cX11_downwards 46 = .ok (.aload_n 0, 1) := by decide +kernel
theorem dX11_downwards_47 : decode cX11_downwards 47 = .ok (.getfield 64, 3) := by decide +kernel
theorem dX11_downwards_50 : decode cX11_downwards 50 = .ok (.aload_n 0, 1) := by decide +kernel
theorem dX11_downwards_51 : decode cX11_downwards 51 = .ok (.getfield 32, 3) := by decide +kernel
theorem dX11_downwards_54 : decode cX11_downwards 54 = .ok (.getfield 102, 3) := by decide +kernel
theorem dX11_downwards_57 : decode cX11_downwards 57 = .ok (.invokevirtual 287, 3) := by decide +kernel
theorem dX11_downwards_60 : decode cX11_downwards 60 = .ok (.goto 12, 3) := by decide +kernel
theorem mv_X1_pickDownwards : MV RX1 yX1_pickDownwards cX1_pickDownwards 5 none 3 := ⟨mw_5_72, mw_5_73, mw_1_10, mw_5_74, ⟨rfl, by decide, by decide, by decide +kernel⟩⟩
theorem mv_X1_worthOfBest : MV RX1 yX1_worthOfBest cX1_worthOfBest 4 (some .int) 1 := ⟨mw_5_91, mw_5_92, mw_1_10, mw_5_93, ⟨rfl, by decide, by decide, by decide +kernel⟩⟩
set_option maxHeartbeats 4000000 in
set_option maxRecDepth 100000 in
theorem cy_X11_downwards (l : Launch) (D : va_G) (cA : Nat → ClassId) (L : List Nat) (T : Nat → Nat) (r : Rg) (hG : GR L T r) (hL : L.Nodup) (σ : Sg) (ρ : Lg) (hW : WT L ry T σ) (sz : Nat) (h0 : Nat) (mh0 : h0 ∈ L) (th0 : T h0 = 11) (p1 : Int32) (p2 : Int32) : Met l yX11_downwards (.code yX11_downwards cX11_downwards 3 (some .int) :: wsA) ({ frames := 8, cells := 0, slots := 0, locals := 286 }) (PR D cA L T r σ ρ sz [.ref h0, .int p1, .int p2]) (QI D cA L T r ry [(1, 4), (24, 1000), (25, 1000), (26, 1000), (27, 1000)] σ sz (fun x σ1 => True)) 0 0 (dm L sz) := by
  refine Met.ofW (cc := cX11_downwards) (maxL := 3) (ret := (some .int)) (by decide) rfl ?_
  intro p e s m args below meth c s₁ B hml hv
  obtain ⟨rfl, hsz, hP, hK, hN⟩ := hv
  have hx := B.exec
  have hb := B.bytes
  have hr := B.returns
  have hts : ∀ w ∈ wsA, w.before _ s = true := fun w h => atoms_spec (ws := .code yX11_downwards cX11_downwards 3 (some .int) :: wsA) B.pre w (List.mem_cons_of_mem _ h)
  have hown : s.vm.findClass RX11 = some m.cls := findClass_of_methodNamed B.named
  subst hsz
  have hLA : LA (dm L s.heap.size) L := ⟨hL, fun a h => Or.inl h⟩
  have hA : ∀ q : Nat, s.heap.size ≤ q → dm L s.heap.size q := fun q h => Or.inr h
  have hS : va_S (dm L s.heap.size) s.heap s.heap [] := va_S.rf
  have hB : TS D cA L T r ry [(1, 4), (24, 1000), (25, 1000), (26, 1000), (27, 1000)] σ σ ρ s.heap := ⟨hP, hW, FR.rf⟩
  have hl := lv_entry ([.ref h0, .int p1, .int p2]) (n := 3) (Nat.le_of_ble_eq_true rfl)
  rw [lg_entry_eq]
  generalize (lg_sl ([.ref h0, .int p1, .int p2]) ++ List.replicate (3 - (lg_sl ([.ref h0, .int p1, .int p2])).length) Slot.unset).toArray = ls at hl ⊢
  have hl : lv_has ls 3 [(0, .ref h0), (1, .int p1), (2, .int p2)] := hl
  refine lv_aload_n hx hb dX11_downwards_0 rfl (lv_at hl 0 rfl) ?_
  refine lv_iload_n hx hb dX11_downwards_1 rfl (lv_at hl 1 rfl) ?_
  refine t_ci (va_runV (As := [.int p1]) (rest := []) ⟨hx, hb, hml, hown, hts⟩ (cy_X11_isPilgrim l D cA L T r hG hLA.1 σ ρ hB.2.1 _ h0 mh0 th0 p1) (cV hts mv_X11_isPilgrim mw_4_70 rfl rfl ⟨Nat.le_of_ble_eq_true rfl, Nat.le_of_ble_eq_true rfl⟩) (pV hB.1 hK hN mh0 th0 (show shp cA 11 _ _ _ = .inr (11, Fs11 _ _ _) from rfl) rfl) rfl rfl hl.1 rfl (lv_room (Nat.le_of_ble_eq_true rfl)) dX11_downwards_2 ⟨Nat.le_of_ble_eq_true rfl, Nat.le_of_ble_eq_true rfl⟩) hLA hA hB hS (by decide) (fun x_3 σ_1 ρ_2 H locs hB fσ_1 pσ_1 hS => ?_)
  have qσ_1 := FR.nil fσ_1
  subst qσ_1
  obtain ⟨ox_3, ix_3⟩ := pσ_1
  refine lv_if_eq (tgt := 16) hx hb dX11_downwards_5 (by decide) (fun c_4 => ?_) (fun c_4 => ?_)
  · skip
    have uc_4 := i_eq (n := 0) (by decide) c_4
    refine lv_bipush (v := (-2)) hx hb dX11_downwards_16 (by decide) ?_
    exact W.iret (v := (-2)) hx hb hr (fun t ht hW => ⟨⟨(-2), (σ, ρ_2), rfl, ⟨hB.2.1, hB.2.2, trivial⟩, (show TP D cA L T r σ ρ_2 t.heap from by rw [ht]; exact hB.1)⟩, hS.F ht⟩) hS.2.2 dX11_downwards_18
  · skip
    have uc_4 := i_ne (n := 0) (by decide) c_4
    refine lv_aload_n hx hb dX11_downwards_8 rfl (lv_at hl 0 rfl) ?_
    refine lv_iload_n hx hb dX11_downwards_9 rfl (lv_at hl 2 rfl) ?_
    refine t_ci (va_runV (As := [.int p2]) (rest := []) ⟨hx, hb, hml, hown, hts⟩ (cy_X11_isSortOrNone l D cA L T r hG hLA.1 σ ρ_2 hB.2.1 _ h0 mh0 th0 p2) (cV hts mv_X11_isSortOrNone mw_4_211 rfl rfl ⟨Nat.le_of_ble_eq_true rfl, Nat.le_of_ble_eq_true rfl⟩) (pV hB.1 hK hN mh0 th0 (show shp cA 11 _ _ _ = .inr (11, Fs11 _ _ _) from rfl) rfl) rfl rfl hl.1 rfl (lv_room (Nat.le_of_ble_eq_true rfl)) dX11_downwards_10 ⟨Nat.le_of_ble_eq_true rfl, Nat.le_of_ble_eq_true rfl⟩) hLA hA hB hS (by decide) (fun x_7 σ_5 ρ_6 H locs hB fσ_5 pσ_5 hS => ?_)
    have qσ_5 := FR.nil fσ_5
    subst qσ_5
    obtain ⟨ox_7, ix_7⟩ := pσ_5
    refine lv_if_ne (tgt := 19) hx hb dX11_downwards_13 (by decide) (fun c_8 => ?_) (fun c_8 => ?_)
    · skip
      have uc_8 := i_ne (n := 0) (by decide) c_8
      refine lv_aload_n hx hb dX11_downwards_19 rfl (lv_at hl 0 rfl) ?_
      refine t_gr hx hb hts hown hK hG hB mh0 th0 fq_11_8 rfl mw_2_215 dX11_downwards_20 (fun b_9 hb_9 mb_9 tb_9 => ?_)
      refine lv_aload_n hx hb dX11_downwards_23 rfl (lv_at hl 0 rfl) ?_
      refine t_gr hx hb hts hown hK hG hB mh0 th0 fq_11_3 rfl mw_2_210 dX11_downwards_24 (fun b_10 hb_10 mb_10 tb_10 => ?_)
      refine t_gr hx hb hts hown hK hG hB mb_10 tb_10 fq_10_0 rfl mw_1_236 dX11_downwards_27 (fun b_11 hb_11 mb_11 tb_11 => ?_)
      refine lv_aload_n hx hb dX11_downwards_30 rfl (lv_at hl 0 rfl) ?_
      refine t_gk hx hb hts hown hK hB mh0 th0 fq_11_3 hb_10 mw_2_210 dX11_downwards_31 ?_
      refine t_gr hx hb hts hown hK hG hB mb_10 tb_10 fq_10_1 rfl mw_1_239 dX11_downwards_34 (fun b_12 hb_12 mb_12 tb_12 => ?_)
      refine lv_iload_n hx hb dX11_downwards_37 rfl (lv_at hl 1 rfl) ?_
      refine t_cv (va_runV (As := [.ref b_11, .ref b_12, .int p1]) (rest := []) ⟨hx, hb, hml, hown, hts⟩ (cy_X1_pickDownwards l D cA L T r hG hLA.1 σ ρ_6 hB.2.1 _ b_9 mb_9 tb_9 b_11 mb_11 tb_11 b_12 mb_12 tb_12 p1 (by first | omega | decide) (by first | omega | decide)) (cV hts mv_X1_pickDownwards mw_5_71 rfl rfl ⟨Nat.le_of_ble_eq_true rfl, Nat.le_of_ble_eq_true rfl⟩) (pV hB.1 hK hN mb_9 tb_9 (show shp cA 1 _ _ _ = .inr (1, Fs1 _ _ _) from rfl) rfl) rfl rfl hl.1 rfl (lv_room (Nat.le_of_ble_eq_true rfl)) dX11_downwards_38 ⟨Nat.le_of_ble_eq_true rfl, Nat.le_of_ble_eq_true rfl⟩) hLA hA hB hS (by decide) (fun σ_13 ρ_14 H locs hB fσ_13 pσ_13 hS => ?_)
      refine lv_iload_n hx hb dX11_downwards_41 rfl (lv_at hl 2 rfl) ?_
      refine lv_iconst (v := (-1)) hx hb dX11_downwards_42 (by decide) ?_
      refine lv_icmp_ne (tgt := 63) hx hb dX11_downwards_43 (by decide) (fun c_16 => ?_) (fun c_16 => ?_)
      · skip
        have uc_16 := i_ne (n := (-1)) (by decide) c_16
        refine lv_aload_n hx hb dX11_downwards_63 rfl (lv_at hl 0 rfl) ?_
        refine t_gk hx hb hts hown hK hB mh0 th0 fq_11_8 hb_9 mw_2_215 dX11_downwards_64 ?_
        refine t_gr hx hb hts hown hK hG hB mb_9 tb_9 fq_1_3 rfl mw_2_129 dX11_downwards_67 (fun b_17 hb_17 mb_17 tb_17 => ?_)
        refine lv_iload_n hx hb dX11_downwards_70 rfl (lv_at hl 2 rfl) ?_
        refine t_ai hx hb hK hB mb_17 tb_17 ai_27 (fun _ => rfl) (i_in (by omega) (by omega)) dX11_downwards_71 (fun x_18 ex_18 lx_18 ux_18 => ?_)
        have cx_18 := congrArg Int32.toInt ex_18
        exact W.iret (v := x_18) hx hb hr (fun t ht hW => ⟨⟨x_18, (σ_13, ρ_14), rfl, ⟨hB.2.1, hB.2.2, trivial⟩, (show TP D cA L T r σ_13 ρ_14 t.heap from by rw [ht]; exact hB.1)⟩, hS.F ht⟩) hS.2.2 dX11_downwards_72
      · skip
        have uc_16 := i_eq (n := (-1)) (by decide) c_16
        refine lv_aload_n hx hb dX11_downwards_46 rfl (lv_at hl 0 rfl) ?_
        refine t_gk hx hb hts hown hK hB mh0 th0 fq_11_8 hb_9 mw_2_215 dX11_downwards_47 ?_
        refine lv_aload_n hx hb dX11_downwards_50 rfl (lv_at hl 0 rfl) ?_
        refine t_gk hx hb hts hown hK hB mh0 th0 fq_11_3 hb_10 mw_2_210 dX11_downwards_51 ?_
        refine t_gk hx hb hts hown hK hB mb_10 tb_10 fq_10_0 hb_11 mw_1_236 dX11_downwards_54 ?_
        refine t_ci (va_runV (As := [.ref b_11]) (rest := []) ⟨hx, hb, hml, hown, hts⟩ (cy_X1_worthOfBest l D cA L T r hG hLA.1 σ_13 ρ_14 hB.2.1 _ b_9 mb_9 tb_9 b_11 mb_11 tb_11) (cV hts mv_X1_worthOfBest mw_5_90 rfl rfl ⟨Nat.le_of_ble_eq_true rfl, Nat.le_of_ble_eq_true rfl⟩) (pV hB.1 hK hN mb_9 tb_9 (show shp cA 1 _ _ _ = .inr (1, Fs1 _ _ _) from rfl) rfl) rfl rfl hl.1 rfl (lv_room (Nat.le_of_ble_eq_true rfl)) dX11_downwards_57 ⟨Nat.le_of_ble_eq_true rfl, Nat.le_of_ble_eq_true rfl⟩) hLA hA hB hS (by decide) (fun x_21 σ_19 ρ_20 H locs hB fσ_19 pσ_19 hS => ?_)
        have qσ_19 := FR.nil fσ_19
        subst qσ_19
        refine lv_goto (tgt := 72) hx hb dX11_downwards_60 (by decide) ?_
        exact W.iret (v := x_21) hx hb hr (fun t ht hW => ⟨⟨x_21, (σ_13, ρ_20), rfl, ⟨hB.2.1, hB.2.2, trivial⟩, (show TP D cA L T r σ_13 ρ_20 t.heap from by rw [ht]; exact hB.1)⟩, hS.F ht⟩) hS.2.2 dX11_downwards_72
    · skip
      have uc_8 := i_eq (n := 0) (by decide) c_8
      refine lv_bipush (v := (-2)) hx hb dX11_downwards_16 (by decide) ?_
      exact W.iret (v := (-2)) hx hb hr (fun t ht hW => ⟨⟨(-2), (σ, ρ_6), rfl, ⟨hB.2.1, hB.2.2, trivial⟩, (show TP D cA L T r σ ρ_6 t.heap from by rw [ht]; exact hB.1)⟩, hS.F ht⟩) hS.2.2 dX11_downwards_18
theorem mw_2_136 : (.fieldLink RX1 98 "HillBends$Choices" "things" "I" : Cond) ∈ wsA := wsA_t (List.mem_append_right _ (List.mem_append_left _ (List.mem_of_getElem? (l := tables_1_2) (i := 136) rfl))) rfl
theorem mw_2_134 : (.fieldLink RX1 30 "HillBends$Choices" "firstRow" "[I" : Cond) ∈ wsA := wsA_t (List.mem_append_right _ (List.mem_append_left _ (List.mem_of_getElem? (l := tables_1_2) (i := 134) rfl))) rfl
theorem dX1_giftsFrom_0 : decode cX1_giftsFrom 0 = .ok (.iload_n 2, 1) := by decide +kernel
theorem dX1_giftsFrom_1 : decode cX1_giftsFrom 1 = .ok (.aload_n 0, 1) := by decide +kernel
theorem dX1_giftsFrom_2 : decode cX1_giftsFrom 2 = .ok (.getfield 98, 3) := by decide +kernel
theorem dX1_giftsFrom_5 : decode cX1_giftsFrom 5 = .ok (.if_icmp .lt 26, 3) := by decide +kernel
theorem dX1_giftsFrom_8 : decode cX1_giftsFrom 8 = .ok (.iload_n 3, 1) := by decide +kernel
theorem dX1_giftsFrom_9 : decode cX1_giftsFrom 9 = .ok (.ifCond .ne 20, 3) := by decide +kernel
theorem dX1_giftsFrom_29 : decode cX1_giftsFrom 29 = .ok (.iconst 1, 1) := by decide +kernel
theorem dX1_giftsFrom_30 : decode cX1_giftsFrom 30 = .ok (.ireturn, 1) := by decide +kernel
theorem dX1_giftsFrom_12 : decode cX1_giftsFrom 12 = .ok (.aload_n 0, 1) := by decide +kernel
theorem dX1_giftsFrom_13 : decode cX1_giftsFrom 13 = .ok (.getfield 18, 3) := by decide +kernel
theorem dX1_giftsFrom_16 : decode cX1_giftsFrom 16 = .ok (.iconst 0, 1) := by decide +kernel
theorem dX1_giftsFrom_17 : decode cX1_giftsFrom 17 = .ok (.aload_n 0, 1) := by decide +kernel
theorem dX1_giftsFrom_18 : decode cX1_giftsFrom 18 = .ok (.getfield 30, 3) := by decide +kernel
theorem dX1_giftsFrom_21 : decode cX1_giftsFrom 21 = .ok (.iconst 0, 1) := by decide +kernel
theorem dX1_giftsFrom_22 : decode cX1_giftsFrom 22 = .ok (.aload_n 0, 1) := by decide +kernel
theorem dX1_giftsFrom_23 : decode cX1_giftsFrom 23 = .ok (.getfield 98, 3) := by decide +kernel
theorem dX1_giftsFrom_26 : decode cX1_giftsFrom 26 = .ok (.invokestatic 83, 3) := by decide +kernel
set_option maxHeartbeats 4000000 in
set_option maxRecDepth 100000 in
theorem cy_X1_giftsFrom_0 (l : Launch) (D : va_G) (cA : Nat → ClassId) (L : List Nat) (T : Nat → Nat) (r : Rg) (hG : GR L T r) (hL : L.Nodup) (σ : Sg) (ρ : Lg) (hW : WT L ry T σ) (sz : Nat) (h0 : Nat) (mh0 : h0 ∈ L) (th0 : T h0 = 1) (h1 : Nat) (mh1 : h1 ∈ L) (th1 : T h1 = 3) (p2 : Int32) (p3 : Int32) (w0 : 8 ≤ p2.toInt) (w1 : p2.toInt ≤ 8) (w2 : 0 ≤ (σ h0 8).toInt) (w3 : (σ h0 8).toInt ≤ 8) : Met l yX1_giftsFrom (.code yX1_giftsFrom cX1_giftsFrom 9 (some .int) :: wsA) ({ frames := 1, cells := 0, slots := 0, locals := 100 }) (PR D cA L T r σ ρ sz [.ref h0, .ref h1, .int p2, .int p3]) (QI D cA L T r ry [(30, 1000)] σ sz (fun x σ1 => True)) 0 0 (dm L sz) := by
  refine Met.ofW (cc := cX1_giftsFrom) (maxL := 9) (ret := (some .int)) (by decide) rfl ?_
  intro p e s m args below meth c s₁ B hml hv
  obtain ⟨rfl, hsz, hP, hK, hN⟩ := hv
  have hx := B.exec
  have hb := B.bytes
  have hr := B.returns
  have hts : ∀ w ∈ wsA, w.before _ s = true := fun w h => atoms_spec (ws := .code yX1_giftsFrom cX1_giftsFrom 9 (some .int) :: wsA) B.pre w (List.mem_cons_of_mem _ h)
  have hown : s.vm.findClass RX1 = some m.cls := findClass_of_methodNamed B.named
  subst hsz
  have hLA : LA (dm L s.heap.size) L := ⟨hL, fun a h => Or.inl h⟩
  have hA : ∀ q : Nat, s.heap.size ≤ q → dm L s.heap.size q := fun q h => Or.inr h
  have hS : va_S (dm L s.heap.size) s.heap s.heap [] := va_S.rf
  have hB : TS D cA L T r ry [(30, 1000)] σ σ ρ s.heap := ⟨hP, hW, FR.rf⟩
  have hl := lv_entry ([.ref h0, .ref h1, .int p2, .int p3]) (n := 9) (Nat.le_of_ble_eq_true rfl)
  rw [lg_entry_eq]
  generalize (lg_sl ([.ref h0, .ref h1, .int p2, .int p3]) ++ List.replicate (9 - (lg_sl ([.ref h0, .ref h1, .int p2, .int p3])).length) Slot.unset).toArray = ls at hl ⊢
  have hl : lv_has ls 9 [(0, .ref h0), (1, .ref h1), (2, .int p2), (3, .int p3)] := hl
  have w_1 : (-2147483648) ≤ (σ h0 8).toInt ∧ (σ h0 8).toInt ≤ 2147483647 := by have z := hB.2.1 h0 mh0 8; rw [th0] at z; exact z
  refine lv_iload_n hx hb dX1_giftsFrom_0 rfl (lv_at hl 2 rfl) ?_
  refine lv_aload_n hx hb dX1_giftsFrom_1 rfl (lv_at hl 0 rfl) ?_
  refine t_gv hx hb hts hown hK hB mh0 th0 fi_1_8 rfl mw_2_136 dX1_giftsFrom_2 ?_
  refine lv_icmp_lt (tgt := 31) hx hb dX1_giftsFrom_5 (by decide) (fun c_2 => ?_) (fun c_2 => ?_)
  · skip
    have uc_2 := j_lt c_2
    exfalso; omega
  · skip
    have uc_2 := j_nlt c_2
    refine lv_iload_n hx hb dX1_giftsFrom_8 rfl (lv_at hl 3 rfl) ?_
    refine lv_if_ne (tgt := 29) hx hb dX1_giftsFrom_9 (by decide) (fun c_3 => ?_) (fun c_3 => ?_)
    · skip
      have uc_3 := i_ne (n := 0) (by decide) c_3
      refine lv_iconst (v := 1) hx hb dX1_giftsFrom_29 (by decide) ?_
      exact W.iret (v := 1) hx hb hr (fun t ht hW => ⟨⟨1, (σ, ρ), rfl, ⟨hB.2.1, hB.2.2, trivial⟩, (show TP D cA L T r σ ρ t.heap from by rw [ht]; exact hB.1)⟩, hS.F ht⟩) hS.2.2 dX1_giftsFrom_30
    · skip
      have uc_3 := i_eq (n := 0) (by decide) c_3
      refine lv_aload_n hx hb dX1_giftsFrom_12 rfl (lv_at hl 0 rfl) ?_
      refine t_gr hx hb hts hown hK hG hB mh0 th0 fq_1_2 rfl mw_2_127 dX1_giftsFrom_13 (fun b_4 hb_4 mb_4 tb_4 => ?_)
      refine lv_iconst (v := 0) hx hb dX1_giftsFrom_16 (by decide) ?_
      refine lv_aload_n hx hb dX1_giftsFrom_17 rfl (lv_at hl 0 rfl) ?_
      refine t_gr hx hb hts hown hK hG hB mh0 th0 fq_1_7 rfl mw_2_134 dX1_giftsFrom_18 (fun b_5 hb_5 mb_5 tb_5 => ?_)
      refine lv_iconst (v := 0) hx hb dX1_giftsFrom_21 (by decide) ?_
      refine lv_aload_n hx hb dX1_giftsFrom_22 rfl (lv_at hl 0 rfl) ?_
      refine t_gv hx hb hts hown hK hB mh0 th0 fi_1_8 rfl mw_2_136 dX1_giftsFrom_23 ?_
      refine t_cp (lo := (-2147483648)) (hi := 2147483647) hx hb (hml.trans hl.1.symm) hts hown mw_5_84 ⟨mw_3_239, mw_3_238, mw_1_20⟩ hK hLA hB hS mb_4 tb_4 ai_26 mb_5 tb_5 ai_30 (fun _ => ⟨show ((-2147483648) : Int) ≤ (-2147483648) by decide, show (2147483647 : Int) ≤ 2147483647 by decide⟩) (fun _ => rfl) (by decide) (by decide) (by decide) (a_nn (by omega)) (a_cp (by decide) (by omega)) (a_cp (by decide) (by omega)) (Nat.le_of_ble_eq_true rfl) (Nat.le_of_ble_eq_true rfl) dX1_giftsFrom_26 (fun H locs σ_6 eσ_6 hB hS => ?_)
      refine lv_iconst (v := 1) hx hb dX1_giftsFrom_29 (by decide) ?_
      exact W.iret (v := 1) hx hb hr (fun t ht hW => ⟨⟨1, (σ_6, ρ), rfl, ⟨hB.2.1, hB.2.2, trivial⟩, (show TP D cA L T r σ_6 ρ t.heap from by rw [ht]; exact hB.1)⟩, hS.F ht⟩) hS.2.2 dX1_giftsFrom_30
theorem mw_1_149 : (.fieldLink RX1 108 "HillBends$Hill" "first" "[I" : Cond) ∈ wsA := wsA_t (List.mem_append_left _ (List.mem_of_getElem? (l := tables_1_1) (i := 149) rfl)) rfl
theorem mw_1_155 : (.fieldLink RX1 111 "HillBends$Hill" "second" "[I" : Cond) ∈ wsA := wsA_t (List.mem_append_left _ (List.mem_of_getElem? (l := tables_1_1) (i := 155) rfl)) rfl
theorem mw_5_122 : (.methodLink RX1 114 yX3_askedAt : Cond) ∈ wsA := wsA_t (List.mem_append_right _ (List.mem_append_right _ (List.mem_append_right _ (List.mem_append_right _ (List.mem_append_left _ (List.mem_of_getElem? (l := tables_1_5) (i := 122) rfl)))))) rfl
theorem mw_2_131 : (.fieldLink RX1 24 "HillBends$Choices" "unplaced" "[I" : Cond) ∈ wsA := wsA_t (List.mem_append_right _ (List.mem_append_left _ (List.mem_of_getElem? (l := tables_1_2) (i := 131) rfl))) rfl
theorem mw_5_120 : (.instanceMethod yX1_giftsFrom : Cond) ∈ wsA := wsA_t (List.mem_append_right _ (List.mem_append_right _ (List.mem_append_right _ (List.mem_append_right _ (List.mem_append_left _ (List.mem_of_getElem? (l := tables_1_5) (i := 120) rfl)))))) rfl
theorem mp_3_7 : (.selects RX1 yX1_giftsFrom yX1_giftsFrom : Cond) ∈ wsA := wsA_p (q := (yX1_giftsFrom, 9)) (List.mem_append_right _ (List.mem_append_right _ (List.mem_append_left _ (List.mem_of_getElem? (l := lw_privs_3) (i := 7) rfl))))
theorem mw_5_121 : (.code yX1_giftsFrom cX1_giftsFrom 9 (some .int) : Cond) ∈ wsA := wsA_t (List.mem_append_right _ (List.mem_append_right _ (List.mem_append_right _ (List.mem_append_right _ (List.mem_append_left _ (List.mem_of_getElem? (l := tables_1_5) (i := 121) rfl)))))) rfl
theorem mw_5_118 : (.methodLink RX1 104 yX1_giftsFrom : Cond) ∈ wsA := wsA_t (List.mem_append_right _ (List.mem_append_right _ (List.mem_append_right _ (List.mem_append_right _ (List.mem_append_left _ (List.mem_of_getElem? (l := tables_1_5) (i := 118) rfl)))))) rfl
theorem mw_2_132 : (.fieldLink RX1 27 "HillBends$Choices" "can" "[I" : Cond) ∈ wsA := wsA_t (List.mem_append_right _ (List.mem_append_left _ (List.mem_of_getElem? (l := tables_1_2) (i := 132) rfl))) rfl
theorem dX1_giftsFrom_31 : decode cX1_giftsFrom 31 = .ok (.aload_n 1, 1) := by decide +kernel
theorem dX1_giftsFrom_32 : decode cX1_giftsFrom 32 = .ok (.getfield 108, 3) := by decide +kernel
theorem dX1_giftsFrom_35 : decode cX1_giftsFrom 35 = .ok (.iload_n 2, 1) := by decide +kernel
theorem dX1_giftsFrom_36 : decode cX1_giftsFrom 36 = .ok (.iaload, 1) := by decide +kernel
theorem dX1_giftsFrom_37 : decode cX1_giftsFrom 37 = .ok (.aload_n 1, 1) := by decide +kernel
theorem dX1_giftsFrom_38 : decode cX1_giftsFrom 38 = .ok (.getfield 111, 3) := by decide +kernel
theorem dX1_giftsFrom_41 : decode cX1_giftsFrom 41 = .ok (.iload_n 2, 1) := by decide +kernel
theorem dX1_giftsFrom_42 : decode cX1_giftsFrom 42 = .ok (.iaload, 1) := by decide +kernel
theorem dX1_giftsFrom_43 : decode cX1_giftsFrom 43 = .ok (.if_icmp .ne 7, 3) := by decide +kernel
theorem dX1_giftsFrom_50 : decode cX1_giftsFrom 50 = .ok (.iconst 2, 1) := by decide +kernel
theorem dX1_giftsFrom_51 : decode cX1_giftsFrom 51 = .ok (.istore 4, 2) := by decide +kernel
theorem dX1_giftsFrom_53 : decode cX1_giftsFrom 53 = .ok (.iconst 0, 1) := by decide +kernel
theorem dX1_giftsFrom_54 : decode cX1_giftsFrom 54 = .ok (.istore 5, 2) := by decide +kernel
theorem dX1_giftsFrom_56 : decode cX1_giftsFrom 56 = .ok (.iconst 0, 1) := by decide +kernel
theorem dX1_giftsFrom_57 : decode cX1_giftsFrom 57 = .ok (.istore 6, 2) := by decide +kernel
theorem dX1_giftsFrom_59 : decode cX1_giftsFrom 59 = .ok (.iload 6, 2) := by decide +kernel
theorem dX1_giftsFrom_61 : decode cX1_giftsFrom 61 = .ok (.iload 4, 2) := by decide +kernel
theorem dX1_giftsFrom_63 : decode cX1_giftsFrom 63 = .ok (.if_icmp .ge 99, 3) := by decide +kernel
theorem dX1_giftsFrom_162 : decode cX1_giftsFrom 162 = .ok (.iload 5, 2) := by decide +kernel
theorem dX1_giftsFrom_164 : decode cX1_giftsFrom 164 = .ok (.ireturn, 1) := by decide +kernel
theorem dX1_giftsFrom_66 : decode cX1_giftsFrom 66 = .ok (.aload_n 1, 1) := by decide +kernel
theorem dX1_giftsFrom_67 : decode cX1_giftsFrom 67 = .ok (.iload_n 2, 1) := by decide +kernel
theorem dX1_giftsFrom_68 : decode cX1_giftsFrom 68 = .ok (.iload 6, 2) := by decide +kernel
theorem dX1_giftsFrom_70 : decode cX1_giftsFrom 70 = .ok (.iload_n 2, 1) := by decide +kernel
theorem dX1_giftsFrom_71 : decode cX1_giftsFrom 71 = .ok (.ishl, 1) := by decide +kernel
theorem dX1_giftsFrom_72 : decode cX1_giftsFrom 72 = .ok (.invokevirtual 114, 3) := by decide +kernel
theorem dX1_giftsFrom_75 : decode cX1_giftsFrom 75 = .ok (.istore 7, 2) := by decide +kernel
theorem dX1_giftsFrom_77 : decode cX1_giftsFrom 77 = .ok (.aload_n 0, 1) := by decide +kernel
theorem dX1_giftsFrom_78 : decode cX1_giftsFrom 78 = .ok (.getfield 24, 3) := by decide +kernel
theorem dX1_giftsFrom_81 : decode cX1_giftsFrom 81 = .ok (.iload 7, 2) := by decide +kernel
theorem dX1_giftsFrom_83 : decode cX1_giftsFrom 83 = .ok (.iaload, 1) := by decide +kernel
theorem dX1_giftsFrom_84 : decode cX1_giftsFrom 84 = .ok (.ifCond .le 72, 3) := by decide +kernel
theorem dX1_giftsFrom_156 : decode cX1_giftsFrom 156 = .ok (.iinc 6 1, 3) := by decide +kernel
theorem dX1_giftsFrom_159 : decode cX1_giftsFrom 159 = .ok (.goto (-100), 3) := by decide +kernel
theorem dX1_giftsFrom_87 : decode cX1_giftsFrom 87 = .ok (.aload_n 0, 1) := by decide +kernel
theorem dX1_giftsFrom_88 : decode cX1_giftsFrom 88 = .ok (.getfield 24, 3) := by decide +kernel
theorem dX1_giftsFrom_91 : decode cX1_giftsFrom 91 = .ok (.iload 7, 2) := by decide +kernel
theorem dX1_giftsFrom_93 : decode cX1_giftsFrom 93 = .ok (.dup2, 1) := by decide +kernel
theorem dX1_giftsFrom_94 : decode cX1_giftsFrom 94 = .ok (.iaload, 1) := by decide +kernel
theorem dX1_giftsFrom_95 : decode cX1_giftsFrom 95 = .ok (.iconst 1, 1) := by decide +kernel
theorem dX1_giftsFrom_96 : decode cX1_giftsFrom 96 = .ok (.isub, 1) := by decide +kernel
theorem dX1_giftsFrom_97 : decode cX1_giftsFrom 97 = .ok (.iastore, 1) := by decide +kernel
theorem dX1_giftsFrom_98 : decode cX1_giftsFrom 98 = .ok (.aload_n 0, 1) := by decide +kernel
theorem dX1_giftsFrom_99 : decode cX1_giftsFrom 99 = .ok (.getfield 18, 3) := by decide +kernel
theorem dX1_giftsFrom_102 : decode cX1_giftsFrom 102 = .ok (.iload_n 2, 1) := by decide +kernel
theorem dX1_giftsFrom_103 : decode cX1_giftsFrom 103 = .ok (.iload 7, 2) := by decide +kernel
theorem dX1_giftsFrom_105 : decode cX1_giftsFrom 105 = .ok (.iastore, 1) := by decide +kernel
theorem dX1_giftsFrom_106 : decode cX1_giftsFrom 106 = .ok (.aload_n 0, 1) := by decide +kernel
theorem dX1_giftsFrom_107 : decode cX1_giftsFrom 107 = .ok (.aload_n 1, 1) := by decide +kernel
theorem dX1_giftsFrom_108 : decode cX1_giftsFrom 108 = .ok (.iload_n 2, 1) := by decide +kernel
theorem dX1_giftsFrom_109 : decode cX1_giftsFrom 109 = .ok (.iconst 1, 1) := by decide +kernel
theorem dX1_giftsFrom_110 : decode cX1_giftsFrom 110 = .ok (.iadd, 1) := by decide +kernel
theorem dX1_giftsFrom_111 : decode cX1_giftsFrom 111 = .ok (.iload_n 3, 1) := by decide +kernel
theorem dX1_giftsFrom_112 : decode cX1_giftsFrom 112 = .ok (.iload 5, 2) := by decide +kernel
theorem dX1_giftsFrom_114 : decode cX1_giftsFrom 114 = .ok (.iadd, 1) := by decide +kernel
theorem dX1_giftsFrom_115 : decode cX1_giftsFrom 115 = .ok (.invokevirtual 104, 3) := by decide +kernel
theorem dX1_giftsFrom_118 : decode cX1_giftsFrom 118 = .ok (.istore 8, 2) := by decide +kernel
theorem dX1_giftsFrom_120 : decode cX1_giftsFrom 120 = .ok (.aload_n 0, 1) := by decide +kernel
theorem dX1_giftsFrom_121 : decode cX1_giftsFrom 121 = .ok (.getfield 24, 3) := by decide +kernel
theorem dX1_giftsFrom_124 : decode cX1_giftsFrom 124 = .ok (.iload 7, 2) := by decide +kernel
theorem dX1_giftsFrom_126 : decode cX1_giftsFrom 126 = .ok (.dup2, 1) := by decide +kernel
theorem dX1_giftsFrom_127 : decode cX1_giftsFrom 127 = .ok (.iaload, 1) := by decide +kernel
theorem dX1_giftsFrom_128 : decode cX1_giftsFrom 128 = .ok (.iconst 1, 1) := by decide +kernel
theorem dX1_giftsFrom_129 : decode cX1_giftsFrom 129 = .ok (.iadd, 1) := by decide +kernel
theorem dX1_giftsFrom_130 : decode cX1_giftsFrom 130 = .ok (.iastore, 1) := by decide +kernel
theorem dX1_giftsFrom_131 : decode cX1_giftsFrom 131 = .ok (.iload 8, 2) := by decide +kernel
theorem dX1_giftsFrom_133 : decode cX1_giftsFrom 133 = .ok (.ifCond .le 16, 3) := by decide +kernel
theorem dX1_giftsFrom_149 : decode cX1_giftsFrom 149 = .ok (.iload 5, 2) := by decide +kernel
theorem dX1_giftsFrom_151 : decode cX1_giftsFrom 151 = .ok (.iload 8, 2) := by decide +kernel
theorem dX1_giftsFrom_153 : decode cX1_giftsFrom 153 = .ok (.iadd, 1) := by decide +kernel
theorem dX1_giftsFrom_154 : decode cX1_giftsFrom 154 = .ok (.istore 5, 2) := by decide +kernel
theorem dX1_giftsFrom_136 : decode cX1_giftsFrom 136 = .ok (.aload_n 0, 1) := by decide +kernel
theorem dX1_giftsFrom_137 : decode cX1_giftsFrom 137 = .ok (.getfield 27, 3) := by decide +kernel
theorem dX1_giftsFrom_140 : decode cX1_giftsFrom 140 = .ok (.iload_n 2, 1) := by decide +kernel
theorem dX1_giftsFrom_141 : decode cX1_giftsFrom 141 = .ok (.dup2, 1) := by decide +kernel
theorem dX1_giftsFrom_142 : decode cX1_giftsFrom 142 = .ok (.iaload, 1) := by decide +kernel
theorem dX1_giftsFrom_143 : decode cX1_giftsFrom 143 = .ok (.iconst 1, 1) := by decide +kernel
theorem dX1_giftsFrom_144 : decode cX1_giftsFrom 144 = .ok (.iload 7, 2) := by decide +kernel
theorem dX1_giftsFrom_146 : decode cX1_giftsFrom 146 = .ok (.ishl, 1) := by decide +kernel
theorem dX1_giftsFrom_147 : decode cX1_giftsFrom 147 = .ok (.ior, 1) := by decide +kernel
theorem dX1_giftsFrom_148 : decode cX1_giftsFrom 148 = .ok (.iastore, 1) := by decide +kernel
theorem dX1_giftsFrom_46 : decode cX1_giftsFrom 46 = .ok (.iconst 1, 1) := by decide +kernel
theorem dX1_giftsFrom_47 : decode cX1_giftsFrom 47 = .ok (.goto 4, 3) := by decide +kernel
theorem mv_X1_giftsFrom : MV RX1 yX1_giftsFrom cX1_giftsFrom 9 (some .int) 3 := ⟨mw_5_120, mp_3_7, mw_1_10, mw_5_121, ⟨rfl, by decide, by decide, by decide +kernel⟩⟩
set_option maxHeartbeats 4000000 in
set_option maxRecDepth 100000 in
theorem cy_X1_giftsFrom_1 (l : Launch) (D : va_G) (cA : Nat → ClassId) (L : List Nat) (T : Nat → Nat) (r : Rg) (hG : GR L T r) (hL : L.Nodup) (σ : Sg) (ρ : Lg) (hW : WT L ry T σ) (sz : Nat) (h0 : Nat) (mh0 : h0 ∈ L) (th0 : T h0 = 1) (h1 : Nat) (mh1 : h1 ∈ L) (th1 : T h1 = 3) (p2 : Int32) (p3 : Int32) (w0 : 7 ≤ p2.toInt) (w1 : p2.toInt ≤ 8) (w2 : 0 ≤ (σ h0 8).toInt) (w3 : (σ h0 8).toInt ≤ 8) : Met l yX1_giftsFrom (.code yX1_giftsFrom cX1_giftsFrom 9 (some .int) :: wsA) ({ frames := 2, cells := 0, slots := 0, locals := 128 }) (PR D cA L T r σ ρ sz [.ref h0, .ref h1, .int p2, .int p3]) (QI D cA L T r ry [(26, 1000), (28, 1000), (29, 1000), (30, 1000)] σ sz (fun x σ1 => True)) 0 0 (dm L sz) := by
  refine Met.ofW (cc := cX1_giftsFrom) (maxL := 9) (ret := (some .int)) (by decide) rfl ?_
  intro p e s m args below meth c s₁ B hml hv
  obtain ⟨rfl, hsz, hP, hK, hN⟩ := hv
  have hx := B.exec
  have hb := B.bytes
  have hr := B.returns
  have hts : ∀ w ∈ wsA, w.before _ s = true := fun w h => atoms_spec (ws := .code yX1_giftsFrom cX1_giftsFrom 9 (some .int) :: wsA) B.pre w (List.mem_cons_of_mem _ h)
  have hown : s.vm.findClass RX1 = some m.cls := findClass_of_methodNamed B.named
  subst hsz
  have hLA : LA (dm L s.heap.size) L := ⟨hL, fun a h => Or.inl h⟩
  have hA : ∀ q : Nat, s.heap.size ≤ q → dm L s.heap.size q := fun q h => Or.inr h
  have hS : va_S (dm L s.heap.size) s.heap s.heap [] := va_S.rf
  have hB : TS D cA L T r ry [(26, 1000), (28, 1000), (29, 1000), (30, 1000)] σ σ ρ s.heap := ⟨hP, hW, FR.rf⟩
  have hl := lv_entry ([.ref h0, .ref h1, .int p2, .int p3]) (n := 9) (Nat.le_of_ble_eq_true rfl)
  rw [lg_entry_eq]
  generalize (lg_sl ([.ref h0, .ref h1, .int p2, .int p3]) ++ List.replicate (9 - (lg_sl ([.ref h0, .ref h1, .int p2, .int p3])).length) Slot.unset).toArray = ls at hl ⊢
  have hl : lv_has ls 9 [(0, .ref h0), (1, .ref h1), (2, .int p2), (3, .int p3)] := hl
  have w_1 : (-2147483648) ≤ (σ h0 8).toInt ∧ (σ h0 8).toInt ≤ 2147483647 := by have z := hB.2.1 h0 mh0 8; rw [th0] at z; exact z
  refine lv_iload_n hx hb dX1_giftsFrom_0 rfl (lv_at hl 2 rfl) ?_
  refine lv_aload_n hx hb dX1_giftsFrom_1 rfl (lv_at hl 0 rfl) ?_
  refine t_gv hx hb hts hown hK hB mh0 th0 fi_1_8 rfl mw_2_136 dX1_giftsFrom_2 ?_
  refine lv_icmp_lt (tgt := 31) hx hb dX1_giftsFrom_5 (by decide) (fun c_2 => ?_) (fun c_2 => ?_)
  · skip
    have uc_2 := j_lt c_2
    refine lv_aload_n hx hb dX1_giftsFrom_31 rfl (lv_at hl 1 rfl) ?_
    refine t_gr hx hb hts hown hK hG hB mh1 th1 fq_3_3 rfl mw_1_149 dX1_giftsFrom_32 (fun b_3 hb_3 mb_3 tb_3 => ?_)
    refine lv_iload_n hx hb dX1_giftsFrom_35 rfl (lv_at hl 2 rfl) ?_
    refine t_ai hx hb hK hB mb_3 tb_3 ai_36 (fun _ => rfl) (i_in (by omega) (by omega)) dX1_giftsFrom_36 (fun x_4 ex_4 lx_4 ux_4 => ?_)
    have cx_4 := congrArg Int32.toInt ex_4
    refine lv_aload_n hx hb dX1_giftsFrom_37 rfl (lv_at hl 1 rfl) ?_
    refine t_gr hx hb hts hown hK hG hB mh1 th1 fq_3_4 rfl mw_1_155 dX1_giftsFrom_38 (fun b_5 hb_5 mb_5 tb_5 => ?_)
    refine lv_iload_n hx hb dX1_giftsFrom_41 rfl (lv_at hl 2 rfl) ?_
    refine t_ai hx hb hK hB mb_5 tb_5 ai_37 (fun _ => rfl) (i_in (by omega) (by omega)) dX1_giftsFrom_42 (fun x_6 ex_6 lx_6 ux_6 => ?_)
    have cx_6 := congrArg Int32.toInt ex_6
    refine lv_icmp_ne (tgt := 50) hx hb dX1_giftsFrom_43 (by decide) (fun c_7 => ?_) (fun c_7 => ?_)
    · skip
      have uc_7 := j_ne c_7
      refine lv_iconst (v := 2) hx hb dX1_giftsFrom_50 (by decide) ?_
      refine lv_istore (lv' := [(4, .int 2), (0, .ref h0), (1, .ref h1), (2, .int p2), (3, .int p3)]) hx hb dX1_giftsFrom_51 hl (by decide) rfl (fun ls hl => ?_)
      refine lv_iconst (v := 0) hx hb dX1_giftsFrom_53 (by decide) ?_
      refine lv_istore (lv' := [(5, .int 0), (4, .int 2), (0, .ref h0), (1, .ref h1), (2, .int p2), (3, .int p3)]) hx hb dX1_giftsFrom_54 hl (by decide) rfl (fun ls hl => ?_)
      refine lv_iconst (v := 0) hx hb dX1_giftsFrom_56 (by decide) ?_
      refine lv_istore (lv' := [(6, .int 0), (5, .int 0), (4, .int 2), (0, .ref h0), (1, .ref h1), (2, .int p2), (3, .int p3)]) hx hb dX1_giftsFrom_57 hl (by decide) rfl (fun ls hl => ?_)
      refine w_loop (α := Int32 × Int32 × Sg × Lg) (fun (i_8, i_9, σ_10, ρ_11) H locs ls => 0 ≤ i_9.toInt ∧ i_9.toInt ≤ 2 ∧ σ_10 h0 8 = (σ h0 8) ∧ TS D cA L T r ry [(26, 1000), (28, 1000), (29, 1000), (30, 1000)] σ σ_10 ρ_11 H ∧ va_S (dm L s.heap.size) s.heap H locs ∧ lv_has ls 9 [(6, .int i_9), (5, .int i_8), (4, .int 2), (0, .ref h0), (1, .ref h1), (2, .int p2), (3, .int p3)]) (fun (i_8, i_9, σ_10, ρ_11) => (2 - i_9.toInt).toNat) ?_ ⟨0, 0, σ, ρ⟩ ⟨(by decide), (by decide), rfl, hB, hS, lv_sub hl [0, 1, 2, 3, 4, 5, 6] rfl⟩
      rintro ⟨i_8, i_9, σ_10, ρ_11⟩ H locs ls ⟨li_9, ui_9, k_13, hB, hS, hl⟩ ih_12
      refine lv_iload hx hb dX1_giftsFrom_59 (lv_at hl 0 rfl) ?_
      refine lv_iload hx hb dX1_giftsFrom_61 (lv_at hl 2 rfl) ?_
      refine lv_icmp_ge (tgt := 162) hx hb dX1_giftsFrom_63 (by decide) (fun c_14 => ?_) (fun c_14 => ?_)
      · skip
        have uc_14 := i_ge (n := 2) (by decide) c_14
        refine lv_iload hx hb dX1_giftsFrom_162 (lv_at hl 1 rfl) ?_
        exact W.iret (v := i_8) hx hb hr (fun t ht hW => ⟨⟨i_8, (σ_10, ρ_11), rfl, ⟨hB.2.1, hB.2.2, trivial⟩, (show TP D cA L T r σ_10 ρ_11 t.heap from by rw [ht]; exact hB.1)⟩, hS.F ht⟩) hS.2.2 dX1_giftsFrom_164
      · skip
        have uc_14 := i_nge (n := 2) (by decide) c_14
        refine lv_aload_n hx hb dX1_giftsFrom_66 rfl (lv_at hl 4 rfl) ?_
        refine lv_iload_n hx hb dX1_giftsFrom_67 rfl (lv_at hl 5 rfl) ?_
        refine lv_iload hx hb dX1_giftsFrom_68 (lv_at hl 0 rfl) ?_
        refine lv_iload_n hx hb dX1_giftsFrom_70 rfl (lv_at hl 5 rfl) ?_
        refine lv_ishl hx hb dX1_giftsFrom_71 ?_
        refine lv_topi (fun x_15 ex_15 => ?_)
        refine t_ci (va_runV (As := [.int p2, .int x_15]) (rest := []) ⟨hx, hb, hml, hown, hts⟩ (cy_X3_askedAt l D cA L T r hG hLA.1 σ_10 ρ_11 hB.2.1 _ h1 mh1 th1 p2 x_15 (by first | omega | decide) (by first | omega | decide)) (cV hts mv_X3_askedAt mw_5_122 rfl rfl ⟨Nat.le_of_ble_eq_true rfl, Nat.le_of_ble_eq_true rfl⟩) (pV hB.1 hK hN mh1 th1 (show shp cA 3 _ _ _ = .inr (3, Fs3 _ _ _) from rfl) rfl) rfl rfl hl.1 rfl (lv_room (Nat.le_of_ble_eq_true rfl)) dX1_giftsFrom_72 ⟨Nat.le_of_ble_eq_true rfl, Nat.le_of_ble_eq_true rfl⟩) hLA hA hB hS (by decide) (fun x_18 σ_16 ρ_17 H locs hB fσ_16 pσ_16 hS => ?_)
        have qσ_16 := FR.nil fσ_16
        subst qσ_16
        obtain ⟨lx_18, ux_18⟩ := pσ_16
        refine lv_istore (lv' := [(7, .int x_18), (6, .int i_9), (5, .int i_8), (4, .int 2), (0, .ref h0), (1, .ref h1), (2, .int p2), (3, .int p3)]) hx hb dX1_giftsFrom_75 hl (by decide) rfl (fun ls hl => ?_)
        refine lv_aload_n hx hb dX1_giftsFrom_77 rfl (lv_at hl 4 rfl) ?_
        refine t_gr hx hb hts hown hK hG hB mh0 th0 fq_1_5 rfl mw_2_131 dX1_giftsFrom_78 (fun b_19 hb_19 mb_19 tb_19 => ?_)
        refine lv_iload hx hb dX1_giftsFrom_81 (lv_at hl 0 rfl) ?_
        refine t_ai hx hb hK hB mb_19 tb_19 ai_28 (fun _ => rfl) (i_in (by omega) (by omega)) dX1_giftsFrom_83 (fun x_20 ex_20 lx_20 ux_20 => ?_)
        have cx_20 := congrArg Int32.toInt ex_20
        refine lv_if_le (tgt := 156) hx hb dX1_giftsFrom_84 (by decide) (fun c_21 => ?_) (fun c_21 => ?_)
        · skip
          have uc_21 := i_le (n := 0) (by decide) c_21
          obtain ⟨x_22, ex_22⟩ : ∃ y : Int32, y = i_9 + 1 := ⟨_, rfl⟩
          have vx_22 := b_add (rfl : i_9.toInt = _) (by decide : (1 : Int32).toInt = 1) ex_22 (by omega) (by omega)
          refine lv_iinc (v := x_22) (lv' := [(6, .int x_22), (7, .int x_18), (5, .int i_8), (4, .int 2), (0, .ref h0), (1, .ref h1), (2, .int p2), (3, .int p3)]) hx hb dX1_giftsFrom_156 hl (k := 1) rfl (by rw [ex_22]; rfl) (by decide) rfl (fun ls hl => ?_)
          refine lv_goto (tgt := 59) hx hb dX1_giftsFrom_159 (by decide) ?_
          exact ih_12 ⟨i_8, x_22, σ_10, ρ_17⟩ _ _ _ ⟨(by omega), (by omega), k_13, hB, hS, lv_sub hl [0, 2, 3, 4, 5, 6, 7] rfl⟩ (by show (2 - x_22.toInt).toNat < (2 - i_9.toInt).toNat; omega)
        · skip
          have uc_21 := i_nle (n := 0) (by decide) c_21
          refine lv_aload_n hx hb dX1_giftsFrom_87 rfl (lv_at hl 4 rfl) ?_
          refine t_gk hx hb hts hown hK hB mh0 th0 fq_1_5 hb_19 mw_2_131 dX1_giftsFrom_88 ?_
          refine lv_iload hx hb dX1_giftsFrom_91 (lv_at hl 0 rfl) ?_
          refine lv_dup2_11 hx hb dX1_giftsFrom_93 rfl rfl ?_
          refine t_ai hx hb hK hB mb_19 tb_19 ai_28 (fun _ => rfl) (i_in (by omega) (by omega)) dX1_giftsFrom_94 (fun x_23 ex_23 lx_23 ux_23 => ?_)
          have qx_23 : x_23 = x_20 := ex_23.trans ex_20.symm
          have qx_23 := qx_23.symm
          subst qx_23
          refine lv_iconst (v := 1) hx hb dX1_giftsFrom_95 (by decide) ?_
          refine lv_isub hx hb dX1_giftsFrom_96 ?_
          refine lv_topi (fun x_24 ex_24 => ?_)
          have vx_24 := b_sub (rfl : x_20.toInt = _) (by decide : (1 : Int32).toInt = 1) ex_24 (by omega) (by omega)
          refine t_si hx hb hK hLA hB hS mb_19 tb_19 ai_28 (i_in (by omega) (by omega)) (i_lo _) (i_hi _) (Or.inr (by decide)) dX1_giftsFrom_97 (fun H locs σ_25 eσ_25 hB hS => ?_)
          have k_26 : σ_25 b_19 x_18.toNatClampNeg = x_24 := by rw [eσ_25]; exact up2_same _ _ _ _
          refine lv_aload_n hx hb dX1_giftsFrom_98 rfl (lv_at hl 4 rfl) ?_
          refine t_gr hx hb hts hown hK hG hB mh0 th0 fq_1_2 rfl mw_2_127 dX1_giftsFrom_99 (fun b_27 hb_27 mb_27 tb_27 => ?_)
          refine lv_iload_n hx hb dX1_giftsFrom_102 rfl (lv_at hl 6 rfl) ?_
          refine lv_iload hx hb dX1_giftsFrom_103 (lv_at hl 0 rfl) ?_
          refine t_si hx hb hK hLA hB hS mb_27 tb_27 ai_26 (i_in (by omega) (by omega)) (i_lo _) (i_hi _) (Or.inr (by decide)) dX1_giftsFrom_105 (fun H locs σ_28 eσ_28 hB hS => ?_)
          have k_29 : σ_28 b_27 p2.toNatClampNeg = x_18 := by rw [eσ_28]; exact up2_same _ _ _ _
          refine lv_aload_n hx hb dX1_giftsFrom_106 rfl (lv_at hl 4 rfl) ?_
          refine lv_aload_n hx hb dX1_giftsFrom_107 rfl (lv_at hl 5 rfl) ?_
          refine lv_iload_n hx hb dX1_giftsFrom_108 rfl (lv_at hl 6 rfl) ?_
          refine lv_iconst (v := 1) hx hb dX1_giftsFrom_109 (by decide) ?_
          refine lv_iadd hx hb dX1_giftsFrom_110 ?_
          refine lv_topi (fun x_30 ex_30 => ?_)
          have vx_30 := b_add (rfl : p2.toInt = _) (by decide : (1 : Int32).toInt = 1) ex_30 (by omega) (by omega)
          refine lv_iload_n hx hb dX1_giftsFrom_111 rfl (lv_at hl 7 rfl) ?_
          refine lv_iload hx hb dX1_giftsFrom_112 (lv_at hl 2 rfl) ?_
          refine lv_iadd hx hb dX1_giftsFrom_114 ?_
          refine lv_topi (fun x_31 ex_31 => ?_)
          try have vx_31 := b_add (rfl : p3.toInt = _) (rfl : i_8.toInt = _) ex_31 (by omega) (by omega)
          have k_32 : σ_25 h0 8 = (σ h0 8) := by rw [eσ_25, up2_nea _ _ (tg_ne th0 tb_19 (by decide))]; exact k_13
          have k_33 : σ_28 h0 8 = (σ h0 8) := by rw [eσ_28, up2_nea _ _ (tg_ne th0 tb_27 (by decide))]; exact k_32
          refine t_ci (va_runV (As := [.ref h1, .int x_30, .int x_31]) (rest := []) ⟨hx, hb, hml, hown, hts⟩ (cy_X1_giftsFrom_0 l D cA L T r hG hLA.1 σ_28 ρ_17 hB.2.1 _ h0 mh0 th0 h1 mh1 th1 x_30 x_31 (by first | omega | decide) (by first | omega | decide) (by rw [k_33]; omega) (by rw [k_33]; omega)) (cV hts mv_X1_giftsFrom mw_5_118 rfl rfl ⟨Nat.le_of_ble_eq_true rfl, Nat.le_of_ble_eq_true rfl⟩) (pV hB.1 hK hN mh0 th0 (show shp cA 1 _ _ _ = .inr (1, Fs1 _ _ _) from rfl) rfl) rfl rfl hl.1 rfl (lv_room (Nat.le_of_ble_eq_true rfl)) dX1_giftsFrom_115 ⟨Nat.le_of_ble_eq_true rfl, Nat.le_of_ble_eq_true rfl⟩) hLA hA hB hS (by decide) (fun x_36 σ_34 ρ_35 H locs hB fσ_34 pσ_34 hS => ?_)
          refine lv_istore (lv' := [(8, .int x_36), (7, .int x_18), (6, .int i_9), (5, .int i_8), (4, .int 2), (0, .ref h0), (1, .ref h1), (2, .int p2), (3, .int p3)]) hx hb dX1_giftsFrom_118 hl (by decide) rfl (fun ls hl => ?_)
          refine lv_aload_n hx hb dX1_giftsFrom_120 rfl (lv_at hl 5 rfl) ?_
          refine t_gk hx hb hts hown hK hB mh0 th0 fq_1_5 hb_19 mw_2_131 dX1_giftsFrom_121 ?_
          refine lv_iload hx hb dX1_giftsFrom_124 (lv_at hl 1 rfl) ?_
          refine lv_dup2_11 hx hb dX1_giftsFrom_126 rfl rfl ?_
          have k_37 : σ_28 b_19 x_18.toNatClampNeg = x_24 := by rw [eσ_28, up2_nea _ _ (tg_ne tb_19 tb_27 (by decide))]; exact k_26
          have k_38 : σ_34 b_19 x_18.toNatClampNeg = x_24 := (FR.at fσ_34 tb_19 (by simp)).trans k_37
          refine t_ai hx hb hK hB mb_19 tb_19 ai_28 (fun _ => rfl) (i_in (by omega) (by omega)) dX1_giftsFrom_127 (fun x_39 ex_39 lx_39 ux_39 => ?_)
          have qx_39 : x_39 = x_24 := ex_39.trans k_38
          have qx_39 := qx_39.symm
          subst qx_39
          refine lv_iconst (v := 1) hx hb dX1_giftsFrom_128 (by decide) ?_
          refine lv_iadd hx hb dX1_giftsFrom_129 ?_
          refine lv_topi (fun x_40 ex_40 => ?_)
          have vx_40 := b_add (rfl : x_24.toInt = _) (by decide : (1 : Int32).toInt = 1) ex_40 (by omega) (by omega)
          refine t_si hx hb hK hLA hB hS mb_19 tb_19 ai_28 (i_in (by omega) (by omega)) (i_lo _) (i_hi _) (Or.inr (by decide)) dX1_giftsFrom_130 (fun H locs σ_41 eσ_41 hB hS => ?_)
          have k_42 : σ_41 b_19 x_18.toNatClampNeg = x_40 := by rw [eσ_41]; exact up2_same _ _ _ _
          refine lv_iload hx hb dX1_giftsFrom_131 (lv_at hl 0 rfl) ?_
          refine lv_if_le (tgt := 149) hx hb dX1_giftsFrom_133 (by decide) (fun c_43 => ?_) (fun c_43 => ?_)
          · skip
            have uc_43 := i_le (n := 0) (by decide) c_43
            refine lv_iload hx hb dX1_giftsFrom_149 (lv_at hl 3 rfl) ?_
            refine lv_iload hx hb dX1_giftsFrom_151 (lv_at hl 0 rfl) ?_
            refine lv_iadd hx hb dX1_giftsFrom_153 ?_
            refine lv_topi (fun x_44 ex_44 => ?_)
            try have vx_44 := b_add (rfl : i_8.toInt = _) (rfl : x_36.toInt = _) ex_44 (by omega) (by omega)
            refine lv_istore (lv' := [(5, .int x_44), (8, .int x_36), (7, .int x_18), (6, .int i_9), (4, .int 2), (0, .ref h0), (1, .ref h1), (2, .int p2), (3, .int p3)]) hx hb dX1_giftsFrom_154 hl (by decide) rfl (fun ls hl => ?_)
            obtain ⟨x_45, ex_45⟩ : ∃ y : Int32, y = i_9 + 1 := ⟨_, rfl⟩
            have vx_45 := b_add (rfl : i_9.toInt = _) (by decide : (1 : Int32).toInt = 1) ex_45 (by omega) (by omega)
            refine lv_iinc (v := x_45) (lv' := [(6, .int x_45), (5, .int x_44), (8, .int x_36), (7, .int x_18), (4, .int 2), (0, .ref h0), (1, .ref h1), (2, .int p2), (3, .int p3)]) hx hb dX1_giftsFrom_156 hl (k := 3) rfl (by rw [ex_45]; rfl) (by decide) rfl (fun ls hl => ?_)
            refine lv_goto (tgt := 59) hx hb dX1_giftsFrom_159 (by decide) ?_
            have k_46 : σ_34 h0 8 = (σ h0 8) := (FR.at fσ_34 th0 (by decide)).trans k_33
            have k_47 : σ_41 h0 8 = (σ h0 8) := by rw [eσ_41, up2_nea _ _ (tg_ne th0 tb_19 (by decide))]; exact k_46
            exact ih_12 ⟨x_44, x_45, σ_41, ρ_35⟩ _ _ _ ⟨(by omega), (by omega), k_47, hB, hS, lv_sub hl [0, 1, 4, 5, 6, 7, 8] rfl⟩ (by show (2 - x_45.toInt).toNat < (2 - i_9.toInt).toNat; omega)
          · skip
            have uc_43 := i_nle (n := 0) (by decide) c_43
            refine lv_aload_n hx hb dX1_giftsFrom_136 rfl (lv_at hl 5 rfl) ?_
            refine t_gr hx hb hts hown hK hG hB mh0 th0 fq_1_6 rfl mw_2_132 dX1_giftsFrom_137 (fun b_48 hb_48 mb_48 tb_48 => ?_)
            refine lv_iload_n hx hb dX1_giftsFrom_140 rfl (lv_at hl 7 rfl) ?_
            refine lv_dup2_11 hx hb dX1_giftsFrom_141 rfl rfl ?_
            refine t_ai hx hb hK hB mb_48 tb_48 ai_29 (fun _ => rfl) (i_in (by omega) (by omega)) dX1_giftsFrom_142 (fun x_49 ex_49 lx_49 ux_49 => ?_)
            have cx_49 := congrArg Int32.toInt ex_49
            refine lv_iconst (v := 1) hx hb dX1_giftsFrom_143 (by decide) ?_
            refine lv_iload hx hb dX1_giftsFrom_144 (lv_at hl 1 rfl) ?_
            refine lv_ishl hx hb dX1_giftsFrom_146 ?_
            refine lv_topi (fun x_50 ex_50 => ?_)
            refine lv_ior hx hb dX1_giftsFrom_147 ?_
            refine lv_topi (fun x_51 ex_51 => ?_)
            refine t_si hx hb hK hLA hB hS mb_48 tb_48 ai_29 (i_in (by omega) (by omega)) (i_lo _) (i_hi _) (Or.inr (by decide)) dX1_giftsFrom_148 (fun H locs σ_52 eσ_52 hB hS => ?_)
            have k_53 : σ_52 b_48 p2.toNatClampNeg = x_51 := by rw [eσ_52]; exact up2_same _ _ _ _
            refine lv_iload hx hb dX1_giftsFrom_149 (lv_at hl 3 rfl) ?_
            refine lv_iload hx hb dX1_giftsFrom_151 (lv_at hl 0 rfl) ?_
            refine lv_iadd hx hb dX1_giftsFrom_153 ?_
            refine lv_topi (fun x_54 ex_54 => ?_)
            try have vx_54 := b_add (rfl : i_8.toInt = _) (rfl : x_36.toInt = _) ex_54 (by omega) (by omega)
            refine lv_istore (lv' := [(5, .int x_54), (8, .int x_36), (7, .int x_18), (6, .int i_9), (4, .int 2), (0, .ref h0), (1, .ref h1), (2, .int p2), (3, .int p3)]) hx hb dX1_giftsFrom_154 hl (by decide) rfl (fun ls hl => ?_)
            obtain ⟨x_55, ex_55⟩ : ∃ y : Int32, y = i_9 + 1 := ⟨_, rfl⟩
            have vx_55 := b_add (rfl : i_9.toInt = _) (by decide : (1 : Int32).toInt = 1) ex_55 (by omega) (by omega)
            refine lv_iinc (v := x_55) (lv' := [(6, .int x_55), (5, .int x_54), (8, .int x_36), (7, .int x_18), (4, .int 2), (0, .ref h0), (1, .ref h1), (2, .int p2), (3, .int p3)]) hx hb dX1_giftsFrom_156 hl (k := 3) rfl (by rw [ex_55]; rfl) (by decide) rfl (fun ls hl => ?_)
            refine lv_goto (tgt := 59) hx hb dX1_giftsFrom_159 (by decide) ?_
            have k_56 : σ_34 h0 8 = (σ h0 8) := (FR.at fσ_34 th0 (by decide)).trans k_33
            have k_57 : σ_41 h0 8 = (σ h0 8) := by rw [eσ_41, up2_nea _ _ (tg_ne th0 tb_19 (by decide))]; exact k_56
            have k_58 : σ_52 h0 8 = (σ h0 8) := by rw [eσ_52, up2_nea _ _ (tg_ne th0 tb_48 (by decide))]; exact k_57
            exact ih_12 ⟨x_54, x_55, σ_52, ρ_35⟩ _ _ _ ⟨(by omega), (by omega), k_58, hB, hS, lv_sub hl [0, 1, 4, 5, 6, 7, 8] rfl⟩ (by show (2 - x_55.toInt).toNat < (2 - i_9.toInt).toNat; omega)
    · skip
      have uc_7 := j_eq c_7
      refine lv_iconst (v := 1) hx hb dX1_giftsFrom_46 (by decide) ?_
      refine lv_goto (tgt := 51) hx hb dX1_giftsFrom_47 (by decide) ?_
      refine lv_istore (lv' := [(4, .int 1), (0, .ref h0), (1, .ref h1), (2, .int p2), (3, .int p3)]) hx hb dX1_giftsFrom_51 hl (by decide) rfl (fun ls hl => ?_)
      refine lv_iconst (v := 0) hx hb dX1_giftsFrom_53 (by decide) ?_
      refine lv_istore (lv' := [(5, .int 0), (4, .int 1), (0, .ref h0), (1, .ref h1), (2, .int p2), (3, .int p3)]) hx hb dX1_giftsFrom_54 hl (by decide) rfl (fun ls hl => ?_)
      refine lv_iconst (v := 0) hx hb dX1_giftsFrom_56 (by decide) ?_
      refine lv_istore (lv' := [(6, .int 0), (5, .int 0), (4, .int 1), (0, .ref h0), (1, .ref h1), (2, .int p2), (3, .int p3)]) hx hb dX1_giftsFrom_57 hl (by decide) rfl (fun ls hl => ?_)
      refine w_loop (α := Int32 × Int32 × Sg × Lg) (fun (i_59, i_60, σ_61, ρ_62) H locs ls => 0 ≤ i_60.toInt ∧ i_60.toInt ≤ 1 ∧ σ_61 h0 8 = (σ h0 8) ∧ TS D cA L T r ry [(26, 1000), (28, 1000), (29, 1000), (30, 1000)] σ σ_61 ρ_62 H ∧ va_S (dm L s.heap.size) s.heap H locs ∧ lv_has ls 9 [(6, .int i_60), (5, .int i_59), (4, .int 1), (0, .ref h0), (1, .ref h1), (2, .int p2), (3, .int p3)]) (fun (i_59, i_60, σ_61, ρ_62) => (1 - i_60.toInt).toNat) ?_ ⟨0, 0, σ, ρ⟩ ⟨(by decide), (by decide), rfl, hB, hS, lv_sub hl [0, 1, 2, 3, 4, 5, 6] rfl⟩
      rintro ⟨i_59, i_60, σ_61, ρ_62⟩ H locs ls ⟨li_60, ui_60, k_64, hB, hS, hl⟩ ih_63
      refine lv_iload hx hb dX1_giftsFrom_59 (lv_at hl 0 rfl) ?_
      refine lv_iload hx hb dX1_giftsFrom_61 (lv_at hl 2 rfl) ?_
      refine lv_icmp_ge (tgt := 162) hx hb dX1_giftsFrom_63 (by decide) (fun c_65 => ?_) (fun c_65 => ?_)
      · skip
        have uc_65 := i_ge (n := 1) (by decide) c_65
        refine lv_iload hx hb dX1_giftsFrom_162 (lv_at hl 1 rfl) ?_
        exact W.iret (v := i_59) hx hb hr (fun t ht hW => ⟨⟨i_59, (σ_61, ρ_62), rfl, ⟨hB.2.1, hB.2.2, trivial⟩, (show TP D cA L T r σ_61 ρ_62 t.heap from by rw [ht]; exact hB.1)⟩, hS.F ht⟩) hS.2.2 dX1_giftsFrom_164
      · skip
        have uc_65 := i_nge (n := 1) (by decide) c_65
        refine lv_aload_n hx hb dX1_giftsFrom_66 rfl (lv_at hl 4 rfl) ?_
        refine lv_iload_n hx hb dX1_giftsFrom_67 rfl (lv_at hl 5 rfl) ?_
        refine lv_iload hx hb dX1_giftsFrom_68 (lv_at hl 0 rfl) ?_
        refine lv_iload_n hx hb dX1_giftsFrom_70 rfl (lv_at hl 5 rfl) ?_
        refine lv_ishl hx hb dX1_giftsFrom_71 ?_
        refine lv_topi (fun x_66 ex_66 => ?_)
        refine t_ci (va_runV (As := [.int p2, .int x_66]) (rest := []) ⟨hx, hb, hml, hown, hts⟩ (cy_X3_askedAt l D cA L T r hG hLA.1 σ_61 ρ_62 hB.2.1 _ h1 mh1 th1 p2 x_66 (by first | omega | decide) (by first | omega | decide)) (cV hts mv_X3_askedAt mw_5_122 rfl rfl ⟨Nat.le_of_ble_eq_true rfl, Nat.le_of_ble_eq_true rfl⟩) (pV hB.1 hK hN mh1 th1 (show shp cA 3 _ _ _ = .inr (3, Fs3 _ _ _) from rfl) rfl) rfl rfl hl.1 rfl (lv_room (Nat.le_of_ble_eq_true rfl)) dX1_giftsFrom_72 ⟨Nat.le_of_ble_eq_true rfl, Nat.le_of_ble_eq_true rfl⟩) hLA hA hB hS (by decide) (fun x_69 σ_67 ρ_68 H locs hB fσ_67 pσ_67 hS => ?_)
        have qσ_67 := FR.nil fσ_67
        subst qσ_67
        obtain ⟨lx_69, ux_69⟩ := pσ_67
        refine lv_istore (lv' := [(7, .int x_69), (6, .int i_60), (5, .int i_59), (4, .int 1), (0, .ref h0), (1, .ref h1), (2, .int p2), (3, .int p3)]) hx hb dX1_giftsFrom_75 hl (by decide) rfl (fun ls hl => ?_)
        refine lv_aload_n hx hb dX1_giftsFrom_77 rfl (lv_at hl 4 rfl) ?_
        refine t_gr hx hb hts hown hK hG hB mh0 th0 fq_1_5 rfl mw_2_131 dX1_giftsFrom_78 (fun b_70 hb_70 mb_70 tb_70 => ?_)
        refine lv_iload hx hb dX1_giftsFrom_81 (lv_at hl 0 rfl) ?_
        refine t_ai hx hb hK hB mb_70 tb_70 ai_28 (fun _ => rfl) (i_in (by omega) (by omega)) dX1_giftsFrom_83 (fun x_71 ex_71 lx_71 ux_71 => ?_)
        have cx_71 := congrArg Int32.toInt ex_71
        refine lv_if_le (tgt := 156) hx hb dX1_giftsFrom_84 (by decide) (fun c_72 => ?_) (fun c_72 => ?_)
        · skip
          have uc_72 := i_le (n := 0) (by decide) c_72
          obtain ⟨x_73, ex_73⟩ : ∃ y : Int32, y = i_60 + 1 := ⟨_, rfl⟩
          have vx_73 := b_add (rfl : i_60.toInt = _) (by decide : (1 : Int32).toInt = 1) ex_73 (by omega) (by omega)
          refine lv_iinc (v := x_73) (lv' := [(6, .int x_73), (7, .int x_69), (5, .int i_59), (4, .int 1), (0, .ref h0), (1, .ref h1), (2, .int p2), (3, .int p3)]) hx hb dX1_giftsFrom_156 hl (k := 1) rfl (by rw [ex_73]; rfl) (by decide) rfl (fun ls hl => ?_)
          refine lv_goto (tgt := 59) hx hb dX1_giftsFrom_159 (by decide) ?_
          exact ih_63 ⟨i_59, x_73, σ_61, ρ_68⟩ _ _ _ ⟨(by omega), (by omega), k_64, hB, hS, lv_sub hl [0, 2, 3, 4, 5, 6, 7] rfl⟩ (by show (1 - x_73.toInt).toNat < (1 - i_60.toInt).toNat; omega)
        · skip
          have uc_72 := i_nle (n := 0) (by decide) c_72
          refine lv_aload_n hx hb dX1_giftsFrom_87 rfl (lv_at hl 4 rfl) ?_
          refine t_gk hx hb hts hown hK hB mh0 th0 fq_1_5 hb_70 mw_2_131 dX1_giftsFrom_88 ?_
          refine lv_iload hx hb dX1_giftsFrom_91 (lv_at hl 0 rfl) ?_
          refine lv_dup2_11 hx hb dX1_giftsFrom_93 rfl rfl ?_
          refine t_ai hx hb hK hB mb_70 tb_70 ai_28 (fun _ => rfl) (i_in (by omega) (by omega)) dX1_giftsFrom_94 (fun x_74 ex_74 lx_74 ux_74 => ?_)
          have qx_74 : x_74 = x_71 := ex_74.trans ex_71.symm
          have qx_74 := qx_74.symm
          subst qx_74
          refine lv_iconst (v := 1) hx hb dX1_giftsFrom_95 (by decide) ?_
          refine lv_isub hx hb dX1_giftsFrom_96 ?_
          refine lv_topi (fun x_75 ex_75 => ?_)
          have vx_75 := b_sub (rfl : x_71.toInt = _) (by decide : (1 : Int32).toInt = 1) ex_75 (by omega) (by omega)
          refine t_si hx hb hK hLA hB hS mb_70 tb_70 ai_28 (i_in (by omega) (by omega)) (i_lo _) (i_hi _) (Or.inr (by decide)) dX1_giftsFrom_97 (fun H locs σ_76 eσ_76 hB hS => ?_)
          have k_77 : σ_76 b_70 x_69.toNatClampNeg = x_75 := by rw [eσ_76]; exact up2_same _ _ _ _
          refine lv_aload_n hx hb dX1_giftsFrom_98 rfl (lv_at hl 4 rfl) ?_
          refine t_gr hx hb hts hown hK hG hB mh0 th0 fq_1_2 rfl mw_2_127 dX1_giftsFrom_99 (fun b_78 hb_78 mb_78 tb_78 => ?_)
          refine lv_iload_n hx hb dX1_giftsFrom_102 rfl (lv_at hl 6 rfl) ?_
          refine lv_iload hx hb dX1_giftsFrom_103 (lv_at hl 0 rfl) ?_
          refine t_si hx hb hK hLA hB hS mb_78 tb_78 ai_26 (i_in (by omega) (by omega)) (i_lo _) (i_hi _) (Or.inr (by decide)) dX1_giftsFrom_105 (fun H locs σ_79 eσ_79 hB hS => ?_)
          have k_80 : σ_79 b_78 p2.toNatClampNeg = x_69 := by rw [eσ_79]; exact up2_same _ _ _ _
          refine lv_aload_n hx hb dX1_giftsFrom_106 rfl (lv_at hl 4 rfl) ?_
          refine lv_aload_n hx hb dX1_giftsFrom_107 rfl (lv_at hl 5 rfl) ?_
          refine lv_iload_n hx hb dX1_giftsFrom_108 rfl (lv_at hl 6 rfl) ?_
          refine lv_iconst (v := 1) hx hb dX1_giftsFrom_109 (by decide) ?_
          refine lv_iadd hx hb dX1_giftsFrom_110 ?_
          refine lv_topi (fun x_81 ex_81 => ?_)
          have vx_81 := b_add (rfl : p2.toInt = _) (by decide : (1 : Int32).toInt = 1) ex_81 (by omega) (by omega)
          refine lv_iload_n hx hb dX1_giftsFrom_111 rfl (lv_at hl 7 rfl) ?_
          refine lv_iload hx hb dX1_giftsFrom_112 (lv_at hl 2 rfl) ?_
          refine lv_iadd hx hb dX1_giftsFrom_114 ?_
          refine lv_topi (fun x_82 ex_82 => ?_)
          try have vx_82 := b_add (rfl : p3.toInt = _) (rfl : i_59.toInt = _) ex_82 (by omega) (by omega)
          have k_83 : σ_76 h0 8 = (σ h0 8) := by rw [eσ_76, up2_nea _ _ (tg_ne th0 tb_70 (by decide))]; exact k_64
          have k_84 : σ_79 h0 8 = (σ h0 8) := by rw [eσ_79, up2_nea _ _ (tg_ne th0 tb_78 (by decide))]; exact k_83
          refine t_ci (va_runV (As := [.ref h1, .int x_81, .int x_82]) (rest := []) ⟨hx, hb, hml, hown, hts⟩ (cy_X1_giftsFrom_0 l D cA L T r hG hLA.1 σ_79 ρ_68 hB.2.1 _ h0 mh0 th0 h1 mh1 th1 x_81 x_82 (by first | omega | decide) (by first | omega | decide) (by rw [k_84]; omega) (by rw [k_84]; omega)) (cV hts mv_X1_giftsFrom mw_5_118 rfl rfl ⟨Nat.le_of_ble_eq_true rfl, Nat.le_of_ble_eq_true rfl⟩) (pV hB.1 hK hN mh0 th0 (show shp cA 1 _ _ _ = .inr (1, Fs1 _ _ _) from rfl) rfl) rfl rfl hl.1 rfl (lv_room (Nat.le_of_ble_eq_true rfl)) dX1_giftsFrom_115 ⟨Nat.le_of_ble_eq_true rfl, Nat.le_of_ble_eq_true rfl⟩) hLA hA hB hS (by decide) (fun x_87 σ_85 ρ_86 H locs hB fσ_85 pσ_85 hS => ?_)
          refine lv_istore (lv' := [(8, .int x_87), (7, .int x_69), (6, .int i_60), (5, .int i_59), (4, .int 1), (0, .ref h0), (1, .ref h1), (2, .int p2), (3, .int p3)]) hx hb dX1_giftsFrom_118 hl (by decide) rfl (fun ls hl => ?_)
          refine lv_aload_n hx hb dX1_giftsFrom_120 rfl (lv_at hl 5 rfl) ?_
          refine t_gk hx hb hts hown hK hB mh0 th0 fq_1_5 hb_70 mw_2_131 dX1_giftsFrom_121 ?_
          refine lv_iload hx hb dX1_giftsFrom_124 (lv_at hl 1 rfl) ?_
          refine lv_dup2_11 hx hb dX1_giftsFrom_126 rfl rfl ?_
          have k_88 : σ_79 b_70 x_69.toNatClampNeg = x_75 := by rw [eσ_79, up2_nea _ _ (tg_ne tb_70 tb_78 (by decide))]; exact k_77
          have k_89 : σ_85 b_70 x_69.toNatClampNeg = x_75 := (FR.at fσ_85 tb_70 (by simp)).trans k_88
          refine t_ai hx hb hK hB mb_70 tb_70 ai_28 (fun _ => rfl) (i_in (by omega) (by omega)) dX1_giftsFrom_127 (fun x_90 ex_90 lx_90 ux_90 => ?_)
          have qx_90 : x_90 = x_75 := ex_90.trans k_89
          have qx_90 := qx_90.symm
          subst qx_90
          refine lv_iconst (v := 1) hx hb dX1_giftsFrom_128 (by decide) ?_
          refine lv_iadd hx hb dX1_giftsFrom_129 ?_
          refine lv_topi (fun x_91 ex_91 => ?_)
          have vx_91 := b_add (rfl : x_75.toInt = _) (by decide : (1 : Int32).toInt = 1) ex_91 (by omega) (by omega)
          refine t_si hx hb hK hLA hB hS mb_70 tb_70 ai_28 (i_in (by omega) (by omega)) (i_lo _) (i_hi _) (Or.inr (by decide)) dX1_giftsFrom_130 (fun H locs σ_92 eσ_92 hB hS => ?_)
          have k_93 : σ_92 b_70 x_69.toNatClampNeg = x_91 := by rw [eσ_92]; exact up2_same _ _ _ _
          refine lv_iload hx hb dX1_giftsFrom_131 (lv_at hl 0 rfl) ?_
          refine lv_if_le (tgt := 149) hx hb dX1_giftsFrom_133 (by decide) (fun c_94 => ?_) (fun c_94 => ?_)
          · skip
            have uc_94 := i_le (n := 0) (by decide) c_94
            refine lv_iload hx hb dX1_giftsFrom_149 (lv_at hl 3 rfl) ?_
            refine lv_iload hx hb dX1_giftsFrom_151 (lv_at hl 0 rfl) ?_
            refine lv_iadd hx hb dX1_giftsFrom_153 ?_
            refine lv_topi (fun x_95 ex_95 => ?_)
            try have vx_95 := b_add (rfl : i_59.toInt = _) (rfl : x_87.toInt = _) ex_95 (by omega) (by omega)
            refine lv_istore (lv' := [(5, .int x_95), (8, .int x_87), (7, .int x_69), (6, .int i_60), (4, .int 1), (0, .ref h0), (1, .ref h1), (2, .int p2), (3, .int p3)]) hx hb dX1_giftsFrom_154 hl (by decide) rfl (fun ls hl => ?_)
            obtain ⟨x_96, ex_96⟩ : ∃ y : Int32, y = i_60 + 1 := ⟨_, rfl⟩
            have vx_96 := b_add (rfl : i_60.toInt = _) (by decide : (1 : Int32).toInt = 1) ex_96 (by omega) (by omega)
            refine lv_iinc (v := x_96) (lv' := [(6, .int x_96), (5, .int x_95), (8, .int x_87), (7, .int x_69), (4, .int 1), (0, .ref h0), (1, .ref h1), (2, .int p2), (3, .int p3)]) hx hb dX1_giftsFrom_156 hl (k := 3) rfl (by rw [ex_96]; rfl) (by decide) rfl (fun ls hl => ?_)
            refine lv_goto (tgt := 59) hx hb dX1_giftsFrom_159 (by decide) ?_
            have k_97 : σ_85 h0 8 = (σ h0 8) := (FR.at fσ_85 th0 (by decide)).trans k_84
            have k_98 : σ_92 h0 8 = (σ h0 8) := by rw [eσ_92, up2_nea _ _ (tg_ne th0 tb_70 (by decide))]; exact k_97
            exact ih_63 ⟨x_95, x_96, σ_92, ρ_86⟩ _ _ _ ⟨(by omega), (by omega), k_98, hB, hS, lv_sub hl [0, 1, 4, 5, 6, 7, 8] rfl⟩ (by show (1 - x_96.toInt).toNat < (1 - i_60.toInt).toNat; omega)
          · skip
            have uc_94 := i_nle (n := 0) (by decide) c_94
            refine lv_aload_n hx hb dX1_giftsFrom_136 rfl (lv_at hl 5 rfl) ?_
            refine t_gr hx hb hts hown hK hG hB mh0 th0 fq_1_6 rfl mw_2_132 dX1_giftsFrom_137 (fun b_99 hb_99 mb_99 tb_99 => ?_)
            refine lv_iload_n hx hb dX1_giftsFrom_140 rfl (lv_at hl 7 rfl) ?_
            refine lv_dup2_11 hx hb dX1_giftsFrom_141 rfl rfl ?_
            refine t_ai hx hb hK hB mb_99 tb_99 ai_29 (fun _ => rfl) (i_in (by omega) (by omega)) dX1_giftsFrom_142 (fun x_100 ex_100 lx_100 ux_100 => ?_)
            have cx_100 := congrArg Int32.toInt ex_100
            refine lv_iconst (v := 1) hx hb dX1_giftsFrom_143 (by decide) ?_
            refine lv_iload hx hb dX1_giftsFrom_144 (lv_at hl 1 rfl) ?_
            refine lv_ishl hx hb dX1_giftsFrom_146 ?_
            refine lv_topi (fun x_101 ex_101 => ?_)
            refine lv_ior hx hb dX1_giftsFrom_147 ?_
            refine lv_topi (fun x_102 ex_102 => ?_)
            refine t_si hx hb hK hLA hB hS mb_99 tb_99 ai_29 (i_in (by omega) (by omega)) (i_lo _) (i_hi _) (Or.inr (by decide)) dX1_giftsFrom_148 (fun H locs σ_103 eσ_103 hB hS => ?_)
            have k_104 : σ_103 b_99 p2.toNatClampNeg = x_102 := by rw [eσ_103]; exact up2_same _ _ _ _
            refine lv_iload hx hb dX1_giftsFrom_149 (lv_at hl 3 rfl) ?_
            refine lv_iload hx hb dX1_giftsFrom_151 (lv_at hl 0 rfl) ?_
            refine lv_iadd hx hb dX1_giftsFrom_153 ?_
            refine lv_topi (fun x_105 ex_105 => ?_)
            try have vx_105 := b_add (rfl : i_59.toInt = _) (rfl : x_87.toInt = _) ex_105 (by omega) (by omega)
            refine lv_istore (lv' := [(5, .int x_105), (8, .int x_87), (7, .int x_69), (6, .int i_60), (4, .int 1), (0, .ref h0), (1, .ref h1), (2, .int p2), (3, .int p3)]) hx hb dX1_giftsFrom_154 hl (by decide) rfl (fun ls hl => ?_)
            obtain ⟨x_106, ex_106⟩ : ∃ y : Int32, y = i_60 + 1 := ⟨_, rfl⟩
            have vx_106 := b_add (rfl : i_60.toInt = _) (by decide : (1 : Int32).toInt = 1) ex_106 (by omega) (by omega)
            refine lv_iinc (v := x_106) (lv' := [(6, .int x_106), (5, .int x_105), (8, .int x_87), (7, .int x_69), (4, .int 1), (0, .ref h0), (1, .ref h1), (2, .int p2), (3, .int p3)]) hx hb dX1_giftsFrom_156 hl (k := 3) rfl (by rw [ex_106]; rfl) (by decide) rfl (fun ls hl => ?_)
            refine lv_goto (tgt := 59) hx hb dX1_giftsFrom_159 (by decide) ?_
            have k_107 : σ_85 h0 8 = (σ h0 8) := (FR.at fσ_85 th0 (by decide)).trans k_84
            have k_108 : σ_92 h0 8 = (σ h0 8) := by rw [eσ_92, up2_nea _ _ (tg_ne th0 tb_70 (by decide))]; exact k_107
            have k_109 : σ_103 h0 8 = (σ h0 8) := by rw [eσ_103, up2_nea _ _ (tg_ne th0 tb_99 (by decide))]; exact k_108
            exact ih_63 ⟨x_105, x_106, σ_103, ρ_86⟩ _ _ _ ⟨(by omega), (by omega), k_109, hB, hS, lv_sub hl [0, 1, 4, 5, 6, 7, 8] rfl⟩ (by show (1 - x_106.toInt).toNat < (1 - i_60.toInt).toNat; omega)
  · skip
    have uc_2 := j_nlt c_2
    refine lv_iload_n hx hb dX1_giftsFrom_8 rfl (lv_at hl 3 rfl) ?_
    refine lv_if_ne (tgt := 29) hx hb dX1_giftsFrom_9 (by decide) (fun c_110 => ?_) (fun c_110 => ?_)
    · skip
      have uc_110 := i_ne (n := 0) (by decide) c_110
      refine lv_iconst (v := 1) hx hb dX1_giftsFrom_29 (by decide) ?_
      exact W.iret (v := 1) hx hb hr (fun t ht hW => ⟨⟨1, (σ, ρ), rfl, ⟨hB.2.1, hB.2.2, trivial⟩, (show TP D cA L T r σ ρ t.heap from by rw [ht]; exact hB.1)⟩, hS.F ht⟩) hS.2.2 dX1_giftsFrom_30
    · skip
      have uc_110 := i_eq (n := 0) (by decide) c_110
      refine lv_aload_n hx hb dX1_giftsFrom_12 rfl (lv_at hl 0 rfl) ?_
      refine t_gr hx hb hts hown hK hG hB mh0 th0 fq_1_2 rfl mw_2_127 dX1_giftsFrom_13 (fun b_111 hb_111 mb_111 tb_111 => ?_)
      refine lv_iconst (v := 0) hx hb dX1_giftsFrom_16 (by decide) ?_
      refine lv_aload_n hx hb dX1_giftsFrom_17 rfl (lv_at hl 0 rfl) ?_
      refine t_gr hx hb hts hown hK hG hB mh0 th0 fq_1_7 rfl mw_2_134 dX1_giftsFrom_18 (fun b_112 hb_112 mb_112 tb_112 => ?_)
      refine lv_iconst (v := 0) hx hb dX1_giftsFrom_21 (by decide) ?_
      refine lv_aload_n hx hb dX1_giftsFrom_22 rfl (lv_at hl 0 rfl) ?_
      refine t_gv hx hb hts hown hK hB mh0 th0 fi_1_8 rfl mw_2_136 dX1_giftsFrom_23 ?_
      refine t_cp (lo := (-2147483648)) (hi := 2147483647) hx hb (hml.trans hl.1.symm) hts hown mw_5_84 ⟨mw_3_239, mw_3_238, mw_1_20⟩ hK hLA hB hS mb_111 tb_111 ai_26 mb_112 tb_112 ai_30 (fun _ => ⟨show ((-2147483648) : Int) ≤ (-2147483648) by decide, show (2147483647 : Int) ≤ 2147483647 by decide⟩) (fun _ => rfl) (by decide) (by decide) (by decide) (a_nn (by omega)) (a_cp (by decide) (by omega)) (a_cp (by decide) (by omega)) (Nat.le_of_ble_eq_true rfl) (Nat.le_of_ble_eq_true rfl) dX1_giftsFrom_26 (fun H locs σ_113 eσ_113 hB hS => ?_)
      refine lv_iconst (v := 1) hx hb dX1_giftsFrom_29 (by decide) ?_
      exact W.iret (v := 1) hx hb hr (fun t ht hW => ⟨⟨1, (σ_113, ρ), rfl, ⟨hB.2.1, hB.2.2, trivial⟩, (show TP D cA L T r σ_113 ρ t.heap from by rw [ht]; exact hB.1)⟩, hS.F ht⟩) hS.2.2 dX1_giftsFrom_30
set_option maxHeartbeats 4000000 in
set_option maxRecDepth 100000 in
theorem cy_X1_giftsFrom_2 (l : Launch) (D : va_G) (cA : Nat → ClassId) (L : List Nat) (T : Nat → Nat) (r : Rg) (hG : GR L T r) (hL : L.Nodup) (σ : Sg) (ρ : Lg) (hW : WT L ry T σ) (sz : Nat) (h0 : Nat) (mh0 : h0 ∈ L) (th0 : T h0 = 1) (h1 : Nat) (mh1 : h1 ∈ L) (th1 : T h1 = 3) (p2 : Int32) (p3 : Int32) (w0 : 6 ≤ p2.toInt) (w1 : p2.toInt ≤ 8) (w2 : 0 ≤ (σ h0 8).toInt) (w3 : (σ h0 8).toInt ≤ 8) : Met l yX1_giftsFrom (.code yX1_giftsFrom cX1_giftsFrom 9 (some .int) :: wsA) ({ frames := 3, cells := 0, slots := 0, locals := 156 }) (PR D cA L T r σ ρ sz [.ref h0, .ref h1, .int p2, .int p3]) (QI D cA L T r ry [(26, 1000), (28, 1000), (29, 1000), (30, 1000)] σ sz (fun x σ1 => True)) 0 0 (dm L sz) := by
  refine Met.ofW (cc := cX1_giftsFrom) (maxL := 9) (ret := (some .int)) (by decide) rfl ?_
  intro p e s m args below meth c s₁ B hml hv
  obtain ⟨rfl, hsz, hP, hK, hN⟩ := hv
  have hx := B.exec
  have hb := B.bytes
  have hr := B.returns
  have hts : ∀ w ∈ wsA, w.before _ s = true := fun w h => atoms_spec (ws := .code yX1_giftsFrom cX1_giftsFrom 9 (some .int) :: wsA) B.pre w (List.mem_cons_of_mem _ h)
  have hown : s.vm.findClass RX1 = some m.cls := findClass_of_methodNamed B.named
  subst hsz
  have hLA : LA (dm L s.heap.size) L := ⟨hL, fun a h => Or.inl h⟩
  have hA : ∀ q : Nat, s.heap.size ≤ q → dm L s.heap.size q := fun q h => Or.inr h
  have hS : va_S (dm L s.heap.size) s.heap s.heap [] := va_S.rf
  have hB : TS D cA L T r ry [(26, 1000), (28, 1000), (29, 1000), (30, 1000)] σ σ ρ s.heap := ⟨hP, hW, FR.rf⟩
  have hl := lv_entry ([.ref h0, .ref h1, .int p2, .int p3]) (n := 9) (Nat.le_of_ble_eq_true rfl)
  rw [lg_entry_eq]
  generalize (lg_sl ([.ref h0, .ref h1, .int p2, .int p3]) ++ List.replicate (9 - (lg_sl ([.ref h0, .ref h1, .int p2, .int p3])).length) Slot.unset).toArray = ls at hl ⊢
  have hl : lv_has ls 9 [(0, .ref h0), (1, .ref h1), (2, .int p2), (3, .int p3)] := hl
  have w_1 : (-2147483648) ≤ (σ h0 8).toInt ∧ (σ h0 8).toInt ≤ 2147483647 := by have z := hB.2.1 h0 mh0 8; rw [th0] at z; exact z
  refine lv_iload_n hx hb dX1_giftsFrom_0 rfl (lv_at hl 2 rfl) ?_
  refine lv_aload_n hx hb dX1_giftsFrom_1 rfl (lv_at hl 0 rfl) ?_
  refine t_gv hx hb hts hown hK hB mh0 th0 fi_1_8 rfl mw_2_136 dX1_giftsFrom_2 ?_
  refine lv_icmp_lt (tgt := 31) hx hb dX1_giftsFrom_5 (by decide) (fun c_2 => ?_) (fun c_2 => ?_)
  · skip
    have uc_2 := j_lt c_2
    refine lv_aload_n hx hb dX1_giftsFrom_31 rfl (lv_at hl 1 rfl) ?_
    refine t_gr hx hb hts hown hK hG hB mh1 th1 fq_3_3 rfl mw_1_149 dX1_giftsFrom_32 (fun b_3 hb_3 mb_3 tb_3 => ?_)
    refine lv_iload_n hx hb dX1_giftsFrom_35 rfl (lv_at hl 2 rfl) ?_
    refine t_ai hx hb hK hB mb_3 tb_3 ai_36 (fun _ => rfl) (i_in (by omega) (by omega)) dX1_giftsFrom_36 (fun x_4 ex_4 lx_4 ux_4 => ?_)
    have cx_4 := congrArg Int32.toInt ex_4
    refine lv_aload_n hx hb dX1_giftsFrom_37 rfl (lv_at hl 1 rfl) ?_
    refine t_gr hx hb hts hown hK hG hB mh1 th1 fq_3_4 rfl mw_1_155 dX1_giftsFrom_38 (fun b_5 hb_5 mb_5 tb_5 => ?_)
    refine lv_iload_n hx hb dX1_giftsFrom_41 rfl (lv_at hl 2 rfl) ?_
    refine t_ai hx hb hK hB mb_5 tb_5 ai_37 (fun _ => rfl) (i_in (by omega) (by omega)) dX1_giftsFrom_42 (fun x_6 ex_6 lx_6 ux_6 => ?_)
    have cx_6 := congrArg Int32.toInt ex_6
    refine lv_icmp_ne (tgt := 50) hx hb dX1_giftsFrom_43 (by decide) (fun c_7 => ?_) (fun c_7 => ?_)
    · skip
      have uc_7 := j_ne c_7
      refine lv_iconst (v := 2) hx hb dX1_giftsFrom_50 (by decide) ?_
      refine lv_istore (lv' := [(4, .int 2), (0, .ref h0), (1, .ref h1), (2, .int p2), (3, .int p3)]) hx hb dX1_giftsFrom_51 hl (by decide) rfl (fun ls hl => ?_)
      refine lv_iconst (v := 0) hx hb dX1_giftsFrom_53 (by decide) ?_
      refine lv_istore (lv' := [(5, .int 0), (4, .int 2), (0, .ref h0), (1, .ref h1), (2, .int p2), (3, .int p3)]) hx hb dX1_giftsFrom_54 hl (by decide) rfl (fun ls hl => ?_)
      refine lv_iconst (v := 0) hx hb dX1_giftsFrom_56 (by decide) ?_
      refine lv_istore (lv' := [(6, .int 0), (5, .int 0), (4, .int 2), (0, .ref h0), (1, .ref h1), (2, .int p2), (3, .int p3)]) hx hb dX1_giftsFrom_57 hl (by decide) rfl (fun ls hl => ?_)
      refine w_loop (α := Int32 × Int32 × Sg × Lg) (fun (i_8, i_9, σ_10, ρ_11) H locs ls => 0 ≤ i_9.toInt ∧ i_9.toInt ≤ 2 ∧ σ_10 h0 8 = (σ h0 8) ∧ TS D cA L T r ry [(26, 1000), (28, 1000), (29, 1000), (30, 1000)] σ σ_10 ρ_11 H ∧ va_S (dm L s.heap.size) s.heap H locs ∧ lv_has ls 9 [(6, .int i_9), (5, .int i_8), (4, .int 2), (0, .ref h0), (1, .ref h1), (2, .int p2), (3, .int p3)]) (fun (i_8, i_9, σ_10, ρ_11) => (2 - i_9.toInt).toNat) ?_ ⟨0, 0, σ, ρ⟩ ⟨(by decide), (by decide), rfl, hB, hS, lv_sub hl [0, 1, 2, 3, 4, 5, 6] rfl⟩
      rintro ⟨i_8, i_9, σ_10, ρ_11⟩ H locs ls ⟨li_9, ui_9, k_13, hB, hS, hl⟩ ih_12
      refine lv_iload hx hb dX1_giftsFrom_59 (lv_at hl 0 rfl) ?_
      refine lv_iload hx hb dX1_giftsFrom_61 (lv_at hl 2 rfl) ?_
      refine lv_icmp_ge (tgt := 162) hx hb dX1_giftsFrom_63 (by decide) (fun c_14 => ?_) (fun c_14 => ?_)
      · skip
        have uc_14 := i_ge (n := 2) (by decide) c_14
        refine lv_iload hx hb dX1_giftsFrom_162 (lv_at hl 1 rfl) ?_
        exact W.iret (v := i_8) hx hb hr (fun t ht hW => ⟨⟨i_8, (σ_10, ρ_11), rfl, ⟨hB.2.1, hB.2.2, trivial⟩, (show TP D cA L T r σ_10 ρ_11 t.heap from by rw [ht]; exact hB.1)⟩, hS.F ht⟩) hS.2.2 dX1_giftsFrom_164
      · skip
        have uc_14 := i_nge (n := 2) (by decide) c_14
        refine lv_aload_n hx hb dX1_giftsFrom_66 rfl (lv_at hl 4 rfl) ?_
        refine lv_iload_n hx hb dX1_giftsFrom_67 rfl (lv_at hl 5 rfl) ?_
        refine lv_iload hx hb dX1_giftsFrom_68 (lv_at hl 0 rfl) ?_
        refine lv_iload_n hx hb dX1_giftsFrom_70 rfl (lv_at hl 5 rfl) ?_
        refine lv_ishl hx hb dX1_giftsFrom_71 ?_
        refine lv_topi (fun x_15 ex_15 => ?_)
        refine t_ci (va_runV (As := [.int p2, .int x_15]) (rest := []) ⟨hx, hb, hml, hown, hts⟩ (cy_X3_askedAt l D cA L T r hG hLA.1 σ_10 ρ_11 hB.2.1 _ h1 mh1 th1 p2 x_15 (by first | omega | decide) (by first | omega | decide)) (cV hts mv_X3_askedAt mw_5_122 rfl rfl ⟨Nat.le_of_ble_eq_true rfl, Nat.le_of_ble_eq_true rfl⟩) (pV hB.1 hK hN mh1 th1 (show shp cA 3 _ _ _ = .inr (3, Fs3 _ _ _) from rfl) rfl) rfl rfl hl.1 rfl (lv_room (Nat.le_of_ble_eq_true rfl)) dX1_giftsFrom_72 ⟨Nat.le_of_ble_eq_true rfl, Nat.le_of_ble_eq_true rfl⟩) hLA hA hB hS (by decide) (fun x_18 σ_16 ρ_17 H locs hB fσ_16 pσ_16 hS => ?_)
        have qσ_16 := FR.nil fσ_16
        subst qσ_16
        obtain ⟨lx_18, ux_18⟩ := pσ_16
        refine lv_istore (lv' := [(7, .int x_18), (6, .int i_9), (5, .int i_8), (4, .int 2), (0, .ref h0), (1, .ref h1), (2, .int p2), (3, .int p3)]) hx hb dX1_giftsFrom_75 hl (by decide) rfl (fun ls hl => ?_)
        refine lv_aload_n hx hb dX1_giftsFrom_77 rfl (lv_at hl 4 rfl) ?_
        refine t_gr hx hb hts hown hK hG hB mh0 th0 fq_1_5 rfl mw_2_131 dX1_giftsFrom_78 (fun b_19 hb_19 mb_19 tb_19 => ?_)
        refine lv_iload hx hb dX1_giftsFrom_81 (lv_at hl 0 rfl) ?_
        refine t_ai hx hb hK hB mb_19 tb_19 ai_28 (fun _ => rfl) (i_in (by omega) (by omega)) dX1_giftsFrom_83 (fun x_20 ex_20 lx_20 ux_20 => ?_)
        have cx_20 := congrArg Int32.toInt ex_20
        refine lv_if_le (tgt := 156) hx hb dX1_giftsFrom_84 (by decide) (fun c_21 => ?_) (fun c_21 => ?_)
        · skip
          have uc_21 := i_le (n := 0) (by decide) c_21
          obtain ⟨x_22, ex_22⟩ : ∃ y : Int32, y = i_9 + 1 := ⟨_, rfl⟩
          have vx_22 := b_add (rfl : i_9.toInt = _) (by decide : (1 : Int32).toInt = 1) ex_22 (by omega) (by omega)
          refine lv_iinc (v := x_22) (lv' := [(6, .int x_22), (7, .int x_18), (5, .int i_8), (4, .int 2), (0, .ref h0), (1, .ref h1), (2, .int p2), (3, .int p3)]) hx hb dX1_giftsFrom_156 hl (k := 1) rfl (by rw [ex_22]; rfl) (by decide) rfl (fun ls hl => ?_)
          refine lv_goto (tgt := 59) hx hb dX1_giftsFrom_159 (by decide) ?_
          exact ih_12 ⟨i_8, x_22, σ_10, ρ_17⟩ _ _ _ ⟨(by omega), (by omega), k_13, hB, hS, lv_sub hl [0, 2, 3, 4, 5, 6, 7] rfl⟩ (by show (2 - x_22.toInt).toNat < (2 - i_9.toInt).toNat; omega)
        · skip
          have uc_21 := i_nle (n := 0) (by decide) c_21
          refine lv_aload_n hx hb dX1_giftsFrom_87 rfl (lv_at hl 4 rfl) ?_
          refine t_gk hx hb hts hown hK hB mh0 th0 fq_1_5 hb_19 mw_2_131 dX1_giftsFrom_88 ?_
          refine lv_iload hx hb dX1_giftsFrom_91 (lv_at hl 0 rfl) ?_
          refine lv_dup2_11 hx hb dX1_giftsFrom_93 rfl rfl ?_
          refine t_ai hx hb hK hB mb_19 tb_19 ai_28 (fun _ => rfl) (i_in (by omega) (by omega)) dX1_giftsFrom_94 (fun x_23 ex_23 lx_23 ux_23 => ?_)
          have qx_23 : x_23 = x_20 := ex_23.trans ex_20.symm
          have qx_23 := qx_23.symm
          subst qx_23
          refine lv_iconst (v := 1) hx hb dX1_giftsFrom_95 (by decide) ?_
          refine lv_isub hx hb dX1_giftsFrom_96 ?_
          refine lv_topi (fun x_24 ex_24 => ?_)
          have vx_24 := b_sub (rfl : x_20.toInt = _) (by decide : (1 : Int32).toInt = 1) ex_24 (by omega) (by omega)
          refine t_si hx hb hK hLA hB hS mb_19 tb_19 ai_28 (i_in (by omega) (by omega)) (i_lo _) (i_hi _) (Or.inr (by decide)) dX1_giftsFrom_97 (fun H locs σ_25 eσ_25 hB hS => ?_)
          have k_26 : σ_25 b_19 x_18.toNatClampNeg = x_24 := by rw [eσ_25]; exact up2_same _ _ _ _
          refine lv_aload_n hx hb dX1_giftsFrom_98 rfl (lv_at hl 4 rfl) ?_
          refine t_gr hx hb hts hown hK hG hB mh0 th0 fq_1_2 rfl mw_2_127 dX1_giftsFrom_99 (fun b_27 hb_27 mb_27 tb_27 => ?_)
          refine lv_iload_n hx hb dX1_giftsFrom_102 rfl (lv_at hl 6 rfl) ?_
          refine lv_iload hx hb dX1_giftsFrom_103 (lv_at hl 0 rfl) ?_
          refine t_si hx hb hK hLA hB hS mb_27 tb_27 ai_26 (i_in (by omega) (by omega)) (i_lo _) (i_hi _) (Or.inr (by decide)) dX1_giftsFrom_105 (fun H locs σ_28 eσ_28 hB hS => ?_)
          have k_29 : σ_28 b_27 p2.toNatClampNeg = x_18 := by rw [eσ_28]; exact up2_same _ _ _ _
          refine lv_aload_n hx hb dX1_giftsFrom_106 rfl (lv_at hl 4 rfl) ?_
          refine lv_aload_n hx hb dX1_giftsFrom_107 rfl (lv_at hl 5 rfl) ?_
          refine lv_iload_n hx hb dX1_giftsFrom_108 rfl (lv_at hl 6 rfl) ?_
          refine lv_iconst (v := 1) hx hb dX1_giftsFrom_109 (by decide) ?_
          refine lv_iadd hx hb dX1_giftsFrom_110 ?_
          refine lv_topi (fun x_30 ex_30 => ?_)
          have vx_30 := b_add (rfl : p2.toInt = _) (by decide : (1 : Int32).toInt = 1) ex_30 (by omega) (by omega)
          refine lv_iload_n hx hb dX1_giftsFrom_111 rfl (lv_at hl 7 rfl) ?_
          refine lv_iload hx hb dX1_giftsFrom_112 (lv_at hl 2 rfl) ?_
          refine lv_iadd hx hb dX1_giftsFrom_114 ?_
          refine lv_topi (fun x_31 ex_31 => ?_)
          try have vx_31 := b_add (rfl : p3.toInt = _) (rfl : i_8.toInt = _) ex_31 (by omega) (by omega)
          have k_32 : σ_25 h0 8 = (σ h0 8) := by rw [eσ_25, up2_nea _ _ (tg_ne th0 tb_19 (by decide))]; exact k_13
          have k_33 : σ_28 h0 8 = (σ h0 8) := by rw [eσ_28, up2_nea _ _ (tg_ne th0 tb_27 (by decide))]; exact k_32
          refine t_ci (va_runV (As := [.ref h1, .int x_30, .int x_31]) (rest := []) ⟨hx, hb, hml, hown, hts⟩ (cy_X1_giftsFrom_1 l D cA L T r hG hLA.1 σ_28 ρ_17 hB.2.1 _ h0 mh0 th0 h1 mh1 th1 x_30 x_31 (by first | omega | decide) (by first | omega | decide) (by rw [k_33]; omega) (by rw [k_33]; omega)) (cV hts mv_X1_giftsFrom mw_5_118 rfl rfl ⟨Nat.le_of_ble_eq_true rfl, Nat.le_of_ble_eq_true rfl⟩) (pV hB.1 hK hN mh0 th0 (show shp cA 1 _ _ _ = .inr (1, Fs1 _ _ _) from rfl) rfl) rfl rfl hl.1 rfl (lv_room (Nat.le_of_ble_eq_true rfl)) dX1_giftsFrom_115 ⟨Nat.le_of_ble_eq_true rfl, Nat.le_of_ble_eq_true rfl⟩) hLA hA hB hS (by decide) (fun x_36 σ_34 ρ_35 H locs hB fσ_34 pσ_34 hS => ?_)
          refine lv_istore (lv' := [(8, .int x_36), (7, .int x_18), (6, .int i_9), (5, .int i_8), (4, .int 2), (0, .ref h0), (1, .ref h1), (2, .int p2), (3, .int p3)]) hx hb dX1_giftsFrom_118 hl (by decide) rfl (fun ls hl => ?_)
          refine lv_aload_n hx hb dX1_giftsFrom_120 rfl (lv_at hl 5 rfl) ?_
          refine t_gk hx hb hts hown hK hB mh0 th0 fq_1_5 hb_19 mw_2_131 dX1_giftsFrom_121 ?_
          refine lv_iload hx hb dX1_giftsFrom_124 (lv_at hl 1 rfl) ?_
          refine lv_dup2_11 hx hb dX1_giftsFrom_126 rfl rfl ?_
          refine t_ai hx hb hK hB mb_19 tb_19 ai_28 (fun _ => rfl) (i_in (by omega) (by omega)) dX1_giftsFrom_127 (fun x_37 ex_37 lx_37 ux_37 => ?_)
          have cx_37 := congrArg Int32.toInt ex_37
          refine lv_iconst (v := 1) hx hb dX1_giftsFrom_128 (by decide) ?_
          refine lv_iadd hx hb dX1_giftsFrom_129 ?_
          refine lv_topi (fun x_38 ex_38 => ?_)
          try have vx_38 := b_add (rfl : x_37.toInt = _) (by decide : (1 : Int32).toInt = 1) ex_38 (by omega) (by omega)
          refine t_si hx hb hK hLA hB hS mb_19 tb_19 ai_28 (i_in (by omega) (by omega)) (i_lo _) (i_hi _) (Or.inr (by decide)) dX1_giftsFrom_130 (fun H locs σ_39 eσ_39 hB hS => ?_)
          have k_40 : σ_39 b_19 x_18.toNatClampNeg = x_38 := by rw [eσ_39]; exact up2_same _ _ _ _
          refine lv_iload hx hb dX1_giftsFrom_131 (lv_at hl 0 rfl) ?_
          refine lv_if_le (tgt := 149) hx hb dX1_giftsFrom_133 (by decide) (fun c_41 => ?_) (fun c_41 => ?_)
          · skip
            have uc_41 := i_le (n := 0) (by decide) c_41
            refine lv_iload hx hb dX1_giftsFrom_149 (lv_at hl 3 rfl) ?_
            refine lv_iload hx hb dX1_giftsFrom_151 (lv_at hl 0 rfl) ?_
            refine lv_iadd hx hb dX1_giftsFrom_153 ?_
            refine lv_topi (fun x_42 ex_42 => ?_)
            try have vx_42 := b_add (rfl : i_8.toInt = _) (rfl : x_36.toInt = _) ex_42 (by omega) (by omega)
            refine lv_istore (lv' := [(5, .int x_42), (8, .int x_36), (7, .int x_18), (6, .int i_9), (4, .int 2), (0, .ref h0), (1, .ref h1), (2, .int p2), (3, .int p3)]) hx hb dX1_giftsFrom_154 hl (by decide) rfl (fun ls hl => ?_)
            obtain ⟨x_43, ex_43⟩ : ∃ y : Int32, y = i_9 + 1 := ⟨_, rfl⟩
            have vx_43 := b_add (rfl : i_9.toInt = _) (by decide : (1 : Int32).toInt = 1) ex_43 (by omega) (by omega)
            refine lv_iinc (v := x_43) (lv' := [(6, .int x_43), (5, .int x_42), (8, .int x_36), (7, .int x_18), (4, .int 2), (0, .ref h0), (1, .ref h1), (2, .int p2), (3, .int p3)]) hx hb dX1_giftsFrom_156 hl (k := 3) rfl (by rw [ex_43]; rfl) (by decide) rfl (fun ls hl => ?_)
            refine lv_goto (tgt := 59) hx hb dX1_giftsFrom_159 (by decide) ?_
            have k_44 : σ_34 h0 8 = (σ h0 8) := (FR.at fσ_34 th0 (by decide)).trans k_33
            have k_45 : σ_39 h0 8 = (σ h0 8) := by rw [eσ_39, up2_nea _ _ (tg_ne th0 tb_19 (by decide))]; exact k_44
            exact ih_12 ⟨x_42, x_43, σ_39, ρ_35⟩ _ _ _ ⟨(by omega), (by omega), k_45, hB, hS, lv_sub hl [0, 1, 4, 5, 6, 7, 8] rfl⟩ (by show (2 - x_43.toInt).toNat < (2 - i_9.toInt).toNat; omega)
          · skip
            have uc_41 := i_nle (n := 0) (by decide) c_41
            refine lv_aload_n hx hb dX1_giftsFrom_136 rfl (lv_at hl 5 rfl) ?_
            refine t_gr hx hb hts hown hK hG hB mh0 th0 fq_1_6 rfl mw_2_132 dX1_giftsFrom_137 (fun b_46 hb_46 mb_46 tb_46 => ?_)
            refine lv_iload_n hx hb dX1_giftsFrom_140 rfl (lv_at hl 7 rfl) ?_
            refine lv_dup2_11 hx hb dX1_giftsFrom_141 rfl rfl ?_
            refine t_ai hx hb hK hB mb_46 tb_46 ai_29 (fun _ => rfl) (i_in (by omega) (by omega)) dX1_giftsFrom_142 (fun x_47 ex_47 lx_47 ux_47 => ?_)
            have cx_47 := congrArg Int32.toInt ex_47
            refine lv_iconst (v := 1) hx hb dX1_giftsFrom_143 (by decide) ?_
            refine lv_iload hx hb dX1_giftsFrom_144 (lv_at hl 1 rfl) ?_
            refine lv_ishl hx hb dX1_giftsFrom_146 ?_
            refine lv_topi (fun x_48 ex_48 => ?_)
            refine lv_ior hx hb dX1_giftsFrom_147 ?_
            refine lv_topi (fun x_49 ex_49 => ?_)
            refine t_si hx hb hK hLA hB hS mb_46 tb_46 ai_29 (i_in (by omega) (by omega)) (i_lo _) (i_hi _) (Or.inr (by decide)) dX1_giftsFrom_148 (fun H locs σ_50 eσ_50 hB hS => ?_)
            have k_51 : σ_50 b_46 p2.toNatClampNeg = x_49 := by rw [eσ_50]; exact up2_same _ _ _ _
            refine lv_iload hx hb dX1_giftsFrom_149 (lv_at hl 3 rfl) ?_
            refine lv_iload hx hb dX1_giftsFrom_151 (lv_at hl 0 rfl) ?_
            refine lv_iadd hx hb dX1_giftsFrom_153 ?_
            refine lv_topi (fun x_52 ex_52 => ?_)
            try have vx_52 := b_add (rfl : i_8.toInt = _) (rfl : x_36.toInt = _) ex_52 (by omega) (by omega)
            refine lv_istore (lv' := [(5, .int x_52), (8, .int x_36), (7, .int x_18), (6, .int i_9), (4, .int 2), (0, .ref h0), (1, .ref h1), (2, .int p2), (3, .int p3)]) hx hb dX1_giftsFrom_154 hl (by decide) rfl (fun ls hl => ?_)
            obtain ⟨x_53, ex_53⟩ : ∃ y : Int32, y = i_9 + 1 := ⟨_, rfl⟩
            have vx_53 := b_add (rfl : i_9.toInt = _) (by decide : (1 : Int32).toInt = 1) ex_53 (by omega) (by omega)
            refine lv_iinc (v := x_53) (lv' := [(6, .int x_53), (5, .int x_52), (8, .int x_36), (7, .int x_18), (4, .int 2), (0, .ref h0), (1, .ref h1), (2, .int p2), (3, .int p3)]) hx hb dX1_giftsFrom_156 hl (k := 3) rfl (by rw [ex_53]; rfl) (by decide) rfl (fun ls hl => ?_)
            refine lv_goto (tgt := 59) hx hb dX1_giftsFrom_159 (by decide) ?_
            have k_54 : σ_34 h0 8 = (σ h0 8) := (FR.at fσ_34 th0 (by decide)).trans k_33
            have k_55 : σ_39 h0 8 = (σ h0 8) := by rw [eσ_39, up2_nea _ _ (tg_ne th0 tb_19 (by decide))]; exact k_54
            have k_56 : σ_50 h0 8 = (σ h0 8) := by rw [eσ_50, up2_nea _ _ (tg_ne th0 tb_46 (by decide))]; exact k_55
            exact ih_12 ⟨x_52, x_53, σ_50, ρ_35⟩ _ _ _ ⟨(by omega), (by omega), k_56, hB, hS, lv_sub hl [0, 1, 4, 5, 6, 7, 8] rfl⟩ (by show (2 - x_53.toInt).toNat < (2 - i_9.toInt).toNat; omega)
    · skip
      have uc_7 := j_eq c_7
      refine lv_iconst (v := 1) hx hb dX1_giftsFrom_46 (by decide) ?_
      refine lv_goto (tgt := 51) hx hb dX1_giftsFrom_47 (by decide) ?_
      refine lv_istore (lv' := [(4, .int 1), (0, .ref h0), (1, .ref h1), (2, .int p2), (3, .int p3)]) hx hb dX1_giftsFrom_51 hl (by decide) rfl (fun ls hl => ?_)
      refine lv_iconst (v := 0) hx hb dX1_giftsFrom_53 (by decide) ?_
      refine lv_istore (lv' := [(5, .int 0), (4, .int 1), (0, .ref h0), (1, .ref h1), (2, .int p2), (3, .int p3)]) hx hb dX1_giftsFrom_54 hl (by decide) rfl (fun ls hl => ?_)
      refine lv_iconst (v := 0) hx hb dX1_giftsFrom_56 (by decide) ?_
      refine lv_istore (lv' := [(6, .int 0), (5, .int 0), (4, .int 1), (0, .ref h0), (1, .ref h1), (2, .int p2), (3, .int p3)]) hx hb dX1_giftsFrom_57 hl (by decide) rfl (fun ls hl => ?_)
      refine w_loop (α := Int32 × Int32 × Sg × Lg) (fun (i_57, i_58, σ_59, ρ_60) H locs ls => 0 ≤ i_58.toInt ∧ i_58.toInt ≤ 1 ∧ σ_59 h0 8 = (σ h0 8) ∧ TS D cA L T r ry [(26, 1000), (28, 1000), (29, 1000), (30, 1000)] σ σ_59 ρ_60 H ∧ va_S (dm L s.heap.size) s.heap H locs ∧ lv_has ls 9 [(6, .int i_58), (5, .int i_57), (4, .int 1), (0, .ref h0), (1, .ref h1), (2, .int p2), (3, .int p3)]) (fun (i_57, i_58, σ_59, ρ_60) => (1 - i_58.toInt).toNat) ?_ ⟨0, 0, σ, ρ⟩ ⟨(by decide), (by decide), rfl, hB, hS, lv_sub hl [0, 1, 2, 3, 4, 5, 6] rfl⟩
      rintro ⟨i_57, i_58, σ_59, ρ_60⟩ H locs ls ⟨li_58, ui_58, k_62, hB, hS, hl⟩ ih_61
      refine lv_iload hx hb dX1_giftsFrom_59 (lv_at hl 0 rfl) ?_
      refine lv_iload hx hb dX1_giftsFrom_61 (lv_at hl 2 rfl) ?_
      refine lv_icmp_ge (tgt := 162) hx hb dX1_giftsFrom_63 (by decide) (fun c_63 => ?_) (fun c_63 => ?_)
      · skip
        have uc_63 := i_ge (n := 1) (by decide) c_63
        refine lv_iload hx hb dX1_giftsFrom_162 (lv_at hl 1 rfl) ?_
        exact W.iret (v := i_57) hx hb hr (fun t ht hW => ⟨⟨i_57, (σ_59, ρ_60), rfl, ⟨hB.2.1, hB.2.2, trivial⟩, (show TP D cA L T r σ_59 ρ_60 t.heap from by rw [ht]; exact hB.1)⟩, hS.F ht⟩) hS.2.2 dX1_giftsFrom_164
      · skip
        have uc_63 := i_nge (n := 1) (by decide) c_63
        refine lv_aload_n hx hb dX1_giftsFrom_66 rfl (lv_at hl 4 rfl) ?_
        refine lv_iload_n hx hb dX1_giftsFrom_67 rfl (lv_at hl 5 rfl) ?_
        refine lv_iload hx hb dX1_giftsFrom_68 (lv_at hl 0 rfl) ?_
        refine lv_iload_n hx hb dX1_giftsFrom_70 rfl (lv_at hl 5 rfl) ?_
        refine lv_ishl hx hb dX1_giftsFrom_71 ?_
        refine lv_topi (fun x_64 ex_64 => ?_)
        refine t_ci (va_runV (As := [.int p2, .int x_64]) (rest := []) ⟨hx, hb, hml, hown, hts⟩ (cy_X3_askedAt l D cA L T r hG hLA.1 σ_59 ρ_60 hB.2.1 _ h1 mh1 th1 p2 x_64 (by first | omega | decide) (by first | omega | decide)) (cV hts mv_X3_askedAt mw_5_122 rfl rfl ⟨Nat.le_of_ble_eq_true rfl, Nat.le_of_ble_eq_true rfl⟩) (pV hB.1 hK hN mh1 th1 (show shp cA 3 _ _ _ = .inr (3, Fs3 _ _ _) from rfl) rfl) rfl rfl hl.1 rfl (lv_room (Nat.le_of_ble_eq_true rfl)) dX1_giftsFrom_72 ⟨Nat.le_of_ble_eq_true rfl, Nat.le_of_ble_eq_true rfl⟩) hLA hA hB hS (by decide) (fun x_67 σ_65 ρ_66 H locs hB fσ_65 pσ_65 hS => ?_)
        have qσ_65 := FR.nil fσ_65
        subst qσ_65
        obtain ⟨lx_67, ux_67⟩ := pσ_65
        refine lv_istore (lv' := [(7, .int x_67), (6, .int i_58), (5, .int i_57), (4, .int 1), (0, .ref h0), (1, .ref h1), (2, .int p2), (3, .int p3)]) hx hb dX1_giftsFrom_75 hl (by decide) rfl (fun ls hl => ?_)
        refine lv_aload_n hx hb dX1_giftsFrom_77 rfl (lv_at hl 4 rfl) ?_
        refine t_gr hx hb hts hown hK hG hB mh0 th0 fq_1_5 rfl mw_2_131 dX1_giftsFrom_78 (fun b_68 hb_68 mb_68 tb_68 => ?_)
        refine lv_iload hx hb dX1_giftsFrom_81 (lv_at hl 0 rfl) ?_
        refine t_ai hx hb hK hB mb_68 tb_68 ai_28 (fun _ => rfl) (i_in (by omega) (by omega)) dX1_giftsFrom_83 (fun x_69 ex_69 lx_69 ux_69 => ?_)
        have cx_69 := congrArg Int32.toInt ex_69
        refine lv_if_le (tgt := 156) hx hb dX1_giftsFrom_84 (by decide) (fun c_70 => ?_) (fun c_70 => ?_)
        · skip
          have uc_70 := i_le (n := 0) (by decide) c_70
          obtain ⟨x_71, ex_71⟩ : ∃ y : Int32, y = i_58 + 1 := ⟨_, rfl⟩
          have vx_71 := b_add (rfl : i_58.toInt = _) (by decide : (1 : Int32).toInt = 1) ex_71 (by omega) (by omega)
          refine lv_iinc (v := x_71) (lv' := [(6, .int x_71), (7, .int x_67), (5, .int i_57), (4, .int 1), (0, .ref h0), (1, .ref h1), (2, .int p2), (3, .int p3)]) hx hb dX1_giftsFrom_156 hl (k := 1) rfl (by rw [ex_71]; rfl) (by decide) rfl (fun ls hl => ?_)
          refine lv_goto (tgt := 59) hx hb dX1_giftsFrom_159 (by decide) ?_
          exact ih_61 ⟨i_57, x_71, σ_59, ρ_66⟩ _ _ _ ⟨(by omega), (by omega), k_62, hB, hS, lv_sub hl [0, 2, 3, 4, 5, 6, 7] rfl⟩ (by show (1 - x_71.toInt).toNat < (1 - i_58.toInt).toNat; omega)
        · skip
          have uc_70 := i_nle (n := 0) (by decide) c_70
          refine lv_aload_n hx hb dX1_giftsFrom_87 rfl (lv_at hl 4 rfl) ?_
          refine t_gk hx hb hts hown hK hB mh0 th0 fq_1_5 hb_68 mw_2_131 dX1_giftsFrom_88 ?_
          refine lv_iload hx hb dX1_giftsFrom_91 (lv_at hl 0 rfl) ?_
          refine lv_dup2_11 hx hb dX1_giftsFrom_93 rfl rfl ?_
          refine t_ai hx hb hK hB mb_68 tb_68 ai_28 (fun _ => rfl) (i_in (by omega) (by omega)) dX1_giftsFrom_94 (fun x_72 ex_72 lx_72 ux_72 => ?_)
          have qx_72 : x_72 = x_69 := ex_72.trans ex_69.symm
          have qx_72 := qx_72.symm
          subst qx_72
          refine lv_iconst (v := 1) hx hb dX1_giftsFrom_95 (by decide) ?_
          refine lv_isub hx hb dX1_giftsFrom_96 ?_
          refine lv_topi (fun x_73 ex_73 => ?_)
          have vx_73 := b_sub (rfl : x_69.toInt = _) (by decide : (1 : Int32).toInt = 1) ex_73 (by omega) (by omega)
          refine t_si hx hb hK hLA hB hS mb_68 tb_68 ai_28 (i_in (by omega) (by omega)) (i_lo _) (i_hi _) (Or.inr (by decide)) dX1_giftsFrom_97 (fun H locs σ_74 eσ_74 hB hS => ?_)
          have k_75 : σ_74 b_68 x_67.toNatClampNeg = x_73 := by rw [eσ_74]; exact up2_same _ _ _ _
          refine lv_aload_n hx hb dX1_giftsFrom_98 rfl (lv_at hl 4 rfl) ?_
          refine t_gr hx hb hts hown hK hG hB mh0 th0 fq_1_2 rfl mw_2_127 dX1_giftsFrom_99 (fun b_76 hb_76 mb_76 tb_76 => ?_)
          refine lv_iload_n hx hb dX1_giftsFrom_102 rfl (lv_at hl 6 rfl) ?_
          refine lv_iload hx hb dX1_giftsFrom_103 (lv_at hl 0 rfl) ?_
          refine t_si hx hb hK hLA hB hS mb_76 tb_76 ai_26 (i_in (by omega) (by omega)) (i_lo _) (i_hi _) (Or.inr (by decide)) dX1_giftsFrom_105 (fun H locs σ_77 eσ_77 hB hS => ?_)
          have k_78 : σ_77 b_76 p2.toNatClampNeg = x_67 := by rw [eσ_77]; exact up2_same _ _ _ _
          refine lv_aload_n hx hb dX1_giftsFrom_106 rfl (lv_at hl 4 rfl) ?_
          refine lv_aload_n hx hb dX1_giftsFrom_107 rfl (lv_at hl 5 rfl) ?_
          refine lv_iload_n hx hb dX1_giftsFrom_108 rfl (lv_at hl 6 rfl) ?_
          refine lv_iconst (v := 1) hx hb dX1_giftsFrom_109 (by decide) ?_
          refine lv_iadd hx hb dX1_giftsFrom_110 ?_
          refine lv_topi (fun x_79 ex_79 => ?_)
          have vx_79 := b_add (rfl : p2.toInt = _) (by decide : (1 : Int32).toInt = 1) ex_79 (by omega) (by omega)
          refine lv_iload_n hx hb dX1_giftsFrom_111 rfl (lv_at hl 7 rfl) ?_
          refine lv_iload hx hb dX1_giftsFrom_112 (lv_at hl 2 rfl) ?_
          refine lv_iadd hx hb dX1_giftsFrom_114 ?_
          refine lv_topi (fun x_80 ex_80 => ?_)
          try have vx_80 := b_add (rfl : p3.toInt = _) (rfl : i_57.toInt = _) ex_80 (by omega) (by omega)
          have k_81 : σ_74 h0 8 = (σ h0 8) := by rw [eσ_74, up2_nea _ _ (tg_ne th0 tb_68 (by decide))]; exact k_62
          have k_82 : σ_77 h0 8 = (σ h0 8) := by rw [eσ_77, up2_nea _ _ (tg_ne th0 tb_76 (by decide))]; exact k_81
          refine t_ci (va_runV (As := [.ref h1, .int x_79, .int x_80]) (rest := []) ⟨hx, hb, hml, hown, hts⟩ (cy_X1_giftsFrom_1 l D cA L T r hG hLA.1 σ_77 ρ_66 hB.2.1 _ h0 mh0 th0 h1 mh1 th1 x_79 x_80 (by first | omega | decide) (by first | omega | decide) (by rw [k_82]; omega) (by rw [k_82]; omega)) (cV hts mv_X1_giftsFrom mw_5_118 rfl rfl ⟨Nat.le_of_ble_eq_true rfl, Nat.le_of_ble_eq_true rfl⟩) (pV hB.1 hK hN mh0 th0 (show shp cA 1 _ _ _ = .inr (1, Fs1 _ _ _) from rfl) rfl) rfl rfl hl.1 rfl (lv_room (Nat.le_of_ble_eq_true rfl)) dX1_giftsFrom_115 ⟨Nat.le_of_ble_eq_true rfl, Nat.le_of_ble_eq_true rfl⟩) hLA hA hB hS (by decide) (fun x_85 σ_83 ρ_84 H locs hB fσ_83 pσ_83 hS => ?_)
          refine lv_istore (lv' := [(8, .int x_85), (7, .int x_67), (6, .int i_58), (5, .int i_57), (4, .int 1), (0, .ref h0), (1, .ref h1), (2, .int p2), (3, .int p3)]) hx hb dX1_giftsFrom_118 hl (by decide) rfl (fun ls hl => ?_)
          refine lv_aload_n hx hb dX1_giftsFrom_120 rfl (lv_at hl 5 rfl) ?_
          refine t_gk hx hb hts hown hK hB mh0 th0 fq_1_5 hb_68 mw_2_131 dX1_giftsFrom_121 ?_
          refine lv_iload hx hb dX1_giftsFrom_124 (lv_at hl 1 rfl) ?_
          refine lv_dup2_11 hx hb dX1_giftsFrom_126 rfl rfl ?_
          refine t_ai hx hb hK hB mb_68 tb_68 ai_28 (fun _ => rfl) (i_in (by omega) (by omega)) dX1_giftsFrom_127 (fun x_86 ex_86 lx_86 ux_86 => ?_)
          have cx_86 := congrArg Int32.toInt ex_86
          refine lv_iconst (v := 1) hx hb dX1_giftsFrom_128 (by decide) ?_
          refine lv_iadd hx hb dX1_giftsFrom_129 ?_
          refine lv_topi (fun x_87 ex_87 => ?_)
          try have vx_87 := b_add (rfl : x_86.toInt = _) (by decide : (1 : Int32).toInt = 1) ex_87 (by omega) (by omega)
          refine t_si hx hb hK hLA hB hS mb_68 tb_68 ai_28 (i_in (by omega) (by omega)) (i_lo _) (i_hi _) (Or.inr (by decide)) dX1_giftsFrom_130 (fun H locs σ_88 eσ_88 hB hS => ?_)
          have k_89 : σ_88 b_68 x_67.toNatClampNeg = x_87 := by rw [eσ_88]; exact up2_same _ _ _ _
          refine lv_iload hx hb dX1_giftsFrom_131 (lv_at hl 0 rfl) ?_
          refine lv_if_le (tgt := 149) hx hb dX1_giftsFrom_133 (by decide) (fun c_90 => ?_) (fun c_90 => ?_)
          · skip
            have uc_90 := i_le (n := 0) (by decide) c_90
            refine lv_iload hx hb dX1_giftsFrom_149 (lv_at hl 3 rfl) ?_
            refine lv_iload hx hb dX1_giftsFrom_151 (lv_at hl 0 rfl) ?_
            refine lv_iadd hx hb dX1_giftsFrom_153 ?_
            refine lv_topi (fun x_91 ex_91 => ?_)
            try have vx_91 := b_add (rfl : i_57.toInt = _) (rfl : x_85.toInt = _) ex_91 (by omega) (by omega)
            refine lv_istore (lv' := [(5, .int x_91), (8, .int x_85), (7, .int x_67), (6, .int i_58), (4, .int 1), (0, .ref h0), (1, .ref h1), (2, .int p2), (3, .int p3)]) hx hb dX1_giftsFrom_154 hl (by decide) rfl (fun ls hl => ?_)
            obtain ⟨x_92, ex_92⟩ : ∃ y : Int32, y = i_58 + 1 := ⟨_, rfl⟩
            have vx_92 := b_add (rfl : i_58.toInt = _) (by decide : (1 : Int32).toInt = 1) ex_92 (by omega) (by omega)
            refine lv_iinc (v := x_92) (lv' := [(6, .int x_92), (5, .int x_91), (8, .int x_85), (7, .int x_67), (4, .int 1), (0, .ref h0), (1, .ref h1), (2, .int p2), (3, .int p3)]) hx hb dX1_giftsFrom_156 hl (k := 3) rfl (by rw [ex_92]; rfl) (by decide) rfl (fun ls hl => ?_)
            refine lv_goto (tgt := 59) hx hb dX1_giftsFrom_159 (by decide) ?_
            have k_93 : σ_83 h0 8 = (σ h0 8) := (FR.at fσ_83 th0 (by decide)).trans k_82
            have k_94 : σ_88 h0 8 = (σ h0 8) := by rw [eσ_88, up2_nea _ _ (tg_ne th0 tb_68 (by decide))]; exact k_93
            exact ih_61 ⟨x_91, x_92, σ_88, ρ_84⟩ _ _ _ ⟨(by omega), (by omega), k_94, hB, hS, lv_sub hl [0, 1, 4, 5, 6, 7, 8] rfl⟩ (by show (1 - x_92.toInt).toNat < (1 - i_58.toInt).toNat; omega)
          · skip
            have uc_90 := i_nle (n := 0) (by decide) c_90
            refine lv_aload_n hx hb dX1_giftsFrom_136 rfl (lv_at hl 5 rfl) ?_
            refine t_gr hx hb hts hown hK hG hB mh0 th0 fq_1_6 rfl mw_2_132 dX1_giftsFrom_137 (fun b_95 hb_95 mb_95 tb_95 => ?_)
            refine lv_iload_n hx hb dX1_giftsFrom_140 rfl (lv_at hl 7 rfl) ?_
            refine lv_dup2_11 hx hb dX1_giftsFrom_141 rfl rfl ?_
            refine t_ai hx hb hK hB mb_95 tb_95 ai_29 (fun _ => rfl) (i_in (by omega) (by omega)) dX1_giftsFrom_142 (fun x_96 ex_96 lx_96 ux_96 => ?_)
            have cx_96 := congrArg Int32.toInt ex_96
            refine lv_iconst (v := 1) hx hb dX1_giftsFrom_143 (by decide) ?_
            refine lv_iload hx hb dX1_giftsFrom_144 (lv_at hl 1 rfl) ?_
            refine lv_ishl hx hb dX1_giftsFrom_146 ?_
            refine lv_topi (fun x_97 ex_97 => ?_)
            refine lv_ior hx hb dX1_giftsFrom_147 ?_
            refine lv_topi (fun x_98 ex_98 => ?_)
            refine t_si hx hb hK hLA hB hS mb_95 tb_95 ai_29 (i_in (by omega) (by omega)) (i_lo _) (i_hi _) (Or.inr (by decide)) dX1_giftsFrom_148 (fun H locs σ_99 eσ_99 hB hS => ?_)
            have k_100 : σ_99 b_95 p2.toNatClampNeg = x_98 := by rw [eσ_99]; exact up2_same _ _ _ _
            refine lv_iload hx hb dX1_giftsFrom_149 (lv_at hl 3 rfl) ?_
            refine lv_iload hx hb dX1_giftsFrom_151 (lv_at hl 0 rfl) ?_
            refine lv_iadd hx hb dX1_giftsFrom_153 ?_
            refine lv_topi (fun x_101 ex_101 => ?_)
            try have vx_101 := b_add (rfl : i_57.toInt = _) (rfl : x_85.toInt = _) ex_101 (by omega) (by omega)
            refine lv_istore (lv' := [(5, .int x_101), (8, .int x_85), (7, .int x_67), (6, .int i_58), (4, .int 1), (0, .ref h0), (1, .ref h1), (2, .int p2), (3, .int p3)]) hx hb dX1_giftsFrom_154 hl (by decide) rfl (fun ls hl => ?_)
            obtain ⟨x_102, ex_102⟩ : ∃ y : Int32, y = i_58 + 1 := ⟨_, rfl⟩
            have vx_102 := b_add (rfl : i_58.toInt = _) (by decide : (1 : Int32).toInt = 1) ex_102 (by omega) (by omega)
            refine lv_iinc (v := x_102) (lv' := [(6, .int x_102), (5, .int x_101), (8, .int x_85), (7, .int x_67), (4, .int 1), (0, .ref h0), (1, .ref h1), (2, .int p2), (3, .int p3)]) hx hb dX1_giftsFrom_156 hl (k := 3) rfl (by rw [ex_102]; rfl) (by decide) rfl (fun ls hl => ?_)
            refine lv_goto (tgt := 59) hx hb dX1_giftsFrom_159 (by decide) ?_
            have k_103 : σ_83 h0 8 = (σ h0 8) := (FR.at fσ_83 th0 (by decide)).trans k_82
            have k_104 : σ_88 h0 8 = (σ h0 8) := by rw [eσ_88, up2_nea _ _ (tg_ne th0 tb_68 (by decide))]; exact k_103
            have k_105 : σ_99 h0 8 = (σ h0 8) := by rw [eσ_99, up2_nea _ _ (tg_ne th0 tb_95 (by decide))]; exact k_104
            exact ih_61 ⟨x_101, x_102, σ_99, ρ_84⟩ _ _ _ ⟨(by omega), (by omega), k_105, hB, hS, lv_sub hl [0, 1, 4, 5, 6, 7, 8] rfl⟩ (by show (1 - x_102.toInt).toNat < (1 - i_58.toInt).toNat; omega)
  · skip
    have uc_2 := j_nlt c_2
    refine lv_iload_n hx hb dX1_giftsFrom_8 rfl (lv_at hl 3 rfl) ?_
    refine lv_if_ne (tgt := 29) hx hb dX1_giftsFrom_9 (by decide) (fun c_106 => ?_) (fun c_106 => ?_)
    · skip
      have uc_106 := i_ne (n := 0) (by decide) c_106
      refine lv_iconst (v := 1) hx hb dX1_giftsFrom_29 (by decide) ?_
      exact W.iret (v := 1) hx hb hr (fun t ht hW => ⟨⟨1, (σ, ρ), rfl, ⟨hB.2.1, hB.2.2, trivial⟩, (show TP D cA L T r σ ρ t.heap from by rw [ht]; exact hB.1)⟩, hS.F ht⟩) hS.2.2 dX1_giftsFrom_30
    · skip
      have uc_106 := i_eq (n := 0) (by decide) c_106
      refine lv_aload_n hx hb dX1_giftsFrom_12 rfl (lv_at hl 0 rfl) ?_
      refine t_gr hx hb hts hown hK hG hB mh0 th0 fq_1_2 rfl mw_2_127 dX1_giftsFrom_13 (fun b_107 hb_107 mb_107 tb_107 => ?_)
      refine lv_iconst (v := 0) hx hb dX1_giftsFrom_16 (by decide) ?_
      refine lv_aload_n hx hb dX1_giftsFrom_17 rfl (lv_at hl 0 rfl) ?_
      refine t_gr hx hb hts hown hK hG hB mh0 th0 fq_1_7 rfl mw_2_134 dX1_giftsFrom_18 (fun b_108 hb_108 mb_108 tb_108 => ?_)
      refine lv_iconst (v := 0) hx hb dX1_giftsFrom_21 (by decide) ?_
      refine lv_aload_n hx hb dX1_giftsFrom_22 rfl (lv_at hl 0 rfl) ?_
      refine t_gv hx hb hts hown hK hB mh0 th0 fi_1_8 rfl mw_2_136 dX1_giftsFrom_23 ?_
      refine t_cp (lo := (-2147483648)) (hi := 2147483647) hx hb (hml.trans hl.1.symm) hts hown mw_5_84 ⟨mw_3_239, mw_3_238, mw_1_20⟩ hK hLA hB hS mb_107 tb_107 ai_26 mb_108 tb_108 ai_30 (fun _ => ⟨show ((-2147483648) : Int) ≤ (-2147483648) by decide, show (2147483647 : Int) ≤ 2147483647 by decide⟩) (fun _ => rfl) (by decide) (by decide) (by decide) (a_nn (by omega)) (a_cp (by decide) (by omega)) (a_cp (by decide) (by omega)) (Nat.le_of_ble_eq_true rfl) (Nat.le_of_ble_eq_true rfl) dX1_giftsFrom_26 (fun H locs σ_109 eσ_109 hB hS => ?_)
      refine lv_iconst (v := 1) hx hb dX1_giftsFrom_29 (by decide) ?_
      exact W.iret (v := 1) hx hb hr (fun t ht hW => ⟨⟨1, (σ_109, ρ), rfl, ⟨hB.2.1, hB.2.2, trivial⟩, (show TP D cA L T r σ_109 ρ t.heap from by rw [ht]; exact hB.1)⟩, hS.F ht⟩) hS.2.2 dX1_giftsFrom_30
set_option maxHeartbeats 4000000 in
set_option maxRecDepth 100000 in
theorem cy_X1_giftsFrom_3 (l : Launch) (D : va_G) (cA : Nat → ClassId) (L : List Nat) (T : Nat → Nat) (r : Rg) (hG : GR L T r) (hL : L.Nodup) (σ : Sg) (ρ : Lg) (hW : WT L ry T σ) (sz : Nat) (h0 : Nat) (mh0 : h0 ∈ L) (th0 : T h0 = 1) (h1 : Nat) (mh1 : h1 ∈ L) (th1 : T h1 = 3) (p2 : Int32) (p3 : Int32) (w0 : 5 ≤ p2.toInt) (w1 : p2.toInt ≤ 8) (w2 : 0 ≤ (σ h0 8).toInt) (w3 : (σ h0 8).toInt ≤ 8) : Met l yX1_giftsFrom (.code yX1_giftsFrom cX1_giftsFrom 9 (some .int) :: wsA) ({ frames := 4, cells := 0, slots := 0, locals := 184 }) (PR D cA L T r σ ρ sz [.ref h0, .ref h1, .int p2, .int p3]) (QI D cA L T r ry [(26, 1000), (28, 1000), (29, 1000), (30, 1000)] σ sz (fun x σ1 => True)) 0 0 (dm L sz) := by
  refine Met.ofW (cc := cX1_giftsFrom) (maxL := 9) (ret := (some .int)) (by decide) rfl ?_
  intro p e s m args below meth c s₁ B hml hv
  obtain ⟨rfl, hsz, hP, hK, hN⟩ := hv
  have hx := B.exec
  have hb := B.bytes
  have hr := B.returns
  have hts : ∀ w ∈ wsA, w.before _ s = true := fun w h => atoms_spec (ws := .code yX1_giftsFrom cX1_giftsFrom 9 (some .int) :: wsA) B.pre w (List.mem_cons_of_mem _ h)
  have hown : s.vm.findClass RX1 = some m.cls := findClass_of_methodNamed B.named
  subst hsz
  have hLA : LA (dm L s.heap.size) L := ⟨hL, fun a h => Or.inl h⟩
  have hA : ∀ q : Nat, s.heap.size ≤ q → dm L s.heap.size q := fun q h => Or.inr h
  have hS : va_S (dm L s.heap.size) s.heap s.heap [] := va_S.rf
  have hB : TS D cA L T r ry [(26, 1000), (28, 1000), (29, 1000), (30, 1000)] σ σ ρ s.heap := ⟨hP, hW, FR.rf⟩
  have hl := lv_entry ([.ref h0, .ref h1, .int p2, .int p3]) (n := 9) (Nat.le_of_ble_eq_true rfl)
  rw [lg_entry_eq]
  generalize (lg_sl ([.ref h0, .ref h1, .int p2, .int p3]) ++ List.replicate (9 - (lg_sl ([.ref h0, .ref h1, .int p2, .int p3])).length) Slot.unset).toArray = ls at hl ⊢
  have hl : lv_has ls 9 [(0, .ref h0), (1, .ref h1), (2, .int p2), (3, .int p3)] := hl
  have w_1 : (-2147483648) ≤ (σ h0 8).toInt ∧ (σ h0 8).toInt ≤ 2147483647 := by have z := hB.2.1 h0 mh0 8; rw [th0] at z; exact z
  refine lv_iload_n hx hb dX1_giftsFrom_0 rfl (lv_at hl 2 rfl) ?_
  refine lv_aload_n hx hb dX1_giftsFrom_1 rfl (lv_at hl 0 rfl) ?_
  refine t_gv hx hb hts hown hK hB mh0 th0 fi_1_8 rfl mw_2_136 dX1_giftsFrom_2 ?_
  refine lv_icmp_lt (tgt := 31) hx hb dX1_giftsFrom_5 (by decide) (fun c_2 => ?_) (fun c_2 => ?_)
  · skip
    have uc_2 := j_lt c_2
    refine lv_aload_n hx hb dX1_giftsFrom_31 rfl (lv_at hl 1 rfl) ?_
    refine t_gr hx hb hts hown hK hG hB mh1 th1 fq_3_3 rfl mw_1_149 dX1_giftsFrom_32 (fun b_3 hb_3 mb_3 tb_3 => ?_)
    refine lv_iload_n hx hb dX1_giftsFrom_35 rfl (lv_at hl 2 rfl) ?_
    refine t_ai hx hb hK hB mb_3 tb_3 ai_36 (fun _ => rfl) (i_in (by omega) (by omega)) dX1_giftsFrom_36 (fun x_4 ex_4 lx_4 ux_4 => ?_)
    have cx_4 := congrArg Int32.toInt ex_4
    refine lv_aload_n hx hb dX1_giftsFrom_37 rfl (lv_at hl 1 rfl) ?_
    refine t_gr hx hb hts hown hK hG hB mh1 th1 fq_3_4 rfl mw_1_155 dX1_giftsFrom_38 (fun b_5 hb_5 mb_5 tb_5 => ?_)
    refine lv_iload_n hx hb dX1_giftsFrom_41 rfl (lv_at hl 2 rfl) ?_
    refine t_ai hx hb hK hB mb_5 tb_5 ai_37 (fun _ => rfl) (i_in (by omega) (by omega)) dX1_giftsFrom_42 (fun x_6 ex_6 lx_6 ux_6 => ?_)
    have cx_6 := congrArg Int32.toInt ex_6
    refine lv_icmp_ne (tgt := 50) hx hb dX1_giftsFrom_43 (by decide) (fun c_7 => ?_) (fun c_7 => ?_)
    · skip
      have uc_7 := j_ne c_7
      refine lv_iconst (v := 2) hx hb dX1_giftsFrom_50 (by decide) ?_
      refine lv_istore (lv' := [(4, .int 2), (0, .ref h0), (1, .ref h1), (2, .int p2), (3, .int p3)]) hx hb dX1_giftsFrom_51 hl (by decide) rfl (fun ls hl => ?_)
      refine lv_iconst (v := 0) hx hb dX1_giftsFrom_53 (by decide) ?_
      refine lv_istore (lv' := [(5, .int 0), (4, .int 2), (0, .ref h0), (1, .ref h1), (2, .int p2), (3, .int p3)]) hx hb dX1_giftsFrom_54 hl (by decide) rfl (fun ls hl => ?_)
      refine lv_iconst (v := 0) hx hb dX1_giftsFrom_56 (by decide) ?_
      refine lv_istore (lv' := [(6, .int 0), (5, .int 0), (4, .int 2), (0, .ref h0), (1, .ref h1), (2, .int p2), (3, .int p3)]) hx hb dX1_giftsFrom_57 hl (by decide) rfl (fun ls hl => ?_)
      refine w_loop (α := Int32 × Int32 × Sg × Lg) (fun (i_8, i_9, σ_10, ρ_11) H locs ls => 0 ≤ i_9.toInt ∧ i_9.toInt ≤ 2 ∧ σ_10 h0 8 = (σ h0 8) ∧ TS D cA L T r ry [(26, 1000), (28, 1000), (29, 1000), (30, 1000)] σ σ_10 ρ_11 H ∧ va_S (dm L s.heap.size) s.heap H locs ∧ lv_has ls 9 [(6, .int i_9), (5, .int i_8), (4, .int 2), (0, .ref h0), (1, .ref h1), (2, .int p2), (3, .int p3)]) (fun (i_8, i_9, σ_10, ρ_11) => (2 - i_9.toInt).toNat) ?_ ⟨0, 0, σ, ρ⟩ ⟨(by decide), (by decide), rfl, hB, hS, lv_sub hl [0, 1, 2, 3, 4, 5, 6] rfl⟩
      rintro ⟨i_8, i_9, σ_10, ρ_11⟩ H locs ls ⟨li_9, ui_9, k_13, hB, hS, hl⟩ ih_12
      refine lv_iload hx hb dX1_giftsFrom_59 (lv_at hl 0 rfl) ?_
      refine lv_iload hx hb dX1_giftsFrom_61 (lv_at hl 2 rfl) ?_
      refine lv_icmp_ge (tgt := 162) hx hb dX1_giftsFrom_63 (by decide) (fun c_14 => ?_) (fun c_14 => ?_)
      · skip
        have uc_14 := i_ge (n := 2) (by decide) c_14
        refine lv_iload hx hb dX1_giftsFrom_162 (lv_at hl 1 rfl) ?_
        exact W.iret (v := i_8) hx hb hr (fun t ht hW => ⟨⟨i_8, (σ_10, ρ_11), rfl, ⟨hB.2.1, hB.2.2, trivial⟩, (show TP D cA L T r σ_10 ρ_11 t.heap from by rw [ht]; exact hB.1)⟩, hS.F ht⟩) hS.2.2 dX1_giftsFrom_164
      · skip
        have uc_14 := i_nge (n := 2) (by decide) c_14
        refine lv_aload_n hx hb dX1_giftsFrom_66 rfl (lv_at hl 4 rfl) ?_
        refine lv_iload_n hx hb dX1_giftsFrom_67 rfl (lv_at hl 5 rfl) ?_
        refine lv_iload hx hb dX1_giftsFrom_68 (lv_at hl 0 rfl) ?_
        refine lv_iload_n hx hb dX1_giftsFrom_70 rfl (lv_at hl 5 rfl) ?_
        refine lv_ishl hx hb dX1_giftsFrom_71 ?_
        refine lv_topi (fun x_15 ex_15 => ?_)
        refine t_ci (va_runV (As := [.int p2, .int x_15]) (rest := []) ⟨hx, hb, hml, hown, hts⟩ (cy_X3_askedAt l D cA L T r hG hLA.1 σ_10 ρ_11 hB.2.1 _ h1 mh1 th1 p2 x_15 (by first | omega | decide) (by first | omega | decide)) (cV hts mv_X3_askedAt mw_5_122 rfl rfl ⟨Nat.le_of_ble_eq_true rfl, Nat.le_of_ble_eq_true rfl⟩) (pV hB.1 hK hN mh1 th1 (show shp cA 3 _ _ _ = .inr (3, Fs3 _ _ _) from rfl) rfl) rfl rfl hl.1 rfl (lv_room (Nat.le_of_ble_eq_true rfl)) dX1_giftsFrom_72 ⟨Nat.le_of_ble_eq_true rfl, Nat.le_of_ble_eq_true rfl⟩) hLA hA hB hS (by decide) (fun x_18 σ_16 ρ_17 H locs hB fσ_16 pσ_16 hS => ?_)
        have qσ_16 := FR.nil fσ_16
        subst qσ_16
        obtain ⟨lx_18, ux_18⟩ := pσ_16
        refine lv_istore (lv' := [(7, .int x_18), (6, .int i_9), (5, .int i_8), (4, .int 2), (0, .ref h0), (1, .ref h1), (2, .int p2), (3, .int p3)]) hx hb dX1_giftsFrom_75 hl (by decide) rfl (fun ls hl => ?_)
        refine lv_aload_n hx hb dX1_giftsFrom_77 rfl (lv_at hl 4 rfl) ?_
        refine t_gr hx hb hts hown hK hG hB mh0 th0 fq_1_5 rfl mw_2_131 dX1_giftsFrom_78 (fun b_19 hb_19 mb_19 tb_19 => ?_)
        refine lv_iload hx hb dX1_giftsFrom_81 (lv_at hl 0 rfl) ?_
        refine t_ai hx hb hK hB mb_19 tb_19 ai_28 (fun _ => rfl) (i_in (by omega) (by omega)) dX1_giftsFrom_83 (fun x_20 ex_20 lx_20 ux_20 => ?_)
        have cx_20 := congrArg Int32.toInt ex_20
        refine lv_if_le (tgt := 156) hx hb dX1_giftsFrom_84 (by decide) (fun c_21 => ?_) (fun c_21 => ?_)
        · skip
          have uc_21 := i_le (n := 0) (by decide) c_21
          obtain ⟨x_22, ex_22⟩ : ∃ y : Int32, y = i_9 + 1 := ⟨_, rfl⟩
          have vx_22 := b_add (rfl : i_9.toInt = _) (by decide : (1 : Int32).toInt = 1) ex_22 (by omega) (by omega)
          refine lv_iinc (v := x_22) (lv' := [(6, .int x_22), (7, .int x_18), (5, .int i_8), (4, .int 2), (0, .ref h0), (1, .ref h1), (2, .int p2), (3, .int p3)]) hx hb dX1_giftsFrom_156 hl (k := 1) rfl (by rw [ex_22]; rfl) (by decide) rfl (fun ls hl => ?_)
          refine lv_goto (tgt := 59) hx hb dX1_giftsFrom_159 (by decide) ?_
          exact ih_12 ⟨i_8, x_22, σ_10, ρ_17⟩ _ _ _ ⟨(by omega), (by omega), k_13, hB, hS, lv_sub hl [0, 2, 3, 4, 5, 6, 7] rfl⟩ (by show (2 - x_22.toInt).toNat < (2 - i_9.toInt).toNat; omega)
        · skip
          have uc_21 := i_nle (n := 0) (by decide) c_21
          refine lv_aload_n hx hb dX1_giftsFrom_87 rfl (lv_at hl 4 rfl) ?_
          refine t_gk hx hb hts hown hK hB mh0 th0 fq_1_5 hb_19 mw_2_131 dX1_giftsFrom_88 ?_
          refine lv_iload hx hb dX1_giftsFrom_91 (lv_at hl 0 rfl) ?_
          refine lv_dup2_11 hx hb dX1_giftsFrom_93 rfl rfl ?_
          refine t_ai hx hb hK hB mb_19 tb_19 ai_28 (fun _ => rfl) (i_in (by omega) (by omega)) dX1_giftsFrom_94 (fun x_23 ex_23 lx_23 ux_23 => ?_)
          have qx_23 : x_23 = x_20 := ex_23.trans ex_20.symm
          have qx_23 := qx_23.symm
          subst qx_23
          refine lv_iconst (v := 1) hx hb dX1_giftsFrom_95 (by decide) ?_
          refine lv_isub hx hb dX1_giftsFrom_96 ?_
          refine lv_topi (fun x_24 ex_24 => ?_)
          have vx_24 := b_sub (rfl : x_20.toInt = _) (by decide : (1 : Int32).toInt = 1) ex_24 (by omega) (by omega)
          refine t_si hx hb hK hLA hB hS mb_19 tb_19 ai_28 (i_in (by omega) (by omega)) (i_lo _) (i_hi _) (Or.inr (by decide)) dX1_giftsFrom_97 (fun H locs σ_25 eσ_25 hB hS => ?_)
          have k_26 : σ_25 b_19 x_18.toNatClampNeg = x_24 := by rw [eσ_25]; exact up2_same _ _ _ _
          refine lv_aload_n hx hb dX1_giftsFrom_98 rfl (lv_at hl 4 rfl) ?_
          refine t_gr hx hb hts hown hK hG hB mh0 th0 fq_1_2 rfl mw_2_127 dX1_giftsFrom_99 (fun b_27 hb_27 mb_27 tb_27 => ?_)
          refine lv_iload_n hx hb dX1_giftsFrom_102 rfl (lv_at hl 6 rfl) ?_
          refine lv_iload hx hb dX1_giftsFrom_103 (lv_at hl 0 rfl) ?_
          refine t_si hx hb hK hLA hB hS mb_27 tb_27 ai_26 (i_in (by omega) (by omega)) (i_lo _) (i_hi _) (Or.inr (by decide)) dX1_giftsFrom_105 (fun H locs σ_28 eσ_28 hB hS => ?_)
          have k_29 : σ_28 b_27 p2.toNatClampNeg = x_18 := by rw [eσ_28]; exact up2_same _ _ _ _
          refine lv_aload_n hx hb dX1_giftsFrom_106 rfl (lv_at hl 4 rfl) ?_
          refine lv_aload_n hx hb dX1_giftsFrom_107 rfl (lv_at hl 5 rfl) ?_
          refine lv_iload_n hx hb dX1_giftsFrom_108 rfl (lv_at hl 6 rfl) ?_
          refine lv_iconst (v := 1) hx hb dX1_giftsFrom_109 (by decide) ?_
          refine lv_iadd hx hb dX1_giftsFrom_110 ?_
          refine lv_topi (fun x_30 ex_30 => ?_)
          have vx_30 := b_add (rfl : p2.toInt = _) (by decide : (1 : Int32).toInt = 1) ex_30 (by omega) (by omega)
          refine lv_iload_n hx hb dX1_giftsFrom_111 rfl (lv_at hl 7 rfl) ?_
          refine lv_iload hx hb dX1_giftsFrom_112 (lv_at hl 2 rfl) ?_
          refine lv_iadd hx hb dX1_giftsFrom_114 ?_
          refine lv_topi (fun x_31 ex_31 => ?_)
          try have vx_31 := b_add (rfl : p3.toInt = _) (rfl : i_8.toInt = _) ex_31 (by omega) (by omega)
          have k_32 : σ_25 h0 8 = (σ h0 8) := by rw [eσ_25, up2_nea _ _ (tg_ne th0 tb_19 (by decide))]; exact k_13
          have k_33 : σ_28 h0 8 = (σ h0 8) := by rw [eσ_28, up2_nea _ _ (tg_ne th0 tb_27 (by decide))]; exact k_32
          refine t_ci (va_runV (As := [.ref h1, .int x_30, .int x_31]) (rest := []) ⟨hx, hb, hml, hown, hts⟩ (cy_X1_giftsFrom_2 l D cA L T r hG hLA.1 σ_28 ρ_17 hB.2.1 _ h0 mh0 th0 h1 mh1 th1 x_30 x_31 (by first | omega | decide) (by first | omega | decide) (by rw [k_33]; omega) (by rw [k_33]; omega)) (cV hts mv_X1_giftsFrom mw_5_118 rfl rfl ⟨Nat.le_of_ble_eq_true rfl, Nat.le_of_ble_eq_true rfl⟩) (pV hB.1 hK hN mh0 th0 (show shp cA 1 _ _ _ = .inr (1, Fs1 _ _ _) from rfl) rfl) rfl rfl hl.1 rfl (lv_room (Nat.le_of_ble_eq_true rfl)) dX1_giftsFrom_115 ⟨Nat.le_of_ble_eq_true rfl, Nat.le_of_ble_eq_true rfl⟩) hLA hA hB hS (by decide) (fun x_36 σ_34 ρ_35 H locs hB fσ_34 pσ_34 hS => ?_)
          refine lv_istore (lv' := [(8, .int x_36), (7, .int x_18), (6, .int i_9), (5, .int i_8), (4, .int 2), (0, .ref h0), (1, .ref h1), (2, .int p2), (3, .int p3)]) hx hb dX1_giftsFrom_118 hl (by decide) rfl (fun ls hl => ?_)
          refine lv_aload_n hx hb dX1_giftsFrom_120 rfl (lv_at hl 5 rfl) ?_
          refine t_gk hx hb hts hown hK hB mh0 th0 fq_1_5 hb_19 mw_2_131 dX1_giftsFrom_121 ?_
          refine lv_iload hx hb dX1_giftsFrom_124 (lv_at hl 1 rfl) ?_
          refine lv_dup2_11 hx hb dX1_giftsFrom_126 rfl rfl ?_
          refine t_ai hx hb hK hB mb_19 tb_19 ai_28 (fun _ => rfl) (i_in (by omega) (by omega)) dX1_giftsFrom_127 (fun x_37 ex_37 lx_37 ux_37 => ?_)
          have cx_37 := congrArg Int32.toInt ex_37
          refine lv_iconst (v := 1) hx hb dX1_giftsFrom_128 (by decide) ?_
          refine lv_iadd hx hb dX1_giftsFrom_129 ?_
          refine lv_topi (fun x_38 ex_38 => ?_)
          try have vx_38 := b_add (rfl : x_37.toInt = _) (by decide : (1 : Int32).toInt = 1) ex_38 (by omega) (by omega)
          refine t_si hx hb hK hLA hB hS mb_19 tb_19 ai_28 (i_in (by omega) (by omega)) (i_lo _) (i_hi _) (Or.inr (by decide)) dX1_giftsFrom_130 (fun H locs σ_39 eσ_39 hB hS => ?_)
          have k_40 : σ_39 b_19 x_18.toNatClampNeg = x_38 := by rw [eσ_39]; exact up2_same _ _ _ _
          refine lv_iload hx hb dX1_giftsFrom_131 (lv_at hl 0 rfl) ?_
          refine lv_if_le (tgt := 149) hx hb dX1_giftsFrom_133 (by decide) (fun c_41 => ?_) (fun c_41 => ?_)
          · skip
            have uc_41 := i_le (n := 0) (by decide) c_41
            refine lv_iload hx hb dX1_giftsFrom_149 (lv_at hl 3 rfl) ?_
            refine lv_iload hx hb dX1_giftsFrom_151 (lv_at hl 0 rfl) ?_
            refine lv_iadd hx hb dX1_giftsFrom_153 ?_
            refine lv_topi (fun x_42 ex_42 => ?_)
            try have vx_42 := b_add (rfl : i_8.toInt = _) (rfl : x_36.toInt = _) ex_42 (by omega) (by omega)
            refine lv_istore (lv' := [(5, .int x_42), (8, .int x_36), (7, .int x_18), (6, .int i_9), (4, .int 2), (0, .ref h0), (1, .ref h1), (2, .int p2), (3, .int p3)]) hx hb dX1_giftsFrom_154 hl (by decide) rfl (fun ls hl => ?_)
            obtain ⟨x_43, ex_43⟩ : ∃ y : Int32, y = i_9 + 1 := ⟨_, rfl⟩
            have vx_43 := b_add (rfl : i_9.toInt = _) (by decide : (1 : Int32).toInt = 1) ex_43 (by omega) (by omega)
            refine lv_iinc (v := x_43) (lv' := [(6, .int x_43), (5, .int x_42), (8, .int x_36), (7, .int x_18), (4, .int 2), (0, .ref h0), (1, .ref h1), (2, .int p2), (3, .int p3)]) hx hb dX1_giftsFrom_156 hl (k := 3) rfl (by rw [ex_43]; rfl) (by decide) rfl (fun ls hl => ?_)
            refine lv_goto (tgt := 59) hx hb dX1_giftsFrom_159 (by decide) ?_
            have k_44 : σ_34 h0 8 = (σ h0 8) := (FR.at fσ_34 th0 (by decide)).trans k_33
            have k_45 : σ_39 h0 8 = (σ h0 8) := by rw [eσ_39, up2_nea _ _ (tg_ne th0 tb_19 (by decide))]; exact k_44
            exact ih_12 ⟨x_42, x_43, σ_39, ρ_35⟩ _ _ _ ⟨(by omega), (by omega), k_45, hB, hS, lv_sub hl [0, 1, 4, 5, 6, 7, 8] rfl⟩ (by show (2 - x_43.toInt).toNat < (2 - i_9.toInt).toNat; omega)
          · skip
            have uc_41 := i_nle (n := 0) (by decide) c_41
            refine lv_aload_n hx hb dX1_giftsFrom_136 rfl (lv_at hl 5 rfl) ?_
            refine t_gr hx hb hts hown hK hG hB mh0 th0 fq_1_6 rfl mw_2_132 dX1_giftsFrom_137 (fun b_46 hb_46 mb_46 tb_46 => ?_)
            refine lv_iload_n hx hb dX1_giftsFrom_140 rfl (lv_at hl 7 rfl) ?_
            refine lv_dup2_11 hx hb dX1_giftsFrom_141 rfl rfl ?_
            refine t_ai hx hb hK hB mb_46 tb_46 ai_29 (fun _ => rfl) (i_in (by omega) (by omega)) dX1_giftsFrom_142 (fun x_47 ex_47 lx_47 ux_47 => ?_)
            have cx_47 := congrArg Int32.toInt ex_47
            refine lv_iconst (v := 1) hx hb dX1_giftsFrom_143 (by decide) ?_
            refine lv_iload hx hb dX1_giftsFrom_144 (lv_at hl 1 rfl) ?_
            refine lv_ishl hx hb dX1_giftsFrom_146 ?_
            refine lv_topi (fun x_48 ex_48 => ?_)
            refine lv_ior hx hb dX1_giftsFrom_147 ?_
            refine lv_topi (fun x_49 ex_49 => ?_)
            refine t_si hx hb hK hLA hB hS mb_46 tb_46 ai_29 (i_in (by omega) (by omega)) (i_lo _) (i_hi _) (Or.inr (by decide)) dX1_giftsFrom_148 (fun H locs σ_50 eσ_50 hB hS => ?_)
            have k_51 : σ_50 b_46 p2.toNatClampNeg = x_49 := by rw [eσ_50]; exact up2_same _ _ _ _
            refine lv_iload hx hb dX1_giftsFrom_149 (lv_at hl 3 rfl) ?_
            refine lv_iload hx hb dX1_giftsFrom_151 (lv_at hl 0 rfl) ?_
            refine lv_iadd hx hb dX1_giftsFrom_153 ?_
            refine lv_topi (fun x_52 ex_52 => ?_)
            try have vx_52 := b_add (rfl : i_8.toInt = _) (rfl : x_36.toInt = _) ex_52 (by omega) (by omega)
            refine lv_istore (lv' := [(5, .int x_52), (8, .int x_36), (7, .int x_18), (6, .int i_9), (4, .int 2), (0, .ref h0), (1, .ref h1), (2, .int p2), (3, .int p3)]) hx hb dX1_giftsFrom_154 hl (by decide) rfl (fun ls hl => ?_)
            obtain ⟨x_53, ex_53⟩ : ∃ y : Int32, y = i_9 + 1 := ⟨_, rfl⟩
            have vx_53 := b_add (rfl : i_9.toInt = _) (by decide : (1 : Int32).toInt = 1) ex_53 (by omega) (by omega)
            refine lv_iinc (v := x_53) (lv' := [(6, .int x_53), (5, .int x_52), (8, .int x_36), (7, .int x_18), (4, .int 2), (0, .ref h0), (1, .ref h1), (2, .int p2), (3, .int p3)]) hx hb dX1_giftsFrom_156 hl (k := 3) rfl (by rw [ex_53]; rfl) (by decide) rfl (fun ls hl => ?_)
            refine lv_goto (tgt := 59) hx hb dX1_giftsFrom_159 (by decide) ?_
            have k_54 : σ_34 h0 8 = (σ h0 8) := (FR.at fσ_34 th0 (by decide)).trans k_33
            have k_55 : σ_39 h0 8 = (σ h0 8) := by rw [eσ_39, up2_nea _ _ (tg_ne th0 tb_19 (by decide))]; exact k_54
            have k_56 : σ_50 h0 8 = (σ h0 8) := by rw [eσ_50, up2_nea _ _ (tg_ne th0 tb_46 (by decide))]; exact k_55
            exact ih_12 ⟨x_52, x_53, σ_50, ρ_35⟩ _ _ _ ⟨(by omega), (by omega), k_56, hB, hS, lv_sub hl [0, 1, 4, 5, 6, 7, 8] rfl⟩ (by show (2 - x_53.toInt).toNat < (2 - i_9.toInt).toNat; omega)
    · skip
      have uc_7 := j_eq c_7
      refine lv_iconst (v := 1) hx hb dX1_giftsFrom_46 (by decide) ?_
      refine lv_goto (tgt := 51) hx hb dX1_giftsFrom_47 (by decide) ?_
      refine lv_istore (lv' := [(4, .int 1), (0, .ref h0), (1, .ref h1), (2, .int p2), (3, .int p3)]) hx hb dX1_giftsFrom_51 hl (by decide) rfl (fun ls hl => ?_)
      refine lv_iconst (v := 0) hx hb dX1_giftsFrom_53 (by decide) ?_
      refine lv_istore (lv' := [(5, .int 0), (4, .int 1), (0, .ref h0), (1, .ref h1), (2, .int p2), (3, .int p3)]) hx hb dX1_giftsFrom_54 hl (by decide) rfl (fun ls hl => ?_)
      refine lv_iconst (v := 0) hx hb dX1_giftsFrom_56 (by decide) ?_
      refine lv_istore (lv' := [(6, .int 0), (5, .int 0), (4, .int 1), (0, .ref h0), (1, .ref h1), (2, .int p2), (3, .int p3)]) hx hb dX1_giftsFrom_57 hl (by decide) rfl (fun ls hl => ?_)
      refine w_loop (α := Int32 × Int32 × Sg × Lg) (fun (i_57, i_58, σ_59, ρ_60) H locs ls => 0 ≤ i_58.toInt ∧ i_58.toInt ≤ 1 ∧ σ_59 h0 8 = (σ h0 8) ∧ TS D cA L T r ry [(26, 1000), (28, 1000), (29, 1000), (30, 1000)] σ σ_59 ρ_60 H ∧ va_S (dm L s.heap.size) s.heap H locs ∧ lv_has ls 9 [(6, .int i_58), (5, .int i_57), (4, .int 1), (0, .ref h0), (1, .ref h1), (2, .int p2), (3, .int p3)]) (fun (i_57, i_58, σ_59, ρ_60) => (1 - i_58.toInt).toNat) ?_ ⟨0, 0, σ, ρ⟩ ⟨(by decide), (by decide), rfl, hB, hS, lv_sub hl [0, 1, 2, 3, 4, 5, 6] rfl⟩
      rintro ⟨i_57, i_58, σ_59, ρ_60⟩ H locs ls ⟨li_58, ui_58, k_62, hB, hS, hl⟩ ih_61
      refine lv_iload hx hb dX1_giftsFrom_59 (lv_at hl 0 rfl) ?_
      refine lv_iload hx hb dX1_giftsFrom_61 (lv_at hl 2 rfl) ?_
      refine lv_icmp_ge (tgt := 162) hx hb dX1_giftsFrom_63 (by decide) (fun c_63 => ?_) (fun c_63 => ?_)
      · skip
        have uc_63 := i_ge (n := 1) (by decide) c_63
        refine lv_iload hx hb dX1_giftsFrom_162 (lv_at hl 1 rfl) ?_
        exact W.iret (v := i_57) hx hb hr (fun t ht hW => ⟨⟨i_57, (σ_59, ρ_60), rfl, ⟨hB.2.1, hB.2.2, trivial⟩, (show TP D cA L T r σ_59 ρ_60 t.heap from by rw [ht]; exact hB.1)⟩, hS.F ht⟩) hS.2.2 dX1_giftsFrom_164
      · skip
        have uc_63 := i_nge (n := 1) (by decide) c_63
        refine lv_aload_n hx hb dX1_giftsFrom_66 rfl (lv_at hl 4 rfl) ?_
        refine lv_iload_n hx hb dX1_giftsFrom_67 rfl (lv_at hl 5 rfl) ?_
        refine lv_iload hx hb dX1_giftsFrom_68 (lv_at hl 0 rfl) ?_
        refine lv_iload_n hx hb dX1_giftsFrom_70 rfl (lv_at hl 5 rfl) ?_
        refine lv_ishl hx hb dX1_giftsFrom_71 ?_
        refine lv_topi (fun x_64 ex_64 => ?_)
        refine t_ci (va_runV (As := [.int p2, .int x_64]) (rest := []) ⟨hx, hb, hml, hown, hts⟩ (cy_X3_askedAt l D cA L T r hG hLA.1 σ_59 ρ_60 hB.2.1 _ h1 mh1 th1 p2 x_64 (by first | omega | decide) (by first | omega | decide)) (cV hts mv_X3_askedAt mw_5_122 rfl rfl ⟨Nat.le_of_ble_eq_true rfl, Nat.le_of_ble_eq_true rfl⟩) (pV hB.1 hK hN mh1 th1 (show shp cA 3 _ _ _ = .inr (3, Fs3 _ _ _) from rfl) rfl) rfl rfl hl.1 rfl (lv_room (Nat.le_of_ble_eq_true rfl)) dX1_giftsFrom_72 ⟨Nat.le_of_ble_eq_true rfl, Nat.le_of_ble_eq_true rfl⟩) hLA hA hB hS (by decide) (fun x_67 σ_65 ρ_66 H locs hB fσ_65 pσ_65 hS => ?_)
        have qσ_65 := FR.nil fσ_65
        subst qσ_65
        obtain ⟨lx_67, ux_67⟩ := pσ_65
        refine lv_istore (lv' := [(7, .int x_67), (6, .int i_58), (5, .int i_57), (4, .int 1), (0, .ref h0), (1, .ref h1), (2, .int p2), (3, .int p3)]) hx hb dX1_giftsFrom_75 hl (by decide) rfl (fun ls hl => ?_)
        refine lv_aload_n hx hb dX1_giftsFrom_77 rfl (lv_at hl 4 rfl) ?_
        refine t_gr hx hb hts hown hK hG hB mh0 th0 fq_1_5 rfl mw_2_131 dX1_giftsFrom_78 (fun b_68 hb_68 mb_68 tb_68 => ?_)
        refine lv_iload hx hb dX1_giftsFrom_81 (lv_at hl 0 rfl) ?_
        refine t_ai hx hb hK hB mb_68 tb_68 ai_28 (fun _ => rfl) (i_in (by omega) (by omega)) dX1_giftsFrom_83 (fun x_69 ex_69 lx_69 ux_69 => ?_)
        have cx_69 := congrArg Int32.toInt ex_69
        refine lv_if_le (tgt := 156) hx hb dX1_giftsFrom_84 (by decide) (fun c_70 => ?_) (fun c_70 => ?_)
        · skip
          have uc_70 := i_le (n := 0) (by decide) c_70
          obtain ⟨x_71, ex_71⟩ : ∃ y : Int32, y = i_58 + 1 := ⟨_, rfl⟩
          have vx_71 := b_add (rfl : i_58.toInt = _) (by decide : (1 : Int32).toInt = 1) ex_71 (by omega) (by omega)
          refine lv_iinc (v := x_71) (lv' := [(6, .int x_71), (7, .int x_67), (5, .int i_57), (4, .int 1), (0, .ref h0), (1, .ref h1), (2, .int p2), (3, .int p3)]) hx hb dX1_giftsFrom_156 hl (k := 1) rfl (by rw [ex_71]; rfl) (by decide) rfl (fun ls hl => ?_)
          refine lv_goto (tgt := 59) hx hb dX1_giftsFrom_159 (by decide) ?_
          exact ih_61 ⟨i_57, x_71, σ_59, ρ_66⟩ _ _ _ ⟨(by omega), (by omega), k_62, hB, hS, lv_sub hl [0, 2, 3, 4, 5, 6, 7] rfl⟩ (by show (1 - x_71.toInt).toNat < (1 - i_58.toInt).toNat; omega)
        · skip
          have uc_70 := i_nle (n := 0) (by decide) c_70
          refine lv_aload_n hx hb dX1_giftsFrom_87 rfl (lv_at hl 4 rfl) ?_
          refine t_gk hx hb hts hown hK hB mh0 th0 fq_1_5 hb_68 mw_2_131 dX1_giftsFrom_88 ?_
          refine lv_iload hx hb dX1_giftsFrom_91 (lv_at hl 0 rfl) ?_
          refine lv_dup2_11 hx hb dX1_giftsFrom_93 rfl rfl ?_
          refine t_ai hx hb hK hB mb_68 tb_68 ai_28 (fun _ => rfl) (i_in (by omega) (by omega)) dX1_giftsFrom_94 (fun x_72 ex_72 lx_72 ux_72 => ?_)
          have qx_72 : x_72 = x_69 := ex_72.trans ex_69.symm
          have qx_72 := qx_72.symm
          subst qx_72
          refine lv_iconst (v := 1) hx hb dX1_giftsFrom_95 (by decide) ?_
          refine lv_isub hx hb dX1_giftsFrom_96 ?_
          refine lv_topi (fun x_73 ex_73 => ?_)
          have vx_73 := b_sub (rfl : x_69.toInt = _) (by decide : (1 : Int32).toInt = 1) ex_73 (by omega) (by omega)
          refine t_si hx hb hK hLA hB hS mb_68 tb_68 ai_28 (i_in (by omega) (by omega)) (i_lo _) (i_hi _) (Or.inr (by decide)) dX1_giftsFrom_97 (fun H locs σ_74 eσ_74 hB hS => ?_)
          have k_75 : σ_74 b_68 x_67.toNatClampNeg = x_73 := by rw [eσ_74]; exact up2_same _ _ _ _
          refine lv_aload_n hx hb dX1_giftsFrom_98 rfl (lv_at hl 4 rfl) ?_
          refine t_gr hx hb hts hown hK hG hB mh0 th0 fq_1_2 rfl mw_2_127 dX1_giftsFrom_99 (fun b_76 hb_76 mb_76 tb_76 => ?_)
          refine lv_iload_n hx hb dX1_giftsFrom_102 rfl (lv_at hl 6 rfl) ?_
          refine lv_iload hx hb dX1_giftsFrom_103 (lv_at hl 0 rfl) ?_
          refine t_si hx hb hK hLA hB hS mb_76 tb_76 ai_26 (i_in (by omega) (by omega)) (i_lo _) (i_hi _) (Or.inr (by decide)) dX1_giftsFrom_105 (fun H locs σ_77 eσ_77 hB hS => ?_)
          have k_78 : σ_77 b_76 p2.toNatClampNeg = x_67 := by rw [eσ_77]; exact up2_same _ _ _ _
          refine lv_aload_n hx hb dX1_giftsFrom_106 rfl (lv_at hl 4 rfl) ?_
          refine lv_aload_n hx hb dX1_giftsFrom_107 rfl (lv_at hl 5 rfl) ?_
          refine lv_iload_n hx hb dX1_giftsFrom_108 rfl (lv_at hl 6 rfl) ?_
          refine lv_iconst (v := 1) hx hb dX1_giftsFrom_109 (by decide) ?_
          refine lv_iadd hx hb dX1_giftsFrom_110 ?_
          refine lv_topi (fun x_79 ex_79 => ?_)
          have vx_79 := b_add (rfl : p2.toInt = _) (by decide : (1 : Int32).toInt = 1) ex_79 (by omega) (by omega)
          refine lv_iload_n hx hb dX1_giftsFrom_111 rfl (lv_at hl 7 rfl) ?_
          refine lv_iload hx hb dX1_giftsFrom_112 (lv_at hl 2 rfl) ?_
          refine lv_iadd hx hb dX1_giftsFrom_114 ?_
          refine lv_topi (fun x_80 ex_80 => ?_)
          try have vx_80 := b_add (rfl : p3.toInt = _) (rfl : i_57.toInt = _) ex_80 (by omega) (by omega)
          have k_81 : σ_74 h0 8 = (σ h0 8) := by rw [eσ_74, up2_nea _ _ (tg_ne th0 tb_68 (by decide))]; exact k_62
          have k_82 : σ_77 h0 8 = (σ h0 8) := by rw [eσ_77, up2_nea _ _ (tg_ne th0 tb_76 (by decide))]; exact k_81
          refine t_ci (va_runV (As := [.ref h1, .int x_79, .int x_80]) (rest := []) ⟨hx, hb, hml, hown, hts⟩ (cy_X1_giftsFrom_2 l D cA L T r hG hLA.1 σ_77 ρ_66 hB.2.1 _ h0 mh0 th0 h1 mh1 th1 x_79 x_80 (by first | omega | decide) (by first | omega | decide) (by rw [k_82]; omega) (by rw [k_82]; omega)) (cV hts mv_X1_giftsFrom mw_5_118 rfl rfl ⟨Nat.le_of_ble_eq_true rfl, Nat.le_of_ble_eq_true rfl⟩) (pV hB.1 hK hN mh0 th0 (show shp cA 1 _ _ _ = .inr (1, Fs1 _ _ _) from rfl) rfl) rfl rfl hl.1 rfl (lv_room (Nat.le_of_ble_eq_true rfl)) dX1_giftsFrom_115 ⟨Nat.le_of_ble_eq_true rfl, Nat.le_of_ble_eq_true rfl⟩) hLA hA hB hS (by decide) (fun x_85 σ_83 ρ_84 H locs hB fσ_83 pσ_83 hS => ?_)
          refine lv_istore (lv' := [(8, .int x_85), (7, .int x_67), (6, .int i_58), (5, .int i_57), (4, .int 1), (0, .ref h0), (1, .ref h1), (2, .int p2), (3, .int p3)]) hx hb dX1_giftsFrom_118 hl (by decide) rfl (fun ls hl => ?_)
          refine lv_aload_n hx hb dX1_giftsFrom_120 rfl (lv_at hl 5 rfl) ?_
          refine t_gk hx hb hts hown hK hB mh0 th0 fq_1_5 hb_68 mw_2_131 dX1_giftsFrom_121 ?_
          refine lv_iload hx hb dX1_giftsFrom_124 (lv_at hl 1 rfl) ?_
          refine lv_dup2_11 hx hb dX1_giftsFrom_126 rfl rfl ?_
          refine t_ai hx hb hK hB mb_68 tb_68 ai_28 (fun _ => rfl) (i_in (by omega) (by omega)) dX1_giftsFrom_127 (fun x_86 ex_86 lx_86 ux_86 => ?_)
          have cx_86 := congrArg Int32.toInt ex_86
          refine lv_iconst (v := 1) hx hb dX1_giftsFrom_128 (by decide) ?_
          refine lv_iadd hx hb dX1_giftsFrom_129 ?_
          refine lv_topi (fun x_87 ex_87 => ?_)
          try have vx_87 := b_add (rfl : x_86.toInt = _) (by decide : (1 : Int32).toInt = 1) ex_87 (by omega) (by omega)
          refine t_si hx hb hK hLA hB hS mb_68 tb_68 ai_28 (i_in (by omega) (by omega)) (i_lo _) (i_hi _) (Or.inr (by decide)) dX1_giftsFrom_130 (fun H locs σ_88 eσ_88 hB hS => ?_)
          have k_89 : σ_88 b_68 x_67.toNatClampNeg = x_87 := by rw [eσ_88]; exact up2_same _ _ _ _
          refine lv_iload hx hb dX1_giftsFrom_131 (lv_at hl 0 rfl) ?_
          refine lv_if_le (tgt := 149) hx hb dX1_giftsFrom_133 (by decide) (fun c_90 => ?_) (fun c_90 => ?_)
          · skip
            have uc_90 := i_le (n := 0) (by decide) c_90
            refine lv_iload hx hb dX1_giftsFrom_149 (lv_at hl 3 rfl) ?_
            refine lv_iload hx hb dX1_giftsFrom_151 (lv_at hl 0 rfl) ?_
            refine lv_iadd hx hb dX1_giftsFrom_153 ?_
            refine lv_topi (fun x_91 ex_91 => ?_)
            try have vx_91 := b_add (rfl : i_57.toInt = _) (rfl : x_85.toInt = _) ex_91 (by omega) (by omega)
            refine lv_istore (lv' := [(5, .int x_91), (8, .int x_85), (7, .int x_67), (6, .int i_58), (4, .int 1), (0, .ref h0), (1, .ref h1), (2, .int p2), (3, .int p3)]) hx hb dX1_giftsFrom_154 hl (by decide) rfl (fun ls hl => ?_)
            obtain ⟨x_92, ex_92⟩ : ∃ y : Int32, y = i_58 + 1 := ⟨_, rfl⟩
            have vx_92 := b_add (rfl : i_58.toInt = _) (by decide : (1 : Int32).toInt = 1) ex_92 (by omega) (by omega)
            refine lv_iinc (v := x_92) (lv' := [(6, .int x_92), (5, .int x_91), (8, .int x_85), (7, .int x_67), (4, .int 1), (0, .ref h0), (1, .ref h1), (2, .int p2), (3, .int p3)]) hx hb dX1_giftsFrom_156 hl (k := 3) rfl (by rw [ex_92]; rfl) (by decide) rfl (fun ls hl => ?_)
            refine lv_goto (tgt := 59) hx hb dX1_giftsFrom_159 (by decide) ?_
            have k_93 : σ_83 h0 8 = (σ h0 8) := (FR.at fσ_83 th0 (by decide)).trans k_82
            have k_94 : σ_88 h0 8 = (σ h0 8) := by rw [eσ_88, up2_nea _ _ (tg_ne th0 tb_68 (by decide))]; exact k_93
            exact ih_61 ⟨x_91, x_92, σ_88, ρ_84⟩ _ _ _ ⟨(by omega), (by omega), k_94, hB, hS, lv_sub hl [0, 1, 4, 5, 6, 7, 8] rfl⟩ (by show (1 - x_92.toInt).toNat < (1 - i_58.toInt).toNat; omega)
          · skip
            have uc_90 := i_nle (n := 0) (by decide) c_90
            refine lv_aload_n hx hb dX1_giftsFrom_136 rfl (lv_at hl 5 rfl) ?_
            refine t_gr hx hb hts hown hK hG hB mh0 th0 fq_1_6 rfl mw_2_132 dX1_giftsFrom_137 (fun b_95 hb_95 mb_95 tb_95 => ?_)
            refine lv_iload_n hx hb dX1_giftsFrom_140 rfl (lv_at hl 7 rfl) ?_
            refine lv_dup2_11 hx hb dX1_giftsFrom_141 rfl rfl ?_
            refine t_ai hx hb hK hB mb_95 tb_95 ai_29 (fun _ => rfl) (i_in (by omega) (by omega)) dX1_giftsFrom_142 (fun x_96 ex_96 lx_96 ux_96 => ?_)
            have cx_96 := congrArg Int32.toInt ex_96
            refine lv_iconst (v := 1) hx hb dX1_giftsFrom_143 (by decide) ?_
            refine lv_iload hx hb dX1_giftsFrom_144 (lv_at hl 1 rfl) ?_
            refine lv_ishl hx hb dX1_giftsFrom_146 ?_
            refine lv_topi (fun x_97 ex_97 => ?_)
            refine lv_ior hx hb dX1_giftsFrom_147 ?_
            refine lv_topi (fun x_98 ex_98 => ?_)
            refine t_si hx hb hK hLA hB hS mb_95 tb_95 ai_29 (i_in (by omega) (by omega)) (i_lo _) (i_hi _) (Or.inr (by decide)) dX1_giftsFrom_148 (fun H locs σ_99 eσ_99 hB hS => ?_)
            have k_100 : σ_99 b_95 p2.toNatClampNeg = x_98 := by rw [eσ_99]; exact up2_same _ _ _ _
            refine lv_iload hx hb dX1_giftsFrom_149 (lv_at hl 3 rfl) ?_
            refine lv_iload hx hb dX1_giftsFrom_151 (lv_at hl 0 rfl) ?_
            refine lv_iadd hx hb dX1_giftsFrom_153 ?_
            refine lv_topi (fun x_101 ex_101 => ?_)
            try have vx_101 := b_add (rfl : i_57.toInt = _) (rfl : x_85.toInt = _) ex_101 (by omega) (by omega)
            refine lv_istore (lv' := [(5, .int x_101), (8, .int x_85), (7, .int x_67), (6, .int i_58), (4, .int 1), (0, .ref h0), (1, .ref h1), (2, .int p2), (3, .int p3)]) hx hb dX1_giftsFrom_154 hl (by decide) rfl (fun ls hl => ?_)
            obtain ⟨x_102, ex_102⟩ : ∃ y : Int32, y = i_58 + 1 := ⟨_, rfl⟩
            have vx_102 := b_add (rfl : i_58.toInt = _) (by decide : (1 : Int32).toInt = 1) ex_102 (by omega) (by omega)
            refine lv_iinc (v := x_102) (lv' := [(6, .int x_102), (5, .int x_101), (8, .int x_85), (7, .int x_67), (4, .int 1), (0, .ref h0), (1, .ref h1), (2, .int p2), (3, .int p3)]) hx hb dX1_giftsFrom_156 hl (k := 3) rfl (by rw [ex_102]; rfl) (by decide) rfl (fun ls hl => ?_)
            refine lv_goto (tgt := 59) hx hb dX1_giftsFrom_159 (by decide) ?_
            have k_103 : σ_83 h0 8 = (σ h0 8) := (FR.at fσ_83 th0 (by decide)).trans k_82
            have k_104 : σ_88 h0 8 = (σ h0 8) := by rw [eσ_88, up2_nea _ _ (tg_ne th0 tb_68 (by decide))]; exact k_103
            have k_105 : σ_99 h0 8 = (σ h0 8) := by rw [eσ_99, up2_nea _ _ (tg_ne th0 tb_95 (by decide))]; exact k_104
            exact ih_61 ⟨x_101, x_102, σ_99, ρ_84⟩ _ _ _ ⟨(by omega), (by omega), k_105, hB, hS, lv_sub hl [0, 1, 4, 5, 6, 7, 8] rfl⟩ (by show (1 - x_102.toInt).toNat < (1 - i_58.toInt).toNat; omega)
  · skip
    have uc_2 := j_nlt c_2
    refine lv_iload_n hx hb dX1_giftsFrom_8 rfl (lv_at hl 3 rfl) ?_
    refine lv_if_ne (tgt := 29) hx hb dX1_giftsFrom_9 (by decide) (fun c_106 => ?_) (fun c_106 => ?_)
    · skip
      have uc_106 := i_ne (n := 0) (by decide) c_106
      refine lv_iconst (v := 1) hx hb dX1_giftsFrom_29 (by decide) ?_
      exact W.iret (v := 1) hx hb hr (fun t ht hW => ⟨⟨1, (σ, ρ), rfl, ⟨hB.2.1, hB.2.2, trivial⟩, (show TP D cA L T r σ ρ t.heap from by rw [ht]; exact hB.1)⟩, hS.F ht⟩) hS.2.2 dX1_giftsFrom_30
    · skip
      have uc_106 := i_eq (n := 0) (by decide) c_106
      refine lv_aload_n hx hb dX1_giftsFrom_12 rfl (lv_at hl 0 rfl) ?_
      refine t_gr hx hb hts hown hK hG hB mh0 th0 fq_1_2 rfl mw_2_127 dX1_giftsFrom_13 (fun b_107 hb_107 mb_107 tb_107 => ?_)
      refine lv_iconst (v := 0) hx hb dX1_giftsFrom_16 (by decide) ?_
      refine lv_aload_n hx hb dX1_giftsFrom_17 rfl (lv_at hl 0 rfl) ?_
      refine t_gr hx hb hts hown hK hG hB mh0 th0 fq_1_7 rfl mw_2_134 dX1_giftsFrom_18 (fun b_108 hb_108 mb_108 tb_108 => ?_)
      refine lv_iconst (v := 0) hx hb dX1_giftsFrom_21 (by decide) ?_
      refine lv_aload_n hx hb dX1_giftsFrom_22 rfl (lv_at hl 0 rfl) ?_
      refine t_gv hx hb hts hown hK hB mh0 th0 fi_1_8 rfl mw_2_136 dX1_giftsFrom_23 ?_
      refine t_cp (lo := (-2147483648)) (hi := 2147483647) hx hb (hml.trans hl.1.symm) hts hown mw_5_84 ⟨mw_3_239, mw_3_238, mw_1_20⟩ hK hLA hB hS mb_107 tb_107 ai_26 mb_108 tb_108 ai_30 (fun _ => ⟨show ((-2147483648) : Int) ≤ (-2147483648) by decide, show (2147483647 : Int) ≤ 2147483647 by decide⟩) (fun _ => rfl) (by decide) (by decide) (by decide) (a_nn (by omega)) (a_cp (by decide) (by omega)) (a_cp (by decide) (by omega)) (Nat.le_of_ble_eq_true rfl) (Nat.le_of_ble_eq_true rfl) dX1_giftsFrom_26 (fun H locs σ_109 eσ_109 hB hS => ?_)
      refine lv_iconst (v := 1) hx hb dX1_giftsFrom_29 (by decide) ?_
      exact W.iret (v := 1) hx hb hr (fun t ht hW => ⟨⟨1, (σ_109, ρ), rfl, ⟨hB.2.1, hB.2.2, trivial⟩, (show TP D cA L T r σ_109 ρ t.heap from by rw [ht]; exact hB.1)⟩, hS.F ht⟩) hS.2.2 dX1_giftsFrom_30
set_option maxHeartbeats 4000000 in
set_option maxRecDepth 100000 in
theorem cy_X1_giftsFrom_4 (l : Launch) (D : va_G) (cA : Nat → ClassId) (L : List Nat) (T : Nat → Nat) (r : Rg) (hG : GR L T r) (hL : L.Nodup) (σ : Sg) (ρ : Lg) (hW : WT L ry T σ) (sz : Nat) (h0 : Nat) (mh0 : h0 ∈ L) (th0 : T h0 = 1) (h1 : Nat) (mh1 : h1 ∈ L) (th1 : T h1 = 3) (p2 : Int32) (p3 : Int32) (w0 : 4 ≤ p2.toInt) (w1 : p2.toInt ≤ 8) (w2 : 0 ≤ (σ h0 8).toInt) (w3 : (σ h0 8).toInt ≤ 8) : Met l yX1_giftsFrom (.code yX1_giftsFrom cX1_giftsFrom 9 (some .int) :: wsA) ({ frames := 5, cells := 0, slots := 0, locals := 212 }) (PR D cA L T r σ ρ sz [.ref h0, .ref h1, .int p2, .int p3]) (QI D cA L T r ry [(26, 1000), (28, 1000), (29, 1000), (30, 1000)] σ sz (fun x σ1 => True)) 0 0 (dm L sz) := by
  refine Met.ofW (cc := cX1_giftsFrom) (maxL := 9) (ret := (some .int)) (by decide) rfl ?_
  intro p e s m args below meth c s₁ B hml hv
  obtain ⟨rfl, hsz, hP, hK, hN⟩ := hv
  have hx := B.exec
  have hb := B.bytes
  have hr := B.returns
  have hts : ∀ w ∈ wsA, w.before _ s = true := fun w h => atoms_spec (ws := .code yX1_giftsFrom cX1_giftsFrom 9 (some .int) :: wsA) B.pre w (List.mem_cons_of_mem _ h)
  have hown : s.vm.findClass RX1 = some m.cls := findClass_of_methodNamed B.named
  subst hsz
  have hLA : LA (dm L s.heap.size) L := ⟨hL, fun a h => Or.inl h⟩
  have hA : ∀ q : Nat, s.heap.size ≤ q → dm L s.heap.size q := fun q h => Or.inr h
  have hS : va_S (dm L s.heap.size) s.heap s.heap [] := va_S.rf
  have hB : TS D cA L T r ry [(26, 1000), (28, 1000), (29, 1000), (30, 1000)] σ σ ρ s.heap := ⟨hP, hW, FR.rf⟩
  have hl := lv_entry ([.ref h0, .ref h1, .int p2, .int p3]) (n := 9) (Nat.le_of_ble_eq_true rfl)
  rw [lg_entry_eq]
  generalize (lg_sl ([.ref h0, .ref h1, .int p2, .int p3]) ++ List.replicate (9 - (lg_sl ([.ref h0, .ref h1, .int p2, .int p3])).length) Slot.unset).toArray = ls at hl ⊢
  have hl : lv_has ls 9 [(0, .ref h0), (1, .ref h1), (2, .int p2), (3, .int p3)] := hl
  have w_1 : (-2147483648) ≤ (σ h0 8).toInt ∧ (σ h0 8).toInt ≤ 2147483647 := by have z := hB.2.1 h0 mh0 8; rw [th0] at z; exact z
  refine lv_iload_n hx hb dX1_giftsFrom_0 rfl (lv_at hl 2 rfl) ?_
  refine lv_aload_n hx hb dX1_giftsFrom_1 rfl (lv_at hl 0 rfl) ?_
  refine t_gv hx hb hts hown hK hB mh0 th0 fi_1_8 rfl mw_2_136 dX1_giftsFrom_2 ?_
  refine lv_icmp_lt (tgt := 31) hx hb dX1_giftsFrom_5 (by decide) (fun c_2 => ?_) (fun c_2 => ?_)
  · skip
    have uc_2 := j_lt c_2
    refine lv_aload_n hx hb dX1_giftsFrom_31 rfl (lv_at hl 1 rfl) ?_
    refine t_gr hx hb hts hown hK hG hB mh1 th1 fq_3_3 rfl mw_1_149 dX1_giftsFrom_32 (fun b_3 hb_3 mb_3 tb_3 => ?_)
    refine lv_iload_n hx hb dX1_giftsFrom_35 rfl (lv_at hl 2 rfl) ?_
    refine t_ai hx hb hK hB mb_3 tb_3 ai_36 (fun _ => rfl) (i_in (by omega) (by omega)) dX1_giftsFrom_36 (fun x_4 ex_4 lx_4 ux_4 => ?_)
    have cx_4 := congrArg Int32.toInt ex_4
    refine lv_aload_n hx hb dX1_giftsFrom_37 rfl (lv_at hl 1 rfl) ?_
    refine t_gr hx hb hts hown hK hG hB mh1 th1 fq_3_4 rfl mw_1_155 dX1_giftsFrom_38 (fun b_5 hb_5 mb_5 tb_5 => ?_)
    refine lv_iload_n hx hb dX1_giftsFrom_41 rfl (lv_at hl 2 rfl) ?_
    refine t_ai hx hb hK hB mb_5 tb_5 ai_37 (fun _ => rfl) (i_in (by omega) (by omega)) dX1_giftsFrom_42 (fun x_6 ex_6 lx_6 ux_6 => ?_)
    have cx_6 := congrArg Int32.toInt ex_6
    refine lv_icmp_ne (tgt := 50) hx hb dX1_giftsFrom_43 (by decide) (fun c_7 => ?_) (fun c_7 => ?_)
    · skip
      have uc_7 := j_ne c_7
      refine lv_iconst (v := 2) hx hb dX1_giftsFrom_50 (by decide) ?_
      refine lv_istore (lv' := [(4, .int 2), (0, .ref h0), (1, .ref h1), (2, .int p2), (3, .int p3)]) hx hb dX1_giftsFrom_51 hl (by decide) rfl (fun ls hl => ?_)
      refine lv_iconst (v := 0) hx hb dX1_giftsFrom_53 (by decide) ?_
      refine lv_istore (lv' := [(5, .int 0), (4, .int 2), (0, .ref h0), (1, .ref h1), (2, .int p2), (3, .int p3)]) hx hb dX1_giftsFrom_54 hl (by decide) rfl (fun ls hl => ?_)
      refine lv_iconst (v := 0) hx hb dX1_giftsFrom_56 (by decide) ?_
      refine lv_istore (lv' := [(6, .int 0), (5, .int 0), (4, .int 2), (0, .ref h0), (1, .ref h1), (2, .int p2), (3, .int p3)]) hx hb dX1_giftsFrom_57 hl (by decide) rfl (fun ls hl => ?_)
      refine w_loop (α := Int32 × Int32 × Sg × Lg) (fun (i_8, i_9, σ_10, ρ_11) H locs ls => 0 ≤ i_9.toInt ∧ i_9.toInt ≤ 2 ∧ σ_10 h0 8 = (σ h0 8) ∧ TS D cA L T r ry [(26, 1000), (28, 1000), (29, 1000), (30, 1000)] σ σ_10 ρ_11 H ∧ va_S (dm L s.heap.size) s.heap H locs ∧ lv_has ls 9 [(6, .int i_9), (5, .int i_8), (4, .int 2), (0, .ref h0), (1, .ref h1), (2, .int p2), (3, .int p3)]) (fun (i_8, i_9, σ_10, ρ_11) => (2 - i_9.toInt).toNat) ?_ ⟨0, 0, σ, ρ⟩ ⟨(by decide), (by decide), rfl, hB, hS, lv_sub hl [0, 1, 2, 3, 4, 5, 6] rfl⟩
      rintro ⟨i_8, i_9, σ_10, ρ_11⟩ H locs ls ⟨li_9, ui_9, k_13, hB, hS, hl⟩ ih_12
      refine lv_iload hx hb dX1_giftsFrom_59 (lv_at hl 0 rfl) ?_
      refine lv_iload hx hb dX1_giftsFrom_61 (lv_at hl 2 rfl) ?_
      refine lv_icmp_ge (tgt := 162) hx hb dX1_giftsFrom_63 (by decide) (fun c_14 => ?_) (fun c_14 => ?_)
      · skip
        have uc_14 := i_ge (n := 2) (by decide) c_14
        refine lv_iload hx hb dX1_giftsFrom_162 (lv_at hl 1 rfl) ?_
        exact W.iret (v := i_8) hx hb hr (fun t ht hW => ⟨⟨i_8, (σ_10, ρ_11), rfl, ⟨hB.2.1, hB.2.2, trivial⟩, (show TP D cA L T r σ_10 ρ_11 t.heap from by rw [ht]; exact hB.1)⟩, hS.F ht⟩) hS.2.2 dX1_giftsFrom_164
      · skip
        have uc_14 := i_nge (n := 2) (by decide) c_14
        refine lv_aload_n hx hb dX1_giftsFrom_66 rfl (lv_at hl 4 rfl) ?_
        refine lv_iload_n hx hb dX1_giftsFrom_67 rfl (lv_at hl 5 rfl) ?_
        refine lv_iload hx hb dX1_giftsFrom_68 (lv_at hl 0 rfl) ?_
        refine lv_iload_n hx hb dX1_giftsFrom_70 rfl (lv_at hl 5 rfl) ?_
        refine lv_ishl hx hb dX1_giftsFrom_71 ?_
        refine lv_topi (fun x_15 ex_15 => ?_)
        refine t_ci (va_runV (As := [.int p2, .int x_15]) (rest := []) ⟨hx, hb, hml, hown, hts⟩ (cy_X3_askedAt l D cA L T r hG hLA.1 σ_10 ρ_11 hB.2.1 _ h1 mh1 th1 p2 x_15 (by first | omega | decide) (by first | omega | decide)) (cV hts mv_X3_askedAt mw_5_122 rfl rfl ⟨Nat.le_of_ble_eq_true rfl, Nat.le_of_ble_eq_true rfl⟩) (pV hB.1 hK hN mh1 th1 (show shp cA 3 _ _ _ = .inr (3, Fs3 _ _ _) from rfl) rfl) rfl rfl hl.1 rfl (lv_room (Nat.le_of_ble_eq_true rfl)) dX1_giftsFrom_72 ⟨Nat.le_of_ble_eq_true rfl, Nat.le_of_ble_eq_true rfl⟩) hLA hA hB hS (by decide) (fun x_18 σ_16 ρ_17 H locs hB fσ_16 pσ_16 hS => ?_)
        have qσ_16 := FR.nil fσ_16
        subst qσ_16
        obtain ⟨lx_18, ux_18⟩ := pσ_16
        refine lv_istore (lv' := [(7, .int x_18), (6, .int i_9), (5, .int i_8), (4, .int 2), (0, .ref h0), (1, .ref h1), (2, .int p2), (3, .int p3)]) hx hb dX1_giftsFrom_75 hl (by decide) rfl (fun ls hl => ?_)
        refine lv_aload_n hx hb dX1_giftsFrom_77 rfl (lv_at hl 4 rfl) ?_
        refine t_gr hx hb hts hown hK hG hB mh0 th0 fq_1_5 rfl mw_2_131 dX1_giftsFrom_78 (fun b_19 hb_19 mb_19 tb_19 => ?_)
        refine lv_iload hx hb dX1_giftsFrom_81 (lv_at hl 0 rfl) ?_
        refine t_ai hx hb hK hB mb_19 tb_19 ai_28 (fun _ => rfl) (i_in (by omega) (by omega)) dX1_giftsFrom_83 (fun x_20 ex_20 lx_20 ux_20 => ?_)
        have cx_20 := congrArg Int32.toInt ex_20
        refine lv_if_le (tgt := 156) hx hb dX1_giftsFrom_84 (by decide) (fun c_21 => ?_) (fun c_21 => ?_)
        · skip
          have uc_21 := i_le (n := 0) (by decide) c_21
          obtain ⟨x_22, ex_22⟩ : ∃ y : Int32, y = i_9 + 1 := ⟨_, rfl⟩
          have vx_22 := b_add (rfl : i_9.toInt = _) (by decide : (1 : Int32).toInt = 1) ex_22 (by omega) (by omega)
          refine lv_iinc (v := x_22) (lv' := [(6, .int x_22), (7, .int x_18), (5, .int i_8), (4, .int 2), (0, .ref h0), (1, .ref h1), (2, .int p2), (3, .int p3)]) hx hb dX1_giftsFrom_156 hl (k := 1) rfl (by rw [ex_22]; rfl) (by decide) rfl (fun ls hl => ?_)
          refine lv_goto (tgt := 59) hx hb dX1_giftsFrom_159 (by decide) ?_
          exact ih_12 ⟨i_8, x_22, σ_10, ρ_17⟩ _ _ _ ⟨(by omega), (by omega), k_13, hB, hS, lv_sub hl [0, 2, 3, 4, 5, 6, 7] rfl⟩ (by show (2 - x_22.toInt).toNat < (2 - i_9.toInt).toNat; omega)
        · skip
          have uc_21 := i_nle (n := 0) (by decide) c_21
          refine lv_aload_n hx hb dX1_giftsFrom_87 rfl (lv_at hl 4 rfl) ?_
          refine t_gk hx hb hts hown hK hB mh0 th0 fq_1_5 hb_19 mw_2_131 dX1_giftsFrom_88 ?_
          refine lv_iload hx hb dX1_giftsFrom_91 (lv_at hl 0 rfl) ?_
          refine lv_dup2_11 hx hb dX1_giftsFrom_93 rfl rfl ?_
          refine t_ai hx hb hK hB mb_19 tb_19 ai_28 (fun _ => rfl) (i_in (by omega) (by omega)) dX1_giftsFrom_94 (fun x_23 ex_23 lx_23 ux_23 => ?_)
          have qx_23 : x_23 = x_20 := ex_23.trans ex_20.symm
          have qx_23 := qx_23.symm
          subst qx_23
          refine lv_iconst (v := 1) hx hb dX1_giftsFrom_95 (by decide) ?_
          refine lv_isub hx hb dX1_giftsFrom_96 ?_
          refine lv_topi (fun x_24 ex_24 => ?_)
          have vx_24 := b_sub (rfl : x_20.toInt = _) (by decide : (1 : Int32).toInt = 1) ex_24 (by omega) (by omega)
          refine t_si hx hb hK hLA hB hS mb_19 tb_19 ai_28 (i_in (by omega) (by omega)) (i_lo _) (i_hi _) (Or.inr (by decide)) dX1_giftsFrom_97 (fun H locs σ_25 eσ_25 hB hS => ?_)
          have k_26 : σ_25 b_19 x_18.toNatClampNeg = x_24 := by rw [eσ_25]; exact up2_same _ _ _ _
          refine lv_aload_n hx hb dX1_giftsFrom_98 rfl (lv_at hl 4 rfl) ?_
          refine t_gr hx hb hts hown hK hG hB mh0 th0 fq_1_2 rfl mw_2_127 dX1_giftsFrom_99 (fun b_27 hb_27 mb_27 tb_27 => ?_)
          refine lv_iload_n hx hb dX1_giftsFrom_102 rfl (lv_at hl 6 rfl) ?_
          refine lv_iload hx hb dX1_giftsFrom_103 (lv_at hl 0 rfl) ?_
          refine t_si hx hb hK hLA hB hS mb_27 tb_27 ai_26 (i_in (by omega) (by omega)) (i_lo _) (i_hi _) (Or.inr (by decide)) dX1_giftsFrom_105 (fun H locs σ_28 eσ_28 hB hS => ?_)
          have k_29 : σ_28 b_27 p2.toNatClampNeg = x_18 := by rw [eσ_28]; exact up2_same _ _ _ _
          refine lv_aload_n hx hb dX1_giftsFrom_106 rfl (lv_at hl 4 rfl) ?_
          refine lv_aload_n hx hb dX1_giftsFrom_107 rfl (lv_at hl 5 rfl) ?_
          refine lv_iload_n hx hb dX1_giftsFrom_108 rfl (lv_at hl 6 rfl) ?_
          refine lv_iconst (v := 1) hx hb dX1_giftsFrom_109 (by decide) ?_
          refine lv_iadd hx hb dX1_giftsFrom_110 ?_
          refine lv_topi (fun x_30 ex_30 => ?_)
          have vx_30 := b_add (rfl : p2.toInt = _) (by decide : (1 : Int32).toInt = 1) ex_30 (by omega) (by omega)
          refine lv_iload_n hx hb dX1_giftsFrom_111 rfl (lv_at hl 7 rfl) ?_
          refine lv_iload hx hb dX1_giftsFrom_112 (lv_at hl 2 rfl) ?_
          refine lv_iadd hx hb dX1_giftsFrom_114 ?_
          refine lv_topi (fun x_31 ex_31 => ?_)
          try have vx_31 := b_add (rfl : p3.toInt = _) (rfl : i_8.toInt = _) ex_31 (by omega) (by omega)
          have k_32 : σ_25 h0 8 = (σ h0 8) := by rw [eσ_25, up2_nea _ _ (tg_ne th0 tb_19 (by decide))]; exact k_13
          have k_33 : σ_28 h0 8 = (σ h0 8) := by rw [eσ_28, up2_nea _ _ (tg_ne th0 tb_27 (by decide))]; exact k_32
          refine t_ci (va_runV (As := [.ref h1, .int x_30, .int x_31]) (rest := []) ⟨hx, hb, hml, hown, hts⟩ (cy_X1_giftsFrom_3 l D cA L T r hG hLA.1 σ_28 ρ_17 hB.2.1 _ h0 mh0 th0 h1 mh1 th1 x_30 x_31 (by first | omega | decide) (by first | omega | decide) (by rw [k_33]; omega) (by rw [k_33]; omega)) (cV hts mv_X1_giftsFrom mw_5_118 rfl rfl ⟨Nat.le_of_ble_eq_true rfl, Nat.le_of_ble_eq_true rfl⟩) (pV hB.1 hK hN mh0 th0 (show shp cA 1 _ _ _ = .inr (1, Fs1 _ _ _) from rfl) rfl) rfl rfl hl.1 rfl (lv_room (Nat.le_of_ble_eq_true rfl)) dX1_giftsFrom_115 ⟨Nat.le_of_ble_eq_true rfl, Nat.le_of_ble_eq_true rfl⟩) hLA hA hB hS (by decide) (fun x_36 σ_34 ρ_35 H locs hB fσ_34 pσ_34 hS => ?_)
          refine lv_istore (lv' := [(8, .int x_36), (7, .int x_18), (6, .int i_9), (5, .int i_8), (4, .int 2), (0, .ref h0), (1, .ref h1), (2, .int p2), (3, .int p3)]) hx hb dX1_giftsFrom_118 hl (by decide) rfl (fun ls hl => ?_)
          refine lv_aload_n hx hb dX1_giftsFrom_120 rfl (lv_at hl 5 rfl) ?_
          refine t_gk hx hb hts hown hK hB mh0 th0 fq_1_5 hb_19 mw_2_131 dX1_giftsFrom_121 ?_
          refine lv_iload hx hb dX1_giftsFrom_124 (lv_at hl 1 rfl) ?_
          refine lv_dup2_11 hx hb dX1_giftsFrom_126 rfl rfl ?_
          refine t_ai hx hb hK hB mb_19 tb_19 ai_28 (fun _ => rfl) (i_in (by omega) (by omega)) dX1_giftsFrom_127 (fun x_37 ex_37 lx_37 ux_37 => ?_)
          have cx_37 := congrArg Int32.toInt ex_37
          refine lv_iconst (v := 1) hx hb dX1_giftsFrom_128 (by decide) ?_
          refine lv_iadd hx hb dX1_giftsFrom_129 ?_
          refine lv_topi (fun x_38 ex_38 => ?_)
          try have vx_38 := b_add (rfl : x_37.toInt = _) (by decide : (1 : Int32).toInt = 1) ex_38 (by omega) (by omega)
          refine t_si hx hb hK hLA hB hS mb_19 tb_19 ai_28 (i_in (by omega) (by omega)) (i_lo _) (i_hi _) (Or.inr (by decide)) dX1_giftsFrom_130 (fun H locs σ_39 eσ_39 hB hS => ?_)
          have k_40 : σ_39 b_19 x_18.toNatClampNeg = x_38 := by rw [eσ_39]; exact up2_same _ _ _ _
          refine lv_iload hx hb dX1_giftsFrom_131 (lv_at hl 0 rfl) ?_
          refine lv_if_le (tgt := 149) hx hb dX1_giftsFrom_133 (by decide) (fun c_41 => ?_) (fun c_41 => ?_)
          · skip
            have uc_41 := i_le (n := 0) (by decide) c_41
            refine lv_iload hx hb dX1_giftsFrom_149 (lv_at hl 3 rfl) ?_
            refine lv_iload hx hb dX1_giftsFrom_151 (lv_at hl 0 rfl) ?_
            refine lv_iadd hx hb dX1_giftsFrom_153 ?_
            refine lv_topi (fun x_42 ex_42 => ?_)
            try have vx_42 := b_add (rfl : i_8.toInt = _) (rfl : x_36.toInt = _) ex_42 (by omega) (by omega)
            refine lv_istore (lv' := [(5, .int x_42), (8, .int x_36), (7, .int x_18), (6, .int i_9), (4, .int 2), (0, .ref h0), (1, .ref h1), (2, .int p2), (3, .int p3)]) hx hb dX1_giftsFrom_154 hl (by decide) rfl (fun ls hl => ?_)
            obtain ⟨x_43, ex_43⟩ : ∃ y : Int32, y = i_9 + 1 := ⟨_, rfl⟩
            have vx_43 := b_add (rfl : i_9.toInt = _) (by decide : (1 : Int32).toInt = 1) ex_43 (by omega) (by omega)
            refine lv_iinc (v := x_43) (lv' := [(6, .int x_43), (5, .int x_42), (8, .int x_36), (7, .int x_18), (4, .int 2), (0, .ref h0), (1, .ref h1), (2, .int p2), (3, .int p3)]) hx hb dX1_giftsFrom_156 hl (k := 3) rfl (by rw [ex_43]; rfl) (by decide) rfl (fun ls hl => ?_)
            refine lv_goto (tgt := 59) hx hb dX1_giftsFrom_159 (by decide) ?_
            have k_44 : σ_34 h0 8 = (σ h0 8) := (FR.at fσ_34 th0 (by decide)).trans k_33
            have k_45 : σ_39 h0 8 = (σ h0 8) := by rw [eσ_39, up2_nea _ _ (tg_ne th0 tb_19 (by decide))]; exact k_44
            exact ih_12 ⟨x_42, x_43, σ_39, ρ_35⟩ _ _ _ ⟨(by omega), (by omega), k_45, hB, hS, lv_sub hl [0, 1, 4, 5, 6, 7, 8] rfl⟩ (by show (2 - x_43.toInt).toNat < (2 - i_9.toInt).toNat; omega)
          · skip
            have uc_41 := i_nle (n := 0) (by decide) c_41
            refine lv_aload_n hx hb dX1_giftsFrom_136 rfl (lv_at hl 5 rfl) ?_
            refine t_gr hx hb hts hown hK hG hB mh0 th0 fq_1_6 rfl mw_2_132 dX1_giftsFrom_137 (fun b_46 hb_46 mb_46 tb_46 => ?_)
            refine lv_iload_n hx hb dX1_giftsFrom_140 rfl (lv_at hl 7 rfl) ?_
            refine lv_dup2_11 hx hb dX1_giftsFrom_141 rfl rfl ?_
            refine t_ai hx hb hK hB mb_46 tb_46 ai_29 (fun _ => rfl) (i_in (by omega) (by omega)) dX1_giftsFrom_142 (fun x_47 ex_47 lx_47 ux_47 => ?_)
            have cx_47 := congrArg Int32.toInt ex_47
            refine lv_iconst (v := 1) hx hb dX1_giftsFrom_143 (by decide) ?_
            refine lv_iload hx hb dX1_giftsFrom_144 (lv_at hl 1 rfl) ?_
            refine lv_ishl hx hb dX1_giftsFrom_146 ?_
            refine lv_topi (fun x_48 ex_48 => ?_)
            refine lv_ior hx hb dX1_giftsFrom_147 ?_
            refine lv_topi (fun x_49 ex_49 => ?_)
            refine t_si hx hb hK hLA hB hS mb_46 tb_46 ai_29 (i_in (by omega) (by omega)) (i_lo _) (i_hi _) (Or.inr (by decide)) dX1_giftsFrom_148 (fun H locs σ_50 eσ_50 hB hS => ?_)
            have k_51 : σ_50 b_46 p2.toNatClampNeg = x_49 := by rw [eσ_50]; exact up2_same _ _ _ _
            refine lv_iload hx hb dX1_giftsFrom_149 (lv_at hl 3 rfl) ?_
            refine lv_iload hx hb dX1_giftsFrom_151 (lv_at hl 0 rfl) ?_
            refine lv_iadd hx hb dX1_giftsFrom_153 ?_
            refine lv_topi (fun x_52 ex_52 => ?_)
            try have vx_52 := b_add (rfl : i_8.toInt = _) (rfl : x_36.toInt = _) ex_52 (by omega) (by omega)
            refine lv_istore (lv' := [(5, .int x_52), (8, .int x_36), (7, .int x_18), (6, .int i_9), (4, .int 2), (0, .ref h0), (1, .ref h1), (2, .int p2), (3, .int p3)]) hx hb dX1_giftsFrom_154 hl (by decide) rfl (fun ls hl => ?_)
            obtain ⟨x_53, ex_53⟩ : ∃ y : Int32, y = i_9 + 1 := ⟨_, rfl⟩
            have vx_53 := b_add (rfl : i_9.toInt = _) (by decide : (1 : Int32).toInt = 1) ex_53 (by omega) (by omega)
            refine lv_iinc (v := x_53) (lv' := [(6, .int x_53), (5, .int x_52), (8, .int x_36), (7, .int x_18), (4, .int 2), (0, .ref h0), (1, .ref h1), (2, .int p2), (3, .int p3)]) hx hb dX1_giftsFrom_156 hl (k := 3) rfl (by rw [ex_53]; rfl) (by decide) rfl (fun ls hl => ?_)
            refine lv_goto (tgt := 59) hx hb dX1_giftsFrom_159 (by decide) ?_
            have k_54 : σ_34 h0 8 = (σ h0 8) := (FR.at fσ_34 th0 (by decide)).trans k_33
            have k_55 : σ_39 h0 8 = (σ h0 8) := by rw [eσ_39, up2_nea _ _ (tg_ne th0 tb_19 (by decide))]; exact k_54
            have k_56 : σ_50 h0 8 = (σ h0 8) := by rw [eσ_50, up2_nea _ _ (tg_ne th0 tb_46 (by decide))]; exact k_55
            exact ih_12 ⟨x_52, x_53, σ_50, ρ_35⟩ _ _ _ ⟨(by omega), (by omega), k_56, hB, hS, lv_sub hl [0, 1, 4, 5, 6, 7, 8] rfl⟩ (by show (2 - x_53.toInt).toNat < (2 - i_9.toInt).toNat; omega)
    · skip
      have uc_7 := j_eq c_7
      refine lv_iconst (v := 1) hx hb dX1_giftsFrom_46 (by decide) ?_
      refine lv_goto (tgt := 51) hx hb dX1_giftsFrom_47 (by decide) ?_
      refine lv_istore (lv' := [(4, .int 1), (0, .ref h0), (1, .ref h1), (2, .int p2), (3, .int p3)]) hx hb dX1_giftsFrom_51 hl (by decide) rfl (fun ls hl => ?_)
      refine lv_iconst (v := 0) hx hb dX1_giftsFrom_53 (by decide) ?_
      refine lv_istore (lv' := [(5, .int 0), (4, .int 1), (0, .ref h0), (1, .ref h1), (2, .int p2), (3, .int p3)]) hx hb dX1_giftsFrom_54 hl (by decide) rfl (fun ls hl => ?_)
      refine lv_iconst (v := 0) hx hb dX1_giftsFrom_56 (by decide) ?_
      refine lv_istore (lv' := [(6, .int 0), (5, .int 0), (4, .int 1), (0, .ref h0), (1, .ref h1), (2, .int p2), (3, .int p3)]) hx hb dX1_giftsFrom_57 hl (by decide) rfl (fun ls hl => ?_)
      refine w_loop (α := Int32 × Int32 × Sg × Lg) (fun (i_57, i_58, σ_59, ρ_60) H locs ls => 0 ≤ i_58.toInt ∧ i_58.toInt ≤ 1 ∧ σ_59 h0 8 = (σ h0 8) ∧ TS D cA L T r ry [(26, 1000), (28, 1000), (29, 1000), (30, 1000)] σ σ_59 ρ_60 H ∧ va_S (dm L s.heap.size) s.heap H locs ∧ lv_has ls 9 [(6, .int i_58), (5, .int i_57), (4, .int 1), (0, .ref h0), (1, .ref h1), (2, .int p2), (3, .int p3)]) (fun (i_57, i_58, σ_59, ρ_60) => (1 - i_58.toInt).toNat) ?_ ⟨0, 0, σ, ρ⟩ ⟨(by decide), (by decide), rfl, hB, hS, lv_sub hl [0, 1, 2, 3, 4, 5, 6] rfl⟩
      rintro ⟨i_57, i_58, σ_59, ρ_60⟩ H locs ls ⟨li_58, ui_58, k_62, hB, hS, hl⟩ ih_61
      refine lv_iload hx hb dX1_giftsFrom_59 (lv_at hl 0 rfl) ?_
      refine lv_iload hx hb dX1_giftsFrom_61 (lv_at hl 2 rfl) ?_
      refine lv_icmp_ge (tgt := 162) hx hb dX1_giftsFrom_63 (by decide) (fun c_63 => ?_) (fun c_63 => ?_)
      · skip
        have uc_63 := i_ge (n := 1) (by decide) c_63
        refine lv_iload hx hb dX1_giftsFrom_162 (lv_at hl 1 rfl) ?_
        exact W.iret (v := i_57) hx hb hr (fun t ht hW => ⟨⟨i_57, (σ_59, ρ_60), rfl, ⟨hB.2.1, hB.2.2, trivial⟩, (show TP D cA L T r σ_59 ρ_60 t.heap from by rw [ht]; exact hB.1)⟩, hS.F ht⟩) hS.2.2 dX1_giftsFrom_164
      · skip
        have uc_63 := i_nge (n := 1) (by decide) c_63
        refine lv_aload_n hx hb dX1_giftsFrom_66 rfl (lv_at hl 4 rfl) ?_
        refine lv_iload_n hx hb dX1_giftsFrom_67 rfl (lv_at hl 5 rfl) ?_
        refine lv_iload hx hb dX1_giftsFrom_68 (lv_at hl 0 rfl) ?_
        refine lv_iload_n hx hb dX1_giftsFrom_70 rfl (lv_at hl 5 rfl) ?_
        refine lv_ishl hx hb dX1_giftsFrom_71 ?_
        refine lv_topi (fun x_64 ex_64 => ?_)
        refine t_ci (va_runV (As := [.int p2, .int x_64]) (rest := []) ⟨hx, hb, hml, hown, hts⟩ (cy_X3_askedAt l D cA L T r hG hLA.1 σ_59 ρ_60 hB.2.1 _ h1 mh1 th1 p2 x_64 (by first | omega | decide) (by first | omega | decide)) (cV hts mv_X3_askedAt mw_5_122 rfl rfl ⟨Nat.le_of_ble_eq_true rfl, Nat.le_of_ble_eq_true rfl⟩) (pV hB.1 hK hN mh1 th1 (show shp cA 3 _ _ _ = .inr (3, Fs3 _ _ _) from rfl) rfl) rfl rfl hl.1 rfl (lv_room (Nat.le_of_ble_eq_true rfl)) dX1_giftsFrom_72 ⟨Nat.le_of_ble_eq_true rfl, Nat.le_of_ble_eq_true rfl⟩) hLA hA hB hS (by decide) (fun x_67 σ_65 ρ_66 H locs hB fσ_65 pσ_65 hS => ?_)
        have qσ_65 := FR.nil fσ_65
        subst qσ_65
        obtain ⟨lx_67, ux_67⟩ := pσ_65
        refine lv_istore (lv' := [(7, .int x_67), (6, .int i_58), (5, .int i_57), (4, .int 1), (0, .ref h0), (1, .ref h1), (2, .int p2), (3, .int p3)]) hx hb dX1_giftsFrom_75 hl (by decide) rfl (fun ls hl => ?_)
        refine lv_aload_n hx hb dX1_giftsFrom_77 rfl (lv_at hl 4 rfl) ?_
        refine t_gr hx hb hts hown hK hG hB mh0 th0 fq_1_5 rfl mw_2_131 dX1_giftsFrom_78 (fun b_68 hb_68 mb_68 tb_68 => ?_)
        refine lv_iload hx hb dX1_giftsFrom_81 (lv_at hl 0 rfl) ?_
        refine t_ai hx hb hK hB mb_68 tb_68 ai_28 (fun _ => rfl) (i_in (by omega) (by omega)) dX1_giftsFrom_83 (fun x_69 ex_69 lx_69 ux_69 => ?_)
        have cx_69 := congrArg Int32.toInt ex_69
        refine lv_if_le (tgt := 156) hx hb dX1_giftsFrom_84 (by decide) (fun c_70 => ?_) (fun c_70 => ?_)
        · skip
          have uc_70 := i_le (n := 0) (by decide) c_70
          obtain ⟨x_71, ex_71⟩ : ∃ y : Int32, y = i_58 + 1 := ⟨_, rfl⟩
          have vx_71 := b_add (rfl : i_58.toInt = _) (by decide : (1 : Int32).toInt = 1) ex_71 (by omega) (by omega)
          refine lv_iinc (v := x_71) (lv' := [(6, .int x_71), (7, .int x_67), (5, .int i_57), (4, .int 1), (0, .ref h0), (1, .ref h1), (2, .int p2), (3, .int p3)]) hx hb dX1_giftsFrom_156 hl (k := 1) rfl (by rw [ex_71]; rfl) (by decide) rfl (fun ls hl => ?_)
          refine lv_goto (tgt := 59) hx hb dX1_giftsFrom_159 (by decide) ?_
          exact ih_61 ⟨i_57, x_71, σ_59, ρ_66⟩ _ _ _ ⟨(by omega), (by omega), k_62, hB, hS, lv_sub hl [0, 2, 3, 4, 5, 6, 7] rfl⟩ (by show (1 - x_71.toInt).toNat < (1 - i_58.toInt).toNat; omega)
        · skip
          have uc_70 := i_nle (n := 0) (by decide) c_70
          refine lv_aload_n hx hb dX1_giftsFrom_87 rfl (lv_at hl 4 rfl) ?_
          refine t_gk hx hb hts hown hK hB mh0 th0 fq_1_5 hb_68 mw_2_131 dX1_giftsFrom_88 ?_
          refine lv_iload hx hb dX1_giftsFrom_91 (lv_at hl 0 rfl) ?_
          refine lv_dup2_11 hx hb dX1_giftsFrom_93 rfl rfl ?_
          refine t_ai hx hb hK hB mb_68 tb_68 ai_28 (fun _ => rfl) (i_in (by omega) (by omega)) dX1_giftsFrom_94 (fun x_72 ex_72 lx_72 ux_72 => ?_)
          have qx_72 : x_72 = x_69 := ex_72.trans ex_69.symm
          have qx_72 := qx_72.symm
          subst qx_72
          refine lv_iconst (v := 1) hx hb dX1_giftsFrom_95 (by decide) ?_
          refine lv_isub hx hb dX1_giftsFrom_96 ?_
          refine lv_topi (fun x_73 ex_73 => ?_)
          have vx_73 := b_sub (rfl : x_69.toInt = _) (by decide : (1 : Int32).toInt = 1) ex_73 (by omega) (by omega)
          refine t_si hx hb hK hLA hB hS mb_68 tb_68 ai_28 (i_in (by omega) (by omega)) (i_lo _) (i_hi _) (Or.inr (by decide)) dX1_giftsFrom_97 (fun H locs σ_74 eσ_74 hB hS => ?_)
          have k_75 : σ_74 b_68 x_67.toNatClampNeg = x_73 := by rw [eσ_74]; exact up2_same _ _ _ _
          refine lv_aload_n hx hb dX1_giftsFrom_98 rfl (lv_at hl 4 rfl) ?_
          refine t_gr hx hb hts hown hK hG hB mh0 th0 fq_1_2 rfl mw_2_127 dX1_giftsFrom_99 (fun b_76 hb_76 mb_76 tb_76 => ?_)
          refine lv_iload_n hx hb dX1_giftsFrom_102 rfl (lv_at hl 6 rfl) ?_
          refine lv_iload hx hb dX1_giftsFrom_103 (lv_at hl 0 rfl) ?_
          refine t_si hx hb hK hLA hB hS mb_76 tb_76 ai_26 (i_in (by omega) (by omega)) (i_lo _) (i_hi _) (Or.inr (by decide)) dX1_giftsFrom_105 (fun H locs σ_77 eσ_77 hB hS => ?_)
          have k_78 : σ_77 b_76 p2.toNatClampNeg = x_67 := by rw [eσ_77]; exact up2_same _ _ _ _
          refine lv_aload_n hx hb dX1_giftsFrom_106 rfl (lv_at hl 4 rfl) ?_
          refine lv_aload_n hx hb dX1_giftsFrom_107 rfl (lv_at hl 5 rfl) ?_
          refine lv_iload_n hx hb dX1_giftsFrom_108 rfl (lv_at hl 6 rfl) ?_
          refine lv_iconst (v := 1) hx hb dX1_giftsFrom_109 (by decide) ?_
          refine lv_iadd hx hb dX1_giftsFrom_110 ?_
          refine lv_topi (fun x_79 ex_79 => ?_)
          have vx_79 := b_add (rfl : p2.toInt = _) (by decide : (1 : Int32).toInt = 1) ex_79 (by omega) (by omega)
          refine lv_iload_n hx hb dX1_giftsFrom_111 rfl (lv_at hl 7 rfl) ?_
          refine lv_iload hx hb dX1_giftsFrom_112 (lv_at hl 2 rfl) ?_
          refine lv_iadd hx hb dX1_giftsFrom_114 ?_
          refine lv_topi (fun x_80 ex_80 => ?_)
          try have vx_80 := b_add (rfl : p3.toInt = _) (rfl : i_57.toInt = _) ex_80 (by omega) (by omega)
          have k_81 : σ_74 h0 8 = (σ h0 8) := by rw [eσ_74, up2_nea _ _ (tg_ne th0 tb_68 (by decide))]; exact k_62
          have k_82 : σ_77 h0 8 = (σ h0 8) := by rw [eσ_77, up2_nea _ _ (tg_ne th0 tb_76 (by decide))]; exact k_81
          refine t_ci (va_runV (As := [.ref h1, .int x_79, .int x_80]) (rest := []) ⟨hx, hb, hml, hown, hts⟩ (cy_X1_giftsFrom_3 l D cA L T r hG hLA.1 σ_77 ρ_66 hB.2.1 _ h0 mh0 th0 h1 mh1 th1 x_79 x_80 (by first | omega | decide) (by first | omega | decide) (by rw [k_82]; omega) (by rw [k_82]; omega)) (cV hts mv_X1_giftsFrom mw_5_118 rfl rfl ⟨Nat.le_of_ble_eq_true rfl, Nat.le_of_ble_eq_true rfl⟩) (pV hB.1 hK hN mh0 th0 (show shp cA 1 _ _ _ = .inr (1, Fs1 _ _ _) from rfl) rfl) rfl rfl hl.1 rfl (lv_room (Nat.le_of_ble_eq_true rfl)) dX1_giftsFrom_115 ⟨Nat.le_of_ble_eq_true rfl, Nat.le_of_ble_eq_true rfl⟩) hLA hA hB hS (by decide) (fun x_85 σ_83 ρ_84 H locs hB fσ_83 pσ_83 hS => ?_)
          refine lv_istore (lv' := [(8, .int x_85), (7, .int x_67), (6, .int i_58), (5, .int i_57), (4, .int 1), (0, .ref h0), (1, .ref h1), (2, .int p2), (3, .int p3)]) hx hb dX1_giftsFrom_118 hl (by decide) rfl (fun ls hl => ?_)
          refine lv_aload_n hx hb dX1_giftsFrom_120 rfl (lv_at hl 5 rfl) ?_
          refine t_gk hx hb hts hown hK hB mh0 th0 fq_1_5 hb_68 mw_2_131 dX1_giftsFrom_121 ?_
          refine lv_iload hx hb dX1_giftsFrom_124 (lv_at hl 1 rfl) ?_
          refine lv_dup2_11 hx hb dX1_giftsFrom_126 rfl rfl ?_
          refine t_ai hx hb hK hB mb_68 tb_68 ai_28 (fun _ => rfl) (i_in (by omega) (by omega)) dX1_giftsFrom_127 (fun x_86 ex_86 lx_86 ux_86 => ?_)
          have cx_86 := congrArg Int32.toInt ex_86
          refine lv_iconst (v := 1) hx hb dX1_giftsFrom_128 (by decide) ?_
          refine lv_iadd hx hb dX1_giftsFrom_129 ?_
          refine lv_topi (fun x_87 ex_87 => ?_)
          try have vx_87 := b_add (rfl : x_86.toInt = _) (by decide : (1 : Int32).toInt = 1) ex_87 (by omega) (by omega)
          refine t_si hx hb hK hLA hB hS mb_68 tb_68 ai_28 (i_in (by omega) (by omega)) (i_lo _) (i_hi _) (Or.inr (by decide)) dX1_giftsFrom_130 (fun H locs σ_88 eσ_88 hB hS => ?_)
          have k_89 : σ_88 b_68 x_67.toNatClampNeg = x_87 := by rw [eσ_88]; exact up2_same _ _ _ _
          refine lv_iload hx hb dX1_giftsFrom_131 (lv_at hl 0 rfl) ?_
          refine lv_if_le (tgt := 149) hx hb dX1_giftsFrom_133 (by decide) (fun c_90 => ?_) (fun c_90 => ?_)
          · skip
            have uc_90 := i_le (n := 0) (by decide) c_90
            refine lv_iload hx hb dX1_giftsFrom_149 (lv_at hl 3 rfl) ?_
            refine lv_iload hx hb dX1_giftsFrom_151 (lv_at hl 0 rfl) ?_
            refine lv_iadd hx hb dX1_giftsFrom_153 ?_
            refine lv_topi (fun x_91 ex_91 => ?_)
            try have vx_91 := b_add (rfl : i_57.toInt = _) (rfl : x_85.toInt = _) ex_91 (by omega) (by omega)
            refine lv_istore (lv' := [(5, .int x_91), (8, .int x_85), (7, .int x_67), (6, .int i_58), (4, .int 1), (0, .ref h0), (1, .ref h1), (2, .int p2), (3, .int p3)]) hx hb dX1_giftsFrom_154 hl (by decide) rfl (fun ls hl => ?_)
            obtain ⟨x_92, ex_92⟩ : ∃ y : Int32, y = i_58 + 1 := ⟨_, rfl⟩
            have vx_92 := b_add (rfl : i_58.toInt = _) (by decide : (1 : Int32).toInt = 1) ex_92 (by omega) (by omega)
            refine lv_iinc (v := x_92) (lv' := [(6, .int x_92), (5, .int x_91), (8, .int x_85), (7, .int x_67), (4, .int 1), (0, .ref h0), (1, .ref h1), (2, .int p2), (3, .int p3)]) hx hb dX1_giftsFrom_156 hl (k := 3) rfl (by rw [ex_92]; rfl) (by decide) rfl (fun ls hl => ?_)
            refine lv_goto (tgt := 59) hx hb dX1_giftsFrom_159 (by decide) ?_
            have k_93 : σ_83 h0 8 = (σ h0 8) := (FR.at fσ_83 th0 (by decide)).trans k_82
            have k_94 : σ_88 h0 8 = (σ h0 8) := by rw [eσ_88, up2_nea _ _ (tg_ne th0 tb_68 (by decide))]; exact k_93
            exact ih_61 ⟨x_91, x_92, σ_88, ρ_84⟩ _ _ _ ⟨(by omega), (by omega), k_94, hB, hS, lv_sub hl [0, 1, 4, 5, 6, 7, 8] rfl⟩ (by show (1 - x_92.toInt).toNat < (1 - i_58.toInt).toNat; omega)
          · skip
            have uc_90 := i_nle (n := 0) (by decide) c_90
            refine lv_aload_n hx hb dX1_giftsFrom_136 rfl (lv_at hl 5 rfl) ?_
            refine t_gr hx hb hts hown hK hG hB mh0 th0 fq_1_6 rfl mw_2_132 dX1_giftsFrom_137 (fun b_95 hb_95 mb_95 tb_95 => ?_)
            refine lv_iload_n hx hb dX1_giftsFrom_140 rfl (lv_at hl 7 rfl) ?_
            refine lv_dup2_11 hx hb dX1_giftsFrom_141 rfl rfl ?_
            refine t_ai hx hb hK hB mb_95 tb_95 ai_29 (fun _ => rfl) (i_in (by omega) (by omega)) dX1_giftsFrom_142 (fun x_96 ex_96 lx_96 ux_96 => ?_)
            have cx_96 := congrArg Int32.toInt ex_96
            refine lv_iconst (v := 1) hx hb dX1_giftsFrom_143 (by decide) ?_
            refine lv_iload hx hb dX1_giftsFrom_144 (lv_at hl 1 rfl) ?_
            refine lv_ishl hx hb dX1_giftsFrom_146 ?_
            refine lv_topi (fun x_97 ex_97 => ?_)
            refine lv_ior hx hb dX1_giftsFrom_147 ?_
            refine lv_topi (fun x_98 ex_98 => ?_)
            refine t_si hx hb hK hLA hB hS mb_95 tb_95 ai_29 (i_in (by omega) (by omega)) (i_lo _) (i_hi _) (Or.inr (by decide)) dX1_giftsFrom_148 (fun H locs σ_99 eσ_99 hB hS => ?_)
            have k_100 : σ_99 b_95 p2.toNatClampNeg = x_98 := by rw [eσ_99]; exact up2_same _ _ _ _
            refine lv_iload hx hb dX1_giftsFrom_149 (lv_at hl 3 rfl) ?_
            refine lv_iload hx hb dX1_giftsFrom_151 (lv_at hl 0 rfl) ?_
            refine lv_iadd hx hb dX1_giftsFrom_153 ?_
            refine lv_topi (fun x_101 ex_101 => ?_)
            try have vx_101 := b_add (rfl : i_57.toInt = _) (rfl : x_85.toInt = _) ex_101 (by omega) (by omega)
            refine lv_istore (lv' := [(5, .int x_101), (8, .int x_85), (7, .int x_67), (6, .int i_58), (4, .int 1), (0, .ref h0), (1, .ref h1), (2, .int p2), (3, .int p3)]) hx hb dX1_giftsFrom_154 hl (by decide) rfl (fun ls hl => ?_)
            obtain ⟨x_102, ex_102⟩ : ∃ y : Int32, y = i_58 + 1 := ⟨_, rfl⟩
            have vx_102 := b_add (rfl : i_58.toInt = _) (by decide : (1 : Int32).toInt = 1) ex_102 (by omega) (by omega)
            refine lv_iinc (v := x_102) (lv' := [(6, .int x_102), (5, .int x_101), (8, .int x_85), (7, .int x_67), (4, .int 1), (0, .ref h0), (1, .ref h1), (2, .int p2), (3, .int p3)]) hx hb dX1_giftsFrom_156 hl (k := 3) rfl (by rw [ex_102]; rfl) (by decide) rfl (fun ls hl => ?_)
            refine lv_goto (tgt := 59) hx hb dX1_giftsFrom_159 (by decide) ?_
            have k_103 : σ_83 h0 8 = (σ h0 8) := (FR.at fσ_83 th0 (by decide)).trans k_82
            have k_104 : σ_88 h0 8 = (σ h0 8) := by rw [eσ_88, up2_nea _ _ (tg_ne th0 tb_68 (by decide))]; exact k_103
            have k_105 : σ_99 h0 8 = (σ h0 8) := by rw [eσ_99, up2_nea _ _ (tg_ne th0 tb_95 (by decide))]; exact k_104
            exact ih_61 ⟨x_101, x_102, σ_99, ρ_84⟩ _ _ _ ⟨(by omega), (by omega), k_105, hB, hS, lv_sub hl [0, 1, 4, 5, 6, 7, 8] rfl⟩ (by show (1 - x_102.toInt).toNat < (1 - i_58.toInt).toNat; omega)
  · skip
    have uc_2 := j_nlt c_2
    refine lv_iload_n hx hb dX1_giftsFrom_8 rfl (lv_at hl 3 rfl) ?_
    refine lv_if_ne (tgt := 29) hx hb dX1_giftsFrom_9 (by decide) (fun c_106 => ?_) (fun c_106 => ?_)
    · skip
      have uc_106 := i_ne (n := 0) (by decide) c_106
      refine lv_iconst (v := 1) hx hb dX1_giftsFrom_29 (by decide) ?_
      exact W.iret (v := 1) hx hb hr (fun t ht hW => ⟨⟨1, (σ, ρ), rfl, ⟨hB.2.1, hB.2.2, trivial⟩, (show TP D cA L T r σ ρ t.heap from by rw [ht]; exact hB.1)⟩, hS.F ht⟩) hS.2.2 dX1_giftsFrom_30
    · skip
      have uc_106 := i_eq (n := 0) (by decide) c_106
      refine lv_aload_n hx hb dX1_giftsFrom_12 rfl (lv_at hl 0 rfl) ?_
      refine t_gr hx hb hts hown hK hG hB mh0 th0 fq_1_2 rfl mw_2_127 dX1_giftsFrom_13 (fun b_107 hb_107 mb_107 tb_107 => ?_)
      refine lv_iconst (v := 0) hx hb dX1_giftsFrom_16 (by decide) ?_
      refine lv_aload_n hx hb dX1_giftsFrom_17 rfl (lv_at hl 0 rfl) ?_
      refine t_gr hx hb hts hown hK hG hB mh0 th0 fq_1_7 rfl mw_2_134 dX1_giftsFrom_18 (fun b_108 hb_108 mb_108 tb_108 => ?_)
      refine lv_iconst (v := 0) hx hb dX1_giftsFrom_21 (by decide) ?_
      refine lv_aload_n hx hb dX1_giftsFrom_22 rfl (lv_at hl 0 rfl) ?_
      refine t_gv hx hb hts hown hK hB mh0 th0 fi_1_8 rfl mw_2_136 dX1_giftsFrom_23 ?_
      refine t_cp (lo := (-2147483648)) (hi := 2147483647) hx hb (hml.trans hl.1.symm) hts hown mw_5_84 ⟨mw_3_239, mw_3_238, mw_1_20⟩ hK hLA hB hS mb_107 tb_107 ai_26 mb_108 tb_108 ai_30 (fun _ => ⟨show ((-2147483648) : Int) ≤ (-2147483648) by decide, show (2147483647 : Int) ≤ 2147483647 by decide⟩) (fun _ => rfl) (by decide) (by decide) (by decide) (a_nn (by omega)) (a_cp (by decide) (by omega)) (a_cp (by decide) (by omega)) (Nat.le_of_ble_eq_true rfl) (Nat.le_of_ble_eq_true rfl) dX1_giftsFrom_26 (fun H locs σ_109 eσ_109 hB hS => ?_)
      refine lv_iconst (v := 1) hx hb dX1_giftsFrom_29 (by decide) ?_
      exact W.iret (v := 1) hx hb hr (fun t ht hW => ⟨⟨1, (σ_109, ρ), rfl, ⟨hB.2.1, hB.2.2, trivial⟩, (show TP D cA L T r σ_109 ρ t.heap from by rw [ht]; exact hB.1)⟩, hS.F ht⟩) hS.2.2 dX1_giftsFrom_30
set_option maxHeartbeats 4000000 in
set_option maxRecDepth 100000 in
theorem cy_X1_giftsFrom_5 (l : Launch) (D : va_G) (cA : Nat → ClassId) (L : List Nat) (T : Nat → Nat) (r : Rg) (hG : GR L T r) (hL : L.Nodup) (σ : Sg) (ρ : Lg) (hW : WT L ry T σ) (sz : Nat) (h0 : Nat) (mh0 : h0 ∈ L) (th0 : T h0 = 1) (h1 : Nat) (mh1 : h1 ∈ L) (th1 : T h1 = 3) (p2 : Int32) (p3 : Int32) (w0 : 3 ≤ p2.toInt) (w1 : p2.toInt ≤ 8) (w2 : 0 ≤ (σ h0 8).toInt) (w3 : (σ h0 8).toInt ≤ 8) : Met l yX1_giftsFrom (.code yX1_giftsFrom cX1_giftsFrom 9 (some .int) :: wsA) ({ frames := 6, cells := 0, slots := 0, locals := 240 }) (PR D cA L T r σ ρ sz [.ref h0, .ref h1, .int p2, .int p3]) (QI D cA L T r ry [(26, 1000), (28, 1000), (29, 1000), (30, 1000)] σ sz (fun x σ1 => True)) 0 0 (dm L sz) := by
  refine Met.ofW (cc := cX1_giftsFrom) (maxL := 9) (ret := (some .int)) (by decide) rfl ?_
  intro p e s m args below meth c s₁ B hml hv
  obtain ⟨rfl, hsz, hP, hK, hN⟩ := hv
  have hx := B.exec
  have hb := B.bytes
  have hr := B.returns
  have hts : ∀ w ∈ wsA, w.before _ s = true := fun w h => atoms_spec (ws := .code yX1_giftsFrom cX1_giftsFrom 9 (some .int) :: wsA) B.pre w (List.mem_cons_of_mem _ h)
  have hown : s.vm.findClass RX1 = some m.cls := findClass_of_methodNamed B.named
  subst hsz
  have hLA : LA (dm L s.heap.size) L := ⟨hL, fun a h => Or.inl h⟩
  have hA : ∀ q : Nat, s.heap.size ≤ q → dm L s.heap.size q := fun q h => Or.inr h
  have hS : va_S (dm L s.heap.size) s.heap s.heap [] := va_S.rf
  have hB : TS D cA L T r ry [(26, 1000), (28, 1000), (29, 1000), (30, 1000)] σ σ ρ s.heap := ⟨hP, hW, FR.rf⟩
  have hl := lv_entry ([.ref h0, .ref h1, .int p2, .int p3]) (n := 9) (Nat.le_of_ble_eq_true rfl)
  rw [lg_entry_eq]
  generalize (lg_sl ([.ref h0, .ref h1, .int p2, .int p3]) ++ List.replicate (9 - (lg_sl ([.ref h0, .ref h1, .int p2, .int p3])).length) Slot.unset).toArray = ls at hl ⊢
  have hl : lv_has ls 9 [(0, .ref h0), (1, .ref h1), (2, .int p2), (3, .int p3)] := hl
  have w_1 : (-2147483648) ≤ (σ h0 8).toInt ∧ (σ h0 8).toInt ≤ 2147483647 := by have z := hB.2.1 h0 mh0 8; rw [th0] at z; exact z
  refine lv_iload_n hx hb dX1_giftsFrom_0 rfl (lv_at hl 2 rfl) ?_
  refine lv_aload_n hx hb dX1_giftsFrom_1 rfl (lv_at hl 0 rfl) ?_
  refine t_gv hx hb hts hown hK hB mh0 th0 fi_1_8 rfl mw_2_136 dX1_giftsFrom_2 ?_
  refine lv_icmp_lt (tgt := 31) hx hb dX1_giftsFrom_5 (by decide) (fun c_2 => ?_) (fun c_2 => ?_)
  · skip
    have uc_2 := j_lt c_2
    refine lv_aload_n hx hb dX1_giftsFrom_31 rfl (lv_at hl 1 rfl) ?_
    refine t_gr hx hb hts hown hK hG hB mh1 th1 fq_3_3 rfl mw_1_149 dX1_giftsFrom_32 (fun b_3 hb_3 mb_3 tb_3 => ?_)
    refine lv_iload_n hx hb dX1_giftsFrom_35 rfl (lv_at hl 2 rfl) ?_
    refine t_ai hx hb hK hB mb_3 tb_3 ai_36 (fun _ => rfl) (i_in (by omega) (by omega)) dX1_giftsFrom_36 (fun x_4 ex_4 lx_4 ux_4 => ?_)
    have cx_4 := congrArg Int32.toInt ex_4
    refine lv_aload_n hx hb dX1_giftsFrom_37 rfl (lv_at hl 1 rfl) ?_
    refine t_gr hx hb hts hown hK hG hB mh1 th1 fq_3_4 rfl mw_1_155 dX1_giftsFrom_38 (fun b_5 hb_5 mb_5 tb_5 => ?_)
    refine lv_iload_n hx hb dX1_giftsFrom_41 rfl (lv_at hl 2 rfl) ?_
    refine t_ai hx hb hK hB mb_5 tb_5 ai_37 (fun _ => rfl) (i_in (by omega) (by omega)) dX1_giftsFrom_42 (fun x_6 ex_6 lx_6 ux_6 => ?_)
    have cx_6 := congrArg Int32.toInt ex_6
    refine lv_icmp_ne (tgt := 50) hx hb dX1_giftsFrom_43 (by decide) (fun c_7 => ?_) (fun c_7 => ?_)
    · skip
      have uc_7 := j_ne c_7
      refine lv_iconst (v := 2) hx hb dX1_giftsFrom_50 (by decide) ?_
      refine lv_istore (lv' := [(4, .int 2), (0, .ref h0), (1, .ref h1), (2, .int p2), (3, .int p3)]) hx hb dX1_giftsFrom_51 hl (by decide) rfl (fun ls hl => ?_)
      refine lv_iconst (v := 0) hx hb dX1_giftsFrom_53 (by decide) ?_
      refine lv_istore (lv' := [(5, .int 0), (4, .int 2), (0, .ref h0), (1, .ref h1), (2, .int p2), (3, .int p3)]) hx hb dX1_giftsFrom_54 hl (by decide) rfl (fun ls hl => ?_)
      refine lv_iconst (v := 0) hx hb dX1_giftsFrom_56 (by decide) ?_
      refine lv_istore (lv' := [(6, .int 0), (5, .int 0), (4, .int 2), (0, .ref h0), (1, .ref h1), (2, .int p2), (3, .int p3)]) hx hb dX1_giftsFrom_57 hl (by decide) rfl (fun ls hl => ?_)
      refine w_loop (α := Int32 × Int32 × Sg × Lg) (fun (i_8, i_9, σ_10, ρ_11) H locs ls => 0 ≤ i_9.toInt ∧ i_9.toInt ≤ 2 ∧ σ_10 h0 8 = (σ h0 8) ∧ TS D cA L T r ry [(26, 1000), (28, 1000), (29, 1000), (30, 1000)] σ σ_10 ρ_11 H ∧ va_S (dm L s.heap.size) s.heap H locs ∧ lv_has ls 9 [(6, .int i_9), (5, .int i_8), (4, .int 2), (0, .ref h0), (1, .ref h1), (2, .int p2), (3, .int p3)]) (fun (i_8, i_9, σ_10, ρ_11) => (2 - i_9.toInt).toNat) ?_ ⟨0, 0, σ, ρ⟩ ⟨(by decide), (by decide), rfl, hB, hS, lv_sub hl [0, 1, 2, 3, 4, 5, 6] rfl⟩
      rintro ⟨i_8, i_9, σ_10, ρ_11⟩ H locs ls ⟨li_9, ui_9, k_13, hB, hS, hl⟩ ih_12
      refine lv_iload hx hb dX1_giftsFrom_59 (lv_at hl 0 rfl) ?_
      refine lv_iload hx hb dX1_giftsFrom_61 (lv_at hl 2 rfl) ?_
      refine lv_icmp_ge (tgt := 162) hx hb dX1_giftsFrom_63 (by decide) (fun c_14 => ?_) (fun c_14 => ?_)
      · skip
        have uc_14 := i_ge (n := 2) (by decide) c_14
        refine lv_iload hx hb dX1_giftsFrom_162 (lv_at hl 1 rfl) ?_
        exact W.iret (v := i_8) hx hb hr (fun t ht hW => ⟨⟨i_8, (σ_10, ρ_11), rfl, ⟨hB.2.1, hB.2.2, trivial⟩, (show TP D cA L T r σ_10 ρ_11 t.heap from by rw [ht]; exact hB.1)⟩, hS.F ht⟩) hS.2.2 dX1_giftsFrom_164
      · skip
        have uc_14 := i_nge (n := 2) (by decide) c_14
        refine lv_aload_n hx hb dX1_giftsFrom_66 rfl (lv_at hl 4 rfl) ?_
        refine lv_iload_n hx hb dX1_giftsFrom_67 rfl (lv_at hl 5 rfl) ?_
        refine lv_iload hx hb dX1_giftsFrom_68 (lv_at hl 0 rfl) ?_
        refine lv_iload_n hx hb dX1_giftsFrom_70 rfl (lv_at hl 5 rfl) ?_
        refine lv_ishl hx hb dX1_giftsFrom_71 ?_
        refine lv_topi (fun x_15 ex_15 => ?_)
        refine t_ci (va_runV (As := [.int p2, .int x_15]) (rest := []) ⟨hx, hb, hml, hown, hts⟩ (cy_X3_askedAt l D cA L T r hG hLA.1 σ_10 ρ_11 hB.2.1 _ h1 mh1 th1 p2 x_15 (by first | omega | decide) (by first | omega | decide)) (cV hts mv_X3_askedAt mw_5_122 rfl rfl ⟨Nat.le_of_ble_eq_true rfl, Nat.le_of_ble_eq_true rfl⟩) (pV hB.1 hK hN mh1 th1 (show shp cA 3 _ _ _ = .inr (3, Fs3 _ _ _) from rfl) rfl) rfl rfl hl.1 rfl (lv_room (Nat.le_of_ble_eq_true rfl)) dX1_giftsFrom_72 ⟨Nat.le_of_ble_eq_true rfl, Nat.le_of_ble_eq_true rfl⟩) hLA hA hB hS (by decide) (fun x_18 σ_16 ρ_17 H locs hB fσ_16 pσ_16 hS => ?_)
        have qσ_16 := FR.nil fσ_16
        subst qσ_16
        obtain ⟨lx_18, ux_18⟩ := pσ_16
        refine lv_istore (lv' := [(7, .int x_18), (6, .int i_9), (5, .int i_8), (4, .int 2), (0, .ref h0), (1, .ref h1), (2, .int p2), (3, .int p3)]) hx hb dX1_giftsFrom_75 hl (by decide) rfl (fun ls hl => ?_)
        refine lv_aload_n hx hb dX1_giftsFrom_77 rfl (lv_at hl 4 rfl) ?_
        refine t_gr hx hb hts hown hK hG hB mh0 th0 fq_1_5 rfl mw_2_131 dX1_giftsFrom_78 (fun b_19 hb_19 mb_19 tb_19 => ?_)
        refine lv_iload hx hb dX1_giftsFrom_81 (lv_at hl 0 rfl) ?_
        refine t_ai hx hb hK hB mb_19 tb_19 ai_28 (fun _ => rfl) (i_in (by omega) (by omega)) dX1_giftsFrom_83 (fun x_20 ex_20 lx_20 ux_20 => ?_)
        have cx_20 := congrArg Int32.toInt ex_20
        refine lv_if_le (tgt := 156) hx hb dX1_giftsFrom_84 (by decide) (fun c_21 => ?_) (fun c_21 => ?_)
        · skip
          have uc_21 := i_le (n := 0) (by decide) c_21
          obtain ⟨x_22, ex_22⟩ : ∃ y : Int32, y = i_9 + 1 := ⟨_, rfl⟩
          have vx_22 := b_add (rfl : i_9.toInt = _) (by decide : (1 : Int32).toInt = 1) ex_22 (by omega) (by omega)
          refine lv_iinc (v := x_22) (lv' := [(6, .int x_22), (7, .int x_18), (5, .int i_8), (4, .int 2), (0, .ref h0), (1, .ref h1), (2, .int p2), (3, .int p3)]) hx hb dX1_giftsFrom_156 hl (k := 1) rfl (by rw [ex_22]; rfl) (by decide) rfl (fun ls hl => ?_)
          refine lv_goto (tgt := 59) hx hb dX1_giftsFrom_159 (by decide) ?_
          exact ih_12 ⟨i_8, x_22, σ_10, ρ_17⟩ _ _ _ ⟨(by omega), (by omega), k_13, hB, hS, lv_sub hl [0, 2, 3, 4, 5, 6, 7] rfl⟩ (by show (2 - x_22.toInt).toNat < (2 - i_9.toInt).toNat; omega)
        · skip
          have uc_21 := i_nle (n := 0) (by decide) c_21
          refine lv_aload_n hx hb dX1_giftsFrom_87 rfl (lv_at hl 4 rfl) ?_
          refine t_gk hx hb hts hown hK hB mh0 th0 fq_1_5 hb_19 mw_2_131 dX1_giftsFrom_88 ?_
          refine lv_iload hx hb dX1_giftsFrom_91 (lv_at hl 0 rfl) ?_
          refine lv_dup2_11 hx hb dX1_giftsFrom_93 rfl rfl ?_
          refine t_ai hx hb hK hB mb_19 tb_19 ai_28 (fun _ => rfl) (i_in (by omega) (by omega)) dX1_giftsFrom_94 (fun x_23 ex_23 lx_23 ux_23 => ?_)
          have qx_23 : x_23 = x_20 := ex_23.trans ex_20.symm
          have qx_23 := qx_23.symm
          subst qx_23
          refine lv_iconst (v := 1) hx hb dX1_giftsFrom_95 (by decide) ?_
          refine lv_isub hx hb dX1_giftsFrom_96 ?_
          refine lv_topi (fun x_24 ex_24 => ?_)
          have vx_24 := b_sub (rfl : x_20.toInt = _) (by decide : (1 : Int32).toInt = 1) ex_24 (by omega) (by omega)
          refine t_si hx hb hK hLA hB hS mb_19 tb_19 ai_28 (i_in (by omega) (by omega)) (i_lo _) (i_hi _) (Or.inr (by decide)) dX1_giftsFrom_97 (fun H locs σ_25 eσ_25 hB hS => ?_)
          have k_26 : σ_25 b_19 x_18.toNatClampNeg = x_24 := by rw [eσ_25]; exact up2_same _ _ _ _
          refine lv_aload_n hx hb dX1_giftsFrom_98 rfl (lv_at hl 4 rfl) ?_
          refine t_gr hx hb hts hown hK hG hB mh0 th0 fq_1_2 rfl mw_2_127 dX1_giftsFrom_99 (fun b_27 hb_27 mb_27 tb_27 => ?_)
          refine lv_iload_n hx hb dX1_giftsFrom_102 rfl (lv_at hl 6 rfl) ?_
          refine lv_iload hx hb dX1_giftsFrom_103 (lv_at hl 0 rfl) ?_
          refine t_si hx hb hK hLA hB hS mb_27 tb_27 ai_26 (i_in (by omega) (by omega)) (i_lo _) (i_hi _) (Or.inr (by decide)) dX1_giftsFrom_105 (fun H locs σ_28 eσ_28 hB hS => ?_)
          have k_29 : σ_28 b_27 p2.toNatClampNeg = x_18 := by rw [eσ_28]; exact up2_same _ _ _ _
          refine lv_aload_n hx hb dX1_giftsFrom_106 rfl (lv_at hl 4 rfl) ?_
          refine lv_aload_n hx hb dX1_giftsFrom_107 rfl (lv_at hl 5 rfl) ?_
          refine lv_iload_n hx hb dX1_giftsFrom_108 rfl (lv_at hl 6 rfl) ?_
          refine lv_iconst (v := 1) hx hb dX1_giftsFrom_109 (by decide) ?_
          refine lv_iadd hx hb dX1_giftsFrom_110 ?_
          refine lv_topi (fun x_30 ex_30 => ?_)
          have vx_30 := b_add (rfl : p2.toInt = _) (by decide : (1 : Int32).toInt = 1) ex_30 (by omega) (by omega)
          refine lv_iload_n hx hb dX1_giftsFrom_111 rfl (lv_at hl 7 rfl) ?_
          refine lv_iload hx hb dX1_giftsFrom_112 (lv_at hl 2 rfl) ?_
          refine lv_iadd hx hb dX1_giftsFrom_114 ?_
          refine lv_topi (fun x_31 ex_31 => ?_)
          try have vx_31 := b_add (rfl : p3.toInt = _) (rfl : i_8.toInt = _) ex_31 (by omega) (by omega)
          have k_32 : σ_25 h0 8 = (σ h0 8) := by rw [eσ_25, up2_nea _ _ (tg_ne th0 tb_19 (by decide))]; exact k_13
          have k_33 : σ_28 h0 8 = (σ h0 8) := by rw [eσ_28, up2_nea _ _ (tg_ne th0 tb_27 (by decide))]; exact k_32
          refine t_ci (va_runV (As := [.ref h1, .int x_30, .int x_31]) (rest := []) ⟨hx, hb, hml, hown, hts⟩ (cy_X1_giftsFrom_4 l D cA L T r hG hLA.1 σ_28 ρ_17 hB.2.1 _ h0 mh0 th0 h1 mh1 th1 x_30 x_31 (by first | omega | decide) (by first | omega | decide) (by rw [k_33]; omega) (by rw [k_33]; omega)) (cV hts mv_X1_giftsFrom mw_5_118 rfl rfl ⟨Nat.le_of_ble_eq_true rfl, Nat.le_of_ble_eq_true rfl⟩) (pV hB.1 hK hN mh0 th0 (show shp cA 1 _ _ _ = .inr (1, Fs1 _ _ _) from rfl) rfl) rfl rfl hl.1 rfl (lv_room (Nat.le_of_ble_eq_true rfl)) dX1_giftsFrom_115 ⟨Nat.le_of_ble_eq_true rfl, Nat.le_of_ble_eq_true rfl⟩) hLA hA hB hS (by decide) (fun x_36 σ_34 ρ_35 H locs hB fσ_34 pσ_34 hS => ?_)
          refine lv_istore (lv' := [(8, .int x_36), (7, .int x_18), (6, .int i_9), (5, .int i_8), (4, .int 2), (0, .ref h0), (1, .ref h1), (2, .int p2), (3, .int p3)]) hx hb dX1_giftsFrom_118 hl (by decide) rfl (fun ls hl => ?_)
          refine lv_aload_n hx hb dX1_giftsFrom_120 rfl (lv_at hl 5 rfl) ?_
          refine t_gk hx hb hts hown hK hB mh0 th0 fq_1_5 hb_19 mw_2_131 dX1_giftsFrom_121 ?_
          refine lv_iload hx hb dX1_giftsFrom_124 (lv_at hl 1 rfl) ?_
          refine lv_dup2_11 hx hb dX1_giftsFrom_126 rfl rfl ?_
          refine t_ai hx hb hK hB mb_19 tb_19 ai_28 (fun _ => rfl) (i_in (by omega) (by omega)) dX1_giftsFrom_127 (fun x_37 ex_37 lx_37 ux_37 => ?_)
          have cx_37 := congrArg Int32.toInt ex_37
          refine lv_iconst (v := 1) hx hb dX1_giftsFrom_128 (by decide) ?_
          refine lv_iadd hx hb dX1_giftsFrom_129 ?_
          refine lv_topi (fun x_38 ex_38 => ?_)
          try have vx_38 := b_add (rfl : x_37.toInt = _) (by decide : (1 : Int32).toInt = 1) ex_38 (by omega) (by omega)
          refine t_si hx hb hK hLA hB hS mb_19 tb_19 ai_28 (i_in (by omega) (by omega)) (i_lo _) (i_hi _) (Or.inr (by decide)) dX1_giftsFrom_130 (fun H locs σ_39 eσ_39 hB hS => ?_)
          have k_40 : σ_39 b_19 x_18.toNatClampNeg = x_38 := by rw [eσ_39]; exact up2_same _ _ _ _
          refine lv_iload hx hb dX1_giftsFrom_131 (lv_at hl 0 rfl) ?_
          refine lv_if_le (tgt := 149) hx hb dX1_giftsFrom_133 (by decide) (fun c_41 => ?_) (fun c_41 => ?_)
          · skip
            have uc_41 := i_le (n := 0) (by decide) c_41
            refine lv_iload hx hb dX1_giftsFrom_149 (lv_at hl 3 rfl) ?_
            refine lv_iload hx hb dX1_giftsFrom_151 (lv_at hl 0 rfl) ?_
            refine lv_iadd hx hb dX1_giftsFrom_153 ?_
            refine lv_topi (fun x_42 ex_42 => ?_)
            try have vx_42 := b_add (rfl : i_8.toInt = _) (rfl : x_36.toInt = _) ex_42 (by omega) (by omega)
            refine lv_istore (lv' := [(5, .int x_42), (8, .int x_36), (7, .int x_18), (6, .int i_9), (4, .int 2), (0, .ref h0), (1, .ref h1), (2, .int p2), (3, .int p3)]) hx hb dX1_giftsFrom_154 hl (by decide) rfl (fun ls hl => ?_)
            obtain ⟨x_43, ex_43⟩ : ∃ y : Int32, y = i_9 + 1 := ⟨_, rfl⟩
            have vx_43 := b_add (rfl : i_9.toInt = _) (by decide : (1 : Int32).toInt = 1) ex_43 (by omega) (by omega)
            refine lv_iinc (v := x_43) (lv' := [(6, .int x_43), (5, .int x_42), (8, .int x_36), (7, .int x_18), (4, .int 2), (0, .ref h0), (1, .ref h1), (2, .int p2), (3, .int p3)]) hx hb dX1_giftsFrom_156 hl (k := 3) rfl (by rw [ex_43]; rfl) (by decide) rfl (fun ls hl => ?_)
            refine lv_goto (tgt := 59) hx hb dX1_giftsFrom_159 (by decide) ?_
            have k_44 : σ_34 h0 8 = (σ h0 8) := (FR.at fσ_34 th0 (by decide)).trans k_33
            have k_45 : σ_39 h0 8 = (σ h0 8) := by rw [eσ_39, up2_nea _ _ (tg_ne th0 tb_19 (by decide))]; exact k_44
            exact ih_12 ⟨x_42, x_43, σ_39, ρ_35⟩ _ _ _ ⟨(by omega), (by omega), k_45, hB, hS, lv_sub hl [0, 1, 4, 5, 6, 7, 8] rfl⟩ (by show (2 - x_43.toInt).toNat < (2 - i_9.toInt).toNat; omega)
          · skip
            have uc_41 := i_nle (n := 0) (by decide) c_41
            refine lv_aload_n hx hb dX1_giftsFrom_136 rfl (lv_at hl 5 rfl) ?_
            refine t_gr hx hb hts hown hK hG hB mh0 th0 fq_1_6 rfl mw_2_132 dX1_giftsFrom_137 (fun b_46 hb_46 mb_46 tb_46 => ?_)
            refine lv_iload_n hx hb dX1_giftsFrom_140 rfl (lv_at hl 7 rfl) ?_
            refine lv_dup2_11 hx hb dX1_giftsFrom_141 rfl rfl ?_
            refine t_ai hx hb hK hB mb_46 tb_46 ai_29 (fun _ => rfl) (i_in (by omega) (by omega)) dX1_giftsFrom_142 (fun x_47 ex_47 lx_47 ux_47 => ?_)
            have cx_47 := congrArg Int32.toInt ex_47
            refine lv_iconst (v := 1) hx hb dX1_giftsFrom_143 (by decide) ?_
            refine lv_iload hx hb dX1_giftsFrom_144 (lv_at hl 1 rfl) ?_
            refine lv_ishl hx hb dX1_giftsFrom_146 ?_
            refine lv_topi (fun x_48 ex_48 => ?_)
            refine lv_ior hx hb dX1_giftsFrom_147 ?_
            refine lv_topi (fun x_49 ex_49 => ?_)
            refine t_si hx hb hK hLA hB hS mb_46 tb_46 ai_29 (i_in (by omega) (by omega)) (i_lo _) (i_hi _) (Or.inr (by decide)) dX1_giftsFrom_148 (fun H locs σ_50 eσ_50 hB hS => ?_)
            have k_51 : σ_50 b_46 p2.toNatClampNeg = x_49 := by rw [eσ_50]; exact up2_same _ _ _ _
            refine lv_iload hx hb dX1_giftsFrom_149 (lv_at hl 3 rfl) ?_
            refine lv_iload hx hb dX1_giftsFrom_151 (lv_at hl 0 rfl) ?_
            refine lv_iadd hx hb dX1_giftsFrom_153 ?_
            refine lv_topi (fun x_52 ex_52 => ?_)
            try have vx_52 := b_add (rfl : i_8.toInt = _) (rfl : x_36.toInt = _) ex_52 (by omega) (by omega)
            refine lv_istore (lv' := [(5, .int x_52), (8, .int x_36), (7, .int x_18), (6, .int i_9), (4, .int 2), (0, .ref h0), (1, .ref h1), (2, .int p2), (3, .int p3)]) hx hb dX1_giftsFrom_154 hl (by decide) rfl (fun ls hl => ?_)
            obtain ⟨x_53, ex_53⟩ : ∃ y : Int32, y = i_9 + 1 := ⟨_, rfl⟩
            have vx_53 := b_add (rfl : i_9.toInt = _) (by decide : (1 : Int32).toInt = 1) ex_53 (by omega) (by omega)
            refine lv_iinc (v := x_53) (lv' := [(6, .int x_53), (5, .int x_52), (8, .int x_36), (7, .int x_18), (4, .int 2), (0, .ref h0), (1, .ref h1), (2, .int p2), (3, .int p3)]) hx hb dX1_giftsFrom_156 hl (k := 3) rfl (by rw [ex_53]; rfl) (by decide) rfl (fun ls hl => ?_)
            refine lv_goto (tgt := 59) hx hb dX1_giftsFrom_159 (by decide) ?_
            have k_54 : σ_34 h0 8 = (σ h0 8) := (FR.at fσ_34 th0 (by decide)).trans k_33
            have k_55 : σ_39 h0 8 = (σ h0 8) := by rw [eσ_39, up2_nea _ _ (tg_ne th0 tb_19 (by decide))]; exact k_54
            have k_56 : σ_50 h0 8 = (σ h0 8) := by rw [eσ_50, up2_nea _ _ (tg_ne th0 tb_46 (by decide))]; exact k_55
            exact ih_12 ⟨x_52, x_53, σ_50, ρ_35⟩ _ _ _ ⟨(by omega), (by omega), k_56, hB, hS, lv_sub hl [0, 1, 4, 5, 6, 7, 8] rfl⟩ (by show (2 - x_53.toInt).toNat < (2 - i_9.toInt).toNat; omega)
    · skip
      have uc_7 := j_eq c_7
      refine lv_iconst (v := 1) hx hb dX1_giftsFrom_46 (by decide) ?_
      refine lv_goto (tgt := 51) hx hb dX1_giftsFrom_47 (by decide) ?_
      refine lv_istore (lv' := [(4, .int 1), (0, .ref h0), (1, .ref h1), (2, .int p2), (3, .int p3)]) hx hb dX1_giftsFrom_51 hl (by decide) rfl (fun ls hl => ?_)
      refine lv_iconst (v := 0) hx hb dX1_giftsFrom_53 (by decide) ?_
      refine lv_istore (lv' := [(5, .int 0), (4, .int 1), (0, .ref h0), (1, .ref h1), (2, .int p2), (3, .int p3)]) hx hb dX1_giftsFrom_54 hl (by decide) rfl (fun ls hl => ?_)
      refine lv_iconst (v := 0) hx hb dX1_giftsFrom_56 (by decide) ?_
      refine lv_istore (lv' := [(6, .int 0), (5, .int 0), (4, .int 1), (0, .ref h0), (1, .ref h1), (2, .int p2), (3, .int p3)]) hx hb dX1_giftsFrom_57 hl (by decide) rfl (fun ls hl => ?_)
      refine w_loop (α := Int32 × Int32 × Sg × Lg) (fun (i_57, i_58, σ_59, ρ_60) H locs ls => 0 ≤ i_58.toInt ∧ i_58.toInt ≤ 1 ∧ σ_59 h0 8 = (σ h0 8) ∧ TS D cA L T r ry [(26, 1000), (28, 1000), (29, 1000), (30, 1000)] σ σ_59 ρ_60 H ∧ va_S (dm L s.heap.size) s.heap H locs ∧ lv_has ls 9 [(6, .int i_58), (5, .int i_57), (4, .int 1), (0, .ref h0), (1, .ref h1), (2, .int p2), (3, .int p3)]) (fun (i_57, i_58, σ_59, ρ_60) => (1 - i_58.toInt).toNat) ?_ ⟨0, 0, σ, ρ⟩ ⟨(by decide), (by decide), rfl, hB, hS, lv_sub hl [0, 1, 2, 3, 4, 5, 6] rfl⟩
      rintro ⟨i_57, i_58, σ_59, ρ_60⟩ H locs ls ⟨li_58, ui_58, k_62, hB, hS, hl⟩ ih_61
      refine lv_iload hx hb dX1_giftsFrom_59 (lv_at hl 0 rfl) ?_
      refine lv_iload hx hb dX1_giftsFrom_61 (lv_at hl 2 rfl) ?_
      refine lv_icmp_ge (tgt := 162) hx hb dX1_giftsFrom_63 (by decide) (fun c_63 => ?_) (fun c_63 => ?_)
      · skip
        have uc_63 := i_ge (n := 1) (by decide) c_63
        refine lv_iload hx hb dX1_giftsFrom_162 (lv_at hl 1 rfl) ?_
        exact W.iret (v := i_57) hx hb hr (fun t ht hW => ⟨⟨i_57, (σ_59, ρ_60), rfl, ⟨hB.2.1, hB.2.2, trivial⟩, (show TP D cA L T r σ_59 ρ_60 t.heap from by rw [ht]; exact hB.1)⟩, hS.F ht⟩) hS.2.2 dX1_giftsFrom_164
      · skip
        have uc_63 := i_nge (n := 1) (by decide) c_63
        refine lv_aload_n hx hb dX1_giftsFrom_66 rfl (lv_at hl 4 rfl) ?_
        refine lv_iload_n hx hb dX1_giftsFrom_67 rfl (lv_at hl 5 rfl) ?_
        refine lv_iload hx hb dX1_giftsFrom_68 (lv_at hl 0 rfl) ?_
        refine lv_iload_n hx hb dX1_giftsFrom_70 rfl (lv_at hl 5 rfl) ?_
        refine lv_ishl hx hb dX1_giftsFrom_71 ?_
        refine lv_topi (fun x_64 ex_64 => ?_)
        refine t_ci (va_runV (As := [.int p2, .int x_64]) (rest := []) ⟨hx, hb, hml, hown, hts⟩ (cy_X3_askedAt l D cA L T r hG hLA.1 σ_59 ρ_60 hB.2.1 _ h1 mh1 th1 p2 x_64 (by first | omega | decide) (by first | omega | decide)) (cV hts mv_X3_askedAt mw_5_122 rfl rfl ⟨Nat.le_of_ble_eq_true rfl, Nat.le_of_ble_eq_true rfl⟩) (pV hB.1 hK hN mh1 th1 (show shp cA 3 _ _ _ = .inr (3, Fs3 _ _ _) from rfl) rfl) rfl rfl hl.1 rfl (lv_room (Nat.le_of_ble_eq_true rfl)) dX1_giftsFrom_72 ⟨Nat.le_of_ble_eq_true rfl, Nat.le_of_ble_eq_true rfl⟩) hLA hA hB hS (by decide) (fun x_67 σ_65 ρ_66 H locs hB fσ_65 pσ_65 hS => ?_)
        have qσ_65 := FR.nil fσ_65
        subst qσ_65
        obtain ⟨lx_67, ux_67⟩ := pσ_65
        refine lv_istore (lv' := [(7, .int x_67), (6, .int i_58), (5, .int i_57), (4, .int 1), (0, .ref h0), (1, .ref h1), (2, .int p2), (3, .int p3)]) hx hb dX1_giftsFrom_75 hl (by decide) rfl (fun ls hl => ?_)
        refine lv_aload_n hx hb dX1_giftsFrom_77 rfl (lv_at hl 4 rfl) ?_
        refine t_gr hx hb hts hown hK hG hB mh0 th0 fq_1_5 rfl mw_2_131 dX1_giftsFrom_78 (fun b_68 hb_68 mb_68 tb_68 => ?_)
        refine lv_iload hx hb dX1_giftsFrom_81 (lv_at hl 0 rfl) ?_
        refine t_ai hx hb hK hB mb_68 tb_68 ai_28 (fun _ => rfl) (i_in (by omega) (by omega)) dX1_giftsFrom_83 (fun x_69 ex_69 lx_69 ux_69 => ?_)
        have cx_69 := congrArg Int32.toInt ex_69
        refine lv_if_le (tgt := 156) hx hb dX1_giftsFrom_84 (by decide) (fun c_70 => ?_) (fun c_70 => ?_)
        · skip
          have uc_70 := i_le (n := 0) (by decide) c_70
          obtain ⟨x_71, ex_71⟩ : ∃ y : Int32, y = i_58 + 1 := ⟨_, rfl⟩
          have vx_71 := b_add (rfl : i_58.toInt = _) (by decide : (1 : Int32).toInt = 1) ex_71 (by omega) (by omega)
          refine lv_iinc (v := x_71) (lv' := [(6, .int x_71), (7, .int x_67), (5, .int i_57), (4, .int 1), (0, .ref h0), (1, .ref h1), (2, .int p2), (3, .int p3)]) hx hb dX1_giftsFrom_156 hl (k := 1) rfl (by rw [ex_71]; rfl) (by decide) rfl (fun ls hl => ?_)
          refine lv_goto (tgt := 59) hx hb dX1_giftsFrom_159 (by decide) ?_
          exact ih_61 ⟨i_57, x_71, σ_59, ρ_66⟩ _ _ _ ⟨(by omega), (by omega), k_62, hB, hS, lv_sub hl [0, 2, 3, 4, 5, 6, 7] rfl⟩ (by show (1 - x_71.toInt).toNat < (1 - i_58.toInt).toNat; omega)
        · skip
          have uc_70 := i_nle (n := 0) (by decide) c_70
          refine lv_aload_n hx hb dX1_giftsFrom_87 rfl (lv_at hl 4 rfl) ?_
          refine t_gk hx hb hts hown hK hB mh0 th0 fq_1_5 hb_68 mw_2_131 dX1_giftsFrom_88 ?_
          refine lv_iload hx hb dX1_giftsFrom_91 (lv_at hl 0 rfl) ?_
          refine lv_dup2_11 hx hb dX1_giftsFrom_93 rfl rfl ?_
          refine t_ai hx hb hK hB mb_68 tb_68 ai_28 (fun _ => rfl) (i_in (by omega) (by omega)) dX1_giftsFrom_94 (fun x_72 ex_72 lx_72 ux_72 => ?_)
          have qx_72 : x_72 = x_69 := ex_72.trans ex_69.symm
          have qx_72 := qx_72.symm
          subst qx_72
          refine lv_iconst (v := 1) hx hb dX1_giftsFrom_95 (by decide) ?_
          refine lv_isub hx hb dX1_giftsFrom_96 ?_
          refine lv_topi (fun x_73 ex_73 => ?_)
          have vx_73 := b_sub (rfl : x_69.toInt = _) (by decide : (1 : Int32).toInt = 1) ex_73 (by omega) (by omega)
          refine t_si hx hb hK hLA hB hS mb_68 tb_68 ai_28 (i_in (by omega) (by omega)) (i_lo _) (i_hi _) (Or.inr (by decide)) dX1_giftsFrom_97 (fun H locs σ_74 eσ_74 hB hS => ?_)
          have k_75 : σ_74 b_68 x_67.toNatClampNeg = x_73 := by rw [eσ_74]; exact up2_same _ _ _ _
          refine lv_aload_n hx hb dX1_giftsFrom_98 rfl (lv_at hl 4 rfl) ?_
          refine t_gr hx hb hts hown hK hG hB mh0 th0 fq_1_2 rfl mw_2_127 dX1_giftsFrom_99 (fun b_76 hb_76 mb_76 tb_76 => ?_)
          refine lv_iload_n hx hb dX1_giftsFrom_102 rfl (lv_at hl 6 rfl) ?_
          refine lv_iload hx hb dX1_giftsFrom_103 (lv_at hl 0 rfl) ?_
          refine t_si hx hb hK hLA hB hS mb_76 tb_76 ai_26 (i_in (by omega) (by omega)) (i_lo _) (i_hi _) (Or.inr (by decide)) dX1_giftsFrom_105 (fun H locs σ_77 eσ_77 hB hS => ?_)
          have k_78 : σ_77 b_76 p2.toNatClampNeg = x_67 := by rw [eσ_77]; exact up2_same _ _ _ _
          refine lv_aload_n hx hb dX1_giftsFrom_106 rfl (lv_at hl 4 rfl) ?_
          refine lv_aload_n hx hb dX1_giftsFrom_107 rfl (lv_at hl 5 rfl) ?_
          refine lv_iload_n hx hb dX1_giftsFrom_108 rfl (lv_at hl 6 rfl) ?_
          refine lv_iconst (v := 1) hx hb dX1_giftsFrom_109 (by decide) ?_
          refine lv_iadd hx hb dX1_giftsFrom_110 ?_
          refine lv_topi (fun x_79 ex_79 => ?_)
          have vx_79 := b_add (rfl : p2.toInt = _) (by decide : (1 : Int32).toInt = 1) ex_79 (by omega) (by omega)
          refine lv_iload_n hx hb dX1_giftsFrom_111 rfl (lv_at hl 7 rfl) ?_
          refine lv_iload hx hb dX1_giftsFrom_112 (lv_at hl 2 rfl) ?_
          refine lv_iadd hx hb dX1_giftsFrom_114 ?_
          refine lv_topi (fun x_80 ex_80 => ?_)
          try have vx_80 := b_add (rfl : p3.toInt = _) (rfl : i_57.toInt = _) ex_80 (by omega) (by omega)
          have k_81 : σ_74 h0 8 = (σ h0 8) := by rw [eσ_74, up2_nea _ _ (tg_ne th0 tb_68 (by decide))]; exact k_62
          have k_82 : σ_77 h0 8 = (σ h0 8) := by rw [eσ_77, up2_nea _ _ (tg_ne th0 tb_76 (by decide))]; exact k_81
          refine t_ci (va_runV (As := [.ref h1, .int x_79, .int x_80]) (rest := []) ⟨hx, hb, hml, hown, hts⟩ (cy_X1_giftsFrom_4 l D cA L T r hG hLA.1 σ_77 ρ_66 hB.2.1 _ h0 mh0 th0 h1 mh1 th1 x_79 x_80 (by first | omega | decide) (by first | omega | decide) (by rw [k_82]; omega) (by rw [k_82]; omega)) (cV hts mv_X1_giftsFrom mw_5_118 rfl rfl ⟨Nat.le_of_ble_eq_true rfl, Nat.le_of_ble_eq_true rfl⟩) (pV hB.1 hK hN mh0 th0 (show shp cA 1 _ _ _ = .inr (1, Fs1 _ _ _) from rfl) rfl) rfl rfl hl.1 rfl (lv_room (Nat.le_of_ble_eq_true rfl)) dX1_giftsFrom_115 ⟨Nat.le_of_ble_eq_true rfl, Nat.le_of_ble_eq_true rfl⟩) hLA hA hB hS (by decide) (fun x_85 σ_83 ρ_84 H locs hB fσ_83 pσ_83 hS => ?_)
          refine lv_istore (lv' := [(8, .int x_85), (7, .int x_67), (6, .int i_58), (5, .int i_57), (4, .int 1), (0, .ref h0), (1, .ref h1), (2, .int p2), (3, .int p3)]) hx hb dX1_giftsFrom_118 hl (by decide) rfl (fun ls hl => ?_)
          refine lv_aload_n hx hb dX1_giftsFrom_120 rfl (lv_at hl 5 rfl) ?_
          refine t_gk hx hb hts hown hK hB mh0 th0 fq_1_5 hb_68 mw_2_131 dX1_giftsFrom_121 ?_
          refine lv_iload hx hb dX1_giftsFrom_124 (lv_at hl 1 rfl) ?_
          refine lv_dup2_11 hx hb dX1_giftsFrom_126 rfl rfl ?_
          refine t_ai hx hb hK hB mb_68 tb_68 ai_28 (fun _ => rfl) (i_in (by omega) (by omega)) dX1_giftsFrom_127 (fun x_86 ex_86 lx_86 ux_86 => ?_)
          have cx_86 := congrArg Int32.toInt ex_86
          refine lv_iconst (v := 1) hx hb dX1_giftsFrom_128 (by decide) ?_
          refine lv_iadd hx hb dX1_giftsFrom_129 ?_
          refine lv_topi (fun x_87 ex_87 => ?_)
          try have vx_87 := b_add (rfl : x_86.toInt = _) (by decide : (1 : Int32).toInt = 1) ex_87 (by omega) (by omega)
          refine t_si hx hb hK hLA hB hS mb_68 tb_68 ai_28 (i_in (by omega) (by omega)) (i_lo _) (i_hi _) (Or.inr (by decide)) dX1_giftsFrom_130 (fun H locs σ_88 eσ_88 hB hS => ?_)
          have k_89 : σ_88 b_68 x_67.toNatClampNeg = x_87 := by rw [eσ_88]; exact up2_same _ _ _ _
          refine lv_iload hx hb dX1_giftsFrom_131 (lv_at hl 0 rfl) ?_
          refine lv_if_le (tgt := 149) hx hb dX1_giftsFrom_133 (by decide) (fun c_90 => ?_) (fun c_90 => ?_)
          · skip
            have uc_90 := i_le (n := 0) (by decide) c_90
            refine lv_iload hx hb dX1_giftsFrom_149 (lv_at hl 3 rfl) ?_
            refine lv_iload hx hb dX1_giftsFrom_151 (lv_at hl 0 rfl) ?_
            refine lv_iadd hx hb dX1_giftsFrom_153 ?_
            refine lv_topi (fun x_91 ex_91 => ?_)
            try have vx_91 := b_add (rfl : i_57.toInt = _) (rfl : x_85.toInt = _) ex_91 (by omega) (by omega)
            refine lv_istore (lv' := [(5, .int x_91), (8, .int x_85), (7, .int x_67), (6, .int i_58), (4, .int 1), (0, .ref h0), (1, .ref h1), (2, .int p2), (3, .int p3)]) hx hb dX1_giftsFrom_154 hl (by decide) rfl (fun ls hl => ?_)
            obtain ⟨x_92, ex_92⟩ : ∃ y : Int32, y = i_58 + 1 := ⟨_, rfl⟩
            have vx_92 := b_add (rfl : i_58.toInt = _) (by decide : (1 : Int32).toInt = 1) ex_92 (by omega) (by omega)
            refine lv_iinc (v := x_92) (lv' := [(6, .int x_92), (5, .int x_91), (8, .int x_85), (7, .int x_67), (4, .int 1), (0, .ref h0), (1, .ref h1), (2, .int p2), (3, .int p3)]) hx hb dX1_giftsFrom_156 hl (k := 3) rfl (by rw [ex_92]; rfl) (by decide) rfl (fun ls hl => ?_)
            refine lv_goto (tgt := 59) hx hb dX1_giftsFrom_159 (by decide) ?_
            have k_93 : σ_83 h0 8 = (σ h0 8) := (FR.at fσ_83 th0 (by decide)).trans k_82
            have k_94 : σ_88 h0 8 = (σ h0 8) := by rw [eσ_88, up2_nea _ _ (tg_ne th0 tb_68 (by decide))]; exact k_93
            exact ih_61 ⟨x_91, x_92, σ_88, ρ_84⟩ _ _ _ ⟨(by omega), (by omega), k_94, hB, hS, lv_sub hl [0, 1, 4, 5, 6, 7, 8] rfl⟩ (by show (1 - x_92.toInt).toNat < (1 - i_58.toInt).toNat; omega)
          · skip
            have uc_90 := i_nle (n := 0) (by decide) c_90
            refine lv_aload_n hx hb dX1_giftsFrom_136 rfl (lv_at hl 5 rfl) ?_
            refine t_gr hx hb hts hown hK hG hB mh0 th0 fq_1_6 rfl mw_2_132 dX1_giftsFrom_137 (fun b_95 hb_95 mb_95 tb_95 => ?_)
            refine lv_iload_n hx hb dX1_giftsFrom_140 rfl (lv_at hl 7 rfl) ?_
            refine lv_dup2_11 hx hb dX1_giftsFrom_141 rfl rfl ?_
            refine t_ai hx hb hK hB mb_95 tb_95 ai_29 (fun _ => rfl) (i_in (by omega) (by omega)) dX1_giftsFrom_142 (fun x_96 ex_96 lx_96 ux_96 => ?_)
            have cx_96 := congrArg Int32.toInt ex_96
            refine lv_iconst (v := 1) hx hb dX1_giftsFrom_143 (by decide) ?_
            refine lv_iload hx hb dX1_giftsFrom_144 (lv_at hl 1 rfl) ?_
            refine lv_ishl hx hb dX1_giftsFrom_146 ?_
            refine lv_topi (fun x_97 ex_97 => ?_)
            refine lv_ior hx hb dX1_giftsFrom_147 ?_
            refine lv_topi (fun x_98 ex_98 => ?_)
            refine t_si hx hb hK hLA hB hS mb_95 tb_95 ai_29 (i_in (by omega) (by omega)) (i_lo _) (i_hi _) (Or.inr (by decide)) dX1_giftsFrom_148 (fun H locs σ_99 eσ_99 hB hS => ?_)
            have k_100 : σ_99 b_95 p2.toNatClampNeg = x_98 := by rw [eσ_99]; exact up2_same _ _ _ _
            refine lv_iload hx hb dX1_giftsFrom_149 (lv_at hl 3 rfl) ?_
            refine lv_iload hx hb dX1_giftsFrom_151 (lv_at hl 0 rfl) ?_
            refine lv_iadd hx hb dX1_giftsFrom_153 ?_
            refine lv_topi (fun x_101 ex_101 => ?_)
            try have vx_101 := b_add (rfl : i_57.toInt = _) (rfl : x_85.toInt = _) ex_101 (by omega) (by omega)
            refine lv_istore (lv' := [(5, .int x_101), (8, .int x_85), (7, .int x_67), (6, .int i_58), (4, .int 1), (0, .ref h0), (1, .ref h1), (2, .int p2), (3, .int p3)]) hx hb dX1_giftsFrom_154 hl (by decide) rfl (fun ls hl => ?_)
            obtain ⟨x_102, ex_102⟩ : ∃ y : Int32, y = i_58 + 1 := ⟨_, rfl⟩
            have vx_102 := b_add (rfl : i_58.toInt = _) (by decide : (1 : Int32).toInt = 1) ex_102 (by omega) (by omega)
            refine lv_iinc (v := x_102) (lv' := [(6, .int x_102), (5, .int x_101), (8, .int x_85), (7, .int x_67), (4, .int 1), (0, .ref h0), (1, .ref h1), (2, .int p2), (3, .int p3)]) hx hb dX1_giftsFrom_156 hl (k := 3) rfl (by rw [ex_102]; rfl) (by decide) rfl (fun ls hl => ?_)
            refine lv_goto (tgt := 59) hx hb dX1_giftsFrom_159 (by decide) ?_
            have k_103 : σ_83 h0 8 = (σ h0 8) := (FR.at fσ_83 th0 (by decide)).trans k_82
            have k_104 : σ_88 h0 8 = (σ h0 8) := by rw [eσ_88, up2_nea _ _ (tg_ne th0 tb_68 (by decide))]; exact k_103
            have k_105 : σ_99 h0 8 = (σ h0 8) := by rw [eσ_99, up2_nea _ _ (tg_ne th0 tb_95 (by decide))]; exact k_104
            exact ih_61 ⟨x_101, x_102, σ_99, ρ_84⟩ _ _ _ ⟨(by omega), (by omega), k_105, hB, hS, lv_sub hl [0, 1, 4, 5, 6, 7, 8] rfl⟩ (by show (1 - x_102.toInt).toNat < (1 - i_58.toInt).toNat; omega)
  · skip
    have uc_2 := j_nlt c_2
    refine lv_iload_n hx hb dX1_giftsFrom_8 rfl (lv_at hl 3 rfl) ?_
    refine lv_if_ne (tgt := 29) hx hb dX1_giftsFrom_9 (by decide) (fun c_106 => ?_) (fun c_106 => ?_)
    · skip
      have uc_106 := i_ne (n := 0) (by decide) c_106
      refine lv_iconst (v := 1) hx hb dX1_giftsFrom_29 (by decide) ?_
      exact W.iret (v := 1) hx hb hr (fun t ht hW => ⟨⟨1, (σ, ρ), rfl, ⟨hB.2.1, hB.2.2, trivial⟩, (show TP D cA L T r σ ρ t.heap from by rw [ht]; exact hB.1)⟩, hS.F ht⟩) hS.2.2 dX1_giftsFrom_30
    · skip
      have uc_106 := i_eq (n := 0) (by decide) c_106
      refine lv_aload_n hx hb dX1_giftsFrom_12 rfl (lv_at hl 0 rfl) ?_
      refine t_gr hx hb hts hown hK hG hB mh0 th0 fq_1_2 rfl mw_2_127 dX1_giftsFrom_13 (fun b_107 hb_107 mb_107 tb_107 => ?_)
      refine lv_iconst (v := 0) hx hb dX1_giftsFrom_16 (by decide) ?_
      refine lv_aload_n hx hb dX1_giftsFrom_17 rfl (lv_at hl 0 rfl) ?_
      refine t_gr hx hb hts hown hK hG hB mh0 th0 fq_1_7 rfl mw_2_134 dX1_giftsFrom_18 (fun b_108 hb_108 mb_108 tb_108 => ?_)
      refine lv_iconst (v := 0) hx hb dX1_giftsFrom_21 (by decide) ?_
      refine lv_aload_n hx hb dX1_giftsFrom_22 rfl (lv_at hl 0 rfl) ?_
      refine t_gv hx hb hts hown hK hB mh0 th0 fi_1_8 rfl mw_2_136 dX1_giftsFrom_23 ?_
      refine t_cp (lo := (-2147483648)) (hi := 2147483647) hx hb (hml.trans hl.1.symm) hts hown mw_5_84 ⟨mw_3_239, mw_3_238, mw_1_20⟩ hK hLA hB hS mb_107 tb_107 ai_26 mb_108 tb_108 ai_30 (fun _ => ⟨show ((-2147483648) : Int) ≤ (-2147483648) by decide, show (2147483647 : Int) ≤ 2147483647 by decide⟩) (fun _ => rfl) (by decide) (by decide) (by decide) (a_nn (by omega)) (a_cp (by decide) (by omega)) (a_cp (by decide) (by omega)) (Nat.le_of_ble_eq_true rfl) (Nat.le_of_ble_eq_true rfl) dX1_giftsFrom_26 (fun H locs σ_109 eσ_109 hB hS => ?_)
      refine lv_iconst (v := 1) hx hb dX1_giftsFrom_29 (by decide) ?_
      exact W.iret (v := 1) hx hb hr (fun t ht hW => ⟨⟨1, (σ_109, ρ), rfl, ⟨hB.2.1, hB.2.2, trivial⟩, (show TP D cA L T r σ_109 ρ t.heap from by rw [ht]; exact hB.1)⟩, hS.F ht⟩) hS.2.2 dX1_giftsFrom_30
set_option maxHeartbeats 4000000 in
set_option maxRecDepth 100000 in
theorem cy_X1_giftsFrom_6 (l : Launch) (D : va_G) (cA : Nat → ClassId) (L : List Nat) (T : Nat → Nat) (r : Rg) (hG : GR L T r) (hL : L.Nodup) (σ : Sg) (ρ : Lg) (hW : WT L ry T σ) (sz : Nat) (h0 : Nat) (mh0 : h0 ∈ L) (th0 : T h0 = 1) (h1 : Nat) (mh1 : h1 ∈ L) (th1 : T h1 = 3) (p2 : Int32) (p3 : Int32) (w0 : 2 ≤ p2.toInt) (w1 : p2.toInt ≤ 8) (w2 : 0 ≤ (σ h0 8).toInt) (w3 : (σ h0 8).toInt ≤ 8) : Met l yX1_giftsFrom (.code yX1_giftsFrom cX1_giftsFrom 9 (some .int) :: wsA) ({ frames := 7, cells := 0, slots := 0, locals := 268 }) (PR D cA L T r σ ρ sz [.ref h0, .ref h1, .int p2, .int p3]) (QI D cA L T r ry [(26, 1000), (28, 1000), (29, 1000), (30, 1000)] σ sz (fun x σ1 => True)) 0 0 (dm L sz) := by
  refine Met.ofW (cc := cX1_giftsFrom) (maxL := 9) (ret := (some .int)) (by decide) rfl ?_
  intro p e s m args below meth c s₁ B hml hv
  obtain ⟨rfl, hsz, hP, hK, hN⟩ := hv
  have hx := B.exec
  have hb := B.bytes
  have hr := B.returns
  have hts : ∀ w ∈ wsA, w.before _ s = true := fun w h => atoms_spec (ws := .code yX1_giftsFrom cX1_giftsFrom 9 (some .int) :: wsA) B.pre w (List.mem_cons_of_mem _ h)
  have hown : s.vm.findClass RX1 = some m.cls := findClass_of_methodNamed B.named
  subst hsz
  have hLA : LA (dm L s.heap.size) L := ⟨hL, fun a h => Or.inl h⟩
  have hA : ∀ q : Nat, s.heap.size ≤ q → dm L s.heap.size q := fun q h => Or.inr h
  have hS : va_S (dm L s.heap.size) s.heap s.heap [] := va_S.rf
  have hB : TS D cA L T r ry [(26, 1000), (28, 1000), (29, 1000), (30, 1000)] σ σ ρ s.heap := ⟨hP, hW, FR.rf⟩
  have hl := lv_entry ([.ref h0, .ref h1, .int p2, .int p3]) (n := 9) (Nat.le_of_ble_eq_true rfl)
  rw [lg_entry_eq]
  generalize (lg_sl ([.ref h0, .ref h1, .int p2, .int p3]) ++ List.replicate (9 - (lg_sl ([.ref h0, .ref h1, .int p2, .int p3])).length) Slot.unset).toArray = ls at hl ⊢
  have hl : lv_has ls 9 [(0, .ref h0), (1, .ref h1), (2, .int p2), (3, .int p3)] := hl
  have w_1 : (-2147483648) ≤ (σ h0 8).toInt ∧ (σ h0 8).toInt ≤ 2147483647 := by have z := hB.2.1 h0 mh0 8; rw [th0] at z; exact z
  refine lv_iload_n hx hb dX1_giftsFrom_0 rfl (lv_at hl 2 rfl) ?_
  refine lv_aload_n hx hb dX1_giftsFrom_1 rfl (lv_at hl 0 rfl) ?_
  refine t_gv hx hb hts hown hK hB mh0 th0 fi_1_8 rfl mw_2_136 dX1_giftsFrom_2 ?_
  refine lv_icmp_lt (tgt := 31) hx hb dX1_giftsFrom_5 (by decide) (fun c_2 => ?_) (fun c_2 => ?_)
  · skip
    have uc_2 := j_lt c_2
    refine lv_aload_n hx hb dX1_giftsFrom_31 rfl (lv_at hl 1 rfl) ?_
    refine t_gr hx hb hts hown hK hG hB mh1 th1 fq_3_3 rfl mw_1_149 dX1_giftsFrom_32 (fun b_3 hb_3 mb_3 tb_3 => ?_)
    refine lv_iload_n hx hb dX1_giftsFrom_35 rfl (lv_at hl 2 rfl) ?_
    refine t_ai hx hb hK hB mb_3 tb_3 ai_36 (fun _ => rfl) (i_in (by omega) (by omega)) dX1_giftsFrom_36 (fun x_4 ex_4 lx_4 ux_4 => ?_)
    have cx_4 := congrArg Int32.toInt ex_4
    refine lv_aload_n hx hb dX1_giftsFrom_37 rfl (lv_at hl 1 rfl) ?_
    refine t_gr hx hb hts hown hK hG hB mh1 th1 fq_3_4 rfl mw_1_155 dX1_giftsFrom_38 (fun b_5 hb_5 mb_5 tb_5 => ?_)
    refine lv_iload_n hx hb dX1_giftsFrom_41 rfl (lv_at hl 2 rfl) ?_
    refine t_ai hx hb hK hB mb_5 tb_5 ai_37 (fun _ => rfl) (i_in (by omega) (by omega)) dX1_giftsFrom_42 (fun x_6 ex_6 lx_6 ux_6 => ?_)
    have cx_6 := congrArg Int32.toInt ex_6
    refine lv_icmp_ne (tgt := 50) hx hb dX1_giftsFrom_43 (by decide) (fun c_7 => ?_) (fun c_7 => ?_)
    · skip
      have uc_7 := j_ne c_7
      refine lv_iconst (v := 2) hx hb dX1_giftsFrom_50 (by decide) ?_
      refine lv_istore (lv' := [(4, .int 2), (0, .ref h0), (1, .ref h1), (2, .int p2), (3, .int p3)]) hx hb dX1_giftsFrom_51 hl (by decide) rfl (fun ls hl => ?_)
      refine lv_iconst (v := 0) hx hb dX1_giftsFrom_53 (by decide) ?_
      refine lv_istore (lv' := [(5, .int 0), (4, .int 2), (0, .ref h0), (1, .ref h1), (2, .int p2), (3, .int p3)]) hx hb dX1_giftsFrom_54 hl (by decide) rfl (fun ls hl => ?_)
      refine lv_iconst (v := 0) hx hb dX1_giftsFrom_56 (by decide) ?_
      refine lv_istore (lv' := [(6, .int 0), (5, .int 0), (4, .int 2), (0, .ref h0), (1, .ref h1), (2, .int p2), (3, .int p3)]) hx hb dX1_giftsFrom_57 hl (by decide) rfl (fun ls hl => ?_)
      refine w_loop (α := Int32 × Int32 × Sg × Lg) (fun (i_8, i_9, σ_10, ρ_11) H locs ls => 0 ≤ i_9.toInt ∧ i_9.toInt ≤ 2 ∧ σ_10 h0 8 = (σ h0 8) ∧ TS D cA L T r ry [(26, 1000), (28, 1000), (29, 1000), (30, 1000)] σ σ_10 ρ_11 H ∧ va_S (dm L s.heap.size) s.heap H locs ∧ lv_has ls 9 [(6, .int i_9), (5, .int i_8), (4, .int 2), (0, .ref h0), (1, .ref h1), (2, .int p2), (3, .int p3)]) (fun (i_8, i_9, σ_10, ρ_11) => (2 - i_9.toInt).toNat) ?_ ⟨0, 0, σ, ρ⟩ ⟨(by decide), (by decide), rfl, hB, hS, lv_sub hl [0, 1, 2, 3, 4, 5, 6] rfl⟩
      rintro ⟨i_8, i_9, σ_10, ρ_11⟩ H locs ls ⟨li_9, ui_9, k_13, hB, hS, hl⟩ ih_12
      refine lv_iload hx hb dX1_giftsFrom_59 (lv_at hl 0 rfl) ?_
      refine lv_iload hx hb dX1_giftsFrom_61 (lv_at hl 2 rfl) ?_
      refine lv_icmp_ge (tgt := 162) hx hb dX1_giftsFrom_63 (by decide) (fun c_14 => ?_) (fun c_14 => ?_)
      · skip
        have uc_14 := i_ge (n := 2) (by decide) c_14
        refine lv_iload hx hb dX1_giftsFrom_162 (lv_at hl 1 rfl) ?_
        exact W.iret (v := i_8) hx hb hr (fun t ht hW => ⟨⟨i_8, (σ_10, ρ_11), rfl, ⟨hB.2.1, hB.2.2, trivial⟩, (show TP D cA L T r σ_10 ρ_11 t.heap from by rw [ht]; exact hB.1)⟩, hS.F ht⟩) hS.2.2 dX1_giftsFrom_164
      · skip
        have uc_14 := i_nge (n := 2) (by decide) c_14
        refine lv_aload_n hx hb dX1_giftsFrom_66 rfl (lv_at hl 4 rfl) ?_
        refine lv_iload_n hx hb dX1_giftsFrom_67 rfl (lv_at hl 5 rfl) ?_
        refine lv_iload hx hb dX1_giftsFrom_68 (lv_at hl 0 rfl) ?_
        refine lv_iload_n hx hb dX1_giftsFrom_70 rfl (lv_at hl 5 rfl) ?_
        refine lv_ishl hx hb dX1_giftsFrom_71 ?_
        refine lv_topi (fun x_15 ex_15 => ?_)
        refine t_ci (va_runV (As := [.int p2, .int x_15]) (rest := []) ⟨hx, hb, hml, hown, hts⟩ (cy_X3_askedAt l D cA L T r hG hLA.1 σ_10 ρ_11 hB.2.1 _ h1 mh1 th1 p2 x_15 (by first | omega | decide) (by first | omega | decide)) (cV hts mv_X3_askedAt mw_5_122 rfl rfl ⟨Nat.le_of_ble_eq_true rfl, Nat.le_of_ble_eq_true rfl⟩) (pV hB.1 hK hN mh1 th1 (show shp cA 3 _ _ _ = .inr (3, Fs3 _ _ _) from rfl) rfl) rfl rfl hl.1 rfl (lv_room (Nat.le_of_ble_eq_true rfl)) dX1_giftsFrom_72 ⟨Nat.le_of_ble_eq_true rfl, Nat.le_of_ble_eq_true rfl⟩) hLA hA hB hS (by decide) (fun x_18 σ_16 ρ_17 H locs hB fσ_16 pσ_16 hS => ?_)
        have qσ_16 := FR.nil fσ_16
        subst qσ_16
        obtain ⟨lx_18, ux_18⟩ := pσ_16
        refine lv_istore (lv' := [(7, .int x_18), (6, .int i_9), (5, .int i_8), (4, .int 2), (0, .ref h0), (1, .ref h1), (2, .int p2), (3, .int p3)]) hx hb dX1_giftsFrom_75 hl (by decide) rfl (fun ls hl => ?_)
        refine lv_aload_n hx hb dX1_giftsFrom_77 rfl (lv_at hl 4 rfl) ?_
        refine t_gr hx hb hts hown hK hG hB mh0 th0 fq_1_5 rfl mw_2_131 dX1_giftsFrom_78 (fun b_19 hb_19 mb_19 tb_19 => ?_)
        refine lv_iload hx hb dX1_giftsFrom_81 (lv_at hl 0 rfl) ?_
        refine t_ai hx hb hK hB mb_19 tb_19 ai_28 (fun _ => rfl) (i_in (by omega) (by omega)) dX1_giftsFrom_83 (fun x_20 ex_20 lx_20 ux_20 => ?_)
        have cx_20 := congrArg Int32.toInt ex_20
        refine lv_if_le (tgt := 156) hx hb dX1_giftsFrom_84 (by decide) (fun c_21 => ?_) (fun c_21 => ?_)
        · skip
          have uc_21 := i_le (n := 0) (by decide) c_21
          obtain ⟨x_22, ex_22⟩ : ∃ y : Int32, y = i_9 + 1 := ⟨_, rfl⟩
          have vx_22 := b_add (rfl : i_9.toInt = _) (by decide : (1 : Int32).toInt = 1) ex_22 (by omega) (by omega)
          refine lv_iinc (v := x_22) (lv' := [(6, .int x_22), (7, .int x_18), (5, .int i_8), (4, .int 2), (0, .ref h0), (1, .ref h1), (2, .int p2), (3, .int p3)]) hx hb dX1_giftsFrom_156 hl (k := 1) rfl (by rw [ex_22]; rfl) (by decide) rfl (fun ls hl => ?_)
          refine lv_goto (tgt := 59) hx hb dX1_giftsFrom_159 (by decide) ?_
          exact ih_12 ⟨i_8, x_22, σ_10, ρ_17⟩ _ _ _ ⟨(by omega), (by omega), k_13, hB, hS, lv_sub hl [0, 2, 3, 4, 5, 6, 7] rfl⟩ (by show (2 - x_22.toInt).toNat < (2 - i_9.toInt).toNat; omega)
        · skip
          have uc_21 := i_nle (n := 0) (by decide) c_21
          refine lv_aload_n hx hb dX1_giftsFrom_87 rfl (lv_at hl 4 rfl) ?_
          refine t_gk hx hb hts hown hK hB mh0 th0 fq_1_5 hb_19 mw_2_131 dX1_giftsFrom_88 ?_
          refine lv_iload hx hb dX1_giftsFrom_91 (lv_at hl 0 rfl) ?_
          refine lv_dup2_11 hx hb dX1_giftsFrom_93 rfl rfl ?_
          refine t_ai hx hb hK hB mb_19 tb_19 ai_28 (fun _ => rfl) (i_in (by omega) (by omega)) dX1_giftsFrom_94 (fun x_23 ex_23 lx_23 ux_23 => ?_)
          have qx_23 : x_23 = x_20 := ex_23.trans ex_20.symm
          have qx_23 := qx_23.symm
          subst qx_23
          refine lv_iconst (v := 1) hx hb dX1_giftsFrom_95 (by decide) ?_
          refine lv_isub hx hb dX1_giftsFrom_96 ?_
          refine lv_topi (fun x_24 ex_24 => ?_)
          have vx_24 := b_sub (rfl : x_20.toInt = _) (by decide : (1 : Int32).toInt = 1) ex_24 (by omega) (by omega)
          refine t_si hx hb hK hLA hB hS mb_19 tb_19 ai_28 (i_in (by omega) (by omega)) (i_lo _) (i_hi _) (Or.inr (by decide)) dX1_giftsFrom_97 (fun H locs σ_25 eσ_25 hB hS => ?_)
          have k_26 : σ_25 b_19 x_18.toNatClampNeg = x_24 := by rw [eσ_25]; exact up2_same _ _ _ _
          refine lv_aload_n hx hb dX1_giftsFrom_98 rfl (lv_at hl 4 rfl) ?_
          refine t_gr hx hb hts hown hK hG hB mh0 th0 fq_1_2 rfl mw_2_127 dX1_giftsFrom_99 (fun b_27 hb_27 mb_27 tb_27 => ?_)
          refine lv_iload_n hx hb dX1_giftsFrom_102 rfl (lv_at hl 6 rfl) ?_
          refine lv_iload hx hb dX1_giftsFrom_103 (lv_at hl 0 rfl) ?_
          refine t_si hx hb hK hLA hB hS mb_27 tb_27 ai_26 (i_in (by omega) (by omega)) (i_lo _) (i_hi _) (Or.inr (by decide)) dX1_giftsFrom_105 (fun H locs σ_28 eσ_28 hB hS => ?_)
          have k_29 : σ_28 b_27 p2.toNatClampNeg = x_18 := by rw [eσ_28]; exact up2_same _ _ _ _
          refine lv_aload_n hx hb dX1_giftsFrom_106 rfl (lv_at hl 4 rfl) ?_
          refine lv_aload_n hx hb dX1_giftsFrom_107 rfl (lv_at hl 5 rfl) ?_
          refine lv_iload_n hx hb dX1_giftsFrom_108 rfl (lv_at hl 6 rfl) ?_
          refine lv_iconst (v := 1) hx hb dX1_giftsFrom_109 (by decide) ?_
          refine lv_iadd hx hb dX1_giftsFrom_110 ?_
          refine lv_topi (fun x_30 ex_30 => ?_)
          have vx_30 := b_add (rfl : p2.toInt = _) (by decide : (1 : Int32).toInt = 1) ex_30 (by omega) (by omega)
          refine lv_iload_n hx hb dX1_giftsFrom_111 rfl (lv_at hl 7 rfl) ?_
          refine lv_iload hx hb dX1_giftsFrom_112 (lv_at hl 2 rfl) ?_
          refine lv_iadd hx hb dX1_giftsFrom_114 ?_
          refine lv_topi (fun x_31 ex_31 => ?_)
          try have vx_31 := b_add (rfl : p3.toInt = _) (rfl : i_8.toInt = _) ex_31 (by omega) (by omega)
          have k_32 : σ_25 h0 8 = (σ h0 8) := by rw [eσ_25, up2_nea _ _ (tg_ne th0 tb_19 (by decide))]; exact k_13
          have k_33 : σ_28 h0 8 = (σ h0 8) := by rw [eσ_28, up2_nea _ _ (tg_ne th0 tb_27 (by decide))]; exact k_32
          refine t_ci (va_runV (As := [.ref h1, .int x_30, .int x_31]) (rest := []) ⟨hx, hb, hml, hown, hts⟩ (cy_X1_giftsFrom_5 l D cA L T r hG hLA.1 σ_28 ρ_17 hB.2.1 _ h0 mh0 th0 h1 mh1 th1 x_30 x_31 (by first | omega | decide) (by first | omega | decide) (by rw [k_33]; omega) (by rw [k_33]; omega)) (cV hts mv_X1_giftsFrom mw_5_118 rfl rfl ⟨Nat.le_of_ble_eq_true rfl, Nat.le_of_ble_eq_true rfl⟩) (pV hB.1 hK hN mh0 th0 (show shp cA 1 _ _ _ = .inr (1, Fs1 _ _ _) from rfl) rfl) rfl rfl hl.1 rfl (lv_room (Nat.le_of_ble_eq_true rfl)) dX1_giftsFrom_115 ⟨Nat.le_of_ble_eq_true rfl, Nat.le_of_ble_eq_true rfl⟩) hLA hA hB hS (by decide) (fun x_36 σ_34 ρ_35 H locs hB fσ_34 pσ_34 hS => ?_)
          refine lv_istore (lv' := [(8, .int x_36), (7, .int x_18), (6, .int i_9), (5, .int i_8), (4, .int 2), (0, .ref h0), (1, .ref h1), (2, .int p2), (3, .int p3)]) hx hb dX1_giftsFrom_118 hl (by decide) rfl (fun ls hl => ?_)
          refine lv_aload_n hx hb dX1_giftsFrom_120 rfl (lv_at hl 5 rfl) ?_
          refine t_gk hx hb hts hown hK hB mh0 th0 fq_1_5 hb_19 mw_2_131 dX1_giftsFrom_121 ?_
          refine lv_iload hx hb dX1_giftsFrom_124 (lv_at hl 1 rfl) ?_
          refine lv_dup2_11 hx hb dX1_giftsFrom_126 rfl rfl ?_
          refine t_ai hx hb hK hB mb_19 tb_19 ai_28 (fun _ => rfl) (i_in (by omega) (by omega)) dX1_giftsFrom_127 (fun x_37 ex_37 lx_37 ux_37 => ?_)
          have cx_37 := congrArg Int32.toInt ex_37
          refine lv_iconst (v := 1) hx hb dX1_giftsFrom_128 (by decide) ?_
          refine lv_iadd hx hb dX1_giftsFrom_129 ?_
          refine lv_topi (fun x_38 ex_38 => ?_)
          try have vx_38 := b_add (rfl : x_37.toInt = _) (by decide : (1 : Int32).toInt = 1) ex_38 (by omega) (by omega)
          refine t_si hx hb hK hLA hB hS mb_19 tb_19 ai_28 (i_in (by omega) (by omega)) (i_lo _) (i_hi _) (Or.inr (by decide)) dX1_giftsFrom_130 (fun H locs σ_39 eσ_39 hB hS => ?_)
          have k_40 : σ_39 b_19 x_18.toNatClampNeg = x_38 := by rw [eσ_39]; exact up2_same _ _ _ _
          refine lv_iload hx hb dX1_giftsFrom_131 (lv_at hl 0 rfl) ?_
          refine lv_if_le (tgt := 149) hx hb dX1_giftsFrom_133 (by decide) (fun c_41 => ?_) (fun c_41 => ?_)
          · skip
            have uc_41 := i_le (n := 0) (by decide) c_41
            refine lv_iload hx hb dX1_giftsFrom_149 (lv_at hl 3 rfl) ?_
            refine lv_iload hx hb dX1_giftsFrom_151 (lv_at hl 0 rfl) ?_
            refine lv_iadd hx hb dX1_giftsFrom_153 ?_
            refine lv_topi (fun x_42 ex_42 => ?_)
            try have vx_42 := b_add (rfl : i_8.toInt = _) (rfl : x_36.toInt = _) ex_42 (by omega) (by omega)
            refine lv_istore (lv' := [(5, .int x_42), (8, .int x_36), (7, .int x_18), (6, .int i_9), (4, .int 2), (0, .ref h0), (1, .ref h1), (2, .int p2), (3, .int p3)]) hx hb dX1_giftsFrom_154 hl (by decide) rfl (fun ls hl => ?_)
            obtain ⟨x_43, ex_43⟩ : ∃ y : Int32, y = i_9 + 1 := ⟨_, rfl⟩
            have vx_43 := b_add (rfl : i_9.toInt = _) (by decide : (1 : Int32).toInt = 1) ex_43 (by omega) (by omega)
            refine lv_iinc (v := x_43) (lv' := [(6, .int x_43), (5, .int x_42), (8, .int x_36), (7, .int x_18), (4, .int 2), (0, .ref h0), (1, .ref h1), (2, .int p2), (3, .int p3)]) hx hb dX1_giftsFrom_156 hl (k := 3) rfl (by rw [ex_43]; rfl) (by decide) rfl (fun ls hl => ?_)
            refine lv_goto (tgt := 59) hx hb dX1_giftsFrom_159 (by decide) ?_
            have k_44 : σ_34 h0 8 = (σ h0 8) := (FR.at fσ_34 th0 (by decide)).trans k_33
            have k_45 : σ_39 h0 8 = (σ h0 8) := by rw [eσ_39, up2_nea _ _ (tg_ne th0 tb_19 (by decide))]; exact k_44
            exact ih_12 ⟨x_42, x_43, σ_39, ρ_35⟩ _ _ _ ⟨(by omega), (by omega), k_45, hB, hS, lv_sub hl [0, 1, 4, 5, 6, 7, 8] rfl⟩ (by show (2 - x_43.toInt).toNat < (2 - i_9.toInt).toNat; omega)
          · skip
            have uc_41 := i_nle (n := 0) (by decide) c_41
            refine lv_aload_n hx hb dX1_giftsFrom_136 rfl (lv_at hl 5 rfl) ?_
            refine t_gr hx hb hts hown hK hG hB mh0 th0 fq_1_6 rfl mw_2_132 dX1_giftsFrom_137 (fun b_46 hb_46 mb_46 tb_46 => ?_)
            refine lv_iload_n hx hb dX1_giftsFrom_140 rfl (lv_at hl 7 rfl) ?_
            refine lv_dup2_11 hx hb dX1_giftsFrom_141 rfl rfl ?_
            refine t_ai hx hb hK hB mb_46 tb_46 ai_29 (fun _ => rfl) (i_in (by omega) (by omega)) dX1_giftsFrom_142 (fun x_47 ex_47 lx_47 ux_47 => ?_)
            have cx_47 := congrArg Int32.toInt ex_47
            refine lv_iconst (v := 1) hx hb dX1_giftsFrom_143 (by decide) ?_
            refine lv_iload hx hb dX1_giftsFrom_144 (lv_at hl 1 rfl) ?_
            refine lv_ishl hx hb dX1_giftsFrom_146 ?_
            refine lv_topi (fun x_48 ex_48 => ?_)
            refine lv_ior hx hb dX1_giftsFrom_147 ?_
            refine lv_topi (fun x_49 ex_49 => ?_)
            refine t_si hx hb hK hLA hB hS mb_46 tb_46 ai_29 (i_in (by omega) (by omega)) (i_lo _) (i_hi _) (Or.inr (by decide)) dX1_giftsFrom_148 (fun H locs σ_50 eσ_50 hB hS => ?_)
            have k_51 : σ_50 b_46 p2.toNatClampNeg = x_49 := by rw [eσ_50]; exact up2_same _ _ _ _
            refine lv_iload hx hb dX1_giftsFrom_149 (lv_at hl 3 rfl) ?_
            refine lv_iload hx hb dX1_giftsFrom_151 (lv_at hl 0 rfl) ?_
            refine lv_iadd hx hb dX1_giftsFrom_153 ?_
            refine lv_topi (fun x_52 ex_52 => ?_)
            try have vx_52 := b_add (rfl : i_8.toInt = _) (rfl : x_36.toInt = _) ex_52 (by omega) (by omega)
            refine lv_istore (lv' := [(5, .int x_52), (8, .int x_36), (7, .int x_18), (6, .int i_9), (4, .int 2), (0, .ref h0), (1, .ref h1), (2, .int p2), (3, .int p3)]) hx hb dX1_giftsFrom_154 hl (by decide) rfl (fun ls hl => ?_)
            obtain ⟨x_53, ex_53⟩ : ∃ y : Int32, y = i_9 + 1 := ⟨_, rfl⟩
            have vx_53 := b_add (rfl : i_9.toInt = _) (by decide : (1 : Int32).toInt = 1) ex_53 (by omega) (by omega)
            refine lv_iinc (v := x_53) (lv' := [(6, .int x_53), (5, .int x_52), (8, .int x_36), (7, .int x_18), (4, .int 2), (0, .ref h0), (1, .ref h1), (2, .int p2), (3, .int p3)]) hx hb dX1_giftsFrom_156 hl (k := 3) rfl (by rw [ex_53]; rfl) (by decide) rfl (fun ls hl => ?_)
            refine lv_goto (tgt := 59) hx hb dX1_giftsFrom_159 (by decide) ?_
            have k_54 : σ_34 h0 8 = (σ h0 8) := (FR.at fσ_34 th0 (by decide)).trans k_33
            have k_55 : σ_39 h0 8 = (σ h0 8) := by rw [eσ_39, up2_nea _ _ (tg_ne th0 tb_19 (by decide))]; exact k_54
            have k_56 : σ_50 h0 8 = (σ h0 8) := by rw [eσ_50, up2_nea _ _ (tg_ne th0 tb_46 (by decide))]; exact k_55
            exact ih_12 ⟨x_52, x_53, σ_50, ρ_35⟩ _ _ _ ⟨(by omega), (by omega), k_56, hB, hS, lv_sub hl [0, 1, 4, 5, 6, 7, 8] rfl⟩ (by show (2 - x_53.toInt).toNat < (2 - i_9.toInt).toNat; omega)
    · skip
      have uc_7 := j_eq c_7
      refine lv_iconst (v := 1) hx hb dX1_giftsFrom_46 (by decide) ?_
      refine lv_goto (tgt := 51) hx hb dX1_giftsFrom_47 (by decide) ?_
      refine lv_istore (lv' := [(4, .int 1), (0, .ref h0), (1, .ref h1), (2, .int p2), (3, .int p3)]) hx hb dX1_giftsFrom_51 hl (by decide) rfl (fun ls hl => ?_)
      refine lv_iconst (v := 0) hx hb dX1_giftsFrom_53 (by decide) ?_
      refine lv_istore (lv' := [(5, .int 0), (4, .int 1), (0, .ref h0), (1, .ref h1), (2, .int p2), (3, .int p3)]) hx hb dX1_giftsFrom_54 hl (by decide) rfl (fun ls hl => ?_)
      refine lv_iconst (v := 0) hx hb dX1_giftsFrom_56 (by decide) ?_
      refine lv_istore (lv' := [(6, .int 0), (5, .int 0), (4, .int 1), (0, .ref h0), (1, .ref h1), (2, .int p2), (3, .int p3)]) hx hb dX1_giftsFrom_57 hl (by decide) rfl (fun ls hl => ?_)
      refine w_loop (α := Int32 × Int32 × Sg × Lg) (fun (i_57, i_58, σ_59, ρ_60) H locs ls => 0 ≤ i_58.toInt ∧ i_58.toInt ≤ 1 ∧ σ_59 h0 8 = (σ h0 8) ∧ TS D cA L T r ry [(26, 1000), (28, 1000), (29, 1000), (30, 1000)] σ σ_59 ρ_60 H ∧ va_S (dm L s.heap.size) s.heap H locs ∧ lv_has ls 9 [(6, .int i_58), (5, .int i_57), (4, .int 1), (0, .ref h0), (1, .ref h1), (2, .int p2), (3, .int p3)]) (fun (i_57, i_58, σ_59, ρ_60) => (1 - i_58.toInt).toNat) ?_ ⟨0, 0, σ, ρ⟩ ⟨(by decide), (by decide), rfl, hB, hS, lv_sub hl [0, 1, 2, 3, 4, 5, 6] rfl⟩
      rintro ⟨i_57, i_58, σ_59, ρ_60⟩ H locs ls ⟨li_58, ui_58, k_62, hB, hS, hl⟩ ih_61
      refine lv_iload hx hb dX1_giftsFrom_59 (lv_at hl 0 rfl) ?_
      refine lv_iload hx hb dX1_giftsFrom_61 (lv_at hl 2 rfl) ?_
      refine lv_icmp_ge (tgt := 162) hx hb dX1_giftsFrom_63 (by decide) (fun c_63 => ?_) (fun c_63 => ?_)
      · skip
        have uc_63 := i_ge (n := 1) (by decide) c_63
        refine lv_iload hx hb dX1_giftsFrom_162 (lv_at hl 1 rfl) ?_
        exact W.iret (v := i_57) hx hb hr (fun t ht hW => ⟨⟨i_57, (σ_59, ρ_60), rfl, ⟨hB.2.1, hB.2.2, trivial⟩, (show TP D cA L T r σ_59 ρ_60 t.heap from by rw [ht]; exact hB.1)⟩, hS.F ht⟩) hS.2.2 dX1_giftsFrom_164
      · skip
        have uc_63 := i_nge (n := 1) (by decide) c_63
        refine lv_aload_n hx hb dX1_giftsFrom_66 rfl (lv_at hl 4 rfl) ?_
        refine lv_iload_n hx hb dX1_giftsFrom_67 rfl (lv_at hl 5 rfl) ?_
        refine lv_iload hx hb dX1_giftsFrom_68 (lv_at hl 0 rfl) ?_
        refine lv_iload_n hx hb dX1_giftsFrom_70 rfl (lv_at hl 5 rfl) ?_
        refine lv_ishl hx hb dX1_giftsFrom_71 ?_
        refine lv_topi (fun x_64 ex_64 => ?_)
        refine t_ci (va_runV (As := [.int p2, .int x_64]) (rest := []) ⟨hx, hb, hml, hown, hts⟩ (cy_X3_askedAt l D cA L T r hG hLA.1 σ_59 ρ_60 hB.2.1 _ h1 mh1 th1 p2 x_64 (by first | omega | decide) (by first | omega | decide)) (cV hts mv_X3_askedAt mw_5_122 rfl rfl ⟨Nat.le_of_ble_eq_true rfl, Nat.le_of_ble_eq_true rfl⟩) (pV hB.1 hK hN mh1 th1 (show shp cA 3 _ _ _ = .inr (3, Fs3 _ _ _) from rfl) rfl) rfl rfl hl.1 rfl (lv_room (Nat.le_of_ble_eq_true rfl)) dX1_giftsFrom_72 ⟨Nat.le_of_ble_eq_true rfl, Nat.le_of_ble_eq_true rfl⟩) hLA hA hB hS (by decide) (fun x_67 σ_65 ρ_66 H locs hB fσ_65 pσ_65 hS => ?_)
        have qσ_65 := FR.nil fσ_65
        subst qσ_65
        obtain ⟨lx_67, ux_67⟩ := pσ_65
        refine lv_istore (lv' := [(7, .int x_67), (6, .int i_58), (5, .int i_57), (4, .int 1), (0, .ref h0), (1, .ref h1), (2, .int p2), (3, .int p3)]) hx hb dX1_giftsFrom_75 hl (by decide) rfl (fun ls hl => ?_)
        refine lv_aload_n hx hb dX1_giftsFrom_77 rfl (lv_at hl 4 rfl) ?_
        refine t_gr hx hb hts hown hK hG hB mh0 th0 fq_1_5 rfl mw_2_131 dX1_giftsFrom_78 (fun b_68 hb_68 mb_68 tb_68 => ?_)
        refine lv_iload hx hb dX1_giftsFrom_81 (lv_at hl 0 rfl) ?_
        refine t_ai hx hb hK hB mb_68 tb_68 ai_28 (fun _ => rfl) (i_in (by omega) (by omega)) dX1_giftsFrom_83 (fun x_69 ex_69 lx_69 ux_69 => ?_)
        have cx_69 := congrArg Int32.toInt ex_69
        refine lv_if_le (tgt := 156) hx hb dX1_giftsFrom_84 (by decide) (fun c_70 => ?_) (fun c_70 => ?_)
        · skip
          have uc_70 := i_le (n := 0) (by decide) c_70
          obtain ⟨x_71, ex_71⟩ : ∃ y : Int32, y = i_58 + 1 := ⟨_, rfl⟩
          have vx_71 := b_add (rfl : i_58.toInt = _) (by decide : (1 : Int32).toInt = 1) ex_71 (by omega) (by omega)
          refine lv_iinc (v := x_71) (lv' := [(6, .int x_71), (7, .int x_67), (5, .int i_57), (4, .int 1), (0, .ref h0), (1, .ref h1), (2, .int p2), (3, .int p3)]) hx hb dX1_giftsFrom_156 hl (k := 1) rfl (by rw [ex_71]; rfl) (by decide) rfl (fun ls hl => ?_)
          refine lv_goto (tgt := 59) hx hb dX1_giftsFrom_159 (by decide) ?_
          exact ih_61 ⟨i_57, x_71, σ_59, ρ_66⟩ _ _ _ ⟨(by omega), (by omega), k_62, hB, hS, lv_sub hl [0, 2, 3, 4, 5, 6, 7] rfl⟩ (by show (1 - x_71.toInt).toNat < (1 - i_58.toInt).toNat; omega)
        · skip
          have uc_70 := i_nle (n := 0) (by decide) c_70
          refine lv_aload_n hx hb dX1_giftsFrom_87 rfl (lv_at hl 4 rfl) ?_
          refine t_gk hx hb hts hown hK hB mh0 th0 fq_1_5 hb_68 mw_2_131 dX1_giftsFrom_88 ?_
          refine lv_iload hx hb dX1_giftsFrom_91 (lv_at hl 0 rfl) ?_
          refine lv_dup2_11 hx hb dX1_giftsFrom_93 rfl rfl ?_
          refine t_ai hx hb hK hB mb_68 tb_68 ai_28 (fun _ => rfl) (i_in (by omega) (by omega)) dX1_giftsFrom_94 (fun x_72 ex_72 lx_72 ux_72 => ?_)
          have qx_72 : x_72 = x_69 := ex_72.trans ex_69.symm
          have qx_72 := qx_72.symm
          subst qx_72
          refine lv_iconst (v := 1) hx hb dX1_giftsFrom_95 (by decide) ?_
          refine lv_isub hx hb dX1_giftsFrom_96 ?_
          refine lv_topi (fun x_73 ex_73 => ?_)
          have vx_73 := b_sub (rfl : x_69.toInt = _) (by decide : (1 : Int32).toInt = 1) ex_73 (by omega) (by omega)
          refine t_si hx hb hK hLA hB hS mb_68 tb_68 ai_28 (i_in (by omega) (by omega)) (i_lo _) (i_hi _) (Or.inr (by decide)) dX1_giftsFrom_97 (fun H locs σ_74 eσ_74 hB hS => ?_)
          have k_75 : σ_74 b_68 x_67.toNatClampNeg = x_73 := by rw [eσ_74]; exact up2_same _ _ _ _
          refine lv_aload_n hx hb dX1_giftsFrom_98 rfl (lv_at hl 4 rfl) ?_
          refine t_gr hx hb hts hown hK hG hB mh0 th0 fq_1_2 rfl mw_2_127 dX1_giftsFrom_99 (fun b_76 hb_76 mb_76 tb_76 => ?_)
          refine lv_iload_n hx hb dX1_giftsFrom_102 rfl (lv_at hl 6 rfl) ?_
          refine lv_iload hx hb dX1_giftsFrom_103 (lv_at hl 0 rfl) ?_
          refine t_si hx hb hK hLA hB hS mb_76 tb_76 ai_26 (i_in (by omega) (by omega)) (i_lo _) (i_hi _) (Or.inr (by decide)) dX1_giftsFrom_105 (fun H locs σ_77 eσ_77 hB hS => ?_)
          have k_78 : σ_77 b_76 p2.toNatClampNeg = x_67 := by rw [eσ_77]; exact up2_same _ _ _ _
          refine lv_aload_n hx hb dX1_giftsFrom_106 rfl (lv_at hl 4 rfl) ?_
          refine lv_aload_n hx hb dX1_giftsFrom_107 rfl (lv_at hl 5 rfl) ?_
          refine lv_iload_n hx hb dX1_giftsFrom_108 rfl (lv_at hl 6 rfl) ?_
          refine lv_iconst (v := 1) hx hb dX1_giftsFrom_109 (by decide) ?_
          refine lv_iadd hx hb dX1_giftsFrom_110 ?_
          refine lv_topi (fun x_79 ex_79 => ?_)
          have vx_79 := b_add (rfl : p2.toInt = _) (by decide : (1 : Int32).toInt = 1) ex_79 (by omega) (by omega)
          refine lv_iload_n hx hb dX1_giftsFrom_111 rfl (lv_at hl 7 rfl) ?_
          refine lv_iload hx hb dX1_giftsFrom_112 (lv_at hl 2 rfl) ?_
          refine lv_iadd hx hb dX1_giftsFrom_114 ?_
          refine lv_topi (fun x_80 ex_80 => ?_)
          try have vx_80 := b_add (rfl : p3.toInt = _) (rfl : i_57.toInt = _) ex_80 (by omega) (by omega)
          have k_81 : σ_74 h0 8 = (σ h0 8) := by rw [eσ_74, up2_nea _ _ (tg_ne th0 tb_68 (by decide))]; exact k_62
          have k_82 : σ_77 h0 8 = (σ h0 8) := by rw [eσ_77, up2_nea _ _ (tg_ne th0 tb_76 (by decide))]; exact k_81
          refine t_ci (va_runV (As := [.ref h1, .int x_79, .int x_80]) (rest := []) ⟨hx, hb, hml, hown, hts⟩ (cy_X1_giftsFrom_5 l D cA L T r hG hLA.1 σ_77 ρ_66 hB.2.1 _ h0 mh0 th0 h1 mh1 th1 x_79 x_80 (by first | omega | decide) (by first | omega | decide) (by rw [k_82]; omega) (by rw [k_82]; omega)) (cV hts mv_X1_giftsFrom mw_5_118 rfl rfl ⟨Nat.le_of_ble_eq_true rfl, Nat.le_of_ble_eq_true rfl⟩) (pV hB.1 hK hN mh0 th0 (show shp cA 1 _ _ _ = .inr (1, Fs1 _ _ _) from rfl) rfl) rfl rfl hl.1 rfl (lv_room (Nat.le_of_ble_eq_true rfl)) dX1_giftsFrom_115 ⟨Nat.le_of_ble_eq_true rfl, Nat.le_of_ble_eq_true rfl⟩) hLA hA hB hS (by decide) (fun x_85 σ_83 ρ_84 H locs hB fσ_83 pσ_83 hS => ?_)
          refine lv_istore (lv' := [(8, .int x_85), (7, .int x_67), (6, .int i_58), (5, .int i_57), (4, .int 1), (0, .ref h0), (1, .ref h1), (2, .int p2), (3, .int p3)]) hx hb dX1_giftsFrom_118 hl (by decide) rfl (fun ls hl => ?_)
          refine lv_aload_n hx hb dX1_giftsFrom_120 rfl (lv_at hl 5 rfl) ?_
          refine t_gk hx hb hts hown hK hB mh0 th0 fq_1_5 hb_68 mw_2_131 dX1_giftsFrom_121 ?_
          refine lv_iload hx hb dX1_giftsFrom_124 (lv_at hl 1 rfl) ?_
          refine lv_dup2_11 hx hb dX1_giftsFrom_126 rfl rfl ?_
          refine t_ai hx hb hK hB mb_68 tb_68 ai_28 (fun _ => rfl) (i_in (by omega) (by omega)) dX1_giftsFrom_127 (fun x_86 ex_86 lx_86 ux_86 => ?_)
          have cx_86 := congrArg Int32.toInt ex_86
          refine lv_iconst (v := 1) hx hb dX1_giftsFrom_128 (by decide) ?_
          refine lv_iadd hx hb dX1_giftsFrom_129 ?_
          refine lv_topi (fun x_87 ex_87 => ?_)
          try have vx_87 := b_add (rfl : x_86.toInt = _) (by decide : (1 : Int32).toInt = 1) ex_87 (by omega) (by omega)
          refine t_si hx hb hK hLA hB hS mb_68 tb_68 ai_28 (i_in (by omega) (by omega)) (i_lo _) (i_hi _) (Or.inr (by decide)) dX1_giftsFrom_130 (fun H locs σ_88 eσ_88 hB hS => ?_)
          have k_89 : σ_88 b_68 x_67.toNatClampNeg = x_87 := by rw [eσ_88]; exact up2_same _ _ _ _
          refine lv_iload hx hb dX1_giftsFrom_131 (lv_at hl 0 rfl) ?_
          refine lv_if_le (tgt := 149) hx hb dX1_giftsFrom_133 (by decide) (fun c_90 => ?_) (fun c_90 => ?_)
          · skip
            have uc_90 := i_le (n := 0) (by decide) c_90
            refine lv_iload hx hb dX1_giftsFrom_149 (lv_at hl 3 rfl) ?_
            refine lv_iload hx hb dX1_giftsFrom_151 (lv_at hl 0 rfl) ?_
            refine lv_iadd hx hb dX1_giftsFrom_153 ?_
            refine lv_topi (fun x_91 ex_91 => ?_)
            try have vx_91 := b_add (rfl : i_57.toInt = _) (rfl : x_85.toInt = _) ex_91 (by omega) (by omega)
            refine lv_istore (lv' := [(5, .int x_91), (8, .int x_85), (7, .int x_67), (6, .int i_58), (4, .int 1), (0, .ref h0), (1, .ref h1), (2, .int p2), (3, .int p3)]) hx hb dX1_giftsFrom_154 hl (by decide) rfl (fun ls hl => ?_)
            obtain ⟨x_92, ex_92⟩ : ∃ y : Int32, y = i_58 + 1 := ⟨_, rfl⟩
            have vx_92 := b_add (rfl : i_58.toInt = _) (by decide : (1 : Int32).toInt = 1) ex_92 (by omega) (by omega)
            refine lv_iinc (v := x_92) (lv' := [(6, .int x_92), (5, .int x_91), (8, .int x_85), (7, .int x_67), (4, .int 1), (0, .ref h0), (1, .ref h1), (2, .int p2), (3, .int p3)]) hx hb dX1_giftsFrom_156 hl (k := 3) rfl (by rw [ex_92]; rfl) (by decide) rfl (fun ls hl => ?_)
            refine lv_goto (tgt := 59) hx hb dX1_giftsFrom_159 (by decide) ?_
            have k_93 : σ_83 h0 8 = (σ h0 8) := (FR.at fσ_83 th0 (by decide)).trans k_82
            have k_94 : σ_88 h0 8 = (σ h0 8) := by rw [eσ_88, up2_nea _ _ (tg_ne th0 tb_68 (by decide))]; exact k_93
            exact ih_61 ⟨x_91, x_92, σ_88, ρ_84⟩ _ _ _ ⟨(by omega), (by omega), k_94, hB, hS, lv_sub hl [0, 1, 4, 5, 6, 7, 8] rfl⟩ (by show (1 - x_92.toInt).toNat < (1 - i_58.toInt).toNat; omega)
          · skip
            have uc_90 := i_nle (n := 0) (by decide) c_90
            refine lv_aload_n hx hb dX1_giftsFrom_136 rfl (lv_at hl 5 rfl) ?_
            refine t_gr hx hb hts hown hK hG hB mh0 th0 fq_1_6 rfl mw_2_132 dX1_giftsFrom_137 (fun b_95 hb_95 mb_95 tb_95 => ?_)
            refine lv_iload_n hx hb dX1_giftsFrom_140 rfl (lv_at hl 7 rfl) ?_
            refine lv_dup2_11 hx hb dX1_giftsFrom_141 rfl rfl ?_
            refine t_ai hx hb hK hB mb_95 tb_95 ai_29 (fun _ => rfl) (i_in (by omega) (by omega)) dX1_giftsFrom_142 (fun x_96 ex_96 lx_96 ux_96 => ?_)
            have cx_96 := congrArg Int32.toInt ex_96
            refine lv_iconst (v := 1) hx hb dX1_giftsFrom_143 (by decide) ?_
            refine lv_iload hx hb dX1_giftsFrom_144 (lv_at hl 1 rfl) ?_
            refine lv_ishl hx hb dX1_giftsFrom_146 ?_
            refine lv_topi (fun x_97 ex_97 => ?_)
            refine lv_ior hx hb dX1_giftsFrom_147 ?_
            refine lv_topi (fun x_98 ex_98 => ?_)
            refine t_si hx hb hK hLA hB hS mb_95 tb_95 ai_29 (i_in (by omega) (by omega)) (i_lo _) (i_hi _) (Or.inr (by decide)) dX1_giftsFrom_148 (fun H locs σ_99 eσ_99 hB hS => ?_)
            have k_100 : σ_99 b_95 p2.toNatClampNeg = x_98 := by rw [eσ_99]; exact up2_same _ _ _ _
            refine lv_iload hx hb dX1_giftsFrom_149 (lv_at hl 3 rfl) ?_
            refine lv_iload hx hb dX1_giftsFrom_151 (lv_at hl 0 rfl) ?_
            refine lv_iadd hx hb dX1_giftsFrom_153 ?_
            refine lv_topi (fun x_101 ex_101 => ?_)
            try have vx_101 := b_add (rfl : i_57.toInt = _) (rfl : x_85.toInt = _) ex_101 (by omega) (by omega)
            refine lv_istore (lv' := [(5, .int x_101), (8, .int x_85), (7, .int x_67), (6, .int i_58), (4, .int 1), (0, .ref h0), (1, .ref h1), (2, .int p2), (3, .int p3)]) hx hb dX1_giftsFrom_154 hl (by decide) rfl (fun ls hl => ?_)
            obtain ⟨x_102, ex_102⟩ : ∃ y : Int32, y = i_58 + 1 := ⟨_, rfl⟩
            have vx_102 := b_add (rfl : i_58.toInt = _) (by decide : (1 : Int32).toInt = 1) ex_102 (by omega) (by omega)
            refine lv_iinc (v := x_102) (lv' := [(6, .int x_102), (5, .int x_101), (8, .int x_85), (7, .int x_67), (4, .int 1), (0, .ref h0), (1, .ref h1), (2, .int p2), (3, .int p3)]) hx hb dX1_giftsFrom_156 hl (k := 3) rfl (by rw [ex_102]; rfl) (by decide) rfl (fun ls hl => ?_)
            refine lv_goto (tgt := 59) hx hb dX1_giftsFrom_159 (by decide) ?_
            have k_103 : σ_83 h0 8 = (σ h0 8) := (FR.at fσ_83 th0 (by decide)).trans k_82
            have k_104 : σ_88 h0 8 = (σ h0 8) := by rw [eσ_88, up2_nea _ _ (tg_ne th0 tb_68 (by decide))]; exact k_103
            have k_105 : σ_99 h0 8 = (σ h0 8) := by rw [eσ_99, up2_nea _ _ (tg_ne th0 tb_95 (by decide))]; exact k_104
            exact ih_61 ⟨x_101, x_102, σ_99, ρ_84⟩ _ _ _ ⟨(by omega), (by omega), k_105, hB, hS, lv_sub hl [0, 1, 4, 5, 6, 7, 8] rfl⟩ (by show (1 - x_102.toInt).toNat < (1 - i_58.toInt).toNat; omega)
  · skip
    have uc_2 := j_nlt c_2
    refine lv_iload_n hx hb dX1_giftsFrom_8 rfl (lv_at hl 3 rfl) ?_
    refine lv_if_ne (tgt := 29) hx hb dX1_giftsFrom_9 (by decide) (fun c_106 => ?_) (fun c_106 => ?_)
    · skip
      have uc_106 := i_ne (n := 0) (by decide) c_106
      refine lv_iconst (v := 1) hx hb dX1_giftsFrom_29 (by decide) ?_
      exact W.iret (v := 1) hx hb hr (fun t ht hW => ⟨⟨1, (σ, ρ), rfl, ⟨hB.2.1, hB.2.2, trivial⟩, (show TP D cA L T r σ ρ t.heap from by rw [ht]; exact hB.1)⟩, hS.F ht⟩) hS.2.2 dX1_giftsFrom_30
    · skip
      have uc_106 := i_eq (n := 0) (by decide) c_106
      refine lv_aload_n hx hb dX1_giftsFrom_12 rfl (lv_at hl 0 rfl) ?_
      refine t_gr hx hb hts hown hK hG hB mh0 th0 fq_1_2 rfl mw_2_127 dX1_giftsFrom_13 (fun b_107 hb_107 mb_107 tb_107 => ?_)
      refine lv_iconst (v := 0) hx hb dX1_giftsFrom_16 (by decide) ?_
      refine lv_aload_n hx hb dX1_giftsFrom_17 rfl (lv_at hl 0 rfl) ?_
      refine t_gr hx hb hts hown hK hG hB mh0 th0 fq_1_7 rfl mw_2_134 dX1_giftsFrom_18 (fun b_108 hb_108 mb_108 tb_108 => ?_)
      refine lv_iconst (v := 0) hx hb dX1_giftsFrom_21 (by decide) ?_
      refine lv_aload_n hx hb dX1_giftsFrom_22 rfl (lv_at hl 0 rfl) ?_
      refine t_gv hx hb hts hown hK hB mh0 th0 fi_1_8 rfl mw_2_136 dX1_giftsFrom_23 ?_
      refine t_cp (lo := (-2147483648)) (hi := 2147483647) hx hb (hml.trans hl.1.symm) hts hown mw_5_84 ⟨mw_3_239, mw_3_238, mw_1_20⟩ hK hLA hB hS mb_107 tb_107 ai_26 mb_108 tb_108 ai_30 (fun _ => ⟨show ((-2147483648) : Int) ≤ (-2147483648) by decide, show (2147483647 : Int) ≤ 2147483647 by decide⟩) (fun _ => rfl) (by decide) (by decide) (by decide) (a_nn (by omega)) (a_cp (by decide) (by omega)) (a_cp (by decide) (by omega)) (Nat.le_of_ble_eq_true rfl) (Nat.le_of_ble_eq_true rfl) dX1_giftsFrom_26 (fun H locs σ_109 eσ_109 hB hS => ?_)
      refine lv_iconst (v := 1) hx hb dX1_giftsFrom_29 (by decide) ?_
      exact W.iret (v := 1) hx hb hr (fun t ht hW => ⟨⟨1, (σ_109, ρ), rfl, ⟨hB.2.1, hB.2.2, trivial⟩, (show TP D cA L T r σ_109 ρ t.heap from by rw [ht]; exact hB.1)⟩, hS.F ht⟩) hS.2.2 dX1_giftsFrom_30
set_option maxHeartbeats 4000000 in
set_option maxRecDepth 100000 in
theorem cy_X1_giftsFrom_7 (l : Launch) (D : va_G) (cA : Nat → ClassId) (L : List Nat) (T : Nat → Nat) (r : Rg) (hG : GR L T r) (hL : L.Nodup) (σ : Sg) (ρ : Lg) (hW : WT L ry T σ) (sz : Nat) (h0 : Nat) (mh0 : h0 ∈ L) (th0 : T h0 = 1) (h1 : Nat) (mh1 : h1 ∈ L) (th1 : T h1 = 3) (p2 : Int32) (p3 : Int32) (w0 : 1 ≤ p2.toInt) (w1 : p2.toInt ≤ 8) (w2 : 0 ≤ (σ h0 8).toInt) (w3 : (σ h0 8).toInt ≤ 8) : Met l yX1_giftsFrom (.code yX1_giftsFrom cX1_giftsFrom 9 (some .int) :: wsA) ({ frames := 8, cells := 0, slots := 0, locals := 296 }) (PR D cA L T r σ ρ sz [.ref h0, .ref h1, .int p2, .int p3]) (QI D cA L T r ry [(26, 1000), (28, 1000), (29, 1000), (30, 1000)] σ sz (fun x σ1 => True)) 0 0 (dm L sz) := by
  refine Met.ofW (cc := cX1_giftsFrom) (maxL := 9) (ret := (some .int)) (by decide) rfl ?_
  intro p e s m args below meth c s₁ B hml hv
  obtain ⟨rfl, hsz, hP, hK, hN⟩ := hv
  have hx := B.exec
  have hb := B.bytes
  have hr := B.returns
  have hts : ∀ w ∈ wsA, w.before _ s = true := fun w h => atoms_spec (ws := .code yX1_giftsFrom cX1_giftsFrom 9 (some .int) :: wsA) B.pre w (List.mem_cons_of_mem _ h)
  have hown : s.vm.findClass RX1 = some m.cls := findClass_of_methodNamed B.named
  subst hsz
  have hLA : LA (dm L s.heap.size) L := ⟨hL, fun a h => Or.inl h⟩
  have hA : ∀ q : Nat, s.heap.size ≤ q → dm L s.heap.size q := fun q h => Or.inr h
  have hS : va_S (dm L s.heap.size) s.heap s.heap [] := va_S.rf
  have hB : TS D cA L T r ry [(26, 1000), (28, 1000), (29, 1000), (30, 1000)] σ σ ρ s.heap := ⟨hP, hW, FR.rf⟩
  have hl := lv_entry ([.ref h0, .ref h1, .int p2, .int p3]) (n := 9) (Nat.le_of_ble_eq_true rfl)
  rw [lg_entry_eq]
  generalize (lg_sl ([.ref h0, .ref h1, .int p2, .int p3]) ++ List.replicate (9 - (lg_sl ([.ref h0, .ref h1, .int p2, .int p3])).length) Slot.unset).toArray = ls at hl ⊢
  have hl : lv_has ls 9 [(0, .ref h0), (1, .ref h1), (2, .int p2), (3, .int p3)] := hl
  have w_1 : (-2147483648) ≤ (σ h0 8).toInt ∧ (σ h0 8).toInt ≤ 2147483647 := by have z := hB.2.1 h0 mh0 8; rw [th0] at z; exact z
  refine lv_iload_n hx hb dX1_giftsFrom_0 rfl (lv_at hl 2 rfl) ?_
  refine lv_aload_n hx hb dX1_giftsFrom_1 rfl (lv_at hl 0 rfl) ?_
  refine t_gv hx hb hts hown hK hB mh0 th0 fi_1_8 rfl mw_2_136 dX1_giftsFrom_2 ?_
  refine lv_icmp_lt (tgt := 31) hx hb dX1_giftsFrom_5 (by decide) (fun c_2 => ?_) (fun c_2 => ?_)
  · skip
    have uc_2 := j_lt c_2
    refine lv_aload_n hx hb dX1_giftsFrom_31 rfl (lv_at hl 1 rfl) ?_
    refine t_gr hx hb hts hown hK hG hB mh1 th1 fq_3_3 rfl mw_1_149 dX1_giftsFrom_32 (fun b_3 hb_3 mb_3 tb_3 => ?_)
    refine lv_iload_n hx hb dX1_giftsFrom_35 rfl (lv_at hl 2 rfl) ?_
    refine t_ai hx hb hK hB mb_3 tb_3 ai_36 (fun _ => rfl) (i_in (by omega) (by omega)) dX1_giftsFrom_36 (fun x_4 ex_4 lx_4 ux_4 => ?_)
    have cx_4 := congrArg Int32.toInt ex_4
    refine lv_aload_n hx hb dX1_giftsFrom_37 rfl (lv_at hl 1 rfl) ?_
    refine t_gr hx hb hts hown hK hG hB mh1 th1 fq_3_4 rfl mw_1_155 dX1_giftsFrom_38 (fun b_5 hb_5 mb_5 tb_5 => ?_)
    refine lv_iload_n hx hb dX1_giftsFrom_41 rfl (lv_at hl 2 rfl) ?_
    refine t_ai hx hb hK hB mb_5 tb_5 ai_37 (fun _ => rfl) (i_in (by omega) (by omega)) dX1_giftsFrom_42 (fun x_6 ex_6 lx_6 ux_6 => ?_)
    have cx_6 := congrArg Int32.toInt ex_6
    refine lv_icmp_ne (tgt := 50) hx hb dX1_giftsFrom_43 (by decide) (fun c_7 => ?_) (fun c_7 => ?_)
    · skip
      have uc_7 := j_ne c_7
      refine lv_iconst (v := 2) hx hb dX1_giftsFrom_50 (by decide) ?_
      refine lv_istore (lv' := [(4, .int 2), (0, .ref h0), (1, .ref h1), (2, .int p2), (3, .int p3)]) hx hb dX1_giftsFrom_51 hl (by decide) rfl (fun ls hl => ?_)
      refine lv_iconst (v := 0) hx hb dX1_giftsFrom_53 (by decide) ?_
      refine lv_istore (lv' := [(5, .int 0), (4, .int 2), (0, .ref h0), (1, .ref h1), (2, .int p2), (3, .int p3)]) hx hb dX1_giftsFrom_54 hl (by decide) rfl (fun ls hl => ?_)
      refine lv_iconst (v := 0) hx hb dX1_giftsFrom_56 (by decide) ?_
      refine lv_istore (lv' := [(6, .int 0), (5, .int 0), (4, .int 2), (0, .ref h0), (1, .ref h1), (2, .int p2), (3, .int p3)]) hx hb dX1_giftsFrom_57 hl (by decide) rfl (fun ls hl => ?_)
      refine w_loop (α := Int32 × Int32 × Sg × Lg) (fun (i_8, i_9, σ_10, ρ_11) H locs ls => 0 ≤ i_9.toInt ∧ i_9.toInt ≤ 2 ∧ σ_10 h0 8 = (σ h0 8) ∧ TS D cA L T r ry [(26, 1000), (28, 1000), (29, 1000), (30, 1000)] σ σ_10 ρ_11 H ∧ va_S (dm L s.heap.size) s.heap H locs ∧ lv_has ls 9 [(6, .int i_9), (5, .int i_8), (4, .int 2), (0, .ref h0), (1, .ref h1), (2, .int p2), (3, .int p3)]) (fun (i_8, i_9, σ_10, ρ_11) => (2 - i_9.toInt).toNat) ?_ ⟨0, 0, σ, ρ⟩ ⟨(by decide), (by decide), rfl, hB, hS, lv_sub hl [0, 1, 2, 3, 4, 5, 6] rfl⟩
      rintro ⟨i_8, i_9, σ_10, ρ_11⟩ H locs ls ⟨li_9, ui_9, k_13, hB, hS, hl⟩ ih_12
      refine lv_iload hx hb dX1_giftsFrom_59 (lv_at hl 0 rfl) ?_
      refine lv_iload hx hb dX1_giftsFrom_61 (lv_at hl 2 rfl) ?_
      refine lv_icmp_ge (tgt := 162) hx hb dX1_giftsFrom_63 (by decide) (fun c_14 => ?_) (fun c_14 => ?_)
      · skip
        have uc_14 := i_ge (n := 2) (by decide) c_14
        refine lv_iload hx hb dX1_giftsFrom_162 (lv_at hl 1 rfl) ?_
        exact W.iret (v := i_8) hx hb hr (fun t ht hW => ⟨⟨i_8, (σ_10, ρ_11), rfl, ⟨hB.2.1, hB.2.2, trivial⟩, (show TP D cA L T r σ_10 ρ_11 t.heap from by rw [ht]; exact hB.1)⟩, hS.F ht⟩) hS.2.2 dX1_giftsFrom_164
      · skip
        have uc_14 := i_nge (n := 2) (by decide) c_14
        refine lv_aload_n hx hb dX1_giftsFrom_66 rfl (lv_at hl 4 rfl) ?_
        refine lv_iload_n hx hb dX1_giftsFrom_67 rfl (lv_at hl 5 rfl) ?_
        refine lv_iload hx hb dX1_giftsFrom_68 (lv_at hl 0 rfl) ?_
        refine lv_iload_n hx hb dX1_giftsFrom_70 rfl (lv_at hl 5 rfl) ?_
        refine lv_ishl hx hb dX1_giftsFrom_71 ?_
        refine lv_topi (fun x_15 ex_15 => ?_)
        refine t_ci (va_runV (As := [.int p2, .int x_15]) (rest := []) ⟨hx, hb, hml, hown, hts⟩ (cy_X3_askedAt l D cA L T r hG hLA.1 σ_10 ρ_11 hB.2.1 _ h1 mh1 th1 p2 x_15 (by first | omega | decide) (by first | omega | decide)) (cV hts mv_X3_askedAt mw_5_122 rfl rfl ⟨Nat.le_of_ble_eq_true rfl, Nat.le_of_ble_eq_true rfl⟩) (pV hB.1 hK hN mh1 th1 (show shp cA 3 _ _ _ = .inr (3, Fs3 _ _ _) from rfl) rfl) rfl rfl hl.1 rfl (lv_room (Nat.le_of_ble_eq_true rfl)) dX1_giftsFrom_72 ⟨Nat.le_of_ble_eq_true rfl, Nat.le_of_ble_eq_true rfl⟩) hLA hA hB hS (by decide) (fun x_18 σ_16 ρ_17 H locs hB fσ_16 pσ_16 hS => ?_)
        have qσ_16 := FR.nil fσ_16
        subst qσ_16
        obtain ⟨lx_18, ux_18⟩ := pσ_16
        refine lv_istore (lv' := [(7, .int x_18), (6, .int i_9), (5, .int i_8), (4, .int 2), (0, .ref h0), (1, .ref h1), (2, .int p2), (3, .int p3)]) hx hb dX1_giftsFrom_75 hl (by decide) rfl (fun ls hl => ?_)
        refine lv_aload_n hx hb dX1_giftsFrom_77 rfl (lv_at hl 4 rfl) ?_
        refine t_gr hx hb hts hown hK hG hB mh0 th0 fq_1_5 rfl mw_2_131 dX1_giftsFrom_78 (fun b_19 hb_19 mb_19 tb_19 => ?_)
        refine lv_iload hx hb dX1_giftsFrom_81 (lv_at hl 0 rfl) ?_
        refine t_ai hx hb hK hB mb_19 tb_19 ai_28 (fun _ => rfl) (i_in (by omega) (by omega)) dX1_giftsFrom_83 (fun x_20 ex_20 lx_20 ux_20 => ?_)
        have cx_20 := congrArg Int32.toInt ex_20
        refine lv_if_le (tgt := 156) hx hb dX1_giftsFrom_84 (by decide) (fun c_21 => ?_) (fun c_21 => ?_)
        · skip
          have uc_21 := i_le (n := 0) (by decide) c_21
          obtain ⟨x_22, ex_22⟩ : ∃ y : Int32, y = i_9 + 1 := ⟨_, rfl⟩
          have vx_22 := b_add (rfl : i_9.toInt = _) (by decide : (1 : Int32).toInt = 1) ex_22 (by omega) (by omega)
          refine lv_iinc (v := x_22) (lv' := [(6, .int x_22), (7, .int x_18), (5, .int i_8), (4, .int 2), (0, .ref h0), (1, .ref h1), (2, .int p2), (3, .int p3)]) hx hb dX1_giftsFrom_156 hl (k := 1) rfl (by rw [ex_22]; rfl) (by decide) rfl (fun ls hl => ?_)
          refine lv_goto (tgt := 59) hx hb dX1_giftsFrom_159 (by decide) ?_
          exact ih_12 ⟨i_8, x_22, σ_10, ρ_17⟩ _ _ _ ⟨(by omega), (by omega), k_13, hB, hS, lv_sub hl [0, 2, 3, 4, 5, 6, 7] rfl⟩ (by show (2 - x_22.toInt).toNat < (2 - i_9.toInt).toNat; omega)
        · skip
          have uc_21 := i_nle (n := 0) (by decide) c_21
          refine lv_aload_n hx hb dX1_giftsFrom_87 rfl (lv_at hl 4 rfl) ?_
          refine t_gk hx hb hts hown hK hB mh0 th0 fq_1_5 hb_19 mw_2_131 dX1_giftsFrom_88 ?_
          refine lv_iload hx hb dX1_giftsFrom_91 (lv_at hl 0 rfl) ?_
          refine lv_dup2_11 hx hb dX1_giftsFrom_93 rfl rfl ?_
          refine t_ai hx hb hK hB mb_19 tb_19 ai_28 (fun _ => rfl) (i_in (by omega) (by omega)) dX1_giftsFrom_94 (fun x_23 ex_23 lx_23 ux_23 => ?_)
          have qx_23 : x_23 = x_20 := ex_23.trans ex_20.symm
          have qx_23 := qx_23.symm
          subst qx_23
          refine lv_iconst (v := 1) hx hb dX1_giftsFrom_95 (by decide) ?_
          refine lv_isub hx hb dX1_giftsFrom_96 ?_
          refine lv_topi (fun x_24 ex_24 => ?_)
          have vx_24 := b_sub (rfl : x_20.toInt = _) (by decide : (1 : Int32).toInt = 1) ex_24 (by omega) (by omega)
          refine t_si hx hb hK hLA hB hS mb_19 tb_19 ai_28 (i_in (by omega) (by omega)) (i_lo _) (i_hi _) (Or.inr (by decide)) dX1_giftsFrom_97 (fun H locs σ_25 eσ_25 hB hS => ?_)
          have k_26 : σ_25 b_19 x_18.toNatClampNeg = x_24 := by rw [eσ_25]; exact up2_same _ _ _ _
          refine lv_aload_n hx hb dX1_giftsFrom_98 rfl (lv_at hl 4 rfl) ?_
          refine t_gr hx hb hts hown hK hG hB mh0 th0 fq_1_2 rfl mw_2_127 dX1_giftsFrom_99 (fun b_27 hb_27 mb_27 tb_27 => ?_)
          refine lv_iload_n hx hb dX1_giftsFrom_102 rfl (lv_at hl 6 rfl) ?_
          refine lv_iload hx hb dX1_giftsFrom_103 (lv_at hl 0 rfl) ?_
          refine t_si hx hb hK hLA hB hS mb_27 tb_27 ai_26 (i_in (by omega) (by omega)) (i_lo _) (i_hi _) (Or.inr (by decide)) dX1_giftsFrom_105 (fun H locs σ_28 eσ_28 hB hS => ?_)
          have k_29 : σ_28 b_27 p2.toNatClampNeg = x_18 := by rw [eσ_28]; exact up2_same _ _ _ _
          refine lv_aload_n hx hb dX1_giftsFrom_106 rfl (lv_at hl 4 rfl) ?_
          refine lv_aload_n hx hb dX1_giftsFrom_107 rfl (lv_at hl 5 rfl) ?_
          refine lv_iload_n hx hb dX1_giftsFrom_108 rfl (lv_at hl 6 rfl) ?_
          refine lv_iconst (v := 1) hx hb dX1_giftsFrom_109 (by decide) ?_
          refine lv_iadd hx hb dX1_giftsFrom_110 ?_
          refine lv_topi (fun x_30 ex_30 => ?_)
          have vx_30 := b_add (rfl : p2.toInt = _) (by decide : (1 : Int32).toInt = 1) ex_30 (by omega) (by omega)
          refine lv_iload_n hx hb dX1_giftsFrom_111 rfl (lv_at hl 7 rfl) ?_
          refine lv_iload hx hb dX1_giftsFrom_112 (lv_at hl 2 rfl) ?_
          refine lv_iadd hx hb dX1_giftsFrom_114 ?_
          refine lv_topi (fun x_31 ex_31 => ?_)
          try have vx_31 := b_add (rfl : p3.toInt = _) (rfl : i_8.toInt = _) ex_31 (by omega) (by omega)
          have k_32 : σ_25 h0 8 = (σ h0 8) := by rw [eσ_25, up2_nea _ _ (tg_ne th0 tb_19 (by decide))]; exact k_13
          have k_33 : σ_28 h0 8 = (σ h0 8) := by rw [eσ_28, up2_nea _ _ (tg_ne th0 tb_27 (by decide))]; exact k_32
          refine t_ci (va_runV (As := [.ref h1, .int x_30, .int x_31]) (rest := []) ⟨hx, hb, hml, hown, hts⟩ (cy_X1_giftsFrom_6 l D cA L T r hG hLA.1 σ_28 ρ_17 hB.2.1 _ h0 mh0 th0 h1 mh1 th1 x_30 x_31 (by first | omega | decide) (by first | omega | decide) (by rw [k_33]; omega) (by rw [k_33]; omega)) (cV hts mv_X1_giftsFrom mw_5_118 rfl rfl ⟨Nat.le_of_ble_eq_true rfl, Nat.le_of_ble_eq_true rfl⟩) (pV hB.1 hK hN mh0 th0 (show shp cA 1 _ _ _ = .inr (1, Fs1 _ _ _) from rfl) rfl) rfl rfl hl.1 rfl (lv_room (Nat.le_of_ble_eq_true rfl)) dX1_giftsFrom_115 ⟨Nat.le_of_ble_eq_true rfl, Nat.le_of_ble_eq_true rfl⟩) hLA hA hB hS (by decide) (fun x_36 σ_34 ρ_35 H locs hB fσ_34 pσ_34 hS => ?_)
          refine lv_istore (lv' := [(8, .int x_36), (7, .int x_18), (6, .int i_9), (5, .int i_8), (4, .int 2), (0, .ref h0), (1, .ref h1), (2, .int p2), (3, .int p3)]) hx hb dX1_giftsFrom_118 hl (by decide) rfl (fun ls hl => ?_)
          refine lv_aload_n hx hb dX1_giftsFrom_120 rfl (lv_at hl 5 rfl) ?_
          refine t_gk hx hb hts hown hK hB mh0 th0 fq_1_5 hb_19 mw_2_131 dX1_giftsFrom_121 ?_
          refine lv_iload hx hb dX1_giftsFrom_124 (lv_at hl 1 rfl) ?_
          refine lv_dup2_11 hx hb dX1_giftsFrom_126 rfl rfl ?_
          refine t_ai hx hb hK hB mb_19 tb_19 ai_28 (fun _ => rfl) (i_in (by omega) (by omega)) dX1_giftsFrom_127 (fun x_37 ex_37 lx_37 ux_37 => ?_)
          have cx_37 := congrArg Int32.toInt ex_37
          refine lv_iconst (v := 1) hx hb dX1_giftsFrom_128 (by decide) ?_
          refine lv_iadd hx hb dX1_giftsFrom_129 ?_
          refine lv_topi (fun x_38 ex_38 => ?_)
          try have vx_38 := b_add (rfl : x_37.toInt = _) (by decide : (1 : Int32).toInt = 1) ex_38 (by omega) (by omega)
          refine t_si hx hb hK hLA hB hS mb_19 tb_19 ai_28 (i_in (by omega) (by omega)) (i_lo _) (i_hi _) (Or.inr (by decide)) dX1_giftsFrom_130 (fun H locs σ_39 eσ_39 hB hS => ?_)
          have k_40 : σ_39 b_19 x_18.toNatClampNeg = x_38 := by rw [eσ_39]; exact up2_same _ _ _ _
          refine lv_iload hx hb dX1_giftsFrom_131 (lv_at hl 0 rfl) ?_
          refine lv_if_le (tgt := 149) hx hb dX1_giftsFrom_133 (by decide) (fun c_41 => ?_) (fun c_41 => ?_)
          · skip
            have uc_41 := i_le (n := 0) (by decide) c_41
            refine lv_iload hx hb dX1_giftsFrom_149 (lv_at hl 3 rfl) ?_
            refine lv_iload hx hb dX1_giftsFrom_151 (lv_at hl 0 rfl) ?_
            refine lv_iadd hx hb dX1_giftsFrom_153 ?_
            refine lv_topi (fun x_42 ex_42 => ?_)
            try have vx_42 := b_add (rfl : i_8.toInt = _) (rfl : x_36.toInt = _) ex_42 (by omega) (by omega)
            refine lv_istore (lv' := [(5, .int x_42), (8, .int x_36), (7, .int x_18), (6, .int i_9), (4, .int 2), (0, .ref h0), (1, .ref h1), (2, .int p2), (3, .int p3)]) hx hb dX1_giftsFrom_154 hl (by decide) rfl (fun ls hl => ?_)
            obtain ⟨x_43, ex_43⟩ : ∃ y : Int32, y = i_9 + 1 := ⟨_, rfl⟩
            have vx_43 := b_add (rfl : i_9.toInt = _) (by decide : (1 : Int32).toInt = 1) ex_43 (by omega) (by omega)
            refine lv_iinc (v := x_43) (lv' := [(6, .int x_43), (5, .int x_42), (8, .int x_36), (7, .int x_18), (4, .int 2), (0, .ref h0), (1, .ref h1), (2, .int p2), (3, .int p3)]) hx hb dX1_giftsFrom_156 hl (k := 3) rfl (by rw [ex_43]; rfl) (by decide) rfl (fun ls hl => ?_)
            refine lv_goto (tgt := 59) hx hb dX1_giftsFrom_159 (by decide) ?_
            have k_44 : σ_34 h0 8 = (σ h0 8) := (FR.at fσ_34 th0 (by decide)).trans k_33
            have k_45 : σ_39 h0 8 = (σ h0 8) := by rw [eσ_39, up2_nea _ _ (tg_ne th0 tb_19 (by decide))]; exact k_44
            exact ih_12 ⟨x_42, x_43, σ_39, ρ_35⟩ _ _ _ ⟨(by omega), (by omega), k_45, hB, hS, lv_sub hl [0, 1, 4, 5, 6, 7, 8] rfl⟩ (by show (2 - x_43.toInt).toNat < (2 - i_9.toInt).toNat; omega)
          · skip
            have uc_41 := i_nle (n := 0) (by decide) c_41
            refine lv_aload_n hx hb dX1_giftsFrom_136 rfl (lv_at hl 5 rfl) ?_
            refine t_gr hx hb hts hown hK hG hB mh0 th0 fq_1_6 rfl mw_2_132 dX1_giftsFrom_137 (fun b_46 hb_46 mb_46 tb_46 => ?_)
            refine lv_iload_n hx hb dX1_giftsFrom_140 rfl (lv_at hl 7 rfl) ?_
            refine lv_dup2_11 hx hb dX1_giftsFrom_141 rfl rfl ?_
            refine t_ai hx hb hK hB mb_46 tb_46 ai_29 (fun _ => rfl) (i_in (by omega) (by omega)) dX1_giftsFrom_142 (fun x_47 ex_47 lx_47 ux_47 => ?_)
            have cx_47 := congrArg Int32.toInt ex_47
            refine lv_iconst (v := 1) hx hb dX1_giftsFrom_143 (by decide) ?_
            refine lv_iload hx hb dX1_giftsFrom_144 (lv_at hl 1 rfl) ?_
            refine lv_ishl hx hb dX1_giftsFrom_146 ?_
            refine lv_topi (fun x_48 ex_48 => ?_)
            refine lv_ior hx hb dX1_giftsFrom_147 ?_
            refine lv_topi (fun x_49 ex_49 => ?_)
            refine t_si hx hb hK hLA hB hS mb_46 tb_46 ai_29 (i_in (by omega) (by omega)) (i_lo _) (i_hi _) (Or.inr (by decide)) dX1_giftsFrom_148 (fun H locs σ_50 eσ_50 hB hS => ?_)
            have k_51 : σ_50 b_46 p2.toNatClampNeg = x_49 := by rw [eσ_50]; exact up2_same _ _ _ _
            refine lv_iload hx hb dX1_giftsFrom_149 (lv_at hl 3 rfl) ?_
            refine lv_iload hx hb dX1_giftsFrom_151 (lv_at hl 0 rfl) ?_
            refine lv_iadd hx hb dX1_giftsFrom_153 ?_
            refine lv_topi (fun x_52 ex_52 => ?_)
            try have vx_52 := b_add (rfl : i_8.toInt = _) (rfl : x_36.toInt = _) ex_52 (by omega) (by omega)
            refine lv_istore (lv' := [(5, .int x_52), (8, .int x_36), (7, .int x_18), (6, .int i_9), (4, .int 2), (0, .ref h0), (1, .ref h1), (2, .int p2), (3, .int p3)]) hx hb dX1_giftsFrom_154 hl (by decide) rfl (fun ls hl => ?_)
            obtain ⟨x_53, ex_53⟩ : ∃ y : Int32, y = i_9 + 1 := ⟨_, rfl⟩
            have vx_53 := b_add (rfl : i_9.toInt = _) (by decide : (1 : Int32).toInt = 1) ex_53 (by omega) (by omega)
            refine lv_iinc (v := x_53) (lv' := [(6, .int x_53), (5, .int x_52), (8, .int x_36), (7, .int x_18), (4, .int 2), (0, .ref h0), (1, .ref h1), (2, .int p2), (3, .int p3)]) hx hb dX1_giftsFrom_156 hl (k := 3) rfl (by rw [ex_53]; rfl) (by decide) rfl (fun ls hl => ?_)
            refine lv_goto (tgt := 59) hx hb dX1_giftsFrom_159 (by decide) ?_
            have k_54 : σ_34 h0 8 = (σ h0 8) := (FR.at fσ_34 th0 (by decide)).trans k_33
            have k_55 : σ_39 h0 8 = (σ h0 8) := by rw [eσ_39, up2_nea _ _ (tg_ne th0 tb_19 (by decide))]; exact k_54
            have k_56 : σ_50 h0 8 = (σ h0 8) := by rw [eσ_50, up2_nea _ _ (tg_ne th0 tb_46 (by decide))]; exact k_55
            exact ih_12 ⟨x_52, x_53, σ_50, ρ_35⟩ _ _ _ ⟨(by omega), (by omega), k_56, hB, hS, lv_sub hl [0, 1, 4, 5, 6, 7, 8] rfl⟩ (by show (2 - x_53.toInt).toNat < (2 - i_9.toInt).toNat; omega)
    · skip
      have uc_7 := j_eq c_7
      refine lv_iconst (v := 1) hx hb dX1_giftsFrom_46 (by decide) ?_
      refine lv_goto (tgt := 51) hx hb dX1_giftsFrom_47 (by decide) ?_
      refine lv_istore (lv' := [(4, .int 1), (0, .ref h0), (1, .ref h1), (2, .int p2), (3, .int p3)]) hx hb dX1_giftsFrom_51 hl (by decide) rfl (fun ls hl => ?_)
      refine lv_iconst (v := 0) hx hb dX1_giftsFrom_53 (by decide) ?_
      refine lv_istore (lv' := [(5, .int 0), (4, .int 1), (0, .ref h0), (1, .ref h1), (2, .int p2), (3, .int p3)]) hx hb dX1_giftsFrom_54 hl (by decide) rfl (fun ls hl => ?_)
      refine lv_iconst (v := 0) hx hb dX1_giftsFrom_56 (by decide) ?_
      refine lv_istore (lv' := [(6, .int 0), (5, .int 0), (4, .int 1), (0, .ref h0), (1, .ref h1), (2, .int p2), (3, .int p3)]) hx hb dX1_giftsFrom_57 hl (by decide) rfl (fun ls hl => ?_)
      refine w_loop (α := Int32 × Int32 × Sg × Lg) (fun (i_57, i_58, σ_59, ρ_60) H locs ls => 0 ≤ i_58.toInt ∧ i_58.toInt ≤ 1 ∧ σ_59 h0 8 = (σ h0 8) ∧ TS D cA L T r ry [(26, 1000), (28, 1000), (29, 1000), (30, 1000)] σ σ_59 ρ_60 H ∧ va_S (dm L s.heap.size) s.heap H locs ∧ lv_has ls 9 [(6, .int i_58), (5, .int i_57), (4, .int 1), (0, .ref h0), (1, .ref h1), (2, .int p2), (3, .int p3)]) (fun (i_57, i_58, σ_59, ρ_60) => (1 - i_58.toInt).toNat) ?_ ⟨0, 0, σ, ρ⟩ ⟨(by decide), (by decide), rfl, hB, hS, lv_sub hl [0, 1, 2, 3, 4, 5, 6] rfl⟩
      rintro ⟨i_57, i_58, σ_59, ρ_60⟩ H locs ls ⟨li_58, ui_58, k_62, hB, hS, hl⟩ ih_61
      refine lv_iload hx hb dX1_giftsFrom_59 (lv_at hl 0 rfl) ?_
      refine lv_iload hx hb dX1_giftsFrom_61 (lv_at hl 2 rfl) ?_
      refine lv_icmp_ge (tgt := 162) hx hb dX1_giftsFrom_63 (by decide) (fun c_63 => ?_) (fun c_63 => ?_)
      · skip
        have uc_63 := i_ge (n := 1) (by decide) c_63
        refine lv_iload hx hb dX1_giftsFrom_162 (lv_at hl 1 rfl) ?_
        exact W.iret (v := i_57) hx hb hr (fun t ht hW => ⟨⟨i_57, (σ_59, ρ_60), rfl, ⟨hB.2.1, hB.2.2, trivial⟩, (show TP D cA L T r σ_59 ρ_60 t.heap from by rw [ht]; exact hB.1)⟩, hS.F ht⟩) hS.2.2 dX1_giftsFrom_164
      · skip
        have uc_63 := i_nge (n := 1) (by decide) c_63
        refine lv_aload_n hx hb dX1_giftsFrom_66 rfl (lv_at hl 4 rfl) ?_
        refine lv_iload_n hx hb dX1_giftsFrom_67 rfl (lv_at hl 5 rfl) ?_
        refine lv_iload hx hb dX1_giftsFrom_68 (lv_at hl 0 rfl) ?_
        refine lv_iload_n hx hb dX1_giftsFrom_70 rfl (lv_at hl 5 rfl) ?_
        refine lv_ishl hx hb dX1_giftsFrom_71 ?_
        refine lv_topi (fun x_64 ex_64 => ?_)
        refine t_ci (va_runV (As := [.int p2, .int x_64]) (rest := []) ⟨hx, hb, hml, hown, hts⟩ (cy_X3_askedAt l D cA L T r hG hLA.1 σ_59 ρ_60 hB.2.1 _ h1 mh1 th1 p2 x_64 (by first | omega | decide) (by first | omega | decide)) (cV hts mv_X3_askedAt mw_5_122 rfl rfl ⟨Nat.le_of_ble_eq_true rfl, Nat.le_of_ble_eq_true rfl⟩) (pV hB.1 hK hN mh1 th1 (show shp cA 3 _ _ _ = .inr (3, Fs3 _ _ _) from rfl) rfl) rfl rfl hl.1 rfl (lv_room (Nat.le_of_ble_eq_true rfl)) dX1_giftsFrom_72 ⟨Nat.le_of_ble_eq_true rfl, Nat.le_of_ble_eq_true rfl⟩) hLA hA hB hS (by decide) (fun x_67 σ_65 ρ_66 H locs hB fσ_65 pσ_65 hS => ?_)
        have qσ_65 := FR.nil fσ_65
        subst qσ_65
        obtain ⟨lx_67, ux_67⟩ := pσ_65
        refine lv_istore (lv' := [(7, .int x_67), (6, .int i_58), (5, .int i_57), (4, .int 1), (0, .ref h0), (1, .ref h1), (2, .int p2), (3, .int p3)]) hx hb dX1_giftsFrom_75 hl (by decide) rfl (fun ls hl => ?_)
        refine lv_aload_n hx hb dX1_giftsFrom_77 rfl (lv_at hl 4 rfl) ?_
        refine t_gr hx hb hts hown hK hG hB mh0 th0 fq_1_5 rfl mw_2_131 dX1_giftsFrom_78 (fun b_68 hb_68 mb_68 tb_68 => ?_)
        refine lv_iload hx hb dX1_giftsFrom_81 (lv_at hl 0 rfl) ?_
        refine t_ai hx hb hK hB mb_68 tb_68 ai_28 (fun _ => rfl) (i_in (by omega) (by omega)) dX1_giftsFrom_83 (fun x_69 ex_69 lx_69 ux_69 => ?_)
        have cx_69 := congrArg Int32.toInt ex_69
        refine lv_if_le (tgt := 156) hx hb dX1_giftsFrom_84 (by decide) (fun c_70 => ?_) (fun c_70 => ?_)
        · skip
          have uc_70 := i_le (n := 0) (by decide) c_70
          obtain ⟨x_71, ex_71⟩ : ∃ y : Int32, y = i_58 + 1 := ⟨_, rfl⟩
          have vx_71 := b_add (rfl : i_58.toInt = _) (by decide : (1 : Int32).toInt = 1) ex_71 (by omega) (by omega)
          refine lv_iinc (v := x_71) (lv' := [(6, .int x_71), (7, .int x_67), (5, .int i_57), (4, .int 1), (0, .ref h0), (1, .ref h1), (2, .int p2), (3, .int p3)]) hx hb dX1_giftsFrom_156 hl (k := 1) rfl (by rw [ex_71]; rfl) (by decide) rfl (fun ls hl => ?_)
          refine lv_goto (tgt := 59) hx hb dX1_giftsFrom_159 (by decide) ?_
          exact ih_61 ⟨i_57, x_71, σ_59, ρ_66⟩ _ _ _ ⟨(by omega), (by omega), k_62, hB, hS, lv_sub hl [0, 2, 3, 4, 5, 6, 7] rfl⟩ (by show (1 - x_71.toInt).toNat < (1 - i_58.toInt).toNat; omega)
        · skip
          have uc_70 := i_nle (n := 0) (by decide) c_70
          refine lv_aload_n hx hb dX1_giftsFrom_87 rfl (lv_at hl 4 rfl) ?_
          refine t_gk hx hb hts hown hK hB mh0 th0 fq_1_5 hb_68 mw_2_131 dX1_giftsFrom_88 ?_
          refine lv_iload hx hb dX1_giftsFrom_91 (lv_at hl 0 rfl) ?_
          refine lv_dup2_11 hx hb dX1_giftsFrom_93 rfl rfl ?_
          refine t_ai hx hb hK hB mb_68 tb_68 ai_28 (fun _ => rfl) (i_in (by omega) (by omega)) dX1_giftsFrom_94 (fun x_72 ex_72 lx_72 ux_72 => ?_)
          have qx_72 : x_72 = x_69 := ex_72.trans ex_69.symm
          have qx_72 := qx_72.symm
          subst qx_72
          refine lv_iconst (v := 1) hx hb dX1_giftsFrom_95 (by decide) ?_
          refine lv_isub hx hb dX1_giftsFrom_96 ?_
          refine lv_topi (fun x_73 ex_73 => ?_)
          have vx_73 := b_sub (rfl : x_69.toInt = _) (by decide : (1 : Int32).toInt = 1) ex_73 (by omega) (by omega)
          refine t_si hx hb hK hLA hB hS mb_68 tb_68 ai_28 (i_in (by omega) (by omega)) (i_lo _) (i_hi _) (Or.inr (by decide)) dX1_giftsFrom_97 (fun H locs σ_74 eσ_74 hB hS => ?_)
          have k_75 : σ_74 b_68 x_67.toNatClampNeg = x_73 := by rw [eσ_74]; exact up2_same _ _ _ _
          refine lv_aload_n hx hb dX1_giftsFrom_98 rfl (lv_at hl 4 rfl) ?_
          refine t_gr hx hb hts hown hK hG hB mh0 th0 fq_1_2 rfl mw_2_127 dX1_giftsFrom_99 (fun b_76 hb_76 mb_76 tb_76 => ?_)
          refine lv_iload_n hx hb dX1_giftsFrom_102 rfl (lv_at hl 6 rfl) ?_
          refine lv_iload hx hb dX1_giftsFrom_103 (lv_at hl 0 rfl) ?_
          refine t_si hx hb hK hLA hB hS mb_76 tb_76 ai_26 (i_in (by omega) (by omega)) (i_lo _) (i_hi _) (Or.inr (by decide)) dX1_giftsFrom_105 (fun H locs σ_77 eσ_77 hB hS => ?_)
          have k_78 : σ_77 b_76 p2.toNatClampNeg = x_67 := by rw [eσ_77]; exact up2_same _ _ _ _
          refine lv_aload_n hx hb dX1_giftsFrom_106 rfl (lv_at hl 4 rfl) ?_
          refine lv_aload_n hx hb dX1_giftsFrom_107 rfl (lv_at hl 5 rfl) ?_
          refine lv_iload_n hx hb dX1_giftsFrom_108 rfl (lv_at hl 6 rfl) ?_
          refine lv_iconst (v := 1) hx hb dX1_giftsFrom_109 (by decide) ?_
          refine lv_iadd hx hb dX1_giftsFrom_110 ?_
          refine lv_topi (fun x_79 ex_79 => ?_)
          have vx_79 := b_add (rfl : p2.toInt = _) (by decide : (1 : Int32).toInt = 1) ex_79 (by omega) (by omega)
          refine lv_iload_n hx hb dX1_giftsFrom_111 rfl (lv_at hl 7 rfl) ?_
          refine lv_iload hx hb dX1_giftsFrom_112 (lv_at hl 2 rfl) ?_
          refine lv_iadd hx hb dX1_giftsFrom_114 ?_
          refine lv_topi (fun x_80 ex_80 => ?_)
          try have vx_80 := b_add (rfl : p3.toInt = _) (rfl : i_57.toInt = _) ex_80 (by omega) (by omega)
          have k_81 : σ_74 h0 8 = (σ h0 8) := by rw [eσ_74, up2_nea _ _ (tg_ne th0 tb_68 (by decide))]; exact k_62
          have k_82 : σ_77 h0 8 = (σ h0 8) := by rw [eσ_77, up2_nea _ _ (tg_ne th0 tb_76 (by decide))]; exact k_81
          refine t_ci (va_runV (As := [.ref h1, .int x_79, .int x_80]) (rest := []) ⟨hx, hb, hml, hown, hts⟩ (cy_X1_giftsFrom_6 l D cA L T r hG hLA.1 σ_77 ρ_66 hB.2.1 _ h0 mh0 th0 h1 mh1 th1 x_79 x_80 (by first | omega | decide) (by first | omega | decide) (by rw [k_82]; omega) (by rw [k_82]; omega)) (cV hts mv_X1_giftsFrom mw_5_118 rfl rfl ⟨Nat.le_of_ble_eq_true rfl, Nat.le_of_ble_eq_true rfl⟩) (pV hB.1 hK hN mh0 th0 (show shp cA 1 _ _ _ = .inr (1, Fs1 _ _ _) from rfl) rfl) rfl rfl hl.1 rfl (lv_room (Nat.le_of_ble_eq_true rfl)) dX1_giftsFrom_115 ⟨Nat.le_of_ble_eq_true rfl, Nat.le_of_ble_eq_true rfl⟩) hLA hA hB hS (by decide) (fun x_85 σ_83 ρ_84 H locs hB fσ_83 pσ_83 hS => ?_)
          refine lv_istore (lv' := [(8, .int x_85), (7, .int x_67), (6, .int i_58), (5, .int i_57), (4, .int 1), (0, .ref h0), (1, .ref h1), (2, .int p2), (3, .int p3)]) hx hb dX1_giftsFrom_118 hl (by decide) rfl (fun ls hl => ?_)
          refine lv_aload_n hx hb dX1_giftsFrom_120 rfl (lv_at hl 5 rfl) ?_
          refine t_gk hx hb hts hown hK hB mh0 th0 fq_1_5 hb_68 mw_2_131 dX1_giftsFrom_121 ?_
          refine lv_iload hx hb dX1_giftsFrom_124 (lv_at hl 1 rfl) ?_
          refine lv_dup2_11 hx hb dX1_giftsFrom_126 rfl rfl ?_
          refine t_ai hx hb hK hB mb_68 tb_68 ai_28 (fun _ => rfl) (i_in (by omega) (by omega)) dX1_giftsFrom_127 (fun x_86 ex_86 lx_86 ux_86 => ?_)
          have cx_86 := congrArg Int32.toInt ex_86
          refine lv_iconst (v := 1) hx hb dX1_giftsFrom_128 (by decide) ?_
          refine lv_iadd hx hb dX1_giftsFrom_129 ?_
          refine lv_topi (fun x_87 ex_87 => ?_)
          try have vx_87 := b_add (rfl : x_86.toInt = _) (by decide : (1 : Int32).toInt = 1) ex_87 (by omega) (by omega)
          refine t_si hx hb hK hLA hB hS mb_68 tb_68 ai_28 (i_in (by omega) (by omega)) (i_lo _) (i_hi _) (Or.inr (by decide)) dX1_giftsFrom_130 (fun H locs σ_88 eσ_88 hB hS => ?_)
          have k_89 : σ_88 b_68 x_67.toNatClampNeg = x_87 := by rw [eσ_88]; exact up2_same _ _ _ _
          refine lv_iload hx hb dX1_giftsFrom_131 (lv_at hl 0 rfl) ?_
          refine lv_if_le (tgt := 149) hx hb dX1_giftsFrom_133 (by decide) (fun c_90 => ?_) (fun c_90 => ?_)
          · skip
            have uc_90 := i_le (n := 0) (by decide) c_90
            refine lv_iload hx hb dX1_giftsFrom_149 (lv_at hl 3 rfl) ?_
            refine lv_iload hx hb dX1_giftsFrom_151 (lv_at hl 0 rfl) ?_
            refine lv_iadd hx hb dX1_giftsFrom_153 ?_
            refine lv_topi (fun x_91 ex_91 => ?_)
            try have vx_91 := b_add (rfl : i_57.toInt = _) (rfl : x_85.toInt = _) ex_91 (by omega) (by omega)
            refine lv_istore (lv' := [(5, .int x_91), (8, .int x_85), (7, .int x_67), (6, .int i_58), (4, .int 1), (0, .ref h0), (1, .ref h1), (2, .int p2), (3, .int p3)]) hx hb dX1_giftsFrom_154 hl (by decide) rfl (fun ls hl => ?_)
            obtain ⟨x_92, ex_92⟩ : ∃ y : Int32, y = i_58 + 1 := ⟨_, rfl⟩
            have vx_92 := b_add (rfl : i_58.toInt = _) (by decide : (1 : Int32).toInt = 1) ex_92 (by omega) (by omega)
            refine lv_iinc (v := x_92) (lv' := [(6, .int x_92), (5, .int x_91), (8, .int x_85), (7, .int x_67), (4, .int 1), (0, .ref h0), (1, .ref h1), (2, .int p2), (3, .int p3)]) hx hb dX1_giftsFrom_156 hl (k := 3) rfl (by rw [ex_92]; rfl) (by decide) rfl (fun ls hl => ?_)
            refine lv_goto (tgt := 59) hx hb dX1_giftsFrom_159 (by decide) ?_
            have k_93 : σ_83 h0 8 = (σ h0 8) := (FR.at fσ_83 th0 (by decide)).trans k_82
            have k_94 : σ_88 h0 8 = (σ h0 8) := by rw [eσ_88, up2_nea _ _ (tg_ne th0 tb_68 (by decide))]; exact k_93
            exact ih_61 ⟨x_91, x_92, σ_88, ρ_84⟩ _ _ _ ⟨(by omega), (by omega), k_94, hB, hS, lv_sub hl [0, 1, 4, 5, 6, 7, 8] rfl⟩ (by show (1 - x_92.toInt).toNat < (1 - i_58.toInt).toNat; omega)
          · skip
            have uc_90 := i_nle (n := 0) (by decide) c_90
            refine lv_aload_n hx hb dX1_giftsFrom_136 rfl (lv_at hl 5 rfl) ?_
            refine t_gr hx hb hts hown hK hG hB mh0 th0 fq_1_6 rfl mw_2_132 dX1_giftsFrom_137 (fun b_95 hb_95 mb_95 tb_95 => ?_)
            refine lv_iload_n hx hb dX1_giftsFrom_140 rfl (lv_at hl 7 rfl) ?_
            refine lv_dup2_11 hx hb dX1_giftsFrom_141 rfl rfl ?_
            refine t_ai hx hb hK hB mb_95 tb_95 ai_29 (fun _ => rfl) (i_in (by omega) (by omega)) dX1_giftsFrom_142 (fun x_96 ex_96 lx_96 ux_96 => ?_)
            have cx_96 := congrArg Int32.toInt ex_96
            refine lv_iconst (v := 1) hx hb dX1_giftsFrom_143 (by decide) ?_
            refine lv_iload hx hb dX1_giftsFrom_144 (lv_at hl 1 rfl) ?_
            refine lv_ishl hx hb dX1_giftsFrom_146 ?_
            refine lv_topi (fun x_97 ex_97 => ?_)
            refine lv_ior hx hb dX1_giftsFrom_147 ?_
            refine lv_topi (fun x_98 ex_98 => ?_)
            refine t_si hx hb hK hLA hB hS mb_95 tb_95 ai_29 (i_in (by omega) (by omega)) (i_lo _) (i_hi _) (Or.inr (by decide)) dX1_giftsFrom_148 (fun H locs σ_99 eσ_99 hB hS => ?_)
            have k_100 : σ_99 b_95 p2.toNatClampNeg = x_98 := by rw [eσ_99]; exact up2_same _ _ _ _
            refine lv_iload hx hb dX1_giftsFrom_149 (lv_at hl 3 rfl) ?_
            refine lv_iload hx hb dX1_giftsFrom_151 (lv_at hl 0 rfl) ?_
            refine lv_iadd hx hb dX1_giftsFrom_153 ?_
            refine lv_topi (fun x_101 ex_101 => ?_)
            try have vx_101 := b_add (rfl : i_57.toInt = _) (rfl : x_85.toInt = _) ex_101 (by omega) (by omega)
            refine lv_istore (lv' := [(5, .int x_101), (8, .int x_85), (7, .int x_67), (6, .int i_58), (4, .int 1), (0, .ref h0), (1, .ref h1), (2, .int p2), (3, .int p3)]) hx hb dX1_giftsFrom_154 hl (by decide) rfl (fun ls hl => ?_)
            obtain ⟨x_102, ex_102⟩ : ∃ y : Int32, y = i_58 + 1 := ⟨_, rfl⟩
            have vx_102 := b_add (rfl : i_58.toInt = _) (by decide : (1 : Int32).toInt = 1) ex_102 (by omega) (by omega)
            refine lv_iinc (v := x_102) (lv' := [(6, .int x_102), (5, .int x_101), (8, .int x_85), (7, .int x_67), (4, .int 1), (0, .ref h0), (1, .ref h1), (2, .int p2), (3, .int p3)]) hx hb dX1_giftsFrom_156 hl (k := 3) rfl (by rw [ex_102]; rfl) (by decide) rfl (fun ls hl => ?_)
            refine lv_goto (tgt := 59) hx hb dX1_giftsFrom_159 (by decide) ?_
            have k_103 : σ_83 h0 8 = (σ h0 8) := (FR.at fσ_83 th0 (by decide)).trans k_82
            have k_104 : σ_88 h0 8 = (σ h0 8) := by rw [eσ_88, up2_nea _ _ (tg_ne th0 tb_68 (by decide))]; exact k_103
            have k_105 : σ_99 h0 8 = (σ h0 8) := by rw [eσ_99, up2_nea _ _ (tg_ne th0 tb_95 (by decide))]; exact k_104
            exact ih_61 ⟨x_101, x_102, σ_99, ρ_84⟩ _ _ _ ⟨(by omega), (by omega), k_105, hB, hS, lv_sub hl [0, 1, 4, 5, 6, 7, 8] rfl⟩ (by show (1 - x_102.toInt).toNat < (1 - i_58.toInt).toNat; omega)
  · skip
    have uc_2 := j_nlt c_2
    refine lv_iload_n hx hb dX1_giftsFrom_8 rfl (lv_at hl 3 rfl) ?_
    refine lv_if_ne (tgt := 29) hx hb dX1_giftsFrom_9 (by decide) (fun c_106 => ?_) (fun c_106 => ?_)
    · skip
      have uc_106 := i_ne (n := 0) (by decide) c_106
      refine lv_iconst (v := 1) hx hb dX1_giftsFrom_29 (by decide) ?_
      exact W.iret (v := 1) hx hb hr (fun t ht hW => ⟨⟨1, (σ, ρ), rfl, ⟨hB.2.1, hB.2.2, trivial⟩, (show TP D cA L T r σ ρ t.heap from by rw [ht]; exact hB.1)⟩, hS.F ht⟩) hS.2.2 dX1_giftsFrom_30
    · skip
      have uc_106 := i_eq (n := 0) (by decide) c_106
      refine lv_aload_n hx hb dX1_giftsFrom_12 rfl (lv_at hl 0 rfl) ?_
      refine t_gr hx hb hts hown hK hG hB mh0 th0 fq_1_2 rfl mw_2_127 dX1_giftsFrom_13 (fun b_107 hb_107 mb_107 tb_107 => ?_)
      refine lv_iconst (v := 0) hx hb dX1_giftsFrom_16 (by decide) ?_
      refine lv_aload_n hx hb dX1_giftsFrom_17 rfl (lv_at hl 0 rfl) ?_
      refine t_gr hx hb hts hown hK hG hB mh0 th0 fq_1_7 rfl mw_2_134 dX1_giftsFrom_18 (fun b_108 hb_108 mb_108 tb_108 => ?_)
      refine lv_iconst (v := 0) hx hb dX1_giftsFrom_21 (by decide) ?_
      refine lv_aload_n hx hb dX1_giftsFrom_22 rfl (lv_at hl 0 rfl) ?_
      refine t_gv hx hb hts hown hK hB mh0 th0 fi_1_8 rfl mw_2_136 dX1_giftsFrom_23 ?_
      refine t_cp (lo := (-2147483648)) (hi := 2147483647) hx hb (hml.trans hl.1.symm) hts hown mw_5_84 ⟨mw_3_239, mw_3_238, mw_1_20⟩ hK hLA hB hS mb_107 tb_107 ai_26 mb_108 tb_108 ai_30 (fun _ => ⟨show ((-2147483648) : Int) ≤ (-2147483648) by decide, show (2147483647 : Int) ≤ 2147483647 by decide⟩) (fun _ => rfl) (by decide) (by decide) (by decide) (a_nn (by omega)) (a_cp (by decide) (by omega)) (a_cp (by decide) (by omega)) (Nat.le_of_ble_eq_true rfl) (Nat.le_of_ble_eq_true rfl) dX1_giftsFrom_26 (fun H locs σ_109 eσ_109 hB hS => ?_)
      refine lv_iconst (v := 1) hx hb dX1_giftsFrom_29 (by decide) ?_
      exact W.iret (v := 1) hx hb hr (fun t ht hW => ⟨⟨1, (σ_109, ρ), rfl, ⟨hB.2.1, hB.2.2, trivial⟩, (show TP D cA L T r σ_109 ρ t.heap from by rw [ht]; exact hB.1)⟩, hS.F ht⟩) hS.2.2 dX1_giftsFrom_30
set_option maxHeartbeats 4000000 in
set_option maxRecDepth 100000 in
theorem cy_X1_giftsFrom_8 (l : Launch) (D : va_G) (cA : Nat → ClassId) (L : List Nat) (T : Nat → Nat) (r : Rg) (hG : GR L T r) (hL : L.Nodup) (σ : Sg) (ρ : Lg) (hW : WT L ry T σ) (sz : Nat) (h0 : Nat) (mh0 : h0 ∈ L) (th0 : T h0 = 1) (h1 : Nat) (mh1 : h1 ∈ L) (th1 : T h1 = 3) (p2 : Int32) (p3 : Int32) (w0 : 0 ≤ p2.toInt) (w1 : p2.toInt ≤ 8) (w2 : 0 ≤ (σ h0 8).toInt) (w3 : (σ h0 8).toInt ≤ 8) : Met l yX1_giftsFrom (.code yX1_giftsFrom cX1_giftsFrom 9 (some .int) :: wsA) ({ frames := 9, cells := 0, slots := 0, locals := 324 }) (PR D cA L T r σ ρ sz [.ref h0, .ref h1, .int p2, .int p3]) (QI D cA L T r ry [(26, 1000), (28, 1000), (29, 1000), (30, 1000)] σ sz (fun x σ1 => True)) 0 0 (dm L sz) := by
  refine Met.ofW (cc := cX1_giftsFrom) (maxL := 9) (ret := (some .int)) (by decide) rfl ?_
  intro p e s m args below meth c s₁ B hml hv
  obtain ⟨rfl, hsz, hP, hK, hN⟩ := hv
  have hx := B.exec
  have hb := B.bytes
  have hr := B.returns
  have hts : ∀ w ∈ wsA, w.before _ s = true := fun w h => atoms_spec (ws := .code yX1_giftsFrom cX1_giftsFrom 9 (some .int) :: wsA) B.pre w (List.mem_cons_of_mem _ h)
  have hown : s.vm.findClass RX1 = some m.cls := findClass_of_methodNamed B.named
  subst hsz
  have hLA : LA (dm L s.heap.size) L := ⟨hL, fun a h => Or.inl h⟩
  have hA : ∀ q : Nat, s.heap.size ≤ q → dm L s.heap.size q := fun q h => Or.inr h
  have hS : va_S (dm L s.heap.size) s.heap s.heap [] := va_S.rf
  have hB : TS D cA L T r ry [(26, 1000), (28, 1000), (29, 1000), (30, 1000)] σ σ ρ s.heap := ⟨hP, hW, FR.rf⟩
  have hl := lv_entry ([.ref h0, .ref h1, .int p2, .int p3]) (n := 9) (Nat.le_of_ble_eq_true rfl)
  rw [lg_entry_eq]
  generalize (lg_sl ([.ref h0, .ref h1, .int p2, .int p3]) ++ List.replicate (9 - (lg_sl ([.ref h0, .ref h1, .int p2, .int p3])).length) Slot.unset).toArray = ls at hl ⊢
  have hl : lv_has ls 9 [(0, .ref h0), (1, .ref h1), (2, .int p2), (3, .int p3)] := hl
  have w_1 : (-2147483648) ≤ (σ h0 8).toInt ∧ (σ h0 8).toInt ≤ 2147483647 := by have z := hB.2.1 h0 mh0 8; rw [th0] at z; exact z
  refine lv_iload_n hx hb dX1_giftsFrom_0 rfl (lv_at hl 2 rfl) ?_
  refine lv_aload_n hx hb dX1_giftsFrom_1 rfl (lv_at hl 0 rfl) ?_
  refine t_gv hx hb hts hown hK hB mh0 th0 fi_1_8 rfl mw_2_136 dX1_giftsFrom_2 ?_
  refine lv_icmp_lt (tgt := 31) hx hb dX1_giftsFrom_5 (by decide) (fun c_2 => ?_) (fun c_2 => ?_)
  · skip
    have uc_2 := j_lt c_2
    refine lv_aload_n hx hb dX1_giftsFrom_31 rfl (lv_at hl 1 rfl) ?_
    refine t_gr hx hb hts hown hK hG hB mh1 th1 fq_3_3 rfl mw_1_149 dX1_giftsFrom_32 (fun b_3 hb_3 mb_3 tb_3 => ?_)
    refine lv_iload_n hx hb dX1_giftsFrom_35 rfl (lv_at hl 2 rfl) ?_
    refine t_ai hx hb hK hB mb_3 tb_3 ai_36 (fun _ => rfl) (i_in (by omega) (by omega)) dX1_giftsFrom_36 (fun x_4 ex_4 lx_4 ux_4 => ?_)
    have cx_4 := congrArg Int32.toInt ex_4
    refine lv_aload_n hx hb dX1_giftsFrom_37 rfl (lv_at hl 1 rfl) ?_
    refine t_gr hx hb hts hown hK hG hB mh1 th1 fq_3_4 rfl mw_1_155 dX1_giftsFrom_38 (fun b_5 hb_5 mb_5 tb_5 => ?_)
    refine lv_iload_n hx hb dX1_giftsFrom_41 rfl (lv_at hl 2 rfl) ?_
    refine t_ai hx hb hK hB mb_5 tb_5 ai_37 (fun _ => rfl) (i_in (by omega) (by omega)) dX1_giftsFrom_42 (fun x_6 ex_6 lx_6 ux_6 => ?_)
    have cx_6 := congrArg Int32.toInt ex_6
    refine lv_icmp_ne (tgt := 50) hx hb dX1_giftsFrom_43 (by decide) (fun c_7 => ?_) (fun c_7 => ?_)
    · skip
      have uc_7 := j_ne c_7
      refine lv_iconst (v := 2) hx hb dX1_giftsFrom_50 (by decide) ?_
      refine lv_istore (lv' := [(4, .int 2), (0, .ref h0), (1, .ref h1), (2, .int p2), (3, .int p3)]) hx hb dX1_giftsFrom_51 hl (by decide) rfl (fun ls hl => ?_)
      refine lv_iconst (v := 0) hx hb dX1_giftsFrom_53 (by decide) ?_
      refine lv_istore (lv' := [(5, .int 0), (4, .int 2), (0, .ref h0), (1, .ref h1), (2, .int p2), (3, .int p3)]) hx hb dX1_giftsFrom_54 hl (by decide) rfl (fun ls hl => ?_)
      refine lv_iconst (v := 0) hx hb dX1_giftsFrom_56 (by decide) ?_
      refine lv_istore (lv' := [(6, .int 0), (5, .int 0), (4, .int 2), (0, .ref h0), (1, .ref h1), (2, .int p2), (3, .int p3)]) hx hb dX1_giftsFrom_57 hl (by decide) rfl (fun ls hl => ?_)
      refine w_loop (α := Int32 × Int32 × Sg × Lg) (fun (i_8, i_9, σ_10, ρ_11) H locs ls => 0 ≤ i_9.toInt ∧ i_9.toInt ≤ 2 ∧ σ_10 h0 8 = (σ h0 8) ∧ TS D cA L T r ry [(26, 1000), (28, 1000), (29, 1000), (30, 1000)] σ σ_10 ρ_11 H ∧ va_S (dm L s.heap.size) s.heap H locs ∧ lv_has ls 9 [(6, .int i_9), (5, .int i_8), (4, .int 2), (0, .ref h0), (1, .ref h1), (2, .int p2), (3, .int p3)]) (fun (i_8, i_9, σ_10, ρ_11) => (2 - i_9.toInt).toNat) ?_ ⟨0, 0, σ, ρ⟩ ⟨(by decide), (by decide), rfl, hB, hS, lv_sub hl [0, 1, 2, 3, 4, 5, 6] rfl⟩
      rintro ⟨i_8, i_9, σ_10, ρ_11⟩ H locs ls ⟨li_9, ui_9, k_13, hB, hS, hl⟩ ih_12
      refine lv_iload hx hb dX1_giftsFrom_59 (lv_at hl 0 rfl) ?_
      refine lv_iload hx hb dX1_giftsFrom_61 (lv_at hl 2 rfl) ?_
      refine lv_icmp_ge (tgt := 162) hx hb dX1_giftsFrom_63 (by decide) (fun c_14 => ?_) (fun c_14 => ?_)
      · skip
        have uc_14 := i_ge (n := 2) (by decide) c_14
        refine lv_iload hx hb dX1_giftsFrom_162 (lv_at hl 1 rfl) ?_
        exact W.iret (v := i_8) hx hb hr (fun t ht hW => ⟨⟨i_8, (σ_10, ρ_11), rfl, ⟨hB.2.1, hB.2.2, trivial⟩, (show TP D cA L T r σ_10 ρ_11 t.heap from by rw [ht]; exact hB.1)⟩, hS.F ht⟩) hS.2.2 dX1_giftsFrom_164
      · skip
        have uc_14 := i_nge (n := 2) (by decide) c_14
        refine lv_aload_n hx hb dX1_giftsFrom_66 rfl (lv_at hl 4 rfl) ?_
        refine lv_iload_n hx hb dX1_giftsFrom_67 rfl (lv_at hl 5 rfl) ?_
        refine lv_iload hx hb dX1_giftsFrom_68 (lv_at hl 0 rfl) ?_
        refine lv_iload_n hx hb dX1_giftsFrom_70 rfl (lv_at hl 5 rfl) ?_
        refine lv_ishl hx hb dX1_giftsFrom_71 ?_
        refine lv_topi (fun x_15 ex_15 => ?_)
        refine t_ci (va_runV (As := [.int p2, .int x_15]) (rest := []) ⟨hx, hb, hml, hown, hts⟩ (cy_X3_askedAt l D cA L T r hG hLA.1 σ_10 ρ_11 hB.2.1 _ h1 mh1 th1 p2 x_15 (by first | omega | decide) (by first | omega | decide)) (cV hts mv_X3_askedAt mw_5_122 rfl rfl ⟨Nat.le_of_ble_eq_true rfl, Nat.le_of_ble_eq_true rfl⟩) (pV hB.1 hK hN mh1 th1 (show shp cA 3 _ _ _ = .inr (3, Fs3 _ _ _) from rfl) rfl) rfl rfl hl.1 rfl (lv_room (Nat.le_of_ble_eq_true rfl)) dX1_giftsFrom_72 ⟨Nat.le_of_ble_eq_true rfl, Nat.le_of_ble_eq_true rfl⟩) hLA hA hB hS (by decide) (fun x_18 σ_16 ρ_17 H locs hB fσ_16 pσ_16 hS => ?_)
        have qσ_16 := FR.nil fσ_16
        subst qσ_16
        obtain ⟨lx_18, ux_18⟩ := pσ_16
        refine lv_istore (lv' := [(7, .int x_18), (6, .int i_9), (5, .int i_8), (4, .int 2), (0, .ref h0), (1, .ref h1), (2, .int p2), (3, .int p3)]) hx hb dX1_giftsFrom_75 hl (by decide) rfl (fun ls hl => ?_)
        refine lv_aload_n hx hb dX1_giftsFrom_77 rfl (lv_at hl 4 rfl) ?_
        refine t_gr hx hb hts hown hK hG hB mh0 th0 fq_1_5 rfl mw_2_131 dX1_giftsFrom_78 (fun b_19 hb_19 mb_19 tb_19 => ?_)
        refine lv_iload hx hb dX1_giftsFrom_81 (lv_at hl 0 rfl) ?_
        refine t_ai hx hb hK hB mb_19 tb_19 ai_28 (fun _ => rfl) (i_in (by omega) (by omega)) dX1_giftsFrom_83 (fun x_20 ex_20 lx_20 ux_20 => ?_)
        have cx_20 := congrArg Int32.toInt ex_20
        refine lv_if_le (tgt := 156) hx hb dX1_giftsFrom_84 (by decide) (fun c_21 => ?_) (fun c_21 => ?_)
        · skip
          have uc_21 := i_le (n := 0) (by decide) c_21
          obtain ⟨x_22, ex_22⟩ : ∃ y : Int32, y = i_9 + 1 := ⟨_, rfl⟩
          have vx_22 := b_add (rfl : i_9.toInt = _) (by decide : (1 : Int32).toInt = 1) ex_22 (by omega) (by omega)
          refine lv_iinc (v := x_22) (lv' := [(6, .int x_22), (7, .int x_18), (5, .int i_8), (4, .int 2), (0, .ref h0), (1, .ref h1), (2, .int p2), (3, .int p3)]) hx hb dX1_giftsFrom_156 hl (k := 1) rfl (by rw [ex_22]; rfl) (by decide) rfl (fun ls hl => ?_)
          refine lv_goto (tgt := 59) hx hb dX1_giftsFrom_159 (by decide) ?_
          exact ih_12 ⟨i_8, x_22, σ_10, ρ_17⟩ _ _ _ ⟨(by omega), (by omega), k_13, hB, hS, lv_sub hl [0, 2, 3, 4, 5, 6, 7] rfl⟩ (by show (2 - x_22.toInt).toNat < (2 - i_9.toInt).toNat; omega)
        · skip
          have uc_21 := i_nle (n := 0) (by decide) c_21
          refine lv_aload_n hx hb dX1_giftsFrom_87 rfl (lv_at hl 4 rfl) ?_
          refine t_gk hx hb hts hown hK hB mh0 th0 fq_1_5 hb_19 mw_2_131 dX1_giftsFrom_88 ?_
          refine lv_iload hx hb dX1_giftsFrom_91 (lv_at hl 0 rfl) ?_
          refine lv_dup2_11 hx hb dX1_giftsFrom_93 rfl rfl ?_
          refine t_ai hx hb hK hB mb_19 tb_19 ai_28 (fun _ => rfl) (i_in (by omega) (by omega)) dX1_giftsFrom_94 (fun x_23 ex_23 lx_23 ux_23 => ?_)
          have qx_23 : x_23 = x_20 := ex_23.trans ex_20.symm
          have qx_23 := qx_23.symm
          subst qx_23
          refine lv_iconst (v := 1) hx hb dX1_giftsFrom_95 (by decide) ?_
          refine lv_isub hx hb dX1_giftsFrom_96 ?_
          refine lv_topi (fun x_24 ex_24 => ?_)
          have vx_24 := b_sub (rfl : x_20.toInt = _) (by decide : (1 : Int32).toInt = 1) ex_24 (by omega) (by omega)
          refine t_si hx hb hK hLA hB hS mb_19 tb_19 ai_28 (i_in (by omega) (by omega)) (i_lo _) (i_hi _) (Or.inr (by decide)) dX1_giftsFrom_97 (fun H locs σ_25 eσ_25 hB hS => ?_)
          have k_26 : σ_25 b_19 x_18.toNatClampNeg = x_24 := by rw [eσ_25]; exact up2_same _ _ _ _
          refine lv_aload_n hx hb dX1_giftsFrom_98 rfl (lv_at hl 4 rfl) ?_
          refine t_gr hx hb hts hown hK hG hB mh0 th0 fq_1_2 rfl mw_2_127 dX1_giftsFrom_99 (fun b_27 hb_27 mb_27 tb_27 => ?_)
          refine lv_iload_n hx hb dX1_giftsFrom_102 rfl (lv_at hl 6 rfl) ?_
          refine lv_iload hx hb dX1_giftsFrom_103 (lv_at hl 0 rfl) ?_
          refine t_si hx hb hK hLA hB hS mb_27 tb_27 ai_26 (i_in (by omega) (by omega)) (i_lo _) (i_hi _) (Or.inr (by decide)) dX1_giftsFrom_105 (fun H locs σ_28 eσ_28 hB hS => ?_)
          have k_29 : σ_28 b_27 p2.toNatClampNeg = x_18 := by rw [eσ_28]; exact up2_same _ _ _ _
          refine lv_aload_n hx hb dX1_giftsFrom_106 rfl (lv_at hl 4 rfl) ?_
          refine lv_aload_n hx hb dX1_giftsFrom_107 rfl (lv_at hl 5 rfl) ?_
          refine lv_iload_n hx hb dX1_giftsFrom_108 rfl (lv_at hl 6 rfl) ?_
          refine lv_iconst (v := 1) hx hb dX1_giftsFrom_109 (by decide) ?_
          refine lv_iadd hx hb dX1_giftsFrom_110 ?_
          refine lv_topi (fun x_30 ex_30 => ?_)
          have vx_30 := b_add (rfl : p2.toInt = _) (by decide : (1 : Int32).toInt = 1) ex_30 (by omega) (by omega)
          refine lv_iload_n hx hb dX1_giftsFrom_111 rfl (lv_at hl 7 rfl) ?_
          refine lv_iload hx hb dX1_giftsFrom_112 (lv_at hl 2 rfl) ?_
          refine lv_iadd hx hb dX1_giftsFrom_114 ?_
          refine lv_topi (fun x_31 ex_31 => ?_)
          try have vx_31 := b_add (rfl : p3.toInt = _) (rfl : i_8.toInt = _) ex_31 (by omega) (by omega)
          have k_32 : σ_25 h0 8 = (σ h0 8) := by rw [eσ_25, up2_nea _ _ (tg_ne th0 tb_19 (by decide))]; exact k_13
          have k_33 : σ_28 h0 8 = (σ h0 8) := by rw [eσ_28, up2_nea _ _ (tg_ne th0 tb_27 (by decide))]; exact k_32
          refine t_ci (va_runV (As := [.ref h1, .int x_30, .int x_31]) (rest := []) ⟨hx, hb, hml, hown, hts⟩ (cy_X1_giftsFrom_7 l D cA L T r hG hLA.1 σ_28 ρ_17 hB.2.1 _ h0 mh0 th0 h1 mh1 th1 x_30 x_31 (by first | omega | decide) (by first | omega | decide) (by rw [k_33]; omega) (by rw [k_33]; omega)) (cV hts mv_X1_giftsFrom mw_5_118 rfl rfl ⟨Nat.le_of_ble_eq_true rfl, Nat.le_of_ble_eq_true rfl⟩) (pV hB.1 hK hN mh0 th0 (show shp cA 1 _ _ _ = .inr (1, Fs1 _ _ _) from rfl) rfl) rfl rfl hl.1 rfl (lv_room (Nat.le_of_ble_eq_true rfl)) dX1_giftsFrom_115 ⟨Nat.le_of_ble_eq_true rfl, Nat.le_of_ble_eq_true rfl⟩) hLA hA hB hS (by decide) (fun x_36 σ_34 ρ_35 H locs hB fσ_34 pσ_34 hS => ?_)
          refine lv_istore (lv' := [(8, .int x_36), (7, .int x_18), (6, .int i_9), (5, .int i_8), (4, .int 2), (0, .ref h0), (1, .ref h1), (2, .int p2), (3, .int p3)]) hx hb dX1_giftsFrom_118 hl (by decide) rfl (fun ls hl => ?_)
          refine lv_aload_n hx hb dX1_giftsFrom_120 rfl (lv_at hl 5 rfl) ?_
          refine t_gk hx hb hts hown hK hB mh0 th0 fq_1_5 hb_19 mw_2_131 dX1_giftsFrom_121 ?_
          refine lv_iload hx hb dX1_giftsFrom_124 (lv_at hl 1 rfl) ?_
          refine lv_dup2_11 hx hb dX1_giftsFrom_126 rfl rfl ?_
          refine t_ai hx hb hK hB mb_19 tb_19 ai_28 (fun _ => rfl) (i_in (by omega) (by omega)) dX1_giftsFrom_127 (fun x_37 ex_37 lx_37 ux_37 => ?_)
          have cx_37 := congrArg Int32.toInt ex_37
          refine lv_iconst (v := 1) hx hb dX1_giftsFrom_128 (by decide) ?_
          refine lv_iadd hx hb dX1_giftsFrom_129 ?_
          refine lv_topi (fun x_38 ex_38 => ?_)
          try have vx_38 := b_add (rfl : x_37.toInt = _) (by decide : (1 : Int32).toInt = 1) ex_38 (by omega) (by omega)
          refine t_si hx hb hK hLA hB hS mb_19 tb_19 ai_28 (i_in (by omega) (by omega)) (i_lo _) (i_hi _) (Or.inr (by decide)) dX1_giftsFrom_130 (fun H locs σ_39 eσ_39 hB hS => ?_)
          have k_40 : σ_39 b_19 x_18.toNatClampNeg = x_38 := by rw [eσ_39]; exact up2_same _ _ _ _
          refine lv_iload hx hb dX1_giftsFrom_131 (lv_at hl 0 rfl) ?_
          refine lv_if_le (tgt := 149) hx hb dX1_giftsFrom_133 (by decide) (fun c_41 => ?_) (fun c_41 => ?_)
          · skip
            have uc_41 := i_le (n := 0) (by decide) c_41
            refine lv_iload hx hb dX1_giftsFrom_149 (lv_at hl 3 rfl) ?_
            refine lv_iload hx hb dX1_giftsFrom_151 (lv_at hl 0 rfl) ?_
            refine lv_iadd hx hb dX1_giftsFrom_153 ?_
            refine lv_topi (fun x_42 ex_42 => ?_)
            try have vx_42 := b_add (rfl : i_8.toInt = _) (rfl : x_36.toInt = _) ex_42 (by omega) (by omega)
            refine lv_istore (lv' := [(5, .int x_42), (8, .int x_36), (7, .int x_18), (6, .int i_9), (4, .int 2), (0, .ref h0), (1, .ref h1), (2, .int p2), (3, .int p3)]) hx hb dX1_giftsFrom_154 hl (by decide) rfl (fun ls hl => ?_)
            obtain ⟨x_43, ex_43⟩ : ∃ y : Int32, y = i_9 + 1 := ⟨_, rfl⟩
            have vx_43 := b_add (rfl : i_9.toInt = _) (by decide : (1 : Int32).toInt = 1) ex_43 (by omega) (by omega)
            refine lv_iinc (v := x_43) (lv' := [(6, .int x_43), (5, .int x_42), (8, .int x_36), (7, .int x_18), (4, .int 2), (0, .ref h0), (1, .ref h1), (2, .int p2), (3, .int p3)]) hx hb dX1_giftsFrom_156 hl (k := 3) rfl (by rw [ex_43]; rfl) (by decide) rfl (fun ls hl => ?_)
            refine lv_goto (tgt := 59) hx hb dX1_giftsFrom_159 (by decide) ?_
            have k_44 : σ_34 h0 8 = (σ h0 8) := (FR.at fσ_34 th0 (by decide)).trans k_33
            have k_45 : σ_39 h0 8 = (σ h0 8) := by rw [eσ_39, up2_nea _ _ (tg_ne th0 tb_19 (by decide))]; exact k_44
            exact ih_12 ⟨x_42, x_43, σ_39, ρ_35⟩ _ _ _ ⟨(by omega), (by omega), k_45, hB, hS, lv_sub hl [0, 1, 4, 5, 6, 7, 8] rfl⟩ (by show (2 - x_43.toInt).toNat < (2 - i_9.toInt).toNat; omega)
          · skip
            have uc_41 := i_nle (n := 0) (by decide) c_41
            refine lv_aload_n hx hb dX1_giftsFrom_136 rfl (lv_at hl 5 rfl) ?_
            refine t_gr hx hb hts hown hK hG hB mh0 th0 fq_1_6 rfl mw_2_132 dX1_giftsFrom_137 (fun b_46 hb_46 mb_46 tb_46 => ?_)
            refine lv_iload_n hx hb dX1_giftsFrom_140 rfl (lv_at hl 7 rfl) ?_
            refine lv_dup2_11 hx hb dX1_giftsFrom_141 rfl rfl ?_
            refine t_ai hx hb hK hB mb_46 tb_46 ai_29 (fun _ => rfl) (i_in (by omega) (by omega)) dX1_giftsFrom_142 (fun x_47 ex_47 lx_47 ux_47 => ?_)
            have cx_47 := congrArg Int32.toInt ex_47
            refine lv_iconst (v := 1) hx hb dX1_giftsFrom_143 (by decide) ?_
            refine lv_iload hx hb dX1_giftsFrom_144 (lv_at hl 1 rfl) ?_
            refine lv_ishl hx hb dX1_giftsFrom_146 ?_
            refine lv_topi (fun x_48 ex_48 => ?_)
            refine lv_ior hx hb dX1_giftsFrom_147 ?_
            refine lv_topi (fun x_49 ex_49 => ?_)
            refine t_si hx hb hK hLA hB hS mb_46 tb_46 ai_29 (i_in (by omega) (by omega)) (i_lo _) (i_hi _) (Or.inr (by decide)) dX1_giftsFrom_148 (fun H locs σ_50 eσ_50 hB hS => ?_)
            have k_51 : σ_50 b_46 p2.toNatClampNeg = x_49 := by rw [eσ_50]; exact up2_same _ _ _ _
            refine lv_iload hx hb dX1_giftsFrom_149 (lv_at hl 3 rfl) ?_
            refine lv_iload hx hb dX1_giftsFrom_151 (lv_at hl 0 rfl) ?_
            refine lv_iadd hx hb dX1_giftsFrom_153 ?_
            refine lv_topi (fun x_52 ex_52 => ?_)
            try have vx_52 := b_add (rfl : i_8.toInt = _) (rfl : x_36.toInt = _) ex_52 (by omega) (by omega)
            refine lv_istore (lv' := [(5, .int x_52), (8, .int x_36), (7, .int x_18), (6, .int i_9), (4, .int 2), (0, .ref h0), (1, .ref h1), (2, .int p2), (3, .int p3)]) hx hb dX1_giftsFrom_154 hl (by decide) rfl (fun ls hl => ?_)
            obtain ⟨x_53, ex_53⟩ : ∃ y : Int32, y = i_9 + 1 := ⟨_, rfl⟩
            have vx_53 := b_add (rfl : i_9.toInt = _) (by decide : (1 : Int32).toInt = 1) ex_53 (by omega) (by omega)
            refine lv_iinc (v := x_53) (lv' := [(6, .int x_53), (5, .int x_52), (8, .int x_36), (7, .int x_18), (4, .int 2), (0, .ref h0), (1, .ref h1), (2, .int p2), (3, .int p3)]) hx hb dX1_giftsFrom_156 hl (k := 3) rfl (by rw [ex_53]; rfl) (by decide) rfl (fun ls hl => ?_)
            refine lv_goto (tgt := 59) hx hb dX1_giftsFrom_159 (by decide) ?_
            have k_54 : σ_34 h0 8 = (σ h0 8) := (FR.at fσ_34 th0 (by decide)).trans k_33
            have k_55 : σ_39 h0 8 = (σ h0 8) := by rw [eσ_39, up2_nea _ _ (tg_ne th0 tb_19 (by decide))]; exact k_54
            have k_56 : σ_50 h0 8 = (σ h0 8) := by rw [eσ_50, up2_nea _ _ (tg_ne th0 tb_46 (by decide))]; exact k_55
            exact ih_12 ⟨x_52, x_53, σ_50, ρ_35⟩ _ _ _ ⟨(by omega), (by omega), k_56, hB, hS, lv_sub hl [0, 1, 4, 5, 6, 7, 8] rfl⟩ (by show (2 - x_53.toInt).toNat < (2 - i_9.toInt).toNat; omega)
    · skip
      have uc_7 := j_eq c_7
      refine lv_iconst (v := 1) hx hb dX1_giftsFrom_46 (by decide) ?_
      refine lv_goto (tgt := 51) hx hb dX1_giftsFrom_47 (by decide) ?_
      refine lv_istore (lv' := [(4, .int 1), (0, .ref h0), (1, .ref h1), (2, .int p2), (3, .int p3)]) hx hb dX1_giftsFrom_51 hl (by decide) rfl (fun ls hl => ?_)
      refine lv_iconst (v := 0) hx hb dX1_giftsFrom_53 (by decide) ?_
      refine lv_istore (lv' := [(5, .int 0), (4, .int 1), (0, .ref h0), (1, .ref h1), (2, .int p2), (3, .int p3)]) hx hb dX1_giftsFrom_54 hl (by decide) rfl (fun ls hl => ?_)
      refine lv_iconst (v := 0) hx hb dX1_giftsFrom_56 (by decide) ?_
      refine lv_istore (lv' := [(6, .int 0), (5, .int 0), (4, .int 1), (0, .ref h0), (1, .ref h1), (2, .int p2), (3, .int p3)]) hx hb dX1_giftsFrom_57 hl (by decide) rfl (fun ls hl => ?_)
      refine w_loop (α := Int32 × Int32 × Sg × Lg) (fun (i_57, i_58, σ_59, ρ_60) H locs ls => 0 ≤ i_58.toInt ∧ i_58.toInt ≤ 1 ∧ σ_59 h0 8 = (σ h0 8) ∧ TS D cA L T r ry [(26, 1000), (28, 1000), (29, 1000), (30, 1000)] σ σ_59 ρ_60 H ∧ va_S (dm L s.heap.size) s.heap H locs ∧ lv_has ls 9 [(6, .int i_58), (5, .int i_57), (4, .int 1), (0, .ref h0), (1, .ref h1), (2, .int p2), (3, .int p3)]) (fun (i_57, i_58, σ_59, ρ_60) => (1 - i_58.toInt).toNat) ?_ ⟨0, 0, σ, ρ⟩ ⟨(by decide), (by decide), rfl, hB, hS, lv_sub hl [0, 1, 2, 3, 4, 5, 6] rfl⟩
      rintro ⟨i_57, i_58, σ_59, ρ_60⟩ H locs ls ⟨li_58, ui_58, k_62, hB, hS, hl⟩ ih_61
      refine lv_iload hx hb dX1_giftsFrom_59 (lv_at hl 0 rfl) ?_
      refine lv_iload hx hb dX1_giftsFrom_61 (lv_at hl 2 rfl) ?_
      refine lv_icmp_ge (tgt := 162) hx hb dX1_giftsFrom_63 (by decide) (fun c_63 => ?_) (fun c_63 => ?_)
      · skip
        have uc_63 := i_ge (n := 1) (by decide) c_63
        refine lv_iload hx hb dX1_giftsFrom_162 (lv_at hl 1 rfl) ?_
        exact W.iret (v := i_57) hx hb hr (fun t ht hW => ⟨⟨i_57, (σ_59, ρ_60), rfl, ⟨hB.2.1, hB.2.2, trivial⟩, (show TP D cA L T r σ_59 ρ_60 t.heap from by rw [ht]; exact hB.1)⟩, hS.F ht⟩) hS.2.2 dX1_giftsFrom_164
      · skip
        have uc_63 := i_nge (n := 1) (by decide) c_63
        refine lv_aload_n hx hb dX1_giftsFrom_66 rfl (lv_at hl 4 rfl) ?_
        refine lv_iload_n hx hb dX1_giftsFrom_67 rfl (lv_at hl 5 rfl) ?_
        refine lv_iload hx hb dX1_giftsFrom_68 (lv_at hl 0 rfl) ?_
        refine lv_iload_n hx hb dX1_giftsFrom_70 rfl (lv_at hl 5 rfl) ?_
        refine lv_ishl hx hb dX1_giftsFrom_71 ?_
        refine lv_topi (fun x_64 ex_64 => ?_)
        refine t_ci (va_runV (As := [.int p2, .int x_64]) (rest := []) ⟨hx, hb, hml, hown, hts⟩ (cy_X3_askedAt l D cA L T r hG hLA.1 σ_59 ρ_60 hB.2.1 _ h1 mh1 th1 p2 x_64 (by first | omega | decide) (by first | omega | decide)) (cV hts mv_X3_askedAt mw_5_122 rfl rfl ⟨Nat.le_of_ble_eq_true rfl, Nat.le_of_ble_eq_true rfl⟩) (pV hB.1 hK hN mh1 th1 (show shp cA 3 _ _ _ = .inr (3, Fs3 _ _ _) from rfl) rfl) rfl rfl hl.1 rfl (lv_room (Nat.le_of_ble_eq_true rfl)) dX1_giftsFrom_72 ⟨Nat.le_of_ble_eq_true rfl, Nat.le_of_ble_eq_true rfl⟩) hLA hA hB hS (by decide) (fun x_67 σ_65 ρ_66 H locs hB fσ_65 pσ_65 hS => ?_)
        have qσ_65 := FR.nil fσ_65
        subst qσ_65
        obtain ⟨lx_67, ux_67⟩ := pσ_65
        refine lv_istore (lv' := [(7, .int x_67), (6, .int i_58), (5, .int i_57), (4, .int 1), (0, .ref h0), (1, .ref h1), (2, .int p2), (3, .int p3)]) hx hb dX1_giftsFrom_75 hl (by decide) rfl (fun ls hl => ?_)
        refine lv_aload_n hx hb dX1_giftsFrom_77 rfl (lv_at hl 4 rfl) ?_
        refine t_gr hx hb hts hown hK hG hB mh0 th0 fq_1_5 rfl mw_2_131 dX1_giftsFrom_78 (fun b_68 hb_68 mb_68 tb_68 => ?_)
        refine lv_iload hx hb dX1_giftsFrom_81 (lv_at hl 0 rfl) ?_
        refine t_ai hx hb hK hB mb_68 tb_68 ai_28 (fun _ => rfl) (i_in (by omega) (by omega)) dX1_giftsFrom_83 (fun x_69 ex_69 lx_69 ux_69 => ?_)
        have cx_69 := congrArg Int32.toInt ex_69
        refine lv_if_le (tgt := 156) hx hb dX1_giftsFrom_84 (by decide) (fun c_70 => ?_) (fun c_70 => ?_)
        · skip
          have uc_70 := i_le (n := 0) (by decide) c_70
          obtain ⟨x_71, ex_71⟩ : ∃ y : Int32, y = i_58 + 1 := ⟨_, rfl⟩
          have vx_71 := b_add (rfl : i_58.toInt = _) (by decide : (1 : Int32).toInt = 1) ex_71 (by omega) (by omega)
          refine lv_iinc (v := x_71) (lv' := [(6, .int x_71), (7, .int x_67), (5, .int i_57), (4, .int 1), (0, .ref h0), (1, .ref h1), (2, .int p2), (3, .int p3)]) hx hb dX1_giftsFrom_156 hl (k := 1) rfl (by rw [ex_71]; rfl) (by decide) rfl (fun ls hl => ?_)
          refine lv_goto (tgt := 59) hx hb dX1_giftsFrom_159 (by decide) ?_
          exact ih_61 ⟨i_57, x_71, σ_59, ρ_66⟩ _ _ _ ⟨(by omega), (by omega), k_62, hB, hS, lv_sub hl [0, 2, 3, 4, 5, 6, 7] rfl⟩ (by show (1 - x_71.toInt).toNat < (1 - i_58.toInt).toNat; omega)
        · skip
          have uc_70 := i_nle (n := 0) (by decide) c_70
          refine lv_aload_n hx hb dX1_giftsFrom_87 rfl (lv_at hl 4 rfl) ?_
          refine t_gk hx hb hts hown hK hB mh0 th0 fq_1_5 hb_68 mw_2_131 dX1_giftsFrom_88 ?_
          refine lv_iload hx hb dX1_giftsFrom_91 (lv_at hl 0 rfl) ?_
          refine lv_dup2_11 hx hb dX1_giftsFrom_93 rfl rfl ?_
          refine t_ai hx hb hK hB mb_68 tb_68 ai_28 (fun _ => rfl) (i_in (by omega) (by omega)) dX1_giftsFrom_94 (fun x_72 ex_72 lx_72 ux_72 => ?_)
          have qx_72 : x_72 = x_69 := ex_72.trans ex_69.symm
          have qx_72 := qx_72.symm
          subst qx_72
          refine lv_iconst (v := 1) hx hb dX1_giftsFrom_95 (by decide) ?_
          refine lv_isub hx hb dX1_giftsFrom_96 ?_
          refine lv_topi (fun x_73 ex_73 => ?_)
          have vx_73 := b_sub (rfl : x_69.toInt = _) (by decide : (1 : Int32).toInt = 1) ex_73 (by omega) (by omega)
          refine t_si hx hb hK hLA hB hS mb_68 tb_68 ai_28 (i_in (by omega) (by omega)) (i_lo _) (i_hi _) (Or.inr (by decide)) dX1_giftsFrom_97 (fun H locs σ_74 eσ_74 hB hS => ?_)
          have k_75 : σ_74 b_68 x_67.toNatClampNeg = x_73 := by rw [eσ_74]; exact up2_same _ _ _ _
          refine lv_aload_n hx hb dX1_giftsFrom_98 rfl (lv_at hl 4 rfl) ?_
          refine t_gr hx hb hts hown hK hG hB mh0 th0 fq_1_2 rfl mw_2_127 dX1_giftsFrom_99 (fun b_76 hb_76 mb_76 tb_76 => ?_)
          refine lv_iload_n hx hb dX1_giftsFrom_102 rfl (lv_at hl 6 rfl) ?_
          refine lv_iload hx hb dX1_giftsFrom_103 (lv_at hl 0 rfl) ?_
          refine t_si hx hb hK hLA hB hS mb_76 tb_76 ai_26 (i_in (by omega) (by omega)) (i_lo _) (i_hi _) (Or.inr (by decide)) dX1_giftsFrom_105 (fun H locs σ_77 eσ_77 hB hS => ?_)
          have k_78 : σ_77 b_76 p2.toNatClampNeg = x_67 := by rw [eσ_77]; exact up2_same _ _ _ _
          refine lv_aload_n hx hb dX1_giftsFrom_106 rfl (lv_at hl 4 rfl) ?_
          refine lv_aload_n hx hb dX1_giftsFrom_107 rfl (lv_at hl 5 rfl) ?_
          refine lv_iload_n hx hb dX1_giftsFrom_108 rfl (lv_at hl 6 rfl) ?_
          refine lv_iconst (v := 1) hx hb dX1_giftsFrom_109 (by decide) ?_
          refine lv_iadd hx hb dX1_giftsFrom_110 ?_
          refine lv_topi (fun x_79 ex_79 => ?_)
          have vx_79 := b_add (rfl : p2.toInt = _) (by decide : (1 : Int32).toInt = 1) ex_79 (by omega) (by omega)
          refine lv_iload_n hx hb dX1_giftsFrom_111 rfl (lv_at hl 7 rfl) ?_
          refine lv_iload hx hb dX1_giftsFrom_112 (lv_at hl 2 rfl) ?_
          refine lv_iadd hx hb dX1_giftsFrom_114 ?_
          refine lv_topi (fun x_80 ex_80 => ?_)
          try have vx_80 := b_add (rfl : p3.toInt = _) (rfl : i_57.toInt = _) ex_80 (by omega) (by omega)
          have k_81 : σ_74 h0 8 = (σ h0 8) := by rw [eσ_74, up2_nea _ _ (tg_ne th0 tb_68 (by decide))]; exact k_62
          have k_82 : σ_77 h0 8 = (σ h0 8) := by rw [eσ_77, up2_nea _ _ (tg_ne th0 tb_76 (by decide))]; exact k_81
          refine t_ci (va_runV (As := [.ref h1, .int x_79, .int x_80]) (rest := []) ⟨hx, hb, hml, hown, hts⟩ (cy_X1_giftsFrom_7 l D cA L T r hG hLA.1 σ_77 ρ_66 hB.2.1 _ h0 mh0 th0 h1 mh1 th1 x_79 x_80 (by first | omega | decide) (by first | omega | decide) (by rw [k_82]; omega) (by rw [k_82]; omega)) (cV hts mv_X1_giftsFrom mw_5_118 rfl rfl ⟨Nat.le_of_ble_eq_true rfl, Nat.le_of_ble_eq_true rfl⟩) (pV hB.1 hK hN mh0 th0 (show shp cA 1 _ _ _ = .inr (1, Fs1 _ _ _) from rfl) rfl) rfl rfl hl.1 rfl (lv_room (Nat.le_of_ble_eq_true rfl)) dX1_giftsFrom_115 ⟨Nat.le_of_ble_eq_true rfl, Nat.le_of_ble_eq_true rfl⟩) hLA hA hB hS (by decide) (fun x_85 σ_83 ρ_84 H locs hB fσ_83 pσ_83 hS => ?_)
          refine lv_istore (lv' := [(8, .int x_85), (7, .int x_67), (6, .int i_58), (5, .int i_57), (4, .int 1), (0, .ref h0), (1, .ref h1), (2, .int p2), (3, .int p3)]) hx hb dX1_giftsFrom_118 hl (by decide) rfl (fun ls hl => ?_)
          refine lv_aload_n hx hb dX1_giftsFrom_120 rfl (lv_at hl 5 rfl) ?_
          refine t_gk hx hb hts hown hK hB mh0 th0 fq_1_5 hb_68 mw_2_131 dX1_giftsFrom_121 ?_
          refine lv_iload hx hb dX1_giftsFrom_124 (lv_at hl 1 rfl) ?_
          refine lv_dup2_11 hx hb dX1_giftsFrom_126 rfl rfl ?_
          refine t_ai hx hb hK hB mb_68 tb_68 ai_28 (fun _ => rfl) (i_in (by omega) (by omega)) dX1_giftsFrom_127 (fun x_86 ex_86 lx_86 ux_86 => ?_)
          have cx_86 := congrArg Int32.toInt ex_86
          refine lv_iconst (v := 1) hx hb dX1_giftsFrom_128 (by decide) ?_
          refine lv_iadd hx hb dX1_giftsFrom_129 ?_
          refine lv_topi (fun x_87 ex_87 => ?_)
          try have vx_87 := b_add (rfl : x_86.toInt = _) (by decide : (1 : Int32).toInt = 1) ex_87 (by omega) (by omega)
          refine t_si hx hb hK hLA hB hS mb_68 tb_68 ai_28 (i_in (by omega) (by omega)) (i_lo _) (i_hi _) (Or.inr (by decide)) dX1_giftsFrom_130 (fun H locs σ_88 eσ_88 hB hS => ?_)
          have k_89 : σ_88 b_68 x_67.toNatClampNeg = x_87 := by rw [eσ_88]; exact up2_same _ _ _ _
          refine lv_iload hx hb dX1_giftsFrom_131 (lv_at hl 0 rfl) ?_
          refine lv_if_le (tgt := 149) hx hb dX1_giftsFrom_133 (by decide) (fun c_90 => ?_) (fun c_90 => ?_)
          · skip
            have uc_90 := i_le (n := 0) (by decide) c_90
            refine lv_iload hx hb dX1_giftsFrom_149 (lv_at hl 3 rfl) ?_
            refine lv_iload hx hb dX1_giftsFrom_151 (lv_at hl 0 rfl) ?_
            refine lv_iadd hx hb dX1_giftsFrom_153 ?_
            refine lv_topi (fun x_91 ex_91 => ?_)
            try have vx_91 := b_add (rfl : i_57.toInt = _) (rfl : x_85.toInt = _) ex_91 (by omega) (by omega)
            refine lv_istore (lv' := [(5, .int x_91), (8, .int x_85), (7, .int x_67), (6, .int i_58), (4, .int 1), (0, .ref h0), (1, .ref h1), (2, .int p2), (3, .int p3)]) hx hb dX1_giftsFrom_154 hl (by decide) rfl (fun ls hl => ?_)
            obtain ⟨x_92, ex_92⟩ : ∃ y : Int32, y = i_58 + 1 := ⟨_, rfl⟩
            have vx_92 := b_add (rfl : i_58.toInt = _) (by decide : (1 : Int32).toInt = 1) ex_92 (by omega) (by omega)
            refine lv_iinc (v := x_92) (lv' := [(6, .int x_92), (5, .int x_91), (8, .int x_85), (7, .int x_67), (4, .int 1), (0, .ref h0), (1, .ref h1), (2, .int p2), (3, .int p3)]) hx hb dX1_giftsFrom_156 hl (k := 3) rfl (by rw [ex_92]; rfl) (by decide) rfl (fun ls hl => ?_)
            refine lv_goto (tgt := 59) hx hb dX1_giftsFrom_159 (by decide) ?_
            have k_93 : σ_83 h0 8 = (σ h0 8) := (FR.at fσ_83 th0 (by decide)).trans k_82
            have k_94 : σ_88 h0 8 = (σ h0 8) := by rw [eσ_88, up2_nea _ _ (tg_ne th0 tb_68 (by decide))]; exact k_93
            exact ih_61 ⟨x_91, x_92, σ_88, ρ_84⟩ _ _ _ ⟨(by omega), (by omega), k_94, hB, hS, lv_sub hl [0, 1, 4, 5, 6, 7, 8] rfl⟩ (by show (1 - x_92.toInt).toNat < (1 - i_58.toInt).toNat; omega)
          · skip
            have uc_90 := i_nle (n := 0) (by decide) c_90
            refine lv_aload_n hx hb dX1_giftsFrom_136 rfl (lv_at hl 5 rfl) ?_
            refine t_gr hx hb hts hown hK hG hB mh0 th0 fq_1_6 rfl mw_2_132 dX1_giftsFrom_137 (fun b_95 hb_95 mb_95 tb_95 => ?_)
            refine lv_iload_n hx hb dX1_giftsFrom_140 rfl (lv_at hl 7 rfl) ?_
            refine lv_dup2_11 hx hb dX1_giftsFrom_141 rfl rfl ?_
            refine t_ai hx hb hK hB mb_95 tb_95 ai_29 (fun _ => rfl) (i_in (by omega) (by omega)) dX1_giftsFrom_142 (fun x_96 ex_96 lx_96 ux_96 => ?_)
            have cx_96 := congrArg Int32.toInt ex_96
            refine lv_iconst (v := 1) hx hb dX1_giftsFrom_143 (by decide) ?_
            refine lv_iload hx hb dX1_giftsFrom_144 (lv_at hl 1 rfl) ?_
            refine lv_ishl hx hb dX1_giftsFrom_146 ?_
            refine lv_topi (fun x_97 ex_97 => ?_)
            refine lv_ior hx hb dX1_giftsFrom_147 ?_
            refine lv_topi (fun x_98 ex_98 => ?_)
            refine t_si hx hb hK hLA hB hS mb_95 tb_95 ai_29 (i_in (by omega) (by omega)) (i_lo _) (i_hi _) (Or.inr (by decide)) dX1_giftsFrom_148 (fun H locs σ_99 eσ_99 hB hS => ?_)
            have k_100 : σ_99 b_95 p2.toNatClampNeg = x_98 := by rw [eσ_99]; exact up2_same _ _ _ _
            refine lv_iload hx hb dX1_giftsFrom_149 (lv_at hl 3 rfl) ?_
            refine lv_iload hx hb dX1_giftsFrom_151 (lv_at hl 0 rfl) ?_
            refine lv_iadd hx hb dX1_giftsFrom_153 ?_
            refine lv_topi (fun x_101 ex_101 => ?_)
            try have vx_101 := b_add (rfl : i_57.toInt = _) (rfl : x_85.toInt = _) ex_101 (by omega) (by omega)
            refine lv_istore (lv' := [(5, .int x_101), (8, .int x_85), (7, .int x_67), (6, .int i_58), (4, .int 1), (0, .ref h0), (1, .ref h1), (2, .int p2), (3, .int p3)]) hx hb dX1_giftsFrom_154 hl (by decide) rfl (fun ls hl => ?_)
            obtain ⟨x_102, ex_102⟩ : ∃ y : Int32, y = i_58 + 1 := ⟨_, rfl⟩
            have vx_102 := b_add (rfl : i_58.toInt = _) (by decide : (1 : Int32).toInt = 1) ex_102 (by omega) (by omega)
            refine lv_iinc (v := x_102) (lv' := [(6, .int x_102), (5, .int x_101), (8, .int x_85), (7, .int x_67), (4, .int 1), (0, .ref h0), (1, .ref h1), (2, .int p2), (3, .int p3)]) hx hb dX1_giftsFrom_156 hl (k := 3) rfl (by rw [ex_102]; rfl) (by decide) rfl (fun ls hl => ?_)
            refine lv_goto (tgt := 59) hx hb dX1_giftsFrom_159 (by decide) ?_
            have k_103 : σ_83 h0 8 = (σ h0 8) := (FR.at fσ_83 th0 (by decide)).trans k_82
            have k_104 : σ_88 h0 8 = (σ h0 8) := by rw [eσ_88, up2_nea _ _ (tg_ne th0 tb_68 (by decide))]; exact k_103
            have k_105 : σ_99 h0 8 = (σ h0 8) := by rw [eσ_99, up2_nea _ _ (tg_ne th0 tb_95 (by decide))]; exact k_104
            exact ih_61 ⟨x_101, x_102, σ_99, ρ_84⟩ _ _ _ ⟨(by omega), (by omega), k_105, hB, hS, lv_sub hl [0, 1, 4, 5, 6, 7, 8] rfl⟩ (by show (1 - x_102.toInt).toNat < (1 - i_58.toInt).toNat; omega)
  · skip
    have uc_2 := j_nlt c_2
    refine lv_iload_n hx hb dX1_giftsFrom_8 rfl (lv_at hl 3 rfl) ?_
    refine lv_if_ne (tgt := 29) hx hb dX1_giftsFrom_9 (by decide) (fun c_106 => ?_) (fun c_106 => ?_)
    · skip
      have uc_106 := i_ne (n := 0) (by decide) c_106
      refine lv_iconst (v := 1) hx hb dX1_giftsFrom_29 (by decide) ?_
      exact W.iret (v := 1) hx hb hr (fun t ht hW => ⟨⟨1, (σ, ρ), rfl, ⟨hB.2.1, hB.2.2, trivial⟩, (show TP D cA L T r σ ρ t.heap from by rw [ht]; exact hB.1)⟩, hS.F ht⟩) hS.2.2 dX1_giftsFrom_30
    · skip
      have uc_106 := i_eq (n := 0) (by decide) c_106
      refine lv_aload_n hx hb dX1_giftsFrom_12 rfl (lv_at hl 0 rfl) ?_
      refine t_gr hx hb hts hown hK hG hB mh0 th0 fq_1_2 rfl mw_2_127 dX1_giftsFrom_13 (fun b_107 hb_107 mb_107 tb_107 => ?_)
      refine lv_iconst (v := 0) hx hb dX1_giftsFrom_16 (by decide) ?_
      refine lv_aload_n hx hb dX1_giftsFrom_17 rfl (lv_at hl 0 rfl) ?_
      refine t_gr hx hb hts hown hK hG hB mh0 th0 fq_1_7 rfl mw_2_134 dX1_giftsFrom_18 (fun b_108 hb_108 mb_108 tb_108 => ?_)
      refine lv_iconst (v := 0) hx hb dX1_giftsFrom_21 (by decide) ?_
      refine lv_aload_n hx hb dX1_giftsFrom_22 rfl (lv_at hl 0 rfl) ?_
      refine t_gv hx hb hts hown hK hB mh0 th0 fi_1_8 rfl mw_2_136 dX1_giftsFrom_23 ?_
      refine t_cp (lo := (-2147483648)) (hi := 2147483647) hx hb (hml.trans hl.1.symm) hts hown mw_5_84 ⟨mw_3_239, mw_3_238, mw_1_20⟩ hK hLA hB hS mb_107 tb_107 ai_26 mb_108 tb_108 ai_30 (fun _ => ⟨show ((-2147483648) : Int) ≤ (-2147483648) by decide, show (2147483647 : Int) ≤ 2147483647 by decide⟩) (fun _ => rfl) (by decide) (by decide) (by decide) (a_nn (by omega)) (a_cp (by decide) (by omega)) (a_cp (by decide) (by omega)) (Nat.le_of_ble_eq_true rfl) (Nat.le_of_ble_eq_true rfl) dX1_giftsFrom_26 (fun H locs σ_109 eσ_109 hB hS => ?_)
      refine lv_iconst (v := 1) hx hb dX1_giftsFrom_29 (by decide) ?_
      exact W.iret (v := 1) hx hb hr (fun t ht hW => ⟨⟨1, (σ_109, ρ), rfl, ⟨hB.2.1, hB.2.2, trivial⟩, (show TP D cA L T r σ_109 ρ t.heap from by rw [ht]; exact hB.1)⟩, hS.F ht⟩) hS.2.2 dX1_giftsFrom_30
theorem mw_1_184 : (.fieldLink RX1 101 "HillBends$Hill" "bends" "I" : Cond) ∈ wsA := wsA_t (List.mem_append_left _ (List.mem_of_getElem? (l := tables_1_1) (i := 184) rfl)) rfl
theorem dX1_countGifts_0 : decode cX1_countGifts 0 = .ok (.aload_n 0, 1) := by decide +kernel
theorem dX1_countGifts_1 : decode cX1_countGifts 1 = .ok (.iconst 0, 1) := by decide +kernel
theorem dX1_countGifts_2 : decode cX1_countGifts 2 = .ok (.putfield 98, 3) := by decide +kernel
theorem dX1_countGifts_5 : decode cX1_countGifts 5 = .ok (.iconst 0, 1) := by decide +kernel
theorem dX1_countGifts_6 : decode cX1_countGifts 6 = .ok (.istore_n 3, 1) := by decide +kernel
theorem dX1_countGifts_7 : decode cX1_countGifts 7 = .ok (.iload_n 3, 1) := by decide +kernel
theorem dX1_countGifts_8 : decode cX1_countGifts 8 = .ok (.iconst 5, 1) := by decide +kernel
theorem dX1_countGifts_9 : decode cX1_countGifts 9 = .ok (.if_icmp .ge 30, 3) := by decide +kernel
theorem dX1_countGifts_39 : decode cX1_countGifts 39 = .ok (.iconst 0, 1) := by decide +kernel
theorem dX1_countGifts_40 : decode cX1_countGifts 40 = .ok (.istore_n 3, 1) := by decide +kernel
theorem dX1_countGifts_41 : decode cX1_countGifts 41 = .ok (.iload_n 3, 1) := by decide +kernel
theorem dX1_countGifts_42 : decode cX1_countGifts 42 = .ok (.bipush 8, 2) := by decide +kernel
theorem dX1_countGifts_44 : decode cX1_countGifts 44 = .ok (.if_icmp .ge 24, 3) := by decide +kernel
theorem dX1_countGifts_68 : decode cX1_countGifts 68 = .ok (.aload_n 0, 1) := by decide +kernel
theorem dX1_countGifts_69 : decode cX1_countGifts 69 = .ok (.getfield 98, 3) := by decide +kernel
theorem dX1_countGifts_72 : decode cX1_countGifts 72 = .ok (.aload_n 1, 1) := by decide +kernel
theorem dX1_countGifts_73 : decode cX1_countGifts 73 = .ok (.getfield 101, 3) := by decide +kernel
theorem dX1_countGifts_76 : decode cX1_countGifts 76 = .ok (.if_icmp .le 7, 3) := by decide +kernel
theorem dX1_countGifts_83 : decode cX1_countGifts 83 = .ok (.aload_n 0, 1) := by decide +kernel
theorem dX1_countGifts_84 : decode cX1_countGifts 84 = .ok (.aload_n 1, 1) := by decide +kernel
theorem dX1_countGifts_85 : decode cX1_countGifts 85 = .ok (.iconst 0, 1) := by decide +kernel
theorem dX1_countGifts_86 : decode cX1_countGifts 86 = .ok (.iconst 0, 1) := by decide +kernel
theorem dX1_countGifts_87 : decode cX1_countGifts 87 = .ok (.invokevirtual 104, 3) := by decide +kernel
theorem dX1_countGifts_90 : decode cX1_countGifts 90 = .ok (.ireturn, 1) := by decide +kernel
theorem dX1_countGifts_79 : decode cX1_countGifts 79 = .ok (.iconst 0, 1) := by decide +kernel
theorem dX1_countGifts_80 : decode cX1_countGifts 80 = .ok (.goto 10, 3) := by decide +kernel
theorem dX1_countGifts_47 : decode cX1_countGifts 47 = .ok (.aload_n 0, 1) := by decide +kernel
theorem dX1_countGifts_48 : decode cX1_countGifts 48 = .ok (.getfield 27, 3) := by decide +kernel
theorem dX1_countGifts_51 : decode cX1_countGifts 51 = .ok (.iload_n 3, 1) := by decide +kernel
theorem dX1_countGifts_52 : decode cX1_countGifts 52 = .ok (.iconst 0, 1) := by decide +kernel
theorem dX1_countGifts_53 : decode cX1_countGifts 53 = .ok (.iastore, 1) := by decide +kernel
theorem dX1_countGifts_54 : decode cX1_countGifts 54 = .ok (.aload_n 0, 1) := by decide +kernel
theorem dX1_countGifts_55 : decode cX1_countGifts 55 = .ok (.getfield 30, 3) := by decide +kernel
theorem dX1_countGifts_58 : decode cX1_countGifts 58 = .ok (.iload_n 3, 1) := by decide +kernel
theorem dX1_countGifts_59 : decode cX1_countGifts 59 = .ok (.bipush (-2), 2) := by decide +kernel
theorem dX1_countGifts_61 : decode cX1_countGifts 61 = .ok (.iastore, 1) := by decide +kernel
theorem dX1_countGifts_62 : decode cX1_countGifts 62 = .ok (.iinc 3 1, 3) := by decide +kernel
theorem dX1_countGifts_65 : decode cX1_countGifts 65 = .ok (.goto (-24), 3) := by decide +kernel
theorem dX1_countGifts_12 : decode cX1_countGifts 12 = .ok (.aload_n 0, 1) := by decide +kernel
theorem dX1_countGifts_13 : decode cX1_countGifts 13 = .ok (.getfield 24, 3) := by decide +kernel
theorem dX1_countGifts_16 : decode cX1_countGifts 16 = .ok (.iload_n 3, 1) := by decide +kernel
theorem dX1_countGifts_17 : decode cX1_countGifts 17 = .ok (.aload_n 2, 1) := by decide +kernel
theorem dX1_countGifts_18 : decode cX1_countGifts 18 = .ok (.iload_n 3, 1) := by decide +kernel
theorem dX1_countGifts_19 : decode cX1_countGifts 19 = .ok (.iaload, 1) := by decide +kernel
theorem dX1_countGifts_20 : decode cX1_countGifts 20 = .ok (.iastore, 1) := by decide +kernel
theorem dX1_countGifts_21 : decode cX1_countGifts 21 = .ok (.aload_n 0, 1) := by decide +kernel
theorem dX1_countGifts_22 : decode cX1_countGifts 22 = .ok (.dup, 1) := by decide +kernel
theorem dX1_countGifts_23 : decode cX1_countGifts 23 = .ok (.getfield 98, 3) := by decide +kernel
theorem dX1_countGifts_26 : decode cX1_countGifts 26 = .ok (.aload_n 2, 1) := by decide +kernel
theorem dX1_countGifts_27 : decode cX1_countGifts 27 = .ok (.iload_n 3, 1) := by decide +kernel
theorem dX1_countGifts_28 : decode cX1_countGifts 28 = .ok (.iaload, 1) := by decide +kernel
theorem dX1_countGifts_29 : decode cX1_countGifts 29 = .ok (.iadd, 1) := by decide +kernel
theorem dX1_countGifts_30 : decode cX1_countGifts 30 = .ok (.putfield 98, 3) := by decide +kernel
theorem dX1_countGifts_33 : decode cX1_countGifts 33 = .ok (.iinc 3 1, 3) := by decide +kernel
theorem dX1_countGifts_36 : decode cX1_countGifts 36 = .ok (.goto (-29), 3) := by decide +kernel
set_option maxHeartbeats 4000000 in
set_option maxRecDepth 100000 in
theorem cy_X1_countGifts (l : Launch) (D : va_G) (cA : Nat → ClassId) (L : List Nat) (T : Nat → Nat) (r : Rg) (hG : GR L T r) (hL : L.Nodup) (σ : Sg) (ρ : Lg) (hW : WT L ry T σ) (sz : Nat) (h0 : Nat) (mh0 : h0 ∈ L) (th0 : T h0 = 1) (h1 : Nat) (mh1 : h1 ∈ L) (th1 : T h1 = 3) (h2 : Nat) (mh2 : h2 ∈ L) (th2 : T h2 = 55) : Met l yX1_countGifts (.code yX1_countGifts cX1_countGifts 4 (some .int) :: wsA) ({ frames := 10, cells := 0, slots := 0, locals := 352 }) (PR D cA L T r σ ρ sz [.ref h0, .ref h1, .ref h2]) (QI D cA L T r ry [(1, 8), (26, 1000), (28, 1000), (29, 1000), (30, 1000)] σ sz (fun x σ1 => True)) 0 0 (dm L sz) := by
  refine Met.ofW (cc := cX1_countGifts) (maxL := 4) (ret := (some .int)) (by decide) rfl ?_
  intro p e s m args below meth c s₁ B hml hv
  obtain ⟨rfl, hsz, hP, hK, hN⟩ := hv
  have hx := B.exec
  have hb := B.bytes
  have hr := B.returns
  have hts : ∀ w ∈ wsA, w.before _ s = true := fun w h => atoms_spec (ws := .code yX1_countGifts cX1_countGifts 4 (some .int) :: wsA) B.pre w (List.mem_cons_of_mem _ h)
  have hown : s.vm.findClass RX1 = some m.cls := findClass_of_methodNamed B.named
  subst hsz
  have hLA : LA (dm L s.heap.size) L := ⟨hL, fun a h => Or.inl h⟩
  have hA : ∀ q : Nat, s.heap.size ≤ q → dm L s.heap.size q := fun q h => Or.inr h
  have hS : va_S (dm L s.heap.size) s.heap s.heap [] := va_S.rf
  have hB : TS D cA L T r ry [(1, 8), (26, 1000), (28, 1000), (29, 1000), (30, 1000)] σ σ ρ s.heap := ⟨hP, hW, FR.rf⟩
  have hl := lv_entry ([.ref h0, .ref h1, .ref h2]) (n := 4) (Nat.le_of_ble_eq_true rfl)
  rw [lg_entry_eq]
  generalize (lg_sl ([.ref h0, .ref h1, .ref h2]) ++ List.replicate (4 - (lg_sl ([.ref h0, .ref h1, .ref h2])).length) Slot.unset).toArray = ls at hl ⊢
  have hl : lv_has ls 4 [(0, .ref h0), (1, .ref h1), (2, .ref h2)] := hl
  refine lv_aload_n hx hb dX1_countGifts_0 rfl (lv_at hl 0 rfl) ?_
  refine lv_iconst (v := 0) hx hb dX1_countGifts_1 (by decide) ?_
  refine t_pi hx hb hts hown hK hLA hB hS mh0 th0 fi_1_8 rfl rfl rfl (i_lo _) (i_hi _) (Or.inl (by decide)) mw_2_136 dX1_countGifts_2 (fun H locs σ_1 eσ_1 hB hS => ?_)
  have k_2 : σ_1 h0 8 = 0 := by rw [eσ_1]; exact up2_same _ _ _ _
  refine lv_iconst (v := 0) hx hb dX1_countGifts_5 (by decide) ?_
  refine lv_istore_n (lv' := [(3, .int 0), (0, .ref h0), (1, .ref h1), (2, .ref h2)]) hx hb dX1_countGifts_6 rfl hl (by decide) rfl (fun ls hl => ?_)
  refine w_loop (α := Int32 × Sg × Lg) (fun (i_3, σ_4, ρ_5) H locs ls => 0 ≤ i_3.toInt ∧ i_3.toInt ≤ 5 ∧ (0 ≤ (σ_4 h0 8).toInt ∧ (σ_4 h0 8).toInt ≤ 9 * i_3.toInt) ∧ TS D cA L T r ry [(1, 8), (26, 1000), (28, 1000), (29, 1000), (30, 1000)] σ σ_4 ρ_5 H ∧ va_S (dm L s.heap.size) s.heap H locs ∧ lv_has ls 4 [(3, .int i_3), (0, .ref h0), (1, .ref h1), (2, .ref h2)]) (fun (i_3, σ_4, ρ_5) => (5 - i_3.toInt).toNat) ?_ ⟨0, σ_1, ρ⟩ ⟨(by decide), (by decide), (by rw [k_2]; first | decide | omega), hB, hS, lv_sub hl [0, 1, 2, 3] rfl⟩
  rintro ⟨i_3, σ_4, ρ_5⟩ H locs ls ⟨li_3, ui_3, g_7, hB, hS, hl⟩ ih_6
  have w_8 : (-2147483648) ≤ (σ_4 h0 8).toInt ∧ (σ_4 h0 8).toInt ≤ 2147483647 := by have z := hB.2.1 h0 mh0 8; rw [th0] at z; exact z
  refine lv_iload_n hx hb dX1_countGifts_7 rfl (lv_at hl 0 rfl) ?_
  refine lv_iconst (v := 5) hx hb dX1_countGifts_8 (by decide) ?_
  refine lv_icmp_ge (tgt := 39) hx hb dX1_countGifts_9 (by decide) (fun c_9 => ?_) (fun c_9 => ?_)
  · skip
    have uc_9 := i_ge (n := 5) (by decide) c_9
    refine lv_iconst (v := 0) hx hb dX1_countGifts_39 (by decide) ?_
    refine lv_istore_n (lv' := [(3, .int 0), (0, .ref h0), (1, .ref h1), (2, .ref h2)]) hx hb dX1_countGifts_40 rfl hl (by decide) rfl (fun ls hl => ?_)
    refine w_loop (α := Int32 × Sg × Lg) (fun (i_10, σ_11, ρ_12) H locs ls => 0 ≤ i_10.toInt ∧ i_10.toInt ≤ 8 ∧ σ_11 h0 8 = (σ_4 h0 8) ∧ (0 ≤ (σ_11 h0 8).toInt ∧ (σ_11 h0 8).toInt ≤ 45) ∧ TS D cA L T r ry [(1, 8), (26, 1000), (28, 1000), (29, 1000), (30, 1000)] σ σ_11 ρ_12 H ∧ va_S (dm L s.heap.size) s.heap H locs ∧ lv_has ls 4 [(3, .int i_10), (0, .ref h0), (1, .ref h1), (2, .ref h2)]) (fun (i_10, σ_11, ρ_12) => (8 - i_10.toInt).toNat) ?_ ⟨0, σ_4, ρ_5⟩ ⟨(by decide), (by decide), rfl, (by omega), hB, hS, lv_sub hl [0, 1, 2, 3] rfl⟩
    rintro ⟨i_10, σ_11, ρ_12⟩ H locs ls ⟨li_10, ui_10, k_14, g_15, hB, hS, hl⟩ ih_13
    refine lv_iload_n hx hb dX1_countGifts_41 rfl (lv_at hl 0 rfl) ?_
    refine lv_bipush (v := 8) hx hb dX1_countGifts_42 (by decide) ?_
    refine lv_icmp_ge (tgt := 68) hx hb dX1_countGifts_44 (by decide) (fun c_16 => ?_) (fun c_16 => ?_)
    · skip
      have uc_16 := i_ge (n := 8) (by decide) c_16
      refine lv_aload_n hx hb dX1_countGifts_68 rfl (lv_at hl 1 rfl) ?_
      refine t_gv hx hb hts hown hK hB mh0 th0 fi_1_8 k_14 mw_2_136 dX1_countGifts_69 ?_
      refine lv_aload_n hx hb dX1_countGifts_72 rfl (lv_at hl 2 rfl) ?_
      refine t_gi hx hb hts hown hK hB mh1 th1 fi_3_9 rfl mw_1_184 dX1_countGifts_73 (fun x_17 ex_17 lx_17 ux_17 => ?_)
      have cx_17 := congrArg Int32.toInt ex_17
      refine lv_icmp_le (tgt := 83) hx hb dX1_countGifts_76 (by decide) (fun c_18 => ?_) (fun c_18 => ?_)
      · skip
        have uc_18 := j_le c_18
        refine lv_aload_n hx hb dX1_countGifts_83 rfl (lv_at hl 1 rfl) ?_
        refine lv_aload_n hx hb dX1_countGifts_84 rfl (lv_at hl 2 rfl) ?_
        refine lv_iconst (v := 0) hx hb dX1_countGifts_85 (by decide) ?_
        refine lv_iconst (v := 0) hx hb dX1_countGifts_86 (by decide) ?_
        refine t_ci (va_runV (As := [.ref h1, .int 0, .int 0]) (rest := []) ⟨hx, hb, hml, hown, hts⟩ (cy_X1_giftsFrom_8 l D cA L T r hG hLA.1 σ_11 ρ_12 hB.2.1 _ h0 mh0 th0 h1 mh1 th1 0 0 (by first | omega | decide) (by first | omega | decide) (by rw [k_14]; omega) (by rw [k_14]; omega)) (cV hts mv_X1_giftsFrom mw_5_118 rfl rfl ⟨Nat.le_of_ble_eq_true rfl, Nat.le_of_ble_eq_true rfl⟩) (pV hB.1 hK hN mh0 th0 (show shp cA 1 _ _ _ = .inr (1, Fs1 _ _ _) from rfl) rfl) rfl rfl hl.1 rfl (lv_room (Nat.le_of_ble_eq_true rfl)) dX1_countGifts_87 ⟨Nat.le_of_ble_eq_true rfl, Nat.le_of_ble_eq_true rfl⟩) hLA hA hB hS (by decide) (fun x_21 σ_19 ρ_20 H locs hB fσ_19 pσ_19 hS => ?_)
        exact W.iret (v := x_21) hx hb hr (fun t ht hW => ⟨⟨x_21, (σ_19, ρ_20), rfl, ⟨hB.2.1, hB.2.2, trivial⟩, (show TP D cA L T r σ_19 ρ_20 t.heap from by rw [ht]; exact hB.1)⟩, hS.F ht⟩) hS.2.2 dX1_countGifts_90
      · skip
        have uc_18 := j_nle c_18
        refine lv_iconst (v := 0) hx hb dX1_countGifts_79 (by decide) ?_
        refine lv_goto (tgt := 90) hx hb dX1_countGifts_80 (by decide) ?_
        exact W.iret (v := 0) hx hb hr (fun t ht hW => ⟨⟨0, (σ_11, ρ_12), rfl, ⟨hB.2.1, hB.2.2, trivial⟩, (show TP D cA L T r σ_11 ρ_12 t.heap from by rw [ht]; exact hB.1)⟩, hS.F ht⟩) hS.2.2 dX1_countGifts_90
    · skip
      have uc_16 := i_nge (n := 8) (by decide) c_16
      refine lv_aload_n hx hb dX1_countGifts_47 rfl (lv_at hl 1 rfl) ?_
      refine t_gr hx hb hts hown hK hG hB mh0 th0 fq_1_6 rfl mw_2_132 dX1_countGifts_48 (fun b_22 hb_22 mb_22 tb_22 => ?_)
      refine lv_iload_n hx hb dX1_countGifts_51 rfl (lv_at hl 0 rfl) ?_
      refine lv_iconst (v := 0) hx hb dX1_countGifts_52 (by decide) ?_
      refine t_si hx hb hK hLA hB hS mb_22 tb_22 ai_29 (i_in (by omega) (by omega)) (i_lo _) (i_hi _) (Or.inr (by decide)) dX1_countGifts_53 (fun H locs σ_23 eσ_23 hB hS => ?_)
      have k_24 : σ_23 b_22 i_10.toNatClampNeg = 0 := by rw [eσ_23]; exact up2_same _ _ _ _
      refine lv_aload_n hx hb dX1_countGifts_54 rfl (lv_at hl 1 rfl) ?_
      refine t_gr hx hb hts hown hK hG hB mh0 th0 fq_1_7 rfl mw_2_134 dX1_countGifts_55 (fun b_25 hb_25 mb_25 tb_25 => ?_)
      refine lv_iload_n hx hb dX1_countGifts_58 rfl (lv_at hl 0 rfl) ?_
      refine lv_bipush (v := (-2)) hx hb dX1_countGifts_59 (by decide) ?_
      refine t_si hx hb hK hLA hB hS mb_25 tb_25 ai_30 (i_in (by omega) (by omega)) (i_lo _) (i_hi _) (Or.inr (by decide)) dX1_countGifts_61 (fun H locs σ_26 eσ_26 hB hS => ?_)
      have k_27 : σ_26 b_25 i_10.toNatClampNeg = (-2) := by rw [eσ_26]; exact up2_same _ _ _ _
      obtain ⟨x_28, ex_28⟩ : ∃ y : Int32, y = i_10 + 1 := ⟨_, rfl⟩
      have vx_28 := b_add (rfl : i_10.toInt = _) (by decide : (1 : Int32).toInt = 1) ex_28 (by omega) (by omega)
      refine lv_iinc (v := x_28) (lv' := [(3, .int x_28), (0, .ref h0), (1, .ref h1), (2, .ref h2)]) hx hb dX1_countGifts_62 hl (k := 0) rfl (by rw [ex_28]; rfl) (by decide) rfl (fun ls hl => ?_)
      refine lv_goto (tgt := 41) hx hb dX1_countGifts_65 (by decide) ?_
      have k_29 : σ_23 h0 8 = (σ_4 h0 8) := by rw [eσ_23, up2_nea _ _ (tg_ne th0 tb_22 (by decide))]; exact k_14
      have k_30 : σ_26 h0 8 = (σ_4 h0 8) := by rw [eσ_26, up2_nea _ _ (tg_ne th0 tb_25 (by decide))]; exact k_29
      exact ih_13 ⟨x_28, σ_26, ρ_12⟩ _ _ _ ⟨(by omega), (by omega), k_30, (by rw [k_30]; omega), hB, hS, lv_sub hl [0, 1, 2, 3] rfl⟩ (by show (8 - x_28.toInt).toNat < (8 - i_10.toInt).toNat; omega)
  · skip
    have uc_9 := i_nge (n := 5) (by decide) c_9
    refine lv_aload_n hx hb dX1_countGifts_12 rfl (lv_at hl 1 rfl) ?_
    refine t_gr hx hb hts hown hK hG hB mh0 th0 fq_1_5 rfl mw_2_131 dX1_countGifts_13 (fun b_31 hb_31 mb_31 tb_31 => ?_)
    refine lv_iload_n hx hb dX1_countGifts_16 rfl (lv_at hl 0 rfl) ?_
    refine lv_aload_n hx hb dX1_countGifts_17 rfl (lv_at hl 3 rfl) ?_
    refine lv_iload_n hx hb dX1_countGifts_18 rfl (lv_at hl 0 rfl) ?_
    refine t_ai hx hb hK hB mh2 th2 ai_55 (fun _ => rfl) (i_in (by omega) (by omega)) dX1_countGifts_19 (fun x_32 ex_32 lx_32 ux_32 => ?_)
    have cx_32 := congrArg Int32.toInt ex_32
    refine t_si hx hb hK hLA hB hS mb_31 tb_31 ai_28 (i_in (by omega) (by omega)) (i_lo _) (i_hi _) (Or.inr (by decide)) dX1_countGifts_20 (fun H locs σ_33 eσ_33 hB hS => ?_)
    have k_34 : σ_33 b_31 i_3.toNatClampNeg = x_32 := by rw [eσ_33]; exact up2_same _ _ _ _
    refine lv_aload_n hx hb dX1_countGifts_21 rfl (lv_at hl 1 rfl) ?_
    refine lv_dup hx hb dX1_countGifts_22 rfl ?_
    have k_35 : σ_33 h0 8 = (σ_4 h0 8) := by rw [eσ_33, up2_nea _ _ (tg_ne th0 tb_31 (by decide))]
    refine t_gv hx hb hts hown hK hB mh0 th0 fi_1_8 k_35 mw_2_136 dX1_countGifts_23 ?_
    refine lv_aload_n hx hb dX1_countGifts_26 rfl (lv_at hl 3 rfl) ?_
    refine lv_iload_n hx hb dX1_countGifts_27 rfl (lv_at hl 0 rfl) ?_
    have k_36 : σ_33 h2 i_3.toNatClampNeg = x_32 := by rw [eσ_33, up2_nea _ _ (tg_ne th2 tb_31 (by decide))]; exact ex_32.symm
    refine t_ai hx hb hK hB mh2 th2 ai_55 (fun _ => rfl) (i_in (by omega) (by omega)) dX1_countGifts_28 (fun x_37 ex_37 lx_37 ux_37 => ?_)
    have qx_37 : x_37 = x_32 := ex_37.trans k_36
    have qx_37 := qx_37.symm
    subst qx_37
    refine lv_iadd hx hb dX1_countGifts_29 ?_
    refine lv_topi (fun x_38 ex_38 => ?_)
    try have vx_38 := b_add (rfl : (σ_4 h0 8).toInt = _) (rfl : x_32.toInt = _) ex_38 (by omega) (by omega)
    refine t_pi hx hb hts hown hK hLA hB hS mh0 th0 fi_1_8 rfl rfl rfl (i_lo _) (i_hi _) (Or.inl (by decide)) mw_2_136 dX1_countGifts_30 (fun H locs σ_39 eσ_39 hB hS => ?_)
    have k_40 : σ_39 h0 8 = x_38 := by rw [eσ_39]; exact up2_same _ _ _ _
    obtain ⟨x_41, ex_41⟩ : ∃ y : Int32, y = i_3 + 1 := ⟨_, rfl⟩
    have vx_41 := b_add (rfl : i_3.toInt = _) (by decide : (1 : Int32).toInt = 1) ex_41 (by omega) (by omega)
    refine lv_iinc (v := x_41) (lv' := [(3, .int x_41), (0, .ref h0), (1, .ref h1), (2, .ref h2)]) hx hb dX1_countGifts_33 hl (k := 0) rfl (by rw [ex_41]; rfl) (by decide) rfl (fun ls hl => ?_)
    refine lv_goto (tgt := 7) hx hb dX1_countGifts_36 (by decide) ?_
    exact ih_6 ⟨x_41, σ_39, ρ_5⟩ _ _ _ ⟨(by omega), (by omega), (by rw [k_40]; first | decide | omega), hB, hS, lv_sub hl [0, 1, 2, 3] rfl⟩ (by show (5 - x_41.toInt).toNat < (5 - i_3.toInt).toNat; omega)
theorem mw_5_115 : (.instanceMethod yX1_countGifts : Cond) ∈ wsA := wsA_t (List.mem_append_right _ (List.mem_append_right _ (List.mem_append_right _ (List.mem_append_right _ (List.mem_append_left _ (List.mem_of_getElem? (l := tables_1_5) (i := 115) rfl)))))) rfl
theorem mw_5_116 : (.selects RX1 yX1_countGifts yX1_countGifts : Cond) ∈ wsA := wsA_t (List.mem_append_right _ (List.mem_append_right _ (List.mem_append_right _ (List.mem_append_right _ (List.mem_append_left _ (List.mem_of_getElem? (l := tables_1_5) (i := 116) rfl)))))) rfl
theorem mw_5_117 : (.code yX1_countGifts cX1_countGifts 4 (some .int) : Cond) ∈ wsA := wsA_t (List.mem_append_right _ (List.mem_append_right _ (List.mem_append_right _ (List.mem_append_right _ (List.mem_append_left _ (List.mem_of_getElem? (l := tables_1_5) (i := 117) rfl)))))) rfl
theorem mw_5_114 : (.methodLink RX11 299 yX1_countGifts : Cond) ∈ wsA := wsA_t (List.mem_append_right _ (List.mem_append_right _ (List.mem_append_right _ (List.mem_append_right _ (List.mem_append_left _ (List.mem_of_getElem? (l := tables_1_5) (i := 114) rfl)))))) rfl
theorem mw_2_135 : (.fieldLink RX11 306 "HillBends$Choices" "firstRow" "[I" : Cond) ∈ wsA := wsA_t (List.mem_append_right _ (List.mem_append_left _ (List.mem_of_getElem? (l := tables_1_2) (i := 135) rfl))) rfl
theorem mw_2_133 : (.fieldLink RX11 303 "HillBends$Choices" "can" "[I" : Cond) ∈ wsA := wsA_t (List.mem_append_right _ (List.mem_append_left _ (List.mem_of_getElem? (l := tables_1_2) (i := 133) rfl))) rfl
theorem dX11_gifts_0 : decode cX11_gifts 0 = .ok (.iload_n 1, 1) := by decide +kernel
theorem dX11_gifts_1 : decode cX11_gifts 1 = .ok (.ifCond .lt 13, 3) := by decide +kernel
theorem dX11_gifts_14 : decode cX11_gifts 14 = .ok (.iconst 0, 1) := by decide +kernel
theorem dX11_gifts_15 : decode cX11_gifts 15 = .ok (.istore_n 2, 1) := by decide +kernel
theorem dX11_gifts_16 : decode cX11_gifts 16 = .ok (.iload_n 1, 1) := by decide +kernel
theorem dX11_gifts_17 : decode cX11_gifts 17 = .ok (.bipush 10, 2) := by decide +kernel
theorem dX11_gifts_19 : decode cX11_gifts 19 = .ok (.if_icmp .lt 13, 3) := by decide +kernel
theorem dX11_gifts_32 : decode cX11_gifts 32 = .ok (.iconst 0, 1) := by decide +kernel
theorem dX11_gifts_33 : decode cX11_gifts 33 = .ok (.istore_n 3, 1) := by decide +kernel
theorem dX11_gifts_34 : decode cX11_gifts 34 = .ok (.aload_n 0, 1) := by decide +kernel
theorem dX11_gifts_35 : decode cX11_gifts 35 = .ok (.getfield 32, 3) := by decide +kernel
theorem dX11_gifts_38 : decode cX11_gifts 38 = .ok (.getfield 102, 3) := by decide +kernel
theorem dX11_gifts_41 : decode cX11_gifts 41 = .ok (.getfield 178, 3) := by decide +kernel
theorem dX11_gifts_44 : decode cX11_gifts 44 = .ok (.ifCond .eq 16, 3) := by decide +kernel
theorem dX11_gifts_60 : decode cX11_gifts 60 = .ok (.bipush (-3), 2) := by decide +kernel
theorem dX11_gifts_62 : decode cX11_gifts 62 = .ok (.ireturn, 1) := by decide +kernel
theorem dX11_gifts_47 : decode cX11_gifts 47 = .ok (.iload_n 1, 1) := by decide +kernel
theorem dX11_gifts_48 : decode cX11_gifts 48 = .ok (.iconst (-1), 1) := by decide +kernel
theorem dX11_gifts_49 : decode cX11_gifts 49 = .ok (.if_icmp .eq 14, 3) := by decide +kernel
theorem dX11_gifts_63 : decode cX11_gifts 63 = .ok (.aload_n 0, 1) := by decide +kernel
theorem dX11_gifts_64 : decode cX11_gifts 64 = .ok (.getfield 64, 3) := by decide +kernel
theorem dX11_gifts_67 : decode cX11_gifts 67 = .ok (.aload_n 0, 1) := by decide +kernel
theorem dX11_gifts_68 : decode cX11_gifts 68 = .ok (.getfield 32, 3) := by decide +kernel
theorem dX11_gifts_71 : decode cX11_gifts 71 = .ok (.getfield 102, 3) := by decide +kernel
theorem dX11_gifts_74 : decode cX11_gifts 74 = .ok (.aload_n 0, 1) := by decide +kernel
theorem dX11_gifts_75 : decode cX11_gifts 75 = .ok (.getfield 32, 3) := by decide +kernel
theorem dX11_gifts_78 : decode cX11_gifts 78 = .ok (.getfield 296, 3) := by decide +kernel
theorem dX11_gifts_81 : decode cX11_gifts 81 = .ok (.invokevirtual 299, 3) := by decide +kernel
theorem dX11_gifts_84 : decode cX11_gifts 84 = .ok (.istore 4, 2) := by decide +kernel
theorem dX11_gifts_86 : decode cX11_gifts 86 = .ok (.iload_n 1, 1) := by decide +kernel
theorem dX11_gifts_87 : decode cX11_gifts 87 = .ok (.iconst (-1), 1) := by decide +kernel
theorem dX11_gifts_88 : decode cX11_gifts 88 = .ok (.if_icmp .ne 6, 3) := by decide +kernel
theorem dX11_gifts_91 : decode cX11_gifts 91 = .ok (.iload 4, 2) := by decide +kernel
theorem dX11_gifts_93 : decode cX11_gifts 93 = .ok (.ireturn, 1) := by decide +kernel
theorem dX11_gifts_52 : decode cX11_gifts 52 = .ok (.iload_n 2, 1) := by decide +kernel
theorem dX11_gifts_53 : decode cX11_gifts 53 = .ok (.ifCond .ne 10, 3) := by decide +kernel
theorem dX11_gifts_56 : decode cX11_gifts 56 = .ok (.iload_n 3, 1) := by decide +kernel
theorem dX11_gifts_57 : decode cX11_gifts 57 = .ok (.ifCond .ne 6, 3) := by decide +kernel
theorem dX11_gifts_4 : decode cX11_gifts 4 = .ok (.iload_n 1, 1) := by decide +kernel
theorem dX11_gifts_5 : decode cX11_gifts 5 = .ok (.bipush 8, 2) := by decide +kernel
theorem dX11_gifts_7 : decode cX11_gifts 7 = .ok (.if_icmp .ge 7, 3) := by decide +kernel
theorem dX11_gifts_22 : decode cX11_gifts 22 = .ok (.iload_n 1, 1) := by decide +kernel
theorem dX11_gifts_23 : decode cX11_gifts 23 = .ok (.bipush 18, 2) := by decide +kernel
theorem dX11_gifts_25 : decode cX11_gifts 25 = .ok (.if_icmp .ge 7, 3) := by decide +kernel
theorem dX11_gifts_28 : decode cX11_gifts 28 = .ok (.iconst 1, 1) := by decide +kernel
theorem dX11_gifts_29 : decode cX11_gifts 29 = .ok (.goto 4, 3) := by decide +kernel
theorem dX11_gifts_94 : decode cX11_gifts 94 = .ok (.iload_n 2, 1) := by decide +kernel
theorem dX11_gifts_95 : decode cX11_gifts 95 = .ok (.ifCond .eq 15, 3) := by decide +kernel
theorem dX11_gifts_110 : decode cX11_gifts 110 = .ok (.aload_n 0, 1) := by decide +kernel
theorem dX11_gifts_111 : decode cX11_gifts 111 = .ok (.getfield 64, 3) := by decide +kernel
theorem dX11_gifts_114 : decode cX11_gifts 114 = .ok (.getfield 306, 3) := by decide +kernel
theorem dX11_gifts_117 : decode cX11_gifts 117 = .ok (.iload_n 1, 1) := by decide +kernel
theorem dX11_gifts_118 : decode cX11_gifts 118 = .ok (.bipush 10, 2) := by decide +kernel
theorem dX11_gifts_120 : decode cX11_gifts 120 = .ok (.isub, 1) := by decide +kernel
theorem dX11_gifts_121 : decode cX11_gifts 121 = .ok (.iaload, 1) := by decide +kernel
theorem dX11_gifts_122 : decode cX11_gifts 122 = .ok (.ireturn, 1) := by decide +kernel
theorem dX11_gifts_10 : decode cX11_gifts 10 = .ok (.iconst 1, 1) := by decide +kernel
theorem dX11_gifts_11 : decode cX11_gifts 11 = .ok (.goto 4, 3) := by decide +kernel
theorem dX11_gifts_98 : decode cX11_gifts 98 = .ok (.aload_n 0, 1) := by decide +kernel
theorem dX11_gifts_99 : decode cX11_gifts 99 = .ok (.getfield 64, 3) := by decide +kernel
theorem dX11_gifts_102 : decode cX11_gifts 102 = .ok (.getfield 303, 3) := by decide +kernel
theorem dX11_gifts_105 : decode cX11_gifts 105 = .ok (.iload_n 1, 1) := by decide +kernel
theorem dX11_gifts_106 : decode cX11_gifts 106 = .ok (.iaload, 1) := by decide +kernel
theorem dX11_gifts_107 : decode cX11_gifts 107 = .ok (.goto 15, 3) := by decide +kernel
theorem mv_X1_countGifts : MV RX1 yX1_countGifts cX1_countGifts 4 (some .int) 2 := ⟨mw_5_115, mw_5_116, mw_1_10, mw_5_117, ⟨rfl, by decide, by decide, by decide +kernel⟩⟩
set_option maxHeartbeats 4000000 in
set_option maxRecDepth 100000 in
theorem cy_X11_gifts (l : Launch) (D : va_G) (cA : Nat → ClassId) (L : List Nat) (T : Nat → Nat) (r : Rg) (hG : GR L T r) (hL : L.Nodup) (σ : Sg) (ρ : Lg) (hW : WT L ry T σ) (sz : Nat) (h0 : Nat) (mh0 : h0 ∈ L) (th0 : T h0 = 11) (p1 : Int32) : Met l yX11_gifts (.code yX11_gifts cX11_gifts 5 (some .int) :: wsA) ({ frames := 11, cells := 0, slots := 0, locals := 375 }) (PR D cA L T r σ ρ sz [.ref h0, .int p1]) (QI D cA L T r ry [(1, 8), (26, 1000), (28, 1000), (29, 1000), (30, 1000)] σ sz (fun x σ1 => True)) 0 0 (dm L sz) := by
  refine Met.ofW (cc := cX11_gifts) (maxL := 5) (ret := (some .int)) (by decide) rfl ?_
  intro p e s m args below meth c s₁ B hml hv
  obtain ⟨rfl, hsz, hP, hK, hN⟩ := hv
  have hx := B.exec
  have hb := B.bytes
  have hr := B.returns
  have hts : ∀ w ∈ wsA, w.before _ s = true := fun w h => atoms_spec (ws := .code yX11_gifts cX11_gifts 5 (some .int) :: wsA) B.pre w (List.mem_cons_of_mem _ h)
  have hown : s.vm.findClass RX11 = some m.cls := findClass_of_methodNamed B.named
  subst hsz
  have hLA : LA (dm L s.heap.size) L := ⟨hL, fun a h => Or.inl h⟩
  have hA : ∀ q : Nat, s.heap.size ≤ q → dm L s.heap.size q := fun q h => Or.inr h
  have hS : va_S (dm L s.heap.size) s.heap s.heap [] := va_S.rf
  have hB : TS D cA L T r ry [(1, 8), (26, 1000), (28, 1000), (29, 1000), (30, 1000)] σ σ ρ s.heap := ⟨hP, hW, FR.rf⟩
  have hl := lv_entry ([.ref h0, .int p1]) (n := 5) (Nat.le_of_ble_eq_true rfl)
  rw [lg_entry_eq]
  generalize (lg_sl ([.ref h0, .int p1]) ++ List.replicate (5 - (lg_sl ([.ref h0, .int p1])).length) Slot.unset).toArray = ls at hl ⊢
  have hl : lv_has ls 5 [(0, .ref h0), (1, .int p1)] := hl
  refine lv_iload_n hx hb dX11_gifts_0 rfl (lv_at hl 1 rfl) ?_
  refine lv_if_lt (tgt := 14) hx hb dX11_gifts_1 (by decide) (fun c_1 => ?_) (fun c_1 => ?_)
  · skip
    have uc_1 := i_lt (n := 0) (by decide) c_1
    refine lv_iconst (v := 0) hx hb dX11_gifts_14 (by decide) ?_
    refine lv_istore_n (lv' := [(2, .int 0), (0, .ref h0), (1, .int p1)]) hx hb dX11_gifts_15 rfl hl (by decide) rfl (fun ls hl => ?_)
    refine lv_iload_n hx hb dX11_gifts_16 rfl (lv_at hl 2 rfl) ?_
    refine lv_bipush (v := 10) hx hb dX11_gifts_17 (by decide) ?_
    refine lv_icmp_lt (tgt := 32) hx hb dX11_gifts_19 (by decide) (fun c_2 => ?_) (fun c_2 => ?_)
    · skip
      have uc_2 := i_lt (n := 10) (by decide) c_2
      refine lv_iconst (v := 0) hx hb dX11_gifts_32 (by decide) ?_
      refine lv_istore_n (lv' := [(3, .int 0), (2, .int 0), (0, .ref h0), (1, .int p1)]) hx hb dX11_gifts_33 rfl hl (by decide) rfl (fun ls hl => ?_)
      refine lv_aload_n hx hb dX11_gifts_34 rfl (lv_at hl 2 rfl) ?_
      refine t_gr hx hb hts hown hK hG hB mh0 th0 fq_11_3 rfl mw_2_210 dX11_gifts_35 (fun b_3 hb_3 mb_3 tb_3 => ?_)
      refine t_gr hx hb hts hown hK hG hB mb_3 tb_3 fq_10_0 rfl mw_1_236 dX11_gifts_38 (fun b_4 hb_4 mb_4 tb_4 => ?_)
      refine t_gi hx hb hts hown hK hB mb_4 tb_4 fi_3_6 rfl mw_1_164 dX11_gifts_41 (fun x_5 ex_5 lx_5 ux_5 => ?_)
      have cx_5 := congrArg Int32.toInt ex_5
      refine lv_if_eq (tgt := 60) hx hb dX11_gifts_44 (by decide) (fun c_6 => ?_) (fun c_6 => ?_)
      · skip
        have uc_6 := i_eq (n := 0) (by decide) c_6
        refine lv_bipush (v := (-3)) hx hb dX11_gifts_60 (by decide) ?_
        exact W.iret (v := (-3)) hx hb hr (fun t ht hW => ⟨⟨(-3), (σ, ρ), rfl, ⟨hB.2.1, hB.2.2, trivial⟩, (show TP D cA L T r σ ρ t.heap from by rw [ht]; exact hB.1)⟩, hS.F ht⟩) hS.2.2 dX11_gifts_62
      · skip
        have uc_6 := i_ne (n := 0) (by decide) c_6
        refine lv_iload_n hx hb dX11_gifts_47 rfl (lv_at hl 3 rfl) ?_
        refine lv_iconst (v := (-1)) hx hb dX11_gifts_48 (by decide) ?_
        refine lv_icmp_eq (tgt := 63) hx hb dX11_gifts_49 (by decide) (fun c_7 => ?_) (fun c_7 => ?_)
        · skip
          have uc_7 := i_eq (n := (-1)) (by decide) c_7
          refine lv_aload_n hx hb dX11_gifts_63 rfl (lv_at hl 2 rfl) ?_
          refine t_gr hx hb hts hown hK hG hB mh0 th0 fq_11_8 rfl mw_2_215 dX11_gifts_64 (fun b_8 hb_8 mb_8 tb_8 => ?_)
          refine lv_aload_n hx hb dX11_gifts_67 rfl (lv_at hl 2 rfl) ?_
          refine t_gk hx hb hts hown hK hB mh0 th0 fq_11_3 hb_3 mw_2_210 dX11_gifts_68 ?_
          refine t_gk hx hb hts hown hK hB mb_3 tb_3 fq_10_0 hb_4 mw_1_236 dX11_gifts_71 ?_
          refine lv_aload_n hx hb dX11_gifts_74 rfl (lv_at hl 2 rfl) ?_
          refine t_gk hx hb hts hown hK hB mh0 th0 fq_11_3 hb_3 mw_2_210 dX11_gifts_75 ?_
          refine t_gr hx hb hts hown hK hG hB mb_3 tb_3 fq_10_2 rfl mw_2_1 dX11_gifts_78 (fun b_9 hb_9 mb_9 tb_9 => ?_)
          refine t_ci (va_runV (As := [.ref b_4, .ref b_9]) (rest := []) ⟨hx, hb, hml, hown, hts⟩ (cy_X1_countGifts l D cA L T r hG hLA.1 σ ρ hB.2.1 _ b_8 mb_8 tb_8 b_4 mb_4 tb_4 b_9 mb_9 tb_9) (cV hts mv_X1_countGifts mw_5_114 rfl rfl ⟨Nat.le_of_ble_eq_true rfl, Nat.le_of_ble_eq_true rfl⟩) (pV hB.1 hK hN mb_8 tb_8 (show shp cA 1 _ _ _ = .inr (1, Fs1 _ _ _) from rfl) rfl) rfl rfl hl.1 rfl (lv_room (Nat.le_of_ble_eq_true rfl)) dX11_gifts_81 ⟨Nat.le_of_ble_eq_true rfl, Nat.le_of_ble_eq_true rfl⟩) hLA hA hB hS (by decide) (fun x_12 σ_10 ρ_11 H locs hB fσ_10 pσ_10 hS => ?_)
          refine lv_istore (lv' := [(4, .int x_12), (3, .int 0), (2, .int 0), (0, .ref h0), (1, .int p1)]) hx hb dX11_gifts_84 hl (by decide) rfl (fun ls hl => ?_)
          refine lv_iload_n hx hb dX11_gifts_86 rfl (lv_at hl 4 rfl) ?_
          refine lv_iconst (v := (-1)) hx hb dX11_gifts_87 (by decide) ?_
          refine lv_icmp_ne (tgt := 94) hx hb dX11_gifts_88 (by decide) (fun c_13 => ?_) (fun c_13 => ?_)
          · skip
            have uc_13 := i_ne (n := (-1)) (by decide) c_13
            exfalso; omega
          · skip
            have uc_13 := i_eq (n := (-1)) (by decide) c_13
            refine lv_iload hx hb dX11_gifts_91 (lv_at hl 0 rfl) ?_
            exact W.iret (v := x_12) hx hb hr (fun t ht hW => ⟨⟨x_12, (σ_10, ρ_11), rfl, ⟨hB.2.1, hB.2.2, trivial⟩, (show TP D cA L T r σ_10 ρ_11 t.heap from by rw [ht]; exact hB.1)⟩, hS.F ht⟩) hS.2.2 dX11_gifts_93
        · skip
          have uc_7 := i_ne (n := (-1)) (by decide) c_7
          refine lv_iload_n hx hb dX11_gifts_52 rfl (lv_at hl 1 rfl) ?_
          refine lv_if_ne (tgt := 63) hx hb dX11_gifts_53 (by decide) (fun c9 => absurd (by decide) c9) (fun _ => ?_)
          refine lv_iload_n hx hb dX11_gifts_56 rfl (lv_at hl 0 rfl) ?_
          refine lv_if_ne (tgt := 63) hx hb dX11_gifts_57 (by decide) (fun c9 => absurd (by decide) c9) (fun _ => ?_)
          refine lv_bipush (v := (-3)) hx hb dX11_gifts_60 (by decide) ?_
          exact W.iret (v := (-3)) hx hb hr (fun t ht hW => ⟨⟨(-3), (σ, ρ), rfl, ⟨hB.2.1, hB.2.2, trivial⟩, (show TP D cA L T r σ ρ t.heap from by rw [ht]; exact hB.1)⟩, hS.F ht⟩) hS.2.2 dX11_gifts_62
    · skip
      have uc_2 := i_nlt (n := 10) (by decide) c_2
      exfalso; omega
  · skip
    have uc_1 := i_nlt (n := 0) (by decide) c_1
    refine lv_iload_n hx hb dX11_gifts_4 rfl (lv_at hl 1 rfl) ?_
    refine lv_bipush (v := 8) hx hb dX11_gifts_5 (by decide) ?_
    refine lv_icmp_ge (tgt := 14) hx hb dX11_gifts_7 (by decide) (fun c_14 => ?_) (fun c_14 => ?_)
    · skip
      have uc_14 := i_ge (n := 8) (by decide) c_14
      refine lv_iconst (v := 0) hx hb dX11_gifts_14 (by decide) ?_
      refine lv_istore_n (lv' := [(2, .int 0), (0, .ref h0), (1, .int p1)]) hx hb dX11_gifts_15 rfl hl (by decide) rfl (fun ls hl => ?_)
      refine lv_iload_n hx hb dX11_gifts_16 rfl (lv_at hl 2 rfl) ?_
      refine lv_bipush (v := 10) hx hb dX11_gifts_17 (by decide) ?_
      refine lv_icmp_lt (tgt := 32) hx hb dX11_gifts_19 (by decide) (fun c_15 => ?_) (fun c_15 => ?_)
      · skip
        have uc_15 := i_lt (n := 10) (by decide) c_15
        refine lv_iconst (v := 0) hx hb dX11_gifts_32 (by decide) ?_
        refine lv_istore_n (lv' := [(3, .int 0), (2, .int 0), (0, .ref h0), (1, .int p1)]) hx hb dX11_gifts_33 rfl hl (by decide) rfl (fun ls hl => ?_)
        refine lv_aload_n hx hb dX11_gifts_34 rfl (lv_at hl 2 rfl) ?_
        refine t_gr hx hb hts hown hK hG hB mh0 th0 fq_11_3 rfl mw_2_210 dX11_gifts_35 (fun b_16 hb_16 mb_16 tb_16 => ?_)
        refine t_gr hx hb hts hown hK hG hB mb_16 tb_16 fq_10_0 rfl mw_1_236 dX11_gifts_38 (fun b_17 hb_17 mb_17 tb_17 => ?_)
        refine t_gi hx hb hts hown hK hB mb_17 tb_17 fi_3_6 rfl mw_1_164 dX11_gifts_41 (fun x_18 ex_18 lx_18 ux_18 => ?_)
        have cx_18 := congrArg Int32.toInt ex_18
        refine lv_if_eq (tgt := 60) hx hb dX11_gifts_44 (by decide) (fun c_19 => ?_) (fun c_19 => ?_)
        · skip
          have uc_19 := i_eq (n := 0) (by decide) c_19
          refine lv_bipush (v := (-3)) hx hb dX11_gifts_60 (by decide) ?_
          exact W.iret (v := (-3)) hx hb hr (fun t ht hW => ⟨⟨(-3), (σ, ρ), rfl, ⟨hB.2.1, hB.2.2, trivial⟩, (show TP D cA L T r σ ρ t.heap from by rw [ht]; exact hB.1)⟩, hS.F ht⟩) hS.2.2 dX11_gifts_62
        · skip
          have uc_19 := i_ne (n := 0) (by decide) c_19
          refine lv_iload_n hx hb dX11_gifts_47 rfl (lv_at hl 3 rfl) ?_
          refine lv_iconst (v := (-1)) hx hb dX11_gifts_48 (by decide) ?_
          refine lv_icmp_eq (tgt := 63) hx hb dX11_gifts_49 (by decide) (fun c_20 => ?_) (fun c_20 => ?_)
          · skip
            have uc_20 := i_eq (n := (-1)) (by decide) c_20
            exfalso; omega
          · skip
            have uc_20 := i_ne (n := (-1)) (by decide) c_20
            refine lv_iload_n hx hb dX11_gifts_52 rfl (lv_at hl 1 rfl) ?_
            refine lv_if_ne (tgt := 63) hx hb dX11_gifts_53 (by decide) (fun c9 => absurd (by decide) c9) (fun _ => ?_)
            refine lv_iload_n hx hb dX11_gifts_56 rfl (lv_at hl 0 rfl) ?_
            refine lv_if_ne (tgt := 63) hx hb dX11_gifts_57 (by decide) (fun c9 => absurd (by decide) c9) (fun _ => ?_)
            refine lv_bipush (v := (-3)) hx hb dX11_gifts_60 (by decide) ?_
            exact W.iret (v := (-3)) hx hb hr (fun t ht hW => ⟨⟨(-3), (σ, ρ), rfl, ⟨hB.2.1, hB.2.2, trivial⟩, (show TP D cA L T r σ ρ t.heap from by rw [ht]; exact hB.1)⟩, hS.F ht⟩) hS.2.2 dX11_gifts_62
      · skip
        have uc_15 := i_nlt (n := 10) (by decide) c_15
        refine lv_iload_n hx hb dX11_gifts_22 rfl (lv_at hl 2 rfl) ?_
        refine lv_bipush (v := 18) hx hb dX11_gifts_23 (by decide) ?_
        refine lv_icmp_ge (tgt := 32) hx hb dX11_gifts_25 (by decide) (fun c_21 => ?_) (fun c_21 => ?_)
        · skip
          have uc_21 := i_ge (n := 18) (by decide) c_21
          refine lv_iconst (v := 0) hx hb dX11_gifts_32 (by decide) ?_
          refine lv_istore_n (lv' := [(3, .int 0), (2, .int 0), (0, .ref h0), (1, .int p1)]) hx hb dX11_gifts_33 rfl hl (by decide) rfl (fun ls hl => ?_)
          refine lv_aload_n hx hb dX11_gifts_34 rfl (lv_at hl 2 rfl) ?_
          refine t_gr hx hb hts hown hK hG hB mh0 th0 fq_11_3 rfl mw_2_210 dX11_gifts_35 (fun b_22 hb_22 mb_22 tb_22 => ?_)
          refine t_gr hx hb hts hown hK hG hB mb_22 tb_22 fq_10_0 rfl mw_1_236 dX11_gifts_38 (fun b_23 hb_23 mb_23 tb_23 => ?_)
          refine t_gi hx hb hts hown hK hB mb_23 tb_23 fi_3_6 rfl mw_1_164 dX11_gifts_41 (fun x_24 ex_24 lx_24 ux_24 => ?_)
          have cx_24 := congrArg Int32.toInt ex_24
          refine lv_if_eq (tgt := 60) hx hb dX11_gifts_44 (by decide) (fun c_25 => ?_) (fun c_25 => ?_)
          · skip
            have uc_25 := i_eq (n := 0) (by decide) c_25
            refine lv_bipush (v := (-3)) hx hb dX11_gifts_60 (by decide) ?_
            exact W.iret (v := (-3)) hx hb hr (fun t ht hW => ⟨⟨(-3), (σ, ρ), rfl, ⟨hB.2.1, hB.2.2, trivial⟩, (show TP D cA L T r σ ρ t.heap from by rw [ht]; exact hB.1)⟩, hS.F ht⟩) hS.2.2 dX11_gifts_62
          · skip
            have uc_25 := i_ne (n := 0) (by decide) c_25
            refine lv_iload_n hx hb dX11_gifts_47 rfl (lv_at hl 3 rfl) ?_
            refine lv_iconst (v := (-1)) hx hb dX11_gifts_48 (by decide) ?_
            refine lv_icmp_eq (tgt := 63) hx hb dX11_gifts_49 (by decide) (fun c_26 => ?_) (fun c_26 => ?_)
            · skip
              have uc_26 := i_eq (n := (-1)) (by decide) c_26
              exfalso; omega
            · skip
              have uc_26 := i_ne (n := (-1)) (by decide) c_26
              refine lv_iload_n hx hb dX11_gifts_52 rfl (lv_at hl 1 rfl) ?_
              refine lv_if_ne (tgt := 63) hx hb dX11_gifts_53 (by decide) (fun c9 => absurd (by decide) c9) (fun _ => ?_)
              refine lv_iload_n hx hb dX11_gifts_56 rfl (lv_at hl 0 rfl) ?_
              refine lv_if_ne (tgt := 63) hx hb dX11_gifts_57 (by decide) (fun c9 => absurd (by decide) c9) (fun _ => ?_)
              refine lv_bipush (v := (-3)) hx hb dX11_gifts_60 (by decide) ?_
              exact W.iret (v := (-3)) hx hb hr (fun t ht hW => ⟨⟨(-3), (σ, ρ), rfl, ⟨hB.2.1, hB.2.2, trivial⟩, (show TP D cA L T r σ ρ t.heap from by rw [ht]; exact hB.1)⟩, hS.F ht⟩) hS.2.2 dX11_gifts_62
        · skip
          have uc_21 := i_nge (n := 18) (by decide) c_21
          refine lv_iconst (v := 1) hx hb dX11_gifts_28 (by decide) ?_
          refine lv_goto (tgt := 33) hx hb dX11_gifts_29 (by decide) ?_
          refine lv_istore_n (lv' := [(3, .int 1), (2, .int 0), (0, .ref h0), (1, .int p1)]) hx hb dX11_gifts_33 rfl hl (by decide) rfl (fun ls hl => ?_)
          refine lv_aload_n hx hb dX11_gifts_34 rfl (lv_at hl 2 rfl) ?_
          refine t_gr hx hb hts hown hK hG hB mh0 th0 fq_11_3 rfl mw_2_210 dX11_gifts_35 (fun b_27 hb_27 mb_27 tb_27 => ?_)
          refine t_gr hx hb hts hown hK hG hB mb_27 tb_27 fq_10_0 rfl mw_1_236 dX11_gifts_38 (fun b_28 hb_28 mb_28 tb_28 => ?_)
          refine t_gi hx hb hts hown hK hB mb_28 tb_28 fi_3_6 rfl mw_1_164 dX11_gifts_41 (fun x_29 ex_29 lx_29 ux_29 => ?_)
          have cx_29 := congrArg Int32.toInt ex_29
          refine lv_if_eq (tgt := 60) hx hb dX11_gifts_44 (by decide) (fun c_30 => ?_) (fun c_30 => ?_)
          · skip
            have uc_30 := i_eq (n := 0) (by decide) c_30
            refine lv_bipush (v := (-3)) hx hb dX11_gifts_60 (by decide) ?_
            exact W.iret (v := (-3)) hx hb hr (fun t ht hW => ⟨⟨(-3), (σ, ρ), rfl, ⟨hB.2.1, hB.2.2, trivial⟩, (show TP D cA L T r σ ρ t.heap from by rw [ht]; exact hB.1)⟩, hS.F ht⟩) hS.2.2 dX11_gifts_62
          · skip
            have uc_30 := i_ne (n := 0) (by decide) c_30
            refine lv_iload_n hx hb dX11_gifts_47 rfl (lv_at hl 3 rfl) ?_
            refine lv_iconst (v := (-1)) hx hb dX11_gifts_48 (by decide) ?_
            refine lv_icmp_eq (tgt := 63) hx hb dX11_gifts_49 (by decide) (fun c_31 => ?_) (fun c_31 => ?_)
            · skip
              have uc_31 := i_eq (n := (-1)) (by decide) c_31
              exfalso; omega
            · skip
              have uc_31 := i_ne (n := (-1)) (by decide) c_31
              refine lv_iload_n hx hb dX11_gifts_52 rfl (lv_at hl 1 rfl) ?_
              refine lv_if_ne (tgt := 63) hx hb dX11_gifts_53 (by decide) (fun c9 => absurd (by decide) c9) (fun _ => ?_)
              refine lv_iload_n hx hb dX11_gifts_56 rfl (lv_at hl 0 rfl) ?_
              refine lv_if_ne (tgt := 63) hx hb dX11_gifts_57 (by decide) (fun _ => ?_) (fun c9 => absurd c9 (by decide))
              refine lv_aload_n hx hb dX11_gifts_63 rfl (lv_at hl 2 rfl) ?_
              refine t_gr hx hb hts hown hK hG hB mh0 th0 fq_11_8 rfl mw_2_215 dX11_gifts_64 (fun b_32 hb_32 mb_32 tb_32 => ?_)
              refine lv_aload_n hx hb dX11_gifts_67 rfl (lv_at hl 2 rfl) ?_
              refine t_gk hx hb hts hown hK hB mh0 th0 fq_11_3 hb_27 mw_2_210 dX11_gifts_68 ?_
              refine t_gk hx hb hts hown hK hB mb_27 tb_27 fq_10_0 hb_28 mw_1_236 dX11_gifts_71 ?_
              refine lv_aload_n hx hb dX11_gifts_74 rfl (lv_at hl 2 rfl) ?_
              refine t_gk hx hb hts hown hK hB mh0 th0 fq_11_3 hb_27 mw_2_210 dX11_gifts_75 ?_
              refine t_gr hx hb hts hown hK hG hB mb_27 tb_27 fq_10_2 rfl mw_2_1 dX11_gifts_78 (fun b_33 hb_33 mb_33 tb_33 => ?_)
              refine t_ci (va_runV (As := [.ref b_28, .ref b_33]) (rest := []) ⟨hx, hb, hml, hown, hts⟩ (cy_X1_countGifts l D cA L T r hG hLA.1 σ ρ hB.2.1 _ b_32 mb_32 tb_32 b_28 mb_28 tb_28 b_33 mb_33 tb_33) (cV hts mv_X1_countGifts mw_5_114 rfl rfl ⟨Nat.le_of_ble_eq_true rfl, Nat.le_of_ble_eq_true rfl⟩) (pV hB.1 hK hN mb_32 tb_32 (show shp cA 1 _ _ _ = .inr (1, Fs1 _ _ _) from rfl) rfl) rfl rfl hl.1 rfl (lv_room (Nat.le_of_ble_eq_true rfl)) dX11_gifts_81 ⟨Nat.le_of_ble_eq_true rfl, Nat.le_of_ble_eq_true rfl⟩) hLA hA hB hS (by decide) (fun x_36 σ_34 ρ_35 H locs hB fσ_34 pσ_34 hS => ?_)
              refine lv_istore (lv' := [(4, .int x_36), (3, .int 1), (2, .int 0), (0, .ref h0), (1, .int p1)]) hx hb dX11_gifts_84 hl (by decide) rfl (fun ls hl => ?_)
              refine lv_iload_n hx hb dX11_gifts_86 rfl (lv_at hl 4 rfl) ?_
              refine lv_iconst (v := (-1)) hx hb dX11_gifts_87 (by decide) ?_
              refine lv_icmp_ne (tgt := 94) hx hb dX11_gifts_88 (by decide) (fun c_37 => ?_) (fun c_37 => ?_)
              · skip
                have uc_37 := i_ne (n := (-1)) (by decide) c_37
                refine lv_iload_n hx hb dX11_gifts_94 rfl (lv_at hl 2 rfl) ?_
                refine lv_if_eq (tgt := 110) hx hb dX11_gifts_95 (by decide) (fun _ => ?_) (fun c9 => absurd (by decide) c9)
                refine lv_aload_n hx hb dX11_gifts_110 rfl (lv_at hl 3 rfl) ?_
                refine t_gk hx hb hts hown hK hB mh0 th0 fq_11_8 hb_32 mw_2_215 dX11_gifts_111 ?_
                refine t_gr hx hb hts hown hK hG hB mb_32 tb_32 fq_1_7 rfl mw_2_135 dX11_gifts_114 (fun b_38 hb_38 mb_38 tb_38 => ?_)
                refine lv_iload_n hx hb dX11_gifts_117 rfl (lv_at hl 4 rfl) ?_
                refine lv_bipush (v := 10) hx hb dX11_gifts_118 (by decide) ?_
                refine lv_isub hx hb dX11_gifts_120 ?_
                refine lv_topi (fun x_39 ex_39 => ?_)
                have vx_39 := b_sub (rfl : p1.toInt = _) (by decide : (10 : Int32).toInt = 10) ex_39 (by omega) (by omega)
                refine t_ai hx hb hK hB mb_38 tb_38 ai_30 (fun _ => rfl) (i_in (by omega) (by omega)) dX11_gifts_121 (fun x_40 ex_40 lx_40 ux_40 => ?_)
                have cx_40 := congrArg Int32.toInt ex_40
                exact W.iret (v := x_40) hx hb hr (fun t ht hW => ⟨⟨x_40, (σ_34, ρ_35), rfl, ⟨hB.2.1, hB.2.2, trivial⟩, (show TP D cA L T r σ_34 ρ_35 t.heap from by rw [ht]; exact hB.1)⟩, hS.F ht⟩) hS.2.2 dX11_gifts_122
              · skip
                have uc_37 := i_eq (n := (-1)) (by decide) c_37
                exfalso; omega
    · skip
      have uc_14 := i_nge (n := 8) (by decide) c_14
      refine lv_iconst (v := 1) hx hb dX11_gifts_10 (by decide) ?_
      refine lv_goto (tgt := 15) hx hb dX11_gifts_11 (by decide) ?_
      refine lv_istore_n (lv' := [(2, .int 1), (0, .ref h0), (1, .int p1)]) hx hb dX11_gifts_15 rfl hl (by decide) rfl (fun ls hl => ?_)
      refine lv_iload_n hx hb dX11_gifts_16 rfl (lv_at hl 2 rfl) ?_
      refine lv_bipush (v := 10) hx hb dX11_gifts_17 (by decide) ?_
      refine lv_icmp_lt (tgt := 32) hx hb dX11_gifts_19 (by decide) (fun c_41 => ?_) (fun c_41 => ?_)
      · skip
        have uc_41 := i_lt (n := 10) (by decide) c_41
        refine lv_iconst (v := 0) hx hb dX11_gifts_32 (by decide) ?_
        refine lv_istore_n (lv' := [(3, .int 0), (2, .int 1), (0, .ref h0), (1, .int p1)]) hx hb dX11_gifts_33 rfl hl (by decide) rfl (fun ls hl => ?_)
        refine lv_aload_n hx hb dX11_gifts_34 rfl (lv_at hl 2 rfl) ?_
        refine t_gr hx hb hts hown hK hG hB mh0 th0 fq_11_3 rfl mw_2_210 dX11_gifts_35 (fun b_42 hb_42 mb_42 tb_42 => ?_)
        refine t_gr hx hb hts hown hK hG hB mb_42 tb_42 fq_10_0 rfl mw_1_236 dX11_gifts_38 (fun b_43 hb_43 mb_43 tb_43 => ?_)
        refine t_gi hx hb hts hown hK hB mb_43 tb_43 fi_3_6 rfl mw_1_164 dX11_gifts_41 (fun x_44 ex_44 lx_44 ux_44 => ?_)
        have cx_44 := congrArg Int32.toInt ex_44
        refine lv_if_eq (tgt := 60) hx hb dX11_gifts_44 (by decide) (fun c_45 => ?_) (fun c_45 => ?_)
        · skip
          have uc_45 := i_eq (n := 0) (by decide) c_45
          refine lv_bipush (v := (-3)) hx hb dX11_gifts_60 (by decide) ?_
          exact W.iret (v := (-3)) hx hb hr (fun t ht hW => ⟨⟨(-3), (σ, ρ), rfl, ⟨hB.2.1, hB.2.2, trivial⟩, (show TP D cA L T r σ ρ t.heap from by rw [ht]; exact hB.1)⟩, hS.F ht⟩) hS.2.2 dX11_gifts_62
        · skip
          have uc_45 := i_ne (n := 0) (by decide) c_45
          refine lv_iload_n hx hb dX11_gifts_47 rfl (lv_at hl 3 rfl) ?_
          refine lv_iconst (v := (-1)) hx hb dX11_gifts_48 (by decide) ?_
          refine lv_icmp_eq (tgt := 63) hx hb dX11_gifts_49 (by decide) (fun c_46 => ?_) (fun c_46 => ?_)
          · skip
            have uc_46 := i_eq (n := (-1)) (by decide) c_46
            exfalso; omega
          · skip
            have uc_46 := i_ne (n := (-1)) (by decide) c_46
            refine lv_iload_n hx hb dX11_gifts_52 rfl (lv_at hl 1 rfl) ?_
            refine lv_if_ne (tgt := 63) hx hb dX11_gifts_53 (by decide) (fun _ => ?_) (fun c9 => absurd c9 (by decide))
            refine lv_aload_n hx hb dX11_gifts_63 rfl (lv_at hl 2 rfl) ?_
            refine t_gr hx hb hts hown hK hG hB mh0 th0 fq_11_8 rfl mw_2_215 dX11_gifts_64 (fun b_47 hb_47 mb_47 tb_47 => ?_)
            refine lv_aload_n hx hb dX11_gifts_67 rfl (lv_at hl 2 rfl) ?_
            refine t_gk hx hb hts hown hK hB mh0 th0 fq_11_3 hb_42 mw_2_210 dX11_gifts_68 ?_
            refine t_gk hx hb hts hown hK hB mb_42 tb_42 fq_10_0 hb_43 mw_1_236 dX11_gifts_71 ?_
            refine lv_aload_n hx hb dX11_gifts_74 rfl (lv_at hl 2 rfl) ?_
            refine t_gk hx hb hts hown hK hB mh0 th0 fq_11_3 hb_42 mw_2_210 dX11_gifts_75 ?_
            refine t_gr hx hb hts hown hK hG hB mb_42 tb_42 fq_10_2 rfl mw_2_1 dX11_gifts_78 (fun b_48 hb_48 mb_48 tb_48 => ?_)
            refine t_ci (va_runV (As := [.ref b_43, .ref b_48]) (rest := []) ⟨hx, hb, hml, hown, hts⟩ (cy_X1_countGifts l D cA L T r hG hLA.1 σ ρ hB.2.1 _ b_47 mb_47 tb_47 b_43 mb_43 tb_43 b_48 mb_48 tb_48) (cV hts mv_X1_countGifts mw_5_114 rfl rfl ⟨Nat.le_of_ble_eq_true rfl, Nat.le_of_ble_eq_true rfl⟩) (pV hB.1 hK hN mb_47 tb_47 (show shp cA 1 _ _ _ = .inr (1, Fs1 _ _ _) from rfl) rfl) rfl rfl hl.1 rfl (lv_room (Nat.le_of_ble_eq_true rfl)) dX11_gifts_81 ⟨Nat.le_of_ble_eq_true rfl, Nat.le_of_ble_eq_true rfl⟩) hLA hA hB hS (by decide) (fun x_51 σ_49 ρ_50 H locs hB fσ_49 pσ_49 hS => ?_)
            refine lv_istore (lv' := [(4, .int x_51), (3, .int 0), (2, .int 1), (0, .ref h0), (1, .int p1)]) hx hb dX11_gifts_84 hl (by decide) rfl (fun ls hl => ?_)
            refine lv_iload_n hx hb dX11_gifts_86 rfl (lv_at hl 4 rfl) ?_
            refine lv_iconst (v := (-1)) hx hb dX11_gifts_87 (by decide) ?_
            refine lv_icmp_ne (tgt := 94) hx hb dX11_gifts_88 (by decide) (fun c_52 => ?_) (fun c_52 => ?_)
            · skip
              have uc_52 := i_ne (n := (-1)) (by decide) c_52
              refine lv_iload_n hx hb dX11_gifts_94 rfl (lv_at hl 2 rfl) ?_
              refine lv_if_eq (tgt := 110) hx hb dX11_gifts_95 (by decide) (fun c9 => absurd c9 (by decide)) (fun _ => ?_)
              refine lv_aload_n hx hb dX11_gifts_98 rfl (lv_at hl 3 rfl) ?_
              refine t_gk hx hb hts hown hK hB mh0 th0 fq_11_8 hb_47 mw_2_215 dX11_gifts_99 ?_
              refine t_gr hx hb hts hown hK hG hB mb_47 tb_47 fq_1_6 rfl mw_2_133 dX11_gifts_102 (fun b_53 hb_53 mb_53 tb_53 => ?_)
              refine lv_iload_n hx hb dX11_gifts_105 rfl (lv_at hl 4 rfl) ?_
              refine t_ai hx hb hK hB mb_53 tb_53 ai_29 (fun _ => rfl) (i_in (by omega) (by omega)) dX11_gifts_106 (fun x_54 ex_54 lx_54 ux_54 => ?_)
              have cx_54 := congrArg Int32.toInt ex_54
              refine lv_goto (tgt := 122) hx hb dX11_gifts_107 (by decide) ?_
              exact W.iret (v := x_54) hx hb hr (fun t ht hW => ⟨⟨x_54, (σ_49, ρ_50), rfl, ⟨hB.2.1, hB.2.2, trivial⟩, (show TP D cA L T r σ_49 ρ_50 t.heap from by rw [ht]; exact hB.1)⟩, hS.F ht⟩) hS.2.2 dX11_gifts_122
            · skip
              have uc_52 := i_eq (n := (-1)) (by decide) c_52
              exfalso; omega
      · skip
        have uc_41 := i_nlt (n := 10) (by decide) c_41
        exfalso; omega
