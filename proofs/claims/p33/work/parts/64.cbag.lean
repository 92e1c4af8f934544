theorem orshl {b n x z : Int32} (h1 : x = b <<< ((2 : Int32) &&& 31)) (h2 : z = x ||| n) (hb0 : 0 ≤ b.toInt) (hb1 : b.toInt ≤ 255) (hn0 : 0 ≤ n.toInt) (hn1 : n.toInt ≤ 3) : z.toInt = 4 * b.toInt + n.toInt := by
  have eb := BitVec.toInt_eq_toNat_cond b.toBitVec
  rw [Int32.toInt_toBitVec b] at eb
  have en := BitVec.toInt_eq_toNat_cond n.toBitVec
  rw [Int32.toInt_toBitVec n] at en
  have lb := b.toBitVec.isLt
  have ln := n.toBitVec.isLt
  have hb : b.toInt = (b.toBitVec.toNat : Int) := by split at eb <;> omega
  have hn : n.toInt = (n.toBitVec.toNat : Int) := by split at en <;> omega
  have hx : x.toBitVec.toNat = b.toBitVec.toNat <<< 2 := by
    rw [h1, show ((2 : Int32) &&& 31) = 2 from by decide, Int32.toBitVec_shiftLeft, show ((2 : Int32).toBitVec.smod 32) = 2#32 from by decide, BitVec.shiftLeft_eq', BitVec.toNat_shiftLeft, show (2#32).toNat = 2 from rfl, Nat.shiftLeft_eq]
    omega
  have hz : z.toBitVec.toNat = 4 * b.toBitVec.toNat + n.toBitVec.toNat := by
    rw [h2, Int32.toBitVec_or, BitVec.toNat_or, hx, ← Nat.shiftLeft_add_eq_or_of_lt (by omega), Nat.shiftLeft_eq]
    omega
  have ez := BitVec.toInt_eq_toNat_cond z.toBitVec
  rw [Int32.toInt_toBitVec z, if_pos (by omega)] at ez
  omega
theorem shl1 {k z : Int32} (h : z = (1 : Int32) <<< (k &&& 31)) (h0 : 0 ≤ k.toInt) (h1 : k.toInt ≤ 10) : 1 ≤ z.toInt ∧ z.toInt ≤ 1024 := by
  rcases (show k.toInt = 0 ∨ k.toInt = 1 ∨ k.toInt = 2 ∨ k.toInt = 3 ∨ k.toInt = 4 ∨ k.toInt = 5 ∨ k.toInt = 6 ∨ k.toInt = 7 ∨ k.toInt = 8 ∨ k.toInt = 9 ∨ k.toInt = 10 by omega) with e | e | e | e | e | e | e | e | e | e | e
  · have q : k = 0 := i_is (by decide) e
    subst q; subst h; decide
  · have q : k = 1 := i_is (by decide) e
    subst q; subst h; decide
  · have q : k = 2 := i_is (by decide) e
    subst q; subst h; decide
  · have q : k = 3 := i_is (by decide) e
    subst q; subst h; decide
  · have q : k = 4 := i_is (by decide) e
    subst q; subst h; decide
  · have q : k = 5 := i_is (by decide) e
    subst q; subst h; decide
  · have q : k = 6 := i_is (by decide) e
    subst q; subst h; decide
  · have q : k = 7 := i_is (by decide) e
    subst q; subst h; decide
  · have q : k = 8 := i_is (by decide) e
    subst q; subst h; decide
  · have q : k = 9 := i_is (by decide) e
    subst q; subst h; decide
  · have q : k = 10 := i_is (by decide) e
    subst q; subst h; decide
set_option maxHeartbeats 4000000 in
set_option maxRecDepth 100000 in
theorem cz_X0_lessenNeed (l : Launch) (D : va_G) (cA : Nat → ClassId) (L : List Nat) (T : Nat → Nat) (r : Rg) (hG : GR L T r) (hL : L.Nodup) (σ : Sg) (ρ : Lg) (hW : WT L ry T σ) (sz : Nat) (h0 : Nat) (mh0 : h0 ∈ L) (th0 : T h0 = 0) (h1 : Nat) (mh1 : h1 ∈ L) (th1 : T h1 = 8) (p2 : Int32) (bn : Nat) (hbn : r h0 1 = some bn) (mbn : bn ∈ L) (tbn : T bn = 21) (w0 : 0 ≤ p2.toInt) (w1 : p2.toInt ≤ 3) : Met l yX0_lessenNeed (.code yX0_lessenNeed cX0_lessenNeed 4 none :: wsA) ({ frames := 1, cells := 0, slots := 0, locals := 40 }) (PR D cA L T r σ ρ sz [.ref h0, .ref h1, .int p2]) (QV D cA L T r ry [(21, 1000)] σ sz (fun σ1 => (∀ j : Nat, j < 5 → 0 ≤ (σ1 bn j).toInt))) 0 0 (dm L sz) := by
  refine Met.ofW (cc := cX0_lessenNeed) (maxL := 4) (ret := none) (by decide) rfl ?_
  intro p e s m args below meth c s₁ B hml hv
  obtain ⟨rfl, hsz, hP, hK, hN⟩ := hv
  have hx := B.exec
  have hb := B.bytes
  have hr := B.returns
  have hts : ∀ w ∈ wsA, w.before _ s = true := fun w h => atoms_spec (ws := .code yX0_lessenNeed cX0_lessenNeed 4 none :: wsA) B.pre w (List.mem_cons_of_mem _ h)
  have hown : s.vm.findClass RX0 = some m.cls := findClass_of_methodNamed B.named
  subst hsz
  have hLA : LA (dm L s.heap.size) L := ⟨hL, fun a h => Or.inl h⟩
  have hA : ∀ q : Nat, s.heap.size ≤ q → dm L s.heap.size q := fun q h => Or.inr h
  have hS : va_S (dm L s.heap.size) s.heap s.heap [] := va_S.rf
  have hB : TS D cA L T r ry [(21, 1000)] σ σ ρ s.heap := ⟨hP, hW, FR.rf⟩
  have hl := lv_entry ([.ref h0, .ref h1, .int p2]) (n := 4) (Nat.le_of_ble_eq_true rfl)
  rw [lg_entry_eq]
  generalize (lg_sl ([.ref h0, .ref h1, .int p2]) ++ List.replicate (4 - (lg_sl ([.ref h0, .ref h1, .int p2])).length) Slot.unset).toArray = ls at hl ⊢
  have hl : lv_has ls 4 [(0, .ref h0), (1, .ref h1), (2, .int p2)] := hl
  refine lv_iconst (v := 0) hx hb dX0_lessenNeed_0 (by decide) ?_
  refine lv_istore_n (lv' := [(3, .int 0), (0, .ref h0), (1, .ref h1), (2, .int p2)]) hx hb dX0_lessenNeed_1 rfl hl (by decide) rfl (fun ls hl => ?_)
  refine lv_iload_n hx hb dX0_lessenNeed_2 rfl (lv_at hl 0 rfl) ?_
  refine lv_iconst (v := 5) hx hb dX0_lessenNeed_3 (by decide) ?_
  refine lv_icmp_ge (tgt := 40) hx hb dX0_lessenNeed_4 (by decide) (fun c9 => absurd c9 (by decide)) (fun _ => ?_)
  refine lv_aload_n hx hb dX0_lessenNeed_7 rfl (lv_at hl 1 rfl) ?_
  refine t_gk hx hb hts hown hK hB mh0 th0 fq_0_1 hbn mw_2_97 dX0_lessenNeed_8 ?_
  refine lv_iload_n hx hb dX0_lessenNeed_11 rfl (lv_at hl 0 rfl) ?_
  refine lv_iconst (v := 0) hx hb dX0_lessenNeed_12 (by decide) ?_
  refine lv_aload_n hx hb dX0_lessenNeed_13 rfl (lv_at hl 1 rfl) ?_
  refine t_gk hx hb hts hown hK hB mh0 th0 fq_0_1 hbn mw_2_97 dX0_lessenNeed_14 ?_
  refine lv_iload_n hx hb dX0_lessenNeed_17 rfl (lv_at hl 0 rfl) ?_
  refine t_ai hx hb hK hB mbn tbn ai_21 (fun _ => rfl) (i_in (by decide) (by decide)) dX0_lessenNeed_18 (fun x_1 ex_1 lx_1 ux_1 => ?_)
  have cx_1 := congrArg Int32.toInt ex_1
  refine lv_aload_n hx hb dX0_lessenNeed_19 rfl (lv_at hl 2 rfl) ?_
  refine t_gr hx hb hts hown hK hG hB mh1 th1 fq_8_4 rfl mw_1_96 dX0_lessenNeed_20 (fun b_2 hb_2 mb_2 tb_2 => ?_)
  refine lv_iload_n hx hb dX0_lessenNeed_23 rfl (lv_at hl 3 rfl) ?_
  refine lv_iconst (v := 5) hx hb dX0_lessenNeed_24 (by decide) ?_
  refine lv_imul hx hb dX0_lessenNeed_25 ?_
  refine lv_topi (fun x_3 ex_3 => ?_)
  have vx_3 := b_mul (rfl : p2.toInt = _) (by decide : (5 : Int32).toInt = 5) ex_3 (by omega) (by omega)
  refine lv_iload_n hx hb dX0_lessenNeed_26 rfl (lv_at hl 0 rfl) ?_
  refine lv_iadd hx hb dX0_lessenNeed_27 ?_
  refine lv_topi (fun x_4 ex_4 => ?_)
  have vx_4 := b_add (rfl : x_3.toInt = _) (by decide : (0 : Int32).toInt = 0) ex_4 (by omega) (by omega)
  refine t_ai hx hb hK hB mb_2 tb_2 ai_49 (fun _ => rfl) (i_in (by omega) (by omega)) dX0_lessenNeed_28 (fun x_5 ex_5 lx_5 ux_5 => ?_)
  have cx_5 := congrArg Int32.toInt ex_5
  refine lv_isub hx hb dX0_lessenNeed_29 ?_
  refine lv_topi (fun x_6 ex_6 => ?_)
  try have vx_6 := b_sub (rfl : x_1.toInt = _) (rfl : x_5.toInt = _) ex_6 (by omega) (by omega)
  refine va_mmax hx hb (hml.trans hl.1.symm) hown (hts _ mw_5_0) (hts _ mw_3_120) (hts _ mw_1_18) (hts _ mw_3_121) (Nat.le_of_ble_eq_true rfl) (Nat.le_of_ble_eq_true rfl) (Nat.zero_le _) (Nat.zero_le _) dX0_lessenNeed_30 ?_
  refine lv_topi (fun x_7 ex_7 => ?_)
  obtain ⟨lx_7, mx_7, ux_7⟩ := m_max (by decide : (0 : Int32).toInt = 0) (rfl : x_6.toInt = _) ex_7
  refine t_si hx hb hK hLA hB hS mbn tbn ai_21 (i_in (by decide) (by decide)) (i_lo _) (i_hi _) (Or.inr (by decide)) dX0_lessenNeed_33 (fun H locs σ_8 eσ_8 hB hS => ?_)
  have k_9 : σ_8 bn 0 = x_7 := by rw [eσ_8]; exact up2_same _ _ _ _
  refine lv_iinc (v := 1) (lv' := [(3, .int 1), (0, .ref h0), (1, .ref h1), (2, .int p2)]) hx hb dX0_lessenNeed_34 hl (k := 0) rfl (by decide) (by decide) rfl (fun ls hl => ?_)
  refine lv_goto (tgt := 2) hx hb dX0_lessenNeed_37 (by decide) ?_
  refine lv_iload_n hx hb dX0_lessenNeed_2 rfl (lv_at hl 0 rfl) ?_
  refine lv_iconst (v := 5) hx hb dX0_lessenNeed_3 (by decide) ?_
  refine lv_icmp_ge (tgt := 40) hx hb dX0_lessenNeed_4 (by decide) (fun c9 => absurd c9 (by decide)) (fun _ => ?_)
  refine lv_aload_n hx hb dX0_lessenNeed_7 rfl (lv_at hl 1 rfl) ?_
  refine t_gk hx hb hts hown hK hB mh0 th0 fq_0_1 hbn mw_2_97 dX0_lessenNeed_8 ?_
  refine lv_iload_n hx hb dX0_lessenNeed_11 rfl (lv_at hl 0 rfl) ?_
  refine lv_iconst (v := 0) hx hb dX0_lessenNeed_12 (by decide) ?_
  refine lv_aload_n hx hb dX0_lessenNeed_13 rfl (lv_at hl 1 rfl) ?_
  refine t_gk hx hb hts hown hK hB mh0 th0 fq_0_1 hbn mw_2_97 dX0_lessenNeed_14 ?_
  refine lv_iload_n hx hb dX0_lessenNeed_17 rfl (lv_at hl 0 rfl) ?_
  refine t_ai hx hb hK hB mbn tbn ai_21 (fun _ => rfl) (i_in (by decide) (by decide)) dX0_lessenNeed_18 (fun x_10 ex_10 lx_10 ux_10 => ?_)
  have cx_10 := congrArg Int32.toInt ex_10
  refine lv_aload_n hx hb dX0_lessenNeed_19 rfl (lv_at hl 2 rfl) ?_
  refine t_gk hx hb hts hown hK hB mh1 th1 fq_8_4 hb_2 mw_1_96 dX0_lessenNeed_20 ?_
  refine lv_iload_n hx hb dX0_lessenNeed_23 rfl (lv_at hl 3 rfl) ?_
  refine lv_iconst (v := 5) hx hb dX0_lessenNeed_24 (by decide) ?_
  refine lv_imul hx hb dX0_lessenNeed_25 ?_
  refine lv_topi (fun x_11 ex_11 => ?_)
  have vx_11 := b_mul (rfl : p2.toInt = _) (by decide : (5 : Int32).toInt = 5) ex_11 (by omega) (by omega)
  refine lv_iload_n hx hb dX0_lessenNeed_26 rfl (lv_at hl 0 rfl) ?_
  refine lv_iadd hx hb dX0_lessenNeed_27 ?_
  refine lv_topi (fun x_12 ex_12 => ?_)
  have vx_12 := b_add (rfl : x_11.toInt = _) (by decide : (1 : Int32).toInt = 1) ex_12 (by omega) (by omega)
  refine t_ai hx hb hK hB mb_2 tb_2 ai_49 (fun _ => rfl) (i_in (by omega) (by omega)) dX0_lessenNeed_28 (fun x_13 ex_13 lx_13 ux_13 => ?_)
  have cx_13 := congrArg Int32.toInt ex_13
  refine lv_isub hx hb dX0_lessenNeed_29 ?_
  refine lv_topi (fun x_14 ex_14 => ?_)
  try have vx_14 := b_sub (rfl : x_10.toInt = _) (rfl : x_13.toInt = _) ex_14 (by omega) (by omega)
  refine va_mmax hx hb (hml.trans hl.1.symm) hown (hts _ mw_5_0) (hts _ mw_3_120) (hts _ mw_1_18) (hts _ mw_3_121) (Nat.le_of_ble_eq_true rfl) (Nat.le_of_ble_eq_true rfl) (Nat.zero_le _) (Nat.zero_le _) dX0_lessenNeed_30 ?_
  refine lv_topi (fun x_15 ex_15 => ?_)
  obtain ⟨lx_15, mx_15, ux_15⟩ := m_max (by decide : (0 : Int32).toInt = 0) (rfl : x_14.toInt = _) ex_15
  refine t_si hx hb hK hLA hB hS mbn tbn ai_21 (i_in (by decide) (by decide)) (i_lo _) (i_hi _) (Or.inr (by decide)) dX0_lessenNeed_33 (fun H locs σ_16 eσ_16 hB hS => ?_)
  have k_17 : σ_16 bn 1 = x_15 := by rw [eσ_16]; exact up2_same _ _ _ _
  refine lv_iinc (v := 2) (lv' := [(3, .int 2), (0, .ref h0), (1, .ref h1), (2, .int p2)]) hx hb dX0_lessenNeed_34 hl (k := 0) rfl (by decide) (by decide) rfl (fun ls hl => ?_)
  refine lv_goto (tgt := 2) hx hb dX0_lessenNeed_37 (by decide) ?_
  refine lv_iload_n hx hb dX0_lessenNeed_2 rfl (lv_at hl 0 rfl) ?_
  refine lv_iconst (v := 5) hx hb dX0_lessenNeed_3 (by decide) ?_
  refine lv_icmp_ge (tgt := 40) hx hb dX0_lessenNeed_4 (by decide) (fun c9 => absurd c9 (by decide)) (fun _ => ?_)
  refine lv_aload_n hx hb dX0_lessenNeed_7 rfl (lv_at hl 1 rfl) ?_
  refine t_gk hx hb hts hown hK hB mh0 th0 fq_0_1 hbn mw_2_97 dX0_lessenNeed_8 ?_
  refine lv_iload_n hx hb dX0_lessenNeed_11 rfl (lv_at hl 0 rfl) ?_
  refine lv_iconst (v := 0) hx hb dX0_lessenNeed_12 (by decide) ?_
  refine lv_aload_n hx hb dX0_lessenNeed_13 rfl (lv_at hl 1 rfl) ?_
  refine t_gk hx hb hts hown hK hB mh0 th0 fq_0_1 hbn mw_2_97 dX0_lessenNeed_14 ?_
  refine lv_iload_n hx hb dX0_lessenNeed_17 rfl (lv_at hl 0 rfl) ?_
  refine t_ai hx hb hK hB mbn tbn ai_21 (fun _ => rfl) (i_in (by decide) (by decide)) dX0_lessenNeed_18 (fun x_18 ex_18 lx_18 ux_18 => ?_)
  have cx_18 := congrArg Int32.toInt ex_18
  refine lv_aload_n hx hb dX0_lessenNeed_19 rfl (lv_at hl 2 rfl) ?_
  refine t_gk hx hb hts hown hK hB mh1 th1 fq_8_4 hb_2 mw_1_96 dX0_lessenNeed_20 ?_
  refine lv_iload_n hx hb dX0_lessenNeed_23 rfl (lv_at hl 3 rfl) ?_
  refine lv_iconst (v := 5) hx hb dX0_lessenNeed_24 (by decide) ?_
  refine lv_imul hx hb dX0_lessenNeed_25 ?_
  refine lv_topi (fun x_19 ex_19 => ?_)
  have vx_19 := b_mul (rfl : p2.toInt = _) (by decide : (5 : Int32).toInt = 5) ex_19 (by omega) (by omega)
  refine lv_iload_n hx hb dX0_lessenNeed_26 rfl (lv_at hl 0 rfl) ?_
  refine lv_iadd hx hb dX0_lessenNeed_27 ?_
  refine lv_topi (fun x_20 ex_20 => ?_)
  have vx_20 := b_add (rfl : x_19.toInt = _) (by decide : (2 : Int32).toInt = 2) ex_20 (by omega) (by omega)
  refine t_ai hx hb hK hB mb_2 tb_2 ai_49 (fun _ => rfl) (i_in (by omega) (by omega)) dX0_lessenNeed_28 (fun x_21 ex_21 lx_21 ux_21 => ?_)
  have cx_21 := congrArg Int32.toInt ex_21
  refine lv_isub hx hb dX0_lessenNeed_29 ?_
  refine lv_topi (fun x_22 ex_22 => ?_)
  try have vx_22 := b_sub (rfl : x_18.toInt = _) (rfl : x_21.toInt = _) ex_22 (by omega) (by omega)
  refine va_mmax hx hb (hml.trans hl.1.symm) hown (hts _ mw_5_0) (hts _ mw_3_120) (hts _ mw_1_18) (hts _ mw_3_121) (Nat.le_of_ble_eq_true rfl) (Nat.le_of_ble_eq_true rfl) (Nat.zero_le _) (Nat.zero_le _) dX0_lessenNeed_30 ?_
  refine lv_topi (fun x_23 ex_23 => ?_)
  obtain ⟨lx_23, mx_23, ux_23⟩ := m_max (by decide : (0 : Int32).toInt = 0) (rfl : x_22.toInt = _) ex_23
  refine t_si hx hb hK hLA hB hS mbn tbn ai_21 (i_in (by decide) (by decide)) (i_lo _) (i_hi _) (Or.inr (by decide)) dX0_lessenNeed_33 (fun H locs σ_24 eσ_24 hB hS => ?_)
  have k_25 : σ_24 bn 2 = x_23 := by rw [eσ_24]; exact up2_same _ _ _ _
  refine lv_iinc (v := 3) (lv' := [(3, .int 3), (0, .ref h0), (1, .ref h1), (2, .int p2)]) hx hb dX0_lessenNeed_34 hl (k := 0) rfl (by decide) (by decide) rfl (fun ls hl => ?_)
  refine lv_goto (tgt := 2) hx hb dX0_lessenNeed_37 (by decide) ?_
  refine lv_iload_n hx hb dX0_lessenNeed_2 rfl (lv_at hl 0 rfl) ?_
  refine lv_iconst (v := 5) hx hb dX0_lessenNeed_3 (by decide) ?_
  refine lv_icmp_ge (tgt := 40) hx hb dX0_lessenNeed_4 (by decide) (fun c9 => absurd c9 (by decide)) (fun _ => ?_)
  refine lv_aload_n hx hb dX0_lessenNeed_7 rfl (lv_at hl 1 rfl) ?_
  refine t_gk hx hb hts hown hK hB mh0 th0 fq_0_1 hbn mw_2_97 dX0_lessenNeed_8 ?_
  refine lv_iload_n hx hb dX0_lessenNeed_11 rfl (lv_at hl 0 rfl) ?_
  refine lv_iconst (v := 0) hx hb dX0_lessenNeed_12 (by decide) ?_
  refine lv_aload_n hx hb dX0_lessenNeed_13 rfl (lv_at hl 1 rfl) ?_
  refine t_gk hx hb hts hown hK hB mh0 th0 fq_0_1 hbn mw_2_97 dX0_lessenNeed_14 ?_
  refine lv_iload_n hx hb dX0_lessenNeed_17 rfl (lv_at hl 0 rfl) ?_
  refine t_ai hx hb hK hB mbn tbn ai_21 (fun _ => rfl) (i_in (by decide) (by decide)) dX0_lessenNeed_18 (fun x_26 ex_26 lx_26 ux_26 => ?_)
  have cx_26 := congrArg Int32.toInt ex_26
  refine lv_aload_n hx hb dX0_lessenNeed_19 rfl (lv_at hl 2 rfl) ?_
  refine t_gk hx hb hts hown hK hB mh1 th1 fq_8_4 hb_2 mw_1_96 dX0_lessenNeed_20 ?_
  refine lv_iload_n hx hb dX0_lessenNeed_23 rfl (lv_at hl 3 rfl) ?_
  refine lv_iconst (v := 5) hx hb dX0_lessenNeed_24 (by decide) ?_
  refine lv_imul hx hb dX0_lessenNeed_25 ?_
  refine lv_topi (fun x_27 ex_27 => ?_)
  have vx_27 := b_mul (rfl : p2.toInt = _) (by decide : (5 : Int32).toInt = 5) ex_27 (by omega) (by omega)
  refine lv_iload_n hx hb dX0_lessenNeed_26 rfl (lv_at hl 0 rfl) ?_
  refine lv_iadd hx hb dX0_lessenNeed_27 ?_
  refine lv_topi (fun x_28 ex_28 => ?_)
  have vx_28 := b_add (rfl : x_27.toInt = _) (by decide : (3 : Int32).toInt = 3) ex_28 (by omega) (by omega)
  refine t_ai hx hb hK hB mb_2 tb_2 ai_49 (fun _ => rfl) (i_in (by omega) (by omega)) dX0_lessenNeed_28 (fun x_29 ex_29 lx_29 ux_29 => ?_)
  have cx_29 := congrArg Int32.toInt ex_29
  refine lv_isub hx hb dX0_lessenNeed_29 ?_
  refine lv_topi (fun x_30 ex_30 => ?_)
  try have vx_30 := b_sub (rfl : x_26.toInt = _) (rfl : x_29.toInt = _) ex_30 (by omega) (by omega)
  refine va_mmax hx hb (hml.trans hl.1.symm) hown (hts _ mw_5_0) (hts _ mw_3_120) (hts _ mw_1_18) (hts _ mw_3_121) (Nat.le_of_ble_eq_true rfl) (Nat.le_of_ble_eq_true rfl) (Nat.zero_le _) (Nat.zero_le _) dX0_lessenNeed_30 ?_
  refine lv_topi (fun x_31 ex_31 => ?_)
  obtain ⟨lx_31, mx_31, ux_31⟩ := m_max (by decide : (0 : Int32).toInt = 0) (rfl : x_30.toInt = _) ex_31
  refine t_si hx hb hK hLA hB hS mbn tbn ai_21 (i_in (by decide) (by decide)) (i_lo _) (i_hi _) (Or.inr (by decide)) dX0_lessenNeed_33 (fun H locs σ_32 eσ_32 hB hS => ?_)
  have k_33 : σ_32 bn 3 = x_31 := by rw [eσ_32]; exact up2_same _ _ _ _
  refine lv_iinc (v := 4) (lv' := [(3, .int 4), (0, .ref h0), (1, .ref h1), (2, .int p2)]) hx hb dX0_lessenNeed_34 hl (k := 0) rfl (by decide) (by decide) rfl (fun ls hl => ?_)
  refine lv_goto (tgt := 2) hx hb dX0_lessenNeed_37 (by decide) ?_
  refine lv_iload_n hx hb dX0_lessenNeed_2 rfl (lv_at hl 0 rfl) ?_
  refine lv_iconst (v := 5) hx hb dX0_lessenNeed_3 (by decide) ?_
  refine lv_icmp_ge (tgt := 40) hx hb dX0_lessenNeed_4 (by decide) (fun c9 => absurd c9 (by decide)) (fun _ => ?_)
  refine lv_aload_n hx hb dX0_lessenNeed_7 rfl (lv_at hl 1 rfl) ?_
  refine t_gk hx hb hts hown hK hB mh0 th0 fq_0_1 hbn mw_2_97 dX0_lessenNeed_8 ?_
  refine lv_iload_n hx hb dX0_lessenNeed_11 rfl (lv_at hl 0 rfl) ?_
  refine lv_iconst (v := 0) hx hb dX0_lessenNeed_12 (by decide) ?_
  refine lv_aload_n hx hb dX0_lessenNeed_13 rfl (lv_at hl 1 rfl) ?_
  refine t_gk hx hb hts hown hK hB mh0 th0 fq_0_1 hbn mw_2_97 dX0_lessenNeed_14 ?_
  refine lv_iload_n hx hb dX0_lessenNeed_17 rfl (lv_at hl 0 rfl) ?_
  refine t_ai hx hb hK hB mbn tbn ai_21 (fun _ => rfl) (i_in (by decide) (by decide)) dX0_lessenNeed_18 (fun x_34 ex_34 lx_34 ux_34 => ?_)
  have cx_34 := congrArg Int32.toInt ex_34
  refine lv_aload_n hx hb dX0_lessenNeed_19 rfl (lv_at hl 2 rfl) ?_
  refine t_gk hx hb hts hown hK hB mh1 th1 fq_8_4 hb_2 mw_1_96 dX0_lessenNeed_20 ?_
  refine lv_iload_n hx hb dX0_lessenNeed_23 rfl (lv_at hl 3 rfl) ?_
  refine lv_iconst (v := 5) hx hb dX0_lessenNeed_24 (by decide) ?_
  refine lv_imul hx hb dX0_lessenNeed_25 ?_
  refine lv_topi (fun x_35 ex_35 => ?_)
  have vx_35 := b_mul (rfl : p2.toInt = _) (by decide : (5 : Int32).toInt = 5) ex_35 (by omega) (by omega)
  refine lv_iload_n hx hb dX0_lessenNeed_26 rfl (lv_at hl 0 rfl) ?_
  refine lv_iadd hx hb dX0_lessenNeed_27 ?_
  refine lv_topi (fun x_36 ex_36 => ?_)
  have vx_36 := b_add (rfl : x_35.toInt = _) (by decide : (4 : Int32).toInt = 4) ex_36 (by omega) (by omega)
  refine t_ai hx hb hK hB mb_2 tb_2 ai_49 (fun _ => rfl) (i_in (by omega) (by omega)) dX0_lessenNeed_28 (fun x_37 ex_37 lx_37 ux_37 => ?_)
  have cx_37 := congrArg Int32.toInt ex_37
  refine lv_isub hx hb dX0_lessenNeed_29 ?_
  refine lv_topi (fun x_38 ex_38 => ?_)
  try have vx_38 := b_sub (rfl : x_34.toInt = _) (rfl : x_37.toInt = _) ex_38 (by omega) (by omega)
  refine va_mmax hx hb (hml.trans hl.1.symm) hown (hts _ mw_5_0) (hts _ mw_3_120) (hts _ mw_1_18) (hts _ mw_3_121) (Nat.le_of_ble_eq_true rfl) (Nat.le_of_ble_eq_true rfl) (Nat.zero_le _) (Nat.zero_le _) dX0_lessenNeed_30 ?_
  refine lv_topi (fun x_39 ex_39 => ?_)
  obtain ⟨lx_39, mx_39, ux_39⟩ := m_max (by decide : (0 : Int32).toInt = 0) (rfl : x_38.toInt = _) ex_39
  refine t_si hx hb hK hLA hB hS mbn tbn ai_21 (i_in (by decide) (by decide)) (i_lo _) (i_hi _) (Or.inr (by decide)) dX0_lessenNeed_33 (fun H locs σ_40 eσ_40 hB hS => ?_)
  have k_41 : σ_40 bn 4 = x_39 := by rw [eσ_40]; exact up2_same _ _ _ _
  refine lv_iinc (v := 5) (lv' := [(3, .int 5), (0, .ref h0), (1, .ref h1), (2, .int p2)]) hx hb dX0_lessenNeed_34 hl (k := 0) rfl (by decide) (by decide) rfl (fun ls hl => ?_)
  refine lv_goto (tgt := 2) hx hb dX0_lessenNeed_37 (by decide) ?_
  refine lv_iload_n hx hb dX0_lessenNeed_2 rfl (lv_at hl 0 rfl) ?_
  refine lv_iconst (v := 5) hx hb dX0_lessenNeed_3 (by decide) ?_
  refine lv_icmp_ge (tgt := 40) hx hb dX0_lessenNeed_4 (by decide) (fun _ => ?_) (fun c9 => absurd (by decide) c9)
  have k_42 : σ_16 bn 0 = x_7 := by rw [eσ_16, up2_nej _ _ (by decide)]; exact k_9
  have k_43 : σ_24 bn 0 = x_7 := by rw [eσ_24, up2_nej _ _ (by decide)]; exact k_42
  have k_44 : σ_32 bn 0 = x_7 := by rw [eσ_32, up2_nej _ _ (by decide)]; exact k_43
  have k_45 : σ_40 bn 0 = x_7 := by rw [eσ_40, up2_nej _ _ (by decide)]; exact k_44
  have k_46 : σ_24 bn 1 = x_15 := by rw [eσ_24, up2_nej _ _ (by decide)]; exact k_17
  have k_47 : σ_32 bn 1 = x_15 := by rw [eσ_32, up2_nej _ _ (by decide)]; exact k_46
  have k_48 : σ_40 bn 1 = x_15 := by rw [eσ_40, up2_nej _ _ (by decide)]; exact k_47
  have k_49 : σ_32 bn 2 = x_23 := by rw [eσ_32, up2_nej _ _ (by decide)]; exact k_25
  have k_50 : σ_40 bn 2 = x_23 := by rw [eσ_40, up2_nej _ _ (by decide)]; exact k_49
  have k_51 : σ_40 bn 3 = x_31 := by rw [eσ_40, up2_nej _ _ (by decide)]; exact k_33
  exact W.vret hx hb hr (fun t ht hW => ⟨⟨(σ_40, ρ), rfl, ⟨hB.2.1, hB.2.2, (show ∀ j : Nat, j < 5 → 0 ≤ (σ_40 bn j).toInt from (fun j hj => by rcases (show j = 0 ∨ j = 1 ∨ j = 2 ∨ j = 3 ∨ j = 4 by omega) with e | e | e | e | e <;> rw [e]; (rw [k_45]; omega); (rw [k_48]; omega); (rw [k_50]; omega); (rw [k_51]; omega); (rw [k_41]; omega)))⟩, (show TP D cA L T r σ_40 ρ t.heap from by rw [ht]; exact hB.1)⟩, hS.F ht⟩) hS.2.2 dX0_lessenNeed_40
theorem dX0_bagOfNeed_0 : decode cX0_bagOfNeed 0 = .ok (.iconst 0, 1) := by decide +kernel
theorem dX0_bagOfNeed_1 : decode cX0_bagOfNeed 1 = .ok (.istore_n 2, 1) := by decide +kernel
theorem dX0_bagOfNeed_2 : decode cX0_bagOfNeed 2 = .ok (.iconst 0, 1) := by decide +kernel
theorem dX0_bagOfNeed_3 : decode cX0_bagOfNeed 3 = .ok (.istore_n 3, 1) := by decide +kernel
theorem dX0_bagOfNeed_4 : decode cX0_bagOfNeed 4 = .ok (.iload_n 3, 1) := by decide +kernel
theorem dX0_bagOfNeed_5 : decode cX0_bagOfNeed 5 = .ok (.aload_n 1, 1) := by decide +kernel
theorem dX0_bagOfNeed_6 : decode cX0_bagOfNeed 6 = .ok (.getfield 66, 3) := by decide +kernel
theorem dX0_bagOfNeed_9 : decode cX0_bagOfNeed 9 = .ok (.if_icmp .ge 32, 3) := by decide +kernel
theorem dX0_bagOfNeed_12 : decode cX0_bagOfNeed 12 = .ok (.aload_n 0, 1) := by decide +kernel
theorem dX0_bagOfNeed_13 : decode cX0_bagOfNeed 13 = .ok (.getfield 15, 3) := by decide +kernel
theorem dX0_bagOfNeed_16 : decode cX0_bagOfNeed 16 = .ok (.iload_n 3, 1) := by decide +kernel
theorem dX0_bagOfNeed_17 : decode cX0_bagOfNeed 17 = .ok (.iaload, 1) := by decide +kernel
theorem dX0_bagOfNeed_18 : decode cX0_bagOfNeed 18 = .ok (.iconst 3, 1) := by decide +kernel
theorem dX0_bagOfNeed_19 : decode cX0_bagOfNeed 19 = .ok (.if_icmp .le 5, 3) := by decide +kernel
theorem dX0_bagOfNeed_24 : decode cX0_bagOfNeed 24 = .ok (.iload_n 2, 1) := by decide +kernel
theorem dX0_bagOfNeed_25 : decode cX0_bagOfNeed 25 = .ok (.iconst 2, 1) := by decide +kernel
theorem dX0_bagOfNeed_26 : decode cX0_bagOfNeed 26 = .ok (.ishl, 1) := by decide +kernel
theorem dX0_bagOfNeed_27 : decode cX0_bagOfNeed 27 = .ok (.aload_n 0, 1) := by decide +kernel
theorem dX0_bagOfNeed_28 : decode cX0_bagOfNeed 28 = .ok (.getfield 15, 3) := by decide +kernel
theorem dX0_bagOfNeed_31 : decode cX0_bagOfNeed 31 = .ok (.iload_n 3, 1) := by decide +kernel
theorem dX0_bagOfNeed_32 : decode cX0_bagOfNeed 32 = .ok (.iaload, 1) := by decide +kernel
theorem dX0_bagOfNeed_33 : decode cX0_bagOfNeed 33 = .ok (.ior, 1) := by decide +kernel
theorem dX0_bagOfNeed_34 : decode cX0_bagOfNeed 34 = .ok (.istore_n 2, 1) := by decide +kernel
theorem dX0_bagOfNeed_35 : decode cX0_bagOfNeed 35 = .ok (.iinc 3 1, 3) := by decide +kernel
theorem dX0_bagOfNeed_38 : decode cX0_bagOfNeed 38 = .ok (.goto (-34), 3) := by decide +kernel
theorem dX0_bagOfNeed_22 : decode cX0_bagOfNeed 22 = .ok (.iconst (-1), 1) := by decide +kernel
theorem dX0_bagOfNeed_23 : decode cX0_bagOfNeed 23 = .ok (.ireturn, 1) := by decide +kernel
theorem dX0_bagOfNeed_41 : decode cX0_bagOfNeed 41 = .ok (.iload_n 2, 1) := by decide +kernel
theorem dX0_bagOfNeed_42 : decode cX0_bagOfNeed 42 = .ok (.ireturn, 1) := by decide +kernel
set_option maxHeartbeats 4000000 in
set_option maxRecDepth 100000 in
theorem cy_X0_bagOfNeed (l : Launch) (D : va_G) (cA : Nat → ClassId) (L : List Nat) (T : Nat → Nat) (r : Rg) (hG : GR L T r) (hL : L.Nodup) (σ : Sg) (ρ : Lg) (hW : WT L ry T σ) (sz : Nat) (h0 : Nat) (mh0 : h0 ∈ L) (th0 : T h0 = 0) (h1 : Nat) (mh1 : h1 ∈ L) (th1 : T h1 = 3) (bn : Nat) (hbn : r h0 1 = some bn) (mbn : bn ∈ L) (tbn : T bn = 21) (w0 : ∀ j : Nat, j < 5 → 0 ≤ (σ bn j).toInt) : Met l yX0_bagOfNeed (.code yX0_bagOfNeed cX0_bagOfNeed 4 (some .int) :: wsA) ({ frames := 0, cells := 0, slots := 0, locals := 0 }) (PR D cA L T r σ ρ sz [.ref h0, .ref h1]) (QI D cA L T r ry ([] : List (Nat × Nat)) σ sz (fun x σ1 => ((-1) ≤ x.toInt ∧ x.toInt ≤ 1023))) 0 0 (dm L sz) := by
  refine Met.ofW (cc := cX0_bagOfNeed) (maxL := 4) (ret := (some .int)) (by decide) rfl ?_
  intro p e s m args below meth c s₁ B hml hv
  obtain ⟨rfl, hsz, hP, hK, hN⟩ := hv
  have hx := B.exec
  have hb := B.bytes
  have hr := B.returns
  have hts : ∀ w ∈ wsA, w.before _ s = true := fun w h => atoms_spec (ws := .code yX0_bagOfNeed cX0_bagOfNeed 4 (some .int) :: wsA) B.pre w (List.mem_cons_of_mem _ h)
  have hown : s.vm.findClass RX0 = some m.cls := findClass_of_methodNamed B.named
  subst hsz
  have hLA : LA (dm L s.heap.size) L := ⟨hL, fun a h => Or.inl h⟩
  have hA : ∀ q : Nat, s.heap.size ≤ q → dm L s.heap.size q := fun q h => Or.inr h
  have hS : va_S (dm L s.heap.size) s.heap s.heap [] := va_S.rf
  have hB : TS D cA L T r ry ([] : List (Nat × Nat)) σ σ ρ s.heap := ⟨hP, hW, FR.rf⟩
  have hl := lv_entry ([.ref h0, .ref h1]) (n := 4) (Nat.le_of_ble_eq_true rfl)
  rw [lg_entry_eq]
  generalize (lg_sl ([.ref h0, .ref h1]) ++ List.replicate (4 - (lg_sl ([.ref h0, .ref h1])).length) Slot.unset).toArray = ls at hl ⊢
  have hl : lv_has ls 4 [(0, .ref h0), (1, .ref h1)] := hl
  refine lv_iconst (v := 0) hx hb dX0_bagOfNeed_0 (by decide) ?_
  refine lv_istore_n (lv' := [(2, .int 0), (0, .ref h0), (1, .ref h1)]) hx hb dX0_bagOfNeed_1 rfl hl (by decide) rfl (fun ls hl => ?_)
  refine lv_iconst (v := 0) hx hb dX0_bagOfNeed_2 (by decide) ?_
  refine lv_istore_n (lv' := [(3, .int 0), (2, .int 0), (0, .ref h0), (1, .ref h1)]) hx hb dX0_bagOfNeed_3 rfl hl (by decide) rfl (fun ls hl => ?_)
  refine w_loop (α := Int32 × Int32 × Sg × Lg) (fun (i_1, i_2, σ_3, ρ_4) H locs ls => 0 ≤ i_1.toInt ∧ i_1.toInt ≤ 1023 ∧ 0 ≤ i_2.toInt ∧ i_2.toInt ≤ 5 ∧ ((i_2.toInt = 0 → i_1.toInt ≤ 0) ∧ (i_2.toInt = 1 → i_1.toInt ≤ 3) ∧ (i_2.toInt = 2 → i_1.toInt ≤ 15) ∧ (i_2.toInt = 3 → i_1.toInt ≤ 63) ∧ (i_2.toInt = 4 → i_1.toInt ≤ 255) ∧ (i_2.toInt = 5 → i_1.toInt ≤ 1023)) ∧ TS D cA L T r ry ([] : List (Nat × Nat)) σ σ_3 ρ_4 H ∧ va_S (dm L s.heap.size) s.heap H locs ∧ lv_has ls 4 [(3, .int i_2), (2, .int i_1), (0, .ref h0), (1, .ref h1)]) (fun (i_1, i_2, σ_3, ρ_4) => (5 - i_2.toInt).toNat) ?_ ⟨0, 0, σ, ρ⟩ ⟨(by decide), (by decide), (by decide), (by decide), (by have z : (0 : Int32).toInt = 0 := (by decide); omega), hB, hS, lv_sub hl [0, 1, 2, 3] rfl⟩
  rintro ⟨i_1, i_2, σ_3, ρ_4⟩ H locs ls ⟨li_1, ui_1, li_2, ui_2, g_6, hB, hS, hl⟩ ih_5
  refine lv_iload_n hx hb dX0_bagOfNeed_4 rfl (lv_at hl 0 rfl) ?_
  refine lv_aload_n hx hb dX0_bagOfNeed_5 rfl (lv_at hl 3 rfl) ?_
  refine t_gi hx hb hts hown hK hB mh1 th1 fi_3_8 rfl mw_1_176 dX0_bagOfNeed_6 (fun x_7 ex_7 lx_7 ux_7 => ?_)
  have cx_7 := congrArg Int32.toInt ex_7
  refine lv_icmp_ge (tgt := 41) hx hb dX0_bagOfNeed_9 (by decide) (fun c_8 => ?_) (fun c_8 => ?_)
  · skip
    have uc_8 := j_le c_8
    refine lv_iload_n hx hb dX0_bagOfNeed_41 rfl (lv_at hl 1 rfl) ?_
    exact W.iret (v := i_1) hx hb hr (fun t ht hW => ⟨⟨i_1, (σ_3, ρ_4), rfl, ⟨hB.2.1, hB.2.2, (show (-1) ≤ (i_1 : Int32).toInt ∧ (i_1 : Int32).toInt ≤ 1023 from ⟨by omega, by omega⟩)⟩, (show TP D cA L T r σ_3 ρ_4 t.heap from by rw [ht]; exact hB.1)⟩, hS.F ht⟩) hS.2.2 dX0_bagOfNeed_42
  · skip
    have uc_8 := j_nle c_8
    refine lv_aload_n hx hb dX0_bagOfNeed_12 rfl (lv_at hl 2 rfl) ?_
    refine t_gk hx hb hts hown hK hB mh0 th0 fq_0_1 hbn mw_2_97 dX0_bagOfNeed_13 ?_
    refine lv_iload_n hx hb dX0_bagOfNeed_16 rfl (lv_at hl 0 rfl) ?_
    refine t_ai hx hb hK hB mbn tbn ai_21 (fun _ => rfl) (i_in (by omega) (by omega)) dX0_bagOfNeed_17 (fun x_9 ex_9 lx_9 ux_9 => ?_)
    have cx_9 := congrArg Int32.toInt ex_9
    have nnx_9 := w0 i_2.toNatClampNeg (by have hn : i_2.toNatClampNeg = i_2.toInt.toNat := rfl; omega)
    have nrx_9 := congrArg Int32.toInt (congrFun (FR.row hB.2.2 tbn (fun j => by simp)) i_2.toNatClampNeg)
    refine lv_iconst (v := 3) hx hb dX0_bagOfNeed_18 (by decide) ?_
    refine lv_icmp_le (tgt := 24) hx hb dX0_bagOfNeed_19 (by decide) (fun c_10 => ?_) (fun c_10 => ?_)
    · skip
      have uc_10 := i_le (n := 3) (by decide) c_10
      refine lv_iload_n hx hb dX0_bagOfNeed_24 rfl (lv_at hl 1 rfl) ?_
      refine lv_iconst (v := 2) hx hb dX0_bagOfNeed_25 (by decide) ?_
      refine lv_ishl hx hb dX0_bagOfNeed_26 ?_
      refine lv_topi (fun x_11 ex_11 => ?_)
      have lx_11 := i_lo x_11
      have ux_11 := i_hi x_11
      refine lv_aload_n hx hb dX0_bagOfNeed_27 rfl (lv_at hl 2 rfl) ?_
      refine t_gk hx hb hts hown hK hB mh0 th0 fq_0_1 hbn mw_2_97 dX0_bagOfNeed_28 ?_
      refine lv_iload_n hx hb dX0_bagOfNeed_31 rfl (lv_at hl 0 rfl) ?_
      refine t_ai hx hb hK hB mbn tbn ai_21 (fun _ => rfl) (i_in (by omega) (by omega)) dX0_bagOfNeed_32 (fun x_12 ex_12 lx_12 ux_12 => ?_)
      have qx_12 : x_12 = x_9 := ex_12.trans ex_9.symm
      have qx_12 := qx_12.symm
      subst qx_12
      refine lv_ior hx hb dX0_bagOfNeed_33 ?_
      refine lv_topi (fun x_13 ex_13 => ?_)
      have vx_13 := orshl ex_11 ex_13 (by omega) (by omega) (by omega) (by omega)
      refine lv_istore_n (lv' := [(2, .int x_13), (3, .int i_2), (0, .ref h0), (1, .ref h1)]) hx hb dX0_bagOfNeed_34 rfl hl (by decide) rfl (fun ls hl => ?_)
      obtain ⟨x_14, ex_14⟩ : ∃ y : Int32, y = i_2 + 1 := ⟨_, rfl⟩
      have vx_14 := b_add (rfl : i_2.toInt = _) (by decide : (1 : Int32).toInt = 1) ex_14 (by omega) (by omega)
      refine lv_iinc (v := x_14) (lv' := [(3, .int x_14), (2, .int x_13), (0, .ref h0), (1, .ref h1)]) hx hb dX0_bagOfNeed_35 hl (k := 1) rfl (by rw [ex_14]; rfl) (by decide) rfl (fun ls hl => ?_)
      refine lv_goto (tgt := 4) hx hb dX0_bagOfNeed_38 (by decide) ?_
      exact ih_5 ⟨x_13, x_14, σ_3, ρ_4⟩ _ _ _ ⟨(by omega), (by omega), (by omega), (by omega), (by have z : (0 : Int32).toInt = 0 := (by decide); omega), hB, hS, lv_sub hl [0, 1, 2, 3] rfl⟩ (by show (5 - x_14.toInt).toNat < (5 - i_2.toInt).toNat; omega)
    · skip
      have uc_10 := i_nle (n := 3) (by decide) c_10
      refine lv_iconst (v := (-1)) hx hb dX0_bagOfNeed_22 (by decide) ?_
      exact W.iret (v := (-1)) hx hb hr (fun t ht hW => ⟨⟨(-1), (σ_3, ρ_4), rfl, ⟨hB.2.1, hB.2.2, (show (-1) ≤ ((-1) : Int32).toInt ∧ ((-1) : Int32).toInt ≤ 1023 from ⟨by decide, by decide⟩)⟩, (show TP D cA L T r σ_3 ρ_4 t.heap from by rw [ht]; exact hB.1)⟩, hS.F ht⟩) hS.2.2 dX0_bagOfNeed_23
theorem mw_2_101 : (.fieldLink RX0 21 "HillBends$Chances" "byBag" "[I" : Cond) ∈ wsA := wsA_t (List.mem_append_right _ (List.mem_append_left _ (List.mem_of_getElem? (l := tables_1_2) (i := 101) rfl))) rfl
theorem mw_5_39 : (.instanceMethod yX0_bagOfNeed : Cond) ∈ wsA := wsA_t (List.mem_append_right _ (List.mem_append_right _ (List.mem_append_right _ (List.mem_append_right _ (List.mem_append_left _ (List.mem_of_getElem? (l := tables_1_5) (i := 39) rfl)))))) rfl
theorem mp_3_3 : (.selects RX0 yX0_bagOfNeed yX0_bagOfNeed : Cond) ∈ wsA := wsA_p (q := (yX0_bagOfNeed, 6)) (List.mem_append_right _ (List.mem_append_right _ (List.mem_append_left _ (List.mem_of_getElem? (l := lw_privs_3) (i := 3) rfl))))
theorem mw_5_40 : (.code yX0_bagOfNeed cX0_bagOfNeed 4 (some .int) : Cond) ∈ wsA := wsA_t (List.mem_append_right _ (List.mem_append_right _ (List.mem_append_right _ (List.mem_append_right _ (List.mem_append_left _ (List.mem_of_getElem? (l := tables_1_5) (i := 40) rfl)))))) rfl
theorem mw_5_37 : (.methodLink RX0 98 yX0_bagOfNeed : Cond) ∈ wsA := wsA_t (List.mem_append_right _ (List.mem_append_right _ (List.mem_append_right _ (List.mem_append_right _ (List.mem_append_left _ (List.mem_of_getElem? (l := tables_1_5) (i := 37) rfl)))))) rfl
theorem dX0_countByNeed_0 : decode cX0_countByNeed 0 = .ok (.iconst 0, 1) := by decide +kernel
theorem dX0_countByNeed_1 : decode cX0_countByNeed 1 = .ok (.istore 5, 2) := by decide +kernel
theorem dX0_countByNeed_3 : decode cX0_countByNeed 3 = .ok (.iload 5, 2) := by decide +kernel
theorem dX0_countByNeed_5 : decode cX0_countByNeed 5 = .ok (.iload 4, 2) := by decide +kernel
theorem dX0_countByNeed_7 : decode cX0_countByNeed 7 = .ok (.if_icmp .ge 17, 3) := by decide +kernel
theorem dX0_countByNeed_10 : decode cX0_countByNeed 10 = .ok (.aload_n 0, 1) := by decide +kernel
theorem dX0_countByNeed_11 : decode cX0_countByNeed 11 = .ok (.getfield 21, 3) := by decide +kernel
theorem dX0_countByNeed_14 : decode cX0_countByNeed 14 = .ok (.iload 5, 2) := by decide +kernel
theorem dX0_countByNeed_16 : decode cX0_countByNeed 16 = .ok (.iconst 0, 1) := by decide +kernel
theorem dX0_countByNeed_17 : decode cX0_countByNeed 17 = .ok (.iastore, 1) := by decide +kernel
theorem dX0_countByNeed_18 : decode cX0_countByNeed 18 = .ok (.iinc 5 1, 3) := by decide +kernel
theorem dX0_countByNeed_21 : decode cX0_countByNeed 21 = .ok (.goto (-18), 3) := by decide +kernel
theorem dX0_countByNeed_24 : decode cX0_countByNeed 24 = .ok (.iconst 0, 1) := by decide +kernel
theorem dX0_countByNeed_25 : decode cX0_countByNeed 25 = .ok (.istore 5, 2) := by decide +kernel
theorem dX0_countByNeed_27 : decode cX0_countByNeed 27 = .ok (.iload 5, 2) := by decide +kernel
theorem dX0_countByNeed_29 : decode cX0_countByNeed 29 = .ok (.iconst 1, 1) := by decide +kernel
theorem dX0_countByNeed_30 : decode cX0_countByNeed 30 = .ok (.aload_n 1, 1) := by decide +kernel
theorem dX0_countByNeed_31 : decode cX0_countByNeed 31 = .ok (.getfield 36, 3) := by decide +kernel
theorem dX0_countByNeed_34 : decode cX0_countByNeed 34 = .ok (.ishl, 1) := by decide +kernel
theorem dX0_countByNeed_35 : decode cX0_countByNeed 35 = .ok (.if_icmp .ge 77, 3) := by decide +kernel
theorem dX0_countByNeed_38 : decode cX0_countByNeed 38 = .ok (.aload_n 0, 1) := by decide +kernel
theorem dX0_countByNeed_39 : decode cX0_countByNeed 39 = .ok (.invokevirtual 49, 3) := by decide +kernel
theorem dX0_countByNeed_42 : decode cX0_countByNeed 42 = .ok (.iconst 0, 1) := by decide +kernel
theorem dX0_countByNeed_43 : decode cX0_countByNeed 43 = .ok (.istore 6, 2) := by decide +kernel
theorem dX0_countByNeed_45 : decode cX0_countByNeed 45 = .ok (.iload 6, 2) := by decide +kernel
theorem dX0_countByNeed_47 : decode cX0_countByNeed 47 = .ok (.aload_n 1, 1) := by decide +kernel
theorem dX0_countByNeed_48 : decode cX0_countByNeed 48 = .ok (.getfield 36, 3) := by decide +kernel
theorem dX0_countByNeed_51 : decode cX0_countByNeed 51 = .ok (.if_icmp .ge 26, 3) := by decide +kernel
theorem dX0_countByNeed_54 : decode cX0_countByNeed 54 = .ok (.aload_n 0, 1) := by decide +kernel
theorem dX0_countByNeed_55 : decode cX0_countByNeed 55 = .ok (.getfield 15, 3) := by decide +kernel
theorem dX0_countByNeed_58 : decode cX0_countByNeed 58 = .ok (.aload_n 1, 1) := by decide +kernel
theorem dX0_countByNeed_59 : decode cX0_countByNeed 59 = .ok (.iload 6, 2) := by decide +kernel
theorem dX0_countByNeed_61 : decode cX0_countByNeed 61 = .ok (.iload 5, 2) := by decide +kernel
theorem dX0_countByNeed_63 : decode cX0_countByNeed 63 = .ok (.invokevirtual 45, 3) := by decide +kernel
theorem dX0_countByNeed_66 : decode cX0_countByNeed 66 = .ok (.dup2, 1) := by decide +kernel
theorem dX0_countByNeed_67 : decode cX0_countByNeed 67 = .ok (.iaload, 1) := by decide +kernel
theorem dX0_countByNeed_68 : decode cX0_countByNeed 68 = .ok (.iconst 1, 1) := by decide +kernel
theorem dX0_countByNeed_69 : decode cX0_countByNeed 69 = .ok (.iadd, 1) := by decide +kernel
theorem dX0_countByNeed_70 : decode cX0_countByNeed 70 = .ok (.iastore, 1) := by decide +kernel
theorem dX0_countByNeed_71 : decode cX0_countByNeed 71 = .ok (.iinc 6 1, 3) := by decide +kernel
theorem dX0_countByNeed_74 : decode cX0_countByNeed 74 = .ok (.goto (-29), 3) := by decide +kernel
theorem dX0_countByNeed_77 : decode cX0_countByNeed 77 = .ok (.aload_n 0, 1) := by decide +kernel
theorem dX0_countByNeed_78 : decode cX0_countByNeed 78 = .ok (.aload_n 2, 1) := by decide +kernel
theorem dX0_countByNeed_79 : decode cX0_countByNeed 79 = .ok (.iload_n 3, 1) := by decide +kernel
theorem dX0_countByNeed_80 : decode cX0_countByNeed 80 = .ok (.invokevirtual 52, 3) := by decide +kernel
theorem dX0_countByNeed_83 : decode cX0_countByNeed 83 = .ok (.aload_n 0, 1) := by decide +kernel
theorem dX0_countByNeed_84 : decode cX0_countByNeed 84 = .ok (.aload_n 1, 1) := by decide +kernel
theorem dX0_countByNeed_85 : decode cX0_countByNeed 85 = .ok (.invokevirtual 98, 3) := by decide +kernel
theorem dX0_countByNeed_88 : decode cX0_countByNeed 88 = .ok (.istore 6, 2) := by decide +kernel
theorem dX0_countByNeed_90 : decode cX0_countByNeed 90 = .ok (.iload 6, 2) := by decide +kernel
theorem dX0_countByNeed_92 : decode cX0_countByNeed 92 = .ok (.ifCond .lt 14, 3) := by decide +kernel
theorem dX0_countByNeed_106 : decode cX0_countByNeed 106 = .ok (.iinc 5 1, 3) := by decide +kernel
theorem dX0_countByNeed_109 : decode cX0_countByNeed 109 = .ok (.goto (-82), 3) := by decide +kernel
theorem dX0_countByNeed_95 : decode cX0_countByNeed 95 = .ok (.aload_n 0, 1) := by decide +kernel
theorem dX0_countByNeed_96 : decode cX0_countByNeed 96 = .ok (.getfield 21, 3) := by decide +kernel
theorem dX0_countByNeed_99 : decode cX0_countByNeed 99 = .ok (.iload 6, 2) := by decide +kernel
theorem dX0_countByNeed_101 : decode cX0_countByNeed 101 = .ok (.dup2, 1) := by decide +kernel
theorem dX0_countByNeed_102 : decode cX0_countByNeed 102 = .ok (.iaload, 1) := by decide +kernel
theorem dX0_countByNeed_103 : decode cX0_countByNeed 103 = .ok (.iconst 1, 1) := by decide +kernel
theorem dX0_countByNeed_104 : decode cX0_countByNeed 104 = .ok (.iadd, 1) := by decide +kernel
theorem dX0_countByNeed_105 : decode cX0_countByNeed 105 = .ok (.iastore, 1) := by decide +kernel
theorem dX0_countByNeed_112 : decode cX0_countByNeed 112 = .ok (.return_, 1) := by decide +kernel
theorem mv_X0_bagOfNeed : MV RX0 yX0_bagOfNeed cX0_bagOfNeed 4 (some .int) 1 := ⟨mw_5_39, mp_3_3, mw_1_9, mw_5_40, ⟨rfl, by decide, by decide, by decide +kernel⟩⟩
set_option maxHeartbeats 4000000 in
set_option maxRecDepth 100000 in
theorem cy_X0_countByNeed (l : Launch) (D : va_G) (cA : Nat → ClassId) (L : List Nat) (T : Nat → Nat) (r : Rg) (hG : GR L T r) (hL : L.Nodup) (σ : Sg) (ρ : Lg) (hW : WT L ry T σ) (sz : Nat) (h0 : Nat) (mh0 : h0 ∈ L) (th0 : T h0 = 0) (h1 : Nat) (mh1 : h1 ∈ L) (th1 : T h1 = 3) (h2 : Nat) (mh2 : h2 ∈ L) (th2 : T h2 = 8) (p3 : Int32) (p4 : Int32) (w0 : 0 ≤ p3.toInt) (w1 : p3.toInt ≤ 3) (w2 : 0 ≤ p4.toInt) (w3 : p4.toInt ≤ 1024) : Met l yX0_countByNeed (.code yX0_countByNeed cX0_countByNeed 7 none :: wsA) ({ frames := 2, cells := 0, slots := 0, locals := 63 }) (PR D cA L T r σ ρ sz [.ref h0, .ref h1, .ref h2, .int p3, .int p4]) (QV D cA L T r ry [(21, 1000), (23, 1000)] σ sz (fun σ1 => True)) 0 0 (dm L sz) := by
  refine Met.ofW (cc := cX0_countByNeed) (maxL := 7) (ret := none) (by decide) rfl ?_
  intro p e s m args below meth c s₁ B hml hv
  obtain ⟨rfl, hsz, hP, hK, hN⟩ := hv
  have hx := B.exec
  have hb := B.bytes
  have hr := B.returns
  have hts : ∀ w ∈ wsA, w.before _ s = true := fun w h => atoms_spec (ws := .code yX0_countByNeed cX0_countByNeed 7 none :: wsA) B.pre w (List.mem_cons_of_mem _ h)
  have hown : s.vm.findClass RX0 = some m.cls := findClass_of_methodNamed B.named
  subst hsz
  have hLA : LA (dm L s.heap.size) L := ⟨hL, fun a h => Or.inl h⟩
  have hA : ∀ q : Nat, s.heap.size ≤ q → dm L s.heap.size q := fun q h => Or.inr h
  have hS : va_S (dm L s.heap.size) s.heap s.heap [] := va_S.rf
  have hB : TS D cA L T r ry [(21, 1000), (23, 1000)] σ σ ρ s.heap := ⟨hP, hW, FR.rf⟩
  have hl := lv_entry ([.ref h0, .ref h1, .ref h2, .int p3, .int p4]) (n := 7) (Nat.le_of_ble_eq_true rfl)
  rw [lg_entry_eq]
  generalize (lg_sl ([.ref h0, .ref h1, .ref h2, .int p3, .int p4]) ++ List.replicate (7 - (lg_sl ([.ref h0, .ref h1, .ref h2, .int p3, .int p4])).length) Slot.unset).toArray = ls at hl ⊢
  have hl : lv_has ls 7 [(0, .ref h0), (1, .ref h1), (2, .ref h2), (3, .int p3), (4, .int p4)] := hl
  refine lv_iconst (v := 0) hx hb dX0_countByNeed_0 (by decide) ?_
  refine lv_istore (lv' := [(5, .int 0), (0, .ref h0), (1, .ref h1), (2, .ref h2), (3, .int p3), (4, .int p4)]) hx hb dX0_countByNeed_1 hl (by decide) rfl (fun ls hl => ?_)
  refine w_loop (α := Int32 × Sg × Lg) (fun (i_1, σ_2, ρ_3) H locs ls => 0 ≤ i_1.toInt ∧ i_1.toInt ≤ 1024 ∧ TS D cA L T r ry [(21, 1000), (23, 1000)] σ σ_2 ρ_3 H ∧ va_S (dm L s.heap.size) s.heap H locs ∧ lv_has ls 7 [(5, .int i_1), (0, .ref h0), (1, .ref h1), (2, .ref h2), (3, .int p3), (4, .int p4)]) (fun (i_1, σ_2, ρ_3) => (1024 - i_1.toInt).toNat) ?_ ⟨0, σ, ρ⟩ ⟨(by decide), (by decide), hB, hS, lv_sub hl [0, 1, 2, 3, 4, 5] rfl⟩
  rintro ⟨i_1, σ_2, ρ_3⟩ H locs ls ⟨li_1, ui_1, hB, hS, hl⟩ ih_4
  refine lv_iload hx hb dX0_countByNeed_3 (lv_at hl 0 rfl) ?_
  refine lv_iload hx hb dX0_countByNeed_5 (lv_at hl 5 rfl) ?_
  refine lv_icmp_ge (tgt := 24) hx hb dX0_countByNeed_7 (by decide) (fun c_5 => ?_) (fun c_5 => ?_)
  · skip
    have uc_5 := j_le c_5
    refine lv_iconst (v := 0) hx hb dX0_countByNeed_24 (by decide) ?_
    refine lv_istore (lv' := [(5, .int 0), (0, .ref h0), (1, .ref h1), (2, .ref h2), (3, .int p3), (4, .int p4)]) hx hb dX0_countByNeed_25 hl (by decide) rfl (fun ls hl => ?_)
    refine w_loop (α := Int32 × Sg × Lg) (fun (i_6, σ_7, ρ_8) H locs ls => 0 ≤ i_6.toInt ∧ i_6.toInt ≤ 2147483647 ∧ TS D cA L T r ry [(21, 1000), (23, 1000)] σ σ_7 ρ_8 H ∧ va_S (dm L s.heap.size) s.heap H locs ∧ lv_has ls 7 [(5, .int i_6), (0, .ref h0), (1, .ref h1), (2, .ref h2), (3, .int p3), (4, .int p4)]) (fun (i_6, σ_7, ρ_8) => (2147483647 - i_6.toInt).toNat) ?_ ⟨0, σ_2, ρ_3⟩ ⟨(by decide), (by decide), hB, hS, lv_sub hl [0, 1, 2, 3, 4, 5] rfl⟩
    rintro ⟨i_6, σ_7, ρ_8⟩ H locs ls ⟨li_6, ui_6, hB, hS, hl⟩ ih_9
    refine lv_iload hx hb dX0_countByNeed_27 (lv_at hl 0 rfl) ?_
    refine lv_iconst (v := 1) hx hb dX0_countByNeed_29 (by decide) ?_
    refine lv_aload_n hx hb dX0_countByNeed_30 rfl (lv_at hl 2 rfl) ?_
    refine t_gi hx hb hts hown hK hB mh1 th1 fi_3_9 rfl mw_1_180 dX0_countByNeed_31 (fun x_10 ex_10 lx_10 ux_10 => ?_)
    have cx_10 := congrArg Int32.toInt ex_10
    refine lv_ishl hx hb dX0_countByNeed_34 ?_
    refine lv_topi (fun x_11 ex_11 => ?_)
    have lx_11 := i_lo x_11
    have ux_11 := i_hi x_11
    refine lv_icmp_ge (tgt := 112) hx hb dX0_countByNeed_35 (by decide) (fun c_12 => ?_) (fun c_12 => ?_)
    · skip
      have uc_12 := j_le c_12
      exact W.vret hx hb hr (fun t ht hW => ⟨⟨(σ_7, ρ_8), rfl, ⟨hB.2.1, hB.2.2, trivial⟩, (show TP D cA L T r σ_7 ρ_8 t.heap from by rw [ht]; exact hB.1)⟩, hS.F ht⟩) hS.2.2 dX0_countByNeed_112
    · skip
      have uc_12 := j_nle c_12
      refine lv_aload_n hx hb dX0_countByNeed_38 rfl (lv_at hl 1 rfl) ?_
      refine t_cv (va_runV (As := []) (rest := []) ⟨hx, hb, hml, hown, hts⟩ (cy_X0_clearNeed l D cA L T r hG hLA.1 σ_7 ρ_8 hB.2.1 _ h0 mh0 th0) (cV hts mv_X0_clearNeed mw_4_232 rfl rfl ⟨Nat.le_of_ble_eq_true rfl, Nat.le_of_ble_eq_true rfl⟩) (pV hB.1 hK hN mh0 th0 (show shp cA 0 _ _ _ = .inr (0, Fs0 _ _ _) from rfl) rfl) rfl rfl hl.1 rfl (lv_room (Nat.le_of_ble_eq_true rfl)) dX0_countByNeed_39 ⟨Nat.le_of_ble_eq_true rfl, Nat.le_of_ble_eq_true rfl⟩) hLA hA hB hS (by decide) (fun σ_13 ρ_14 H locs hB fσ_13 pσ_13 hS => ?_)
      refine lv_iconst (v := 0) hx hb dX0_countByNeed_42 (by decide) ?_
      refine lv_istore (lv' := [(6, .int 0), (5, .int i_6), (0, .ref h0), (1, .ref h1), (2, .ref h2), (3, .int p3), (4, .int p4)]) hx hb dX0_countByNeed_43 hl (by decide) rfl (fun ls hl => ?_)
      have k_16 : σ_13 h1 9 = x_10 := (FR.at fσ_13 th1 (by decide)).trans ex_10.symm
      refine w_loop (α := Int32 × Sg × Lg) (fun (i_17, σ_18, ρ_19) H locs ls => 0 ≤ i_17.toInt ∧ i_17.toInt ≤ 8 ∧ σ_18 h1 9 = x_10 ∧ TS D cA L T r ry [(21, 1000), (23, 1000)] σ σ_18 ρ_19 H ∧ va_S (dm L s.heap.size) s.heap H locs ∧ lv_has ls 7 [(6, .int i_17), (5, .int i_6), (0, .ref h0), (1, .ref h1), (2, .ref h2), (3, .int p3), (4, .int p4)]) (fun (i_17, σ_18, ρ_19) => (8 - i_17.toInt).toNat) ?_ ⟨0, σ_13, ρ_14⟩ ⟨(by decide), (by decide), k_16, hB, hS, lv_sub hl [0, 1, 2, 3, 4, 5, 6] rfl⟩
      rintro ⟨i_17, σ_18, ρ_19⟩ H locs ls ⟨li_17, ui_17, k_21, hB, hS, hl⟩ ih_20
      refine lv_iload hx hb dX0_countByNeed_45 (lv_at hl 0 rfl) ?_
      refine lv_aload_n hx hb dX0_countByNeed_47 rfl (lv_at hl 3 rfl) ?_
      refine t_gv hx hb hts hown hK hB mh1 th1 fi_3_9 k_21 mw_1_180 dX0_countByNeed_48 ?_
      refine lv_icmp_ge (tgt := 77) hx hb dX0_countByNeed_51 (by decide) (fun c_22 => ?_) (fun c_22 => ?_)
      · skip
        have uc_22 := j_le c_22
        refine lv_aload_n hx hb dX0_countByNeed_77 rfl (lv_at hl 2 rfl) ?_
        refine lv_aload_n hx hb dX0_countByNeed_78 rfl (lv_at hl 4 rfl) ?_
        refine lv_iload_n hx hb dX0_countByNeed_79 rfl (lv_at hl 5 rfl) ?_
        obtain ⟨b_23, hb_23, mb_23, tb_23⟩ := hG h0 mh0 1 _ (by rw [th0]; rfl)
        refine t_cv (va_runV (As := [.ref h2, .int p3]) (rest := []) ⟨hx, hb, hml, hown, hts⟩ (cz_X0_lessenNeed l D cA L T r hG hLA.1 σ_18 ρ_19 hB.2.1 _ h0 mh0 th0 h2 mh2 th2 p3 b_23 hb_23 mb_23 tb_23 (by first | omega | decide) (by first | omega | decide)) (cV hts mv_X0_lessenNeed mw_4_236 rfl rfl ⟨Nat.le_of_ble_eq_true rfl, Nat.le_of_ble_eq_true rfl⟩) (pV hB.1 hK hN mh0 th0 (show shp cA 0 _ _ _ = .inr (0, Fs0 _ _ _) from rfl) rfl) rfl rfl hl.1 rfl (lv_room (Nat.le_of_ble_eq_true rfl)) dX0_countByNeed_80 ⟨Nat.le_of_ble_eq_true rfl, Nat.le_of_ble_eq_true rfl⟩) hLA hA hB hS (by decide) (fun σ_24 ρ_25 H locs hB fσ_24 pσ_24 hS => ?_)
        refine lv_aload_n hx hb dX0_countByNeed_83 rfl (lv_at hl 2 rfl) ?_
        refine lv_aload_n hx hb dX0_countByNeed_84 rfl (lv_at hl 3 rfl) ?_
        refine t_ci (va_runV (As := [.ref h1]) (rest := []) ⟨hx, hb, hml, hown, hts⟩ (cy_X0_bagOfNeed l D cA L T r hG hLA.1 σ_24 ρ_25 hB.2.1 _ h0 mh0 th0 h1 mh1 th1 b_23 hb_23 mb_23 tb_23 (by exact pσ_24)) (cV hts mv_X0_bagOfNeed mw_5_37 rfl rfl ⟨Nat.le_of_ble_eq_true rfl, Nat.le_of_ble_eq_true rfl⟩) (pV hB.1 hK hN mh0 th0 (show shp cA 0 _ _ _ = .inr (0, Fs0 _ _ _) from rfl) rfl) rfl rfl hl.1 rfl (lv_room (Nat.le_of_ble_eq_true rfl)) dX0_countByNeed_85 ⟨Nat.le_of_ble_eq_true rfl, Nat.le_of_ble_eq_true rfl⟩) hLA hA hB hS (by decide) (fun x_29 σ_27 ρ_28 H locs hB fσ_27 pσ_27 hS => ?_)
        have qσ_27 := FR.nil fσ_27
        subst qσ_27
        obtain ⟨lx_29, ux_29⟩ := pσ_27
        refine lv_istore (lv' := [(6, .int x_29), (5, .int i_6), (0, .ref h0), (1, .ref h1), (2, .ref h2), (3, .int p3), (4, .int p4)]) hx hb dX0_countByNeed_88 hl (by decide) rfl (fun ls hl => ?_)
        refine lv_iload hx hb dX0_countByNeed_90 (lv_at hl 0 rfl) ?_
        refine lv_if_lt (tgt := 106) hx hb dX0_countByNeed_92 (by decide) (fun c_30 => ?_) (fun c_30 => ?_)
        · skip
          have uc_30 := i_lt (n := 0) (by decide) c_30
          obtain ⟨x_31, ex_31⟩ : ∃ y : Int32, y = i_6 + 1 := ⟨_, rfl⟩
          try have vx_31 := b_add (rfl : i_6.toInt = _) (by decide : (1 : Int32).toInt = 1) ex_31 (by omega) (by omega)
          refine lv_iinc (v := x_31) (lv' := [(5, .int x_31), (6, .int x_29), (0, .ref h0), (1, .ref h1), (2, .ref h2), (3, .int p3), (4, .int p4)]) hx hb dX0_countByNeed_106 hl (k := 1) rfl (by rw [ex_31]; rfl) (by decide) rfl (fun ls hl => ?_)
          refine lv_goto (tgt := 27) hx hb dX0_countByNeed_109 (by decide) ?_
          exact ih_9 ⟨x_31, σ_24, ρ_28⟩ _ _ _ ⟨(by omega), (by omega), hB, hS, lv_sub hl [0, 2, 3, 4, 5, 6] rfl⟩ (by show (2147483647 - x_31.toInt).toNat < (2147483647 - i_6.toInt).toNat; omega)
        · skip
          have uc_30 := i_nlt (n := 0) (by decide) c_30
          refine lv_aload_n hx hb dX0_countByNeed_95 rfl (lv_at hl 2 rfl) ?_
          refine t_gr hx hb hts hown hK hG hB mh0 th0 fq_0_3 rfl mw_2_101 dX0_countByNeed_96 (fun b_32 hb_32 mb_32 tb_32 => ?_)
          refine lv_iload hx hb dX0_countByNeed_99 (lv_at hl 0 rfl) ?_
          refine lv_dup2_11 hx hb dX0_countByNeed_101 rfl rfl ?_
          refine t_ai hx hb hK hB mb_32 tb_32 ai_23 (fun _ => rfl) (i_in (by omega) (by omega)) dX0_countByNeed_102 (fun x_33 ex_33 lx_33 ux_33 => ?_)
          have cx_33 := congrArg Int32.toInt ex_33
          refine lv_iconst (v := 1) hx hb dX0_countByNeed_103 (by decide) ?_
          refine lv_iadd hx hb dX0_countByNeed_104 ?_
          refine lv_topi (fun x_34 ex_34 => ?_)
          try have vx_34 := b_add (rfl : x_33.toInt = _) (by decide : (1 : Int32).toInt = 1) ex_34 (by omega) (by omega)
          refine t_si hx hb hK hLA hB hS mb_32 tb_32 ai_23 (i_in (by omega) (by omega)) (i_lo _) (i_hi _) (Or.inr (by decide)) dX0_countByNeed_105 (fun H locs σ_35 eσ_35 hB hS => ?_)
          have k_36 : σ_35 b_32 x_29.toNatClampNeg = x_34 := by rw [eσ_35]; exact up2_same _ _ _ _
          obtain ⟨x_37, ex_37⟩ : ∃ y : Int32, y = i_6 + 1 := ⟨_, rfl⟩
          try have vx_37 := b_add (rfl : i_6.toInt = _) (by decide : (1 : Int32).toInt = 1) ex_37 (by omega) (by omega)
          refine lv_iinc (v := x_37) (lv' := [(5, .int x_37), (6, .int x_29), (0, .ref h0), (1, .ref h1), (2, .ref h2), (3, .int p3), (4, .int p4)]) hx hb dX0_countByNeed_106 hl (k := 1) rfl (by rw [ex_37]; rfl) (by decide) rfl (fun ls hl => ?_)
          refine lv_goto (tgt := 27) hx hb dX0_countByNeed_109 (by decide) ?_
          exact ih_9 ⟨x_37, σ_35, ρ_28⟩ _ _ _ ⟨(by omega), (by omega), hB, hS, lv_sub hl [0, 2, 3, 4, 5, 6] rfl⟩ (by show (2147483647 - x_37.toInt).toNat < (2147483647 - i_6.toInt).toNat; omega)
      · skip
        have uc_22 := j_nle c_22
        refine lv_aload_n hx hb dX0_countByNeed_54 rfl (lv_at hl 2 rfl) ?_
        refine t_gr hx hb hts hown hK hG hB mh0 th0 fq_0_1 rfl mw_2_97 dX0_countByNeed_55 (fun b_38 hb_38 mb_38 tb_38 => ?_)
        refine lv_aload_n hx hb dX0_countByNeed_58 rfl (lv_at hl 3 rfl) ?_
        refine lv_iload hx hb dX0_countByNeed_59 (lv_at hl 0 rfl) ?_
        refine lv_iload hx hb dX0_countByNeed_61 (lv_at hl 1 rfl) ?_
        refine t_ci (va_runV (As := [.int i_17, .int i_6]) (rest := [.ref b_38]) ⟨hx, hb, hml, hown, hts⟩ (cy_X3_askedAt l D cA L T r hG hLA.1 σ_18 ρ_19 hB.2.1 _ h1 mh1 th1 i_17 i_6 (by first | omega | decide) (by first | omega | decide)) (cV hts mv_X3_askedAt mw_4_223 rfl rfl ⟨Nat.le_of_ble_eq_true rfl, Nat.le_of_ble_eq_true rfl⟩) (pV hB.1 hK hN mh1 th1 (show shp cA 3 _ _ _ = .inr (3, Fs3 _ _ _) from rfl) rfl) rfl rfl hl.1 rfl (lv_room (Nat.le_of_ble_eq_true rfl)) dX0_countByNeed_63 ⟨Nat.le_of_ble_eq_true rfl, Nat.le_of_ble_eq_true rfl⟩) hLA hA hB hS (by decide) (fun x_41 σ_39 ρ_40 H locs hB fσ_39 pσ_39 hS => ?_)
        have qσ_39 := FR.nil fσ_39
        subst qσ_39
        obtain ⟨lx_41, ux_41⟩ := pσ_39
        refine lv_dup2_11 hx hb dX0_countByNeed_66 rfl rfl ?_
        refine t_ai hx hb hK hB mb_38 tb_38 ai_21 (fun _ => rfl) (i_in (by omega) (by omega)) dX0_countByNeed_67 (fun x_42 ex_42 lx_42 ux_42 => ?_)
        have cx_42 := congrArg Int32.toInt ex_42
        refine lv_iconst (v := 1) hx hb dX0_countByNeed_68 (by decide) ?_
        refine lv_iadd hx hb dX0_countByNeed_69 ?_
        refine lv_topi (fun x_43 ex_43 => ?_)
        try have vx_43 := b_add (rfl : x_42.toInt = _) (by decide : (1 : Int32).toInt = 1) ex_43 (by omega) (by omega)
        refine t_si hx hb hK hLA hB hS mb_38 tb_38 ai_21 (i_in (by omega) (by omega)) (i_lo _) (i_hi _) (Or.inr (by decide)) dX0_countByNeed_70 (fun H locs σ_44 eσ_44 hB hS => ?_)
        have k_45 : σ_44 b_38 x_41.toNatClampNeg = x_43 := by rw [eσ_44]; exact up2_same _ _ _ _
        obtain ⟨x_46, ex_46⟩ : ∃ y : Int32, y = i_17 + 1 := ⟨_, rfl⟩
        have vx_46 := b_add (rfl : i_17.toInt = _) (by decide : (1 : Int32).toInt = 1) ex_46 (by omega) (by omega)
        refine lv_iinc (v := x_46) (lv' := [(6, .int x_46), (5, .int i_6), (0, .ref h0), (1, .ref h1), (2, .ref h2), (3, .int p3), (4, .int p4)]) hx hb dX0_countByNeed_71 hl (k := 0) rfl (by rw [ex_46]; rfl) (by decide) rfl (fun ls hl => ?_)
        refine lv_goto (tgt := 45) hx hb dX0_countByNeed_74 (by decide) ?_
        have k_47 : σ_44 h1 9 = x_10 := by rw [eσ_44, up2_nea _ _ (tg_ne th1 tb_38 (by decide))]; exact k_21
        exact ih_20 ⟨x_46, σ_44, ρ_40⟩ _ _ _ ⟨(by omega), (by omega), k_47, hB, hS, lv_sub hl [0, 1, 2, 3, 4, 5, 6] rfl⟩ (by show (8 - x_46.toInt).toNat < (8 - i_17.toInt).toNat; omega)
  · skip
    have uc_5 := j_nle c_5
    refine lv_aload_n hx hb dX0_countByNeed_10 rfl (lv_at hl 1 rfl) ?_
    refine t_gr hx hb hts hown hK hG hB mh0 th0 fq_0_3 rfl mw_2_101 dX0_countByNeed_11 (fun b_48 hb_48 mb_48 tb_48 => ?_)
    refine lv_iload hx hb dX0_countByNeed_14 (lv_at hl 0 rfl) ?_
    refine lv_iconst (v := 0) hx hb dX0_countByNeed_16 (by decide) ?_
    refine t_si hx hb hK hLA hB hS mb_48 tb_48 ai_23 (i_in (by omega) (by omega)) (i_lo _) (i_hi _) (Or.inr (by decide)) dX0_countByNeed_17 (fun H locs σ_49 eσ_49 hB hS => ?_)
    have k_50 : σ_49 b_48 i_1.toNatClampNeg = 0 := by rw [eσ_49]; exact up2_same _ _ _ _
    obtain ⟨x_51, ex_51⟩ : ∃ y : Int32, y = i_1 + 1 := ⟨_, rfl⟩
    have vx_51 := b_add (rfl : i_1.toInt = _) (by decide : (1 : Int32).toInt = 1) ex_51 (by omega) (by omega)
    refine lv_iinc (v := x_51) (lv' := [(5, .int x_51), (0, .ref h0), (1, .ref h1), (2, .ref h2), (3, .int p3), (4, .int p4)]) hx hb dX0_countByNeed_18 hl (k := 0) rfl (by rw [ex_51]; rfl) (by decide) rfl (fun ls hl => ?_)
    refine lv_goto (tgt := 3) hx hb dX0_countByNeed_21 (by decide) ?_
    exact ih_4 ⟨x_51, σ_49, ρ_3⟩ _ _ _ ⟨(by omega), (by omega), hB, hS, lv_sub hl [0, 1, 2, 3, 4, 5] rfl⟩ (by show (1024 - x_51.toInt).toNat < (1024 - i_1.toInt).toNat; omega)
set_option maxHeartbeats 4000000 in
set_option maxRecDepth 100000 in
theorem cz_X0_shiftOf (l : Launch) (D : va_G) (cA : Nat → ClassId) (L : List Nat) (T : Nat → Nat) (r : Rg) (hG : GR L T r) (hL : L.Nodup) (σ : Sg) (ρ : Lg) (hW : WT L ry T σ) (sz : Nat) (h1 : Nat) (mh1 : h1 ∈ L) (th1 : T h1 = 3) (p2 : Int32) (w0 : 0 ≤ p2.toInt) (w1 : p2.toInt < (σ h1 8).toInt) : Met l yX0_shiftOf (.code yX0_shiftOf cX0_shiftOf 2 (some .int) :: wsA) ({ frames := 0, cells := 0, slots := 0, locals := 0 }) (PR D cA L T r σ ρ sz [.ref h1, .int p2]) (QI D cA L T r ry ([] : List (Nat × Nat)) σ sz (fun x σ1 => (0 ≤ x.toInt ∧ x.toInt ≤ 8))) 0 0 (dm L sz) := by
  refine Met.ofW (cc := cX0_shiftOf) (maxL := 2) (ret := (some .int)) (by decide) rfl ?_
  intro p e s m args below meth c s₁ B hml hv
  obtain ⟨rfl, hsz, hP, hK, hN⟩ := hv
  have hx := B.exec
  have hb := B.bytes
  have hr := B.returns
  have hts : ∀ w ∈ wsA, w.before _ s = true := fun w h => atoms_spec (ws := .code yX0_shiftOf cX0_shiftOf 2 (some .int) :: wsA) B.pre w (List.mem_cons_of_mem _ h)
  have hown : s.vm.findClass RX0 = some m.cls := findClass_of_methodNamed B.named
  subst hsz
  have hLA : LA (dm L s.heap.size) L := ⟨hL, fun a h => Or.inl h⟩
  have hA : ∀ q : Nat, s.heap.size ≤ q → dm L s.heap.size q := fun q h => Or.inr h
  have hS : va_S (dm L s.heap.size) s.heap s.heap [] := va_S.rf
  have hB : TS D cA L T r ry ([] : List (Nat × Nat)) σ σ ρ s.heap := ⟨hP, hW, FR.rf⟩
  have hl := lv_entry ([.ref h1, .int p2]) (n := 2) (Nat.le_of_ble_eq_true rfl)
  rw [lg_entry_eq]
  generalize (lg_sl ([.ref h1, .int p2]) ++ List.replicate (2 - (lg_sl ([.ref h1, .int p2])).length) Slot.unset).toArray = ls at hl ⊢
  have hl : lv_has ls 2 [(0, .ref h1), (1, .int p2)] := hl
  have w_1 : 0 ≤ (σ h1 8).toInt ∧ (σ h1 8).toInt ≤ 5 := by have z := hB.2.1 h1 mh1 8; rw [th1] at z; exact z
  refine lv_iconst (v := 2) hx hb dX0_shiftOf_0 (by decide) ?_
  refine lv_aload_n hx hb dX0_shiftOf_1 rfl (lv_at hl 0 rfl) ?_
  refine t_gv hx hb hts hown hK hB mh1 th1 fi_3_8 rfl mw_1_176 dX0_shiftOf_2 ?_
  refine lv_iconst (v := 1) hx hb dX0_shiftOf_5 (by decide) ?_
  refine lv_isub hx hb dX0_shiftOf_6 ?_
  refine lv_topi (fun x_2 ex_2 => ?_)
  have vx_2 := b_sub (rfl : (σ h1 8).toInt = _) (by decide : (1 : Int32).toInt = 1) ex_2 (by omega) (by omega)
  refine lv_iload_n hx hb dX0_shiftOf_7 rfl (lv_at hl 1 rfl) ?_
  refine lv_isub hx hb dX0_shiftOf_8 ?_
  refine lv_topi (fun x_3 ex_3 => ?_)
  have vx_3 := b_sub (rfl : x_2.toInt = _) (rfl : p2.toInt = _) ex_3 (by omega) (by omega)
  refine lv_imul hx hb dX0_shiftOf_9 ?_
  refine lv_topi (fun x_4 ex_4 => ?_)
  have vx_4 := b_mul (by decide : (2 : Int32).toInt = 2) (rfl : x_3.toInt = _) ex_4 (by omega) (by omega)
  exact W.iret (v := x_4) hx hb hr (fun t ht hW => ⟨⟨x_4, (σ, ρ), rfl, ⟨hB.2.1, hB.2.2, (show 0 ≤ (x_4 : Int32).toInt ∧ (x_4 : Int32).toInt ≤ 8 from ⟨by omega, by omega⟩)⟩, (show TP D cA L T r σ ρ t.heap from by rw [ht]; exact hB.1)⟩, hS.F ht⟩) hS.2.2 dX0_shiftOf_10
theorem dX0_countByBag_0 : decode cX0_countByBag 0 = .ok (.iconst 0, 1) := by decide +kernel
theorem dX0_countByBag_1 : decode cX0_countByBag 1 = .ok (.istore_n 3, 1) := by decide +kernel
theorem dX0_countByBag_2 : decode cX0_countByBag 2 = .ok (.iload_n 3, 1) := by decide +kernel
theorem dX0_countByBag_3 : decode cX0_countByBag 3 = .ok (.aload_n 1, 1) := by decide +kernel
theorem dX0_countByBag_4 : decode cX0_countByBag 4 = .ok (.getfield 66, 3) := by decide +kernel
theorem dX0_countByBag_7 : decode cX0_countByBag 7 = .ok (.if_icmp .ge 64, 3) := by decide +kernel
theorem dX0_countByBag_10 : decode cX0_countByBag 10 = .ok (.iconst 1, 1) := by decide +kernel
theorem dX0_countByBag_11 : decode cX0_countByBag 11 = .ok (.aload_n 1, 1) := by decide +kernel
theorem dX0_countByBag_12 : decode cX0_countByBag 12 = .ok (.iload_n 3, 1) := by decide +kernel
theorem dX0_countByBag_13 : decode cX0_countByBag 13 = .ok (.invokestatic 102, 3) := by decide +kernel
theorem dX0_countByBag_16 : decode cX0_countByBag 16 = .ok (.ishl, 1) := by decide +kernel
theorem dX0_countByBag_17 : decode cX0_countByBag 17 = .ok (.istore 4, 2) := by decide +kernel
theorem dX0_countByBag_19 : decode cX0_countByBag 19 = .ok (.iload 4, 2) := by decide +kernel
theorem dX0_countByBag_21 : decode cX0_countByBag 21 = .ok (.istore 5, 2) := by decide +kernel
theorem dX0_countByBag_23 : decode cX0_countByBag 23 = .ok (.iload 5, 2) := by decide +kernel
theorem dX0_countByBag_25 : decode cX0_countByBag 25 = .ok (.iload_n 2, 1) := by decide +kernel
theorem dX0_countByBag_26 : decode cX0_countByBag 26 = .ok (.if_icmp .ge 39, 3) := by decide +kernel
theorem dX0_countByBag_29 : decode cX0_countByBag 29 = .ok (.aload_n 1, 1) := by decide +kernel
theorem dX0_countByBag_30 : decode cX0_countByBag 30 = .ok (.iload 5, 2) := by decide +kernel
theorem dX0_countByBag_32 : decode cX0_countByBag 32 = .ok (.iload_n 3, 1) := by decide +kernel
theorem dX0_countByBag_33 : decode cX0_countByBag 33 = .ok (.invokestatic 94, 3) := by decide +kernel
theorem dX0_countByBag_36 : decode cX0_countByBag 36 = .ok (.ifCond .le 23, 3) := by decide +kernel
theorem dX0_countByBag_59 : decode cX0_countByBag 59 = .ok (.iinc 5 1, 3) := by decide +kernel
theorem dX0_countByBag_62 : decode cX0_countByBag 62 = .ok (.goto (-39), 3) := by decide +kernel
theorem dX0_countByBag_39 : decode cX0_countByBag 39 = .ok (.aload_n 0, 1) := by decide +kernel
theorem dX0_countByBag_40 : decode cX0_countByBag 40 = .ok (.getfield 21, 3) := by decide +kernel
theorem dX0_countByBag_43 : decode cX0_countByBag 43 = .ok (.iload 5, 2) := by decide +kernel
theorem dX0_countByBag_45 : decode cX0_countByBag 45 = .ok (.dup2, 1) := by decide +kernel
theorem dX0_countByBag_46 : decode cX0_countByBag 46 = .ok (.iaload, 1) := by decide +kernel
theorem dX0_countByBag_47 : decode cX0_countByBag 47 = .ok (.aload_n 0, 1) := by decide +kernel
theorem dX0_countByBag_48 : decode cX0_countByBag 48 = .ok (.getfield 21, 3) := by decide +kernel
theorem dX0_countByBag_51 : decode cX0_countByBag 51 = .ok (.iload 5, 2) := by decide +kernel
theorem dX0_countByBag_53 : decode cX0_countByBag 53 = .ok (.iload 4, 2) := by decide +kernel
theorem dX0_countByBag_55 : decode cX0_countByBag 55 = .ok (.isub, 1) := by decide +kernel
theorem dX0_countByBag_56 : decode cX0_countByBag 56 = .ok (.iaload, 1) := by decide +kernel
theorem dX0_countByBag_57 : decode cX0_countByBag 57 = .ok (.iadd, 1) := by decide +kernel
theorem dX0_countByBag_58 : decode cX0_countByBag 58 = .ok (.iastore, 1) := by decide +kernel
theorem dX0_countByBag_65 : decode cX0_countByBag 65 = .ok (.iinc 3 1, 3) := by decide +kernel
theorem dX0_countByBag_68 : decode cX0_countByBag 68 = .ok (.goto (-66), 3) := by decide +kernel
theorem dX0_countByBag_71 : decode cX0_countByBag 71 = .ok (.return_, 1) := by decide +kernel
set_option maxHeartbeats 4000000 in
set_option maxRecDepth 100000 in
theorem cy_X0_countByBag (l : Launch) (D : va_G) (cA : Nat → ClassId) (L : List Nat) (T : Nat → Nat) (r : Rg) (hG : GR L T r) (hL : L.Nodup) (σ : Sg) (ρ : Lg) (hW : WT L ry T σ) (sz : Nat) (h0 : Nat) (mh0 : h0 ∈ L) (th0 : T h0 = 0) (h1 : Nat) (mh1 : h1 ∈ L) (th1 : T h1 = 3) (p2 : Int32) (w0 : 0 ≤ p2.toInt) (w1 : p2.toInt ≤ 1024) : Met l yX0_countByBag (.code yX0_countByBag cX0_countByBag 6 none :: wsA) ({ frames := 2, cells := 0, slots := 0, locals := 43 }) (PR D cA L T r σ ρ sz [.ref h0, .ref h1, .int p2]) (QV D cA L T r ry [(23, 1000)] σ sz (fun σ1 => True)) 0 0 (dm L sz) := by
  refine Met.ofW (cc := cX0_countByBag) (maxL := 6) (ret := none) (by decide) rfl ?_
  intro p e s m args below meth c s₁ B hml hv
  obtain ⟨rfl, hsz, hP, hK, hN⟩ := hv
  have hx := B.exec
  have hb := B.bytes
  have hr := B.returns
  have hts : ∀ w ∈ wsA, w.before _ s = true := fun w h => atoms_spec (ws := .code yX0_countByBag cX0_countByBag 6 none :: wsA) B.pre w (List.mem_cons_of_mem _ h)
  have hown : s.vm.findClass RX0 = some m.cls := findClass_of_methodNamed B.named
  subst hsz
  have hLA : LA (dm L s.heap.size) L := ⟨hL, fun a h => Or.inl h⟩
  have hA : ∀ q : Nat, s.heap.size ≤ q → dm L s.heap.size q := fun q h => Or.inr h
  have hS : va_S (dm L s.heap.size) s.heap s.heap [] := va_S.rf
  have hB : TS D cA L T r ry [(23, 1000)] σ σ ρ s.heap := ⟨hP, hW, FR.rf⟩
  have hl := lv_entry ([.ref h0, .ref h1, .int p2]) (n := 6) (Nat.le_of_ble_eq_true rfl)
  rw [lg_entry_eq]
  generalize (lg_sl ([.ref h0, .ref h1, .int p2]) ++ List.replicate (6 - (lg_sl ([.ref h0, .ref h1, .int p2])).length) Slot.unset).toArray = ls at hl ⊢
  have hl : lv_has ls 6 [(0, .ref h0), (1, .ref h1), (2, .int p2)] := hl
  have w_1 : 0 ≤ (σ h1 8).toInt ∧ (σ h1 8).toInt ≤ 5 := by have z := hB.2.1 h1 mh1 8; rw [th1] at z; exact z
  refine lv_iconst (v := 0) hx hb dX0_countByBag_0 (by decide) ?_
  refine lv_istore_n (lv' := [(3, .int 0), (0, .ref h0), (1, .ref h1), (2, .int p2)]) hx hb dX0_countByBag_1 rfl hl (by decide) rfl (fun ls hl => ?_)
  refine w_loop (α := Int32 × Sg × Lg) (fun (i_2, σ_3, ρ_4) H locs ls => 0 ≤ i_2.toInt ∧ i_2.toInt ≤ 5 ∧ σ_3 h1 8 = (σ h1 8) ∧ TS D cA L T r ry [(23, 1000)] σ σ_3 ρ_4 H ∧ va_S (dm L s.heap.size) s.heap H locs ∧ lv_has ls 6 [(3, .int i_2), (0, .ref h0), (1, .ref h1), (2, .int p2)]) (fun (i_2, σ_3, ρ_4) => (5 - i_2.toInt).toNat) ?_ ⟨0, σ, ρ⟩ ⟨(by decide), (by decide), rfl, hB, hS, lv_sub hl [0, 1, 2, 3] rfl⟩
  rintro ⟨i_2, σ_3, ρ_4⟩ H locs ls ⟨li_2, ui_2, k_6, hB, hS, hl⟩ ih_5
  refine lv_iload_n hx hb dX0_countByBag_2 rfl (lv_at hl 0 rfl) ?_
  refine lv_aload_n hx hb dX0_countByBag_3 rfl (lv_at hl 2 rfl) ?_
  refine t_gv hx hb hts hown hK hB mh1 th1 fi_3_8 k_6 mw_1_176 dX0_countByBag_4 ?_
  refine lv_icmp_ge (tgt := 71) hx hb dX0_countByBag_7 (by decide) (fun c_7 => ?_) (fun c_7 => ?_)
  · skip
    have uc_7 := j_le c_7
    exact W.vret hx hb hr (fun t ht hW => ⟨⟨(σ_3, ρ_4), rfl, ⟨hB.2.1, hB.2.2, trivial⟩, (show TP D cA L T r σ_3 ρ_4 t.heap from by rw [ht]; exact hB.1)⟩, hS.F ht⟩) hS.2.2 dX0_countByBag_71
  · skip
    have uc_7 := j_nle c_7
    refine lv_iconst (v := 1) hx hb dX0_countByBag_10 (by decide) ?_
    refine lv_aload_n hx hb dX0_countByBag_11 rfl (lv_at hl 2 rfl) ?_
    refine lv_iload_n hx hb dX0_countByBag_12 rfl (lv_at hl 0 rfl) ?_
    refine t_ci (va_runS (As := [.ref h1, .int i_2]) (rest := [.int 1]) ⟨hx, hb, hml, hown, hts⟩ (cz_X0_shiftOf l D cA L T r hG hLA.1 σ_3 ρ_4 hB.2.1 _ h1 mh1 th1 i_2 (by first | omega | decide) (by rw [k_6]; omega)) (cS hts ms_X0_shiftOf mw_5_45 rfl rfl ⟨Nat.le_of_ble_eq_true rfl, Nat.le_of_ble_eq_true rfl⟩) (pS hB.1 hK hN) rfl rfl hl.1 rfl (lv_room (Nat.le_of_ble_eq_true rfl)) dX0_countByBag_13 ⟨Nat.le_of_ble_eq_true rfl, Nat.le_of_ble_eq_true rfl⟩) hLA hA hB hS (by decide) (fun x_10 σ_8 ρ_9 H locs hB fσ_8 pσ_8 hS => ?_)
    have qσ_8 := FR.nil fσ_8
    subst qσ_8
    obtain ⟨lx_10, ux_10⟩ := pσ_8
    refine lv_ishl hx hb dX0_countByBag_16 ?_
    refine lv_topi (fun x_11 ex_11 => ?_)
    have lx_11 := i_lo x_11
    have ux_11 := i_hi x_11
    obtain ⟨lx_119, ux_119⟩ := shl1 ex_11 (by omega) (by omega)
    refine lv_istore (lv' := [(4, .int x_11), (3, .int i_2), (0, .ref h0), (1, .ref h1), (2, .int p2)]) hx hb dX0_countByBag_17 hl (by decide) rfl (fun ls hl => ?_)
    refine lv_iload hx hb dX0_countByBag_19 (lv_at hl 0 rfl) ?_
    refine lv_istore (lv' := [(5, .int x_11), (4, .int x_11), (3, .int i_2), (0, .ref h0), (1, .ref h1), (2, .int p2)]) hx hb dX0_countByBag_21 hl (by decide) rfl (fun ls hl => ?_)
    refine w_loop (α := Int32 × Sg × Lg) (fun (i_12, σ_13, ρ_14) H locs ls => 0 ≤ i_12.toInt ∧ i_12.toInt ≤ 1024 ∧ σ_13 h1 8 = (σ h1 8) ∧ (x_11.toInt ≤ i_12.toInt) ∧ TS D cA L T r ry [(23, 1000)] σ σ_13 ρ_14 H ∧ va_S (dm L s.heap.size) s.heap H locs ∧ lv_has ls 6 [(5, .int i_12), (4, .int x_11), (3, .int i_2), (0, .ref h0), (1, .ref h1), (2, .int p2)]) (fun (i_12, σ_13, ρ_14) => (1024 - i_12.toInt).toNat) ?_ ⟨x_11, σ_3, ρ_9⟩ ⟨(by omega), (by omega), k_6, (by omega), hB, hS, lv_sub hl [0, 1, 2, 3, 4, 5] rfl⟩
    rintro ⟨i_12, σ_13, ρ_14⟩ H locs ls ⟨li_12, ui_12, k_16, g_17, hB, hS, hl⟩ ih_15
    refine lv_iload hx hb dX0_countByBag_23 (lv_at hl 0 rfl) ?_
    refine lv_iload_n hx hb dX0_countByBag_25 rfl (lv_at hl 5 rfl) ?_
    refine lv_icmp_ge (tgt := 65) hx hb dX0_countByBag_26 (by decide) (fun c_18 => ?_) (fun c_18 => ?_)
    · skip
      have uc_18 := j_le c_18
      obtain ⟨x_19, ex_19⟩ : ∃ y : Int32, y = i_2 + 1 := ⟨_, rfl⟩
      have vx_19 := b_add (rfl : i_2.toInt = _) (by decide : (1 : Int32).toInt = 1) ex_19 (by omega) (by omega)
      refine lv_iinc (v := x_19) (lv' := [(3, .int x_19), (5, .int i_12), (4, .int x_11), (0, .ref h0), (1, .ref h1), (2, .int p2)]) hx hb dX0_countByBag_65 hl (k := 2) rfl (by rw [ex_19]; rfl) (by decide) rfl (fun ls hl => ?_)
      refine lv_goto (tgt := 2) hx hb dX0_countByBag_68 (by decide) ?_
      exact ih_5 ⟨x_19, σ_13, ρ_14⟩ _ _ _ ⟨(by omega), (by omega), k_16, hB, hS, lv_sub hl [0, 3, 4, 5] rfl⟩ (by show (5 - x_19.toInt).toNat < (5 - i_2.toInt).toNat; omega)
    · skip
      have uc_18 := j_nle c_18
      refine lv_aload_n hx hb dX0_countByBag_29 rfl (lv_at hl 4 rfl) ?_
      refine lv_iload hx hb dX0_countByBag_30 (lv_at hl 0 rfl) ?_
      refine lv_iload_n hx hb dX0_countByBag_32 rfl (lv_at hl 2 rfl) ?_
      refine t_ci (va_runS (As := [.ref h1, .int i_12, .int i_2]) (rest := []) ⟨hx, hb, hml, hown, hts⟩ (cy_X0_inBag l D cA L T r hG hLA.1 σ_13 ρ_14 hB.2.1 _ h1 mh1 th1 i_12 i_2 (by first | omega | decide) (by first | omega | decide)) (cS hts ms_X0_inBag mw_5_48 rfl rfl ⟨Nat.le_of_ble_eq_true rfl, Nat.le_of_ble_eq_true rfl⟩) (pS hB.1 hK hN) rfl rfl hl.1 rfl (lv_room (Nat.le_of_ble_eq_true rfl)) dX0_countByBag_33 ⟨Nat.le_of_ble_eq_true rfl, Nat.le_of_ble_eq_true rfl⟩) hLA hA hB hS (by decide) (fun x_22 σ_20 ρ_21 H locs hB fσ_20 pσ_20 hS => ?_)
      have qσ_20 := FR.nil fσ_20
      subst qσ_20
      obtain ⟨lx_22, ux_22⟩ := pσ_20
      refine lv_if_le (tgt := 59) hx hb dX0_countByBag_36 (by decide) (fun c_23 => ?_) (fun c_23 => ?_)
      · skip
        have uc_23 := i_le (n := 0) (by decide) c_23
        obtain ⟨x_24, ex_24⟩ : ∃ y : Int32, y = i_12 + 1 := ⟨_, rfl⟩
        have vx_24 := b_add (rfl : i_12.toInt = _) (by decide : (1 : Int32).toInt = 1) ex_24 (by omega) (by omega)
        refine lv_iinc (v := x_24) (lv' := [(5, .int x_24), (4, .int x_11), (3, .int i_2), (0, .ref h0), (1, .ref h1), (2, .int p2)]) hx hb dX0_countByBag_59 hl (k := 0) rfl (by rw [ex_24]; rfl) (by decide) rfl (fun ls hl => ?_)
        refine lv_goto (tgt := 23) hx hb dX0_countByBag_62 (by decide) ?_
        exact ih_15 ⟨x_24, σ_13, ρ_21⟩ _ _ _ ⟨(by omega), (by omega), k_16, (by omega), hB, hS, lv_sub hl [0, 1, 2, 3, 4, 5] rfl⟩ (by show (1024 - x_24.toInt).toNat < (1024 - i_12.toInt).toNat; omega)
      · skip
        have uc_23 := i_nle (n := 0) (by decide) c_23
        refine lv_aload_n hx hb dX0_countByBag_39 rfl (lv_at hl 3 rfl) ?_
        refine t_gr hx hb hts hown hK hG hB mh0 th0 fq_0_3 rfl mw_2_101 dX0_countByBag_40 (fun b_25 hb_25 mb_25 tb_25 => ?_)
        refine lv_iload hx hb dX0_countByBag_43 (lv_at hl 0 rfl) ?_
        refine lv_dup2_11 hx hb dX0_countByBag_45 rfl rfl ?_
        refine t_ai hx hb hK hB mb_25 tb_25 ai_23 (fun _ => rfl) (i_in (by omega) (by omega)) dX0_countByBag_46 (fun x_26 ex_26 lx_26 ux_26 => ?_)
        have cx_26 := congrArg Int32.toInt ex_26
        refine lv_aload_n hx hb dX0_countByBag_47 rfl (lv_at hl 3 rfl) ?_
        refine t_gk hx hb hts hown hK hB mh0 th0 fq_0_3 hb_25 mw_2_101 dX0_countByBag_48 ?_
        refine lv_iload hx hb dX0_countByBag_51 (lv_at hl 0 rfl) ?_
        refine lv_iload hx hb dX0_countByBag_53 (lv_at hl 1 rfl) ?_
        refine lv_isub hx hb dX0_countByBag_55 ?_
        refine lv_topi (fun x_27 ex_27 => ?_)
        have vx_27 := b_sub (rfl : i_12.toInt = _) (rfl : x_11.toInt = _) ex_27 (by omega) (by omega)
        refine t_ai hx hb hK hB mb_25 tb_25 ai_23 (fun _ => rfl) (i_in (by omega) (by omega)) dX0_countByBag_56 (fun x_28 ex_28 lx_28 ux_28 => ?_)
        have cx_28 := congrArg Int32.toInt ex_28
        refine lv_iadd hx hb dX0_countByBag_57 ?_
        refine lv_topi (fun x_29 ex_29 => ?_)
        try have vx_29 := b_add (rfl : x_26.toInt = _) (rfl : x_28.toInt = _) ex_29 (by omega) (by omega)
        refine t_si hx hb hK hLA hB hS mb_25 tb_25 ai_23 (i_in (by omega) (by omega)) (i_lo _) (i_hi _) (Or.inr (by decide)) dX0_countByBag_58 (fun H locs σ_30 eσ_30 hB hS => ?_)
        have k_31 : σ_30 b_25 i_12.toNatClampNeg = x_29 := by rw [eσ_30]; exact up2_same _ _ _ _
        obtain ⟨x_32, ex_32⟩ : ∃ y : Int32, y = i_12 + 1 := ⟨_, rfl⟩
        have vx_32 := b_add (rfl : i_12.toInt = _) (by decide : (1 : Int32).toInt = 1) ex_32 (by omega) (by omega)
        refine lv_iinc (v := x_32) (lv' := [(5, .int x_32), (4, .int x_11), (3, .int i_2), (0, .ref h0), (1, .ref h1), (2, .int p2)]) hx hb dX0_countByBag_59 hl (k := 0) rfl (by rw [ex_32]; rfl) (by decide) rfl (fun ls hl => ?_)
        refine lv_goto (tgt := 23) hx hb dX0_countByBag_62 (by decide) ?_
        have k_33 : σ_30 h1 8 = (σ h1 8) := by rw [eσ_30, up2_nea _ _ (tg_ne th1 tb_25 (by decide))]; exact k_16
        exact ih_15 ⟨x_32, σ_30, ρ_21⟩ _ _ _ ⟨(by omega), (by omega), k_33, (by omega), hB, hS, lv_sub hl [0, 1, 2, 3, 4, 5] rfl⟩ (by show (1024 - x_32.toInt).toNat < (1024 - i_12.toInt).toNat; omega)
theorem mw_5_35 : (.instanceMethod yX0_countByNeed : Cond) ∈ wsA := wsA_t (List.mem_append_right _ (List.mem_append_right _ (List.mem_append_right _ (List.mem_append_right _ (List.mem_append_left _ (List.mem_of_getElem? (l := tables_1_5) (i := 35) rfl)))))) rfl
theorem mp_3_2 : (.selects RX0 yX0_countByNeed yX0_countByNeed : Cond) ∈ wsA := wsA_p (q := (yX0_countByNeed, 6)) (List.mem_append_right _ (List.mem_append_right _ (List.mem_append_left _ (List.mem_of_getElem? (l := lw_privs_3) (i := 2) rfl))))
theorem mw_5_36 : (.code yX0_countByNeed cX0_countByNeed 7 none : Cond) ∈ wsA := wsA_t (List.mem_append_right _ (List.mem_append_right _ (List.mem_append_right _ (List.mem_append_right _ (List.mem_append_left _ (List.mem_of_getElem? (l := tables_1_5) (i := 36) rfl)))))) rfl
theorem mw_5_33 : (.methodLink RX0 76 yX0_countByNeed : Cond) ∈ wsA := wsA_t (List.mem_append_right _ (List.mem_append_right _ (List.mem_append_right _ (List.mem_append_right _ (List.mem_append_left _ (List.mem_of_getElem? (l := tables_1_5) (i := 33) rfl)))))) rfl
theorem mw_5_43 : (.instanceMethod yX0_countByBag : Cond) ∈ wsA := wsA_t (List.mem_append_right _ (List.mem_append_right _ (List.mem_append_right _ (List.mem_append_right _ (List.mem_append_left _ (List.mem_of_getElem? (l := tables_1_5) (i := 43) rfl)))))) rfl
theorem mp_3_4 : (.selects RX0 yX0_countByBag yX0_countByBag : Cond) ∈ wsA := wsA_p (q := (yX0_countByBag, 6)) (List.mem_append_right _ (List.mem_append_right _ (List.mem_append_left _ (List.mem_of_getElem? (l := lw_privs_3) (i := 4) rfl))))
theorem mw_5_44 : (.code yX0_countByBag cX0_countByBag 6 none : Cond) ∈ wsA := wsA_t (List.mem_append_right _ (List.mem_append_right _ (List.mem_append_right _ (List.mem_append_right _ (List.mem_append_left _ (List.mem_of_getElem? (l := tables_1_5) (i := 44) rfl)))))) rfl
theorem mw_5_41 : (.methodLink RX0 80 yX0_countByBag : Cond) ∈ wsA := wsA_t (List.mem_append_right _ (List.mem_append_right _ (List.mem_append_right _ (List.mem_append_right _ (List.mem_append_left _ (List.mem_of_getElem? (l := tables_1_5) (i := 41) rfl)))))) rfl
theorem mw_2_102 : (.fieldLink RX0 84 "HillBends$Chances" "bagWays" "I" : Cond) ∈ wsA := wsA_t (List.mem_append_right _ (List.mem_append_left _ (List.mem_of_getElem? (l := tables_1_2) (i := 102) rfl))) rfl
theorem mw_2_104 : (.fieldLink RX0 87 "HillBends$Chances" "bagPrice" "I" : Cond) ∈ wsA := wsA_t (List.mem_append_right _ (List.mem_append_left _ (List.mem_of_getElem? (l := tables_1_2) (i := 104) rfl))) rfl
theorem mw_5_52 : (.static yX0_priceIfBuyable : Cond) ∈ wsA := wsA_t (List.mem_append_right _ (List.mem_append_right _ (List.mem_append_right _ (List.mem_append_right _ (List.mem_append_left _ (List.mem_of_getElem? (l := tables_1_5) (i := 52) rfl)))))) rfl
theorem mw_5_53 : (.code yX0_priceIfBuyable cX0_priceIfBuyable 8 (some .int) : Cond) ∈ wsA := wsA_t (List.mem_append_right _ (List.mem_append_right _ (List.mem_append_right _ (List.mem_append_right _ (List.mem_append_left _ (List.mem_of_getElem? (l := tables_1_5) (i := 53) rfl)))))) rfl
theorem mw_5_51 : (.methodLink RX0 90 yX0_priceIfBuyable : Cond) ∈ wsA := wsA_t (List.mem_append_right _ (List.mem_append_right _ (List.mem_append_right _ (List.mem_append_right _ (List.mem_append_left _ (List.mem_of_getElem? (l := tables_1_5) (i := 51) rfl)))))) rfl
theorem mw_2_99 : (.fieldLink RX0 18 "HillBends$Chances" "bagRow" "[I" : Cond) ∈ wsA := wsA_t (List.mem_append_right _ (List.mem_append_left _ (List.mem_of_getElem? (l := tables_1_2) (i := 99) rfl))) rfl
theorem dX0_packBag_0 : decode cX0_packBag 0 = .ok (.iconst 1, 1) := by decide +kernel
theorem dX0_packBag_1 : decode cX0_packBag 1 = .ok (.iconst 2, 1) := by decide +kernel
theorem dX0_packBag_2 : decode cX0_packBag 2 = .ok (.aload_n 1, 1) := by decide +kernel
theorem dX0_packBag_3 : decode cX0_packBag 3 = .ok (.getfield 66, 3) := by decide +kernel
theorem dX0_packBag_6 : decode cX0_packBag 6 = .ok (.imul, 1) := by decide +kernel
theorem dX0_packBag_7 : decode cX0_packBag 7 = .ok (.ishl, 1) := by decide +kernel
theorem dX0_packBag_8 : decode cX0_packBag 8 = .ok (.istore 4, 2) := by decide +kernel
theorem dX0_packBag_10 : decode cX0_packBag 10 = .ok (.aload_n 0, 1) := by decide +kernel
theorem dX0_packBag_11 : decode cX0_packBag 11 = .ok (.aload_n 1, 1) := by decide +kernel
theorem dX0_packBag_12 : decode cX0_packBag 12 = .ok (.aload_n 2, 1) := by decide +kernel
theorem dX0_packBag_13 : decode cX0_packBag 13 = .ok (.iload_n 3, 1) := by decide +kernel
theorem dX0_packBag_14 : decode cX0_packBag 14 = .ok (.iload 4, 2) := by decide +kernel
theorem dX0_packBag_16 : decode cX0_packBag 16 = .ok (.invokevirtual 76, 3) := by decide +kernel
theorem dX0_packBag_19 : decode cX0_packBag 19 = .ok (.aload_n 0, 1) := by decide +kernel
theorem dX0_packBag_20 : decode cX0_packBag 20 = .ok (.aload_n 1, 1) := by decide +kernel
theorem dX0_packBag_21 : decode cX0_packBag 21 = .ok (.iload 4, 2) := by decide +kernel
theorem dX0_packBag_23 : decode cX0_packBag 23 = .ok (.invokevirtual 80, 3) := by decide +kernel
theorem dX0_packBag_26 : decode cX0_packBag 26 = .ok (.aload_n 0, 1) := by decide +kernel
theorem dX0_packBag_27 : decode cX0_packBag 27 = .ok (.iconst (-1), 1) := by decide +kernel
theorem dX0_packBag_28 : decode cX0_packBag 28 = .ok (.putfield 84, 3) := by decide +kernel
theorem dX0_packBag_31 : decode cX0_packBag 31 = .ok (.aload_n 0, 1) := by decide +kernel
theorem dX0_packBag_32 : decode cX0_packBag 32 = .ok (.iconst 0, 1) := by decide +kernel
theorem dX0_packBag_33 : decode cX0_packBag 33 = .ok (.putfield 87, 3) := by decide +kernel
theorem dX0_packBag_36 : decode cX0_packBag 36 = .ok (.iconst 0, 1) := by decide +kernel
theorem dX0_packBag_37 : decode cX0_packBag 37 = .ok (.istore 5, 2) := by decide +kernel
theorem dX0_packBag_39 : decode cX0_packBag 39 = .ok (.iconst 0, 1) := by decide +kernel
theorem dX0_packBag_40 : decode cX0_packBag 40 = .ok (.istore 6, 2) := by decide +kernel
theorem dX0_packBag_42 : decode cX0_packBag 42 = .ok (.iload 6, 2) := by decide +kernel
theorem dX0_packBag_44 : decode cX0_packBag 44 = .ok (.iload 4, 2) := by decide +kernel
theorem dX0_packBag_46 : decode cX0_packBag 46 = .ok (.if_icmp .ge 98, 3) := by decide +kernel
theorem dX0_packBag_49 : decode cX0_packBag 49 = .ok (.aload_n 0, 1) := by decide +kernel
theorem dX0_packBag_50 : decode cX0_packBag 50 = .ok (.getfield 21, 3) := by decide +kernel
theorem dX0_packBag_53 : decode cX0_packBag 53 = .ok (.iload 6, 2) := by decide +kernel
theorem dX0_packBag_55 : decode cX0_packBag 55 = .ok (.iaload, 1) := by decide +kernel
theorem dX0_packBag_56 : decode cX0_packBag 56 = .ok (.aload_n 0, 1) := by decide +kernel
theorem dX0_packBag_57 : decode cX0_packBag 57 = .ok (.getfield 84, 3) := by decide +kernel
theorem dX0_packBag_60 : decode cX0_packBag 60 = .ok (.if_icmp .lt 14, 3) := by decide +kernel
theorem dX0_packBag_74 : decode cX0_packBag 74 = .ok (.iconst (-1), 1) := by decide +kernel
theorem dX0_packBag_75 : decode cX0_packBag 75 = .ok (.istore 7, 2) := by decide +kernel
theorem dX0_packBag_77 : decode cX0_packBag 77 = .ok (.aload_n 0, 1) := by decide +kernel
theorem dX0_packBag_78 : decode cX0_packBag 78 = .ok (.getfield 21, 3) := by decide +kernel
theorem dX0_packBag_81 : decode cX0_packBag 81 = .ok (.iload 6, 2) := by decide +kernel
theorem dX0_packBag_83 : decode cX0_packBag 83 = .ok (.iaload, 1) := by decide +kernel
theorem dX0_packBag_84 : decode cX0_packBag 84 = .ok (.aload_n 0, 1) := by decide +kernel
theorem dX0_packBag_85 : decode cX0_packBag 85 = .ok (.getfield 84, 3) := by decide +kernel
theorem dX0_packBag_88 : decode cX0_packBag 88 = .ok (.if_icmp .gt 12, 3) := by decide +kernel
theorem dX0_packBag_100 : decode cX0_packBag 100 = .ok (.iconst 1, 1) := by decide +kernel
theorem dX0_packBag_101 : decode cX0_packBag 101 = .ok (.goto 4, 3) := by decide +kernel
theorem dX0_packBag_105 : decode cX0_packBag 105 = .ok (.istore 8, 2) := by decide +kernel
theorem dX0_packBag_107 : decode cX0_packBag 107 = .ok (.iload 7, 2) := by decide +kernel
theorem dX0_packBag_109 : decode cX0_packBag 109 = .ok (.ifCond .lt 29, 3) := by decide +kernel
theorem dX0_packBag_138 : decode cX0_packBag 138 = .ok (.iinc 6 1, 3) := by decide +kernel
theorem dX0_packBag_141 : decode cX0_packBag 141 = .ok (.goto (-99), 3) := by decide +kernel
theorem dX0_packBag_91 : decode cX0_packBag 91 = .ok (.iload 7, 2) := by decide +kernel
theorem dX0_packBag_93 : decode cX0_packBag 93 = .ok (.aload_n 0, 1) := by decide +kernel
theorem dX0_packBag_94 : decode cX0_packBag 94 = .ok (.getfield 87, 3) := by decide +kernel
theorem dX0_packBag_97 : decode cX0_packBag 97 = .ok (.if_icmp .ge 7, 3) := by decide +kernel
theorem dX0_packBag_104 : decode cX0_packBag 104 = .ok (.iconst 0, 1) := by decide +kernel
theorem dX0_packBag_63 : decode cX0_packBag 63 = .ok (.aload_n 1, 1) := by decide +kernel
theorem dX0_packBag_64 : decode cX0_packBag 64 = .ok (.aload_n 2, 1) := by decide +kernel
theorem dX0_packBag_65 : decode cX0_packBag 65 = .ok (.iload_n 3, 1) := by decide +kernel
theorem dX0_packBag_66 : decode cX0_packBag 66 = .ok (.iload 6, 2) := by decide +kernel
theorem dX0_packBag_68 : decode cX0_packBag 68 = .ok (.invokestatic 90, 3) := by decide +kernel
theorem dX0_packBag_71 : decode cX0_packBag 71 = .ok (.goto 4, 3) := by decide +kernel
theorem dX0_packBag_112 : decode cX0_packBag 112 = .ok (.iload 8, 2) := by decide +kernel
theorem dX0_packBag_114 : decode cX0_packBag 114 = .ok (.ifCond .eq 24, 3) := by decide +kernel
theorem dX0_packBag_117 : decode cX0_packBag 117 = .ok (.aload_n 0, 1) := by decide +kernel
theorem dX0_packBag_118 : decode cX0_packBag 118 = .ok (.aload_n 0, 1) := by decide +kernel
theorem dX0_packBag_119 : decode cX0_packBag 119 = .ok (.getfield 21, 3) := by decide +kernel
theorem dX0_packBag_122 : decode cX0_packBag 122 = .ok (.iload 6, 2) := by decide +kernel
theorem dX0_packBag_124 : decode cX0_packBag 124 = .ok (.iaload, 1) := by decide +kernel
theorem dX0_packBag_125 : decode cX0_packBag 125 = .ok (.putfield 84, 3) := by decide +kernel
theorem dX0_packBag_128 : decode cX0_packBag 128 = .ok (.aload_n 0, 1) := by decide +kernel
theorem dX0_packBag_129 : decode cX0_packBag 129 = .ok (.iload 7, 2) := by decide +kernel
theorem dX0_packBag_131 : decode cX0_packBag 131 = .ok (.putfield 87, 3) := by decide +kernel
theorem dX0_packBag_134 : decode cX0_packBag 134 = .ok (.iload 6, 2) := by decide +kernel
theorem dX0_packBag_136 : decode cX0_packBag 136 = .ok (.istore 5, 2) := by decide +kernel
theorem dX0_packBag_144 : decode cX0_packBag 144 = .ok (.iconst 0, 1) := by decide +kernel
theorem dX0_packBag_145 : decode cX0_packBag 145 = .ok (.istore 6, 2) := by decide +kernel
theorem dX0_packBag_147 : decode cX0_packBag 147 = .ok (.iload 6, 2) := by decide +kernel
theorem dX0_packBag_149 : decode cX0_packBag 149 = .ok (.iconst 5, 1) := by decide +kernel
theorem dX0_packBag_150 : decode cX0_packBag 150 = .ok (.if_icmp .ge 37, 3) := by decide +kernel
theorem dX0_packBag_153 : decode cX0_packBag 153 = .ok (.aload_n 0, 1) := by decide +kernel
theorem dX0_packBag_154 : decode cX0_packBag 154 = .ok (.getfield 18, 3) := by decide +kernel
theorem dX0_packBag_157 : decode cX0_packBag 157 = .ok (.iload 6, 2) := by decide +kernel
theorem dX0_packBag_159 : decode cX0_packBag 159 = .ok (.iload 6, 2) := by decide +kernel
theorem dX0_packBag_161 : decode cX0_packBag 161 = .ok (.aload_n 1, 1) := by decide +kernel
theorem dX0_packBag_162 : decode cX0_packBag 162 = .ok (.getfield 66, 3) := by decide +kernel
theorem dX0_packBag_165 : decode cX0_packBag 165 = .ok (.if_icmp .ge 14, 3) := by decide +kernel
theorem dX0_packBag_179 : decode cX0_packBag 179 = .ok (.iconst 0, 1) := by decide +kernel
theorem dX0_packBag_180 : decode cX0_packBag 180 = .ok (.iastore, 1) := by decide +kernel
theorem dX0_packBag_181 : decode cX0_packBag 181 = .ok (.iinc 6 1, 3) := by decide +kernel
theorem dX0_packBag_184 : decode cX0_packBag 184 = .ok (.goto (-37), 3) := by decide +kernel
theorem dX0_packBag_168 : decode cX0_packBag 168 = .ok (.aload_n 1, 1) := by decide +kernel
theorem dX0_packBag_169 : decode cX0_packBag 169 = .ok (.iload 5, 2) := by decide +kernel
theorem dX0_packBag_171 : decode cX0_packBag 171 = .ok (.iload 6, 2) := by decide +kernel
theorem dX0_packBag_173 : decode cX0_packBag 173 = .ok (.invokestatic 94, 3) := by decide +kernel
theorem dX0_packBag_176 : decode cX0_packBag 176 = .ok (.goto 4, 3) := by decide +kernel
theorem dX0_packBag_187 : decode cX0_packBag 187 = .ok (.return_, 1) := by decide +kernel
theorem mv_X0_countByNeed : MV RX0 yX0_countByNeed cX0_countByNeed 7 none 4 := ⟨mw_5_35, mp_3_2, mw_1_9, mw_5_36, ⟨rfl, by decide, by decide, by decide +kernel⟩⟩
theorem mv_X0_countByBag : MV RX0 yX0_countByBag cX0_countByBag 6 none 2 := ⟨mw_5_43, mp_3_4, mw_1_9, mw_5_44, ⟨rfl, by decide, by decide, by decide +kernel⟩⟩
theorem ms_X0_priceIfBuyable : MS RX0 yX0_priceIfBuyable cX0_priceIfBuyable 8 (some .int) 4 := ⟨mw_5_52, mw_1_9, mw_5_53, ⟨rfl, by decide, by decide, by decide +kernel⟩⟩
set_option maxHeartbeats 4000000 in
set_option maxRecDepth 100000 in
theorem cy_X0_packBag (l : Launch) (D : va_G) (cA : Nat → ClassId) (L : List Nat) (T : Nat → Nat) (r : Rg) (hG : GR L T r) (hL : L.Nodup) (σ : Sg) (ρ : Lg) (hW : WT L ry T σ) (sz : Nat) (h0 : Nat) (mh0 : h0 ∈ L) (th0 : T h0 = 0) (h1 : Nat) (mh1 : h1 ∈ L) (th1 : T h1 = 3) (h2 : Nat) (mh2 : h2 ∈ L) (th2 : T h2 = 8) (p3 : Int32) (w0 : 0 ≤ p3.toInt) (w1 : p3.toInt ≤ 3) : Met l yX0_packBag (.code yX0_packBag cX0_packBag 9 none :: wsA) ({ frames := 3, cells := 0, slots := 0, locals := 89 }) (PR D cA L T r σ ρ sz [.ref h0, .ref h1, .ref h2, .int p3]) (QV D cA L T r ry [(0, 4), (0, 5), (21, 1000), (22, 1000), (23, 1000)] σ sz (fun σ1 => True)) 0 0 (dm L sz) := by
  refine Met.ofW (cc := cX0_packBag) (maxL := 9) (ret := none) (by decide) rfl ?_
  intro p e s m args below meth c s₁ B hml hv
  obtain ⟨rfl, hsz, hP, hK, hN⟩ := hv
  have hx := B.exec
  have hb := B.bytes
  have hr := B.returns
  have hts : ∀ w ∈ wsA, w.before _ s = true := fun w h => atoms_spec (ws := .code yX0_packBag cX0_packBag 9 none :: wsA) B.pre w (List.mem_cons_of_mem _ h)
  have hown : s.vm.findClass RX0 = some m.cls := findClass_of_methodNamed B.named
  subst hsz
  have hLA : LA (dm L s.heap.size) L := ⟨hL, fun a h => Or.inl h⟩
  have hA : ∀ q : Nat, s.heap.size ≤ q → dm L s.heap.size q := fun q h => Or.inr h
  have hS : va_S (dm L s.heap.size) s.heap s.heap [] := va_S.rf
  have hB : TS D cA L T r ry [(0, 4), (0, 5), (21, 1000), (22, 1000), (23, 1000)] σ σ ρ s.heap := ⟨hP, hW, FR.rf⟩
  have hl := lv_entry ([.ref h0, .ref h1, .ref h2, .int p3]) (n := 9) (Nat.le_of_ble_eq_true rfl)
  rw [lg_entry_eq]
  generalize (lg_sl ([.ref h0, .ref h1, .ref h2, .int p3]) ++ List.replicate (9 - (lg_sl ([.ref h0, .ref h1, .ref h2, .int p3])).length) Slot.unset).toArray = ls at hl ⊢
  have hl : lv_has ls 9 [(0, .ref h0), (1, .ref h1), (2, .ref h2), (3, .int p3)] := hl
  refine lv_iconst (v := 1) hx hb dX0_packBag_0 (by decide) ?_
  refine lv_iconst (v := 2) hx hb dX0_packBag_1 (by decide) ?_
  refine lv_aload_n hx hb dX0_packBag_2 rfl (lv_at hl 1 rfl) ?_
  refine t_gi hx hb hts hown hK hB mh1 th1 fi_3_8 rfl mw_1_176 dX0_packBag_3 (fun x_1 ex_1 lx_1 ux_1 => ?_)
  have cx_1 := congrArg Int32.toInt ex_1
  refine lv_imul hx hb dX0_packBag_6 ?_
  refine lv_topi (fun x_2 ex_2 => ?_)
  have vx_2 := b_mul (by decide : (2 : Int32).toInt = 2) (rfl : x_1.toInt = _) ex_2 (by omega) (by omega)
  refine lv_ishl hx hb dX0_packBag_7 ?_
  refine lv_topi (fun x_3 ex_3 => ?_)
  have lx_3 := i_lo x_3
  have ux_3 := i_hi x_3
  obtain ⟨lx_39, ux_39⟩ := shl1 ex_3 (by omega) (by omega)
  refine lv_istore (lv' := [(4, .int x_3), (0, .ref h0), (1, .ref h1), (2, .ref h2), (3, .int p3)]) hx hb dX0_packBag_8 hl (by decide) rfl (fun ls hl => ?_)
  refine lv_aload_n hx hb dX0_packBag_10 rfl (lv_at hl 1 rfl) ?_
  refine lv_aload_n hx hb dX0_packBag_11 rfl (lv_at hl 2 rfl) ?_
  refine lv_aload_n hx hb dX0_packBag_12 rfl (lv_at hl 3 rfl) ?_
  refine lv_iload_n hx hb dX0_packBag_13 rfl (lv_at hl 4 rfl) ?_
  refine lv_iload hx hb dX0_packBag_14 (lv_at hl 0 rfl) ?_
  refine t_cv (va_runV (As := [.ref h1, .ref h2, .int p3, .int x_3]) (rest := []) ⟨hx, hb, hml, hown, hts⟩ (cy_X0_countByNeed l D cA L T r hG hLA.1 σ ρ hB.2.1 _ h0 mh0 th0 h1 mh1 th1 h2 mh2 th2 p3 x_3 (by first | omega | decide) (by first | omega | decide) (by first | omega | decide) (by first | omega | decide)) (cV hts mv_X0_countByNeed mw_5_33 rfl rfl ⟨Nat.le_of_ble_eq_true rfl, Nat.le_of_ble_eq_true rfl⟩) (pV hB.1 hK hN mh0 th0 (show shp cA 0 _ _ _ = .inr (0, Fs0 _ _ _) from rfl) rfl) rfl rfl hl.1 rfl (lv_room (Nat.le_of_ble_eq_true rfl)) dX0_packBag_16 ⟨Nat.le_of_ble_eq_true rfl, Nat.le_of_ble_eq_true rfl⟩) hLA hA hB hS (by decide) (fun σ_4 ρ_5 H locs hB fσ_4 pσ_4 hS => ?_)
  refine lv_aload_n hx hb dX0_packBag_19 rfl (lv_at hl 1 rfl) ?_
  refine lv_aload_n hx hb dX0_packBag_20 rfl (lv_at hl 2 rfl) ?_
  refine lv_iload hx hb dX0_packBag_21 (lv_at hl 0 rfl) ?_
  refine t_cv (va_runV (As := [.ref h1, .int x_3]) (rest := []) ⟨hx, hb, hml, hown, hts⟩ (cy_X0_countByBag l D cA L T r hG hLA.1 σ_4 ρ_5 hB.2.1 _ h0 mh0 th0 h1 mh1 th1 x_3 (by first | omega | decide) (by first | omega | decide)) (cV hts mv_X0_countByBag mw_5_41 rfl rfl ⟨Nat.le_of_ble_eq_true rfl, Nat.le_of_ble_eq_true rfl⟩) (pV hB.1 hK hN mh0 th0 (show shp cA 0 _ _ _ = .inr (0, Fs0 _ _ _) from rfl) rfl) rfl rfl hl.1 rfl (lv_room (Nat.le_of_ble_eq_true rfl)) dX0_packBag_23 ⟨Nat.le_of_ble_eq_true rfl, Nat.le_of_ble_eq_true rfl⟩) hLA hA hB hS (by decide) (fun σ_7 ρ_8 H locs hB fσ_7 pσ_7 hS => ?_)
  refine lv_aload_n hx hb dX0_packBag_26 rfl (lv_at hl 1 rfl) ?_
  refine lv_iconst (v := (-1)) hx hb dX0_packBag_27 (by decide) ?_
  refine t_pi hx hb hts hown hK hLA hB hS mh0 th0 fi_0_4 rfl rfl rfl (i_lo _) (i_hi _) (Or.inl (by decide)) mw_2_102 dX0_packBag_28 (fun H locs σ_10 eσ_10 hB hS => ?_)
  have k_11 : σ_10 h0 4 = (-1) := by rw [eσ_10]; exact up2_same _ _ _ _
  refine lv_aload_n hx hb dX0_packBag_31 rfl (lv_at hl 1 rfl) ?_
  refine lv_iconst (v := 0) hx hb dX0_packBag_32 (by decide) ?_
  refine t_pi hx hb hts hown hK hLA hB hS mh0 th0 fi_0_5 rfl rfl rfl (i_lo _) (i_hi _) (Or.inl (by decide)) mw_2_104 dX0_packBag_33 (fun H locs σ_12 eσ_12 hB hS => ?_)
  have k_13 : σ_12 h0 5 = 0 := by rw [eσ_12]; exact up2_same _ _ _ _
  refine lv_iconst (v := 0) hx hb dX0_packBag_36 (by decide) ?_
  refine lv_istore (lv' := [(5, .int 0), (4, .int x_3), (0, .ref h0), (1, .ref h1), (2, .ref h2), (3, .int p3)]) hx hb dX0_packBag_37 hl (by decide) rfl (fun ls hl => ?_)
  refine lv_iconst (v := 0) hx hb dX0_packBag_39 (by decide) ?_
  refine lv_istore (lv' := [(6, .int 0), (5, .int 0), (4, .int x_3), (0, .ref h0), (1, .ref h1), (2, .ref h2), (3, .int p3)]) hx hb dX0_packBag_40 hl (by decide) rfl (fun ls hl => ?_)
  have k_14 : σ_4 h1 8 = x_1 := (FR.at fσ_4 th1 (by decide)).trans ex_1.symm
  have k_15 : σ_7 h1 8 = x_1 := (FR.at fσ_7 th1 (by decide)).trans k_14
  have k_16 : σ_10 h1 8 = x_1 := by rw [eσ_10, up2_nej _ _ (by decide)]; exact k_15
  have k_17 : σ_12 h1 8 = x_1 := by rw [eσ_12, up2_nej _ _ (by decide)]; exact k_16
  refine w_loop (α := Int32 × Int32 × Sg × Lg) (fun (i_18, i_19, σ_20, ρ_21) H locs ls => 0 ≤ i_19.toInt ∧ i_19.toInt ≤ 1024 ∧ σ_20 h1 8 = x_1 ∧ TS D cA L T r ry [(0, 4), (0, 5), (21, 1000), (22, 1000), (23, 1000)] σ σ_20 ρ_21 H ∧ va_S (dm L s.heap.size) s.heap H locs ∧ lv_has ls 9 [(6, .int i_19), (5, .int i_18), (4, .int x_3), (0, .ref h0), (1, .ref h1), (2, .ref h2), (3, .int p3)]) (fun (i_18, i_19, σ_20, ρ_21) => (1024 - i_19.toInt).toNat) ?_ ⟨0, 0, σ_12, ρ_8⟩ ⟨(by decide), (by decide), k_17, hB, hS, lv_sub hl [0, 1, 2, 3, 4, 5, 6] rfl⟩
  rintro ⟨i_18, i_19, σ_20, ρ_21⟩ H locs ls ⟨li_19, ui_19, k_23, hB, hS, hl⟩ ih_22
  refine lv_iload hx hb dX0_packBag_42 (lv_at hl 0 rfl) ?_
  refine lv_iload hx hb dX0_packBag_44 (lv_at hl 2 rfl) ?_
  refine lv_icmp_ge (tgt := 144) hx hb dX0_packBag_46 (by decide) (fun c_24 => ?_) (fun c_24 => ?_)
  · skip
    have uc_24 := j_le c_24
    refine lv_iconst (v := 0) hx hb dX0_packBag_144 (by decide) ?_
    refine lv_istore (lv' := [(6, .int 0), (5, .int i_18), (4, .int x_3), (0, .ref h0), (1, .ref h1), (2, .ref h2), (3, .int p3)]) hx hb dX0_packBag_145 hl (by decide) rfl (fun ls hl => ?_)
    refine w_loop (α := Int32 × Sg × Lg) (fun (i_25, σ_26, ρ_27) H locs ls => 0 ≤ i_25.toInt ∧ i_25.toInt ≤ 5 ∧ σ_26 h1 8 = x_1 ∧ TS D cA L T r ry [(0, 4), (0, 5), (21, 1000), (22, 1000), (23, 1000)] σ σ_26 ρ_27 H ∧ va_S (dm L s.heap.size) s.heap H locs ∧ lv_has ls 9 [(6, .int i_25), (5, .int i_18), (4, .int x_3), (0, .ref h0), (1, .ref h1), (2, .ref h2), (3, .int p3)]) (fun (i_25, σ_26, ρ_27) => (5 - i_25.toInt).toNat) ?_ ⟨0, σ_20, ρ_21⟩ ⟨(by decide), (by decide), k_23, hB, hS, lv_sub hl [0, 1, 2, 3, 4, 5, 6] rfl⟩
    rintro ⟨i_25, σ_26, ρ_27⟩ H locs ls ⟨li_25, ui_25, k_29, hB, hS, hl⟩ ih_28
    refine lv_iload hx hb dX0_packBag_147 (lv_at hl 0 rfl) ?_
    refine lv_iconst (v := 5) hx hb dX0_packBag_149 (by decide) ?_
    refine lv_icmp_ge (tgt := 187) hx hb dX0_packBag_150 (by decide) (fun c_30 => ?_) (fun c_30 => ?_)
    · skip
      have uc_30 := i_ge (n := 5) (by decide) c_30
      exact W.vret hx hb hr (fun t ht hW => ⟨⟨(σ_26, ρ_27), rfl, ⟨hB.2.1, hB.2.2, trivial⟩, (show TP D cA L T r σ_26 ρ_27 t.heap from by rw [ht]; exact hB.1)⟩, hS.F ht⟩) hS.2.2 dX0_packBag_187
    · skip
      have uc_30 := i_nge (n := 5) (by decide) c_30
      refine lv_aload_n hx hb dX0_packBag_153 rfl (lv_at hl 3 rfl) ?_
      refine t_gr hx hb hts hown hK hG hB mh0 th0 fq_0_2 rfl mw_2_99 dX0_packBag_154 (fun b_31 hb_31 mb_31 tb_31 => ?_)
      refine lv_iload hx hb dX0_packBag_157 (lv_at hl 0 rfl) ?_
      refine lv_iload hx hb dX0_packBag_159 (lv_at hl 0 rfl) ?_
      refine lv_aload_n hx hb dX0_packBag_161 rfl (lv_at hl 4 rfl) ?_
      refine t_gv hx hb hts hown hK hB mh1 th1 fi_3_8 k_29 mw_1_176 dX0_packBag_162 ?_
      refine lv_icmp_ge (tgt := 179) hx hb dX0_packBag_165 (by decide) (fun c_32 => ?_) (fun c_32 => ?_)
      · skip
        have uc_32 := j_le c_32
        refine lv_iconst (v := 0) hx hb dX0_packBag_179 (by decide) ?_
        refine t_si hx hb hK hLA hB hS mb_31 tb_31 ai_22 (i_in (by omega) (by omega)) (i_lo _) (i_hi _) (Or.inr (by decide)) dX0_packBag_180 (fun H locs σ_33 eσ_33 hB hS => ?_)
        have k_34 : σ_33 b_31 i_25.toNatClampNeg = 0 := by rw [eσ_33]; exact up2_same _ _ _ _
        obtain ⟨x_35, ex_35⟩ : ∃ y : Int32, y = i_25 + 1 := ⟨_, rfl⟩
        have vx_35 := b_add (rfl : i_25.toInt = _) (by decide : (1 : Int32).toInt = 1) ex_35 (by omega) (by omega)
        refine lv_iinc (v := x_35) (lv' := [(6, .int x_35), (5, .int i_18), (4, .int x_3), (0, .ref h0), (1, .ref h1), (2, .ref h2), (3, .int p3)]) hx hb dX0_packBag_181 hl (k := 0) rfl (by rw [ex_35]; rfl) (by decide) rfl (fun ls hl => ?_)
        refine lv_goto (tgt := 147) hx hb dX0_packBag_184 (by decide) ?_
        have k_36 : σ_33 h1 8 = x_1 := by rw [eσ_33, up2_nea _ _ (tg_ne th1 tb_31 (by decide))]; exact k_29
        exact ih_28 ⟨x_35, σ_33, ρ_27⟩ _ _ _ ⟨(by omega), (by omega), k_36, hB, hS, lv_sub hl [0, 1, 2, 3, 4, 5, 6] rfl⟩ (by show (5 - x_35.toInt).toNat < (5 - i_25.toInt).toNat; omega)
      · skip
        have uc_32 := j_nle c_32
        refine lv_aload_n hx hb dX0_packBag_168 rfl (lv_at hl 4 rfl) ?_
        refine lv_iload hx hb dX0_packBag_169 (lv_at hl 1 rfl) ?_
        refine lv_iload hx hb dX0_packBag_171 (lv_at hl 0 rfl) ?_
        refine t_ci (va_runS (As := [.ref h1, .int i_18, .int i_25]) (rest := [.int i_25, .ref b_31]) ⟨hx, hb, hml, hown, hts⟩ (cy_X0_inBag l D cA L T r hG hLA.1 σ_26 ρ_27 hB.2.1 _ h1 mh1 th1 i_18 i_25 (by first | omega | decide) (by first | omega | decide)) (cS hts ms_X0_inBag mw_5_48 rfl rfl ⟨Nat.le_of_ble_eq_true rfl, Nat.le_of_ble_eq_true rfl⟩) (pS hB.1 hK hN) rfl rfl hl.1 rfl (lv_room (Nat.le_of_ble_eq_true rfl)) dX0_packBag_173 ⟨Nat.le_of_ble_eq_true rfl, Nat.le_of_ble_eq_true rfl⟩) hLA hA hB hS (by decide) (fun x_39 σ_37 ρ_38 H locs hB fσ_37 pσ_37 hS => ?_)
        have qσ_37 := FR.nil fσ_37
        subst qσ_37
        obtain ⟨lx_39, ux_39⟩ := pσ_37
        refine lv_goto (tgt := 180) hx hb dX0_packBag_176 (by decide) ?_
        refine t_si hx hb hK hLA hB hS mb_31 tb_31 ai_22 (i_in (by omega) (by omega)) (i_lo _) (i_hi _) (Or.inr (by decide)) dX0_packBag_180 (fun H locs σ_40 eσ_40 hB hS => ?_)
        have k_41 : σ_40 b_31 i_25.toNatClampNeg = x_39 := by rw [eσ_40]; exact up2_same _ _ _ _
        obtain ⟨x_42, ex_42⟩ : ∃ y : Int32, y = i_25 + 1 := ⟨_, rfl⟩
        have vx_42 := b_add (rfl : i_25.toInt = _) (by decide : (1 : Int32).toInt = 1) ex_42 (by omega) (by omega)
        refine lv_iinc (v := x_42) (lv' := [(6, .int x_42), (5, .int i_18), (4, .int x_3), (0, .ref h0), (1, .ref h1), (2, .ref h2), (3, .int p3)]) hx hb dX0_packBag_181 hl (k := 0) rfl (by rw [ex_42]; rfl) (by decide) rfl (fun ls hl => ?_)
        refine lv_goto (tgt := 147) hx hb dX0_packBag_184 (by decide) ?_
        have k_43 : σ_40 h1 8 = x_1 := by rw [eσ_40, up2_nea _ _ (tg_ne th1 tb_31 (by decide))]; exact k_29
        exact ih_28 ⟨x_42, σ_40, ρ_38⟩ _ _ _ ⟨(by omega), (by omega), k_43, hB, hS, lv_sub hl [0, 1, 2, 3, 4, 5, 6] rfl⟩ (by show (5 - x_42.toInt).toNat < (5 - i_25.toInt).toNat; omega)
  · skip
    have uc_24 := j_nle c_24
    refine lv_aload_n hx hb dX0_packBag_49 rfl (lv_at hl 3 rfl) ?_
    refine t_gr hx hb hts hown hK hG hB mh0 th0 fq_0_3 rfl mw_2_101 dX0_packBag_50 (fun b_44 hb_44 mb_44 tb_44 => ?_)
    refine lv_iload hx hb dX0_packBag_53 (lv_at hl 0 rfl) ?_
    refine t_ai hx hb hK hB mb_44 tb_44 ai_23 (fun _ => rfl) (i_in (by omega) (by omega)) dX0_packBag_55 (fun x_45 ex_45 lx_45 ux_45 => ?_)
    have cx_45 := congrArg Int32.toInt ex_45
    refine lv_aload_n hx hb dX0_packBag_56 rfl (lv_at hl 3 rfl) ?_
    refine t_gi hx hb hts hown hK hB mh0 th0 fi_0_4 rfl mw_2_102 dX0_packBag_57 (fun x_46 ex_46 lx_46 ux_46 => ?_)
    have cx_46 := congrArg Int32.toInt ex_46
    refine lv_icmp_lt (tgt := 74) hx hb dX0_packBag_60 (by decide) (fun c_47 => ?_) (fun c_47 => ?_)
    · skip
      have uc_47 := j_lt c_47
      refine lv_iconst (v := (-1)) hx hb dX0_packBag_74 (by decide) ?_
      refine lv_istore (lv' := [(7, .int (-1)), (6, .int i_19), (5, .int i_18), (4, .int x_3), (0, .ref h0), (1, .ref h1), (2, .ref h2), (3, .int p3)]) hx hb dX0_packBag_75 hl (by decide) rfl (fun ls hl => ?_)
      refine lv_aload_n hx hb dX0_packBag_77 rfl (lv_at hl 4 rfl) ?_
      refine t_gk hx hb hts hown hK hB mh0 th0 fq_0_3 hb_44 mw_2_101 dX0_packBag_78 ?_
      refine lv_iload hx hb dX0_packBag_81 (lv_at hl 1 rfl) ?_
      refine t_ai hx hb hK hB mb_44 tb_44 ai_23 (fun _ => rfl) (i_in (by omega) (by omega)) dX0_packBag_83 (fun x_48 ex_48 lx_48 ux_48 => ?_)
      have qx_48 : x_48 = x_45 := ex_48.trans ex_45.symm
      have qx_48 := qx_48.symm
      subst qx_48
      refine lv_aload_n hx hb dX0_packBag_84 rfl (lv_at hl 4 rfl) ?_
      refine t_gv hx hb hts hown hK hB mh0 th0 fi_0_4 ex_46.symm mw_2_102 dX0_packBag_85 ?_
      refine lv_icmp_gt (tgt := 100) hx hb dX0_packBag_88 (by decide) (fun c_49 => ?_) (fun c_49 => ?_)
      · skip
        have uc_49 := j_lt c_49
        refine lv_iconst (v := 1) hx hb dX0_packBag_100 (by decide) ?_
        refine lv_goto (tgt := 105) hx hb dX0_packBag_101 (by decide) ?_
        refine lv_istore (lv' := [(8, .int 1), (7, .int (-1)), (6, .int i_19), (5, .int i_18), (4, .int x_3), (0, .ref h0), (1, .ref h1), (2, .ref h2), (3, .int p3)]) hx hb dX0_packBag_105 hl (by decide) rfl (fun ls hl => ?_)
        refine lv_iload hx hb dX0_packBag_107 (lv_at hl 1 rfl) ?_
        refine lv_if_lt (tgt := 138) hx hb dX0_packBag_109 (by decide) (fun _ => ?_) (fun c9 => absurd (by decide) c9)
        obtain ⟨x_50, ex_50⟩ : ∃ y : Int32, y = i_19 + 1 := ⟨_, rfl⟩
        have vx_50 := b_add (rfl : i_19.toInt = _) (by decide : (1 : Int32).toInt = 1) ex_50 (by omega) (by omega)
        refine lv_iinc (v := x_50) (lv' := [(6, .int x_50), (8, .int 1), (7, .int (-1)), (5, .int i_18), (4, .int x_3), (0, .ref h0), (1, .ref h1), (2, .ref h2), (3, .int p3)]) hx hb dX0_packBag_138 hl (k := 2) rfl (by rw [ex_50]; rfl) (by decide) rfl (fun ls hl => ?_)
        refine lv_goto (tgt := 42) hx hb dX0_packBag_141 (by decide) ?_
        exact ih_22 ⟨i_18, x_50, σ_20, ρ_21⟩ _ _ _ ⟨(by omega), (by omega), k_23, hB, hS, lv_sub hl [0, 3, 4, 5, 6, 7, 8] rfl⟩ (by show (1024 - x_50.toInt).toNat < (1024 - i_19.toInt).toNat; omega)
      · skip
        have uc_49 := j_nlt c_49
        refine lv_iload hx hb dX0_packBag_91 (lv_at hl 0 rfl) ?_
        refine lv_aload_n hx hb dX0_packBag_93 rfl (lv_at hl 4 rfl) ?_
        refine t_gi hx hb hts hown hK hB mh0 th0 fi_0_5 rfl mw_2_104 dX0_packBag_94 (fun x_51 ex_51 lx_51 ux_51 => ?_)
        have cx_51 := congrArg Int32.toInt ex_51
        refine lv_icmp_ge (tgt := 104) hx hb dX0_packBag_97 (by decide) (fun c_52 => ?_) (fun c_52 => ?_)
        · skip
          have uc_52 := i_le (n := (-1)) (by decide) c_52
          refine lv_iconst (v := 0) hx hb dX0_packBag_104 (by decide) ?_
          refine lv_istore (lv' := [(8, .int 0), (7, .int (-1)), (6, .int i_19), (5, .int i_18), (4, .int x_3), (0, .ref h0), (1, .ref h1), (2, .ref h2), (3, .int p3)]) hx hb dX0_packBag_105 hl (by decide) rfl (fun ls hl => ?_)
          refine lv_iload hx hb dX0_packBag_107 (lv_at hl 1 rfl) ?_
          refine lv_if_lt (tgt := 138) hx hb dX0_packBag_109 (by decide) (fun _ => ?_) (fun c9 => absurd (by decide) c9)
          obtain ⟨x_53, ex_53⟩ : ∃ y : Int32, y = i_19 + 1 := ⟨_, rfl⟩
          have vx_53 := b_add (rfl : i_19.toInt = _) (by decide : (1 : Int32).toInt = 1) ex_53 (by omega) (by omega)
          refine lv_iinc (v := x_53) (lv' := [(6, .int x_53), (8, .int 0), (7, .int (-1)), (5, .int i_18), (4, .int x_3), (0, .ref h0), (1, .ref h1), (2, .ref h2), (3, .int p3)]) hx hb dX0_packBag_138 hl (k := 2) rfl (by rw [ex_53]; rfl) (by decide) rfl (fun ls hl => ?_)
          refine lv_goto (tgt := 42) hx hb dX0_packBag_141 (by decide) ?_
          exact ih_22 ⟨i_18, x_53, σ_20, ρ_21⟩ _ _ _ ⟨(by omega), (by omega), k_23, hB, hS, lv_sub hl [0, 3, 4, 5, 6, 7, 8] rfl⟩ (by show (1024 - x_53.toInt).toNat < (1024 - i_19.toInt).toNat; omega)
        · skip
          have uc_52 := i_nle (n := (-1)) (by decide) c_52
          refine lv_iconst (v := 1) hx hb dX0_packBag_100 (by decide) ?_
          refine lv_goto (tgt := 105) hx hb dX0_packBag_101 (by decide) ?_
          refine lv_istore (lv' := [(8, .int 1), (7, .int (-1)), (6, .int i_19), (5, .int i_18), (4, .int x_3), (0, .ref h0), (1, .ref h1), (2, .ref h2), (3, .int p3)]) hx hb dX0_packBag_105 hl (by decide) rfl (fun ls hl => ?_)
          refine lv_iload hx hb dX0_packBag_107 (lv_at hl 1 rfl) ?_
          refine lv_if_lt (tgt := 138) hx hb dX0_packBag_109 (by decide) (fun _ => ?_) (fun c9 => absurd (by decide) c9)
          obtain ⟨x_54, ex_54⟩ : ∃ y : Int32, y = i_19 + 1 := ⟨_, rfl⟩
          have vx_54 := b_add (rfl : i_19.toInt = _) (by decide : (1 : Int32).toInt = 1) ex_54 (by omega) (by omega)
          refine lv_iinc (v := x_54) (lv' := [(6, .int x_54), (8, .int 1), (7, .int (-1)), (5, .int i_18), (4, .int x_3), (0, .ref h0), (1, .ref h1), (2, .ref h2), (3, .int p3)]) hx hb dX0_packBag_138 hl (k := 2) rfl (by rw [ex_54]; rfl) (by decide) rfl (fun ls hl => ?_)
          refine lv_goto (tgt := 42) hx hb dX0_packBag_141 (by decide) ?_
          exact ih_22 ⟨i_18, x_54, σ_20, ρ_21⟩ _ _ _ ⟨(by omega), (by omega), k_23, hB, hS, lv_sub hl [0, 3, 4, 5, 6, 7, 8] rfl⟩ (by show (1024 - x_54.toInt).toNat < (1024 - i_19.toInt).toNat; omega)
    · skip
      have uc_47 := j_nlt c_47
      refine lv_aload_n hx hb dX0_packBag_63 rfl (lv_at hl 4 rfl) ?_
      refine lv_aload_n hx hb dX0_packBag_64 rfl (lv_at hl 5 rfl) ?_
      refine lv_iload_n hx hb dX0_packBag_65 rfl (lv_at hl 6 rfl) ?_
      refine lv_iload hx hb dX0_packBag_66 (lv_at hl 0 rfl) ?_
      refine t_ci (va_runS (As := [.ref h1, .ref h2, .int p3, .int i_19]) (rest := []) ⟨hx, hb, hml, hown, hts⟩ (cy_X0_priceIfBuyable l D cA L T r hG hLA.1 σ_20 ρ_21 hB.2.1 _ h1 mh1 th1 h2 mh2 th2 p3 i_19 (by first | omega | decide) (by first | omega | decide)) (cS hts ms_X0_priceIfBuyable mw_5_51 rfl rfl ⟨Nat.le_of_ble_eq_true rfl, Nat.le_of_ble_eq_true rfl⟩) (pS hB.1 hK hN) rfl rfl hl.1 rfl (lv_room (Nat.le_of_ble_eq_true rfl)) dX0_packBag_68 ⟨Nat.le_of_ble_eq_true rfl, Nat.le_of_ble_eq_true rfl⟩) hLA hA hB hS (by decide) (fun x_57 σ_55 ρ_56 H locs hB fσ_55 pσ_55 hS => ?_)
      have qσ_55 := FR.nil fσ_55
      subst qσ_55
      refine lv_goto (tgt := 75) hx hb dX0_packBag_71 (by decide) ?_
      refine lv_istore (lv' := [(7, .int x_57), (6, .int i_19), (5, .int i_18), (4, .int x_3), (0, .ref h0), (1, .ref h1), (2, .ref h2), (3, .int p3)]) hx hb dX0_packBag_75 hl (by decide) rfl (fun ls hl => ?_)
      refine lv_aload_n hx hb dX0_packBag_77 rfl (lv_at hl 4 rfl) ?_
      refine t_gk hx hb hts hown hK hB mh0 th0 fq_0_3 hb_44 mw_2_101 dX0_packBag_78 ?_
      refine lv_iload hx hb dX0_packBag_81 (lv_at hl 1 rfl) ?_
      refine t_ai hx hb hK hB mb_44 tb_44 ai_23 (fun _ => rfl) (i_in (by omega) (by omega)) dX0_packBag_83 (fun x_58 ex_58 lx_58 ux_58 => ?_)
      have qx_58 : x_58 = x_45 := ex_58.trans ex_45.symm
      have qx_58 := qx_58.symm
      subst qx_58
      refine lv_aload_n hx hb dX0_packBag_84 rfl (lv_at hl 4 rfl) ?_
      refine t_gv hx hb hts hown hK hB mh0 th0 fi_0_4 ex_46.symm mw_2_102 dX0_packBag_85 ?_
      refine lv_icmp_gt (tgt := 100) hx hb dX0_packBag_88 (by decide) (fun c_59 => ?_) (fun c_59 => ?_)
      · skip
        have uc_59 := j_lt c_59
        refine lv_iconst (v := 1) hx hb dX0_packBag_100 (by decide) ?_
        refine lv_goto (tgt := 105) hx hb dX0_packBag_101 (by decide) ?_
        refine lv_istore (lv' := [(8, .int 1), (7, .int x_57), (6, .int i_19), (5, .int i_18), (4, .int x_3), (0, .ref h0), (1, .ref h1), (2, .ref h2), (3, .int p3)]) hx hb dX0_packBag_105 hl (by decide) rfl (fun ls hl => ?_)
        refine lv_iload hx hb dX0_packBag_107 (lv_at hl 1 rfl) ?_
        refine lv_if_lt (tgt := 138) hx hb dX0_packBag_109 (by decide) (fun c_60 => ?_) (fun c_60 => ?_)
        · skip
          have uc_60 := i_lt (n := 0) (by decide) c_60
          obtain ⟨x_61, ex_61⟩ : ∃ y : Int32, y = i_19 + 1 := ⟨_, rfl⟩
          have vx_61 := b_add (rfl : i_19.toInt = _) (by decide : (1 : Int32).toInt = 1) ex_61 (by omega) (by omega)
          refine lv_iinc (v := x_61) (lv' := [(6, .int x_61), (8, .int 1), (7, .int x_57), (5, .int i_18), (4, .int x_3), (0, .ref h0), (1, .ref h1), (2, .ref h2), (3, .int p3)]) hx hb dX0_packBag_138 hl (k := 2) rfl (by rw [ex_61]; rfl) (by decide) rfl (fun ls hl => ?_)
          refine lv_goto (tgt := 42) hx hb dX0_packBag_141 (by decide) ?_
          exact ih_22 ⟨i_18, x_61, σ_20, ρ_56⟩ _ _ _ ⟨(by omega), (by omega), k_23, hB, hS, lv_sub hl [0, 3, 4, 5, 6, 7, 8] rfl⟩ (by show (1024 - x_61.toInt).toNat < (1024 - i_19.toInt).toNat; omega)
        · skip
          have uc_60 := i_nlt (n := 0) (by decide) c_60
          refine lv_iload hx hb dX0_packBag_112 (lv_at hl 0 rfl) ?_
          refine lv_if_eq (tgt := 138) hx hb dX0_packBag_114 (by decide) (fun c9 => absurd c9 (by decide)) (fun _ => ?_)
          refine lv_aload_n hx hb dX0_packBag_117 rfl (lv_at hl 5 rfl) ?_
          refine lv_aload_n hx hb dX0_packBag_118 rfl (lv_at hl 5 rfl) ?_
          refine t_gk hx hb hts hown hK hB mh0 th0 fq_0_3 hb_44 mw_2_101 dX0_packBag_119 ?_
          refine lv_iload hx hb dX0_packBag_122 (lv_at hl 2 rfl) ?_
          refine t_ai hx hb hK hB mb_44 tb_44 ai_23 (fun _ => rfl) (i_in (by omega) (by omega)) dX0_packBag_124 (fun x_62 ex_62 lx_62 ux_62 => ?_)
          have qx_62 : x_62 = x_45 := ex_62.trans ex_45.symm
          have qx_62 := qx_62.symm
          subst qx_62
          refine t_pi hx hb hts hown hK hLA hB hS mh0 th0 fi_0_4 rfl rfl rfl (i_lo _) (i_hi _) (Or.inl (by decide)) mw_2_102 dX0_packBag_125 (fun H locs σ_63 eσ_63 hB hS => ?_)
          have k_64 : σ_63 h0 4 = x_45 := by rw [eσ_63]; exact up2_same _ _ _ _
          refine lv_aload_n hx hb dX0_packBag_128 rfl (lv_at hl 5 rfl) ?_
          refine lv_iload hx hb dX0_packBag_129 (lv_at hl 1 rfl) ?_
          refine t_pi hx hb hts hown hK hLA hB hS mh0 th0 fi_0_5 rfl rfl rfl (i_lo _) (i_hi _) (Or.inl (by decide)) mw_2_104 dX0_packBag_131 (fun H locs σ_65 eσ_65 hB hS => ?_)
          have k_66 : σ_65 h0 5 = x_57 := by rw [eσ_65]; exact up2_same _ _ _ _
          refine lv_iload hx hb dX0_packBag_134 (lv_at hl 2 rfl) ?_
          refine lv_istore (lv' := [(5, .int i_19), (8, .int 1), (7, .int x_57), (6, .int i_19), (4, .int x_3), (0, .ref h0), (1, .ref h1), (2, .ref h2), (3, .int p3)]) hx hb dX0_packBag_136 hl (by decide) rfl (fun ls hl => ?_)
          obtain ⟨x_67, ex_67⟩ : ∃ y : Int32, y = i_19 + 1 := ⟨_, rfl⟩
          have vx_67 := b_add (rfl : i_19.toInt = _) (by decide : (1 : Int32).toInt = 1) ex_67 (by omega) (by omega)
          refine lv_iinc (v := x_67) (lv' := [(6, .int x_67), (5, .int i_19), (8, .int 1), (7, .int x_57), (4, .int x_3), (0, .ref h0), (1, .ref h1), (2, .ref h2), (3, .int p3)]) hx hb dX0_packBag_138 hl (k := 3) rfl (by rw [ex_67]; rfl) (by decide) rfl (fun ls hl => ?_)
          refine lv_goto (tgt := 42) hx hb dX0_packBag_141 (by decide) ?_
          have k_68 : σ_63 h1 8 = x_1 := by rw [eσ_63, up2_nej _ _ (by decide)]; exact k_23
          have k_69 : σ_65 h1 8 = x_1 := by rw [eσ_65, up2_nej _ _ (by decide)]; exact k_68
          exact ih_22 ⟨i_19, x_67, σ_65, ρ_56⟩ _ _ _ ⟨(by omega), (by omega), k_69, hB, hS, lv_sub hl [0, 1, 4, 5, 6, 7, 8] rfl⟩ (by show (1024 - x_67.toInt).toNat < (1024 - i_19.toInt).toNat; omega)
      · skip
        have uc_59 := j_nlt c_59
        refine lv_iload hx hb dX0_packBag_91 (lv_at hl 0 rfl) ?_
        refine lv_aload_n hx hb dX0_packBag_93 rfl (lv_at hl 4 rfl) ?_
        refine t_gi hx hb hts hown hK hB mh0 th0 fi_0_5 rfl mw_2_104 dX0_packBag_94 (fun x_70 ex_70 lx_70 ux_70 => ?_)
        have cx_70 := congrArg Int32.toInt ex_70
        refine lv_icmp_ge (tgt := 104) hx hb dX0_packBag_97 (by decide) (fun c_71 => ?_) (fun c_71 => ?_)
        · skip
          have uc_71 := j_le c_71
          refine lv_iconst (v := 0) hx hb dX0_packBag_104 (by decide) ?_
          refine lv_istore (lv' := [(8, .int 0), (7, .int x_57), (6, .int i_19), (5, .int i_18), (4, .int x_3), (0, .ref h0), (1, .ref h1), (2, .ref h2), (3, .int p3)]) hx hb dX0_packBag_105 hl (by decide) rfl (fun ls hl => ?_)
          refine lv_iload hx hb dX0_packBag_107 (lv_at hl 1 rfl) ?_
          refine lv_if_lt (tgt := 138) hx hb dX0_packBag_109 (by decide) (fun c_72 => ?_) (fun c_72 => ?_)
          · skip
            have uc_72 := i_lt (n := 0) (by decide) c_72
            obtain ⟨x_73, ex_73⟩ : ∃ y : Int32, y = i_19 + 1 := ⟨_, rfl⟩
            have vx_73 := b_add (rfl : i_19.toInt = _) (by decide : (1 : Int32).toInt = 1) ex_73 (by omega) (by omega)
            refine lv_iinc (v := x_73) (lv' := [(6, .int x_73), (8, .int 0), (7, .int x_57), (5, .int i_18), (4, .int x_3), (0, .ref h0), (1, .ref h1), (2, .ref h2), (3, .int p3)]) hx hb dX0_packBag_138 hl (k := 2) rfl (by rw [ex_73]; rfl) (by decide) rfl (fun ls hl => ?_)
            refine lv_goto (tgt := 42) hx hb dX0_packBag_141 (by decide) ?_
            exact ih_22 ⟨i_18, x_73, σ_20, ρ_56⟩ _ _ _ ⟨(by omega), (by omega), k_23, hB, hS, lv_sub hl [0, 3, 4, 5, 6, 7, 8] rfl⟩ (by show (1024 - x_73.toInt).toNat < (1024 - i_19.toInt).toNat; omega)
          · skip
            have uc_72 := i_nlt (n := 0) (by decide) c_72
            refine lv_iload hx hb dX0_packBag_112 (lv_at hl 0 rfl) ?_
            refine lv_if_eq (tgt := 138) hx hb dX0_packBag_114 (by decide) (fun _ => ?_) (fun c9 => absurd (by decide) c9)
            obtain ⟨x_74, ex_74⟩ : ∃ y : Int32, y = i_19 + 1 := ⟨_, rfl⟩
            have vx_74 := b_add (rfl : i_19.toInt = _) (by decide : (1 : Int32).toInt = 1) ex_74 (by omega) (by omega)
            refine lv_iinc (v := x_74) (lv' := [(6, .int x_74), (8, .int 0), (7, .int x_57), (5, .int i_18), (4, .int x_3), (0, .ref h0), (1, .ref h1), (2, .ref h2), (3, .int p3)]) hx hb dX0_packBag_138 hl (k := 2) rfl (by rw [ex_74]; rfl) (by decide) rfl (fun ls hl => ?_)
            refine lv_goto (tgt := 42) hx hb dX0_packBag_141 (by decide) ?_
            exact ih_22 ⟨i_18, x_74, σ_20, ρ_56⟩ _ _ _ ⟨(by omega), (by omega), k_23, hB, hS, lv_sub hl [0, 3, 4, 5, 6, 7, 8] rfl⟩ (by show (1024 - x_74.toInt).toNat < (1024 - i_19.toInt).toNat; omega)
        · skip
          have uc_71 := j_nle c_71
          refine lv_iconst (v := 1) hx hb dX0_packBag_100 (by decide) ?_
          refine lv_goto (tgt := 105) hx hb dX0_packBag_101 (by decide) ?_
          refine lv_istore (lv' := [(8, .int 1), (7, .int x_57), (6, .int i_19), (5, .int i_18), (4, .int x_3), (0, .ref h0), (1, .ref h1), (2, .ref h2), (3, .int p3)]) hx hb dX0_packBag_105 hl (by decide) rfl (fun ls hl => ?_)
          refine lv_iload hx hb dX0_packBag_107 (lv_at hl 1 rfl) ?_
          refine lv_if_lt (tgt := 138) hx hb dX0_packBag_109 (by decide) (fun c_75 => ?_) (fun c_75 => ?_)
          · skip
            have uc_75 := i_lt (n := 0) (by decide) c_75
            obtain ⟨x_76, ex_76⟩ : ∃ y : Int32, y = i_19 + 1 := ⟨_, rfl⟩
            have vx_76 := b_add (rfl : i_19.toInt = _) (by decide : (1 : Int32).toInt = 1) ex_76 (by omega) (by omega)
            refine lv_iinc (v := x_76) (lv' := [(6, .int x_76), (8, .int 1), (7, .int x_57), (5, .int i_18), (4, .int x_3), (0, .ref h0), (1, .ref h1), (2, .ref h2), (3, .int p3)]) hx hb dX0_packBag_138 hl (k := 2) rfl (by rw [ex_76]; rfl) (by decide) rfl (fun ls hl => ?_)
            refine lv_goto (tgt := 42) hx hb dX0_packBag_141 (by decide) ?_
            exact ih_22 ⟨i_18, x_76, σ_20, ρ_56⟩ _ _ _ ⟨(by omega), (by omega), k_23, hB, hS, lv_sub hl [0, 3, 4, 5, 6, 7, 8] rfl⟩ (by show (1024 - x_76.toInt).toNat < (1024 - i_19.toInt).toNat; omega)
          · skip
            have uc_75 := i_nlt (n := 0) (by decide) c_75
            refine lv_iload hx hb dX0_packBag_112 (lv_at hl 0 rfl) ?_
            refine lv_if_eq (tgt := 138) hx hb dX0_packBag_114 (by decide) (fun c9 => absurd c9 (by decide)) (fun _ => ?_)
            refine lv_aload_n hx hb dX0_packBag_117 rfl (lv_at hl 5 rfl) ?_
            refine lv_aload_n hx hb dX0_packBag_118 rfl (lv_at hl 5 rfl) ?_
            refine t_gk hx hb hts hown hK hB mh0 th0 fq_0_3 hb_44 mw_2_101 dX0_packBag_119 ?_
            refine lv_iload hx hb dX0_packBag_122 (lv_at hl 2 rfl) ?_
            refine t_ai hx hb hK hB mb_44 tb_44 ai_23 (fun _ => rfl) (i_in (by omega) (by omega)) dX0_packBag_124 (fun x_77 ex_77 lx_77 ux_77 => ?_)
            have qx_77 : x_77 = x_45 := ex_77.trans ex_45.symm
            have qx_77 := qx_77.symm
            subst qx_77
            refine t_pi hx hb hts hown hK hLA hB hS mh0 th0 fi_0_4 rfl rfl rfl (i_lo _) (i_hi _) (Or.inl (by decide)) mw_2_102 dX0_packBag_125 (fun H locs σ_78 eσ_78 hB hS => ?_)
            have k_79 : σ_78 h0 4 = x_45 := by rw [eσ_78]; exact up2_same _ _ _ _
            refine lv_aload_n hx hb dX0_packBag_128 rfl (lv_at hl 5 rfl) ?_
            refine lv_iload hx hb dX0_packBag_129 (lv_at hl 1 rfl) ?_
            refine t_pi hx hb hts hown hK hLA hB hS mh0 th0 fi_0_5 rfl rfl rfl (i_lo _) (i_hi _) (Or.inl (by decide)) mw_2_104 dX0_packBag_131 (fun H locs σ_80 eσ_80 hB hS => ?_)
            have k_81 : σ_80 h0 5 = x_57 := by rw [eσ_80]; exact up2_same _ _ _ _
            refine lv_iload hx hb dX0_packBag_134 (lv_at hl 2 rfl) ?_
            refine lv_istore (lv' := [(5, .int i_19), (8, .int 1), (7, .int x_57), (6, .int i_19), (4, .int x_3), (0, .ref h0), (1, .ref h1), (2, .ref h2), (3, .int p3)]) hx hb dX0_packBag_136 hl (by decide) rfl (fun ls hl => ?_)
            obtain ⟨x_82, ex_82⟩ : ∃ y : Int32, y = i_19 + 1 := ⟨_, rfl⟩
            have vx_82 := b_add (rfl : i_19.toInt = _) (by decide : (1 : Int32).toInt = 1) ex_82 (by omega) (by omega)
            refine lv_iinc (v := x_82) (lv' := [(6, .int x_82), (5, .int i_19), (8, .int 1), (7, .int x_57), (4, .int x_3), (0, .ref h0), (1, .ref h1), (2, .ref h2), (3, .int p3)]) hx hb dX0_packBag_138 hl (k := 3) rfl (by rw [ex_82]; rfl) (by decide) rfl (fun ls hl => ?_)
            refine lv_goto (tgt := 42) hx hb dX0_packBag_141 (by decide) ?_
            have k_83 : σ_78 h1 8 = x_1 := by rw [eσ_78, up2_nej _ _ (by decide)]; exact k_23
            have k_84 : σ_80 h1 8 = x_1 := by rw [eσ_80, up2_nej _ _ (by decide)]; exact k_83
            exact ih_22 ⟨i_19, x_82, σ_80, ρ_56⟩ _ _ _ ⟨(by omega), (by omega), k_84, hB, hS, lv_sub hl [0, 1, 4, 5, 6, 7, 8] rfl⟩ (by show (1024 - x_82.toInt).toNat < (1024 - i_19.toInt).toNat; omega)
theorem mw_5_30 : (.instanceMethod yX0_packBag : Cond) ∈ wsA := wsA_t (List.mem_append_right _ (List.mem_append_right _ (List.mem_append_right _ (List.mem_append_right _ (List.mem_append_left _ (List.mem_of_getElem? (l := tables_1_5) (i := 30) rfl)))))) rfl
theorem mw_5_31 : (.selects RX0 yX0_packBag yX0_packBag : Cond) ∈ wsA := wsA_t (List.mem_append_right _ (List.mem_append_right _ (List.mem_append_right _ (List.mem_append_right _ (List.mem_append_left _ (List.mem_of_getElem? (l := tables_1_5) (i := 31) rfl)))))) rfl
theorem mw_5_32 : (.code yX0_packBag cX0_packBag 9 none : Cond) ∈ wsA := wsA_t (List.mem_append_right _ (List.mem_append_right _ (List.mem_append_right _ (List.mem_append_right _ (List.mem_append_left _ (List.mem_of_getElem? (l := tables_1_5) (i := 32) rfl)))))) rfl
theorem mw_5_29 : (.methodLink RX11 266 yX0_packBag : Cond) ∈ wsA := wsA_t (List.mem_append_right _ (List.mem_append_right _ (List.mem_append_right _ (List.mem_append_right _ (List.mem_append_left _ (List.mem_of_getElem? (l := tables_1_5) (i := 29) rfl)))))) rfl
theorem mw_2_105 : (.fieldLink RX11 272 "HillBends$Chances" "bagPrice" "I" : Cond) ∈ wsA := wsA_t (List.mem_append_right _ (List.mem_append_left _ (List.mem_of_getElem? (l := tables_1_2) (i := 105) rfl))) rfl
theorem mw_2_100 : (.fieldLink RX11 275 "HillBends$Chances" "bagRow" "[I" : Cond) ∈ wsA := wsA_t (List.mem_append_right _ (List.mem_append_left _ (List.mem_of_getElem? (l := tables_1_2) (i := 100) rfl))) rfl
theorem mw_2_103 : (.fieldLink RX11 269 "HillBends$Chances" "bagWays" "I" : Cond) ∈ wsA := wsA_t (List.mem_append_right _ (List.mem_append_left _ (List.mem_of_getElem? (l := tables_1_2) (i := 103) rfl))) rfl
theorem dX11_bag_0 : decode cX11_bag 0 = .ok (.aload_n 0, 1) := by decide +kernel
theorem dX11_bag_1 : decode cX11_bag 1 = .ok (.iload_n 1, 1) := by decide +kernel
theorem dX11_bag_2 : decode cX11_bag 2 = .ok (.invokevirtual 117, 3) := by decide +kernel
theorem dX11_bag_5 : decode cX11_bag 5 = .ok (.ifCond .eq 18, 3) := by decide +kernel
theorem dX11_bag_23 : decode cX11_bag 23 = .ok (.bipush (-3), 2) := by decide +kernel
theorem dX11_bag_25 : decode cX11_bag 25 = .ok (.ireturn, 1) := by decide +kernel
theorem dX11_bag_8 : decode cX11_bag 8 = .ok (.aload_n 0, 1) := by decide +kernel
theorem dX11_bag_9 : decode cX11_bag 9 = .ok (.getfield 32, 3) := by decide +kernel
theorem dX11_bag_12 : decode cX11_bag 12 = .ok (.getfield 121, 3) := by decide +kernel
theorem dX11_bag_15 : decode cX11_bag 15 = .ok (.getfield 125, 3) := by decide +kernel
theorem dX11_bag_18 : decode cX11_bag 18 = .ok (.iload_n 1, 1) := by decide +kernel
theorem dX11_bag_19 : decode cX11_bag 19 = .ok (.iaload, 1) := by decide +kernel
theorem dX11_bag_20 : decode cX11_bag 20 = .ok (.ifCond .eq 6, 3) := by decide +kernel
theorem dX11_bag_26 : decode cX11_bag 26 = .ok (.iload_n 2, 1) := by decide +kernel
theorem dX11_bag_27 : decode cX11_bag 27 = .ok (.bipush (-2), 2) := by decide +kernel
theorem dX11_bag_29 : decode cX11_bag 29 = .ok (.if_icmp .eq 14, 3) := by decide +kernel
theorem dX11_bag_43 : decode cX11_bag 43 = .ok (.aload_n 0, 1) := by decide +kernel
theorem dX11_bag_44 : decode cX11_bag 44 = .ok (.getfield 57, 3) := by decide +kernel
theorem dX11_bag_47 : decode cX11_bag 47 = .ok (.aload_n 0, 1) := by decide +kernel
theorem dX11_bag_48 : decode cX11_bag 48 = .ok (.getfield 32, 3) := by decide +kernel
theorem dX11_bag_51 : decode cX11_bag 51 = .ok (.getfield 102, 3) := by decide +kernel
theorem dX11_bag_54 : decode cX11_bag 54 = .ok (.aload_n 0, 1) := by decide +kernel
theorem dX11_bag_55 : decode cX11_bag 55 = .ok (.getfield 32, 3) := by decide +kernel
theorem dX11_bag_58 : decode cX11_bag 58 = .ok (.getfield 121, 3) := by decide +kernel
theorem dX11_bag_61 : decode cX11_bag 61 = .ok (.iload_n 1, 1) := by decide +kernel
theorem dX11_bag_62 : decode cX11_bag 62 = .ok (.invokevirtual 266, 3) := by decide +kernel
theorem dX11_bag_65 : decode cX11_bag 65 = .ok (.iload_n 2, 1) := by decide +kernel
theorem dX11_bag_66 : decode cX11_bag 66 = .ok (.iconst (-1), 1) := by decide +kernel
theorem dX11_bag_67 : decode cX11_bag 67 = .ok (.if_icmp .ne 11, 3) := by decide +kernel
theorem dX11_bag_78 : decode cX11_bag 78 = .ok (.iload_n 2, 1) := by decide +kernel
theorem dX11_bag_79 : decode cX11_bag 79 = .ok (.bipush (-2), 2) := by decide +kernel
theorem dX11_bag_81 : decode cX11_bag 81 = .ok (.if_icmp .ne 13, 3) := by decide +kernel
theorem dX11_bag_84 : decode cX11_bag 84 = .ok (.aload_n 0, 1) := by decide +kernel
theorem dX11_bag_85 : decode cX11_bag 85 = .ok (.getfield 57, 3) := by decide +kernel
theorem dX11_bag_88 : decode cX11_bag 88 = .ok (.getfield 272, 3) := by decide +kernel
theorem dX11_bag_91 : decode cX11_bag 91 = .ok (.goto 12, 3) := by decide +kernel
theorem dX11_bag_103 : decode cX11_bag 103 = .ok (.ireturn, 1) := by decide +kernel
theorem dX11_bag_32 : decode cX11_bag 32 = .ok (.aload_n 0, 1) := by decide +kernel
theorem dX11_bag_33 : decode cX11_bag 33 = .ok (.iload_n 2, 1) := by decide +kernel
theorem dX11_bag_34 : decode cX11_bag 34 = .ok (.invokevirtual 238, 3) := by decide +kernel
theorem dX11_bag_37 : decode cX11_bag 37 = .ok (.ifCond .ne 6, 3) := by decide +kernel
theorem dX11_bag_94 : decode cX11_bag 94 = .ok (.aload_n 0, 1) := by decide +kernel
theorem dX11_bag_95 : decode cX11_bag 95 = .ok (.getfield 57, 3) := by decide +kernel
theorem dX11_bag_98 : decode cX11_bag 98 = .ok (.getfield 275, 3) := by decide +kernel
theorem dX11_bag_101 : decode cX11_bag 101 = .ok (.iload_n 2, 1) := by decide +kernel
theorem dX11_bag_102 : decode cX11_bag 102 = .ok (.iaload, 1) := by decide +kernel
theorem dX11_bag_70 : decode cX11_bag 70 = .ok (.aload_n 0, 1) := by decide +kernel
theorem dX11_bag_71 : decode cX11_bag 71 = .ok (.getfield 57, 3) := by decide +kernel
theorem dX11_bag_74 : decode cX11_bag 74 = .ok (.getfield 269, 3) := by decide +kernel
theorem dX11_bag_77 : decode cX11_bag 77 = .ok (.ireturn, 1) := by decide +kernel
theorem dX11_bag_40 : decode cX11_bag 40 = .ok (.bipush (-3), 2) := by decide +kernel
theorem dX11_bag_42 : decode cX11_bag 42 = .ok (.ireturn, 1) := by decide +kernel
theorem mv_X0_packBag : MV RX0 yX0_packBag cX0_packBag 9 none 3 := ⟨mw_5_30, mw_5_31, mw_1_9, mw_5_32, ⟨rfl, by decide, by decide, by decide +kernel⟩⟩
set_option maxHeartbeats 4000000 in
set_option maxRecDepth 100000 in
theorem cy_X11_bag (l : Launch) (D : va_G) (cA : Nat → ClassId) (L : List Nat) (T : Nat → Nat) (r : Rg) (hG : GR L T r) (hL : L.Nodup) (σ : Sg) (ρ : Lg) (hW : WT L ry T σ) (sz : Nat) (h0 : Nat) (mh0 : h0 ∈ L) (th0 : T h0 = 11) (p1 : Int32) (p2 : Int32) : Met l yX11_bag (.code yX11_bag cX11_bag 3 (some .int) :: wsA) ({ frames := 4, cells := 0, slots := 0, locals := 117 }) (PR D cA L T r σ ρ sz [.ref h0, .int p1, .int p2]) (QI D cA L T r ry [(0, 4), (0, 5), (21, 1000), (22, 1000), (23, 1000)] σ sz (fun x σ1 => True)) 0 0 (dm L sz) := by
  refine Met.ofW (cc := cX11_bag) (maxL := 3) (ret := (some .int)) (by decide) rfl ?_
  intro p e s m args below meth c s₁ B hml hv
  obtain ⟨rfl, hsz, hP, hK, hN⟩ := hv
  have hx := B.exec
  have hb := B.bytes
  have hr := B.returns
  have hts : ∀ w ∈ wsA, w.before _ s = true := fun w h => atoms_spec (ws := .code yX11_bag cX11_bag 3 (some .int) :: wsA) B.pre w (List.mem_cons_of_mem _ h)
  have hown : s.vm.findClass RX11 = some m.cls := findClass_of_methodNamed B.named
  subst hsz
  have hLA : LA (dm L s.heap.size) L := ⟨hL, fun a h => Or.inl h⟩
  have hA : ∀ q : Nat, s.heap.size ≤ q → dm L s.heap.size q := fun q h => Or.inr h
  have hS : va_S (dm L s.heap.size) s.heap s.heap [] := va_S.rf
  have hB : TS D cA L T r ry [(0, 4), (0, 5), (21, 1000), (22, 1000), (23, 1000)] σ σ ρ s.heap := ⟨hP, hW, FR.rf⟩
  have hl := lv_entry ([.ref h0, .int p1, .int p2]) (n := 3) (Nat.le_of_ble_eq_true rfl)
  rw [lg_entry_eq]
  generalize (lg_sl ([.ref h0, .int p1, .int p2]) ++ List.replicate (3 - (lg_sl ([.ref h0, .int p1, .int p2])).length) Slot.unset).toArray = ls at hl ⊢
  have hl : lv_has ls 3 [(0, .ref h0), (1, .int p1), (2, .int p2)] := hl
  refine lv_aload_n hx hb dX11_bag_0 rfl (lv_at hl 0 rfl) ?_
  refine lv_iload_n hx hb dX11_bag_1 rfl (lv_at hl 1 rfl) ?_
  refine t_ci (va_runV (As := [.int p1]) (rest := []) ⟨hx, hb, hml, hown, hts⟩ (cy_X11_isPilgrim l D cA L T r hG hLA.1 σ ρ hB.2.1 _ h0 mh0 th0 p1) (cV hts mv_X11_isPilgrim mw_4_70 rfl rfl ⟨Nat.le_of_ble_eq_true rfl, Nat.le_of_ble_eq_true rfl⟩) (pV hB.1 hK hN mh0 th0 (show shp cA 11 _ _ _ = .inr (11, Fs11 _ _ _) from rfl) rfl) rfl rfl hl.1 rfl (lv_room (Nat.le_of_ble_eq_true rfl)) dX11_bag_2 ⟨Nat.le_of_ble_eq_true rfl, Nat.le_of_ble_eq_true rfl⟩) hLA hA hB hS (by decide) (fun x_3 σ_1 ρ_2 H locs hB fσ_1 pσ_1 hS => ?_)
  have qσ_1 := FR.nil fσ_1
  subst qσ_1
  obtain ⟨ox_3, ix_3⟩ := pσ_1
  refine lv_if_eq (tgt := 23) hx hb dX11_bag_5 (by decide) (fun c_4 => ?_) (fun c_4 => ?_)
  · skip
    have uc_4 := i_eq (n := 0) (by decide) c_4
    refine lv_bipush (v := (-3)) hx hb dX11_bag_23 (by decide) ?_
    exact W.iret (v := (-3)) hx hb hr (fun t ht hW => ⟨⟨(-3), (σ, ρ_2), rfl, ⟨hB.2.1, hB.2.2, trivial⟩, (show TP D cA L T r σ ρ_2 t.heap from by rw [ht]; exact hB.1)⟩, hS.F ht⟩) hS.2.2 dX11_bag_25
  · skip
    have uc_4 := i_ne (n := 0) (by decide) c_4
    refine lv_aload_n hx hb dX11_bag_8 rfl (lv_at hl 0 rfl) ?_
    refine t_gr hx hb hts hown hK hG hB mh0 th0 fq_11_3 rfl mw_2_210 dX11_bag_9 (fun b_5 hb_5 mb_5 tb_5 => ?_)
    refine t_gr hx hb hts hown hK hG hB mb_5 tb_5 fq_10_1 rfl mw_1_239 dX11_bag_12 (fun b_6 hb_6 mb_6 tb_6 => ?_)
    refine t_gr hx hb hts hown hK hG hB mb_6 tb_6 fq_8_0 rfl mw_1_84 dX11_bag_15 (fun b_7 hb_7 mb_7 tb_7 => ?_)
    refine lv_iload_n hx hb dX11_bag_18 rfl (lv_at hl 1 rfl) ?_
    refine t_ai hx hb hK hB mb_7 tb_7 ai_45 (fun _ => rfl) (i_in (by omega) (by omega)) dX11_bag_19 (fun x_8 ex_8 lx_8 ux_8 => ?_)
    have cx_8 := congrArg Int32.toInt ex_8
    refine lv_if_eq (tgt := 26) hx hb dX11_bag_20 (by decide) (fun c_9 => ?_) (fun c_9 => ?_)
    · skip
      have uc_9 := i_eq (n := 0) (by decide) c_9
      refine lv_iload_n hx hb dX11_bag_26 rfl (lv_at hl 2 rfl) ?_
      refine lv_bipush (v := (-2)) hx hb dX11_bag_27 (by decide) ?_
      refine lv_icmp_eq (tgt := 43) hx hb dX11_bag_29 (by decide) (fun c_10 => ?_) (fun c_10 => ?_)
      · skip
        have uc_10 := i_eq (n := (-2)) (by decide) c_10
        refine lv_aload_n hx hb dX11_bag_43 rfl (lv_at hl 0 rfl) ?_
        refine t_gr hx hb hts hown hK hG hB mh0 th0 fq_11_7 rfl mw_2_214 dX11_bag_44 (fun b_11 hb_11 mb_11 tb_11 => ?_)
        refine lv_aload_n hx hb dX11_bag_47 rfl (lv_at hl 0 rfl) ?_
        refine t_gk hx hb hts hown hK hB mh0 th0 fq_11_3 hb_5 mw_2_210 dX11_bag_48 ?_
        refine t_gr hx hb hts hown hK hG hB mb_5 tb_5 fq_10_0 rfl mw_1_236 dX11_bag_51 (fun b_12 hb_12 mb_12 tb_12 => ?_)
        refine lv_aload_n hx hb dX11_bag_54 rfl (lv_at hl 0 rfl) ?_
        refine t_gk hx hb hts hown hK hB mh0 th0 fq_11_3 hb_5 mw_2_210 dX11_bag_55 ?_
        refine t_gk hx hb hts hown hK hB mb_5 tb_5 fq_10_1 hb_6 mw_1_239 dX11_bag_58 ?_
        refine lv_iload_n hx hb dX11_bag_61 rfl (lv_at hl 1 rfl) ?_
        refine t_cv (va_runV (As := [.ref b_12, .ref b_6, .int p1]) (rest := []) ⟨hx, hb, hml, hown, hts⟩ (cy_X0_packBag l D cA L T r hG hLA.1 σ ρ_2 hB.2.1 _ b_11 mb_11 tb_11 b_12 mb_12 tb_12 b_6 mb_6 tb_6 p1 (by first | omega | decide) (by first | omega | decide)) (cV hts mv_X0_packBag mw_5_29 rfl rfl ⟨Nat.le_of_ble_eq_true rfl, Nat.le_of_ble_eq_true rfl⟩) (pV hB.1 hK hN mb_11 tb_11 (show shp cA 0 _ _ _ = .inr (0, Fs0 _ _ _) from rfl) rfl) rfl rfl hl.1 rfl (lv_room (Nat.le_of_ble_eq_true rfl)) dX11_bag_62 ⟨Nat.le_of_ble_eq_true rfl, Nat.le_of_ble_eq_true rfl⟩) hLA hA hB hS (by decide) (fun σ_13 ρ_14 H locs hB fσ_13 pσ_13 hS => ?_)
        refine lv_iload_n hx hb dX11_bag_65 rfl (lv_at hl 2 rfl) ?_
        refine lv_iconst (v := (-1)) hx hb dX11_bag_66 (by decide) ?_
        refine lv_icmp_ne (tgt := 78) hx hb dX11_bag_67 (by decide) (fun c_16 => ?_) (fun c_16 => ?_)
        · skip
          have uc_16 := i_ne (n := (-1)) (by decide) c_16
          refine lv_iload_n hx hb dX11_bag_78 rfl (lv_at hl 2 rfl) ?_
          refine lv_bipush (v := (-2)) hx hb dX11_bag_79 (by decide) ?_
          refine lv_icmp_ne (tgt := 94) hx hb dX11_bag_81 (by decide) (fun c_17 => ?_) (fun c_17 => ?_)
          · skip
            have uc_17 := i_ne (n := (-2)) (by decide) c_17
            exfalso; omega
          · skip
            have uc_17 := i_eq (n := (-2)) (by decide) c_17
            refine lv_aload_n hx hb dX11_bag_84 rfl (lv_at hl 0 rfl) ?_
            refine t_gk hx hb hts hown hK hB mh0 th0 fq_11_7 hb_11 mw_2_214 dX11_bag_85 ?_
            refine t_gi hx hb hts hown hK hB mb_11 tb_11 fi_0_5 rfl mw_2_105 dX11_bag_88 (fun x_18 ex_18 lx_18 ux_18 => ?_)
            have cx_18 := congrArg Int32.toInt ex_18
            refine lv_goto (tgt := 103) hx hb dX11_bag_91 (by decide) ?_
            exact W.iret (v := x_18) hx hb hr (fun t ht hW => ⟨⟨x_18, (σ_13, ρ_14), rfl, ⟨hB.2.1, hB.2.2, trivial⟩, (show TP D cA L T r σ_13 ρ_14 t.heap from by rw [ht]; exact hB.1)⟩, hS.F ht⟩) hS.2.2 dX11_bag_103
        · skip
          have uc_16 := i_eq (n := (-1)) (by decide) c_16
          exfalso; omega
      · skip
        have uc_10 := i_ne (n := (-2)) (by decide) c_10
        refine lv_aload_n hx hb dX11_bag_32 rfl (lv_at hl 0 rfl) ?_
        refine lv_iload_n hx hb dX11_bag_33 rfl (lv_at hl 2 rfl) ?_
        refine t_ci (va_runV (As := [.int p2]) (rest := []) ⟨hx, hb, hml, hown, hts⟩ (cy_X11_isSortOrNone l D cA L T r hG hLA.1 σ ρ_2 hB.2.1 _ h0 mh0 th0 p2) (cV hts mv_X11_isSortOrNone mw_4_211 rfl rfl ⟨Nat.le_of_ble_eq_true rfl, Nat.le_of_ble_eq_true rfl⟩) (pV hB.1 hK hN mh0 th0 (show shp cA 11 _ _ _ = .inr (11, Fs11 _ _ _) from rfl) rfl) rfl rfl hl.1 rfl (lv_room (Nat.le_of_ble_eq_true rfl)) dX11_bag_34 ⟨Nat.le_of_ble_eq_true rfl, Nat.le_of_ble_eq_true rfl⟩) hLA hA hB hS (by decide) (fun x_21 σ_19 ρ_20 H locs hB fσ_19 pσ_19 hS => ?_)
        have qσ_19 := FR.nil fσ_19
        subst qσ_19
        obtain ⟨ox_21, ix_21⟩ := pσ_19
        refine lv_if_ne (tgt := 43) hx hb dX11_bag_37 (by decide) (fun c_22 => ?_) (fun c_22 => ?_)
        · skip
          have uc_22 := i_ne (n := 0) (by decide) c_22
          refine lv_aload_n hx hb dX11_bag_43 rfl (lv_at hl 0 rfl) ?_
          refine t_gr hx hb hts hown hK hG hB mh0 th0 fq_11_7 rfl mw_2_214 dX11_bag_44 (fun b_23 hb_23 mb_23 tb_23 => ?_)
          refine lv_aload_n hx hb dX11_bag_47 rfl (lv_at hl 0 rfl) ?_
          refine t_gk hx hb hts hown hK hB mh0 th0 fq_11_3 hb_5 mw_2_210 dX11_bag_48 ?_
          refine t_gr hx hb hts hown hK hG hB mb_5 tb_5 fq_10_0 rfl mw_1_236 dX11_bag_51 (fun b_24 hb_24 mb_24 tb_24 => ?_)
          refine lv_aload_n hx hb dX11_bag_54 rfl (lv_at hl 0 rfl) ?_
          refine t_gk hx hb hts hown hK hB mh0 th0 fq_11_3 hb_5 mw_2_210 dX11_bag_55 ?_
          refine t_gk hx hb hts hown hK hB mb_5 tb_5 fq_10_1 hb_6 mw_1_239 dX11_bag_58 ?_
          refine lv_iload_n hx hb dX11_bag_61 rfl (lv_at hl 1 rfl) ?_
          refine t_cv (va_runV (As := [.ref b_24, .ref b_6, .int p1]) (rest := []) ⟨hx, hb, hml, hown, hts⟩ (cy_X0_packBag l D cA L T r hG hLA.1 σ ρ_20 hB.2.1 _ b_23 mb_23 tb_23 b_24 mb_24 tb_24 b_6 mb_6 tb_6 p1 (by first | omega | decide) (by first | omega | decide)) (cV hts mv_X0_packBag mw_5_29 rfl rfl ⟨Nat.le_of_ble_eq_true rfl, Nat.le_of_ble_eq_true rfl⟩) (pV hB.1 hK hN mb_23 tb_23 (show shp cA 0 _ _ _ = .inr (0, Fs0 _ _ _) from rfl) rfl) rfl rfl hl.1 rfl (lv_room (Nat.le_of_ble_eq_true rfl)) dX11_bag_62 ⟨Nat.le_of_ble_eq_true rfl, Nat.le_of_ble_eq_true rfl⟩) hLA hA hB hS (by decide) (fun σ_25 ρ_26 H locs hB fσ_25 pσ_25 hS => ?_)
          refine lv_iload_n hx hb dX11_bag_65 rfl (lv_at hl 2 rfl) ?_
          refine lv_iconst (v := (-1)) hx hb dX11_bag_66 (by decide) ?_
          refine lv_icmp_ne (tgt := 78) hx hb dX11_bag_67 (by decide) (fun c_28 => ?_) (fun c_28 => ?_)
          · skip
            have uc_28 := i_ne (n := (-1)) (by decide) c_28
            refine lv_iload_n hx hb dX11_bag_78 rfl (lv_at hl 2 rfl) ?_
            refine lv_bipush (v := (-2)) hx hb dX11_bag_79 (by decide) ?_
            refine lv_icmp_ne (tgt := 94) hx hb dX11_bag_81 (by decide) (fun c_29 => ?_) (fun c_29 => ?_)
            · skip
              have uc_29 := i_ne (n := (-2)) (by decide) c_29
              refine lv_aload_n hx hb dX11_bag_94 rfl (lv_at hl 0 rfl) ?_
              refine t_gk hx hb hts hown hK hB mh0 th0 fq_11_7 hb_23 mw_2_214 dX11_bag_95 ?_
              refine t_gr hx hb hts hown hK hG hB mb_23 tb_23 fq_0_2 rfl mw_2_100 dX11_bag_98 (fun b_30 hb_30 mb_30 tb_30 => ?_)
              refine lv_iload_n hx hb dX11_bag_101 rfl (lv_at hl 2 rfl) ?_
              refine t_ai hx hb hK hB mb_30 tb_30 ai_22 (fun _ => rfl) (i_in (by omega) (by omega)) dX11_bag_102 (fun x_31 ex_31 lx_31 ux_31 => ?_)
              have cx_31 := congrArg Int32.toInt ex_31
              exact W.iret (v := x_31) hx hb hr (fun t ht hW => ⟨⟨x_31, (σ_25, ρ_26), rfl, ⟨hB.2.1, hB.2.2, trivial⟩, (show TP D cA L T r σ_25 ρ_26 t.heap from by rw [ht]; exact hB.1)⟩, hS.F ht⟩) hS.2.2 dX11_bag_103
            · skip
              have uc_29 := i_eq (n := (-2)) (by decide) c_29
              refine lv_aload_n hx hb dX11_bag_84 rfl (lv_at hl 0 rfl) ?_
              refine t_gk hx hb hts hown hK hB mh0 th0 fq_11_7 hb_23 mw_2_214 dX11_bag_85 ?_
              refine t_gi hx hb hts hown hK hB mb_23 tb_23 fi_0_5 rfl mw_2_105 dX11_bag_88 (fun x_32 ex_32 lx_32 ux_32 => ?_)
              have cx_32 := congrArg Int32.toInt ex_32
              refine lv_goto (tgt := 103) hx hb dX11_bag_91 (by decide) ?_
              exact W.iret (v := x_32) hx hb hr (fun t ht hW => ⟨⟨x_32, (σ_25, ρ_26), rfl, ⟨hB.2.1, hB.2.2, trivial⟩, (show TP D cA L T r σ_25 ρ_26 t.heap from by rw [ht]; exact hB.1)⟩, hS.F ht⟩) hS.2.2 dX11_bag_103
          · skip
            have uc_28 := i_eq (n := (-1)) (by decide) c_28
            refine lv_aload_n hx hb dX11_bag_70 rfl (lv_at hl 0 rfl) ?_
            refine t_gk hx hb hts hown hK hB mh0 th0 fq_11_7 hb_23 mw_2_214 dX11_bag_71 ?_
            refine t_gi hx hb hts hown hK hB mb_23 tb_23 fi_0_4 rfl mw_2_103 dX11_bag_74 (fun x_33 ex_33 lx_33 ux_33 => ?_)
            have cx_33 := congrArg Int32.toInt ex_33
            exact W.iret (v := x_33) hx hb hr (fun t ht hW => ⟨⟨x_33, (σ_25, ρ_26), rfl, ⟨hB.2.1, hB.2.2, trivial⟩, (show TP D cA L T r σ_25 ρ_26 t.heap from by rw [ht]; exact hB.1)⟩, hS.F ht⟩) hS.2.2 dX11_bag_77
        · skip
          have uc_22 := i_eq (n := 0) (by decide) c_22
          refine lv_bipush (v := (-3)) hx hb dX11_bag_40 (by decide) ?_
          exact W.iret (v := (-3)) hx hb hr (fun t ht hW => ⟨⟨(-3), (σ, ρ_20), rfl, ⟨hB.2.1, hB.2.2, trivial⟩, (show TP D cA L T r σ ρ_20 t.heap from by rw [ht]; exact hB.1)⟩, hS.F ht⟩) hS.2.2 dX11_bag_42
    · skip
      have uc_9 := i_ne (n := 0) (by decide) c_9
      refine lv_bipush (v := (-3)) hx hb dX11_bag_23 (by decide) ?_
      exact W.iret (v := (-3)) hx hb hr (fun t ht hW => ⟨⟨(-3), (σ, ρ_2), rfl, ⟨hB.2.1, hB.2.2, trivial⟩, (show TP D cA L T r σ ρ_2 t.heap from by rw [ht]; exact hB.1)⟩, hS.F ht⟩) hS.2.2 dX11_bag_25
