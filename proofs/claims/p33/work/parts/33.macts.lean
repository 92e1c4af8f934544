theorem dX12_adds_0 : decode cX12_adds 0 = .ok (.aload_n 0, 1) := by decide +kernel
theorem dX12_adds_1 : decode cX12_adds 1 = .ok (.getfield 39, 3) := by decide +kernel
theorem dX12_adds_4 : decode cX12_adds 4 = .ok (.bipush 58, 2) := by decide +kernel
theorem dX12_adds_6 : decode cX12_adds 6 = .ok (.bipush 9, 2) := by decide +kernel
theorem dX12_adds_8 : decode cX12_adds 8 = .ok (.iload_n 1, 1) := by decide +kernel
theorem dX12_adds_9 : decode cX12_adds 9 = .ok (.imul, 1) := by decide +kernel
theorem dX12_adds_10 : decode cX12_adds 10 = .ok (.iadd, 1) := by decide +kernel
theorem dX12_adds_11 : decode cX12_adds 11 = .ok (.iload_n 2, 1) := by decide +kernel
theorem dX12_adds_12 : decode cX12_adds 12 = .ok (.iadd, 1) := by decide +kernel
theorem dX12_adds_13 : decode cX12_adds 13 = .ok (.dup2, 1) := by decide +kernel
theorem dX12_adds_14 : decode cX12_adds 14 = .ok (.iaload, 1) := by decide +kernel
theorem dX12_adds_15 : decode cX12_adds 15 = .ok (.iload_n 3, 1) := by decide +kernel
theorem dX12_adds_16 : decode cX12_adds 16 = .ok (.iadd, 1) := by decide +kernel
theorem dX12_adds_17 : decode cX12_adds 17 = .ok (.iastore, 1) := by decide +kernel
theorem dX12_adds_18 : decode cX12_adds 18 = .ok (.return_, 1) := by decide +kernel
set_option maxHeartbeats 4000000 in
set_option maxRecDepth 100000 in
theorem cy_X12_adds_1 (l : Launch) (D : va_G) (cA : Nat → ClassId) (L : List Nat) (T : Nat → Nat) (r : Rg) (hG : GR L T r) (hL : L.Nodup) (σ : Sg) (ρ : Lg) (hW : WT L ry T σ) (sz : Nat) (h0 : Nat) (mh0 : h0 ∈ L) (th0 : T h0 = 12) (p1 : Int32) (p3 : Int32) (w0 : 0 ≤ p1.toInt) (w1 : p1.toInt ≤ 3) : Met l yX12_adds (.code yX12_adds cX12_adds 4 none :: wsA) ({ frames := 0, cells := 0, slots := 0, locals := 0 }) (PR D cA L T r σ ρ sz [.ref h0, .int p1, .int 1, .int p3]) (QV D cA L T r ry [(70, 1000)] σ sz (fun σ1 => True)) 0 0 (dm L sz) := by
  refine Met.ofW (cc := cX12_adds) (maxL := 4) (ret := none) (by decide) rfl ?_
  intro p e s m args below meth c s₁ B hml hv
  obtain ⟨rfl, hsz, hP, hK, hN⟩ := hv
  have hx := B.exec
  have hb := B.bytes
  have hr := B.returns
  have hts : ∀ w ∈ wsA, w.before _ s = true := fun w h => atoms_spec (ws := .code yX12_adds cX12_adds 4 none :: wsA) B.pre w (List.mem_cons_of_mem _ h)
  have hown : s.vm.findClass RX12 = some m.cls := findClass_of_methodNamed B.named
  subst hsz
  have hLA : LA (dm L s.heap.size) L := ⟨hL, fun a h => Or.inl h⟩
  have hA : ∀ q : Nat, s.heap.size ≤ q → dm L s.heap.size q := fun q h => Or.inr h
  have hS : va_S (dm L s.heap.size) s.heap s.heap [] := va_S.rf
  have hB : TS D cA L T r ry [(70, 1000)] σ σ ρ s.heap := ⟨hP, hW, FR.rf⟩
  have hl := lv_entry ([.ref h0, .int p1, .int 1, .int p3]) (n := 4) (Nat.le_of_ble_eq_true rfl)
  rw [lg_entry_eq]
  generalize (lg_sl ([.ref h0, .int p1, .int 1, .int p3]) ++ List.replicate (4 - (lg_sl ([.ref h0, .int p1, .int 1, .int p3])).length) Slot.unset).toArray = ls at hl ⊢
  have hl : lv_has ls 4 [(0, .ref h0), (1, .int p1), (2, .int 1), (3, .int p3)] := hl
  refine lv_aload_n hx hb dX12_adds_0 rfl (lv_at hl 0 rfl) ?_
  refine t_gr hx hb hts hown hK hG hB mh0 th0 fq_12_20 rfl mw_5_236 dX12_adds_1 (fun b_1 hb_1 mb_1 tb_1 => ?_)
  refine lv_bipush (v := 58) hx hb dX12_adds_4 (by decide) ?_
  refine lv_bipush (v := 9) hx hb dX12_adds_6 (by decide) ?_
  refine lv_iload_n hx hb dX12_adds_8 rfl (lv_at hl 1 rfl) ?_
  refine lv_imul hx hb dX12_adds_9 ?_
  refine lv_topi (fun x_2 ex_2 => ?_)
  have vx_2 := b_mul (by decide : (9 : Int32).toInt = 9) (rfl : p1.toInt = _) ex_2 (by omega) (by omega)
  refine lv_iadd hx hb dX12_adds_10 ?_
  refine lv_topi (fun x_3 ex_3 => ?_)
  have vx_3 := b_add (by decide : (58 : Int32).toInt = 58) (rfl : x_2.toInt = _) ex_3 (by omega) (by omega)
  refine lv_iload_n hx hb dX12_adds_11 rfl (lv_at hl 2 rfl) ?_
  refine lv_iadd hx hb dX12_adds_12 ?_
  refine lv_topi (fun x_4 ex_4 => ?_)
  have vx_4 := b_add (rfl : x_3.toInt = _) (by decide : (1 : Int32).toInt = 1) ex_4 (by omega) (by omega)
  refine lv_dup2_11 hx hb dX12_adds_13 rfl rfl ?_
  refine t_aj hx hb hK hB mb_1 tb_1 ai_70 (i_in (by omega) (by omega)) dX12_adds_14 (fun x_5 ex_5 lx_5 ux_5 => ?_)
  rw [show ry 70 x_4.toNatClampNeg = ((-2147483648), 2147483647) from sbF (by have hn : x_4.toNatClampNeg = x_4.toInt.toNat := rfl; omega)] at lx_5 ux_5
  have cx_5 := congrArg Int32.toInt ex_5
  refine lv_iload_n hx hb dX12_adds_15 rfl (lv_at hl 3 rfl) ?_
  refine lv_iadd hx hb dX12_adds_16 ?_
  refine lv_topi (fun x_6 ex_6 => ?_)
  try have vx_6 := b_add (rfl : x_5.toInt = _) (rfl : p3.toInt = _) ex_6 (by omega) (by omega)
  refine t_si hx hb hK hLA hB hS mb_1 tb_1 ai_70 (i_in (by omega) (by omega)) (by rw [show ry 70 x_4.toNatClampNeg = ((-2147483648), 2147483647) from sbF (by have hn : x_4.toNatClampNeg = x_4.toInt.toNat := rfl; omega)]; exact i_lo _) (by rw [show ry 70 x_4.toNatClampNeg = ((-2147483648), 2147483647) from sbF (by have hn : x_4.toNatClampNeg = x_4.toInt.toNat := rfl; omega)]; exact i_hi _) (Or.inr (by decide)) dX12_adds_17 (fun H locs σ_7 eσ_7 hB hS => ?_)
  have k_8 : σ_7 b_1 x_4.toNatClampNeg = x_6 := by rw [eσ_7]; exact up2_same _ _ _ _
  exact W.vret hx hb hr (fun t ht hW => ⟨⟨(σ_7, ρ), rfl, ⟨hB.2.1, hB.2.2, trivial⟩, (show TP D cA L T r σ_7 ρ t.heap from by rw [ht]; exact hB.1)⟩, hS.F ht⟩) hS.2.2 dX12_adds_18
set_option maxHeartbeats 4000000 in
set_option maxRecDepth 100000 in
theorem cy_X12_adds_2 (l : Launch) (D : va_G) (cA : Nat → ClassId) (L : List Nat) (T : Nat → Nat) (r : Rg) (hG : GR L T r) (hL : L.Nodup) (σ : Sg) (ρ : Lg) (hW : WT L ry T σ) (sz : Nat) (h0 : Nat) (mh0 : h0 ∈ L) (th0 : T h0 = 12) (p1 : Int32) (p3 : Int32) (w0 : 0 ≤ p1.toInt) (w1 : p1.toInt ≤ 3) : Met l yX12_adds (.code yX12_adds cX12_adds 4 none :: wsA) ({ frames := 0, cells := 0, slots := 0, locals := 0 }) (PR D cA L T r σ ρ sz [.ref h0, .int p1, .int 2, .int p3]) (QV D cA L T r ry [(70, 1000)] σ sz (fun σ1 => True)) 0 0 (dm L sz) := by
  refine Met.ofW (cc := cX12_adds) (maxL := 4) (ret := none) (by decide) rfl ?_
  intro p e s m args below meth c s₁ B hml hv
  obtain ⟨rfl, hsz, hP, hK, hN⟩ := hv
  have hx := B.exec
  have hb := B.bytes
  have hr := B.returns
  have hts : ∀ w ∈ wsA, w.before _ s = true := fun w h => atoms_spec (ws := .code yX12_adds cX12_adds 4 none :: wsA) B.pre w (List.mem_cons_of_mem _ h)
  have hown : s.vm.findClass RX12 = some m.cls := findClass_of_methodNamed B.named
  subst hsz
  have hLA : LA (dm L s.heap.size) L := ⟨hL, fun a h => Or.inl h⟩
  have hA : ∀ q : Nat, s.heap.size ≤ q → dm L s.heap.size q := fun q h => Or.inr h
  have hS : va_S (dm L s.heap.size) s.heap s.heap [] := va_S.rf
  have hB : TS D cA L T r ry [(70, 1000)] σ σ ρ s.heap := ⟨hP, hW, FR.rf⟩
  have hl := lv_entry ([.ref h0, .int p1, .int 2, .int p3]) (n := 4) (Nat.le_of_ble_eq_true rfl)
  rw [lg_entry_eq]
  generalize (lg_sl ([.ref h0, .int p1, .int 2, .int p3]) ++ List.replicate (4 - (lg_sl ([.ref h0, .int p1, .int 2, .int p3])).length) Slot.unset).toArray = ls at hl ⊢
  have hl : lv_has ls 4 [(0, .ref h0), (1, .int p1), (2, .int 2), (3, .int p3)] := hl
  refine lv_aload_n hx hb dX12_adds_0 rfl (lv_at hl 0 rfl) ?_
  refine t_gr hx hb hts hown hK hG hB mh0 th0 fq_12_20 rfl mw_5_236 dX12_adds_1 (fun b_1 hb_1 mb_1 tb_1 => ?_)
  refine lv_bipush (v := 58) hx hb dX12_adds_4 (by decide) ?_
  refine lv_bipush (v := 9) hx hb dX12_adds_6 (by decide) ?_
  refine lv_iload_n hx hb dX12_adds_8 rfl (lv_at hl 1 rfl) ?_
  refine lv_imul hx hb dX12_adds_9 ?_
  refine lv_topi (fun x_2 ex_2 => ?_)
  have vx_2 := b_mul (by decide : (9 : Int32).toInt = 9) (rfl : p1.toInt = _) ex_2 (by omega) (by omega)
  refine lv_iadd hx hb dX12_adds_10 ?_
  refine lv_topi (fun x_3 ex_3 => ?_)
  have vx_3 := b_add (by decide : (58 : Int32).toInt = 58) (rfl : x_2.toInt = _) ex_3 (by omega) (by omega)
  refine lv_iload_n hx hb dX12_adds_11 rfl (lv_at hl 2 rfl) ?_
  refine lv_iadd hx hb dX12_adds_12 ?_
  refine lv_topi (fun x_4 ex_4 => ?_)
  have vx_4 := b_add (rfl : x_3.toInt = _) (by decide : (2 : Int32).toInt = 2) ex_4 (by omega) (by omega)
  refine lv_dup2_11 hx hb dX12_adds_13 rfl rfl ?_
  refine t_aj hx hb hK hB mb_1 tb_1 ai_70 (i_in (by omega) (by omega)) dX12_adds_14 (fun x_5 ex_5 lx_5 ux_5 => ?_)
  rw [show ry 70 x_4.toNatClampNeg = ((-2147483648), 2147483647) from sbF (by have hn : x_4.toNatClampNeg = x_4.toInt.toNat := rfl; omega)] at lx_5 ux_5
  have cx_5 := congrArg Int32.toInt ex_5
  refine lv_iload_n hx hb dX12_adds_15 rfl (lv_at hl 3 rfl) ?_
  refine lv_iadd hx hb dX12_adds_16 ?_
  refine lv_topi (fun x_6 ex_6 => ?_)
  try have vx_6 := b_add (rfl : x_5.toInt = _) (rfl : p3.toInt = _) ex_6 (by omega) (by omega)
  refine t_si hx hb hK hLA hB hS mb_1 tb_1 ai_70 (i_in (by omega) (by omega)) (by rw [show ry 70 x_4.toNatClampNeg = ((-2147483648), 2147483647) from sbF (by have hn : x_4.toNatClampNeg = x_4.toInt.toNat := rfl; omega)]; exact i_lo _) (by rw [show ry 70 x_4.toNatClampNeg = ((-2147483648), 2147483647) from sbF (by have hn : x_4.toNatClampNeg = x_4.toInt.toNat := rfl; omega)]; exact i_hi _) (Or.inr (by decide)) dX12_adds_17 (fun H locs σ_7 eσ_7 hB hS => ?_)
  have k_8 : σ_7 b_1 x_4.toNatClampNeg = x_6 := by rw [eσ_7]; exact up2_same _ _ _ _
  exact W.vret hx hb hr (fun t ht hW => ⟨⟨(σ_7, ρ), rfl, ⟨hB.2.1, hB.2.2, trivial⟩, (show TP D cA L T r σ_7 ρ t.heap from by rw [ht]; exact hB.1)⟩, hS.F ht⟩) hS.2.2 dX12_adds_18
set_option maxHeartbeats 4000000 in
set_option maxRecDepth 100000 in
theorem cy_X12_adds_3 (l : Launch) (D : va_G) (cA : Nat → ClassId) (L : List Nat) (T : Nat → Nat) (r : Rg) (hG : GR L T r) (hL : L.Nodup) (σ : Sg) (ρ : Lg) (hW : WT L ry T σ) (sz : Nat) (h0 : Nat) (mh0 : h0 ∈ L) (th0 : T h0 = 12) (p1 : Int32) (p3 : Int32) (w0 : 0 ≤ p1.toInt) (w1 : p1.toInt ≤ 3) : Met l yX12_adds (.code yX12_adds cX12_adds 4 none :: wsA) ({ frames := 0, cells := 0, slots := 0, locals := 0 }) (PR D cA L T r σ ρ sz [.ref h0, .int p1, .int 3, .int p3]) (QV D cA L T r ry [(70, 1000)] σ sz (fun σ1 => True)) 0 0 (dm L sz) := by
  refine Met.ofW (cc := cX12_adds) (maxL := 4) (ret := none) (by decide) rfl ?_
  intro p e s m args below meth c s₁ B hml hv
  obtain ⟨rfl, hsz, hP, hK, hN⟩ := hv
  have hx := B.exec
  have hb := B.bytes
  have hr := B.returns
  have hts : ∀ w ∈ wsA, w.before _ s = true := fun w h => atoms_spec (ws := .code yX12_adds cX12_adds 4 none :: wsA) B.pre w (List.mem_cons_of_mem _ h)
  have hown : s.vm.findClass RX12 = some m.cls := findClass_of_methodNamed B.named
  subst hsz
  have hLA : LA (dm L s.heap.size) L := ⟨hL, fun a h => Or.inl h⟩
  have hA : ∀ q : Nat, s.heap.size ≤ q → dm L s.heap.size q := fun q h => Or.inr h
  have hS : va_S (dm L s.heap.size) s.heap s.heap [] := va_S.rf
  have hB : TS D cA L T r ry [(70, 1000)] σ σ ρ s.heap := ⟨hP, hW, FR.rf⟩
  have hl := lv_entry ([.ref h0, .int p1, .int 3, .int p3]) (n := 4) (Nat.le_of_ble_eq_true rfl)
  rw [lg_entry_eq]
  generalize (lg_sl ([.ref h0, .int p1, .int 3, .int p3]) ++ List.replicate (4 - (lg_sl ([.ref h0, .int p1, .int 3, .int p3])).length) Slot.unset).toArray = ls at hl ⊢
  have hl : lv_has ls 4 [(0, .ref h0), (1, .int p1), (2, .int 3), (3, .int p3)] := hl
  refine lv_aload_n hx hb dX12_adds_0 rfl (lv_at hl 0 rfl) ?_
  refine t_gr hx hb hts hown hK hG hB mh0 th0 fq_12_20 rfl mw_5_236 dX12_adds_1 (fun b_1 hb_1 mb_1 tb_1 => ?_)
  refine lv_bipush (v := 58) hx hb dX12_adds_4 (by decide) ?_
  refine lv_bipush (v := 9) hx hb dX12_adds_6 (by decide) ?_
  refine lv_iload_n hx hb dX12_adds_8 rfl (lv_at hl 1 rfl) ?_
  refine lv_imul hx hb dX12_adds_9 ?_
  refine lv_topi (fun x_2 ex_2 => ?_)
  have vx_2 := b_mul (by decide : (9 : Int32).toInt = 9) (rfl : p1.toInt = _) ex_2 (by omega) (by omega)
  refine lv_iadd hx hb dX12_adds_10 ?_
  refine lv_topi (fun x_3 ex_3 => ?_)
  have vx_3 := b_add (by decide : (58 : Int32).toInt = 58) (rfl : x_2.toInt = _) ex_3 (by omega) (by omega)
  refine lv_iload_n hx hb dX12_adds_11 rfl (lv_at hl 2 rfl) ?_
  refine lv_iadd hx hb dX12_adds_12 ?_
  refine lv_topi (fun x_4 ex_4 => ?_)
  have vx_4 := b_add (rfl : x_3.toInt = _) (by decide : (3 : Int32).toInt = 3) ex_4 (by omega) (by omega)
  refine lv_dup2_11 hx hb dX12_adds_13 rfl rfl ?_
  refine t_aj hx hb hK hB mb_1 tb_1 ai_70 (i_in (by omega) (by omega)) dX12_adds_14 (fun x_5 ex_5 lx_5 ux_5 => ?_)
  rw [show ry 70 x_4.toNatClampNeg = ((-2147483648), 2147483647) from sbF (by have hn : x_4.toNatClampNeg = x_4.toInt.toNat := rfl; omega)] at lx_5 ux_5
  have cx_5 := congrArg Int32.toInt ex_5
  refine lv_iload_n hx hb dX12_adds_15 rfl (lv_at hl 3 rfl) ?_
  refine lv_iadd hx hb dX12_adds_16 ?_
  refine lv_topi (fun x_6 ex_6 => ?_)
  try have vx_6 := b_add (rfl : x_5.toInt = _) (rfl : p3.toInt = _) ex_6 (by omega) (by omega)
  refine t_si hx hb hK hLA hB hS mb_1 tb_1 ai_70 (i_in (by omega) (by omega)) (by rw [show ry 70 x_4.toNatClampNeg = ((-2147483648), 2147483647) from sbF (by have hn : x_4.toNatClampNeg = x_4.toInt.toNat := rfl; omega)]; exact i_lo _) (by rw [show ry 70 x_4.toNatClampNeg = ((-2147483648), 2147483647) from sbF (by have hn : x_4.toNatClampNeg = x_4.toInt.toNat := rfl; omega)]; exact i_hi _) (Or.inr (by decide)) dX12_adds_17 (fun H locs σ_7 eσ_7 hB hS => ?_)
  have k_8 : σ_7 b_1 x_4.toNatClampNeg = x_6 := by rw [eσ_7]; exact up2_same _ _ _ _
  exact W.vret hx hb hr (fun t ht hW => ⟨⟨(σ_7, ρ), rfl, ⟨hB.2.1, hB.2.2, trivial⟩, (show TP D cA L T r σ_7 ρ t.heap from by rw [ht]; exact hB.1)⟩, hS.F ht⟩) hS.2.2 dX12_adds_18
set_option maxHeartbeats 4000000 in
set_option maxRecDepth 100000 in
theorem cy_X12_adds_t (l : Launch) (D : va_G) (cA : Nat → ClassId) (L : List Nat) (T : Nat → Nat) (r : Rg) (hG : GR L T r) (hL : L.Nodup) (σ : Sg) (ρ : Lg) (hW : WT L ry T σ) (sz : Nat) (h0 : Nat) (mh0 : h0 ∈ L) (th0 : T h0 = 12) (p1 : Int32) (p2 : Int32) (p3 : Int32) (w0 : 0 ≤ p1.toInt) (w1 : p1.toInt ≤ 3) (w2 : 4 ≤ p2.toInt) (w3 : p2.toInt ≤ 8) : Met l yX12_adds (.code yX12_adds cX12_adds 4 none :: wsA) ({ frames := 0, cells := 0, slots := 0, locals := 0 }) (PR D cA L T r σ ρ sz [.ref h0, .int p1, .int p2, .int p3]) (QV D cA L T r ry [(70, 1000)] σ sz (fun σ1 => True)) 0 0 (dm L sz) := by
  refine Met.ofW (cc := cX12_adds) (maxL := 4) (ret := none) (by decide) rfl ?_
  intro p e s m args below meth c s₁ B hml hv
  obtain ⟨rfl, hsz, hP, hK, hN⟩ := hv
  have hx := B.exec
  have hb := B.bytes
  have hr := B.returns
  have hts : ∀ w ∈ wsA, w.before _ s = true := fun w h => atoms_spec (ws := .code yX12_adds cX12_adds 4 none :: wsA) B.pre w (List.mem_cons_of_mem _ h)
  have hown : s.vm.findClass RX12 = some m.cls := findClass_of_methodNamed B.named
  subst hsz
  have hLA : LA (dm L s.heap.size) L := ⟨hL, fun a h => Or.inl h⟩
  have hA : ∀ q : Nat, s.heap.size ≤ q → dm L s.heap.size q := fun q h => Or.inr h
  have hS : va_S (dm L s.heap.size) s.heap s.heap [] := va_S.rf
  have hB : TS D cA L T r ry [(70, 1000)] σ σ ρ s.heap := ⟨hP, hW, FR.rf⟩
  have hl := lv_entry ([.ref h0, .int p1, .int p2, .int p3]) (n := 4) (Nat.le_of_ble_eq_true rfl)
  rw [lg_entry_eq]
  generalize (lg_sl ([.ref h0, .int p1, .int p2, .int p3]) ++ List.replicate (4 - (lg_sl ([.ref h0, .int p1, .int p2, .int p3])).length) Slot.unset).toArray = ls at hl ⊢
  have hl : lv_has ls 4 [(0, .ref h0), (1, .int p1), (2, .int p2), (3, .int p3)] := hl
  refine lv_aload_n hx hb dX12_adds_0 rfl (lv_at hl 0 rfl) ?_
  refine t_gr hx hb hts hown hK hG hB mh0 th0 fq_12_20 rfl mw_5_236 dX12_adds_1 (fun b_1 hb_1 mb_1 tb_1 => ?_)
  refine lv_bipush (v := 58) hx hb dX12_adds_4 (by decide) ?_
  refine lv_bipush (v := 9) hx hb dX12_adds_6 (by decide) ?_
  refine lv_iload_n hx hb dX12_adds_8 rfl (lv_at hl 1 rfl) ?_
  refine lv_imul hx hb dX12_adds_9 ?_
  refine lv_topi (fun x_2 ex_2 => ?_)
  have vx_2 := b_mul (by decide : (9 : Int32).toInt = 9) (rfl : p1.toInt = _) ex_2 (by omega) (by omega)
  refine lv_iadd hx hb dX12_adds_10 ?_
  refine lv_topi (fun x_3 ex_3 => ?_)
  have vx_3 := b_add (by decide : (58 : Int32).toInt = 58) (rfl : x_2.toInt = _) ex_3 (by omega) (by omega)
  refine lv_iload_n hx hb dX12_adds_11 rfl (lv_at hl 2 rfl) ?_
  refine lv_iadd hx hb dX12_adds_12 ?_
  refine lv_topi (fun x_4 ex_4 => ?_)
  have vx_4 := b_add (rfl : x_3.toInt = _) (rfl : p2.toInt = _) ex_4 (by omega) (by omega)
  refine lv_dup2_11 hx hb dX12_adds_13 rfl rfl ?_
  refine t_aj hx hb hK hB mb_1 tb_1 ai_70 (i_in (by omega) (by omega)) dX12_adds_14 (fun x_5 ex_5 lx_5 ux_5 => ?_)
  rw [show ry 70 x_4.toNatClampNeg = ((-2147483648), 2147483647) from sbF (by have hn : x_4.toNatClampNeg = x_4.toInt.toNat := rfl; omega)] at lx_5 ux_5
  have cx_5 := congrArg Int32.toInt ex_5
  refine lv_iload_n hx hb dX12_adds_15 rfl (lv_at hl 3 rfl) ?_
  refine lv_iadd hx hb dX12_adds_16 ?_
  refine lv_topi (fun x_6 ex_6 => ?_)
  try have vx_6 := b_add (rfl : x_5.toInt = _) (rfl : p3.toInt = _) ex_6 (by omega) (by omega)
  refine t_si hx hb hK hLA hB hS mb_1 tb_1 ai_70 (i_in (by omega) (by omega)) (by rw [show ry 70 x_4.toNatClampNeg = ((-2147483648), 2147483647) from sbF (by have hn : x_4.toNatClampNeg = x_4.toInt.toNat := rfl; omega)]; exact i_lo _) (by rw [show ry 70 x_4.toNatClampNeg = ((-2147483648), 2147483647) from sbF (by have hn : x_4.toNatClampNeg = x_4.toInt.toNat := rfl; omega)]; exact i_hi _) (Or.inr (by decide)) dX12_adds_17 (fun H locs σ_7 eσ_7 hB hS => ?_)
  have k_8 : σ_7 b_1 x_4.toNatClampNeg = x_6 := by rw [eσ_7]; exact up2_same _ _ _ _
  exact W.vret hx hb hr (fun t ht hW => ⟨⟨(σ_7, ρ), rfl, ⟨hB.2.1, hB.2.2, trivial⟩, (show TP D cA L T r σ_7 ρ t.heap from by rw [ht]; exact hB.1)⟩, hS.F ht⟩) hS.2.2 dX12_adds_18
theorem mw_6_1 : (.fieldLink RX12 282 "HillBendsModel" "undone" "I" : Cond) ∈ wsA := wsA_t (List.mem_append_right _ (List.mem_append_right _ (List.mem_append_right _ (List.mem_append_right _ (List.mem_append_right _ (List.mem_append_left _ (List.mem_of_getElem? (l := tables_1_6) (i := 1) rfl))))))) rfl
theorem mw_6_0 : (.fieldLink RX12 49 "HillBendsModel" "wasSaid" "[I" : Cond) ∈ wsA := wsA_t (List.mem_append_right _ (List.mem_append_right _ (List.mem_append_right _ (List.mem_append_right _ (List.mem_append_right _ (List.mem_append_left _ (List.mem_of_getElem? (l := tables_1_6) (i := 0) rfl))))))) rfl
theorem dX12_keepsAct_0 : decode cX12_keepsAct 0 = .ok (.aload_n 0, 1) := by decide +kernel
theorem dX12_keepsAct_1 : decode cX12_keepsAct 1 = .ok (.getfield 282, 3) := by decide +kernel
theorem dX12_keepsAct_4 : decode cX12_keepsAct 4 = .ok (.bipush 20, 2) := by decide +kernel
theorem dX12_keepsAct_6 : decode cX12_keepsAct 6 = .ok (.if_icmp .ne 44, 3) := by decide +kernel
theorem dX12_keepsAct_50 : decode cX12_keepsAct 50 = .ok (.iconst 0, 1) := by decide +kernel
theorem dX12_keepsAct_51 : decode cX12_keepsAct 51 = .ok (.istore_n 1, 1) := by decide +kernel
theorem dX12_keepsAct_52 : decode cX12_keepsAct 52 = .ok (.iload_n 1, 1) := by decide +kernel
theorem dX12_keepsAct_53 : decode cX12_keepsAct 53 = .ok (.bipush 94, 2) := by decide +kernel
theorem dX12_keepsAct_55 : decode cX12_keepsAct 55 = .ok (.if_icmp .ge 29, 3) := by decide +kernel
theorem dX12_keepsAct_58 : decode cX12_keepsAct 58 = .ok (.aload_n 0, 1) := by decide +kernel
theorem dX12_keepsAct_59 : decode cX12_keepsAct 59 = .ok (.getfield 49, 3) := by decide +kernel
theorem dX12_keepsAct_62 : decode cX12_keepsAct 62 = .ok (.bipush 94, 2) := by decide +kernel
theorem dX12_keepsAct_64 : decode cX12_keepsAct 64 = .ok (.aload_n 0, 1) := by decide +kernel
theorem dX12_keepsAct_65 : decode cX12_keepsAct 65 = .ok (.getfield 282, 3) := by decide +kernel
theorem dX12_keepsAct_68 : decode cX12_keepsAct 68 = .ok (.imul, 1) := by decide +kernel
theorem dX12_keepsAct_69 : decode cX12_keepsAct 69 = .ok (.iload_n 1, 1) := by decide +kernel
theorem dX12_keepsAct_70 : decode cX12_keepsAct 70 = .ok (.iadd, 1) := by decide +kernel
theorem dX12_keepsAct_71 : decode cX12_keepsAct 71 = .ok (.aload_n 0, 1) := by decide +kernel
theorem dX12_keepsAct_72 : decode cX12_keepsAct 72 = .ok (.getfield 39, 3) := by decide +kernel
theorem dX12_keepsAct_75 : decode cX12_keepsAct 75 = .ok (.iload_n 1, 1) := by decide +kernel
theorem dX12_keepsAct_76 : decode cX12_keepsAct 76 = .ok (.iaload, 1) := by decide +kernel
theorem dX12_keepsAct_77 : decode cX12_keepsAct 77 = .ok (.iastore, 1) := by decide +kernel
theorem dX12_keepsAct_78 : decode cX12_keepsAct 78 = .ok (.iinc 1 1, 3) := by decide +kernel
theorem dX12_keepsAct_81 : decode cX12_keepsAct 81 = .ok (.goto (-29), 3) := by decide +kernel
theorem dX12_keepsAct_84 : decode cX12_keepsAct 84 = .ok (.aload_n 0, 1) := by decide +kernel
theorem dX12_keepsAct_85 : decode cX12_keepsAct 85 = .ok (.dup, 1) := by decide +kernel
theorem dX12_keepsAct_86 : decode cX12_keepsAct 86 = .ok (.getfield 282, 3) := by decide +kernel
theorem dX12_keepsAct_89 : decode cX12_keepsAct 89 = .ok (.iconst 1, 1) := by decide +kernel
theorem dX12_keepsAct_90 : decode cX12_keepsAct 90 = .ok (.iadd, 1) := by decide +kernel
theorem dX12_keepsAct_91 : decode cX12_keepsAct 91 = .ok (.putfield 282, 3) := by decide +kernel
theorem dX12_keepsAct_94 : decode cX12_keepsAct 94 = .ok (.return_, 1) := by decide +kernel
theorem dX12_keepsAct_9 : decode cX12_keepsAct 9 = .ok (.bipush 94, 2) := by decide +kernel
theorem dX12_keepsAct_11 : decode cX12_keepsAct 11 = .ok (.istore_n 1, 1) := by decide +kernel
theorem dX12_keepsAct_12 : decode cX12_keepsAct 12 = .ok (.iload_n 1, 1) := by decide +kernel
theorem dX12_keepsAct_13 : decode cX12_keepsAct 13 = .ok (.sipush 1880, 3) := by decide +kernel
theorem dX12_keepsAct_16 : decode cX12_keepsAct 16 = .ok (.if_icmp .ge 24, 3) := by decide +kernel
theorem dX12_keepsAct_19 : decode cX12_keepsAct 19 = .ok (.aload_n 0, 1) := by decide +kernel
theorem dX12_keepsAct_20 : decode cX12_keepsAct 20 = .ok (.getfield 49, 3) := by decide +kernel
theorem dX12_keepsAct_23 : decode cX12_keepsAct 23 = .ok (.iload_n 1, 1) := by decide +kernel
theorem dX12_keepsAct_24 : decode cX12_keepsAct 24 = .ok (.bipush 94, 2) := by decide +kernel
theorem dX12_keepsAct_26 : decode cX12_keepsAct 26 = .ok (.isub, 1) := by decide +kernel
theorem dX12_keepsAct_27 : decode cX12_keepsAct 27 = .ok (.aload_n 0, 1) := by decide +kernel
theorem dX12_keepsAct_28 : decode cX12_keepsAct 28 = .ok (.getfield 49, 3) := by decide +kernel
theorem dX12_keepsAct_31 : decode cX12_keepsAct 31 = .ok (.iload_n 1, 1) := by decide +kernel
theorem dX12_keepsAct_32 : decode cX12_keepsAct 32 = .ok (.iaload, 1) := by decide +kernel
theorem dX12_keepsAct_33 : decode cX12_keepsAct 33 = .ok (.iastore, 1) := by decide +kernel
theorem dX12_keepsAct_34 : decode cX12_keepsAct 34 = .ok (.iinc 1 1, 3) := by decide +kernel
theorem dX12_keepsAct_37 : decode cX12_keepsAct 37 = .ok (.goto (-25), 3) := by decide +kernel
theorem dX12_keepsAct_40 : decode cX12_keepsAct 40 = .ok (.aload_n 0, 1) := by decide +kernel
theorem dX12_keepsAct_41 : decode cX12_keepsAct 41 = .ok (.dup, 1) := by decide +kernel
theorem dX12_keepsAct_42 : decode cX12_keepsAct 42 = .ok (.getfield 282, 3) := by decide +kernel
theorem dX12_keepsAct_45 : decode cX12_keepsAct 45 = .ok (.iconst 1, 1) := by decide +kernel
theorem dX12_keepsAct_46 : decode cX12_keepsAct 46 = .ok (.isub, 1) := by decide +kernel
theorem dX12_keepsAct_47 : decode cX12_keepsAct 47 = .ok (.putfield 282, 3) := by decide +kernel
set_option maxHeartbeats 4000000 in
set_option maxRecDepth 100000 in
theorem cy_X12_keepsAct (l : Launch) (D : va_G) (cA : Nat → ClassId) (L : List Nat) (T : Nat → Nat) (r : Rg) (hG : GR L T r) (hL : L.Nodup) (σ : Sg) (ρ : Lg) (hW : WT L ry T σ) (sz : Nat) (h0 : Nat) (mh0 : h0 ∈ L) (th0 : T h0 = 12) : Met l yX12_keepsAct (.code yX12_keepsAct cX12_keepsAct 2 none :: wsA) ({ frames := 0, cells := 0, slots := 0, locals := 0 }) (PR D cA L T r σ ρ sz [.ref h0]) (QV D cA L T r ry [(12, 25), (72, 1000)] σ sz (fun σ1 => True)) 0 0 (dm L sz) := by
  refine Met.ofW (cc := cX12_keepsAct) (maxL := 2) (ret := none) (by decide) rfl ?_
  intro p e s m args below meth c s₁ B hml hv
  obtain ⟨rfl, hsz, hP, hK, hN⟩ := hv
  have hx := B.exec
  have hb := B.bytes
  have hr := B.returns
  have hts : ∀ w ∈ wsA, w.before _ s = true := fun w h => atoms_spec (ws := .code yX12_keepsAct cX12_keepsAct 2 none :: wsA) B.pre w (List.mem_cons_of_mem _ h)
  have hown : s.vm.findClass RX12 = some m.cls := findClass_of_methodNamed B.named
  subst hsz
  have hLA : LA (dm L s.heap.size) L := ⟨hL, fun a h => Or.inl h⟩
  have hA : ∀ q : Nat, s.heap.size ≤ q → dm L s.heap.size q := fun q h => Or.inr h
  have hS : va_S (dm L s.heap.size) s.heap s.heap [] := va_S.rf
  have hB : TS D cA L T r ry [(12, 25), (72, 1000)] σ σ ρ s.heap := ⟨hP, hW, FR.rf⟩
  have hl := lv_entry ([.ref h0]) (n := 2) (Nat.le_of_ble_eq_true rfl)
  rw [lg_entry_eq]
  generalize (lg_sl ([.ref h0]) ++ List.replicate (2 - (lg_sl ([.ref h0])).length) Slot.unset).toArray = ls at hl ⊢
  have hl : lv_has ls 2 [(0, .ref h0)] := hl
  refine lv_aload_n hx hb dX12_keepsAct_0 rfl (lv_at hl 0 rfl) ?_
  refine t_gi hx hb hts hown hK hB mh0 th0 fi_12_25 rfl mw_6_1 dX12_keepsAct_1 (fun x_1 ex_1 lx_1 ux_1 => ?_)
  have cx_1 := congrArg Int32.toInt ex_1
  refine lv_bipush (v := 20) hx hb dX12_keepsAct_4 (by decide) ?_
  refine lv_icmp_ne (tgt := 50) hx hb dX12_keepsAct_6 (by decide) (fun c_2 => ?_) (fun c_2 => ?_)
  · skip
    have uc_2 := i_ne (n := 20) (by decide) c_2
    refine lv_iconst (v := 0) hx hb dX12_keepsAct_50 (by decide) ?_
    refine lv_istore_n (lv' := [(1, .int 0), (0, .ref h0)]) hx hb dX12_keepsAct_51 rfl hl (by decide) rfl (fun ls hl => ?_)
    refine w_loop (α := Int32 × Sg × Lg) (fun (i_3, σ_4, ρ_5) H locs ls => 0 ≤ i_3.toInt ∧ i_3.toInt ≤ 94 ∧ σ_4 h0 25 = x_1 ∧ TS D cA L T r ry [(12, 25), (72, 1000)] σ σ_4 ρ_5 H ∧ va_S (dm L s.heap.size) s.heap H locs ∧ lv_has ls 2 [(1, .int i_3), (0, .ref h0)]) (fun (i_3, σ_4, ρ_5) => (94 - i_3.toInt).toNat) ?_ ⟨0, σ, ρ⟩ ⟨(by decide), (by decide), ex_1.symm, hB, hS, lv_sub hl [0, 1] rfl⟩
    rintro ⟨i_3, σ_4, ρ_5⟩ H locs ls ⟨li_3, ui_3, k_7, hB, hS, hl⟩ ih_6
    refine lv_iload_n hx hb dX12_keepsAct_52 rfl (lv_at hl 0 rfl) ?_
    refine lv_bipush (v := 94) hx hb dX12_keepsAct_53 (by decide) ?_
    refine lv_icmp_ge (tgt := 84) hx hb dX12_keepsAct_55 (by decide) (fun c_8 => ?_) (fun c_8 => ?_)
    · skip
      have uc_8 := i_ge (n := 94) (by decide) c_8
      refine lv_aload_n hx hb dX12_keepsAct_84 rfl (lv_at hl 1 rfl) ?_
      refine lv_dup hx hb dX12_keepsAct_85 rfl ?_
      refine t_gv hx hb hts hown hK hB mh0 th0 fi_12_25 k_7 mw_6_1 dX12_keepsAct_86 ?_
      refine lv_iconst (v := 1) hx hb dX12_keepsAct_89 (by decide) ?_
      refine lv_iadd hx hb dX12_keepsAct_90 ?_
      refine lv_topi (fun x_9 ex_9 => ?_)
      have vx_9 := b_add (rfl : x_1.toInt = _) (by decide : (1 : Int32).toInt = 1) ex_9 (by omega) (by omega)
      refine t_pi hx hb hts hown hK hLA hB hS mh0 th0 fi_12_25 rfl rfl rfl (by first | omega | (subst_vars; omega)) (by first | omega | (subst_vars; omega)) (Or.inl (by decide)) mw_6_1 dX12_keepsAct_91 (fun H locs σ_10 eσ_10 hB hS => ?_)
      have k_11 : σ_10 h0 25 = x_9 := by rw [eσ_10]; exact up2_same _ _ _ _
      exact W.vret hx hb hr (fun t ht hW => ⟨⟨(σ_10, ρ_5), rfl, ⟨hB.2.1, hB.2.2, trivial⟩, (show TP D cA L T r σ_10 ρ_5 t.heap from by rw [ht]; exact hB.1)⟩, hS.F ht⟩) hS.2.2 dX12_keepsAct_94
    · skip
      have uc_8 := i_nge (n := 94) (by decide) c_8
      refine lv_aload_n hx hb dX12_keepsAct_58 rfl (lv_at hl 1 rfl) ?_
      refine t_gr hx hb hts hown hK hG hB mh0 th0 fq_12_24 rfl mw_6_0 dX12_keepsAct_59 (fun b_12 hb_12 mb_12 tb_12 => ?_)
      refine lv_bipush (v := 94) hx hb dX12_keepsAct_62 (by decide) ?_
      refine lv_aload_n hx hb dX12_keepsAct_64 rfl (lv_at hl 1 rfl) ?_
      refine t_gv hx hb hts hown hK hB mh0 th0 fi_12_25 k_7 mw_6_1 dX12_keepsAct_65 ?_
      refine lv_imul hx hb dX12_keepsAct_68 ?_
      refine lv_topi (fun x_13 ex_13 => ?_)
      have vx_13 := b_mul (by decide : (94 : Int32).toInt = 94) (rfl : x_1.toInt = _) ex_13 (by omega) (by omega)
      refine lv_iload_n hx hb dX12_keepsAct_69 rfl (lv_at hl 0 rfl) ?_
      refine lv_iadd hx hb dX12_keepsAct_70 ?_
      refine lv_topi (fun x_14 ex_14 => ?_)
      have vx_14 := b_add (rfl : x_13.toInt = _) (rfl : i_3.toInt = _) ex_14 (by omega) (by omega)
      refine lv_aload_n hx hb dX12_keepsAct_71 rfl (lv_at hl 1 rfl) ?_
      refine t_gr hx hb hts hown hK hG hB mh0 th0 fq_12_20 rfl mw_5_236 dX12_keepsAct_72 (fun b_15 hb_15 mb_15 tb_15 => ?_)
      refine lv_iload_n hx hb dX12_keepsAct_75 rfl (lv_at hl 0 rfl) ?_
      refine t_aj hx hb hK hB mb_15 tb_15 ai_70 (i_in (by omega) (by omega)) dX12_keepsAct_76 (fun x_16 ex_16 lx_16 ux_16 => ?_)
      have ax_16 := lx_16
      have bx_16 := ux_16
      clear lx_16 ux_16
      have cx_16 := congrArg Int32.toInt ex_16
      refine t_si hx hb hK hLA hB hS mb_12 tb_12 ai_72 (i_in (by omega) (by omega)) (show (sb ((x_14 : Int32).toNatClampNeg % 94)).1 ≤ _ by rw [(show (x_14 : Int32).toNatClampNeg % 94 = (i_3 : Int32).toNatClampNeg by have hn0 : (x_14 : Int32).toNatClampNeg = x_14.toInt.toNat := rfl; have hn1 : (i_3 : Int32).toNatClampNeg = i_3.toInt.toNat := rfl; omega)]; exact ax_16) (show _ ≤ (sb ((x_14 : Int32).toNatClampNeg % 94)).2 by rw [(show (x_14 : Int32).toNatClampNeg % 94 = (i_3 : Int32).toNatClampNeg by have hn0 : (x_14 : Int32).toNatClampNeg = x_14.toInt.toNat := rfl; have hn1 : (i_3 : Int32).toNatClampNeg = i_3.toInt.toNat := rfl; omega)]; exact bx_16) (Or.inr (by decide)) dX12_keepsAct_77 (fun H locs σ_17 eσ_17 hB hS => ?_)
      have k_18 : σ_17 b_12 x_14.toNatClampNeg = x_16 := by rw [eσ_17]; exact up2_same _ _ _ _
      obtain ⟨x_19, ex_19⟩ : ∃ y : Int32, y = i_3 + 1 := ⟨_, rfl⟩
      have vx_19 := b_add (rfl : i_3.toInt = _) (by decide : (1 : Int32).toInt = 1) ex_19 (by omega) (by omega)
      refine lv_iinc (v := x_19) (lv' := [(1, .int x_19), (0, .ref h0)]) hx hb dX12_keepsAct_78 hl (k := 0) rfl (by rw [ex_19]; rfl) (by decide) rfl (fun ls hl => ?_)
      refine lv_goto (tgt := 52) hx hb dX12_keepsAct_81 (by decide) ?_
      have k_20 : σ_17 h0 25 = x_1 := by rw [eσ_17, up2_nea _ _ (tg_ne th0 tb_12 (by decide))]; exact k_7
      exact ih_6 ⟨x_19, σ_17, ρ_5⟩ _ _ _ ⟨(by omega), (by omega), k_20, hB, hS, lv_sub hl [0, 1] rfl⟩ (by show (94 - x_19.toInt).toNat < (94 - i_3.toInt).toNat; omega)
  · skip
    have uc_2 := i_eq (n := 20) (by decide) c_2
    refine lv_bipush (v := 94) hx hb dX12_keepsAct_9 (by decide) ?_
    refine lv_istore_n (lv' := [(1, .int 94), (0, .ref h0)]) hx hb dX12_keepsAct_11 rfl hl (by decide) rfl (fun ls hl => ?_)
    refine w_loop (α := Int32 × Sg × Lg) (fun (i_21, σ_22, ρ_23) H locs ls => 94 ≤ i_21.toInt ∧ i_21.toInt ≤ 1880 ∧ σ_22 h0 25 = x_1 ∧ TS D cA L T r ry [(12, 25), (72, 1000)] σ σ_22 ρ_23 H ∧ va_S (dm L s.heap.size) s.heap H locs ∧ lv_has ls 2 [(1, .int i_21), (0, .ref h0)]) (fun (i_21, σ_22, ρ_23) => (1880 - i_21.toInt).toNat) ?_ ⟨94, σ, ρ⟩ ⟨(by decide), (by decide), ex_1.symm, hB, hS, lv_sub hl [0, 1] rfl⟩
    rintro ⟨i_21, σ_22, ρ_23⟩ H locs ls ⟨li_21, ui_21, k_25, hB, hS, hl⟩ ih_24
    refine lv_iload_n hx hb dX12_keepsAct_12 rfl (lv_at hl 0 rfl) ?_
    refine lv_sipush (v := 1880) hx hb dX12_keepsAct_13 (by decide) ?_
    refine lv_icmp_ge (tgt := 40) hx hb dX12_keepsAct_16 (by decide) (fun c_26 => ?_) (fun c_26 => ?_)
    · skip
      have uc_26 := i_ge (n := 1880) (by decide) c_26
      refine lv_aload_n hx hb dX12_keepsAct_40 rfl (lv_at hl 1 rfl) ?_
      refine lv_dup hx hb dX12_keepsAct_41 rfl ?_
      refine t_gv hx hb hts hown hK hB mh0 th0 fi_12_25 k_25 mw_6_1 dX12_keepsAct_42 ?_
      refine lv_iconst (v := 1) hx hb dX12_keepsAct_45 (by decide) ?_
      refine lv_isub hx hb dX12_keepsAct_46 ?_
      refine lv_topi (fun x_27 ex_27 => ?_)
      have vx_27 := b_sub (rfl : x_1.toInt = _) (by decide : (1 : Int32).toInt = 1) ex_27 (by omega) (by omega)
      refine t_pi hx hb hts hown hK hLA hB hS mh0 th0 fi_12_25 rfl rfl rfl (by first | omega | (subst_vars; omega)) (by first | omega | (subst_vars; omega)) (Or.inl (by decide)) mw_6_1 dX12_keepsAct_47 (fun H locs σ_28 eσ_28 hB hS => ?_)
      have k_29 : σ_28 h0 25 = x_27 := by rw [eσ_28]; exact up2_same _ _ _ _
      refine lv_iconst (v := 0) hx hb dX12_keepsAct_50 (by decide) ?_
      refine lv_istore_n (lv' := [(1, .int 0), (0, .ref h0)]) hx hb dX12_keepsAct_51 rfl hl (by decide) rfl (fun ls hl => ?_)
      refine w_loop (α := Int32 × Sg × Lg) (fun (i_30, σ_31, ρ_32) H locs ls => 0 ≤ i_30.toInt ∧ i_30.toInt ≤ 94 ∧ σ_31 h0 25 = x_27 ∧ TS D cA L T r ry [(12, 25), (72, 1000)] σ σ_31 ρ_32 H ∧ va_S (dm L s.heap.size) s.heap H locs ∧ lv_has ls 2 [(1, .int i_30), (0, .ref h0)]) (fun (i_30, σ_31, ρ_32) => (94 - i_30.toInt).toNat) ?_ ⟨0, σ_28, ρ_23⟩ ⟨(by decide), (by decide), k_29, hB, hS, lv_sub hl [0, 1] rfl⟩
      rintro ⟨i_30, σ_31, ρ_32⟩ H locs ls ⟨li_30, ui_30, k_34, hB, hS, hl⟩ ih_33
      refine lv_iload_n hx hb dX12_keepsAct_52 rfl (lv_at hl 0 rfl) ?_
      refine lv_bipush (v := 94) hx hb dX12_keepsAct_53 (by decide) ?_
      refine lv_icmp_ge (tgt := 84) hx hb dX12_keepsAct_55 (by decide) (fun c_35 => ?_) (fun c_35 => ?_)
      · skip
        have uc_35 := i_ge (n := 94) (by decide) c_35
        refine lv_aload_n hx hb dX12_keepsAct_84 rfl (lv_at hl 1 rfl) ?_
        refine lv_dup hx hb dX12_keepsAct_85 rfl ?_
        refine t_gv hx hb hts hown hK hB mh0 th0 fi_12_25 k_34 mw_6_1 dX12_keepsAct_86 ?_
        refine lv_iconst (v := 1) hx hb dX12_keepsAct_89 (by decide) ?_
        refine lv_iadd hx hb dX12_keepsAct_90 ?_
        refine lv_topi (fun x_36 ex_36 => ?_)
        have vx_36 := b_add (rfl : x_27.toInt = _) (by decide : (1 : Int32).toInt = 1) ex_36 (by omega) (by omega)
        refine t_pi hx hb hts hown hK hLA hB hS mh0 th0 fi_12_25 rfl rfl rfl (by first | omega | (subst_vars; omega)) (by first | omega | (subst_vars; omega)) (Or.inl (by decide)) mw_6_1 dX12_keepsAct_91 (fun H locs σ_37 eσ_37 hB hS => ?_)
        have k_38 : σ_37 h0 25 = x_36 := by rw [eσ_37]; exact up2_same _ _ _ _
        exact W.vret hx hb hr (fun t ht hW => ⟨⟨(σ_37, ρ_32), rfl, ⟨hB.2.1, hB.2.2, trivial⟩, (show TP D cA L T r σ_37 ρ_32 t.heap from by rw [ht]; exact hB.1)⟩, hS.F ht⟩) hS.2.2 dX12_keepsAct_94
      · skip
        have uc_35 := i_nge (n := 94) (by decide) c_35
        refine lv_aload_n hx hb dX12_keepsAct_58 rfl (lv_at hl 1 rfl) ?_
        refine t_gr hx hb hts hown hK hG hB mh0 th0 fq_12_24 rfl mw_6_0 dX12_keepsAct_59 (fun b_39 hb_39 mb_39 tb_39 => ?_)
        refine lv_bipush (v := 94) hx hb dX12_keepsAct_62 (by decide) ?_
        refine lv_aload_n hx hb dX12_keepsAct_64 rfl (lv_at hl 1 rfl) ?_
        refine t_gv hx hb hts hown hK hB mh0 th0 fi_12_25 k_34 mw_6_1 dX12_keepsAct_65 ?_
        refine lv_imul hx hb dX12_keepsAct_68 ?_
        refine lv_topi (fun x_40 ex_40 => ?_)
        have vx_40 := b_mul (by decide : (94 : Int32).toInt = 94) (rfl : x_27.toInt = _) ex_40 (by omega) (by omega)
        refine lv_iload_n hx hb dX12_keepsAct_69 rfl (lv_at hl 0 rfl) ?_
        refine lv_iadd hx hb dX12_keepsAct_70 ?_
        refine lv_topi (fun x_41 ex_41 => ?_)
        have vx_41 := b_add (rfl : x_40.toInt = _) (rfl : i_30.toInt = _) ex_41 (by omega) (by omega)
        refine lv_aload_n hx hb dX12_keepsAct_71 rfl (lv_at hl 1 rfl) ?_
        refine t_gr hx hb hts hown hK hG hB mh0 th0 fq_12_20 rfl mw_5_236 dX12_keepsAct_72 (fun b_42 hb_42 mb_42 tb_42 => ?_)
        refine lv_iload_n hx hb dX12_keepsAct_75 rfl (lv_at hl 0 rfl) ?_
        refine t_aj hx hb hK hB mb_42 tb_42 ai_70 (i_in (by omega) (by omega)) dX12_keepsAct_76 (fun x_43 ex_43 lx_43 ux_43 => ?_)
        have ax_43 := lx_43
        have bx_43 := ux_43
        clear lx_43 ux_43
        have cx_43 := congrArg Int32.toInt ex_43
        refine t_si hx hb hK hLA hB hS mb_39 tb_39 ai_72 (i_in (by omega) (by omega)) (show (sb ((x_41 : Int32).toNatClampNeg % 94)).1 ≤ _ by rw [(show (x_41 : Int32).toNatClampNeg % 94 = (i_30 : Int32).toNatClampNeg by have hn0 : (x_41 : Int32).toNatClampNeg = x_41.toInt.toNat := rfl; have hn1 : (i_30 : Int32).toNatClampNeg = i_30.toInt.toNat := rfl; omega)]; exact ax_43) (show _ ≤ (sb ((x_41 : Int32).toNatClampNeg % 94)).2 by rw [(show (x_41 : Int32).toNatClampNeg % 94 = (i_30 : Int32).toNatClampNeg by have hn0 : (x_41 : Int32).toNatClampNeg = x_41.toInt.toNat := rfl; have hn1 : (i_30 : Int32).toNatClampNeg = i_30.toInt.toNat := rfl; omega)]; exact bx_43) (Or.inr (by decide)) dX12_keepsAct_77 (fun H locs σ_44 eσ_44 hB hS => ?_)
        have k_45 : σ_44 b_39 x_41.toNatClampNeg = x_43 := by rw [eσ_44]; exact up2_same _ _ _ _
        obtain ⟨x_46, ex_46⟩ : ∃ y : Int32, y = i_30 + 1 := ⟨_, rfl⟩
        have vx_46 := b_add (rfl : i_30.toInt = _) (by decide : (1 : Int32).toInt = 1) ex_46 (by omega) (by omega)
        refine lv_iinc (v := x_46) (lv' := [(1, .int x_46), (0, .ref h0)]) hx hb dX12_keepsAct_78 hl (k := 0) rfl (by rw [ex_46]; rfl) (by decide) rfl (fun ls hl => ?_)
        refine lv_goto (tgt := 52) hx hb dX12_keepsAct_81 (by decide) ?_
        have k_47 : σ_44 h0 25 = x_27 := by rw [eσ_44, up2_nea _ _ (tg_ne th0 tb_39 (by decide))]; exact k_34
        exact ih_33 ⟨x_46, σ_44, ρ_32⟩ _ _ _ ⟨(by omega), (by omega), k_47, hB, hS, lv_sub hl [0, 1] rfl⟩ (by show (94 - x_46.toInt).toNat < (94 - i_30.toInt).toNat; omega)
    · skip
      have uc_26 := i_nge (n := 1880) (by decide) c_26
      refine lv_aload_n hx hb dX12_keepsAct_19 rfl (lv_at hl 1 rfl) ?_
      refine t_gr hx hb hts hown hK hG hB mh0 th0 fq_12_24 rfl mw_6_0 dX12_keepsAct_20 (fun b_48 hb_48 mb_48 tb_48 => ?_)
      refine lv_iload_n hx hb dX12_keepsAct_23 rfl (lv_at hl 0 rfl) ?_
      refine lv_bipush (v := 94) hx hb dX12_keepsAct_24 (by decide) ?_
      refine lv_isub hx hb dX12_keepsAct_26 ?_
      refine lv_topi (fun x_49 ex_49 => ?_)
      have vx_49 := b_sub (rfl : i_21.toInt = _) (by decide : (94 : Int32).toInt = 94) ex_49 (by omega) (by omega)
      refine lv_aload_n hx hb dX12_keepsAct_27 rfl (lv_at hl 1 rfl) ?_
      refine t_gk hx hb hts hown hK hB mh0 th0 fq_12_24 hb_48 mw_6_0 dX12_keepsAct_28 ?_
      refine lv_iload_n hx hb dX12_keepsAct_31 rfl (lv_at hl 0 rfl) ?_
      refine t_aj hx hb hK hB mb_48 tb_48 ai_72 (i_in (by omega) (by omega)) dX12_keepsAct_32 (fun x_50 ex_50 lx_50 ux_50 => ?_)
      have ax_50 := lx_50
      have bx_50 := ux_50
      clear lx_50 ux_50
      have cx_50 := congrArg Int32.toInt ex_50
      refine t_si hx hb hK hLA hB hS mb_48 tb_48 ai_72 (i_in (by omega) (by omega)) (show (sb ((x_49 : Int32).toNatClampNeg % 94)).1 ≤ _ by rw [(show (x_49 : Int32).toNatClampNeg % 94 = (i_21 : Int32).toNatClampNeg % 94 by have hn0 : (x_49 : Int32).toNatClampNeg = x_49.toInt.toNat := rfl; have hn1 : (i_21 : Int32).toNatClampNeg = i_21.toInt.toNat := rfl; omega)]; exact ax_50) (show _ ≤ (sb ((x_49 : Int32).toNatClampNeg % 94)).2 by rw [(show (x_49 : Int32).toNatClampNeg % 94 = (i_21 : Int32).toNatClampNeg % 94 by have hn0 : (x_49 : Int32).toNatClampNeg = x_49.toInt.toNat := rfl; have hn1 : (i_21 : Int32).toNatClampNeg = i_21.toInt.toNat := rfl; omega)]; exact bx_50) (Or.inr (by decide)) dX12_keepsAct_33 (fun H locs σ_51 eσ_51 hB hS => ?_)
      have k_52 : σ_51 b_48 x_49.toNatClampNeg = x_50 := by rw [eσ_51]; exact up2_same _ _ _ _
      obtain ⟨x_53, ex_53⟩ : ∃ y : Int32, y = i_21 + 1 := ⟨_, rfl⟩
      have vx_53 := b_add (rfl : i_21.toInt = _) (by decide : (1 : Int32).toInt = 1) ex_53 (by omega) (by omega)
      refine lv_iinc (v := x_53) (lv' := [(1, .int x_53), (0, .ref h0)]) hx hb dX12_keepsAct_34 hl (k := 0) rfl (by rw [ex_53]; rfl) (by decide) rfl (fun ls hl => ?_)
      refine lv_goto (tgt := 12) hx hb dX12_keepsAct_37 (by decide) ?_
      have k_54 : σ_51 h0 25 = x_1 := by rw [eσ_51, up2_nea _ _ (tg_ne th0 tb_48 (by decide))]; exact k_25
      exact ih_24 ⟨x_53, σ_51, ρ_23⟩ _ _ _ ⟨(by omega), (by omega), k_54, hB, hS, lv_sub hl [0, 1] rfl⟩ (by show (1880 - x_53.toInt).toNat < (1880 - i_21.toInt).toNat; omega)
theorem dX12_undo_0 : decode cX12_undo 0 = .ok (.aload_n 0, 1) := by decide +kernel
theorem dX12_undo_1 : decode cX12_undo 1 = .ok (.getfield 282, 3) := by decide +kernel
theorem dX12_undo_4 : decode cX12_undo 4 = .ok (.ifCond .ne 5, 3) := by decide +kernel
theorem dX12_undo_9 : decode cX12_undo 9 = .ok (.aload_n 0, 1) := by decide +kernel
theorem dX12_undo_10 : decode cX12_undo 10 = .ok (.dup, 1) := by decide +kernel
theorem dX12_undo_11 : decode cX12_undo 11 = .ok (.getfield 282, 3) := by decide +kernel
theorem dX12_undo_14 : decode cX12_undo 14 = .ok (.iconst 1, 1) := by decide +kernel
theorem dX12_undo_15 : decode cX12_undo 15 = .ok (.isub, 1) := by decide +kernel
theorem dX12_undo_16 : decode cX12_undo 16 = .ok (.putfield 282, 3) := by decide +kernel
theorem dX12_undo_19 : decode cX12_undo 19 = .ok (.iconst 0, 1) := by decide +kernel
theorem dX12_undo_20 : decode cX12_undo 20 = .ok (.istore_n 1, 1) := by decide +kernel
theorem dX12_undo_21 : decode cX12_undo 21 = .ok (.iload_n 1, 1) := by decide +kernel
theorem dX12_undo_22 : decode cX12_undo 22 = .ok (.bipush 94, 2) := by decide +kernel
theorem dX12_undo_24 : decode cX12_undo 24 = .ok (.if_icmp .ge 29, 3) := by decide +kernel
theorem dX12_undo_27 : decode cX12_undo 27 = .ok (.aload_n 0, 1) := by decide +kernel
theorem dX12_undo_28 : decode cX12_undo 28 = .ok (.getfield 39, 3) := by decide +kernel
theorem dX12_undo_31 : decode cX12_undo 31 = .ok (.iload_n 1, 1) := by decide +kernel
theorem dX12_undo_32 : decode cX12_undo 32 = .ok (.aload_n 0, 1) := by decide +kernel
theorem dX12_undo_33 : decode cX12_undo 33 = .ok (.getfield 49, 3) := by decide +kernel
theorem dX12_undo_36 : decode cX12_undo 36 = .ok (.bipush 94, 2) := by decide +kernel
theorem dX12_undo_38 : decode cX12_undo 38 = .ok (.aload_n 0, 1) := by decide +kernel
theorem dX12_undo_39 : decode cX12_undo 39 = .ok (.getfield 282, 3) := by decide +kernel
theorem dX12_undo_42 : decode cX12_undo 42 = .ok (.imul, 1) := by decide +kernel
theorem dX12_undo_43 : decode cX12_undo 43 = .ok (.iload_n 1, 1) := by decide +kernel
theorem dX12_undo_44 : decode cX12_undo 44 = .ok (.iadd, 1) := by decide +kernel
theorem dX12_undo_45 : decode cX12_undo 45 = .ok (.iaload, 1) := by decide +kernel
theorem dX12_undo_46 : decode cX12_undo 46 = .ok (.iastore, 1) := by decide +kernel
theorem dX12_undo_47 : decode cX12_undo 47 = .ok (.iinc 1 1, 3) := by decide +kernel
theorem dX12_undo_50 : decode cX12_undo 50 = .ok (.goto (-29), 3) := by decide +kernel
theorem dX12_undo_53 : decode cX12_undo 53 = .ok (.aload_n 0, 1) := by decide +kernel
theorem dX12_undo_54 : decode cX12_undo 54 = .ok (.getfield 282, 3) := by decide +kernel
theorem dX12_undo_57 : decode cX12_undo 57 = .ok (.ireturn, 1) := by decide +kernel
theorem dX12_undo_7 : decode cX12_undo 7 = .ok (.iconst (-1), 1) := by decide +kernel
theorem dX12_undo_8 : decode cX12_undo 8 = .ok (.ireturn, 1) := by decide +kernel
set_option maxHeartbeats 4000000 in
set_option maxRecDepth 100000 in
theorem cy_X12_undo (l : Launch) (D : va_G) (cA : Nat → ClassId) (L : List Nat) (T : Nat → Nat) (r : Rg) (hG : GR L T r) (hL : L.Nodup) (σ : Sg) (ρ : Lg) (hW : WT L ry T σ) (sz : Nat) (h0 : Nat) (mh0 : h0 ∈ L) (th0 : T h0 = 12) : Met l yX12_undo (.code yX12_undo cX12_undo 2 (some .int) :: wsA) ({ frames := 0, cells := 0, slots := 0, locals := 0 }) (PR D cA L T r σ ρ sz [.ref h0]) (QI D cA L T r ry [(12, 25), (70, 1000)] σ sz (fun x σ1 => True)) 0 0 (dm L sz) := by
  refine Met.ofW (cc := cX12_undo) (maxL := 2) (ret := (some .int)) (by decide) rfl ?_
  intro p e s m args below meth c s₁ B hml hv
  obtain ⟨rfl, hsz, hP, hK, hN⟩ := hv
  have hx := B.exec
  have hb := B.bytes
  have hr := B.returns
  have hts : ∀ w ∈ wsA, w.before _ s = true := fun w h => atoms_spec (ws := .code yX12_undo cX12_undo 2 (some .int) :: wsA) B.pre w (List.mem_cons_of_mem _ h)
  have hown : s.vm.findClass RX12 = some m.cls := findClass_of_methodNamed B.named
  subst hsz
  have hLA : LA (dm L s.heap.size) L := ⟨hL, fun a h => Or.inl h⟩
  have hA : ∀ q : Nat, s.heap.size ≤ q → dm L s.heap.size q := fun q h => Or.inr h
  have hS : va_S (dm L s.heap.size) s.heap s.heap [] := va_S.rf
  have hB : TS D cA L T r ry [(12, 25), (70, 1000)] σ σ ρ s.heap := ⟨hP, hW, FR.rf⟩
  have hl := lv_entry ([.ref h0]) (n := 2) (Nat.le_of_ble_eq_true rfl)
  rw [lg_entry_eq]
  generalize (lg_sl ([.ref h0]) ++ List.replicate (2 - (lg_sl ([.ref h0])).length) Slot.unset).toArray = ls at hl ⊢
  have hl : lv_has ls 2 [(0, .ref h0)] := hl
  refine lv_aload_n hx hb dX12_undo_0 rfl (lv_at hl 0 rfl) ?_
  refine t_gi hx hb hts hown hK hB mh0 th0 fi_12_25 rfl mw_6_1 dX12_undo_1 (fun x_1 ex_1 lx_1 ux_1 => ?_)
  have cx_1 := congrArg Int32.toInt ex_1
  refine lv_if_ne (tgt := 9) hx hb dX12_undo_4 (by decide) (fun c_2 => ?_) (fun c_2 => ?_)
  · skip
    have uc_2 := i_ne (n := 0) (by decide) c_2
    refine lv_aload_n hx hb dX12_undo_9 rfl (lv_at hl 0 rfl) ?_
    refine lv_dup hx hb dX12_undo_10 rfl ?_
    refine t_gv hx hb hts hown hK hB mh0 th0 fi_12_25 ex_1.symm mw_6_1 dX12_undo_11 ?_
    refine lv_iconst (v := 1) hx hb dX12_undo_14 (by decide) ?_
    refine lv_isub hx hb dX12_undo_15 ?_
    refine lv_topi (fun x_3 ex_3 => ?_)
    have vx_3 := b_sub (rfl : x_1.toInt = _) (by decide : (1 : Int32).toInt = 1) ex_3 (by omega) (by omega)
    refine t_pi hx hb hts hown hK hLA hB hS mh0 th0 fi_12_25 rfl rfl rfl (by first | omega | (subst_vars; omega)) (by first | omega | (subst_vars; omega)) (Or.inl (by decide)) mw_6_1 dX12_undo_16 (fun H locs σ_4 eσ_4 hB hS => ?_)
    have k_5 : σ_4 h0 25 = x_3 := by rw [eσ_4]; exact up2_same _ _ _ _
    refine lv_iconst (v := 0) hx hb dX12_undo_19 (by decide) ?_
    refine lv_istore_n (lv' := [(1, .int 0), (0, .ref h0)]) hx hb dX12_undo_20 rfl hl (by decide) rfl (fun ls hl => ?_)
    refine w_loop (α := Int32 × Sg × Lg) (fun (i_6, σ_7, ρ_8) H locs ls => 0 ≤ i_6.toInt ∧ i_6.toInt ≤ 94 ∧ σ_7 h0 25 = x_3 ∧ TS D cA L T r ry [(12, 25), (70, 1000)] σ σ_7 ρ_8 H ∧ va_S (dm L s.heap.size) s.heap H locs ∧ lv_has ls 2 [(1, .int i_6), (0, .ref h0)]) (fun (i_6, σ_7, ρ_8) => (94 - i_6.toInt).toNat) ?_ ⟨0, σ_4, ρ⟩ ⟨(by decide), (by decide), k_5, hB, hS, lv_sub hl [0, 1] rfl⟩
    rintro ⟨i_6, σ_7, ρ_8⟩ H locs ls ⟨li_6, ui_6, k_10, hB, hS, hl⟩ ih_9
    refine lv_iload_n hx hb dX12_undo_21 rfl (lv_at hl 0 rfl) ?_
    refine lv_bipush (v := 94) hx hb dX12_undo_22 (by decide) ?_
    refine lv_icmp_ge (tgt := 53) hx hb dX12_undo_24 (by decide) (fun c_11 => ?_) (fun c_11 => ?_)
    · skip
      have uc_11 := i_ge (n := 94) (by decide) c_11
      refine lv_aload_n hx hb dX12_undo_53 rfl (lv_at hl 1 rfl) ?_
      refine t_gv hx hb hts hown hK hB mh0 th0 fi_12_25 k_10 mw_6_1 dX12_undo_54 ?_
      exact W.iret (v := x_3) hx hb hr (fun t ht hW => ⟨⟨x_3, (σ_7, ρ_8), rfl, ⟨hB.2.1, hB.2.2, trivial⟩, (show TP D cA L T r σ_7 ρ_8 t.heap from by rw [ht]; exact hB.1)⟩, hS.F ht⟩) hS.2.2 dX12_undo_57
    · skip
      have uc_11 := i_nge (n := 94) (by decide) c_11
      refine lv_aload_n hx hb dX12_undo_27 rfl (lv_at hl 1 rfl) ?_
      refine t_gr hx hb hts hown hK hG hB mh0 th0 fq_12_20 rfl mw_5_236 dX12_undo_28 (fun b_12 hb_12 mb_12 tb_12 => ?_)
      refine lv_iload_n hx hb dX12_undo_31 rfl (lv_at hl 0 rfl) ?_
      refine lv_aload_n hx hb dX12_undo_32 rfl (lv_at hl 1 rfl) ?_
      refine t_gr hx hb hts hown hK hG hB mh0 th0 fq_12_24 rfl mw_6_0 dX12_undo_33 (fun b_13 hb_13 mb_13 tb_13 => ?_)
      refine lv_bipush (v := 94) hx hb dX12_undo_36 (by decide) ?_
      refine lv_aload_n hx hb dX12_undo_38 rfl (lv_at hl 1 rfl) ?_
      refine t_gv hx hb hts hown hK hB mh0 th0 fi_12_25 k_10 mw_6_1 dX12_undo_39 ?_
      refine lv_imul hx hb dX12_undo_42 ?_
      refine lv_topi (fun x_14 ex_14 => ?_)
      have vx_14 := b_mul (by decide : (94 : Int32).toInt = 94) (rfl : x_3.toInt = _) ex_14 (by omega) (by omega)
      refine lv_iload_n hx hb dX12_undo_43 rfl (lv_at hl 0 rfl) ?_
      refine lv_iadd hx hb dX12_undo_44 ?_
      refine lv_topi (fun x_15 ex_15 => ?_)
      have vx_15 := b_add (rfl : x_14.toInt = _) (rfl : i_6.toInt = _) ex_15 (by omega) (by omega)
      refine t_aj hx hb hK hB mb_13 tb_13 ai_72 (i_in (by omega) (by omega)) dX12_undo_45 (fun x_16 ex_16 lx_16 ux_16 => ?_)
      have ax_16 := lx_16
      have bx_16 := ux_16
      clear lx_16 ux_16
      have cx_16 := congrArg Int32.toInt ex_16
      refine t_si hx hb hK hLA hB hS mb_12 tb_12 ai_70 (i_in (by omega) (by omega)) (show (sb ((i_6 : Int32).toNatClampNeg)).1 ≤ _ by rw [(show (i_6 : Int32).toNatClampNeg = (x_15 : Int32).toNatClampNeg % 94 by have hn0 : (i_6 : Int32).toNatClampNeg = i_6.toInt.toNat := rfl; have hn1 : (x_15 : Int32).toNatClampNeg = x_15.toInt.toNat := rfl; omega)]; exact ax_16) (show _ ≤ (sb ((i_6 : Int32).toNatClampNeg)).2 by rw [(show (i_6 : Int32).toNatClampNeg = (x_15 : Int32).toNatClampNeg % 94 by have hn0 : (i_6 : Int32).toNatClampNeg = i_6.toInt.toNat := rfl; have hn1 : (x_15 : Int32).toNatClampNeg = x_15.toInt.toNat := rfl; omega)]; exact bx_16) (Or.inr (by decide)) dX12_undo_46 (fun H locs σ_17 eσ_17 hB hS => ?_)
      have k_18 : σ_17 b_12 i_6.toNatClampNeg = x_16 := by rw [eσ_17]; exact up2_same _ _ _ _
      obtain ⟨x_19, ex_19⟩ : ∃ y : Int32, y = i_6 + 1 := ⟨_, rfl⟩
      have vx_19 := b_add (rfl : i_6.toInt = _) (by decide : (1 : Int32).toInt = 1) ex_19 (by omega) (by omega)
      refine lv_iinc (v := x_19) (lv' := [(1, .int x_19), (0, .ref h0)]) hx hb dX12_undo_47 hl (k := 0) rfl (by rw [ex_19]; rfl) (by decide) rfl (fun ls hl => ?_)
      refine lv_goto (tgt := 21) hx hb dX12_undo_50 (by decide) ?_
      have k_20 : σ_17 h0 25 = x_3 := by rw [eσ_17, up2_nea _ _ (tg_ne th0 tb_12 (by decide))]; exact k_10
      exact ih_9 ⟨x_19, σ_17, ρ_8⟩ _ _ _ ⟨(by omega), (by omega), k_20, hB, hS, lv_sub hl [0, 1] rfl⟩ (by show (94 - x_19.toInt).toNat < (94 - i_6.toInt).toNat; omega)
  · skip
    have uc_2 := i_eq (n := 0) (by decide) c_2
    refine lv_iconst (v := (-1)) hx hb dX12_undo_7 (by decide) ?_
    exact W.iret (v := (-1)) hx hb hr (fun t ht hW => ⟨⟨(-1), (σ, ρ), rfl, ⟨hB.2.1, hB.2.2, trivial⟩, (show TP D cA L T r σ ρ t.heap from by rw [ht]; exact hB.1)⟩, hS.F ht⟩) hS.2.2 dX12_undo_8
theorem mw_6_3 : (.fieldLink RX12 55 "HillBendsModel" "had" "[I" : Cond) ∈ wsA := wsA_t (List.mem_append_right _ (List.mem_append_right _ (List.mem_append_right _ (List.mem_append_right _ (List.mem_append_right _ (List.mem_append_left _ (List.mem_of_getElem? (l := tables_1_6) (i := 3) rfl))))))) rfl
theorem dX12_takesHad_0 : decode cX12_takesHad 0 = .ok (.iconst 0, 1) := by decide +kernel
theorem dX12_takesHad_1 : decode cX12_takesHad 1 = .ok (.istore_n 2, 1) := by decide +kernel
theorem dX12_takesHad_2 : decode cX12_takesHad 2 = .ok (.iload_n 2, 1) := by decide +kernel
theorem dX12_takesHad_3 : decode cX12_takesHad 3 = .ok (.iconst 5, 1) := by decide +kernel
theorem dX12_takesHad_4 : decode cX12_takesHad 4 = .ok (.if_icmp .ge 21, 3) := by decide +kernel
theorem dX12_takesHad_7 : decode cX12_takesHad 7 = .ok (.aload_n 0, 1) := by decide +kernel
theorem dX12_takesHad_8 : decode cX12_takesHad 8 = .ok (.getfield 55, 3) := by decide +kernel
theorem dX12_takesHad_11 : decode cX12_takesHad 11 = .ok (.iload_n 2, 1) := by decide +kernel
theorem dX12_takesHad_12 : decode cX12_takesHad 12 = .ok (.aload_n 0, 1) := by decide +kernel
theorem dX12_takesHad_13 : decode cX12_takesHad 13 = .ok (.iload_n 1, 1) := by decide +kernel
theorem dX12_takesHad_14 : decode cX12_takesHad 14 = .ok (.iload_n 2, 1) := by decide +kernel
theorem dX12_takesHad_15 : decode cX12_takesHad 15 = .ok (.invokevirtual 304, 3) := by decide +kernel
theorem dX12_takesHad_18 : decode cX12_takesHad 18 = .ok (.iastore, 1) := by decide +kernel
theorem dX12_takesHad_19 : decode cX12_takesHad 19 = .ok (.iinc 2 1, 3) := by decide +kernel
theorem dX12_takesHad_22 : decode cX12_takesHad 22 = .ok (.goto (-20), 3) := by decide +kernel
theorem dX12_takesHad_25 : decode cX12_takesHad 25 = .ok (.return_, 1) := by decide +kernel
set_option maxHeartbeats 4000000 in
set_option maxRecDepth 100000 in
theorem cy_X12_takesHad (l : Launch) (D : va_G) (cA : Nat → ClassId) (L : List Nat) (T : Nat → Nat) (r : Rg) (hG : GR L T r) (hL : L.Nodup) (σ : Sg) (ρ : Lg) (hW : WT L ry T σ) (sz : Nat) (h0 : Nat) (mh0 : h0 ∈ L) (th0 : T h0 = 12) (p1 : Int32) (w0 : 0 ≤ p1.toInt) (w1 : p1.toInt ≤ 3) : Met l yX12_takesHad (.code yX12_takesHad cX12_takesHad 3 none :: wsA) ({ frames := 1, cells := 0, slots := 0, locals := 22 }) (PR D cA L T r σ ρ sz [.ref h0, .int p1]) (QV D cA L T r ry [(74, 1000)] σ sz (fun σ1 => True)) 0 0 (dm L sz) := by
  refine Met.ofW (cc := cX12_takesHad) (maxL := 3) (ret := none) (by decide) rfl ?_
  intro p e s m args below meth c s₁ B hml hv
  obtain ⟨rfl, hsz, hP, hK, hN⟩ := hv
  have hx := B.exec
  have hb := B.bytes
  have hr := B.returns
  have hts : ∀ w ∈ wsA, w.before _ s = true := fun w h => atoms_spec (ws := .code yX12_takesHad cX12_takesHad 3 none :: wsA) B.pre w (List.mem_cons_of_mem _ h)
  have hown : s.vm.findClass RX12 = some m.cls := findClass_of_methodNamed B.named
  subst hsz
  have hLA : LA (dm L s.heap.size) L := ⟨hL, fun a h => Or.inl h⟩
  have hA : ∀ q : Nat, s.heap.size ≤ q → dm L s.heap.size q := fun q h => Or.inr h
  have hS : va_S (dm L s.heap.size) s.heap s.heap [] := va_S.rf
  have hB : TS D cA L T r ry [(74, 1000)] σ σ ρ s.heap := ⟨hP, hW, FR.rf⟩
  have hl := lv_entry ([.ref h0, .int p1]) (n := 3) (Nat.le_of_ble_eq_true rfl)
  rw [lg_entry_eq]
  generalize (lg_sl ([.ref h0, .int p1]) ++ List.replicate (3 - (lg_sl ([.ref h0, .int p1])).length) Slot.unset).toArray = ls at hl ⊢
  have hl : lv_has ls 3 [(0, .ref h0), (1, .int p1)] := hl
  refine lv_iconst (v := 0) hx hb dX12_takesHad_0 (by decide) ?_
  refine lv_istore_n (lv' := [(2, .int 0), (0, .ref h0), (1, .int p1)]) hx hb dX12_takesHad_1 rfl hl (by decide) rfl (fun ls hl => ?_)
  refine w_loop (α := Int32 × Sg × Lg) (fun (i_1, σ_2, ρ_3) H locs ls => 0 ≤ i_1.toInt ∧ i_1.toInt ≤ 5 ∧ TS D cA L T r ry [(74, 1000)] σ σ_2 ρ_3 H ∧ va_S (dm L s.heap.size) s.heap H locs ∧ lv_has ls 3 [(2, .int i_1), (0, .ref h0), (1, .int p1)]) (fun (i_1, σ_2, ρ_3) => (5 - i_1.toInt).toNat) ?_ ⟨0, σ, ρ⟩ ⟨(by decide), (by decide), hB, hS, lv_sub hl [0, 1, 2] rfl⟩
  rintro ⟨i_1, σ_2, ρ_3⟩ H locs ls ⟨li_1, ui_1, hB, hS, hl⟩ ih_4
  refine lv_iload_n hx hb dX12_takesHad_2 rfl (lv_at hl 0 rfl) ?_
  refine lv_iconst (v := 5) hx hb dX12_takesHad_3 (by decide) ?_
  refine lv_icmp_ge (tgt := 25) hx hb dX12_takesHad_4 (by decide) (fun c_5 => ?_) (fun c_5 => ?_)
  · skip
    have uc_5 := i_ge (n := 5) (by decide) c_5
    exact W.vret hx hb hr (fun t ht hW => ⟨⟨(σ_2, ρ_3), rfl, ⟨hB.2.1, hB.2.2, trivial⟩, (show TP D cA L T r σ_2 ρ_3 t.heap from by rw [ht]; exact hB.1)⟩, hS.F ht⟩) hS.2.2 dX12_takesHad_25
  · skip
    have uc_5 := i_nge (n := 5) (by decide) c_5
    refine lv_aload_n hx hb dX12_takesHad_7 rfl (lv_at hl 1 rfl) ?_
    refine t_gr hx hb hts hown hK hG hB mh0 th0 fq_12_27 rfl mw_6_3 dX12_takesHad_8 (fun b_6 hb_6 mb_6 tb_6 => ?_)
    refine lv_iload_n hx hb dX12_takesHad_11 rfl (lv_at hl 0 rfl) ?_
    refine lv_aload_n hx hb dX12_takesHad_12 rfl (lv_at hl 1 rfl) ?_
    refine lv_iload_n hx hb dX12_takesHad_13 rfl (lv_at hl 2 rfl) ?_
    refine lv_iload_n hx hb dX12_takesHad_14 rfl (lv_at hl 0 rfl) ?_
    refine t_ci (va_runV (As := [.int p1, .int i_1]) (rest := [.int i_1, .ref b_6]) ⟨hx, hb, hml, hown, hts⟩ (cy_X12_hasOf l D cA L T r hG hLA.1 σ_2 ρ_3 hB.2.1 _ h0 mh0 th0 p1 i_1 (by first | omega | decide) (by first | omega | decide) (by first | omega | decide) (by first | omega | decide)) (cV hts mv_X12_hasOf mw_7_77 rfl rfl ⟨Nat.le_of_ble_eq_true rfl, Nat.le_of_ble_eq_true rfl⟩) (pV hB.1 hK hN mh0 th0 (show shp cA 12 _ _ _ = .inr (12, Fs12 _ _ _) from rfl) rfl) rfl rfl hl.1 rfl (lv_room (Nat.le_of_ble_eq_true rfl)) dX12_takesHad_15 ⟨Nat.le_of_ble_eq_true rfl, Nat.le_of_ble_eq_true rfl⟩) hLA hA hB hS (by decide) (fun x_9 σ_7 ρ_8 H locs hB fσ_7 pσ_7 hS => ?_)
    have qσ_7 := FR.nil fσ_7
    subst qσ_7
    refine t_si hx hb hK hLA hB hS mb_6 tb_6 ai_74 (i_in (by omega) (by omega)) (i_lo _) (i_hi _) (Or.inr (by decide)) dX12_takesHad_18 (fun H locs σ_10 eσ_10 hB hS => ?_)
    have k_11 : σ_10 b_6 i_1.toNatClampNeg = x_9 := by rw [eσ_10]; exact up2_same _ _ _ _
    obtain ⟨x_12, ex_12⟩ : ∃ y : Int32, y = i_1 + 1 := ⟨_, rfl⟩
    have vx_12 := b_add (rfl : i_1.toInt = _) (by decide : (1 : Int32).toInt = 1) ex_12 (by omega) (by omega)
    refine lv_iinc (v := x_12) (lv' := [(2, .int x_12), (0, .ref h0), (1, .int p1)]) hx hb dX12_takesHad_19 hl (k := 0) rfl (by rw [ex_12]; rfl) (by decide) rfl (fun ls hl => ?_)
    refine lv_goto (tgt := 2) hx hb dX12_takesHad_22 (by decide) ?_
    exact ih_4 ⟨x_12, σ_10, ρ_8⟩ _ _ _ ⟨(by omega), (by omega), hB, hS, lv_sub hl [0, 1, 2] rfl⟩ (by show (5 - x_12.toInt).toNat < (5 - i_1.toInt).toNat; omega)
theorem mw_6_2 : (.fieldLink RX12 52 "HillBendsModel" "many" "[I" : Cond) ∈ wsA := wsA_t (List.mem_append_right _ (List.mem_append_right _ (List.mem_append_right _ (List.mem_append_right _ (List.mem_append_right _ (List.mem_append_left _ (List.mem_of_getElem? (l := tables_1_6) (i := 2) rfl))))))) rfl
theorem dX12_reach_0 : decode cX12_reach 0 = .ok (.aload_n 0, 1) := by decide +kernel
theorem dX12_reach_1 : decode cX12_reach 1 = .ok (.iload_n 1, 1) := by decide +kernel
theorem dX12_reach_2 : decode cX12_reach 2 = .ok (.invokevirtual 319, 3) := by decide +kernel
theorem dX12_reach_5 : decode cX12_reach 5 = .ok (.ifCond .eq 16, 3) := by decide +kernel
theorem dX12_reach_21 : decode cX12_reach 21 = .ok (.bipush (-2), 2) := by decide +kernel
theorem dX12_reach_23 : decode cX12_reach 23 = .ok (.ireturn, 1) := by decide +kernel
theorem dX12_reach_8 : decode cX12_reach 8 = .ok (.iload_n 2, 1) := by decide +kernel
theorem dX12_reach_9 : decode cX12_reach 9 = .ok (.iconst (-1), 1) := by decide +kernel
theorem dX12_reach_10 : decode cX12_reach 10 = .ok (.if_icmp .eq 14, 3) := by decide +kernel
theorem dX12_reach_24 : decode cX12_reach 24 = .ok (.iconst 0, 1) := by decide +kernel
theorem dX12_reach_25 : decode cX12_reach 25 = .ok (.istore_n 3, 1) := by decide +kernel
theorem dX12_reach_26 : decode cX12_reach 26 = .ok (.iload_n 3, 1) := by decide +kernel
theorem dX12_reach_27 : decode cX12_reach 27 = .ok (.aload_n 0, 1) := by decide +kernel
theorem dX12_reach_28 : decode cX12_reach 28 = .ok (.getfield 39, 3) := by decide +kernel
theorem dX12_reach_31 : decode cX12_reach 31 = .ok (.iconst 1, 1) := by decide +kernel
theorem dX12_reach_32 : decode cX12_reach 32 = .ok (.iaload, 1) := by decide +kernel
theorem dX12_reach_33 : decode cX12_reach 33 = .ok (.if_icmp .ge 21, 3) := by decide +kernel
theorem dX12_reach_36 : decode cX12_reach 36 = .ok (.aload_n 0, 1) := by decide +kernel
theorem dX12_reach_37 : decode cX12_reach 37 = .ok (.getfield 52, 3) := by decide +kernel
theorem dX12_reach_40 : decode cX12_reach 40 = .ok (.iload_n 3, 1) := by decide +kernel
theorem dX12_reach_41 : decode cX12_reach 41 = .ok (.aload_n 0, 1) := by decide +kernel
theorem dX12_reach_42 : decode cX12_reach 42 = .ok (.iload_n 1, 1) := by decide +kernel
theorem dX12_reach_43 : decode cX12_reach 43 = .ok (.iload_n 3, 1) := by decide +kernel
theorem dX12_reach_44 : decode cX12_reach 44 = .ok (.invokevirtual 304, 3) := by decide +kernel
theorem dX12_reach_47 : decode cX12_reach 47 = .ok (.iastore, 1) := by decide +kernel
theorem dX12_reach_48 : decode cX12_reach 48 = .ok (.iinc 3 1, 3) := by decide +kernel
theorem dX12_reach_51 : decode cX12_reach 51 = .ok (.goto (-25), 3) := by decide +kernel
theorem dX12_reach_54 : decode cX12_reach 54 = .ok (.aload_n 0, 1) := by decide +kernel
theorem dX12_reach_55 : decode cX12_reach 55 = .ok (.iload_n 1, 1) := by decide +kernel
theorem dX12_reach_56 : decode cX12_reach 56 = .ok (.iconst 0, 1) := by decide +kernel
theorem dX12_reach_57 : decode cX12_reach 57 = .ok (.invokevirtual 324, 3) := by decide +kernel
theorem dX12_reach_60 : decode cX12_reach 60 = .ok (.istore_n 3, 1) := by decide +kernel
theorem dX12_reach_61 : decode cX12_reach 61 = .ok (.iload_n 3, 1) := by decide +kernel
theorem dX12_reach_62 : decode cX12_reach 62 = .ok (.aload_n 0, 1) := by decide +kernel
theorem dX12_reach_63 : decode cX12_reach 63 = .ok (.getfield 39, 3) := by decide +kernel
theorem dX12_reach_66 : decode cX12_reach 66 = .ok (.iconst 2, 1) := by decide +kernel
theorem dX12_reach_67 : decode cX12_reach 67 = .ok (.iaload, 1) := by decide +kernel
theorem dX12_reach_68 : decode cX12_reach 68 = .ok (.if_icmp .ge 36, 3) := by decide +kernel
theorem dX12_reach_71 : decode cX12_reach 71 = .ok (.aload_n 0, 1) := by decide +kernel
theorem dX12_reach_72 : decode cX12_reach 72 = .ok (.getfield 52, 3) := by decide +kernel
theorem dX12_reach_75 : decode cX12_reach 75 = .ok (.aload_n 0, 1) := by decide +kernel
theorem dX12_reach_76 : decode cX12_reach 76 = .ok (.iload_n 3, 1) := by decide +kernel
theorem dX12_reach_77 : decode cX12_reach 77 = .ok (.invokevirtual 332, 3) := by decide +kernel
theorem dX12_reach_80 : decode cX12_reach 80 = .ok (.iaload, 1) := by decide +kernel
theorem dX12_reach_81 : decode cX12_reach 81 = .ok (.ifCond .le 23, 3) := by decide +kernel
theorem dX12_reach_84 : decode cX12_reach 84 = .ok (.aload_n 0, 1) := by decide +kernel
theorem dX12_reach_85 : decode cX12_reach 85 = .ok (.getfield 52, 3) := by decide +kernel
theorem dX12_reach_88 : decode cX12_reach 88 = .ok (.aload_n 0, 1) := by decide +kernel
theorem dX12_reach_89 : decode cX12_reach 89 = .ok (.iload_n 3, 1) := by decide +kernel
theorem dX12_reach_90 : decode cX12_reach 90 = .ok (.invokevirtual 332, 3) := by decide +kernel
theorem dX12_reach_93 : decode cX12_reach 93 = .ok (.dup2, 1) := by decide +kernel
theorem dX12_reach_94 : decode cX12_reach 94 = .ok (.iaload, 1) := by decide +kernel
theorem dX12_reach_95 : decode cX12_reach 95 = .ok (.iconst 1, 1) := by decide +kernel
theorem dX12_reach_96 : decode cX12_reach 96 = .ok (.isub, 1) := by decide +kernel
theorem dX12_reach_97 : decode cX12_reach 97 = .ok (.iastore, 1) := by decide +kernel
theorem dX12_reach_98 : decode cX12_reach 98 = .ok (.iinc 3 1, 3) := by decide +kernel
theorem dX12_reach_101 : decode cX12_reach 101 = .ok (.goto (-40), 3) := by decide +kernel
theorem dX12_reach_104 : decode cX12_reach 104 = .ok (.iload_n 2, 1) := by decide +kernel
theorem dX12_reach_105 : decode cX12_reach 105 = .ok (.iconst (-1), 1) := by decide +kernel
theorem dX12_reach_106 : decode cX12_reach 106 = .ok (.if_icmp .ne 7, 3) := by decide +kernel
theorem dX12_reach_109 : decode cX12_reach 109 = .ok (.iload_n 3, 1) := by decide +kernel
theorem dX12_reach_110 : decode cX12_reach 110 = .ok (.goto 9, 3) := by decide +kernel
theorem dX12_reach_119 : decode cX12_reach 119 = .ok (.ireturn, 1) := by decide +kernel
theorem dX12_reach_13 : decode cX12_reach 13 = .ok (.aload_n 0, 1) := by decide +kernel
theorem dX12_reach_14 : decode cX12_reach 14 = .ok (.iload_n 2, 1) := by decide +kernel
theorem dX12_reach_15 : decode cX12_reach 15 = .ok (.invokevirtual 335, 3) := by decide +kernel
theorem dX12_reach_18 : decode cX12_reach 18 = .ok (.ifCond .ne 6, 3) := by decide +kernel
theorem dX12_reach_113 : decode cX12_reach 113 = .ok (.aload_n 0, 1) := by decide +kernel
theorem dX12_reach_114 : decode cX12_reach 114 = .ok (.getfield 52, 3) := by decide +kernel
theorem dX12_reach_117 : decode cX12_reach 117 = .ok (.iload_n 2, 1) := by decide +kernel
theorem dX12_reach_118 : decode cX12_reach 118 = .ok (.iaload, 1) := by decide +kernel
set_option maxHeartbeats 4000000 in
set_option maxRecDepth 100000 in
theorem cy_X12_reach (l : Launch) (D : va_G) (cA : Nat → ClassId) (L : List Nat) (T : Nat → Nat) (r : Rg) (hG : GR L T r) (hL : L.Nodup) (σ : Sg) (ρ : Lg) (hW : WT L ry T σ) (sz : Nat) (h0 : Nat) (mh0 : h0 ∈ L) (th0 : T h0 = 12) (p1 : Int32) (p2 : Int32) : Met l yX12_reach (.code yX12_reach cX12_reach 4 (some .int) :: wsA) ({ frames := 2, cells := 0, slots := 0, locals := 43 }) (PR D cA L T r σ ρ sz [.ref h0, .int p1, .int p2]) (QI D cA L T r ry [(73, 1000)] σ sz (fun x σ1 => True)) 0 0 (dm L sz) := by
  refine Met.ofW (cc := cX12_reach) (maxL := 4) (ret := (some .int)) (by decide) rfl ?_
  intro p e s m args below meth c s₁ B hml hv
  obtain ⟨rfl, hsz, hP, hK, hN⟩ := hv
  have hx := B.exec
  have hb := B.bytes
  have hr := B.returns
  have hts : ∀ w ∈ wsA, w.before _ s = true := fun w h => atoms_spec (ws := .code yX12_reach cX12_reach 4 (some .int) :: wsA) B.pre w (List.mem_cons_of_mem _ h)
  have hown : s.vm.findClass RX12 = some m.cls := findClass_of_methodNamed B.named
  subst hsz
  have hLA : LA (dm L s.heap.size) L := ⟨hL, fun a h => Or.inl h⟩
  have hA : ∀ q : Nat, s.heap.size ≤ q → dm L s.heap.size q := fun q h => Or.inr h
  have hS : va_S (dm L s.heap.size) s.heap s.heap [] := va_S.rf
  have hB : TS D cA L T r ry [(73, 1000)] σ σ ρ s.heap := ⟨hP, hW, FR.rf⟩
  have hl := lv_entry ([.ref h0, .int p1, .int p2]) (n := 4) (Nat.le_of_ble_eq_true rfl)
  rw [lg_entry_eq]
  generalize (lg_sl ([.ref h0, .int p1, .int p2]) ++ List.replicate (4 - (lg_sl ([.ref h0, .int p1, .int p2])).length) Slot.unset).toArray = ls at hl ⊢
  have hl : lv_has ls 4 [(0, .ref h0), (1, .int p1), (2, .int p2)] := hl
  refine lv_aload_n hx hb dX12_reach_0 rfl (lv_at hl 0 rfl) ?_
  refine lv_iload_n hx hb dX12_reach_1 rfl (lv_at hl 1 rfl) ?_
  refine t_ci (va_runV (As := [.int p1]) (rest := []) ⟨hx, hb, hml, hown, hts⟩ (cy_X12_isPilgrim l D cA L T r hG hLA.1 σ ρ hB.2.1 _ h0 mh0 th0 p1) (cV hts mv_X12_isPilgrim mw_7_64 rfl rfl ⟨Nat.le_of_ble_eq_true rfl, Nat.le_of_ble_eq_true rfl⟩) (pV hB.1 hK hN mh0 th0 (show shp cA 12 _ _ _ = .inr (12, Fs12 _ _ _) from rfl) rfl) rfl rfl hl.1 rfl (lv_room (Nat.le_of_ble_eq_true rfl)) dX12_reach_2 ⟨Nat.le_of_ble_eq_true rfl, Nat.le_of_ble_eq_true rfl⟩) hLA hA hB hS (by decide) (fun x_3 σ_1 ρ_2 H locs hB fσ_1 pσ_1 hS => ?_)
  have qσ_1 := FR.nil fσ_1
  subst qσ_1
  obtain ⟨ox_3, ix_3⟩ := pσ_1
  refine lv_if_eq (tgt := 21) hx hb dX12_reach_5 (by decide) (fun c_4 => ?_) (fun c_4 => ?_)
  · skip
    have uc_4 := i_eq (n := 0) (by decide) c_4
    refine lv_bipush (v := (-2)) hx hb dX12_reach_21 (by decide) ?_
    exact W.iret (v := (-2)) hx hb hr (fun t ht hW => ⟨⟨(-2), (σ, ρ_2), rfl, ⟨hB.2.1, hB.2.2, trivial⟩, (show TP D cA L T r σ ρ_2 t.heap from by rw [ht]; exact hB.1)⟩, hS.F ht⟩) hS.2.2 dX12_reach_23
  · skip
    have uc_4 := i_ne (n := 0) (by decide) c_4
    refine lv_iload_n hx hb dX12_reach_8 rfl (lv_at hl 2 rfl) ?_
    refine lv_iconst (v := (-1)) hx hb dX12_reach_9 (by decide) ?_
    refine lv_icmp_eq (tgt := 24) hx hb dX12_reach_10 (by decide) (fun c_5 => ?_) (fun c_5 => ?_)
    · skip
      have uc_5 := i_eq (n := (-1)) (by decide) c_5
      refine lv_iconst (v := 0) hx hb dX12_reach_24 (by decide) ?_
      refine lv_istore_n (lv' := [(3, .int 0), (0, .ref h0), (1, .int p1), (2, .int p2)]) hx hb dX12_reach_25 rfl hl (by decide) rfl (fun ls hl => ?_)
      refine w_loop (α := Int32 × Sg × Lg) (fun (i_6, σ_7, ρ_8) H locs ls => 0 ≤ i_6.toInt ∧ i_6.toInt ≤ 5 ∧ TS D cA L T r ry [(73, 1000)] σ σ_7 ρ_8 H ∧ va_S (dm L s.heap.size) s.heap H locs ∧ lv_has ls 4 [(3, .int i_6), (0, .ref h0), (1, .int p1), (2, .int p2)]) (fun (i_6, σ_7, ρ_8) => (5 - i_6.toInt).toNat) ?_ ⟨0, σ, ρ_2⟩ ⟨(by decide), (by decide), hB, hS, lv_sub hl [0, 1, 2, 3] rfl⟩
      rintro ⟨i_6, σ_7, ρ_8⟩ H locs ls ⟨li_6, ui_6, hB, hS, hl⟩ ih_9
      refine lv_iload_n hx hb dX12_reach_26 rfl (lv_at hl 0 rfl) ?_
      refine lv_aload_n hx hb dX12_reach_27 rfl (lv_at hl 1 rfl) ?_
      refine t_gr hx hb hts hown hK hG hB mh0 th0 fq_12_20 rfl mw_5_236 dX12_reach_28 (fun b_10 hb_10 mb_10 tb_10 => ?_)
      refine lv_iconst (v := 1) hx hb dX12_reach_31 (by decide) ?_
      refine t_aj hx hb hK hB mb_10 tb_10 ai_70 (i_in (by decide) (by decide)) dX12_reach_32 (fun x_11 ex_11 lx_11 ux_11 => ?_)
      have lx_11 : 0 ≤ x_11.toInt := lx_11
      have ux_11 : x_11.toInt ≤ 5 := ux_11
      have cx_11 := congrArg Int32.toInt ex_11
      refine lv_icmp_ge (tgt := 54) hx hb dX12_reach_33 (by decide) (fun c_12 => ?_) (fun c_12 => ?_)
      · skip
        have uc_12 := j_le c_12
        refine lv_aload_n hx hb dX12_reach_54 rfl (lv_at hl 1 rfl) ?_
        refine lv_iload_n hx hb dX12_reach_55 rfl (lv_at hl 2 rfl) ?_
        refine lv_iconst (v := 0) hx hb dX12_reach_56 (by decide) ?_
        refine t_ci (va_runV (As := [.int p1, .int 0]) (rest := []) ⟨hx, hb, hml, hown, hts⟩ (cy_X12_pilgrimOf_0 l D cA L T r hG hLA.1 σ_7 ρ_8 hB.2.1 _ h0 mh0 th0 p1 (by first | omega | decide) (by first | omega | decide)) (cV hts mv_X12_pilgrimOf mw_7_69 rfl rfl ⟨Nat.le_of_ble_eq_true rfl, Nat.le_of_ble_eq_true rfl⟩) (pV hB.1 hK hN mh0 th0 (show shp cA 12 _ _ _ = .inr (12, Fs12 _ _ _) from rfl) rfl) rfl rfl hl.1 rfl (lv_room (Nat.le_of_ble_eq_true rfl)) dX12_reach_57 ⟨Nat.le_of_ble_eq_true rfl, Nat.le_of_ble_eq_true rfl⟩) hLA hA hB hS (by decide) (fun x_15 σ_13 ρ_14 H locs hB fσ_13 pσ_13 hS => ?_)
        have qσ_13 := FR.nil fσ_13
        subst qσ_13
        obtain ⟨lx_15, ux_15⟩ := pσ_13
        refine lv_istore_n (lv' := [(3, .int x_15), (0, .ref h0), (1, .int p1), (2, .int p2)]) hx hb dX12_reach_60 rfl hl (by decide) rfl (fun ls hl => ?_)
        refine w_loop (α := Int32 × Sg × Lg) (fun (i_16, σ_17, ρ_18) H locs ls => 0 ≤ i_16.toInt ∧ i_16.toInt ≤ 8 ∧ σ_17 b_10 1 = x_11 ∧ TS D cA L T r ry [(73, 1000)] σ σ_17 ρ_18 H ∧ va_S (dm L s.heap.size) s.heap H locs ∧ lv_has ls 4 [(3, .int i_16), (0, .ref h0), (1, .int p1), (2, .int p2)]) (fun (i_16, σ_17, ρ_18) => (8 - i_16.toInt).toNat) ?_ ⟨x_15, σ_7, ρ_14⟩ ⟨(by omega), (by omega), ex_11.symm, hB, hS, lv_sub hl [0, 1, 2, 3] rfl⟩
        rintro ⟨i_16, σ_17, ρ_18⟩ H locs ls ⟨li_16, ui_16, k_20, hB, hS, hl⟩ ih_19
        refine lv_iload_n hx hb dX12_reach_61 rfl (lv_at hl 0 rfl) ?_
        refine lv_aload_n hx hb dX12_reach_62 rfl (lv_at hl 1 rfl) ?_
        refine t_gk hx hb hts hown hK hB mh0 th0 fq_12_20 hb_10 mw_5_236 dX12_reach_63 ?_
        refine lv_iconst (v := 2) hx hb dX12_reach_66 (by decide) ?_
        refine t_aj hx hb hK hB mb_10 tb_10 ai_70 (i_in (by decide) (by decide)) dX12_reach_67 (fun x_21 ex_21 lx_21 ux_21 => ?_)
        have lx_21 : 0 ≤ x_21.toInt := lx_21
        have ux_21 : x_21.toInt ≤ 8 := ux_21
        have cx_21 := congrArg Int32.toInt ex_21
        refine lv_icmp_ge (tgt := 104) hx hb dX12_reach_68 (by decide) (fun c_22 => ?_) (fun c_22 => ?_)
        · skip
          have uc_22 := j_le c_22
          refine lv_iload_n hx hb dX12_reach_104 rfl (lv_at hl 3 rfl) ?_
          refine lv_iconst (v := (-1)) hx hb dX12_reach_105 (by decide) ?_
          refine lv_icmp_ne (tgt := 113) hx hb dX12_reach_106 (by decide) (fun c_23 => ?_) (fun c_23 => ?_)
          · skip
            have uc_23 := i_ne (n := (-1)) (by decide) c_23
            exfalso; omega
          · skip
            have uc_23 := i_eq (n := (-1)) (by decide) c_23
            refine lv_iload_n hx hb dX12_reach_109 rfl (lv_at hl 0 rfl) ?_
            refine lv_goto (tgt := 119) hx hb dX12_reach_110 (by decide) ?_
            exact W.iret (v := i_16) hx hb hr (fun t ht hW => ⟨⟨i_16, (σ_17, ρ_18), rfl, ⟨hB.2.1, hB.2.2, trivial⟩, (show TP D cA L T r σ_17 ρ_18 t.heap from by rw [ht]; exact hB.1)⟩, hS.F ht⟩) hS.2.2 dX12_reach_119
        · skip
          have uc_22 := j_nle c_22
          refine lv_aload_n hx hb dX12_reach_71 rfl (lv_at hl 1 rfl) ?_
          refine t_gr hx hb hts hown hK hG hB mh0 th0 fq_12_26 rfl mw_6_2 dX12_reach_72 (fun b_24 hb_24 mb_24 tb_24 => ?_)
          refine lv_aload_n hx hb dX12_reach_75 rfl (lv_at hl 1 rfl) ?_
          refine lv_iload_n hx hb dX12_reach_76 rfl (lv_at hl 0 rfl) ?_
          refine t_ci (va_runV (As := [.int i_16]) (rest := [.ref b_24]) ⟨hx, hb, hml, hown, hts⟩ (cy_X12_asksFor l D cA L T r hG hLA.1 σ_17 ρ_18 hB.2.1 _ h0 mh0 th0 i_16 (by first | omega | decide) (by first | omega | decide)) (cV hts mv_X12_asksFor mw_7_98 rfl rfl ⟨Nat.le_of_ble_eq_true rfl, Nat.le_of_ble_eq_true rfl⟩) (pV hB.1 hK hN mh0 th0 (show shp cA 12 _ _ _ = .inr (12, Fs12 _ _ _) from rfl) rfl) rfl rfl hl.1 rfl (lv_room (Nat.le_of_ble_eq_true rfl)) dX12_reach_77 ⟨Nat.le_of_ble_eq_true rfl, Nat.le_of_ble_eq_true rfl⟩) hLA hA hB hS (by decide) (fun x_27 σ_25 ρ_26 H locs hB fσ_25 pσ_25 hS => ?_)
          have qσ_25 := FR.nil fσ_25
          subst qσ_25
          obtain ⟨lx_27, ux_27⟩ := pσ_25
          refine t_ai hx hb hK hB mb_24 tb_24 ai_73 (fun _ => rfl) (i_in (by omega) (by omega)) dX12_reach_80 (fun x_28 ex_28 lx_28 ux_28 => ?_)
          have cx_28 := congrArg Int32.toInt ex_28
          refine lv_if_le (tgt := 104) hx hb dX12_reach_81 (by decide) (fun c_29 => ?_) (fun c_29 => ?_)
          · skip
            have uc_29 := i_le (n := 0) (by decide) c_29
            refine lv_iload_n hx hb dX12_reach_104 rfl (lv_at hl 3 rfl) ?_
            refine lv_iconst (v := (-1)) hx hb dX12_reach_105 (by decide) ?_
            refine lv_icmp_ne (tgt := 113) hx hb dX12_reach_106 (by decide) (fun c_30 => ?_) (fun c_30 => ?_)
            · skip
              have uc_30 := i_ne (n := (-1)) (by decide) c_30
              exfalso; omega
            · skip
              have uc_30 := i_eq (n := (-1)) (by decide) c_30
              refine lv_iload_n hx hb dX12_reach_109 rfl (lv_at hl 0 rfl) ?_
              refine lv_goto (tgt := 119) hx hb dX12_reach_110 (by decide) ?_
              exact W.iret (v := i_16) hx hb hr (fun t ht hW => ⟨⟨i_16, (σ_17, ρ_26), rfl, ⟨hB.2.1, hB.2.2, trivial⟩, (show TP D cA L T r σ_17 ρ_26 t.heap from by rw [ht]; exact hB.1)⟩, hS.F ht⟩) hS.2.2 dX12_reach_119
          · skip
            have uc_29 := i_nle (n := 0) (by decide) c_29
            refine lv_aload_n hx hb dX12_reach_84 rfl (lv_at hl 1 rfl) ?_
            refine t_gk hx hb hts hown hK hB mh0 th0 fq_12_26 hb_24 mw_6_2 dX12_reach_85 ?_
            refine lv_aload_n hx hb dX12_reach_88 rfl (lv_at hl 1 rfl) ?_
            refine lv_iload_n hx hb dX12_reach_89 rfl (lv_at hl 0 rfl) ?_
            refine t_ci (va_runV (As := [.int i_16]) (rest := [.ref b_24]) ⟨hx, hb, hml, hown, hts⟩ (cy_X12_asksFor l D cA L T r hG hLA.1 σ_17 ρ_26 hB.2.1 _ h0 mh0 th0 i_16 (by first | omega | decide) (by first | omega | decide)) (cV hts mv_X12_asksFor mw_7_98 rfl rfl ⟨Nat.le_of_ble_eq_true rfl, Nat.le_of_ble_eq_true rfl⟩) (pV hB.1 hK hN mh0 th0 (show shp cA 12 _ _ _ = .inr (12, Fs12 _ _ _) from rfl) rfl) rfl rfl hl.1 rfl (lv_room (Nat.le_of_ble_eq_true rfl)) dX12_reach_90 ⟨Nat.le_of_ble_eq_true rfl, Nat.le_of_ble_eq_true rfl⟩) hLA hA hB hS (by decide) (fun x_33 σ_31 ρ_32 H locs hB fσ_31 pσ_31 hS => ?_)
            have qσ_31 := FR.nil fσ_31
            subst qσ_31
            obtain ⟨lx_33, ux_33⟩ := pσ_31
            refine lv_dup2_11 hx hb dX12_reach_93 rfl rfl ?_
            refine t_ai hx hb hK hB mb_24 tb_24 ai_73 (fun _ => rfl) (i_in (by omega) (by omega)) dX12_reach_94 (fun x_34 ex_34 lx_34 ux_34 => ?_)
            have cx_34 := congrArg Int32.toInt ex_34
            refine lv_iconst (v := 1) hx hb dX12_reach_95 (by decide) ?_
            refine lv_isub hx hb dX12_reach_96 ?_
            refine lv_topi (fun x_35 ex_35 => ?_)
            try have vx_35 := b_sub (rfl : x_34.toInt = _) (by decide : (1 : Int32).toInt = 1) ex_35 (by omega) (by omega)
            refine t_si hx hb hK hLA hB hS mb_24 tb_24 ai_73 (i_in (by omega) (by omega)) (i_lo _) (i_hi _) (Or.inr (by decide)) dX12_reach_97 (fun H locs σ_36 eσ_36 hB hS => ?_)
            have k_37 : σ_36 b_24 x_33.toNatClampNeg = x_35 := by rw [eσ_36]; exact up2_same _ _ _ _
            obtain ⟨x_38, ex_38⟩ : ∃ y : Int32, y = i_16 + 1 := ⟨_, rfl⟩
            have vx_38 := b_add (rfl : i_16.toInt = _) (by decide : (1 : Int32).toInt = 1) ex_38 (by omega) (by omega)
            refine lv_iinc (v := x_38) (lv' := [(3, .int x_38), (0, .ref h0), (1, .int p1), (2, .int p2)]) hx hb dX12_reach_98 hl (k := 0) rfl (by rw [ex_38]; rfl) (by decide) rfl (fun ls hl => ?_)
            refine lv_goto (tgt := 61) hx hb dX12_reach_101 (by decide) ?_
            have k_39 : σ_36 b_10 1 = x_11 := by rw [eσ_36, up2_nea _ _ (tg_ne tb_10 tb_24 (by decide))]; exact k_20
            exact ih_19 ⟨x_38, σ_36, ρ_32⟩ _ _ _ ⟨(by omega), (by omega), k_39, hB, hS, lv_sub hl [0, 1, 2, 3] rfl⟩ (by show (8 - x_38.toInt).toNat < (8 - i_16.toInt).toNat; omega)
      · skip
        have uc_12 := j_nle c_12
        refine lv_aload_n hx hb dX12_reach_36 rfl (lv_at hl 1 rfl) ?_
        refine t_gr hx hb hts hown hK hG hB mh0 th0 fq_12_26 rfl mw_6_2 dX12_reach_37 (fun b_40 hb_40 mb_40 tb_40 => ?_)
        refine lv_iload_n hx hb dX12_reach_40 rfl (lv_at hl 0 rfl) ?_
        refine lv_aload_n hx hb dX12_reach_41 rfl (lv_at hl 1 rfl) ?_
        refine lv_iload_n hx hb dX12_reach_42 rfl (lv_at hl 2 rfl) ?_
        refine lv_iload_n hx hb dX12_reach_43 rfl (lv_at hl 0 rfl) ?_
        refine t_ci (va_runV (As := [.int p1, .int i_6]) (rest := [.int i_6, .ref b_40]) ⟨hx, hb, hml, hown, hts⟩ (cy_X12_hasOf l D cA L T r hG hLA.1 σ_7 ρ_8 hB.2.1 _ h0 mh0 th0 p1 i_6 (by first | omega | decide) (by first | omega | decide) (by first | omega | decide) (by first | omega | decide)) (cV hts mv_X12_hasOf mw_7_77 rfl rfl ⟨Nat.le_of_ble_eq_true rfl, Nat.le_of_ble_eq_true rfl⟩) (pV hB.1 hK hN mh0 th0 (show shp cA 12 _ _ _ = .inr (12, Fs12 _ _ _) from rfl) rfl) rfl rfl hl.1 rfl (lv_room (Nat.le_of_ble_eq_true rfl)) dX12_reach_44 ⟨Nat.le_of_ble_eq_true rfl, Nat.le_of_ble_eq_true rfl⟩) hLA hA hB hS (by decide) (fun x_43 σ_41 ρ_42 H locs hB fσ_41 pσ_41 hS => ?_)
        have qσ_41 := FR.nil fσ_41
        subst qσ_41
        refine t_si hx hb hK hLA hB hS mb_40 tb_40 ai_73 (i_in (by omega) (by omega)) (i_lo _) (i_hi _) (Or.inr (by decide)) dX12_reach_47 (fun H locs σ_44 eσ_44 hB hS => ?_)
        have k_45 : σ_44 b_40 i_6.toNatClampNeg = x_43 := by rw [eσ_44]; exact up2_same _ _ _ _
        obtain ⟨x_46, ex_46⟩ : ∃ y : Int32, y = i_6 + 1 := ⟨_, rfl⟩
        have vx_46 := b_add (rfl : i_6.toInt = _) (by decide : (1 : Int32).toInt = 1) ex_46 (by omega) (by omega)
        refine lv_iinc (v := x_46) (lv' := [(3, .int x_46), (0, .ref h0), (1, .int p1), (2, .int p2)]) hx hb dX12_reach_48 hl (k := 0) rfl (by rw [ex_46]; rfl) (by decide) rfl (fun ls hl => ?_)
        refine lv_goto (tgt := 26) hx hb dX12_reach_51 (by decide) ?_
        exact ih_9 ⟨x_46, σ_44, ρ_42⟩ _ _ _ ⟨(by omega), (by omega), hB, hS, lv_sub hl [0, 1, 2, 3] rfl⟩ (by show (5 - x_46.toInt).toNat < (5 - i_6.toInt).toNat; omega)
    · skip
      have uc_5 := i_ne (n := (-1)) (by decide) c_5
      refine lv_aload_n hx hb dX12_reach_13 rfl (lv_at hl 0 rfl) ?_
      refine lv_iload_n hx hb dX12_reach_14 rfl (lv_at hl 2 rfl) ?_
      refine t_ci (va_runV (As := [.int p2]) (rest := []) ⟨hx, hb, hml, hown, hts⟩ (cy_X12_isSort l D cA L T r hG hLA.1 σ ρ_2 hB.2.1 _ h0 mh0 th0 p2) (cV hts mv_X12_isSort mw_7_110 rfl rfl ⟨Nat.le_of_ble_eq_true rfl, Nat.le_of_ble_eq_true rfl⟩) (pV hB.1 hK hN mh0 th0 (show shp cA 12 _ _ _ = .inr (12, Fs12 _ _ _) from rfl) rfl) rfl rfl hl.1 rfl (lv_room (Nat.le_of_ble_eq_true rfl)) dX12_reach_15 ⟨Nat.le_of_ble_eq_true rfl, Nat.le_of_ble_eq_true rfl⟩) hLA hA hB hS (by decide) (fun x_49 σ_47 ρ_48 H locs hB fσ_47 pσ_47 hS => ?_)
      have qσ_47 := FR.nil fσ_47
      subst qσ_47
      obtain ⟨ox_49, ix_49⟩ := pσ_47
      refine lv_if_ne (tgt := 24) hx hb dX12_reach_18 (by decide) (fun c_50 => ?_) (fun c_50 => ?_)
      · skip
        have uc_50 := i_ne (n := 0) (by decide) c_50
        refine lv_iconst (v := 0) hx hb dX12_reach_24 (by decide) ?_
        refine lv_istore_n (lv' := [(3, .int 0), (0, .ref h0), (1, .int p1), (2, .int p2)]) hx hb dX12_reach_25 rfl hl (by decide) rfl (fun ls hl => ?_)
        refine w_loop (α := Int32 × Sg × Lg) (fun (i_51, σ_52, ρ_53) H locs ls => 0 ≤ i_51.toInt ∧ i_51.toInt ≤ 5 ∧ TS D cA L T r ry [(73, 1000)] σ σ_52 ρ_53 H ∧ va_S (dm L s.heap.size) s.heap H locs ∧ lv_has ls 4 [(3, .int i_51), (0, .ref h0), (1, .int p1), (2, .int p2)]) (fun (i_51, σ_52, ρ_53) => (5 - i_51.toInt).toNat) ?_ ⟨0, σ, ρ_48⟩ ⟨(by decide), (by decide), hB, hS, lv_sub hl [0, 1, 2, 3] rfl⟩
        rintro ⟨i_51, σ_52, ρ_53⟩ H locs ls ⟨li_51, ui_51, hB, hS, hl⟩ ih_54
        refine lv_iload_n hx hb dX12_reach_26 rfl (lv_at hl 0 rfl) ?_
        refine lv_aload_n hx hb dX12_reach_27 rfl (lv_at hl 1 rfl) ?_
        refine t_gr hx hb hts hown hK hG hB mh0 th0 fq_12_20 rfl mw_5_236 dX12_reach_28 (fun b_55 hb_55 mb_55 tb_55 => ?_)
        refine lv_iconst (v := 1) hx hb dX12_reach_31 (by decide) ?_
        refine t_aj hx hb hK hB mb_55 tb_55 ai_70 (i_in (by decide) (by decide)) dX12_reach_32 (fun x_56 ex_56 lx_56 ux_56 => ?_)
        have lx_56 : 0 ≤ x_56.toInt := lx_56
        have ux_56 : x_56.toInt ≤ 5 := ux_56
        have cx_56 := congrArg Int32.toInt ex_56
        refine lv_icmp_ge (tgt := 54) hx hb dX12_reach_33 (by decide) (fun c_57 => ?_) (fun c_57 => ?_)
        · skip
          have uc_57 := j_le c_57
          refine lv_aload_n hx hb dX12_reach_54 rfl (lv_at hl 1 rfl) ?_
          refine lv_iload_n hx hb dX12_reach_55 rfl (lv_at hl 2 rfl) ?_
          refine lv_iconst (v := 0) hx hb dX12_reach_56 (by decide) ?_
          refine t_ci (va_runV (As := [.int p1, .int 0]) (rest := []) ⟨hx, hb, hml, hown, hts⟩ (cy_X12_pilgrimOf_0 l D cA L T r hG hLA.1 σ_52 ρ_53 hB.2.1 _ h0 mh0 th0 p1 (by first | omega | decide) (by first | omega | decide)) (cV hts mv_X12_pilgrimOf mw_7_69 rfl rfl ⟨Nat.le_of_ble_eq_true rfl, Nat.le_of_ble_eq_true rfl⟩) (pV hB.1 hK hN mh0 th0 (show shp cA 12 _ _ _ = .inr (12, Fs12 _ _ _) from rfl) rfl) rfl rfl hl.1 rfl (lv_room (Nat.le_of_ble_eq_true rfl)) dX12_reach_57 ⟨Nat.le_of_ble_eq_true rfl, Nat.le_of_ble_eq_true rfl⟩) hLA hA hB hS (by decide) (fun x_60 σ_58 ρ_59 H locs hB fσ_58 pσ_58 hS => ?_)
          have qσ_58 := FR.nil fσ_58
          subst qσ_58
          obtain ⟨lx_60, ux_60⟩ := pσ_58
          refine lv_istore_n (lv' := [(3, .int x_60), (0, .ref h0), (1, .int p1), (2, .int p2)]) hx hb dX12_reach_60 rfl hl (by decide) rfl (fun ls hl => ?_)
          refine w_loop (α := Int32 × Sg × Lg) (fun (i_61, σ_62, ρ_63) H locs ls => 0 ≤ i_61.toInt ∧ i_61.toInt ≤ 8 ∧ σ_62 b_55 1 = x_56 ∧ TS D cA L T r ry [(73, 1000)] σ σ_62 ρ_63 H ∧ va_S (dm L s.heap.size) s.heap H locs ∧ lv_has ls 4 [(3, .int i_61), (0, .ref h0), (1, .int p1), (2, .int p2)]) (fun (i_61, σ_62, ρ_63) => (8 - i_61.toInt).toNat) ?_ ⟨x_60, σ_52, ρ_59⟩ ⟨(by omega), (by omega), ex_56.symm, hB, hS, lv_sub hl [0, 1, 2, 3] rfl⟩
          rintro ⟨i_61, σ_62, ρ_63⟩ H locs ls ⟨li_61, ui_61, k_65, hB, hS, hl⟩ ih_64
          refine lv_iload_n hx hb dX12_reach_61 rfl (lv_at hl 0 rfl) ?_
          refine lv_aload_n hx hb dX12_reach_62 rfl (lv_at hl 1 rfl) ?_
          refine t_gk hx hb hts hown hK hB mh0 th0 fq_12_20 hb_55 mw_5_236 dX12_reach_63 ?_
          refine lv_iconst (v := 2) hx hb dX12_reach_66 (by decide) ?_
          refine t_aj hx hb hK hB mb_55 tb_55 ai_70 (i_in (by decide) (by decide)) dX12_reach_67 (fun x_66 ex_66 lx_66 ux_66 => ?_)
          have lx_66 : 0 ≤ x_66.toInt := lx_66
          have ux_66 : x_66.toInt ≤ 8 := ux_66
          have cx_66 := congrArg Int32.toInt ex_66
          refine lv_icmp_ge (tgt := 104) hx hb dX12_reach_68 (by decide) (fun c_67 => ?_) (fun c_67 => ?_)
          · skip
            have uc_67 := j_le c_67
            refine lv_iload_n hx hb dX12_reach_104 rfl (lv_at hl 3 rfl) ?_
            refine lv_iconst (v := (-1)) hx hb dX12_reach_105 (by decide) ?_
            refine lv_icmp_ne (tgt := 113) hx hb dX12_reach_106 (by decide) (fun c_68 => ?_) (fun c_68 => ?_)
            · skip
              have uc_68 := i_ne (n := (-1)) (by decide) c_68
              refine lv_aload_n hx hb dX12_reach_113 rfl (lv_at hl 1 rfl) ?_
              refine t_gr hx hb hts hown hK hG hB mh0 th0 fq_12_26 rfl mw_6_2 dX12_reach_114 (fun b_69 hb_69 mb_69 tb_69 => ?_)
              refine lv_iload_n hx hb dX12_reach_117 rfl (lv_at hl 3 rfl) ?_
              refine t_ai hx hb hK hB mb_69 tb_69 ai_73 (fun _ => rfl) (i_in (by omega) (by omega)) dX12_reach_118 (fun x_70 ex_70 lx_70 ux_70 => ?_)
              have cx_70 := congrArg Int32.toInt ex_70
              exact W.iret (v := x_70) hx hb hr (fun t ht hW => ⟨⟨x_70, (σ_62, ρ_63), rfl, ⟨hB.2.1, hB.2.2, trivial⟩, (show TP D cA L T r σ_62 ρ_63 t.heap from by rw [ht]; exact hB.1)⟩, hS.F ht⟩) hS.2.2 dX12_reach_119
            · skip
              have uc_68 := i_eq (n := (-1)) (by decide) c_68
              refine lv_iload_n hx hb dX12_reach_109 rfl (lv_at hl 0 rfl) ?_
              refine lv_goto (tgt := 119) hx hb dX12_reach_110 (by decide) ?_
              exact W.iret (v := i_61) hx hb hr (fun t ht hW => ⟨⟨i_61, (σ_62, ρ_63), rfl, ⟨hB.2.1, hB.2.2, trivial⟩, (show TP D cA L T r σ_62 ρ_63 t.heap from by rw [ht]; exact hB.1)⟩, hS.F ht⟩) hS.2.2 dX12_reach_119
          · skip
            have uc_67 := j_nle c_67
            refine lv_aload_n hx hb dX12_reach_71 rfl (lv_at hl 1 rfl) ?_
            refine t_gr hx hb hts hown hK hG hB mh0 th0 fq_12_26 rfl mw_6_2 dX12_reach_72 (fun b_71 hb_71 mb_71 tb_71 => ?_)
            refine lv_aload_n hx hb dX12_reach_75 rfl (lv_at hl 1 rfl) ?_
            refine lv_iload_n hx hb dX12_reach_76 rfl (lv_at hl 0 rfl) ?_
            refine t_ci (va_runV (As := [.int i_61]) (rest := [.ref b_71]) ⟨hx, hb, hml, hown, hts⟩ (cy_X12_asksFor l D cA L T r hG hLA.1 σ_62 ρ_63 hB.2.1 _ h0 mh0 th0 i_61 (by first | omega | decide) (by first | omega | decide)) (cV hts mv_X12_asksFor mw_7_98 rfl rfl ⟨Nat.le_of_ble_eq_true rfl, Nat.le_of_ble_eq_true rfl⟩) (pV hB.1 hK hN mh0 th0 (show shp cA 12 _ _ _ = .inr (12, Fs12 _ _ _) from rfl) rfl) rfl rfl hl.1 rfl (lv_room (Nat.le_of_ble_eq_true rfl)) dX12_reach_77 ⟨Nat.le_of_ble_eq_true rfl, Nat.le_of_ble_eq_true rfl⟩) hLA hA hB hS (by decide) (fun x_74 σ_72 ρ_73 H locs hB fσ_72 pσ_72 hS => ?_)
            have qσ_72 := FR.nil fσ_72
            subst qσ_72
            obtain ⟨lx_74, ux_74⟩ := pσ_72
            refine t_ai hx hb hK hB mb_71 tb_71 ai_73 (fun _ => rfl) (i_in (by omega) (by omega)) dX12_reach_80 (fun x_75 ex_75 lx_75 ux_75 => ?_)
            have cx_75 := congrArg Int32.toInt ex_75
            refine lv_if_le (tgt := 104) hx hb dX12_reach_81 (by decide) (fun c_76 => ?_) (fun c_76 => ?_)
            · skip
              have uc_76 := i_le (n := 0) (by decide) c_76
              refine lv_iload_n hx hb dX12_reach_104 rfl (lv_at hl 3 rfl) ?_
              refine lv_iconst (v := (-1)) hx hb dX12_reach_105 (by decide) ?_
              refine lv_icmp_ne (tgt := 113) hx hb dX12_reach_106 (by decide) (fun c_77 => ?_) (fun c_77 => ?_)
              · skip
                have uc_77 := i_ne (n := (-1)) (by decide) c_77
                refine lv_aload_n hx hb dX12_reach_113 rfl (lv_at hl 1 rfl) ?_
                refine t_gk hx hb hts hown hK hB mh0 th0 fq_12_26 hb_71 mw_6_2 dX12_reach_114 ?_
                refine lv_iload_n hx hb dX12_reach_117 rfl (lv_at hl 3 rfl) ?_
                refine t_ai hx hb hK hB mb_71 tb_71 ai_73 (fun _ => rfl) (i_in (by omega) (by omega)) dX12_reach_118 (fun x_78 ex_78 lx_78 ux_78 => ?_)
                have cx_78 := congrArg Int32.toInt ex_78
                exact W.iret (v := x_78) hx hb hr (fun t ht hW => ⟨⟨x_78, (σ_62, ρ_73), rfl, ⟨hB.2.1, hB.2.2, trivial⟩, (show TP D cA L T r σ_62 ρ_73 t.heap from by rw [ht]; exact hB.1)⟩, hS.F ht⟩) hS.2.2 dX12_reach_119
              · skip
                have uc_77 := i_eq (n := (-1)) (by decide) c_77
                refine lv_iload_n hx hb dX12_reach_109 rfl (lv_at hl 0 rfl) ?_
                refine lv_goto (tgt := 119) hx hb dX12_reach_110 (by decide) ?_
                exact W.iret (v := i_61) hx hb hr (fun t ht hW => ⟨⟨i_61, (σ_62, ρ_73), rfl, ⟨hB.2.1, hB.2.2, trivial⟩, (show TP D cA L T r σ_62 ρ_73 t.heap from by rw [ht]; exact hB.1)⟩, hS.F ht⟩) hS.2.2 dX12_reach_119
            · skip
              have uc_76 := i_nle (n := 0) (by decide) c_76
              refine lv_aload_n hx hb dX12_reach_84 rfl (lv_at hl 1 rfl) ?_
              refine t_gk hx hb hts hown hK hB mh0 th0 fq_12_26 hb_71 mw_6_2 dX12_reach_85 ?_
              refine lv_aload_n hx hb dX12_reach_88 rfl (lv_at hl 1 rfl) ?_
              refine lv_iload_n hx hb dX12_reach_89 rfl (lv_at hl 0 rfl) ?_
              refine t_ci (va_runV (As := [.int i_61]) (rest := [.ref b_71]) ⟨hx, hb, hml, hown, hts⟩ (cy_X12_asksFor l D cA L T r hG hLA.1 σ_62 ρ_73 hB.2.1 _ h0 mh0 th0 i_61 (by first | omega | decide) (by first | omega | decide)) (cV hts mv_X12_asksFor mw_7_98 rfl rfl ⟨Nat.le_of_ble_eq_true rfl, Nat.le_of_ble_eq_true rfl⟩) (pV hB.1 hK hN mh0 th0 (show shp cA 12 _ _ _ = .inr (12, Fs12 _ _ _) from rfl) rfl) rfl rfl hl.1 rfl (lv_room (Nat.le_of_ble_eq_true rfl)) dX12_reach_90 ⟨Nat.le_of_ble_eq_true rfl, Nat.le_of_ble_eq_true rfl⟩) hLA hA hB hS (by decide) (fun x_81 σ_79 ρ_80 H locs hB fσ_79 pσ_79 hS => ?_)
              have qσ_79 := FR.nil fσ_79
              subst qσ_79
              obtain ⟨lx_81, ux_81⟩ := pσ_79
              refine lv_dup2_11 hx hb dX12_reach_93 rfl rfl ?_
              refine t_ai hx hb hK hB mb_71 tb_71 ai_73 (fun _ => rfl) (i_in (by omega) (by omega)) dX12_reach_94 (fun x_82 ex_82 lx_82 ux_82 => ?_)
              have cx_82 := congrArg Int32.toInt ex_82
              refine lv_iconst (v := 1) hx hb dX12_reach_95 (by decide) ?_
              refine lv_isub hx hb dX12_reach_96 ?_
              refine lv_topi (fun x_83 ex_83 => ?_)
              try have vx_83 := b_sub (rfl : x_82.toInt = _) (by decide : (1 : Int32).toInt = 1) ex_83 (by omega) (by omega)
              refine t_si hx hb hK hLA hB hS mb_71 tb_71 ai_73 (i_in (by omega) (by omega)) (i_lo _) (i_hi _) (Or.inr (by decide)) dX12_reach_97 (fun H locs σ_84 eσ_84 hB hS => ?_)
              have k_85 : σ_84 b_71 x_81.toNatClampNeg = x_83 := by rw [eσ_84]; exact up2_same _ _ _ _
              obtain ⟨x_86, ex_86⟩ : ∃ y : Int32, y = i_61 + 1 := ⟨_, rfl⟩
              have vx_86 := b_add (rfl : i_61.toInt = _) (by decide : (1 : Int32).toInt = 1) ex_86 (by omega) (by omega)
              refine lv_iinc (v := x_86) (lv' := [(3, .int x_86), (0, .ref h0), (1, .int p1), (2, .int p2)]) hx hb dX12_reach_98 hl (k := 0) rfl (by rw [ex_86]; rfl) (by decide) rfl (fun ls hl => ?_)
              refine lv_goto (tgt := 61) hx hb dX12_reach_101 (by decide) ?_
              have k_87 : σ_84 b_55 1 = x_56 := by rw [eσ_84, up2_nea _ _ (tg_ne tb_55 tb_71 (by decide))]; exact k_65
              exact ih_64 ⟨x_86, σ_84, ρ_80⟩ _ _ _ ⟨(by omega), (by omega), k_87, hB, hS, lv_sub hl [0, 1, 2, 3] rfl⟩ (by show (8 - x_86.toInt).toNat < (8 - i_61.toInt).toNat; omega)
        · skip
          have uc_57 := j_nle c_57
          refine lv_aload_n hx hb dX12_reach_36 rfl (lv_at hl 1 rfl) ?_
          refine t_gr hx hb hts hown hK hG hB mh0 th0 fq_12_26 rfl mw_6_2 dX12_reach_37 (fun b_88 hb_88 mb_88 tb_88 => ?_)
          refine lv_iload_n hx hb dX12_reach_40 rfl (lv_at hl 0 rfl) ?_
          refine lv_aload_n hx hb dX12_reach_41 rfl (lv_at hl 1 rfl) ?_
          refine lv_iload_n hx hb dX12_reach_42 rfl (lv_at hl 2 rfl) ?_
          refine lv_iload_n hx hb dX12_reach_43 rfl (lv_at hl 0 rfl) ?_
          refine t_ci (va_runV (As := [.int p1, .int i_51]) (rest := [.int i_51, .ref b_88]) ⟨hx, hb, hml, hown, hts⟩ (cy_X12_hasOf l D cA L T r hG hLA.1 σ_52 ρ_53 hB.2.1 _ h0 mh0 th0 p1 i_51 (by first | omega | decide) (by first | omega | decide) (by first | omega | decide) (by first | omega | decide)) (cV hts mv_X12_hasOf mw_7_77 rfl rfl ⟨Nat.le_of_ble_eq_true rfl, Nat.le_of_ble_eq_true rfl⟩) (pV hB.1 hK hN mh0 th0 (show shp cA 12 _ _ _ = .inr (12, Fs12 _ _ _) from rfl) rfl) rfl rfl hl.1 rfl (lv_room (Nat.le_of_ble_eq_true rfl)) dX12_reach_44 ⟨Nat.le_of_ble_eq_true rfl, Nat.le_of_ble_eq_true rfl⟩) hLA hA hB hS (by decide) (fun x_91 σ_89 ρ_90 H locs hB fσ_89 pσ_89 hS => ?_)
          have qσ_89 := FR.nil fσ_89
          subst qσ_89
          refine t_si hx hb hK hLA hB hS mb_88 tb_88 ai_73 (i_in (by omega) (by omega)) (i_lo _) (i_hi _) (Or.inr (by decide)) dX12_reach_47 (fun H locs σ_92 eσ_92 hB hS => ?_)
          have k_93 : σ_92 b_88 i_51.toNatClampNeg = x_91 := by rw [eσ_92]; exact up2_same _ _ _ _
          obtain ⟨x_94, ex_94⟩ : ∃ y : Int32, y = i_51 + 1 := ⟨_, rfl⟩
          have vx_94 := b_add (rfl : i_51.toInt = _) (by decide : (1 : Int32).toInt = 1) ex_94 (by omega) (by omega)
          refine lv_iinc (v := x_94) (lv' := [(3, .int x_94), (0, .ref h0), (1, .int p1), (2, .int p2)]) hx hb dX12_reach_48 hl (k := 0) rfl (by rw [ex_94]; rfl) (by decide) rfl (fun ls hl => ?_)
          refine lv_goto (tgt := 26) hx hb dX12_reach_51 (by decide) ?_
          exact ih_54 ⟨x_94, σ_92, ρ_90⟩ _ _ _ ⟨(by omega), (by omega), hB, hS, lv_sub hl [0, 1, 2, 3] rfl⟩ (by show (5 - x_94.toInt).toNat < (5 - i_51.toInt).toNat; omega)
      · skip
        have uc_50 := i_eq (n := 0) (by decide) c_50
        refine lv_bipush (v := (-2)) hx hb dX12_reach_21 (by decide) ?_
        exact W.iret (v := (-2)) hx hb hr (fun t ht hW => ⟨⟨(-2), (σ, ρ_48), rfl, ⟨hB.2.1, hB.2.2, trivial⟩, (show TP D cA L T r σ ρ_48 t.heap from by rw [ht]; exact hB.1)⟩, hS.F ht⟩) hS.2.2 dX12_reach_23
theorem mw_7_196 : (.instanceMethod yX12_priceOf : Cond) ∈ wsA := wsA_t (List.mem_append_right _ (List.mem_append_right _ (List.mem_append_right _ (List.mem_append_right _ (List.mem_append_right _ (List.mem_append_right _ (List.mem_append_left _ (List.mem_of_getElem? (l := tables_1_7) (i := 196) rfl)))))))) rfl
theorem mp_7_5 : (.selects RX12 yX12_priceOf yX12_priceOf : Cond) ∈ wsA := wsA_p (q := (yX12_priceOf, 44)) (List.mem_append_right _ (List.mem_append_right _ (List.mem_append_right _ (List.mem_append_right _ (List.mem_append_right _ (List.mem_append_right _ (List.mem_append_left _ (List.mem_of_getElem? (l := lw_privs_7) (i := 5) rfl))))))))
theorem mw_7_197 : (.code yX12_priceOf cX12_priceOf 2 (some .int) : Cond) ∈ wsA := wsA_t (List.mem_append_right _ (List.mem_append_right _ (List.mem_append_right _ (List.mem_append_right _ (List.mem_append_right _ (List.mem_append_right _ (List.mem_append_left _ (List.mem_of_getElem? (l := tables_1_7) (i := 197) rfl)))))))) rfl
theorem mw_7_194 : (.methodLink RX12 376 yX12_priceOf : Cond) ∈ wsA := wsA_t (List.mem_append_right _ (List.mem_append_right _ (List.mem_append_right _ (List.mem_append_right _ (List.mem_append_right _ (List.mem_append_right _ (List.mem_append_left _ (List.mem_of_getElem? (l := tables_1_7) (i := 194) rfl)))))))) rfl
theorem dX12_lacking_0 : decode cX12_lacking 0 = .ok (.iconst 0, 1) := by decide +kernel
theorem dX12_lacking_1 : decode cX12_lacking 1 = .ok (.istore_n 3, 1) := by decide +kernel
theorem dX12_lacking_2 : decode cX12_lacking 2 = .ok (.iconst 0, 1) := by decide +kernel
theorem dX12_lacking_3 : decode cX12_lacking 3 = .ok (.istore 4, 2) := by decide +kernel
theorem dX12_lacking_5 : decode cX12_lacking 5 = .ok (.iload 4, 2) := by decide +kernel
theorem dX12_lacking_7 : decode cX12_lacking 7 = .ok (.aload_n 0, 1) := by decide +kernel
theorem dX12_lacking_8 : decode cX12_lacking 8 = .ok (.getfield 39, 3) := by decide +kernel
theorem dX12_lacking_11 : decode cX12_lacking 11 = .ok (.iconst 1, 1) := by decide +kernel
theorem dX12_lacking_12 : decode cX12_lacking 12 = .ok (.iaload, 1) := by decide +kernel
theorem dX12_lacking_13 : decode cX12_lacking 13 = .ok (.if_icmp .ge 61, 3) := by decide +kernel
theorem dX12_lacking_16 : decode cX12_lacking 16 = .ok (.aload_n 0, 1) := by decide +kernel
theorem dX12_lacking_17 : decode cX12_lacking 17 = .ok (.getfield 52, 3) := by decide +kernel
theorem dX12_lacking_20 : decode cX12_lacking 20 = .ok (.iload 4, 2) := by decide +kernel
theorem dX12_lacking_22 : decode cX12_lacking 22 = .ok (.dup2, 1) := by decide +kernel
theorem dX12_lacking_23 : decode cX12_lacking 23 = .ok (.iaload, 1) := by decide +kernel
theorem dX12_lacking_24 : decode cX12_lacking 24 = .ok (.aload_n 0, 1) := by decide +kernel
theorem dX12_lacking_25 : decode cX12_lacking 25 = .ok (.iload_n 1, 1) := by decide +kernel
theorem dX12_lacking_26 : decode cX12_lacking 26 = .ok (.iload 4, 2) := by decide +kernel
theorem dX12_lacking_28 : decode cX12_lacking 28 = .ok (.invokevirtual 304, 3) := by decide +kernel
theorem dX12_lacking_31 : decode cX12_lacking 31 = .ok (.isub, 1) := by decide +kernel
theorem dX12_lacking_32 : decode cX12_lacking 32 = .ok (.iastore, 1) := by decide +kernel
theorem dX12_lacking_33 : decode cX12_lacking 33 = .ok (.aload_n 0, 1) := by decide +kernel
theorem dX12_lacking_34 : decode cX12_lacking 34 = .ok (.getfield 52, 3) := by decide +kernel
theorem dX12_lacking_37 : decode cX12_lacking 37 = .ok (.iload 4, 2) := by decide +kernel
theorem dX12_lacking_39 : decode cX12_lacking 39 = .ok (.iaload, 1) := by decide +kernel
theorem dX12_lacking_40 : decode cX12_lacking 40 = .ok (.ifCond .ge 11, 3) := by decide +kernel
theorem dX12_lacking_51 : decode cX12_lacking 51 = .ok (.iload_n 3, 1) := by decide +kernel
theorem dX12_lacking_52 : decode cX12_lacking 52 = .ok (.aload_n 0, 1) := by decide +kernel
theorem dX12_lacking_53 : decode cX12_lacking 53 = .ok (.getfield 52, 3) := by decide +kernel
theorem dX12_lacking_56 : decode cX12_lacking 56 = .ok (.iload 4, 2) := by decide +kernel
theorem dX12_lacking_58 : decode cX12_lacking 58 = .ok (.iaload, 1) := by decide +kernel
theorem dX12_lacking_59 : decode cX12_lacking 59 = .ok (.aload_n 0, 1) := by decide +kernel
theorem dX12_lacking_60 : decode cX12_lacking 60 = .ok (.iload 4, 2) := by decide +kernel
theorem dX12_lacking_62 : decode cX12_lacking 62 = .ok (.invokevirtual 376, 3) := by decide +kernel
theorem dX12_lacking_65 : decode cX12_lacking 65 = .ok (.imul, 1) := by decide +kernel
theorem dX12_lacking_66 : decode cX12_lacking 66 = .ok (.iadd, 1) := by decide +kernel
theorem dX12_lacking_67 : decode cX12_lacking 67 = .ok (.istore_n 3, 1) := by decide +kernel
theorem dX12_lacking_68 : decode cX12_lacking 68 = .ok (.iinc 4 1, 3) := by decide +kernel
theorem dX12_lacking_71 : decode cX12_lacking 71 = .ok (.goto (-66), 3) := by decide +kernel
theorem dX12_lacking_43 : decode cX12_lacking 43 = .ok (.aload_n 0, 1) := by decide +kernel
theorem dX12_lacking_44 : decode cX12_lacking 44 = .ok (.getfield 52, 3) := by decide +kernel
theorem dX12_lacking_47 : decode cX12_lacking 47 = .ok (.iload 4, 2) := by decide +kernel
theorem dX12_lacking_49 : decode cX12_lacking 49 = .ok (.iconst 0, 1) := by decide +kernel
theorem dX12_lacking_50 : decode cX12_lacking 50 = .ok (.iastore, 1) := by decide +kernel
theorem dX12_lacking_74 : decode cX12_lacking 74 = .ok (.iload_n 2, 1) := by decide +kernel
theorem dX12_lacking_75 : decode cX12_lacking 75 = .ok (.iconst (-1), 1) := by decide +kernel
theorem dX12_lacking_76 : decode cX12_lacking 76 = .ok (.if_icmp .ne 7, 3) := by decide +kernel
theorem dX12_lacking_83 : decode cX12_lacking 83 = .ok (.aload_n 0, 1) := by decide +kernel
theorem dX12_lacking_84 : decode cX12_lacking 84 = .ok (.getfield 52, 3) := by decide +kernel
theorem dX12_lacking_87 : decode cX12_lacking 87 = .ok (.iload_n 2, 1) := by decide +kernel
theorem dX12_lacking_88 : decode cX12_lacking 88 = .ok (.iaload, 1) := by decide +kernel
theorem dX12_lacking_89 : decode cX12_lacking 89 = .ok (.ireturn, 1) := by decide +kernel
theorem dX12_lacking_79 : decode cX12_lacking 79 = .ok (.iload_n 3, 1) := by decide +kernel
theorem dX12_lacking_80 : decode cX12_lacking 80 = .ok (.goto 9, 3) := by decide +kernel
theorem mv_X12_priceOf : MV RX12 yX12_priceOf cX12_priceOf 2 (some .int) 1 := ⟨mw_7_196, mp_7_5, mw_1_13, mw_7_197, ⟨rfl, by decide, by decide, by decide +kernel⟩⟩
set_option maxHeartbeats 4000000 in
set_option maxRecDepth 100000 in
theorem cy_X12_lacking (l : Launch) (D : va_G) (cA : Nat → ClassId) (L : List Nat) (T : Nat → Nat) (r : Rg) (hG : GR L T r) (hL : L.Nodup) (σ : Sg) (ρ : Lg) (hW : WT L ry T σ) (sz : Nat) (h0 : Nat) (mh0 : h0 ∈ L) (th0 : T h0 = 12) (p1 : Int32) (p2 : Int32) (w0 : 0 ≤ p1.toInt) (w1 : p1.toInt ≤ 3) (w2 : -1 ≤ p2.toInt) (w3 : p2.toInt ≤ 4) : Met l yX12_lacking (.code yX12_lacking cX12_lacking 5 (some .int) :: wsA) ({ frames := 1, cells := 0, slots := 0, locals := 22 }) (PR D cA L T r σ ρ sz [.ref h0, .int p1, .int p2]) (QI D cA L T r ry [(73, 1000)] σ sz (fun x σ1 => True)) 0 0 (dm L sz) := by
  refine Met.ofW (cc := cX12_lacking) (maxL := 5) (ret := (some .int)) (by decide) rfl ?_
  intro p e s m args below meth c s₁ B hml hv
  obtain ⟨rfl, hsz, hP, hK, hN⟩ := hv
  have hx := B.exec
  have hb := B.bytes
  have hr := B.returns
  have hts : ∀ w ∈ wsA, w.before _ s = true := fun w h => atoms_spec (ws := .code yX12_lacking cX12_lacking 5 (some .int) :: wsA) B.pre w (List.mem_cons_of_mem _ h)
  have hown : s.vm.findClass RX12 = some m.cls := findClass_of_methodNamed B.named
  subst hsz
  have hLA : LA (dm L s.heap.size) L := ⟨hL, fun a h => Or.inl h⟩
  have hA : ∀ q : Nat, s.heap.size ≤ q → dm L s.heap.size q := fun q h => Or.inr h
  have hS : va_S (dm L s.heap.size) s.heap s.heap [] := va_S.rf
  have hB : TS D cA L T r ry [(73, 1000)] σ σ ρ s.heap := ⟨hP, hW, FR.rf⟩
  have hl := lv_entry ([.ref h0, .int p1, .int p2]) (n := 5) (Nat.le_of_ble_eq_true rfl)
  rw [lg_entry_eq]
  generalize (lg_sl ([.ref h0, .int p1, .int p2]) ++ List.replicate (5 - (lg_sl ([.ref h0, .int p1, .int p2])).length) Slot.unset).toArray = ls at hl ⊢
  have hl : lv_has ls 5 [(0, .ref h0), (1, .int p1), (2, .int p2)] := hl
  refine lv_iconst (v := 0) hx hb dX12_lacking_0 (by decide) ?_
  refine lv_istore_n (lv' := [(3, .int 0), (0, .ref h0), (1, .int p1), (2, .int p2)]) hx hb dX12_lacking_1 rfl hl (by decide) rfl (fun ls hl => ?_)
  refine lv_iconst (v := 0) hx hb dX12_lacking_2 (by decide) ?_
  refine lv_istore (lv' := [(4, .int 0), (3, .int 0), (0, .ref h0), (1, .int p1), (2, .int p2)]) hx hb dX12_lacking_3 hl (by decide) rfl (fun ls hl => ?_)
  refine w_loop (α := Int32 × Int32 × Sg × Lg) (fun (i_1, i_2, σ_3, ρ_4) H locs ls => 0 ≤ i_2.toInt ∧ i_2.toInt ≤ 5 ∧ TS D cA L T r ry [(73, 1000)] σ σ_3 ρ_4 H ∧ va_S (dm L s.heap.size) s.heap H locs ∧ lv_has ls 5 [(4, .int i_2), (3, .int i_1), (0, .ref h0), (1, .int p1), (2, .int p2)]) (fun (i_1, i_2, σ_3, ρ_4) => (5 - i_2.toInt).toNat) ?_ ⟨0, 0, σ, ρ⟩ ⟨(by decide), (by decide), hB, hS, lv_sub hl [0, 1, 2, 3, 4] rfl⟩
  rintro ⟨i_1, i_2, σ_3, ρ_4⟩ H locs ls ⟨li_2, ui_2, hB, hS, hl⟩ ih_5
  refine lv_iload hx hb dX12_lacking_5 (lv_at hl 0 rfl) ?_
  refine lv_aload_n hx hb dX12_lacking_7 rfl (lv_at hl 2 rfl) ?_
  refine t_gr hx hb hts hown hK hG hB mh0 th0 fq_12_20 rfl mw_5_236 dX12_lacking_8 (fun b_6 hb_6 mb_6 tb_6 => ?_)
  refine lv_iconst (v := 1) hx hb dX12_lacking_11 (by decide) ?_
  refine t_aj hx hb hK hB mb_6 tb_6 ai_70 (i_in (by decide) (by decide)) dX12_lacking_12 (fun x_7 ex_7 lx_7 ux_7 => ?_)
  have lx_7 : 0 ≤ x_7.toInt := lx_7
  have ux_7 : x_7.toInt ≤ 5 := ux_7
  have cx_7 := congrArg Int32.toInt ex_7
  refine lv_icmp_ge (tgt := 74) hx hb dX12_lacking_13 (by decide) (fun c_8 => ?_) (fun c_8 => ?_)
  · skip
    have uc_8 := j_le c_8
    refine lv_iload_n hx hb dX12_lacking_74 rfl (lv_at hl 4 rfl) ?_
    refine lv_iconst (v := (-1)) hx hb dX12_lacking_75 (by decide) ?_
    refine lv_icmp_ne (tgt := 83) hx hb dX12_lacking_76 (by decide) (fun c_9 => ?_) (fun c_9 => ?_)
    · skip
      have uc_9 := i_ne (n := (-1)) (by decide) c_9
      refine lv_aload_n hx hb dX12_lacking_83 rfl (lv_at hl 2 rfl) ?_
      refine t_gr hx hb hts hown hK hG hB mh0 th0 fq_12_26 rfl mw_6_2 dX12_lacking_84 (fun b_10 hb_10 mb_10 tb_10 => ?_)
      refine lv_iload_n hx hb dX12_lacking_87 rfl (lv_at hl 4 rfl) ?_
      refine t_ai hx hb hK hB mb_10 tb_10 ai_73 (fun _ => rfl) (i_in (by omega) (by omega)) dX12_lacking_88 (fun x_11 ex_11 lx_11 ux_11 => ?_)
      have cx_11 := congrArg Int32.toInt ex_11
      exact W.iret (v := x_11) hx hb hr (fun t ht hW => ⟨⟨x_11, (σ_3, ρ_4), rfl, ⟨hB.2.1, hB.2.2, trivial⟩, (show TP D cA L T r σ_3 ρ_4 t.heap from by rw [ht]; exact hB.1)⟩, hS.F ht⟩) hS.2.2 dX12_lacking_89
    · skip
      have uc_9 := i_eq (n := (-1)) (by decide) c_9
      refine lv_iload_n hx hb dX12_lacking_79 rfl (lv_at hl 1 rfl) ?_
      refine lv_goto (tgt := 89) hx hb dX12_lacking_80 (by decide) ?_
      exact W.iret (v := i_1) hx hb hr (fun t ht hW => ⟨⟨i_1, (σ_3, ρ_4), rfl, ⟨hB.2.1, hB.2.2, trivial⟩, (show TP D cA L T r σ_3 ρ_4 t.heap from by rw [ht]; exact hB.1)⟩, hS.F ht⟩) hS.2.2 dX12_lacking_89
  · skip
    have uc_8 := j_nle c_8
    refine lv_aload_n hx hb dX12_lacking_16 rfl (lv_at hl 2 rfl) ?_
    refine t_gr hx hb hts hown hK hG hB mh0 th0 fq_12_26 rfl mw_6_2 dX12_lacking_17 (fun b_12 hb_12 mb_12 tb_12 => ?_)
    refine lv_iload hx hb dX12_lacking_20 (lv_at hl 0 rfl) ?_
    refine lv_dup2_11 hx hb dX12_lacking_22 rfl rfl ?_
    refine t_ai hx hb hK hB mb_12 tb_12 ai_73 (fun _ => rfl) (i_in (by omega) (by omega)) dX12_lacking_23 (fun x_13 ex_13 lx_13 ux_13 => ?_)
    have cx_13 := congrArg Int32.toInt ex_13
    refine lv_aload_n hx hb dX12_lacking_24 rfl (lv_at hl 2 rfl) ?_
    refine lv_iload_n hx hb dX12_lacking_25 rfl (lv_at hl 3 rfl) ?_
    refine lv_iload hx hb dX12_lacking_26 (lv_at hl 0 rfl) ?_
    refine t_ci (va_runV (As := [.int p1, .int i_2]) (rest := [.int x_13, .int i_2, .ref b_12]) ⟨hx, hb, hml, hown, hts⟩ (cy_X12_hasOf l D cA L T r hG hLA.1 σ_3 ρ_4 hB.2.1 _ h0 mh0 th0 p1 i_2 (by first | omega | decide) (by first | omega | decide) (by first | omega | decide) (by first | omega | decide)) (cV hts mv_X12_hasOf mw_7_77 rfl rfl ⟨Nat.le_of_ble_eq_true rfl, Nat.le_of_ble_eq_true rfl⟩) (pV hB.1 hK hN mh0 th0 (show shp cA 12 _ _ _ = .inr (12, Fs12 _ _ _) from rfl) rfl) rfl rfl hl.1 rfl (lv_room (Nat.le_of_ble_eq_true rfl)) dX12_lacking_28 ⟨Nat.le_of_ble_eq_true rfl, Nat.le_of_ble_eq_true rfl⟩) hLA hA hB hS (by decide) (fun x_16 σ_14 ρ_15 H locs hB fσ_14 pσ_14 hS => ?_)
    have qσ_14 := FR.nil fσ_14
    subst qσ_14
    refine lv_isub hx hb dX12_lacking_31 ?_
    refine lv_topi (fun x_17 ex_17 => ?_)
    try have vx_17 := b_sub (rfl : x_13.toInt = _) (rfl : x_16.toInt = _) ex_17 (by omega) (by omega)
    refine t_si hx hb hK hLA hB hS mb_12 tb_12 ai_73 (i_in (by omega) (by omega)) (i_lo _) (i_hi _) (Or.inr (by decide)) dX12_lacking_32 (fun H locs σ_18 eσ_18 hB hS => ?_)
    have k_19 : σ_18 b_12 i_2.toNatClampNeg = x_17 := by rw [eσ_18]; exact up2_same _ _ _ _
    refine lv_aload_n hx hb dX12_lacking_33 rfl (lv_at hl 2 rfl) ?_
    refine t_gk hx hb hts hown hK hB mh0 th0 fq_12_26 hb_12 mw_6_2 dX12_lacking_34 ?_
    refine lv_iload hx hb dX12_lacking_37 (lv_at hl 0 rfl) ?_
    refine t_ai hx hb hK hB mb_12 tb_12 ai_73 (fun _ => rfl) (i_in (by omega) (by omega)) dX12_lacking_39 (fun x_20 ex_20 lx_20 ux_20 => ?_)
    have qx_20 : x_20 = x_17 := ex_20.trans k_19
    have qx_20 := qx_20.symm
    subst qx_20
    refine lv_if_ge (tgt := 51) hx hb dX12_lacking_40 (by decide) (fun c_21 => ?_) (fun c_21 => ?_)
    · skip
      have uc_21 := i_ge (n := 0) (by decide) c_21
      refine lv_iload_n hx hb dX12_lacking_51 rfl (lv_at hl 1 rfl) ?_
      refine lv_aload_n hx hb dX12_lacking_52 rfl (lv_at hl 2 rfl) ?_
      refine t_gk hx hb hts hown hK hB mh0 th0 fq_12_26 hb_12 mw_6_2 dX12_lacking_53 ?_
      refine lv_iload hx hb dX12_lacking_56 (lv_at hl 0 rfl) ?_
      refine t_ai hx hb hK hB mb_12 tb_12 ai_73 (fun _ => rfl) (i_in (by omega) (by omega)) dX12_lacking_58 (fun x_22 ex_22 lx_22 ux_22 => ?_)
      have qx_22 : x_22 = x_17 := ex_22.trans k_19
      have qx_22 := qx_22.symm
      subst qx_22
      refine lv_aload_n hx hb dX12_lacking_59 rfl (lv_at hl 2 rfl) ?_
      refine lv_iload hx hb dX12_lacking_60 (lv_at hl 0 rfl) ?_
      refine t_ci (va_runV (As := [.int i_2]) (rest := [.int x_17, .int i_1]) ⟨hx, hb, hml, hown, hts⟩ (cy_X12_priceOf l D cA L T r hG hLA.1 σ_18 ρ_15 hB.2.1 _ h0 mh0 th0 i_2 (by first | omega | decide) (by first | omega | decide)) (cV hts mv_X12_priceOf mw_7_194 rfl rfl ⟨Nat.le_of_ble_eq_true rfl, Nat.le_of_ble_eq_true rfl⟩) (pV hB.1 hK hN mh0 th0 (show shp cA 12 _ _ _ = .inr (12, Fs12 _ _ _) from rfl) rfl) rfl rfl hl.1 rfl (lv_room (Nat.le_of_ble_eq_true rfl)) dX12_lacking_62 ⟨Nat.le_of_ble_eq_true rfl, Nat.le_of_ble_eq_true rfl⟩) hLA hA hB hS (by decide) (fun x_25 σ_23 ρ_24 H locs hB fσ_23 pσ_23 hS => ?_)
      have qσ_23 := FR.nil fσ_23
      subst qσ_23
      refine lv_imul hx hb dX12_lacking_65 ?_
      refine lv_topi (fun x_26 ex_26 => ?_)
      refine lv_iadd hx hb dX12_lacking_66 ?_
      refine lv_topi (fun x_27 ex_27 => ?_)
      try have vx_27 := b_add (rfl : i_1.toInt = _) (rfl : x_26.toInt = _) ex_27 (by omega) (by omega)
      refine lv_istore_n (lv' := [(3, .int x_27), (4, .int i_2), (0, .ref h0), (1, .int p1), (2, .int p2)]) hx hb dX12_lacking_67 rfl hl (by decide) rfl (fun ls hl => ?_)
      obtain ⟨x_28, ex_28⟩ : ∃ y : Int32, y = i_2 + 1 := ⟨_, rfl⟩
      have vx_28 := b_add (rfl : i_2.toInt = _) (by decide : (1 : Int32).toInt = 1) ex_28 (by omega) (by omega)
      refine lv_iinc (v := x_28) (lv' := [(4, .int x_28), (3, .int x_27), (0, .ref h0), (1, .int p1), (2, .int p2)]) hx hb dX12_lacking_68 hl (k := 1) rfl (by rw [ex_28]; rfl) (by decide) rfl (fun ls hl => ?_)
      refine lv_goto (tgt := 5) hx hb dX12_lacking_71 (by decide) ?_
      exact ih_5 ⟨x_27, x_28, σ_18, ρ_24⟩ _ _ _ ⟨(by omega), (by omega), hB, hS, lv_sub hl [0, 1, 2, 3, 4] rfl⟩ (by show (5 - x_28.toInt).toNat < (5 - i_2.toInt).toNat; omega)
    · skip
      have uc_21 := i_nge (n := 0) (by decide) c_21
      refine lv_aload_n hx hb dX12_lacking_43 rfl (lv_at hl 2 rfl) ?_
      refine t_gk hx hb hts hown hK hB mh0 th0 fq_12_26 hb_12 mw_6_2 dX12_lacking_44 ?_
      refine lv_iload hx hb dX12_lacking_47 (lv_at hl 0 rfl) ?_
      refine lv_iconst (v := 0) hx hb dX12_lacking_49 (by decide) ?_
      refine t_si hx hb hK hLA hB hS mb_12 tb_12 ai_73 (i_in (by omega) (by omega)) (i_lo _) (i_hi _) (Or.inr (by decide)) dX12_lacking_50 (fun H locs σ_29 eσ_29 hB hS => ?_)
      have k_30 : σ_29 b_12 i_2.toNatClampNeg = 0 := by rw [eσ_29]; exact up2_same _ _ _ _
      refine lv_iload_n hx hb dX12_lacking_51 rfl (lv_at hl 1 rfl) ?_
      refine lv_aload_n hx hb dX12_lacking_52 rfl (lv_at hl 2 rfl) ?_
      refine t_gk hx hb hts hown hK hB mh0 th0 fq_12_26 hb_12 mw_6_2 dX12_lacking_53 ?_
      refine lv_iload hx hb dX12_lacking_56 (lv_at hl 0 rfl) ?_
      refine t_ai hx hb hK hB mb_12 tb_12 ai_73 (fun _ => rfl) (i_in (by omega) (by omega)) dX12_lacking_58 (fun x_31 ex_31 lx_31 ux_31 => ?_)
      have qx_31 : x_31 = 0 := ex_31.trans k_30
      clear lx_31 ux_31
      subst qx_31
      refine lv_aload_n hx hb dX12_lacking_59 rfl (lv_at hl 2 rfl) ?_
      refine lv_iload hx hb dX12_lacking_60 (lv_at hl 0 rfl) ?_
      refine t_ci (va_runV (As := [.int i_2]) (rest := [.int 0, .int i_1]) ⟨hx, hb, hml, hown, hts⟩ (cy_X12_priceOf l D cA L T r hG hLA.1 σ_29 ρ_15 hB.2.1 _ h0 mh0 th0 i_2 (by first | omega | decide) (by first | omega | decide)) (cV hts mv_X12_priceOf mw_7_194 rfl rfl ⟨Nat.le_of_ble_eq_true rfl, Nat.le_of_ble_eq_true rfl⟩) (pV hB.1 hK hN mh0 th0 (show shp cA 12 _ _ _ = .inr (12, Fs12 _ _ _) from rfl) rfl) rfl rfl hl.1 rfl (lv_room (Nat.le_of_ble_eq_true rfl)) dX12_lacking_62 ⟨Nat.le_of_ble_eq_true rfl, Nat.le_of_ble_eq_true rfl⟩) hLA hA hB hS (by decide) (fun x_34 σ_32 ρ_33 H locs hB fσ_32 pσ_32 hS => ?_)
      have qσ_32 := FR.nil fσ_32
      subst qσ_32
      refine lv_imul hx hb dX12_lacking_65 ?_
      refine lv_topi (fun x_35 ex_35 => ?_)
      have vx_35 := b_mul (by decide : (0 : Int32).toInt = 0) (rfl : x_34.toInt = _) ex_35 (by omega) (by omega)
      refine lv_iadd hx hb dX12_lacking_66 ?_
      refine lv_topi (fun x_36 ex_36 => ?_)
      try have vx_36 := b_add (rfl : i_1.toInt = _) (rfl : x_35.toInt = _) ex_36 (by omega) (by omega)
      refine lv_istore_n (lv' := [(3, .int x_36), (4, .int i_2), (0, .ref h0), (1, .int p1), (2, .int p2)]) hx hb dX12_lacking_67 rfl hl (by decide) rfl (fun ls hl => ?_)
      obtain ⟨x_37, ex_37⟩ : ∃ y : Int32, y = i_2 + 1 := ⟨_, rfl⟩
      have vx_37 := b_add (rfl : i_2.toInt = _) (by decide : (1 : Int32).toInt = 1) ex_37 (by omega) (by omega)
      refine lv_iinc (v := x_37) (lv' := [(4, .int x_37), (3, .int x_36), (0, .ref h0), (1, .int p1), (2, .int p2)]) hx hb dX12_lacking_68 hl (k := 1) rfl (by rw [ex_37]; rfl) (by decide) rfl (fun ls hl => ?_)
      refine lv_goto (tgt := 5) hx hb dX12_lacking_71 (by decide) ?_
      exact ih_5 ⟨x_36, x_37, σ_29, ρ_33⟩ _ _ _ ⟨(by omega), (by omega), hB, hS, lv_sub hl [0, 1, 2, 3, 4] rfl⟩ (by show (5 - x_37.toInt).toNat < (5 - i_2.toInt).toNat; omega)
theorem mw_7_216 : (.instanceMethod yX12_lacking : Cond) ∈ wsA := wsA_t (List.mem_append_right _ (List.mem_append_right _ (List.mem_append_right _ (List.mem_append_right _ (List.mem_append_right _ (List.mem_append_right _ (List.mem_append_left _ (List.mem_of_getElem? (l := tables_1_7) (i := 216) rfl)))))))) rfl
theorem mp_7_6 : (.selects RX12 yX12_lacking yX12_lacking : Cond) ∈ wsA := wsA_p (q := (yX12_lacking, 44)) (List.mem_append_right _ (List.mem_append_right _ (List.mem_append_right _ (List.mem_append_right _ (List.mem_append_right _ (List.mem_append_right _ (List.mem_append_left _ (List.mem_of_getElem? (l := lw_privs_7) (i := 6) rfl))))))))
theorem mw_7_217 : (.code yX12_lacking cX12_lacking 5 (some .int) : Cond) ∈ wsA := wsA_t (List.mem_append_right _ (List.mem_append_right _ (List.mem_append_right _ (List.mem_append_right _ (List.mem_append_right _ (List.mem_append_right _ (List.mem_append_left _ (List.mem_of_getElem? (l := tables_1_7) (i := 217) rfl)))))))) rfl
theorem mw_7_214 : (.methodLink RX12 379 yX12_lacking : Cond) ∈ wsA := wsA_t (List.mem_append_right _ (List.mem_append_right _ (List.mem_append_right _ (List.mem_append_right _ (List.mem_append_right _ (List.mem_append_right _ (List.mem_append_left _ (List.mem_of_getElem? (l := tables_1_7) (i := 214) rfl)))))))) rfl
theorem dX12_lacks_0 : decode cX12_lacks 0 = .ok (.aload_n 0, 1) := by decide +kernel
theorem dX12_lacks_1 : decode cX12_lacks 1 = .ok (.iload_n 1, 1) := by decide +kernel
theorem dX12_lacks_2 : decode cX12_lacks 2 = .ok (.invokevirtual 319, 3) := by decide +kernel
theorem dX12_lacks_5 : decode cX12_lacks 5 = .ok (.ifCond .eq 16, 3) := by decide +kernel
theorem dX12_lacks_21 : decode cX12_lacks 21 = .ok (.bipush (-2), 2) := by decide +kernel
theorem dX12_lacks_23 : decode cX12_lacks 23 = .ok (.ireturn, 1) := by decide +kernel
theorem dX12_lacks_8 : decode cX12_lacks 8 = .ok (.iload_n 2, 1) := by decide +kernel
theorem dX12_lacks_9 : decode cX12_lacks 9 = .ok (.iconst (-1), 1) := by decide +kernel
theorem dX12_lacks_10 : decode cX12_lacks 10 = .ok (.if_icmp .eq 14, 3) := by decide +kernel
theorem dX12_lacks_24 : decode cX12_lacks 24 = .ok (.iconst 0, 1) := by decide +kernel
theorem dX12_lacks_25 : decode cX12_lacks 25 = .ok (.istore_n 3, 1) := by decide +kernel
theorem dX12_lacks_26 : decode cX12_lacks 26 = .ok (.iload_n 3, 1) := by decide +kernel
theorem dX12_lacks_27 : decode cX12_lacks 27 = .ok (.iconst 5, 1) := by decide +kernel
theorem dX12_lacks_28 : decode cX12_lacks 28 = .ok (.if_icmp .ge 16, 3) := by decide +kernel
theorem dX12_lacks_31 : decode cX12_lacks 31 = .ok (.aload_n 0, 1) := by decide +kernel
theorem dX12_lacks_32 : decode cX12_lacks 32 = .ok (.getfield 52, 3) := by decide +kernel
theorem dX12_lacks_35 : decode cX12_lacks 35 = .ok (.iload_n 3, 1) := by decide +kernel
theorem dX12_lacks_36 : decode cX12_lacks 36 = .ok (.iconst 0, 1) := by decide +kernel
theorem dX12_lacks_37 : decode cX12_lacks 37 = .ok (.iastore, 1) := by decide +kernel
theorem dX12_lacks_38 : decode cX12_lacks 38 = .ok (.iinc 3 1, 3) := by decide +kernel
theorem dX12_lacks_41 : decode cX12_lacks 41 = .ok (.goto (-15), 3) := by decide +kernel
theorem dX12_lacks_44 : decode cX12_lacks 44 = .ok (.aload_n 0, 1) := by decide +kernel
theorem dX12_lacks_45 : decode cX12_lacks 45 = .ok (.iload_n 1, 1) := by decide +kernel
theorem dX12_lacks_46 : decode cX12_lacks 46 = .ok (.iconst 0, 1) := by decide +kernel
theorem dX12_lacks_47 : decode cX12_lacks 47 = .ok (.invokevirtual 324, 3) := by decide +kernel
theorem dX12_lacks_50 : decode cX12_lacks 50 = .ok (.istore_n 3, 1) := by decide +kernel
theorem dX12_lacks_51 : decode cX12_lacks 51 = .ok (.iload_n 3, 1) := by decide +kernel
theorem dX12_lacks_52 : decode cX12_lacks 52 = .ok (.aload_n 0, 1) := by decide +kernel
theorem dX12_lacks_53 : decode cX12_lacks 53 = .ok (.getfield 39, 3) := by decide +kernel
theorem dX12_lacks_56 : decode cX12_lacks 56 = .ok (.iconst 2, 1) := by decide +kernel
theorem dX12_lacks_57 : decode cX12_lacks 57 = .ok (.iaload, 1) := by decide +kernel
theorem dX12_lacks_58 : decode cX12_lacks 58 = .ok (.if_icmp .ge 23, 3) := by decide +kernel
theorem dX12_lacks_61 : decode cX12_lacks 61 = .ok (.aload_n 0, 1) := by decide +kernel
theorem dX12_lacks_62 : decode cX12_lacks 62 = .ok (.getfield 52, 3) := by decide +kernel
theorem dX12_lacks_65 : decode cX12_lacks 65 = .ok (.aload_n 0, 1) := by decide +kernel
theorem dX12_lacks_66 : decode cX12_lacks 66 = .ok (.iload_n 3, 1) := by decide +kernel
theorem dX12_lacks_67 : decode cX12_lacks 67 = .ok (.invokevirtual 332, 3) := by decide +kernel
theorem dX12_lacks_70 : decode cX12_lacks 70 = .ok (.dup2, 1) := by decide +kernel
theorem dX12_lacks_71 : decode cX12_lacks 71 = .ok (.iaload, 1) := by decide +kernel
theorem dX12_lacks_72 : decode cX12_lacks 72 = .ok (.iconst 1, 1) := by decide +kernel
theorem dX12_lacks_73 : decode cX12_lacks 73 = .ok (.iadd, 1) := by decide +kernel
theorem dX12_lacks_74 : decode cX12_lacks 74 = .ok (.iastore, 1) := by decide +kernel
theorem dX12_lacks_75 : decode cX12_lacks 75 = .ok (.iinc 3 1, 3) := by decide +kernel
theorem dX12_lacks_78 : decode cX12_lacks 78 = .ok (.goto (-27), 3) := by decide +kernel
theorem dX12_lacks_81 : decode cX12_lacks 81 = .ok (.aload_n 0, 1) := by decide +kernel
theorem dX12_lacks_82 : decode cX12_lacks 82 = .ok (.iload_n 1, 1) := by decide +kernel
theorem dX12_lacks_83 : decode cX12_lacks 83 = .ok (.iload_n 2, 1) := by decide +kernel
theorem dX12_lacks_84 : decode cX12_lacks 84 = .ok (.invokevirtual 379, 3) := by decide +kernel
theorem dX12_lacks_87 : decode cX12_lacks 87 = .ok (.ireturn, 1) := by decide +kernel
theorem dX12_lacks_13 : decode cX12_lacks 13 = .ok (.aload_n 0, 1) := by decide +kernel
theorem dX12_lacks_14 : decode cX12_lacks 14 = .ok (.iload_n 2, 1) := by decide +kernel
theorem dX12_lacks_15 : decode cX12_lacks 15 = .ok (.invokevirtual 335, 3) := by decide +kernel
theorem dX12_lacks_18 : decode cX12_lacks 18 = .ok (.ifCond .ne 6, 3) := by decide +kernel
theorem mv_X12_lacking : MV RX12 yX12_lacking cX12_lacking 5 (some .int) 2 := ⟨mw_7_216, mp_7_6, mw_1_13, mw_7_217, ⟨rfl, by decide, by decide, by decide +kernel⟩⟩
set_option maxHeartbeats 4000000 in
set_option maxRecDepth 100000 in
theorem cy_X12_lacks (l : Launch) (D : va_G) (cA : Nat → ClassId) (L : List Nat) (T : Nat → Nat) (r : Rg) (hG : GR L T r) (hL : L.Nodup) (σ : Sg) (ρ : Lg) (hW : WT L ry T σ) (sz : Nat) (h0 : Nat) (mh0 : h0 ∈ L) (th0 : T h0 = 12) (p1 : Int32) (p2 : Int32) : Met l yX12_lacks (.code yX12_lacks cX12_lacks 4 (some .int) :: wsA) ({ frames := 2, cells := 0, slots := 0, locals := 46 }) (PR D cA L T r σ ρ sz [.ref h0, .int p1, .int p2]) (QI D cA L T r ry [(73, 1000)] σ sz (fun x σ1 => True)) 0 0 (dm L sz) := by
  refine Met.ofW (cc := cX12_lacks) (maxL := 4) (ret := (some .int)) (by decide) rfl ?_
  intro p e s m args below meth c s₁ B hml hv
  obtain ⟨rfl, hsz, hP, hK, hN⟩ := hv
  have hx := B.exec
  have hb := B.bytes
  have hr := B.returns
  have hts : ∀ w ∈ wsA, w.before _ s = true := fun w h => atoms_spec (ws := .code yX12_lacks cX12_lacks 4 (some .int) :: wsA) B.pre w (List.mem_cons_of_mem _ h)
  have hown : s.vm.findClass RX12 = some m.cls := findClass_of_methodNamed B.named
  subst hsz
  have hLA : LA (dm L s.heap.size) L := ⟨hL, fun a h => Or.inl h⟩
  have hA : ∀ q : Nat, s.heap.size ≤ q → dm L s.heap.size q := fun q h => Or.inr h
  have hS : va_S (dm L s.heap.size) s.heap s.heap [] := va_S.rf
  have hB : TS D cA L T r ry [(73, 1000)] σ σ ρ s.heap := ⟨hP, hW, FR.rf⟩
  have hl := lv_entry ([.ref h0, .int p1, .int p2]) (n := 4) (Nat.le_of_ble_eq_true rfl)
  rw [lg_entry_eq]
  generalize (lg_sl ([.ref h0, .int p1, .int p2]) ++ List.replicate (4 - (lg_sl ([.ref h0, .int p1, .int p2])).length) Slot.unset).toArray = ls at hl ⊢
  have hl : lv_has ls 4 [(0, .ref h0), (1, .int p1), (2, .int p2)] := hl
  refine lv_aload_n hx hb dX12_lacks_0 rfl (lv_at hl 0 rfl) ?_
  refine lv_iload_n hx hb dX12_lacks_1 rfl (lv_at hl 1 rfl) ?_
  refine t_ci (va_runV (As := [.int p1]) (rest := []) ⟨hx, hb, hml, hown, hts⟩ (cy_X12_isPilgrim l D cA L T r hG hLA.1 σ ρ hB.2.1 _ h0 mh0 th0 p1) (cV hts mv_X12_isPilgrim mw_7_64 rfl rfl ⟨Nat.le_of_ble_eq_true rfl, Nat.le_of_ble_eq_true rfl⟩) (pV hB.1 hK hN mh0 th0 (show shp cA 12 _ _ _ = .inr (12, Fs12 _ _ _) from rfl) rfl) rfl rfl hl.1 rfl (lv_room (Nat.le_of_ble_eq_true rfl)) dX12_lacks_2 ⟨Nat.le_of_ble_eq_true rfl, Nat.le_of_ble_eq_true rfl⟩) hLA hA hB hS (by decide) (fun x_3 σ_1 ρ_2 H locs hB fσ_1 pσ_1 hS => ?_)
  have qσ_1 := FR.nil fσ_1
  subst qσ_1
  obtain ⟨ox_3, ix_3⟩ := pσ_1
  refine lv_if_eq (tgt := 21) hx hb dX12_lacks_5 (by decide) (fun c_4 => ?_) (fun c_4 => ?_)
  · skip
    have uc_4 := i_eq (n := 0) (by decide) c_4
    refine lv_bipush (v := (-2)) hx hb dX12_lacks_21 (by decide) ?_
    exact W.iret (v := (-2)) hx hb hr (fun t ht hW => ⟨⟨(-2), (σ, ρ_2), rfl, ⟨hB.2.1, hB.2.2, trivial⟩, (show TP D cA L T r σ ρ_2 t.heap from by rw [ht]; exact hB.1)⟩, hS.F ht⟩) hS.2.2 dX12_lacks_23
  · skip
    have uc_4 := i_ne (n := 0) (by decide) c_4
    refine lv_iload_n hx hb dX12_lacks_8 rfl (lv_at hl 2 rfl) ?_
    refine lv_iconst (v := (-1)) hx hb dX12_lacks_9 (by decide) ?_
    refine lv_icmp_eq (tgt := 24) hx hb dX12_lacks_10 (by decide) (fun c_5 => ?_) (fun c_5 => ?_)
    · skip
      have uc_5 := i_eq (n := (-1)) (by decide) c_5
      refine lv_iconst (v := 0) hx hb dX12_lacks_24 (by decide) ?_
      refine lv_istore_n (lv' := [(3, .int 0), (0, .ref h0), (1, .int p1), (2, .int p2)]) hx hb dX12_lacks_25 rfl hl (by decide) rfl (fun ls hl => ?_)
      refine w_loop (α := Int32 × Sg × Lg) (fun (i_6, σ_7, ρ_8) H locs ls => 0 ≤ i_6.toInt ∧ i_6.toInt ≤ 5 ∧ TS D cA L T r ry [(73, 1000)] σ σ_7 ρ_8 H ∧ va_S (dm L s.heap.size) s.heap H locs ∧ lv_has ls 4 [(3, .int i_6), (0, .ref h0), (1, .int p1), (2, .int p2)]) (fun (i_6, σ_7, ρ_8) => (5 - i_6.toInt).toNat) ?_ ⟨0, σ, ρ_2⟩ ⟨(by decide), (by decide), hB, hS, lv_sub hl [0, 1, 2, 3] rfl⟩
      rintro ⟨i_6, σ_7, ρ_8⟩ H locs ls ⟨li_6, ui_6, hB, hS, hl⟩ ih_9
      refine lv_iload_n hx hb dX12_lacks_26 rfl (lv_at hl 0 rfl) ?_
      refine lv_iconst (v := 5) hx hb dX12_lacks_27 (by decide) ?_
      refine lv_icmp_ge (tgt := 44) hx hb dX12_lacks_28 (by decide) (fun c_10 => ?_) (fun c_10 => ?_)
      · skip
        have uc_10 := i_ge (n := 5) (by decide) c_10
        refine lv_aload_n hx hb dX12_lacks_44 rfl (lv_at hl 1 rfl) ?_
        refine lv_iload_n hx hb dX12_lacks_45 rfl (lv_at hl 2 rfl) ?_
        refine lv_iconst (v := 0) hx hb dX12_lacks_46 (by decide) ?_
        refine t_ci (va_runV (As := [.int p1, .int 0]) (rest := []) ⟨hx, hb, hml, hown, hts⟩ (cy_X12_pilgrimOf_0 l D cA L T r hG hLA.1 σ_7 ρ_8 hB.2.1 _ h0 mh0 th0 p1 (by first | omega | decide) (by first | omega | decide)) (cV hts mv_X12_pilgrimOf mw_7_69 rfl rfl ⟨Nat.le_of_ble_eq_true rfl, Nat.le_of_ble_eq_true rfl⟩) (pV hB.1 hK hN mh0 th0 (show shp cA 12 _ _ _ = .inr (12, Fs12 _ _ _) from rfl) rfl) rfl rfl hl.1 rfl (lv_room (Nat.le_of_ble_eq_true rfl)) dX12_lacks_47 ⟨Nat.le_of_ble_eq_true rfl, Nat.le_of_ble_eq_true rfl⟩) hLA hA hB hS (by decide) (fun x_13 σ_11 ρ_12 H locs hB fσ_11 pσ_11 hS => ?_)
        have qσ_11 := FR.nil fσ_11
        subst qσ_11
        obtain ⟨lx_13, ux_13⟩ := pσ_11
        refine lv_istore_n (lv' := [(3, .int x_13), (0, .ref h0), (1, .int p1), (2, .int p2)]) hx hb dX12_lacks_50 rfl hl (by decide) rfl (fun ls hl => ?_)
        refine w_loop (α := Int32 × Sg × Lg) (fun (i_14, σ_15, ρ_16) H locs ls => 0 ≤ i_14.toInt ∧ i_14.toInt ≤ 8 ∧ TS D cA L T r ry [(73, 1000)] σ σ_15 ρ_16 H ∧ va_S (dm L s.heap.size) s.heap H locs ∧ lv_has ls 4 [(3, .int i_14), (0, .ref h0), (1, .int p1), (2, .int p2)]) (fun (i_14, σ_15, ρ_16) => (8 - i_14.toInt).toNat) ?_ ⟨x_13, σ_7, ρ_12⟩ ⟨(by omega), (by omega), hB, hS, lv_sub hl [0, 1, 2, 3] rfl⟩
        rintro ⟨i_14, σ_15, ρ_16⟩ H locs ls ⟨li_14, ui_14, hB, hS, hl⟩ ih_17
        refine lv_iload_n hx hb dX12_lacks_51 rfl (lv_at hl 0 rfl) ?_
        refine lv_aload_n hx hb dX12_lacks_52 rfl (lv_at hl 1 rfl) ?_
        refine t_gr hx hb hts hown hK hG hB mh0 th0 fq_12_20 rfl mw_5_236 dX12_lacks_53 (fun b_18 hb_18 mb_18 tb_18 => ?_)
        refine lv_iconst (v := 2) hx hb dX12_lacks_56 (by decide) ?_
        refine t_aj hx hb hK hB mb_18 tb_18 ai_70 (i_in (by decide) (by decide)) dX12_lacks_57 (fun x_19 ex_19 lx_19 ux_19 => ?_)
        have lx_19 : 0 ≤ x_19.toInt := lx_19
        have ux_19 : x_19.toInt ≤ 8 := ux_19
        have cx_19 := congrArg Int32.toInt ex_19
        refine lv_icmp_ge (tgt := 81) hx hb dX12_lacks_58 (by decide) (fun c_20 => ?_) (fun c_20 => ?_)
        · skip
          have uc_20 := j_le c_20
          refine lv_aload_n hx hb dX12_lacks_81 rfl (lv_at hl 1 rfl) ?_
          refine lv_iload_n hx hb dX12_lacks_82 rfl (lv_at hl 2 rfl) ?_
          refine lv_iload_n hx hb dX12_lacks_83 rfl (lv_at hl 3 rfl) ?_
          refine t_ci (va_runV (As := [.int p1, .int p2]) (rest := []) ⟨hx, hb, hml, hown, hts⟩ (cy_X12_lacking l D cA L T r hG hLA.1 σ_15 ρ_16 hB.2.1 _ h0 mh0 th0 p1 p2 (by first | omega | decide) (by first | omega | decide) (by first | omega | decide) (by first | omega | decide)) (cV hts mv_X12_lacking mw_7_214 rfl rfl ⟨Nat.le_of_ble_eq_true rfl, Nat.le_of_ble_eq_true rfl⟩) (pV hB.1 hK hN mh0 th0 (show shp cA 12 _ _ _ = .inr (12, Fs12 _ _ _) from rfl) rfl) rfl rfl hl.1 rfl (lv_room (Nat.le_of_ble_eq_true rfl)) dX12_lacks_84 ⟨Nat.le_of_ble_eq_true rfl, Nat.le_of_ble_eq_true rfl⟩) hLA hA hB hS (by decide) (fun x_23 σ_21 ρ_22 H locs hB fσ_21 pσ_21 hS => ?_)
          exact W.iret (v := x_23) hx hb hr (fun t ht hW => ⟨⟨x_23, (σ_21, ρ_22), rfl, ⟨hB.2.1, hB.2.2, trivial⟩, (show TP D cA L T r σ_21 ρ_22 t.heap from by rw [ht]; exact hB.1)⟩, hS.F ht⟩) hS.2.2 dX12_lacks_87
        · skip
          have uc_20 := j_nle c_20
          refine lv_aload_n hx hb dX12_lacks_61 rfl (lv_at hl 1 rfl) ?_
          refine t_gr hx hb hts hown hK hG hB mh0 th0 fq_12_26 rfl mw_6_2 dX12_lacks_62 (fun b_24 hb_24 mb_24 tb_24 => ?_)
          refine lv_aload_n hx hb dX12_lacks_65 rfl (lv_at hl 1 rfl) ?_
          refine lv_iload_n hx hb dX12_lacks_66 rfl (lv_at hl 0 rfl) ?_
          refine t_ci (va_runV (As := [.int i_14]) (rest := [.ref b_24]) ⟨hx, hb, hml, hown, hts⟩ (cy_X12_asksFor l D cA L T r hG hLA.1 σ_15 ρ_16 hB.2.1 _ h0 mh0 th0 i_14 (by first | omega | decide) (by first | omega | decide)) (cV hts mv_X12_asksFor mw_7_98 rfl rfl ⟨Nat.le_of_ble_eq_true rfl, Nat.le_of_ble_eq_true rfl⟩) (pV hB.1 hK hN mh0 th0 (show shp cA 12 _ _ _ = .inr (12, Fs12 _ _ _) from rfl) rfl) rfl rfl hl.1 rfl (lv_room (Nat.le_of_ble_eq_true rfl)) dX12_lacks_67 ⟨Nat.le_of_ble_eq_true rfl, Nat.le_of_ble_eq_true rfl⟩) hLA hA hB hS (by decide) (fun x_27 σ_25 ρ_26 H locs hB fσ_25 pσ_25 hS => ?_)
          have qσ_25 := FR.nil fσ_25
          subst qσ_25
          obtain ⟨lx_27, ux_27⟩ := pσ_25
          refine lv_dup2_11 hx hb dX12_lacks_70 rfl rfl ?_
          refine t_ai hx hb hK hB mb_24 tb_24 ai_73 (fun _ => rfl) (i_in (by omega) (by omega)) dX12_lacks_71 (fun x_28 ex_28 lx_28 ux_28 => ?_)
          have cx_28 := congrArg Int32.toInt ex_28
          refine lv_iconst (v := 1) hx hb dX12_lacks_72 (by decide) ?_
          refine lv_iadd hx hb dX12_lacks_73 ?_
          refine lv_topi (fun x_29 ex_29 => ?_)
          try have vx_29 := b_add (rfl : x_28.toInt = _) (by decide : (1 : Int32).toInt = 1) ex_29 (by omega) (by omega)
          refine t_si hx hb hK hLA hB hS mb_24 tb_24 ai_73 (i_in (by omega) (by omega)) (i_lo _) (i_hi _) (Or.inr (by decide)) dX12_lacks_74 (fun H locs σ_30 eσ_30 hB hS => ?_)
          have k_31 : σ_30 b_24 x_27.toNatClampNeg = x_29 := by rw [eσ_30]; exact up2_same _ _ _ _
          obtain ⟨x_32, ex_32⟩ : ∃ y : Int32, y = i_14 + 1 := ⟨_, rfl⟩
          have vx_32 := b_add (rfl : i_14.toInt = _) (by decide : (1 : Int32).toInt = 1) ex_32 (by omega) (by omega)
          refine lv_iinc (v := x_32) (lv' := [(3, .int x_32), (0, .ref h0), (1, .int p1), (2, .int p2)]) hx hb dX12_lacks_75 hl (k := 0) rfl (by rw [ex_32]; rfl) (by decide) rfl (fun ls hl => ?_)
          refine lv_goto (tgt := 51) hx hb dX12_lacks_78 (by decide) ?_
          exact ih_17 ⟨x_32, σ_30, ρ_26⟩ _ _ _ ⟨(by omega), (by omega), hB, hS, lv_sub hl [0, 1, 2, 3] rfl⟩ (by show (8 - x_32.toInt).toNat < (8 - i_14.toInt).toNat; omega)
      · skip
        have uc_10 := i_nge (n := 5) (by decide) c_10
        refine lv_aload_n hx hb dX12_lacks_31 rfl (lv_at hl 1 rfl) ?_
        refine t_gr hx hb hts hown hK hG hB mh0 th0 fq_12_26 rfl mw_6_2 dX12_lacks_32 (fun b_33 hb_33 mb_33 tb_33 => ?_)
        refine lv_iload_n hx hb dX12_lacks_35 rfl (lv_at hl 0 rfl) ?_
        refine lv_iconst (v := 0) hx hb dX12_lacks_36 (by decide) ?_
        refine t_si hx hb hK hLA hB hS mb_33 tb_33 ai_73 (i_in (by omega) (by omega)) (i_lo _) (i_hi _) (Or.inr (by decide)) dX12_lacks_37 (fun H locs σ_34 eσ_34 hB hS => ?_)
        have k_35 : σ_34 b_33 i_6.toNatClampNeg = 0 := by rw [eσ_34]; exact up2_same _ _ _ _
        obtain ⟨x_36, ex_36⟩ : ∃ y : Int32, y = i_6 + 1 := ⟨_, rfl⟩
        have vx_36 := b_add (rfl : i_6.toInt = _) (by decide : (1 : Int32).toInt = 1) ex_36 (by omega) (by omega)
        refine lv_iinc (v := x_36) (lv' := [(3, .int x_36), (0, .ref h0), (1, .int p1), (2, .int p2)]) hx hb dX12_lacks_38 hl (k := 0) rfl (by rw [ex_36]; rfl) (by decide) rfl (fun ls hl => ?_)
        refine lv_goto (tgt := 26) hx hb dX12_lacks_41 (by decide) ?_
        exact ih_9 ⟨x_36, σ_34, ρ_8⟩ _ _ _ ⟨(by omega), (by omega), hB, hS, lv_sub hl [0, 1, 2, 3] rfl⟩ (by show (5 - x_36.toInt).toNat < (5 - i_6.toInt).toNat; omega)
    · skip
      have uc_5 := i_ne (n := (-1)) (by decide) c_5
      refine lv_aload_n hx hb dX12_lacks_13 rfl (lv_at hl 0 rfl) ?_
      refine lv_iload_n hx hb dX12_lacks_14 rfl (lv_at hl 2 rfl) ?_
      refine t_ci (va_runV (As := [.int p2]) (rest := []) ⟨hx, hb, hml, hown, hts⟩ (cy_X12_isSort l D cA L T r hG hLA.1 σ ρ_2 hB.2.1 _ h0 mh0 th0 p2) (cV hts mv_X12_isSort mw_7_110 rfl rfl ⟨Nat.le_of_ble_eq_true rfl, Nat.le_of_ble_eq_true rfl⟩) (pV hB.1 hK hN mh0 th0 (show shp cA 12 _ _ _ = .inr (12, Fs12 _ _ _) from rfl) rfl) rfl rfl hl.1 rfl (lv_room (Nat.le_of_ble_eq_true rfl)) dX12_lacks_15 ⟨Nat.le_of_ble_eq_true rfl, Nat.le_of_ble_eq_true rfl⟩) hLA hA hB hS (by decide) (fun x_39 σ_37 ρ_38 H locs hB fσ_37 pσ_37 hS => ?_)
      have qσ_37 := FR.nil fσ_37
      subst qσ_37
      obtain ⟨ox_39, ix_39⟩ := pσ_37
      refine lv_if_ne (tgt := 24) hx hb dX12_lacks_18 (by decide) (fun c_40 => ?_) (fun c_40 => ?_)
      · skip
        have uc_40 := i_ne (n := 0) (by decide) c_40
        refine lv_iconst (v := 0) hx hb dX12_lacks_24 (by decide) ?_
        refine lv_istore_n (lv' := [(3, .int 0), (0, .ref h0), (1, .int p1), (2, .int p2)]) hx hb dX12_lacks_25 rfl hl (by decide) rfl (fun ls hl => ?_)
        refine w_loop (α := Int32 × Sg × Lg) (fun (i_41, σ_42, ρ_43) H locs ls => 0 ≤ i_41.toInt ∧ i_41.toInt ≤ 5 ∧ TS D cA L T r ry [(73, 1000)] σ σ_42 ρ_43 H ∧ va_S (dm L s.heap.size) s.heap H locs ∧ lv_has ls 4 [(3, .int i_41), (0, .ref h0), (1, .int p1), (2, .int p2)]) (fun (i_41, σ_42, ρ_43) => (5 - i_41.toInt).toNat) ?_ ⟨0, σ, ρ_38⟩ ⟨(by decide), (by decide), hB, hS, lv_sub hl [0, 1, 2, 3] rfl⟩
        rintro ⟨i_41, σ_42, ρ_43⟩ H locs ls ⟨li_41, ui_41, hB, hS, hl⟩ ih_44
        refine lv_iload_n hx hb dX12_lacks_26 rfl (lv_at hl 0 rfl) ?_
        refine lv_iconst (v := 5) hx hb dX12_lacks_27 (by decide) ?_
        refine lv_icmp_ge (tgt := 44) hx hb dX12_lacks_28 (by decide) (fun c_45 => ?_) (fun c_45 => ?_)
        · skip
          have uc_45 := i_ge (n := 5) (by decide) c_45
          refine lv_aload_n hx hb dX12_lacks_44 rfl (lv_at hl 1 rfl) ?_
          refine lv_iload_n hx hb dX12_lacks_45 rfl (lv_at hl 2 rfl) ?_
          refine lv_iconst (v := 0) hx hb dX12_lacks_46 (by decide) ?_
          refine t_ci (va_runV (As := [.int p1, .int 0]) (rest := []) ⟨hx, hb, hml, hown, hts⟩ (cy_X12_pilgrimOf_0 l D cA L T r hG hLA.1 σ_42 ρ_43 hB.2.1 _ h0 mh0 th0 p1 (by first | omega | decide) (by first | omega | decide)) (cV hts mv_X12_pilgrimOf mw_7_69 rfl rfl ⟨Nat.le_of_ble_eq_true rfl, Nat.le_of_ble_eq_true rfl⟩) (pV hB.1 hK hN mh0 th0 (show shp cA 12 _ _ _ = .inr (12, Fs12 _ _ _) from rfl) rfl) rfl rfl hl.1 rfl (lv_room (Nat.le_of_ble_eq_true rfl)) dX12_lacks_47 ⟨Nat.le_of_ble_eq_true rfl, Nat.le_of_ble_eq_true rfl⟩) hLA hA hB hS (by decide) (fun x_48 σ_46 ρ_47 H locs hB fσ_46 pσ_46 hS => ?_)
          have qσ_46 := FR.nil fσ_46
          subst qσ_46
          obtain ⟨lx_48, ux_48⟩ := pσ_46
          refine lv_istore_n (lv' := [(3, .int x_48), (0, .ref h0), (1, .int p1), (2, .int p2)]) hx hb dX12_lacks_50 rfl hl (by decide) rfl (fun ls hl => ?_)
          refine w_loop (α := Int32 × Sg × Lg) (fun (i_49, σ_50, ρ_51) H locs ls => 0 ≤ i_49.toInt ∧ i_49.toInt ≤ 8 ∧ TS D cA L T r ry [(73, 1000)] σ σ_50 ρ_51 H ∧ va_S (dm L s.heap.size) s.heap H locs ∧ lv_has ls 4 [(3, .int i_49), (0, .ref h0), (1, .int p1), (2, .int p2)]) (fun (i_49, σ_50, ρ_51) => (8 - i_49.toInt).toNat) ?_ ⟨x_48, σ_42, ρ_47⟩ ⟨(by omega), (by omega), hB, hS, lv_sub hl [0, 1, 2, 3] rfl⟩
          rintro ⟨i_49, σ_50, ρ_51⟩ H locs ls ⟨li_49, ui_49, hB, hS, hl⟩ ih_52
          refine lv_iload_n hx hb dX12_lacks_51 rfl (lv_at hl 0 rfl) ?_
          refine lv_aload_n hx hb dX12_lacks_52 rfl (lv_at hl 1 rfl) ?_
          refine t_gr hx hb hts hown hK hG hB mh0 th0 fq_12_20 rfl mw_5_236 dX12_lacks_53 (fun b_53 hb_53 mb_53 tb_53 => ?_)
          refine lv_iconst (v := 2) hx hb dX12_lacks_56 (by decide) ?_
          refine t_aj hx hb hK hB mb_53 tb_53 ai_70 (i_in (by decide) (by decide)) dX12_lacks_57 (fun x_54 ex_54 lx_54 ux_54 => ?_)
          have lx_54 : 0 ≤ x_54.toInt := lx_54
          have ux_54 : x_54.toInt ≤ 8 := ux_54
          have cx_54 := congrArg Int32.toInt ex_54
          refine lv_icmp_ge (tgt := 81) hx hb dX12_lacks_58 (by decide) (fun c_55 => ?_) (fun c_55 => ?_)
          · skip
            have uc_55 := j_le c_55
            refine lv_aload_n hx hb dX12_lacks_81 rfl (lv_at hl 1 rfl) ?_
            refine lv_iload_n hx hb dX12_lacks_82 rfl (lv_at hl 2 rfl) ?_
            refine lv_iload_n hx hb dX12_lacks_83 rfl (lv_at hl 3 rfl) ?_
            refine t_ci (va_runV (As := [.int p1, .int p2]) (rest := []) ⟨hx, hb, hml, hown, hts⟩ (cy_X12_lacking l D cA L T r hG hLA.1 σ_50 ρ_51 hB.2.1 _ h0 mh0 th0 p1 p2 (by first | omega | decide) (by first | omega | decide) (by first | omega | decide) (by first | omega | decide)) (cV hts mv_X12_lacking mw_7_214 rfl rfl ⟨Nat.le_of_ble_eq_true rfl, Nat.le_of_ble_eq_true rfl⟩) (pV hB.1 hK hN mh0 th0 (show shp cA 12 _ _ _ = .inr (12, Fs12 _ _ _) from rfl) rfl) rfl rfl hl.1 rfl (lv_room (Nat.le_of_ble_eq_true rfl)) dX12_lacks_84 ⟨Nat.le_of_ble_eq_true rfl, Nat.le_of_ble_eq_true rfl⟩) hLA hA hB hS (by decide) (fun x_58 σ_56 ρ_57 H locs hB fσ_56 pσ_56 hS => ?_)
            exact W.iret (v := x_58) hx hb hr (fun t ht hW => ⟨⟨x_58, (σ_56, ρ_57), rfl, ⟨hB.2.1, hB.2.2, trivial⟩, (show TP D cA L T r σ_56 ρ_57 t.heap from by rw [ht]; exact hB.1)⟩, hS.F ht⟩) hS.2.2 dX12_lacks_87
          · skip
            have uc_55 := j_nle c_55
            refine lv_aload_n hx hb dX12_lacks_61 rfl (lv_at hl 1 rfl) ?_
            refine t_gr hx hb hts hown hK hG hB mh0 th0 fq_12_26 rfl mw_6_2 dX12_lacks_62 (fun b_59 hb_59 mb_59 tb_59 => ?_)
            refine lv_aload_n hx hb dX12_lacks_65 rfl (lv_at hl 1 rfl) ?_
            refine lv_iload_n hx hb dX12_lacks_66 rfl (lv_at hl 0 rfl) ?_
            refine t_ci (va_runV (As := [.int i_49]) (rest := [.ref b_59]) ⟨hx, hb, hml, hown, hts⟩ (cy_X12_asksFor l D cA L T r hG hLA.1 σ_50 ρ_51 hB.2.1 _ h0 mh0 th0 i_49 (by first | omega | decide) (by first | omega | decide)) (cV hts mv_X12_asksFor mw_7_98 rfl rfl ⟨Nat.le_of_ble_eq_true rfl, Nat.le_of_ble_eq_true rfl⟩) (pV hB.1 hK hN mh0 th0 (show shp cA 12 _ _ _ = .inr (12, Fs12 _ _ _) from rfl) rfl) rfl rfl hl.1 rfl (lv_room (Nat.le_of_ble_eq_true rfl)) dX12_lacks_67 ⟨Nat.le_of_ble_eq_true rfl, Nat.le_of_ble_eq_true rfl⟩) hLA hA hB hS (by decide) (fun x_62 σ_60 ρ_61 H locs hB fσ_60 pσ_60 hS => ?_)
            have qσ_60 := FR.nil fσ_60
            subst qσ_60
            obtain ⟨lx_62, ux_62⟩ := pσ_60
            refine lv_dup2_11 hx hb dX12_lacks_70 rfl rfl ?_
            refine t_ai hx hb hK hB mb_59 tb_59 ai_73 (fun _ => rfl) (i_in (by omega) (by omega)) dX12_lacks_71 (fun x_63 ex_63 lx_63 ux_63 => ?_)
            have cx_63 := congrArg Int32.toInt ex_63
            refine lv_iconst (v := 1) hx hb dX12_lacks_72 (by decide) ?_
            refine lv_iadd hx hb dX12_lacks_73 ?_
            refine lv_topi (fun x_64 ex_64 => ?_)
            try have vx_64 := b_add (rfl : x_63.toInt = _) (by decide : (1 : Int32).toInt = 1) ex_64 (by omega) (by omega)
            refine t_si hx hb hK hLA hB hS mb_59 tb_59 ai_73 (i_in (by omega) (by omega)) (i_lo _) (i_hi _) (Or.inr (by decide)) dX12_lacks_74 (fun H locs σ_65 eσ_65 hB hS => ?_)
            have k_66 : σ_65 b_59 x_62.toNatClampNeg = x_64 := by rw [eσ_65]; exact up2_same _ _ _ _
            obtain ⟨x_67, ex_67⟩ : ∃ y : Int32, y = i_49 + 1 := ⟨_, rfl⟩
            have vx_67 := b_add (rfl : i_49.toInt = _) (by decide : (1 : Int32).toInt = 1) ex_67 (by omega) (by omega)
            refine lv_iinc (v := x_67) (lv' := [(3, .int x_67), (0, .ref h0), (1, .int p1), (2, .int p2)]) hx hb dX12_lacks_75 hl (k := 0) rfl (by rw [ex_67]; rfl) (by decide) rfl (fun ls hl => ?_)
            refine lv_goto (tgt := 51) hx hb dX12_lacks_78 (by decide) ?_
            exact ih_52 ⟨x_67, σ_65, ρ_61⟩ _ _ _ ⟨(by omega), (by omega), hB, hS, lv_sub hl [0, 1, 2, 3] rfl⟩ (by show (8 - x_67.toInt).toNat < (8 - i_49.toInt).toNat; omega)
        · skip
          have uc_45 := i_nge (n := 5) (by decide) c_45
          refine lv_aload_n hx hb dX12_lacks_31 rfl (lv_at hl 1 rfl) ?_
          refine t_gr hx hb hts hown hK hG hB mh0 th0 fq_12_26 rfl mw_6_2 dX12_lacks_32 (fun b_68 hb_68 mb_68 tb_68 => ?_)
          refine lv_iload_n hx hb dX12_lacks_35 rfl (lv_at hl 0 rfl) ?_
          refine lv_iconst (v := 0) hx hb dX12_lacks_36 (by decide) ?_
          refine t_si hx hb hK hLA hB hS mb_68 tb_68 ai_73 (i_in (by omega) (by omega)) (i_lo _) (i_hi _) (Or.inr (by decide)) dX12_lacks_37 (fun H locs σ_69 eσ_69 hB hS => ?_)
          have k_70 : σ_69 b_68 i_41.toNatClampNeg = 0 := by rw [eσ_69]; exact up2_same _ _ _ _
          obtain ⟨x_71, ex_71⟩ : ∃ y : Int32, y = i_41 + 1 := ⟨_, rfl⟩
          have vx_71 := b_add (rfl : i_41.toInt = _) (by decide : (1 : Int32).toInt = 1) ex_71 (by omega) (by omega)
          refine lv_iinc (v := x_71) (lv' := [(3, .int x_71), (0, .ref h0), (1, .int p1), (2, .int p2)]) hx hb dX12_lacks_38 hl (k := 0) rfl (by rw [ex_71]; rfl) (by decide) rfl (fun ls hl => ?_)
          refine lv_goto (tgt := 26) hx hb dX12_lacks_41 (by decide) ?_
          exact ih_44 ⟨x_71, σ_69, ρ_43⟩ _ _ _ ⟨(by omega), (by omega), hB, hS, lv_sub hl [0, 1, 2, 3] rfl⟩ (by show (5 - x_71.toInt).toNat < (5 - i_41.toInt).toNat; omega)
      · skip
        have uc_40 := i_eq (n := 0) (by decide) c_40
        refine lv_bipush (v := (-2)) hx hb dX12_lacks_21 (by decide) ?_
        exact W.iret (v := (-2)) hx hb hr (fun t ht hW => ⟨⟨(-2), (σ, ρ_38), rfl, ⟨hB.2.1, hB.2.2, trivial⟩, (show TP D cA L T r σ ρ_38 t.heap from by rw [ht]; exact hB.1)⟩, hS.F ht⟩) hS.2.2 dX12_lacks_23
theorem dX12_sure_0 : decode cX12_sure 0 = .ok (.aload_n 0, 1) := by decide +kernel
theorem dX12_sure_1 : decode cX12_sure 1 = .ok (.iload_n 1, 1) := by decide +kernel
theorem dX12_sure_2 : decode cX12_sure 2 = .ok (.invokevirtual 319, 3) := by decide +kernel
theorem dX12_sure_5 : decode cX12_sure 5 = .ok (.ifCond .eq 16, 3) := by decide +kernel
theorem dX12_sure_21 : decode cX12_sure 21 = .ok (.bipush (-2), 2) := by decide +kernel
theorem dX12_sure_23 : decode cX12_sure 23 = .ok (.ireturn, 1) := by decide +kernel
theorem dX12_sure_8 : decode cX12_sure 8 = .ok (.iload_n 2, 1) := by decide +kernel
theorem dX12_sure_9 : decode cX12_sure 9 = .ok (.iconst (-1), 1) := by decide +kernel
theorem dX12_sure_10 : decode cX12_sure 10 = .ok (.if_icmp .eq 14, 3) := by decide +kernel
theorem dX12_sure_24 : decode cX12_sure 24 = .ok (.iconst 0, 1) := by decide +kernel
theorem dX12_sure_25 : decode cX12_sure 25 = .ok (.istore_n 3, 1) := by decide +kernel
theorem dX12_sure_26 : decode cX12_sure 26 = .ok (.iload_n 3, 1) := by decide +kernel
theorem dX12_sure_27 : decode cX12_sure 27 = .ok (.iconst 5, 1) := by decide +kernel
theorem dX12_sure_28 : decode cX12_sure 28 = .ok (.if_icmp .ge 77, 3) := by decide +kernel
theorem dX12_sure_31 : decode cX12_sure 31 = .ok (.aload_n 0, 1) := by decide +kernel
theorem dX12_sure_32 : decode cX12_sure 32 = .ok (.getfield 52, 3) := by decide +kernel
theorem dX12_sure_35 : decode cX12_sure 35 = .ok (.iload_n 3, 1) := by decide +kernel
theorem dX12_sure_36 : decode cX12_sure 36 = .ok (.iconst 0, 1) := by decide +kernel
theorem dX12_sure_37 : decode cX12_sure 37 = .ok (.iastore, 1) := by decide +kernel
theorem dX12_sure_38 : decode cX12_sure 38 = .ok (.aload_n 0, 1) := by decide +kernel
theorem dX12_sure_39 : decode cX12_sure 39 = .ok (.iload_n 1, 1) := by decide +kernel
theorem dX12_sure_40 : decode cX12_sure 40 = .ok (.iconst 0, 1) := by decide +kernel
theorem dX12_sure_41 : decode cX12_sure 41 = .ok (.invokevirtual 324, 3) := by decide +kernel
theorem dX12_sure_44 : decode cX12_sure 44 = .ok (.istore 4, 2) := by decide +kernel
theorem dX12_sure_46 : decode cX12_sure 46 = .ok (.iload 4, 2) := by decide +kernel
theorem dX12_sure_48 : decode cX12_sure 48 = .ok (.aload_n 0, 1) := by decide +kernel
theorem dX12_sure_49 : decode cX12_sure 49 = .ok (.getfield 39, 3) := by decide +kernel
theorem dX12_sure_52 : decode cX12_sure 52 = .ok (.iconst 2, 1) := by decide +kernel
theorem dX12_sure_53 : decode cX12_sure 53 = .ok (.iaload, 1) := by decide +kernel
theorem dX12_sure_54 : decode cX12_sure 54 = .ok (.if_icmp .ge 45, 3) := by decide +kernel
theorem dX12_sure_57 : decode cX12_sure 57 = .ok (.aload_n 0, 1) := by decide +kernel
theorem dX12_sure_58 : decode cX12_sure 58 = .ok (.getfield 52, 3) := by decide +kernel
theorem dX12_sure_61 : decode cX12_sure 61 = .ok (.iload_n 3, 1) := by decide +kernel
theorem dX12_sure_62 : decode cX12_sure 62 = .ok (.dup2, 1) := by decide +kernel
theorem dX12_sure_63 : decode cX12_sure 63 = .ok (.iaload, 1) := by decide +kernel
theorem dX12_sure_64 : decode cX12_sure 64 = .ok (.aload_n 0, 1) := by decide +kernel
theorem dX12_sure_65 : decode cX12_sure 65 = .ok (.iload 4, 2) := by decide +kernel
theorem dX12_sure_67 : decode cX12_sure 67 = .ok (.iconst 0, 1) := by decide +kernel
theorem dX12_sure_68 : decode cX12_sure 68 = .ok (.invokevirtual 300, 3) := by decide +kernel
theorem dX12_sure_71 : decode cX12_sure 71 = .ok (.iload_n 3, 1) := by decide +kernel
theorem dX12_sure_72 : decode cX12_sure 72 = .ok (.if_icmp .eq 14, 3) := by decide +kernel
theorem dX12_sure_86 : decode cX12_sure 86 = .ok (.iconst 1, 1) := by decide +kernel
theorem dX12_sure_87 : decode cX12_sure 87 = .ok (.goto 4, 3) := by decide +kernel
theorem dX12_sure_91 : decode cX12_sure 91 = .ok (.iadd, 1) := by decide +kernel
theorem dX12_sure_92 : decode cX12_sure 92 = .ok (.iastore, 1) := by decide +kernel
theorem dX12_sure_93 : decode cX12_sure 93 = .ok (.iinc 4 1, 3) := by decide +kernel
theorem dX12_sure_96 : decode cX12_sure 96 = .ok (.goto (-50), 3) := by decide +kernel
theorem dX12_sure_75 : decode cX12_sure 75 = .ok (.aload_n 0, 1) := by decide +kernel
theorem dX12_sure_76 : decode cX12_sure 76 = .ok (.iload 4, 2) := by decide +kernel
theorem dX12_sure_78 : decode cX12_sure 78 = .ok (.iconst 1, 1) := by decide +kernel
theorem dX12_sure_79 : decode cX12_sure 79 = .ok (.invokevirtual 300, 3) := by decide +kernel
theorem dX12_sure_82 : decode cX12_sure 82 = .ok (.iload_n 3, 1) := by decide +kernel
theorem dX12_sure_83 : decode cX12_sure 83 = .ok (.if_icmp .ne 7, 3) := by decide +kernel
theorem dX12_sure_90 : decode cX12_sure 90 = .ok (.iconst 0, 1) := by decide +kernel
theorem dX12_sure_99 : decode cX12_sure 99 = .ok (.iinc 3 1, 3) := by decide +kernel
theorem dX12_sure_102 : decode cX12_sure 102 = .ok (.goto (-76), 3) := by decide +kernel
theorem dX12_sure_105 : decode cX12_sure 105 = .ok (.aload_n 0, 1) := by decide +kernel
theorem dX12_sure_106 : decode cX12_sure 106 = .ok (.iload_n 1, 1) := by decide +kernel
theorem dX12_sure_107 : decode cX12_sure 107 = .ok (.iload_n 2, 1) := by decide +kernel
theorem dX12_sure_108 : decode cX12_sure 108 = .ok (.invokevirtual 379, 3) := by decide +kernel
theorem dX12_sure_111 : decode cX12_sure 111 = .ok (.ireturn, 1) := by decide +kernel
theorem dX12_sure_13 : decode cX12_sure 13 = .ok (.aload_n 0, 1) := by decide +kernel
theorem dX12_sure_14 : decode cX12_sure 14 = .ok (.iload_n 2, 1) := by decide +kernel
theorem dX12_sure_15 : decode cX12_sure 15 = .ok (.invokevirtual 335, 3) := by decide +kernel
theorem dX12_sure_18 : decode cX12_sure 18 = .ok (.ifCond .ne 6, 3) := by decide +kernel
set_option maxHeartbeats 4000000 in
set_option maxRecDepth 100000 in
theorem cy_X12_sure (l : Launch) (D : va_G) (cA : Nat → ClassId) (L : List Nat) (T : Nat → Nat) (r : Rg) (hG : GR L T r) (hL : L.Nodup) (σ : Sg) (ρ : Lg) (hW : WT L ry T σ) (sz : Nat) (h0 : Nat) (mh0 : h0 ∈ L) (th0 : T h0 = 12) (p1 : Int32) (p2 : Int32) : Met l yX12_sure (.code yX12_sure cX12_sure 5 (some .int) :: wsA) ({ frames := 2, cells := 0, slots := 0, locals := 46 }) (PR D cA L T r σ ρ sz [.ref h0, .int p1, .int p2]) (QI D cA L T r ry [(73, 1000)] σ sz (fun x σ1 => True)) 0 0 (dm L sz) := by
  refine Met.ofW (cc := cX12_sure) (maxL := 5) (ret := (some .int)) (by decide) rfl ?_
  intro p e s m args below meth c s₁ B hml hv
  obtain ⟨rfl, hsz, hP, hK, hN⟩ := hv
  have hx := B.exec
  have hb := B.bytes
  have hr := B.returns
  have hts : ∀ w ∈ wsA, w.before _ s = true := fun w h => atoms_spec (ws := .code yX12_sure cX12_sure 5 (some .int) :: wsA) B.pre w (List.mem_cons_of_mem _ h)
  have hown : s.vm.findClass RX12 = some m.cls := findClass_of_methodNamed B.named
  subst hsz
  have hLA : LA (dm L s.heap.size) L := ⟨hL, fun a h => Or.inl h⟩
  have hA : ∀ q : Nat, s.heap.size ≤ q → dm L s.heap.size q := fun q h => Or.inr h
  have hS : va_S (dm L s.heap.size) s.heap s.heap [] := va_S.rf
  have hB : TS D cA L T r ry [(73, 1000)] σ σ ρ s.heap := ⟨hP, hW, FR.rf⟩
  have hl := lv_entry ([.ref h0, .int p1, .int p2]) (n := 5) (Nat.le_of_ble_eq_true rfl)
  rw [lg_entry_eq]
  generalize (lg_sl ([.ref h0, .int p1, .int p2]) ++ List.replicate (5 - (lg_sl ([.ref h0, .int p1, .int p2])).length) Slot.unset).toArray = ls at hl ⊢
  have hl : lv_has ls 5 [(0, .ref h0), (1, .int p1), (2, .int p2)] := hl
  refine lv_aload_n hx hb dX12_sure_0 rfl (lv_at hl 0 rfl) ?_
  refine lv_iload_n hx hb dX12_sure_1 rfl (lv_at hl 1 rfl) ?_
  refine t_ci (va_runV (As := [.int p1]) (rest := []) ⟨hx, hb, hml, hown, hts⟩ (cy_X12_isPilgrim l D cA L T r hG hLA.1 σ ρ hB.2.1 _ h0 mh0 th0 p1) (cV hts mv_X12_isPilgrim mw_7_64 rfl rfl ⟨Nat.le_of_ble_eq_true rfl, Nat.le_of_ble_eq_true rfl⟩) (pV hB.1 hK hN mh0 th0 (show shp cA 12 _ _ _ = .inr (12, Fs12 _ _ _) from rfl) rfl) rfl rfl hl.1 rfl (lv_room (Nat.le_of_ble_eq_true rfl)) dX12_sure_2 ⟨Nat.le_of_ble_eq_true rfl, Nat.le_of_ble_eq_true rfl⟩) hLA hA hB hS (by decide) (fun x_3 σ_1 ρ_2 H locs hB fσ_1 pσ_1 hS => ?_)
  have qσ_1 := FR.nil fσ_1
  subst qσ_1
  obtain ⟨ox_3, ix_3⟩ := pσ_1
  refine lv_if_eq (tgt := 21) hx hb dX12_sure_5 (by decide) (fun c_4 => ?_) (fun c_4 => ?_)
  · skip
    have uc_4 := i_eq (n := 0) (by decide) c_4
    refine lv_bipush (v := (-2)) hx hb dX12_sure_21 (by decide) ?_
    exact W.iret (v := (-2)) hx hb hr (fun t ht hW => ⟨⟨(-2), (σ, ρ_2), rfl, ⟨hB.2.1, hB.2.2, trivial⟩, (show TP D cA L T r σ ρ_2 t.heap from by rw [ht]; exact hB.1)⟩, hS.F ht⟩) hS.2.2 dX12_sure_23
  · skip
    have uc_4 := i_ne (n := 0) (by decide) c_4
    refine lv_iload_n hx hb dX12_sure_8 rfl (lv_at hl 2 rfl) ?_
    refine lv_iconst (v := (-1)) hx hb dX12_sure_9 (by decide) ?_
    refine lv_icmp_eq (tgt := 24) hx hb dX12_sure_10 (by decide) (fun c_5 => ?_) (fun c_5 => ?_)
    · skip
      have uc_5 := i_eq (n := (-1)) (by decide) c_5
      refine lv_iconst (v := 0) hx hb dX12_sure_24 (by decide) ?_
      refine lv_istore_n (lv' := [(3, .int 0), (0, .ref h0), (1, .int p1), (2, .int p2)]) hx hb dX12_sure_25 rfl hl (by decide) rfl (fun ls hl => ?_)
      refine w_loop (α := Int32 × Sg × Lg) (fun (i_6, σ_7, ρ_8) H locs ls => 0 ≤ i_6.toInt ∧ i_6.toInt ≤ 5 ∧ TS D cA L T r ry [(73, 1000)] σ σ_7 ρ_8 H ∧ va_S (dm L s.heap.size) s.heap H locs ∧ lv_has ls 5 [(3, .int i_6), (0, .ref h0), (1, .int p1), (2, .int p2)]) (fun (i_6, σ_7, ρ_8) => (5 - i_6.toInt).toNat) ?_ ⟨0, σ, ρ_2⟩ ⟨(by decide), (by decide), hB, hS, lv_sub hl [0, 1, 2, 3] rfl⟩
      rintro ⟨i_6, σ_7, ρ_8⟩ H locs ls ⟨li_6, ui_6, hB, hS, hl⟩ ih_9
      refine lv_iload_n hx hb dX12_sure_26 rfl (lv_at hl 0 rfl) ?_
      refine lv_iconst (v := 5) hx hb dX12_sure_27 (by decide) ?_
      refine lv_icmp_ge (tgt := 105) hx hb dX12_sure_28 (by decide) (fun c_10 => ?_) (fun c_10 => ?_)
      · skip
        have uc_10 := i_ge (n := 5) (by decide) c_10
        refine lv_aload_n hx hb dX12_sure_105 rfl (lv_at hl 1 rfl) ?_
        refine lv_iload_n hx hb dX12_sure_106 rfl (lv_at hl 2 rfl) ?_
        refine lv_iload_n hx hb dX12_sure_107 rfl (lv_at hl 3 rfl) ?_
        refine t_ci (va_runV (As := [.int p1, .int p2]) (rest := []) ⟨hx, hb, hml, hown, hts⟩ (cy_X12_lacking l D cA L T r hG hLA.1 σ_7 ρ_8 hB.2.1 _ h0 mh0 th0 p1 p2 (by first | omega | decide) (by first | omega | decide) (by first | omega | decide) (by first | omega | decide)) (cV hts mv_X12_lacking mw_7_214 rfl rfl ⟨Nat.le_of_ble_eq_true rfl, Nat.le_of_ble_eq_true rfl⟩) (pV hB.1 hK hN mh0 th0 (show shp cA 12 _ _ _ = .inr (12, Fs12 _ _ _) from rfl) rfl) rfl rfl hl.1 rfl (lv_room (Nat.le_of_ble_eq_true rfl)) dX12_sure_108 ⟨Nat.le_of_ble_eq_true rfl, Nat.le_of_ble_eq_true rfl⟩) hLA hA hB hS (by decide) (fun x_13 σ_11 ρ_12 H locs hB fσ_11 pσ_11 hS => ?_)
        exact W.iret (v := x_13) hx hb hr (fun t ht hW => ⟨⟨x_13, (σ_11, ρ_12), rfl, ⟨hB.2.1, hB.2.2, trivial⟩, (show TP D cA L T r σ_11 ρ_12 t.heap from by rw [ht]; exact hB.1)⟩, hS.F ht⟩) hS.2.2 dX12_sure_111
      · skip
        have uc_10 := i_nge (n := 5) (by decide) c_10
        refine lv_aload_n hx hb dX12_sure_31 rfl (lv_at hl 1 rfl) ?_
        refine t_gr hx hb hts hown hK hG hB mh0 th0 fq_12_26 rfl mw_6_2 dX12_sure_32 (fun b_14 hb_14 mb_14 tb_14 => ?_)
        refine lv_iload_n hx hb dX12_sure_35 rfl (lv_at hl 0 rfl) ?_
        refine lv_iconst (v := 0) hx hb dX12_sure_36 (by decide) ?_
        refine t_si hx hb hK hLA hB hS mb_14 tb_14 ai_73 (i_in (by omega) (by omega)) (i_lo _) (i_hi _) (Or.inr (by decide)) dX12_sure_37 (fun H locs σ_15 eσ_15 hB hS => ?_)
        have k_16 : σ_15 b_14 i_6.toNatClampNeg = 0 := by rw [eσ_15]; exact up2_same _ _ _ _
        refine lv_aload_n hx hb dX12_sure_38 rfl (lv_at hl 1 rfl) ?_
        refine lv_iload_n hx hb dX12_sure_39 rfl (lv_at hl 2 rfl) ?_
        refine lv_iconst (v := 0) hx hb dX12_sure_40 (by decide) ?_
        refine t_ci (va_runV (As := [.int p1, .int 0]) (rest := []) ⟨hx, hb, hml, hown, hts⟩ (cy_X12_pilgrimOf_0 l D cA L T r hG hLA.1 σ_15 ρ_8 hB.2.1 _ h0 mh0 th0 p1 (by first | omega | decide) (by first | omega | decide)) (cV hts mv_X12_pilgrimOf mw_7_69 rfl rfl ⟨Nat.le_of_ble_eq_true rfl, Nat.le_of_ble_eq_true rfl⟩) (pV hB.1 hK hN mh0 th0 (show shp cA 12 _ _ _ = .inr (12, Fs12 _ _ _) from rfl) rfl) rfl rfl hl.1 rfl (lv_room (Nat.le_of_ble_eq_true rfl)) dX12_sure_41 ⟨Nat.le_of_ble_eq_true rfl, Nat.le_of_ble_eq_true rfl⟩) hLA hA hB hS (by decide) (fun x_19 σ_17 ρ_18 H locs hB fσ_17 pσ_17 hS => ?_)
        have qσ_17 := FR.nil fσ_17
        subst qσ_17
        obtain ⟨lx_19, ux_19⟩ := pσ_17
        refine lv_istore (lv' := [(4, .int x_19), (3, .int i_6), (0, .ref h0), (1, .int p1), (2, .int p2)]) hx hb dX12_sure_44 hl (by decide) rfl (fun ls hl => ?_)
        refine w_loop (α := Int32 × Sg × Lg) (fun (i_20, σ_21, ρ_22) H locs ls => 0 ≤ i_20.toInt ∧ i_20.toInt ≤ 8 ∧ TS D cA L T r ry [(73, 1000)] σ σ_21 ρ_22 H ∧ va_S (dm L s.heap.size) s.heap H locs ∧ lv_has ls 5 [(4, .int i_20), (3, .int i_6), (0, .ref h0), (1, .int p1), (2, .int p2)]) (fun (i_20, σ_21, ρ_22) => (8 - i_20.toInt).toNat) ?_ ⟨x_19, σ_15, ρ_18⟩ ⟨(by omega), (by omega), hB, hS, lv_sub hl [0, 1, 2, 3, 4] rfl⟩
        rintro ⟨i_20, σ_21, ρ_22⟩ H locs ls ⟨li_20, ui_20, hB, hS, hl⟩ ih_23
        refine lv_iload hx hb dX12_sure_46 (lv_at hl 0 rfl) ?_
        refine lv_aload_n hx hb dX12_sure_48 rfl (lv_at hl 2 rfl) ?_
        refine t_gr hx hb hts hown hK hG hB mh0 th0 fq_12_20 rfl mw_5_236 dX12_sure_49 (fun b_24 hb_24 mb_24 tb_24 => ?_)
        refine lv_iconst (v := 2) hx hb dX12_sure_52 (by decide) ?_
        refine t_aj hx hb hK hB mb_24 tb_24 ai_70 (i_in (by decide) (by decide)) dX12_sure_53 (fun x_25 ex_25 lx_25 ux_25 => ?_)
        have lx_25 : 0 ≤ x_25.toInt := lx_25
        have ux_25 : x_25.toInt ≤ 8 := ux_25
        have cx_25 := congrArg Int32.toInt ex_25
        refine lv_icmp_ge (tgt := 99) hx hb dX12_sure_54 (by decide) (fun c_26 => ?_) (fun c_26 => ?_)
        · skip
          have uc_26 := j_le c_26
          obtain ⟨x_27, ex_27⟩ : ∃ y : Int32, y = i_6 + 1 := ⟨_, rfl⟩
          have vx_27 := b_add (rfl : i_6.toInt = _) (by decide : (1 : Int32).toInt = 1) ex_27 (by omega) (by omega)
          refine lv_iinc (v := x_27) (lv' := [(3, .int x_27), (4, .int i_20), (0, .ref h0), (1, .int p1), (2, .int p2)]) hx hb dX12_sure_99 hl (k := 1) rfl (by rw [ex_27]; rfl) (by decide) rfl (fun ls hl => ?_)
          refine lv_goto (tgt := 26) hx hb dX12_sure_102 (by decide) ?_
          exact ih_9 ⟨x_27, σ_21, ρ_22⟩ _ _ _ ⟨(by omega), (by omega), hB, hS, lv_sub hl [0, 2, 3, 4] rfl⟩ (by show (5 - x_27.toInt).toNat < (5 - i_6.toInt).toNat; omega)
        · skip
          have uc_26 := j_nle c_26
          refine lv_aload_n hx hb dX12_sure_57 rfl (lv_at hl 2 rfl) ?_
          refine t_gk hx hb hts hown hK hB mh0 th0 fq_12_26 hb_14 mw_6_2 dX12_sure_58 ?_
          refine lv_iload_n hx hb dX12_sure_61 rfl (lv_at hl 1 rfl) ?_
          refine lv_dup2_11 hx hb dX12_sure_62 rfl rfl ?_
          refine t_ai hx hb hK hB mb_14 tb_14 ai_73 (fun _ => rfl) (i_in (by omega) (by omega)) dX12_sure_63 (fun x_28 ex_28 lx_28 ux_28 => ?_)
          have cx_28 := congrArg Int32.toInt ex_28
          refine lv_aload_n hx hb dX12_sure_64 rfl (lv_at hl 2 rfl) ?_
          refine lv_iload hx hb dX12_sure_65 (lv_at hl 0 rfl) ?_
          refine lv_iconst (v := 0) hx hb dX12_sure_67 (by decide) ?_
          refine t_ci (va_runV (As := [.int i_20, .int 0]) (rest := [.int x_28, .int i_6, .ref b_14]) ⟨hx, hb, hml, hown, hts⟩ (cy_X12_sortOf l D cA L T r hG hLA.1 σ_21 ρ_22 hB.2.1 _ h0 mh0 th0 i_20 0 (by first | omega | decide) (by first | omega | decide) (by first | omega | decide) (by first | omega | decide)) (cV hts mv_X12_sortOf mw_7_94 rfl rfl ⟨Nat.le_of_ble_eq_true rfl, Nat.le_of_ble_eq_true rfl⟩) (pV hB.1 hK hN mh0 th0 (show shp cA 12 _ _ _ = .inr (12, Fs12 _ _ _) from rfl) rfl) rfl rfl hl.1 rfl (lv_room (Nat.le_of_ble_eq_true rfl)) dX12_sure_68 ⟨Nat.le_of_ble_eq_true rfl, Nat.le_of_ble_eq_true rfl⟩) hLA hA hB hS (by decide) (fun x_31 σ_29 ρ_30 H locs hB fσ_29 pσ_29 hS => ?_)
          have qσ_29 := FR.nil fσ_29
          subst qσ_29
          obtain ⟨lx_31, ux_31⟩ := pσ_29
          refine lv_iload_n hx hb dX12_sure_71 rfl (lv_at hl 1 rfl) ?_
          refine lv_icmp_eq (tgt := 86) hx hb dX12_sure_72 (by decide) (fun c_32 => ?_) (fun c_32 => ?_)
          · skip
            have uc_32 := j_eq c_32
            refine lv_iconst (v := 1) hx hb dX12_sure_86 (by decide) ?_
            refine lv_goto (tgt := 91) hx hb dX12_sure_87 (by decide) ?_
            refine lv_iadd hx hb dX12_sure_91 ?_
            refine lv_topi (fun x_33 ex_33 => ?_)
            try have vx_33 := b_add (rfl : x_28.toInt = _) (by decide : (1 : Int32).toInt = 1) ex_33 (by omega) (by omega)
            refine t_si hx hb hK hLA hB hS mb_14 tb_14 ai_73 (i_in (by omega) (by omega)) (i_lo _) (i_hi _) (Or.inr (by decide)) dX12_sure_92 (fun H locs σ_34 eσ_34 hB hS => ?_)
            have k_35 : σ_34 b_14 i_6.toNatClampNeg = x_33 := by rw [eσ_34]; exact up2_same _ _ _ _
            obtain ⟨x_36, ex_36⟩ : ∃ y : Int32, y = i_20 + 1 := ⟨_, rfl⟩
            have vx_36 := b_add (rfl : i_20.toInt = _) (by decide : (1 : Int32).toInt = 1) ex_36 (by omega) (by omega)
            refine lv_iinc (v := x_36) (lv' := [(4, .int x_36), (3, .int i_6), (0, .ref h0), (1, .int p1), (2, .int p2)]) hx hb dX12_sure_93 hl (k := 0) rfl (by rw [ex_36]; rfl) (by decide) rfl (fun ls hl => ?_)
            refine lv_goto (tgt := 46) hx hb dX12_sure_96 (by decide) ?_
            exact ih_23 ⟨x_36, σ_34, ρ_30⟩ _ _ _ ⟨(by omega), (by omega), hB, hS, lv_sub hl [0, 1, 2, 3, 4] rfl⟩ (by show (8 - x_36.toInt).toNat < (8 - i_20.toInt).toNat; omega)
          · skip
            have uc_32 := j_ne c_32
            refine lv_aload_n hx hb dX12_sure_75 rfl (lv_at hl 2 rfl) ?_
            refine lv_iload hx hb dX12_sure_76 (lv_at hl 0 rfl) ?_
            refine lv_iconst (v := 1) hx hb dX12_sure_78 (by decide) ?_
            refine t_ci (va_runV (As := [.int i_20, .int 1]) (rest := [.int x_28, .int i_6, .ref b_14]) ⟨hx, hb, hml, hown, hts⟩ (cy_X12_sortOf l D cA L T r hG hLA.1 σ_21 ρ_30 hB.2.1 _ h0 mh0 th0 i_20 1 (by first | omega | decide) (by first | omega | decide) (by first | omega | decide) (by first | omega | decide)) (cV hts mv_X12_sortOf mw_7_94 rfl rfl ⟨Nat.le_of_ble_eq_true rfl, Nat.le_of_ble_eq_true rfl⟩) (pV hB.1 hK hN mh0 th0 (show shp cA 12 _ _ _ = .inr (12, Fs12 _ _ _) from rfl) rfl) rfl rfl hl.1 rfl (lv_room (Nat.le_of_ble_eq_true rfl)) dX12_sure_79 ⟨Nat.le_of_ble_eq_true rfl, Nat.le_of_ble_eq_true rfl⟩) hLA hA hB hS (by decide) (fun x_39 σ_37 ρ_38 H locs hB fσ_37 pσ_37 hS => ?_)
            have qσ_37 := FR.nil fσ_37
            subst qσ_37
            obtain ⟨lx_39, ux_39⟩ := pσ_37
            refine lv_iload_n hx hb dX12_sure_82 rfl (lv_at hl 1 rfl) ?_
            refine lv_icmp_ne (tgt := 90) hx hb dX12_sure_83 (by decide) (fun c_40 => ?_) (fun c_40 => ?_)
            · skip
              have uc_40 := j_ne c_40
              refine lv_iconst (v := 0) hx hb dX12_sure_90 (by decide) ?_
              refine lv_iadd hx hb dX12_sure_91 ?_
              refine lv_topi (fun x_41 ex_41 => ?_)
              try have vx_41 := b_add (rfl : x_28.toInt = _) (by decide : (0 : Int32).toInt = 0) ex_41 (by omega) (by omega)
              refine t_si hx hb hK hLA hB hS mb_14 tb_14 ai_73 (i_in (by omega) (by omega)) (i_lo _) (i_hi _) (Or.inr (by decide)) dX12_sure_92 (fun H locs σ_42 eσ_42 hB hS => ?_)
              have k_43 : σ_42 b_14 i_6.toNatClampNeg = x_41 := by rw [eσ_42]; exact up2_same _ _ _ _
              obtain ⟨x_44, ex_44⟩ : ∃ y : Int32, y = i_20 + 1 := ⟨_, rfl⟩
              have vx_44 := b_add (rfl : i_20.toInt = _) (by decide : (1 : Int32).toInt = 1) ex_44 (by omega) (by omega)
              refine lv_iinc (v := x_44) (lv' := [(4, .int x_44), (3, .int i_6), (0, .ref h0), (1, .int p1), (2, .int p2)]) hx hb dX12_sure_93 hl (k := 0) rfl (by rw [ex_44]; rfl) (by decide) rfl (fun ls hl => ?_)
              refine lv_goto (tgt := 46) hx hb dX12_sure_96 (by decide) ?_
              exact ih_23 ⟨x_44, σ_42, ρ_38⟩ _ _ _ ⟨(by omega), (by omega), hB, hS, lv_sub hl [0, 1, 2, 3, 4] rfl⟩ (by show (8 - x_44.toInt).toNat < (8 - i_20.toInt).toNat; omega)
            · skip
              have uc_40 := j_eq c_40
              refine lv_iconst (v := 1) hx hb dX12_sure_86 (by decide) ?_
              refine lv_goto (tgt := 91) hx hb dX12_sure_87 (by decide) ?_
              refine lv_iadd hx hb dX12_sure_91 ?_
              refine lv_topi (fun x_45 ex_45 => ?_)
              try have vx_45 := b_add (rfl : x_28.toInt = _) (by decide : (1 : Int32).toInt = 1) ex_45 (by omega) (by omega)
              refine t_si hx hb hK hLA hB hS mb_14 tb_14 ai_73 (i_in (by omega) (by omega)) (i_lo _) (i_hi _) (Or.inr (by decide)) dX12_sure_92 (fun H locs σ_46 eσ_46 hB hS => ?_)
              have k_47 : σ_46 b_14 i_6.toNatClampNeg = x_45 := by rw [eσ_46]; exact up2_same _ _ _ _
              obtain ⟨x_48, ex_48⟩ : ∃ y : Int32, y = i_20 + 1 := ⟨_, rfl⟩
              have vx_48 := b_add (rfl : i_20.toInt = _) (by decide : (1 : Int32).toInt = 1) ex_48 (by omega) (by omega)
              refine lv_iinc (v := x_48) (lv' := [(4, .int x_48), (3, .int i_6), (0, .ref h0), (1, .int p1), (2, .int p2)]) hx hb dX12_sure_93 hl (k := 0) rfl (by rw [ex_48]; rfl) (by decide) rfl (fun ls hl => ?_)
              refine lv_goto (tgt := 46) hx hb dX12_sure_96 (by decide) ?_
              exact ih_23 ⟨x_48, σ_46, ρ_38⟩ _ _ _ ⟨(by omega), (by omega), hB, hS, lv_sub hl [0, 1, 2, 3, 4] rfl⟩ (by show (8 - x_48.toInt).toNat < (8 - i_20.toInt).toNat; omega)
    · skip
      have uc_5 := i_ne (n := (-1)) (by decide) c_5
      refine lv_aload_n hx hb dX12_sure_13 rfl (lv_at hl 0 rfl) ?_
      refine lv_iload_n hx hb dX12_sure_14 rfl (lv_at hl 2 rfl) ?_
      refine t_ci (va_runV (As := [.int p2]) (rest := []) ⟨hx, hb, hml, hown, hts⟩ (cy_X12_isSort l D cA L T r hG hLA.1 σ ρ_2 hB.2.1 _ h0 mh0 th0 p2) (cV hts mv_X12_isSort mw_7_110 rfl rfl ⟨Nat.le_of_ble_eq_true rfl, Nat.le_of_ble_eq_true rfl⟩) (pV hB.1 hK hN mh0 th0 (show shp cA 12 _ _ _ = .inr (12, Fs12 _ _ _) from rfl) rfl) rfl rfl hl.1 rfl (lv_room (Nat.le_of_ble_eq_true rfl)) dX12_sure_15 ⟨Nat.le_of_ble_eq_true rfl, Nat.le_of_ble_eq_true rfl⟩) hLA hA hB hS (by decide) (fun x_51 σ_49 ρ_50 H locs hB fσ_49 pσ_49 hS => ?_)
      have qσ_49 := FR.nil fσ_49
      subst qσ_49
      obtain ⟨ox_51, ix_51⟩ := pσ_49
      refine lv_if_ne (tgt := 24) hx hb dX12_sure_18 (by decide) (fun c_52 => ?_) (fun c_52 => ?_)
      · skip
        have uc_52 := i_ne (n := 0) (by decide) c_52
        refine lv_iconst (v := 0) hx hb dX12_sure_24 (by decide) ?_
        refine lv_istore_n (lv' := [(3, .int 0), (0, .ref h0), (1, .int p1), (2, .int p2)]) hx hb dX12_sure_25 rfl hl (by decide) rfl (fun ls hl => ?_)
        refine w_loop (α := Int32 × Sg × Lg) (fun (i_53, σ_54, ρ_55) H locs ls => 0 ≤ i_53.toInt ∧ i_53.toInt ≤ 5 ∧ TS D cA L T r ry [(73, 1000)] σ σ_54 ρ_55 H ∧ va_S (dm L s.heap.size) s.heap H locs ∧ lv_has ls 5 [(3, .int i_53), (0, .ref h0), (1, .int p1), (2, .int p2)]) (fun (i_53, σ_54, ρ_55) => (5 - i_53.toInt).toNat) ?_ ⟨0, σ, ρ_50⟩ ⟨(by decide), (by decide), hB, hS, lv_sub hl [0, 1, 2, 3] rfl⟩
        rintro ⟨i_53, σ_54, ρ_55⟩ H locs ls ⟨li_53, ui_53, hB, hS, hl⟩ ih_56
        refine lv_iload_n hx hb dX12_sure_26 rfl (lv_at hl 0 rfl) ?_
        refine lv_iconst (v := 5) hx hb dX12_sure_27 (by decide) ?_
        refine lv_icmp_ge (tgt := 105) hx hb dX12_sure_28 (by decide) (fun c_57 => ?_) (fun c_57 => ?_)
        · skip
          have uc_57 := i_ge (n := 5) (by decide) c_57
          refine lv_aload_n hx hb dX12_sure_105 rfl (lv_at hl 1 rfl) ?_
          refine lv_iload_n hx hb dX12_sure_106 rfl (lv_at hl 2 rfl) ?_
          refine lv_iload_n hx hb dX12_sure_107 rfl (lv_at hl 3 rfl) ?_
          refine t_ci (va_runV (As := [.int p1, .int p2]) (rest := []) ⟨hx, hb, hml, hown, hts⟩ (cy_X12_lacking l D cA L T r hG hLA.1 σ_54 ρ_55 hB.2.1 _ h0 mh0 th0 p1 p2 (by first | omega | decide) (by first | omega | decide) (by first | omega | decide) (by first | omega | decide)) (cV hts mv_X12_lacking mw_7_214 rfl rfl ⟨Nat.le_of_ble_eq_true rfl, Nat.le_of_ble_eq_true rfl⟩) (pV hB.1 hK hN mh0 th0 (show shp cA 12 _ _ _ = .inr (12, Fs12 _ _ _) from rfl) rfl) rfl rfl hl.1 rfl (lv_room (Nat.le_of_ble_eq_true rfl)) dX12_sure_108 ⟨Nat.le_of_ble_eq_true rfl, Nat.le_of_ble_eq_true rfl⟩) hLA hA hB hS (by decide) (fun x_60 σ_58 ρ_59 H locs hB fσ_58 pσ_58 hS => ?_)
          exact W.iret (v := x_60) hx hb hr (fun t ht hW => ⟨⟨x_60, (σ_58, ρ_59), rfl, ⟨hB.2.1, hB.2.2, trivial⟩, (show TP D cA L T r σ_58 ρ_59 t.heap from by rw [ht]; exact hB.1)⟩, hS.F ht⟩) hS.2.2 dX12_sure_111
        · skip
          have uc_57 := i_nge (n := 5) (by decide) c_57
          refine lv_aload_n hx hb dX12_sure_31 rfl (lv_at hl 1 rfl) ?_
          refine t_gr hx hb hts hown hK hG hB mh0 th0 fq_12_26 rfl mw_6_2 dX12_sure_32 (fun b_61 hb_61 mb_61 tb_61 => ?_)
          refine lv_iload_n hx hb dX12_sure_35 rfl (lv_at hl 0 rfl) ?_
          refine lv_iconst (v := 0) hx hb dX12_sure_36 (by decide) ?_
          refine t_si hx hb hK hLA hB hS mb_61 tb_61 ai_73 (i_in (by omega) (by omega)) (i_lo _) (i_hi _) (Or.inr (by decide)) dX12_sure_37 (fun H locs σ_62 eσ_62 hB hS => ?_)
          have k_63 : σ_62 b_61 i_53.toNatClampNeg = 0 := by rw [eσ_62]; exact up2_same _ _ _ _
          refine lv_aload_n hx hb dX12_sure_38 rfl (lv_at hl 1 rfl) ?_
          refine lv_iload_n hx hb dX12_sure_39 rfl (lv_at hl 2 rfl) ?_
          refine lv_iconst (v := 0) hx hb dX12_sure_40 (by decide) ?_
          refine t_ci (va_runV (As := [.int p1, .int 0]) (rest := []) ⟨hx, hb, hml, hown, hts⟩ (cy_X12_pilgrimOf_0 l D cA L T r hG hLA.1 σ_62 ρ_55 hB.2.1 _ h0 mh0 th0 p1 (by first | omega | decide) (by first | omega | decide)) (cV hts mv_X12_pilgrimOf mw_7_69 rfl rfl ⟨Nat.le_of_ble_eq_true rfl, Nat.le_of_ble_eq_true rfl⟩) (pV hB.1 hK hN mh0 th0 (show shp cA 12 _ _ _ = .inr (12, Fs12 _ _ _) from rfl) rfl) rfl rfl hl.1 rfl (lv_room (Nat.le_of_ble_eq_true rfl)) dX12_sure_41 ⟨Nat.le_of_ble_eq_true rfl, Nat.le_of_ble_eq_true rfl⟩) hLA hA hB hS (by decide) (fun x_66 σ_64 ρ_65 H locs hB fσ_64 pσ_64 hS => ?_)
          have qσ_64 := FR.nil fσ_64
          subst qσ_64
          obtain ⟨lx_66, ux_66⟩ := pσ_64
          refine lv_istore (lv' := [(4, .int x_66), (3, .int i_53), (0, .ref h0), (1, .int p1), (2, .int p2)]) hx hb dX12_sure_44 hl (by decide) rfl (fun ls hl => ?_)
          refine w_loop (α := Int32 × Sg × Lg) (fun (i_67, σ_68, ρ_69) H locs ls => 0 ≤ i_67.toInt ∧ i_67.toInt ≤ 8 ∧ TS D cA L T r ry [(73, 1000)] σ σ_68 ρ_69 H ∧ va_S (dm L s.heap.size) s.heap H locs ∧ lv_has ls 5 [(4, .int i_67), (3, .int i_53), (0, .ref h0), (1, .int p1), (2, .int p2)]) (fun (i_67, σ_68, ρ_69) => (8 - i_67.toInt).toNat) ?_ ⟨x_66, σ_62, ρ_65⟩ ⟨(by omega), (by omega), hB, hS, lv_sub hl [0, 1, 2, 3, 4] rfl⟩
          rintro ⟨i_67, σ_68, ρ_69⟩ H locs ls ⟨li_67, ui_67, hB, hS, hl⟩ ih_70
          refine lv_iload hx hb dX12_sure_46 (lv_at hl 0 rfl) ?_
          refine lv_aload_n hx hb dX12_sure_48 rfl (lv_at hl 2 rfl) ?_
          refine t_gr hx hb hts hown hK hG hB mh0 th0 fq_12_20 rfl mw_5_236 dX12_sure_49 (fun b_71 hb_71 mb_71 tb_71 => ?_)
          refine lv_iconst (v := 2) hx hb dX12_sure_52 (by decide) ?_
          refine t_aj hx hb hK hB mb_71 tb_71 ai_70 (i_in (by decide) (by decide)) dX12_sure_53 (fun x_72 ex_72 lx_72 ux_72 => ?_)
          have lx_72 : 0 ≤ x_72.toInt := lx_72
          have ux_72 : x_72.toInt ≤ 8 := ux_72
          have cx_72 := congrArg Int32.toInt ex_72
          refine lv_icmp_ge (tgt := 99) hx hb dX12_sure_54 (by decide) (fun c_73 => ?_) (fun c_73 => ?_)
          · skip
            have uc_73 := j_le c_73
            obtain ⟨x_74, ex_74⟩ : ∃ y : Int32, y = i_53 + 1 := ⟨_, rfl⟩
            have vx_74 := b_add (rfl : i_53.toInt = _) (by decide : (1 : Int32).toInt = 1) ex_74 (by omega) (by omega)
            refine lv_iinc (v := x_74) (lv' := [(3, .int x_74), (4, .int i_67), (0, .ref h0), (1, .int p1), (2, .int p2)]) hx hb dX12_sure_99 hl (k := 1) rfl (by rw [ex_74]; rfl) (by decide) rfl (fun ls hl => ?_)
            refine lv_goto (tgt := 26) hx hb dX12_sure_102 (by decide) ?_
            exact ih_56 ⟨x_74, σ_68, ρ_69⟩ _ _ _ ⟨(by omega), (by omega), hB, hS, lv_sub hl [0, 2, 3, 4] rfl⟩ (by show (5 - x_74.toInt).toNat < (5 - i_53.toInt).toNat; omega)
          · skip
            have uc_73 := j_nle c_73
            refine lv_aload_n hx hb dX12_sure_57 rfl (lv_at hl 2 rfl) ?_
            refine t_gk hx hb hts hown hK hB mh0 th0 fq_12_26 hb_61 mw_6_2 dX12_sure_58 ?_
            refine lv_iload_n hx hb dX12_sure_61 rfl (lv_at hl 1 rfl) ?_
            refine lv_dup2_11 hx hb dX12_sure_62 rfl rfl ?_
            refine t_ai hx hb hK hB mb_61 tb_61 ai_73 (fun _ => rfl) (i_in (by omega) (by omega)) dX12_sure_63 (fun x_75 ex_75 lx_75 ux_75 => ?_)
            have cx_75 := congrArg Int32.toInt ex_75
            refine lv_aload_n hx hb dX12_sure_64 rfl (lv_at hl 2 rfl) ?_
            refine lv_iload hx hb dX12_sure_65 (lv_at hl 0 rfl) ?_
            refine lv_iconst (v := 0) hx hb dX12_sure_67 (by decide) ?_
            refine t_ci (va_runV (As := [.int i_67, .int 0]) (rest := [.int x_75, .int i_53, .ref b_61]) ⟨hx, hb, hml, hown, hts⟩ (cy_X12_sortOf l D cA L T r hG hLA.1 σ_68 ρ_69 hB.2.1 _ h0 mh0 th0 i_67 0 (by first | omega | decide) (by first | omega | decide) (by first | omega | decide) (by first | omega | decide)) (cV hts mv_X12_sortOf mw_7_94 rfl rfl ⟨Nat.le_of_ble_eq_true rfl, Nat.le_of_ble_eq_true rfl⟩) (pV hB.1 hK hN mh0 th0 (show shp cA 12 _ _ _ = .inr (12, Fs12 _ _ _) from rfl) rfl) rfl rfl hl.1 rfl (lv_room (Nat.le_of_ble_eq_true rfl)) dX12_sure_68 ⟨Nat.le_of_ble_eq_true rfl, Nat.le_of_ble_eq_true rfl⟩) hLA hA hB hS (by decide) (fun x_78 σ_76 ρ_77 H locs hB fσ_76 pσ_76 hS => ?_)
            have qσ_76 := FR.nil fσ_76
            subst qσ_76
            obtain ⟨lx_78, ux_78⟩ := pσ_76
            refine lv_iload_n hx hb dX12_sure_71 rfl (lv_at hl 1 rfl) ?_
            refine lv_icmp_eq (tgt := 86) hx hb dX12_sure_72 (by decide) (fun c_79 => ?_) (fun c_79 => ?_)
            · skip
              have uc_79 := j_eq c_79
              refine lv_iconst (v := 1) hx hb dX12_sure_86 (by decide) ?_
              refine lv_goto (tgt := 91) hx hb dX12_sure_87 (by decide) ?_
              refine lv_iadd hx hb dX12_sure_91 ?_
              refine lv_topi (fun x_80 ex_80 => ?_)
              try have vx_80 := b_add (rfl : x_75.toInt = _) (by decide : (1 : Int32).toInt = 1) ex_80 (by omega) (by omega)
              refine t_si hx hb hK hLA hB hS mb_61 tb_61 ai_73 (i_in (by omega) (by omega)) (i_lo _) (i_hi _) (Or.inr (by decide)) dX12_sure_92 (fun H locs σ_81 eσ_81 hB hS => ?_)
              have k_82 : σ_81 b_61 i_53.toNatClampNeg = x_80 := by rw [eσ_81]; exact up2_same _ _ _ _
              obtain ⟨x_83, ex_83⟩ : ∃ y : Int32, y = i_67 + 1 := ⟨_, rfl⟩
              have vx_83 := b_add (rfl : i_67.toInt = _) (by decide : (1 : Int32).toInt = 1) ex_83 (by omega) (by omega)
              refine lv_iinc (v := x_83) (lv' := [(4, .int x_83), (3, .int i_53), (0, .ref h0), (1, .int p1), (2, .int p2)]) hx hb dX12_sure_93 hl (k := 0) rfl (by rw [ex_83]; rfl) (by decide) rfl (fun ls hl => ?_)
              refine lv_goto (tgt := 46) hx hb dX12_sure_96 (by decide) ?_
              exact ih_70 ⟨x_83, σ_81, ρ_77⟩ _ _ _ ⟨(by omega), (by omega), hB, hS, lv_sub hl [0, 1, 2, 3, 4] rfl⟩ (by show (8 - x_83.toInt).toNat < (8 - i_67.toInt).toNat; omega)
            · skip
              have uc_79 := j_ne c_79
              refine lv_aload_n hx hb dX12_sure_75 rfl (lv_at hl 2 rfl) ?_
              refine lv_iload hx hb dX12_sure_76 (lv_at hl 0 rfl) ?_
              refine lv_iconst (v := 1) hx hb dX12_sure_78 (by decide) ?_
              refine t_ci (va_runV (As := [.int i_67, .int 1]) (rest := [.int x_75, .int i_53, .ref b_61]) ⟨hx, hb, hml, hown, hts⟩ (cy_X12_sortOf l D cA L T r hG hLA.1 σ_68 ρ_77 hB.2.1 _ h0 mh0 th0 i_67 1 (by first | omega | decide) (by first | omega | decide) (by first | omega | decide) (by first | omega | decide)) (cV hts mv_X12_sortOf mw_7_94 rfl rfl ⟨Nat.le_of_ble_eq_true rfl, Nat.le_of_ble_eq_true rfl⟩) (pV hB.1 hK hN mh0 th0 (show shp cA 12 _ _ _ = .inr (12, Fs12 _ _ _) from rfl) rfl) rfl rfl hl.1 rfl (lv_room (Nat.le_of_ble_eq_true rfl)) dX12_sure_79 ⟨Nat.le_of_ble_eq_true rfl, Nat.le_of_ble_eq_true rfl⟩) hLA hA hB hS (by decide) (fun x_86 σ_84 ρ_85 H locs hB fσ_84 pσ_84 hS => ?_)
              have qσ_84 := FR.nil fσ_84
              subst qσ_84
              obtain ⟨lx_86, ux_86⟩ := pσ_84
              refine lv_iload_n hx hb dX12_sure_82 rfl (lv_at hl 1 rfl) ?_
              refine lv_icmp_ne (tgt := 90) hx hb dX12_sure_83 (by decide) (fun c_87 => ?_) (fun c_87 => ?_)
              · skip
                have uc_87 := j_ne c_87
                refine lv_iconst (v := 0) hx hb dX12_sure_90 (by decide) ?_
                refine lv_iadd hx hb dX12_sure_91 ?_
                refine lv_topi (fun x_88 ex_88 => ?_)
                try have vx_88 := b_add (rfl : x_75.toInt = _) (by decide : (0 : Int32).toInt = 0) ex_88 (by omega) (by omega)
                refine t_si hx hb hK hLA hB hS mb_61 tb_61 ai_73 (i_in (by omega) (by omega)) (i_lo _) (i_hi _) (Or.inr (by decide)) dX12_sure_92 (fun H locs σ_89 eσ_89 hB hS => ?_)
                have k_90 : σ_89 b_61 i_53.toNatClampNeg = x_88 := by rw [eσ_89]; exact up2_same _ _ _ _
                obtain ⟨x_91, ex_91⟩ : ∃ y : Int32, y = i_67 + 1 := ⟨_, rfl⟩
                have vx_91 := b_add (rfl : i_67.toInt = _) (by decide : (1 : Int32).toInt = 1) ex_91 (by omega) (by omega)
                refine lv_iinc (v := x_91) (lv' := [(4, .int x_91), (3, .int i_53), (0, .ref h0), (1, .int p1), (2, .int p2)]) hx hb dX12_sure_93 hl (k := 0) rfl (by rw [ex_91]; rfl) (by decide) rfl (fun ls hl => ?_)
                refine lv_goto (tgt := 46) hx hb dX12_sure_96 (by decide) ?_
                exact ih_70 ⟨x_91, σ_89, ρ_85⟩ _ _ _ ⟨(by omega), (by omega), hB, hS, lv_sub hl [0, 1, 2, 3, 4] rfl⟩ (by show (8 - x_91.toInt).toNat < (8 - i_67.toInt).toNat; omega)
              · skip
                have uc_87 := j_eq c_87
                refine lv_iconst (v := 1) hx hb dX12_sure_86 (by decide) ?_
                refine lv_goto (tgt := 91) hx hb dX12_sure_87 (by decide) ?_
                refine lv_iadd hx hb dX12_sure_91 ?_
                refine lv_topi (fun x_92 ex_92 => ?_)
                try have vx_92 := b_add (rfl : x_75.toInt = _) (by decide : (1 : Int32).toInt = 1) ex_92 (by omega) (by omega)
                refine t_si hx hb hK hLA hB hS mb_61 tb_61 ai_73 (i_in (by omega) (by omega)) (i_lo _) (i_hi _) (Or.inr (by decide)) dX12_sure_92 (fun H locs σ_93 eσ_93 hB hS => ?_)
                have k_94 : σ_93 b_61 i_53.toNatClampNeg = x_92 := by rw [eσ_93]; exact up2_same _ _ _ _
                obtain ⟨x_95, ex_95⟩ : ∃ y : Int32, y = i_67 + 1 := ⟨_, rfl⟩
                have vx_95 := b_add (rfl : i_67.toInt = _) (by decide : (1 : Int32).toInt = 1) ex_95 (by omega) (by omega)
                refine lv_iinc (v := x_95) (lv' := [(4, .int x_95), (3, .int i_53), (0, .ref h0), (1, .int p1), (2, .int p2)]) hx hb dX12_sure_93 hl (k := 0) rfl (by rw [ex_95]; rfl) (by decide) rfl (fun ls hl => ?_)
                refine lv_goto (tgt := 46) hx hb dX12_sure_96 (by decide) ?_
                exact ih_70 ⟨x_95, σ_93, ρ_85⟩ _ _ _ ⟨(by omega), (by omega), hB, hS, lv_sub hl [0, 1, 2, 3, 4] rfl⟩ (by show (8 - x_95.toInt).toNat < (8 - i_67.toInt).toNat; omega)
      · skip
        have uc_52 := i_eq (n := 0) (by decide) c_52
        refine lv_bipush (v := (-2)) hx hb dX12_sure_21 (by decide) ?_
        exact W.iret (v := (-2)) hx hb hr (fun t ht hW => ⟨⟨(-2), (σ, ρ_50), rfl, ⟨hB.2.1, hB.2.2, trivial⟩, (show TP D cA L T r σ ρ_50 t.heap from by rw [ht]; exact hB.1)⟩, hS.F ht⟩) hS.2.2 dX12_sure_23
theorem mw_6_6 : (.fieldLink RX12 392 "HillBendsModel" "bestMuch" "I" : Cond) ∈ wsA := wsA_t (List.mem_append_right _ (List.mem_append_right _ (List.mem_append_right _ (List.mem_append_right _ (List.mem_append_right _ (List.mem_append_left _ (List.mem_of_getElem? (l := tables_1_6) (i := 6) rfl))))))) rfl
theorem mw_6_7 : (.fieldLink RX12 395 "HillBendsModel" "bestLess" "I" : Cond) ∈ wsA := wsA_t (List.mem_append_right _ (List.mem_append_right _ (List.mem_append_right _ (List.mem_append_right _ (List.mem_append_right _ (List.mem_append_left _ (List.mem_of_getElem? (l := tables_1_6) (i := 7) rfl))))))) rfl
theorem mw_6_5 : (.fieldLink RX12 61 "HillBendsModel" "best" "[I" : Cond) ∈ wsA := wsA_t (List.mem_append_right _ (List.mem_append_right _ (List.mem_append_right _ (List.mem_append_right _ (List.mem_append_right _ (List.mem_append_left _ (List.mem_of_getElem? (l := tables_1_6) (i := 5) rfl))))))) rfl
theorem mw_6_4 : (.fieldLink RX12 58 "HillBendsModel" "row" "[I" : Cond) ∈ wsA := wsA_t (List.mem_append_right _ (List.mem_append_right _ (List.mem_append_right _ (List.mem_append_right _ (List.mem_append_right _ (List.mem_append_left _ (List.mem_of_getElem? (l := tables_1_6) (i := 4) rfl))))))) rfl
theorem dX12_keepsRow_0 : decode cX12_keepsRow 0 = .ok (.aload_n 0, 1) := by decide +kernel
theorem dX12_keepsRow_1 : decode cX12_keepsRow 1 = .ok (.iload_n 1, 1) := by decide +kernel
theorem dX12_keepsRow_2 : decode cX12_keepsRow 2 = .ok (.putfield 392, 3) := by decide +kernel
theorem dX12_keepsRow_5 : decode cX12_keepsRow 5 = .ok (.aload_n 0, 1) := by decide +kernel
theorem dX12_keepsRow_6 : decode cX12_keepsRow 6 = .ok (.iload_n 2, 1) := by decide +kernel
theorem dX12_keepsRow_7 : decode cX12_keepsRow 7 = .ok (.putfield 395, 3) := by decide +kernel
theorem dX12_keepsRow_10 : decode cX12_keepsRow 10 = .ok (.iconst 0, 1) := by decide +kernel
theorem dX12_keepsRow_11 : decode cX12_keepsRow 11 = .ok (.istore_n 3, 1) := by decide +kernel
theorem dX12_keepsRow_12 : decode cX12_keepsRow 12 = .ok (.iload_n 3, 1) := by decide +kernel
theorem dX12_keepsRow_13 : decode cX12_keepsRow 13 = .ok (.iconst 5, 1) := by decide +kernel
theorem dX12_keepsRow_14 : decode cX12_keepsRow 14 = .ok (.if_icmp .ge 21, 3) := by decide +kernel
theorem dX12_keepsRow_17 : decode cX12_keepsRow 17 = .ok (.aload_n 0, 1) := by decide +kernel
theorem dX12_keepsRow_18 : decode cX12_keepsRow 18 = .ok (.getfield 61, 3) := by decide +kernel
theorem dX12_keepsRow_21 : decode cX12_keepsRow 21 = .ok (.iload_n 3, 1) := by decide +kernel
theorem dX12_keepsRow_22 : decode cX12_keepsRow 22 = .ok (.aload_n 0, 1) := by decide +kernel
theorem dX12_keepsRow_23 : decode cX12_keepsRow 23 = .ok (.getfield 58, 3) := by decide +kernel
theorem dX12_keepsRow_26 : decode cX12_keepsRow 26 = .ok (.iload_n 3, 1) := by decide +kernel
theorem dX12_keepsRow_27 : decode cX12_keepsRow 27 = .ok (.iaload, 1) := by decide +kernel
theorem dX12_keepsRow_28 : decode cX12_keepsRow 28 = .ok (.iastore, 1) := by decide +kernel
theorem dX12_keepsRow_29 : decode cX12_keepsRow 29 = .ok (.iinc 3 1, 3) := by decide +kernel
theorem dX12_keepsRow_32 : decode cX12_keepsRow 32 = .ok (.goto (-20), 3) := by decide +kernel
theorem dX12_keepsRow_35 : decode cX12_keepsRow 35 = .ok (.return_, 1) := by decide +kernel
set_option maxHeartbeats 4000000 in
set_option maxRecDepth 100000 in
theorem cy_X12_keepsRow (l : Launch) (D : va_G) (cA : Nat → ClassId) (L : List Nat) (T : Nat → Nat) (r : Rg) (hG : GR L T r) (hL : L.Nodup) (σ : Sg) (ρ : Lg) (hW : WT L ry T σ) (sz : Nat) (h0 : Nat) (mh0 : h0 ∈ L) (th0 : T h0 = 12) (p1 : Int32) (p2 : Int32) : Met l yX12_keepsRow (.code yX12_keepsRow cX12_keepsRow 4 none :: wsA) ({ frames := 0, cells := 0, slots := 0, locals := 0 }) (PR D cA L T r σ ρ sz [.ref h0, .int p1, .int p2]) (QV D cA L T r ry [(12, 30), (12, 31), (76, 1000)] σ sz (fun σ1 => True)) 0 0 (dm L sz) := by
  refine Met.ofW (cc := cX12_keepsRow) (maxL := 4) (ret := none) (by decide) rfl ?_
  intro p e s m args below meth c s₁ B hml hv
  obtain ⟨rfl, hsz, hP, hK, hN⟩ := hv
  have hx := B.exec
  have hb := B.bytes
  have hr := B.returns
  have hts : ∀ w ∈ wsA, w.before _ s = true := fun w h => atoms_spec (ws := .code yX12_keepsRow cX12_keepsRow 4 none :: wsA) B.pre w (List.mem_cons_of_mem _ h)
  have hown : s.vm.findClass RX12 = some m.cls := findClass_of_methodNamed B.named
  subst hsz
  have hLA : LA (dm L s.heap.size) L := ⟨hL, fun a h => Or.inl h⟩
  have hA : ∀ q : Nat, s.heap.size ≤ q → dm L s.heap.size q := fun q h => Or.inr h
  have hS : va_S (dm L s.heap.size) s.heap s.heap [] := va_S.rf
  have hB : TS D cA L T r ry [(12, 30), (12, 31), (76, 1000)] σ σ ρ s.heap := ⟨hP, hW, FR.rf⟩
  have hl := lv_entry ([.ref h0, .int p1, .int p2]) (n := 4) (Nat.le_of_ble_eq_true rfl)
  rw [lg_entry_eq]
  generalize (lg_sl ([.ref h0, .int p1, .int p2]) ++ List.replicate (4 - (lg_sl ([.ref h0, .int p1, .int p2])).length) Slot.unset).toArray = ls at hl ⊢
  have hl : lv_has ls 4 [(0, .ref h0), (1, .int p1), (2, .int p2)] := hl
  refine lv_aload_n hx hb dX12_keepsRow_0 rfl (lv_at hl 0 rfl) ?_
  refine lv_iload_n hx hb dX12_keepsRow_1 rfl (lv_at hl 1 rfl) ?_
  refine t_pi hx hb hts hown hK hLA hB hS mh0 th0 fi_12_30 rfl rfl rfl (i_lo _) (i_hi _) (Or.inl (by decide)) mw_6_6 dX12_keepsRow_2 (fun H locs σ_1 eσ_1 hB hS => ?_)
  have k_2 : σ_1 h0 30 = p1 := by rw [eσ_1]; exact up2_same _ _ _ _
  refine lv_aload_n hx hb dX12_keepsRow_5 rfl (lv_at hl 0 rfl) ?_
  refine lv_iload_n hx hb dX12_keepsRow_6 rfl (lv_at hl 2 rfl) ?_
  refine t_pi hx hb hts hown hK hLA hB hS mh0 th0 fi_12_31 rfl rfl rfl (i_lo _) (i_hi _) (Or.inl (by decide)) mw_6_7 dX12_keepsRow_7 (fun H locs σ_3 eσ_3 hB hS => ?_)
  have k_4 : σ_3 h0 31 = p2 := by rw [eσ_3]; exact up2_same _ _ _ _
  refine lv_iconst (v := 0) hx hb dX12_keepsRow_10 (by decide) ?_
  refine lv_istore_n (lv' := [(3, .int 0), (0, .ref h0), (1, .int p1), (2, .int p2)]) hx hb dX12_keepsRow_11 rfl hl (by decide) rfl (fun ls hl => ?_)
  have k_5 : σ_3 h0 30 = p1 := by rw [eσ_3, up2_nej _ _ (by decide)]; exact k_2
  refine w_loop (α := Int32 × Sg × Lg) (fun (i_6, σ_7, ρ_8) H locs ls => 0 ≤ i_6.toInt ∧ i_6.toInt ≤ 5 ∧ σ_7 h0 30 = p1 ∧ σ_7 h0 31 = p2 ∧ TS D cA L T r ry [(12, 30), (12, 31), (76, 1000)] σ σ_7 ρ_8 H ∧ va_S (dm L s.heap.size) s.heap H locs ∧ lv_has ls 4 [(3, .int i_6), (0, .ref h0), (1, .int p1), (2, .int p2)]) (fun (i_6, σ_7, ρ_8) => (5 - i_6.toInt).toNat) ?_ ⟨0, σ_3, ρ⟩ ⟨(by decide), (by decide), k_5, k_4, hB, hS, lv_sub hl [0, 1, 2, 3] rfl⟩
  rintro ⟨i_6, σ_7, ρ_8⟩ H locs ls ⟨li_6, ui_6, k_10, k_11, hB, hS, hl⟩ ih_9
  refine lv_iload_n hx hb dX12_keepsRow_12 rfl (lv_at hl 0 rfl) ?_
  refine lv_iconst (v := 5) hx hb dX12_keepsRow_13 (by decide) ?_
  refine lv_icmp_ge (tgt := 35) hx hb dX12_keepsRow_14 (by decide) (fun c_12 => ?_) (fun c_12 => ?_)
  · skip
    have uc_12 := i_ge (n := 5) (by decide) c_12
    exact W.vret hx hb hr (fun t ht hW => ⟨⟨(σ_7, ρ_8), rfl, ⟨hB.2.1, hB.2.2, trivial⟩, (show TP D cA L T r σ_7 ρ_8 t.heap from by rw [ht]; exact hB.1)⟩, hS.F ht⟩) hS.2.2 dX12_keepsRow_35
  · skip
    have uc_12 := i_nge (n := 5) (by decide) c_12
    refine lv_aload_n hx hb dX12_keepsRow_17 rfl (lv_at hl 1 rfl) ?_
    refine t_gr hx hb hts hown hK hG hB mh0 th0 fq_12_29 rfl mw_6_5 dX12_keepsRow_18 (fun b_13 hb_13 mb_13 tb_13 => ?_)
    refine lv_iload_n hx hb dX12_keepsRow_21 rfl (lv_at hl 0 rfl) ?_
    refine lv_aload_n hx hb dX12_keepsRow_22 rfl (lv_at hl 1 rfl) ?_
    refine t_gr hx hb hts hown hK hG hB mh0 th0 fq_12_28 rfl mw_6_4 dX12_keepsRow_23 (fun b_14 hb_14 mb_14 tb_14 => ?_)
    refine lv_iload_n hx hb dX12_keepsRow_26 rfl (lv_at hl 0 rfl) ?_
    refine t_ai hx hb hK hB mb_14 tb_14 ai_75 (fun _ => rfl) (i_in (by omega) (by omega)) dX12_keepsRow_27 (fun x_15 ex_15 lx_15 ux_15 => ?_)
    have cx_15 := congrArg Int32.toInt ex_15
    refine t_si hx hb hK hLA hB hS mb_13 tb_13 ai_76 (i_in (by omega) (by omega)) (i_lo _) (i_hi _) (Or.inr (by decide)) dX12_keepsRow_28 (fun H locs σ_16 eσ_16 hB hS => ?_)
    have k_17 : σ_16 b_13 i_6.toNatClampNeg = x_15 := by rw [eσ_16]; exact up2_same _ _ _ _
    obtain ⟨x_18, ex_18⟩ : ∃ y : Int32, y = i_6 + 1 := ⟨_, rfl⟩
    have vx_18 := b_add (rfl : i_6.toInt = _) (by decide : (1 : Int32).toInt = 1) ex_18 (by omega) (by omega)
    refine lv_iinc (v := x_18) (lv' := [(3, .int x_18), (0, .ref h0), (1, .int p1), (2, .int p2)]) hx hb dX12_keepsRow_29 hl (k := 0) rfl (by rw [ex_18]; rfl) (by decide) rfl (fun ls hl => ?_)
    refine lv_goto (tgt := 12) hx hb dX12_keepsRow_32 (by decide) ?_
    have k_19 : σ_16 h0 30 = p1 := by rw [eσ_16, up2_nea _ _ (tg_ne th0 tb_13 (by decide))]; exact k_10
    have k_20 : σ_16 h0 31 = p2 := by rw [eσ_16, up2_nea _ _ (tg_ne th0 tb_13 (by decide))]; exact k_11
    exact ih_9 ⟨x_18, σ_16, ρ_8⟩ _ _ _ ⟨(by omega), (by omega), k_19, k_20, hB, hS, lv_sub hl [0, 1, 2, 3] rfl⟩ (by show (5 - x_18.toInt).toNat < (5 - i_6.toInt).toNat; omega)
theorem mw_6_8 : (.fieldLink RX12 64 "HillBendsModel" "atMost" "[I" : Cond) ∈ wsA := wsA_t (List.mem_append_right _ (List.mem_append_right _ (List.mem_append_right _ (List.mem_append_right _ (List.mem_append_right _ (List.mem_append_left _ (List.mem_of_getElem? (l := tables_1_6) (i := 8) rfl))))))) rfl
theorem dX12_mostAgain_0 : decode cX12_mostAgain 0 = .ok (.iconst 0, 1) := by decide +kernel
theorem dX12_mostAgain_1 : decode cX12_mostAgain 1 = .ok (.istore_n 1, 1) := by decide +kernel
theorem dX12_mostAgain_2 : decode cX12_mostAgain 2 = .ok (.iload_n 1, 1) := by decide +kernel
theorem dX12_mostAgain_3 : decode cX12_mostAgain 3 = .ok (.iconst 5, 1) := by decide +kernel
theorem dX12_mostAgain_4 : decode cX12_mostAgain 4 = .ok (.if_icmp .ge 21, 3) := by decide +kernel
theorem dX12_mostAgain_7 : decode cX12_mostAgain 7 = .ok (.aload_n 0, 1) := by decide +kernel
theorem dX12_mostAgain_8 : decode cX12_mostAgain 8 = .ok (.getfield 52, 3) := by decide +kernel
theorem dX12_mostAgain_11 : decode cX12_mostAgain 11 = .ok (.iload_n 1, 1) := by decide +kernel
theorem dX12_mostAgain_12 : decode cX12_mostAgain 12 = .ok (.aload_n 0, 1) := by decide +kernel
theorem dX12_mostAgain_13 : decode cX12_mostAgain 13 = .ok (.getfield 64, 3) := by decide +kernel
theorem dX12_mostAgain_16 : decode cX12_mostAgain 16 = .ok (.iload_n 1, 1) := by decide +kernel
theorem dX12_mostAgain_17 : decode cX12_mostAgain 17 = .ok (.iaload, 1) := by decide +kernel
theorem dX12_mostAgain_18 : decode cX12_mostAgain 18 = .ok (.iastore, 1) := by decide +kernel
theorem dX12_mostAgain_19 : decode cX12_mostAgain 19 = .ok (.iinc 1 1, 3) := by decide +kernel
theorem dX12_mostAgain_22 : decode cX12_mostAgain 22 = .ok (.goto (-20), 3) := by decide +kernel
theorem dX12_mostAgain_25 : decode cX12_mostAgain 25 = .ok (.return_, 1) := by decide +kernel
set_option maxHeartbeats 4000000 in
set_option maxRecDepth 100000 in
theorem cy_X12_mostAgain (l : Launch) (D : va_G) (cA : Nat → ClassId) (L : List Nat) (T : Nat → Nat) (r : Rg) (hG : GR L T r) (hL : L.Nodup) (σ : Sg) (ρ : Lg) (hW : WT L ry T σ) (sz : Nat) (h0 : Nat) (mh0 : h0 ∈ L) (th0 : T h0 = 12) : Met l yX12_mostAgain (.code yX12_mostAgain cX12_mostAgain 2 none :: wsA) ({ frames := 0, cells := 0, slots := 0, locals := 0 }) (PR D cA L T r σ ρ sz [.ref h0]) (QV D cA L T r ry [(73, 1000)] σ sz (fun σ1 => True)) 0 0 (dm L sz) := by
  refine Met.ofW (cc := cX12_mostAgain) (maxL := 2) (ret := none) (by decide) rfl ?_
  intro p e s m args below meth c s₁ B hml hv
  obtain ⟨rfl, hsz, hP, hK, hN⟩ := hv
  have hx := B.exec
  have hb := B.bytes
  have hr := B.returns
  have hts : ∀ w ∈ wsA, w.before _ s = true := fun w h => atoms_spec (ws := .code yX12_mostAgain cX12_mostAgain 2 none :: wsA) B.pre w (List.mem_cons_of_mem _ h)
  have hown : s.vm.findClass RX12 = some m.cls := findClass_of_methodNamed B.named
  subst hsz
  have hLA : LA (dm L s.heap.size) L := ⟨hL, fun a h => Or.inl h⟩
  have hA : ∀ q : Nat, s.heap.size ≤ q → dm L s.heap.size q := fun q h => Or.inr h
  have hS : va_S (dm L s.heap.size) s.heap s.heap [] := va_S.rf
  have hB : TS D cA L T r ry [(73, 1000)] σ σ ρ s.heap := ⟨hP, hW, FR.rf⟩
  have hl := lv_entry ([.ref h0]) (n := 2) (Nat.le_of_ble_eq_true rfl)
  rw [lg_entry_eq]
  generalize (lg_sl ([.ref h0]) ++ List.replicate (2 - (lg_sl ([.ref h0])).length) Slot.unset).toArray = ls at hl ⊢
  have hl : lv_has ls 2 [(0, .ref h0)] := hl
  refine lv_iconst (v := 0) hx hb dX12_mostAgain_0 (by decide) ?_
  refine lv_istore_n (lv' := [(1, .int 0), (0, .ref h0)]) hx hb dX12_mostAgain_1 rfl hl (by decide) rfl (fun ls hl => ?_)
  refine w_loop (α := Int32 × Sg × Lg) (fun (i_1, σ_2, ρ_3) H locs ls => 0 ≤ i_1.toInt ∧ i_1.toInt ≤ 5 ∧ TS D cA L T r ry [(73, 1000)] σ σ_2 ρ_3 H ∧ va_S (dm L s.heap.size) s.heap H locs ∧ lv_has ls 2 [(1, .int i_1), (0, .ref h0)]) (fun (i_1, σ_2, ρ_3) => (5 - i_1.toInt).toNat) ?_ ⟨0, σ, ρ⟩ ⟨(by decide), (by decide), hB, hS, lv_sub hl [0, 1] rfl⟩
  rintro ⟨i_1, σ_2, ρ_3⟩ H locs ls ⟨li_1, ui_1, hB, hS, hl⟩ ih_4
  refine lv_iload_n hx hb dX12_mostAgain_2 rfl (lv_at hl 0 rfl) ?_
  refine lv_iconst (v := 5) hx hb dX12_mostAgain_3 (by decide) ?_
  refine lv_icmp_ge (tgt := 25) hx hb dX12_mostAgain_4 (by decide) (fun c_5 => ?_) (fun c_5 => ?_)
  · skip
    have uc_5 := i_ge (n := 5) (by decide) c_5
    exact W.vret hx hb hr (fun t ht hW => ⟨⟨(σ_2, ρ_3), rfl, ⟨hB.2.1, hB.2.2, trivial⟩, (show TP D cA L T r σ_2 ρ_3 t.heap from by rw [ht]; exact hB.1)⟩, hS.F ht⟩) hS.2.2 dX12_mostAgain_25
  · skip
    have uc_5 := i_nge (n := 5) (by decide) c_5
    refine lv_aload_n hx hb dX12_mostAgain_7 rfl (lv_at hl 1 rfl) ?_
    refine t_gr hx hb hts hown hK hG hB mh0 th0 fq_12_26 rfl mw_6_2 dX12_mostAgain_8 (fun b_6 hb_6 mb_6 tb_6 => ?_)
    refine lv_iload_n hx hb dX12_mostAgain_11 rfl (lv_at hl 0 rfl) ?_
    refine lv_aload_n hx hb dX12_mostAgain_12 rfl (lv_at hl 1 rfl) ?_
    refine t_gr hx hb hts hown hK hG hB mh0 th0 fq_12_32 rfl mw_6_8 dX12_mostAgain_13 (fun b_7 hb_7 mb_7 tb_7 => ?_)
    refine lv_iload_n hx hb dX12_mostAgain_16 rfl (lv_at hl 0 rfl) ?_
    refine t_ai hx hb hK hB mb_7 tb_7 ai_77 (fun _ => rfl) (i_in (by omega) (by omega)) dX12_mostAgain_17 (fun x_8 ex_8 lx_8 ux_8 => ?_)
    have cx_8 := congrArg Int32.toInt ex_8
    refine t_si hx hb hK hLA hB hS mb_6 tb_6 ai_73 (i_in (by omega) (by omega)) (i_lo _) (i_hi _) (Or.inr (by decide)) dX12_mostAgain_18 (fun H locs σ_9 eσ_9 hB hS => ?_)
    have k_10 : σ_9 b_6 i_1.toNatClampNeg = x_8 := by rw [eσ_9]; exact up2_same _ _ _ _
    obtain ⟨x_11, ex_11⟩ : ∃ y : Int32, y = i_1 + 1 := ⟨_, rfl⟩
    have vx_11 := b_add (rfl : i_1.toInt = _) (by decide : (1 : Int32).toInt = 1) ex_11 (by omega) (by omega)
    refine lv_iinc (v := x_11) (lv' := [(1, .int x_11), (0, .ref h0)]) hx hb dX12_mostAgain_19 hl (k := 0) rfl (by rw [ex_11]; rfl) (by decide) rfl (fun ls hl => ?_)
    refine lv_goto (tgt := 2) hx hb dX12_mostAgain_22 (by decide) ?_
    exact ih_4 ⟨x_11, σ_9, ρ_3⟩ _ _ _ ⟨(by omega), (by omega), hB, hS, lv_sub hl [0, 1] rfl⟩ (by show (5 - x_11.toInt).toNat < (5 - i_1.toInt).toNat; omega)
theorem dX12_rowSum_0 : decode cX12_rowSum 0 = .ok (.iconst 0, 1) := by decide +kernel
theorem dX12_rowSum_1 : decode cX12_rowSum 1 = .ok (.istore_n 2, 1) := by decide +kernel
theorem dX12_rowSum_2 : decode cX12_rowSum 2 = .ok (.iconst 0, 1) := by decide +kernel
theorem dX12_rowSum_3 : decode cX12_rowSum 3 = .ok (.istore_n 3, 1) := by decide +kernel
theorem dX12_rowSum_4 : decode cX12_rowSum 4 = .ok (.iload_n 3, 1) := by decide +kernel
theorem dX12_rowSum_5 : decode cX12_rowSum 5 = .ok (.aload_n 0, 1) := by decide +kernel
theorem dX12_rowSum_6 : decode cX12_rowSum 6 = .ok (.getfield 39, 3) := by decide +kernel
theorem dX12_rowSum_9 : decode cX12_rowSum 9 = .ok (.iconst 1, 1) := by decide +kernel
theorem dX12_rowSum_10 : decode cX12_rowSum 10 = .ok (.iaload, 1) := by decide +kernel
theorem dX12_rowSum_11 : decode cX12_rowSum 11 = .ok (.if_icmp .ge 41, 3) := by decide +kernel
theorem dX12_rowSum_14 : decode cX12_rowSum 14 = .ok (.iload_n 2, 1) := by decide +kernel
theorem dX12_rowSum_15 : decode cX12_rowSum 15 = .ok (.aload_n 0, 1) := by decide +kernel
theorem dX12_rowSum_16 : decode cX12_rowSum 16 = .ok (.getfield 58, 3) := by decide +kernel
theorem dX12_rowSum_19 : decode cX12_rowSum 19 = .ok (.iload_n 3, 1) := by decide +kernel
theorem dX12_rowSum_20 : decode cX12_rowSum 20 = .ok (.iaload, 1) := by decide +kernel
theorem dX12_rowSum_21 : decode cX12_rowSum 21 = .ok (.iload_n 1, 1) := by decide +kernel
theorem dX12_rowSum_22 : decode cX12_rowSum 22 = .ok (.iconst 3, 1) := by decide +kernel
theorem dX12_rowSum_23 : decode cX12_rowSum 23 = .ok (.if_icmp .ge 19, 3) := by decide +kernel
theorem dX12_rowSum_42 : decode cX12_rowSum 42 = .ok (.iconst 1, 1) := by decide +kernel
theorem dX12_rowSum_43 : decode cX12_rowSum 43 = .ok (.imul, 1) := by decide +kernel
theorem dX12_rowSum_44 : decode cX12_rowSum 44 = .ok (.iadd, 1) := by decide +kernel
theorem dX12_rowSum_45 : decode cX12_rowSum 45 = .ok (.istore_n 2, 1) := by decide +kernel
theorem dX12_rowSum_46 : decode cX12_rowSum 46 = .ok (.iinc 3 1, 3) := by decide +kernel
theorem dX12_rowSum_49 : decode cX12_rowSum 49 = .ok (.goto (-45), 3) := by decide +kernel
theorem dX12_rowSum_26 : decode cX12_rowSum 26 = .ok (.aload_n 0, 1) := by decide +kernel
theorem dX12_rowSum_27 : decode cX12_rowSum 27 = .ok (.getfield 39, 3) := by decide +kernel
theorem dX12_rowSum_30 : decode cX12_rowSum 30 = .ok (.bipush 94, 2) := by decide +kernel
theorem dX12_rowSum_32 : decode cX12_rowSum 32 = .ok (.iconst 3, 1) := by decide +kernel
theorem dX12_rowSum_33 : decode cX12_rowSum 33 = .ok (.iload_n 3, 1) := by decide +kernel
theorem dX12_rowSum_34 : decode cX12_rowSum 34 = .ok (.imul, 1) := by decide +kernel
theorem dX12_rowSum_35 : decode cX12_rowSum 35 = .ok (.iadd, 1) := by decide +kernel
theorem dX12_rowSum_36 : decode cX12_rowSum 36 = .ok (.iload_n 1, 1) := by decide +kernel
theorem dX12_rowSum_37 : decode cX12_rowSum 37 = .ok (.iadd, 1) := by decide +kernel
theorem dX12_rowSum_38 : decode cX12_rowSum 38 = .ok (.iaload, 1) := by decide +kernel
theorem dX12_rowSum_39 : decode cX12_rowSum 39 = .ok (.goto 4, 3) := by decide +kernel
theorem dX12_rowSum_52 : decode cX12_rowSum 52 = .ok (.iload_n 2, 1) := by decide +kernel
theorem dX12_rowSum_53 : decode cX12_rowSum 53 = .ok (.ireturn, 1) := by decide +kernel
set_option maxHeartbeats 4000000 in
set_option maxRecDepth 100000 in
theorem cy_X12_rowSum (l : Launch) (D : va_G) (cA : Nat → ClassId) (L : List Nat) (T : Nat → Nat) (r : Rg) (hG : GR L T r) (hL : L.Nodup) (σ : Sg) (ρ : Lg) (hW : WT L ry T σ) (sz : Nat) (h0 : Nat) (mh0 : h0 ∈ L) (th0 : T h0 = 12) (p1 : Int32) (w0 : 0 ≤ p1.toInt) (w1 : p1.toInt ≤ 3) : Met l yX12_rowSum (.code yX12_rowSum cX12_rowSum 4 (some .int) :: wsA) ({ frames := 0, cells := 0, slots := 0, locals := 0 }) (PR D cA L T r σ ρ sz [.ref h0, .int p1]) (QI D cA L T r ry ([] : List (Nat × Nat)) σ sz (fun x σ1 => True)) 0 0 (dm L sz) := by
  refine Met.ofW (cc := cX12_rowSum) (maxL := 4) (ret := (some .int)) (by decide) rfl ?_
  intro p e s m args below meth c s₁ B hml hv
  obtain ⟨rfl, hsz, hP, hK, hN⟩ := hv
  have hx := B.exec
  have hb := B.bytes
  have hr := B.returns
  have hts : ∀ w ∈ wsA, w.before _ s = true := fun w h => atoms_spec (ws := .code yX12_rowSum cX12_rowSum 4 (some .int) :: wsA) B.pre w (List.mem_cons_of_mem _ h)
  have hown : s.vm.findClass RX12 = some m.cls := findClass_of_methodNamed B.named
  subst hsz
  have hLA : LA (dm L s.heap.size) L := ⟨hL, fun a h => Or.inl h⟩
  have hA : ∀ q : Nat, s.heap.size ≤ q → dm L s.heap.size q := fun q h => Or.inr h
  have hS : va_S (dm L s.heap.size) s.heap s.heap [] := va_S.rf
  have hB : TS D cA L T r ry ([] : List (Nat × Nat)) σ σ ρ s.heap := ⟨hP, hW, FR.rf⟩
  have hl := lv_entry ([.ref h0, .int p1]) (n := 4) (Nat.le_of_ble_eq_true rfl)
  rw [lg_entry_eq]
  generalize (lg_sl ([.ref h0, .int p1]) ++ List.replicate (4 - (lg_sl ([.ref h0, .int p1])).length) Slot.unset).toArray = ls at hl ⊢
  have hl : lv_has ls 4 [(0, .ref h0), (1, .int p1)] := hl
  refine lv_iconst (v := 0) hx hb dX12_rowSum_0 (by decide) ?_
  refine lv_istore_n (lv' := [(2, .int 0), (0, .ref h0), (1, .int p1)]) hx hb dX12_rowSum_1 rfl hl (by decide) rfl (fun ls hl => ?_)
  refine lv_iconst (v := 0) hx hb dX12_rowSum_2 (by decide) ?_
  refine lv_istore_n (lv' := [(3, .int 0), (2, .int 0), (0, .ref h0), (1, .int p1)]) hx hb dX12_rowSum_3 rfl hl (by decide) rfl (fun ls hl => ?_)
  refine w_loop (α := Int32 × Int32 × Sg × Lg) (fun (i_1, i_2, σ_3, ρ_4) H locs ls => 0 ≤ i_2.toInt ∧ i_2.toInt ≤ 5 ∧ TS D cA L T r ry ([] : List (Nat × Nat)) σ σ_3 ρ_4 H ∧ va_S (dm L s.heap.size) s.heap H locs ∧ lv_has ls 4 [(3, .int i_2), (2, .int i_1), (0, .ref h0), (1, .int p1)]) (fun (i_1, i_2, σ_3, ρ_4) => (5 - i_2.toInt).toNat) ?_ ⟨0, 0, σ, ρ⟩ ⟨(by decide), (by decide), hB, hS, lv_sub hl [0, 1, 2, 3] rfl⟩
  rintro ⟨i_1, i_2, σ_3, ρ_4⟩ H locs ls ⟨li_2, ui_2, hB, hS, hl⟩ ih_5
  refine lv_iload_n hx hb dX12_rowSum_4 rfl (lv_at hl 0 rfl) ?_
  refine lv_aload_n hx hb dX12_rowSum_5 rfl (lv_at hl 2 rfl) ?_
  refine t_gr hx hb hts hown hK hG hB mh0 th0 fq_12_20 rfl mw_5_236 dX12_rowSum_6 (fun b_6 hb_6 mb_6 tb_6 => ?_)
  refine lv_iconst (v := 1) hx hb dX12_rowSum_9 (by decide) ?_
  refine t_aj hx hb hK hB mb_6 tb_6 ai_70 (i_in (by decide) (by decide)) dX12_rowSum_10 (fun x_7 ex_7 lx_7 ux_7 => ?_)
  have lx_7 : 0 ≤ x_7.toInt := lx_7
  have ux_7 : x_7.toInt ≤ 5 := ux_7
  have cx_7 := congrArg Int32.toInt ex_7
  refine lv_icmp_ge (tgt := 52) hx hb dX12_rowSum_11 (by decide) (fun c_8 => ?_) (fun c_8 => ?_)
  · skip
    have uc_8 := j_le c_8
    refine lv_iload_n hx hb dX12_rowSum_52 rfl (lv_at hl 1 rfl) ?_
    exact W.iret (v := i_1) hx hb hr (fun t ht hW => ⟨⟨i_1, (σ_3, ρ_4), rfl, ⟨hB.2.1, hB.2.2, trivial⟩, (show TP D cA L T r σ_3 ρ_4 t.heap from by rw [ht]; exact hB.1)⟩, hS.F ht⟩) hS.2.2 dX12_rowSum_53
  · skip
    have uc_8 := j_nle c_8
    refine lv_iload_n hx hb dX12_rowSum_14 rfl (lv_at hl 1 rfl) ?_
    refine lv_aload_n hx hb dX12_rowSum_15 rfl (lv_at hl 2 rfl) ?_
    refine t_gr hx hb hts hown hK hG hB mh0 th0 fq_12_28 rfl mw_6_4 dX12_rowSum_16 (fun b_9 hb_9 mb_9 tb_9 => ?_)
    refine lv_iload_n hx hb dX12_rowSum_19 rfl (lv_at hl 0 rfl) ?_
    refine t_ai hx hb hK hB mb_9 tb_9 ai_75 (fun _ => rfl) (i_in (by omega) (by omega)) dX12_rowSum_20 (fun x_10 ex_10 lx_10 ux_10 => ?_)
    have cx_10 := congrArg Int32.toInt ex_10
    refine lv_iload_n hx hb dX12_rowSum_21 rfl (lv_at hl 3 rfl) ?_
    refine lv_iconst (v := 3) hx hb dX12_rowSum_22 (by decide) ?_
    refine lv_icmp_ge (tgt := 42) hx hb dX12_rowSum_23 (by decide) (fun c_11 => ?_) (fun c_11 => ?_)
    · skip
      have uc_11 := i_ge (n := 3) (by decide) c_11
      refine lv_iconst (v := 1) hx hb dX12_rowSum_42 (by decide) ?_
      refine lv_imul hx hb dX12_rowSum_43 ?_
      refine lv_topi (fun x_12 ex_12 => ?_)
      have vx_12 := b_mul (rfl : x_10.toInt = _) (by decide : (1 : Int32).toInt = 1) ex_12 (by omega) (by omega)
      refine lv_iadd hx hb dX12_rowSum_44 ?_
      refine lv_topi (fun x_13 ex_13 => ?_)
      try have vx_13 := b_add (rfl : i_1.toInt = _) (rfl : x_12.toInt = _) ex_13 (by omega) (by omega)
      refine lv_istore_n (lv' := [(2, .int x_13), (3, .int i_2), (0, .ref h0), (1, .int p1)]) hx hb dX12_rowSum_45 rfl hl (by decide) rfl (fun ls hl => ?_)
      obtain ⟨x_14, ex_14⟩ : ∃ y : Int32, y = i_2 + 1 := ⟨_, rfl⟩
      have vx_14 := b_add (rfl : i_2.toInt = _) (by decide : (1 : Int32).toInt = 1) ex_14 (by omega) (by omega)
      refine lv_iinc (v := x_14) (lv' := [(3, .int x_14), (2, .int x_13), (0, .ref h0), (1, .int p1)]) hx hb dX12_rowSum_46 hl (k := 1) rfl (by rw [ex_14]; rfl) (by decide) rfl (fun ls hl => ?_)
      refine lv_goto (tgt := 4) hx hb dX12_rowSum_49 (by decide) ?_
      exact ih_5 ⟨x_13, x_14, σ_3, ρ_4⟩ _ _ _ ⟨(by omega), (by omega), hB, hS, lv_sub hl [0, 1, 2, 3] rfl⟩ (by show (5 - x_14.toInt).toNat < (5 - i_2.toInt).toNat; omega)
    · skip
      have uc_11 := i_nge (n := 3) (by decide) c_11
      refine lv_aload_n hx hb dX12_rowSum_26 rfl (lv_at hl 2 rfl) ?_
      refine t_gk hx hb hts hown hK hB mh0 th0 fq_12_20 hb_6 mw_5_236 dX12_rowSum_27 ?_
      refine lv_bipush (v := 94) hx hb dX12_rowSum_30 (by decide) ?_
      refine lv_iconst (v := 3) hx hb dX12_rowSum_32 (by decide) ?_
      refine lv_iload_n hx hb dX12_rowSum_33 rfl (lv_at hl 0 rfl) ?_
      refine lv_imul hx hb dX12_rowSum_34 ?_
      refine lv_topi (fun x_15 ex_15 => ?_)
      have vx_15 := b_mul (by decide : (3 : Int32).toInt = 3) (rfl : i_2.toInt = _) ex_15 (by omega) (by omega)
      refine lv_iadd hx hb dX12_rowSum_35 ?_
      refine lv_topi (fun x_16 ex_16 => ?_)
      have vx_16 := b_add (by decide : (94 : Int32).toInt = 94) (rfl : x_15.toInt = _) ex_16 (by omega) (by omega)
      refine lv_iload_n hx hb dX12_rowSum_36 rfl (lv_at hl 3 rfl) ?_
      refine lv_iadd hx hb dX12_rowSum_37 ?_
      refine lv_topi (fun x_17 ex_17 => ?_)
      have vx_17 := b_add (rfl : x_16.toInt = _) (rfl : p1.toInt = _) ex_17 (by omega) (by omega)
      refine t_aj hx hb hK hB mb_6 tb_6 ai_70 (i_in (by omega) (by omega)) dX12_rowSum_38 (fun x_18 ex_18 lx_18 ux_18 => ?_)
      clear lx_18 ux_18
      have cx_18 := congrArg Int32.toInt ex_18
      refine lv_goto (tgt := 43) hx hb dX12_rowSum_39 (by decide) ?_
      refine lv_imul hx hb dX12_rowSum_43 ?_
      refine lv_topi (fun x_19 ex_19 => ?_)
      refine lv_iadd hx hb dX12_rowSum_44 ?_
      refine lv_topi (fun x_20 ex_20 => ?_)
      try have vx_20 := b_add (rfl : i_1.toInt = _) (rfl : x_19.toInt = _) ex_20 (by omega) (by omega)
      refine lv_istore_n (lv' := [(2, .int x_20), (3, .int i_2), (0, .ref h0), (1, .int p1)]) hx hb dX12_rowSum_45 rfl hl (by decide) rfl (fun ls hl => ?_)
      obtain ⟨x_21, ex_21⟩ : ∃ y : Int32, y = i_2 + 1 := ⟨_, rfl⟩
      have vx_21 := b_add (rfl : i_2.toInt = _) (by decide : (1 : Int32).toInt = 1) ex_21 (by omega) (by omega)
      refine lv_iinc (v := x_21) (lv' := [(3, .int x_21), (2, .int x_20), (0, .ref h0), (1, .int p1)]) hx hb dX12_rowSum_46 hl (k := 1) rfl (by rw [ex_21]; rfl) (by decide) rfl (fun ls hl => ?_)
      refine lv_goto (tgt := 4) hx hb dX12_rowSum_49 (by decide) ?_
      exact ih_5 ⟨x_20, x_21, σ_3, ρ_4⟩ _ _ _ ⟨(by omega), (by omega), hB, hS, lv_sub hl [0, 1, 2, 3] rfl⟩ (by show (5 - x_21.toInt).toNat < (5 - i_2.toInt).toNat; omega)
theorem mw_8_20 : (.instanceMethod yX12_rowSum : Cond) ∈ wsA := wsA_t (List.mem_append_right _ (List.mem_append_right _ (List.mem_append_right _ (List.mem_append_right _ (List.mem_append_right _ (List.mem_append_right _ (List.mem_append_right _ (List.mem_of_getElem? (l := tables_1_8) (i := 20) rfl)))))))) rfl
theorem mp_7_11 : (.selects RX12 yX12_rowSum yX12_rowSum : Cond) ∈ wsA := wsA_p (q := (yX12_rowSum, 44)) (List.mem_append_right _ (List.mem_append_right _ (List.mem_append_right _ (List.mem_append_right _ (List.mem_append_right _ (List.mem_append_right _ (List.mem_append_left _ (List.mem_of_getElem? (l := lw_privs_7) (i := 11) rfl))))))))
theorem mw_8_21 : (.code yX12_rowSum cX12_rowSum 4 (some .int) : Cond) ∈ wsA := wsA_t (List.mem_append_right _ (List.mem_append_right _ (List.mem_append_right _ (List.mem_append_right _ (List.mem_append_right _ (List.mem_append_right _ (List.mem_append_right _ (List.mem_of_getElem? (l := tables_1_8) (i := 21) rfl)))))))) rfl
theorem mw_8_18 : (.methodLink RX12 398 yX12_rowSum : Cond) ∈ wsA := wsA_t (List.mem_append_right _ (List.mem_append_right _ (List.mem_append_right _ (List.mem_append_right _ (List.mem_append_right _ (List.mem_append_right _ (List.mem_append_right _ (List.mem_of_getElem? (l := tables_1_8) (i := 18) rfl)))))))) rfl
theorem dX12_canHaveRow_0 : decode cX12_canHaveRow 0 = .ok (.iconst 0, 1) := by decide +kernel
theorem dX12_canHaveRow_1 : decode cX12_canHaveRow 1 = .ok (.istore_n 2, 1) := by decide +kernel
theorem dX12_canHaveRow_2 : decode cX12_canHaveRow 2 = .ok (.iload_n 2, 1) := by decide +kernel
theorem dX12_canHaveRow_3 : decode cX12_canHaveRow 3 = .ok (.aload_n 0, 1) := by decide +kernel
theorem dX12_canHaveRow_4 : decode cX12_canHaveRow 4 = .ok (.getfield 39, 3) := by decide +kernel
theorem dX12_canHaveRow_7 : decode cX12_canHaveRow 7 = .ok (.iconst 1, 1) := by decide +kernel
theorem dX12_canHaveRow_8 : decode cX12_canHaveRow 8 = .ok (.iaload, 1) := by decide +kernel
theorem dX12_canHaveRow_9 : decode cX12_canHaveRow 9 = .ok (.if_icmp .ge 29, 3) := by decide +kernel
theorem dX12_canHaveRow_12 : decode cX12_canHaveRow 12 = .ok (.aload_n 0, 1) := by decide +kernel
theorem dX12_canHaveRow_13 : decode cX12_canHaveRow 13 = .ok (.iload_n 1, 1) := by decide +kernel
theorem dX12_canHaveRow_14 : decode cX12_canHaveRow 14 = .ok (.iload_n 2, 1) := by decide +kernel
theorem dX12_canHaveRow_15 : decode cX12_canHaveRow 15 = .ok (.invokevirtual 304, 3) := by decide +kernel
theorem dX12_canHaveRow_18 : decode cX12_canHaveRow 18 = .ok (.aload_n 0, 1) := by decide +kernel
theorem dX12_canHaveRow_19 : decode cX12_canHaveRow 19 = .ok (.getfield 58, 3) := by decide +kernel
theorem dX12_canHaveRow_22 : decode cX12_canHaveRow 22 = .ok (.iload_n 2, 1) := by decide +kernel
theorem dX12_canHaveRow_23 : decode cX12_canHaveRow 23 = .ok (.iaload, 1) := by decide +kernel
theorem dX12_canHaveRow_24 : decode cX12_canHaveRow 24 = .ok (.iadd, 1) := by decide +kernel
theorem dX12_canHaveRow_25 : decode cX12_canHaveRow 25 = .ok (.bipush 9, 2) := by decide +kernel
theorem dX12_canHaveRow_27 : decode cX12_canHaveRow 27 = .ok (.if_icmp .le 5, 3) := by decide +kernel
theorem dX12_canHaveRow_32 : decode cX12_canHaveRow 32 = .ok (.iinc 2 1, 3) := by decide +kernel
theorem dX12_canHaveRow_35 : decode cX12_canHaveRow 35 = .ok (.goto (-33), 3) := by decide +kernel
theorem dX12_canHaveRow_30 : decode cX12_canHaveRow 30 = .ok (.iconst 0, 1) := by decide +kernel
theorem dX12_canHaveRow_31 : decode cX12_canHaveRow 31 = .ok (.ireturn, 1) := by decide +kernel
theorem dX12_canHaveRow_38 : decode cX12_canHaveRow 38 = .ok (.aload_n 0, 1) := by decide +kernel
theorem dX12_canHaveRow_39 : decode cX12_canHaveRow 39 = .ok (.iload_n 1, 1) := by decide +kernel
theorem dX12_canHaveRow_40 : decode cX12_canHaveRow 40 = .ok (.invokevirtual 310, 3) := by decide +kernel
theorem dX12_canHaveRow_43 : decode cX12_canHaveRow 43 = .ok (.aload_n 0, 1) := by decide +kernel
theorem dX12_canHaveRow_44 : decode cX12_canHaveRow 44 = .ok (.iconst 0, 1) := by decide +kernel
theorem dX12_canHaveRow_45 : decode cX12_canHaveRow 45 = .ok (.invokevirtual 398, 3) := by decide +kernel
theorem dX12_canHaveRow_48 : decode cX12_canHaveRow 48 = .ok (.iadd, 1) := by decide +kernel
theorem dX12_canHaveRow_49 : decode cX12_canHaveRow 49 = .ok (.aload_n 0, 1) := by decide +kernel
theorem dX12_canHaveRow_50 : decode cX12_canHaveRow 50 = .ok (.getfield 39, 3) := by decide +kernel
theorem dX12_canHaveRow_53 : decode cX12_canHaveRow 53 = .ok (.iconst 0, 1) := by decide +kernel
theorem dX12_canHaveRow_54 : decode cX12_canHaveRow 54 = .ok (.iaload, 1) := by decide +kernel
theorem dX12_canHaveRow_55 : decode cX12_canHaveRow 55 = .ok (.if_icmp .gt 7, 3) := by decide +kernel
theorem dX12_canHaveRow_62 : decode cX12_canHaveRow 62 = .ok (.iconst 0, 1) := by decide +kernel
theorem dX12_canHaveRow_63 : decode cX12_canHaveRow 63 = .ok (.ireturn, 1) := by decide +kernel
theorem dX12_canHaveRow_58 : decode cX12_canHaveRow 58 = .ok (.iconst 1, 1) := by decide +kernel
theorem dX12_canHaveRow_59 : decode cX12_canHaveRow 59 = .ok (.goto 4, 3) := by decide +kernel
theorem mv_X12_rowSum : MV RX12 yX12_rowSum cX12_rowSum 4 (some .int) 1 := ⟨mw_8_20, mp_7_11, mw_1_13, mw_8_21, ⟨rfl, by decide, by decide, by decide +kernel⟩⟩
set_option maxHeartbeats 4000000 in
set_option maxRecDepth 100000 in
theorem cy_X12_canHaveRow (l : Launch) (D : va_G) (cA : Nat → ClassId) (L : List Nat) (T : Nat → Nat) (r : Rg) (hG : GR L T r) (hL : L.Nodup) (σ : Sg) (ρ : Lg) (hW : WT L ry T σ) (sz : Nat) (h0 : Nat) (mh0 : h0 ∈ L) (th0 : T h0 = 12) (p1 : Int32) (w0 : 0 ≤ p1.toInt) (w1 : p1.toInt ≤ 3) : Met l yX12_canHaveRow (.code yX12_canHaveRow cX12_canHaveRow 3 (some .boolean) :: wsA) ({ frames := 2, cells := 0, slots := 0, locals := 45 }) (PR D cA L T r σ ρ sz [.ref h0, .int p1]) (QI D cA L T r ry ([] : List (Nat × Nat)) σ sz (fun x σ1 => (0 ≤ x.toInt ∧ x.toInt ≤ 1))) 0 0 (dm L sz) := by
  refine Met.ofW (cc := cX12_canHaveRow) (maxL := 3) (ret := (some .boolean)) (by decide) rfl ?_
  intro p e s m args below meth c s₁ B hml hv
  obtain ⟨rfl, hsz, hP, hK, hN⟩ := hv
  have hx := B.exec
  have hb := B.bytes
  have hr := B.returns
  have hts : ∀ w ∈ wsA, w.before _ s = true := fun w h => atoms_spec (ws := .code yX12_canHaveRow cX12_canHaveRow 3 (some .boolean) :: wsA) B.pre w (List.mem_cons_of_mem _ h)
  have hown : s.vm.findClass RX12 = some m.cls := findClass_of_methodNamed B.named
  subst hsz
  have hLA : LA (dm L s.heap.size) L := ⟨hL, fun a h => Or.inl h⟩
  have hA : ∀ q : Nat, s.heap.size ≤ q → dm L s.heap.size q := fun q h => Or.inr h
  have hS : va_S (dm L s.heap.size) s.heap s.heap [] := va_S.rf
  have hB : TS D cA L T r ry ([] : List (Nat × Nat)) σ σ ρ s.heap := ⟨hP, hW, FR.rf⟩
  have hl := lv_entry ([.ref h0, .int p1]) (n := 3) (Nat.le_of_ble_eq_true rfl)
  rw [lg_entry_eq]
  generalize (lg_sl ([.ref h0, .int p1]) ++ List.replicate (3 - (lg_sl ([.ref h0, .int p1])).length) Slot.unset).toArray = ls at hl ⊢
  have hl : lv_has ls 3 [(0, .ref h0), (1, .int p1)] := hl
  refine lv_iconst (v := 0) hx hb dX12_canHaveRow_0 (by decide) ?_
  refine lv_istore_n (lv' := [(2, .int 0), (0, .ref h0), (1, .int p1)]) hx hb dX12_canHaveRow_1 rfl hl (by decide) rfl (fun ls hl => ?_)
  refine w_loop (α := Int32 × Sg × Lg) (fun (i_1, σ_2, ρ_3) H locs ls => 0 ≤ i_1.toInt ∧ i_1.toInt ≤ 5 ∧ TS D cA L T r ry ([] : List (Nat × Nat)) σ σ_2 ρ_3 H ∧ va_S (dm L s.heap.size) s.heap H locs ∧ lv_has ls 3 [(2, .int i_1), (0, .ref h0), (1, .int p1)]) (fun (i_1, σ_2, ρ_3) => (5 - i_1.toInt).toNat) ?_ ⟨0, σ, ρ⟩ ⟨(by decide), (by decide), hB, hS, lv_sub hl [0, 1, 2] rfl⟩
  rintro ⟨i_1, σ_2, ρ_3⟩ H locs ls ⟨li_1, ui_1, hB, hS, hl⟩ ih_4
  refine lv_iload_n hx hb dX12_canHaveRow_2 rfl (lv_at hl 0 rfl) ?_
  refine lv_aload_n hx hb dX12_canHaveRow_3 rfl (lv_at hl 1 rfl) ?_
  refine t_gr hx hb hts hown hK hG hB mh0 th0 fq_12_20 rfl mw_5_236 dX12_canHaveRow_4 (fun b_5 hb_5 mb_5 tb_5 => ?_)
  refine lv_iconst (v := 1) hx hb dX12_canHaveRow_7 (by decide) ?_
  refine t_aj hx hb hK hB mb_5 tb_5 ai_70 (i_in (by decide) (by decide)) dX12_canHaveRow_8 (fun x_6 ex_6 lx_6 ux_6 => ?_)
  have lx_6 : 0 ≤ x_6.toInt := lx_6
  have ux_6 : x_6.toInt ≤ 5 := ux_6
  have cx_6 := congrArg Int32.toInt ex_6
  refine lv_icmp_ge (tgt := 38) hx hb dX12_canHaveRow_9 (by decide) (fun c_7 => ?_) (fun c_7 => ?_)
  · skip
    have uc_7 := j_le c_7
    refine lv_aload_n hx hb dX12_canHaveRow_38 rfl (lv_at hl 1 rfl) ?_
    refine lv_iload_n hx hb dX12_canHaveRow_39 rfl (lv_at hl 2 rfl) ?_
    refine t_ci (va_runV (As := [.int p1]) (rest := []) ⟨hx, hb, hml, hown, hts⟩ (cy_X12_carried l D cA L T r hG hLA.1 σ_2 ρ_3 hB.2.1 _ h0 mh0 th0 p1 (by first | omega | decide) (by first | omega | decide)) (cV hts mv_X12_carried mw_7_73 rfl rfl ⟨Nat.le_of_ble_eq_true rfl, Nat.le_of_ble_eq_true rfl⟩) (pV hB.1 hK hN mh0 th0 (show shp cA 12 _ _ _ = .inr (12, Fs12 _ _ _) from rfl) rfl) rfl rfl hl.1 rfl (lv_room (Nat.le_of_ble_eq_true rfl)) dX12_canHaveRow_40 ⟨Nat.le_of_ble_eq_true rfl, Nat.le_of_ble_eq_true rfl⟩) hLA hA hB hS (by decide) (fun x_10 σ_8 ρ_9 H locs hB fσ_8 pσ_8 hS => ?_)
    have qσ_8 := FR.nil fσ_8
    subst qσ_8
    refine lv_aload_n hx hb dX12_canHaveRow_43 rfl (lv_at hl 1 rfl) ?_
    refine lv_iconst (v := 0) hx hb dX12_canHaveRow_44 (by decide) ?_
    refine t_ci (va_runV (As := [.int 0]) (rest := [.int x_10]) ⟨hx, hb, hml, hown, hts⟩ (cy_X12_rowSum l D cA L T r hG hLA.1 σ_2 ρ_9 hB.2.1 _ h0 mh0 th0 0 (by first | omega | decide) (by first | omega | decide)) (cV hts mv_X12_rowSum mw_8_18 rfl rfl ⟨Nat.le_of_ble_eq_true rfl, Nat.le_of_ble_eq_true rfl⟩) (pV hB.1 hK hN mh0 th0 (show shp cA 12 _ _ _ = .inr (12, Fs12 _ _ _) from rfl) rfl) rfl rfl hl.1 rfl (lv_room (Nat.le_of_ble_eq_true rfl)) dX12_canHaveRow_45 ⟨Nat.le_of_ble_eq_true rfl, Nat.le_of_ble_eq_true rfl⟩) hLA hA hB hS (by decide) (fun x_13 σ_11 ρ_12 H locs hB fσ_11 pσ_11 hS => ?_)
    have qσ_11 := FR.nil fσ_11
    subst qσ_11
    refine lv_iadd hx hb dX12_canHaveRow_48 ?_
    refine lv_topi (fun x_14 ex_14 => ?_)
    try have vx_14 := b_add (rfl : x_10.toInt = _) (rfl : x_13.toInt = _) ex_14 (by omega) (by omega)
    refine lv_aload_n hx hb dX12_canHaveRow_49 rfl (lv_at hl 1 rfl) ?_
    refine t_gk hx hb hts hown hK hB mh0 th0 fq_12_20 hb_5 mw_5_236 dX12_canHaveRow_50 ?_
    refine lv_iconst (v := 0) hx hb dX12_canHaveRow_53 (by decide) ?_
    refine t_aj hx hb hK hB mb_5 tb_5 ai_70 (i_in (by decide) (by decide)) dX12_canHaveRow_54 (fun x_15 ex_15 lx_15 ux_15 => ?_)
    have lx_15 : (-2147483648) ≤ x_15.toInt := lx_15
    have ux_15 : x_15.toInt ≤ 2147483647 := ux_15
    have cx_15 := congrArg Int32.toInt ex_15
    refine lv_icmp_gt (tgt := 62) hx hb dX12_canHaveRow_55 (by decide) (fun c_16 => ?_) (fun c_16 => ?_)
    · skip
      have uc_16 := j_lt c_16
      refine lv_iconst (v := 0) hx hb dX12_canHaveRow_62 (by decide) ?_
      exact W.zret (v := 0) hx hb hr rfl (fun t ht hW => ⟨⟨0, (σ_2, ρ_12), rfl, ⟨hB.2.1, hB.2.2, (show 0 ≤ (0 : Int32).toInt ∧ (0 : Int32).toInt ≤ 1 from ⟨by decide, by decide⟩)⟩, (show TP D cA L T r σ_2 ρ_12 t.heap from by rw [ht]; exact hB.1)⟩, hS.F ht⟩) hS.2.2 dX12_canHaveRow_63
    · skip
      have uc_16 := j_nlt c_16
      refine lv_iconst (v := 1) hx hb dX12_canHaveRow_58 (by decide) ?_
      refine lv_goto (tgt := 63) hx hb dX12_canHaveRow_59 (by decide) ?_
      exact W.zret (v := 1) hx hb hr rfl (fun t ht hW => ⟨⟨1, (σ_2, ρ_12), rfl, ⟨hB.2.1, hB.2.2, (show 0 ≤ (1 : Int32).toInt ∧ (1 : Int32).toInt ≤ 1 from ⟨by decide, by decide⟩)⟩, (show TP D cA L T r σ_2 ρ_12 t.heap from by rw [ht]; exact hB.1)⟩, hS.F ht⟩) hS.2.2 dX12_canHaveRow_63
  · skip
    have uc_7 := j_nle c_7
    refine lv_aload_n hx hb dX12_canHaveRow_12 rfl (lv_at hl 1 rfl) ?_
    refine lv_iload_n hx hb dX12_canHaveRow_13 rfl (lv_at hl 2 rfl) ?_
    refine lv_iload_n hx hb dX12_canHaveRow_14 rfl (lv_at hl 0 rfl) ?_
    refine t_ci (va_runV (As := [.int p1, .int i_1]) (rest := []) ⟨hx, hb, hml, hown, hts⟩ (cy_X12_hasOf l D cA L T r hG hLA.1 σ_2 ρ_3 hB.2.1 _ h0 mh0 th0 p1 i_1 (by first | omega | decide) (by first | omega | decide) (by first | omega | decide) (by first | omega | decide)) (cV hts mv_X12_hasOf mw_7_77 rfl rfl ⟨Nat.le_of_ble_eq_true rfl, Nat.le_of_ble_eq_true rfl⟩) (pV hB.1 hK hN mh0 th0 (show shp cA 12 _ _ _ = .inr (12, Fs12 _ _ _) from rfl) rfl) rfl rfl hl.1 rfl (lv_room (Nat.le_of_ble_eq_true rfl)) dX12_canHaveRow_15 ⟨Nat.le_of_ble_eq_true rfl, Nat.le_of_ble_eq_true rfl⟩) hLA hA hB hS (by decide) (fun x_19 σ_17 ρ_18 H locs hB fσ_17 pσ_17 hS => ?_)
    have qσ_17 := FR.nil fσ_17
    subst qσ_17
    refine lv_aload_n hx hb dX12_canHaveRow_18 rfl (lv_at hl 1 rfl) ?_
    refine t_gr hx hb hts hown hK hG hB mh0 th0 fq_12_28 rfl mw_6_4 dX12_canHaveRow_19 (fun b_20 hb_20 mb_20 tb_20 => ?_)
    refine lv_iload_n hx hb dX12_canHaveRow_22 rfl (lv_at hl 0 rfl) ?_
    refine t_ai hx hb hK hB mb_20 tb_20 ai_75 (fun _ => rfl) (i_in (by omega) (by omega)) dX12_canHaveRow_23 (fun x_21 ex_21 lx_21 ux_21 => ?_)
    have cx_21 := congrArg Int32.toInt ex_21
    refine lv_iadd hx hb dX12_canHaveRow_24 ?_
    refine lv_topi (fun x_22 ex_22 => ?_)
    try have vx_22 := b_add (rfl : x_19.toInt = _) (rfl : x_21.toInt = _) ex_22 (by omega) (by omega)
    refine lv_bipush (v := 9) hx hb dX12_canHaveRow_25 (by decide) ?_
    refine lv_icmp_le (tgt := 32) hx hb dX12_canHaveRow_27 (by decide) (fun c_23 => ?_) (fun c_23 => ?_)
    · skip
      have uc_23 := i_le (n := 9) (by decide) c_23
      obtain ⟨x_24, ex_24⟩ : ∃ y : Int32, y = i_1 + 1 := ⟨_, rfl⟩
      have vx_24 := b_add (rfl : i_1.toInt = _) (by decide : (1 : Int32).toInt = 1) ex_24 (by omega) (by omega)
      refine lv_iinc (v := x_24) (lv' := [(2, .int x_24), (0, .ref h0), (1, .int p1)]) hx hb dX12_canHaveRow_32 hl (k := 0) rfl (by rw [ex_24]; rfl) (by decide) rfl (fun ls hl => ?_)
      refine lv_goto (tgt := 2) hx hb dX12_canHaveRow_35 (by decide) ?_
      exact ih_4 ⟨x_24, σ_2, ρ_18⟩ _ _ _ ⟨(by omega), (by omega), hB, hS, lv_sub hl [0, 1, 2] rfl⟩ (by show (5 - x_24.toInt).toNat < (5 - i_1.toInt).toNat; omega)
    · skip
      have uc_23 := i_nle (n := 9) (by decide) c_23
      refine lv_iconst (v := 0) hx hb dX12_canHaveRow_30 (by decide) ?_
      exact W.zret (v := 0) hx hb hr rfl (fun t ht hW => ⟨⟨0, (σ_2, ρ_18), rfl, ⟨hB.2.1, hB.2.2, (show 0 ≤ (0 : Int32).toInt ∧ (0 : Int32).toInt ≤ 1 from ⟨by decide, by decide⟩)⟩, (show TP D cA L T r σ_2 ρ_18 t.heap from by rw [ht]; exact hB.1)⟩, hS.F ht⟩) hS.2.2 dX12_canHaveRow_31
theorem mw_7_125 : (.instanceMethod yX12_isHill : Cond) ∈ wsA := wsA_t (List.mem_append_right _ (List.mem_append_right _ (List.mem_append_right _ (List.mem_append_right _ (List.mem_append_right _ (List.mem_append_right _ (List.mem_append_left _ (List.mem_of_getElem? (l := tables_1_7) (i := 125) rfl)))))))) rfl
theorem mp_6_8 : (.selects RX12 yX12_isHill yX12_isHill : Cond) ∈ wsA := wsA_p (q := (yX12_isHill, 44)) (List.mem_append_right _ (List.mem_append_right _ (List.mem_append_right _ (List.mem_append_right _ (List.mem_append_right _ (List.mem_append_left _ (List.mem_of_getElem? (l := lw_privs_6) (i := 8) rfl)))))))
theorem mw_7_126 : (.code yX12_isHill cX12_isHill 1 (some .boolean) : Cond) ∈ wsA := wsA_t (List.mem_append_right _ (List.mem_append_right _ (List.mem_append_right _ (List.mem_append_right _ (List.mem_append_right _ (List.mem_append_right _ (List.mem_append_left _ (List.mem_of_getElem? (l := tables_1_7) (i := 126) rfl)))))))) rfl
theorem mw_7_123 : (.methodLink RX12 354 yX12_isHill : Cond) ∈ wsA := wsA_t (List.mem_append_right _ (List.mem_append_right _ (List.mem_append_right _ (List.mem_append_right _ (List.mem_append_right _ (List.mem_append_right _ (List.mem_append_left _ (List.mem_of_getElem? (l := tables_1_7) (i := 123) rfl)))))))) rfl
theorem mw_8_52 : (.instanceMethod yX12_worthOf : Cond) ∈ wsA := wsA_t (List.mem_append_right _ (List.mem_append_right _ (List.mem_append_right _ (List.mem_append_right _ (List.mem_append_right _ (List.mem_append_right _ (List.mem_append_right _ (List.mem_of_getElem? (l := tables_1_8) (i := 52) rfl)))))))) rfl
theorem mp_8_1 : (.selects RX12 yX12_worthOf yX12_worthOf : Cond) ∈ wsA := wsA_p (q := (yX12_worthOf, 44)) (List.mem_append_right _ (List.mem_append_right _ (List.mem_append_right _ (List.mem_append_right _ (List.mem_append_right _ (List.mem_append_right _ (List.mem_append_right _ (List.mem_of_getElem? (l := lw_privs_8) (i := 1) rfl))))))))
theorem mw_8_53 : (.code yX12_worthOf cX12_worthOf 2 (some .int) : Cond) ∈ wsA := wsA_t (List.mem_append_right _ (List.mem_append_right _ (List.mem_append_right _ (List.mem_append_right _ (List.mem_append_right _ (List.mem_append_right _ (List.mem_append_right _ (List.mem_of_getElem? (l := tables_1_8) (i := 53) rfl)))))))) rfl
theorem mw_8_50 : (.methodLink RX12 419 yX12_worthOf : Cond) ∈ wsA := wsA_t (List.mem_append_right _ (List.mem_append_right _ (List.mem_append_right _ (List.mem_append_right _ (List.mem_append_right _ (List.mem_append_right _ (List.mem_append_right _ (List.mem_of_getElem? (l := tables_1_8) (i := 50) rfl)))))))) rfl
theorem dX12_rich_0 : decode cX12_rich 0 = .ok (.aload_n 0, 1) := by decide +kernel
theorem dX12_rich_1 : decode cX12_rich 1 = .ok (.invokevirtual 354, 3) := by decide +kernel
theorem dX12_rich_4 : decode cX12_rich 4 = .ok (.ifCond .eq 13, 3) := by decide +kernel
theorem dX12_rich_17 : decode cX12_rich 17 = .ok (.iconst (-1), 1) := by decide +kernel
theorem dX12_rich_18 : decode cX12_rich 18 = .ok (.ireturn, 1) := by decide +kernel
theorem dX12_rich_7 : decode cX12_rich 7 = .ok (.iload_n 1, 1) := by decide +kernel
theorem dX12_rich_8 : decode cX12_rich 8 = .ok (.i2l, 1) := by decide +kernel
theorem dX12_rich_9 : decode cX12_rich 9 = .ok (.lconst 0, 1) := by decide +kernel
theorem dX12_rich_10 : decode cX12_rich 10 = .ok (.lconst 1, 1) := by decide +kernel
theorem dX12_rich_11 : decode cX12_rich 11 = .ok (.invokestatic 130, 3) := by decide +kernel
theorem dX12_rich_14 : decode cX12_rich 14 = .ok (.ifCond .ne 5, 3) := by decide +kernel
theorem dX12_rich_19 : decode cX12_rich 19 = .ok (.bipush (-2), 2) := by decide +kernel
theorem dX12_rich_21 : decode cX12_rich 21 = .ok (.istore_n 2, 1) := by decide +kernel
theorem dX12_rich_22 : decode cX12_rich 22 = .ok (.bipush (-2), 2) := by decide +kernel
theorem dX12_rich_24 : decode cX12_rich 24 = .ok (.istore_n 3, 1) := by decide +kernel
theorem dX12_rich_25 : decode cX12_rich 25 = .ok (.iconst 0, 1) := by decide +kernel
theorem dX12_rich_26 : decode cX12_rich 26 = .ok (.istore 4, 2) := by decide +kernel
theorem dX12_rich_28 : decode cX12_rich 28 = .ok (.iload 4, 2) := by decide +kernel
theorem dX12_rich_30 : decode cX12_rich 30 = .ok (.aload_n 0, 1) := by decide +kernel
theorem dX12_rich_31 : decode cX12_rich 31 = .ok (.getfield 39, 3) := by decide +kernel
theorem dX12_rich_34 : decode cX12_rich 34 = .ok (.iconst 3, 1) := by decide +kernel
theorem dX12_rich_35 : decode cX12_rich 35 = .ok (.iaload, 1) := by decide +kernel
theorem dX12_rich_36 : decode cX12_rich 36 = .ok (.if_icmp .ge 73, 3) := by decide +kernel
theorem dX12_rich_39 : decode cX12_rich 39 = .ok (.aload_n 0, 1) := by decide +kernel
theorem dX12_rich_40 : decode cX12_rich 40 = .ok (.iload 4, 2) := by decide +kernel
theorem dX12_rich_42 : decode cX12_rich 42 = .ok (.iconst 1, 1) := by decide +kernel
theorem dX12_rich_43 : decode cX12_rich 43 = .ok (.invokevirtual 324, 3) := by decide +kernel
theorem dX12_rich_46 : decode cX12_rich 46 = .ok (.istore 5, 2) := by decide +kernel
theorem dX12_rich_48 : decode cX12_rich 48 = .ok (.iconst 0, 1) := by decide +kernel
theorem dX12_rich_49 : decode cX12_rich 49 = .ok (.istore 6, 2) := by decide +kernel
theorem dX12_rich_51 : decode cX12_rich 51 = .ok (.iload 6, 2) := by decide +kernel
theorem dX12_rich_53 : decode cX12_rich 53 = .ok (.aload_n 0, 1) := by decide +kernel
theorem dX12_rich_54 : decode cX12_rich 54 = .ok (.getfield 39, 3) := by decide +kernel
theorem dX12_rich_57 : decode cX12_rich 57 = .ok (.iconst 1, 1) := by decide +kernel
theorem dX12_rich_58 : decode cX12_rich 58 = .ok (.iaload, 1) := by decide +kernel
theorem dX12_rich_59 : decode cX12_rich 59 = .ok (.if_icmp .ge 29, 3) := by decide +kernel
theorem dX12_rich_62 : decode cX12_rich 62 = .ok (.iload 5, 2) := by decide +kernel
theorem dX12_rich_64 : decode cX12_rich 64 = .ok (.aload_n 0, 1) := by decide +kernel
theorem dX12_rich_65 : decode cX12_rich 65 = .ok (.iload 4, 2) := by decide +kernel
theorem dX12_rich_67 : decode cX12_rich 67 = .ok (.iload 6, 2) := by decide +kernel
theorem dX12_rich_69 : decode cX12_rich 69 = .ok (.invokevirtual 304, 3) := by decide +kernel
theorem dX12_rich_72 : decode cX12_rich 72 = .ok (.aload_n 0, 1) := by decide +kernel
theorem dX12_rich_73 : decode cX12_rich 73 = .ok (.iload 6, 2) := by decide +kernel
theorem dX12_rich_75 : decode cX12_rich 75 = .ok (.invokevirtual 419, 3) := by decide +kernel
theorem dX12_rich_78 : decode cX12_rich 78 = .ok (.imul, 1) := by decide +kernel
theorem dX12_rich_79 : decode cX12_rich 79 = .ok (.iadd, 1) := by decide +kernel
theorem dX12_rich_80 : decode cX12_rich 80 = .ok (.istore 5, 2) := by decide +kernel
theorem dX12_rich_82 : decode cX12_rich 82 = .ok (.iinc 6 1, 3) := by decide +kernel
theorem dX12_rich_85 : decode cX12_rich 85 = .ok (.goto (-34), 3) := by decide +kernel
theorem dX12_rich_88 : decode cX12_rich 88 = .ok (.iload 5, 2) := by decide +kernel
theorem dX12_rich_90 : decode cX12_rich 90 = .ok (.iload_n 3, 1) := by decide +kernel
theorem dX12_rich_91 : decode cX12_rich 91 = .ok (.if_icmp .gt 6, 3) := by decide +kernel
theorem dX12_rich_97 : decode cX12_rich 97 = .ok (.iload 4, 2) := by decide +kernel
theorem dX12_rich_99 : decode cX12_rich 99 = .ok (.istore_n 2, 1) := by decide +kernel
theorem dX12_rich_100 : decode cX12_rich 100 = .ok (.iload 5, 2) := by decide +kernel
theorem dX12_rich_102 : decode cX12_rich 102 = .ok (.istore_n 3, 1) := by decide +kernel
theorem dX12_rich_103 : decode cX12_rich 103 = .ok (.iinc 4 1, 3) := by decide +kernel
theorem dX12_rich_106 : decode cX12_rich 106 = .ok (.goto (-78), 3) := by decide +kernel
theorem dX12_rich_94 : decode cX12_rich 94 = .ok (.goto 9, 3) := by decide +kernel
theorem dX12_rich_109 : decode cX12_rich 109 = .ok (.iload_n 1, 1) := by decide +kernel
theorem dX12_rich_110 : decode cX12_rich 110 = .ok (.ifCond .ne 7, 3) := by decide +kernel
theorem dX12_rich_117 : decode cX12_rich 117 = .ok (.iload_n 3, 1) := by decide +kernel
theorem dX12_rich_118 : decode cX12_rich 118 = .ok (.ireturn, 1) := by decide +kernel
theorem dX12_rich_113 : decode cX12_rich 113 = .ok (.iload_n 2, 1) := by decide +kernel
theorem dX12_rich_114 : decode cX12_rich 114 = .ok (.goto 4, 3) := by decide +kernel
theorem mv_X12_isHill : MV RX12 yX12_isHill cX12_isHill 1 (some .boolean) 0 := ⟨mw_7_125, mp_6_8, mw_1_13, mw_7_126, ⟨rfl, by decide, by decide, by decide +kernel⟩⟩
theorem mv_X12_worthOf : MV RX12 yX12_worthOf cX12_worthOf 2 (some .int) 1 := ⟨mw_8_52, mp_8_1, mw_1_13, mw_8_53, ⟨rfl, by decide, by decide, by decide +kernel⟩⟩
set_option maxHeartbeats 4000000 in
set_option maxRecDepth 100000 in
theorem cy_X12_rich (l : Launch) (D : va_G) (cA : Nat → ClassId) (L : List Nat) (T : Nat → Nat) (r : Rg) (hG : GR L T r) (hL : L.Nodup) (σ : Sg) (ρ : Lg) (hW : WT L ry T σ) (sz : Nat) (h0 : Nat) (mh0 : h0 ∈ L) (th0 : T h0 = 12) (p1 : Int32) : Met l yX12_rich (.code yX12_rich cX12_rich 7 (some .int) :: wsA) ({ frames := 1, cells := 0, slots := 0, locals := 25 }) (PR D cA L T r σ ρ sz [.ref h0, .int p1]) (QI D cA L T r ry ([] : List (Nat × Nat)) σ sz (fun x σ1 => True)) 0 0 (dm L sz) := by
  refine Met.ofW (cc := cX12_rich) (maxL := 7) (ret := (some .int)) (by decide) rfl ?_
  intro p e s m args below meth c s₁ B hml hv
  obtain ⟨rfl, hsz, hP, hK, hN⟩ := hv
  have hx := B.exec
  have hb := B.bytes
  have hr := B.returns
  have hts : ∀ w ∈ wsA, w.before _ s = true := fun w h => atoms_spec (ws := .code yX12_rich cX12_rich 7 (some .int) :: wsA) B.pre w (List.mem_cons_of_mem _ h)
  have hown : s.vm.findClass RX12 = some m.cls := findClass_of_methodNamed B.named
  subst hsz
  have hLA : LA (dm L s.heap.size) L := ⟨hL, fun a h => Or.inl h⟩
  have hA : ∀ q : Nat, s.heap.size ≤ q → dm L s.heap.size q := fun q h => Or.inr h
  have hS : va_S (dm L s.heap.size) s.heap s.heap [] := va_S.rf
  have hB : TS D cA L T r ry ([] : List (Nat × Nat)) σ σ ρ s.heap := ⟨hP, hW, FR.rf⟩
  have hl := lv_entry ([.ref h0, .int p1]) (n := 7) (Nat.le_of_ble_eq_true rfl)
  rw [lg_entry_eq]
  generalize (lg_sl ([.ref h0, .int p1]) ++ List.replicate (7 - (lg_sl ([.ref h0, .int p1])).length) Slot.unset).toArray = ls at hl ⊢
  have hl : lv_has ls 7 [(0, .ref h0), (1, .int p1)] := hl
  refine lv_aload_n hx hb dX12_rich_0 rfl (lv_at hl 0 rfl) ?_
  refine t_ci (va_runV (As := []) (rest := []) ⟨hx, hb, hml, hown, hts⟩ (cy_X12_isHill l D cA L T r hG hLA.1 σ ρ hB.2.1 _ h0 mh0 th0) (cV hts mv_X12_isHill mw_7_123 rfl rfl ⟨Nat.le_of_ble_eq_true rfl, Nat.le_of_ble_eq_true rfl⟩) (pV hB.1 hK hN mh0 th0 (show shp cA 12 _ _ _ = .inr (12, Fs12 _ _ _) from rfl) rfl) rfl rfl hl.1 rfl (lv_room (Nat.le_of_ble_eq_true rfl)) dX12_rich_1 ⟨Nat.le_of_ble_eq_true rfl, Nat.le_of_ble_eq_true rfl⟩) hLA hA hB hS (by decide) (fun x_3 σ_1 ρ_2 H locs hB fσ_1 pσ_1 hS => ?_)
  have qσ_1 := FR.nil fσ_1
  subst qσ_1
  obtain ⟨lx_3, ux_3⟩ := pσ_1
  refine lv_if_eq (tgt := 17) hx hb dX12_rich_4 (by decide) (fun c_4 => ?_) (fun c_4 => ?_)
  · skip
    have uc_4 := i_eq (n := 0) (by decide) c_4
    refine lv_iconst (v := (-1)) hx hb dX12_rich_17 (by decide) ?_
    exact W.iret (v := (-1)) hx hb hr (fun t ht hW => ⟨⟨(-1), (σ, ρ_2), rfl, ⟨hB.2.1, hB.2.2, trivial⟩, (show TP D cA L T r σ ρ_2 t.heap from by rw [ht]; exact hB.1)⟩, hS.F ht⟩) hS.2.2 dX12_rich_18
  · skip
    have uc_4 := i_ne (n := 0) (by decide) c_4
    refine lv_iload_n hx hb dX12_rich_7 rfl (lv_at hl 1 rfl) ?_
    refine lv_i2l (v := p1.toInt64) hx hb dX12_rich_8 rfl ?_
    refine lv_lconst (v := 0) hx hb dX12_rich_9 (by decide) ?_
    refine lv_lconst (v := 1) hx hb dX12_rich_10 (by decide) ?_
    refine t_ci (va_runS (As := [.long p1.toInt64, .long 0, .long 1]) (rest := []) ⟨hx, hb, hml, hown, hts⟩ (cy_X12_in_0_1 l D cA L T r hG hLA.1 σ ρ_2 hB.2.1 _ p1) (cS hts ms_X12_in mw_6_185 rfl rfl ⟨Nat.le_of_ble_eq_true rfl, Nat.le_of_ble_eq_true rfl⟩) (pS hB.1 hK hN) rfl rfl hl.1 rfl (lv_room (Nat.le_of_ble_eq_true rfl)) dX12_rich_11 ⟨Nat.le_of_ble_eq_true rfl, Nat.le_of_ble_eq_true rfl⟩) hLA hA hB hS (by decide) (fun x_7 σ_5 ρ_6 H locs hB fσ_5 pσ_5 hS => ?_)
    have qσ_5 := FR.nil fσ_5
    subst qσ_5
    obtain ⟨ox_7, ix_7⟩ := pσ_5
    refine lv_if_ne (tgt := 19) hx hb dX12_rich_14 (by decide) (fun c_8 => ?_) (fun c_8 => ?_)
    · skip
      have uc_8 := i_ne (n := 0) (by decide) c_8
      refine lv_bipush (v := (-2)) hx hb dX12_rich_19 (by decide) ?_
      refine lv_istore_n (lv' := [(2, .int (-2)), (0, .ref h0), (1, .int p1)]) hx hb dX12_rich_21 rfl hl (by decide) rfl (fun ls hl => ?_)
      refine lv_bipush (v := (-2)) hx hb dX12_rich_22 (by decide) ?_
      refine lv_istore_n (lv' := [(3, .int (-2)), (2, .int (-2)), (0, .ref h0), (1, .int p1)]) hx hb dX12_rich_24 rfl hl (by decide) rfl (fun ls hl => ?_)
      refine lv_iconst (v := 0) hx hb dX12_rich_25 (by decide) ?_
      refine lv_istore (lv' := [(4, .int 0), (3, .int (-2)), (2, .int (-2)), (0, .ref h0), (1, .int p1)]) hx hb dX12_rich_26 hl (by decide) rfl (fun ls hl => ?_)
      refine w_loop (α := Int32 × Int32 × Int32 × Sg × Lg) (fun (i_9, i_10, i_11, σ_12, ρ_13) H locs ls => 0 ≤ i_11.toInt ∧ i_11.toInt ≤ 4 ∧ TS D cA L T r ry ([] : List (Nat × Nat)) σ σ_12 ρ_13 H ∧ va_S (dm L s.heap.size) s.heap H locs ∧ lv_has ls 7 [(4, .int i_11), (3, .int i_10), (2, .int i_9), (0, .ref h0), (1, .int p1)]) (fun (i_9, i_10, i_11, σ_12, ρ_13) => (4 - i_11.toInt).toNat) ?_ ⟨(-2), (-2), 0, σ, ρ_6⟩ ⟨(by decide), (by decide), hB, hS, lv_sub hl [0, 1, 2, 3, 4] rfl⟩
      rintro ⟨i_9, i_10, i_11, σ_12, ρ_13⟩ H locs ls ⟨li_11, ui_11, hB, hS, hl⟩ ih_14
      refine lv_iload hx hb dX12_rich_28 (lv_at hl 0 rfl) ?_
      refine lv_aload_n hx hb dX12_rich_30 rfl (lv_at hl 3 rfl) ?_
      refine t_gr hx hb hts hown hK hG hB mh0 th0 fq_12_20 rfl mw_5_236 dX12_rich_31 (fun b_15 hb_15 mb_15 tb_15 => ?_)
      refine lv_iconst (v := 3) hx hb dX12_rich_34 (by decide) ?_
      refine t_aj hx hb hK hB mb_15 tb_15 ai_70 (i_in (by decide) (by decide)) dX12_rich_35 (fun x_16 ex_16 lx_16 ux_16 => ?_)
      have lx_16 : 0 ≤ x_16.toInt := lx_16
      have ux_16 : x_16.toInt ≤ 4 := ux_16
      have cx_16 := congrArg Int32.toInt ex_16
      refine lv_icmp_ge (tgt := 109) hx hb dX12_rich_36 (by decide) (fun c_17 => ?_) (fun c_17 => ?_)
      · skip
        have uc_17 := j_le c_17
        refine lv_iload_n hx hb dX12_rich_109 rfl (lv_at hl 4 rfl) ?_
        refine lv_if_ne (tgt := 117) hx hb dX12_rich_110 (by decide) (fun c_18 => ?_) (fun c_18 => ?_)
        · skip
          have uc_18 := i_ne (n := 0) (by decide) c_18
          refine lv_iload_n hx hb dX12_rich_117 rfl (lv_at hl 1 rfl) ?_
          exact W.iret (v := i_10) hx hb hr (fun t ht hW => ⟨⟨i_10, (σ_12, ρ_13), rfl, ⟨hB.2.1, hB.2.2, trivial⟩, (show TP D cA L T r σ_12 ρ_13 t.heap from by rw [ht]; exact hB.1)⟩, hS.F ht⟩) hS.2.2 dX12_rich_118
        · skip
          have uc_18 := i_eq (n := 0) (by decide) c_18
          refine lv_iload_n hx hb dX12_rich_113 rfl (lv_at hl 2 rfl) ?_
          refine lv_goto (tgt := 118) hx hb dX12_rich_114 (by decide) ?_
          exact W.iret (v := i_9) hx hb hr (fun t ht hW => ⟨⟨i_9, (σ_12, ρ_13), rfl, ⟨hB.2.1, hB.2.2, trivial⟩, (show TP D cA L T r σ_12 ρ_13 t.heap from by rw [ht]; exact hB.1)⟩, hS.F ht⟩) hS.2.2 dX12_rich_118
      · skip
        have uc_17 := j_nle c_17
        refine lv_aload_n hx hb dX12_rich_39 rfl (lv_at hl 3 rfl) ?_
        refine lv_iload hx hb dX12_rich_40 (lv_at hl 0 rfl) ?_
        refine lv_iconst (v := 1) hx hb dX12_rich_42 (by decide) ?_
        refine t_ci (va_runV (As := [.int i_11, .int 1]) (rest := []) ⟨hx, hb, hml, hown, hts⟩ (cy_X12_pilgrimOf l D cA L T r hG hLA.1 σ_12 ρ_13 hB.2.1 _ h0 mh0 th0 i_11 1 (by first | omega | decide) (by first | omega | decide) (by first | omega | decide) (by first | omega | decide)) (cV hts mv_X12_pilgrimOf mw_7_69 rfl rfl ⟨Nat.le_of_ble_eq_true rfl, Nat.le_of_ble_eq_true rfl⟩) (pV hB.1 hK hN mh0 th0 (show shp cA 12 _ _ _ = .inr (12, Fs12 _ _ _) from rfl) rfl) rfl rfl hl.1 rfl (lv_room (Nat.le_of_ble_eq_true rfl)) dX12_rich_43 ⟨Nat.le_of_ble_eq_true rfl, Nat.le_of_ble_eq_true rfl⟩) hLA hA hB hS (by decide) (fun x_21 σ_19 ρ_20 H locs hB fσ_19 pσ_19 hS => ?_)
        have qσ_19 := FR.nil fσ_19
        subst qσ_19
        refine lv_istore (lv' := [(5, .int x_21), (4, .int i_11), (3, .int i_10), (2, .int i_9), (0, .ref h0), (1, .int p1)]) hx hb dX12_rich_46 hl (by decide) rfl (fun ls hl => ?_)
        refine lv_iconst (v := 0) hx hb dX12_rich_48 (by decide) ?_
        refine lv_istore (lv' := [(6, .int 0), (5, .int x_21), (4, .int i_11), (3, .int i_10), (2, .int i_9), (0, .ref h0), (1, .int p1)]) hx hb dX12_rich_49 hl (by decide) rfl (fun ls hl => ?_)
        refine w_loop (α := Int32 × Int32 × Sg × Lg) (fun (i_22, i_23, σ_24, ρ_25) H locs ls => 0 ≤ i_23.toInt ∧ i_23.toInt ≤ 5 ∧ σ_24 b_15 3 = x_16 ∧ TS D cA L T r ry ([] : List (Nat × Nat)) σ σ_24 ρ_25 H ∧ va_S (dm L s.heap.size) s.heap H locs ∧ lv_has ls 7 [(6, .int i_23), (5, .int i_22), (4, .int i_11), (3, .int i_10), (2, .int i_9), (0, .ref h0), (1, .int p1)]) (fun (i_22, i_23, σ_24, ρ_25) => (5 - i_23.toInt).toNat) ?_ ⟨x_21, 0, σ_12, ρ_20⟩ ⟨(by decide), (by decide), ex_16.symm, hB, hS, lv_sub hl [0, 1, 2, 3, 4, 5, 6] rfl⟩
        rintro ⟨i_22, i_23, σ_24, ρ_25⟩ H locs ls ⟨li_23, ui_23, k_27, hB, hS, hl⟩ ih_26
        refine lv_iload hx hb dX12_rich_51 (lv_at hl 0 rfl) ?_
        refine lv_aload_n hx hb dX12_rich_53 rfl (lv_at hl 5 rfl) ?_
        refine t_gk hx hb hts hown hK hB mh0 th0 fq_12_20 hb_15 mw_5_236 dX12_rich_54 ?_
        refine lv_iconst (v := 1) hx hb dX12_rich_57 (by decide) ?_
        refine t_aj hx hb hK hB mb_15 tb_15 ai_70 (i_in (by decide) (by decide)) dX12_rich_58 (fun x_28 ex_28 lx_28 ux_28 => ?_)
        have lx_28 : 0 ≤ x_28.toInt := lx_28
        have ux_28 : x_28.toInt ≤ 5 := ux_28
        have cx_28 := congrArg Int32.toInt ex_28
        refine lv_icmp_ge (tgt := 88) hx hb dX12_rich_59 (by decide) (fun c_29 => ?_) (fun c_29 => ?_)
        · skip
          have uc_29 := j_le c_29
          refine lv_iload hx hb dX12_rich_88 (lv_at hl 1 rfl) ?_
          refine lv_iload_n hx hb dX12_rich_90 rfl (lv_at hl 3 rfl) ?_
          refine lv_icmp_gt (tgt := 97) hx hb dX12_rich_91 (by decide) (fun c_30 => ?_) (fun c_30 => ?_)
          · skip
            have uc_30 := j_lt c_30
            refine lv_iload hx hb dX12_rich_97 (lv_at hl 2 rfl) ?_
            refine lv_istore_n (lv' := [(2, .int i_11), (6, .int i_23), (5, .int i_22), (4, .int i_11), (3, .int i_10), (0, .ref h0), (1, .int p1)]) hx hb dX12_rich_99 rfl hl (by decide) rfl (fun ls hl => ?_)
            refine lv_iload hx hb dX12_rich_100 (lv_at hl 2 rfl) ?_
            refine lv_istore_n (lv' := [(3, .int i_22), (2, .int i_11), (6, .int i_23), (5, .int i_22), (4, .int i_11), (0, .ref h0), (1, .int p1)]) hx hb dX12_rich_102 rfl hl (by decide) rfl (fun ls hl => ?_)
            obtain ⟨x_31, ex_31⟩ : ∃ y : Int32, y = i_11 + 1 := ⟨_, rfl⟩
            have vx_31 := b_add (rfl : i_11.toInt = _) (by decide : (1 : Int32).toInt = 1) ex_31 (by omega) (by omega)
            refine lv_iinc (v := x_31) (lv' := [(4, .int x_31), (3, .int i_22), (2, .int i_11), (6, .int i_23), (5, .int i_22), (0, .ref h0), (1, .int p1)]) hx hb dX12_rich_103 hl (k := 4) rfl (by rw [ex_31]; rfl) (by decide) rfl (fun ls hl => ?_)
            refine lv_goto (tgt := 28) hx hb dX12_rich_106 (by decide) ?_
            exact ih_14 ⟨i_11, i_22, x_31, σ_24, ρ_25⟩ _ _ _ ⟨(by omega), (by omega), hB, hS, lv_sub hl [0, 1, 2, 5, 6] rfl⟩ (by show (4 - x_31.toInt).toNat < (4 - i_11.toInt).toNat; omega)
          · skip
            have uc_30 := j_nlt c_30
            refine lv_goto (tgt := 103) hx hb dX12_rich_94 (by decide) ?_
            obtain ⟨x_32, ex_32⟩ : ∃ y : Int32, y = i_11 + 1 := ⟨_, rfl⟩
            have vx_32 := b_add (rfl : i_11.toInt = _) (by decide : (1 : Int32).toInt = 1) ex_32 (by omega) (by omega)
            refine lv_iinc (v := x_32) (lv' := [(4, .int x_32), (6, .int i_23), (5, .int i_22), (3, .int i_10), (2, .int i_9), (0, .ref h0), (1, .int p1)]) hx hb dX12_rich_103 hl (k := 2) rfl (by rw [ex_32]; rfl) (by decide) rfl (fun ls hl => ?_)
            refine lv_goto (tgt := 28) hx hb dX12_rich_106 (by decide) ?_
            exact ih_14 ⟨i_9, i_10, x_32, σ_24, ρ_25⟩ _ _ _ ⟨(by omega), (by omega), hB, hS, lv_sub hl [0, 3, 4, 5, 6] rfl⟩ (by show (4 - x_32.toInt).toNat < (4 - i_11.toInt).toNat; omega)
        · skip
          have uc_29 := j_nle c_29
          refine lv_iload hx hb dX12_rich_62 (lv_at hl 1 rfl) ?_
          refine lv_aload_n hx hb dX12_rich_64 rfl (lv_at hl 5 rfl) ?_
          refine lv_iload hx hb dX12_rich_65 (lv_at hl 2 rfl) ?_
          refine lv_iload hx hb dX12_rich_67 (lv_at hl 0 rfl) ?_
          refine t_ci (va_runV (As := [.int i_11, .int i_23]) (rest := [.int i_22]) ⟨hx, hb, hml, hown, hts⟩ (cy_X12_hasOf l D cA L T r hG hLA.1 σ_24 ρ_25 hB.2.1 _ h0 mh0 th0 i_11 i_23 (by first | omega | decide) (by first | omega | decide) (by first | omega | decide) (by first | omega | decide)) (cV hts mv_X12_hasOf mw_7_77 rfl rfl ⟨Nat.le_of_ble_eq_true rfl, Nat.le_of_ble_eq_true rfl⟩) (pV hB.1 hK hN mh0 th0 (show shp cA 12 _ _ _ = .inr (12, Fs12 _ _ _) from rfl) rfl) rfl rfl hl.1 rfl (lv_room (Nat.le_of_ble_eq_true rfl)) dX12_rich_69 ⟨Nat.le_of_ble_eq_true rfl, Nat.le_of_ble_eq_true rfl⟩) hLA hA hB hS (by decide) (fun x_35 σ_33 ρ_34 H locs hB fσ_33 pσ_33 hS => ?_)
          have qσ_33 := FR.nil fσ_33
          subst qσ_33
          refine lv_aload_n hx hb dX12_rich_72 rfl (lv_at hl 5 rfl) ?_
          refine lv_iload hx hb dX12_rich_73 (lv_at hl 0 rfl) ?_
          refine t_ci (va_runV (As := [.int i_23]) (rest := [.int x_35, .int i_22]) ⟨hx, hb, hml, hown, hts⟩ (cy_X12_worthOf l D cA L T r hG hLA.1 σ_24 ρ_34 hB.2.1 _ h0 mh0 th0 i_23 (by first | omega | decide) (by first | omega | decide)) (cV hts mv_X12_worthOf mw_8_50 rfl rfl ⟨Nat.le_of_ble_eq_true rfl, Nat.le_of_ble_eq_true rfl⟩) (pV hB.1 hK hN mh0 th0 (show shp cA 12 _ _ _ = .inr (12, Fs12 _ _ _) from rfl) rfl) rfl rfl hl.1 rfl (lv_room (Nat.le_of_ble_eq_true rfl)) dX12_rich_75 ⟨Nat.le_of_ble_eq_true rfl, Nat.le_of_ble_eq_true rfl⟩) hLA hA hB hS (by decide) (fun x_38 σ_36 ρ_37 H locs hB fσ_36 pσ_36 hS => ?_)
          have qσ_36 := FR.nil fσ_36
          subst qσ_36
          refine lv_imul hx hb dX12_rich_78 ?_
          refine lv_topi (fun x_39 ex_39 => ?_)
          refine lv_iadd hx hb dX12_rich_79 ?_
          refine lv_topi (fun x_40 ex_40 => ?_)
          try have vx_40 := b_add (rfl : i_22.toInt = _) (rfl : x_39.toInt = _) ex_40 (by omega) (by omega)
          refine lv_istore (lv' := [(5, .int x_40), (6, .int i_23), (4, .int i_11), (3, .int i_10), (2, .int i_9), (0, .ref h0), (1, .int p1)]) hx hb dX12_rich_80 hl (by decide) rfl (fun ls hl => ?_)
          obtain ⟨x_41, ex_41⟩ : ∃ y : Int32, y = i_23 + 1 := ⟨_, rfl⟩
          have vx_41 := b_add (rfl : i_23.toInt = _) (by decide : (1 : Int32).toInt = 1) ex_41 (by omega) (by omega)
          refine lv_iinc (v := x_41) (lv' := [(6, .int x_41), (5, .int x_40), (4, .int i_11), (3, .int i_10), (2, .int i_9), (0, .ref h0), (1, .int p1)]) hx hb dX12_rich_82 hl (k := 1) rfl (by rw [ex_41]; rfl) (by decide) rfl (fun ls hl => ?_)
          refine lv_goto (tgt := 51) hx hb dX12_rich_85 (by decide) ?_
          exact ih_26 ⟨x_40, x_41, σ_24, ρ_37⟩ _ _ _ ⟨(by omega), (by omega), k_27, hB, hS, lv_sub hl [0, 1, 2, 3, 4, 5, 6] rfl⟩ (by show (5 - x_41.toInt).toNat < (5 - i_23.toInt).toNat; omega)
    · skip
      have uc_8 := i_eq (n := 0) (by decide) c_8
      refine lv_iconst (v := (-1)) hx hb dX12_rich_17 (by decide) ?_
      exact W.iret (v := (-1)) hx hb hr (fun t ht hW => ⟨⟨(-1), (σ, ρ_6), rfl, ⟨hB.2.1, hB.2.2, trivial⟩, (show TP D cA L T r σ ρ_6 t.heap from by rw [ht]; exact hB.1)⟩, hS.F ht⟩) hS.2.2 dX12_rich_18
theorem dX12_leaves_0 : decode cX12_leaves 0 = .ok (.aload_n 0, 1) := by decide +kernel
theorem dX12_leaves_1 : decode cX12_leaves 1 = .ok (.iload_n 1, 1) := by decide +kernel
theorem dX12_leaves_2 : decode cX12_leaves 2 = .ok (.invokevirtual 335, 3) := by decide +kernel
theorem dX12_leaves_5 : decode cX12_leaves 5 = .ok (.ifCond .eq 15, 3) := by decide +kernel
theorem dX12_leaves_20 : decode cX12_leaves 20 = .ok (.iconst (-1), 1) := by decide +kernel
theorem dX12_leaves_21 : decode cX12_leaves 21 = .ok (.ireturn, 1) := by decide +kernel
theorem dX12_leaves_8 : decode cX12_leaves 8 = .ok (.iload_n 2, 1) := by decide +kernel
theorem dX12_leaves_9 : decode cX12_leaves 9 = .ok (.i2l, 1) := by decide +kernel
theorem dX12_leaves_10 : decode cX12_leaves 10 = .ok (.lconst 0, 1) := by decide +kernel
theorem dX12_leaves_11 : decode cX12_leaves 11 = .ok (.ldc2_w 322, 3) := by decide +kernel
theorem dX12_leaves_14 : decode cX12_leaves 14 = .ok (.invokestatic 130, 3) := by decide +kernel
theorem dX12_leaves_17 : decode cX12_leaves 17 = .ok (.ifCond .ne 5, 3) := by decide +kernel
theorem dX12_leaves_22 : decode cX12_leaves 22 = .ok (.aload_n 0, 1) := by decide +kernel
theorem dX12_leaves_23 : decode cX12_leaves 23 = .ok (.getfield 39, 3) := by decide +kernel
theorem dX12_leaves_26 : decode cX12_leaves 26 = .ok (.sipush 165, 3) := by decide +kernel
theorem dX12_leaves_29 : decode cX12_leaves 29 = .ok (.iload_n 1, 1) := by decide +kernel
theorem dX12_leaves_30 : decode cX12_leaves 30 = .ok (.iadd, 1) := by decide +kernel
theorem dX12_leaves_31 : decode cX12_leaves 31 = .ok (.iaload, 1) := by decide +kernel
theorem dX12_leaves_32 : decode cX12_leaves 32 = .ok (.istore_n 3, 1) := by decide +kernel
theorem dX12_leaves_33 : decode cX12_leaves 33 = .ok (.aload_n 0, 1) := by decide +kernel
theorem dX12_leaves_34 : decode cX12_leaves 34 = .ok (.getfield 39, 3) := by decide +kernel
theorem dX12_leaves_37 : decode cX12_leaves 37 = .ok (.sipush 165, 3) := by decide +kernel
theorem dX12_leaves_40 : decode cX12_leaves 40 = .ok (.iload_n 1, 1) := by decide +kernel
theorem dX12_leaves_41 : decode cX12_leaves 41 = .ok (.iadd, 1) := by decide +kernel
theorem dX12_leaves_42 : decode cX12_leaves 42 = .ok (.iload_n 2, 1) := by decide +kernel
theorem dX12_leaves_43 : decode cX12_leaves 43 = .ok (.iastore, 1) := by decide +kernel
theorem dX12_leaves_44 : decode cX12_leaves 44 = .ok (.iload_n 3, 1) := by decide +kernel
theorem dX12_leaves_45 : decode cX12_leaves 45 = .ok (.ireturn, 1) := by decide +kernel
set_option maxHeartbeats 4000000 in
set_option maxRecDepth 100000 in
theorem cy_X12_leaves (l : Launch) (D : va_G) (cA : Nat → ClassId) (L : List Nat) (T : Nat → Nat) (r : Rg) (hG : GR L T r) (hL : L.Nodup) (σ : Sg) (ρ : Lg) (hW : WT L ry T σ) (sz : Nat) (h0 : Nat) (mh0 : h0 ∈ L) (th0 : T h0 = 12) (p1 : Int32) (p2 : Int32) : Met l yX12_leaves (.code yX12_leaves cX12_leaves 4 (some .int) :: wsA) ({ frames := 1, cells := 0, slots := 0, locals := 25 }) (PR D cA L T r σ ρ sz [.ref h0, .int p1, .int p2]) (QI D cA L T r ry [(70, 1000)] σ sz (fun x σ1 => True)) 0 0 (dm L sz) := by
  refine Met.ofW (cc := cX12_leaves) (maxL := 4) (ret := (some .int)) (by decide) rfl ?_
  intro p e s m args below meth c s₁ B hml hv
  obtain ⟨rfl, hsz, hP, hK, hN⟩ := hv
  have hx := B.exec
  have hb := B.bytes
  have hr := B.returns
  have hts : ∀ w ∈ wsA, w.before _ s = true := fun w h => atoms_spec (ws := .code yX12_leaves cX12_leaves 4 (some .int) :: wsA) B.pre w (List.mem_cons_of_mem _ h)
  have hown : s.vm.findClass RX12 = some m.cls := findClass_of_methodNamed B.named
  subst hsz
  have hLA : LA (dm L s.heap.size) L := ⟨hL, fun a h => Or.inl h⟩
  have hA : ∀ q : Nat, s.heap.size ≤ q → dm L s.heap.size q := fun q h => Or.inr h
  have hS : va_S (dm L s.heap.size) s.heap s.heap [] := va_S.rf
  have hB : TS D cA L T r ry [(70, 1000)] σ σ ρ s.heap := ⟨hP, hW, FR.rf⟩
  have hl := lv_entry ([.ref h0, .int p1, .int p2]) (n := 4) (Nat.le_of_ble_eq_true rfl)
  rw [lg_entry_eq]
  generalize (lg_sl ([.ref h0, .int p1, .int p2]) ++ List.replicate (4 - (lg_sl ([.ref h0, .int p1, .int p2])).length) Slot.unset).toArray = ls at hl ⊢
  have hl : lv_has ls 4 [(0, .ref h0), (1, .int p1), (2, .int p2)] := hl
  refine lv_aload_n hx hb dX12_leaves_0 rfl (lv_at hl 0 rfl) ?_
  refine lv_iload_n hx hb dX12_leaves_1 rfl (lv_at hl 1 rfl) ?_
  refine t_ci (va_runV (As := [.int p1]) (rest := []) ⟨hx, hb, hml, hown, hts⟩ (cy_X12_isSort l D cA L T r hG hLA.1 σ ρ hB.2.1 _ h0 mh0 th0 p1) (cV hts mv_X12_isSort mw_7_110 rfl rfl ⟨Nat.le_of_ble_eq_true rfl, Nat.le_of_ble_eq_true rfl⟩) (pV hB.1 hK hN mh0 th0 (show shp cA 12 _ _ _ = .inr (12, Fs12 _ _ _) from rfl) rfl) rfl rfl hl.1 rfl (lv_room (Nat.le_of_ble_eq_true rfl)) dX12_leaves_2 ⟨Nat.le_of_ble_eq_true rfl, Nat.le_of_ble_eq_true rfl⟩) hLA hA hB hS (by decide) (fun x_3 σ_1 ρ_2 H locs hB fσ_1 pσ_1 hS => ?_)
  have qσ_1 := FR.nil fσ_1
  subst qσ_1
  obtain ⟨ox_3, ix_3⟩ := pσ_1
  refine lv_if_eq (tgt := 20) hx hb dX12_leaves_5 (by decide) (fun c_4 => ?_) (fun c_4 => ?_)
  · skip
    have uc_4 := i_eq (n := 0) (by decide) c_4
    refine lv_iconst (v := (-1)) hx hb dX12_leaves_20 (by decide) ?_
    exact W.iret (v := (-1)) hx hb hr (fun t ht hW => ⟨⟨(-1), (σ, ρ_2), rfl, ⟨hB.2.1, hB.2.2, trivial⟩, (show TP D cA L T r σ ρ_2 t.heap from by rw [ht]; exact hB.1)⟩, hS.F ht⟩) hS.2.2 dX12_leaves_21
  · skip
    have uc_4 := i_ne (n := 0) (by decide) c_4
    refine lv_iload_n hx hb dX12_leaves_8 rfl (lv_at hl 2 rfl) ?_
    refine lv_i2l (v := p2.toInt64) hx hb dX12_leaves_9 rfl ?_
    refine lv_lconst (v := 0) hx hb dX12_leaves_10 (by decide) ?_
    refine lv_ldc2 (v := 9) hx hb hown (hts _ mw_7_68) dX12_leaves_11 ?_
    refine t_ci (va_runS (As := [.long p2.toInt64, .long 0, .long 9]) (rest := []) ⟨hx, hb, hml, hown, hts⟩ (cy_X12_in_0_9 l D cA L T r hG hLA.1 σ ρ_2 hB.2.1 _ p2) (cS hts ms_X12_in mw_6_185 rfl rfl ⟨Nat.le_of_ble_eq_true rfl, Nat.le_of_ble_eq_true rfl⟩) (pS hB.1 hK hN) rfl rfl hl.1 rfl (lv_room (Nat.le_of_ble_eq_true rfl)) dX12_leaves_14 ⟨Nat.le_of_ble_eq_true rfl, Nat.le_of_ble_eq_true rfl⟩) hLA hA hB hS (by decide) (fun x_7 σ_5 ρ_6 H locs hB fσ_5 pσ_5 hS => ?_)
    have qσ_5 := FR.nil fσ_5
    subst qσ_5
    obtain ⟨ox_7, ix_7⟩ := pσ_5
    refine lv_if_ne (tgt := 22) hx hb dX12_leaves_17 (by decide) (fun c_8 => ?_) (fun c_8 => ?_)
    · skip
      have uc_8 := i_ne (n := 0) (by decide) c_8
      refine lv_aload_n hx hb dX12_leaves_22 rfl (lv_at hl 0 rfl) ?_
      refine t_gr hx hb hts hown hK hG hB mh0 th0 fq_12_20 rfl mw_5_236 dX12_leaves_23 (fun b_9 hb_9 mb_9 tb_9 => ?_)
      refine lv_sipush (v := 165) hx hb dX12_leaves_26 (by decide) ?_
      refine lv_iload_n hx hb dX12_leaves_29 rfl (lv_at hl 1 rfl) ?_
      refine lv_iadd hx hb dX12_leaves_30 ?_
      refine lv_topi (fun x_10 ex_10 => ?_)
      try have vx_10 := b_add (by decide : (165 : Int32).toInt = 165) (rfl : p1.toInt = _) ex_10 (by omega) (by omega)
      refine t_aj hx hb hK hB mb_9 tb_9 ai_70 (i_in (by omega) (by omega)) dX12_leaves_31 (fun x_11 ex_11 lx_11 ux_11 => ?_)
      rw [show ry 70 x_10.toNatClampNeg = (0, 9) from sbK (by have hn : x_10.toNatClampNeg = x_10.toInt.toNat := rfl; omega) (by have hn : x_10.toNatClampNeg = x_10.toInt.toNat := rfl; omega)] at lx_11 ux_11
      have cx_11 := congrArg Int32.toInt ex_11
      refine lv_istore_n (lv' := [(3, .int x_11), (0, .ref h0), (1, .int p1), (2, .int p2)]) hx hb dX12_leaves_32 rfl hl (by decide) rfl (fun ls hl => ?_)
      refine lv_aload_n hx hb dX12_leaves_33 rfl (lv_at hl 1 rfl) ?_
      refine t_gk hx hb hts hown hK hB mh0 th0 fq_12_20 hb_9 mw_5_236 dX12_leaves_34 ?_
      refine lv_sipush (v := 165) hx hb dX12_leaves_37 (by decide) ?_
      refine lv_iload_n hx hb dX12_leaves_40 rfl (lv_at hl 2 rfl) ?_
      refine lv_iadd hx hb dX12_leaves_41 ?_
      refine lv_topi (fun x_12 ex_12 => ?_)
      try have vx_12 := b_add (by decide : (165 : Int32).toInt = 165) (rfl : p1.toInt = _) ex_12 (by omega) (by omega)
      refine lv_iload_n hx hb dX12_leaves_42 rfl (lv_at hl 3 rfl) ?_
      refine t_si hx hb hK hLA hB hS mb_9 tb_9 ai_70 (i_in (by omega) (by omega)) (by rw [show ry 70 x_12.toNatClampNeg = (0, 9) from sbK (by have hn : x_12.toNatClampNeg = x_12.toInt.toNat := rfl; omega) (by have hn : x_12.toNatClampNeg = x_12.toInt.toNat := rfl; omega)]; show (0 : Int) ≤ _; first | omega | decide) (by rw [show ry 70 x_12.toNatClampNeg = (0, 9) from sbK (by have hn : x_12.toNatClampNeg = x_12.toInt.toNat := rfl; omega) (by have hn : x_12.toNatClampNeg = x_12.toInt.toNat := rfl; omega)]; show _ ≤ (9 : Int); first | omega | decide) (Or.inr (by decide)) dX12_leaves_43 (fun H locs σ_13 eσ_13 hB hS => ?_)
      have k_14 : σ_13 b_9 x_12.toNatClampNeg = p2 := by rw [eσ_13]; exact up2_same _ _ _ _
      refine lv_iload_n hx hb dX12_leaves_44 rfl (lv_at hl 0 rfl) ?_
      exact W.iret (v := x_11) hx hb hr (fun t ht hW => ⟨⟨x_11, (σ_13, ρ_6), rfl, ⟨hB.2.1, hB.2.2, trivial⟩, (show TP D cA L T r σ_13 ρ_6 t.heap from by rw [ht]; exact hB.1)⟩, hS.F ht⟩) hS.2.2 dX12_leaves_45
    · skip
      have uc_8 := i_eq (n := 0) (by decide) c_8
      refine lv_iconst (v := (-1)) hx hb dX12_leaves_20 (by decide) ?_
      exact W.iret (v := (-1)) hx hb hr (fun t ht hW => ⟨⟨(-1), (σ, ρ_6), rfl, ⟨hB.2.1, hB.2.2, trivial⟩, (show TP D cA L T r σ ρ_6 t.heap from by rw [ht]; exact hB.1)⟩, hS.F ht⟩) hS.2.2 dX12_leaves_21
theorem mw_8_77 : (.constantLong RX12 440 60 : Cond) ∈ wsA := wsA_t (List.mem_append_right _ (List.mem_append_right _ (List.mem_append_right _ (List.mem_append_right _ (List.mem_append_right _ (List.mem_append_right _ (List.mem_append_right _ (List.mem_of_getElem? (l := tables_1_8) (i := 77) rfl)))))))) rfl
theorem dX12_note_0 : decode cX12_note 0 = .ok (.iload_n 1, 1) := by decide +kernel
theorem dX12_note_1 : decode cX12_note 1 = .ok (.iconst (-1), 1) := by decide +kernel
theorem dX12_note_2 : decode cX12_note 2 = .ok (.if_icmp .ne 14, 3) := by decide +kernel
theorem dX12_note_16 : decode cX12_note 16 = .ok (.iload_n 1, 1) := by decide +kernel
theorem dX12_note_17 : decode cX12_note 17 = .ok (.i2l, 1) := by decide +kernel
theorem dX12_note_18 : decode cX12_note 18 = .ok (.lconst 0, 1) := by decide +kernel
theorem dX12_note_19 : decode cX12_note 19 = .ok (.ldc2_w 440, 3) := by decide +kernel
theorem dX12_note_22 : decode cX12_note 22 = .ok (.invokestatic 130, 3) := by decide +kernel
theorem dX12_note_25 : decode cX12_note 25 = .ok (.ifCond .eq 32, 3) := by decide +kernel
theorem dX12_note_57 : decode cX12_note 57 = .ok (.bipush (-2), 2) := by decide +kernel
theorem dX12_note_59 : decode cX12_note 59 = .ok (.ireturn, 1) := by decide +kernel
theorem dX12_note_28 : decode cX12_note 28 = .ok (.aload_n 0, 1) := by decide +kernel
theorem dX12_note_29 : decode cX12_note 29 = .ok (.iload_n 2, 1) := by decide +kernel
theorem dX12_note_30 : decode cX12_note 30 = .ok (.invokevirtual 327, 3) := by decide +kernel
theorem dX12_note_33 : decode cX12_note 33 = .ok (.ifCond .eq 24, 3) := by decide +kernel
theorem dX12_note_36 : decode cX12_note 36 = .ok (.aload_n 0, 1) := by decide +kernel
theorem dX12_note_37 : decode cX12_note 37 = .ok (.iload_n 3, 1) := by decide +kernel
theorem dX12_note_38 : decode cX12_note 38 = .ok (.invokevirtual 335, 3) := by decide +kernel
theorem dX12_note_41 : decode cX12_note 41 = .ok (.ifCond .eq 16, 3) := by decide +kernel
theorem dX12_note_44 : decode cX12_note 44 = .ok (.aload_n 0, 1) := by decide +kernel
theorem dX12_note_45 : decode cX12_note 45 = .ok (.getfield 39, 3) := by decide +kernel
theorem dX12_note_48 : decode cX12_note 48 = .ok (.sipush 200, 3) := by decide +kernel
theorem dX12_note_51 : decode cX12_note 51 = .ok (.iaload, 1) := by decide +kernel
theorem dX12_note_52 : decode cX12_note 52 = .ok (.bipush 10, 2) := by decide +kernel
theorem dX12_note_54 : decode cX12_note 54 = .ok (.if_icmp .ne 6, 3) := by decide +kernel
theorem dX12_note_60 : decode cX12_note 60 = .ok (.sipush 170, 3) := by decide +kernel
theorem dX12_note_63 : decode cX12_note 63 = .ok (.iconst 3, 1) := by decide +kernel
theorem dX12_note_64 : decode cX12_note 64 = .ok (.aload_n 0, 1) := by decide +kernel
theorem dX12_note_65 : decode cX12_note 65 = .ok (.getfield 39, 3) := by decide +kernel
theorem dX12_note_68 : decode cX12_note 68 = .ok (.sipush 200, 3) := by decide +kernel
theorem dX12_note_71 : decode cX12_note 71 = .ok (.iaload, 1) := by decide +kernel
theorem dX12_note_72 : decode cX12_note 72 = .ok (.imul, 1) := by decide +kernel
theorem dX12_note_73 : decode cX12_note 73 = .ok (.iadd, 1) := by decide +kernel
theorem dX12_note_74 : decode cX12_note 74 = .ok (.istore 4, 2) := by decide +kernel
theorem dX12_note_76 : decode cX12_note 76 = .ok (.aload_n 0, 1) := by decide +kernel
theorem dX12_note_77 : decode cX12_note 77 = .ok (.getfield 39, 3) := by decide +kernel
theorem dX12_note_80 : decode cX12_note 80 = .ok (.iload 4, 2) := by decide +kernel
theorem dX12_note_82 : decode cX12_note 82 = .ok (.iload_n 1, 1) := by decide +kernel
theorem dX12_note_83 : decode cX12_note 83 = .ok (.iastore, 1) := by decide +kernel
theorem dX12_note_84 : decode cX12_note 84 = .ok (.aload_n 0, 1) := by decide +kernel
theorem dX12_note_85 : decode cX12_note 85 = .ok (.getfield 39, 3) := by decide +kernel
theorem dX12_note_88 : decode cX12_note 88 = .ok (.iload 4, 2) := by decide +kernel
theorem dX12_note_90 : decode cX12_note 90 = .ok (.iconst 1, 1) := by decide +kernel
theorem dX12_note_91 : decode cX12_note 91 = .ok (.iadd, 1) := by decide +kernel
theorem dX12_note_92 : decode cX12_note 92 = .ok (.iload_n 2, 1) := by decide +kernel
theorem dX12_note_93 : decode cX12_note 93 = .ok (.iastore, 1) := by decide +kernel
theorem dX12_note_94 : decode cX12_note 94 = .ok (.aload_n 0, 1) := by decide +kernel
theorem dX12_note_95 : decode cX12_note 95 = .ok (.getfield 39, 3) := by decide +kernel
theorem dX12_note_98 : decode cX12_note 98 = .ok (.iload 4, 2) := by decide +kernel
theorem dX12_note_100 : decode cX12_note 100 = .ok (.iconst 2, 1) := by decide +kernel
theorem dX12_note_101 : decode cX12_note 101 = .ok (.iadd, 1) := by decide +kernel
theorem dX12_note_102 : decode cX12_note 102 = .ok (.iload_n 3, 1) := by decide +kernel
theorem dX12_note_103 : decode cX12_note 103 = .ok (.iastore, 1) := by decide +kernel
theorem dX12_note_104 : decode cX12_note 104 = .ok (.aload_n 0, 1) := by decide +kernel
theorem dX12_note_105 : decode cX12_note 105 = .ok (.getfield 39, 3) := by decide +kernel
theorem dX12_note_108 : decode cX12_note 108 = .ok (.sipush 200, 3) := by decide +kernel
theorem dX12_note_111 : decode cX12_note 111 = .ok (.dup2, 1) := by decide +kernel
theorem dX12_note_112 : decode cX12_note 112 = .ok (.iaload, 1) := by decide +kernel
theorem dX12_note_113 : decode cX12_note 113 = .ok (.iconst 1, 1) := by decide +kernel
theorem dX12_note_114 : decode cX12_note 114 = .ok (.iadd, 1) := by decide +kernel
theorem dX12_note_115 : decode cX12_note 115 = .ok (.iastore, 1) := by decide +kernel
theorem dX12_note_116 : decode cX12_note 116 = .ok (.aload_n 0, 1) := by decide +kernel
theorem dX12_note_117 : decode cX12_note 117 = .ok (.getfield 39, 3) := by decide +kernel
theorem dX12_note_120 : decode cX12_note 120 = .ok (.sipush 200, 3) := by decide +kernel
theorem dX12_note_123 : decode cX12_note 123 = .ok (.iaload, 1) := by decide +kernel
theorem dX12_note_124 : decode cX12_note 124 = .ok (.ireturn, 1) := by decide +kernel
theorem dX12_note_5 : decode cX12_note 5 = .ok (.aload_n 0, 1) := by decide +kernel
theorem dX12_note_6 : decode cX12_note 6 = .ok (.getfield 39, 3) := by decide +kernel
theorem dX12_note_9 : decode cX12_note 9 = .ok (.sipush 200, 3) := by decide +kernel
theorem dX12_note_12 : decode cX12_note 12 = .ok (.iconst 0, 1) := by decide +kernel
theorem dX12_note_13 : decode cX12_note 13 = .ok (.iastore, 1) := by decide +kernel
theorem dX12_note_14 : decode cX12_note 14 = .ok (.iconst 0, 1) := by decide +kernel
theorem dX12_note_15 : decode cX12_note 15 = .ok (.ireturn, 1) := by decide +kernel
set_option maxHeartbeats 4000000 in
set_option maxRecDepth 100000 in
theorem cy_X12_note (l : Launch) (D : va_G) (cA : Nat → ClassId) (L : List Nat) (T : Nat → Nat) (r : Rg) (hG : GR L T r) (hL : L.Nodup) (σ : Sg) (ρ : Lg) (hW : WT L ry T σ) (sz : Nat) (h0 : Nat) (mh0 : h0 ∈ L) (th0 : T h0 = 12) (p1 : Int32) (p2 : Int32) (p3 : Int32) : Met l yX12_note (.code yX12_note cX12_note 5 (some .int) :: wsA) ({ frames := 1, cells := 0, slots := 0, locals := 25 }) (PR D cA L T r σ ρ sz [.ref h0, .int p1, .int p2, .int p3]) (QI D cA L T r ry [(70, 1000)] σ sz (fun x σ1 => True)) 0 0 (dm L sz) := by
  refine Met.ofW (cc := cX12_note) (maxL := 5) (ret := (some .int)) (by decide) rfl ?_
  intro p e s m args below meth c s₁ B hml hv
  obtain ⟨rfl, hsz, hP, hK, hN⟩ := hv
  have hx := B.exec
  have hb := B.bytes
  have hr := B.returns
  have hts : ∀ w ∈ wsA, w.before _ s = true := fun w h => atoms_spec (ws := .code yX12_note cX12_note 5 (some .int) :: wsA) B.pre w (List.mem_cons_of_mem _ h)
  have hown : s.vm.findClass RX12 = some m.cls := findClass_of_methodNamed B.named
  subst hsz
  have hLA : LA (dm L s.heap.size) L := ⟨hL, fun a h => Or.inl h⟩
  have hA : ∀ q : Nat, s.heap.size ≤ q → dm L s.heap.size q := fun q h => Or.inr h
  have hS : va_S (dm L s.heap.size) s.heap s.heap [] := va_S.rf
  have hB : TS D cA L T r ry [(70, 1000)] σ σ ρ s.heap := ⟨hP, hW, FR.rf⟩
  have hl := lv_entry ([.ref h0, .int p1, .int p2, .int p3]) (n := 5) (Nat.le_of_ble_eq_true rfl)
  rw [lg_entry_eq]
  generalize (lg_sl ([.ref h0, .int p1, .int p2, .int p3]) ++ List.replicate (5 - (lg_sl ([.ref h0, .int p1, .int p2, .int p3])).length) Slot.unset).toArray = ls at hl ⊢
  have hl : lv_has ls 5 [(0, .ref h0), (1, .int p1), (2, .int p2), (3, .int p3)] := hl
  refine lv_iload_n hx hb dX12_note_0 rfl (lv_at hl 1 rfl) ?_
  refine lv_iconst (v := (-1)) hx hb dX12_note_1 (by decide) ?_
  refine lv_icmp_ne (tgt := 16) hx hb dX12_note_2 (by decide) (fun c_1 => ?_) (fun c_1 => ?_)
  · skip
    have uc_1 := i_ne (n := (-1)) (by decide) c_1
    refine lv_iload_n hx hb dX12_note_16 rfl (lv_at hl 1 rfl) ?_
    refine lv_i2l (v := p1.toInt64) hx hb dX12_note_17 rfl ?_
    refine lv_lconst (v := 0) hx hb dX12_note_18 (by decide) ?_
    refine lv_ldc2 (v := 60) hx hb hown (hts _ mw_8_77) dX12_note_19 ?_
    refine t_ci (va_runS (As := [.long p1.toInt64, .long 0, .long 60]) (rest := []) ⟨hx, hb, hml, hown, hts⟩ (cy_X12_in_0_60 l D cA L T r hG hLA.1 σ ρ hB.2.1 _ p1) (cS hts ms_X12_in mw_6_185 rfl rfl ⟨Nat.le_of_ble_eq_true rfl, Nat.le_of_ble_eq_true rfl⟩) (pS hB.1 hK hN) rfl rfl hl.1 rfl (lv_room (Nat.le_of_ble_eq_true rfl)) dX12_note_22 ⟨Nat.le_of_ble_eq_true rfl, Nat.le_of_ble_eq_true rfl⟩) hLA hA hB hS (by decide) (fun x_4 σ_2 ρ_3 H locs hB fσ_2 pσ_2 hS => ?_)
    have qσ_2 := FR.nil fσ_2
    subst qσ_2
    obtain ⟨ox_4, ix_4⟩ := pσ_2
    refine lv_if_eq (tgt := 57) hx hb dX12_note_25 (by decide) (fun c_5 => ?_) (fun c_5 => ?_)
    · skip
      have uc_5 := i_eq (n := 0) (by decide) c_5
      refine lv_bipush (v := (-2)) hx hb dX12_note_57 (by decide) ?_
      exact W.iret (v := (-2)) hx hb hr (fun t ht hW => ⟨⟨(-2), (σ, ρ_3), rfl, ⟨hB.2.1, hB.2.2, trivial⟩, (show TP D cA L T r σ ρ_3 t.heap from by rw [ht]; exact hB.1)⟩, hS.F ht⟩) hS.2.2 dX12_note_59
    · skip
      have uc_5 := i_ne (n := 0) (by decide) c_5
      refine lv_aload_n hx hb dX12_note_28 rfl (lv_at hl 0 rfl) ?_
      refine lv_iload_n hx hb dX12_note_29 rfl (lv_at hl 2 rfl) ?_
      refine t_ci (va_runV (As := [.int p2]) (rest := []) ⟨hx, hb, hml, hown, hts⟩ (cy_X12_isBend l D cA L T r hG hLA.1 σ ρ_3 hB.2.1 _ h0 mh0 th0 p2) (cV hts mv_X12_isBend mw_7_89 rfl rfl ⟨Nat.le_of_ble_eq_true rfl, Nat.le_of_ble_eq_true rfl⟩) (pV hB.1 hK hN mh0 th0 (show shp cA 12 _ _ _ = .inr (12, Fs12 _ _ _) from rfl) rfl) rfl rfl hl.1 rfl (lv_room (Nat.le_of_ble_eq_true rfl)) dX12_note_30 ⟨Nat.le_of_ble_eq_true rfl, Nat.le_of_ble_eq_true rfl⟩) hLA hA hB hS (by decide) (fun x_8 σ_6 ρ_7 H locs hB fσ_6 pσ_6 hS => ?_)
      have qσ_6 := FR.nil fσ_6
      subst qσ_6
      obtain ⟨ox_8, ix_8⟩ := pσ_6
      refine lv_if_eq (tgt := 57) hx hb dX12_note_33 (by decide) (fun c_9 => ?_) (fun c_9 => ?_)
      · skip
        have uc_9 := i_eq (n := 0) (by decide) c_9
        refine lv_bipush (v := (-2)) hx hb dX12_note_57 (by decide) ?_
        exact W.iret (v := (-2)) hx hb hr (fun t ht hW => ⟨⟨(-2), (σ, ρ_7), rfl, ⟨hB.2.1, hB.2.2, trivial⟩, (show TP D cA L T r σ ρ_7 t.heap from by rw [ht]; exact hB.1)⟩, hS.F ht⟩) hS.2.2 dX12_note_59
      · skip
        have uc_9 := i_ne (n := 0) (by decide) c_9
        refine lv_aload_n hx hb dX12_note_36 rfl (lv_at hl 0 rfl) ?_
        refine lv_iload_n hx hb dX12_note_37 rfl (lv_at hl 3 rfl) ?_
        refine t_ci (va_runV (As := [.int p3]) (rest := []) ⟨hx, hb, hml, hown, hts⟩ (cy_X12_isSort l D cA L T r hG hLA.1 σ ρ_7 hB.2.1 _ h0 mh0 th0 p3) (cV hts mv_X12_isSort mw_7_110 rfl rfl ⟨Nat.le_of_ble_eq_true rfl, Nat.le_of_ble_eq_true rfl⟩) (pV hB.1 hK hN mh0 th0 (show shp cA 12 _ _ _ = .inr (12, Fs12 _ _ _) from rfl) rfl) rfl rfl hl.1 rfl (lv_room (Nat.le_of_ble_eq_true rfl)) dX12_note_38 ⟨Nat.le_of_ble_eq_true rfl, Nat.le_of_ble_eq_true rfl⟩) hLA hA hB hS (by decide) (fun x_12 σ_10 ρ_11 H locs hB fσ_10 pσ_10 hS => ?_)
        have qσ_10 := FR.nil fσ_10
        subst qσ_10
        obtain ⟨ox_12, ix_12⟩ := pσ_10
        refine lv_if_eq (tgt := 57) hx hb dX12_note_41 (by decide) (fun c_13 => ?_) (fun c_13 => ?_)
        · skip
          have uc_13 := i_eq (n := 0) (by decide) c_13
          refine lv_bipush (v := (-2)) hx hb dX12_note_57 (by decide) ?_
          exact W.iret (v := (-2)) hx hb hr (fun t ht hW => ⟨⟨(-2), (σ, ρ_11), rfl, ⟨hB.2.1, hB.2.2, trivial⟩, (show TP D cA L T r σ ρ_11 t.heap from by rw [ht]; exact hB.1)⟩, hS.F ht⟩) hS.2.2 dX12_note_59
        · skip
          have uc_13 := i_ne (n := 0) (by decide) c_13
          refine lv_aload_n hx hb dX12_note_44 rfl (lv_at hl 0 rfl) ?_
          refine t_gr hx hb hts hown hK hG hB mh0 th0 fq_12_20 rfl mw_5_236 dX12_note_45 (fun b_14 hb_14 mb_14 tb_14 => ?_)
          refine lv_sipush (v := 200) hx hb dX12_note_48 (by decide) ?_
          refine t_aj hx hb hK hB mb_14 tb_14 ai_70 (i_in (by decide) (by decide)) dX12_note_51 (fun x_15 ex_15 lx_15 ux_15 => ?_)
          have lx_15 : 0 ≤ x_15.toInt := lx_15
          have ux_15 : x_15.toInt ≤ 10 := ux_15
          have cx_15 := congrArg Int32.toInt ex_15
          refine lv_bipush (v := 10) hx hb dX12_note_52 (by decide) ?_
          refine lv_icmp_ne (tgt := 60) hx hb dX12_note_54 (by decide) (fun c_16 => ?_) (fun c_16 => ?_)
          · skip
            have uc_16 := i_ne (n := 10) (by decide) c_16
            refine lv_sipush (v := 170) hx hb dX12_note_60 (by decide) ?_
            refine lv_iconst (v := 3) hx hb dX12_note_63 (by decide) ?_
            refine lv_aload_n hx hb dX12_note_64 rfl (lv_at hl 0 rfl) ?_
            refine t_gk hx hb hts hown hK hB mh0 th0 fq_12_20 hb_14 mw_5_236 dX12_note_65 ?_
            refine lv_sipush (v := 200) hx hb dX12_note_68 (by decide) ?_
            refine t_aj hx hb hK hB mb_14 tb_14 ai_70 (i_in (by decide) (by decide)) dX12_note_71 (fun x_17 ex_17 lx_17 ux_17 => ?_)
            have qx_17 : x_17 = x_15 := ex_17.trans ex_15.symm
            have qx_17 := qx_17.symm
            subst qx_17
            refine lv_imul hx hb dX12_note_72 ?_
            refine lv_topi (fun x_18 ex_18 => ?_)
            have vx_18 := b_mul (by decide : (3 : Int32).toInt = 3) (rfl : x_15.toInt = _) ex_18 (by omega) (by omega)
            refine lv_iadd hx hb dX12_note_73 ?_
            refine lv_topi (fun x_19 ex_19 => ?_)
            have vx_19 := b_add (by decide : (170 : Int32).toInt = 170) (rfl : x_18.toInt = _) ex_19 (by omega) (by omega)
            refine lv_istore (lv' := [(4, .int x_19), (0, .ref h0), (1, .int p1), (2, .int p2), (3, .int p3)]) hx hb dX12_note_74 hl (by decide) rfl (fun ls hl => ?_)
            refine lv_aload_n hx hb dX12_note_76 rfl (lv_at hl 1 rfl) ?_
            refine t_gk hx hb hts hown hK hB mh0 th0 fq_12_20 hb_14 mw_5_236 dX12_note_77 ?_
            refine lv_iload hx hb dX12_note_80 (lv_at hl 0 rfl) ?_
            refine lv_iload_n hx hb dX12_note_82 rfl (lv_at hl 2 rfl) ?_
            refine t_si hx hb hK hLA hB hS mb_14 tb_14 ai_70 (i_in (by omega) (by omega)) (by rw [show ry 70 x_19.toNatClampNeg = (0, 60) from sbN2 (by have hn : x_19.toNatClampNeg = x_19.toInt.toNat := rfl; omega) (by have hn : x_19.toNatClampNeg = x_19.toInt.toNat := rfl; omega) (by have hn : x_19.toNatClampNeg = x_19.toInt.toNat := rfl; omega)]; show (0 : Int) ≤ _; first | omega | decide) (by rw [show ry 70 x_19.toNatClampNeg = (0, 60) from sbN2 (by have hn : x_19.toNatClampNeg = x_19.toInt.toNat := rfl; omega) (by have hn : x_19.toNatClampNeg = x_19.toInt.toNat := rfl; omega) (by have hn : x_19.toNatClampNeg = x_19.toInt.toNat := rfl; omega)]; show _ ≤ (60 : Int); first | omega | decide) (Or.inr (by decide)) dX12_note_83 (fun H locs σ_20 eσ_20 hB hS => ?_)
            have k_21 : σ_20 b_14 x_19.toNatClampNeg = p1 := by rw [eσ_20]; exact up2_same _ _ _ _
            refine lv_aload_n hx hb dX12_note_84 rfl (lv_at hl 1 rfl) ?_
            refine t_gk hx hb hts hown hK hB mh0 th0 fq_12_20 hb_14 mw_5_236 dX12_note_85 ?_
            refine lv_iload hx hb dX12_note_88 (lv_at hl 0 rfl) ?_
            refine lv_iconst (v := 1) hx hb dX12_note_90 (by decide) ?_
            refine lv_iadd hx hb dX12_note_91 ?_
            refine lv_topi (fun x_22 ex_22 => ?_)
            have vx_22 := b_add (rfl : x_19.toInt = _) (by decide : (1 : Int32).toInt = 1) ex_22 (by omega) (by omega)
            refine lv_iload_n hx hb dX12_note_92 rfl (lv_at hl 3 rfl) ?_
            refine t_si hx hb hK hLA hB hS mb_14 tb_14 ai_70 (i_in (by omega) (by omega)) (by rw [show ry 70 x_22.toNatClampNeg = (0, 7) from sbN0 (by have hn : x_22.toNatClampNeg = x_22.toInt.toNat := rfl; omega) (by have hn : x_22.toNatClampNeg = x_22.toInt.toNat := rfl; omega) (by have hn : x_22.toNatClampNeg = x_22.toInt.toNat := rfl; omega)]; show (0 : Int) ≤ _; first | omega | decide) (by rw [show ry 70 x_22.toNatClampNeg = (0, 7) from sbN0 (by have hn : x_22.toNatClampNeg = x_22.toInt.toNat := rfl; omega) (by have hn : x_22.toNatClampNeg = x_22.toInt.toNat := rfl; omega) (by have hn : x_22.toNatClampNeg = x_22.toInt.toNat := rfl; omega)]; show _ ≤ (7 : Int); first | omega | decide) (Or.inr (by decide)) dX12_note_93 (fun H locs σ_23 eσ_23 hB hS => ?_)
            have k_24 : σ_23 b_14 x_22.toNatClampNeg = p2 := by rw [eσ_23]; exact up2_same _ _ _ _
            refine lv_aload_n hx hb dX12_note_94 rfl (lv_at hl 1 rfl) ?_
            refine t_gk hx hb hts hown hK hB mh0 th0 fq_12_20 hb_14 mw_5_236 dX12_note_95 ?_
            refine lv_iload hx hb dX12_note_98 (lv_at hl 0 rfl) ?_
            refine lv_iconst (v := 2) hx hb dX12_note_100 (by decide) ?_
            refine lv_iadd hx hb dX12_note_101 ?_
            refine lv_topi (fun x_25 ex_25 => ?_)
            have vx_25 := b_add (rfl : x_19.toInt = _) (by decide : (2 : Int32).toInt = 2) ex_25 (by omega) (by omega)
            refine lv_iload_n hx hb dX12_note_102 rfl (lv_at hl 4 rfl) ?_
            refine t_si hx hb hK hLA hB hS mb_14 tb_14 ai_70 (i_in (by omega) (by omega)) (by rw [show ry 70 x_25.toNatClampNeg = ((-2147483648), 2147483647) from sbN1 (by have hn : x_25.toNatClampNeg = x_25.toInt.toNat := rfl; omega) (by have hn : x_25.toNatClampNeg = x_25.toInt.toNat := rfl; omega) (by have hn : x_25.toNatClampNeg = x_25.toInt.toNat := rfl; omega)]; exact i_lo _) (by rw [show ry 70 x_25.toNatClampNeg = ((-2147483648), 2147483647) from sbN1 (by have hn : x_25.toNatClampNeg = x_25.toInt.toNat := rfl; omega) (by have hn : x_25.toNatClampNeg = x_25.toInt.toNat := rfl; omega) (by have hn : x_25.toNatClampNeg = x_25.toInt.toNat := rfl; omega)]; exact i_hi _) (Or.inr (by decide)) dX12_note_103 (fun H locs σ_26 eσ_26 hB hS => ?_)
            have k_27 : σ_26 b_14 x_25.toNatClampNeg = p3 := by rw [eσ_26]; exact up2_same _ _ _ _
            refine lv_aload_n hx hb dX12_note_104 rfl (lv_at hl 1 rfl) ?_
            refine t_gk hx hb hts hown hK hB mh0 th0 fq_12_20 hb_14 mw_5_236 dX12_note_105 ?_
            refine lv_sipush (v := 200) hx hb dX12_note_108 (by decide) ?_
            refine lv_dup2_11 hx hb dX12_note_111 rfl rfl ?_
            have k_28 : σ_20 b_14 200 = x_15 := by rw [eσ_20, up2_nej _ _ (show (200 : Nat) ≠ x_19.toNatClampNeg by have hn : x_19.toNatClampNeg = x_19.toInt.toNat := rfl; omega)]; exact ex_15.symm
            have k_29 : σ_23 b_14 200 = x_15 := by rw [eσ_23, up2_nej _ _ (show (200 : Nat) ≠ x_22.toNatClampNeg by have hn : x_22.toNatClampNeg = x_22.toInt.toNat := rfl; omega)]; exact k_28
            have k_30 : σ_26 b_14 200 = x_15 := by rw [eσ_26, up2_nej _ _ (show (200 : Nat) ≠ x_25.toNatClampNeg by have hn : x_25.toNatClampNeg = x_25.toInt.toNat := rfl; omega)]; exact k_29
            refine t_aj hx hb hK hB mb_14 tb_14 ai_70 (i_in (by decide) (by decide)) dX12_note_112 (fun x_31 ex_31 lx_31 ux_31 => ?_)
            have qx_31 : x_31 = x_15 := ex_31.trans k_30
            have qx_31 := qx_31.symm
            subst qx_31
            refine lv_iconst (v := 1) hx hb dX12_note_113 (by decide) ?_
            refine lv_iadd hx hb dX12_note_114 ?_
            refine lv_topi (fun x_32 ex_32 => ?_)
            have vx_32 := b_add (rfl : x_15.toInt = _) (by decide : (1 : Int32).toInt = 1) ex_32 (by omega) (by omega)
            refine t_si hx hb hK hLA hB hS mb_14 tb_14 ai_70 (i_in (by decide) (by decide)) (show (0 : Int) ≤ x_32.toInt by omega) (show x_32.toInt ≤ (10 : Int) by omega) (Or.inr (by decide)) dX12_note_115 (fun H locs σ_33 eσ_33 hB hS => ?_)
            have k_34 : σ_33 b_14 200 = x_32 := by rw [eσ_33]; exact up2_same _ _ _ _
            refine lv_aload_n hx hb dX12_note_116 rfl (lv_at hl 1 rfl) ?_
            refine t_gk hx hb hts hown hK hB mh0 th0 fq_12_20 hb_14 mw_5_236 dX12_note_117 ?_
            refine lv_sipush (v := 200) hx hb dX12_note_120 (by decide) ?_
            refine t_aj hx hb hK hB mb_14 tb_14 ai_70 (i_in (by decide) (by decide)) dX12_note_123 (fun x_35 ex_35 lx_35 ux_35 => ?_)
            have qx_35 : x_35 = x_32 := ex_35.trans k_34
            have qx_35 := qx_35.symm
            subst qx_35
            exact W.iret (v := x_32) hx hb hr (fun t ht hW => ⟨⟨x_32, (σ_33, ρ_11), rfl, ⟨hB.2.1, hB.2.2, trivial⟩, (show TP D cA L T r σ_33 ρ_11 t.heap from by rw [ht]; exact hB.1)⟩, hS.F ht⟩) hS.2.2 dX12_note_124
          · skip
            have uc_16 := i_eq (n := 10) (by decide) c_16
            refine lv_bipush (v := (-2)) hx hb dX12_note_57 (by decide) ?_
            exact W.iret (v := (-2)) hx hb hr (fun t ht hW => ⟨⟨(-2), (σ, ρ_11), rfl, ⟨hB.2.1, hB.2.2, trivial⟩, (show TP D cA L T r σ ρ_11 t.heap from by rw [ht]; exact hB.1)⟩, hS.F ht⟩) hS.2.2 dX12_note_59
  · skip
    have uc_1 := i_eq (n := (-1)) (by decide) c_1
    refine lv_aload_n hx hb dX12_note_5 rfl (lv_at hl 0 rfl) ?_
    refine t_gr hx hb hts hown hK hG hB mh0 th0 fq_12_20 rfl mw_5_236 dX12_note_6 (fun b_36 hb_36 mb_36 tb_36 => ?_)
    refine lv_sipush (v := 200) hx hb dX12_note_9 (by decide) ?_
    refine lv_iconst (v := 0) hx hb dX12_note_12 (by decide) ?_
    refine t_si hx hb hK hLA hB hS mb_36 tb_36 ai_70 (i_in (by decide) (by decide)) (show (0 : Int) ≤ (0 : Int32).toInt by decide) (show (0 : Int32).toInt ≤ (10 : Int) by decide) (Or.inr (by decide)) dX12_note_13 (fun H locs σ_37 eσ_37 hB hS => ?_)
    have k_38 : σ_37 b_36 200 = 0 := by rw [eσ_37]; exact up2_same _ _ _ _
    refine lv_iconst (v := 0) hx hb dX12_note_14 (by decide) ?_
    exact W.iret (v := 0) hx hb hr (fun t ht hW => ⟨⟨0, (σ_37, ρ), rfl, ⟨hB.2.1, hB.2.2, trivial⟩, (show TP D cA L T r σ_37 ρ t.heap from by rw [ht]; exact hB.1)⟩, hS.F ht⟩) hS.2.2 dX12_note_15
theorem mw_6_12 : (.fieldLink RX12 70 "HillBendsModel" "kept" "[I" : Cond) ∈ wsA := wsA_t (List.mem_append_right _ (List.mem_append_right _ (List.mem_append_right _ (List.mem_append_right _ (List.mem_append_right _ (List.mem_append_left _ (List.mem_of_getElem? (l := tables_1_6) (i := 12) rfl))))))) rfl
theorem dX12_keeps_0 : decode cX12_keeps 0 = .ok (.iconst 0, 1) := by decide +kernel
theorem dX12_keeps_1 : decode cX12_keeps 1 = .ok (.istore_n 1, 1) := by decide +kernel
theorem dX12_keeps_2 : decode cX12_keeps 2 = .ok (.iload_n 1, 1) := by decide +kernel
theorem dX12_keeps_3 : decode cX12_keeps 3 = .ok (.bipush 94, 2) := by decide +kernel
theorem dX12_keeps_5 : decode cX12_keeps 5 = .ok (.if_icmp .ge 21, 3) := by decide +kernel
theorem dX12_keeps_8 : decode cX12_keeps 8 = .ok (.aload_n 0, 1) := by decide +kernel
theorem dX12_keeps_9 : decode cX12_keeps 9 = .ok (.getfield 70, 3) := by decide +kernel
theorem dX12_keeps_12 : decode cX12_keeps 12 = .ok (.iload_n 1, 1) := by decide +kernel
theorem dX12_keeps_13 : decode cX12_keeps 13 = .ok (.aload_n 0, 1) := by decide +kernel
theorem dX12_keeps_14 : decode cX12_keeps 14 = .ok (.getfield 39, 3) := by decide +kernel
theorem dX12_keeps_17 : decode cX12_keeps 17 = .ok (.iload_n 1, 1) := by decide +kernel
theorem dX12_keeps_18 : decode cX12_keeps 18 = .ok (.iaload, 1) := by decide +kernel
theorem dX12_keeps_19 : decode cX12_keeps 19 = .ok (.iastore, 1) := by decide +kernel
theorem dX12_keeps_20 : decode cX12_keeps 20 = .ok (.iinc 1 1, 3) := by decide +kernel
theorem dX12_keeps_23 : decode cX12_keeps 23 = .ok (.goto (-21), 3) := by decide +kernel
theorem dX12_keeps_26 : decode cX12_keeps 26 = .ok (.return_, 1) := by decide +kernel
set_option maxHeartbeats 4000000 in
set_option maxRecDepth 100000 in
theorem cy_X12_keeps (l : Launch) (D : va_G) (cA : Nat → ClassId) (L : List Nat) (T : Nat → Nat) (r : Rg) (hG : GR L T r) (hL : L.Nodup) (σ : Sg) (ρ : Lg) (hW : WT L ry T σ) (sz : Nat) (h0 : Nat) (mh0 : h0 ∈ L) (th0 : T h0 = 12) : Met l yX12_keeps (.code yX12_keeps cX12_keeps 2 none :: wsA) ({ frames := 0, cells := 0, slots := 0, locals := 0 }) (PR D cA L T r σ ρ sz [.ref h0]) (QV D cA L T r ry [(79, 1000)] σ sz (fun σ1 => True)) 0 0 (dm L sz) := by
  refine Met.ofW (cc := cX12_keeps) (maxL := 2) (ret := none) (by decide) rfl ?_
  intro p e s m args below meth c s₁ B hml hv
  obtain ⟨rfl, hsz, hP, hK, hN⟩ := hv
  have hx := B.exec
  have hb := B.bytes
  have hr := B.returns
  have hts : ∀ w ∈ wsA, w.before _ s = true := fun w h => atoms_spec (ws := .code yX12_keeps cX12_keeps 2 none :: wsA) B.pre w (List.mem_cons_of_mem _ h)
  have hown : s.vm.findClass RX12 = some m.cls := findClass_of_methodNamed B.named
  subst hsz
  have hLA : LA (dm L s.heap.size) L := ⟨hL, fun a h => Or.inl h⟩
  have hA : ∀ q : Nat, s.heap.size ≤ q → dm L s.heap.size q := fun q h => Or.inr h
  have hS : va_S (dm L s.heap.size) s.heap s.heap [] := va_S.rf
  have hB : TS D cA L T r ry [(79, 1000)] σ σ ρ s.heap := ⟨hP, hW, FR.rf⟩
  have hl := lv_entry ([.ref h0]) (n := 2) (Nat.le_of_ble_eq_true rfl)
  rw [lg_entry_eq]
  generalize (lg_sl ([.ref h0]) ++ List.replicate (2 - (lg_sl ([.ref h0])).length) Slot.unset).toArray = ls at hl ⊢
  have hl : lv_has ls 2 [(0, .ref h0)] := hl
  refine lv_iconst (v := 0) hx hb dX12_keeps_0 (by decide) ?_
  refine lv_istore_n (lv' := [(1, .int 0), (0, .ref h0)]) hx hb dX12_keeps_1 rfl hl (by decide) rfl (fun ls hl => ?_)
  refine w_loop (α := Int32 × Sg × Lg) (fun (i_1, σ_2, ρ_3) H locs ls => 0 ≤ i_1.toInt ∧ i_1.toInt ≤ 94 ∧ TS D cA L T r ry [(79, 1000)] σ σ_2 ρ_3 H ∧ va_S (dm L s.heap.size) s.heap H locs ∧ lv_has ls 2 [(1, .int i_1), (0, .ref h0)]) (fun (i_1, σ_2, ρ_3) => (94 - i_1.toInt).toNat) ?_ ⟨0, σ, ρ⟩ ⟨(by decide), (by decide), hB, hS, lv_sub hl [0, 1] rfl⟩
  rintro ⟨i_1, σ_2, ρ_3⟩ H locs ls ⟨li_1, ui_1, hB, hS, hl⟩ ih_4
  refine lv_iload_n hx hb dX12_keeps_2 rfl (lv_at hl 0 rfl) ?_
  refine lv_bipush (v := 94) hx hb dX12_keeps_3 (by decide) ?_
  refine lv_icmp_ge (tgt := 26) hx hb dX12_keeps_5 (by decide) (fun c_5 => ?_) (fun c_5 => ?_)
  · skip
    have uc_5 := i_ge (n := 94) (by decide) c_5
    exact W.vret hx hb hr (fun t ht hW => ⟨⟨(σ_2, ρ_3), rfl, ⟨hB.2.1, hB.2.2, trivial⟩, (show TP D cA L T r σ_2 ρ_3 t.heap from by rw [ht]; exact hB.1)⟩, hS.F ht⟩) hS.2.2 dX12_keeps_26
  · skip
    have uc_5 := i_nge (n := 94) (by decide) c_5
    refine lv_aload_n hx hb dX12_keeps_8 rfl (lv_at hl 1 rfl) ?_
    refine t_gr hx hb hts hown hK hG hB mh0 th0 fq_12_36 rfl mw_6_12 dX12_keeps_9 (fun b_6 hb_6 mb_6 tb_6 => ?_)
    refine lv_iload_n hx hb dX12_keeps_12 rfl (lv_at hl 0 rfl) ?_
    refine lv_aload_n hx hb dX12_keeps_13 rfl (lv_at hl 1 rfl) ?_
    refine t_gr hx hb hts hown hK hG hB mh0 th0 fq_12_20 rfl mw_5_236 dX12_keeps_14 (fun b_7 hb_7 mb_7 tb_7 => ?_)
    refine lv_iload_n hx hb dX12_keeps_17 rfl (lv_at hl 0 rfl) ?_
    refine t_aj hx hb hK hB mb_7 tb_7 ai_70 (i_in (by omega) (by omega)) dX12_keeps_18 (fun x_8 ex_8 lx_8 ux_8 => ?_)
    have ax_8 := lx_8
    have bx_8 := ux_8
    clear lx_8 ux_8
    have cx_8 := congrArg Int32.toInt ex_8
    refine t_si hx hb hK hLA hB hS mb_6 tb_6 ai_79 (i_in (by omega) (by omega)) (show (sb ((i_1 : Int32).toNatClampNeg)).1 ≤ _ by rw [(show (i_1 : Int32).toNatClampNeg = (i_1 : Int32).toNatClampNeg by have hn0 : (i_1 : Int32).toNatClampNeg = i_1.toInt.toNat := rfl; have hn1 : (i_1 : Int32).toNatClampNeg = i_1.toInt.toNat := rfl; omega)]; exact ax_8) (show _ ≤ (sb ((i_1 : Int32).toNatClampNeg)).2 by rw [(show (i_1 : Int32).toNatClampNeg = (i_1 : Int32).toNatClampNeg by have hn0 : (i_1 : Int32).toNatClampNeg = i_1.toInt.toNat := rfl; have hn1 : (i_1 : Int32).toNatClampNeg = i_1.toInt.toNat := rfl; omega)]; exact bx_8) (Or.inr (by decide)) dX12_keeps_19 (fun H locs σ_9 eσ_9 hB hS => ?_)
    have k_10 : σ_9 b_6 i_1.toNatClampNeg = x_8 := by rw [eσ_9]; exact up2_same _ _ _ _
    obtain ⟨x_11, ex_11⟩ : ∃ y : Int32, y = i_1 + 1 := ⟨_, rfl⟩
    have vx_11 := b_add (rfl : i_1.toInt = _) (by decide : (1 : Int32).toInt = 1) ex_11 (by omega) (by omega)
    refine lv_iinc (v := x_11) (lv' := [(1, .int x_11), (0, .ref h0)]) hx hb dX12_keeps_20 hl (k := 0) rfl (by rw [ex_11]; rfl) (by decide) rfl (fun ls hl => ?_)
    refine lv_goto (tgt := 2) hx hb dX12_keeps_23 (by decide) ?_
    exact ih_4 ⟨x_11, σ_9, ρ_3⟩ _ _ _ ⟨(by omega), (by omega), hB, hS, lv_sub hl [0, 1] rfl⟩ (by show (94 - x_11.toInt).toNat < (94 - i_1.toInt).toNat; omega)
theorem dX12_laysBack_0 : decode cX12_laysBack 0 = .ok (.iconst 0, 1) := by decide +kernel
theorem dX12_laysBack_1 : decode cX12_laysBack 1 = .ok (.istore_n 1, 1) := by decide +kernel
theorem dX12_laysBack_2 : decode cX12_laysBack 2 = .ok (.iload_n 1, 1) := by decide +kernel
theorem dX12_laysBack_3 : decode cX12_laysBack 3 = .ok (.bipush 94, 2) := by decide +kernel
theorem dX12_laysBack_5 : decode cX12_laysBack 5 = .ok (.if_icmp .ge 21, 3) := by decide +kernel
theorem dX12_laysBack_8 : decode cX12_laysBack 8 = .ok (.aload_n 0, 1) := by decide +kernel
theorem dX12_laysBack_9 : decode cX12_laysBack 9 = .ok (.getfield 39, 3) := by decide +kernel
theorem dX12_laysBack_12 : decode cX12_laysBack 12 = .ok (.iload_n 1, 1) := by decide +kernel
theorem dX12_laysBack_13 : decode cX12_laysBack 13 = .ok (.aload_n 0, 1) := by decide +kernel
theorem dX12_laysBack_14 : decode cX12_laysBack 14 = .ok (.getfield 70, 3) := by decide +kernel
theorem dX12_laysBack_17 : decode cX12_laysBack 17 = .ok (.iload_n 1, 1) := by decide +kernel
theorem dX12_laysBack_18 : decode cX12_laysBack 18 = .ok (.iaload, 1) := by decide +kernel
theorem dX12_laysBack_19 : decode cX12_laysBack 19 = .ok (.iastore, 1) := by decide +kernel
theorem dX12_laysBack_20 : decode cX12_laysBack 20 = .ok (.iinc 1 1, 3) := by decide +kernel
theorem dX12_laysBack_23 : decode cX12_laysBack 23 = .ok (.goto (-21), 3) := by decide +kernel
theorem dX12_laysBack_26 : decode cX12_laysBack 26 = .ok (.return_, 1) := by decide +kernel
set_option maxHeartbeats 4000000 in
set_option maxRecDepth 100000 in
theorem cy_X12_laysBack (l : Launch) (D : va_G) (cA : Nat → ClassId) (L : List Nat) (T : Nat → Nat) (r : Rg) (hG : GR L T r) (hL : L.Nodup) (σ : Sg) (ρ : Lg) (hW : WT L ry T σ) (sz : Nat) (h0 : Nat) (mh0 : h0 ∈ L) (th0 : T h0 = 12) : Met l yX12_laysBack (.code yX12_laysBack cX12_laysBack 2 none :: wsA) ({ frames := 0, cells := 0, slots := 0, locals := 0 }) (PR D cA L T r σ ρ sz [.ref h0]) (QV D cA L T r ry [(70, 1000)] σ sz (fun σ1 => True)) 0 0 (dm L sz) := by
  refine Met.ofW (cc := cX12_laysBack) (maxL := 2) (ret := none) (by decide) rfl ?_
  intro p e s m args below meth c s₁ B hml hv
  obtain ⟨rfl, hsz, hP, hK, hN⟩ := hv
  have hx := B.exec
  have hb := B.bytes
  have hr := B.returns
  have hts : ∀ w ∈ wsA, w.before _ s = true := fun w h => atoms_spec (ws := .code yX12_laysBack cX12_laysBack 2 none :: wsA) B.pre w (List.mem_cons_of_mem _ h)
  have hown : s.vm.findClass RX12 = some m.cls := findClass_of_methodNamed B.named
  subst hsz
  have hLA : LA (dm L s.heap.size) L := ⟨hL, fun a h => Or.inl h⟩
  have hA : ∀ q : Nat, s.heap.size ≤ q → dm L s.heap.size q := fun q h => Or.inr h
  have hS : va_S (dm L s.heap.size) s.heap s.heap [] := va_S.rf
  have hB : TS D cA L T r ry [(70, 1000)] σ σ ρ s.heap := ⟨hP, hW, FR.rf⟩
  have hl := lv_entry ([.ref h0]) (n := 2) (Nat.le_of_ble_eq_true rfl)
  rw [lg_entry_eq]
  generalize (lg_sl ([.ref h0]) ++ List.replicate (2 - (lg_sl ([.ref h0])).length) Slot.unset).toArray = ls at hl ⊢
  have hl : lv_has ls 2 [(0, .ref h0)] := hl
  refine lv_iconst (v := 0) hx hb dX12_laysBack_0 (by decide) ?_
  refine lv_istore_n (lv' := [(1, .int 0), (0, .ref h0)]) hx hb dX12_laysBack_1 rfl hl (by decide) rfl (fun ls hl => ?_)
  refine w_loop (α := Int32 × Sg × Lg) (fun (i_1, σ_2, ρ_3) H locs ls => 0 ≤ i_1.toInt ∧ i_1.toInt ≤ 94 ∧ TS D cA L T r ry [(70, 1000)] σ σ_2 ρ_3 H ∧ va_S (dm L s.heap.size) s.heap H locs ∧ lv_has ls 2 [(1, .int i_1), (0, .ref h0)]) (fun (i_1, σ_2, ρ_3) => (94 - i_1.toInt).toNat) ?_ ⟨0, σ, ρ⟩ ⟨(by decide), (by decide), hB, hS, lv_sub hl [0, 1] rfl⟩
  rintro ⟨i_1, σ_2, ρ_3⟩ H locs ls ⟨li_1, ui_1, hB, hS, hl⟩ ih_4
  refine lv_iload_n hx hb dX12_laysBack_2 rfl (lv_at hl 0 rfl) ?_
  refine lv_bipush (v := 94) hx hb dX12_laysBack_3 (by decide) ?_
  refine lv_icmp_ge (tgt := 26) hx hb dX12_laysBack_5 (by decide) (fun c_5 => ?_) (fun c_5 => ?_)
  · skip
    have uc_5 := i_ge (n := 94) (by decide) c_5
    exact W.vret hx hb hr (fun t ht hW => ⟨⟨(σ_2, ρ_3), rfl, ⟨hB.2.1, hB.2.2, trivial⟩, (show TP D cA L T r σ_2 ρ_3 t.heap from by rw [ht]; exact hB.1)⟩, hS.F ht⟩) hS.2.2 dX12_laysBack_26
  · skip
    have uc_5 := i_nge (n := 94) (by decide) c_5
    refine lv_aload_n hx hb dX12_laysBack_8 rfl (lv_at hl 1 rfl) ?_
    refine t_gr hx hb hts hown hK hG hB mh0 th0 fq_12_20 rfl mw_5_236 dX12_laysBack_9 (fun b_6 hb_6 mb_6 tb_6 => ?_)
    refine lv_iload_n hx hb dX12_laysBack_12 rfl (lv_at hl 0 rfl) ?_
    refine lv_aload_n hx hb dX12_laysBack_13 rfl (lv_at hl 1 rfl) ?_
    refine t_gr hx hb hts hown hK hG hB mh0 th0 fq_12_36 rfl mw_6_12 dX12_laysBack_14 (fun b_7 hb_7 mb_7 tb_7 => ?_)
    refine lv_iload_n hx hb dX12_laysBack_17 rfl (lv_at hl 0 rfl) ?_
    refine t_aj hx hb hK hB mb_7 tb_7 ai_79 (i_in (by omega) (by omega)) dX12_laysBack_18 (fun x_8 ex_8 lx_8 ux_8 => ?_)
    have ax_8 := lx_8
    have bx_8 := ux_8
    clear lx_8 ux_8
    have cx_8 := congrArg Int32.toInt ex_8
    refine t_si hx hb hK hLA hB hS mb_6 tb_6 ai_70 (i_in (by omega) (by omega)) (show (sb ((i_1 : Int32).toNatClampNeg)).1 ≤ _ by rw [(show (i_1 : Int32).toNatClampNeg = (i_1 : Int32).toNatClampNeg by have hn0 : (i_1 : Int32).toNatClampNeg = i_1.toInt.toNat := rfl; have hn1 : (i_1 : Int32).toNatClampNeg = i_1.toInt.toNat := rfl; omega)]; exact ax_8) (show _ ≤ (sb ((i_1 : Int32).toNatClampNeg)).2 by rw [(show (i_1 : Int32).toNatClampNeg = (i_1 : Int32).toNatClampNeg by have hn0 : (i_1 : Int32).toNatClampNeg = i_1.toInt.toNat := rfl; have hn1 : (i_1 : Int32).toNatClampNeg = i_1.toInt.toNat := rfl; omega)]; exact bx_8) (Or.inr (by decide)) dX12_laysBack_19 (fun H locs σ_9 eσ_9 hB hS => ?_)
    have k_10 : σ_9 b_6 i_1.toNatClampNeg = x_8 := by rw [eσ_9]; exact up2_same _ _ _ _
    obtain ⟨x_11, ex_11⟩ : ∃ y : Int32, y = i_1 + 1 := ⟨_, rfl⟩
    have vx_11 := b_add (rfl : i_1.toInt = _) (by decide : (1 : Int32).toInt = 1) ex_11 (by omega) (by omega)
    refine lv_iinc (v := x_11) (lv' := [(1, .int x_11), (0, .ref h0)]) hx hb dX12_laysBack_20 hl (k := 0) rfl (by rw [ex_11]; rfl) (by decide) rfl (fun ls hl => ?_)
    refine lv_goto (tgt := 2) hx hb dX12_laysBack_23 (by decide) ?_
    exact ih_4 ⟨x_11, σ_9, ρ_3⟩ _ _ _ ⟨(by omega), (by omega), hB, hS, lv_sub hl [0, 1] rfl⟩ (by show (94 - x_11.toInt).toNat < (94 - i_1.toInt).toNat; omega)
theorem dX12_begins_0 : decode cX12_begins 0 = .ok (.aload_n 0, 1) := by decide +kernel
theorem dX12_begins_1 : decode cX12_begins 1 = .ok (.getfield 39, 3) := by decide +kernel
theorem dX12_begins_4 : decode cX12_begins 4 = .ok (.iconst 4, 1) := by decide +kernel
theorem dX12_begins_5 : decode cX12_begins 5 = .ok (.iconst 0, 1) := by decide +kernel
theorem dX12_begins_6 : decode cX12_begins 6 = .ok (.iastore, 1) := by decide +kernel
theorem dX12_begins_7 : decode cX12_begins 7 = .ok (.iconst 0, 1) := by decide +kernel
theorem dX12_begins_8 : decode cX12_begins 8 = .ok (.istore_n 1, 1) := by decide +kernel
theorem dX12_begins_9 : decode cX12_begins 9 = .ok (.iload_n 1, 1) := by decide +kernel
theorem dX12_begins_10 : decode cX12_begins 10 = .ok (.bipush 8, 2) := by decide +kernel
theorem dX12_begins_12 : decode cX12_begins 12 = .ok (.if_icmp .ge 19, 3) := by decide +kernel
theorem dX12_begins_15 : decode cX12_begins 15 = .ok (.aload_n 0, 1) := by decide +kernel
theorem dX12_begins_16 : decode cX12_begins 16 = .ok (.getfield 39, 3) := by decide +kernel
theorem dX12_begins_19 : decode cX12_begins 19 = .ok (.bipush 10, 2) := by decide +kernel
theorem dX12_begins_21 : decode cX12_begins 21 = .ok (.iload_n 1, 1) := by decide +kernel
theorem dX12_begins_22 : decode cX12_begins 22 = .ok (.iadd, 1) := by decide +kernel
theorem dX12_begins_23 : decode cX12_begins 23 = .ok (.iconst 0, 1) := by decide +kernel
theorem dX12_begins_24 : decode cX12_begins 24 = .ok (.iastore, 1) := by decide +kernel
theorem dX12_begins_25 : decode cX12_begins 25 = .ok (.iinc 1 1, 3) := by decide +kernel
theorem dX12_begins_28 : decode cX12_begins 28 = .ok (.goto (-19), 3) := by decide +kernel
theorem dX12_begins_31 : decode cX12_begins 31 = .ok (.iconst 0, 1) := by decide +kernel
theorem dX12_begins_32 : decode cX12_begins 32 = .ok (.istore_n 1, 1) := by decide +kernel
theorem dX12_begins_33 : decode cX12_begins 33 = .ok (.iload_n 1, 1) := by decide +kernel
theorem dX12_begins_34 : decode cX12_begins 34 = .ok (.bipush 40, 2) := by decide +kernel
theorem dX12_begins_36 : decode cX12_begins 36 = .ok (.if_icmp .ge 27, 3) := by decide +kernel
theorem dX12_begins_39 : decode cX12_begins 39 = .ok (.aload_n 0, 1) := by decide +kernel
theorem dX12_begins_40 : decode cX12_begins 40 = .ok (.getfield 39, 3) := by decide +kernel
theorem dX12_begins_43 : decode cX12_begins 43 = .ok (.bipush 18, 2) := by decide +kernel
theorem dX12_begins_45 : decode cX12_begins 45 = .ok (.iload_n 1, 1) := by decide +kernel
theorem dX12_begins_46 : decode cX12_begins 46 = .ok (.iadd, 1) := by decide +kernel
theorem dX12_begins_47 : decode cX12_begins 47 = .ok (.aload_n 0, 1) := by decide +kernel
theorem dX12_begins_48 : decode cX12_begins 48 = .ok (.getfield 39, 3) := by decide +kernel
theorem dX12_begins_51 : decode cX12_begins 51 = .ok (.bipush 125, 2) := by decide +kernel
theorem dX12_begins_53 : decode cX12_begins 53 = .ok (.iload_n 1, 1) := by decide +kernel
theorem dX12_begins_54 : decode cX12_begins 54 = .ok (.iadd, 1) := by decide +kernel
theorem dX12_begins_55 : decode cX12_begins 55 = .ok (.iaload, 1) := by decide +kernel
theorem dX12_begins_56 : decode cX12_begins 56 = .ok (.iastore, 1) := by decide +kernel
theorem dX12_begins_57 : decode cX12_begins 57 = .ok (.iinc 1 1, 3) := by decide +kernel
theorem dX12_begins_60 : decode cX12_begins 60 = .ok (.goto (-27), 3) := by decide +kernel
theorem dX12_begins_63 : decode cX12_begins 63 = .ok (.iconst 0, 1) := by decide +kernel
theorem dX12_begins_64 : decode cX12_begins 64 = .ok (.istore_n 1, 1) := by decide +kernel
theorem dX12_begins_65 : decode cX12_begins 65 = .ok (.iload_n 1, 1) := by decide +kernel
theorem dX12_begins_66 : decode cX12_begins 66 = .ok (.iconst 4, 1) := by decide +kernel
theorem dX12_begins_67 : decode cX12_begins 67 = .ok (.if_icmp .ge 22, 3) := by decide +kernel
theorem dX12_begins_70 : decode cX12_begins 70 = .ok (.aload_n 0, 1) := by decide +kernel
theorem dX12_begins_71 : decode cX12_begins 71 = .ok (.getfield 39, 3) := by decide +kernel
theorem dX12_begins_74 : decode cX12_begins 74 = .ok (.bipush 58, 2) := by decide +kernel
theorem dX12_begins_76 : decode cX12_begins 76 = .ok (.bipush 9, 2) := by decide +kernel
theorem dX12_begins_78 : decode cX12_begins 78 = .ok (.iload_n 1, 1) := by decide +kernel
theorem dX12_begins_79 : decode cX12_begins 79 = .ok (.imul, 1) := by decide +kernel
theorem dX12_begins_80 : decode cX12_begins 80 = .ok (.iadd, 1) := by decide +kernel
theorem dX12_begins_81 : decode cX12_begins 81 = .ok (.iconst 0, 1) := by decide +kernel
theorem dX12_begins_82 : decode cX12_begins 82 = .ok (.iastore, 1) := by decide +kernel
theorem dX12_begins_83 : decode cX12_begins 83 = .ok (.iinc 1 1, 3) := by decide +kernel
theorem dX12_begins_86 : decode cX12_begins 86 = .ok (.goto (-21), 3) := by decide +kernel
theorem dX12_begins_89 : decode cX12_begins 89 = .ok (.return_, 1) := by decide +kernel
set_option maxHeartbeats 4000000 in
set_option maxRecDepth 100000 in
theorem cy_X12_begins (l : Launch) (D : va_G) (cA : Nat → ClassId) (L : List Nat) (T : Nat → Nat) (r : Rg) (hG : GR L T r) (hL : L.Nodup) (σ : Sg) (ρ : Lg) (hW : WT L ry T σ) (sz : Nat) (h0 : Nat) (mh0 : h0 ∈ L) (th0 : T h0 = 12) : Met l yX12_begins (.code yX12_begins cX12_begins 2 none :: wsA) ({ frames := 0, cells := 0, slots := 0, locals := 0 }) (PR D cA L T r σ ρ sz [.ref h0]) (QV D cA L T r ry [(70, 1000)] σ sz (fun σ1 => True)) 0 0 (dm L sz) := by
  refine Met.ofW (cc := cX12_begins) (maxL := 2) (ret := none) (by decide) rfl ?_
  intro p e s m args below meth c s₁ B hml hv
  obtain ⟨rfl, hsz, hP, hK, hN⟩ := hv
  have hx := B.exec
  have hb := B.bytes
  have hr := B.returns
  have hts : ∀ w ∈ wsA, w.before _ s = true := fun w h => atoms_spec (ws := .code yX12_begins cX12_begins 2 none :: wsA) B.pre w (List.mem_cons_of_mem _ h)
  have hown : s.vm.findClass RX12 = some m.cls := findClass_of_methodNamed B.named
  subst hsz
  have hLA : LA (dm L s.heap.size) L := ⟨hL, fun a h => Or.inl h⟩
  have hA : ∀ q : Nat, s.heap.size ≤ q → dm L s.heap.size q := fun q h => Or.inr h
  have hS : va_S (dm L s.heap.size) s.heap s.heap [] := va_S.rf
  have hB : TS D cA L T r ry [(70, 1000)] σ σ ρ s.heap := ⟨hP, hW, FR.rf⟩
  have hl := lv_entry ([.ref h0]) (n := 2) (Nat.le_of_ble_eq_true rfl)
  rw [lg_entry_eq]
  generalize (lg_sl ([.ref h0]) ++ List.replicate (2 - (lg_sl ([.ref h0])).length) Slot.unset).toArray = ls at hl ⊢
  have hl : lv_has ls 2 [(0, .ref h0)] := hl
  refine lv_aload_n hx hb dX12_begins_0 rfl (lv_at hl 0 rfl) ?_
  refine t_gr hx hb hts hown hK hG hB mh0 th0 fq_12_20 rfl mw_5_236 dX12_begins_1 (fun b_1 hb_1 mb_1 tb_1 => ?_)
  refine lv_iconst (v := 4) hx hb dX12_begins_4 (by decide) ?_
  refine lv_iconst (v := 0) hx hb dX12_begins_5 (by decide) ?_
  refine t_si hx hb hK hLA hB hS mb_1 tb_1 ai_70 (i_in (by decide) (by decide)) (i_lo _) (i_hi _) (Or.inr (by decide)) dX12_begins_6 (fun H locs σ_2 eσ_2 hB hS => ?_)
  have k_3 : σ_2 b_1 4 = 0 := by rw [eσ_2]; exact up2_same _ _ _ _
  refine lv_iconst (v := 0) hx hb dX12_begins_7 (by decide) ?_
  refine lv_istore_n (lv' := [(1, .int 0), (0, .ref h0)]) hx hb dX12_begins_8 rfl hl (by decide) rfl (fun ls hl => ?_)
  refine w_loop (α := Int32 × Sg × Lg) (fun (i_4, σ_5, ρ_6) H locs ls => 0 ≤ i_4.toInt ∧ i_4.toInt ≤ 8 ∧ TS D cA L T r ry [(70, 1000)] σ σ_5 ρ_6 H ∧ va_S (dm L s.heap.size) s.heap H locs ∧ lv_has ls 2 [(1, .int i_4), (0, .ref h0)]) (fun (i_4, σ_5, ρ_6) => (8 - i_4.toInt).toNat) ?_ ⟨0, σ_2, ρ⟩ ⟨(by decide), (by decide), hB, hS, lv_sub hl [0, 1] rfl⟩
  rintro ⟨i_4, σ_5, ρ_6⟩ H locs ls ⟨li_4, ui_4, hB, hS, hl⟩ ih_7
  refine lv_iload_n hx hb dX12_begins_9 rfl (lv_at hl 0 rfl) ?_
  refine lv_bipush (v := 8) hx hb dX12_begins_10 (by decide) ?_
  refine lv_icmp_ge (tgt := 31) hx hb dX12_begins_12 (by decide) (fun c_8 => ?_) (fun c_8 => ?_)
  · skip
    have uc_8 := i_ge (n := 8) (by decide) c_8
    refine lv_iconst (v := 0) hx hb dX12_begins_31 (by decide) ?_
    refine lv_istore_n (lv' := [(1, .int 0), (0, .ref h0)]) hx hb dX12_begins_32 rfl hl (by decide) rfl (fun ls hl => ?_)
    refine w_loop (α := Int32 × Sg × Lg) (fun (i_9, σ_10, ρ_11) H locs ls => 0 ≤ i_9.toInt ∧ i_9.toInt ≤ 40 ∧ TS D cA L T r ry [(70, 1000)] σ σ_10 ρ_11 H ∧ va_S (dm L s.heap.size) s.heap H locs ∧ lv_has ls 2 [(1, .int i_9), (0, .ref h0)]) (fun (i_9, σ_10, ρ_11) => (40 - i_9.toInt).toNat) ?_ ⟨0, σ_5, ρ_6⟩ ⟨(by decide), (by decide), hB, hS, lv_sub hl [0, 1] rfl⟩
    rintro ⟨i_9, σ_10, ρ_11⟩ H locs ls ⟨li_9, ui_9, hB, hS, hl⟩ ih_12
    refine lv_iload_n hx hb dX12_begins_33 rfl (lv_at hl 0 rfl) ?_
    refine lv_bipush (v := 40) hx hb dX12_begins_34 (by decide) ?_
    refine lv_icmp_ge (tgt := 63) hx hb dX12_begins_36 (by decide) (fun c_13 => ?_) (fun c_13 => ?_)
    · skip
      have uc_13 := i_ge (n := 40) (by decide) c_13
      refine lv_iconst (v := 0) hx hb dX12_begins_63 (by decide) ?_
      refine lv_istore_n (lv' := [(1, .int 0), (0, .ref h0)]) hx hb dX12_begins_64 rfl hl (by decide) rfl (fun ls hl => ?_)
      refine w_loop (α := Int32 × Sg × Lg) (fun (i_14, σ_15, ρ_16) H locs ls => 0 ≤ i_14.toInt ∧ i_14.toInt ≤ 4 ∧ TS D cA L T r ry [(70, 1000)] σ σ_15 ρ_16 H ∧ va_S (dm L s.heap.size) s.heap H locs ∧ lv_has ls 2 [(1, .int i_14), (0, .ref h0)]) (fun (i_14, σ_15, ρ_16) => (4 - i_14.toInt).toNat) ?_ ⟨0, σ_10, ρ_11⟩ ⟨(by decide), (by decide), hB, hS, lv_sub hl [0, 1] rfl⟩
      rintro ⟨i_14, σ_15, ρ_16⟩ H locs ls ⟨li_14, ui_14, hB, hS, hl⟩ ih_17
      refine lv_iload_n hx hb dX12_begins_65 rfl (lv_at hl 0 rfl) ?_
      refine lv_iconst (v := 4) hx hb dX12_begins_66 (by decide) ?_
      refine lv_icmp_ge (tgt := 89) hx hb dX12_begins_67 (by decide) (fun c_18 => ?_) (fun c_18 => ?_)
      · skip
        have uc_18 := i_ge (n := 4) (by decide) c_18
        exact W.vret hx hb hr (fun t ht hW => ⟨⟨(σ_15, ρ_16), rfl, ⟨hB.2.1, hB.2.2, trivial⟩, (show TP D cA L T r σ_15 ρ_16 t.heap from by rw [ht]; exact hB.1)⟩, hS.F ht⟩) hS.2.2 dX12_begins_89
      · skip
        have uc_18 := i_nge (n := 4) (by decide) c_18
        refine lv_aload_n hx hb dX12_begins_70 rfl (lv_at hl 1 rfl) ?_
        refine t_gk hx hb hts hown hK hB mh0 th0 fq_12_20 hb_1 mw_5_236 dX12_begins_71 ?_
        refine lv_bipush (v := 58) hx hb dX12_begins_74 (by decide) ?_
        refine lv_bipush (v := 9) hx hb dX12_begins_76 (by decide) ?_
        refine lv_iload_n hx hb dX12_begins_78 rfl (lv_at hl 0 rfl) ?_
        refine lv_imul hx hb dX12_begins_79 ?_
        refine lv_topi (fun x_19 ex_19 => ?_)
        have vx_19 := b_mul (by decide : (9 : Int32).toInt = 9) (rfl : i_14.toInt = _) ex_19 (by omega) (by omega)
        refine lv_iadd hx hb dX12_begins_80 ?_
        refine lv_topi (fun x_20 ex_20 => ?_)
        have vx_20 := b_add (by decide : (58 : Int32).toInt = 58) (rfl : x_19.toInt = _) ex_20 (by omega) (by omega)
        refine lv_iconst (v := 0) hx hb dX12_begins_81 (by decide) ?_
        refine t_si hx hb hK hLA hB hS mb_1 tb_1 ai_70 (i_in (by omega) (by omega)) (by rw [show ry 70 x_20.toNatClampNeg = (0, 8) from sbP (by have hn : x_20.toNatClampNeg = x_20.toInt.toNat := rfl; omega)]; show (0 : Int) ≤ _; first | omega | decide) (by rw [show ry 70 x_20.toNatClampNeg = (0, 8) from sbP (by have hn : x_20.toNatClampNeg = x_20.toInt.toNat := rfl; omega)]; show _ ≤ (8 : Int); first | omega | decide) (Or.inr (by decide)) dX12_begins_82 (fun H locs σ_21 eσ_21 hB hS => ?_)
        have k_22 : σ_21 b_1 x_20.toNatClampNeg = 0 := by rw [eσ_21]; exact up2_same _ _ _ _
        obtain ⟨x_23, ex_23⟩ : ∃ y : Int32, y = i_14 + 1 := ⟨_, rfl⟩
        have vx_23 := b_add (rfl : i_14.toInt = _) (by decide : (1 : Int32).toInt = 1) ex_23 (by omega) (by omega)
        refine lv_iinc (v := x_23) (lv' := [(1, .int x_23), (0, .ref h0)]) hx hb dX12_begins_83 hl (k := 0) rfl (by rw [ex_23]; rfl) (by decide) rfl (fun ls hl => ?_)
        refine lv_goto (tgt := 65) hx hb dX12_begins_86 (by decide) ?_
        exact ih_17 ⟨x_23, σ_21, ρ_16⟩ _ _ _ ⟨(by omega), (by omega), hB, hS, lv_sub hl [0, 1] rfl⟩ (by show (4 - x_23.toInt).toNat < (4 - i_14.toInt).toNat; omega)
    · skip
      have uc_13 := i_nge (n := 40) (by decide) c_13
      refine lv_aload_n hx hb dX12_begins_39 rfl (lv_at hl 1 rfl) ?_
      refine t_gk hx hb hts hown hK hB mh0 th0 fq_12_20 hb_1 mw_5_236 dX12_begins_40 ?_
      refine lv_bipush (v := 18) hx hb dX12_begins_43 (by decide) ?_
      refine lv_iload_n hx hb dX12_begins_45 rfl (lv_at hl 0 rfl) ?_
      refine lv_iadd hx hb dX12_begins_46 ?_
      refine lv_topi (fun x_24 ex_24 => ?_)
      have vx_24 := b_add (by decide : (18 : Int32).toInt = 18) (rfl : i_9.toInt = _) ex_24 (by omega) (by omega)
      refine lv_aload_n hx hb dX12_begins_47 rfl (lv_at hl 1 rfl) ?_
      refine t_gk hx hb hts hown hK hB mh0 th0 fq_12_20 hb_1 mw_5_236 dX12_begins_48 ?_
      refine lv_bipush (v := 125) hx hb dX12_begins_51 (by decide) ?_
      refine lv_iload_n hx hb dX12_begins_53 rfl (lv_at hl 0 rfl) ?_
      refine lv_iadd hx hb dX12_begins_54 ?_
      refine lv_topi (fun x_25 ex_25 => ?_)
      have vx_25 := b_add (by decide : (125 : Int32).toInt = 125) (rfl : i_9.toInt = _) ex_25 (by omega) (by omega)
      refine t_aj hx hb hK hB mb_1 tb_1 ai_70 (i_in (by omega) (by omega)) dX12_begins_55 (fun x_26 ex_26 lx_26 ux_26 => ?_)
      rw [show ry 70 x_25.toNatClampNeg = (0, 9) from sbK (by have hn : x_25.toNatClampNeg = x_25.toInt.toNat := rfl; omega) (by have hn : x_25.toNatClampNeg = x_25.toInt.toNat := rfl; omega)] at lx_26 ux_26
      have cx_26 := congrArg Int32.toInt ex_26
      refine t_si hx hb hK hLA hB hS mb_1 tb_1 ai_70 (i_in (by omega) (by omega)) (by rw [show ry 70 x_24.toNatClampNeg = (0, 99) from sbH (by have hn : x_24.toNatClampNeg = x_24.toInt.toNat := rfl; omega) (by have hn : x_24.toNatClampNeg = x_24.toInt.toNat := rfl; omega)]; show (0 : Int) ≤ _; first | omega | decide) (by rw [show ry 70 x_24.toNatClampNeg = (0, 99) from sbH (by have hn : x_24.toNatClampNeg = x_24.toInt.toNat := rfl; omega) (by have hn : x_24.toNatClampNeg = x_24.toInt.toNat := rfl; omega)]; show _ ≤ (99 : Int); first | omega | decide) (Or.inr (by decide)) dX12_begins_56 (fun H locs σ_27 eσ_27 hB hS => ?_)
      have k_28 : σ_27 b_1 x_24.toNatClampNeg = x_26 := by rw [eσ_27]; exact up2_same _ _ _ _
      obtain ⟨x_29, ex_29⟩ : ∃ y : Int32, y = i_9 + 1 := ⟨_, rfl⟩
      have vx_29 := b_add (rfl : i_9.toInt = _) (by decide : (1 : Int32).toInt = 1) ex_29 (by omega) (by omega)
      refine lv_iinc (v := x_29) (lv' := [(1, .int x_29), (0, .ref h0)]) hx hb dX12_begins_57 hl (k := 0) rfl (by rw [ex_29]; rfl) (by decide) rfl (fun ls hl => ?_)
      refine lv_goto (tgt := 33) hx hb dX12_begins_60 (by decide) ?_
      exact ih_12 ⟨x_29, σ_27, ρ_11⟩ _ _ _ ⟨(by omega), (by omega), hB, hS, lv_sub hl [0, 1] rfl⟩ (by show (40 - x_29.toInt).toNat < (40 - i_9.toInt).toNat; omega)
  · skip
    have uc_8 := i_nge (n := 8) (by decide) c_8
    refine lv_aload_n hx hb dX12_begins_15 rfl (lv_at hl 1 rfl) ?_
    refine t_gk hx hb hts hown hK hB mh0 th0 fq_12_20 hb_1 mw_5_236 dX12_begins_16 ?_
    refine lv_bipush (v := 10) hx hb dX12_begins_19 (by decide) ?_
    refine lv_iload_n hx hb dX12_begins_21 rfl (lv_at hl 0 rfl) ?_
    refine lv_iadd hx hb dX12_begins_22 ?_
    refine lv_topi (fun x_30 ex_30 => ?_)
    have vx_30 := b_add (by decide : (10 : Int32).toInt = 10) (rfl : i_4.toInt = _) ex_30 (by omega) (by omega)
    refine lv_iconst (v := 0) hx hb dX12_begins_23 (by decide) ?_
    refine t_si hx hb hK hLA hB hS mb_1 tb_1 ai_70 (i_in (by omega) (by omega)) (by rw [show ry 70 x_30.toNatClampNeg = (0, 1) from sbT (by have hn : x_30.toNatClampNeg = x_30.toInt.toNat := rfl; omega) (by have hn : x_30.toNatClampNeg = x_30.toInt.toNat := rfl; omega)]; show (0 : Int) ≤ _; first | omega | decide) (by rw [show ry 70 x_30.toNatClampNeg = (0, 1) from sbT (by have hn : x_30.toNatClampNeg = x_30.toInt.toNat := rfl; omega) (by have hn : x_30.toNatClampNeg = x_30.toInt.toNat := rfl; omega)]; show _ ≤ (1 : Int); first | omega | decide) (Or.inr (by decide)) dX12_begins_24 (fun H locs σ_31 eσ_31 hB hS => ?_)
    have k_32 : σ_31 b_1 x_30.toNatClampNeg = 0 := by rw [eσ_31]; exact up2_same _ _ _ _
    obtain ⟨x_33, ex_33⟩ : ∃ y : Int32, y = i_4 + 1 := ⟨_, rfl⟩
    have vx_33 := b_add (rfl : i_4.toInt = _) (by decide : (1 : Int32).toInt = 1) ex_33 (by omega) (by omega)
    refine lv_iinc (v := x_33) (lv' := [(1, .int x_33), (0, .ref h0)]) hx hb dX12_begins_25 hl (k := 0) rfl (by rw [ex_33]; rfl) (by decide) rfl (fun ls hl => ?_)
    refine lv_goto (tgt := 9) hx hb dX12_begins_28 (by decide) ?_
    exact ih_7 ⟨x_33, σ_31, ρ_6⟩ _ _ _ ⟨(by omega), (by omega), hB, hS, lv_sub hl [0, 1] rfl⟩ (by show (8 - x_33.toInt).toNat < (8 - i_4.toInt).toNat; omega)
theorem dX12_areNotesSo_0 : decode cX12_areNotesSo 0 = .ok (.iconst 0, 1) := by decide +kernel
theorem dX12_areNotesSo_1 : decode cX12_areNotesSo 1 = .ok (.istore_n 1, 1) := by decide +kernel
theorem dX12_areNotesSo_2 : decode cX12_areNotesSo 2 = .ok (.iload_n 1, 1) := by decide +kernel
theorem dX12_areNotesSo_3 : decode cX12_areNotesSo 3 = .ok (.iconst 3, 1) := by decide +kernel
theorem dX12_areNotesSo_4 : decode cX12_areNotesSo 4 = .ok (.aload_n 0, 1) := by decide +kernel
theorem dX12_areNotesSo_5 : decode cX12_areNotesSo 5 = .ok (.getfield 39, 3) := by decide +kernel
theorem dX12_areNotesSo_8 : decode cX12_areNotesSo 8 = .ok (.sipush 200, 3) := by decide +kernel
theorem dX12_areNotesSo_11 : decode cX12_areNotesSo 11 = .ok (.iaload, 1) := by decide +kernel
theorem dX12_areNotesSo_12 : decode cX12_areNotesSo 12 = .ok (.imul, 1) := by decide +kernel
theorem dX12_areNotesSo_13 : decode cX12_areNotesSo 13 = .ok (.if_icmp .ge 61, 3) := by decide +kernel
theorem dX12_areNotesSo_16 : decode cX12_areNotesSo 16 = .ok (.aload_n 0, 1) := by decide +kernel
theorem dX12_areNotesSo_17 : decode cX12_areNotesSo 17 = .ok (.getfield 39, 3) := by decide +kernel
theorem dX12_areNotesSo_20 : decode cX12_areNotesSo 20 = .ok (.sipush 170, 3) := by decide +kernel
theorem dX12_areNotesSo_23 : decode cX12_areNotesSo 23 = .ok (.iload_n 1, 1) := by decide +kernel
theorem dX12_areNotesSo_24 : decode cX12_areNotesSo 24 = .ok (.iadd, 1) := by decide +kernel
theorem dX12_areNotesSo_25 : decode cX12_areNotesSo 25 = .ok (.iaload, 1) := by decide +kernel
theorem dX12_areNotesSo_26 : decode cX12_areNotesSo 26 = .ok (.aload_n 0, 1) := by decide +kernel
theorem dX12_areNotesSo_27 : decode cX12_areNotesSo 27 = .ok (.getfield 39, 3) := by decide +kernel
theorem dX12_areNotesSo_30 : decode cX12_areNotesSo 30 = .ok (.iconst 4, 1) := by decide +kernel
theorem dX12_areNotesSo_31 : decode cX12_areNotesSo 31 = .ok (.iaload, 1) := by decide +kernel
theorem dX12_areNotesSo_32 : decode cX12_areNotesSo 32 = .ok (.if_icmp .ne 36, 3) := by decide +kernel
theorem dX12_areNotesSo_68 : decode cX12_areNotesSo 68 = .ok (.iinc 1 3, 3) := by decide +kernel
theorem dX12_areNotesSo_71 : decode cX12_areNotesSo 71 = .ok (.goto (-69), 3) := by decide +kernel
theorem dX12_areNotesSo_35 : decode cX12_areNotesSo 35 = .ok (.aload_n 0, 1) := by decide +kernel
theorem dX12_areNotesSo_36 : decode cX12_areNotesSo 36 = .ok (.aload_n 0, 1) := by decide +kernel
theorem dX12_areNotesSo_37 : decode cX12_areNotesSo 37 = .ok (.getfield 39, 3) := by decide +kernel
theorem dX12_areNotesSo_40 : decode cX12_areNotesSo 40 = .ok (.sipush 170, 3) := by decide +kernel
theorem dX12_areNotesSo_43 : decode cX12_areNotesSo 43 = .ok (.iload_n 1, 1) := by decide +kernel
theorem dX12_areNotesSo_44 : decode cX12_areNotesSo 44 = .ok (.iadd, 1) := by decide +kernel
theorem dX12_areNotesSo_45 : decode cX12_areNotesSo 45 = .ok (.iconst 1, 1) := by decide +kernel
theorem dX12_areNotesSo_46 : decode cX12_areNotesSo 46 = .ok (.iadd, 1) := by decide +kernel
theorem dX12_areNotesSo_47 : decode cX12_areNotesSo 47 = .ok (.iaload, 1) := by decide +kernel
theorem dX12_areNotesSo_48 : decode cX12_areNotesSo 48 = .ok (.invokevirtual 332, 3) := by decide +kernel
theorem dX12_areNotesSo_51 : decode cX12_areNotesSo 51 = .ok (.aload_n 0, 1) := by decide +kernel
theorem dX12_areNotesSo_52 : decode cX12_areNotesSo 52 = .ok (.getfield 39, 3) := by decide +kernel
theorem dX12_areNotesSo_55 : decode cX12_areNotesSo 55 = .ok (.sipush 170, 3) := by decide +kernel
theorem dX12_areNotesSo_58 : decode cX12_areNotesSo 58 = .ok (.iload_n 1, 1) := by decide +kernel
theorem dX12_areNotesSo_59 : decode cX12_areNotesSo 59 = .ok (.iadd, 1) := by decide +kernel
theorem dX12_areNotesSo_60 : decode cX12_areNotesSo 60 = .ok (.iconst 2, 1) := by decide +kernel
theorem dX12_areNotesSo_61 : decode cX12_areNotesSo 61 = .ok (.iadd, 1) := by decide +kernel
theorem dX12_areNotesSo_62 : decode cX12_areNotesSo 62 = .ok (.iaload, 1) := by decide +kernel
theorem dX12_areNotesSo_63 : decode cX12_areNotesSo 63 = .ok (.if_icmp .eq 5, 3) := by decide +kernel
theorem dX12_areNotesSo_66 : decode cX12_areNotesSo 66 = .ok (.iconst 0, 1) := by decide +kernel
theorem dX12_areNotesSo_67 : decode cX12_areNotesSo 67 = .ok (.ireturn, 1) := by decide +kernel
theorem dX12_areNotesSo_74 : decode cX12_areNotesSo 74 = .ok (.iconst 1, 1) := by decide +kernel
theorem dX12_areNotesSo_75 : decode cX12_areNotesSo 75 = .ok (.ireturn, 1) := by decide +kernel
set_option maxHeartbeats 4000000 in
set_option maxRecDepth 100000 in
theorem cy_X12_areNotesSo (l : Launch) (D : va_G) (cA : Nat → ClassId) (L : List Nat) (T : Nat → Nat) (r : Rg) (hG : GR L T r) (hL : L.Nodup) (σ : Sg) (ρ : Lg) (hW : WT L ry T σ) (sz : Nat) (h0 : Nat) (mh0 : h0 ∈ L) (th0 : T h0 = 12) : Met l yX12_areNotesSo (.code yX12_areNotesSo cX12_areNotesSo 2 (some .boolean) :: wsA) ({ frames := 2, cells := 0, slots := 0, locals := 43 }) (PR D cA L T r σ ρ sz [.ref h0]) (QI D cA L T r ry ([] : List (Nat × Nat)) σ sz (fun x σ1 => (0 ≤ x.toInt ∧ x.toInt ≤ 1))) 0 0 (dm L sz) := by
  refine Met.ofW (cc := cX12_areNotesSo) (maxL := 2) (ret := (some .boolean)) (by decide) rfl ?_
  intro p e s m args below meth c s₁ B hml hv
  obtain ⟨rfl, hsz, hP, hK, hN⟩ := hv
  have hx := B.exec
  have hb := B.bytes
  have hr := B.returns
  have hts : ∀ w ∈ wsA, w.before _ s = true := fun w h => atoms_spec (ws := .code yX12_areNotesSo cX12_areNotesSo 2 (some .boolean) :: wsA) B.pre w (List.mem_cons_of_mem _ h)
  have hown : s.vm.findClass RX12 = some m.cls := findClass_of_methodNamed B.named
  subst hsz
  have hLA : LA (dm L s.heap.size) L := ⟨hL, fun a h => Or.inl h⟩
  have hA : ∀ q : Nat, s.heap.size ≤ q → dm L s.heap.size q := fun q h => Or.inr h
  have hS : va_S (dm L s.heap.size) s.heap s.heap [] := va_S.rf
  have hB : TS D cA L T r ry ([] : List (Nat × Nat)) σ σ ρ s.heap := ⟨hP, hW, FR.rf⟩
  have hl := lv_entry ([.ref h0]) (n := 2) (Nat.le_of_ble_eq_true rfl)
  rw [lg_entry_eq]
  generalize (lg_sl ([.ref h0]) ++ List.replicate (2 - (lg_sl ([.ref h0])).length) Slot.unset).toArray = ls at hl ⊢
  have hl : lv_has ls 2 [(0, .ref h0)] := hl
  refine lv_iconst (v := 0) hx hb dX12_areNotesSo_0 (by decide) ?_
  refine lv_istore_n (lv' := [(1, .int 0), (0, .ref h0)]) hx hb dX12_areNotesSo_1 rfl hl (by decide) rfl (fun ls hl => ?_)
  refine w_loop (α := Int32 × Sg × Lg) (fun (i_1, σ_2, ρ_3) H locs ls => 0 ≤ i_1.toInt ∧ i_1.toInt ≤ 30 ∧ (i_1.toInt % 3 = 0) ∧ TS D cA L T r ry ([] : List (Nat × Nat)) σ σ_2 ρ_3 H ∧ va_S (dm L s.heap.size) s.heap H locs ∧ lv_has ls 2 [(1, .int i_1), (0, .ref h0)]) (fun (i_1, σ_2, ρ_3) => (30 - i_1.toInt).toNat) ?_ ⟨0, σ, ρ⟩ ⟨(by decide), (by decide), (by first | decide | omega), hB, hS, lv_sub hl [0, 1] rfl⟩
  rintro ⟨i_1, σ_2, ρ_3⟩ H locs ls ⟨li_1, ui_1, g_5, hB, hS, hl⟩ ih_4
  refine lv_iload_n hx hb dX12_areNotesSo_2 rfl (lv_at hl 0 rfl) ?_
  refine lv_iconst (v := 3) hx hb dX12_areNotesSo_3 (by decide) ?_
  refine lv_aload_n hx hb dX12_areNotesSo_4 rfl (lv_at hl 1 rfl) ?_
  refine t_gr hx hb hts hown hK hG hB mh0 th0 fq_12_20 rfl mw_5_236 dX12_areNotesSo_5 (fun b_6 hb_6 mb_6 tb_6 => ?_)
  refine lv_sipush (v := 200) hx hb dX12_areNotesSo_8 (by decide) ?_
  refine t_aj hx hb hK hB mb_6 tb_6 ai_70 (i_in (by decide) (by decide)) dX12_areNotesSo_11 (fun x_7 ex_7 lx_7 ux_7 => ?_)
  have lx_7 : 0 ≤ x_7.toInt := lx_7
  have ux_7 : x_7.toInt ≤ 10 := ux_7
  have cx_7 := congrArg Int32.toInt ex_7
  refine lv_imul hx hb dX12_areNotesSo_12 ?_
  refine lv_topi (fun x_8 ex_8 => ?_)
  have vx_8 := b_mul (by decide : (3 : Int32).toInt = 3) (rfl : x_7.toInt = _) ex_8 (by omega) (by omega)
  refine lv_icmp_ge (tgt := 74) hx hb dX12_areNotesSo_13 (by decide) (fun c_9 => ?_) (fun c_9 => ?_)
  · skip
    have uc_9 := j_le c_9
    refine lv_iconst (v := 1) hx hb dX12_areNotesSo_74 (by decide) ?_
    exact W.zret (v := 1) hx hb hr rfl (fun t ht hW => ⟨⟨1, (σ_2, ρ_3), rfl, ⟨hB.2.1, hB.2.2, (show 0 ≤ (1 : Int32).toInt ∧ (1 : Int32).toInt ≤ 1 from ⟨by decide, by decide⟩)⟩, (show TP D cA L T r σ_2 ρ_3 t.heap from by rw [ht]; exact hB.1)⟩, hS.F ht⟩) hS.2.2 dX12_areNotesSo_75
  · skip
    have uc_9 := j_nle c_9
    refine lv_aload_n hx hb dX12_areNotesSo_16 rfl (lv_at hl 1 rfl) ?_
    refine t_gk hx hb hts hown hK hB mh0 th0 fq_12_20 hb_6 mw_5_236 dX12_areNotesSo_17 ?_
    refine lv_sipush (v := 170) hx hb dX12_areNotesSo_20 (by decide) ?_
    refine lv_iload_n hx hb dX12_areNotesSo_23 rfl (lv_at hl 0 rfl) ?_
    refine lv_iadd hx hb dX12_areNotesSo_24 ?_
    refine lv_topi (fun x_10 ex_10 => ?_)
    have vx_10 := b_add (by decide : (170 : Int32).toInt = 170) (rfl : i_1.toInt = _) ex_10 (by omega) (by omega)
    refine t_aj hx hb hK hB mb_6 tb_6 ai_70 (i_in (by omega) (by omega)) dX12_areNotesSo_25 (fun x_11 ex_11 lx_11 ux_11 => ?_)
    clear lx_11 ux_11
    have cx_11 := congrArg Int32.toInt ex_11
    refine lv_aload_n hx hb dX12_areNotesSo_26 rfl (lv_at hl 1 rfl) ?_
    refine t_gk hx hb hts hown hK hB mh0 th0 fq_12_20 hb_6 mw_5_236 dX12_areNotesSo_27 ?_
    refine lv_iconst (v := 4) hx hb dX12_areNotesSo_30 (by decide) ?_
    refine t_aj hx hb hK hB mb_6 tb_6 ai_70 (i_in (by decide) (by decide)) dX12_areNotesSo_31 (fun x_12 ex_12 lx_12 ux_12 => ?_)
    have lx_12 : (-2147483648) ≤ x_12.toInt := lx_12
    have ux_12 : x_12.toInt ≤ 2147483647 := ux_12
    have cx_12 := congrArg Int32.toInt ex_12
    refine lv_icmp_ne (tgt := 68) hx hb dX12_areNotesSo_32 (by decide) (fun c_13 => ?_) (fun c_13 => ?_)
    · skip
      have uc_13 := j_ne c_13
      obtain ⟨x_14, ex_14⟩ : ∃ y : Int32, y = i_1 + 3 := ⟨_, rfl⟩
      have vx_14 := b_add (rfl : i_1.toInt = _) (by decide : (3 : Int32).toInt = 3) ex_14 (by omega) (by omega)
      refine lv_iinc (v := x_14) (lv' := [(1, .int x_14), (0, .ref h0)]) hx hb dX12_areNotesSo_68 hl (k := 0) rfl (by rw [ex_14]; rfl) (by decide) rfl (fun ls hl => ?_)
      refine lv_goto (tgt := 2) hx hb dX12_areNotesSo_71 (by decide) ?_
      exact ih_4 ⟨x_14, σ_2, ρ_3⟩ _ _ _ ⟨(by omega), (by omega), (by first | decide | omega), hB, hS, lv_sub hl [0, 1] rfl⟩ (by show (30 - x_14.toInt).toNat < (30 - i_1.toInt).toNat; omega)
    · skip
      have uc_13 := j_eq c_13
      refine lv_aload_n hx hb dX12_areNotesSo_35 rfl (lv_at hl 1 rfl) ?_
      refine lv_aload_n hx hb dX12_areNotesSo_36 rfl (lv_at hl 1 rfl) ?_
      refine t_gk hx hb hts hown hK hB mh0 th0 fq_12_20 hb_6 mw_5_236 dX12_areNotesSo_37 ?_
      refine lv_sipush (v := 170) hx hb dX12_areNotesSo_40 (by decide) ?_
      refine lv_iload_n hx hb dX12_areNotesSo_43 rfl (lv_at hl 0 rfl) ?_
      refine lv_iadd hx hb dX12_areNotesSo_44 ?_
      refine lv_topi (fun x_15 ex_15 => ?_)
      have vx_15 := b_add (by decide : (170 : Int32).toInt = 170) (rfl : i_1.toInt = _) ex_15 (by omega) (by omega)
      refine lv_iconst (v := 1) hx hb dX12_areNotesSo_45 (by decide) ?_
      refine lv_iadd hx hb dX12_areNotesSo_46 ?_
      refine lv_topi (fun x_16 ex_16 => ?_)
      have vx_16 := b_add (rfl : x_15.toInt = _) (by decide : (1 : Int32).toInt = 1) ex_16 (by omega) (by omega)
      refine t_aj hx hb hK hB mb_6 tb_6 ai_70 (i_in (by omega) (by omega)) dX12_areNotesSo_47 (fun x_17 ex_17 lx_17 ux_17 => ?_)
      rw [show ry 70 x_16.toNatClampNeg = (0, 7) from sbN0 (by have hn : x_16.toNatClampNeg = x_16.toInt.toNat := rfl; omega) (by have hn : x_16.toNatClampNeg = x_16.toInt.toNat := rfl; omega) (by have hn : x_16.toNatClampNeg = x_16.toInt.toNat := rfl; omega)] at lx_17 ux_17
      have cx_17 := congrArg Int32.toInt ex_17
      refine t_ci (va_runV (As := [.int x_17]) (rest := []) ⟨hx, hb, hml, hown, hts⟩ (cy_X12_asksFor l D cA L T r hG hLA.1 σ_2 ρ_3 hB.2.1 _ h0 mh0 th0 x_17 (by first | omega | decide) (by first | omega | decide)) (cV hts mv_X12_asksFor mw_7_98 rfl rfl ⟨Nat.le_of_ble_eq_true rfl, Nat.le_of_ble_eq_true rfl⟩) (pV hB.1 hK hN mh0 th0 (show shp cA 12 _ _ _ = .inr (12, Fs12 _ _ _) from rfl) rfl) rfl rfl hl.1 rfl (lv_room (Nat.le_of_ble_eq_true rfl)) dX12_areNotesSo_48 ⟨Nat.le_of_ble_eq_true rfl, Nat.le_of_ble_eq_true rfl⟩) hLA hA hB hS (by decide) (fun x_20 σ_18 ρ_19 H locs hB fσ_18 pσ_18 hS => ?_)
      have qσ_18 := FR.nil fσ_18
      subst qσ_18
      obtain ⟨lx_20, ux_20⟩ := pσ_18
      refine lv_aload_n hx hb dX12_areNotesSo_51 rfl (lv_at hl 1 rfl) ?_
      refine t_gk hx hb hts hown hK hB mh0 th0 fq_12_20 hb_6 mw_5_236 dX12_areNotesSo_52 ?_
      refine lv_sipush (v := 170) hx hb dX12_areNotesSo_55 (by decide) ?_
      refine lv_iload_n hx hb dX12_areNotesSo_58 rfl (lv_at hl 0 rfl) ?_
      refine lv_iadd hx hb dX12_areNotesSo_59 ?_
      refine lv_topi (fun x_21 ex_21 => ?_)
      have vx_21 := b_add (by decide : (170 : Int32).toInt = 170) (rfl : i_1.toInt = _) ex_21 (by omega) (by omega)
      refine lv_iconst (v := 2) hx hb dX12_areNotesSo_60 (by decide) ?_
      refine lv_iadd hx hb dX12_areNotesSo_61 ?_
      refine lv_topi (fun x_22 ex_22 => ?_)
      have vx_22 := b_add (rfl : x_21.toInt = _) (by decide : (2 : Int32).toInt = 2) ex_22 (by omega) (by omega)
      refine t_aj hx hb hK hB mb_6 tb_6 ai_70 (i_in (by omega) (by omega)) dX12_areNotesSo_62 (fun x_23 ex_23 lx_23 ux_23 => ?_)
      clear lx_23 ux_23
      have cx_23 := congrArg Int32.toInt ex_23
      refine lv_icmp_eq (tgt := 68) hx hb dX12_areNotesSo_63 (by decide) (fun c_24 => ?_) (fun c_24 => ?_)
      · skip
        have uc_24 := j_eq c_24
        obtain ⟨x_25, ex_25⟩ : ∃ y : Int32, y = i_1 + 3 := ⟨_, rfl⟩
        have vx_25 := b_add (rfl : i_1.toInt = _) (by decide : (3 : Int32).toInt = 3) ex_25 (by omega) (by omega)
        refine lv_iinc (v := x_25) (lv' := [(1, .int x_25), (0, .ref h0)]) hx hb dX12_areNotesSo_68 hl (k := 0) rfl (by rw [ex_25]; rfl) (by decide) rfl (fun ls hl => ?_)
        refine lv_goto (tgt := 2) hx hb dX12_areNotesSo_71 (by decide) ?_
        exact ih_4 ⟨x_25, σ_2, ρ_19⟩ _ _ _ ⟨(by omega), (by omega), (by first | decide | omega), hB, hS, lv_sub hl [0, 1] rfl⟩ (by show (30 - x_25.toInt).toNat < (30 - i_1.toInt).toNat; omega)
      · skip
        have uc_24 := j_ne c_24
        refine lv_iconst (v := 0) hx hb dX12_areNotesSo_66 (by decide) ?_
        exact W.zret (v := 0) hx hb hr rfl (fun t ht hW => ⟨⟨0, (σ_2, ρ_19), rfl, ⟨hB.2.1, hB.2.2, (show 0 ≤ (0 : Int32).toInt ∧ (0 : Int32).toInt ≤ 1 from ⟨by decide, by decide⟩)⟩, (show TP D cA L T r σ_2 ρ_19 t.heap from by rw [ht]; exact hB.1)⟩, hS.F ht⟩) hS.2.2 dX12_areNotesSo_67
theorem mw_6_13 : (.fieldLink RX12 73 "HillBendsModel" "isFit" "[Z" : Cond) ∈ wsA := wsA_t (List.mem_append_right _ (List.mem_append_right _ (List.mem_append_right _ (List.mem_append_right _ (List.mem_append_right _ (List.mem_append_left _ (List.mem_of_getElem? (l := tables_1_6) (i := 13) rfl))))))) rfl
theorem mw_6_14 : (.fieldLink RX12 77 "HillBendsModel" "askThen" "[I" : Cond) ∈ wsA := wsA_t (List.mem_append_right _ (List.mem_append_right _ (List.mem_append_right _ (List.mem_append_right _ (List.mem_append_right _ (List.mem_append_left _ (List.mem_of_getElem? (l := tables_1_6) (i := 14) rfl))))))) rfl
theorem dX12_alikeAt_0 : decode cX12_alikeAt 0 = .ok (.iconst 0, 1) := by decide +kernel
theorem dX12_alikeAt_1 : decode cX12_alikeAt 1 = .ok (.istore_n 2, 1) := by decide +kernel
theorem dX12_alikeAt_2 : decode cX12_alikeAt 2 = .ok (.iconst 0, 1) := by decide +kernel
theorem dX12_alikeAt_3 : decode cX12_alikeAt 3 = .ok (.istore_n 3, 1) := by decide +kernel
theorem dX12_alikeAt_4 : decode cX12_alikeAt 4 = .ok (.iload_n 3, 1) := by decide +kernel
theorem dX12_alikeAt_5 : decode cX12_alikeAt 5 = .ok (.aload_n 0, 1) := by decide +kernel
theorem dX12_alikeAt_6 : decode cX12_alikeAt 6 = .ok (.getfield 276, 3) := by decide +kernel
theorem dX12_alikeAt_9 : decode cX12_alikeAt 9 = .ok (.if_icmp .gt 98, 3) := by decide +kernel
theorem dX12_alikeAt_12 : decode cX12_alikeAt 12 = .ok (.iconst 0, 1) := by decide +kernel
theorem dX12_alikeAt_13 : decode cX12_alikeAt 13 = .ok (.istore 4, 2) := by decide +kernel
theorem dX12_alikeAt_15 : decode cX12_alikeAt 15 = .ok (.iconst 0, 1) := by decide +kernel
theorem dX12_alikeAt_16 : decode cX12_alikeAt 16 = .ok (.istore 5, 2) := by decide +kernel
theorem dX12_alikeAt_18 : decode cX12_alikeAt 18 = .ok (.iload 5, 2) := by decide +kernel
theorem dX12_alikeAt_20 : decode cX12_alikeAt 20 = .ok (.aload_n 0, 1) := by decide +kernel
theorem dX12_alikeAt_21 : decode cX12_alikeAt 21 = .ok (.getfield 276, 3) := by decide +kernel
theorem dX12_alikeAt_24 : decode cX12_alikeAt 24 = .ok (.if_icmp .gt 64, 3) := by decide +kernel
theorem dX12_alikeAt_27 : decode cX12_alikeAt 27 = .ok (.aload_n 0, 1) := by decide +kernel
theorem dX12_alikeAt_28 : decode cX12_alikeAt 28 = .ok (.getfield 73, 3) := by decide +kernel
theorem dX12_alikeAt_31 : decode cX12_alikeAt 31 = .ok (.iload_n 3, 1) := by decide +kernel
theorem dX12_alikeAt_32 : decode cX12_alikeAt 32 = .ok (.baload, 1) := by decide +kernel
theorem dX12_alikeAt_33 : decode cX12_alikeAt 33 = .ok (.ifCond .eq 55, 3) := by decide +kernel
theorem dX12_alikeAt_36 : decode cX12_alikeAt 36 = .ok (.iload 4, 2) := by decide +kernel
theorem dX12_alikeAt_38 : decode cX12_alikeAt 38 = .ok (.aload_n 0, 1) := by decide +kernel
theorem dX12_alikeAt_39 : decode cX12_alikeAt 39 = .ok (.getfield 73, 3) := by decide +kernel
theorem dX12_alikeAt_42 : decode cX12_alikeAt 42 = .ok (.iload 5, 2) := by decide +kernel
theorem dX12_alikeAt_44 : decode cX12_alikeAt 44 = .ok (.baload, 1) := by decide +kernel
theorem dX12_alikeAt_45 : decode cX12_alikeAt 45 = .ok (.ifCond .eq 33, 3) := by decide +kernel
theorem dX12_alikeAt_78 : decode cX12_alikeAt 78 = .ok (.iconst 0, 1) := by decide +kernel
theorem dX12_alikeAt_79 : decode cX12_alikeAt 79 = .ok (.iadd, 1) := by decide +kernel
theorem dX12_alikeAt_80 : decode cX12_alikeAt 80 = .ok (.istore 4, 2) := by decide +kernel
theorem dX12_alikeAt_82 : decode cX12_alikeAt 82 = .ok (.iinc 5 1, 3) := by decide +kernel
theorem dX12_alikeAt_85 : decode cX12_alikeAt 85 = .ok (.goto (-67), 3) := by decide +kernel
theorem dX12_alikeAt_48 : decode cX12_alikeAt 48 = .ok (.aload_n 0, 1) := by decide +kernel
theorem dX12_alikeAt_49 : decode cX12_alikeAt 49 = .ok (.getfield 77, 3) := by decide +kernel
theorem dX12_alikeAt_52 : decode cX12_alikeAt 52 = .ok (.bipush 8, 2) := by decide +kernel
theorem dX12_alikeAt_54 : decode cX12_alikeAt 54 = .ok (.iload_n 3, 1) := by decide +kernel
theorem dX12_alikeAt_55 : decode cX12_alikeAt 55 = .ok (.imul, 1) := by decide +kernel
theorem dX12_alikeAt_56 : decode cX12_alikeAt 56 = .ok (.iload_n 1, 1) := by decide +kernel
theorem dX12_alikeAt_57 : decode cX12_alikeAt 57 = .ok (.iadd, 1) := by decide +kernel
theorem dX12_alikeAt_58 : decode cX12_alikeAt 58 = .ok (.iaload, 1) := by decide +kernel
theorem dX12_alikeAt_59 : decode cX12_alikeAt 59 = .ok (.aload_n 0, 1) := by decide +kernel
theorem dX12_alikeAt_60 : decode cX12_alikeAt 60 = .ok (.getfield 77, 3) := by decide +kernel
theorem dX12_alikeAt_63 : decode cX12_alikeAt 63 = .ok (.bipush 8, 2) := by decide +kernel
theorem dX12_alikeAt_65 : decode cX12_alikeAt 65 = .ok (.iload 5, 2) := by decide +kernel
theorem dX12_alikeAt_67 : decode cX12_alikeAt 67 = .ok (.imul, 1) := by decide +kernel
theorem dX12_alikeAt_68 : decode cX12_alikeAt 68 = .ok (.iload_n 1, 1) := by decide +kernel
theorem dX12_alikeAt_69 : decode cX12_alikeAt 69 = .ok (.iadd, 1) := by decide +kernel
theorem dX12_alikeAt_70 : decode cX12_alikeAt 70 = .ok (.iaload, 1) := by decide +kernel
theorem dX12_alikeAt_71 : decode cX12_alikeAt 71 = .ok (.if_icmp .ne 7, 3) := by decide +kernel
theorem dX12_alikeAt_74 : decode cX12_alikeAt 74 = .ok (.iconst 1, 1) := by decide +kernel
theorem dX12_alikeAt_75 : decode cX12_alikeAt 75 = .ok (.goto 4, 3) := by decide +kernel
theorem dX12_alikeAt_88 : decode cX12_alikeAt 88 = .ok (.iload 4, 2) := by decide +kernel
theorem dX12_alikeAt_90 : decode cX12_alikeAt 90 = .ok (.iload_n 2, 1) := by decide +kernel
theorem dX12_alikeAt_91 : decode cX12_alikeAt 91 = .ok (.if_icmp .le 8, 3) := by decide +kernel
theorem dX12_alikeAt_99 : decode cX12_alikeAt 99 = .ok (.iload_n 2, 1) := by decide +kernel
theorem dX12_alikeAt_100 : decode cX12_alikeAt 100 = .ok (.istore_n 2, 1) := by decide +kernel
theorem dX12_alikeAt_101 : decode cX12_alikeAt 101 = .ok (.iinc 3 1, 3) := by decide +kernel
theorem dX12_alikeAt_104 : decode cX12_alikeAt 104 = .ok (.goto (-100), 3) := by decide +kernel
theorem dX12_alikeAt_94 : decode cX12_alikeAt 94 = .ok (.iload 4, 2) := by decide +kernel
theorem dX12_alikeAt_96 : decode cX12_alikeAt 96 = .ok (.goto 4, 3) := by decide +kernel
theorem dX12_alikeAt_107 : decode cX12_alikeAt 107 = .ok (.iload_n 2, 1) := by decide +kernel
theorem dX12_alikeAt_108 : decode cX12_alikeAt 108 = .ok (.ireturn, 1) := by decide +kernel
set_option maxHeartbeats 4000000 in
set_option maxRecDepth 100000 in
theorem cy_X12_alikeAt (l : Launch) (D : va_G) (cA : Nat → ClassId) (L : List Nat) (T : Nat → Nat) (r : Rg) (hG : GR L T r) (hL : L.Nodup) (σ : Sg) (ρ : Lg) (hW : WT L ry T σ) (sz : Nat) (h0 : Nat) (mh0 : h0 ∈ L) (th0 : T h0 = 12) (p1 : Int32) (w0 : 0 ≤ p1.toInt) (w1 : p1.toInt ≤ 7) : Met l yX12_alikeAt (.code yX12_alikeAt cX12_alikeAt 6 (some .int) :: wsA) ({ frames := 0, cells := 0, slots := 0, locals := 0 }) (PR D cA L T r σ ρ sz [.ref h0, .int p1]) (QI D cA L T r ry ([] : List (Nat × Nat)) σ sz (fun x σ1 => True)) 0 0 (dm L sz) := by
  refine Met.ofW (cc := cX12_alikeAt) (maxL := 6) (ret := (some .int)) (by decide) rfl ?_
  intro p e s m args below meth c s₁ B hml hv
  obtain ⟨rfl, hsz, hP, hK, hN⟩ := hv
  have hx := B.exec
  have hb := B.bytes
  have hr := B.returns
  have hts : ∀ w ∈ wsA, w.before _ s = true := fun w h => atoms_spec (ws := .code yX12_alikeAt cX12_alikeAt 6 (some .int) :: wsA) B.pre w (List.mem_cons_of_mem _ h)
  have hown : s.vm.findClass RX12 = some m.cls := findClass_of_methodNamed B.named
  subst hsz
  have hLA : LA (dm L s.heap.size) L := ⟨hL, fun a h => Or.inl h⟩
  have hA : ∀ q : Nat, s.heap.size ≤ q → dm L s.heap.size q := fun q h => Or.inr h
  have hS : va_S (dm L s.heap.size) s.heap s.heap [] := va_S.rf
  have hB : TS D cA L T r ry ([] : List (Nat × Nat)) σ σ ρ s.heap := ⟨hP, hW, FR.rf⟩
  have hl := lv_entry ([.ref h0, .int p1]) (n := 6) (Nat.le_of_ble_eq_true rfl)
  rw [lg_entry_eq]
  generalize (lg_sl ([.ref h0, .int p1]) ++ List.replicate (6 - (lg_sl ([.ref h0, .int p1])).length) Slot.unset).toArray = ls at hl ⊢
  have hl : lv_has ls 6 [(0, .ref h0), (1, .int p1)] := hl
  refine lv_iconst (v := 0) hx hb dX12_alikeAt_0 (by decide) ?_
  refine lv_istore_n (lv' := [(2, .int 0), (0, .ref h0), (1, .int p1)]) hx hb dX12_alikeAt_1 rfl hl (by decide) rfl (fun ls hl => ?_)
  refine lv_iconst (v := 0) hx hb dX12_alikeAt_2 (by decide) ?_
  refine lv_istore_n (lv' := [(3, .int 0), (2, .int 0), (0, .ref h0), (1, .int p1)]) hx hb dX12_alikeAt_3 rfl hl (by decide) rfl (fun ls hl => ?_)
  refine w_loop (α := Int32 × Int32 × Sg × Lg) (fun (i_1, i_2, σ_3, ρ_4) H locs ls => 0 ≤ i_2.toInt ∧ i_2.toInt ≤ 7 ∧ TS D cA L T r ry ([] : List (Nat × Nat)) σ σ_3 ρ_4 H ∧ va_S (dm L s.heap.size) s.heap H locs ∧ lv_has ls 6 [(3, .int i_2), (2, .int i_1), (0, .ref h0), (1, .int p1)]) (fun (i_1, i_2, σ_3, ρ_4) => (7 - i_2.toInt).toNat) ?_ ⟨0, 0, σ, ρ⟩ ⟨(by decide), (by decide), hB, hS, lv_sub hl [0, 1, 2, 3] rfl⟩
  rintro ⟨i_1, i_2, σ_3, ρ_4⟩ H locs ls ⟨li_2, ui_2, hB, hS, hl⟩ ih_5
  refine lv_iload_n hx hb dX12_alikeAt_4 rfl (lv_at hl 0 rfl) ?_
  refine lv_aload_n hx hb dX12_alikeAt_5 rfl (lv_at hl 2 rfl) ?_
  refine t_gi hx hb hts hown hK hB mh0 th0 fi_12_2 rfl mw_5_218 dX12_alikeAt_6 (fun x_6 ex_6 lx_6 ux_6 => ?_)
  have cx_6 := congrArg Int32.toInt ex_6
  refine lv_icmp_gt (tgt := 107) hx hb dX12_alikeAt_9 (by decide) (fun c_7 => ?_) (fun c_7 => ?_)
  · skip
    have uc_7 := j_lt c_7
    refine lv_iload_n hx hb dX12_alikeAt_107 rfl (lv_at hl 1 rfl) ?_
    exact W.iret (v := i_1) hx hb hr (fun t ht hW => ⟨⟨i_1, (σ_3, ρ_4), rfl, ⟨hB.2.1, hB.2.2, trivial⟩, (show TP D cA L T r σ_3 ρ_4 t.heap from by rw [ht]; exact hB.1)⟩, hS.F ht⟩) hS.2.2 dX12_alikeAt_108
  · skip
    have uc_7 := j_nlt c_7
    refine lv_iconst (v := 0) hx hb dX12_alikeAt_12 (by decide) ?_
    refine lv_istore (lv' := [(4, .int 0), (3, .int i_2), (2, .int i_1), (0, .ref h0), (1, .int p1)]) hx hb dX12_alikeAt_13 hl (by decide) rfl (fun ls hl => ?_)
    refine lv_iconst (v := 0) hx hb dX12_alikeAt_15 (by decide) ?_
    refine lv_istore (lv' := [(5, .int 0), (4, .int 0), (3, .int i_2), (2, .int i_1), (0, .ref h0), (1, .int p1)]) hx hb dX12_alikeAt_16 hl (by decide) rfl (fun ls hl => ?_)
    refine w_loop (α := Int32 × Int32 × Sg × Lg) (fun (i_8, i_9, σ_10, ρ_11) H locs ls => 0 ≤ i_9.toInt ∧ i_9.toInt ≤ 7 ∧ σ_10 h0 2 = x_6 ∧ TS D cA L T r ry ([] : List (Nat × Nat)) σ σ_10 ρ_11 H ∧ va_S (dm L s.heap.size) s.heap H locs ∧ lv_has ls 6 [(5, .int i_9), (4, .int i_8), (3, .int i_2), (2, .int i_1), (0, .ref h0), (1, .int p1)]) (fun (i_8, i_9, σ_10, ρ_11) => (7 - i_9.toInt).toNat) ?_ ⟨0, 0, σ_3, ρ_4⟩ ⟨(by decide), (by decide), ex_6.symm, hB, hS, lv_sub hl [0, 1, 2, 3, 4, 5] rfl⟩
    rintro ⟨i_8, i_9, σ_10, ρ_11⟩ H locs ls ⟨li_9, ui_9, k_13, hB, hS, hl⟩ ih_12
    refine lv_iload hx hb dX12_alikeAt_18 (lv_at hl 0 rfl) ?_
    refine lv_aload_n hx hb dX12_alikeAt_20 rfl (lv_at hl 4 rfl) ?_
    refine t_gv hx hb hts hown hK hB mh0 th0 fi_12_2 k_13 mw_5_218 dX12_alikeAt_21 ?_
    refine lv_icmp_gt (tgt := 88) hx hb dX12_alikeAt_24 (by decide) (fun c_14 => ?_) (fun c_14 => ?_)
    · skip
      have uc_14 := j_lt c_14
      refine lv_iload hx hb dX12_alikeAt_88 (lv_at hl 1 rfl) ?_
      refine lv_iload_n hx hb dX12_alikeAt_90 rfl (lv_at hl 3 rfl) ?_
      refine lv_icmp_le (tgt := 99) hx hb dX12_alikeAt_91 (by decide) (fun c_15 => ?_) (fun c_15 => ?_)
      · skip
        have uc_15 := j_le c_15
        refine lv_iload_n hx hb dX12_alikeAt_99 rfl (lv_at hl 3 rfl) ?_
        refine lv_istore_n (lv' := [(2, .int i_1), (5, .int i_9), (4, .int i_8), (3, .int i_2), (0, .ref h0), (1, .int p1)]) hx hb dX12_alikeAt_100 rfl hl (by decide) rfl (fun ls hl => ?_)
        obtain ⟨x_16, ex_16⟩ : ∃ y : Int32, y = i_2 + 1 := ⟨_, rfl⟩
        have vx_16 := b_add (rfl : i_2.toInt = _) (by decide : (1 : Int32).toInt = 1) ex_16 (by omega) (by omega)
        refine lv_iinc (v := x_16) (lv' := [(3, .int x_16), (2, .int i_1), (5, .int i_9), (4, .int i_8), (0, .ref h0), (1, .int p1)]) hx hb dX12_alikeAt_101 hl (k := 3) rfl (by rw [ex_16]; rfl) (by decide) rfl (fun ls hl => ?_)
        refine lv_goto (tgt := 4) hx hb dX12_alikeAt_104 (by decide) ?_
        exact ih_5 ⟨i_1, x_16, σ_10, ρ_11⟩ _ _ _ ⟨(by omega), (by omega), hB, hS, lv_sub hl [0, 1, 4, 5] rfl⟩ (by show (7 - x_16.toInt).toNat < (7 - i_2.toInt).toNat; omega)
      · skip
        have uc_15 := j_nle c_15
        refine lv_iload hx hb dX12_alikeAt_94 (lv_at hl 1 rfl) ?_
        refine lv_goto (tgt := 100) hx hb dX12_alikeAt_96 (by decide) ?_
        refine lv_istore_n (lv' := [(2, .int i_8), (5, .int i_9), (4, .int i_8), (3, .int i_2), (0, .ref h0), (1, .int p1)]) hx hb dX12_alikeAt_100 rfl hl (by decide) rfl (fun ls hl => ?_)
        obtain ⟨x_17, ex_17⟩ : ∃ y : Int32, y = i_2 + 1 := ⟨_, rfl⟩
        have vx_17 := b_add (rfl : i_2.toInt = _) (by decide : (1 : Int32).toInt = 1) ex_17 (by omega) (by omega)
        refine lv_iinc (v := x_17) (lv' := [(3, .int x_17), (2, .int i_8), (5, .int i_9), (4, .int i_8), (0, .ref h0), (1, .int p1)]) hx hb dX12_alikeAt_101 hl (k := 3) rfl (by rw [ex_17]; rfl) (by decide) rfl (fun ls hl => ?_)
        refine lv_goto (tgt := 4) hx hb dX12_alikeAt_104 (by decide) ?_
        exact ih_5 ⟨i_8, x_17, σ_10, ρ_11⟩ _ _ _ ⟨(by omega), (by omega), hB, hS, lv_sub hl [0, 1, 4, 5] rfl⟩ (by show (7 - x_17.toInt).toNat < (7 - i_2.toInt).toNat; omega)
    · skip
      have uc_14 := j_nlt c_14
      refine lv_aload_n hx hb dX12_alikeAt_27 rfl (lv_at hl 4 rfl) ?_
      refine t_gr hx hb hts hown hK hG hB mh0 th0 fq_12_37 rfl mw_6_13 dX12_alikeAt_28 (fun b_18 hb_18 mb_18 tb_18 => ?_)
      refine lv_iload_n hx hb dX12_alikeAt_31 rfl (lv_at hl 2 rfl) ?_
      refine t_az hx hb hK hB mb_18 tb_18 ai_80 (fun _ => rfl) (i_in (by omega) (by omega)) dX12_alikeAt_32 (fun x_19 ex_19 lx_19 ux_19 => ?_)
      have cx_19 := congrArg Int32.toInt ex_19
      refine lv_if_eq (tgt := 88) hx hb dX12_alikeAt_33 (by decide) (fun c_20 => ?_) (fun c_20 => ?_)
      · skip
        have uc_20 := i_eq (n := 0) (by decide) c_20
        refine lv_iload hx hb dX12_alikeAt_88 (lv_at hl 1 rfl) ?_
        refine lv_iload_n hx hb dX12_alikeAt_90 rfl (lv_at hl 3 rfl) ?_
        refine lv_icmp_le (tgt := 99) hx hb dX12_alikeAt_91 (by decide) (fun c_21 => ?_) (fun c_21 => ?_)
        · skip
          have uc_21 := j_le c_21
          refine lv_iload_n hx hb dX12_alikeAt_99 rfl (lv_at hl 3 rfl) ?_
          refine lv_istore_n (lv' := [(2, .int i_1), (5, .int i_9), (4, .int i_8), (3, .int i_2), (0, .ref h0), (1, .int p1)]) hx hb dX12_alikeAt_100 rfl hl (by decide) rfl (fun ls hl => ?_)
          obtain ⟨x_22, ex_22⟩ : ∃ y : Int32, y = i_2 + 1 := ⟨_, rfl⟩
          have vx_22 := b_add (rfl : i_2.toInt = _) (by decide : (1 : Int32).toInt = 1) ex_22 (by omega) (by omega)
          refine lv_iinc (v := x_22) (lv' := [(3, .int x_22), (2, .int i_1), (5, .int i_9), (4, .int i_8), (0, .ref h0), (1, .int p1)]) hx hb dX12_alikeAt_101 hl (k := 3) rfl (by rw [ex_22]; rfl) (by decide) rfl (fun ls hl => ?_)
          refine lv_goto (tgt := 4) hx hb dX12_alikeAt_104 (by decide) ?_
          exact ih_5 ⟨i_1, x_22, σ_10, ρ_11⟩ _ _ _ ⟨(by omega), (by omega), hB, hS, lv_sub hl [0, 1, 4, 5] rfl⟩ (by show (7 - x_22.toInt).toNat < (7 - i_2.toInt).toNat; omega)
        · skip
          have uc_21 := j_nle c_21
          refine lv_iload hx hb dX12_alikeAt_94 (lv_at hl 1 rfl) ?_
          refine lv_goto (tgt := 100) hx hb dX12_alikeAt_96 (by decide) ?_
          refine lv_istore_n (lv' := [(2, .int i_8), (5, .int i_9), (4, .int i_8), (3, .int i_2), (0, .ref h0), (1, .int p1)]) hx hb dX12_alikeAt_100 rfl hl (by decide) rfl (fun ls hl => ?_)
          obtain ⟨x_23, ex_23⟩ : ∃ y : Int32, y = i_2 + 1 := ⟨_, rfl⟩
          have vx_23 := b_add (rfl : i_2.toInt = _) (by decide : (1 : Int32).toInt = 1) ex_23 (by omega) (by omega)
          refine lv_iinc (v := x_23) (lv' := [(3, .int x_23), (2, .int i_8), (5, .int i_9), (4, .int i_8), (0, .ref h0), (1, .int p1)]) hx hb dX12_alikeAt_101 hl (k := 3) rfl (by rw [ex_23]; rfl) (by decide) rfl (fun ls hl => ?_)
          refine lv_goto (tgt := 4) hx hb dX12_alikeAt_104 (by decide) ?_
          exact ih_5 ⟨i_8, x_23, σ_10, ρ_11⟩ _ _ _ ⟨(by omega), (by omega), hB, hS, lv_sub hl [0, 1, 4, 5] rfl⟩ (by show (7 - x_23.toInt).toNat < (7 - i_2.toInt).toNat; omega)
      · skip
        have uc_20 := i_ne (n := 0) (by decide) c_20
        refine lv_iload hx hb dX12_alikeAt_36 (lv_at hl 1 rfl) ?_
        refine lv_aload_n hx hb dX12_alikeAt_38 rfl (lv_at hl 4 rfl) ?_
        refine t_gk hx hb hts hown hK hB mh0 th0 fq_12_37 hb_18 mw_6_13 dX12_alikeAt_39 ?_
        refine lv_iload hx hb dX12_alikeAt_42 (lv_at hl 0 rfl) ?_
        refine t_az hx hb hK hB mb_18 tb_18 ai_80 (fun _ => rfl) (i_in (by omega) (by omega)) dX12_alikeAt_44 (fun x_24 ex_24 lx_24 ux_24 => ?_)
        have cx_24 := congrArg Int32.toInt ex_24
        refine lv_if_eq (tgt := 78) hx hb dX12_alikeAt_45 (by decide) (fun c_25 => ?_) (fun c_25 => ?_)
        · skip
          have uc_25 := i_eq (n := 0) (by decide) c_25
          refine lv_iconst (v := 0) hx hb dX12_alikeAt_78 (by decide) ?_
          refine lv_iadd hx hb dX12_alikeAt_79 ?_
          refine lv_topi (fun x_26 ex_26 => ?_)
          try have vx_26 := b_add (rfl : i_8.toInt = _) (by decide : (0 : Int32).toInt = 0) ex_26 (by omega) (by omega)
          refine lv_istore (lv' := [(4, .int x_26), (5, .int i_9), (3, .int i_2), (2, .int i_1), (0, .ref h0), (1, .int p1)]) hx hb dX12_alikeAt_80 hl (by decide) rfl (fun ls hl => ?_)
          obtain ⟨x_27, ex_27⟩ : ∃ y : Int32, y = i_9 + 1 := ⟨_, rfl⟩
          have vx_27 := b_add (rfl : i_9.toInt = _) (by decide : (1 : Int32).toInt = 1) ex_27 (by omega) (by omega)
          refine lv_iinc (v := x_27) (lv' := [(5, .int x_27), (4, .int x_26), (3, .int i_2), (2, .int i_1), (0, .ref h0), (1, .int p1)]) hx hb dX12_alikeAt_82 hl (k := 1) rfl (by rw [ex_27]; rfl) (by decide) rfl (fun ls hl => ?_)
          refine lv_goto (tgt := 18) hx hb dX12_alikeAt_85 (by decide) ?_
          exact ih_12 ⟨x_26, x_27, σ_10, ρ_11⟩ _ _ _ ⟨(by omega), (by omega), k_13, hB, hS, lv_sub hl [0, 1, 2, 3, 4, 5] rfl⟩ (by show (7 - x_27.toInt).toNat < (7 - i_9.toInt).toNat; omega)
        · skip
          have uc_25 := i_ne (n := 0) (by decide) c_25
          refine lv_aload_n hx hb dX12_alikeAt_48 rfl (lv_at hl 4 rfl) ?_
          refine t_gr hx hb hts hown hK hG hB mh0 th0 fq_12_38 rfl mw_6_14 dX12_alikeAt_49 (fun b_28 hb_28 mb_28 tb_28 => ?_)
          refine lv_bipush (v := 8) hx hb dX12_alikeAt_52 (by decide) ?_
          refine lv_iload_n hx hb dX12_alikeAt_54 rfl (lv_at hl 2 rfl) ?_
          refine lv_imul hx hb dX12_alikeAt_55 ?_
          refine lv_topi (fun x_29 ex_29 => ?_)
          have vx_29 := b_mul (by decide : (8 : Int32).toInt = 8) (rfl : i_2.toInt = _) ex_29 (by omega) (by omega)
          refine lv_iload_n hx hb dX12_alikeAt_56 rfl (lv_at hl 5 rfl) ?_
          refine lv_iadd hx hb dX12_alikeAt_57 ?_
          refine lv_topi (fun x_30 ex_30 => ?_)
          have vx_30 := b_add (rfl : x_29.toInt = _) (rfl : p1.toInt = _) ex_30 (by omega) (by omega)
          refine t_ai hx hb hK hB mb_28 tb_28 ai_81 (fun _ => rfl) (i_in (by omega) (by omega)) dX12_alikeAt_58 (fun x_31 ex_31 lx_31 ux_31 => ?_)
          have cx_31 := congrArg Int32.toInt ex_31
          refine lv_aload_n hx hb dX12_alikeAt_59 rfl (lv_at hl 4 rfl) ?_
          refine t_gk hx hb hts hown hK hB mh0 th0 fq_12_38 hb_28 mw_6_14 dX12_alikeAt_60 ?_
          refine lv_bipush (v := 8) hx hb dX12_alikeAt_63 (by decide) ?_
          refine lv_iload hx hb dX12_alikeAt_65 (lv_at hl 0 rfl) ?_
          refine lv_imul hx hb dX12_alikeAt_67 ?_
          refine lv_topi (fun x_32 ex_32 => ?_)
          have vx_32 := b_mul (by decide : (8 : Int32).toInt = 8) (rfl : i_9.toInt = _) ex_32 (by omega) (by omega)
          refine lv_iload_n hx hb dX12_alikeAt_68 rfl (lv_at hl 5 rfl) ?_
          refine lv_iadd hx hb dX12_alikeAt_69 ?_
          refine lv_topi (fun x_33 ex_33 => ?_)
          have vx_33 := b_add (rfl : x_32.toInt = _) (rfl : p1.toInt = _) ex_33 (by omega) (by omega)
          refine t_ai hx hb hK hB mb_28 tb_28 ai_81 (fun _ => rfl) (i_in (by omega) (by omega)) dX12_alikeAt_70 (fun x_34 ex_34 lx_34 ux_34 => ?_)
          have cx_34 := congrArg Int32.toInt ex_34
          refine lv_icmp_ne (tgt := 78) hx hb dX12_alikeAt_71 (by decide) (fun c_35 => ?_) (fun c_35 => ?_)
          · skip
            have uc_35 := j_ne c_35
            refine lv_iconst (v := 0) hx hb dX12_alikeAt_78 (by decide) ?_
            refine lv_iadd hx hb dX12_alikeAt_79 ?_
            refine lv_topi (fun x_36 ex_36 => ?_)
            try have vx_36 := b_add (rfl : i_8.toInt = _) (by decide : (0 : Int32).toInt = 0) ex_36 (by omega) (by omega)
            refine lv_istore (lv' := [(4, .int x_36), (5, .int i_9), (3, .int i_2), (2, .int i_1), (0, .ref h0), (1, .int p1)]) hx hb dX12_alikeAt_80 hl (by decide) rfl (fun ls hl => ?_)
            obtain ⟨x_37, ex_37⟩ : ∃ y : Int32, y = i_9 + 1 := ⟨_, rfl⟩
            have vx_37 := b_add (rfl : i_9.toInt = _) (by decide : (1 : Int32).toInt = 1) ex_37 (by omega) (by omega)
            refine lv_iinc (v := x_37) (lv' := [(5, .int x_37), (4, .int x_36), (3, .int i_2), (2, .int i_1), (0, .ref h0), (1, .int p1)]) hx hb dX12_alikeAt_82 hl (k := 1) rfl (by rw [ex_37]; rfl) (by decide) rfl (fun ls hl => ?_)
            refine lv_goto (tgt := 18) hx hb dX12_alikeAt_85 (by decide) ?_
            exact ih_12 ⟨x_36, x_37, σ_10, ρ_11⟩ _ _ _ ⟨(by omega), (by omega), k_13, hB, hS, lv_sub hl [0, 1, 2, 3, 4, 5] rfl⟩ (by show (7 - x_37.toInt).toNat < (7 - i_9.toInt).toNat; omega)
          · skip
            have uc_35 := j_eq c_35
            refine lv_iconst (v := 1) hx hb dX12_alikeAt_74 (by decide) ?_
            refine lv_goto (tgt := 79) hx hb dX12_alikeAt_75 (by decide) ?_
            refine lv_iadd hx hb dX12_alikeAt_79 ?_
            refine lv_topi (fun x_38 ex_38 => ?_)
            try have vx_38 := b_add (rfl : i_8.toInt = _) (by decide : (1 : Int32).toInt = 1) ex_38 (by omega) (by omega)
            refine lv_istore (lv' := [(4, .int x_38), (5, .int i_9), (3, .int i_2), (2, .int i_1), (0, .ref h0), (1, .int p1)]) hx hb dX12_alikeAt_80 hl (by decide) rfl (fun ls hl => ?_)
            obtain ⟨x_39, ex_39⟩ : ∃ y : Int32, y = i_9 + 1 := ⟨_, rfl⟩
            have vx_39 := b_add (rfl : i_9.toInt = _) (by decide : (1 : Int32).toInt = 1) ex_39 (by omega) (by omega)
            refine lv_iinc (v := x_39) (lv' := [(5, .int x_39), (4, .int x_38), (3, .int i_2), (2, .int i_1), (0, .ref h0), (1, .int p1)]) hx hb dX12_alikeAt_82 hl (k := 1) rfl (by rw [ex_39]; rfl) (by decide) rfl (fun ls hl => ?_)
            refine lv_goto (tgt := 18) hx hb dX12_alikeAt_85 (by decide) ?_
            exact ih_12 ⟨x_38, x_39, σ_10, ρ_11⟩ _ _ _ ⟨(by omega), (by omega), k_13, hB, hS, lv_sub hl [0, 1, 2, 3, 4, 5] rfl⟩ (by show (7 - x_39.toInt).toNat < (7 - i_9.toInt).toNat; omega)
theorem mw_5_238 : (.fieldLink RX12 460 "HillBendsModel" "x" "I" : Cond) ∈ wsA := wsA_t (List.mem_append_right _ (List.mem_append_right _ (List.mem_append_right _ (List.mem_append_right _ (List.mem_append_left _ (List.mem_of_getElem? (l := tables_1_5) (i := 238) rfl)))))) rfl
theorem dX12_seed_0 : decode cX12_seed 0 = .ok (.iload_n 1, 1) := by decide +kernel
theorem dX12_seed_1 : decode cX12_seed 1 = .ok (.ifCond .ge 5, 3) := by decide +kernel
theorem dX12_seed_6 : decode cX12_seed 6 = .ok (.aload_n 0, 1) := by decide +kernel
theorem dX12_seed_7 : decode cX12_seed 7 = .ok (.getfield 460, 3) := by decide +kernel
theorem dX12_seed_10 : decode cX12_seed 10 = .ok (.istore_n 2, 1) := by decide +kernel
theorem dX12_seed_11 : decode cX12_seed 11 = .ok (.aload_n 0, 1) := by decide +kernel
theorem dX12_seed_12 : decode cX12_seed 12 = .ok (.iload_n 1, 1) := by decide +kernel
theorem dX12_seed_13 : decode cX12_seed 13 = .ok (.putfield 460, 3) := by decide +kernel
theorem dX12_seed_16 : decode cX12_seed 16 = .ok (.iload_n 2, 1) := by decide +kernel
theorem dX12_seed_17 : decode cX12_seed 17 = .ok (.ireturn, 1) := by decide +kernel
theorem dX12_seed_4 : decode cX12_seed 4 = .ok (.iconst (-1), 1) := by decide +kernel
theorem dX12_seed_5 : decode cX12_seed 5 = .ok (.ireturn, 1) := by decide +kernel
set_option maxHeartbeats 4000000 in
set_option maxRecDepth 100000 in
theorem cy_X12_seed (l : Launch) (D : va_G) (cA : Nat → ClassId) (L : List Nat) (T : Nat → Nat) (r : Rg) (hG : GR L T r) (hL : L.Nodup) (σ : Sg) (ρ : Lg) (hW : WT L ry T σ) (sz : Nat) (h0 : Nat) (mh0 : h0 ∈ L) (th0 : T h0 = 12) (p1 : Int32) : Met l yX12_seed (.code yX12_seed cX12_seed 3 (some .int) :: wsA) ({ frames := 0, cells := 0, slots := 0, locals := 0 }) (PR D cA L T r σ ρ sz [.ref h0, .int p1]) (QI D cA L T r ry [(12, 22)] σ sz (fun x σ1 => True)) 0 0 (dm L sz) := by
  refine Met.ofW (cc := cX12_seed) (maxL := 3) (ret := (some .int)) (by decide) rfl ?_
  intro p e s m args below meth c s₁ B hml hv
  obtain ⟨rfl, hsz, hP, hK, hN⟩ := hv
  have hx := B.exec
  have hb := B.bytes
  have hr := B.returns
  have hts : ∀ w ∈ wsA, w.before _ s = true := fun w h => atoms_spec (ws := .code yX12_seed cX12_seed 3 (some .int) :: wsA) B.pre w (List.mem_cons_of_mem _ h)
  have hown : s.vm.findClass RX12 = some m.cls := findClass_of_methodNamed B.named
  subst hsz
  have hLA : LA (dm L s.heap.size) L := ⟨hL, fun a h => Or.inl h⟩
  have hA : ∀ q : Nat, s.heap.size ≤ q → dm L s.heap.size q := fun q h => Or.inr h
  have hS : va_S (dm L s.heap.size) s.heap s.heap [] := va_S.rf
  have hB : TS D cA L T r ry [(12, 22)] σ σ ρ s.heap := ⟨hP, hW, FR.rf⟩
  have hl := lv_entry ([.ref h0, .int p1]) (n := 3) (Nat.le_of_ble_eq_true rfl)
  rw [lg_entry_eq]
  generalize (lg_sl ([.ref h0, .int p1]) ++ List.replicate (3 - (lg_sl ([.ref h0, .int p1])).length) Slot.unset).toArray = ls at hl ⊢
  have hl : lv_has ls 3 [(0, .ref h0), (1, .int p1)] := hl
  refine lv_iload_n hx hb dX12_seed_0 rfl (lv_at hl 1 rfl) ?_
  refine lv_if_ge (tgt := 6) hx hb dX12_seed_1 (by decide) (fun c_1 => ?_) (fun c_1 => ?_)
  · skip
    have uc_1 := i_ge (n := 0) (by decide) c_1
    refine lv_aload_n hx hb dX12_seed_6 rfl (lv_at hl 0 rfl) ?_
    refine t_gi hx hb hts hown hK hB mh0 th0 fi_12_22 rfl mw_5_238 dX12_seed_7 (fun x_2 ex_2 lx_2 ux_2 => ?_)
    have cx_2 := congrArg Int32.toInt ex_2
    refine lv_istore_n (lv' := [(2, .int x_2), (0, .ref h0), (1, .int p1)]) hx hb dX12_seed_10 rfl hl (by decide) rfl (fun ls hl => ?_)
    refine lv_aload_n hx hb dX12_seed_11 rfl (lv_at hl 1 rfl) ?_
    refine lv_iload_n hx hb dX12_seed_12 rfl (lv_at hl 2 rfl) ?_
    refine t_pi hx hb hts hown hK hLA hB hS mh0 th0 fi_12_22 rfl rfl rfl (i_lo _) (i_hi _) (Or.inl (by decide)) mw_5_238 dX12_seed_13 (fun H locs σ_3 eσ_3 hB hS => ?_)
    have k_4 : σ_3 h0 22 = p1 := by rw [eσ_3]; exact up2_same _ _ _ _
    refine lv_iload_n hx hb dX12_seed_16 rfl (lv_at hl 0 rfl) ?_
    exact W.iret (v := x_2) hx hb hr (fun t ht hW => ⟨⟨x_2, (σ_3, ρ), rfl, ⟨hB.2.1, hB.2.2, trivial⟩, (show TP D cA L T r σ_3 ρ t.heap from by rw [ht]; exact hB.1)⟩, hS.F ht⟩) hS.2.2 dX12_seed_17
  · skip
    have uc_1 := i_nge (n := 0) (by decide) c_1
    refine lv_iconst (v := (-1)) hx hb dX12_seed_4 (by decide) ?_
    exact W.iret (v := (-1)) hx hb hr (fun t ht hW => ⟨⟨(-1), (σ, ρ), rfl, ⟨hB.2.1, hB.2.2, trivial⟩, (show TP D cA L T r σ ρ t.heap from by rw [ht]; exact hB.1)⟩, hS.F ht⟩) hS.2.2 dX12_seed_5
theorem mw_7_141 : (.instanceMethod yX12_heapMany : Cond) ∈ wsA := wsA_t (List.mem_append_right _ (List.mem_append_right _ (List.mem_append_right _ (List.mem_append_right _ (List.mem_append_right _ (List.mem_append_right _ (List.mem_append_left _ (List.mem_of_getElem? (l := tables_1_7) (i := 141) rfl)))))))) rfl
theorem mp_6_12 : (.selects RX12 yX12_heapMany yX12_heapMany : Cond) ∈ wsA := wsA_p (q := (yX12_heapMany, 44)) (List.mem_append_right _ (List.mem_append_right _ (List.mem_append_right _ (List.mem_append_right _ (List.mem_append_right _ (List.mem_append_left _ (List.mem_of_getElem? (l := lw_privs_6) (i := 12) rfl)))))))
theorem mw_7_142 : (.code yX12_heapMany cX12_heapMany 4 (some .int) : Cond) ∈ wsA := wsA_t (List.mem_append_right _ (List.mem_append_right _ (List.mem_append_right _ (List.mem_append_right _ (List.mem_append_right _ (List.mem_append_right _ (List.mem_append_left _ (List.mem_of_getElem? (l := tables_1_7) (i := 142) rfl)))))))) rfl
theorem mw_7_139 : (.methodLink RX12 344 yX12_heapMany : Cond) ∈ wsA := wsA_t (List.mem_append_right _ (List.mem_append_right _ (List.mem_append_right _ (List.mem_append_right _ (List.mem_append_right _ (List.mem_append_right _ (List.mem_append_left _ (List.mem_of_getElem? (l := tables_1_7) (i := 139) rfl)))))))) rfl
theorem mw_5_217 : (.fieldLink RX12 92 "HillBendsModel" "taped" "I" : Cond) ∈ wsA := wsA_t (List.mem_append_right _ (List.mem_append_right _ (List.mem_append_right _ (List.mem_append_right _ (List.mem_append_left _ (List.mem_of_getElem? (l := tables_1_5) (i := 217) rfl)))))) rfl
theorem dX12_count_0 : decode cX12_count 0 = .ok (.iconst 0, 1) := by decide +kernel
theorem dX12_count_1 : decode cX12_count 1 = .ok (.istore_n 2, 1) := by decide +kernel
theorem dX12_count_2 : decode cX12_count 2 = .ok (.iload_n 1, 1) := by decide +kernel
theorem dX12_count_3 : decode cX12_count 3 = .ok (.tableswitch 234 0 13 #[69, 69, 69, 69, 76, 81, 86, 93, 137, 182, 210, 219, 224, 229], 69) := by decide +kernel
theorem dX12_count_237 : decode cX12_count 237 = .ok (.iconst (-1), 1) := by decide +kernel
theorem dX12_count_238 : decode cX12_count 238 = .ok (.ireturn, 1) := by decide +kernel
theorem dX12_count_72 : decode cX12_count 72 = .ok (.aload_n 0, 1) := by decide +kernel
theorem dX12_count_73 : decode cX12_count 73 = .ok (.getfield 39, 3) := by decide +kernel
theorem dX12_count_76 : decode cX12_count 76 = .ok (.iload_n 1, 1) := by decide +kernel
theorem dX12_count_77 : decode cX12_count 77 = .ok (.iaload, 1) := by decide +kernel
theorem dX12_count_78 : decode cX12_count 78 = .ok (.ireturn, 1) := by decide +kernel
theorem dX12_count_79 : decode cX12_count 79 = .ok (.aload_n 0, 1) := by decide +kernel
theorem dX12_count_80 : decode cX12_count 80 = .ok (.getfield 276, 3) := by decide +kernel
theorem dX12_count_83 : decode cX12_count 83 = .ok (.ireturn, 1) := by decide +kernel
theorem dX12_count_84 : decode cX12_count 84 = .ok (.aload_n 0, 1) := by decide +kernel
theorem dX12_count_85 : decode cX12_count 85 = .ok (.getfield 42, 3) := by decide +kernel
theorem dX12_count_88 : decode cX12_count 88 = .ok (.ireturn, 1) := by decide +kernel
theorem dX12_count_89 : decode cX12_count 89 = .ok (.aload_n 0, 1) := by decide +kernel
theorem dX12_count_90 : decode cX12_count 90 = .ok (.getfield 39, 3) := by decide +kernel
theorem dX12_count_93 : decode cX12_count 93 = .ok (.iconst 4, 1) := by decide +kernel
theorem dX12_count_94 : decode cX12_count 94 = .ok (.iaload, 1) := by decide +kernel
theorem dX12_count_95 : decode cX12_count 95 = .ok (.ireturn, 1) := by decide +kernel
theorem dX12_count_96 : decode cX12_count 96 = .ok (.iconst 0, 1) := by decide +kernel
theorem dX12_count_97 : decode cX12_count 97 = .ok (.istore_n 3, 1) := by decide +kernel
theorem dX12_count_98 : decode cX12_count 98 = .ok (.iload_n 3, 1) := by decide +kernel
theorem dX12_count_99 : decode cX12_count 99 = .ok (.aload_n 0, 1) := by decide +kernel
theorem dX12_count_100 : decode cX12_count 100 = .ok (.getfield 39, 3) := by decide +kernel
theorem dX12_count_103 : decode cX12_count 103 = .ok (.iconst 2, 1) := by decide +kernel
theorem dX12_count_104 : decode cX12_count 104 = .ok (.iaload, 1) := by decide +kernel
theorem dX12_count_105 : decode cX12_count 105 = .ok (.if_icmp .ge 33, 3) := by decide +kernel
theorem dX12_count_108 : decode cX12_count 108 = .ok (.iload_n 2, 1) := by decide +kernel
theorem dX12_count_109 : decode cX12_count 109 = .ok (.aload_n 0, 1) := by decide +kernel
theorem dX12_count_110 : decode cX12_count 110 = .ok (.iload_n 3, 1) := by decide +kernel
theorem dX12_count_111 : decode cX12_count 111 = .ok (.invokevirtual 332, 3) := by decide +kernel
theorem dX12_count_114 : decode cX12_count 114 = .ok (.aload_n 0, 1) := by decide +kernel
theorem dX12_count_115 : decode cX12_count 115 = .ok (.iload_n 3, 1) := by decide +kernel
theorem dX12_count_116 : decode cX12_count 116 = .ok (.iconst 0, 1) := by decide +kernel
theorem dX12_count_117 : decode cX12_count 117 = .ok (.invokevirtual 300, 3) := by decide +kernel
theorem dX12_count_120 : decode cX12_count 120 = .ok (.if_icmp .eq 9, 3) := by decide +kernel
theorem dX12_count_129 : decode cX12_count 129 = .ok (.iconst 0, 1) := by decide +kernel
theorem dX12_count_130 : decode cX12_count 130 = .ok (.ior, 1) := by decide +kernel
theorem dX12_count_131 : decode cX12_count 131 = .ok (.istore_n 2, 1) := by decide +kernel
theorem dX12_count_132 : decode cX12_count 132 = .ok (.iinc 3 1, 3) := by decide +kernel
theorem dX12_count_135 : decode cX12_count 135 = .ok (.goto (-37), 3) := by decide +kernel
theorem dX12_count_123 : decode cX12_count 123 = .ok (.iconst 1, 1) := by decide +kernel
theorem dX12_count_124 : decode cX12_count 124 = .ok (.iload_n 3, 1) := by decide +kernel
theorem dX12_count_125 : decode cX12_count 125 = .ok (.ishl, 1) := by decide +kernel
theorem dX12_count_126 : decode cX12_count 126 = .ok (.goto 4, 3) := by decide +kernel
theorem dX12_count_138 : decode cX12_count 138 = .ok (.iload_n 2, 1) := by decide +kernel
theorem dX12_count_139 : decode cX12_count 139 = .ok (.ireturn, 1) := by decide +kernel
theorem dX12_count_140 : decode cX12_count 140 = .ok (.iconst 0, 1) := by decide +kernel
theorem dX12_count_141 : decode cX12_count 141 = .ok (.istore_n 3, 1) := by decide +kernel
theorem dX12_count_142 : decode cX12_count 142 = .ok (.iload_n 3, 1) := by decide +kernel
theorem dX12_count_143 : decode cX12_count 143 = .ok (.aload_n 0, 1) := by decide +kernel
theorem dX12_count_144 : decode cX12_count 144 = .ok (.getfield 39, 3) := by decide +kernel
theorem dX12_count_147 : decode cX12_count 147 = .ok (.iconst 3, 1) := by decide +kernel
theorem dX12_count_148 : decode cX12_count 148 = .ok (.iaload, 1) := by decide +kernel
theorem dX12_count_149 : decode cX12_count 149 = .ok (.if_icmp .ge 34, 3) := by decide +kernel
theorem dX12_count_152 : decode cX12_count 152 = .ok (.iload_n 2, 1) := by decide +kernel
theorem dX12_count_153 : decode cX12_count 153 = .ok (.aload_n 0, 1) := by decide +kernel
theorem dX12_count_154 : decode cX12_count 154 = .ok (.iload_n 3, 1) := by decide +kernel
theorem dX12_count_155 : decode cX12_count 155 = .ok (.iconst 0, 1) := by decide +kernel
theorem dX12_count_156 : decode cX12_count 156 = .ok (.invokevirtual 324, 3) := by decide +kernel
theorem dX12_count_159 : decode cX12_count 159 = .ok (.aload_n 0, 1) := by decide +kernel
theorem dX12_count_160 : decode cX12_count 160 = .ok (.getfield 39, 3) := by decide +kernel
theorem dX12_count_163 : decode cX12_count 163 = .ok (.iconst 2, 1) := by decide +kernel
theorem dX12_count_164 : decode cX12_count 164 = .ok (.iaload, 1) := by decide +kernel
theorem dX12_count_165 : decode cX12_count 165 = .ok (.if_icmp .ne 9, 3) := by decide +kernel
theorem dX12_count_174 : decode cX12_count 174 = .ok (.iconst 0, 1) := by decide +kernel
theorem dX12_count_175 : decode cX12_count 175 = .ok (.ior, 1) := by decide +kernel
theorem dX12_count_176 : decode cX12_count 176 = .ok (.istore_n 2, 1) := by decide +kernel
theorem dX12_count_177 : decode cX12_count 177 = .ok (.iinc 3 1, 3) := by decide +kernel
theorem dX12_count_180 : decode cX12_count 180 = .ok (.goto (-38), 3) := by decide +kernel
theorem dX12_count_168 : decode cX12_count 168 = .ok (.iconst 1, 1) := by decide +kernel
theorem dX12_count_169 : decode cX12_count 169 = .ok (.iload_n 3, 1) := by decide +kernel
theorem dX12_count_170 : decode cX12_count 170 = .ok (.ishl, 1) := by decide +kernel
theorem dX12_count_171 : decode cX12_count 171 = .ok (.goto 4, 3) := by decide +kernel
theorem dX12_count_183 : decode cX12_count 183 = .ok (.iload_n 2, 1) := by decide +kernel
theorem dX12_count_184 : decode cX12_count 184 = .ok (.ireturn, 1) := by decide +kernel
theorem dX12_count_185 : decode cX12_count 185 = .ok (.iconst 0, 1) := by decide +kernel
theorem dX12_count_186 : decode cX12_count 186 = .ok (.istore_n 3, 1) := by decide +kernel
theorem dX12_count_187 : decode cX12_count 187 = .ok (.iload_n 3, 1) := by decide +kernel
theorem dX12_count_188 : decode cX12_count 188 = .ok (.aload_n 0, 1) := by decide +kernel
theorem dX12_count_189 : decode cX12_count 189 = .ok (.getfield 39, 3) := by decide +kernel
theorem dX12_count_192 : decode cX12_count 192 = .ok (.iconst 2, 1) := by decide +kernel
theorem dX12_count_193 : decode cX12_count 193 = .ok (.iaload, 1) := by decide +kernel
theorem dX12_count_194 : decode cX12_count 194 = .ok (.if_icmp .ge 17, 3) := by decide +kernel
theorem dX12_count_197 : decode cX12_count 197 = .ok (.iload_n 2, 1) := by decide +kernel
theorem dX12_count_198 : decode cX12_count 198 = .ok (.aload_n 0, 1) := by decide +kernel
theorem dX12_count_199 : decode cX12_count 199 = .ok (.iload_n 3, 1) := by decide +kernel
theorem dX12_count_200 : decode cX12_count 200 = .ok (.invokevirtual 344, 3) := by decide +kernel
theorem dX12_count_203 : decode cX12_count 203 = .ok (.iadd, 1) := by decide +kernel
theorem dX12_count_204 : decode cX12_count 204 = .ok (.istore_n 2, 1) := by decide +kernel
theorem dX12_count_205 : decode cX12_count 205 = .ok (.iinc 3 1, 3) := by decide +kernel
theorem dX12_count_208 : decode cX12_count 208 = .ok (.goto (-21), 3) := by decide +kernel
theorem dX12_count_211 : decode cX12_count 211 = .ok (.iload_n 2, 1) := by decide +kernel
theorem dX12_count_212 : decode cX12_count 212 = .ok (.ireturn, 1) := by decide +kernel
theorem dX12_count_213 : decode cX12_count 213 = .ok (.aload_n 0, 1) := by decide +kernel
theorem dX12_count_214 : decode cX12_count 214 = .ok (.getfield 39, 3) := by decide +kernel
theorem dX12_count_217 : decode cX12_count 217 = .ok (.sipush 200, 3) := by decide +kernel
theorem dX12_count_220 : decode cX12_count 220 = .ok (.iaload, 1) := by decide +kernel
theorem dX12_count_221 : decode cX12_count 221 = .ok (.ireturn, 1) := by decide +kernel
theorem dX12_count_222 : decode cX12_count 222 = .ok (.aload_n 0, 1) := by decide +kernel
theorem dX12_count_223 : decode cX12_count 223 = .ok (.getfield 282, 3) := by decide +kernel
theorem dX12_count_226 : decode cX12_count 226 = .ok (.ireturn, 1) := by decide +kernel
theorem dX12_count_227 : decode cX12_count 227 = .ok (.aload_n 0, 1) := by decide +kernel
theorem dX12_count_228 : decode cX12_count 228 = .ok (.getfield 460, 3) := by decide +kernel
theorem dX12_count_231 : decode cX12_count 231 = .ok (.ireturn, 1) := by decide +kernel
theorem dX12_count_232 : decode cX12_count 232 = .ok (.aload_n 0, 1) := by decide +kernel
theorem dX12_count_233 : decode cX12_count 233 = .ok (.getfield 92, 3) := by decide +kernel
theorem dX12_count_236 : decode cX12_count 236 = .ok (.ireturn, 1) := by decide +kernel
theorem mv_X12_heapMany : MV RX12 yX12_heapMany cX12_heapMany 4 (some .int) 1 := ⟨mw_7_141, mp_6_12, mw_1_13, mw_7_142, ⟨rfl, by decide, by decide, by decide +kernel⟩⟩
set_option maxHeartbeats 4000000 in
set_option maxRecDepth 100000 in
theorem cy_X12_count (l : Launch) (D : va_G) (cA : Nat → ClassId) (L : List Nat) (T : Nat → Nat) (r : Rg) (hG : GR L T r) (hL : L.Nodup) (σ : Sg) (ρ : Lg) (hW : WT L ry T σ) (sz : Nat) (h0 : Nat) (mh0 : h0 ∈ L) (th0 : T h0 = 12) (p1 : Int32) : Met l yX12_count (.code yX12_count cX12_count 4 (some .int) :: wsA) ({ frames := 2, cells := 0, slots := 0, locals := 45 }) (PR D cA L T r σ ρ sz [.ref h0, .int p1]) (QI D cA L T r ry ([] : List (Nat × Nat)) σ sz (fun x σ1 => True)) 0 0 (dm L sz) := by
  refine Met.ofW (cc := cX12_count) (maxL := 4) (ret := (some .int)) (by decide) rfl ?_
  intro p e s m args below meth c s₁ B hml hv
  obtain ⟨rfl, hsz, hP, hK, hN⟩ := hv
  have hx := B.exec
  have hb := B.bytes
  have hr := B.returns
  have hts : ∀ w ∈ wsA, w.before _ s = true := fun w h => atoms_spec (ws := .code yX12_count cX12_count 4 (some .int) :: wsA) B.pre w (List.mem_cons_of_mem _ h)
  have hown : s.vm.findClass RX12 = some m.cls := findClass_of_methodNamed B.named
  subst hsz
  have hLA : LA (dm L s.heap.size) L := ⟨hL, fun a h => Or.inl h⟩
  have hA : ∀ q : Nat, s.heap.size ≤ q → dm L s.heap.size q := fun q h => Or.inr h
  have hS : va_S (dm L s.heap.size) s.heap s.heap [] := va_S.rf
  have hB : TS D cA L T r ry ([] : List (Nat × Nat)) σ σ ρ s.heap := ⟨hP, hW, FR.rf⟩
  have hl := lv_entry ([.ref h0, .int p1]) (n := 4) (Nat.le_of_ble_eq_true rfl)
  rw [lg_entry_eq]
  generalize (lg_sl ([.ref h0, .int p1]) ++ List.replicate (4 - (lg_sl ([.ref h0, .int p1])).length) Slot.unset).toArray = ls at hl ⊢
  have hl : lv_has ls 4 [(0, .ref h0), (1, .int p1)] := hl
  refine lv_iconst (v := 0) hx hb dX12_count_0 (by decide) ?_
  refine lv_istore_n (lv' := [(2, .int 0), (0, .ref h0), (1, .int p1)]) hx hb dX12_count_1 rfl hl (by decide) rfl (fun ls hl => ?_)
  refine lv_iload_n hx hb dX12_count_2 rfl (lv_at hl 2 rfl) ?_
  by_cases c_1 : p1.toInt < 0 ∨ 13 < p1.toInt
  · skip
    refine lv_tableOut (tgt := 237) hx hb dX12_count_3 c_1 (by decide) ?_
    refine lv_iconst (v := (-1)) hx hb dX12_count_237 (by decide) ?_
    exact W.iret (v := (-1)) hx hb hr (fun t ht hW => ⟨⟨(-1), (σ, ρ), rfl, ⟨hB.2.1, hB.2.2, trivial⟩, (show TP D cA L T r σ ρ t.heap from by rw [ht]; exact hB.1)⟩, hS.F ht⟩) hS.2.2 dX12_count_238
  · skip
    rcases (show p1.toInt = 0 ∨ p1.toInt = 1 ∨ p1.toInt = 2 ∨ p1.toInt = 3 ∨ p1.toInt = 4 ∨ p1.toInt = 5 ∨ p1.toInt = 6 ∨ p1.toInt = 7 ∨ p1.toInt = 8 ∨ p1.toInt = 9 ∨ p1.toInt = 10 ∨ p1.toInt = 11 ∨ p1.toInt = 12 ∨ p1.toInt = 13 by omega) with c_1j | c_1j | c_1j | c_1j | c_1j | c_1j | c_1j | c_1j | c_1j | c_1j | c_1j | c_1j | c_1j | c_1j
    · skip
      have c_1x : p1 = 0 := i_is (by decide) c_1j
      subst c_1x
      have nnc_1 : (0 : Int32).toInt = 0 := by decide
      refine lv_tableIn (tgt := 72) hx hb dX12_count_3 (by decide) (by decide) rfl (by decide) ?_
      refine lv_aload_n hx hb dX12_count_72 rfl (lv_at hl 1 rfl) ?_
      refine t_gr hx hb hts hown hK hG hB mh0 th0 fq_12_20 rfl mw_5_236 dX12_count_73 (fun b_2 hb_2 mb_2 tb_2 => ?_)
      refine lv_iload_n hx hb dX12_count_76 rfl (lv_at hl 2 rfl) ?_
      refine t_aj hx hb hK hB mb_2 tb_2 ai_70 (i_in (by decide) (by decide)) dX12_count_77 (fun x_3 ex_3 lx_3 ux_3 => ?_)
      have lx_3 : (-2147483648) ≤ x_3.toInt := lx_3
      have ux_3 : x_3.toInt ≤ 2147483647 := ux_3
      have cx_3 := congrArg Int32.toInt ex_3
      exact W.iret (v := x_3) hx hb hr (fun t ht hW => ⟨⟨x_3, (σ, ρ), rfl, ⟨hB.2.1, hB.2.2, trivial⟩, (show TP D cA L T r σ ρ t.heap from by rw [ht]; exact hB.1)⟩, hS.F ht⟩) hS.2.2 dX12_count_78
    · skip
      have c_1x : p1 = 1 := i_is (by decide) c_1j
      subst c_1x
      have nnc_1 : (1 : Int32).toInt = 1 := by decide
      refine lv_tableIn (tgt := 72) hx hb dX12_count_3 (by decide) (by decide) rfl (by decide) ?_
      refine lv_aload_n hx hb dX12_count_72 rfl (lv_at hl 1 rfl) ?_
      refine t_gr hx hb hts hown hK hG hB mh0 th0 fq_12_20 rfl mw_5_236 dX12_count_73 (fun b_4 hb_4 mb_4 tb_4 => ?_)
      refine lv_iload_n hx hb dX12_count_76 rfl (lv_at hl 2 rfl) ?_
      refine t_aj hx hb hK hB mb_4 tb_4 ai_70 (i_in (by decide) (by decide)) dX12_count_77 (fun x_5 ex_5 lx_5 ux_5 => ?_)
      have lx_5 : 0 ≤ x_5.toInt := lx_5
      have ux_5 : x_5.toInt ≤ 5 := ux_5
      have cx_5 := congrArg Int32.toInt ex_5
      exact W.iret (v := x_5) hx hb hr (fun t ht hW => ⟨⟨x_5, (σ, ρ), rfl, ⟨hB.2.1, hB.2.2, trivial⟩, (show TP D cA L T r σ ρ t.heap from by rw [ht]; exact hB.1)⟩, hS.F ht⟩) hS.2.2 dX12_count_78
    · skip
      have c_1x : p1 = 2 := i_is (by decide) c_1j
      subst c_1x
      have nnc_1 : (2 : Int32).toInt = 2 := by decide
      refine lv_tableIn (tgt := 72) hx hb dX12_count_3 (by decide) (by decide) rfl (by decide) ?_
      refine lv_aload_n hx hb dX12_count_72 rfl (lv_at hl 1 rfl) ?_
      refine t_gr hx hb hts hown hK hG hB mh0 th0 fq_12_20 rfl mw_5_236 dX12_count_73 (fun b_6 hb_6 mb_6 tb_6 => ?_)
      refine lv_iload_n hx hb dX12_count_76 rfl (lv_at hl 2 rfl) ?_
      refine t_aj hx hb hK hB mb_6 tb_6 ai_70 (i_in (by decide) (by decide)) dX12_count_77 (fun x_7 ex_7 lx_7 ux_7 => ?_)
      have lx_7 : 0 ≤ x_7.toInt := lx_7
      have ux_7 : x_7.toInt ≤ 8 := ux_7
      have cx_7 := congrArg Int32.toInt ex_7
      exact W.iret (v := x_7) hx hb hr (fun t ht hW => ⟨⟨x_7, (σ, ρ), rfl, ⟨hB.2.1, hB.2.2, trivial⟩, (show TP D cA L T r σ ρ t.heap from by rw [ht]; exact hB.1)⟩, hS.F ht⟩) hS.2.2 dX12_count_78
    · skip
      have c_1x : p1 = 3 := i_is (by decide) c_1j
      subst c_1x
      have nnc_1 : (3 : Int32).toInt = 3 := by decide
      refine lv_tableIn (tgt := 72) hx hb dX12_count_3 (by decide) (by decide) rfl (by decide) ?_
      refine lv_aload_n hx hb dX12_count_72 rfl (lv_at hl 1 rfl) ?_
      refine t_gr hx hb hts hown hK hG hB mh0 th0 fq_12_20 rfl mw_5_236 dX12_count_73 (fun b_8 hb_8 mb_8 tb_8 => ?_)
      refine lv_iload_n hx hb dX12_count_76 rfl (lv_at hl 2 rfl) ?_
      refine t_aj hx hb hK hB mb_8 tb_8 ai_70 (i_in (by decide) (by decide)) dX12_count_77 (fun x_9 ex_9 lx_9 ux_9 => ?_)
      have lx_9 : 0 ≤ x_9.toInt := lx_9
      have ux_9 : x_9.toInt ≤ 4 := ux_9
      have cx_9 := congrArg Int32.toInt ex_9
      exact W.iret (v := x_9) hx hb hr (fun t ht hW => ⟨⟨x_9, (σ, ρ), rfl, ⟨hB.2.1, hB.2.2, trivial⟩, (show TP D cA L T r σ ρ t.heap from by rw [ht]; exact hB.1)⟩, hS.F ht⟩) hS.2.2 dX12_count_78
    · skip
      have c_1x : p1 = 4 := i_is (by decide) c_1j
      subst c_1x
      have nnc_1 : (4 : Int32).toInt = 4 := by decide
      refine lv_tableIn (tgt := 79) hx hb dX12_count_3 (by decide) (by decide) rfl (by decide) ?_
      refine lv_aload_n hx hb dX12_count_79 rfl (lv_at hl 1 rfl) ?_
      refine t_gi hx hb hts hown hK hB mh0 th0 fi_12_2 rfl mw_5_218 dX12_count_80 (fun x_10 ex_10 lx_10 ux_10 => ?_)
      have cx_10 := congrArg Int32.toInt ex_10
      exact W.iret (v := x_10) hx hb hr (fun t ht hW => ⟨⟨x_10, (σ, ρ), rfl, ⟨hB.2.1, hB.2.2, trivial⟩, (show TP D cA L T r σ ρ t.heap from by rw [ht]; exact hB.1)⟩, hS.F ht⟩) hS.2.2 dX12_count_83
    · skip
      have c_1x : p1 = 5 := i_is (by decide) c_1j
      subst c_1x
      have nnc_1 : (5 : Int32).toInt = 5 := by decide
      refine lv_tableIn (tgt := 84) hx hb dX12_count_3 (by decide) (by decide) rfl (by decide) ?_
      refine lv_aload_n hx hb dX12_count_84 rfl (lv_at hl 1 rfl) ?_
      refine t_gi hx hb hts hown hK hB mh0 th0 fi_12_21 rfl mw_5_237 dX12_count_85 (fun x_11 ex_11 lx_11 ux_11 => ?_)
      have cx_11 := congrArg Int32.toInt ex_11
      exact W.iret (v := x_11) hx hb hr (fun t ht hW => ⟨⟨x_11, (σ, ρ), rfl, ⟨hB.2.1, hB.2.2, trivial⟩, (show TP D cA L T r σ ρ t.heap from by rw [ht]; exact hB.1)⟩, hS.F ht⟩) hS.2.2 dX12_count_88
    · skip
      have c_1x : p1 = 6 := i_is (by decide) c_1j
      subst c_1x
      have nnc_1 : (6 : Int32).toInt = 6 := by decide
      refine lv_tableIn (tgt := 89) hx hb dX12_count_3 (by decide) (by decide) rfl (by decide) ?_
      refine lv_aload_n hx hb dX12_count_89 rfl (lv_at hl 1 rfl) ?_
      refine t_gr hx hb hts hown hK hG hB mh0 th0 fq_12_20 rfl mw_5_236 dX12_count_90 (fun b_12 hb_12 mb_12 tb_12 => ?_)
      refine lv_iconst (v := 4) hx hb dX12_count_93 (by decide) ?_
      refine t_aj hx hb hK hB mb_12 tb_12 ai_70 (i_in (by decide) (by decide)) dX12_count_94 (fun x_13 ex_13 lx_13 ux_13 => ?_)
      have lx_13 : (-2147483648) ≤ x_13.toInt := lx_13
      have ux_13 : x_13.toInt ≤ 2147483647 := ux_13
      have cx_13 := congrArg Int32.toInt ex_13
      exact W.iret (v := x_13) hx hb hr (fun t ht hW => ⟨⟨x_13, (σ, ρ), rfl, ⟨hB.2.1, hB.2.2, trivial⟩, (show TP D cA L T r σ ρ t.heap from by rw [ht]; exact hB.1)⟩, hS.F ht⟩) hS.2.2 dX12_count_95
    · skip
      have c_1x : p1 = 7 := i_is (by decide) c_1j
      subst c_1x
      have nnc_1 : (7 : Int32).toInt = 7 := by decide
      refine lv_tableIn (tgt := 96) hx hb dX12_count_3 (by decide) (by decide) rfl (by decide) ?_
      refine lv_iconst (v := 0) hx hb dX12_count_96 (by decide) ?_
      refine lv_istore_n (lv' := [(3, .int 0), (2, .int 0), (0, .ref h0), (1, .int 7)]) hx hb dX12_count_97 rfl hl (by decide) rfl (fun ls hl => ?_)
      refine w_loop (α := Int32 × Int32 × Sg × Lg) (fun (i_14, i_15, σ_16, ρ_17) H locs ls => 0 ≤ i_15.toInt ∧ i_15.toInt ≤ 8 ∧ TS D cA L T r ry ([] : List (Nat × Nat)) σ σ_16 ρ_17 H ∧ va_S (dm L s.heap.size) s.heap H locs ∧ lv_has ls 4 [(3, .int i_15), (2, .int i_14), (0, .ref h0), (1, .int 7)]) (fun (i_14, i_15, σ_16, ρ_17) => (8 - i_15.toInt).toNat) ?_ ⟨0, 0, σ, ρ⟩ ⟨(by decide), (by decide), hB, hS, lv_sub hl [0, 1, 2, 3] rfl⟩
      rintro ⟨i_14, i_15, σ_16, ρ_17⟩ H locs ls ⟨li_15, ui_15, hB, hS, hl⟩ ih_18
      refine lv_iload_n hx hb dX12_count_98 rfl (lv_at hl 0 rfl) ?_
      refine lv_aload_n hx hb dX12_count_99 rfl (lv_at hl 2 rfl) ?_
      refine t_gr hx hb hts hown hK hG hB mh0 th0 fq_12_20 rfl mw_5_236 dX12_count_100 (fun b_19 hb_19 mb_19 tb_19 => ?_)
      refine lv_iconst (v := 2) hx hb dX12_count_103 (by decide) ?_
      refine t_aj hx hb hK hB mb_19 tb_19 ai_70 (i_in (by decide) (by decide)) dX12_count_104 (fun x_20 ex_20 lx_20 ux_20 => ?_)
      have lx_20 : 0 ≤ x_20.toInt := lx_20
      have ux_20 : x_20.toInt ≤ 8 := ux_20
      have cx_20 := congrArg Int32.toInt ex_20
      refine lv_icmp_ge (tgt := 138) hx hb dX12_count_105 (by decide) (fun c_21 => ?_) (fun c_21 => ?_)
      · skip
        have uc_21 := j_le c_21
        refine lv_iload_n hx hb dX12_count_138 rfl (lv_at hl 1 rfl) ?_
        exact W.iret (v := i_14) hx hb hr (fun t ht hW => ⟨⟨i_14, (σ_16, ρ_17), rfl, ⟨hB.2.1, hB.2.2, trivial⟩, (show TP D cA L T r σ_16 ρ_17 t.heap from by rw [ht]; exact hB.1)⟩, hS.F ht⟩) hS.2.2 dX12_count_139
      · skip
        have uc_21 := j_nle c_21
        refine lv_iload_n hx hb dX12_count_108 rfl (lv_at hl 1 rfl) ?_
        refine lv_aload_n hx hb dX12_count_109 rfl (lv_at hl 2 rfl) ?_
        refine lv_iload_n hx hb dX12_count_110 rfl (lv_at hl 0 rfl) ?_
        refine t_ci (va_runV (As := [.int i_15]) (rest := [.int i_14]) ⟨hx, hb, hml, hown, hts⟩ (cy_X12_asksFor l D cA L T r hG hLA.1 σ_16 ρ_17 hB.2.1 _ h0 mh0 th0 i_15 (by first | omega | decide) (by first | omega | decide)) (cV hts mv_X12_asksFor mw_7_98 rfl rfl ⟨Nat.le_of_ble_eq_true rfl, Nat.le_of_ble_eq_true rfl⟩) (pV hB.1 hK hN mh0 th0 (show shp cA 12 _ _ _ = .inr (12, Fs12 _ _ _) from rfl) rfl) rfl rfl hl.1 rfl (lv_room (Nat.le_of_ble_eq_true rfl)) dX12_count_111 ⟨Nat.le_of_ble_eq_true rfl, Nat.le_of_ble_eq_true rfl⟩) hLA hA hB hS (by decide) (fun x_24 σ_22 ρ_23 H locs hB fσ_22 pσ_22 hS => ?_)
        have qσ_22 := FR.nil fσ_22
        subst qσ_22
        obtain ⟨lx_24, ux_24⟩ := pσ_22
        refine lv_aload_n hx hb dX12_count_114 rfl (lv_at hl 2 rfl) ?_
        refine lv_iload_n hx hb dX12_count_115 rfl (lv_at hl 0 rfl) ?_
        refine lv_iconst (v := 0) hx hb dX12_count_116 (by decide) ?_
        refine t_ci (va_runV (As := [.int i_15, .int 0]) (rest := [.int x_24, .int i_14]) ⟨hx, hb, hml, hown, hts⟩ (cy_X12_sortOf l D cA L T r hG hLA.1 σ_16 ρ_23 hB.2.1 _ h0 mh0 th0 i_15 0 (by first | omega | decide) (by first | omega | decide) (by first | omega | decide) (by first | omega | decide)) (cV hts mv_X12_sortOf mw_7_94 rfl rfl ⟨Nat.le_of_ble_eq_true rfl, Nat.le_of_ble_eq_true rfl⟩) (pV hB.1 hK hN mh0 th0 (show shp cA 12 _ _ _ = .inr (12, Fs12 _ _ _) from rfl) rfl) rfl rfl hl.1 rfl (lv_room (Nat.le_of_ble_eq_true rfl)) dX12_count_117 ⟨Nat.le_of_ble_eq_true rfl, Nat.le_of_ble_eq_true rfl⟩) hLA hA hB hS (by decide) (fun x_27 σ_25 ρ_26 H locs hB fσ_25 pσ_25 hS => ?_)
        have qσ_25 := FR.nil fσ_25
        subst qσ_25
        obtain ⟨lx_27, ux_27⟩ := pσ_25
        refine lv_icmp_eq (tgt := 129) hx hb dX12_count_120 (by decide) (fun c_28 => ?_) (fun c_28 => ?_)
        · skip
          have uc_28 := j_eq c_28
          refine lv_iconst (v := 0) hx hb dX12_count_129 (by decide) ?_
          refine lv_ior hx hb dX12_count_130 ?_
          refine lv_topi (fun x_29 ex_29 => ?_)
          refine lv_istore_n (lv' := [(2, .int x_29), (3, .int i_15), (0, .ref h0), (1, .int 7)]) hx hb dX12_count_131 rfl hl (by decide) rfl (fun ls hl => ?_)
          obtain ⟨x_30, ex_30⟩ : ∃ y : Int32, y = i_15 + 1 := ⟨_, rfl⟩
          have vx_30 := b_add (rfl : i_15.toInt = _) (by decide : (1 : Int32).toInt = 1) ex_30 (by omega) (by omega)
          refine lv_iinc (v := x_30) (lv' := [(3, .int x_30), (2, .int x_29), (0, .ref h0), (1, .int 7)]) hx hb dX12_count_132 hl (k := 1) rfl (by rw [ex_30]; rfl) (by decide) rfl (fun ls hl => ?_)
          refine lv_goto (tgt := 98) hx hb dX12_count_135 (by decide) ?_
          exact ih_18 ⟨x_29, x_30, σ_16, ρ_26⟩ _ _ _ ⟨(by omega), (by omega), hB, hS, lv_sub hl [0, 1, 2, 3] rfl⟩ (by show (8 - x_30.toInt).toNat < (8 - i_15.toInt).toNat; omega)
        · skip
          have uc_28 := j_ne c_28
          refine lv_iconst (v := 1) hx hb dX12_count_123 (by decide) ?_
          refine lv_iload_n hx hb dX12_count_124 rfl (lv_at hl 0 rfl) ?_
          refine lv_ishl hx hb dX12_count_125 ?_
          refine lv_topi (fun x_31 ex_31 => ?_)
          have lx_31 := i_lo x_31
          have ux_31 := i_hi x_31
          refine lv_goto (tgt := 130) hx hb dX12_count_126 (by decide) ?_
          refine lv_ior hx hb dX12_count_130 ?_
          refine lv_topi (fun x_32 ex_32 => ?_)
          refine lv_istore_n (lv' := [(2, .int x_32), (3, .int i_15), (0, .ref h0), (1, .int 7)]) hx hb dX12_count_131 rfl hl (by decide) rfl (fun ls hl => ?_)
          obtain ⟨x_33, ex_33⟩ : ∃ y : Int32, y = i_15 + 1 := ⟨_, rfl⟩
          have vx_33 := b_add (rfl : i_15.toInt = _) (by decide : (1 : Int32).toInt = 1) ex_33 (by omega) (by omega)
          refine lv_iinc (v := x_33) (lv' := [(3, .int x_33), (2, .int x_32), (0, .ref h0), (1, .int 7)]) hx hb dX12_count_132 hl (k := 1) rfl (by rw [ex_33]; rfl) (by decide) rfl (fun ls hl => ?_)
          refine lv_goto (tgt := 98) hx hb dX12_count_135 (by decide) ?_
          exact ih_18 ⟨x_32, x_33, σ_16, ρ_26⟩ _ _ _ ⟨(by omega), (by omega), hB, hS, lv_sub hl [0, 1, 2, 3] rfl⟩ (by show (8 - x_33.toInt).toNat < (8 - i_15.toInt).toNat; omega)
    · skip
      have c_1x : p1 = 8 := i_is (by decide) c_1j
      subst c_1x
      have nnc_1 : (8 : Int32).toInt = 8 := by decide
      refine lv_tableIn (tgt := 140) hx hb dX12_count_3 (by decide) (by decide) rfl (by decide) ?_
      refine lv_iconst (v := 0) hx hb dX12_count_140 (by decide) ?_
      refine lv_istore_n (lv' := [(3, .int 0), (2, .int 0), (0, .ref h0), (1, .int 8)]) hx hb dX12_count_141 rfl hl (by decide) rfl (fun ls hl => ?_)
      refine w_loop (α := Int32 × Int32 × Sg × Lg) (fun (i_34, i_35, σ_36, ρ_37) H locs ls => 0 ≤ i_35.toInt ∧ i_35.toInt ≤ 4 ∧ TS D cA L T r ry ([] : List (Nat × Nat)) σ σ_36 ρ_37 H ∧ va_S (dm L s.heap.size) s.heap H locs ∧ lv_has ls 4 [(3, .int i_35), (2, .int i_34), (0, .ref h0), (1, .int 8)]) (fun (i_34, i_35, σ_36, ρ_37) => (4 - i_35.toInt).toNat) ?_ ⟨0, 0, σ, ρ⟩ ⟨(by decide), (by decide), hB, hS, lv_sub hl [0, 1, 2, 3] rfl⟩
      rintro ⟨i_34, i_35, σ_36, ρ_37⟩ H locs ls ⟨li_35, ui_35, hB, hS, hl⟩ ih_38
      refine lv_iload_n hx hb dX12_count_142 rfl (lv_at hl 0 rfl) ?_
      refine lv_aload_n hx hb dX12_count_143 rfl (lv_at hl 2 rfl) ?_
      refine t_gr hx hb hts hown hK hG hB mh0 th0 fq_12_20 rfl mw_5_236 dX12_count_144 (fun b_39 hb_39 mb_39 tb_39 => ?_)
      refine lv_iconst (v := 3) hx hb dX12_count_147 (by decide) ?_
      refine t_aj hx hb hK hB mb_39 tb_39 ai_70 (i_in (by decide) (by decide)) dX12_count_148 (fun x_40 ex_40 lx_40 ux_40 => ?_)
      have lx_40 : 0 ≤ x_40.toInt := lx_40
      have ux_40 : x_40.toInt ≤ 4 := ux_40
      have cx_40 := congrArg Int32.toInt ex_40
      refine lv_icmp_ge (tgt := 183) hx hb dX12_count_149 (by decide) (fun c_41 => ?_) (fun c_41 => ?_)
      · skip
        have uc_41 := j_le c_41
        refine lv_iload_n hx hb dX12_count_183 rfl (lv_at hl 1 rfl) ?_
        exact W.iret (v := i_34) hx hb hr (fun t ht hW => ⟨⟨i_34, (σ_36, ρ_37), rfl, ⟨hB.2.1, hB.2.2, trivial⟩, (show TP D cA L T r σ_36 ρ_37 t.heap from by rw [ht]; exact hB.1)⟩, hS.F ht⟩) hS.2.2 dX12_count_184
      · skip
        have uc_41 := j_nle c_41
        refine lv_iload_n hx hb dX12_count_152 rfl (lv_at hl 1 rfl) ?_
        refine lv_aload_n hx hb dX12_count_153 rfl (lv_at hl 2 rfl) ?_
        refine lv_iload_n hx hb dX12_count_154 rfl (lv_at hl 0 rfl) ?_
        refine lv_iconst (v := 0) hx hb dX12_count_155 (by decide) ?_
        refine t_ci (va_runV (As := [.int i_35, .int 0]) (rest := [.int i_34]) ⟨hx, hb, hml, hown, hts⟩ (cy_X12_pilgrimOf_0 l D cA L T r hG hLA.1 σ_36 ρ_37 hB.2.1 _ h0 mh0 th0 i_35 (by first | omega | decide) (by first | omega | decide)) (cV hts mv_X12_pilgrimOf mw_7_69 rfl rfl ⟨Nat.le_of_ble_eq_true rfl, Nat.le_of_ble_eq_true rfl⟩) (pV hB.1 hK hN mh0 th0 (show shp cA 12 _ _ _ = .inr (12, Fs12 _ _ _) from rfl) rfl) rfl rfl hl.1 rfl (lv_room (Nat.le_of_ble_eq_true rfl)) dX12_count_156 ⟨Nat.le_of_ble_eq_true rfl, Nat.le_of_ble_eq_true rfl⟩) hLA hA hB hS (by decide) (fun x_44 σ_42 ρ_43 H locs hB fσ_42 pσ_42 hS => ?_)
        have qσ_42 := FR.nil fσ_42
        subst qσ_42
        obtain ⟨lx_44, ux_44⟩ := pσ_42
        refine lv_aload_n hx hb dX12_count_159 rfl (lv_at hl 2 rfl) ?_
        refine t_gk hx hb hts hown hK hB mh0 th0 fq_12_20 hb_39 mw_5_236 dX12_count_160 ?_
        refine lv_iconst (v := 2) hx hb dX12_count_163 (by decide) ?_
        refine t_aj hx hb hK hB mb_39 tb_39 ai_70 (i_in (by decide) (by decide)) dX12_count_164 (fun x_45 ex_45 lx_45 ux_45 => ?_)
        have lx_45 : 0 ≤ x_45.toInt := lx_45
        have ux_45 : x_45.toInt ≤ 8 := ux_45
        have cx_45 := congrArg Int32.toInt ex_45
        refine lv_icmp_ne (tgt := 174) hx hb dX12_count_165 (by decide) (fun c_46 => ?_) (fun c_46 => ?_)
        · skip
          have uc_46 := j_ne c_46
          refine lv_iconst (v := 0) hx hb dX12_count_174 (by decide) ?_
          refine lv_ior hx hb dX12_count_175 ?_
          refine lv_topi (fun x_47 ex_47 => ?_)
          refine lv_istore_n (lv' := [(2, .int x_47), (3, .int i_35), (0, .ref h0), (1, .int 8)]) hx hb dX12_count_176 rfl hl (by decide) rfl (fun ls hl => ?_)
          obtain ⟨x_48, ex_48⟩ : ∃ y : Int32, y = i_35 + 1 := ⟨_, rfl⟩
          have vx_48 := b_add (rfl : i_35.toInt = _) (by decide : (1 : Int32).toInt = 1) ex_48 (by omega) (by omega)
          refine lv_iinc (v := x_48) (lv' := [(3, .int x_48), (2, .int x_47), (0, .ref h0), (1, .int 8)]) hx hb dX12_count_177 hl (k := 1) rfl (by rw [ex_48]; rfl) (by decide) rfl (fun ls hl => ?_)
          refine lv_goto (tgt := 142) hx hb dX12_count_180 (by decide) ?_
          exact ih_38 ⟨x_47, x_48, σ_36, ρ_43⟩ _ _ _ ⟨(by omega), (by omega), hB, hS, lv_sub hl [0, 1, 2, 3] rfl⟩ (by show (4 - x_48.toInt).toNat < (4 - i_35.toInt).toNat; omega)
        · skip
          have uc_46 := j_eq c_46
          refine lv_iconst (v := 1) hx hb dX12_count_168 (by decide) ?_
          refine lv_iload_n hx hb dX12_count_169 rfl (lv_at hl 0 rfl) ?_
          refine lv_ishl hx hb dX12_count_170 ?_
          refine lv_topi (fun x_49 ex_49 => ?_)
          have lx_49 := i_lo x_49
          have ux_49 := i_hi x_49
          refine lv_goto (tgt := 175) hx hb dX12_count_171 (by decide) ?_
          refine lv_ior hx hb dX12_count_175 ?_
          refine lv_topi (fun x_50 ex_50 => ?_)
          refine lv_istore_n (lv' := [(2, .int x_50), (3, .int i_35), (0, .ref h0), (1, .int 8)]) hx hb dX12_count_176 rfl hl (by decide) rfl (fun ls hl => ?_)
          obtain ⟨x_51, ex_51⟩ : ∃ y : Int32, y = i_35 + 1 := ⟨_, rfl⟩
          have vx_51 := b_add (rfl : i_35.toInt = _) (by decide : (1 : Int32).toInt = 1) ex_51 (by omega) (by omega)
          refine lv_iinc (v := x_51) (lv' := [(3, .int x_51), (2, .int x_50), (0, .ref h0), (1, .int 8)]) hx hb dX12_count_177 hl (k := 1) rfl (by rw [ex_51]; rfl) (by decide) rfl (fun ls hl => ?_)
          refine lv_goto (tgt := 142) hx hb dX12_count_180 (by decide) ?_
          exact ih_38 ⟨x_50, x_51, σ_36, ρ_43⟩ _ _ _ ⟨(by omega), (by omega), hB, hS, lv_sub hl [0, 1, 2, 3] rfl⟩ (by show (4 - x_51.toInt).toNat < (4 - i_35.toInt).toNat; omega)
    · skip
      have c_1x : p1 = 9 := i_is (by decide) c_1j
      subst c_1x
      have nnc_1 : (9 : Int32).toInt = 9 := by decide
      refine lv_tableIn (tgt := 185) hx hb dX12_count_3 (by decide) (by decide) rfl (by decide) ?_
      refine lv_iconst (v := 0) hx hb dX12_count_185 (by decide) ?_
      refine lv_istore_n (lv' := [(3, .int 0), (2, .int 0), (0, .ref h0), (1, .int 9)]) hx hb dX12_count_186 rfl hl (by decide) rfl (fun ls hl => ?_)
      refine w_loop (α := Int32 × Int32 × Sg × Lg) (fun (i_52, i_53, σ_54, ρ_55) H locs ls => 0 ≤ i_53.toInt ∧ i_53.toInt ≤ 8 ∧ TS D cA L T r ry ([] : List (Nat × Nat)) σ σ_54 ρ_55 H ∧ va_S (dm L s.heap.size) s.heap H locs ∧ lv_has ls 4 [(3, .int i_53), (2, .int i_52), (0, .ref h0), (1, .int 9)]) (fun (i_52, i_53, σ_54, ρ_55) => (8 - i_53.toInt).toNat) ?_ ⟨0, 0, σ, ρ⟩ ⟨(by decide), (by decide), hB, hS, lv_sub hl [0, 1, 2, 3] rfl⟩
      rintro ⟨i_52, i_53, σ_54, ρ_55⟩ H locs ls ⟨li_53, ui_53, hB, hS, hl⟩ ih_56
      refine lv_iload_n hx hb dX12_count_187 rfl (lv_at hl 0 rfl) ?_
      refine lv_aload_n hx hb dX12_count_188 rfl (lv_at hl 2 rfl) ?_
      refine t_gr hx hb hts hown hK hG hB mh0 th0 fq_12_20 rfl mw_5_236 dX12_count_189 (fun b_57 hb_57 mb_57 tb_57 => ?_)
      refine lv_iconst (v := 2) hx hb dX12_count_192 (by decide) ?_
      refine t_aj hx hb hK hB mb_57 tb_57 ai_70 (i_in (by decide) (by decide)) dX12_count_193 (fun x_58 ex_58 lx_58 ux_58 => ?_)
      have lx_58 : 0 ≤ x_58.toInt := lx_58
      have ux_58 : x_58.toInt ≤ 8 := ux_58
      have cx_58 := congrArg Int32.toInt ex_58
      refine lv_icmp_ge (tgt := 211) hx hb dX12_count_194 (by decide) (fun c_59 => ?_) (fun c_59 => ?_)
      · skip
        have uc_59 := j_le c_59
        refine lv_iload_n hx hb dX12_count_211 rfl (lv_at hl 1 rfl) ?_
        exact W.iret (v := i_52) hx hb hr (fun t ht hW => ⟨⟨i_52, (σ_54, ρ_55), rfl, ⟨hB.2.1, hB.2.2, trivial⟩, (show TP D cA L T r σ_54 ρ_55 t.heap from by rw [ht]; exact hB.1)⟩, hS.F ht⟩) hS.2.2 dX12_count_212
      · skip
        have uc_59 := j_nle c_59
        refine lv_iload_n hx hb dX12_count_197 rfl (lv_at hl 1 rfl) ?_
        refine lv_aload_n hx hb dX12_count_198 rfl (lv_at hl 2 rfl) ?_
        refine lv_iload_n hx hb dX12_count_199 rfl (lv_at hl 0 rfl) ?_
        refine t_ci (va_runV (As := [.int i_53]) (rest := [.int i_52]) ⟨hx, hb, hml, hown, hts⟩ (cy_X12_heapMany l D cA L T r hG hLA.1 σ_54 ρ_55 hB.2.1 _ h0 mh0 th0 i_53 (by first | omega | decide) (by first | omega | decide)) (cV hts mv_X12_heapMany mw_7_139 rfl rfl ⟨Nat.le_of_ble_eq_true rfl, Nat.le_of_ble_eq_true rfl⟩) (pV hB.1 hK hN mh0 th0 (show shp cA 12 _ _ _ = .inr (12, Fs12 _ _ _) from rfl) rfl) rfl rfl hl.1 rfl (lv_room (Nat.le_of_ble_eq_true rfl)) dX12_count_200 ⟨Nat.le_of_ble_eq_true rfl, Nat.le_of_ble_eq_true rfl⟩) hLA hA hB hS (by decide) (fun x_62 σ_60 ρ_61 H locs hB fσ_60 pσ_60 hS => ?_)
        have qσ_60 := FR.nil fσ_60
        subst qσ_60
        refine lv_iadd hx hb dX12_count_203 ?_
        refine lv_topi (fun x_63 ex_63 => ?_)
        try have vx_63 := b_add (rfl : i_52.toInt = _) (rfl : x_62.toInt = _) ex_63 (by omega) (by omega)
        refine lv_istore_n (lv' := [(2, .int x_63), (3, .int i_53), (0, .ref h0), (1, .int 9)]) hx hb dX12_count_204 rfl hl (by decide) rfl (fun ls hl => ?_)
        obtain ⟨x_64, ex_64⟩ : ∃ y : Int32, y = i_53 + 1 := ⟨_, rfl⟩
        have vx_64 := b_add (rfl : i_53.toInt = _) (by decide : (1 : Int32).toInt = 1) ex_64 (by omega) (by omega)
        refine lv_iinc (v := x_64) (lv' := [(3, .int x_64), (2, .int x_63), (0, .ref h0), (1, .int 9)]) hx hb dX12_count_205 hl (k := 1) rfl (by rw [ex_64]; rfl) (by decide) rfl (fun ls hl => ?_)
        refine lv_goto (tgt := 187) hx hb dX12_count_208 (by decide) ?_
        exact ih_56 ⟨x_63, x_64, σ_54, ρ_61⟩ _ _ _ ⟨(by omega), (by omega), hB, hS, lv_sub hl [0, 1, 2, 3] rfl⟩ (by show (8 - x_64.toInt).toNat < (8 - i_53.toInt).toNat; omega)
    · skip
      have c_1x : p1 = 10 := i_is (by decide) c_1j
      subst c_1x
      have nnc_1 : (10 : Int32).toInt = 10 := by decide
      refine lv_tableIn (tgt := 213) hx hb dX12_count_3 (by decide) (by decide) rfl (by decide) ?_
      refine lv_aload_n hx hb dX12_count_213 rfl (lv_at hl 1 rfl) ?_
      refine t_gr hx hb hts hown hK hG hB mh0 th0 fq_12_20 rfl mw_5_236 dX12_count_214 (fun b_65 hb_65 mb_65 tb_65 => ?_)
      refine lv_sipush (v := 200) hx hb dX12_count_217 (by decide) ?_
      refine t_aj hx hb hK hB mb_65 tb_65 ai_70 (i_in (by decide) (by decide)) dX12_count_220 (fun x_66 ex_66 lx_66 ux_66 => ?_)
      have lx_66 : 0 ≤ x_66.toInt := lx_66
      have ux_66 : x_66.toInt ≤ 10 := ux_66
      have cx_66 := congrArg Int32.toInt ex_66
      exact W.iret (v := x_66) hx hb hr (fun t ht hW => ⟨⟨x_66, (σ, ρ), rfl, ⟨hB.2.1, hB.2.2, trivial⟩, (show TP D cA L T r σ ρ t.heap from by rw [ht]; exact hB.1)⟩, hS.F ht⟩) hS.2.2 dX12_count_221
    · skip
      have c_1x : p1 = 11 := i_is (by decide) c_1j
      subst c_1x
      have nnc_1 : (11 : Int32).toInt = 11 := by decide
      refine lv_tableIn (tgt := 222) hx hb dX12_count_3 (by decide) (by decide) rfl (by decide) ?_
      refine lv_aload_n hx hb dX12_count_222 rfl (lv_at hl 1 rfl) ?_
      refine t_gi hx hb hts hown hK hB mh0 th0 fi_12_25 rfl mw_6_1 dX12_count_223 (fun x_67 ex_67 lx_67 ux_67 => ?_)
      have cx_67 := congrArg Int32.toInt ex_67
      exact W.iret (v := x_67) hx hb hr (fun t ht hW => ⟨⟨x_67, (σ, ρ), rfl, ⟨hB.2.1, hB.2.2, trivial⟩, (show TP D cA L T r σ ρ t.heap from by rw [ht]; exact hB.1)⟩, hS.F ht⟩) hS.2.2 dX12_count_226
    · skip
      have c_1x : p1 = 12 := i_is (by decide) c_1j
      subst c_1x
      have nnc_1 : (12 : Int32).toInt = 12 := by decide
      refine lv_tableIn (tgt := 227) hx hb dX12_count_3 (by decide) (by decide) rfl (by decide) ?_
      refine lv_aload_n hx hb dX12_count_227 rfl (lv_at hl 1 rfl) ?_
      refine t_gi hx hb hts hown hK hB mh0 th0 fi_12_22 rfl mw_5_238 dX12_count_228 (fun x_68 ex_68 lx_68 ux_68 => ?_)
      have cx_68 := congrArg Int32.toInt ex_68
      exact W.iret (v := x_68) hx hb hr (fun t ht hW => ⟨⟨x_68, (σ, ρ), rfl, ⟨hB.2.1, hB.2.2, trivial⟩, (show TP D cA L T r σ ρ t.heap from by rw [ht]; exact hB.1)⟩, hS.F ht⟩) hS.2.2 dX12_count_231
    · skip
      have c_1x : p1 = 13 := i_is (by decide) c_1j
      subst c_1x
      have nnc_1 : (13 : Int32).toInt = 13 := by decide
      refine lv_tableIn (tgt := 232) hx hb dX12_count_3 (by decide) (by decide) rfl (by decide) ?_
      refine lv_aload_n hx hb dX12_count_232 rfl (lv_at hl 1 rfl) ?_
      refine t_gi hx hb hts hown hK hB mh0 th0 fi_12_1 rfl mw_5_217 dX12_count_233 (fun x_69 ex_69 lx_69 ux_69 => ?_)
      have cx_69 := congrArg Int32.toInt ex_69
      exact W.iret (v := x_69) hx hb hr (fun t ht hW => ⟨⟨x_69, (σ, ρ), rfl, ⟨hB.2.1, hB.2.2, trivial⟩, (show TP D cA L T r σ ρ t.heap from by rw [ht]; exact hB.1)⟩, hS.F ht⟩) hS.2.2 dX12_count_236
theorem mw_8_138 : (.constantLong RX12 481 3 : Cond) ∈ wsA := wsA_t (List.mem_append_right _ (List.mem_append_right _ (List.mem_append_right _ (List.mem_append_right _ (List.mem_append_right _ (List.mem_append_right _ (List.mem_append_right _ (List.mem_of_getElem? (l := tables_1_8) (i := 138) rfl)))))))) rfl
theorem mw_6_19 : (.fieldLink RX12 89 "HillBendsModel" "isMade" "[Z" : Cond) ∈ wsA := wsA_t (List.mem_append_right _ (List.mem_append_right _ (List.mem_append_right _ (List.mem_append_right _ (List.mem_append_right _ (List.mem_append_left _ (List.mem_of_getElem? (l := tables_1_6) (i := 19) rfl))))))) rfl
theorem mw_6_17 : (.fieldLink RX12 83 "HillBendsModel" "imageForce" "[I" : Cond) ∈ wsA := wsA_t (List.mem_append_right _ (List.mem_append_right _ (List.mem_append_right _ (List.mem_append_right _ (List.mem_append_right _ (List.mem_append_left _ (List.mem_of_getElem? (l := tables_1_6) (i := 17) rfl))))))) rfl
theorem mw_6_18 : (.fieldLink RX12 86 "HillBendsModel" "imageX" "[I" : Cond) ∈ wsA := wsA_t (List.mem_append_right _ (List.mem_append_right _ (List.mem_append_right _ (List.mem_append_right _ (List.mem_append_right _ (List.mem_append_left _ (List.mem_of_getElem? (l := tables_1_6) (i := 18) rfl))))))) rfl
theorem mw_6_16 : (.fieldLink RX12 80 "HillBendsModel" "images" "[I" : Cond) ∈ wsA := wsA_t (List.mem_append_right _ (List.mem_append_right _ (List.mem_append_right _ (List.mem_append_right _ (List.mem_append_right _ (List.mem_append_left _ (List.mem_of_getElem? (l := tables_1_6) (i := 16) rfl))))))) rfl
theorem dX12_image_0 : decode cX12_image 0 = .ok (.iload_n 1, 1) := by decide +kernel
theorem dX12_image_1 : decode cX12_image 1 = .ok (.i2l, 1) := by decide +kernel
theorem dX12_image_2 : decode cX12_image 2 = .ok (.lconst 0, 1) := by decide +kernel
theorem dX12_image_3 : decode cX12_image 3 = .ok (.ldc2_w 481, 3) := by decide +kernel
theorem dX12_image_6 : decode cX12_image 6 = .ok (.invokestatic 130, 3) := by decide +kernel
theorem dX12_image_9 : decode cX12_image 9 = .ok (.ifCond .ne 5, 3) := by decide +kernel
theorem dX12_image_14 : decode cX12_image 14 = .ok (.aload_n 0, 1) := by decide +kernel
theorem dX12_image_15 : decode cX12_image 15 = .ok (.getfield 89, 3) := by decide +kernel
theorem dX12_image_18 : decode cX12_image 18 = .ok (.iload_n 1, 1) := by decide +kernel
theorem dX12_image_19 : decode cX12_image 19 = .ok (.iconst 1, 1) := by decide +kernel
theorem dX12_image_20 : decode cX12_image 20 = .ok (.bastore, 1) := by decide +kernel
theorem dX12_image_21 : decode cX12_image 21 = .ok (.aload_n 0, 1) := by decide +kernel
theorem dX12_image_22 : decode cX12_image 22 = .ok (.getfield 83, 3) := by decide +kernel
theorem dX12_image_25 : decode cX12_image 25 = .ok (.iload_n 1, 1) := by decide +kernel
theorem dX12_image_26 : decode cX12_image 26 = .ok (.aload_n 0, 1) := by decide +kernel
theorem dX12_image_27 : decode cX12_image 27 = .ok (.getfield 42, 3) := by decide +kernel
theorem dX12_image_30 : decode cX12_image 30 = .ok (.iastore, 1) := by decide +kernel
theorem dX12_image_31 : decode cX12_image 31 = .ok (.aload_n 0, 1) := by decide +kernel
theorem dX12_image_32 : decode cX12_image 32 = .ok (.getfield 86, 3) := by decide +kernel
theorem dX12_image_35 : decode cX12_image 35 = .ok (.iload_n 1, 1) := by decide +kernel
theorem dX12_image_36 : decode cX12_image 36 = .ok (.aload_n 0, 1) := by decide +kernel
theorem dX12_image_37 : decode cX12_image 37 = .ok (.getfield 460, 3) := by decide +kernel
theorem dX12_image_40 : decode cX12_image 40 = .ok (.iastore, 1) := by decide +kernel
theorem dX12_image_41 : decode cX12_image 41 = .ok (.iconst 0, 1) := by decide +kernel
theorem dX12_image_42 : decode cX12_image 42 = .ok (.istore_n 2, 1) := by decide +kernel
theorem dX12_image_43 : decode cX12_image 43 = .ok (.iload_n 2, 1) := by decide +kernel
theorem dX12_image_44 : decode cX12_image 44 = .ok (.sipush 201, 3) := by decide +kernel
theorem dX12_image_47 : decode cX12_image 47 = .ok (.if_icmp .ge 27, 3) := by decide +kernel
theorem dX12_image_50 : decode cX12_image 50 = .ok (.aload_n 0, 1) := by decide +kernel
theorem dX12_image_51 : decode cX12_image 51 = .ok (.getfield 80, 3) := by decide +kernel
theorem dX12_image_54 : decode cX12_image 54 = .ok (.sipush 201, 3) := by decide +kernel
theorem dX12_image_57 : decode cX12_image 57 = .ok (.iload_n 1, 1) := by decide +kernel
theorem dX12_image_58 : decode cX12_image 58 = .ok (.imul, 1) := by decide +kernel
theorem dX12_image_59 : decode cX12_image 59 = .ok (.iload_n 2, 1) := by decide +kernel
theorem dX12_image_60 : decode cX12_image 60 = .ok (.iadd, 1) := by decide +kernel
theorem dX12_image_61 : decode cX12_image 61 = .ok (.aload_n 0, 1) := by decide +kernel
theorem dX12_image_62 : decode cX12_image 62 = .ok (.getfield 39, 3) := by decide +kernel
theorem dX12_image_65 : decode cX12_image 65 = .ok (.iload_n 2, 1) := by decide +kernel
theorem dX12_image_66 : decode cX12_image 66 = .ok (.iaload, 1) := by decide +kernel
theorem dX12_image_67 : decode cX12_image 67 = .ok (.iastore, 1) := by decide +kernel
theorem dX12_image_68 : decode cX12_image 68 = .ok (.iinc 2 1, 3) := by decide +kernel
theorem dX12_image_71 : decode cX12_image 71 = .ok (.goto (-28), 3) := by decide +kernel
theorem dX12_image_74 : decode cX12_image 74 = .ok (.aload_n 0, 1) := by decide +kernel
theorem dX12_image_75 : decode cX12_image 75 = .ok (.getfield 39, 3) := by decide +kernel
theorem dX12_image_78 : decode cX12_image 78 = .ok (.iconst 4, 1) := by decide +kernel
theorem dX12_image_79 : decode cX12_image 79 = .ok (.iaload, 1) := by decide +kernel
theorem dX12_image_80 : decode cX12_image 80 = .ok (.ireturn, 1) := by decide +kernel
theorem dX12_image_12 : decode cX12_image 12 = .ok (.iconst (-1), 1) := by decide +kernel
theorem dX12_image_13 : decode cX12_image 13 = .ok (.ireturn, 1) := by decide +kernel
set_option maxHeartbeats 4000000 in
set_option maxRecDepth 100000 in
theorem cy_X12_image (l : Launch) (D : va_G) (cA : Nat → ClassId) (L : List Nat) (T : Nat → Nat) (r : Rg) (hG : GR L T r) (hL : L.Nodup) (σ : Sg) (ρ : Lg) (hW : WT L ry T σ) (sz : Nat) (h0 : Nat) (mh0 : h0 ∈ L) (th0 : T h0 = 12) (p1 : Int32) : Met l yX12_image (.code yX12_image cX12_image 3 (some .int) :: wsA) ({ frames := 1, cells := 0, slots := 0, locals := 25 }) (PR D cA L T r σ ρ sz [.ref h0, .int p1]) (QI D cA L T r ry [(82, 1000), (83, 1000), (84, 1000), (85, 1000)] σ sz (fun x σ1 => True)) 0 0 (dm L sz) := by
  refine Met.ofW (cc := cX12_image) (maxL := 3) (ret := (some .int)) (by decide) rfl ?_
  intro p e s m args below meth c s₁ B hml hv
  obtain ⟨rfl, hsz, hP, hK, hN⟩ := hv
  have hx := B.exec
  have hb := B.bytes
  have hr := B.returns
  have hts : ∀ w ∈ wsA, w.before _ s = true := fun w h => atoms_spec (ws := .code yX12_image cX12_image 3 (some .int) :: wsA) B.pre w (List.mem_cons_of_mem _ h)
  have hown : s.vm.findClass RX12 = some m.cls := findClass_of_methodNamed B.named
  subst hsz
  have hLA : LA (dm L s.heap.size) L := ⟨hL, fun a h => Or.inl h⟩
  have hA : ∀ q : Nat, s.heap.size ≤ q → dm L s.heap.size q := fun q h => Or.inr h
  have hS : va_S (dm L s.heap.size) s.heap s.heap [] := va_S.rf
  have hB : TS D cA L T r ry [(82, 1000), (83, 1000), (84, 1000), (85, 1000)] σ σ ρ s.heap := ⟨hP, hW, FR.rf⟩
  have hl := lv_entry ([.ref h0, .int p1]) (n := 3) (Nat.le_of_ble_eq_true rfl)
  rw [lg_entry_eq]
  generalize (lg_sl ([.ref h0, .int p1]) ++ List.replicate (3 - (lg_sl ([.ref h0, .int p1])).length) Slot.unset).toArray = ls at hl ⊢
  have hl : lv_has ls 3 [(0, .ref h0), (1, .int p1)] := hl
  refine lv_iload_n hx hb dX12_image_0 rfl (lv_at hl 1 rfl) ?_
  refine lv_i2l (v := p1.toInt64) hx hb dX12_image_1 rfl ?_
  refine lv_lconst (v := 0) hx hb dX12_image_2 (by decide) ?_
  refine lv_ldc2 (v := 3) hx hb hown (hts _ mw_8_138) dX12_image_3 ?_
  refine t_ci (va_runS (As := [.long p1.toInt64, .long 0, .long 3]) (rest := []) ⟨hx, hb, hml, hown, hts⟩ (cy_X12_in_0_3 l D cA L T r hG hLA.1 σ ρ hB.2.1 _ p1) (cS hts ms_X12_in mw_6_185 rfl rfl ⟨Nat.le_of_ble_eq_true rfl, Nat.le_of_ble_eq_true rfl⟩) (pS hB.1 hK hN) rfl rfl hl.1 rfl (lv_room (Nat.le_of_ble_eq_true rfl)) dX12_image_6 ⟨Nat.le_of_ble_eq_true rfl, Nat.le_of_ble_eq_true rfl⟩) hLA hA hB hS (by decide) (fun x_3 σ_1 ρ_2 H locs hB fσ_1 pσ_1 hS => ?_)
  have qσ_1 := FR.nil fσ_1
  subst qσ_1
  obtain ⟨ox_3, ix_3⟩ := pσ_1
  refine lv_if_ne (tgt := 14) hx hb dX12_image_9 (by decide) (fun c_4 => ?_) (fun c_4 => ?_)
  · skip
    have uc_4 := i_ne (n := 0) (by decide) c_4
    refine lv_aload_n hx hb dX12_image_14 rfl (lv_at hl 0 rfl) ?_
    refine t_gr hx hb hts hown hK hG hB mh0 th0 fq_12_43 rfl mw_6_19 dX12_image_15 (fun b_5 hb_5 mb_5 tb_5 => ?_)
    refine lv_iload_n hx hb dX12_image_18 rfl (lv_at hl 1 rfl) ?_
    refine lv_iconst (v := 1) hx hb dX12_image_19 (by decide) ?_
    refine t_sz hx hb hK hLA hB hS mb_5 tb_5 ai_85 (i_in (by omega) (by omega)) (show 0 ≤ (1 : Int32).toInt by decide) (show (1 : Int32).toInt ≤ 1 by decide) (Or.inr (by decide)) dX12_image_20 (fun H locs σ_6 eσ_6 hB hS => ?_)
    refine lv_aload_n hx hb dX12_image_21 rfl (lv_at hl 0 rfl) ?_
    refine t_gr hx hb hts hown hK hG hB mh0 th0 fq_12_41 rfl mw_6_17 dX12_image_22 (fun b_7 hb_7 mb_7 tb_7 => ?_)
    refine lv_iload_n hx hb dX12_image_25 rfl (lv_at hl 1 rfl) ?_
    refine lv_aload_n hx hb dX12_image_26 rfl (lv_at hl 0 rfl) ?_
    refine t_gi hx hb hts hown hK hB mh0 th0 fi_12_21 rfl mw_5_237 dX12_image_27 (fun x_8 ex_8 lx_8 ux_8 => ?_)
    have cx_8 := congrArg Int32.toInt ex_8
    refine t_si hx hb hK hLA hB hS mb_7 tb_7 ai_83 (i_in (by omega) (by omega)) (by show (-1) ≤ _; (first | omega | (subst_vars; omega))) (by show _ ≤ 5; (first | omega | (subst_vars; omega))) (Or.inr (by decide)) dX12_image_30 (fun H locs σ_9 eσ_9 hB hS => ?_)
    have k_10 : σ_9 b_7 p1.toNatClampNeg = x_8 := by rw [eσ_9]; exact up2_same _ _ _ _
    refine lv_aload_n hx hb dX12_image_31 rfl (lv_at hl 0 rfl) ?_
    refine t_gr hx hb hts hown hK hG hB mh0 th0 fq_12_42 rfl mw_6_18 dX12_image_32 (fun b_11 hb_11 mb_11 tb_11 => ?_)
    refine lv_iload_n hx hb dX12_image_35 rfl (lv_at hl 1 rfl) ?_
    refine lv_aload_n hx hb dX12_image_36 rfl (lv_at hl 0 rfl) ?_
    refine t_gi hx hb hts hown hK hB mh0 th0 fi_12_22 rfl mw_5_238 dX12_image_37 (fun x_12 ex_12 lx_12 ux_12 => ?_)
    have cx_12 := congrArg Int32.toInt ex_12
    refine t_si hx hb hK hLA hB hS mb_11 tb_11 ai_84 (i_in (by omega) (by omega)) (i_lo _) (i_hi _) (Or.inr (by decide)) dX12_image_40 (fun H locs σ_13 eσ_13 hB hS => ?_)
    have k_14 : σ_13 b_11 p1.toNatClampNeg = x_12 := by rw [eσ_13]; exact up2_same _ _ _ _
    refine lv_iconst (v := 0) hx hb dX12_image_41 (by decide) ?_
    refine lv_istore_n (lv' := [(2, .int 0), (0, .ref h0), (1, .int p1)]) hx hb dX12_image_42 rfl hl (by decide) rfl (fun ls hl => ?_)
    have k_15 : σ_9 h0 21 = x_8 := by rw [eσ_9, up2_nea _ _ (tg_ne th0 tb_7 (by decide))]; exact ex_8.symm
    have k_16 : σ_13 h0 21 = x_8 := by rw [eσ_13, up2_nea _ _ (tg_ne th0 tb_11 (by decide))]; exact k_15
    have k_17 : σ_13 h0 22 = x_12 := by rw [eσ_13, up2_nea _ _ (tg_ne th0 tb_11 (by decide))]; exact ex_12.symm
    refine w_loop (α := Int32 × Sg × Lg) (fun (i_18, σ_19, ρ_20) H locs ls => 0 ≤ i_18.toInt ∧ i_18.toInt ≤ 201 ∧ σ_19 h0 21 = x_8 ∧ σ_19 h0 22 = x_12 ∧ TS D cA L T r ry [(82, 1000), (83, 1000), (84, 1000), (85, 1000)] σ σ_19 ρ_20 H ∧ va_S (dm L s.heap.size) s.heap H locs ∧ lv_has ls 3 [(2, .int i_18), (0, .ref h0), (1, .int p1)]) (fun (i_18, σ_19, ρ_20) => (201 - i_18.toInt).toNat) ?_ ⟨0, σ_13, ρ_2⟩ ⟨(by decide), (by decide), k_16, k_17, hB, hS, lv_sub hl [0, 1, 2] rfl⟩
    rintro ⟨i_18, σ_19, ρ_20⟩ H locs ls ⟨li_18, ui_18, k_22, k_23, hB, hS, hl⟩ ih_21
    refine lv_iload_n hx hb dX12_image_43 rfl (lv_at hl 0 rfl) ?_
    refine lv_sipush (v := 201) hx hb dX12_image_44 (by decide) ?_
    refine lv_icmp_ge (tgt := 74) hx hb dX12_image_47 (by decide) (fun c_24 => ?_) (fun c_24 => ?_)
    · skip
      have uc_24 := i_ge (n := 201) (by decide) c_24
      refine lv_aload_n hx hb dX12_image_74 rfl (lv_at hl 1 rfl) ?_
      refine t_gr hx hb hts hown hK hG hB mh0 th0 fq_12_20 rfl mw_5_236 dX12_image_75 (fun b_25 hb_25 mb_25 tb_25 => ?_)
      refine lv_iconst (v := 4) hx hb dX12_image_78 (by decide) ?_
      refine t_aj hx hb hK hB mb_25 tb_25 ai_70 (i_in (by decide) (by decide)) dX12_image_79 (fun x_26 ex_26 lx_26 ux_26 => ?_)
      have ax_26 := lx_26
      have bx_26 := ux_26
      have lx_26 : (-2147483648) ≤ x_26.toInt := lx_26
      have ux_26 : x_26.toInt ≤ 2147483647 := ux_26
      have cx_26 := congrArg Int32.toInt ex_26
      exact W.iret (v := x_26) hx hb hr (fun t ht hW => ⟨⟨x_26, (σ_19, ρ_20), rfl, ⟨hB.2.1, hB.2.2, trivial⟩, (show TP D cA L T r σ_19 ρ_20 t.heap from by rw [ht]; exact hB.1)⟩, hS.F ht⟩) hS.2.2 dX12_image_80
    · skip
      have uc_24 := i_nge (n := 201) (by decide) c_24
      refine lv_aload_n hx hb dX12_image_50 rfl (lv_at hl 1 rfl) ?_
      refine t_gr hx hb hts hown hK hG hB mh0 th0 fq_12_40 rfl mw_6_16 dX12_image_51 (fun b_27 hb_27 mb_27 tb_27 => ?_)
      refine lv_sipush (v := 201) hx hb dX12_image_54 (by decide) ?_
      refine lv_iload_n hx hb dX12_image_57 rfl (lv_at hl 2 rfl) ?_
      refine lv_imul hx hb dX12_image_58 ?_
      refine lv_topi (fun x_28 ex_28 => ?_)
      try have vx_28 := b_mul (by decide : (201 : Int32).toInt = 201) (rfl : p1.toInt = _) ex_28 (by omega) (by omega)
      refine lv_iload_n hx hb dX12_image_59 rfl (lv_at hl 0 rfl) ?_
      refine lv_iadd hx hb dX12_image_60 ?_
      refine lv_topi (fun x_29 ex_29 => ?_)
      try have vx_29 := b_add (rfl : x_28.toInt = _) (rfl : i_18.toInt = _) ex_29 (by omega) (by omega)
      refine lv_aload_n hx hb dX12_image_61 rfl (lv_at hl 1 rfl) ?_
      refine t_gr hx hb hts hown hK hG hB mh0 th0 fq_12_20 rfl mw_5_236 dX12_image_62 (fun b_30 hb_30 mb_30 tb_30 => ?_)
      refine lv_iload_n hx hb dX12_image_65 rfl (lv_at hl 0 rfl) ?_
      refine t_aj hx hb hK hB mb_30 tb_30 ai_70 (i_in (by omega) (by omega)) dX12_image_66 (fun x_31 ex_31 lx_31 ux_31 => ?_)
      have ax_31 := lx_31
      have bx_31 := ux_31
      clear lx_31 ux_31
      have cx_31 := congrArg Int32.toInt ex_31
      refine t_si hx hb hK hLA hB hS mb_27 tb_27 ai_82 (i_in (by omega) (by omega)) (show (sb ((x_29 : Int32).toNatClampNeg % 201)).1 ≤ _ by rw [(show (x_29 : Int32).toNatClampNeg % 201 = (i_18 : Int32).toNatClampNeg by have hn0 : (x_29 : Int32).toNatClampNeg = x_29.toInt.toNat := rfl; have hn1 : (i_18 : Int32).toNatClampNeg = i_18.toInt.toNat := rfl; omega)]; exact ax_31) (show _ ≤ (sb ((x_29 : Int32).toNatClampNeg % 201)).2 by rw [(show (x_29 : Int32).toNatClampNeg % 201 = (i_18 : Int32).toNatClampNeg by have hn0 : (x_29 : Int32).toNatClampNeg = x_29.toInt.toNat := rfl; have hn1 : (i_18 : Int32).toNatClampNeg = i_18.toInt.toNat := rfl; omega)]; exact bx_31) (Or.inr (by decide)) dX12_image_67 (fun H locs σ_32 eσ_32 hB hS => ?_)
      have k_33 : σ_32 b_27 x_29.toNatClampNeg = x_31 := by rw [eσ_32]; exact up2_same _ _ _ _
      obtain ⟨x_34, ex_34⟩ : ∃ y : Int32, y = i_18 + 1 := ⟨_, rfl⟩
      have vx_34 := b_add (rfl : i_18.toInt = _) (by decide : (1 : Int32).toInt = 1) ex_34 (by omega) (by omega)
      refine lv_iinc (v := x_34) (lv' := [(2, .int x_34), (0, .ref h0), (1, .int p1)]) hx hb dX12_image_68 hl (k := 0) rfl (by rw [ex_34]; rfl) (by decide) rfl (fun ls hl => ?_)
      refine lv_goto (tgt := 43) hx hb dX12_image_71 (by decide) ?_
      have k_35 : σ_32 h0 21 = x_8 := by rw [eσ_32, up2_nea _ _ (tg_ne th0 tb_27 (by decide))]; exact k_22
      have k_36 : σ_32 h0 22 = x_12 := by rw [eσ_32, up2_nea _ _ (tg_ne th0 tb_27 (by decide))]; exact k_23
      exact ih_21 ⟨x_34, σ_32, ρ_20⟩ _ _ _ ⟨(by omega), (by omega), k_35, k_36, hB, hS, lv_sub hl [0, 1, 2] rfl⟩ (by show (201 - x_34.toInt).toNat < (201 - i_18.toInt).toNat; omega)
  · skip
    have uc_4 := i_eq (n := 0) (by decide) c_4
    refine lv_iconst (v := (-1)) hx hb dX12_image_12 (by decide) ?_
    exact W.iret (v := (-1)) hx hb hr (fun t ht hW => ⟨⟨(-1), (σ, ρ_2), rfl, ⟨hB.2.1, hB.2.2, trivial⟩, (show TP D cA L T r σ ρ_2 t.heap from by rw [ht]; exact hB.1)⟩, hS.F ht⟩) hS.2.2 dX12_image_13
theorem dX12_back_0 : decode cX12_back 0 = .ok (.iload_n 1, 1) := by decide +kernel
theorem dX12_back_1 : decode cX12_back 1 = .ok (.i2l, 1) := by decide +kernel
theorem dX12_back_2 : decode cX12_back 2 = .ok (.lconst 0, 1) := by decide +kernel
theorem dX12_back_3 : decode cX12_back 3 = .ok (.ldc2_w 481, 3) := by decide +kernel
theorem dX12_back_6 : decode cX12_back 6 = .ok (.invokestatic 130, 3) := by decide +kernel
theorem dX12_back_9 : decode cX12_back 9 = .ok (.ifCond .eq 12, 3) := by decide +kernel
theorem dX12_back_21 : decode cX12_back 21 = .ok (.iconst (-1), 1) := by decide +kernel
theorem dX12_back_22 : decode cX12_back 22 = .ok (.ireturn, 1) := by decide +kernel
theorem dX12_back_12 : decode cX12_back 12 = .ok (.aload_n 0, 1) := by decide +kernel
theorem dX12_back_13 : decode cX12_back 13 = .ok (.getfield 89, 3) := by decide +kernel
theorem dX12_back_16 : decode cX12_back 16 = .ok (.iload_n 1, 1) := by decide +kernel
theorem dX12_back_17 : decode cX12_back 17 = .ok (.baload, 1) := by decide +kernel
theorem dX12_back_18 : decode cX12_back 18 = .ok (.ifCond .ne 5, 3) := by decide +kernel
theorem dX12_back_23 : decode cX12_back 23 = .ok (.aload_n 0, 1) := by decide +kernel
theorem dX12_back_24 : decode cX12_back 24 = .ok (.aload_n 0, 1) := by decide +kernel
theorem dX12_back_25 : decode cX12_back 25 = .ok (.getfield 83, 3) := by decide +kernel
theorem dX12_back_28 : decode cX12_back 28 = .ok (.iload_n 1, 1) := by decide +kernel
theorem dX12_back_29 : decode cX12_back 29 = .ok (.iaload, 1) := by decide +kernel
theorem dX12_back_30 : decode cX12_back 30 = .ok (.putfield 42, 3) := by decide +kernel
theorem dX12_back_33 : decode cX12_back 33 = .ok (.aload_n 0, 1) := by decide +kernel
theorem dX12_back_34 : decode cX12_back 34 = .ok (.aload_n 0, 1) := by decide +kernel
theorem dX12_back_35 : decode cX12_back 35 = .ok (.getfield 86, 3) := by decide +kernel
theorem dX12_back_38 : decode cX12_back 38 = .ok (.iload_n 1, 1) := by decide +kernel
theorem dX12_back_39 : decode cX12_back 39 = .ok (.iaload, 1) := by decide +kernel
theorem dX12_back_40 : decode cX12_back 40 = .ok (.putfield 460, 3) := by decide +kernel
theorem dX12_back_43 : decode cX12_back 43 = .ok (.aload_n 0, 1) := by decide +kernel
theorem dX12_back_44 : decode cX12_back 44 = .ok (.iconst 0, 1) := by decide +kernel
theorem dX12_back_45 : decode cX12_back 45 = .ok (.putfield 282, 3) := by decide +kernel
theorem dX12_back_48 : decode cX12_back 48 = .ok (.iconst 0, 1) := by decide +kernel
theorem dX12_back_49 : decode cX12_back 49 = .ok (.istore_n 2, 1) := by decide +kernel
theorem dX12_back_50 : decode cX12_back 50 = .ok (.iload_n 2, 1) := by decide +kernel
theorem dX12_back_51 : decode cX12_back 51 = .ok (.sipush 201, 3) := by decide +kernel
theorem dX12_back_54 : decode cX12_back 54 = .ok (.if_icmp .ge 27, 3) := by decide +kernel
theorem dX12_back_57 : decode cX12_back 57 = .ok (.aload_n 0, 1) := by decide +kernel
theorem dX12_back_58 : decode cX12_back 58 = .ok (.getfield 39, 3) := by decide +kernel
theorem dX12_back_61 : decode cX12_back 61 = .ok (.iload_n 2, 1) := by decide +kernel
theorem dX12_back_62 : decode cX12_back 62 = .ok (.aload_n 0, 1) := by decide +kernel
theorem dX12_back_63 : decode cX12_back 63 = .ok (.getfield 80, 3) := by decide +kernel
theorem dX12_back_66 : decode cX12_back 66 = .ok (.sipush 201, 3) := by decide +kernel
theorem dX12_back_69 : decode cX12_back 69 = .ok (.iload_n 1, 1) := by decide +kernel
theorem dX12_back_70 : decode cX12_back 70 = .ok (.imul, 1) := by decide +kernel
theorem dX12_back_71 : decode cX12_back 71 = .ok (.iload_n 2, 1) := by decide +kernel
theorem dX12_back_72 : decode cX12_back 72 = .ok (.iadd, 1) := by decide +kernel
theorem dX12_back_73 : decode cX12_back 73 = .ok (.iaload, 1) := by decide +kernel
theorem dX12_back_74 : decode cX12_back 74 = .ok (.iastore, 1) := by decide +kernel
theorem dX12_back_75 : decode cX12_back 75 = .ok (.iinc 2 1, 3) := by decide +kernel
theorem dX12_back_78 : decode cX12_back 78 = .ok (.goto (-28), 3) := by decide +kernel
theorem dX12_back_81 : decode cX12_back 81 = .ok (.aload_n 0, 1) := by decide +kernel
theorem dX12_back_82 : decode cX12_back 82 = .ok (.getfield 39, 3) := by decide +kernel
theorem dX12_back_85 : decode cX12_back 85 = .ok (.iconst 4, 1) := by decide +kernel
theorem dX12_back_86 : decode cX12_back 86 = .ok (.iaload, 1) := by decide +kernel
theorem dX12_back_87 : decode cX12_back 87 = .ok (.ireturn, 1) := by decide +kernel
set_option maxHeartbeats 4000000 in
set_option maxRecDepth 100000 in
theorem cy_X12_back (l : Launch) (D : va_G) (cA : Nat → ClassId) (L : List Nat) (T : Nat → Nat) (r : Rg) (hG : GR L T r) (hL : L.Nodup) (σ : Sg) (ρ : Lg) (hW : WT L ry T σ) (sz : Nat) (h0 : Nat) (mh0 : h0 ∈ L) (th0 : T h0 = 12) (p1 : Int32) : Met l yX12_back (.code yX12_back cX12_back 3 (some .int) :: wsA) ({ frames := 1, cells := 0, slots := 0, locals := 25 }) (PR D cA L T r σ ρ sz [.ref h0, .int p1]) (QI D cA L T r ry [(12, 21), (12, 22), (12, 25), (70, 1000)] σ sz (fun x σ1 => True)) 0 0 (dm L sz) := by
  refine Met.ofW (cc := cX12_back) (maxL := 3) (ret := (some .int)) (by decide) rfl ?_
  intro p e s m args below meth c s₁ B hml hv
  obtain ⟨rfl, hsz, hP, hK, hN⟩ := hv
  have hx := B.exec
  have hb := B.bytes
  have hr := B.returns
  have hts : ∀ w ∈ wsA, w.before _ s = true := fun w h => atoms_spec (ws := .code yX12_back cX12_back 3 (some .int) :: wsA) B.pre w (List.mem_cons_of_mem _ h)
  have hown : s.vm.findClass RX12 = some m.cls := findClass_of_methodNamed B.named
  subst hsz
  have hLA : LA (dm L s.heap.size) L := ⟨hL, fun a h => Or.inl h⟩
  have hA : ∀ q : Nat, s.heap.size ≤ q → dm L s.heap.size q := fun q h => Or.inr h
  have hS : va_S (dm L s.heap.size) s.heap s.heap [] := va_S.rf
  have hB : TS D cA L T r ry [(12, 21), (12, 22), (12, 25), (70, 1000)] σ σ ρ s.heap := ⟨hP, hW, FR.rf⟩
  have hl := lv_entry ([.ref h0, .int p1]) (n := 3) (Nat.le_of_ble_eq_true rfl)
  rw [lg_entry_eq]
  generalize (lg_sl ([.ref h0, .int p1]) ++ List.replicate (3 - (lg_sl ([.ref h0, .int p1])).length) Slot.unset).toArray = ls at hl ⊢
  have hl : lv_has ls 3 [(0, .ref h0), (1, .int p1)] := hl
  refine lv_iload_n hx hb dX12_back_0 rfl (lv_at hl 1 rfl) ?_
  refine lv_i2l (v := p1.toInt64) hx hb dX12_back_1 rfl ?_
  refine lv_lconst (v := 0) hx hb dX12_back_2 (by decide) ?_
  refine lv_ldc2 (v := 3) hx hb hown (hts _ mw_8_138) dX12_back_3 ?_
  refine t_ci (va_runS (As := [.long p1.toInt64, .long 0, .long 3]) (rest := []) ⟨hx, hb, hml, hown, hts⟩ (cy_X12_in_0_3 l D cA L T r hG hLA.1 σ ρ hB.2.1 _ p1) (cS hts ms_X12_in mw_6_185 rfl rfl ⟨Nat.le_of_ble_eq_true rfl, Nat.le_of_ble_eq_true rfl⟩) (pS hB.1 hK hN) rfl rfl hl.1 rfl (lv_room (Nat.le_of_ble_eq_true rfl)) dX12_back_6 ⟨Nat.le_of_ble_eq_true rfl, Nat.le_of_ble_eq_true rfl⟩) hLA hA hB hS (by decide) (fun x_3 σ_1 ρ_2 H locs hB fσ_1 pσ_1 hS => ?_)
  have qσ_1 := FR.nil fσ_1
  subst qσ_1
  obtain ⟨ox_3, ix_3⟩ := pσ_1
  refine lv_if_eq (tgt := 21) hx hb dX12_back_9 (by decide) (fun c_4 => ?_) (fun c_4 => ?_)
  · skip
    have uc_4 := i_eq (n := 0) (by decide) c_4
    refine lv_iconst (v := (-1)) hx hb dX12_back_21 (by decide) ?_
    exact W.iret (v := (-1)) hx hb hr (fun t ht hW => ⟨⟨(-1), (σ, ρ_2), rfl, ⟨hB.2.1, hB.2.2, trivial⟩, (show TP D cA L T r σ ρ_2 t.heap from by rw [ht]; exact hB.1)⟩, hS.F ht⟩) hS.2.2 dX12_back_22
  · skip
    have uc_4 := i_ne (n := 0) (by decide) c_4
    refine lv_aload_n hx hb dX12_back_12 rfl (lv_at hl 0 rfl) ?_
    refine t_gr hx hb hts hown hK hG hB mh0 th0 fq_12_43 rfl mw_6_19 dX12_back_13 (fun b_5 hb_5 mb_5 tb_5 => ?_)
    refine lv_iload_n hx hb dX12_back_16 rfl (lv_at hl 1 rfl) ?_
    refine t_az hx hb hK hB mb_5 tb_5 ai_85 (fun _ => rfl) (i_in (by omega) (by omega)) dX12_back_17 (fun x_6 ex_6 lx_6 ux_6 => ?_)
    have cx_6 := congrArg Int32.toInt ex_6
    refine lv_if_ne (tgt := 23) hx hb dX12_back_18 (by decide) (fun c_7 => ?_) (fun c_7 => ?_)
    · skip
      have uc_7 := i_ne (n := 0) (by decide) c_7
      refine lv_aload_n hx hb dX12_back_23 rfl (lv_at hl 0 rfl) ?_
      refine lv_aload_n hx hb dX12_back_24 rfl (lv_at hl 0 rfl) ?_
      refine t_gr hx hb hts hown hK hG hB mh0 th0 fq_12_41 rfl mw_6_17 dX12_back_25 (fun b_8 hb_8 mb_8 tb_8 => ?_)
      refine lv_iload_n hx hb dX12_back_28 rfl (lv_at hl 1 rfl) ?_
      refine t_ai hx hb hK hB mb_8 tb_8 ai_83 (fun _ => rfl) (i_in (by omega) (by omega)) dX12_back_29 (fun x_9 ex_9 lx_9 ux_9 => ?_)
      have cx_9 := congrArg Int32.toInt ex_9
      refine t_pi hx hb hts hown hK hLA hB hS mh0 th0 fi_12_21 rfl rfl rfl (by first | omega | (subst_vars; omega)) (by first | omega | (subst_vars; omega)) (Or.inl (by decide)) mw_5_237 dX12_back_30 (fun H locs σ_10 eσ_10 hB hS => ?_)
      have k_11 : σ_10 h0 21 = x_9 := by rw [eσ_10]; exact up2_same _ _ _ _
      refine lv_aload_n hx hb dX12_back_33 rfl (lv_at hl 0 rfl) ?_
      refine lv_aload_n hx hb dX12_back_34 rfl (lv_at hl 0 rfl) ?_
      refine t_gr hx hb hts hown hK hG hB mh0 th0 fq_12_42 rfl mw_6_18 dX12_back_35 (fun b_12 hb_12 mb_12 tb_12 => ?_)
      refine lv_iload_n hx hb dX12_back_38 rfl (lv_at hl 1 rfl) ?_
      refine t_ai hx hb hK hB mb_12 tb_12 ai_84 (fun _ => rfl) (i_in (by omega) (by omega)) dX12_back_39 (fun x_13 ex_13 lx_13 ux_13 => ?_)
      have cx_13 := congrArg Int32.toInt ex_13
      refine t_pi hx hb hts hown hK hLA hB hS mh0 th0 fi_12_22 rfl rfl rfl (i_lo _) (i_hi _) (Or.inl (by decide)) mw_5_238 dX12_back_40 (fun H locs σ_14 eσ_14 hB hS => ?_)
      have k_15 : σ_14 h0 22 = x_13 := by rw [eσ_14]; exact up2_same _ _ _ _
      refine lv_aload_n hx hb dX12_back_43 rfl (lv_at hl 0 rfl) ?_
      refine lv_iconst (v := 0) hx hb dX12_back_44 (by decide) ?_
      refine t_pi hx hb hts hown hK hLA hB hS mh0 th0 fi_12_25 rfl rfl rfl (by decide) (by decide) (Or.inl (by decide)) mw_6_1 dX12_back_45 (fun H locs σ_16 eσ_16 hB hS => ?_)
      have k_17 : σ_16 h0 25 = 0 := by rw [eσ_16]; exact up2_same _ _ _ _
      refine lv_iconst (v := 0) hx hb dX12_back_48 (by decide) ?_
      refine lv_istore_n (lv' := [(2, .int 0), (0, .ref h0), (1, .int p1)]) hx hb dX12_back_49 rfl hl (by decide) rfl (fun ls hl => ?_)
      have k_18 : σ_14 h0 21 = x_9 := by rw [eσ_14, up2_nej _ _ (by decide)]; exact k_11
      have k_19 : σ_16 h0 21 = x_9 := by rw [eσ_16, up2_nej _ _ (by decide)]; exact k_18
      have k_20 : σ_16 h0 22 = x_13 := by rw [eσ_16, up2_nej _ _ (by decide)]; exact k_15
      refine w_loop (α := Int32 × Sg × Lg) (fun (i_21, σ_22, ρ_23) H locs ls => 0 ≤ i_21.toInt ∧ i_21.toInt ≤ 201 ∧ σ_22 h0 21 = x_9 ∧ σ_22 h0 22 = x_13 ∧ σ_22 h0 25 = 0 ∧ TS D cA L T r ry [(12, 21), (12, 22), (12, 25), (70, 1000)] σ σ_22 ρ_23 H ∧ va_S (dm L s.heap.size) s.heap H locs ∧ lv_has ls 3 [(2, .int i_21), (0, .ref h0), (1, .int p1)]) (fun (i_21, σ_22, ρ_23) => (201 - i_21.toInt).toNat) ?_ ⟨0, σ_16, ρ_2⟩ ⟨(by decide), (by decide), k_19, k_20, k_17, hB, hS, lv_sub hl [0, 1, 2] rfl⟩
      rintro ⟨i_21, σ_22, ρ_23⟩ H locs ls ⟨li_21, ui_21, k_25, k_26, k_27, hB, hS, hl⟩ ih_24
      refine lv_iload_n hx hb dX12_back_50 rfl (lv_at hl 0 rfl) ?_
      refine lv_sipush (v := 201) hx hb dX12_back_51 (by decide) ?_
      refine lv_icmp_ge (tgt := 81) hx hb dX12_back_54 (by decide) (fun c_28 => ?_) (fun c_28 => ?_)
      · skip
        have uc_28 := i_ge (n := 201) (by decide) c_28
        refine lv_aload_n hx hb dX12_back_81 rfl (lv_at hl 1 rfl) ?_
        refine t_gr hx hb hts hown hK hG hB mh0 th0 fq_12_20 rfl mw_5_236 dX12_back_82 (fun b_29 hb_29 mb_29 tb_29 => ?_)
        refine lv_iconst (v := 4) hx hb dX12_back_85 (by decide) ?_
        refine t_aj hx hb hK hB mb_29 tb_29 ai_70 (i_in (by decide) (by decide)) dX12_back_86 (fun x_30 ex_30 lx_30 ux_30 => ?_)
        have ax_30 := lx_30
        have bx_30 := ux_30
        have lx_30 : (-2147483648) ≤ x_30.toInt := lx_30
        have ux_30 : x_30.toInt ≤ 2147483647 := ux_30
        have cx_30 := congrArg Int32.toInt ex_30
        exact W.iret (v := x_30) hx hb hr (fun t ht hW => ⟨⟨x_30, (σ_22, ρ_23), rfl, ⟨hB.2.1, hB.2.2, trivial⟩, (show TP D cA L T r σ_22 ρ_23 t.heap from by rw [ht]; exact hB.1)⟩, hS.F ht⟩) hS.2.2 dX12_back_87
      · skip
        have uc_28 := i_nge (n := 201) (by decide) c_28
        refine lv_aload_n hx hb dX12_back_57 rfl (lv_at hl 1 rfl) ?_
        refine t_gr hx hb hts hown hK hG hB mh0 th0 fq_12_20 rfl mw_5_236 dX12_back_58 (fun b_31 hb_31 mb_31 tb_31 => ?_)
        refine lv_iload_n hx hb dX12_back_61 rfl (lv_at hl 0 rfl) ?_
        refine lv_aload_n hx hb dX12_back_62 rfl (lv_at hl 1 rfl) ?_
        refine t_gr hx hb hts hown hK hG hB mh0 th0 fq_12_40 rfl mw_6_16 dX12_back_63 (fun b_32 hb_32 mb_32 tb_32 => ?_)
        refine lv_sipush (v := 201) hx hb dX12_back_66 (by decide) ?_
        refine lv_iload_n hx hb dX12_back_69 rfl (lv_at hl 2 rfl) ?_
        refine lv_imul hx hb dX12_back_70 ?_
        refine lv_topi (fun x_33 ex_33 => ?_)
        try have vx_33 := b_mul (by decide : (201 : Int32).toInt = 201) (rfl : p1.toInt = _) ex_33 (by omega) (by omega)
        refine lv_iload_n hx hb dX12_back_71 rfl (lv_at hl 0 rfl) ?_
        refine lv_iadd hx hb dX12_back_72 ?_
        refine lv_topi (fun x_34 ex_34 => ?_)
        try have vx_34 := b_add (rfl : x_33.toInt = _) (rfl : i_21.toInt = _) ex_34 (by omega) (by omega)
        refine t_aj hx hb hK hB mb_32 tb_32 ai_82 (i_in (by omega) (by omega)) dX12_back_73 (fun x_35 ex_35 lx_35 ux_35 => ?_)
        have ax_35 := lx_35
        have bx_35 := ux_35
        clear lx_35 ux_35
        have cx_35 := congrArg Int32.toInt ex_35
        refine t_si hx hb hK hLA hB hS mb_31 tb_31 ai_70 (i_in (by omega) (by omega)) (show (sb ((i_21 : Int32).toNatClampNeg)).1 ≤ _ by rw [(show (i_21 : Int32).toNatClampNeg = (x_34 : Int32).toNatClampNeg % 201 by have hn0 : (i_21 : Int32).toNatClampNeg = i_21.toInt.toNat := rfl; have hn1 : (x_34 : Int32).toNatClampNeg = x_34.toInt.toNat := rfl; omega)]; exact ax_35) (show _ ≤ (sb ((i_21 : Int32).toNatClampNeg)).2 by rw [(show (i_21 : Int32).toNatClampNeg = (x_34 : Int32).toNatClampNeg % 201 by have hn0 : (i_21 : Int32).toNatClampNeg = i_21.toInt.toNat := rfl; have hn1 : (x_34 : Int32).toNatClampNeg = x_34.toInt.toNat := rfl; omega)]; exact bx_35) (Or.inr (by decide)) dX12_back_74 (fun H locs σ_36 eσ_36 hB hS => ?_)
        have k_37 : σ_36 b_31 i_21.toNatClampNeg = x_35 := by rw [eσ_36]; exact up2_same _ _ _ _
        obtain ⟨x_38, ex_38⟩ : ∃ y : Int32, y = i_21 + 1 := ⟨_, rfl⟩
        have vx_38 := b_add (rfl : i_21.toInt = _) (by decide : (1 : Int32).toInt = 1) ex_38 (by omega) (by omega)
        refine lv_iinc (v := x_38) (lv' := [(2, .int x_38), (0, .ref h0), (1, .int p1)]) hx hb dX12_back_75 hl (k := 0) rfl (by rw [ex_38]; rfl) (by decide) rfl (fun ls hl => ?_)
        refine lv_goto (tgt := 50) hx hb dX12_back_78 (by decide) ?_
        have k_39 : σ_36 h0 21 = x_9 := by rw [eσ_36, up2_nea _ _ (tg_ne th0 tb_31 (by decide))]; exact k_25
        have k_40 : σ_36 h0 22 = x_13 := by rw [eσ_36, up2_nea _ _ (tg_ne th0 tb_31 (by decide))]; exact k_26
        have k_41 : σ_36 h0 25 = 0 := by rw [eσ_36, up2_nea _ _ (tg_ne th0 tb_31 (by decide))]; exact k_27
        exact ih_24 ⟨x_38, σ_36, ρ_23⟩ _ _ _ ⟨(by omega), (by omega), k_39, k_40, k_41, hB, hS, lv_sub hl [0, 1, 2] rfl⟩ (by show (201 - x_38.toInt).toNat < (201 - i_21.toInt).toNat; omega)
    · skip
      have uc_7 := i_eq (n := 0) (by decide) c_7
      refine lv_iconst (v := (-1)) hx hb dX12_back_21 (by decide) ?_
      exact W.iret (v := (-1)) hx hb hr (fun t ht hW => ⟨⟨(-1), (σ, ρ_2), rfl, ⟨hB.2.1, hB.2.2, trivial⟩, (show TP D cA L T r σ ρ_2 t.heap from by rw [ht]; exact hB.1)⟩, hS.F ht⟩) hS.2.2 dX12_back_22
