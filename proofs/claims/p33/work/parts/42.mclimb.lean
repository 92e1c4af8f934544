set_option maxHeartbeats 4000000 in
set_option maxRecDepth 100000 in
theorem cy_X12_pilgrimOf_0x (l : Launch) (D : va_G) (cA : Nat → ClassId) (L : List Nat) (T : Nat → Nat) (r : Rg) (hG : GR L T r) (hL : L.Nodup) (σ : Sg) (ρ : Lg) (hW : WT L ry T σ) (sz : Nat) (h0 : Nat) (mh0 : h0 ∈ L) (th0 : T h0 = 12) (p1 : Int32) (bs : Nat) (hbs : r h0 20 = some bs) (mbs : bs ∈ L) (tbs : T bs = 70) (w0 : 0 ≤ p1.toInt) (w1 : p1.toInt ≤ 3) : Met l yX12_pilgrimOf (.code yX12_pilgrimOf cX12_pilgrimOf 3 (some .int) :: wsA) ({ frames := 0, cells := 0, slots := 0, locals := 0 }) (PR D cA L T r σ ρ sz [.ref h0, .int p1, .int 0]) (QI D cA L T r ry ([] : List (Nat × Nat)) σ sz (fun x σ1 => (0 ≤ x.toInt ∧ x.toInt ≤ 8) ∧ (x = σ1 bs (58 + 9 * p1.toInt.toNat)))) 0 0 (dm L sz) := by
  refine Met.ofW (cc := cX12_pilgrimOf) (maxL := 3) (ret := (some .int)) (by decide) rfl ?_
  intro p e s m args below meth c s₁ B hml hv
  obtain ⟨rfl, hsz, hP, hK, hN⟩ := hv
  have hx := B.exec
  have hb := B.bytes
  have hr := B.returns
  have hts : ∀ w ∈ wsA, w.before _ s = true := fun w h => atoms_spec (ws := .code yX12_pilgrimOf cX12_pilgrimOf 3 (some .int) :: wsA) B.pre w (List.mem_cons_of_mem _ h)
  have hown : s.vm.findClass RX12 = some m.cls := findClass_of_methodNamed B.named
  subst hsz
  have hLA : LA (dm L s.heap.size) L := ⟨hL, fun a h => Or.inl h⟩
  have hA : ∀ q : Nat, s.heap.size ≤ q → dm L s.heap.size q := fun q h => Or.inr h
  have hS : va_S (dm L s.heap.size) s.heap s.heap [] := va_S.rf
  have hB : TS D cA L T r ry ([] : List (Nat × Nat)) σ σ ρ s.heap := ⟨hP, hW, FR.rf⟩
  have hl := lv_entry ([.ref h0, .int p1, .int 0]) (n := 3) (Nat.le_of_ble_eq_true rfl)
  rw [lg_entry_eq]
  generalize (lg_sl ([.ref h0, .int p1, .int 0]) ++ List.replicate (3 - (lg_sl ([.ref h0, .int p1, .int 0])).length) Slot.unset).toArray = ls at hl ⊢
  have hl : lv_has ls 3 [(0, .ref h0), (1, .int p1), (2, .int 0)] := hl
  refine lv_aload_n hx hb dX12_pilgrimOf_0 rfl (lv_at hl 0 rfl) ?_
  refine t_gk hx hb hts hown hK hB mh0 th0 fq_12_20 hbs mw_5_236 dX12_pilgrimOf_1 ?_
  refine lv_bipush (v := 58) hx hb dX12_pilgrimOf_4 (by decide) ?_
  refine lv_bipush (v := 9) hx hb dX12_pilgrimOf_6 (by decide) ?_
  refine lv_iload_n hx hb dX12_pilgrimOf_8 rfl (lv_at hl 1 rfl) ?_
  refine lv_imul hx hb dX12_pilgrimOf_9 ?_
  refine lv_topi (fun x_1 ex_1 => ?_)
  have vx_1 := b_mul (by decide : (9 : Int32).toInt = 9) (rfl : p1.toInt = _) ex_1 (by omega) (by omega)
  refine lv_iadd hx hb dX12_pilgrimOf_10 ?_
  refine lv_topi (fun x_2 ex_2 => ?_)
  have vx_2 := b_add (by decide : (58 : Int32).toInt = 58) (rfl : x_1.toInt = _) ex_2 (by omega) (by omega)
  refine lv_iload_n hx hb dX12_pilgrimOf_11 rfl (lv_at hl 2 rfl) ?_
  refine lv_iadd hx hb dX12_pilgrimOf_12 ?_
  refine lv_topi (fun x_3 ex_3 => ?_)
  have vx_3 := b_add (rfl : x_2.toInt = _) (by decide : (0 : Int32).toInt = 0) ex_3 (by omega) (by omega)
  refine t_aj hx hb hK hB mbs tbs ai_70 (i_in (by omega) (by omega)) dX12_pilgrimOf_13 (fun x_4 ex_4 lx_4 ux_4 => ?_)
  rw [show ry 70 x_3.toNatClampNeg = (0, 8) from sbP (by have hn : x_3.toNatClampNeg = x_3.toInt.toNat := rfl; omega)] at lx_4 ux_4
  have cx_4 := congrArg Int32.toInt ex_4
  have jx_4 : x_3.toNatClampNeg = 58 + 9 * p1.toInt.toNat := by have hn : x_3.toNatClampNeg = x_3.toInt.toNat := rfl; omega
  rw [jx_4] at cx_4
  exact W.iret (v := x_4) hx hb hr (fun t ht hW => ⟨⟨x_4, (σ, ρ), rfl, ⟨hB.2.1, hB.2.2, ⟨(show 0 ≤ (x_4 : Int32).toInt ∧ (x_4 : Int32).toInt ≤ 8 from ⟨by omega, by omega⟩), (show (x_4 : Int32) = σ bs (58 + 9 * p1.toInt.toNat) from (by rw [ex_4, jx_4]))⟩⟩, (show TP D cA L T r σ ρ t.heap from by rw [ht]; exact hB.1)⟩, hS.F ht⟩) hS.2.2 dX12_pilgrimOf_14
set_option maxHeartbeats 4000000 in
set_option maxRecDepth 100000 in
theorem cy_X12_adds_0m (l : Launch) (D : va_G) (cA : Nat → ClassId) (L : List Nat) (T : Nat → Nat) (r : Rg) (hG : GR L T r) (hL : L.Nodup) (σ : Sg) (ρ : Lg) (hW : WT L ry T σ) (sz : Nat) (h0 : Nat) (mh0 : h0 ∈ L) (th0 : T h0 = 12) (p1 : Int32) (bs : Nat) (hbs : r h0 20 = some bs) (mbs : bs ∈ L) (tbs : T bs = 70) (w0 : 0 ≤ p1.toInt) (w1 : p1.toInt ≤ 3) (w2 : 1 ≤ (σ bs (58 + 9 * p1.toInt.toNat)).toInt) : Met l yX12_adds (.code yX12_adds cX12_adds 4 none :: wsA) ({ frames := 0, cells := 0, slots := 0, locals := 0 }) (PR D cA L T r σ ρ sz [.ref h0, .int p1, .int 0, .int (-1)]) (QV D cA L T r ry [(70, 1000)] σ sz (fun σ1 => True)) 0 0 (dm L sz) := by
  refine Met.ofW (cc := cX12_adds) (maxL := 4) (ret := none) (by decide) rfl ?_
  intro p e s m args below meth c s₁ B hml hv
  obtain ⟨rfl, hsz, hP, hK, hN⟩ := hv
  have hx := B.exec
  have hb := B.bytes
  have hr := B.returns
  have hts : ∀ w ∈ wsA, w.before _ s = true := fun w h => atoms_spec (ws := .code yX12_adds cX12_adds 4 none :: wsA) B.pre w (List.mem_cons_of_mem _ h)
  have hown : s.vm.findClass RX12 = some m.cls := findClass_of_methodNamed B.named
  subst hsz
  have hLA : LA (dm L s.heap.size) L := ⟨hL, fun a h => Or.inl h⟩
  have hA : ∀ q : Nat, s.heap.size ≤ q → dm L s.heap.size q := fun q h => Or.inr h
  have hS : va_S (dm L s.heap.size) s.heap s.heap [] := va_S.rf
  have hB : TS D cA L T r ry [(70, 1000)] σ σ ρ s.heap := ⟨hP, hW, FR.rf⟩
  have hl := lv_entry ([.ref h0, .int p1, .int 0, .int (-1)]) (n := 4) (Nat.le_of_ble_eq_true rfl)
  rw [lg_entry_eq]
  generalize (lg_sl ([.ref h0, .int p1, .int 0, .int (-1)]) ++ List.replicate (4 - (lg_sl ([.ref h0, .int p1, .int 0, .int (-1)])).length) Slot.unset).toArray = ls at hl ⊢
  have hl : lv_has ls 4 [(0, .ref h0), (1, .int p1), (2, .int 0), (3, .int (-1))] := hl
  refine lv_aload_n hx hb dX12_adds_0 rfl (lv_at hl 0 rfl) ?_
  refine t_gk hx hb hts hown hK hB mh0 th0 fq_12_20 hbs mw_5_236 dX12_adds_1 ?_
  refine lv_bipush (v := 58) hx hb dX12_adds_4 (by decide) ?_
  refine lv_bipush (v := 9) hx hb dX12_adds_6 (by decide) ?_
  refine lv_iload_n hx hb dX12_adds_8 rfl (lv_at hl 1 rfl) ?_
  refine lv_imul hx hb dX12_adds_9 ?_
  refine lv_topi (fun x_1 ex_1 => ?_)
  have vx_1 := b_mul (by decide : (9 : Int32).toInt = 9) (rfl : p1.toInt = _) ex_1 (by omega) (by omega)
  refine lv_iadd hx hb dX12_adds_10 ?_
  refine lv_topi (fun x_2 ex_2 => ?_)
  have vx_2 := b_add (by decide : (58 : Int32).toInt = 58) (rfl : x_1.toInt = _) ex_2 (by omega) (by omega)
  refine lv_iload_n hx hb dX12_adds_11 rfl (lv_at hl 2 rfl) ?_
  refine lv_iadd hx hb dX12_adds_12 ?_
  refine lv_topi (fun x_3 ex_3 => ?_)
  have vx_3 := b_add (rfl : x_2.toInt = _) (by decide : (0 : Int32).toInt = 0) ex_3 (by omega) (by omega)
  refine lv_dup2_11 hx hb dX12_adds_13 rfl rfl ?_
  refine t_aj hx hb hK hB mbs tbs ai_70 (i_in (by omega) (by omega)) dX12_adds_14 (fun x_4 ex_4 lx_4 ux_4 => ?_)
  rw [show ry 70 x_3.toNatClampNeg = (0, 8) from sbP (by have hn : x_3.toNatClampNeg = x_3.toInt.toNat := rfl; omega)] at lx_4 ux_4
  have cx_4 := congrArg Int32.toInt ex_4
  have jx_4 : x_3.toNatClampNeg = 58 + 9 * p1.toInt.toNat := by have hn : x_3.toNatClampNeg = x_3.toInt.toNat := rfl; omega
  rw [jx_4] at cx_4
  refine lv_iload_n hx hb dX12_adds_15 rfl (lv_at hl 3 rfl) ?_
  refine lv_iadd hx hb dX12_adds_16 ?_
  refine lv_topi (fun x_5 ex_5 => ?_)
  have vx_5 := b_add (rfl : x_4.toInt = _) (by decide : ((-1) : Int32).toInt = (-1)) ex_5 (by omega) (by omega)
  refine t_si hx hb hK hLA hB hS mbs tbs ai_70 (i_in (by omega) (by omega)) (by rw [show ry 70 x_3.toNatClampNeg = (0, 8) from sbP (by have hn : x_3.toNatClampNeg = x_3.toInt.toNat := rfl; omega)]; show (0 : Int) ≤ _; first | omega | decide) (by rw [show ry 70 x_3.toNatClampNeg = (0, 8) from sbP (by have hn : x_3.toNatClampNeg = x_3.toInt.toNat := rfl; omega)]; show _ ≤ (8 : Int); first | omega | decide) (Or.inr (by decide)) dX12_adds_17 (fun H locs σ_6 eσ_6 hB hS => ?_)
  have k_7 : σ_6 bs x_3.toNatClampNeg = x_5 := by rw [eσ_6]; exact up2_same _ _ _ _
  exact W.vret hx hb hr (fun t ht hW => ⟨⟨(σ_6, ρ), rfl, ⟨hB.2.1, hB.2.2, trivial⟩, (show TP D cA L T r σ_6 ρ t.heap from by rw [ht]; exact hB.1)⟩, hS.F ht⟩) hS.2.2 dX12_adds_18
set_option maxHeartbeats 4000000 in
set_option maxRecDepth 100000 in
theorem cy_X12_adds_0p (l : Launch) (D : va_G) (cA : Nat → ClassId) (L : List Nat) (T : Nat → Nat) (r : Rg) (hG : GR L T r) (hL : L.Nodup) (σ : Sg) (ρ : Lg) (hW : WT L ry T σ) (sz : Nat) (h0 : Nat) (mh0 : h0 ∈ L) (th0 : T h0 = 12) (p1 : Int32) (bs : Nat) (hbs : r h0 20 = some bs) (mbs : bs ∈ L) (tbs : T bs = 70) (w0 : 0 ≤ p1.toInt) (w1 : p1.toInt ≤ 3) (w2 : (σ bs (58 + 9 * p1.toInt.toNat)).toInt ≤ 7) : Met l yX12_adds (.code yX12_adds cX12_adds 4 none :: wsA) ({ frames := 0, cells := 0, slots := 0, locals := 0 }) (PR D cA L T r σ ρ sz [.ref h0, .int p1, .int 0, .int 1]) (QV D cA L T r ry [(70, 1000)] σ sz (fun σ1 => True)) 0 0 (dm L sz) := by
  refine Met.ofW (cc := cX12_adds) (maxL := 4) (ret := none) (by decide) rfl ?_
  intro p e s m args below meth c s₁ B hml hv
  obtain ⟨rfl, hsz, hP, hK, hN⟩ := hv
  have hx := B.exec
  have hb := B.bytes
  have hr := B.returns
  have hts : ∀ w ∈ wsA, w.before _ s = true := fun w h => atoms_spec (ws := .code yX12_adds cX12_adds 4 none :: wsA) B.pre w (List.mem_cons_of_mem _ h)
  have hown : s.vm.findClass RX12 = some m.cls := findClass_of_methodNamed B.named
  subst hsz
  have hLA : LA (dm L s.heap.size) L := ⟨hL, fun a h => Or.inl h⟩
  have hA : ∀ q : Nat, s.heap.size ≤ q → dm L s.heap.size q := fun q h => Or.inr h
  have hS : va_S (dm L s.heap.size) s.heap s.heap [] := va_S.rf
  have hB : TS D cA L T r ry [(70, 1000)] σ σ ρ s.heap := ⟨hP, hW, FR.rf⟩
  have hl := lv_entry ([.ref h0, .int p1, .int 0, .int 1]) (n := 4) (Nat.le_of_ble_eq_true rfl)
  rw [lg_entry_eq]
  generalize (lg_sl ([.ref h0, .int p1, .int 0, .int 1]) ++ List.replicate (4 - (lg_sl ([.ref h0, .int p1, .int 0, .int 1])).length) Slot.unset).toArray = ls at hl ⊢
  have hl : lv_has ls 4 [(0, .ref h0), (1, .int p1), (2, .int 0), (3, .int 1)] := hl
  refine lv_aload_n hx hb dX12_adds_0 rfl (lv_at hl 0 rfl) ?_
  refine t_gk hx hb hts hown hK hB mh0 th0 fq_12_20 hbs mw_5_236 dX12_adds_1 ?_
  refine lv_bipush (v := 58) hx hb dX12_adds_4 (by decide) ?_
  refine lv_bipush (v := 9) hx hb dX12_adds_6 (by decide) ?_
  refine lv_iload_n hx hb dX12_adds_8 rfl (lv_at hl 1 rfl) ?_
  refine lv_imul hx hb dX12_adds_9 ?_
  refine lv_topi (fun x_1 ex_1 => ?_)
  have vx_1 := b_mul (by decide : (9 : Int32).toInt = 9) (rfl : p1.toInt = _) ex_1 (by omega) (by omega)
  refine lv_iadd hx hb dX12_adds_10 ?_
  refine lv_topi (fun x_2 ex_2 => ?_)
  have vx_2 := b_add (by decide : (58 : Int32).toInt = 58) (rfl : x_1.toInt = _) ex_2 (by omega) (by omega)
  refine lv_iload_n hx hb dX12_adds_11 rfl (lv_at hl 2 rfl) ?_
  refine lv_iadd hx hb dX12_adds_12 ?_
  refine lv_topi (fun x_3 ex_3 => ?_)
  have vx_3 := b_add (rfl : x_2.toInt = _) (by decide : (0 : Int32).toInt = 0) ex_3 (by omega) (by omega)
  refine lv_dup2_11 hx hb dX12_adds_13 rfl rfl ?_
  refine t_aj hx hb hK hB mbs tbs ai_70 (i_in (by omega) (by omega)) dX12_adds_14 (fun x_4 ex_4 lx_4 ux_4 => ?_)
  rw [show ry 70 x_3.toNatClampNeg = (0, 8) from sbP (by have hn : x_3.toNatClampNeg = x_3.toInt.toNat := rfl; omega)] at lx_4 ux_4
  have cx_4 := congrArg Int32.toInt ex_4
  have jx_4 : x_3.toNatClampNeg = 58 + 9 * p1.toInt.toNat := by have hn : x_3.toNatClampNeg = x_3.toInt.toNat := rfl; omega
  rw [jx_4] at cx_4
  refine lv_iload_n hx hb dX12_adds_15 rfl (lv_at hl 3 rfl) ?_
  refine lv_iadd hx hb dX12_adds_16 ?_
  refine lv_topi (fun x_5 ex_5 => ?_)
  have vx_5 := b_add (rfl : x_4.toInt = _) (by decide : (1 : Int32).toInt = 1) ex_5 (by omega) (by omega)
  refine t_si hx hb hK hLA hB hS mbs tbs ai_70 (i_in (by omega) (by omega)) (by rw [show ry 70 x_3.toNatClampNeg = (0, 8) from sbP (by have hn : x_3.toNatClampNeg = x_3.toInt.toNat := rfl; omega)]; show (0 : Int) ≤ _; first | omega | decide) (by rw [show ry 70 x_3.toNatClampNeg = (0, 8) from sbP (by have hn : x_3.toNatClampNeg = x_3.toInt.toNat := rfl; omega)]; show _ ≤ (8 : Int); first | omega | decide) (Or.inr (by decide)) dX12_adds_17 (fun H locs σ_6 eσ_6 hB hS => ?_)
  have k_7 : σ_6 bs x_3.toNatClampNeg = x_5 := by rw [eσ_6]; exact up2_same _ _ _ _
  exact W.vret hx hb hr (fun t ht hW => ⟨⟨(σ_6, ρ), rfl, ⟨hB.2.1, hB.2.2, trivial⟩, (show TP D cA L T r σ_6 ρ t.heap from by rw [ht]; exact hB.1)⟩, hS.F ht⟩) hS.2.2 dX12_adds_18
theorem dX12_down_0 : decode cX12_down 0 = .ok (.aload_n 0, 1) := by decide +kernel
theorem dX12_down_1 : decode cX12_down 1 = .ok (.iload_n 1, 1) := by decide +kernel
theorem dX12_down_2 : decode cX12_down 2 = .ok (.invokevirtual 319, 3) := by decide +kernel
theorem dX12_down_5 : decode cX12_down 5 = .ok (.ifCond .eq 12, 3) := by decide +kernel
theorem dX12_down_17 : decode cX12_down 17 = .ok (.iconst (-1), 1) := by decide +kernel
theorem dX12_down_18 : decode cX12_down 18 = .ok (.ireturn, 1) := by decide +kernel
theorem dX12_down_8 : decode cX12_down 8 = .ok (.aload_n 0, 1) := by decide +kernel
theorem dX12_down_9 : decode cX12_down 9 = .ok (.iload_n 1, 1) := by decide +kernel
theorem dX12_down_10 : decode cX12_down 10 = .ok (.iconst 0, 1) := by decide +kernel
theorem dX12_down_11 : decode cX12_down 11 = .ok (.invokevirtual 324, 3) := by decide +kernel
theorem dX12_down_14 : decode cX12_down 14 = .ok (.ifCond .ne 5, 3) := by decide +kernel
theorem dX12_down_19 : decode cX12_down 19 = .ok (.aload_n 0, 1) := by decide +kernel
theorem dX12_down_20 : decode cX12_down 20 = .ok (.invokevirtual 357, 3) := by decide +kernel
theorem dX12_down_23 : decode cX12_down 23 = .ok (.aload_n 0, 1) := by decide +kernel
theorem dX12_down_24 : decode cX12_down 24 = .ok (.iload_n 1, 1) := by decide +kernel
theorem dX12_down_25 : decode cX12_down 25 = .ok (.iconst 0, 1) := by decide +kernel
theorem dX12_down_26 : decode cX12_down 26 = .ok (.iconst (-1), 1) := by decide +kernel
theorem dX12_down_27 : decode cX12_down 27 = .ok (.invokevirtual 363, 3) := by decide +kernel
theorem dX12_down_30 : decode cX12_down 30 = .ok (.aload_n 0, 1) := by decide +kernel
theorem dX12_down_31 : decode cX12_down 31 = .ok (.iload_n 1, 1) := by decide +kernel
theorem dX12_down_32 : decode cX12_down 32 = .ok (.iconst 0, 1) := by decide +kernel
theorem dX12_down_33 : decode cX12_down 33 = .ok (.invokevirtual 324, 3) := by decide +kernel
theorem dX12_down_36 : decode cX12_down 36 = .ok (.ireturn, 1) := by decide +kernel
set_option maxHeartbeats 4000000 in
set_option maxRecDepth 100000 in
theorem cy_X12_down (l : Launch) (D : va_G) (cA : Nat → ClassId) (L : List Nat) (T : Nat → Nat) (r : Rg) (hG : GR L T r) (hL : L.Nodup) (σ : Sg) (ρ : Lg) (hW : WT L ry T σ) (sz : Nat) (h0 : Nat) (mh0 : h0 ∈ L) (th0 : T h0 = 12) (p1 : Int32) : Met l yX12_down (.code yX12_down cX12_down 2 (some .int) :: wsA) ({ frames := 1, cells := 0, slots := 0, locals := 23 }) (PR D cA L T r σ ρ sz [.ref h0, .int p1]) (QI D cA L T r ry [(12, 25), (70, 1000), (72, 1000)] σ sz (fun x σ1 => True)) 0 0 (dm L sz) := by
  refine Met.ofW (cc := cX12_down) (maxL := 2) (ret := (some .int)) (by decide) rfl ?_
  intro p e s m args below meth c s₁ B hml hv
  obtain ⟨rfl, hsz, hP, hK, hN⟩ := hv
  have hx := B.exec
  have hb := B.bytes
  have hr := B.returns
  have hts : ∀ w ∈ wsA, w.before _ s = true := fun w h => atoms_spec (ws := .code yX12_down cX12_down 2 (some .int) :: wsA) B.pre w (List.mem_cons_of_mem _ h)
  have hown : s.vm.findClass RX12 = some m.cls := findClass_of_methodNamed B.named
  subst hsz
  have hLA : LA (dm L s.heap.size) L := ⟨hL, fun a h => Or.inl h⟩
  have hA : ∀ q : Nat, s.heap.size ≤ q → dm L s.heap.size q := fun q h => Or.inr h
  have hS : va_S (dm L s.heap.size) s.heap s.heap [] := va_S.rf
  have hB : TS D cA L T r ry [(12, 25), (70, 1000), (72, 1000)] σ σ ρ s.heap := ⟨hP, hW, FR.rf⟩
  have hl := lv_entry ([.ref h0, .int p1]) (n := 2) (Nat.le_of_ble_eq_true rfl)
  rw [lg_entry_eq]
  generalize (lg_sl ([.ref h0, .int p1]) ++ List.replicate (2 - (lg_sl ([.ref h0, .int p1])).length) Slot.unset).toArray = ls at hl ⊢
  have hl : lv_has ls 2 [(0, .ref h0), (1, .int p1)] := hl
  refine lv_aload_n hx hb dX12_down_0 rfl (lv_at hl 0 rfl) ?_
  refine lv_iload_n hx hb dX12_down_1 rfl (lv_at hl 1 rfl) ?_
  refine t_ci (va_runV (As := [.int p1]) (rest := []) ⟨hx, hb, hml, hown, hts⟩ (cy_X12_isPilgrim l D cA L T r hG hLA.1 σ ρ hB.2.1 _ h0 mh0 th0 p1) (cV hts mv_X12_isPilgrim mw_7_64 rfl rfl ⟨Nat.le_of_ble_eq_true rfl, Nat.le_of_ble_eq_true rfl⟩) (pV hB.1 hK hN mh0 th0 (show shp cA 12 _ _ _ = .inr (12, Fs12 _ _ _) from rfl) rfl) rfl rfl hl.1 rfl (lv_room (Nat.le_of_ble_eq_true rfl)) dX12_down_2 ⟨Nat.le_of_ble_eq_true rfl, Nat.le_of_ble_eq_true rfl⟩) hLA hA hB hS (by decide) (fun x_3 σ_1 ρ_2 H locs hB fσ_1 pσ_1 hS => ?_)
  have qσ_1 := FR.nil fσ_1
  subst qσ_1
  obtain ⟨ox_3, ix_3⟩ := pσ_1
  refine lv_if_eq (tgt := 17) hx hb dX12_down_5 (by decide) (fun c_4 => ?_) (fun c_4 => ?_)
  · skip
    have uc_4 := i_eq (n := 0) (by decide) c_4
    refine lv_iconst (v := (-1)) hx hb dX12_down_17 (by decide) ?_
    exact W.iret (v := (-1)) hx hb hr (fun t ht hW => ⟨⟨(-1), (σ, ρ_2), rfl, ⟨hB.2.1, hB.2.2, trivial⟩, (show TP D cA L T r σ ρ_2 t.heap from by rw [ht]; exact hB.1)⟩, hS.F ht⟩) hS.2.2 dX12_down_18
  · skip
    have uc_4 := i_ne (n := 0) (by decide) c_4
    refine lv_aload_n hx hb dX12_down_8 rfl (lv_at hl 0 rfl) ?_
    refine lv_iload_n hx hb dX12_down_9 rfl (lv_at hl 1 rfl) ?_
    refine lv_iconst (v := 0) hx hb dX12_down_10 (by decide) ?_
    obtain ⟨b_5, hb_5, mb_5, tb_5⟩ := hG h0 mh0 20 _ (by rw [th0]; rfl)
    refine t_ci (va_runV (As := [.int p1, .int 0]) (rest := []) ⟨hx, hb, hml, hown, hts⟩ (cy_X12_pilgrimOf_0x l D cA L T r hG hLA.1 σ ρ_2 hB.2.1 _ h0 mh0 th0 p1 b_5 hb_5 mb_5 tb_5 (by first | omega | decide) (by first | omega | decide)) (cV hts mv_X12_pilgrimOf mw_7_69 rfl rfl ⟨Nat.le_of_ble_eq_true rfl, Nat.le_of_ble_eq_true rfl⟩) (pV hB.1 hK hN mh0 th0 (show shp cA 12 _ _ _ = .inr (12, Fs12 _ _ _) from rfl) rfl) rfl rfl hl.1 rfl (lv_room (Nat.le_of_ble_eq_true rfl)) dX12_down_11 ⟨Nat.le_of_ble_eq_true rfl, Nat.le_of_ble_eq_true rfl⟩) hLA hA hB hS (by decide) (fun x_8 σ_6 ρ_7 H locs hB fσ_6 pσ_6 hS => ?_)
    have qσ_6 := FR.nil fσ_6
    subst qσ_6
    obtain ⟨g_9, g_10⟩ := pσ_6
    have dx_8 := congrArg Int32.toInt g_10
    obtain ⟨lx_8, ux_8⟩ := g_9
    refine lv_if_ne (tgt := 19) hx hb dX12_down_14 (by decide) (fun c_11 => ?_) (fun c_11 => ?_)
    · skip
      have uc_11 := i_ne (n := 0) (by decide) c_11
      refine lv_aload_n hx hb dX12_down_19 rfl (lv_at hl 0 rfl) ?_
      refine t_cv (va_runV (As := []) (rest := []) ⟨hx, hb, hml, hown, hts⟩ (cy_X12_keepsAct l D cA L T r hG hLA.1 σ ρ_7 hB.2.1 _ h0 mh0 th0) (cV hts mv_X12_keepsAct mw_7_127 rfl rfl ⟨Nat.le_of_ble_eq_true rfl, Nat.le_of_ble_eq_true rfl⟩) (pV hB.1 hK hN mh0 th0 (show shp cA 12 _ _ _ = .inr (12, Fs12 _ _ _) from rfl) rfl) rfl rfl hl.1 rfl (lv_room (Nat.le_of_ble_eq_true rfl)) dX12_down_20 ⟨Nat.le_of_ble_eq_true rfl, Nat.le_of_ble_eq_true rfl⟩) hLA hA hB hS (by decide) (fun σ_12 ρ_13 H locs hB fσ_12 pσ_12 hS => ?_)
      refine lv_aload_n hx hb dX12_down_23 rfl (lv_at hl 0 rfl) ?_
      refine lv_iload_n hx hb dX12_down_24 rfl (lv_at hl 1 rfl) ?_
      refine lv_iconst (v := 0) hx hb dX12_down_25 (by decide) ?_
      refine lv_iconst (v := (-1)) hx hb dX12_down_26 (by decide) ?_
      have k_15 := FR.row fσ_12 tb_5 (fun j => by simp)
      refine t_cv (va_runV (As := [.int p1, .int 0, .int (-1)]) (rest := []) ⟨hx, hb, hml, hown, hts⟩ (cy_X12_adds_0m l D cA L T r hG hLA.1 σ_12 ρ_13 hB.2.1 _ h0 mh0 th0 p1 b_5 hb_5 mb_5 tb_5 (by first | omega | decide) (by first | omega | decide) (by rw [k_15]; omega)) (cV hts mv_X12_adds mw_7_174 rfl rfl ⟨Nat.le_of_ble_eq_true rfl, Nat.le_of_ble_eq_true rfl⟩) (pV hB.1 hK hN mh0 th0 (show shp cA 12 _ _ _ = .inr (12, Fs12 _ _ _) from rfl) rfl) rfl rfl hl.1 rfl (lv_room (Nat.le_of_ble_eq_true rfl)) dX12_down_27 ⟨Nat.le_of_ble_eq_true rfl, Nat.le_of_ble_eq_true rfl⟩) hLA hA hB hS (by decide) (fun σ_16 ρ_17 H locs hB fσ_16 pσ_16 hS => ?_)
      refine lv_aload_n hx hb dX12_down_30 rfl (lv_at hl 0 rfl) ?_
      refine lv_iload_n hx hb dX12_down_31 rfl (lv_at hl 1 rfl) ?_
      refine lv_iconst (v := 0) hx hb dX12_down_32 (by decide) ?_
      refine t_ci (va_runV (As := [.int p1, .int 0]) (rest := []) ⟨hx, hb, hml, hown, hts⟩ (cy_X12_pilgrimOf_0x l D cA L T r hG hLA.1 σ_16 ρ_17 hB.2.1 _ h0 mh0 th0 p1 b_5 hb_5 mb_5 tb_5 (by first | omega | decide) (by first | omega | decide)) (cV hts mv_X12_pilgrimOf mw_7_69 rfl rfl ⟨Nat.le_of_ble_eq_true rfl, Nat.le_of_ble_eq_true rfl⟩) (pV hB.1 hK hN mh0 th0 (show shp cA 12 _ _ _ = .inr (12, Fs12 _ _ _) from rfl) rfl) rfl rfl hl.1 rfl (lv_room (Nat.le_of_ble_eq_true rfl)) dX12_down_33 ⟨Nat.le_of_ble_eq_true rfl, Nat.le_of_ble_eq_true rfl⟩) hLA hA hB hS (by decide) (fun x_21 σ_19 ρ_20 H locs hB fσ_19 pσ_19 hS => ?_)
      have qσ_19 := FR.nil fσ_19
      subst qσ_19
      obtain ⟨g_22, g_23⟩ := pσ_19
      have dx_21 := congrArg Int32.toInt g_23
      obtain ⟨lx_21, ux_21⟩ := g_22
      exact W.iret (v := x_21) hx hb hr (fun t ht hW => ⟨⟨x_21, (σ_16, ρ_20), rfl, ⟨hB.2.1, hB.2.2, trivial⟩, (show TP D cA L T r σ_16 ρ_20 t.heap from by rw [ht]; exact hB.1)⟩, hS.F ht⟩) hS.2.2 dX12_down_36
    · skip
      have uc_11 := i_eq (n := 0) (by decide) c_11
      refine lv_iconst (v := (-1)) hx hb dX12_down_17 (by decide) ?_
      exact W.iret (v := (-1)) hx hb hr (fun t ht hW => ⟨⟨(-1), (σ, ρ_7), rfl, ⟨hB.2.1, hB.2.2, trivial⟩, (show TP D cA L T r σ ρ_7 t.heap from by rw [ht]; exact hB.1)⟩, hS.F ht⟩) hS.2.2 dX12_down_18
