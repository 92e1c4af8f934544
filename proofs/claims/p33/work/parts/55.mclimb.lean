set_option maxHeartbeats 4000000 in
set_option maxRecDepth 100000 in
theorem cz_X12_heapOf (l : Launch) (D : va_G) (cA : Nat → ClassId) (L : List Nat) (T : Nat → Nat) (r : Rg) (hG : GR L T r) (hL : L.Nodup) (σ : Sg) (ρ : Lg) (hW : WT L ry T σ) (sz : Nat) (h0 : Nat) (mh0 : h0 ∈ L) (th0 : T h0 = 12) (p1 : Int32) (p2 : Int32) (bs : Nat) (hbs : r h0 20 = some bs) (mbs : bs ∈ L) (tbs : T bs = 70) (w0 : 0 ≤ p1.toInt) (w1 : p1.toInt ≤ 7) (w2 : 0 ≤ p2.toInt) (w3 : p2.toInt ≤ 4) : Met l yX12_heapOf (.code yX12_heapOf cX12_heapOf 3 (some .int) :: wsA) ({ frames := 0, cells := 0, slots := 0, locals := 0 }) (PR D cA L T r σ ρ sz [.ref h0, .int p1, .int p2]) (QI D cA L T r ry ([] : List (Nat × Nat)) σ sz (fun x σ1 => (0 ≤ x.toInt ∧ x.toInt ≤ 99) ∧ (x = σ1 bs (18 + 5 * p1.toInt.toNat + p2.toInt.toNat)))) 0 0 (dm L sz) := by
  refine Met.ofW (cc := cX12_heapOf) (maxL := 3) (ret := (some .int)) (by decide) rfl ?_
  intro p e s m args below meth c s₁ B hml hv
  obtain ⟨rfl, hsz, hP, hK, hN⟩ := hv
  have hx := B.exec
  have hb := B.bytes
  have hr := B.returns
  have hts : ∀ w ∈ wsA, w.before _ s = true := fun w h => atoms_spec (ws := .code yX12_heapOf cX12_heapOf 3 (some .int) :: wsA) B.pre w (List.mem_cons_of_mem _ h)
  have hown : s.vm.findClass RX12 = some m.cls := findClass_of_methodNamed B.named
  subst hsz
  have hLA : LA (dm L s.heap.size) L := ⟨hL, fun a h => Or.inl h⟩
  have hA : ∀ q : Nat, s.heap.size ≤ q → dm L s.heap.size q := fun q h => Or.inr h
  have hS : va_S (dm L s.heap.size) s.heap s.heap [] := va_S.rf
  have hB : TS D cA L T r ry ([] : List (Nat × Nat)) σ σ ρ s.heap := ⟨hP, hW, FR.rf⟩
  have hl := lv_entry ([.ref h0, .int p1, .int p2]) (n := 3) (Nat.le_of_ble_eq_true rfl)
  rw [lg_entry_eq]
  generalize (lg_sl ([.ref h0, .int p1, .int p2]) ++ List.replicate (3 - (lg_sl ([.ref h0, .int p1, .int p2])).length) Slot.unset).toArray = ls at hl ⊢
  have hl : lv_has ls 3 [(0, .ref h0), (1, .int p1), (2, .int p2)] := hl
  refine lv_aload_n hx hb dX12_heapOf_0 rfl (lv_at hl 0 rfl) ?_
  refine t_gk hx hb hts hown hK hB mh0 th0 fq_12_20 hbs mw_5_236 dX12_heapOf_1 ?_
  refine lv_bipush (v := 18) hx hb dX12_heapOf_4 (by decide) ?_
  refine lv_iconst (v := 5) hx hb dX12_heapOf_6 (by decide) ?_
  refine lv_iload_n hx hb dX12_heapOf_7 rfl (lv_at hl 1 rfl) ?_
  refine lv_imul hx hb dX12_heapOf_8 ?_
  refine lv_topi (fun x_1 ex_1 => ?_)
  have vx_1 := b_mul (by decide : (5 : Int32).toInt = 5) (rfl : p1.toInt = _) ex_1 (by omega) (by omega)
  refine lv_iadd hx hb dX12_heapOf_9 ?_
  refine lv_topi (fun x_2 ex_2 => ?_)
  have vx_2 := b_add (by decide : (18 : Int32).toInt = 18) (rfl : x_1.toInt = _) ex_2 (by omega) (by omega)
  refine lv_iload_n hx hb dX12_heapOf_10 rfl (lv_at hl 2 rfl) ?_
  refine lv_iadd hx hb dX12_heapOf_11 ?_
  refine lv_topi (fun x_3 ex_3 => ?_)
  have vx_3 := b_add (rfl : x_2.toInt = _) (rfl : p2.toInt = _) ex_3 (by omega) (by omega)
  refine t_aj hx hb hK hB mbs tbs ai_70 (i_in (by omega) (by omega)) dX12_heapOf_12 (fun x_4 ex_4 lx_4 ux_4 => ?_)
  rw [show ry 70 x_3.toNatClampNeg = (0, 99) from sbH (by have hn : x_3.toNatClampNeg = x_3.toInt.toNat := rfl; omega) (by have hn : x_3.toNatClampNeg = x_3.toInt.toNat := rfl; omega)] at lx_4 ux_4
  have cx_4 := congrArg Int32.toInt ex_4
  exact W.iret (v := x_4) hx hb hr (fun t ht hW => ⟨⟨x_4, (σ, ρ), rfl, ⟨hB.2.1, hB.2.2, ⟨(show 0 ≤ (x_4 : Int32).toInt ∧ (x_4 : Int32).toInt ≤ 99 from ⟨by omega, by omega⟩), (show (x_4 : Int32) = σ bs (18 + 5 * p1.toInt.toNat + p2.toInt.toNat) from (by rw [ex_4, show x_3.toNatClampNeg = 18 + 5 * p1.toInt.toNat + p2.toInt.toNat from (by have hn : x_3.toNatClampNeg = x_3.toInt.toNat := rfl; omega)]))⟩⟩, (show TP D cA L T r σ ρ t.heap from by rw [ht]; exact hB.1)⟩, hS.F ht⟩) hS.2.2 dX12_heapOf_13
set_option maxHeartbeats 4000000 in
set_option maxRecDepth 100000 in
theorem cz_X12_adds_t (l : Launch) (D : va_G) (cA : Nat → ClassId) (L : List Nat) (T : Nat → Nat) (r : Rg) (hG : GR L T r) (hL : L.Nodup) (σ : Sg) (ρ : Lg) (hW : WT L ry T σ) (sz : Nat) (h0 : Nat) (mh0 : h0 ∈ L) (th0 : T h0 = 12) (p1 : Int32) (p2 : Int32) (p3 : Int32) (bs : Nat) (hbs : r h0 20 = some bs) (mbs : bs ∈ L) (tbs : T bs = 70) (w0 : 0 ≤ p1.toInt) (w1 : p1.toInt ≤ 3) (w2 : 4 ≤ p2.toInt) (w3 : p2.toInt ≤ 8) : Met l yX12_adds (.code yX12_adds cX12_adds 4 none :: wsA) ({ frames := 0, cells := 0, slots := 0, locals := 0 }) (PR D cA L T r σ ρ sz [.ref h0, .int p1, .int p2, .int p3]) (QV D cA L T r ry [(70, 1000)] σ sz (fun σ1 => (σ1 bs (58 + 9 * p1.toInt.toNat) = σ bs (58 + 9 * p1.toInt.toNat)))) 0 0 (dm L sz) := by
  refine Met.ofW (cc := cX12_adds) (maxL := 4) (ret := none) (by decide) rfl ?_
  intro p e s m args below meth c s₁ B hml hv
  obtain ⟨rfl, hsz, hP, hK, hN⟩ := hv
  have hx := B.exec
  have hb := B.bytes
  have hr := B.returns
  have hts : ∀ w ∈ wsA, w.before _ s = true := fun w h => atoms_spec (ws := .code yX12_adds cX12_adds 4 none :: wsA) B.pre w (List.mem_cons_of_mem _ h)
  have hown : s.vm.findClass RX12 = some m.cls := findClass_of_methodNamed B.named
  subst hsz
  have hLA : LA (dm L s.heap.size) L := ⟨hL, fun a h => Or.inl h⟩
  have hA : ∀ q : Nat, s.heap.size ≤ q → dm L s.heap.size q := fun q h => Or.inr h
  have hS : va_S (dm L s.heap.size) s.heap s.heap [] := va_S.rf
  have hB : TS D cA L T r ry [(70, 1000)] σ σ ρ s.heap := ⟨hP, hW, FR.rf⟩
  have hl := lv_entry ([.ref h0, .int p1, .int p2, .int p3]) (n := 4) (Nat.le_of_ble_eq_true rfl)
  rw [lg_entry_eq]
  generalize (lg_sl ([.ref h0, .int p1, .int p2, .int p3]) ++ List.replicate (4 - (lg_sl ([.ref h0, .int p1, .int p2, .int p3])).length) Slot.unset).toArray = ls at hl ⊢
  have hl : lv_has ls 4 [(0, .ref h0), (1, .int p1), (2, .int p2), (3, .int p3)] := hl
  refine lv_aload_n hx hb dX12_adds_0 rfl (lv_at hl 0 rfl) ?_
  refine t_gk hx hb hts hown hK hB mh0 th0 fq_12_20 hbs mw_5_236 dX12_adds_1 ?_
  refine lv_bipush (v := 58) hx hb dX12_adds_4 (by decide) ?_
  refine lv_bipush (v := 9) hx hb dX12_adds_6 (by decide) ?_
  refine lv_iload_n hx hb dX12_adds_8 rfl (lv_at hl 1 rfl) ?_
  refine lv_imul hx hb dX12_adds_9 ?_
  refine lv_topi (fun x_1 ex_1 => ?_)
  have vx_1 := b_mul (by decide : (9 : Int32).toInt = 9) (rfl : p1.toInt = _) ex_1 (by omega) (by omega)
  refine lv_iadd hx hb dX12_adds_10 ?_
  refine lv_topi (fun x_2 ex_2 => ?_)
  have vx_2 := b_add (by decide : (58 : Int32).toInt = 58) (rfl : x_1.toInt = _) ex_2 (by omega) (by omega)
  refine lv_iload_n hx hb dX12_adds_11 rfl (lv_at hl 2 rfl) ?_
  refine lv_iadd hx hb dX12_adds_12 ?_
  refine lv_topi (fun x_3 ex_3 => ?_)
  have vx_3 := b_add (rfl : x_2.toInt = _) (rfl : p2.toInt = _) ex_3 (by omega) (by omega)
  refine lv_dup2_11 hx hb dX12_adds_13 rfl rfl ?_
  refine t_aj hx hb hK hB mbs tbs ai_70 (i_in (by omega) (by omega)) dX12_adds_14 (fun x_4 ex_4 lx_4 ux_4 => ?_)
  rw [show ry 70 x_3.toNatClampNeg = ((-2147483648), 2147483647) from sbF (by have hn : x_3.toNatClampNeg = x_3.toInt.toNat := rfl; omega)] at lx_4 ux_4
  have cx_4 := congrArg Int32.toInt ex_4
  refine lv_iload_n hx hb dX12_adds_15 rfl (lv_at hl 3 rfl) ?_
  refine lv_iadd hx hb dX12_adds_16 ?_
  refine lv_topi (fun x_5 ex_5 => ?_)
  try have vx_5 := b_add (rfl : x_4.toInt = _) (rfl : p3.toInt = _) ex_5 (by omega) (by omega)
  refine t_si hx hb hK hLA hB hS mbs tbs ai_70 (i_in (by omega) (by omega)) (by rw [show ry 70 x_3.toNatClampNeg = ((-2147483648), 2147483647) from sbF (by have hn : x_3.toNatClampNeg = x_3.toInt.toNat := rfl; omega)]; exact i_lo _) (by rw [show ry 70 x_3.toNatClampNeg = ((-2147483648), 2147483647) from sbF (by have hn : x_3.toNatClampNeg = x_3.toInt.toNat := rfl; omega)]; exact i_hi _) (Or.inr (by decide)) dX12_adds_17 (fun H locs σ_6 eσ_6 hB hS => ?_)
  have k_7 : σ_6 bs x_3.toNatClampNeg = x_5 := by rw [eσ_6]; exact up2_same _ _ _ _
  exact W.vret hx hb hr (fun t ht hW => ⟨⟨(σ_6, ρ), rfl, ⟨hB.2.1, hB.2.2, (show σ_6 bs (58 + 9 * p1.toInt.toNat) = σ bs (58 + 9 * p1.toInt.toNat) from (by rw [eσ_6]; exact up2_nej _ _ (by have hn : x_3.toNatClampNeg = x_3.toInt.toNat := rfl; omega)))⟩, (show TP D cA L T r σ_6 ρ t.heap from by rw [ht]; exact hB.1)⟩, hS.F ht⟩) hS.2.2 dX12_adds_18
set_option maxHeartbeats 4000000 in
set_option maxRecDepth 100000 in
theorem cz_X12_canClimb (l : Launch) (D : va_G) (cA : Nat → ClassId) (L : List Nat) (T : Nat → Nat) (r : Rg) (hG : GR L T r) (hL : L.Nodup) (σ : Sg) (ρ : Lg) (hW : WT L ry T σ) (sz : Nat) (h0 : Nat) (mh0 : h0 ∈ L) (th0 : T h0 = 12) (p1 : Int32) (bs : Nat) (hbs : r h0 20 = some bs) (mbs : bs ∈ L) (tbs : T bs = 70) (w0 : 0 ≤ p1.toInt) (w1 : p1.toInt ≤ 3) : Met l yX12_canClimb (.code yX12_canClimb cX12_canClimb 3 (some .boolean) :: wsA) ({ frames := 2, cells := 0, slots := 0, locals := 43 }) (PR D cA L T r σ ρ sz [.ref h0, .int p1]) (QI D cA L T r ry ([] : List (Nat × Nat)) σ sz (fun x σ1 => ((x.toInt = 0 ∨ x.toInt = 1) ∧ (x.toInt = 1 → (σ1 bs (58 + 9 * p1.toInt.toNat)).toInt ≤ 7)))) 0 0 (dm L sz) := by
  refine Met.ofW (cc := cX12_canClimb) (maxL := 3) (ret := (some .boolean)) (by decide) rfl ?_
  intro p e s m args below meth c s₁ B hml hv
  obtain ⟨rfl, hsz, hP, hK, hN⟩ := hv
  have hx := B.exec
  have hb := B.bytes
  have hr := B.returns
  have hts : ∀ w ∈ wsA, w.before _ s = true := fun w h => atoms_spec (ws := .code yX12_canClimb cX12_canClimb 3 (some .boolean) :: wsA) B.pre w (List.mem_cons_of_mem _ h)
  have hown : s.vm.findClass RX12 = some m.cls := findClass_of_methodNamed B.named
  subst hsz
  have hLA : LA (dm L s.heap.size) L := ⟨hL, fun a h => Or.inl h⟩
  have hA : ∀ q : Nat, s.heap.size ≤ q → dm L s.heap.size q := fun q h => Or.inr h
  have hS : va_S (dm L s.heap.size) s.heap s.heap [] := va_S.rf
  have hB : TS D cA L T r ry ([] : List (Nat × Nat)) σ σ ρ s.heap := ⟨hP, hW, FR.rf⟩
  have hl := lv_entry ([.ref h0, .int p1]) (n := 3) (Nat.le_of_ble_eq_true rfl)
  rw [lg_entry_eq]
  generalize (lg_sl ([.ref h0, .int p1]) ++ List.replicate (3 - (lg_sl ([.ref h0, .int p1])).length) Slot.unset).toArray = ls at hl ⊢
  have hl : lv_has ls 3 [(0, .ref h0), (1, .int p1)] := hl
  refine lv_aload_n hx hb dX12_canClimb_0 rfl (lv_at hl 0 rfl) ?_
  refine lv_iload_n hx hb dX12_canClimb_1 rfl (lv_at hl 1 rfl) ?_
  refine lv_iconst (v := 0) hx hb dX12_canClimb_2 (by decide) ?_
  refine t_ci (va_runV (As := [.int p1, .int 0]) (rest := []) ⟨hx, hb, hml, hown, hts⟩ (cy_X12_pilgrimOf_0x l D cA L T r hG hLA.1 σ ρ hB.2.1 _ h0 mh0 th0 p1 bs hbs mbs tbs (by first | omega | decide) (by first | omega | decide)) (cV hts mv_X12_pilgrimOf mw_7_69 rfl rfl ⟨Nat.le_of_ble_eq_true rfl, Nat.le_of_ble_eq_true rfl⟩) (pV hB.1 hK hN mh0 th0 (show shp cA 12 _ _ _ = .inr (12, Fs12 _ _ _) from rfl) rfl) rfl rfl hl.1 rfl (lv_room (Nat.le_of_ble_eq_true rfl)) dX12_canClimb_3 ⟨Nat.le_of_ble_eq_true rfl, Nat.le_of_ble_eq_true rfl⟩) hLA hA hB hS (by decide) (fun x_3 σ_1 ρ_2 H locs hB fσ_1 pσ_1 hS => ?_)
  have qσ_1 := FR.nil fσ_1
  subst qσ_1
  obtain ⟨g_4, g_5⟩ := pσ_1
  have dx_3 := congrArg Int32.toInt g_5
  obtain ⟨lx_3, ux_3⟩ := g_4
  refine lv_istore_n (lv' := [(2, .int x_3), (0, .ref h0), (1, .int p1)]) hx hb dX12_canClimb_6 rfl hl (by decide) rfl (fun ls hl => ?_)
  refine lv_iload_n hx hb dX12_canClimb_7 rfl (lv_at hl 0 rfl) ?_
  refine lv_aload_n hx hb dX12_canClimb_8 rfl (lv_at hl 1 rfl) ?_
  refine t_gk hx hb hts hown hK hB mh0 th0 fq_12_20 hbs mw_5_236 dX12_canClimb_9 ?_
  refine lv_iconst (v := 2) hx hb dX12_canClimb_12 (by decide) ?_
  refine t_aj hx hb hK hB mbs tbs ai_70 (i_in (by decide) (by decide)) dX12_canClimb_13 (fun x_6 ex_6 lx_6 ux_6 => ?_)
  have lx_6 : 0 ≤ x_6.toInt := lx_6
  have ux_6 : x_6.toInt ≤ 8 := ux_6
  have cx_6 := congrArg Int32.toInt ex_6
  refine lv_icmp_ge (tgt := 34) hx hb dX12_canClimb_14 (by decide) (fun c_7 => ?_) (fun c_7 => ?_)
  · skip
    have uc_7 := j_le c_7
    refine lv_iconst (v := 0) hx hb dX12_canClimb_34 (by decide) ?_
    exact W.zret (v := 0) hx hb hr rfl (fun t ht hW => ⟨⟨0, (σ, ρ_2), rfl, ⟨hB.2.1, hB.2.2, (show ((0 : Int32).toInt = 0 ∨ (0 : Int32).toInt = 1) ∧ ((0 : Int32).toInt = 1 → (σ bs (58 + 9 * p1.toInt.toNat)).toInt ≤ 7) from ⟨Or.inl (by decide), fun h => absurd h (by decide)⟩)⟩, (show TP D cA L T r σ ρ_2 t.heap from by rw [ht]; exact hB.1)⟩, hS.F ht⟩) hS.2.2 dX12_canClimb_35
  · skip
    have uc_7 := j_nle c_7
    refine lv_aload_n hx hb dX12_canClimb_17 rfl (lv_at hl 1 rfl) ?_
    refine lv_iload_n hx hb dX12_canClimb_18 rfl (lv_at hl 2 rfl) ?_
    refine lv_aload_n hx hb dX12_canClimb_19 rfl (lv_at hl 1 rfl) ?_
    refine lv_iload_n hx hb dX12_canClimb_20 rfl (lv_at hl 0 rfl) ?_
    refine t_ci (va_runV (As := [.int x_3]) (rest := [.int p1, .ref h0]) ⟨hx, hb, hml, hown, hts⟩ (cy_X12_asksFor l D cA L T r hG hLA.1 σ ρ_2 hB.2.1 _ h0 mh0 th0 x_3 (by first | omega | decide) (by first | omega | decide)) (cV hts mv_X12_asksFor mw_7_98 rfl rfl ⟨Nat.le_of_ble_eq_true rfl, Nat.le_of_ble_eq_true rfl⟩) (pV hB.1 hK hN mh0 th0 (show shp cA 12 _ _ _ = .inr (12, Fs12 _ _ _) from rfl) rfl) rfl rfl hl.1 rfl (lv_room (Nat.le_of_ble_eq_true rfl)) dX12_canClimb_21 ⟨Nat.le_of_ble_eq_true rfl, Nat.le_of_ble_eq_true rfl⟩) hLA hA hB hS (by decide) (fun x_10 σ_8 ρ_9 H locs hB fσ_8 pσ_8 hS => ?_)
    have qσ_8 := FR.nil fσ_8
    subst qσ_8
    obtain ⟨lx_10, ux_10⟩ := pσ_8
    refine t_ci (va_runV (As := [.int p1, .int x_10]) (rest := []) ⟨hx, hb, hml, hown, hts⟩ (cy_X12_hasOf l D cA L T r hG hLA.1 σ ρ_9 hB.2.1 _ h0 mh0 th0 p1 x_10 (by first | omega | decide) (by first | omega | decide) (by first | omega | decide) (by first | omega | decide)) (cV hts mv_X12_hasOf mw_7_77 rfl rfl ⟨Nat.le_of_ble_eq_true rfl, Nat.le_of_ble_eq_true rfl⟩) (pV hB.1 hK hN mh0 th0 (show shp cA 12 _ _ _ = .inr (12, Fs12 _ _ _) from rfl) rfl) rfl rfl hl.1 rfl (lv_room (Nat.le_of_ble_eq_true rfl)) dX12_canClimb_24 ⟨Nat.le_of_ble_eq_true rfl, Nat.le_of_ble_eq_true rfl⟩) hLA hA hB hS (by decide) (fun x_13 σ_11 ρ_12 H locs hB fσ_11 pσ_11 hS => ?_)
    have qσ_11 := FR.nil fσ_11
    subst qσ_11
    refine lv_if_le (tgt := 34) hx hb dX12_canClimb_27 (by decide) (fun c_14 => ?_) (fun c_14 => ?_)
    · skip
      have uc_14 := i_le (n := 0) (by decide) c_14
      refine lv_iconst (v := 0) hx hb dX12_canClimb_34 (by decide) ?_
      exact W.zret (v := 0) hx hb hr rfl (fun t ht hW => ⟨⟨0, (σ, ρ_12), rfl, ⟨hB.2.1, hB.2.2, (show ((0 : Int32).toInt = 0 ∨ (0 : Int32).toInt = 1) ∧ ((0 : Int32).toInt = 1 → (σ bs (58 + 9 * p1.toInt.toNat)).toInt ≤ 7) from ⟨Or.inl (by decide), fun h => absurd h (by decide)⟩)⟩, (show TP D cA L T r σ ρ_12 t.heap from by rw [ht]; exact hB.1)⟩, hS.F ht⟩) hS.2.2 dX12_canClimb_35
    · skip
      have uc_14 := i_nle (n := 0) (by decide) c_14
      refine lv_iconst (v := 1) hx hb dX12_canClimb_30 (by decide) ?_
      refine lv_goto (tgt := 35) hx hb dX12_canClimb_31 (by decide) ?_
      exact W.zret (v := 1) hx hb hr rfl (fun t ht hW => ⟨⟨1, (σ, ρ_12), rfl, ⟨hB.2.1, hB.2.2, (show ((1 : Int32).toInt = 0 ∨ (1 : Int32).toInt = 1) ∧ ((1 : Int32).toInt = 1 → (σ bs (58 + 9 * p1.toInt.toNat)).toInt ≤ 7) from ⟨Or.inr (by decide), fun _ => by omega⟩)⟩, (show TP D cA L T r σ ρ_12 t.heap from by rw [ht]; exact hB.1)⟩, hS.F ht⟩) hS.2.2 dX12_canClimb_35
theorem dX12_climbs_0 : decode cX12_climbs 0 = .ok (.aload_n 0, 1) := by decide +kernel
theorem dX12_climbs_1 : decode cX12_climbs 1 = .ok (.iload_n 1, 1) := by decide +kernel
theorem dX12_climbs_2 : decode cX12_climbs 2 = .ok (.iconst 0, 1) := by decide +kernel
theorem dX12_climbs_3 : decode cX12_climbs 3 = .ok (.invokevirtual 324, 3) := by decide +kernel
theorem dX12_climbs_6 : decode cX12_climbs 6 = .ok (.istore_n 2, 1) := by decide +kernel
theorem dX12_climbs_7 : decode cX12_climbs 7 = .ok (.aload_n 0, 1) := by decide +kernel
theorem dX12_climbs_8 : decode cX12_climbs 8 = .ok (.iload_n 2, 1) := by decide +kernel
theorem dX12_climbs_9 : decode cX12_climbs 9 = .ok (.invokevirtual 332, 3) := by decide +kernel
theorem dX12_climbs_12 : decode cX12_climbs 12 = .ok (.istore_n 3, 1) := by decide +kernel
theorem dX12_climbs_13 : decode cX12_climbs 13 = .ok (.aload_n 0, 1) := by decide +kernel
theorem dX12_climbs_14 : decode cX12_climbs 14 = .ok (.iload_n 1, 1) := by decide +kernel
theorem dX12_climbs_15 : decode cX12_climbs 15 = .ok (.iconst 4, 1) := by decide +kernel
theorem dX12_climbs_16 : decode cX12_climbs 16 = .ok (.iload_n 3, 1) := by decide +kernel
theorem dX12_climbs_17 : decode cX12_climbs 17 = .ok (.iadd, 1) := by decide +kernel
theorem dX12_climbs_18 : decode cX12_climbs 18 = .ok (.iconst (-1), 1) := by decide +kernel
theorem dX12_climbs_19 : decode cX12_climbs 19 = .ok (.invokevirtual 363, 3) := by decide +kernel
theorem dX12_climbs_22 : decode cX12_climbs 22 = .ok (.aload_n 0, 1) := by decide +kernel
theorem dX12_climbs_23 : decode cX12_climbs 23 = .ok (.iload_n 2, 1) := by decide +kernel
theorem dX12_climbs_24 : decode cX12_climbs 24 = .ok (.iload_n 3, 1) := by decide +kernel
theorem dX12_climbs_25 : decode cX12_climbs 25 = .ok (.invokevirtual 313, 3) := by decide +kernel
theorem dX12_climbs_28 : decode cX12_climbs 28 = .ok (.bipush 99, 2) := by decide +kernel
theorem dX12_climbs_30 : decode cX12_climbs 30 = .ok (.if_icmp .ge 20, 3) := by decide +kernel
theorem dX12_climbs_50 : decode cX12_climbs 50 = .ok (.aload_n 0, 1) := by decide +kernel
theorem dX12_climbs_51 : decode cX12_climbs 51 = .ok (.iload_n 1, 1) := by decide +kernel
theorem dX12_climbs_52 : decode cX12_climbs 52 = .ok (.iconst 0, 1) := by decide +kernel
theorem dX12_climbs_53 : decode cX12_climbs 53 = .ok (.iconst 1, 1) := by decide +kernel
theorem dX12_climbs_54 : decode cX12_climbs 54 = .ok (.invokevirtual 363, 3) := by decide +kernel
theorem dX12_climbs_57 : decode cX12_climbs 57 = .ok (.aload_n 0, 1) := by decide +kernel
theorem dX12_climbs_58 : decode cX12_climbs 58 = .ok (.iload_n 1, 1) := by decide +kernel
theorem dX12_climbs_59 : decode cX12_climbs 59 = .ok (.iconst 2, 1) := by decide +kernel
theorem dX12_climbs_60 : decode cX12_climbs 60 = .ok (.iconst 1, 1) := by decide +kernel
theorem dX12_climbs_61 : decode cX12_climbs 61 = .ok (.invokevirtual 363, 3) := by decide +kernel
theorem dX12_climbs_64 : decode cX12_climbs 64 = .ok (.return_, 1) := by decide +kernel
theorem dX12_climbs_33 : decode cX12_climbs 33 = .ok (.aload_n 0, 1) := by decide +kernel
theorem dX12_climbs_34 : decode cX12_climbs 34 = .ok (.getfield 39, 3) := by decide +kernel
theorem dX12_climbs_37 : decode cX12_climbs 37 = .ok (.bipush 18, 2) := by decide +kernel
theorem dX12_climbs_39 : decode cX12_climbs 39 = .ok (.iconst 5, 1) := by decide +kernel
theorem dX12_climbs_40 : decode cX12_climbs 40 = .ok (.iload_n 2, 1) := by decide +kernel
theorem dX12_climbs_41 : decode cX12_climbs 41 = .ok (.imul, 1) := by decide +kernel
theorem dX12_climbs_42 : decode cX12_climbs 42 = .ok (.iadd, 1) := by decide +kernel
theorem dX12_climbs_43 : decode cX12_climbs 43 = .ok (.iload_n 3, 1) := by decide +kernel
theorem dX12_climbs_44 : decode cX12_climbs 44 = .ok (.iadd, 1) := by decide +kernel
theorem dX12_climbs_45 : decode cX12_climbs 45 = .ok (.dup2, 1) := by decide +kernel
theorem dX12_climbs_46 : decode cX12_climbs 46 = .ok (.iaload, 1) := by decide +kernel
theorem dX12_climbs_47 : decode cX12_climbs 47 = .ok (.iconst 1, 1) := by decide +kernel
theorem dX12_climbs_48 : decode cX12_climbs 48 = .ok (.iadd, 1) := by decide +kernel
theorem dX12_climbs_49 : decode cX12_climbs 49 = .ok (.iastore, 1) := by decide +kernel
set_option maxHeartbeats 4000000 in
set_option maxRecDepth 100000 in
theorem cz_X12_climbs (l : Launch) (D : va_G) (cA : Nat → ClassId) (L : List Nat) (T : Nat → Nat) (r : Rg) (hG : GR L T r) (hL : L.Nodup) (σ : Sg) (ρ : Lg) (hW : WT L ry T σ) (sz : Nat) (h0 : Nat) (mh0 : h0 ∈ L) (th0 : T h0 = 12) (p1 : Int32) (bs : Nat) (hbs : r h0 20 = some bs) (mbs : bs ∈ L) (tbs : T bs = 70) (w0 : 0 ≤ p1.toInt) (w1 : p1.toInt ≤ 3) (w2 : (σ bs (58 + 9 * p1.toInt.toNat)).toInt ≤ 7) : Met l yX12_climbs (.code yX12_climbs cX12_climbs 4 none :: wsA) ({ frames := 2, cells := 0, slots := 0, locals := 43 }) (PR D cA L T r σ ρ sz [.ref h0, .int p1]) (QV D cA L T r ry [(70, 1000)] σ sz (fun σ1 => True)) 0 0 (dm L sz) := by
  refine Met.ofW (cc := cX12_climbs) (maxL := 4) (ret := none) (by decide) rfl ?_
  intro p e s m args below meth c s₁ B hml hv
  obtain ⟨rfl, hsz, hP, hK, hN⟩ := hv
  have hx := B.exec
  have hb := B.bytes
  have hr := B.returns
  have hts : ∀ w ∈ wsA, w.before _ s = true := fun w h => atoms_spec (ws := .code yX12_climbs cX12_climbs 4 none :: wsA) B.pre w (List.mem_cons_of_mem _ h)
  have hown : s.vm.findClass RX12 = some m.cls := findClass_of_methodNamed B.named
  subst hsz
  have hLA : LA (dm L s.heap.size) L := ⟨hL, fun a h => Or.inl h⟩
  have hA : ∀ q : Nat, s.heap.size ≤ q → dm L s.heap.size q := fun q h => Or.inr h
  have hS : va_S (dm L s.heap.size) s.heap s.heap [] := va_S.rf
  have hB : TS D cA L T r ry [(70, 1000)] σ σ ρ s.heap := ⟨hP, hW, FR.rf⟩
  have hl := lv_entry ([.ref h0, .int p1]) (n := 4) (Nat.le_of_ble_eq_true rfl)
  rw [lg_entry_eq]
  generalize (lg_sl ([.ref h0, .int p1]) ++ List.replicate (4 - (lg_sl ([.ref h0, .int p1])).length) Slot.unset).toArray = ls at hl ⊢
  have hl : lv_has ls 4 [(0, .ref h0), (1, .int p1)] := hl
  refine lv_aload_n hx hb dX12_climbs_0 rfl (lv_at hl 0 rfl) ?_
  refine lv_iload_n hx hb dX12_climbs_1 rfl (lv_at hl 1 rfl) ?_
  refine lv_iconst (v := 0) hx hb dX12_climbs_2 (by decide) ?_
  refine t_ci (va_runV (As := [.int p1, .int 0]) (rest := []) ⟨hx, hb, hml, hown, hts⟩ (cy_X12_pilgrimOf_0x l D cA L T r hG hLA.1 σ ρ hB.2.1 _ h0 mh0 th0 p1 bs hbs mbs tbs (by first | omega | decide) (by first | omega | decide)) (cV hts mv_X12_pilgrimOf mw_7_69 rfl rfl ⟨Nat.le_of_ble_eq_true rfl, Nat.le_of_ble_eq_true rfl⟩) (pV hB.1 hK hN mh0 th0 (show shp cA 12 _ _ _ = .inr (12, Fs12 _ _ _) from rfl) rfl) rfl rfl hl.1 rfl (lv_room (Nat.le_of_ble_eq_true rfl)) dX12_climbs_3 ⟨Nat.le_of_ble_eq_true rfl, Nat.le_of_ble_eq_true rfl⟩) hLA hA hB hS (by decide) (fun x_3 σ_1 ρ_2 H locs hB fσ_1 pσ_1 hS => ?_)
  have qσ_1 := FR.nil fσ_1
  subst qσ_1
  obtain ⟨g_4, g_5⟩ := pσ_1
  have dx_3 := congrArg Int32.toInt g_5
  obtain ⟨lx_3, ux_3⟩ := g_4
  refine lv_istore_n (lv' := [(2, .int x_3), (0, .ref h0), (1, .int p1)]) hx hb dX12_climbs_6 rfl hl (by decide) rfl (fun ls hl => ?_)
  have b7 : x_3.toInt ≤ 7 := by omega
  refine lv_aload_n hx hb dX12_climbs_7 rfl (lv_at hl 1 rfl) ?_
  refine lv_iload_n hx hb dX12_climbs_8 rfl (lv_at hl 0 rfl) ?_
  refine t_ci (va_runV (As := [.int x_3]) (rest := []) ⟨hx, hb, hml, hown, hts⟩ (cy_X12_asksFor l D cA L T r hG hLA.1 σ ρ_2 hB.2.1 _ h0 mh0 th0 x_3 (by first | omega | decide) (by first | omega | decide)) (cV hts mv_X12_asksFor mw_7_98 rfl rfl ⟨Nat.le_of_ble_eq_true rfl, Nat.le_of_ble_eq_true rfl⟩) (pV hB.1 hK hN mh0 th0 (show shp cA 12 _ _ _ = .inr (12, Fs12 _ _ _) from rfl) rfl) rfl rfl hl.1 rfl (lv_room (Nat.le_of_ble_eq_true rfl)) dX12_climbs_9 ⟨Nat.le_of_ble_eq_true rfl, Nat.le_of_ble_eq_true rfl⟩) hLA hA hB hS (by decide) (fun x_8 σ_6 ρ_7 H locs hB fσ_6 pσ_6 hS => ?_)
  have qσ_6 := FR.nil fσ_6
  subst qσ_6
  obtain ⟨lx_8, ux_8⟩ := pσ_6
  refine lv_istore_n (lv' := [(3, .int x_8), (2, .int x_3), (0, .ref h0), (1, .int p1)]) hx hb dX12_climbs_12 rfl hl (by decide) rfl (fun ls hl => ?_)
  refine lv_aload_n hx hb dX12_climbs_13 rfl (lv_at hl 2 rfl) ?_
  refine lv_iload_n hx hb dX12_climbs_14 rfl (lv_at hl 3 rfl) ?_
  refine lv_iconst (v := 4) hx hb dX12_climbs_15 (by decide) ?_
  refine lv_iload_n hx hb dX12_climbs_16 rfl (lv_at hl 0 rfl) ?_
  refine lv_iadd hx hb dX12_climbs_17 ?_
  refine lv_topi (fun x_9 ex_9 => ?_)
  have vx_9 := b_add (by decide : (4 : Int32).toInt = 4) (rfl : x_8.toInt = _) ex_9 (by omega) (by omega)
  refine lv_iconst (v := (-1)) hx hb dX12_climbs_18 (by decide) ?_
  refine t_cv (va_runV (As := [.int p1, .int x_9, .int (-1)]) (rest := []) ⟨hx, hb, hml, hown, hts⟩ (cz_X12_adds_t l D cA L T r hG hLA.1 σ ρ_7 hB.2.1 _ h0 mh0 th0 p1 x_9 ((-1)) bs hbs mbs tbs (by first | omega | decide) (by first | omega | decide) (by first | omega | decide) (by first | omega | decide)) (cV hts mv_X12_adds mw_7_174 rfl rfl ⟨Nat.le_of_ble_eq_true rfl, Nat.le_of_ble_eq_true rfl⟩) (pV hB.1 hK hN mh0 th0 (show shp cA 12 _ _ _ = .inr (12, Fs12 _ _ _) from rfl) rfl) rfl rfl hl.1 rfl (lv_room (Nat.le_of_ble_eq_true rfl)) dX12_climbs_19 ⟨Nat.le_of_ble_eq_true rfl, Nat.le_of_ble_eq_true rfl⟩) hLA hA hB hS (by decide) (fun σ_10 ρ_11 H locs hB fσ_10 pσ_10 hS => ?_)
  refine lv_aload_n hx hb dX12_climbs_22 rfl (lv_at hl 2 rfl) ?_
  refine lv_iload_n hx hb dX12_climbs_23 rfl (lv_at hl 1 rfl) ?_
  refine lv_iload_n hx hb dX12_climbs_24 rfl (lv_at hl 0 rfl) ?_
  refine t_ci (va_runV (As := [.int x_3, .int x_8]) (rest := []) ⟨hx, hb, hml, hown, hts⟩ (cz_X12_heapOf l D cA L T r hG hLA.1 σ_10 ρ_11 hB.2.1 _ h0 mh0 th0 x_3 x_8 bs hbs mbs tbs (by first | omega | decide) (by first | omega | decide) (by first | omega | decide) (by first | omega | decide)) (cV hts mv_X12_heapOf mw_7_102 rfl rfl ⟨Nat.le_of_ble_eq_true rfl, Nat.le_of_ble_eq_true rfl⟩) (pV hB.1 hK hN mh0 th0 (show shp cA 12 _ _ _ = .inr (12, Fs12 _ _ _) from rfl) rfl) rfl rfl hl.1 rfl (lv_room (Nat.le_of_ble_eq_true rfl)) dX12_climbs_25 ⟨Nat.le_of_ble_eq_true rfl, Nat.le_of_ble_eq_true rfl⟩) hLA hA hB hS (by decide) (fun x_15 σ_13 ρ_14 H locs hB fσ_13 pσ_13 hS => ?_)
  have qσ_13 := FR.nil fσ_13
  subst qσ_13
  obtain ⟨g_16, g_17⟩ := pσ_13
  obtain ⟨lx_15, ux_15⟩ := g_16
  refine lv_bipush (v := 99) hx hb dX12_climbs_28 (by decide) ?_
  refine lv_icmp_ge (tgt := 50) hx hb dX12_climbs_30 (by decide) (fun c_18 => ?_) (fun c_18 => ?_)
  · skip
    have uc_18 := i_ge (n := 99) (by decide) c_18
    refine lv_aload_n hx hb dX12_climbs_50 rfl (lv_at hl 2 rfl) ?_
    refine lv_iload_n hx hb dX12_climbs_51 rfl (lv_at hl 3 rfl) ?_
    refine lv_iconst (v := 0) hx hb dX12_climbs_52 (by decide) ?_
    refine lv_iconst (v := 1) hx hb dX12_climbs_53 (by decide) ?_
    refine t_cv (va_runV (As := [.int p1, .int 0, .int 1]) (rest := []) ⟨hx, hb, hml, hown, hts⟩ (cy_X12_adds_0p l D cA L T r hG hLA.1 σ_10 ρ_14 hB.2.1 _ h0 mh0 th0 p1 bs hbs mbs tbs (by first | omega | decide) (by first | omega | decide) (by rw [pσ_10]; omega)) (cV hts mv_X12_adds mw_7_174 rfl rfl ⟨Nat.le_of_ble_eq_true rfl, Nat.le_of_ble_eq_true rfl⟩) (pV hB.1 hK hN mh0 th0 (show shp cA 12 _ _ _ = .inr (12, Fs12 _ _ _) from rfl) rfl) rfl rfl hl.1 rfl (lv_room (Nat.le_of_ble_eq_true rfl)) dX12_climbs_54 ⟨Nat.le_of_ble_eq_true rfl, Nat.le_of_ble_eq_true rfl⟩) hLA hA hB hS (by decide) (fun σ_19 ρ_20 H locs hB fσ_19 pσ_19 hS => ?_)
    refine lv_aload_n hx hb dX12_climbs_57 rfl (lv_at hl 2 rfl) ?_
    refine lv_iload_n hx hb dX12_climbs_58 rfl (lv_at hl 3 rfl) ?_
    refine lv_iconst (v := 2) hx hb dX12_climbs_59 (by decide) ?_
    refine lv_iconst (v := 1) hx hb dX12_climbs_60 (by decide) ?_
    refine t_cv (va_runV (As := [.int p1, .int 2, .int 1]) (rest := []) ⟨hx, hb, hml, hown, hts⟩ (cy_X12_adds_2 l D cA L T r hG hLA.1 σ_19 ρ_20 hB.2.1 _ h0 mh0 th0 p1 1 (by first | omega | decide) (by first | omega | decide)) (cV hts mv_X12_adds mw_7_174 rfl rfl ⟨Nat.le_of_ble_eq_true rfl, Nat.le_of_ble_eq_true rfl⟩) (pV hB.1 hK hN mh0 th0 (show shp cA 12 _ _ _ = .inr (12, Fs12 _ _ _) from rfl) rfl) rfl rfl hl.1 rfl (lv_room (Nat.le_of_ble_eq_true rfl)) dX12_climbs_61 ⟨Nat.le_of_ble_eq_true rfl, Nat.le_of_ble_eq_true rfl⟩) hLA hA hB hS (by decide) (fun σ_22 ρ_23 H locs hB fσ_22 pσ_22 hS => ?_)
    exact W.vret hx hb hr (fun t ht hW => ⟨⟨(σ_22, ρ_23), rfl, ⟨hB.2.1, hB.2.2, trivial⟩, (show TP D cA L T r σ_22 ρ_23 t.heap from by rw [ht]; exact hB.1)⟩, hS.F ht⟩) hS.2.2 dX12_climbs_64
  · skip
    have uc_18 := i_nge (n := 99) (by decide) c_18
    refine lv_aload_n hx hb dX12_climbs_33 rfl (lv_at hl 2 rfl) ?_
    refine t_gk hx hb hts hown hK hB mh0 th0 fq_12_20 hbs mw_5_236 dX12_climbs_34 ?_
    refine lv_bipush (v := 18) hx hb dX12_climbs_37 (by decide) ?_
    refine lv_iconst (v := 5) hx hb dX12_climbs_39 (by decide) ?_
    refine lv_iload_n hx hb dX12_climbs_40 rfl (lv_at hl 1 rfl) ?_
    refine lv_imul hx hb dX12_climbs_41 ?_
    refine lv_topi (fun x_25 ex_25 => ?_)
    have vx_25 := b_mul (by decide : (5 : Int32).toInt = 5) (rfl : x_3.toInt = _) ex_25 (by omega) (by omega)
    refine lv_iadd hx hb dX12_climbs_42 ?_
    refine lv_topi (fun x_26 ex_26 => ?_)
    have vx_26 := b_add (by decide : (18 : Int32).toInt = 18) (rfl : x_25.toInt = _) ex_26 (by omega) (by omega)
    refine lv_iload_n hx hb dX12_climbs_43 rfl (lv_at hl 0 rfl) ?_
    refine lv_iadd hx hb dX12_climbs_44 ?_
    refine lv_topi (fun x_27 ex_27 => ?_)
    have vx_27 := b_add (rfl : x_26.toInt = _) (rfl : x_8.toInt = _) ex_27 (by omega) (by omega)
    refine lv_dup2_11 hx hb dX12_climbs_45 rfl rfl ?_
    refine t_aj hx hb hK hB mbs tbs ai_70 (i_in (by omega) (by omega)) dX12_climbs_46 (fun x_28 ex_28 lx_28 ux_28 => ?_)
    rw [show ry 70 x_27.toNatClampNeg = (0, 99) from sbH (by have hn : x_27.toNatClampNeg = x_27.toInt.toNat := rfl; omega) (by have hn : x_27.toNatClampNeg = x_27.toInt.toNat := rfl; omega)] at lx_28 ux_28
    have cx_28 := congrArg Int32.toInt ex_28
    have h47 : x_28.toInt = x_15.toInt := by rw [ex_28, g_17, show x_27.toNatClampNeg = 18 + 5 * x_3.toInt.toNat + x_8.toInt.toNat from (by have hn : x_27.toNatClampNeg = x_27.toInt.toNat := rfl; omega)]
    refine lv_iconst (v := 1) hx hb dX12_climbs_47 (by decide) ?_
    refine lv_iadd hx hb dX12_climbs_48 ?_
    refine lv_topi (fun x_29 ex_29 => ?_)
    have vx_29 := b_add (rfl : x_28.toInt = _) (by decide : (1 : Int32).toInt = 1) ex_29 (by omega) (by omega)
    refine t_si hx hb hK hLA hB hS mbs tbs ai_70 (i_in (by omega) (by omega)) (by rw [show ry 70 x_27.toNatClampNeg = (0, 99) from sbH (by have hn : x_27.toNatClampNeg = x_27.toInt.toNat := rfl; omega) (by have hn : x_27.toNatClampNeg = x_27.toInt.toNat := rfl; omega)]; show (0 : Int) ≤ _; first | omega | decide) (by rw [show ry 70 x_27.toNatClampNeg = (0, 99) from sbH (by have hn : x_27.toNatClampNeg = x_27.toInt.toNat := rfl; omega) (by have hn : x_27.toNatClampNeg = x_27.toInt.toNat := rfl; omega)]; show _ ≤ (99 : Int); first | omega | decide) (Or.inr (by decide)) dX12_climbs_49 (fun H locs σ_30 eσ_30 hB hS => ?_)
    have k_31 : σ_30 bs x_27.toNatClampNeg = x_29 := by rw [eσ_30]; exact up2_same _ _ _ _
    refine lv_aload_n hx hb dX12_climbs_50 rfl (lv_at hl 2 rfl) ?_
    refine lv_iload_n hx hb dX12_climbs_51 rfl (lv_at hl 3 rfl) ?_
    refine lv_iconst (v := 0) hx hb dX12_climbs_52 (by decide) ?_
    refine lv_iconst (v := 1) hx hb dX12_climbs_53 (by decide) ?_
    refine t_cv (va_runV (As := [.int p1, .int 0, .int 1]) (rest := []) ⟨hx, hb, hml, hown, hts⟩ (cy_X12_adds_0p l D cA L T r hG hLA.1 σ_30 ρ_14 hB.2.1 _ h0 mh0 th0 p1 bs hbs mbs tbs (by first | omega | decide) (by first | omega | decide) (by rw [eσ_30, up2_nej _ _ (show (58 + 9 * p1.toInt.toNat : Nat) ≠ x_27.toNatClampNeg by have hn : x_27.toNatClampNeg = x_27.toInt.toNat := rfl; omega), pσ_10]; omega)) (cV hts mv_X12_adds mw_7_174 rfl rfl ⟨Nat.le_of_ble_eq_true rfl, Nat.le_of_ble_eq_true rfl⟩) (pV hB.1 hK hN mh0 th0 (show shp cA 12 _ _ _ = .inr (12, Fs12 _ _ _) from rfl) rfl) rfl rfl hl.1 rfl (lv_room (Nat.le_of_ble_eq_true rfl)) dX12_climbs_54 ⟨Nat.le_of_ble_eq_true rfl, Nat.le_of_ble_eq_true rfl⟩) hLA hA hB hS (by decide) (fun σ_32 ρ_33 H locs hB fσ_32 pσ_32 hS => ?_)
    refine lv_aload_n hx hb dX12_climbs_57 rfl (lv_at hl 2 rfl) ?_
    refine lv_iload_n hx hb dX12_climbs_58 rfl (lv_at hl 3 rfl) ?_
    refine lv_iconst (v := 2) hx hb dX12_climbs_59 (by decide) ?_
    refine lv_iconst (v := 1) hx hb dX12_climbs_60 (by decide) ?_
    refine t_cv (va_runV (As := [.int p1, .int 2, .int 1]) (rest := []) ⟨hx, hb, hml, hown, hts⟩ (cy_X12_adds_2 l D cA L T r hG hLA.1 σ_32 ρ_33 hB.2.1 _ h0 mh0 th0 p1 1 (by first | omega | decide) (by first | omega | decide)) (cV hts mv_X12_adds mw_7_174 rfl rfl ⟨Nat.le_of_ble_eq_true rfl, Nat.le_of_ble_eq_true rfl⟩) (pV hB.1 hK hN mh0 th0 (show shp cA 12 _ _ _ = .inr (12, Fs12 _ _ _) from rfl) rfl) rfl rfl hl.1 rfl (lv_room (Nat.le_of_ble_eq_true rfl)) dX12_climbs_61 ⟨Nat.le_of_ble_eq_true rfl, Nat.le_of_ble_eq_true rfl⟩) hLA hA hB hS (by decide) (fun σ_35 ρ_36 H locs hB fσ_35 pσ_35 hS => ?_)
    exact W.vret hx hb hr (fun t ht hW => ⟨⟨(σ_35, ρ_36), rfl, ⟨hB.2.1, hB.2.2, trivial⟩, (show TP D cA L T r σ_35 ρ_36 t.heap from by rw [ht]; exact hB.1)⟩, hS.F ht⟩) hS.2.2 dX12_climbs_64
theorem mw_7_168 : (.instanceMethod yX12_canClimb : Cond) ∈ wsA := wsA_t (List.mem_append_right _ (List.mem_append_right _ (List.mem_append_right _ (List.mem_append_right _ (List.mem_append_right _ (List.mem_append_right _ (List.mem_append_left _ (List.mem_of_getElem? (l := tables_1_7) (i := 168) rfl)))))))) rfl
theorem mp_7_1 : (.selects RX12 yX12_canClimb yX12_canClimb : Cond) ∈ wsA := wsA_p (q := (yX12_canClimb, 44)) (List.mem_append_right _ (List.mem_append_right _ (List.mem_append_right _ (List.mem_append_right _ (List.mem_append_right _ (List.mem_append_right _ (List.mem_append_left _ (List.mem_of_getElem? (l := lw_privs_7) (i := 1) rfl))))))))
theorem mw_7_169 : (.code yX12_canClimb cX12_canClimb 3 (some .boolean) : Cond) ∈ wsA := wsA_t (List.mem_append_right _ (List.mem_append_right _ (List.mem_append_right _ (List.mem_append_right _ (List.mem_append_right _ (List.mem_append_right _ (List.mem_append_left _ (List.mem_of_getElem? (l := tables_1_7) (i := 169) rfl)))))))) rfl
theorem mw_7_166 : (.methodLink RX12 367 yX12_canClimb : Cond) ∈ wsA := wsA_t (List.mem_append_right _ (List.mem_append_right _ (List.mem_append_right _ (List.mem_append_right _ (List.mem_append_right _ (List.mem_append_right _ (List.mem_append_left _ (List.mem_of_getElem? (l := tables_1_7) (i := 166) rfl)))))))) rfl
theorem mw_7_172 : (.instanceMethod yX12_climbs : Cond) ∈ wsA := wsA_t (List.mem_append_right _ (List.mem_append_right _ (List.mem_append_right _ (List.mem_append_right _ (List.mem_append_right _ (List.mem_append_right _ (List.mem_append_left _ (List.mem_of_getElem? (l := tables_1_7) (i := 172) rfl)))))))) rfl
theorem mp_7_2 : (.selects RX12 yX12_climbs yX12_climbs : Cond) ∈ wsA := wsA_p (q := (yX12_climbs, 44)) (List.mem_append_right _ (List.mem_append_right _ (List.mem_append_right _ (List.mem_append_right _ (List.mem_append_right _ (List.mem_append_right _ (List.mem_append_left _ (List.mem_of_getElem? (l := lw_privs_7) (i := 2) rfl))))))))
theorem mw_7_173 : (.code yX12_climbs cX12_climbs 4 none : Cond) ∈ wsA := wsA_t (List.mem_append_right _ (List.mem_append_right _ (List.mem_append_right _ (List.mem_append_right _ (List.mem_append_right _ (List.mem_append_right _ (List.mem_append_left _ (List.mem_of_getElem? (l := tables_1_7) (i := 173) rfl)))))))) rfl
theorem mw_7_170 : (.methodLink RX12 370 yX12_climbs : Cond) ∈ wsA := wsA_t (List.mem_append_right _ (List.mem_append_right _ (List.mem_append_right _ (List.mem_append_right _ (List.mem_append_right _ (List.mem_append_right _ (List.mem_append_left _ (List.mem_of_getElem? (l := tables_1_7) (i := 170) rfl)))))))) rfl
theorem dX12_climb_0 : decode cX12_climb 0 = .ok (.aload_n 0, 1) := by decide +kernel
theorem dX12_climb_1 : decode cX12_climb 1 = .ok (.iload_n 1, 1) := by decide +kernel
theorem dX12_climb_2 : decode cX12_climb 2 = .ok (.invokevirtual 319, 3) := by decide +kernel
theorem dX12_climb_5 : decode cX12_climb 5 = .ok (.ifCond .eq 11, 3) := by decide +kernel
theorem dX12_climb_16 : decode cX12_climb 16 = .ok (.iconst (-1), 1) := by decide +kernel
theorem dX12_climb_17 : decode cX12_climb 17 = .ok (.ireturn, 1) := by decide +kernel
theorem dX12_climb_8 : decode cX12_climb 8 = .ok (.aload_n 0, 1) := by decide +kernel
theorem dX12_climb_9 : decode cX12_climb 9 = .ok (.iload_n 1, 1) := by decide +kernel
theorem dX12_climb_10 : decode cX12_climb 10 = .ok (.invokevirtual 367, 3) := by decide +kernel
theorem dX12_climb_13 : decode cX12_climb 13 = .ok (.ifCond .ne 5, 3) := by decide +kernel
theorem dX12_climb_18 : decode cX12_climb 18 = .ok (.aload_n 0, 1) := by decide +kernel
theorem dX12_climb_19 : decode cX12_climb 19 = .ok (.invokevirtual 357, 3) := by decide +kernel
theorem dX12_climb_22 : decode cX12_climb 22 = .ok (.aload_n 0, 1) := by decide +kernel
theorem dX12_climb_23 : decode cX12_climb 23 = .ok (.iload_n 1, 1) := by decide +kernel
theorem dX12_climb_24 : decode cX12_climb 24 = .ok (.invokevirtual 370, 3) := by decide +kernel
theorem dX12_climb_27 : decode cX12_climb 27 = .ok (.aload_n 0, 1) := by decide +kernel
theorem dX12_climb_28 : decode cX12_climb 28 = .ok (.iload_n 1, 1) := by decide +kernel
theorem dX12_climb_29 : decode cX12_climb 29 = .ok (.iconst 0, 1) := by decide +kernel
theorem dX12_climb_30 : decode cX12_climb 30 = .ok (.invokevirtual 324, 3) := by decide +kernel
theorem dX12_climb_33 : decode cX12_climb 33 = .ok (.ireturn, 1) := by decide +kernel
theorem mv_X12_canClimb : MV RX12 yX12_canClimb cX12_canClimb 3 (some .boolean) 1 := ⟨mw_7_168, mp_7_1, mw_1_13, mw_7_169, ⟨rfl, by decide, by decide, by decide +kernel⟩⟩
theorem mv_X12_climbs : MV RX12 yX12_climbs cX12_climbs 4 none 1 := ⟨mw_7_172, mp_7_2, mw_1_13, mw_7_173, ⟨rfl, by decide, by decide, by decide +kernel⟩⟩
set_option maxHeartbeats 4000000 in
set_option maxRecDepth 100000 in
theorem cy_X12_climb (l : Launch) (D : va_G) (cA : Nat → ClassId) (L : List Nat) (T : Nat → Nat) (r : Rg) (hG : GR L T r) (hL : L.Nodup) (σ : Sg) (ρ : Lg) (hW : WT L ry T σ) (sz : Nat) (h0 : Nat) (mh0 : h0 ∈ L) (th0 : T h0 = 12) (p1 : Int32) : Met l yX12_climb (.code yX12_climb cX12_climb 2 (some .int) :: wsA) ({ frames := 3, cells := 0, slots := 0, locals := 66 }) (PR D cA L T r σ ρ sz [.ref h0, .int p1]) (QI D cA L T r ry [(12, 25), (70, 1000), (72, 1000)] σ sz (fun x σ1 => True)) 0 0 (dm L sz) := by
  refine Met.ofW (cc := cX12_climb) (maxL := 2) (ret := (some .int)) (by decide) rfl ?_
  intro p e s m args below meth c s₁ B hml hv
  obtain ⟨rfl, hsz, hP, hK, hN⟩ := hv
  have hx := B.exec
  have hb := B.bytes
  have hr := B.returns
  have hts : ∀ w ∈ wsA, w.before _ s = true := fun w h => atoms_spec (ws := .code yX12_climb cX12_climb 2 (some .int) :: wsA) B.pre w (List.mem_cons_of_mem _ h)
  have hown : s.vm.findClass RX12 = some m.cls := findClass_of_methodNamed B.named
  subst hsz
  have hLA : LA (dm L s.heap.size) L := ⟨hL, fun a h => Or.inl h⟩
  have hA : ∀ q : Nat, s.heap.size ≤ q → dm L s.heap.size q := fun q h => Or.inr h
  have hS : va_S (dm L s.heap.size) s.heap s.heap [] := va_S.rf
  have hB : TS D cA L T r ry [(12, 25), (70, 1000), (72, 1000)] σ σ ρ s.heap := ⟨hP, hW, FR.rf⟩
  have hl := lv_entry ([.ref h0, .int p1]) (n := 2) (Nat.le_of_ble_eq_true rfl)
  rw [lg_entry_eq]
  generalize (lg_sl ([.ref h0, .int p1]) ++ List.replicate (2 - (lg_sl ([.ref h0, .int p1])).length) Slot.unset).toArray = ls at hl ⊢
  have hl : lv_has ls 2 [(0, .ref h0), (1, .int p1)] := hl
  refine lv_aload_n hx hb dX12_climb_0 rfl (lv_at hl 0 rfl) ?_
  refine lv_iload_n hx hb dX12_climb_1 rfl (lv_at hl 1 rfl) ?_
  refine t_ci (va_runV (As := [.int p1]) (rest := []) ⟨hx, hb, hml, hown, hts⟩ (cy_X12_isPilgrim l D cA L T r hG hLA.1 σ ρ hB.2.1 _ h0 mh0 th0 p1) (cV hts mv_X12_isPilgrim mw_7_64 rfl rfl ⟨Nat.le_of_ble_eq_true rfl, Nat.le_of_ble_eq_true rfl⟩) (pV hB.1 hK hN mh0 th0 (show shp cA 12 _ _ _ = .inr (12, Fs12 _ _ _) from rfl) rfl) rfl rfl hl.1 rfl (lv_room (Nat.le_of_ble_eq_true rfl)) dX12_climb_2 ⟨Nat.le_of_ble_eq_true rfl, Nat.le_of_ble_eq_true rfl⟩) hLA hA hB hS (by decide) (fun x_3 σ_1 ρ_2 H locs hB fσ_1 pσ_1 hS => ?_)
  have qσ_1 := FR.nil fσ_1
  subst qσ_1
  obtain ⟨ox_3, ix_3⟩ := pσ_1
  refine lv_if_eq (tgt := 16) hx hb dX12_climb_5 (by decide) (fun c_4 => ?_) (fun c_4 => ?_)
  · skip
    have uc_4 := i_eq (n := 0) (by decide) c_4
    refine lv_iconst (v := (-1)) hx hb dX12_climb_16 (by decide) ?_
    exact W.iret (v := (-1)) hx hb hr (fun t ht hW => ⟨⟨(-1), (σ, ρ_2), rfl, ⟨hB.2.1, hB.2.2, trivial⟩, (show TP D cA L T r σ ρ_2 t.heap from by rw [ht]; exact hB.1)⟩, hS.F ht⟩) hS.2.2 dX12_climb_17
  · skip
    have uc_4 := i_ne (n := 0) (by decide) c_4
    refine lv_aload_n hx hb dX12_climb_8 rfl (lv_at hl 0 rfl) ?_
    refine lv_iload_n hx hb dX12_climb_9 rfl (lv_at hl 1 rfl) ?_
    obtain ⟨b_5, hb_5, mb_5, tb_5⟩ := hG h0 mh0 20 _ (by rw [th0]; rfl)
    refine t_ci (va_runV (As := [.int p1]) (rest := []) ⟨hx, hb, hml, hown, hts⟩ (cz_X12_canClimb l D cA L T r hG hLA.1 σ ρ_2 hB.2.1 _ h0 mh0 th0 p1 b_5 hb_5 mb_5 tb_5 (by first | omega | decide) (by first | omega | decide)) (cV hts mv_X12_canClimb mw_7_166 rfl rfl ⟨Nat.le_of_ble_eq_true rfl, Nat.le_of_ble_eq_true rfl⟩) (pV hB.1 hK hN mh0 th0 (show shp cA 12 _ _ _ = .inr (12, Fs12 _ _ _) from rfl) rfl) rfl rfl hl.1 rfl (lv_room (Nat.le_of_ble_eq_true rfl)) dX12_climb_10 ⟨Nat.le_of_ble_eq_true rfl, Nat.le_of_ble_eq_true rfl⟩) hLA hA hB hS (by decide) (fun x_8 σ_6 ρ_7 H locs hB fσ_6 pσ_6 hS => ?_)
    have qσ_6 := FR.nil fσ_6
    subst qσ_6
    obtain ⟨ox_8, ix_8⟩ := pσ_6
    refine lv_if_ne (tgt := 18) hx hb dX12_climb_13 (by decide) (fun c_9 => ?_) (fun c_9 => ?_)
    · skip
      have uc_9 := i_ne (n := 0) (by decide) c_9
      refine lv_aload_n hx hb dX12_climb_18 rfl (lv_at hl 0 rfl) ?_
      refine t_cv (va_runV (As := []) (rest := []) ⟨hx, hb, hml, hown, hts⟩ (cy_X12_keepsAct l D cA L T r hG hLA.1 σ ρ_7 hB.2.1 _ h0 mh0 th0) (cV hts mv_X12_keepsAct mw_7_127 rfl rfl ⟨Nat.le_of_ble_eq_true rfl, Nat.le_of_ble_eq_true rfl⟩) (pV hB.1 hK hN mh0 th0 (show shp cA 12 _ _ _ = .inr (12, Fs12 _ _ _) from rfl) rfl) rfl rfl hl.1 rfl (lv_room (Nat.le_of_ble_eq_true rfl)) dX12_climb_19 ⟨Nat.le_of_ble_eq_true rfl, Nat.le_of_ble_eq_true rfl⟩) hLA hA hB hS (by decide) (fun σ_10 ρ_11 H locs hB fσ_10 pσ_10 hS => ?_)
      refine lv_aload_n hx hb dX12_climb_22 rfl (lv_at hl 0 rfl) ?_
      refine lv_iload_n hx hb dX12_climb_23 rfl (lv_at hl 1 rfl) ?_
      have k_13 := FR.row fσ_10 tb_5 (fun j => by simp)
      refine t_cv (va_runV (As := [.int p1]) (rest := []) ⟨hx, hb, hml, hown, hts⟩ (cz_X12_climbs l D cA L T r hG hLA.1 σ_10 ρ_11 hB.2.1 _ h0 mh0 th0 p1 b_5 hb_5 mb_5 tb_5 (by first | omega | decide) (by first | omega | decide) (by rw [k_13]; omega)) (cV hts mv_X12_climbs mw_7_170 rfl rfl ⟨Nat.le_of_ble_eq_true rfl, Nat.le_of_ble_eq_true rfl⟩) (pV hB.1 hK hN mh0 th0 (show shp cA 12 _ _ _ = .inr (12, Fs12 _ _ _) from rfl) rfl) rfl rfl hl.1 rfl (lv_room (Nat.le_of_ble_eq_true rfl)) dX12_climb_24 ⟨Nat.le_of_ble_eq_true rfl, Nat.le_of_ble_eq_true rfl⟩) hLA hA hB hS (by decide) (fun σ_14 ρ_15 H locs hB fσ_14 pσ_14 hS => ?_)
      refine lv_aload_n hx hb dX12_climb_27 rfl (lv_at hl 0 rfl) ?_
      refine lv_iload_n hx hb dX12_climb_28 rfl (lv_at hl 1 rfl) ?_
      refine lv_iconst (v := 0) hx hb dX12_climb_29 (by decide) ?_
      refine t_ci (va_runV (As := [.int p1, .int 0]) (rest := []) ⟨hx, hb, hml, hown, hts⟩ (cy_X12_pilgrimOf_0x l D cA L T r hG hLA.1 σ_14 ρ_15 hB.2.1 _ h0 mh0 th0 p1 b_5 hb_5 mb_5 tb_5 (by first | omega | decide) (by first | omega | decide)) (cV hts mv_X12_pilgrimOf mw_7_69 rfl rfl ⟨Nat.le_of_ble_eq_true rfl, Nat.le_of_ble_eq_true rfl⟩) (pV hB.1 hK hN mh0 th0 (show shp cA 12 _ _ _ = .inr (12, Fs12 _ _ _) from rfl) rfl) rfl rfl hl.1 rfl (lv_room (Nat.le_of_ble_eq_true rfl)) dX12_climb_30 ⟨Nat.le_of_ble_eq_true rfl, Nat.le_of_ble_eq_true rfl⟩) hLA hA hB hS (by decide) (fun x_19 σ_17 ρ_18 H locs hB fσ_17 pσ_17 hS => ?_)
      have qσ_17 := FR.nil fσ_17
      subst qσ_17
      obtain ⟨g_20, g_21⟩ := pσ_17
      have dx_19 := congrArg Int32.toInt g_21
      obtain ⟨lx_19, ux_19⟩ := g_20
      exact W.iret (v := x_19) hx hb hr (fun t ht hW => ⟨⟨x_19, (σ_14, ρ_18), rfl, ⟨hB.2.1, hB.2.2, trivial⟩, (show TP D cA L T r σ_14 ρ_18 t.heap from by rw [ht]; exact hB.1)⟩, hS.F ht⟩) hS.2.2 dX12_climb_33
    · skip
      have uc_9 := i_eq (n := 0) (by decide) c_9
      refine lv_iconst (v := (-1)) hx hb dX12_climb_16 (by decide) ?_
      exact W.iret (v := (-1)) hx hb hr (fun t ht hW => ⟨⟨(-1), (σ, ρ_7), rfl, ⟨hB.2.1, hB.2.2, trivial⟩, (show TP D cA L T r σ ρ_7 t.heap from by rw [ht]; exact hB.1)⟩, hS.F ht⟩) hS.2.2 dX12_climb_17
theorem mw_8_124 : (.instanceMethod yX12_draw : Cond) ∈ wsA := wsA_t (List.mem_append_right _ (List.mem_append_right _ (List.mem_append_right _ (List.mem_append_right _ (List.mem_append_right _ (List.mem_append_right _ (List.mem_append_right _ (List.mem_of_getElem? (l := tables_1_8) (i := 124) rfl)))))))) rfl
theorem mp_8_11 : (.selects RX12 yX12_draw yX12_draw : Cond) ∈ wsA := wsA_p (q := (yX12_draw, 44)) (List.mem_append_right _ (List.mem_append_right _ (List.mem_append_right _ (List.mem_append_right _ (List.mem_append_right _ (List.mem_append_right _ (List.mem_append_right _ (List.mem_of_getElem? (l := lw_privs_8) (i := 11) rfl))))))))
theorem mw_8_125 : (.code yX12_draw cX12_draw 2 (some .int) : Cond) ∈ wsA := wsA_t (List.mem_append_right _ (List.mem_append_right _ (List.mem_append_right _ (List.mem_append_right _ (List.mem_append_right _ (List.mem_append_right _ (List.mem_append_right _ (List.mem_of_getElem? (l := tables_1_8) (i := 125) rfl)))))))) rfl
theorem mw_8_122 : (.methodLink RX12 475 yX12_draw : Cond) ∈ wsA := wsA_t (List.mem_append_right _ (List.mem_append_right _ (List.mem_append_right _ (List.mem_append_right _ (List.mem_append_right _ (List.mem_append_right _ (List.mem_append_right _ (List.mem_of_getElem? (l := tables_1_8) (i := 122) rfl)))))))) rfl
theorem dX12_climbsDrawn_0 : decode cX12_climbsDrawn 0 = .ok (.iconst 0, 1) := by decide +kernel
theorem dX12_climbsDrawn_1 : decode cX12_climbsDrawn 1 = .ok (.istore_n 1, 1) := by decide +kernel
theorem dX12_climbsDrawn_2 : decode cX12_climbsDrawn 2 = .ok (.iconst 0, 1) := by decide +kernel
theorem dX12_climbsDrawn_3 : decode cX12_climbsDrawn 3 = .ok (.istore_n 2, 1) := by decide +kernel
theorem dX12_climbsDrawn_4 : decode cX12_climbsDrawn 4 = .ok (.iload_n 2, 1) := by decide +kernel
theorem dX12_climbsDrawn_5 : decode cX12_climbsDrawn 5 = .ok (.aload_n 0, 1) := by decide +kernel
theorem dX12_climbsDrawn_6 : decode cX12_climbsDrawn 6 = .ok (.getfield 39, 3) := by decide +kernel
theorem dX12_climbsDrawn_9 : decode cX12_climbsDrawn 9 = .ok (.iconst 3, 1) := by decide +kernel
theorem dX12_climbsDrawn_10 : decode cX12_climbsDrawn 10 = .ok (.iaload, 1) := by decide +kernel
theorem dX12_climbsDrawn_11 : decode cX12_climbsDrawn 11 = .ok (.if_icmp .ge 66, 3) := by decide +kernel
theorem dX12_climbsDrawn_77 : decode cX12_climbsDrawn 77 = .ok (.iload_n 1, 1) := by decide +kernel
theorem dX12_climbsDrawn_78 : decode cX12_climbsDrawn 78 = .ok (.ireturn, 1) := by decide +kernel
theorem dX12_climbsDrawn_14 : decode cX12_climbsDrawn 14 = .ok (.aload_n 0, 1) := by decide +kernel
theorem dX12_climbsDrawn_15 : decode cX12_climbsDrawn 15 = .ok (.iconst 4, 1) := by decide +kernel
theorem dX12_climbsDrawn_16 : decode cX12_climbsDrawn 16 = .ok (.invokevirtual 475, 3) := by decide +kernel
theorem dX12_climbsDrawn_19 : decode cX12_climbsDrawn 19 = .ok (.ifCond .ne 7, 3) := by decide +kernel
theorem dX12_climbsDrawn_26 : decode cX12_climbsDrawn 26 = .ok (.iconst 0, 1) := by decide +kernel
theorem dX12_climbsDrawn_27 : decode cX12_climbsDrawn 27 = .ok (.istore_n 3, 1) := by decide +kernel
theorem dX12_climbsDrawn_28 : decode cX12_climbsDrawn 28 = .ok (.iload_n 3, 1) := by decide +kernel
theorem dX12_climbsDrawn_29 : decode cX12_climbsDrawn 29 = .ok (.ifCond .eq 19, 3) := by decide +kernel
theorem dX12_climbsDrawn_48 : decode cX12_climbsDrawn 48 = .ok (.iload_n 3, 1) := by decide +kernel
theorem dX12_climbsDrawn_49 : decode cX12_climbsDrawn 49 = .ok (.ifCond .ne 22, 3) := by decide +kernel
theorem dX12_climbsDrawn_52 : decode cX12_climbsDrawn 52 = .ok (.aload_n 0, 1) := by decide +kernel
theorem dX12_climbsDrawn_53 : decode cX12_climbsDrawn 53 = .ok (.iload_n 2, 1) := by decide +kernel
theorem dX12_climbsDrawn_54 : decode cX12_climbsDrawn 54 = .ok (.invokevirtual 367, 3) := by decide +kernel
theorem dX12_climbsDrawn_57 : decode cX12_climbsDrawn 57 = .ok (.ifCond .ne 6, 3) := by decide +kernel
theorem dX12_climbsDrawn_63 : decode cX12_climbsDrawn 63 = .ok (.aload_n 0, 1) := by decide +kernel
theorem dX12_climbsDrawn_64 : decode cX12_climbsDrawn 64 = .ok (.iload_n 2, 1) := by decide +kernel
theorem dX12_climbsDrawn_65 : decode cX12_climbsDrawn 65 = .ok (.invokevirtual 370, 3) := by decide +kernel
theorem dX12_climbsDrawn_68 : decode cX12_climbsDrawn 68 = .ok (.iinc 1 1, 3) := by decide +kernel
theorem dX12_climbsDrawn_71 : decode cX12_climbsDrawn 71 = .ok (.iinc 2 1, 3) := by decide +kernel
theorem dX12_climbsDrawn_74 : decode cX12_climbsDrawn 74 = .ok (.goto (-70), 3) := by decide +kernel
theorem dX12_climbsDrawn_60 : decode cX12_climbsDrawn 60 = .ok (.goto 11, 3) := by decide +kernel
theorem dX12_climbsDrawn_22 : decode cX12_climbsDrawn 22 = .ok (.iconst 1, 1) := by decide +kernel
theorem dX12_climbsDrawn_23 : decode cX12_climbsDrawn 23 = .ok (.goto 4, 3) := by decide +kernel
theorem dX12_climbsDrawn_32 : decode cX12_climbsDrawn 32 = .ok (.aload_n 0, 1) := by decide +kernel
theorem dX12_climbsDrawn_33 : decode cX12_climbsDrawn 33 = .ok (.iload_n 2, 1) := by decide +kernel
theorem dX12_climbsDrawn_34 : decode cX12_climbsDrawn 34 = .ok (.iconst 0, 1) := by decide +kernel
theorem dX12_climbsDrawn_35 : decode cX12_climbsDrawn 35 = .ok (.invokevirtual 324, 3) := by decide +kernel
theorem dX12_climbsDrawn_38 : decode cX12_climbsDrawn 38 = .ok (.ifCond .le 10, 3) := by decide +kernel
theorem dX12_climbsDrawn_41 : decode cX12_climbsDrawn 41 = .ok (.aload_n 0, 1) := by decide +kernel
theorem dX12_climbsDrawn_42 : decode cX12_climbsDrawn 42 = .ok (.iload_n 2, 1) := by decide +kernel
theorem dX12_climbsDrawn_43 : decode cX12_climbsDrawn 43 = .ok (.iconst 0, 1) := by decide +kernel
theorem dX12_climbsDrawn_44 : decode cX12_climbsDrawn 44 = .ok (.iconst (-1), 1) := by decide +kernel
theorem dX12_climbsDrawn_45 : decode cX12_climbsDrawn 45 = .ok (.invokevirtual 363, 3) := by decide +kernel
theorem mv_X12_draw : MV RX12 yX12_draw cX12_draw 2 (some .int) 1 := ⟨mw_8_124, mp_8_11, mw_1_13, mw_8_125, ⟨rfl, by decide, by decide, by decide +kernel⟩⟩
set_option maxHeartbeats 4000000 in
set_option maxRecDepth 100000 in
theorem cy_X12_climbsDrawn (l : Launch) (D : va_G) (cA : Nat → ClassId) (L : List Nat) (T : Nat → Nat) (r : Rg) (hG : GR L T r) (hL : L.Nodup) (σ : Sg) (ρ : Lg) (hW : WT L ry T σ) (sz : Nat) (h0 : Nat) (mh0 : h0 ∈ L) (th0 : T h0 = 12) : Met l yX12_climbsDrawn (.code yX12_climbsDrawn cX12_climbsDrawn 4 (some .int) :: wsA) ({ frames := 3, cells := 0, slots := 0, locals := 66 }) (PR D cA L T r σ ρ sz [.ref h0]) (QI D cA L T r ry [(70, 1000)] σ sz (fun x σ1 => True)) 0 0 (dm L sz) := by
  refine Met.ofW (cc := cX12_climbsDrawn) (maxL := 4) (ret := (some .int)) (by decide) rfl ?_
  intro p e s m args below meth c s₁ B hml hv
  obtain ⟨rfl, hsz, hP, hK, hN⟩ := hv
  have hx := B.exec
  have hb := B.bytes
  have hr := B.returns
  have hts : ∀ w ∈ wsA, w.before _ s = true := fun w h => atoms_spec (ws := .code yX12_climbsDrawn cX12_climbsDrawn 4 (some .int) :: wsA) B.pre w (List.mem_cons_of_mem _ h)
  have hown : s.vm.findClass RX12 = some m.cls := findClass_of_methodNamed B.named
  subst hsz
  have hLA : LA (dm L s.heap.size) L := ⟨hL, fun a h => Or.inl h⟩
  have hA : ∀ q : Nat, s.heap.size ≤ q → dm L s.heap.size q := fun q h => Or.inr h
  have hS : va_S (dm L s.heap.size) s.heap s.heap [] := va_S.rf
  have hB : TS D cA L T r ry [(70, 1000)] σ σ ρ s.heap := ⟨hP, hW, FR.rf⟩
  have hl := lv_entry ([.ref h0]) (n := 4) (Nat.le_of_ble_eq_true rfl)
  rw [lg_entry_eq]
  generalize (lg_sl ([.ref h0]) ++ List.replicate (4 - (lg_sl ([.ref h0])).length) Slot.unset).toArray = ls at hl ⊢
  have hl : lv_has ls 4 [(0, .ref h0)] := hl
  refine lv_iconst (v := 0) hx hb dX12_climbsDrawn_0 (by decide) ?_
  refine lv_istore_n (lv' := [(1, .int 0), (0, .ref h0)]) hx hb dX12_climbsDrawn_1 rfl hl (by decide) rfl (fun ls hl => ?_)
  refine lv_iconst (v := 0) hx hb dX12_climbsDrawn_2 (by decide) ?_
  refine lv_istore_n (lv' := [(2, .int 0), (1, .int 0), (0, .ref h0)]) hx hb dX12_climbsDrawn_3 rfl hl (by decide) rfl (fun ls hl => ?_)
  refine w_loop (α := Int32 × Int32 × Sg × Lg) (fun (i_1, i_2, σ_3, ρ_4) H locs ls => 0 ≤ i_2.toInt ∧ i_2.toInt ≤ 4 ∧ TS D cA L T r ry [(70, 1000)] σ σ_3 ρ_4 H ∧ va_S (dm L s.heap.size) s.heap H locs ∧ lv_has ls 4 [(2, .int i_2), (1, .int i_1), (0, .ref h0)]) (fun (i_1, i_2, σ_3, ρ_4) => (4 - i_2.toInt).toNat) ?_ ⟨0, 0, σ, ρ⟩ ⟨(by decide), (by decide), hB, hS, lv_sub hl [0, 1, 2] rfl⟩
  rintro ⟨i_1, i_2, σ_3, ρ_4⟩ H locs ls ⟨li_2, ui_2, hB, hS, hl⟩ ih_5
  refine lv_iload_n hx hb dX12_climbsDrawn_4 rfl (lv_at hl 0 rfl) ?_
  refine lv_aload_n hx hb dX12_climbsDrawn_5 rfl (lv_at hl 2 rfl) ?_
  refine t_gr hx hb hts hown hK hG hB mh0 th0 fq_12_20 rfl mw_5_236 dX12_climbsDrawn_6 (fun b_6 hb_6 mb_6 tb_6 => ?_)
  refine lv_iconst (v := 3) hx hb dX12_climbsDrawn_9 (by decide) ?_
  refine t_aj hx hb hK hB mb_6 tb_6 ai_70 (i_in (by decide) (by decide)) dX12_climbsDrawn_10 (fun x_7 ex_7 lx_7 ux_7 => ?_)
  have lx_7 : 0 ≤ x_7.toInt := lx_7
  have ux_7 : x_7.toInt ≤ 4 := ux_7
  have cx_7 := congrArg Int32.toInt ex_7
  refine lv_icmp_ge (tgt := 77) hx hb dX12_climbsDrawn_11 (by decide) (fun c_8 => ?_) (fun c_8 => ?_)
  · skip
    have uc_8 := j_le c_8
    refine lv_iload_n hx hb dX12_climbsDrawn_77 rfl (lv_at hl 1 rfl) ?_
    exact W.iret (v := i_1) hx hb hr (fun t ht hW => ⟨⟨i_1, (σ_3, ρ_4), rfl, ⟨hB.2.1, hB.2.2, trivial⟩, (show TP D cA L T r σ_3 ρ_4 t.heap from by rw [ht]; exact hB.1)⟩, hS.F ht⟩) hS.2.2 dX12_climbsDrawn_78
  · skip
    have uc_8 := j_nle c_8
    refine lv_aload_n hx hb dX12_climbsDrawn_14 rfl (lv_at hl 2 rfl) ?_
    refine lv_iconst (v := 4) hx hb dX12_climbsDrawn_15 (by decide) ?_
    refine t_ci (va_runV (As := [.int 4]) (rest := []) ⟨hx, hb, hml, hown, hts⟩ (cy_X12_draw l D cA L T r hG hLA.1 σ_3 ρ_4 hB.2.1 _ h0 mh0 th0) (cV hts mv_X12_draw mw_8_122 rfl rfl ⟨Nat.le_of_ble_eq_true rfl, Nat.le_of_ble_eq_true rfl⟩) (pV hB.1 hK hN mh0 th0 (show shp cA 12 _ _ _ = .inr (12, Fs12 _ _ _) from rfl) rfl) rfl rfl hl.1 rfl (lv_room (Nat.le_of_ble_eq_true rfl)) dX12_climbsDrawn_16 ⟨Nat.le_of_ble_eq_true rfl, Nat.le_of_ble_eq_true rfl⟩) hLA hA hB hS (by decide) (fun x_11 σ_9 ρ_10 H locs hB fσ_9 pσ_9 hS => ?_)
    have qσ_9 := FR.nil fσ_9
    subst qσ_9
    refine lv_if_ne (tgt := 26) hx hb dX12_climbsDrawn_19 (by decide) (fun c_12 => ?_) (fun c_12 => ?_)
    · skip
      have uc_12 := i_ne (n := 0) (by decide) c_12
      refine lv_iconst (v := 0) hx hb dX12_climbsDrawn_26 (by decide) ?_
      refine lv_istore_n (lv' := [(3, .int 0), (2, .int i_2), (1, .int i_1), (0, .ref h0)]) hx hb dX12_climbsDrawn_27 rfl hl (by decide) rfl (fun ls hl => ?_)
      refine lv_iload_n hx hb dX12_climbsDrawn_28 rfl (lv_at hl 0 rfl) ?_
      refine lv_if_eq (tgt := 48) hx hb dX12_climbsDrawn_29 (by decide) (fun _ => ?_) (fun c9 => absurd (by decide) c9)
      refine lv_iload_n hx hb dX12_climbsDrawn_48 rfl (lv_at hl 0 rfl) ?_
      refine lv_if_ne (tgt := 71) hx hb dX12_climbsDrawn_49 (by decide) (fun c9 => absurd (by decide) c9) (fun _ => ?_)
      refine lv_aload_n hx hb dX12_climbsDrawn_52 rfl (lv_at hl 3 rfl) ?_
      refine lv_iload_n hx hb dX12_climbsDrawn_53 rfl (lv_at hl 1 rfl) ?_
      refine t_ci (va_runV (As := [.int i_2]) (rest := []) ⟨hx, hb, hml, hown, hts⟩ (cz_X12_canClimb l D cA L T r hG hLA.1 σ_3 ρ_10 hB.2.1 _ h0 mh0 th0 i_2 b_6 hb_6 mb_6 tb_6 (by first | omega | decide) (by first | omega | decide)) (cV hts mv_X12_canClimb mw_7_166 rfl rfl ⟨Nat.le_of_ble_eq_true rfl, Nat.le_of_ble_eq_true rfl⟩) (pV hB.1 hK hN mh0 th0 (show shp cA 12 _ _ _ = .inr (12, Fs12 _ _ _) from rfl) rfl) rfl rfl hl.1 rfl (lv_room (Nat.le_of_ble_eq_true rfl)) dX12_climbsDrawn_54 ⟨Nat.le_of_ble_eq_true rfl, Nat.le_of_ble_eq_true rfl⟩) hLA hA hB hS (by decide) (fun x_15 σ_13 ρ_14 H locs hB fσ_13 pσ_13 hS => ?_)
      have qσ_13 := FR.nil fσ_13
      subst qσ_13
      obtain ⟨ox_15, ix_15⟩ := pσ_13
      refine lv_if_ne (tgt := 63) hx hb dX12_climbsDrawn_57 (by decide) (fun c_16 => ?_) (fun c_16 => ?_)
      · skip
        have uc_16 := i_ne (n := 0) (by decide) c_16
        refine lv_aload_n hx hb dX12_climbsDrawn_63 rfl (lv_at hl 3 rfl) ?_
        refine lv_iload_n hx hb dX12_climbsDrawn_64 rfl (lv_at hl 1 rfl) ?_
        refine t_cv (va_runV (As := [.int i_2]) (rest := []) ⟨hx, hb, hml, hown, hts⟩ (cz_X12_climbs l D cA L T r hG hLA.1 σ_3 ρ_14 hB.2.1 _ h0 mh0 th0 i_2 b_6 hb_6 mb_6 tb_6 (by first | omega | decide) (by first | omega | decide) (by omega)) (cV hts mv_X12_climbs mw_7_170 rfl rfl ⟨Nat.le_of_ble_eq_true rfl, Nat.le_of_ble_eq_true rfl⟩) (pV hB.1 hK hN mh0 th0 (show shp cA 12 _ _ _ = .inr (12, Fs12 _ _ _) from rfl) rfl) rfl rfl hl.1 rfl (lv_room (Nat.le_of_ble_eq_true rfl)) dX12_climbsDrawn_65 ⟨Nat.le_of_ble_eq_true rfl, Nat.le_of_ble_eq_true rfl⟩) hLA hA hB hS (by decide) (fun σ_17 ρ_18 H locs hB fσ_17 pσ_17 hS => ?_)
        obtain ⟨x_20, ex_20⟩ : ∃ y : Int32, y = i_1 + 1 := ⟨_, rfl⟩
        try have vx_20 := b_add (rfl : i_1.toInt = _) (by decide : (1 : Int32).toInt = 1) ex_20 (by omega) (by omega)
        refine lv_iinc (v := x_20) (lv' := [(1, .int x_20), (3, .int 0), (2, .int i_2), (0, .ref h0)]) hx hb dX12_climbsDrawn_68 hl (k := 2) rfl (by rw [ex_20]; rfl) (by decide) rfl (fun ls hl => ?_)
        obtain ⟨x_21, ex_21⟩ : ∃ y : Int32, y = i_2 + 1 := ⟨_, rfl⟩
        have vx_21 := b_add (rfl : i_2.toInt = _) (by decide : (1 : Int32).toInt = 1) ex_21 (by omega) (by omega)
        refine lv_iinc (v := x_21) (lv' := [(2, .int x_21), (1, .int x_20), (3, .int 0), (0, .ref h0)]) hx hb dX12_climbsDrawn_71 hl (k := 2) rfl (by rw [ex_21]; rfl) (by decide) rfl (fun ls hl => ?_)
        refine lv_goto (tgt := 4) hx hb dX12_climbsDrawn_74 (by decide) ?_
        exact ih_5 ⟨x_20, x_21, σ_17, ρ_18⟩ _ _ _ ⟨(by omega), (by omega), hB, hS, lv_sub hl [0, 1, 3] rfl⟩ (by show (4 - x_21.toInt).toNat < (4 - i_2.toInt).toNat; omega)
      · skip
        have uc_16 := i_eq (n := 0) (by decide) c_16
        refine lv_goto (tgt := 71) hx hb dX12_climbsDrawn_60 (by decide) ?_
        obtain ⟨x_22, ex_22⟩ : ∃ y : Int32, y = i_2 + 1 := ⟨_, rfl⟩
        have vx_22 := b_add (rfl : i_2.toInt = _) (by decide : (1 : Int32).toInt = 1) ex_22 (by omega) (by omega)
        refine lv_iinc (v := x_22) (lv' := [(2, .int x_22), (3, .int 0), (1, .int i_1), (0, .ref h0)]) hx hb dX12_climbsDrawn_71 hl (k := 1) rfl (by rw [ex_22]; rfl) (by decide) rfl (fun ls hl => ?_)
        refine lv_goto (tgt := 4) hx hb dX12_climbsDrawn_74 (by decide) ?_
        exact ih_5 ⟨i_1, x_22, σ_3, ρ_14⟩ _ _ _ ⟨(by omega), (by omega), hB, hS, lv_sub hl [0, 2, 3] rfl⟩ (by show (4 - x_22.toInt).toNat < (4 - i_2.toInt).toNat; omega)
    · skip
      have uc_12 := i_eq (n := 0) (by decide) c_12
      refine lv_iconst (v := 1) hx hb dX12_climbsDrawn_22 (by decide) ?_
      refine lv_goto (tgt := 27) hx hb dX12_climbsDrawn_23 (by decide) ?_
      refine lv_istore_n (lv' := [(3, .int 1), (2, .int i_2), (1, .int i_1), (0, .ref h0)]) hx hb dX12_climbsDrawn_27 rfl hl (by decide) rfl (fun ls hl => ?_)
      refine lv_iload_n hx hb dX12_climbsDrawn_28 rfl (lv_at hl 0 rfl) ?_
      refine lv_if_eq (tgt := 48) hx hb dX12_climbsDrawn_29 (by decide) (fun c9 => absurd c9 (by decide)) (fun _ => ?_)
      refine lv_aload_n hx hb dX12_climbsDrawn_32 rfl (lv_at hl 3 rfl) ?_
      refine lv_iload_n hx hb dX12_climbsDrawn_33 rfl (lv_at hl 1 rfl) ?_
      refine lv_iconst (v := 0) hx hb dX12_climbsDrawn_34 (by decide) ?_
      refine t_ci (va_runV (As := [.int i_2, .int 0]) (rest := []) ⟨hx, hb, hml, hown, hts⟩ (cy_X12_pilgrimOf_0x l D cA L T r hG hLA.1 σ_3 ρ_10 hB.2.1 _ h0 mh0 th0 i_2 b_6 hb_6 mb_6 tb_6 (by first | omega | decide) (by first | omega | decide)) (cV hts mv_X12_pilgrimOf mw_7_69 rfl rfl ⟨Nat.le_of_ble_eq_true rfl, Nat.le_of_ble_eq_true rfl⟩) (pV hB.1 hK hN mh0 th0 (show shp cA 12 _ _ _ = .inr (12, Fs12 _ _ _) from rfl) rfl) rfl rfl hl.1 rfl (lv_room (Nat.le_of_ble_eq_true rfl)) dX12_climbsDrawn_35 ⟨Nat.le_of_ble_eq_true rfl, Nat.le_of_ble_eq_true rfl⟩) hLA hA hB hS (by decide) (fun x_25 σ_23 ρ_24 H locs hB fσ_23 pσ_23 hS => ?_)
      have qσ_23 := FR.nil fσ_23
      subst qσ_23
      obtain ⟨g_26, g_27⟩ := pσ_23
      have dx_25 := congrArg Int32.toInt g_27
      obtain ⟨lx_25, ux_25⟩ := g_26
      refine lv_if_le (tgt := 48) hx hb dX12_climbsDrawn_38 (by decide) (fun c_28 => ?_) (fun c_28 => ?_)
      · skip
        have uc_28 := i_le (n := 0) (by decide) c_28
        refine lv_iload_n hx hb dX12_climbsDrawn_48 rfl (lv_at hl 0 rfl) ?_
        refine lv_if_ne (tgt := 71) hx hb dX12_climbsDrawn_49 (by decide) (fun _ => ?_) (fun c9 => absurd c9 (by decide))
        obtain ⟨x_29, ex_29⟩ : ∃ y : Int32, y = i_2 + 1 := ⟨_, rfl⟩
        have vx_29 := b_add (rfl : i_2.toInt = _) (by decide : (1 : Int32).toInt = 1) ex_29 (by omega) (by omega)
        refine lv_iinc (v := x_29) (lv' := [(2, .int x_29), (3, .int 1), (1, .int i_1), (0, .ref h0)]) hx hb dX12_climbsDrawn_71 hl (k := 1) rfl (by rw [ex_29]; rfl) (by decide) rfl (fun ls hl => ?_)
        refine lv_goto (tgt := 4) hx hb dX12_climbsDrawn_74 (by decide) ?_
        exact ih_5 ⟨i_1, x_29, σ_3, ρ_24⟩ _ _ _ ⟨(by omega), (by omega), hB, hS, lv_sub hl [0, 2, 3] rfl⟩ (by show (4 - x_29.toInt).toNat < (4 - i_2.toInt).toNat; omega)
      · skip
        have uc_28 := i_nle (n := 0) (by decide) c_28
        refine lv_aload_n hx hb dX12_climbsDrawn_41 rfl (lv_at hl 3 rfl) ?_
        refine lv_iload_n hx hb dX12_climbsDrawn_42 rfl (lv_at hl 1 rfl) ?_
        refine lv_iconst (v := 0) hx hb dX12_climbsDrawn_43 (by decide) ?_
        refine lv_iconst (v := (-1)) hx hb dX12_climbsDrawn_44 (by decide) ?_
        refine t_cv (va_runV (As := [.int i_2, .int 0, .int (-1)]) (rest := []) ⟨hx, hb, hml, hown, hts⟩ (cy_X12_adds_0m l D cA L T r hG hLA.1 σ_3 ρ_24 hB.2.1 _ h0 mh0 th0 i_2 b_6 hb_6 mb_6 tb_6 (by first | omega | decide) (by first | omega | decide) (by omega)) (cV hts mv_X12_adds mw_7_174 rfl rfl ⟨Nat.le_of_ble_eq_true rfl, Nat.le_of_ble_eq_true rfl⟩) (pV hB.1 hK hN mh0 th0 (show shp cA 12 _ _ _ = .inr (12, Fs12 _ _ _) from rfl) rfl) rfl rfl hl.1 rfl (lv_room (Nat.le_of_ble_eq_true rfl)) dX12_climbsDrawn_45 ⟨Nat.le_of_ble_eq_true rfl, Nat.le_of_ble_eq_true rfl⟩) hLA hA hB hS (by decide) (fun σ_30 ρ_31 H locs hB fσ_30 pσ_30 hS => ?_)
        refine lv_iload_n hx hb dX12_climbsDrawn_48 rfl (lv_at hl 0 rfl) ?_
        refine lv_if_ne (tgt := 71) hx hb dX12_climbsDrawn_49 (by decide) (fun _ => ?_) (fun c9 => absurd c9 (by decide))
        obtain ⟨x_33, ex_33⟩ : ∃ y : Int32, y = i_2 + 1 := ⟨_, rfl⟩
        have vx_33 := b_add (rfl : i_2.toInt = _) (by decide : (1 : Int32).toInt = 1) ex_33 (by omega) (by omega)
        refine lv_iinc (v := x_33) (lv' := [(2, .int x_33), (3, .int 1), (1, .int i_1), (0, .ref h0)]) hx hb dX12_climbsDrawn_71 hl (k := 1) rfl (by rw [ex_33]; rfl) (by decide) rfl (fun ls hl => ?_)
        refine lv_goto (tgt := 4) hx hb dX12_climbsDrawn_74 (by decide) ?_
        exact ih_5 ⟨i_1, x_33, σ_30, ρ_31⟩ _ _ _ ⟨(by omega), (by omega), hB, hS, lv_sub hl [0, 2, 3] rfl⟩ (by show (4 - x_33.toInt).toNat < (4 - i_2.toInt).toNat; omega)
theorem dX12_take_0 : decode cX12_take 0 = .ok (.aload_n 0, 1) := by decide +kernel
theorem dX12_take_1 : decode cX12_take 1 = .ok (.iload_n 1, 1) := by decide +kernel
theorem dX12_take_2 : decode cX12_take 2 = .ok (.invokevirtual 319, 3) := by decide +kernel
theorem dX12_take_5 : decode cX12_take 5 = .ok (.ifCond .eq 20, 3) := by decide +kernel
theorem dX12_take_25 : decode cX12_take 25 = .ok (.iconst (-1), 1) := by decide +kernel
theorem dX12_take_26 : decode cX12_take 26 = .ok (.ireturn, 1) := by decide +kernel
theorem dX12_take_8 : decode cX12_take 8 = .ok (.aload_n 0, 1) := by decide +kernel
theorem dX12_take_9 : decode cX12_take 9 = .ok (.iload_n 2, 1) := by decide +kernel
theorem dX12_take_10 : decode cX12_take 10 = .ok (.invokevirtual 335, 3) := by decide +kernel
theorem dX12_take_13 : decode cX12_take 13 = .ok (.ifCond .eq 12, 3) := by decide +kernel
theorem dX12_take_16 : decode cX12_take 16 = .ok (.aload_n 0, 1) := by decide +kernel
theorem dX12_take_17 : decode cX12_take 17 = .ok (.iload_n 1, 1) := by decide +kernel
theorem dX12_take_18 : decode cX12_take 18 = .ok (.iconst 0, 1) := by decide +kernel
theorem dX12_take_19 : decode cX12_take 19 = .ok (.invokevirtual 324, 3) := by decide +kernel
theorem dX12_take_22 : decode cX12_take 22 = .ok (.ifCond .ne 5, 3) := by decide +kernel
theorem dX12_take_27 : decode cX12_take 27 = .ok (.aload_n 0, 1) := by decide +kernel
theorem dX12_take_28 : decode cX12_take 28 = .ok (.iload_n 1, 1) := by decide +kernel
theorem dX12_take_29 : decode cX12_take 29 = .ok (.iconst 0, 1) := by decide +kernel
theorem dX12_take_30 : decode cX12_take 30 = .ok (.invokevirtual 324, 3) := by decide +kernel
theorem dX12_take_33 : decode cX12_take 33 = .ok (.iconst 1, 1) := by decide +kernel
theorem dX12_take_34 : decode cX12_take 34 = .ok (.isub, 1) := by decide +kernel
theorem dX12_take_35 : decode cX12_take 35 = .ok (.istore_n 3, 1) := by decide +kernel
theorem dX12_take_36 : decode cX12_take 36 = .ok (.aload_n 0, 1) := by decide +kernel
theorem dX12_take_37 : decode cX12_take 37 = .ok (.iload_n 3, 1) := by decide +kernel
theorem dX12_take_38 : decode cX12_take 38 = .ok (.iload_n 2, 1) := by decide +kernel
theorem dX12_take_39 : decode cX12_take 39 = .ok (.invokevirtual 313, 3) := by decide +kernel
theorem dX12_take_42 : decode cX12_take 42 = .ok (.ifCond .eq 27, 3) := by decide +kernel
theorem dX12_take_69 : decode cX12_take 69 = .ok (.iconst (-1), 1) := by decide +kernel
theorem dX12_take_70 : decode cX12_take 70 = .ok (.ireturn, 1) := by decide +kernel
theorem dX12_take_45 : decode cX12_take 45 = .ok (.aload_n 0, 1) := by decide +kernel
theorem dX12_take_46 : decode cX12_take 46 = .ok (.iload_n 1, 1) := by decide +kernel
theorem dX12_take_47 : decode cX12_take 47 = .ok (.iconst 2, 1) := by decide +kernel
theorem dX12_take_48 : decode cX12_take 48 = .ok (.invokevirtual 324, 3) := by decide +kernel
theorem dX12_take_51 : decode cX12_take 51 = .ok (.aload_n 0, 1) := by decide +kernel
theorem dX12_take_52 : decode cX12_take 52 = .ok (.iload_n 1, 1) := by decide +kernel
theorem dX12_take_53 : decode cX12_take 53 = .ok (.iconst 3, 1) := by decide +kernel
theorem dX12_take_54 : decode cX12_take 54 = .ok (.invokevirtual 324, 3) := by decide +kernel
theorem dX12_take_57 : decode cX12_take 57 = .ok (.if_icmp .le 12, 3) := by decide +kernel
theorem dX12_take_60 : decode cX12_take 60 = .ok (.aload_n 0, 1) := by decide +kernel
theorem dX12_take_61 : decode cX12_take 61 = .ok (.iload_n 1, 1) := by decide +kernel
theorem dX12_take_62 : decode cX12_take 62 = .ok (.iload_n 2, 1) := by decide +kernel
theorem dX12_take_63 : decode cX12_take 63 = .ok (.invokevirtual 373, 3) := by decide +kernel
theorem dX12_take_66 : decode cX12_take 66 = .ok (.ifCond .ne 5, 3) := by decide +kernel
theorem dX12_take_71 : decode cX12_take 71 = .ok (.aload_n 0, 1) := by decide +kernel
theorem dX12_take_72 : decode cX12_take 72 = .ok (.invokevirtual 357, 3) := by decide +kernel
theorem dX12_take_75 : decode cX12_take 75 = .ok (.aload_n 0, 1) := by decide +kernel
theorem dX12_take_76 : decode cX12_take 76 = .ok (.getfield 39, 3) := by decide +kernel
theorem dX12_take_79 : decode cX12_take 79 = .ok (.bipush 18, 2) := by decide +kernel
theorem dX12_take_81 : decode cX12_take 81 = .ok (.iconst 5, 1) := by decide +kernel
theorem dX12_take_82 : decode cX12_take 82 = .ok (.iload_n 3, 1) := by decide +kernel
theorem dX12_take_83 : decode cX12_take 83 = .ok (.imul, 1) := by decide +kernel
theorem dX12_take_84 : decode cX12_take 84 = .ok (.iadd, 1) := by decide +kernel
theorem dX12_take_85 : decode cX12_take 85 = .ok (.iload_n 2, 1) := by decide +kernel
theorem dX12_take_86 : decode cX12_take 86 = .ok (.iadd, 1) := by decide +kernel
theorem dX12_take_87 : decode cX12_take 87 = .ok (.dup2, 1) := by decide +kernel
theorem dX12_take_88 : decode cX12_take 88 = .ok (.iaload, 1) := by decide +kernel
theorem dX12_take_89 : decode cX12_take 89 = .ok (.iconst 1, 1) := by decide +kernel
theorem dX12_take_90 : decode cX12_take 90 = .ok (.isub, 1) := by decide +kernel
theorem dX12_take_91 : decode cX12_take 91 = .ok (.iastore, 1) := by decide +kernel
theorem dX12_take_92 : decode cX12_take 92 = .ok (.aload_n 0, 1) := by decide +kernel
theorem dX12_take_93 : decode cX12_take 93 = .ok (.iload_n 1, 1) := by decide +kernel
theorem dX12_take_94 : decode cX12_take 94 = .ok (.iconst 3, 1) := by decide +kernel
theorem dX12_take_95 : decode cX12_take 95 = .ok (.iconst 1, 1) := by decide +kernel
theorem dX12_take_96 : decode cX12_take 96 = .ok (.invokevirtual 363, 3) := by decide +kernel
theorem dX12_take_99 : decode cX12_take 99 = .ok (.aload_n 0, 1) := by decide +kernel
theorem dX12_take_100 : decode cX12_take 100 = .ok (.iload_n 1, 1) := by decide +kernel
theorem dX12_take_101 : decode cX12_take 101 = .ok (.iconst 4, 1) := by decide +kernel
theorem dX12_take_102 : decode cX12_take 102 = .ok (.iload_n 2, 1) := by decide +kernel
theorem dX12_take_103 : decode cX12_take 103 = .ok (.iadd, 1) := by decide +kernel
theorem dX12_take_104 : decode cX12_take 104 = .ok (.iconst 1, 1) := by decide +kernel
theorem dX12_take_105 : decode cX12_take 105 = .ok (.invokevirtual 363, 3) := by decide +kernel
theorem dX12_take_108 : decode cX12_take 108 = .ok (.aload_n 0, 1) := by decide +kernel
theorem dX12_take_109 : decode cX12_take 109 = .ok (.iload_n 1, 1) := by decide +kernel
theorem dX12_take_110 : decode cX12_take 110 = .ok (.iload_n 2, 1) := by decide +kernel
theorem dX12_take_111 : decode cX12_take 111 = .ok (.invokevirtual 304, 3) := by decide +kernel
theorem dX12_take_114 : decode cX12_take 114 = .ok (.ireturn, 1) := by decide +kernel
set_option maxHeartbeats 4000000 in
set_option maxRecDepth 100000 in
theorem cy_X12_take (l : Launch) (D : va_G) (cA : Nat → ClassId) (L : List Nat) (T : Nat → Nat) (r : Rg) (hG : GR L T r) (hL : L.Nodup) (σ : Sg) (ρ : Lg) (hW : WT L ry T σ) (sz : Nat) (h0 : Nat) (mh0 : h0 ∈ L) (th0 : T h0 = 12) (p1 : Int32) (p2 : Int32) (bs : Nat) (hbs : r h0 20 = some bs) (mbs : bs ∈ L) (tbs : T bs = 70) : Met l yX12_take (.code yX12_take cX12_take 4 (some .int) :: wsA) ({ frames := 3, cells := 0, slots := 0, locals := 67 }) (PR D cA L T r σ ρ sz [.ref h0, .int p1, .int p2]) (QI D cA L T r ry [(12, 25), (70, 1000), (72, 1000)] σ sz (fun x σ1 => True)) 0 0 (dm L sz) := by
  refine Met.ofW (cc := cX12_take) (maxL := 4) (ret := (some .int)) (by decide) rfl ?_
  intro p e s m args below meth c s₁ B hml hv
  obtain ⟨rfl, hsz, hP, hK, hN⟩ := hv
  have hx := B.exec
  have hb := B.bytes
  have hr := B.returns
  have hts : ∀ w ∈ wsA, w.before _ s = true := fun w h => atoms_spec (ws := .code yX12_take cX12_take 4 (some .int) :: wsA) B.pre w (List.mem_cons_of_mem _ h)
  have hown : s.vm.findClass RX12 = some m.cls := findClass_of_methodNamed B.named
  subst hsz
  have hLA : LA (dm L s.heap.size) L := ⟨hL, fun a h => Or.inl h⟩
  have hA : ∀ q : Nat, s.heap.size ≤ q → dm L s.heap.size q := fun q h => Or.inr h
  have hS : va_S (dm L s.heap.size) s.heap s.heap [] := va_S.rf
  have hB : TS D cA L T r ry [(12, 25), (70, 1000), (72, 1000)] σ σ ρ s.heap := ⟨hP, hW, FR.rf⟩
  have hl := lv_entry ([.ref h0, .int p1, .int p2]) (n := 4) (Nat.le_of_ble_eq_true rfl)
  rw [lg_entry_eq]
  generalize (lg_sl ([.ref h0, .int p1, .int p2]) ++ List.replicate (4 - (lg_sl ([.ref h0, .int p1, .int p2])).length) Slot.unset).toArray = ls at hl ⊢
  have hl : lv_has ls 4 [(0, .ref h0), (1, .int p1), (2, .int p2)] := hl
  refine lv_aload_n hx hb dX12_take_0 rfl (lv_at hl 0 rfl) ?_
  refine lv_iload_n hx hb dX12_take_1 rfl (lv_at hl 1 rfl) ?_
  refine t_ci (va_runV (As := [.int p1]) (rest := []) ⟨hx, hb, hml, hown, hts⟩ (cy_X12_isPilgrim l D cA L T r hG hLA.1 σ ρ hB.2.1 _ h0 mh0 th0 p1) (cV hts mv_X12_isPilgrim mw_7_64 rfl rfl ⟨Nat.le_of_ble_eq_true rfl, Nat.le_of_ble_eq_true rfl⟩) (pV hB.1 hK hN mh0 th0 (show shp cA 12 _ _ _ = .inr (12, Fs12 _ _ _) from rfl) rfl) rfl rfl hl.1 rfl (lv_room (Nat.le_of_ble_eq_true rfl)) dX12_take_2 ⟨Nat.le_of_ble_eq_true rfl, Nat.le_of_ble_eq_true rfl⟩) hLA hA hB hS (by decide) (fun x_3 σ_1 ρ_2 H locs hB fσ_1 pσ_1 hS => ?_)
  have qσ_1 := FR.nil fσ_1
  subst qσ_1
  obtain ⟨ox_3, ix_3⟩ := pσ_1
  refine lv_if_eq (tgt := 25) hx hb dX12_take_5 (by decide) (fun c_4 => ?_) (fun c_4 => ?_)
  · skip
    have uc_4 := i_eq (n := 0) (by decide) c_4
    refine lv_iconst (v := (-1)) hx hb dX12_take_25 (by decide) ?_
    exact W.iret (v := (-1)) hx hb hr (fun t ht hW => ⟨⟨(-1), (σ, ρ_2), rfl, ⟨hB.2.1, hB.2.2, trivial⟩, (show TP D cA L T r σ ρ_2 t.heap from by rw [ht]; exact hB.1)⟩, hS.F ht⟩) hS.2.2 dX12_take_26
  · skip
    have uc_4 := i_ne (n := 0) (by decide) c_4
    refine lv_aload_n hx hb dX12_take_8 rfl (lv_at hl 0 rfl) ?_
    refine lv_iload_n hx hb dX12_take_9 rfl (lv_at hl 2 rfl) ?_
    refine t_ci (va_runV (As := [.int p2]) (rest := []) ⟨hx, hb, hml, hown, hts⟩ (cy_X12_isSort l D cA L T r hG hLA.1 σ ρ_2 hB.2.1 _ h0 mh0 th0 p2) (cV hts mv_X12_isSort mw_7_110 rfl rfl ⟨Nat.le_of_ble_eq_true rfl, Nat.le_of_ble_eq_true rfl⟩) (pV hB.1 hK hN mh0 th0 (show shp cA 12 _ _ _ = .inr (12, Fs12 _ _ _) from rfl) rfl) rfl rfl hl.1 rfl (lv_room (Nat.le_of_ble_eq_true rfl)) dX12_take_10 ⟨Nat.le_of_ble_eq_true rfl, Nat.le_of_ble_eq_true rfl⟩) hLA hA hB hS (by decide) (fun x_7 σ_5 ρ_6 H locs hB fσ_5 pσ_5 hS => ?_)
    have qσ_5 := FR.nil fσ_5
    subst qσ_5
    obtain ⟨ox_7, ix_7⟩ := pσ_5
    refine lv_if_eq (tgt := 25) hx hb dX12_take_13 (by decide) (fun c_8 => ?_) (fun c_8 => ?_)
    · skip
      have uc_8 := i_eq (n := 0) (by decide) c_8
      refine lv_iconst (v := (-1)) hx hb dX12_take_25 (by decide) ?_
      exact W.iret (v := (-1)) hx hb hr (fun t ht hW => ⟨⟨(-1), (σ, ρ_6), rfl, ⟨hB.2.1, hB.2.2, trivial⟩, (show TP D cA L T r σ ρ_6 t.heap from by rw [ht]; exact hB.1)⟩, hS.F ht⟩) hS.2.2 dX12_take_26
    · skip
      have uc_8 := i_ne (n := 0) (by decide) c_8
      refine lv_aload_n hx hb dX12_take_16 rfl (lv_at hl 0 rfl) ?_
      refine lv_iload_n hx hb dX12_take_17 rfl (lv_at hl 1 rfl) ?_
      refine lv_iconst (v := 0) hx hb dX12_take_18 (by decide) ?_
      refine t_ci (va_runV (As := [.int p1, .int 0]) (rest := []) ⟨hx, hb, hml, hown, hts⟩ (cy_X12_pilgrimOf_0x l D cA L T r hG hLA.1 σ ρ_6 hB.2.1 _ h0 mh0 th0 p1 bs hbs mbs tbs (by first | omega | decide) (by first | omega | decide)) (cV hts mv_X12_pilgrimOf mw_7_69 rfl rfl ⟨Nat.le_of_ble_eq_true rfl, Nat.le_of_ble_eq_true rfl⟩) (pV hB.1 hK hN mh0 th0 (show shp cA 12 _ _ _ = .inr (12, Fs12 _ _ _) from rfl) rfl) rfl rfl hl.1 rfl (lv_room (Nat.le_of_ble_eq_true rfl)) dX12_take_19 ⟨Nat.le_of_ble_eq_true rfl, Nat.le_of_ble_eq_true rfl⟩) hLA hA hB hS (by decide) (fun x_11 σ_9 ρ_10 H locs hB fσ_9 pσ_9 hS => ?_)
      have qσ_9 := FR.nil fσ_9
      subst qσ_9
      obtain ⟨g_12, g_13⟩ := pσ_9
      have dx_11 := congrArg Int32.toInt g_13
      obtain ⟨lx_11, ux_11⟩ := g_12
      refine lv_if_ne (tgt := 27) hx hb dX12_take_22 (by decide) (fun c_14 => ?_) (fun c_14 => ?_)
      · skip
        have uc_14 := i_ne (n := 0) (by decide) c_14
        refine lv_aload_n hx hb dX12_take_27 rfl (lv_at hl 0 rfl) ?_
        refine lv_iload_n hx hb dX12_take_28 rfl (lv_at hl 1 rfl) ?_
        refine lv_iconst (v := 0) hx hb dX12_take_29 (by decide) ?_
        refine t_ci (va_runV (As := [.int p1, .int 0]) (rest := []) ⟨hx, hb, hml, hown, hts⟩ (cy_X12_pilgrimOf_0x l D cA L T r hG hLA.1 σ ρ_10 hB.2.1 _ h0 mh0 th0 p1 bs hbs mbs tbs (by first | omega | decide) (by first | omega | decide)) (cV hts mv_X12_pilgrimOf mw_7_69 rfl rfl ⟨Nat.le_of_ble_eq_true rfl, Nat.le_of_ble_eq_true rfl⟩) (pV hB.1 hK hN mh0 th0 (show shp cA 12 _ _ _ = .inr (12, Fs12 _ _ _) from rfl) rfl) rfl rfl hl.1 rfl (lv_room (Nat.le_of_ble_eq_true rfl)) dX12_take_30 ⟨Nat.le_of_ble_eq_true rfl, Nat.le_of_ble_eq_true rfl⟩) hLA hA hB hS (by decide) (fun x_17 σ_15 ρ_16 H locs hB fσ_15 pσ_15 hS => ?_)
        have qσ_15 := FR.nil fσ_15
        subst qσ_15
        obtain ⟨g_18, g_19⟩ := pσ_15
        have dx_17 := congrArg Int32.toInt g_19
        obtain ⟨lx_17, ux_17⟩ := g_18
        refine lv_iconst (v := 1) hx hb dX12_take_33 (by decide) ?_
        refine lv_isub hx hb dX12_take_34 ?_
        refine lv_topi (fun x_20 ex_20 => ?_)
        have vx_20 := b_sub (rfl : x_17.toInt = _) (by decide : (1 : Int32).toInt = 1) ex_20 (by omega) (by omega)
        refine lv_istore_n (lv' := [(3, .int x_20), (0, .ref h0), (1, .int p1), (2, .int p2)]) hx hb dX12_take_35 rfl hl (by decide) rfl (fun ls hl => ?_)
        have b0 : 0 ≤ x_20.toInt := by omega
        refine lv_aload_n hx hb dX12_take_36 rfl (lv_at hl 1 rfl) ?_
        refine lv_iload_n hx hb dX12_take_37 rfl (lv_at hl 0 rfl) ?_
        refine lv_iload_n hx hb dX12_take_38 rfl (lv_at hl 3 rfl) ?_
        refine t_ci (va_runV (As := [.int x_20, .int p2]) (rest := []) ⟨hx, hb, hml, hown, hts⟩ (cz_X12_heapOf l D cA L T r hG hLA.1 σ ρ_16 hB.2.1 _ h0 mh0 th0 x_20 p2 bs hbs mbs tbs (by first | omega | decide) (by first | omega | decide) (by first | omega | decide) (by first | omega | decide)) (cV hts mv_X12_heapOf mw_7_102 rfl rfl ⟨Nat.le_of_ble_eq_true rfl, Nat.le_of_ble_eq_true rfl⟩) (pV hB.1 hK hN mh0 th0 (show shp cA 12 _ _ _ = .inr (12, Fs12 _ _ _) from rfl) rfl) rfl rfl hl.1 rfl (lv_room (Nat.le_of_ble_eq_true rfl)) dX12_take_39 ⟨Nat.le_of_ble_eq_true rfl, Nat.le_of_ble_eq_true rfl⟩) hLA hA hB hS (by decide) (fun x_23 σ_21 ρ_22 H locs hB fσ_21 pσ_21 hS => ?_)
        have qσ_21 := FR.nil fσ_21
        subst qσ_21
        obtain ⟨g_24, g_25⟩ := pσ_21
        obtain ⟨lx_23, ux_23⟩ := g_24
        refine lv_if_eq (tgt := 69) hx hb dX12_take_42 (by decide) (fun c_26 => ?_) (fun c_26 => ?_)
        · skip
          have uc_26 := i_eq (n := 0) (by decide) c_26
          refine lv_iconst (v := (-1)) hx hb dX12_take_69 (by decide) ?_
          exact W.iret (v := (-1)) hx hb hr (fun t ht hW => ⟨⟨(-1), (σ, ρ_22), rfl, ⟨hB.2.1, hB.2.2, trivial⟩, (show TP D cA L T r σ ρ_22 t.heap from by rw [ht]; exact hB.1)⟩, hS.F ht⟩) hS.2.2 dX12_take_70
        · skip
          have uc_26 := i_ne (n := 0) (by decide) c_26
          refine lv_aload_n hx hb dX12_take_45 rfl (lv_at hl 1 rfl) ?_
          refine lv_iload_n hx hb dX12_take_46 rfl (lv_at hl 2 rfl) ?_
          refine lv_iconst (v := 2) hx hb dX12_take_47 (by decide) ?_
          refine t_ci (va_runV (As := [.int p1, .int 2]) (rest := []) ⟨hx, hb, hml, hown, hts⟩ (cy_X12_pilgrimOf l D cA L T r hG hLA.1 σ ρ_22 hB.2.1 _ h0 mh0 th0 p1 2 (by first | omega | decide) (by first | omega | decide) (by first | omega | decide) (by first | omega | decide)) (cV hts mv_X12_pilgrimOf mw_7_69 rfl rfl ⟨Nat.le_of_ble_eq_true rfl, Nat.le_of_ble_eq_true rfl⟩) (pV hB.1 hK hN mh0 th0 (show shp cA 12 _ _ _ = .inr (12, Fs12 _ _ _) from rfl) rfl) rfl rfl hl.1 rfl (lv_room (Nat.le_of_ble_eq_true rfl)) dX12_take_48 ⟨Nat.le_of_ble_eq_true rfl, Nat.le_of_ble_eq_true rfl⟩) hLA hA hB hS (by decide) (fun x_29 σ_27 ρ_28 H locs hB fσ_27 pσ_27 hS => ?_)
          have qσ_27 := FR.nil fσ_27
          subst qσ_27
          refine lv_aload_n hx hb dX12_take_51 rfl (lv_at hl 1 rfl) ?_
          refine lv_iload_n hx hb dX12_take_52 rfl (lv_at hl 2 rfl) ?_
          refine lv_iconst (v := 3) hx hb dX12_take_53 (by decide) ?_
          refine t_ci (va_runV (As := [.int p1, .int 3]) (rest := [.int x_29]) ⟨hx, hb, hml, hown, hts⟩ (cy_X12_pilgrimOf l D cA L T r hG hLA.1 σ ρ_28 hB.2.1 _ h0 mh0 th0 p1 3 (by first | omega | decide) (by first | omega | decide) (by first | omega | decide) (by first | omega | decide)) (cV hts mv_X12_pilgrimOf mw_7_69 rfl rfl ⟨Nat.le_of_ble_eq_true rfl, Nat.le_of_ble_eq_true rfl⟩) (pV hB.1 hK hN mh0 th0 (show shp cA 12 _ _ _ = .inr (12, Fs12 _ _ _) from rfl) rfl) rfl rfl hl.1 rfl (lv_room (Nat.le_of_ble_eq_true rfl)) dX12_take_54 ⟨Nat.le_of_ble_eq_true rfl, Nat.le_of_ble_eq_true rfl⟩) hLA hA hB hS (by decide) (fun x_32 σ_30 ρ_31 H locs hB fσ_30 pσ_30 hS => ?_)
          have qσ_30 := FR.nil fσ_30
          subst qσ_30
          refine lv_icmp_le (tgt := 69) hx hb dX12_take_57 (by decide) (fun c_33 => ?_) (fun c_33 => ?_)
          · skip
            have uc_33 := j_le c_33
            refine lv_iconst (v := (-1)) hx hb dX12_take_69 (by decide) ?_
            exact W.iret (v := (-1)) hx hb hr (fun t ht hW => ⟨⟨(-1), (σ, ρ_31), rfl, ⟨hB.2.1, hB.2.2, trivial⟩, (show TP D cA L T r σ ρ_31 t.heap from by rw [ht]; exact hB.1)⟩, hS.F ht⟩) hS.2.2 dX12_take_70
          · skip
            have uc_33 := j_nle c_33
            refine lv_aload_n hx hb dX12_take_60 rfl (lv_at hl 1 rfl) ?_
            refine lv_iload_n hx hb dX12_take_61 rfl (lv_at hl 2 rfl) ?_
            refine lv_iload_n hx hb dX12_take_62 rfl (lv_at hl 3 rfl) ?_
            refine t_ci (va_runV (As := [.int p1, .int p2]) (rest := []) ⟨hx, hb, hml, hown, hts⟩ (cy_X12_canCarry l D cA L T r hG hLA.1 σ ρ_31 hB.2.1 _ h0 mh0 th0 p1 p2 (by first | omega | decide) (by first | omega | decide) (by first | omega | decide) (by first | omega | decide)) (cV hts mv_X12_canCarry mw_7_186 rfl rfl ⟨Nat.le_of_ble_eq_true rfl, Nat.le_of_ble_eq_true rfl⟩) (pV hB.1 hK hN mh0 th0 (show shp cA 12 _ _ _ = .inr (12, Fs12 _ _ _) from rfl) rfl) rfl rfl hl.1 rfl (lv_room (Nat.le_of_ble_eq_true rfl)) dX12_take_63 ⟨Nat.le_of_ble_eq_true rfl, Nat.le_of_ble_eq_true rfl⟩) hLA hA hB hS (by decide) (fun x_36 σ_34 ρ_35 H locs hB fσ_34 pσ_34 hS => ?_)
            have qσ_34 := FR.nil fσ_34
            subst qσ_34
            obtain ⟨lx_36, ux_36⟩ := pσ_34
            refine lv_if_ne (tgt := 71) hx hb dX12_take_66 (by decide) (fun c_37 => ?_) (fun c_37 => ?_)
            · skip
              have uc_37 := i_ne (n := 0) (by decide) c_37
              refine lv_aload_n hx hb dX12_take_71 rfl (lv_at hl 1 rfl) ?_
              refine t_cv (va_runV (As := []) (rest := []) ⟨hx, hb, hml, hown, hts⟩ (cy_X12_keepsAct l D cA L T r hG hLA.1 σ ρ_35 hB.2.1 _ h0 mh0 th0) (cV hts mv_X12_keepsAct mw_7_127 rfl rfl ⟨Nat.le_of_ble_eq_true rfl, Nat.le_of_ble_eq_true rfl⟩) (pV hB.1 hK hN mh0 th0 (show shp cA 12 _ _ _ = .inr (12, Fs12 _ _ _) from rfl) rfl) rfl rfl hl.1 rfl (lv_room (Nat.le_of_ble_eq_true rfl)) dX12_take_72 ⟨Nat.le_of_ble_eq_true rfl, Nat.le_of_ble_eq_true rfl⟩) hLA hA hB hS (by decide) (fun σ_38 ρ_39 H locs hB fσ_38 pσ_38 hS => ?_)
              refine lv_aload_n hx hb dX12_take_75 rfl (lv_at hl 1 rfl) ?_
              refine t_gk hx hb hts hown hK hB mh0 th0 fq_12_20 hbs mw_5_236 dX12_take_76 ?_
              refine lv_bipush (v := 18) hx hb dX12_take_79 (by decide) ?_
              refine lv_iconst (v := 5) hx hb dX12_take_81 (by decide) ?_
              refine lv_iload_n hx hb dX12_take_82 rfl (lv_at hl 0 rfl) ?_
              refine lv_imul hx hb dX12_take_83 ?_
              refine lv_topi (fun x_41 ex_41 => ?_)
              have vx_41 := b_mul (by decide : (5 : Int32).toInt = 5) (rfl : x_20.toInt = _) ex_41 (by omega) (by omega)
              refine lv_iadd hx hb dX12_take_84 ?_
              refine lv_topi (fun x_42 ex_42 => ?_)
              have vx_42 := b_add (by decide : (18 : Int32).toInt = 18) (rfl : x_41.toInt = _) ex_42 (by omega) (by omega)
              refine lv_iload_n hx hb dX12_take_85 rfl (lv_at hl 3 rfl) ?_
              refine lv_iadd hx hb dX12_take_86 ?_
              refine lv_topi (fun x_43 ex_43 => ?_)
              have vx_43 := b_add (rfl : x_42.toInt = _) (rfl : p2.toInt = _) ex_43 (by omega) (by omega)
              refine lv_dup2_11 hx hb dX12_take_87 rfl rfl ?_
              refine t_aj hx hb hK hB mbs tbs ai_70 (i_in (by omega) (by omega)) dX12_take_88 (fun x_44 ex_44 lx_44 ux_44 => ?_)
              rw [show ry 70 x_43.toNatClampNeg = (0, 99) from sbH (by have hn : x_43.toNatClampNeg = x_43.toInt.toNat := rfl; omega) (by have hn : x_43.toNatClampNeg = x_43.toInt.toNat := rfl; omega)] at lx_44 ux_44
              have cx_44 := congrArg Int32.toInt ex_44
              have k_45 := FR.row fσ_38 tbs (fun j => by simp)
              have h89 : x_44.toInt = x_23.toInt := by rw [ex_44, k_45, g_25, show x_43.toNatClampNeg = 18 + 5 * x_20.toInt.toNat + p2.toInt.toNat from (by have hn : x_43.toNatClampNeg = x_43.toInt.toNat := rfl; omega)]
              refine lv_iconst (v := 1) hx hb dX12_take_89 (by decide) ?_
              refine lv_isub hx hb dX12_take_90 ?_
              refine lv_topi (fun x_46 ex_46 => ?_)
              have vx_46 := b_sub (rfl : x_44.toInt = _) (by decide : (1 : Int32).toInt = 1) ex_46 (by omega) (by omega)
              refine t_si hx hb hK hLA hB hS mbs tbs ai_70 (i_in (by omega) (by omega)) (by rw [show ry 70 x_43.toNatClampNeg = (0, 99) from sbH (by have hn : x_43.toNatClampNeg = x_43.toInt.toNat := rfl; omega) (by have hn : x_43.toNatClampNeg = x_43.toInt.toNat := rfl; omega)]; show (0 : Int) ≤ _; first | omega | decide) (by rw [show ry 70 x_43.toNatClampNeg = (0, 99) from sbH (by have hn : x_43.toNatClampNeg = x_43.toInt.toNat := rfl; omega) (by have hn : x_43.toNatClampNeg = x_43.toInt.toNat := rfl; omega)]; show _ ≤ (99 : Int); first | omega | decide) (Or.inr (by decide)) dX12_take_91 (fun H locs σ_47 eσ_47 hB hS => ?_)
              have k_48 : σ_47 bs x_43.toNatClampNeg = x_46 := by rw [eσ_47]; exact up2_same _ _ _ _
              refine lv_aload_n hx hb dX12_take_92 rfl (lv_at hl 1 rfl) ?_
              refine lv_iload_n hx hb dX12_take_93 rfl (lv_at hl 2 rfl) ?_
              refine lv_iconst (v := 3) hx hb dX12_take_94 (by decide) ?_
              refine lv_iconst (v := 1) hx hb dX12_take_95 (by decide) ?_
              refine t_cv (va_runV (As := [.int p1, .int 3, .int 1]) (rest := []) ⟨hx, hb, hml, hown, hts⟩ (cy_X12_adds_3 l D cA L T r hG hLA.1 σ_47 ρ_39 hB.2.1 _ h0 mh0 th0 p1 1 (by first | omega | decide) (by first | omega | decide)) (cV hts mv_X12_adds mw_7_174 rfl rfl ⟨Nat.le_of_ble_eq_true rfl, Nat.le_of_ble_eq_true rfl⟩) (pV hB.1 hK hN mh0 th0 (show shp cA 12 _ _ _ = .inr (12, Fs12 _ _ _) from rfl) rfl) rfl rfl hl.1 rfl (lv_room (Nat.le_of_ble_eq_true rfl)) dX12_take_96 ⟨Nat.le_of_ble_eq_true rfl, Nat.le_of_ble_eq_true rfl⟩) hLA hA hB hS (by decide) (fun σ_49 ρ_50 H locs hB fσ_49 pσ_49 hS => ?_)
              refine lv_aload_n hx hb dX12_take_99 rfl (lv_at hl 1 rfl) ?_
              refine lv_iload_n hx hb dX12_take_100 rfl (lv_at hl 2 rfl) ?_
              refine lv_iconst (v := 4) hx hb dX12_take_101 (by decide) ?_
              refine lv_iload_n hx hb dX12_take_102 rfl (lv_at hl 3 rfl) ?_
              refine lv_iadd hx hb dX12_take_103 ?_
              refine lv_topi (fun x_52 ex_52 => ?_)
              have vx_52 := b_add (by decide : (4 : Int32).toInt = 4) (rfl : p2.toInt = _) ex_52 (by omega) (by omega)
              refine lv_iconst (v := 1) hx hb dX12_take_104 (by decide) ?_
              refine t_cv (va_runV (As := [.int p1, .int x_52, .int 1]) (rest := []) ⟨hx, hb, hml, hown, hts⟩ (cz_X12_adds_t l D cA L T r hG hLA.1 σ_49 ρ_50 hB.2.1 _ h0 mh0 th0 p1 x_52 1 bs hbs mbs tbs (by first | omega | decide) (by first | omega | decide) (by first | omega | decide) (by first | omega | decide)) (cV hts mv_X12_adds mw_7_174 rfl rfl ⟨Nat.le_of_ble_eq_true rfl, Nat.le_of_ble_eq_true rfl⟩) (pV hB.1 hK hN mh0 th0 (show shp cA 12 _ _ _ = .inr (12, Fs12 _ _ _) from rfl) rfl) rfl rfl hl.1 rfl (lv_room (Nat.le_of_ble_eq_true rfl)) dX12_take_105 ⟨Nat.le_of_ble_eq_true rfl, Nat.le_of_ble_eq_true rfl⟩) hLA hA hB hS (by decide) (fun σ_53 ρ_54 H locs hB fσ_53 pσ_53 hS => ?_)
              refine lv_aload_n hx hb dX12_take_108 rfl (lv_at hl 1 rfl) ?_
              refine lv_iload_n hx hb dX12_take_109 rfl (lv_at hl 2 rfl) ?_
              refine lv_iload_n hx hb dX12_take_110 rfl (lv_at hl 3 rfl) ?_
              refine t_ci (va_runV (As := [.int p1, .int p2]) (rest := []) ⟨hx, hb, hml, hown, hts⟩ (cy_X12_hasOf l D cA L T r hG hLA.1 σ_53 ρ_54 hB.2.1 _ h0 mh0 th0 p1 p2 (by first | omega | decide) (by first | omega | decide) (by first | omega | decide) (by first | omega | decide)) (cV hts mv_X12_hasOf mw_7_77 rfl rfl ⟨Nat.le_of_ble_eq_true rfl, Nat.le_of_ble_eq_true rfl⟩) (pV hB.1 hK hN mh0 th0 (show shp cA 12 _ _ _ = .inr (12, Fs12 _ _ _) from rfl) rfl) rfl rfl hl.1 rfl (lv_room (Nat.le_of_ble_eq_true rfl)) dX12_take_111 ⟨Nat.le_of_ble_eq_true rfl, Nat.le_of_ble_eq_true rfl⟩) hLA hA hB hS (by decide) (fun x_58 σ_56 ρ_57 H locs hB fσ_56 pσ_56 hS => ?_)
              have qσ_56 := FR.nil fσ_56
              subst qσ_56
              exact W.iret (v := x_58) hx hb hr (fun t ht hW => ⟨⟨x_58, (σ_53, ρ_57), rfl, ⟨hB.2.1, hB.2.2, trivial⟩, (show TP D cA L T r σ_53 ρ_57 t.heap from by rw [ht]; exact hB.1)⟩, hS.F ht⟩) hS.2.2 dX12_take_114
            · skip
              have uc_37 := i_eq (n := 0) (by decide) c_37
              refine lv_iconst (v := (-1)) hx hb dX12_take_69 (by decide) ?_
              exact W.iret (v := (-1)) hx hb hr (fun t ht hW => ⟨⟨(-1), (σ, ρ_35), rfl, ⟨hB.2.1, hB.2.2, trivial⟩, (show TP D cA L T r σ ρ_35 t.heap from by rw [ht]; exact hB.1)⟩, hS.F ht⟩) hS.2.2 dX12_take_70
      · skip
        have uc_14 := i_eq (n := 0) (by decide) c_14
        refine lv_iconst (v := (-1)) hx hb dX12_take_25 (by decide) ?_
        exact W.iret (v := (-1)) hx hb hr (fun t ht hW => ⟨⟨(-1), (σ, ρ_10), rfl, ⟨hB.2.1, hB.2.2, trivial⟩, (show TP D cA L T r σ ρ_10 t.heap from by rw [ht]; exact hB.1)⟩, hS.F ht⟩) hS.2.2 dX12_take_26
